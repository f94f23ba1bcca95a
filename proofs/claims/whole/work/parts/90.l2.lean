/-! which of two sets stands before the other; the best of a list, in any order -/
def fstP (s b : Nat) : Prop := ¬ ((nI s &&& (nI s ^^^ nI b)) &&& (-(nI s ^^^ nI b))) = 0
theorem fstP_iff {s b : Nat} (hs : s < 4096) (hb : b < 4096) : fstP s b ↔ ∃ i, s.testBit i = true ∧ b.testBit i = false ∧ ∀ t, t < i → s.testBit t = b.testBit t := by
  unfold fstP
  have hx : s ^^^ b < 4096 := Nat.xor_lt_two_pow (n := 12) hs hb
  rw [mk_xor, Int32.and_assoc]
  by_cases h0 : s ^^^ b = 0
  · have e : s = b := by
      apply Nat.eq_of_testBit_eq
      intro i
      have := congrArg (fun z => z.testBit i) h0
      simp only [Nat.testBit_xor, Nat.zero_testBit] at this
      cases h1 : s.testBit i <;> cases h2 : b.testBit i <;> rw [h1, h2] at this <;> first | rfl | cases this
    subst e
    constructor
    · intro h
      rw [h0, nI_0] at h
      exact absurd (by simp) h
    · rintro ⟨i, h1, h2, _⟩
      rw [h1] at h2
      cases h2
  · obtain ⟨l1, l2, l3⟩ := lowB_ok _ hx h0
    rw [low2 _ hx h0, mk_and]
    have hlt : s &&& 2 ^ lowB (s ^^^ b) < 2 ^ 31 := by
      have := and_le' s (2 ^ lowB (s ^^^ b))
      omega
    rw [mk_z hlt]
    have hbit : s &&& 2 ^ lowB (s ^^^ b) = 0 ↔ s.testBit (lowB (s ^^^ b)) = false := by
      constructor
      · intro h
        have := congrArg (fun z => z.testBit (lowB (s ^^^ b))) h
        simp only [Nat.testBit_and, tb_pow, Nat.zero_testBit, decide_true, Bool.and_true] at this
        exact this
      · intro h
        apply Nat.eq_of_testBit_eq
        intro i
        rw [Nat.testBit_and, tb_pow, Nat.zero_testBit]
        by_cases e : lowB (s ^^^ b) = i
        · rw [← e, h]; rfl
        · rw [decide_eq_false e, Bool.and_false]
    rw [hbit, Bool.not_eq_false]
    have hd : ∀ i, (s ^^^ b).testBit i = true ↔ ¬ s.testBit i = b.testBit i := by
      intro i
      rw [Nat.testBit_xor]
      cases s.testBit i <;> cases b.testBit i <;> simp
    constructor
    · intro h
      refine ⟨_, h, ?_, fun t ht => ?_⟩
      · have := (hd _).1 l2
        rw [h] at this
        cases hbb : b.testBit (lowB (s ^^^ b))
        · rfl
        · rw [hbb] at this; exact absurd rfl this
      · have := l3 t ht
        by_cases e : s.testBit t = b.testBit t
        · exact e
        · rw [(hd t).2 e] at this; cases this
    · rintro ⟨i, h1, h2, h3⟩
      have hi : lowB (s ^^^ b) = i := by
        rcases Nat.lt_trichotomy (lowB (s ^^^ b)) i with q | q | q
        · exact absurd (h3 _ q) ((hd _).1 l2)
        · exact q
        · have := l3 i q
          rw [(hd i).2 (by rw [h1, h2]; decide)] at this
          cases this
      rw [hi]
      exact h1
theorem fst_total {s b : Nat} (hs : s < 4096) (hb : b < 4096) (h : ¬ s = b) : fstP s b ∨ fstP b s := by
  rw [fstP_iff hs hb, fstP_iff hb hs]
  have h0 : ¬ s ^^^ b = 0 := fun q => by
    apply h
    apply Nat.eq_of_testBit_eq
    intro i
    have := congrArg (fun z => z.testBit i) q
    simp only [Nat.testBit_xor, Nat.zero_testBit] at this
    cases h1 : s.testBit i <;> cases h2 : b.testBit i <;> rw [h1, h2] at this <;> first | rfl | cases this
  obtain ⟨l1, l2, l3⟩ := lowB_ok _ (Nat.xor_lt_two_pow (n := 12) hs hb) h0
  have hlow : ∀ t, t < lowB (s ^^^ b) → s.testBit t = b.testBit t := fun t ht => by
    have := l3 t ht
    rw [Nat.testBit_xor] at this
    cases h1 : s.testBit t <;> cases h2 : b.testBit t <;> rw [h1, h2] at this <;> first | rfl | cases this
  rw [Nat.testBit_xor] at l2
  cases h1 : s.testBit (lowB (s ^^^ b)) <;> cases h2 : b.testBit (lowB (s ^^^ b)) <;> rw [h1, h2] at l2
  · cases l2
  · exact Or.inr ⟨_, h2, h1, fun t ht => (hlow t ht).symm⟩
  · exact Or.inl ⟨_, h1, h2, hlow⟩
  · cases l2
theorem fst_trans {a b c : Nat} (ha : a < 4096) (hb : b < 4096) (hc : c < 4096) (h1 : fstP a b) (h2 : fstP b c) : fstP a c := by
  rw [fstP_iff ha hb] at h1
  rw [fstP_iff hb hc] at h2
  rw [fstP_iff ha hc]
  obtain ⟨i, i1, i2, i3⟩ := h1
  obtain ⟨j, j1, j2, j3⟩ := h2
  rcases Nat.lt_trichotomy i j with q | q | q
  · exact ⟨i, i1, by rw [← j3 i q]; exact i2, fun t ht => (i3 t ht).trans (j3 t (by omega))⟩
  · subst q
    rw [i2] at j1
    cases j1
  · exact ⟨j, by rw [i3 j q]; exact j1, j2, fun t ht => (i3 t (by omega)).trans (j3 t ht)⟩
theorem fst_irr {a : Nat} (ha : a < 4096) : ¬ fstP a a := by
  rw [fstP_iff ha ha]
  rintro ⟨i, h1, h2, _⟩
  rw [h1] at h2
  cases h2
def betP (ws : Nat → Int32) (s b : Nat) : Prop := ws b < ws s ∨ (ws s = ws b ∧ fstP s b)
theorem bet_trans {ws : Nat → Int32} {a b c : Nat} (ha : a < 4096) (hb : b < 4096) (hc : c < 4096) (h1 : betP ws a b) (h2 : betP ws b c) : betP ws a c := by
  unfold betP at *
  rcases h1 with h1 | ⟨h1, f1⟩ <;> rcases h2 with h2 | ⟨h2, f2⟩
  · left
    rw [Int32.lt_iff_toInt_lt] at *
    omega
  · left
    rw [← h2]
    exact h1
  · left
    rw [h1]
    exact h2
  · right
    exact ⟨h1.trans h2, fst_trans ha hb hc f1 f2⟩
theorem bet_irr {ws : Nat → Int32} {a : Nat} (ha : a < 4096) : ¬ betP ws a a := by
  rintro (h | h)
  · rw [Int32.lt_iff_toInt_lt] at h
    omega
  · exact fst_irr ha h.2
theorem bet_total {ws : Nat → Int32} {a b : Nat} (ha : a < 4096) (hb : b < 4096) (h : ¬ a = b) : betP ws a b ∨ betP ws b a := by
  unfold betP
  by_cases e : ws a = ws b
  · rcases fst_total ha hb h with q | q
    · exact Or.inl (Or.inr ⟨e, q⟩)
    · exact Or.inr (Or.inr ⟨e.symm, q⟩)
  · have : ¬ (ws a).toInt = (ws b).toInt := fun q => e (Int32.toInt_inj.1 q)
    rw [Int32.lt_iff_toInt_lt, Int32.lt_iff_toInt_lt]
    omega
theorem bst_spec {ws : Nat → Int32} : ∀ (m : Nat) (l : List Nat), l.length = m → (∀ s, s ∈ l → s < 4096) → ∀ b, bst ws l = some b → b ∈ l ∧ ∀ s, s ∈ l → s = b ∨ betP ws b s := by
  intro m
  induction m with
  | zero =>
    intro l hl _ b h
    rw [List.eq_nil_of_length_eq_zero hl] at h
    cases h
  | succ m ih =>
    intro l hl hs b h
    rcases List.eq_nil_or_concat l with e | ⟨t, x, e⟩
    · rw [e] at hl; cases hl
    · rw [List.concat_eq_append] at e
      subst e
      rw [List.length_append] at hl
      have hlt : t.length = m := by simpa using hl
      have hx : x < 4096 := hs x (by simp)
      have ht : ∀ s, s ∈ t → s < 4096 := fun s h => hs s (by simp [h])
      rw [bst_add] at h
      cases hc : bst ws t with
      | none =>
        have := bst_none.1 hc
        subst this
        rw [hc] at h
        cases h
        exact ⟨by simp, fun s hs => Or.inl (by simpa using hs)⟩
      | some c =>
        obtain ⟨c1, c2⟩ := ih t hlt ht c hc
        have hc4 := ht c c1
        rw [hc] at h
        unfold bstep at h
        dsimp only at h
        by_cases hb : ws c < ws x ∨ (ws x = ws c ∧ ¬ ((nI x &&& (nI x ^^^ nI c)) &&& (-(nI x ^^^ nI c))) = 0)
        · rw [if_pos hb] at h
          rw [← Option.some.inj h]
          have hbx : betP ws x c := hb
          refine ⟨by simp, fun s hs => ?_⟩
          rcases List.mem_append.1 hs with q | q
          · right
            rcases c2 s q with rfl | z
            · exact hbx
            · exact bet_trans hx hc4 (ht s q) hbx z
          · exact Or.inl (by simpa using q)
        · rw [if_neg hb] at h
          rw [← Option.some.inj h]
          have hbx : ¬ betP ws x c := hb
          refine ⟨by simp [c1], fun s hs => ?_⟩
          rcases List.mem_append.1 hs with q | q
          · exact c2 s q
          · have : s = x := by simpa using q
            subst this
            by_cases e : s = c
            · exact Or.inl e
            · rcases bet_total hx hc4 e with z | z
              · exact absurd z hbx
              · exact Or.inr z
theorem bst_same {ws : Nat → Int32} {l l' : List Nat} (hs : ∀ s, s ∈ l → s < 4096) (he : ∀ s, s ∈ l ↔ s ∈ l') : bst ws l = bst ws l' := by
  have hs' : ∀ s, s ∈ l' → s < 4096 := fun s h => hs s ((he s).2 h)
  cases h : bst ws l with
  | none =>
    have := bst_none.1 h
    subst this
    have e : l' = [] := List.eq_nil_iff_forall_not_mem.2 (fun s h => by have := (he s).2 h; cases this)
    rw [e]
    rfl
  | some b =>
    obtain ⟨b1, b2⟩ := bst_spec _ l rfl hs b h
    cases h' : bst ws l' with
    | none =>
      have := bst_none.1 h'
      subst this
      have := (he b).1 b1
      cases this
    | some c =>
      obtain ⟨c1, c2⟩ := bst_spec _ l' rfl hs' c h'
      congr 1
      rcases c2 b ((he b).1 b1) with q | q
      · exact q
      · rcases b2 c ((he c).2 c1) with z | z
        · exact z.symm
        · exact absurd (bet_trans (hs' c c1) (hs b b1) (hs' c c1) q z) (bet_irr (hs' c c1))
