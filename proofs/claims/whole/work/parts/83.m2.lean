/-! the reference: the males and females of a set, and whether they can be paired -/
theorem bl_succ (x a : Nat) : bl x (a + 1) = if x.testBit a = true then bl x a ++ [a] else bl x a := by
  unfold bl
  rw [List.range_succ, List.filter_append]
  cases h : x.testBit a <;> simp [h]
theorem bl_len (x n : Nat) : (bl x n).length = pcn n x := by
  induction n with
  | zero => rfl
  | succ n ih =>
    rw [bl_succ, pcn]
    split <;> simp [ih]
theorem bl_mem {x n a : Nat} : a ∈ bl x n ↔ a < n ∧ x.testBit a = true := by
  unfold bl
  rw [List.mem_filter, List.mem_range]
/-- the array begins with the list -/
def holdA (w : Nat → Int32) (l : List Nat) : Prop := ∀ (j a : Nat), l[j]? = some a → w j = nI a
theorem holdA_add {w : Nat → Int32} {l : List Nat} {a : Nat} (h : holdA w l) : holdA (upd w l.length (nI a)) (l ++ [a]) := by
  intro j b hj
  by_cases hl : j = l.length
  · subst hl
    rw [List.getElem?_append_right (Nat.le_refl _), Nat.sub_self] at hj
    cases hj
    exact pk_us
  · have hlt : j < l.length := by
      have := (List.getElem?_eq_some_iff.mp hj).1
      rw [List.length_append] at this
      simp at this
      omega
    rw [List.getElem?_append_left hlt] at hj
    rw [pk_un hl]
    exact h j b hj
section
theorem m_part_a {n s : Nat} (hn : n ≤ 12) (hs : s < 2 ^ 31) {M : Nat} {sx : Nat → Int32} (hM : ∀ a, a < n → (sx a = 0 ↔ M.testBit a = true)) {kk : Nat} (hkk : kk ≤ 12) {post : Int32 → (Nat → Int32) → (Nat → Int32) → Int32 → Prop} (hp : ∀ wf wm, holdA wm (bl (s &&& M) n) → holdA wf (bl (dif s M) n) → post (if pcn n (s &&& M) = kk ∧ pcn n (dif s M) = kk then 1 else 0) wf wm (nI (pcn n (s &&& M)))) :
    ∀ (k a : Nat) (wf wm : Nat → Int32), a + k = n → holdA wm (bl (s &&& M) a) → holdA wf (bl (dif s M) a) → wp_M_part_L8 (nI n) sx (nI s) (nI kk) post (k + 1) (nI (pcn a (s &&& M))) (nI (pcn a (dif s M))) (nI a) wf wm := by
  intro k
  induction k with
  | zero =>
    intro a wf wm ha h1 h2
    rw [wp_M_part_L8]
    have ea : a = n := by omega
    subst ea
    have l1 := pcn_le a (s &&& M)
    have l2 := pcn_le a (dif s M)
    have hp' := hp wf wm h1 h2
    refine pk_le a a (fun _ => ?_) (fun h => absurd h (by omega))
    refine ⟨fun q => ?_, fun q => ⟨fun q2 => ?_, fun q2 => ?_⟩⟩
    · rw [nI_eq (by omega) (by omega)] at q
      rw [if_neg (fun z => q z.1)] at hp'
      exact hp'
    · rw [nI_eq (by omega) (by omega)] at q2
      rw [if_neg (fun z => q2 z.2)] at hp'
      exact hp'
    · rw [nI_eq (by omega) (by omega)] at q q2
      rw [if_pos ⟨q, q2⟩] at hp'
      exact hp'
  | succ k ih =>
    intro a wf wm ha h1 h2
    rw [wp_M_part_L8]
    have l1 := pcn_le a (s &&& M)
    have l2 := pcn_le a (dif s M)
    have e1 : bl (s &&& M) (a + 1) = _ := bl_succ _ _
    have e2 : bl (dif s M) (a + 1) = _ := bl_succ _ _
    have c1 : pcn (a + 1) (s &&& M) = pcn a (s &&& M) + (if (s.testBit a && M.testBit a) = true then 1 else 0) := by rw [pcn, Nat.testBit_and]
    have c2 : pcn (a + 1) (dif s M) = pcn a (dif s M) + (if (s.testBit a && !M.testBit a) = true then 1 else 0) := by rw [pcn, dif_bit]
    rw [Nat.testBit_and] at e1
    rw [dif_bit] at e2
    refine pk_le n a (fun h => absurd h (by omega)) (fun _ => ?_)
    have hA : M.testBit a = true → sx a = 0 := (hM a (by omega)).2
    have hB : sx a = 0 → M.testBit a = true := (hM a (by omega)).1
    rw [nI_1, nI_1, nI_1, nI_clamp (n := a) (by omega), nI_clamp (n := pcn a (s &&& M)) (by omega), nI_clamp (n := pcn a (dif s M)) (by omega)]
    have ih1 := fun wf wm => ih (a + 1) wf wm (by omega)
    rw [e1, e2] at ih1
    refine hb1 hs (by omega) (fun ht => hb1 hs (by omega) (fun _ => ?_) (fun hu => ?_)) (fun ht => ⟨vp_in_nI (by omega) (by decide), fun hx => hb1 hs (by omega) (fun hu => ?_) (fun _ => ⟨vp_in_nI (by omega) (by decide), ?_⟩), fun hx => ⟨vp_in_nI (by omega) (by decide), ?_⟩⟩)
    · have := ih1 wf wm
      simp only [ht, Bool.false_and, Bool.false_eq_true, if_false] at this c1 c2
      rw [c1, c2] at this
      exact this h1 h2
    · rw [ht] at hu; cases hu
    · rw [ht] at hu; cases hu
    · have hm : M.testBit a = false := by
        cases hq : M.testBit a
        · rfl
        · exact absurd (hA hq) hx
      have := ih1 (upd wf (pcn a (dif s M)) (nI a)) wm
      simp only [ht, hm, Bool.and_false, Bool.not_false, Bool.and_true, Bool.false_eq_true, if_false, if_true, Bool.true_and] at this c1 c2
      rw [c1, c2] at this
      refine this h1 ?_
      rw [← bl_len]
      exact holdA_add h2
    · have hm := hB hx
      have := ih1 wf (upd wm (pcn a (s &&& M)) (nI a))
      simp only [ht, hm, Bool.and_true, Bool.not_true, Bool.and_false, Bool.false_eq_true, if_false, if_true, Bool.true_and] at this c1 c2
      rw [c1, c2] at this
      refine this ?_ h2
      rw [← bl_len]
      exact holdA_add h1
theorem w_part {n s : Nat} (hn : n ≤ 12) (hs : s < 2 ^ 31) {M : Nat} {sx : Nat → Int32} (hM : ∀ a, a < n → (sx a = 0 ↔ M.testBit a = true)) {kk : Nat} (hkk : kk ≤ 12) {mn : Int32} {wf wm : Nat → Int32} {post : Int32 → (Nat → Int32) → (Nat → Int32) → Int32 → Prop} (hp : ∀ wf wm, holdA wm (bl (s &&& M) n) → holdA wf (bl (dif s M) n) → post (if pcn n (s &&& M) = kk ∧ pcn n (dif s M) = kk then 1 else 0) wf wm (nI (pcn n (s &&& M)))) : wp_M_part (nI n) wf wm mn sx (nI s) (nI kk) post := by
  unfold wp_M_part
  refine ⟨n + 1, ?_⟩
  have := m_part_a hn hs hM hkk hp n 0 wf wm (by omega) (fun j a h => by cases h) (fun j a h => by cases h)
  exact this
end
/-! canPair: which sets of places can be reached -/
/-- the array says P -/
def holdB (w : Nat → Int32) (P : Nat → Prop) : Prop := ∀ u, u < 64 → (w u = 1 ∧ P u) ∨ (w u = 0 ∧ ¬ P u)
theorem holdB_iff {w : Nat → Int32} {P Q : Nat → Prop} (h : ∀ v, v < 64 → (P v ↔ Q v)) (hw : holdB w P) : holdB w Q := fun u hu => by
  rcases hw u hu with q | q
  · exact Or.inl ⟨q.1, (h u hu).1 q.2⟩
  · exact Or.inr ⟨q.1, fun z => q.2 ((h u hu).2 z)⟩
theorem holdB_set {w : Nat → Int32} {P Q : Nat → Prop} {x : Nat} (hQ : Q x) (h : ∀ v, v < 64 → ¬ v = x → (P v ↔ Q v)) (hw : holdB w P) : holdB (upd w x 1) Q := fun u hu => by
  by_cases e : u = x
  · rw [e, pk_us]
    exact Or.inl ⟨rfl, hQ⟩
  · rw [pk_un e]
    rcases hw u hu with q | q
    · exact Or.inl ⟨q.1, (h u hu e).1 q.2⟩
    · exact Or.inr ⟨q.1, fun z => q.2 ((h u hu e).2 z)⟩
/-- one more male: he takes a free place f that is not barred -/
def stpR (kk : Nat) (ok : Nat → Prop) (R : Nat → Prop) : Nat → Prop := fun v => ∃ f u, f < kk ∧ u < 64 ∧ R u ∧ u.testBit f = false ∧ ok f ∧ v = u ||| 2 ^ f
def rchR (kk : Nat) (ok : Nat → Nat → Prop) : Nat → Nat → (Nat → Prop) → (Nat → Prop)
  | _, 0, R => R
  | t, q + 1, R => rchR kk ok (t + 1) q (stpR kk (ok t) R)
def can2 (kk : Nat) (ok : Nat → Nat → Prop) : Nat → Nat → Nat → Prop
  | _, 0, u => u = 2 ^ kk - 1
  | t, q + 1, u => ∃ f, f < kk ∧ u.testBit f = false ∧ ok t f ∧ can2 kk ok (t + 1) q (u ||| 2 ^ f)
theorem or_lt64 {kk f u : Nat} (hk : kk ≤ 6) (hf : f < kk) (hu : u < 64) : u ||| 2 ^ f < 64 := by
  have h1 : 2 ^ f < 2 ^ 6 := Nat.pow_lt_pow_right (by decide) (by omega)
  exact Nat.or_lt_two_pow (n := 6) hu h1
theorem rch_can {kk : Nat} (hk : kk ≤ 6) {ok : Nat → Nat → Prop} : ∀ (q t : Nat) (R : Nat → Prop), rchR kk ok t q R (2 ^ kk - 1) ↔ ∃ u, u < 64 ∧ R u ∧ can2 kk ok t q u := by
  have hf : 2 ^ kk - 1 < 64 := by
    have : 2 ^ kk ≤ 2 ^ 6 := Nat.pow_le_pow_right (by decide) hk
    omega
  intro q
  induction q with
  | zero =>
    intro t R
    constructor
    · exact fun h => ⟨_, hf, h, rfl⟩
    · rintro ⟨u, -, h1, h2⟩
      rw [can2] at h2
      subst h2
      exact h1
  | succ q ih =>
    intro t R
    rw [rchR, ih]
    constructor
    · rintro ⟨v, hv, ⟨f, u, h1, h2, h3, h4, h5, rfl⟩, h6⟩
      exact ⟨u, h2, h3, f, h1, h4, h5, h6⟩
    · rintro ⟨u, h2, h3, f, h1, h4, h5, h6⟩
      exact ⟨_, or_lt64 hk h1 h2, ⟨f, u, h1, h2, h3, h4, h5, rfl⟩, h6⟩
theorem vn0 : vp_nar .boolean 0 = 0 := by decide +kernel
theorem vn1 : vp_nar .boolean 1 = 1 := by decide +kernel
section
/-- a place f of a male t that is not barred -/
def okR (br : Nat → Int32) (fa ma : Nat → Nat) (t f : Nat) : Prop := br (12 * ma t + fa f) = 0
theorem m_can_f {kk : Nat} (hk : kk ≤ 6) {F Ml br : Nat → Int32} {fa ma : Nat → Nat} (hF : ∀ j, j < kk → F j = nI (fa j) ∧ fa j < 12) (hMl : ∀ j, j < kk → Ml j = nI (ma j) ∧ ma j < 12) {t u : Nat} (ht : t < kk) (hu : u < 64) {now : Nat → Int32} {R T : Nat → Prop} (hR : holdB now R) {post : Int32 → (Nat → Int32) → (Nat → Int32) → Prop} {K : Int32 → (Nat → Int32) → Prop}
    (hK : ∀ th, holdB th (fun v => T v ∨ ∃ f, f < kk ∧ R u ∧ u.testBit f = false ∧ okR br fa ma t f ∧ v = u ||| 2 ^ f) → K (nI u + 1) th) :
    ∀ (k j : Nat) (th : Nat → Int32), j + k = kk → holdB th (fun v => T v ∨ ∃ f, f < j ∧ R u ∧ u.testBit f = false ∧ okR br fa ma t f ∧ v = u ||| 2 ^ f) → wp_M_canPair_L77 F br Ml (nI kk) (nI t) now (nI u) post K (k + 1) (nI j) th := by
  intro k
  induction k with
  | zero =>
    intro j th hj hT
    rw [wp_M_canPair_L77]
    refine pk_le kk j (fun _ => ?_) (fun h => absurd h (by omega))
    rw [show j = kk by omega] at hT
    exact hK th hT
  | succ k ih =>
    intro j th hj hT
    rw [wp_M_canPair_L77]
    refine pk_le kk j (fun h => absurd h (by omega)) (fun _ => ⟨vp_in_nI hu (by decide), ?_⟩)
    rw [nI_clamp (n := u) (by omega), nI_clamp (n := t) (by omega), nI_clamp (n := j) (by omega), nI_1, (hF j (by omega)).1, (hMl t ht).1, ix12c (hMl t ht).2 (hF j (by omega)).2, mk_bit (by omega), mk_or, nI_1]
    have hv : u ||| 2 ^ j < 64 := or_lt64 hk (by omega) hu
    rw [nI_clamp (n := u ||| 2 ^ j) (by omega), vn1]
    -- the invariant for one more place
    have more : ∀ v, (¬ (R u ∧ u.testBit j = false ∧ okR br fa ma t j) ∨ ¬ v = u ||| 2 ^ j) → ((T v ∨ ∃ f, f < j ∧ R u ∧ u.testBit f = false ∧ okR br fa ma t f ∧ v = u ||| 2 ^ f) ↔ (T v ∨ ∃ f, f < j + 1 ∧ R u ∧ u.testBit f = false ∧ okR br fa ma t f ∧ v = u ||| 2 ^ f)) := by
      intro v hno
      constructor
      · rintro (h | ⟨f, h1, h2⟩)
        · exact Or.inl h
        · exact Or.inr ⟨f, by omega, h2⟩
      · rintro (h | ⟨f, h1, h2, h3, h4, h5⟩)
        · exact Or.inl h
        · rcases Nat.lt_or_ge f j with h | h
          · exact Or.inr ⟨f, h, h2, h3, h4, h5⟩
          · have : f = j := by omega
            subst this
            rcases hno with q | q
            · exact absurd ⟨h2, h3, h4⟩ q
            · exact absurd h5 q
    refine ⟨fun h0 => ?_, fun h0 => ?_⟩
    · -- nothing comes from here
      have hnR : ¬ R u := by
        rcases hR u hu with h | h
        · rw [h.1] at h0; exact absurd h0 (by decide)
        · exact h.2
      have hK' := hK th
      rw [nI_1] at hK'
      apply hK'
      refine holdB_iff (fun v _ => ?_) hT
      constructor
      · rintro (h | ⟨f, _, h, _⟩)
        · exact Or.inl h
        · exact absurd h hnR
      · rintro (h | ⟨f, _, h, _⟩)
        · exact Or.inl h
        · exact absurd h hnR
    · have hRu : R u := by
        rcases hR u hu with h | h
        · exact h.2
        · exact absurd h.1 h0
      refine hb0' (by omega) (by omega) (fun hb => ?_) (fun hb => ⟨vp_in_nI (by omega) (by decide), vp_in_nI (by omega) (by decide), ix12i (hMl t ht).2 (hF j (by omega)).2, fun hbr => ?_, fun hbr => ⟨vp_in_nI hv (by decide), ?_⟩⟩)
      · exact ih (j + 1) th (by omega) (holdB_iff (fun v _ => more v (Or.inl (fun z => by rw [hb] at z; cases z.2.1))) hT)
      · exact ih (j + 1) th (by omega) (holdB_iff (fun v _ => more v (Or.inl (fun z => hbr z.2.2))) hT)
      · exact ih (j + 1) _ (by omega) (holdB_set (Or.inr ⟨j, by omega, hRu, hb, hbr, rfl⟩) (fun v _ e => more v (Or.inr e)) hT)
theorem m_can_c {t : Nat} {th : Nat → Int32} {P : Nat → Prop} (hP : holdB th P) {post : Int32 → (Nat → Int32) → (Nat → Int32) → Prop} {K : Int32 → (Nat → Int32) → (Nat → Int32) → Prop} (hK : ∀ now, holdB now P → K (nI t + 1) now th) :
    ∀ (k u : Nat) (now : Nat → Int32), u + k = 64 → (∀ v, v < u → now v = th v) → wp_M_canPair_L159 (nI t) th post K (k + 1) (nI u) now := by
  intro k
  induction k with
  | zero =>
    intro u now hu h
    rw [wp_M_canPair_L159]
    refine pk_le 64 u (fun _ => ?_) (fun h => absurd h (by omega))
    apply hK
    intro v hv
    rw [h v (by omega)]
    exact hP v hv
  | succ k ih =>
    intro u now hu h
    rw [wp_M_canPair_L159]
    refine pk_le 64 u (fun h => absurd h (by omega)) (fun _ => ⟨vp_in_nI (by omega) (by decide), vp_in_nI (by omega) (by decide), ?_⟩)
    rw [nI_clamp (n := u) (by omega), nI_1]
    have e : vp_nar .boolean (th u) = th u := by
      rcases hP u (by omega) with q | q
      · rw [q.1]; exact vn1
      · rw [q.1]; exact vn0
    rw [e]
    refine ih (u + 1) _ (by omega) (fun v hv => ?_)
    by_cases q : v = u
    · rw [q, pk_us]
    · rw [pk_un q]
      exact h v (by omega)
theorem m_can_u {kk : Nat} (hk : kk ≤ 6) {F Ml br : Nat → Int32} {fa ma : Nat → Nat} (hF : ∀ j, j < kk → F j = nI (fa j) ∧ fa j < 12) (hMl : ∀ j, j < kk → Ml j = nI (ma j) ∧ ma j < 12) {t : Nat} (ht : t < kk) {now : Nat → Int32} {R : Nat → Prop} (hR : holdB now R) {post : Int32 → (Nat → Int32) → (Nat → Int32) → Prop} {K : Int32 → (Nat → Int32) → (Nat → Int32) → Prop} (hK : ∀ now th, holdB now (stpR kk (okR br fa ma t) R) → K (nI t + 1) now th) :
    ∀ (k u : Nat) (th : Nat → Int32), u + k = 64 → holdB th (fun v => ∃ f w, f < kk ∧ w < u ∧ R w ∧ w.testBit f = false ∧ okR br fa ma t f ∧ v = w ||| 2 ^ f) → wp_M_canPair_L67 F br Ml (nI kk) (nI t) now post K (k + 1) (nI u) th := by
  intro k
  induction k with
  | zero =>
    intro u th hu h
    rw [wp_M_canPair_L67]
    refine pk_le 64 u (fun _ => ⟨65, ?_⟩) (fun h => absurd h (by omega))
    rw [show u = 64 by omega] at h
    exact m_can_c h (fun now hn => hK now th hn) 64 0 now (by omega) (fun v hv => by omega)
  | succ k ih =>
    intro u th hu h
    rw [wp_M_canPair_L67]
    refine pk_le 64 u (fun h => absurd h (by omega)) (fun _ => ⟨kk + 1, ?_⟩)
    refine m_can_f hk hF hMl ht (by omega) hR (T := fun v => ∃ f w, f < kk ∧ w < u ∧ R w ∧ w.testBit f = false ∧ okR br fa ma t f ∧ v = w ||| 2 ^ f) (fun th' h' => ?_) kk 0 th (by omega) ?_
    · rw [nI_1]
      refine ih (u + 1) th' (by omega) (holdB_iff (fun v _ => ?_) h')
      constructor
      · rintro (⟨f, w, h1, h2, h3⟩ | ⟨f, h1, h3⟩)
        · exact ⟨f, w, h1, by omega, h3⟩
        · exact ⟨f, u, h1, by omega, h3⟩
      · rintro ⟨f, w, h1, h2, h3⟩
        rcases Nat.lt_or_ge w u with q | q
        · exact Or.inl ⟨f, w, h1, q, h3⟩
        · have : w = u := by omega
          subst this
          exact Or.inr ⟨f, h1, h3⟩
    · refine holdB_iff (fun v _ => ?_) h
      constructor
      · exact Or.inl
      · rintro (q | ⟨f, q, _⟩)
        · exact q
        · omega
theorem m_can_0 {kk : Nat} (hk : kk ≤ 6) {F Ml br : Nat → Int32} {fa ma : Nat → Nat} (hF : ∀ j, j < kk → F j = nI (fa j) ∧ fa j < 12) (hMl : ∀ j, j < kk → Ml j = nI (ma j) ∧ ma j < 12) {t : Nat} (ht : t < kk) {now : Nat → Int32} {R : Nat → Prop} (hR : holdB now R) {post : Int32 → (Nat → Int32) → (Nat → Int32) → Prop} {K : Int32 → (Nat → Int32) → (Nat → Int32) → Prop} (hK : ∀ now th, holdB now (stpR kk (okR br fa ma t) R) → K (nI t + 1) now th) :
    ∀ (k u : Nat) (th : Nat → Int32), u + k = 64 → (∀ v, v < u → th v = 0) → wp_M_canPair_L43 F br Ml (nI kk) (nI t) now post K (k + 1) (nI u) th := by
  intro k
  induction k with
  | zero =>
    intro u th hu h
    rw [wp_M_canPair_L43]
    refine pk_le 64 u (fun _ => ⟨65, ?_⟩) (fun h => absurd h (by omega))
    refine m_can_u hk hF hMl ht hR hK 64 0 th (by omega) (fun v hv => Or.inr ⟨h v (by omega), ?_⟩)
    rintro ⟨f, w, h1, h2, -⟩
    omega
  | succ k ih =>
    intro u th hu h
    rw [wp_M_canPair_L43]
    refine pk_le 64 u (fun h => absurd h (by omega)) (fun _ => ⟨vp_in_nI (by omega) (by decide), ?_⟩)
    rw [nI_clamp (n := u) (by omega), nI_1, vn0]
    refine ih (u + 1) _ (by omega) (fun v hv => ?_)
    by_cases q : v = u
    · rw [q, pk_us]
    · rw [pk_un q]
      exact h v (by omega)
theorem m_can_m {kk : Nat} (hk : kk ≤ 6) {F Ml br : Nat → Int32} {fa ma : Nat → Nat} (hF : ∀ j, j < kk → F j = nI (fa j) ∧ fa j < 12) (hMl : ∀ j, j < kk → Ml j = nI (ma j) ∧ ma j < 12) {post : Int32 → (Nat → Int32) → (Nat → Int32) → Prop} : ∀ (q t : Nat) (now th : Nat → Int32) (R : Nat → Prop), t + q = kk → holdB now R → (∀ now th r, (r = 1 ∧ rchR kk (okR br fa ma) t q R (2 ^ kk - 1)) ∨ (r = 0 ∧ ¬ rchR kk (okR br fa ma) t q R (2 ^ kk - 1)) → post r now th) → wp_M_canPair_L32 F br Ml (nI kk) post (q + 1) (nI t) now th := by
  have hf : 2 ^ kk - 1 < 64 := by
    have : 2 ^ kk ≤ 2 ^ 6 := Nat.pow_le_pow_right (by decide) hk
    omega
  intro q
  induction q with
  | zero =>
    intro t now th R ht hR hp
    rw [wp_M_canPair_L32]
    refine pk_le kk t (fun _ => ?_) (fun h => absurd h (by omega))
    rw [mk_bit (by omega), show (1 : Int32) = nI 1 from rfl, pk_sub Nat.one_le_two_pow, nI_clamp (by omega)]
    refine ⟨vp_in_nI hf (by decide), ?_, hp now th _ (hR _ hf)⟩
    rcases hR _ hf with h | h
    · exact Or.inr h.1
    · exact Or.inl h.1
  | succ q ih =>
    intro t now th R ht hR hp
    rw [wp_M_canPair_L32]
    refine pk_le kk t (fun h => absurd h (by omega)) (fun _ => ⟨65, ?_⟩)
    refine m_can_0 hk hF hMl (by omega) hR (fun now th h => ?_) 64 0 th (by omega) (fun v hv => by omega)
    rw [nI_1]
    exact ih (t + 1) now th _ (by omega) h hp
theorem m_can_i {kk : Nat} (hk : kk ≤ 6) {F Ml br : Nat → Int32} {fa ma : Nat → Nat} (hF : ∀ j, j < kk → F j = nI (fa j) ∧ fa j < 12) (hMl : ∀ j, j < kk → Ml j = nI (ma j) ∧ ma j < 12) {post : Int32 → (Nat → Int32) → (Nat → Int32) → Prop} {t0 tk : Nat} (ht : t0 ≤ kk) (htk : tk < 64) {th : Nat → Int32} (hp : ∀ now th r, (r = 1 ∧ can2 kk (okR br fa ma) t0 (kk - t0) tk) ∨ (r = 0 ∧ ¬ can2 kk (okR br fa ma) t0 (kk - t0) tk) → post r now th) :
    ∀ (k u : Nat) (now : Nat → Int32), u + k = 64 → (∀ v, v < u → (now v = 1 ∧ v = tk) ∨ (now v = 0 ∧ ¬ v = tk)) → wp_M_canPair_L2 F br Ml (nI kk) th (nI t0) (nI tk) post (k + 1) (nI u) now := by
  intro k
  induction k with
  | zero =>
    intro u now hu h
    rw [wp_M_canPair_L2]
    refine pk_le 64 u (fun _ => ⟨kk - t0 + 1, ?_⟩) (fun h => absurd h (by omega))
    refine m_can_m hk hF hMl (kk - t0) t0 now th (fun v => v = tk) (by omega) (fun v hv => h v (by omega)) (fun now th r hr => hp now th r ?_)
    rw [rch_can hk] at hr
    have hiff : (∃ u, u < 64 ∧ u = tk ∧ can2 kk (okR br fa ma) t0 (kk - t0) u) ↔ can2 kk (okR br fa ma) t0 (kk - t0) tk := ⟨fun ⟨u, _, e, h⟩ => e ▸ h, fun h => ⟨tk, htk, rfl, h⟩⟩
    rw [hiff] at hr
    exact hr
  | succ k ih =>
    intro u now hu h
    rw [wp_M_canPair_L2]
    refine pk_le 64 u (fun h => absurd h (by omega)) (fun _ => ?_)
    rw [nI_clamp (n := u) (by omega), nI_1, vn0, vn1]
    refine ⟨fun he => ⟨vp_in_nI (by omega) (by decide), ?_⟩, fun he => ⟨vp_in_nI (by omega) (by decide), ?_⟩⟩
    · rw [nI_eq (by omega) (by omega)] at he
      refine ih (u + 1) _ (by omega) (fun v hv => ?_)
      by_cases q : v = u
      · rw [q, pk_us]; exact Or.inr ⟨rfl, he⟩
      · rw [pk_un q]; exact h v (by omega)
    · rw [nI_eq (by omega) (by omega)] at he
      refine ih (u + 1) _ (by omega) (fun v hv => ?_)
      by_cases q : v = u
      · rw [q, pk_us]; exact Or.inl ⟨rfl, he⟩
      · rw [pk_un q]; exact h v (by omega)
theorem w_canPair {kk : Nat} (hk : kk ≤ 6) {F Ml br : Nat → Int32} {fa ma : Nat → Nat} (hF : ∀ j, j < kk → F j = nI (fa j) ∧ fa j < 12) (hMl : ∀ j, j < kk → Ml j = nI (ma j) ∧ ma j < 12) {post : Int32 → (Nat → Int32) → (Nat → Int32) → Prop} {t0 tk : Nat} (ht : t0 ≤ kk) (htk : tk < 64) {now th : Nat → Int32} (hp : ∀ now th r, (r = 1 ∧ can2 kk (okR br fa ma) t0 (kk - t0) tk) ∨ (r = 0 ∧ ¬ can2 kk (okR br fa ma) t0 (kk - t0) tk) → post r now th) : wp_M_canPair F br Ml (nI kk) now th (nI t0) (nI tk) post := by
  unfold wp_M_canPair
  exact ⟨65, m_can_i hk hF hMl ht htk hp 64 0 now (by omega) (fun v hv => by omega)⟩
end
