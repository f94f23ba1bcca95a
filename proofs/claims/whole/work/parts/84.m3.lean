/-! the pairing by places is the pairing by animals -/
theorem firstF_some {α : Type} {g : Nat → Option α} : ∀ (k j : Nat), (firstF g j k).isSome = true ↔ ∃ a, j ≤ a ∧ a < j + k ∧ (g a).isSome = true := by
  intro k
  induction k with
  | zero =>
    intro j
    rw [firstF]
    exact ⟨fun h => (by cases h), fun ⟨a, h1, h2, _⟩ => (by omega)⟩
  | succ k ih =>
    intro j
    rw [firstF]
    cases h : g j with
    | some x => exact ⟨fun _ => ⟨j, Nat.le_refl _, by omega, by rw [h]; rfl⟩, fun _ => rfl⟩
    | none =>
      show (firstF g (j + 1) k).isSome = true ↔ _
      rw [ih]
      constructor
      · rintro ⟨a, h1, h2, h3⟩
        exact ⟨a, by omega, by omega, h3⟩
      · rintro ⟨a, h1, h2, h3⟩
        rcases Nat.lt_or_ge j a with q | q
        · exact ⟨a, by omega, by omega, h3⟩
        · have : a = j := by omega
          subst this
          rw [h] at h3
          cases h3
theorem pcn_set {m u f : Nat} (hf : f < m) (h : u.testBit f = false) : pcn m (u ||| 2 ^ f) = pcn m u + 1 := by
  induction m with
  | zero => omega
  | succ m ih =>
    rw [pcn, pcn, Nat.testBit_or, tb_pow]
    rcases Nat.lt_or_ge f m with q | q
    · rw [ih q, decide_eq_false (by omega), Bool.or_false]
      omega
    · have e : f = m := by omega
      subst e
      have : pcn f (u ||| 2 ^ f) = pcn f u := pcn_congr (fun i hi => by rw [Nat.testBit_or, tb_pow, decide_eq_false (by omega), Bool.or_false])
      rw [this, h, decide_eq_true rfl]
      rfl
theorem pcn_full {m u : Nat} (h : pcn m u = m) : ∀ i, i < m → u.testBit i = true := by
  induction m with
  | zero => intro i hi; omega
  | succ m ih =>
    rw [pcn] at h
    have hl := pcn_le m u
    intro i hi
    cases hb : u.testBit m
    · rw [hb] at h
      simp at h
      omega
    · rw [hb] at h
      simp at h
      rcases Nat.lt_or_ge i m with q | q
      · exact ih h i q
      · rw [show i = m by omega]
        exact hb
theorem can_pair {kk n : Nat} (hk : kk ≤ 6) {br : Nat → Int32} {fa ma : Nat → Nat} (hfa : ∀ j, j < kk → fa j < n) (hin : ∀ i j, i < kk → j < kk → fa i = fa j → i = j) : ∀ (q t u G : Nat), u < 2 ^ kk → pcn kk u + q = kk → (∀ a, G.testBit a = true ↔ ∃ j, j < kk ∧ fa j = a ∧ u.testBit j = false) → (can2 kk (okR br fa ma) t q u ↔ (pairM br n ((List.range' t q).map ma) G).isSome = true) := by
  intro q
  induction q with
  | zero =>
    intro t u G hu hc hG
    rw [can2]
    refine ⟨fun _ => rfl, fun _ => ?_⟩
    apply Nat.eq_of_testBit_eq
    intro i
    rw [Nat.testBit_two_pow_sub_one]
    rcases Nat.lt_or_ge i kk with h | h
    · rw [pcn_full (by omega) i h, decide_eq_true h]
    · rw [tb_lt hu h, decide_eq_false (by omega)]
  | succ q ih =>
    intro t u G hu hc hG
    rw [can2, List.range'_succ, List.map_cons, pairM, firstF_some]
    have key : ∀ f, f < kk → u.testBit f = false → (can2 kk (okR br fa ma) (t + 1) q (u ||| 2 ^ f) ↔ (pairM br n ((List.range' (t + 1) q).map ma) (dif G (2 ^ fa f))).isSome = true) := by
      intro f hf hb
      refine ih (t + 1) (u ||| 2 ^ f) (dif G (2 ^ fa f)) (Nat.or_lt_two_pow hu (Nat.pow_lt_pow_right (by decide) hf)) (by rw [pcn_set hf hb]; omega) (fun a => ?_)
      rw [dif_bit, tb_pow, Bool.and_eq_true, hG]
      constructor
      · rintro ⟨⟨j, h1, h2, h3⟩, h4⟩
        refine ⟨j, h1, h2, ?_⟩
        have hne : ¬ f = j := fun e => by
          subst e
          rw [h2] at h4
          simp at h4
        rw [Nat.testBit_or, h3, tb_pow, decide_eq_false hne]
        rfl
      · rintro ⟨j, h1, h2, h3⟩
        rw [Nat.testBit_or, tb_pow, Bool.or_eq_false_iff] at h3
        refine ⟨⟨j, h1, h2, h3.1⟩, ?_⟩
        have hne : ¬ f = j := of_decide_eq_false h3.2
        have : ¬ fa f = a := fun e => hne (hin f j hf h1 (e.trans h2.symm))
        simp [this]
    constructor
    · rintro ⟨f, h1, h2, h3, h4⟩
      refine ⟨fa f, Nat.zero_le _, by have := hfa f h1; omega, ?_⟩
      rw [if_pos ⟨(hG _).2 ⟨f, h1, rfl, h2⟩, h3⟩, Option.isSome_map]
      exact (key f h1 h2).1 h4
    · rintro ⟨a, -, h2, h3⟩
      by_cases hc2 : G.testBit a = true ∧ br (12 * ma t + a) = 0
      · rw [if_pos hc2, Option.isSome_map] at h3
        obtain ⟨f, q1, rfl, q3⟩ := (hG a).1 hc2.1
        exact ⟨f, q1, q3, hc2.2, (key f q1 q3).2 h3⟩
      · rw [if_neg hc2] at h3
        cases h3
