/-! run -/
theorem firstF_least {α : Type} {g : Nat → Option α} {x : α} : ∀ (k j : Nat), firstF g j k = some x → ∃ a, j ≤ a ∧ a < j + k ∧ g a = some x ∧ ∀ b, j ≤ b → b < a → g b = none := by
  intro k
  induction k with
  | zero => intro j h; cases h
  | succ k ih =>
    intro j h
    rw [firstF] at h
    cases e : g j with
    | some y =>
      rw [e] at h
      cases h
      exact ⟨j, Nat.le_refl _, by omega, e, fun b h1 h2 => by omega⟩
    | none =>
      rw [e] at h
      obtain ⟨a, h1, h2, h3, h4⟩ := ih (j + 1) h
      refine ⟨a, by omega, by omega, h3, fun b q1 q2 => ?_⟩
      rcases Nat.lt_or_ge j b with z | z
      · exact h4 b (by omega) q2
      · rw [show b = j by omega]
        exact e
theorem pairM_ok {br : Nat → Int32} {n : Nat} : ∀ (ms : List Nat) (G : Nat) (l : List Nat), pairM br n ms G = some l → l.length = ms.length ∧ ∀ x, x ∈ l → x < n := by
  intro ms
  induction ms with
  | nil =>
    intro G l h
    rw [pairM] at h
    cases h
    exact ⟨rfl, fun x h => by cases h⟩
  | cons m ms ih =>
    intro G l h
    rw [pairM] at h
    obtain ⟨a, h1, h2, h3, h4⟩ := firstF_least n 0 h
    split at h3
    · cases e : pairM br n ms (dif G (2 ^ a)) with
      | none => rw [e] at h3; cases h3
      | some l' =>
        rw [e] at h3
        cases h3
        obtain ⟨i1, i2⟩ := ih _ _ e
        refine ⟨by rw [List.length_cons, List.length_cons, i1], fun x hx => ?_⟩
        rcases List.mem_cons.1 hx with rfl | hx
        · omega
        · exact i2 x hx
    · cases h3
theorem bl_lt {x n i j : Nat} (h : i < j) (hj : j < pcn n x) : (bl x n).getD i 0 < (bl x n).getD j 0 := by
  have hs : (bl x n).Pairwise (· < ·) := List.Pairwise.sublist List.filter_sublist List.pairwise_lt_range
  rw [← bl_len] at hj
  have := List.pairwise_iff_getElem.1 hs i j (by omega) hj h
  rw [List.getD_eq_getElem?_getD, List.getD_eq_getElem?_getD, List.getElem?_eq_getElem hj, List.getElem?_eq_getElem (show i < (bl x n).length by omega)]
  exact this
theorem m_run_w {kk : Nat} (hk : kk ≤ 6) {F Ml br : Nat → Int32} {fa ma : Nat → Nat} (hF : ∀ j, j < kk → F j = nI (fa j) ∧ fa j < 12) (hMl : ∀ j, j < kk → Ml j = nI (ma j) ∧ ma j < 12) {t u j0 : Nat} (ht : t < kk) (hu : u < 64) (hj0 : j0 < kk) (y1 : u.testBit j0 = false) (y2 : okR br fa ma t j0) (y3 : can2 kk (okR br fa ma) (t + 1) (kk - (t + 1)) (u ||| 2 ^ j0)) (hno : ∀ j, j < j0 → ¬ (u.testBit j = false ∧ okR br fa ma t j ∧ can2 kk (okR br fa ma) (t + 1) (kk - (t + 1)) (u ||| 2 ^ j)))
    {eg hh sh : Nat → Int32} {post : Int32 → Int32 → Int32 → Int32 → Int32 → (Nat → Int32) → (Nat → Int32) → (Nat → Int32) → (Nat → Int32) → Int32 → (Nat → Int32) → Int32 → Int32 → (Nat → Int32) → (Nat → Int32) → Prop} {K : Int32 → Int32 → (Nat → Int32) → (Nat → Int32) → (Nat → Int32) → (Nat → Int32) → (Nat → Int32) → Prop}
    (hK : ∀ now th, K (nI (u ||| 2 ^ j0)) (nI (t + 1)) (upd eg t 0) (upd hh t (nI (ma t))) now (upd sh t (nI (fa j0))) th) :
    ∀ (q j : Nat) (now th : Nat → Int32), j + q = j0 → wp_M_run_L74 br F Ml (nI kk) (nI u) (nI t) eg hh sh post K (q + 1) (nI j) now th := by
  intro q
  induction q with
  | zero =>
    intro j now th hj
    rw [wp_M_run_L74]
    have ej : j = j0 := by omega
    subst ej
    refine hb1' (by omega) (by omega) (fun z => by rw [y1] at z; cases z) (fun _ => ⟨vp_in_nI (by omega) (by decide), vp_in_nI (by omega) (by decide), ?_⟩)
    rw [nI_clamp (n := t) (by omega), nI_clamp (n := j) (by omega), (hF j hj0).1, (hMl t ht).1, ix12c (hMl t ht).2 (hF j hj0).2, mk_bit (by omega), mk_or, nI_1]
    refine ⟨ix12i (hMl t ht).2 (hF j hj0).2, fun z => absurd y2 z, fun _ => ?_⟩
    refine w_canPair hk hF hMl (t0 := t + 1) (tk := u ||| 2 ^ j) (by omega) (or_lt64 hk hj0 hu) (fun now th r hr => ?_)
    rcases hr with ⟨rfl, _⟩ | ⟨_, hn⟩
    · exact n1 ⟨vp_in_nI (by omega) (by decide), vp_in_nI (by omega) (by decide), vp_in_nI (by omega) (by decide), vp_in_nI (by omega) (by decide), vp_in_nI (by omega) (by decide), hK now th⟩
    · exact absurd y3 hn
  | succ q ih =>
    intro j now th hj
    rw [wp_M_run_L74]
    rw [nI_clamp (n := t) (by omega), nI_clamp (n := j) (by omega), (hF j (by omega)).1, (hMl t ht).1, ix12c (hMl t ht).2 (hF j (by omega)).2, mk_bit (by omega), mk_or, nI_1, nI_1]
    refine hb1' (by omega) (by omega) (fun _ => ih (j + 1) now th (by omega)) (fun hb => ⟨vp_in_nI (by omega) (by decide), vp_in_nI (by omega) (by decide), ix12i (hMl t ht).2 (hF j (by omega)).2, fun _ => ih (j + 1) now th (by omega), fun hbr => ?_⟩)
    refine w_canPair hk hF hMl (t0 := t + 1) (tk := u ||| 2 ^ j) (by omega) (or_lt64 hk (by omega) hu) (fun now th r hr => ?_)
    rcases hr with ⟨_, hc⟩ | ⟨rfl, _⟩
    · exact absurd ⟨hb, hbr, hc⟩ (hno j (by omega))
    · exact n0 (ih (j + 1) now th (by omega))
theorem m_run_m {kk n : Nat} (hk : kk ≤ 6) (hn : n ≤ 12) {F Ml br : Nat → Int32} {fa ma : Nat → Nat} (hF : ∀ j, j < kk → F j = nI (fa j) ∧ fa j < 12) (hMl : ∀ j, j < kk → Ml j = nI (ma j) ∧ ma j < 12) (hfa : ∀ j, j < kk → fa j < n) (hmono : ∀ i j, i < j → j < kk → fa i < fa j) {pl : List Nat} {x1 v6 v7 v12 : Int32} (hx1 : x1 = nI kk)
    {post : Int32 → Int32 → Int32 → Int32 → Int32 → (Nat → Int32) → (Nat → Int32) → (Nat → Int32) → (Nat → Int32) → Int32 → (Nat → Int32) → Int32 → Int32 → (Nat → Int32) → (Nat → Int32) → Prop}
    (hp : ∀ eg hh now sh th, (∀ i, i < kk → eg i = 0 ∧ hh i = nI (ma i) ∧ sh i = nI (pl.getD i 0)) → post x1 v6 v7 v6 v12 eg F hh Ml (nI kk) now x1 v12 sh th) :
    ∀ (q t u G : Nat) (eg hh now sh th : Nat → Int32), t + q = kk → u < 2 ^ kk → pcn kk u = t → (∀ a, G.testBit a = true ↔ ∃ j, j < kk ∧ fa j = a ∧ u.testBit j = false) → pairM br n ((List.range' t q).map ma) G = some (pl.drop t) → (∀ i, i < t → eg i = 0 ∧ hh i = nI (ma i) ∧ sh i = nI (pl.getD i 0)) → wp_M_run_L66 br x1 v6 v7 v12 F Ml (nI kk) post (q + 1) (nI u) (nI t) eg hh now sh th := by
  subst hx1
  have hin : ∀ i j, i < kk → j < kk → fa i = fa j → i = j := by
    intro i j hi hj e
    rcases Nat.lt_trichotomy i j with h | h | h
    · have := hmono i j h hj; omega
    · exact h
    · have := hmono j i h hi; omega
  have hp64 : 2 ^ kk ≤ 2 ^ 6 := Nat.pow_le_pow_right (by decide) hk
  intro q
  induction q with
  | zero =>
    intro t u G eg hh now sh th ht hu hc hG hpm hI
    rw [wp_M_run_L66]
    refine pk_le kk t (fun _ => ?_) (fun h => absurd h (by omega))
    rw [show t = kk by omega] at hI
    exact hp eg hh now sh th hI
  | succ q ih =>
    intro t u G eg hh now sh th ht hu hc hG hpm hI
    rw [wp_M_run_L66]
    rw [List.range'_succ, List.map_cons, pairM] at hpm
    obtain ⟨f0, -, h2, h3, h4⟩ := firstF_least n 0 hpm
    have hcond : G.testBit f0 = true ∧ br (12 * ma t + f0) = 0 := by
      by_cases z : G.testBit f0 = true ∧ br (12 * ma t + f0) = 0
      · exact z
      · rw [if_neg z] at h3
        cases h3
    rw [if_pos hcond] at h3
    cases e : pairM br n ((List.range' (t + 1) q).map ma) (dif G (2 ^ f0)) with
    | none => rw [e] at h3; cases h3
    | some l' =>
      rw [e] at h3
      have hdrop : f0 :: l' = pl.drop t := Option.some.inj h3
      obtain ⟨j0, k1, rfl, k3⟩ := (hG f0).1 hcond.1
      have key : ∀ f, f < kk → u.testBit f = false → (can2 kk (okR br fa ma) (t + 1) q (u ||| 2 ^ f) ↔ (pairM br n ((List.range' (t + 1) q).map ma) (dif G (2 ^ fa f))).isSome = true) := by
        intro f hf hb
        refine can_pair hk hfa hin q (t + 1) (u ||| 2 ^ f) (dif G (2 ^ fa f)) (Nat.or_lt_two_pow hu (Nat.pow_lt_pow_right (by decide) hf)) (by rw [pcn_set hf hb]; omega) (fun a => ?_)
        rw [dif_bit, tb_pow, Bool.and_eq_true, hG]
        constructor
        · rintro ⟨⟨j, q1, q2, q3⟩, q4⟩
          refine ⟨j, q1, q2, ?_⟩
          have hne : ¬ f = j := fun e => by
            subst e
            rw [q2] at q4
            simp at q4
          rw [Nat.testBit_or, q3, tb_pow, decide_eq_false hne]
          rfl
        · rintro ⟨j, q1, q2, q3⟩
          rw [Nat.testBit_or, tb_pow, Bool.or_eq_false_iff] at q3
          refine ⟨⟨j, q1, q2, q3.1⟩, ?_⟩
          have hne : ¬ f = j := of_decide_eq_false q3.2
          have : ¬ fa f = a := fun e => hne (hin f j hf q1 (e.trans q2.symm))
          simp [this]
      have hq' : kk - (t + 1) = q := by omega
      refine pk_le kk t (fun h => absurd h (by omega)) (fun _ => ⟨j0 + 1, ?_⟩)
      refine m_run_w hk hF hMl (t := t) (u := u) (j0 := j0) (by omega) (by omega) k1 k3 hcond.2 (by rw [hq']; exact (key j0 k1 k3).2 (by rw [e]; rfl)) (fun j hj z => ?_) (fun now th => ?_) j0 0 now th (by omega)
      · rw [hq'] at z
        obtain ⟨z1, z2, z3⟩ := z
        have hb := h4 (fa j) (Nat.zero_le _) (hmono j j0 hj k1)
        have z2' : br (12 * ma t + fa j) = 0 := z2
        rw [if_pos ⟨(hG _).2 ⟨j, by omega, rfl, z1⟩, z2'⟩] at hb
        have := (key j (by omega) z1).1 z3
        cases e2 : pairM br n ((List.range' (t + 1) q).map ma) (dif G (2 ^ fa j)) with
        | none => rw [e2] at this; cases this
        | some l2 => rw [e2] at hb; cases hb
      · refine ih (t + 1) (u ||| 2 ^ j0) (dif G (2 ^ fa j0)) _ _ now _ th (by omega) (Nat.or_lt_two_pow hu (Nat.pow_lt_pow_right (by decide) k1)) (by rw [pcn_set k1 k3]; omega) (fun a => ?_) ?_ (fun i hi => ?_)
        · rw [dif_bit, tb_pow, Bool.and_eq_true, hG]
          constructor
          · rintro ⟨⟨j, q1, q2, q3⟩, q4⟩
            refine ⟨j, q1, q2, ?_⟩
            have hne : ¬ j0 = j := fun e => by
              subst e
              rw [q2] at q4
              simp at q4
            rw [Nat.testBit_or, q3, tb_pow, decide_eq_false hne]
            rfl
          · rintro ⟨j, q1, q2, q3⟩
            rw [Nat.testBit_or, tb_pow, Bool.or_eq_false_iff] at q3
            refine ⟨⟨j, q1, q2, q3.1⟩, ?_⟩
            have hne : ¬ j0 = j := of_decide_eq_false q3.2
            have : ¬ fa j0 = a := fun e => hne (hin j0 j k1 q1 (e.trans q2.symm))
            simp [this]
        · rw [e]
          congr 1
          have := congrArg (List.drop 1) hdrop
          rw [List.drop_drop] at this
          simpa using this
        · by_cases ei : i = t
          · subst ei
            rw [pk_us, pk_us, pk_us]
            refine ⟨rfl, rfl, ?_⟩
            have : pl.getD i 0 = fa j0 := by
              rw [List.getD_eq_getElem?_getD]
              have h0 := congrArg (fun l => l[0]?) hdrop
              simp only [List.getElem?_drop, List.getElem?_cons_zero, Nat.add_zero] at h0
              rw [← h0]
              rfl
            rw [this]
          · rw [pk_un ei, pk_un ei, pk_un ei]
            exact hI i (by omega)
theorem c_take_a {x1 x2 x3 : Int32} {v2 v3 : Nat → Int32} {post : (Nat → Int32) → (Nat → Int32) → (Nat → Int32) → Int32 → Int32 → Int32 → Prop} (hp : ∀ eg, (∀ i, i < 6 → eg i = 0) → post eg v2 v3 x2 x1 x3) : ∀ (q i : Nat) (eg : Nat → Int32), i + q = 6 → (∀ j, j < i → eg j = 0) → wp_Choice_take_L31 x1 x2 x3 v2 v3 post (q + 1) (nI i) eg := by
  intro q
  induction q with
  | zero =>
    intro i eg hi h
    rw [wp_Choice_take_L31]
    refine pk_le 6 i (fun _ => hp eg (fun j hj => h j (by omega))) (fun h => absurd h (by omega))
  | succ q ih =>
    intro i eg hi h
    rw [wp_Choice_take_L31]
    refine pk_le 6 i (fun h => absurd h (by omega)) (fun _ => ⟨vp_in_nI (by omega) (by decide), ?_⟩)
    rw [nI_clamp (n := i) (by omega), nI_1]
    refine ih (i + 1) _ (by omega) (fun j hj => ?_)
    by_cases e : j = i
    · rw [e, pk_us]
    · rw [pk_un e]
      exact h j (by omega)
