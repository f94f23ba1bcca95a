/-! run -/
theorem firstF_least {α : Type} {g : Nat → Option α} {x : α} : ∀ (k j : Nat), firstF g j k = some x → ∃ a, j ≤ a ∧ a < j + k ∧ g a = some x ∧ ∀ b, j ≤ b → b < a → g b = none := by
  intro k
  induction k with
  | zero => intro j h; cases h
  | succ k ih =>
    intro j h
    rw [firstF] at h
    cases e : g j with
    | some y =>
      rw [e] at h
      cases h
      exact ⟨j, Nat.le_refl _, by omega, e, fun b h1 h2 => by omega⟩
    | none =>
      rw [e] at h
      obtain ⟨a, h1, h2, h3, h4⟩ := ih (j + 1) h
      refine ⟨a, by omega, by omega, h3, fun b q1 q2 => ?_⟩
      rcases Nat.lt_or_ge j b with z | z
      · exact h4 b (by omega) q2
      · rw [show b = j by omega]
        exact e
theorem pairM_ok {br : Nat → Int32} {n : Nat} : ∀ (ms : List Nat) (G : Nat) (l : List Nat), pairM br n ms G = some l → l.length = ms.length ∧ ∀ x, x ∈ l → x < n := by
  intro ms
  induction ms with
  | nil =>
    intro G l h
    rw [pairM] at h
    cases h
    exact ⟨rfl, fun x h => by cases h⟩
  | cons m ms ih =>
    intro G l h
    rw [pairM] at h
    obtain ⟨a, h1, h2, h3, h4⟩ := firstF_least n 0 h
    split at h3
    · cases e : pairM br n ms (dif G (2 ^ a)) with
      | none => rw [e] at h3; cases h3
      | some l' =>
        rw [e] at h3
        cases h3
        obtain ⟨i1, i2⟩ := ih _ _ e
        refine ⟨by rw [List.length_cons, List.length_cons, i1], fun x hx => ?_⟩
        rcases List.mem_cons.1 hx with rfl | hx
        · omega
        · exact i2 x hx
    · cases h3
theorem bl_lt {x n i j : Nat} (h : i < j) (hj : j < pcn n x) : (bl x n).getD i 0 < (bl x n).getD j 0 := by
  have hs : (bl x n).Pairwise (· < ·) := List.Pairwise.sublist List.filter_sublist List.pairwise_lt_range
  rw [← bl_len] at hj
  have := List.pairwise_iff_getElem.1 hs i j (by omega) hj h
  rw [List.getD_eq_getElem?_getD, List.getD_eq_getElem?_getD, List.getElem?_eq_getElem hj, List.getElem?_eq_getElem (show i < (bl x n).length by omega)]
  exact this
theorem m_run_w {kk : Nat} (hk : kk ≤ 6) {F Ml br : Nat → Int32} {fa ma : Nat → Nat} (hF : ∀ j, j < kk → F j = nI (fa j) ∧ fa j < 12) (hMl : ∀ j, j < kk → Ml j = nI (ma j) ∧ ma j < 12) {t u j0 : Nat} (ht : t < kk) (hu : u < 64) (hj0 : j0 < kk) (y1 : u.testBit j0 = false) (y2 : okR br fa ma t j0) (y3 : can2 kk (okR br fa ma) (t + 1) (kk - (t + 1)) (u ||| 2 ^ j0)) (hno : ∀ j, j < j0 → ¬ (u.testBit j = false ∧ okR br fa ma t j ∧ can2 kk (okR br fa ma) (t + 1) (kk - (t + 1)) (u ||| 2 ^ j)))
    {eg hh sh : Nat → Int32} {post : Int32 → Int32 → Int32 → Int32 → Int32 → (Nat → Int32) → (Nat → Int32) → (Nat → Int32) → (Nat → Int32) → Int32 → (Nat → Int32) → Int32 → Int32 → (Nat → Int32) → (Nat → Int32) → Prop} {K : Int32 → Int32 → (Nat → Int32) → (Nat → Int32) → (Nat → Int32) → (Nat → Int32) → (Nat → Int32) → Prop}
    (hK : ∀ now th, K (nI (u ||| 2 ^ j0)) (nI (t + 1)) (upd eg t 0) (upd hh t (nI (ma t))) now (upd sh t (nI (fa j0))) th) :
    ∀ (q j : Nat) (now th : Nat → Int32), j + q = j0 → wp_M_run_L74 br F Ml (nI kk) (nI u) (nI t) eg hh sh post K (q + 1) (nI j) now th := by
  intro q
  induction q with
  | zero =>
    intro j now th hj
    rw [wp_M_run_L74]
    have ej : j = j0 := by omega
    subst ej
    refine hb1' (by omega) (by omega) (fun z => by rw [y1] at z; cases z) (fun _ => ⟨vp_in_nI (by omega) (by decide), vp_in_nI (by omega) (by decide), ?_⟩)
    rw [nI_clamp (n := t) (by omega), nI_clamp (n := j) (by omega), (hF j hj0).1, (hMl t ht).1, ix12c (hMl t ht).2 (hF j hj0).2, mk_bit (by omega), mk_or, nI_1, nI_1]
    refine ⟨ix12i (hMl t ht).2 (hF j hj0).2, fun z => absurd y2 z, fun _ => ?_⟩
    refine w_canPair hk hF hMl (t0 := t + 1) (tk := u ||| 2 ^ j) (by omega) (or_lt64 hk hj0 hu) (fun now th r hr => ?_)
    rcases hr with ⟨rfl, _⟩ | ⟨_, hn⟩
    · exact n1 ⟨vp_in_nI (by omega) (by decide), vp_in_nI (by omega) (by decide), vp_in_nI (by omega) (by decide), vp_in_nI (by omega) (by decide), vp_in_nI (by omega) (by decide), hK now th⟩
    · exact absurd y3 hn
  | succ q ih =>
    intro j now th hj
    rw [wp_M_run_L74]
    rw [nI_clamp (n := t) (by omega), nI_clamp (n := j) (by omega), (hF j (by omega)).1, (hMl t ht).1, ix12c (hMl t ht).2 (hF j (by omega)).2, mk_bit (by omega), mk_or, nI_1, nI_1]
    refine hb1' (by omega) (by omega) (fun _ => ih (j + 1) now th (by omega)) (fun hb => ⟨vp_in_nI (by omega) (by decide), vp_in_nI (by omega) (by decide), ix12i (hMl t ht).2 (hF j (by omega)).2, fun _ => ih (j + 1) now th (by omega), fun hbr => ?_⟩)
    refine w_canPair hk hF hMl (t0 := t + 1) (tk := u ||| 2 ^ j) (by omega) (or_lt64 hk (by omega) hu) (fun now th r hr => ?_)
    rcases hr with ⟨_, hc⟩ | ⟨rfl, _⟩
    · exact absurd ⟨hb, hbr, hc⟩ (hno j (by omega))
    · exact n0 (ih (j + 1) now th (by omega))
theorem m_run_m {kk n : Nat} (hk : kk ≤ 6) (hn : n ≤ 12) {F Ml br : Nat → Int32} {fa ma : Nat → Nat} (hF : ∀ j, j < kk → F j = nI (fa j) ∧ fa j < 12) (hMl : ∀ j, j < kk → Ml j = nI (ma j) ∧ ma j < 12) (hfa : ∀ j, j < kk → fa j < n) (hmono : ∀ i j, i < j → j < kk → fa i < fa j) {pl : List Nat} {x1 v6 v7 v12 : Int32} (hx1 : x1 = nI kk)
    {post : Int32 → Int32 → Int32 → Int32 → Int32 → (Nat → Int32) → (Nat → Int32) → (Nat → Int32) → (Nat → Int32) → Int32 → (Nat → Int32) → Int32 → Int32 → (Nat → Int32) → (Nat → Int32) → Prop}
    (hp : ∀ eg hh now sh th, (∀ i, i < kk → eg i = 0 ∧ hh i = nI (ma i) ∧ sh i = nI (pl.getD i 0)) → post x1 v6 v7 v6 v12 eg F hh Ml (nI kk) now x1 v12 sh th) :
    ∀ (q t u G : Nat) (eg hh now sh th : Nat → Int32), t + q = kk → u < 2 ^ kk → pcn kk u = t → (∀ a, G.testBit a = true ↔ ∃ j, j < kk ∧ fa j = a ∧ u.testBit j = false) → pairM br n ((List.range' t q).map ma) G = some (pl.drop t) → (∀ i, i < t → eg i = 0 ∧ hh i = nI (ma i) ∧ sh i = nI (pl.getD i 0)) → wp_M_run_L66 br x1 v6 v7 v12 F Ml (nI kk) post (q + 1) (nI u) (nI t) eg hh now sh th := by
  subst hx1
  have hin : ∀ i j, i < kk → j < kk → fa i = fa j → i = j := by
    intro i j hi hj e
    rcases Nat.lt_trichotomy i j with h | h | h
    · have := hmono i j h hj; omega
    · exact h
    · have := hmono j i h hi; omega
  have hp64 : 2 ^ kk ≤ 2 ^ 6 := Nat.pow_le_pow_right (by decide) hk
  intro q
  induction q with
  | zero =>
    intro t u G eg hh now sh th ht hu hc hG hpm hI
    rw [wp_M_run_L66]
    refine pk_le kk t (fun _ => ?_) (fun h => absurd h (by omega))
    rw [show t = kk by omega] at hI
    exact hp eg hh now sh th hI
  | succ q ih =>
    intro t u G eg hh now sh th ht hu hc hG hpm hI
    rw [wp_M_run_L66]
    rw [List.range'_succ, List.map_cons, pairM] at hpm
    obtain ⟨f0, -, h2, h3, h4⟩ := firstF_least n 0 hpm
    have hcond : G.testBit f0 = true ∧ br (12 * ma t + f0) = 0 := by
      by_cases z : G.testBit f0 = true ∧ br (12 * ma t + f0) = 0
      · exact z
      · rw [if_neg z] at h3
        cases h3
    rw [if_pos hcond] at h3
    cases e : pairM br n ((List.range' (t + 1) q).map ma) (dif G (2 ^ f0)) with
    | none => rw [e] at h3; cases h3
    | some l' =>
      rw [e] at h3
      have hdrop : f0 :: l' = pl.drop t := Option.some.inj h3
      obtain ⟨j0, k1, rfl, k3⟩ := (hG f0).1 hcond.1
      have key : ∀ f, f < kk → u.testBit f = false → (can2 kk (okR br fa ma) (t + 1) q (u ||| 2 ^ f) ↔ (pairM br n ((List.range' (t + 1) q).map ma) (dif G (2 ^ fa f))).isSome = true) := by
        intro f hf hb
        refine can_pair hk hfa hin q (t + 1) (u ||| 2 ^ f) (dif G (2 ^ fa f)) (Nat.or_lt_two_pow hu (Nat.pow_lt_pow_right (by decide) hf)) (by rw [pcn_set hf hb]; omega) (fun a => ?_)
        rw [dif_bit, tb_pow, Bool.and_eq_true, hG]
        constructor
        · rintro ⟨⟨j, q1, q2, q3⟩, q4⟩
          refine ⟨j, q1, q2, ?_⟩
          have hne : ¬ f = j := fun e => by
            subst e
            rw [q2] at q4
            simp at q4
          rw [Nat.testBit_or, q3, tb_pow, decide_eq_false hne]
          rfl
        · rintro ⟨j, q1, q2, q3⟩
          rw [Nat.testBit_or, tb_pow, Bool.or_eq_false_iff] at q3
          refine ⟨⟨j, q1, q2, q3.1⟩, ?_⟩
          have hne : ¬ f = j := of_decide_eq_false q3.2
          have : ¬ fa f = a := fun e => hne (hin f j hf q1 (e.trans q2.symm))
          simp [this]
      have hq' : kk - (t + 1) = q := by omega
      refine pk_le kk t (fun h => absurd h (by omega)) (fun _ => ⟨j0 + 1, ?_⟩)
      refine m_run_w hk hF hMl (t := t) (u := u) (j0 := j0) (by omega) (by omega) k1 k3 hcond.2 (by rw [hq']; exact (key j0 k1 k3).2 (by rw [e]; rfl)) (fun j hj z => ?_) (fun now th => ?_) j0 0 now th (by omega)
      · rw [hq'] at z
        obtain ⟨z1, z2, z3⟩ := z
        have hb := h4 (fa j) (Nat.zero_le _) (hmono j j0 hj k1)
        have z2' : br (12 * ma t + fa j) = 0 := z2
        rw [if_pos ⟨(hG _).2 ⟨j, by omega, rfl, z1⟩, z2'⟩] at hb
        have := (key j (by omega) z1).1 z3
        cases e2 : pairM br n ((List.range' (t + 1) q).map ma) (dif G (2 ^ fa j)) with
        | none => rw [e2] at this; cases this
        | some l2 => rw [e2] at hb; cases hb
      · refine ih (t + 1) (u ||| 2 ^ j0) (dif G (2 ^ fa j0)) _ _ now _ th (by omega) (Nat.or_lt_two_pow hu (Nat.pow_lt_pow_right (by decide) k1)) (by rw [pcn_set k1 k3]; omega) (fun a => ?_) ?_ (fun i hi => ?_)
        · rw [dif_bit, tb_pow, Bool.and_eq_true, hG]
          constructor
          · rintro ⟨⟨j, q1, q2, q3⟩, q4⟩
            refine ⟨j, q1, q2, ?_⟩
            have hne : ¬ j0 = j := fun e => by
              subst e
              rw [q2] at q4
              simp at q4
            rw [Nat.testBit_or, q3, tb_pow, decide_eq_false hne]
            rfl
          · rintro ⟨j, q1, q2, q3⟩
            rw [Nat.testBit_or, tb_pow, Bool.or_eq_false_iff] at q3
            refine ⟨⟨j, q1, q2, q3.1⟩, ?_⟩
            have hne : ¬ j0 = j := of_decide_eq_false q3.2
            have : ¬ fa j0 = a := fun e => hne (hin j0 j k1 q1 (e.trans q2.symm))
            simp [this]
        · rw [e]
          congr 1
          have := congrArg (List.drop 1) hdrop
          rw [List.drop_drop] at this
          simpa using this
        · by_cases ei : i = t
          · subst ei
            rw [pk_us, pk_us, pk_us]
            refine ⟨rfl, rfl, ?_⟩
            have : pl.getD i 0 = fa j0 := by
              rw [List.getD_eq_getElem?_getD]
              have h0 := congrArg (fun l => l[0]?) hdrop
              simp only [List.getElem?_drop, List.getElem?_cons_zero, Nat.add_zero] at h0
              rw [← h0]
              rfl
            rw [this]
          · rw [pk_un ei, pk_un ei, pk_un ei]
            exact hI i (by omega)
theorem c_take_a {x1 x2 x3 : Int32} {v2 v3 : Nat → Int32} {post : (Nat → Int32) → (Nat → Int32) → (Nat → Int32) → Int32 → Int32 → Int32 → Prop} (hp : ∀ eg, (∀ i, i < 6 → eg i = 0) → post eg v2 v3 x2 x1 x3) : ∀ (q i : Nat) (eg : Nat → Int32), i + q = 6 → (∀ j, j < i → eg j = 0) → wp_Choice_take_L31 x1 x2 x3 v2 v3 post (q + 1) (nI i) eg := by
  intro q
  induction q with
  | zero =>
    intro i eg hi h
    rw [wp_Choice_take_L31]
    refine pk_le 6 i (fun _ => hp eg (fun j hj => h j (by omega))) (fun h => absurd h (by omega))
  | succ q ih =>
    intro i eg hi h
    rw [wp_Choice_take_L31]
    refine pk_le 6 i (fun h => absurd h (by omega)) (fun _ => ⟨vp_in_nI (by omega) (by decide), ?_⟩)
    rw [nI_clamp (n := i) (by omega), nI_1]
    refine ih (i + 1) _ (by omega) (fun j hj => ?_)
    by_cases e : j = i
    · rw [e, pk_us]
    · rw [pk_un e]
      exact h j (by omega)
theorem may_out {M n k s : Nat} {fm kn br ls : Nat → Int32} {lim mo : Int32} (h : mayS M fm kn br ls lim mo n k s = true) : pcn n (s &&& M) = k ∧ pcn n (dif s M) = k ∧ ∃ l, pairM br n (bl (s &&& M) n) (dif s M) = some l := by
  unfold mayS at h
  rw [Bool.and_eq_true, Bool.and_eq_true, Bool.and_eq_true] at h
  exact ⟨of_decide_eq_true h.1.1.1, of_decide_eq_true h.1.1.2, Option.isSome_iff_exists.1 h.2⟩
theorem w_drop {p : Int32} {post : Int32 → Prop} (h : post 0) : wp_Choice_drop p post := h
theorem wsT_fun (wt : Nat → Int32) (tb : Int32) {n : Nat} (hn : n ≤ 12) : (fun s => wsT wt (-1) tb s n) = fun s => wsm wt s n := funext fun _ => wsT_no n hn
set_option maxHeartbeats 4000000 in
theorem pu_run {hb : (Nat → Int32)} {hc : Int32} {hf : (Nat → Int32)} {hl : Int32} {hk : (Nat → Nat → Int32)} {ht : (Nat → Int32)} {hm he : Int32} {hw sl : (Nat → Int32)} {sp ss : Int32} {su ce cf cm : (Nat → Int32)} {cp cs cn : Int32} {oa ob : (Nat → Int32)} {oy : Int32} {tf tm : (Nat → Int32)} {m_animals : Int32} {m_sexes m_worths m_families m_kins m_isBarred : (Nat → Int32)} {m_limit m_most : Int32} {m_leasts : (Nat → Int32)} {m_tested m_pairs m_choice m_choiceSets : Int32} {m_he m_she m_eggs : (Nat → Int32)} {m_years : Int32} {m_alive m_yearSets m_yearWorths : (Nat → Int32)} {m_best m_bestWorth : Int32} {m_females m_males : (Nat → Int32)} {m_many : Int32} {m_now : (Nat → Int32)} {m_sets m_testedBy : Int32} {m_then : (Nat → Int32)} (R : RR hb hc hf hl hk ht hm he hw sl sp ss su ce cf cm cp cs cn oa ob oy m_animals m_sexes m_worths m_families m_kins m_isBarred m_limit m_most m_leasts m_tested m_pairs m_choice m_choiceSets m_he m_she m_eggs m_years m_alive m_yearSets m_yearWorths) (x1 : Int32) : wp_PairChoice_run ce cf cm cp cs cn hb hc hf hl hk ht hm he hw sl sp ss su tf tm x1 (fun r ce' cf' cm' cp' cs' cn' sl' sp' ss' su' tf' tm' => wp_M_run m_animals m_best m_bestWorth m_choice m_choiceSets m_eggs m_families m_females m_he m_isBarred m_kins m_leasts m_limit m_males m_many m_most m_now m_pairs m_sets m_sexes m_she m_tested m_testedBy m_then m_worths x1 (fun r' m_best' m_bestWorth' m_choice' m_choiceSets' m_eggs' m_females' m_he' m_males' m_many' m_now' m_pairs' m_sets' m_she' m_then' => r = r' ∧ RR hb hc hf hl hk ht hm he hw sl' sp' ss' su' ce' cf' cm' cp' cs' cn' oa ob oy m_animals m_sexes m_worths m_families m_kins m_isBarred m_limit m_most m_leasts m_tested m_pairs' m_choice' m_choiceSets' m_he' m_she' m_eggs' m_years m_alive m_yearSets m_yearWorths)) := by
  obtain ⟨n, M, rfl, rfl, rfl, rfl, rfl, rfl, rfl, hH, hL, hC, hO, rfl⟩ := id R
  obtain ⟨hn, hMn, _⟩ := id hH.1
  have hM := hH.2.1
  have hwt := hH.2.2.2.2.2.2.2
  have hbar : barM n m_isBarred hb := hH.1.2.2.2.2.2.2
  unfold wp_PairChoice_run wp_M_run
  by_cases r1 : 1 ≤ x1 ∧ x1 ≤ 6
  · obtain ⟨k, hk0, hk, rfl⟩ := np_of r1
    refine w_np1 r1 (n1 (u_listAll hH.1 hk hk0 hL (fun li si su' tf' tm' hh => ?_)))
    have hll := la_len (M := M) (fm := m_families) (kn := m_kins) (br := m_isBarred) (ls := ht) (lim := hl) (mo := he) hn hMn hk hk0
    by_cases hnil : laM M m_families m_kins m_isBarred ht hl he n k 4096 M = []
    · have hz : si = 0 := by rw [hh.1, hnil]; rfl
      refine p1 hz (w_drop (w_i1 r1 (n1 (w_lv (w_all hn (w_find hn hM hMn hk hk0 (fun f m mn now th => ?_)))))))
      rw [if_pos ((la_nil hn hMn hk0).1 hnil)]
      exact n0 ⟨rfl, n, M, rfl, rfl, rfl, rfl, rfl, rfl, rfl, hH, Or.inr ⟨k, hk0, hk, rfl, hh⟩, RCh_no, hO, rfl⟩
    · have hz : ¬ si = 0 := by
        rw [hh.1]
        refine nI_ne0 ?_ (by omega)
        rcases Nat.eq_zero_or_pos (laM M m_families m_kins m_isBarred ht hl he n k 4096 M).length with z | z
        · exact absurd (List.eq_nil_of_length_eq_zero z) hnil
        · exact z
      obtain ⟨S, hS⟩ := mx_val (ws := fun s => wsm hw s n) hnil
      have hmem := (bst_spec _ _ rfl (fun s h => s4096 ((la_mem hn hMn hk0).1 h).1 hn) S hS).1
      obtain ⟨hS2, hmay⟩ := (la_mem hn hMn hk0).1 hmem
      obtain ⟨c1, c2, pl, hpl⟩ := may_out hmay
      obtain ⟨hlen, hplt⟩ := pairM_ok _ _ _ hpl
      have hlen' : pl.length = k := by rw [hlen, bl_len, c1]
      have h12 : 2 ^ n ≤ 2 ^ 12 := Nat.pow_le_pow_right (by decide) hn
      refine p0 hz (u_best hh hll (big_wsm hn hwt _) ?_)
      rw [hS]
      show wp_Choice_take ce hb (nI n) (nI M) cf cm cp cs cn (nI S) (nI k) si _
      unfold wp_Choice_take
      refine u_pairSet hn hbar hS2 (by omega) (fun z => by rw [hpl] at z; cases z) (fun l fl ml hl1 hlf hlm => ?_)
      rw [hpl] at hl1
      cases hl1
      refine ⟨7, c_take_a (fun eg heg => ?_) 6 0 ce (by omega) (fun j hj => by omega)⟩
      refine w_i1 r1 (n1 (w_lv (w_all hn (w_find hn hM hMn hk hk0 (fun f m mn now th => ?_)))))
      rw [if_neg (fun z => hnil ((la_nil hn hMn hk0).2 z)), wsT_fun hw m_testedBy hn, ← mx_best hn hMn hk0, hS, ← la_ls_len hn hMn hk0, Option.map_some, Option.getD_some, Option.getD_some]
      refine n1 (w_part hn (by omega) hM (by omega) (fun wf wm hwm hwf => ?_))
      rw [c1]
      have gm : ∀ j, j < k → wm j = nI ((bl (S &&& M) n).getD j 0) ∧ (bl (S &&& M) n).getD j 0 < 12 := fun j hj => by
        have := bl_getD_lt (x := S &&& M) (n := n) (j := j) (by omega)
        exact ⟨hwm j _ this.1, by omega⟩
      have gf : ∀ j, j < k → wf j = nI ((bl (dif S M) n).getD j 0) ∧ (bl (dif S M) n).getD j 0 < 12 := fun j hj => by
        have := bl_getD_lt (x := dif S M) (n := n) (j := j) (by omega)
        exact ⟨hwf j _ this.1, by omega⟩
      have gfn : ∀ j, j < k → (bl (dif S M) n).getD j 0 < n := fun j hj => (bl_getD_lt (x := dif S M) (n := n) (j := j) (by omega)).2.1
      have gmn : ∀ j, j < k → (bl (S &&& M) n).getD j 0 < n := fun j hj => (bl_getD_lt (x := S &&& M) (n := n) (j := j) (by omega)).2.1
      refine ⟨k + 1, m_run_m (fa := fun j => (bl (dif S M) n).getD j 0) (ma := fun j => (bl (S &&& M) n).getD j 0) hk hn gf gm gfn (fun i j h1 h2 => bl_lt h1 (by omega)) (pl := pl) rfl (fun eg' hh' now' sh' th' hI => ?_) k 0 0 (dif S M) m_eggs m_he now m_she th (by omega) (Nat.two_pow_pos k) (pcn_zero k) (fun a => ?_) ?_ (fun i hi => by omega)⟩
      · refine ⟨rfl, n, M, rfl, rfl, rfl, rfl, rfl, rfl, rfl, hH, Or.inr ⟨k, hk0, hk, rfl, hh⟩, Or.inr ⟨k, S, hk0, hk, rfl, rfl, hS2, rfl, rfl, hh.1, fun i hi => ?_⟩, hO, rfl⟩
        obtain ⟨i1, i2, i3⟩ := hI i hi
        have hlf' := hlf i
        have hlm' := hlm i
        rw [if_pos ⟨Nat.zero_le _, by omega⟩, Nat.sub_zero] at hlf'
        rw [if_pos ⟨Nat.zero_le _, by rw [bl_len]; omega⟩, Nat.sub_zero] at hlm'
        refine ⟨by rw [heg i (by omega), i1], (bl (S &&& M) n).getD i 0, pl.getD i 0, gmn i hi, ?_, hlm', i2, hlf', i3⟩
        have hi' : i < pl.length := by omega
        rw [List.getD_eq_getElem?_getD, List.getElem?_eq_getElem hi']
        exact hplt _ (List.getElem_mem hi')
      · constructor
        · intro h
          have han : a < n := by
            rcases Nat.lt_or_ge a n with z | z
            · exact z
            · rw [dif_bit, tb_lt hS2 z] at h
              cases h
          have hm : a ∈ bl (dif S M) n := bl_mem.2 ⟨han, h⟩
          obtain ⟨j, hj, e⟩ := List.getElem_of_mem hm
          refine ⟨j, by rw [bl_len, c2] at hj; exact hj, ?_, Nat.zero_testBit j⟩
          show (bl (dif S M) n).getD j 0 = a
          rw [List.getD_eq_getElem?_getD, List.getElem?_eq_getElem hj]
          exact e
        · rintro ⟨j, hj, rfl, _⟩
          exact (bl_getD_lt (x := dif S M) (n := n) (j := j) (by omega)).2.2
      · rw [bl_map c1, List.drop_zero]
        exact hpl
  · exact w_np0 r1 (n0 (w_i0 r1 (n0 ⟨rfl, R⟩)))
