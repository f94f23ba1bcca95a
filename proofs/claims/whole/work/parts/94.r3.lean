/-! pairOf, eggsOf, after, told -/
theorem cp_in {k x : Int32} {kk : Nat} (hk : kk ≤ 20) (e : k = nI kk) : (∃ i, i < kk ∧ x = nI i) ∨ (¬ (0 ≤ x ∧ x ≤ k - 1) ∧ (x < 0 ∨ k ≤ x)) := by
  subst e
  rcases pk_ix x (n := kk) (by omega) with h | h | ⟨j, hj, e⟩
  · right
    refine ⟨fun z => ?_, Or.inl h⟩
    have := z.1
    rw [Int32.lt_iff_toInt_lt] at h
    rw [Int32.le_iff_toInt_le] at this
    omega
  · right
    refine ⟨fun z => ?_, Or.inr h⟩
    have h2 := z.2
    rw [Int32.le_iff_toInt_le, nI_toInt (by omega)] at h
    rw [Int32.le_iff_toInt_le, show (nI kk - 1).toInt = (kk : Int) - 1 from pk_sub_toInt (a := kk) (b := 1) (by omega) (by omega)] at h2
    omega
  · exact Or.inl ⟨j, hj, e⟩
theorem in_ok {i kk : Nat} (hk : kk ≤ 20) (hi : i < kk) : 0 ≤ nI i ∧ nI i ≤ nI kk - 1 := by
  refine ⟨nI_pos' (by omega), ?_⟩
  rw [Int32.le_iff_toInt_le, nI_toInt (by omega), show (nI kk - 1).toInt = (kk : Int) - 1 from pk_sub_toInt (a := kk) (b := 1) (by omega) (by omega)]
  omega
theorem w_hp1 {i k : Nat} {post : Int32 → Prop} (hi : i < k) (hk : k ≤ 6) (hp : post 1) : wp_Choice_hasPair (nI k) (nI i) post := by
  unfold wp_Choice_hasPair
  exact ⟨fun z => absurd z (nI_pos (by omega)), fun _ => ⟨fun z => absurd z (nI_ge hi (by omega)), fun _ => hp⟩⟩
theorem w_hp0 {k x : Int32} {post : Int32 → Prop} (h : x < 0 ∨ k ≤ x) (hp : post 0) : wp_Choice_hasPair k x post := by
  unfold wp_Choice_hasPair
  refine ⟨fun _ => hp, fun z => ⟨fun _ => hp, fun q => ?_⟩⟩
  rcases h with h | h
  · exact absurd h z
  · exact absurd h q
/-- a pair by its number, in both -/
theorem pair_split {n : Nat} {ce cf cm : Nat → Int32} {cp cs cn pairs choice choiceSets : Int32} {he she eggs : Nat → Int32} (h : RCh n ce cf cm cp cs cn pairs choice choiceSets he she eggs) (x : Int32) : ((¬ (0 ≤ x ∧ x ≤ pairs - 1)) ∧ (x < 0 ∨ cp ≤ x)) ∨ ∃ i k S, i < k ∧ 0 < k ∧ k ≤ 6 ∧ x = nI i ∧ cp = nI k ∧ pairs = nI k ∧ S < 2 ^ n ∧ cs = nI S ∧ choice = nI S ∧ cn = choiceSets ∧ ∀ i, i < k → ce i = eggs i ∧ ∃ a f, a < n ∧ f < n ∧ cm i = nI a ∧ he i = nI a ∧ cf i = nI f ∧ she i = nI f := by
  rcases h with ⟨h1, h2⟩ | ⟨k, S, h0, h6, h1, h2, h3⟩
  · rcases cp_in (k := cp) (x := x) (kk := 0) (by omega) (by rw [h1, nI_0]) with ⟨i, hi, _⟩ | q
    · omega
    · rw [h1] at q
      rw [h1, h2]
      exact Or.inl q
  · rcases cp_in (k := cp) (x := x) (kk := k) (by omega) h1 with ⟨i, hi, e⟩ | q
    · exact Or.inr ⟨i, k, S, hi, h0, h6, e, h1, h2, h3⟩
    · rw [h2, ← h1]
      exact Or.inl q
set_option maxHeartbeats 4000000 in
theorem pu_pairOf {hb : (Nat → Int32)} {hc : Int32} {hf : (Nat → Int32)} {hl : Int32} {hk : (Nat → Nat → Int32)} {ht : (Nat → Int32)} {hm he : Int32} {hw sl : (Nat → Int32)} {sp ss : Int32} {su ce cf cm : (Nat → Int32)} {cp cs cn : Int32} {oa ob : (Nat → Int32)} {oy : Int32} {m_animals : Int32} {m_sexes m_worths m_families m_kins m_isBarred : (Nat → Int32)} {m_limit m_most : Int32} {m_leasts : (Nat → Int32)} {m_tested m_pairs m_choice m_choiceSets : Int32} {m_he m_she m_eggs : (Nat → Int32)} {m_years : Int32} {m_alive m_yearSets m_yearWorths : (Nat → Int32)} (R : RR hb hc hf hl hk ht hm he hw sl sp ss su ce cf cm cp cs cn oa ob oy m_animals m_sexes m_worths m_families m_kins m_isBarred m_limit m_most m_leasts m_tested m_pairs m_choice m_choiceSets m_he m_she m_eggs m_years m_alive m_yearSets m_yearWorths) (x1 : Int32) (x2 : Int32) : wp_PairChoice_pairOf cf cm cp x1 x2 (fun r => wp_M_pairOf m_he m_pairs m_she x1 x2 (fun r' => r = r' ∧ RR hb hc hf hl hk ht hm he hw sl sp ss su ce cf cm cp cs cn oa ob oy m_animals m_sexes m_worths m_families m_kins m_isBarred m_limit m_most m_leasts m_tested m_pairs m_choice m_choiceSets m_he m_she m_eggs m_years m_alive m_yearSets m_yearWorths)) := by
  obtain ⟨n, M, rfl, rfl, rfl, rfl, rfl, rfl, rfl, hH, hL, hC, hO, rfl⟩ := id R
  unfold wp_PairChoice_pairOf wp_M_pairOf
  rcases pair_split hC x1 with ⟨q1', q2'⟩ | ⟨i, k, S, hi, h0, h6, rfl, rfl, rfl, h3, h4, h5, h7, h8⟩
  · exact w_hp0 q2' (n0 (w_i0 q1' (n0 ⟨rfl, R⟩)))
  · refine w_hp1 hi h6 (n1 ?_)
    have hin : vp_in (nI i) 6 := vp_in_nI (by omega) (by decide)
    obtain ⟨g1, a, f, g2, g3, g4, g5, g6, g7⟩ := h8 i hi
    by_cases hr : 0 ≤ x2 ∧ x2 ≤ 1
    · refine w_w1 hr (n1 ?_)
      rw [nI_clamp (n := i) (by omega), g4, g6]
      by_cases hz : x2 = 0
      · exact p1 hz ⟨hin, w_i1 (in_ok (by omega) hi) (n1 (w_i1 hr (n1 (p1 hz ⟨hin, by rw [g5]; exact ⟨rfl, R⟩⟩))))⟩
      · exact p0 hz ⟨hin, w_i1 (in_ok (by omega) hi) (n1 (w_i1 hr (n1 (p0 hz ⟨hin, by rw [g7]; exact ⟨rfl, R⟩⟩))))⟩
    · exact w_w0 hr (n0 (w_i1 (in_ok (by omega) hi) (n1 (w_i0 hr (n0 ⟨rfl, R⟩)))))
set_option maxHeartbeats 4000000 in
theorem pu_eggsOf {hb : (Nat → Int32)} {hc : Int32} {hf : (Nat → Int32)} {hl : Int32} {hk : (Nat → Nat → Int32)} {ht : (Nat → Int32)} {hm he : Int32} {hw sl : (Nat → Int32)} {sp ss : Int32} {su ce cf cm : (Nat → Int32)} {cp cs cn : Int32} {oa ob : (Nat → Int32)} {oy : Int32} {m_animals : Int32} {m_sexes m_worths m_families m_kins m_isBarred : (Nat → Int32)} {m_limit m_most : Int32} {m_leasts : (Nat → Int32)} {m_tested m_pairs m_choice m_choiceSets : Int32} {m_he m_she m_eggs : (Nat → Int32)} {m_years : Int32} {m_alive m_yearSets m_yearWorths : (Nat → Int32)} (R : RR hb hc hf hl hk ht hm he hw sl sp ss su ce cf cm cp cs cn oa ob oy m_animals m_sexes m_worths m_families m_kins m_isBarred m_limit m_most m_leasts m_tested m_pairs m_choice m_choiceSets m_he m_she m_eggs m_years m_alive m_yearSets m_yearWorths) (x1 : Int32) : wp_PairChoice_eggsOf ce cp x1 (fun r => wp_M_eggsOf m_eggs m_pairs x1 (fun r' => r = r' ∧ RR hb hc hf hl hk ht hm he hw sl sp ss su ce cf cm cp cs cn oa ob oy m_animals m_sexes m_worths m_families m_kins m_isBarred m_limit m_most m_leasts m_tested m_pairs m_choice m_choiceSets m_he m_she m_eggs m_years m_alive m_yearSets m_yearWorths)) := by
  obtain ⟨n, M, rfl, rfl, rfl, rfl, rfl, rfl, rfl, hH, hL, hC, hO, rfl⟩ := id R
  unfold wp_PairChoice_eggsOf wp_M_eggsOf
  rcases pair_split hC x1 with ⟨q1', q2'⟩ | ⟨i, k, S, hi, h0, h6, rfl, rfl, rfl, h3, h4, h5, h7, h8⟩
  · exact w_hp0 q2' (e0 (w_i0 q1' (e0 ⟨rfl, R⟩)))
  · have hin : vp_in (nI i) 6 := vp_in_nI (by omega) (by decide)
    obtain ⟨g1, _⟩ := h8 i hi
    refine w_hp1 hi h6 (e1 ⟨hin, w_i1 (in_ok (by omega) hi) (e1 ⟨hin, ?_⟩)⟩)
    rw [nI_clamp (n := i) (by omega)]
    exact ⟨g1, R⟩
set_option maxHeartbeats 4000000 in
theorem pu_after {hb : (Nat → Int32)} {hc : Int32} {hf : (Nat → Int32)} {hl : Int32} {hk : (Nat → Nat → Int32)} {ht : (Nat → Int32)} {hm he : Int32} {hw sl : (Nat → Int32)} {sp ss : Int32} {su ce cf cm : (Nat → Int32)} {cp cs cn : Int32} {oa ob : (Nat → Int32)} {oy : Int32} {m_animals : Int32} {m_sexes m_worths m_families m_kins m_isBarred : (Nat → Int32)} {m_limit m_most : Int32} {m_leasts : (Nat → Int32)} {m_tested m_pairs m_choice m_choiceSets : Int32} {m_he m_she m_eggs : (Nat → Int32)} {m_years : Int32} {m_alive m_yearSets m_yearWorths : (Nat → Int32)} (R : RR hb hc hf hl hk ht hm he hw sl sp ss su ce cf cm cp cs cn oa ob oy m_animals m_sexes m_worths m_families m_kins m_isBarred m_limit m_most m_leasts m_tested m_pairs m_choice m_choiceSets m_he m_she m_eggs m_years m_alive m_yearSets m_yearWorths) (x1 : Int32) (x2 : Int32) : wp_PairChoice_after oa ob oy x1 x2 (fun r => wp_M_after m_alive m_yearSets m_yearWorths m_years x1 x2 (fun r' => r = r' ∧ RR hb hc hf hl hk ht hm he hw sl sp ss su ce cf cm cp cs cn oa ob oy m_animals m_sexes m_worths m_families m_kins m_isBarred m_limit m_most m_leasts m_tested m_pairs m_choice m_choiceSets m_he m_she m_eggs m_years m_alive m_yearSets m_yearWorths)) := by
  obtain ⟨n, M, rfl, rfl, rfl, rfl, rfl, rfl, rfl, hH, hL, hC, hO, rfl⟩ := id R
  obtain ⟨y, hy, rfl, rfl, hY⟩ := id hO
  unfold wp_PairChoice_after wp_M_after
  rcases cp_in (k := nI y) (x := x1) (kk := y) hy rfl with ⟨i, hi, rfl⟩ | ⟨q1', _⟩
  · have hin : vp_in (nI i) 20 := vp_in_nI (by omega) (by decide)
    have hok := in_ok hy hi
    obtain ⟨g1, g2, g3⟩ := hY i hi
    refine w_w1 hok (n1 ?_)
    rw [nI_clamp (n := i) (by omega)]
    by_cases z0 : x2 = 0
    · refine q1 z0 ⟨hin, w_i1 hok (n1 (p1 z0 ⟨hin, ?_⟩))⟩
      exact ⟨g1, R⟩
    · refine q0 z0 ?_
      by_cases z1 : x2 = 1
      · refine q1 z1 ⟨hin, ?_⟩
        by_cases e : ob i = (-100000000)
        · refine p1 e (w_i1 hok (n1 (p0 z0 (p1 z1 ⟨hin, ?_⟩))))
          rw [g2, if_pos e]
          exact ⟨rfl, R⟩
        · refine p0 e (w_i1 hok (n1 (p0 z0 (p1 z1 ⟨hin, ?_⟩))))
          rw [g2, if_neg e]
          exact ⟨rfl, R⟩
      · refine q0 z1 ?_
        by_cases z2 : x2 = 2
        · refine q1 z2 ⟨hin, ?_⟩
          by_cases e : ob i = (-100000000)
          · refine p1 e (w_i1 hok (n1 (p0 z0 (p0 z1 (p1 z2 ⟨hin, ?_⟩)))))
            rw [g3, if_pos e]
            exact ⟨rfl, R⟩
          · refine p0 e ⟨hin, w_i1 hok (n1 (p0 z0 (p0 z1 (p1 z2 ⟨hin, ?_⟩))))⟩
            rw [g3, if_neg e]
            exact ⟨rfl, R⟩
        · exact q0 z2 (w_i1 hok (n1 (p0 z0 (p0 z1 (p0 z2 ⟨rfl, R⟩)))))
  · exact w_w0 q1' (n0 (w_i0 q1' (n0 ⟨rfl, R⟩)))
set_option maxHeartbeats 4000000 in
theorem pu_told {hb : (Nat → Int32)} {hc : Int32} {hf : (Nat → Int32)} {hl : Int32} {hk : (Nat → Nat → Int32)} {ht : (Nat → Int32)} {hm he : Int32} {hw sl : (Nat → Int32)} {sp ss : Int32} {su ce cf cm : (Nat → Int32)} {cp cs cn : Int32} {oa ob : (Nat → Int32)} {oy : Int32} {m_animals : Int32} {m_sexes m_worths m_families m_kins m_isBarred : (Nat → Int32)} {m_limit m_most : Int32} {m_leasts : (Nat → Int32)} {m_tested m_pairs m_choice m_choiceSets : Int32} {m_he m_she m_eggs : (Nat → Int32)} {m_years : Int32} {m_alive m_yearSets m_yearWorths : (Nat → Int32)} {m_testedBy : Int32} (R : RR hb hc hf hl hk ht hm he hw sl sp ss su ce cf cm cp cs cn oa ob oy m_animals m_sexes m_worths m_families m_kins m_isBarred m_limit m_most m_leasts m_tested m_pairs m_choice m_choiceSets m_he m_she m_eggs m_years m_alive m_yearSets m_yearWorths) (x1 : Int32) : wp_PairChoice_told cp cs cn hc hk hw x1 (fun r => wp_M_told m_animals m_choice m_choiceSets m_kins m_pairs m_tested m_testedBy m_worths x1 (fun r' => r = r' ∧ RR hb hc hf hl hk ht hm he hw sl sp ss su ce cf cm cp cs cn oa ob oy m_animals m_sexes m_worths m_families m_kins m_isBarred m_limit m_most m_leasts m_tested m_pairs m_choice m_choiceSets m_he m_she m_eggs m_years m_alive m_yearSets m_yearWorths)) := by
  obtain ⟨n, M, rfl, rfl, rfl, rfl, rfl, rfl, rfl, hH, hL, hC, hO, rfl⟩ := id R
  obtain ⟨⟨hn, hMn, hcf, hmo, hkg, hsym, hcb⟩, _⟩ := id hH
  unfold wp_PairChoice_told wp_M_told
  by_cases hr : 0 ≤ x1 ∧ x1 ≤ 3
  · refine w_w1 hr (n1 ?_)
    rcases hC with ⟨rfl, rfl⟩ | ⟨k, S, h0, h6, rfl, rfl, h3, rfl, rfl, rfl, h8⟩
    · exact n0 (w_i1 hr (n1 (n0 ⟨rfl, R⟩)))
    · have hk : ¬ nI k = 0 := nI_ne0 h0 (by omega)
      have hs31 : S < 2 ^ 31 := by have := s4096 h3 hn; omega
      have hw0 : wsT hw (-1) m_testedBy S n = wsm hw S n := wsT_no n hn
      refine p0 hk ?_
      by_cases z0 : x1 = 0
      · exact q1 z0 (u_worthSum hn hs31 (w_i1 hr (n1 (p0 hk (p1 z0 (w_worthOf hn hs31 ⟨hw0.symm, R⟩))))))
      · refine q0 z0 ?_
        by_cases z1 : x1 = 1
        · exact q1 z1 (u_kinSum hn hs31 hkg hsym (w_i1 hr (n1 (p0 hk (p0 z0 (p1 z1 (w_kinOf hn hs31 ⟨rfl, R⟩)))))))
        · refine q0 z1 ?_
          by_cases z2 : x1 = 2
          · exact q1 z2 (w_i1 hr (n1 (p0 hk (p0 z0 (p0 z1 (p1 z2 ⟨rfl, R⟩))))))
          · exact q0 z2 (w_i1 hr (n1 (p0 hk (p0 z0 (p0 z1 (p0 z2 ⟨rfl, R⟩))))))
  · exact w_w0 hr (n0 (w_i0 hr (n0 ⟨rfl, R⟩)))
