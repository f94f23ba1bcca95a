/-! limit, even, line, worth -/
set_option maxHeartbeats 4000000 in
theorem pu_limit {hb : (Nat → Int32)} {hc : Int32} {hf : (Nat → Int32)} {hl : Int32} {hk : (Nat → Nat → Int32)} {ht : (Nat → Int32)} {hm he : Int32} {hw sl : (Nat → Int32)} {sp ss : Int32} {su ce cf cm : (Nat → Int32)} {cp cs cn : Int32} {oa ob : (Nat → Int32)} {oy : Int32} {m_animals : Int32} {m_sexes m_worths m_families m_kins m_isBarred : (Nat → Int32)} {m_limit m_most : Int32} {m_leasts : (Nat → Int32)} {m_tested m_pairs m_choice m_choiceSets : Int32} {m_he m_she m_eggs : (Nat → Int32)} {m_years : Int32} {m_alive m_yearSets m_yearWorths : (Nat → Int32)} (R : RR hb hc hf hl hk ht hm he hw sl sp ss su ce cf cm cp cs cn oa ob oy m_animals m_sexes m_worths m_families m_kins m_isBarred m_limit m_most m_leasts m_tested m_pairs m_choice m_choiceSets m_he m_she m_eggs m_years m_alive m_yearSets m_yearWorths) (x1 : Int32) : wp_PairChoice_limit cp hl sp x1 (fun r cp' hl' sp' => wp_M_limit m_limit m_pairs x1 (fun r' m_limit' m_pairs' => r = r' ∧ RR hb hc hf hl' hk ht hm he hw sl sp' ss su ce cf cm cp' cs cn oa ob oy m_animals m_sexes m_worths m_families m_kins m_isBarred m_limit' m_most m_leasts m_tested m_pairs' m_choice m_choiceSets m_he m_she m_eggs m_years m_alive m_yearSets m_yearWorths)) := by
  obtain ⟨n, M, rfl, rfl, rfl, rfl, rfl, rfl, rfl, hH, hL, hC, hO, rfl⟩ := R
  unfold wp_PairChoice_limit wp_M_limit
  by_cases hr : 0 ≤ x1 ∧ x1 ≤ 1000
  · refine w_w1 hr (n1 ?_)
    by_cases he : x1 = hl
    · subst he
      exact q1 rfl (w_i1 hr (n1 (q1 rfl ⟨rfl, n, M, rfl, rfl, rfl, rfl, rfl, rfl, rfl, hH, hL, hC, hO, rfl⟩)))
    · exact q0 he (w_ff (w_i1 hr (n1 (q0 (fun z => he z.symm) (w_lv ⟨rfl, n, M, rfl, rfl, rfl, rfl, rfl, rfl, rfl, hH, Or.inl rfl, RCh_no, hO, rfl⟩)))))
  · exact w_w0 hr (n0 (w_i0 hr (n0 ⟨rfl, n, M, rfl, rfl, rfl, rfl, rfl, rfl, rfl, hH, hL, hC, hO, rfl⟩)))
set_option maxHeartbeats 4000000 in
theorem pu_even {hb : (Nat → Int32)} {hc : Int32} {hf : (Nat → Int32)} {hl : Int32} {hk : (Nat → Nat → Int32)} {ht : (Nat → Int32)} {hm he : Int32} {hw sl : (Nat → Int32)} {sp ss : Int32} {su ce cf cm : (Nat → Int32)} {cp cs cn : Int32} {oa ob : (Nat → Int32)} {oy : Int32} {m_animals : Int32} {m_sexes m_worths m_families m_kins m_isBarred : (Nat → Int32)} {m_limit m_most : Int32} {m_leasts : (Nat → Int32)} {m_tested m_pairs m_choice m_choiceSets : Int32} {m_he m_she m_eggs : (Nat → Int32)} {m_years : Int32} {m_alive m_yearSets m_yearWorths : (Nat → Int32)} (R : RR hb hc hf hl hk ht hm he hw sl sp ss su ce cf cm cp cs cn oa ob oy m_animals m_sexes m_worths m_families m_kins m_isBarred m_limit m_most m_leasts m_tested m_pairs m_choice m_choiceSets m_he m_she m_eggs m_years m_alive m_yearSets m_yearWorths) (x1 : Int32) : wp_PairChoice_even cp he sp x1 (fun r cp' he' sp' => wp_M_even m_most m_pairs x1 (fun r' m_most' m_pairs' => r = r' ∧ RR hb hc hf hl hk ht hm he' hw sl sp' ss su ce cf cm cp' cs cn oa ob oy m_animals m_sexes m_worths m_families m_kins m_isBarred m_limit m_most' m_leasts m_tested m_pairs' m_choice m_choiceSets m_he m_she m_eggs m_years m_alive m_yearSets m_yearWorths)) := by
  obtain ⟨n, M, rfl, rfl, rfl, rfl, rfl, rfl, rfl, hH, hL, hC, hO, rfl⟩ := R
  unfold wp_PairChoice_even wp_M_even
  by_cases hr : 0 ≤ x1 ∧ x1 ≤ 12
  · refine w_w1 hr (n1 ?_)
    by_cases hq : x1 = he
    · subst hq
      exact q1 rfl (w_i1 hr (n1 (q1 rfl ⟨rfl, n, M, rfl, rfl, rfl, rfl, rfl, rfl, rfl, hH, hL, hC, hO, rfl⟩)))
    · obtain ⟨⟨a1, a2, a3, a4, a5⟩, a6⟩ := hH
      exact q0 hq (w_ff (w_i1 hr (n1 (q0 (fun z => hq z.symm) (w_lv ⟨rfl, n, M, rfl, rfl, rfl, rfl, rfl, rfl, rfl, ⟨⟨a1, a2, a3, hr.1, a5⟩, a6⟩, Or.inl rfl, RCh_no, hO, rfl⟩)))))
  · exact w_w0 hr (n0 (w_i0 hr (n0 ⟨rfl, n, M, rfl, rfl, rfl, rfl, rfl, rfl, rfl, hH, hL, hC, hO, rfl⟩)))
set_option maxHeartbeats 4000000 in
theorem pu_line {hb : (Nat → Int32)} {hc : Int32} {hf : (Nat → Int32)} {hl : Int32} {hk : (Nat → Nat → Int32)} {ht : (Nat → Int32)} {hm he : Int32} {hw sl : (Nat → Int32)} {sp ss : Int32} {su ce cf cm : (Nat → Int32)} {cp cs cn : Int32} {oa ob : (Nat → Int32)} {oy : Int32} {m_animals : Int32} {m_sexes m_worths m_families m_kins m_isBarred : (Nat → Int32)} {m_limit m_most : Int32} {m_leasts : (Nat → Int32)} {m_tested m_pairs m_choice m_choiceSets : Int32} {m_he m_she m_eggs : (Nat → Int32)} {m_years : Int32} {m_alive m_yearSets m_yearWorths : (Nat → Int32)} (R : RR hb hc hf hl hk ht hm he hw sl sp ss su ce cf cm cp cs cn oa ob oy m_animals m_sexes m_worths m_families m_kins m_isBarred m_limit m_most m_leasts m_tested m_pairs m_choice m_choiceSets m_he m_she m_eggs m_years m_alive m_yearSets m_yearWorths) (x1 : Int32) (x2 : Int32) : wp_PairChoice_line cp ht sp x1 x2 (fun r cp' ht' sp' => wp_M_line m_leasts m_pairs x1 x2 (fun r' m_leasts' m_pairs' => r = r' ∧ RR hb hc hf hl hk ht' hm he hw sl sp' ss su ce cf cm cp' cs cn oa ob oy m_animals m_sexes m_worths m_families m_kins m_isBarred m_limit m_most m_leasts' m_tested m_pairs' m_choice m_choiceSets m_he m_she m_eggs m_years m_alive m_yearSets m_yearWorths)) := by
  obtain ⟨n, M, rfl, rfl, rfl, rfl, rfl, rfl, rfl, hH, hL, hC, hO, rfl⟩ := R
  unfold wp_PairChoice_line wp_M_line
  by_cases hr : 0 ≤ x1 ∧ x1 ≤ 7
  · refine w_w1 hr (n1 ?_)
    obtain ⟨f, hf, rfl⟩ := nI_of2 (x := x1) (M := 7) (n := 7) rfl (by rw [Int32.lt_iff_toInt_lt]; have := hr.1; rw [Int32.le_iff_toInt_le] at this; omega) hr.2
    have hin : vp_in (nI f) 8 := vp_in_nI (by omega) (by decide)
    by_cases hr2 : 0 ≤ x2 ∧ x2 ≤ 12
    · refine w_w1 hr2 (n1 ⟨hin, ?_⟩)
      rw [nI_clamp (n := f) (by omega)]
      by_cases hq : x2 = ht f
      · refine q1 hq (w_i1 hr (n1 (w_i1 hr2 (n1 ⟨hin, hin, ?_⟩))))
        subst hq
        rw [upd_self]
        exact q1 rfl ⟨rfl, n, M, rfl, rfl, rfl, rfl, rfl, rfl, rfl, hH, hL, hC, hO, rfl⟩
      · refine q0 hq ⟨hin, w_ff (w_i1 hr (n1 (w_i1 hr2 (n1 ⟨hin, hin, ?_⟩))))⟩
        exact q0 (fun z => hq z.symm) (w_lv ⟨rfl, n, M, rfl, rfl, rfl, rfl, rfl, rfl, rfl, hH, Or.inl rfl, RCh_no, hO, rfl⟩)
    · exact w_w0 hr2 (n0 (w_i1 hr (n1 (w_i0 hr2 (n0 ⟨rfl, n, M, rfl, rfl, rfl, rfl, rfl, rfl, rfl, hH, hL, hC, hO, rfl⟩)))))
  · exact w_w0 hr (n0 (w_i0 hr (n0 ⟨rfl, n, M, rfl, rfl, rfl, rfl, rfl, rfl, rfl, hH, hL, hC, hO, rfl⟩)))
set_option maxHeartbeats 4000000 in
theorem pu_worth {hb : (Nat → Int32)} {hc : Int32} {hf : (Nat → Int32)} {hl : Int32} {hk : (Nat → Nat → Int32)} {ht : (Nat → Int32)} {hm he : Int32} {hw sl : (Nat → Int32)} {sp ss : Int32} {su ce cf cm : (Nat → Int32)} {cp cs cn : Int32} {oa ob : (Nat → Int32)} {oy : Int32} {m_animals : Int32} {m_sexes m_worths m_families m_kins m_isBarred : (Nat → Int32)} {m_limit m_most : Int32} {m_leasts : (Nat → Int32)} {m_tested m_pairs m_choice m_choiceSets : Int32} {m_he m_she m_eggs : (Nat → Int32)} {m_years : Int32} {m_alive m_yearSets m_yearWorths : (Nat → Int32)} (R : RR hb hc hf hl hk ht hm he hw sl sp ss su ce cf cm cp cs cn oa ob oy m_animals m_sexes m_worths m_families m_kins m_isBarred m_limit m_most m_leasts m_tested m_pairs m_choice m_choiceSets m_he m_she m_eggs m_years m_alive m_yearSets m_yearWorths) (x1 : Int32) (x2 : Int32) : wp_PairChoice_worth cp hc hw sp x1 x2 (fun r cp' hw' sp' => wp_M_worth m_animals m_pairs m_worths x1 x2 (fun r' m_pairs' m_worths' => r = r' ∧ RR hb hc hf hl hk ht hm he hw' sl sp' ss su ce cf cm cp' cs cn oa ob oy m_animals m_sexes m_worths' m_families m_kins m_isBarred m_limit m_most m_leasts m_tested m_pairs' m_choice m_choiceSets m_he m_she m_eggs m_years m_alive m_yearSets m_yearWorths)) := by
  obtain ⟨n, M, rfl, rfl, rfl, rfl, rfl, rfl, rfl, hH, hL, hC, hO, rfl⟩ := R
  have hn : n ≤ 12 := hH.1.1
  unfold wp_PairChoice_worth wp_M_worth wp_PairChoice_isWorth
  rcases ix_split n hn x1 with h | ⟨a, ha, rfl⟩
  · exact w_k0 hn h (n0 (w_a0 hn h (n0 ⟨rfl, n, M, rfl, rfl, rfl, rfl, rfl, rfl, rfl, hH, hL, hC, hO, rfl⟩)))
  · refine w_k1 hn ha (n1 ?_)
    have hin : vp_in (nI a) 12 := vp_in_nI (by omega) (by decide)
    by_cases hr2 : -10000 ≤ x2 ∧ x2 ≤ 10000
    · refine w_w1 hr2 (n1 ⟨hin, ?_⟩)
      rw [nI_clamp (n := a) (by omega)]
      by_cases hq : x2 = hw a
      · refine q1 hq (w_a1 hn ha (n1 (w_i1 hr2 (n1 ⟨hin, hin, ?_⟩))))
        subst hq
        rw [upd_self]
        exact q1 rfl ⟨rfl, n, M, rfl, rfl, rfl, rfl, rfl, rfl, rfl, hH, hL, hC, hO, rfl⟩
      · refine q0 hq ⟨hin, w_ff (w_a1 hn ha (n1 (w_i1 hr2 (n1 ⟨hin, hin, ?_⟩))))⟩
        refine q0 (fun z => hq z.symm) (w_lv ⟨rfl, n, M, rfl, rfl, rfl, rfl, rfl, rfl, rfl, ?_, Or.inl rfl, RCh_no, hO, rfl⟩)
        obtain ⟨a1, a2, a3, a4, a5, a6, a7, a8⟩ := hH
        refine ⟨a1, a2, a3, a4, a5, a6, a7, fun b hb => ?_⟩
        by_cases e : b = a
        · rw [e, pk_us]
          exact hr2
        · rw [pk_un e]
          exact a8 b hb
    · exact w_w0 hr2 (n0 (w_a1 hn ha (n1 (w_i0 hr2 (n0 ⟨rfl, n, M, rfl, rfl, rfl, rfl, rfl, rfl, rfl, hH, hL, hC, hO, rfl⟩)))))
