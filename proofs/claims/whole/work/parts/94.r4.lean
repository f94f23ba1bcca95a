/-! animal -/
theorem bit_new {x n a : Nat} (hx : x < 2 ^ n) : (x ||| 2 ^ n).testBit a = if a = n then true else x.testBit a := by
  rw [Nat.testBit_or, tb_pow]
  by_cases e : a = n
  · rw [if_pos e, e, decide_eq_true rfl, Bool.or_true]
  · rw [if_neg e, decide_eq_false (fun z => e z.symm), Bool.or_false]
set_option maxHeartbeats 4000000 in
theorem pu_animal {hb : (Nat → Int32)} {hc : Int32} {hf : (Nat → Int32)} {hl : Int32} {hk : (Nat → Nat → Int32)} {ht : (Nat → Int32)} {hm he : Int32} {hw sl : (Nat → Int32)} {sp ss : Int32} {su ce cf cm : (Nat → Int32)} {cp cs cn : Int32} {oa ob : (Nat → Int32)} {oy : Int32} {m_animals : Int32} {m_sexes m_worths m_families m_kins m_isBarred : (Nat → Int32)} {m_limit m_most : Int32} {m_leasts : (Nat → Int32)} {m_tested m_pairs m_choice m_choiceSets : Int32} {m_he m_she m_eggs : (Nat → Int32)} {m_years : Int32} {m_alive m_yearSets m_yearWorths : (Nat → Int32)} (R : RR hb hc hf hl hk ht hm he hw sl sp ss su ce cf cm cp cs cn oa ob oy m_animals m_sexes m_worths m_families m_kins m_isBarred m_limit m_most m_leasts m_tested m_pairs m_choice m_choiceSets m_he m_she m_eggs m_years m_alive m_yearSets m_yearWorths) (x1 : Int32) (x2 : Int32) (x3 : Int32) : wp_PairChoice_animal cp hc hf hm hw sp x1 x2 x3 (fun r cp' hc' hf' hm' hw' sp' => wp_M_animal m_animals m_families m_pairs m_sexes m_worths x1 x2 x3 (fun r' m_animals' m_families' m_pairs' m_sexes' m_worths' => r = r' ∧ RR hb hc' hf' hl hk ht hm' he hw' sl sp' ss su ce cf cm cp' cs cn oa ob oy m_animals' m_sexes' m_worths' m_families' m_kins m_isBarred m_limit m_most m_leasts m_tested m_pairs' m_choice m_choiceSets m_he m_she m_eggs m_years m_alive m_yearSets m_yearWorths)) := by
  obtain ⟨n, M, rfl, rfl, rfl, rfl, rfl, rfl, rfl, hH, hL, hC, hO, rfl⟩ := id R
  obtain ⟨⟨hn, hMn, hcf, hmo, hkg, hsym, hcb⟩, hM, hsx, hbr, hbs, hbz, hcz, hwt⟩ := id hH
  unfold wp_PairChoice_animal wp_M_animal wp_PairChoice_isWorth
  by_cases r1 : 0 ≤ x1 ∧ x1 ≤ 1
  · refine w_w1 r1 (e1 ?_)
    by_cases r2 : -10000 ≤ x2 ∧ x2 ≤ 10000
    · refine w_w1 r2 (e1 ?_)
      by_cases r3 : 0 ≤ x3 ∧ x3 ≤ 7
      · refine w_w1 r3 (n1 ?_)
        obtain ⟨g, hg, rfl⟩ := nI_of2 (x := x3) (M := 7) (n := 7) rfl (by rw [Int32.lt_iff_toInt_lt]; have := r3.1; rw [Int32.le_iff_toInt_le] at this; omega) r3.2
        have hx1 : x1 = 0 ∨ x1 = 1 := by
          obtain ⟨j, hj, rfl⟩ := nI_of2 (x := x1) (M := 1) (n := 1) rfl (by rw [Int32.lt_iff_toInt_lt]; have := r1.1; rw [Int32.le_iff_toInt_le] at this; omega) r1.2
          rcases (by omega : j = 0 ∨ j = 1) with rfl | rfl
          · exact Or.inl rfl
          · exact Or.inr rfl
        refine pk_lt n 12 (fun hlt => ?_) (fun hge => ?_)
        · have h12 : 2 ^ n ≤ 2 ^ 12 := Nat.pow_le_pow_right (by decide) hn
          have hpw : 2 ^ (n + 1) = 2 ^ n + 2 ^ n := by rw [Nat.pow_succ]; omega
          have h2n := Nat.two_pow_pos n
          have iN : vp_in (nI n) 12 := vp_in_nI hlt (by decide)
          have iG : vp_in (nI g) 8 := vp_in_nI (by omega) (by decide)
          have hne12 : ¬ nI n = 12 := fun z => by
            have := (nI_eq (a := n) (b := 12) (by omega) (by decide)).1 z
            omega
          obtain ⟨Fg, f1, f2, f3⟩ := hcf g (by omega)
          -- what all this leaves to show of the new herd
          have fin : ∀ M', M' < 2 ^ (n + 1) → (∀ a, a < n + 1 → (upd m_sexes n x1 a = 0 ↔ M'.testBit a = true)) → RR hb (nI (n + 1)) (upd hf g (nI (Fg ||| 2 ^ n))) hl hk ht (nI M') he (upd hw n x2) sl 0 ss su ce cf cm 0 cs cn oa ob oy (nI (n + 1)) (upd m_sexes n x1) (upd hw n x2) (upd m_families n (nI g)) m_kins m_isBarred hl he ht (-1) 0 m_choice m_choiceSets m_he m_she m_eggs m_years m_alive m_yearSets m_yearWorths := by
            intro M' hM' hMx
            refine ⟨n + 1, M', rfl, rfl, rfl, rfl, rfl, rfl, rfl, ⟨⟨by omega, hM', fun f hf8 => ?_, hmo, hkg, hsym, fun a ha => ?_⟩, hMx, fun a ha => ?_, hbr, hbs, fun i j hi hj hz => hbz i j hi hj (by omega), fun a h1 h2 => hcz a (by omega) h2, fun a ha => ?_⟩, Or.inl rfl, RCh_no, hO, rfl⟩
            · by_cases e : f = g
              · subst e
                rw [pk_us]
                refine ⟨Fg ||| 2 ^ n, rfl, Nat.or_lt_two_pow (by omega) (by omega), fun a ha => ?_⟩
                rw [bit_new f2]
                by_cases ea : a = n
                · subst ea
                  rw [if_pos rfl, pk_us]
                  simp
                · rw [if_neg ea, pk_un ea]
                  exact f3 a (by omega)
              · rw [pk_un e]
                obtain ⟨Fm, k1, k2, k3⟩ := hcf f hf8
                refine ⟨Fm, k1, by omega, fun a ha => ?_⟩
                by_cases ea : a = n
                · subst ea
                  rw [tb_lt k2 (Nat.le_refl _), pk_us, nI_eq (by omega) (by omega)]
                  simp
                  omega
                · rw [pk_un ea]
                  exact k3 a (by omega)
            · by_cases ea : a = n
              · subst ea
                refine ⟨0, by rw [nI_0]; exact hcz a (Nat.le_refl _) hlt, Nat.two_pow_pos _, fun b hb' => ?_⟩
                rw [Nat.zero_testBit, hbz a b hlt (by omega) (Or.inl (Nat.le_refl _))]
                simp
              · obtain ⟨Bm, k1, k2, k3⟩ := hcb a (by omega)
                refine ⟨Bm, k1, by omega, fun b hb' => ?_⟩
                by_cases eb : b = n
                · subst eb
                  rw [tb_lt k2 (Nat.le_refl _), hbz a b (by omega) hlt (Or.inr (Nat.le_refl _))]
                  simp
                · exact k3 b (by omega)
            · by_cases ea : a = n
              · rw [ea, pk_us]
                exact hx1
              · rw [pk_un ea]
                exact hsx a (by omega)
            · by_cases ea : a = n
              · rw [ea, pk_us]
                exact r2
              · rw [pk_un ea]
                exact hwt a (by omega)
          refine w_ff ?_
          unfold wp_Herd_add
          refine ⟨iN, iG, w_bit (by omega) ⟨iG, ?_⟩⟩
          rw [nI_clamp (n := n) (by omega), nI_clamp (n := g) (by omega), f1, mk_or, nI_1, nI_pred]
          rcases hx1 with rfl | rfl
          · refine p1 rfl (w_bit (by omega) (w_i1 r1 (e1 (w_i1 r2 (e1 (w_i1 r3 (n1 (p0 hne12 (w_lv ⟨iN, iN, iN, rfl, ?_⟩)))))))))
            rw [mk_or]
            refine fin (M ||| 2 ^ n) (Nat.or_lt_two_pow (by omega) (by omega)) (fun a ha => ?_)
            rw [bit_new hMn]
            by_cases ea : a = n
            · rw [ea, pk_us, if_pos rfl]
              simp
            · rw [pk_un ea, if_neg ea]
              exact hM a (by omega)
          · refine p0 (by decide) (w_i1 r1 (e1 (w_i1 r2 (e1 (w_i1 r3 (n1 (p0 hne12 (w_lv ⟨iN, iN, iN, rfl, ?_⟩))))))))
            refine fin M (by omega) (fun a ha => ?_)
            by_cases ea : a = n
            · rw [ea, pk_us, tb_lt hMn (Nat.le_refl _)]
              decide
            · rw [pk_un ea]
              exact hM a (by omega)
        · have e12 : nI n = 12 := by rw [show n = 12 by omega]; rfl
          exact w_i1 r1 (e1 (w_i1 r2 (e1 (w_i1 r3 (n1 (p1 e12 ⟨rfl, R⟩))))))
      · exact w_w0 r3 (n0 (w_i1 r1 (e1 (w_i1 r2 (e1 (w_i0 r3 (n0 ⟨rfl, R⟩)))))))
    · exact w_w0 r2 (e0 (w_i1 r1 (e1 (w_i0 r2 (e0 ⟨rfl, R⟩)))))
  · exact w_w0 r1 (e0 (w_i0 r1 (e0 ⟨rfl, R⟩)))
