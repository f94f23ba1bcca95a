/-! kin, bar, animal -/
theorem ix_inj {a b c d : Nat} (hb : b < 12) (hd : d < 12) : 12 * a + b = 12 * c + d ↔ a = c ∧ b = d := by omega
theorem gup_at (k : Nat → Nat → Int32) (i j : Nat) (x : Int32) (a b : Nat) : gup k i j x a b = if a = i ∧ b = j then x else k a b := by
  unfold gup upd
  by_cases e : a = i
  · by_cases f : b = j
    · rw [if_pos e, if_pos f, if_pos ⟨e, f⟩]
    · rw [if_pos e, if_neg f, if_neg (fun z => f z.2)]
  · rw [if_neg e, if_neg (fun z => e z.1)]
set_option maxHeartbeats 4000000 in
theorem pu_kin {hb : (Nat → Int32)} {hc : Int32} {hf : (Nat → Int32)} {hl : Int32} {hk : (Nat → Nat → Int32)} {ht : (Nat → Int32)} {hm he : Int32} {hw sl : (Nat → Int32)} {sp ss : Int32} {su ce cf cm : (Nat → Int32)} {cp cs cn : Int32} {oa ob : (Nat → Int32)} {oy : Int32} {m_animals : Int32} {m_sexes m_worths m_families m_kins m_isBarred : (Nat → Int32)} {m_limit m_most : Int32} {m_leasts : (Nat → Int32)} {m_tested m_pairs m_choice m_choiceSets : Int32} {m_he m_she m_eggs : (Nat → Int32)} {m_years : Int32} {m_alive m_yearSets m_yearWorths : (Nat → Int32)} (R : RR hb hc hf hl hk ht hm he hw sl sp ss su ce cf cm cp cs cn oa ob oy m_animals m_sexes m_worths m_families m_kins m_isBarred m_limit m_most m_leasts m_tested m_pairs m_choice m_choiceSets m_he m_she m_eggs m_years m_alive m_yearSets m_yearWorths) (x1 : Int32) (x2 : Int32) (x3 : Int32) : wp_PairChoice_kin cp hc hk sp x1 x2 x3 (fun r cp' hk' sp' => wp_M_kin m_animals m_kins m_pairs x1 x2 x3 (fun r' m_kins' m_pairs' => r = r' ∧ RR hb hc hf hl hk' ht hm he hw sl sp' ss su ce cf cm cp' cs cn oa ob oy m_animals m_sexes m_worths m_families m_kins' m_isBarred m_limit m_most m_leasts m_tested m_pairs' m_choice m_choiceSets m_he m_she m_eggs m_years m_alive m_yearSets m_yearWorths)) := by
  obtain ⟨n, M, rfl, rfl, rfl, rfl, rfl, rfl, rfl, hH, hL, hC, hO, rfl⟩ := id R
  obtain ⟨⟨hn, hMn, hcf, hmo, hkg, hsym, hcb⟩, hrest⟩ := id hH
  unfold wp_PairChoice_kin wp_M_kin
  rcases ix_split n hn x1 with h | ⟨a, ha, rfl⟩
  · exact w_k0 hn h (e0 (w_a0 hn h (e0 ⟨rfl, R⟩)))
  · refine w_k1 hn ha (e1 ?_)
    rcases ix_split n hn x2 with h | ⟨b, hb', rfl⟩
    · exact w_k0 hn h (n0 (w_a1 hn ha (e1 (w_a0 hn h (n0 ⟨rfl, R⟩)))))
    · refine w_k1 hn hb' (n1 ?_)
      have ia : vp_in (nI a) 12 := vp_in_nI (by omega) (by decide)
      have ib : vp_in (nI b) 12 := vp_in_nI (by omega) (by decide)
      by_cases hr : 0 ≤ x3 ∧ x3 ≤ 1000
      · refine w_w1 hr (n1 ⟨ia, ib, ?_⟩)
        rw [nI_clamp (n := a) (by omega), nI_clamp (n := b) (by omega), ix12c (by omega) (by omega), ix12c (by omega) (by omega), hkg a b (by omega) (by omega)]
        have i1 := ix12i (a := a) (b := b) (by omega) (by omega)
        have i2 := ix12i (a := b) (b := a) (by omega) (by omega)
        by_cases hq : x3 = m_kins (12 * a + b)
        · refine q1 hq (w_a1 hn ha (e1 (w_a1 hn hb' (n1 (w_i1 hr (n1 ⟨i1, i1, i2, ?_⟩))))))
          refine q1 hq.symm ⟨rfl, ?_⟩
          have eu : upd (upd m_kins (12 * a + b) x3) (12 * b + a) x3 = m_kins := by
            rw [hq, upd_self, hsym a b (by omega) (by omega), upd_self]
          rw [eu]
          exact R
        · have key : ∀ i j, i < 12 → j < 12 → upd (upd m_kins (12 * a + b) x3) (12 * b + a) x3 (12 * i + j) = if (i = b ∧ j = a) ∨ (i = a ∧ j = b) then x3 else m_kins (12 * i + j) := by
            intro i j hi hj
            unfold upd
            by_cases c1 : i = b ∧ j = a
            · rw [if_pos (by omega), if_pos (Or.inl c1)]
            · rw [if_neg (by rw [ix_inj (by omega) (by omega)]; exact c1)]
              by_cases c2 : i = a ∧ j = b
              · rw [if_pos (by omega), if_pos (Or.inr c2)]
              · rw [if_neg (by rw [ix_inj (by omega) (by omega)]; exact c2), if_neg (fun z => z.elim c1 c2)]
          refine q0 hq ⟨ia, ib, ib, ia, w_ff (w_a1 hn ha (e1 (w_a1 hn hb' (n1 (w_i1 hr (n1 ⟨i1, i1, i2, ?_⟩))))))⟩
          refine q0 (fun z => hq z.symm) (w_lv ⟨rfl, n, M, rfl, rfl, rfl, rfl, rfl, rfl, rfl, ⟨⟨hn, hMn, hcf, hmo, fun i j hi hj => ?_, fun i j hi hj => ?_, hcb⟩, hrest⟩, Or.inl rfl, RCh_no, hO, rfl⟩)
          · rw [gup_at, gup_at, key i j hi hj]
            by_cases c1 : i = b ∧ j = a
            · rw [if_pos c1, if_pos (Or.inl c1)]
            · by_cases c2 : i = a ∧ j = b
              · rw [if_neg c1, if_pos c2, if_pos (Or.inr c2)]
              · rw [if_neg c1, if_neg c2, if_neg (fun z => z.elim c1 c2), hkg i j hi hj]
          · rw [key i j hi hj, key j i hj hi, hsym i j hi hj]
            by_cases c : (i = b ∧ j = a) ∨ (i = a ∧ j = b)
            · rw [if_pos c, if_pos (by omega)]
            · rw [if_neg c, if_neg (by omega)]
      · exact w_w0 hr (n0 (w_a1 hn ha (e1 (w_a1 hn hb' (n1 (w_i0 hr (n0 ⟨rfl, R⟩)))))))
set_option maxHeartbeats 4000000 in
theorem pu_bar {hb : (Nat → Int32)} {hc : Int32} {hf : (Nat → Int32)} {hl : Int32} {hk : (Nat → Nat → Int32)} {ht : (Nat → Int32)} {hm he : Int32} {hw sl : (Nat → Int32)} {sp ss : Int32} {su ce cf cm : (Nat → Int32)} {cp cs cn : Int32} {oa ob : (Nat → Int32)} {oy : Int32} {m_animals : Int32} {m_sexes m_worths m_families m_kins m_isBarred : (Nat → Int32)} {m_limit m_most : Int32} {m_leasts : (Nat → Int32)} {m_tested m_pairs m_choice m_choiceSets : Int32} {m_he m_she m_eggs : (Nat → Int32)} {m_years : Int32} {m_alive m_yearSets m_yearWorths : (Nat → Int32)} (R : RR hb hc hf hl hk ht hm he hw sl sp ss su ce cf cm cp cs cn oa ob oy m_animals m_sexes m_worths m_families m_kins m_isBarred m_limit m_most m_leasts m_tested m_pairs m_choice m_choiceSets m_he m_she m_eggs m_years m_alive m_yearSets m_yearWorths) (x1 : Int32) (x2 : Int32) (x3 : Int32) (hx : x3 = 0 ∨ x3 = 1) : wp_PairChoice_bar cp hb hc hm sp x1 x2 x3 (fun r cp' hb' sp' => wp_M_bar m_animals m_isBarred m_pairs m_sexes x1 x2 x3 (fun r' m_isBarred' m_pairs' => r = r' ∧ RR hb' hc hf hl hk ht hm he hw sl sp' ss su ce cf cm cp' cs cn oa ob oy m_animals m_sexes m_worths m_families m_kins m_isBarred' m_limit m_most m_leasts m_tested m_pairs' m_choice m_choiceSets m_he m_she m_eggs m_years m_alive m_yearSets m_yearWorths)) := by
  obtain ⟨n, M, rfl, rfl, rfl, rfl, rfl, rfl, rfl, hH, hL, hC, hO, rfl⟩ := id R
  obtain ⟨⟨hn, hMn, hcf, hmo, hkg, hsym, hcb⟩, hM, hsx, hbr, hbs, hbz, hcz, hwt⟩ := id hH
  have h12 : 2 ^ n ≤ 2 ^ 12 := Nat.pow_le_pow_right (by decide) hn
  unfold wp_PairChoice_bar wp_M_bar
  rcases ix_split n hn x1 with h | ⟨a, ha, rfl⟩
  · exact w_k0 hn h (e0 (w_a0 hn h (e0 ⟨rfl, R⟩)))
  · refine w_k1 hn ha (e1 ?_)
    rcases ix_split n hn x2 with h | ⟨b, hb', rfl⟩
    · exact w_k0 hn h (n0 (w_a1 hn ha (e1 (w_a0 hn h (e0 ⟨rfl, R⟩)))))
    · refine w_k1 hn hb' (n1 ?_)
      have ia : vp_in (nI a) 12 := vp_in_nI (by omega) (by decide)
      have ib : vp_in (nI b) 12 := vp_in_nI (by omega) (by decide)
      have i1 := ix12i (a := a) (b := b) (by omega) (by omega)
      have i2 := ix12i (a := b) (b := a) (by omega) (by omega)
      rw [nI_clamp (n := a) (by omega), nI_clamp (n := b) (by omega), ix12c (a := a) (b := b) (by omega) (by omega), ix12c (a := b) (b := a) (by omega) (by omega)]
      have hMa := hM a ha
      have hMb := hM b hb'
      -- of one sex
      have same : (M.testBit a = M.testBit b) ↔ m_sexes a = m_sexes b := by
        rcases hsx a ha with p | p <;> rcases hsx b hb' with q | q <;> rw [p] at hMa ⊢ <;> rw [q] at hMb ⊢ <;> cases h1 : M.testBit a <;> cases h2 : M.testBit b <;> rw [h1] at hMa <;> rw [h2] at hMb <;> simp at hMa hMb ⊢
      have hx1 : ∀ (s : Nat) (c : Nat) (post : Int32 → Prop), s < 2 ^ 31 → c < 32 → post (if s.testBit c = true then 1 else 0) → wp_PairChoice_has (nI s) (nI c) post := fun s c post hs hc hp => w_has hs hc (fun z => by rw [z] at hp; exact hp) (fun z => by rw [z] at hp; exact hp)
      refine hx1 M a _ (by omega) (by omega) (hx1 M b _ (by omega) (by omega) ?_)
      by_cases hs : M.testBit a = M.testBit b
      · refine q1 (by rw [hs]) (w_a1 hn ha (e1 (w_a1 hn hb' (e1 ⟨ia, ib, q1 (same.1 hs) ⟨rfl, R⟩⟩))))
      · have hne : ¬ (if M.testBit a = true then (1 : Int32) else 0) = (if M.testBit b = true then 1 else 0) := by
          cases h1 : M.testBit a <;> cases h2 : M.testBit b <;> rw [h1, h2] at hs <;> first | exact absurd rfl hs | decide
        refine q0 hne ⟨ia, ?_⟩
        obtain ⟨Ba, b1, b2, b3⟩ := hcb a ha
        obtain ⟨Bb, d1, d2, d3⟩ := hcb b hb'
        rw [b1]
        refine hx1 Ba b _ (by omega) (by omega) ?_
        have hsn : ¬ m_sexes a = m_sexes b := fun z => hs (same.2 z)
        have hval : (if Ba.testBit b = true then (1 : Int32) else 0) = m_isBarred (12 * a + b) := by
          have q := b3 b hb'
          rcases hbr a b (by omega) (by omega) with z | z
          · rw [z] at q ⊢
            rw [if_neg (fun w => q.1 w rfl)]
          · rw [z] at q ⊢
            rw [if_pos (q.2 (by decide))]
        rw [hval]
        by_cases hq : m_isBarred (12 * a + b) = x3
        · exact p1 hq (w_a1 hn ha (e1 (w_a1 hn hb' (e1 ⟨ia, ib, q0 hsn ⟨i1, p1 hq ⟨rfl, R⟩⟩⟩))))
        · have hab : ¬ a = b := fun z => hs (by rw [z])
          have hx3 : vp_nar .boolean x3 = x3 := by rcases hx with z | z <;> rw [z] <;> first | exact vn0 | exact vn1
          have hup : upd hb a (nI Ba ^^^ nI (2 ^ b)) b = hb b := pk_un (fun z => hab z.symm)
          refine p0 hq ⟨ia, w_bit (by omega) ⟨ia, ib, w_bit (by omega) ⟨ib, w_ff (w_a1 hn ha (e1 (w_a1 hn hb' (e1 ⟨ia, ib, q0 hsn ⟨i1, p0 hq ⟨i1, i2, w_lv ⟨rfl, ?_⟩⟩⟩⟩))))⟩⟩⟩
          rw [hx3, hup, d1, mk_xor, mk_xor]
          have key : ∀ i j, i < 12 → j < 12 → upd (upd m_isBarred (12 * a + b) x3) (12 * b + a) x3 (12 * i + j) = if (i = b ∧ j = a) ∨ (i = a ∧ j = b) then x3 else m_isBarred (12 * i + j) := by
            intro i j hi hj
            unfold upd
            by_cases c1 : i = b ∧ j = a
            · rw [if_pos (by omega), if_pos (Or.inl c1)]
            · rw [if_neg (by rw [ix_inj (by omega) (by omega)]; exact c1)]
              by_cases c2 : i = a ∧ j = b
              · rw [if_pos (by omega), if_pos (Or.inr c2)]
              · rw [if_neg (by rw [ix_inj (by omega) (by omega)]; exact c2), if_neg (fun z => z.elim c1 c2)]
          have flip : ∀ (B i j : Nat), B < 2 ^ n → j < n → i < 12 → (∀ c, c < n → (B.testBit c = true ↔ ¬ m_isBarred (12 * i + c) = 0)) → ((i = a ∧ j = b) ∨ (i = b ∧ j = a)) → (B ^^^ 2 ^ j) < 2 ^ n ∧ ∀ c, c < n → ((B ^^^ 2 ^ j).testBit c = true ↔ ¬ upd (upd m_isBarred (12 * a + b) x3) (12 * b + a) x3 (12 * i + c) = 0) := by
            intro B i j hB hj hi hc hij
            refine ⟨Nat.xor_lt_two_pow hB (Nat.pow_lt_pow_right (by decide) hj), fun c hcn => ?_⟩
            rw [key i c hi (by omega), Nat.testBit_xor, tb_pow]
            by_cases e : j = c
            · subst e
              rw [if_pos (by omega), decide_eq_true rfl]
              have q := hc j hcn
              have hv : m_isBarred (12 * i + j) = m_isBarred (12 * a + b) := by
                rcases hij with ⟨rfl, rfl⟩ | ⟨rfl, rfl⟩
                · rfl
                · exact hbs _ _ (by omega) (by omega)
              rw [hv] at q
              rcases hbr a b (by omega) (by omega) with z | z <;> rcases hx with w | w <;> rw [z, w] at hq <;> rw [z] at q <;> rw [w] <;> cases h1 : B.testBit j <;> rw [h1] at q <;> simp at q hq ⊢
            · rw [if_neg (by omega), decide_eq_false e, Bool.xor_false]
              exact hc c hcn
          refine ⟨n, M, rfl, rfl, rfl, rfl, rfl, rfl, rfl, ⟨⟨hn, hMn, hcf, hmo, hkg, hsym, fun i hi => ?_⟩, hM, hsx, fun i j hi hj => ?_, fun i j hi hj => ?_, fun i j hi hj hz => ?_, fun i h1 h2 => ?_, hwt⟩, Or.inl rfl, RCh_no, hO, rfl⟩
          · by_cases e : i = b
            · subst e
              rw [pk_us]
              obtain ⟨f1, f2⟩ := flip Bb i a d2 ha (by omega) d3 (Or.inr ⟨rfl, rfl⟩)
              exact ⟨_, rfl, f1, f2⟩
            · rw [pk_un e]
              by_cases e2 : i = a
              · subst e2
                rw [pk_us]
                obtain ⟨f1, f2⟩ := flip Ba i b b2 hb' (by omega) b3 (Or.inl ⟨rfl, rfl⟩)
                exact ⟨_, rfl, f1, f2⟩
              · rw [pk_un e2]
                obtain ⟨Bi, g1, g2, g3⟩ := hcb i hi
                refine ⟨Bi, g1, g2, fun c hc => ?_⟩
                rw [key i c (by omega) (by omega), if_neg (by omega)]
                exact g3 c hc
          · rw [key i j hi hj]
            split
            · exact hx
            · exact hbr i j hi hj
          · rw [key i j hi hj, key j i hj hi, hbs i j hi hj]
            by_cases c : (i = b ∧ j = a) ∨ (i = a ∧ j = b)
            · rw [if_pos c, if_pos (by omega)]
            · rw [if_neg c, if_neg (by omega)]
          · rw [key i j hi hj, if_neg (by omega)]
            exact hbz i j hi hj hz
          · rw [pk_un (by omega), pk_un (by omega)]
            exact hcz i h1 h2
