set_option maxHeartbeats 4000000 in
set_option maxRecDepth 100000 in
theorem c_M_pairOf (l : Launch) (dC : Nat → ClassId) (dI : Nat → Nat → Nat) (cI cJ cG cZ : ClassId) (q_this q_this_alive q_this_eggs q_this_families q_this_females q_this_he q_this_isBarred q_this_kins q_this_leasts q_this_males q_this_now q_this_points q_this_rests q_this_sexes q_this_she q_this_then q_this_worths q_this_yearSets q_this_yearWorths : Nat) (v_this_animals : Int32) (v_this_best : Int32) (v_this_bestWorth : Int32) (v_this_choice : Int32) (v_this_choiceSets : Int32) (v_this_he : (Nat → Int32)) (v_this_limit : Int32) (v_this_many : Int32) (v_this_most : Int32) (v_this_pairs : Int32) (v_this_sets : Int32) (v_this_she : (Nat → Int32)) (v_this_tested : Int32) (v_this_testedBy : Int32) (v_this_years : Int32) (x1 : Int32) (x2 : Int32) (post : Int32 → Prop) (h : wp_M_pairOf v_this_he v_this_pairs v_this_she x1 x2 post) : Met l y_M_pairOf w_M_pairOf ({ frames := 1, cells := 0, slots := 0, locals := 22 } : Room) (va_Pc [.ref q_this, .int x1, .int x2] (pcR dC dI cI cJ cG cZ ([(q_this, .inr (6, [.int v_this_animals, .ref q_this_sexes, .ref q_this_worths, .ref q_this_families, .ref q_this_kins, .ref q_this_isBarred, .int v_this_limit, .int v_this_most, .ref q_this_leasts, .int v_this_tested, .int v_this_testedBy, .int v_this_best, .int v_this_bestWorth, .int v_this_sets, .int v_this_many, .ref q_this_males, .ref q_this_females, .ref q_this_now, .ref q_this_then, .int v_this_pairs, .int v_this_choice, .int v_this_choiceSets, .ref q_this_he, .ref q_this_she, .ref q_this_eggs, .ref q_this_points, .ref q_this_rests, .int v_this_years, .ref q_this_alive, .ref q_this_yearSets, .ref q_this_yearWorths])), (q_this_he, .inl (cI, 6, .inl v_this_he)), (q_this_she, .inl (cI, 6, .inl v_this_she))]))) (vp_Si (fun r => post r)) 0 0 (fun _ => False) := by
  refine Met.ofW (cc := b_M_pairOf) (maxL := 3) (ret := (some .int)) (by decide) rfl ?_
  intro p e s m args below meth c s₁ B hml hv
  obtain ⟨rfl, hP, hK, hN⟩ := hv
  have hx := B.exec
  have hb := B.bytes
  have hr := B.returns
  have hts := atoms_spec (ws := w_M_pairOf) B.pre
  have hown : s.vm.findClass "PairChoiceModel" = some m.cls := findClass_of_methodNamed B.named
  have hlocks := B.notSynchronized
  have hl := lv_entry ([.ref q_this, .int x1, .int x2]) (n := 3) (Nat.le_of_ble_eq_true rfl)
  rw [lg_entry_eq]
  generalize (lg_sl ([.ref q_this, .int x1, .int x2]) ++ List.replicate (3 - (lg_sl ([.ref q_this, .int x1, .int x2])).length) Slot.unset).toArray = ls at hl ⊢
  have hl : lv_has ls 3 [(0, .ref q_this), (1, .int x1), (2, .int x2)] := hl
  unfold wp_M_pairOf at h
  refine lv_iload_n hx hb d_M_pairOf_0 rfl (lv_at hl 1 rfl) ?_
  refine lv_iconst (v := 0) hx hb d_M_pairOf_1 (by decide) ?_
  refine lv_aload_n hx hb d_M_pairOf_2 rfl (lv_at hl 0 rfl) ?_
  refine va_get (D := (dC, dI)) (ci := 6) (v := .int v_this_pairs) (C := "PairChoiceModel") (T := F_M) (N := 31) hx hb hts (fun w h => List.mem_cons_of_mem _ (i_M w h)) hown hK hP 0 rfl rfl 19 (by decide) (hts _ (List.mem_cons_of_mem _ kw_478)) (fun _ h9 => h9) rfl d_M_pairOf_3 ?_
  refine lv_iconst (v := 1) hx hb d_M_pairOf_6 (by decide) ?_
  refine lv_isub hx hb d_M_pairOf_7 ?_
  refine vp_callSi (va_Run.run (va_runS (As := [.int x1, .int 0, .int (v_this_pairs - 1)]) (rest := []) ⟨hx, hb, hml, hown, hts⟩ (c_M_isIn l dC dI cI cJ cG cZ     (x1 : Int32) (0 : Int32) ((v_this_pairs - 1) : Int32) _ h) (va_cwS 3 hts (gcS kw_558 kw_559 kw_45 kw_560) rfl rfl rfl (by decide +kernel) ⟨Nat.le_of_ble_eq_true rfl, Nat.le_of_ble_eq_true rfl⟩) ⟨fb_s, pre_s hK hN⟩ rfl rfl hl.1 rfl (lv_room (Nat.le_of_ble_eq_true rfl)) d_M_pairOf_8 ⟨Nat.zero_le _, Nat.zero_le _⟩)) (fun r1 h => ?_)
  obtain ⟨br1, h⟩ := h
  refine lv_if_ne (tgt := 18) hx hb d_M_pairOf_11 (by decide) (fun c2 => ?_) (fun c2 => ?_)
  · have h := h.1 c2
    refine lv_iload_n hx hb d_M_pairOf_18 rfl (lv_at hl 2 rfl) ?_
    refine lv_iconst (v := 0) hx hb d_M_pairOf_19 (by decide) ?_
    refine lv_iconst (v := 1) hx hb d_M_pairOf_20 (by decide) ?_
    refine vp_callSi (va_Run.run (va_runS (As := [.int x2, .int 0, .int 1]) (rest := []) ⟨hx, hb, hml, hown, hts⟩ (c_M_isIn l dC dI cI cJ cG cZ     (x2 : Int32) (0 : Int32) (1 : Int32) _ h) (va_cwS 3 hts (gcS kw_558 kw_559 kw_45 kw_560) rfl rfl rfl (by decide +kernel) ⟨Nat.le_of_ble_eq_true rfl, Nat.le_of_ble_eq_true rfl⟩) ⟨fb_s, pre_s hK hN⟩ rfl rfl hl.1 rfl (lv_room (Nat.le_of_ble_eq_true rfl)) d_M_pairOf_21 ⟨Nat.zero_le _, Nat.zero_le _⟩)) (fun r3 h => ?_)
    obtain ⟨br3, h⟩ := h
    refine lv_if_ne (tgt := 32) hx hb d_M_pairOf_24 (by decide) (fun c4 => ?_) (fun c4 => ?_)
    · have h := h.1 c4
      refine lv_iload_n hx hb d_M_pairOf_32 rfl (lv_at hl 2 rfl) ?_
      refine lv_if_ne (tgt := 45) hx hb d_M_pairOf_33 (by decide) (fun c5 => ?_) (fun c5 => ?_)
      · have h := h.1 c5
        refine lv_aload_n hx hb d_M_pairOf_45 rfl (lv_at hl 0 rfl) ?_
        refine va_get (D := (dC, dI)) (ci := 6) (v := .ref q_this_she) (C := "PairChoiceModel") (T := F_M) (N := 31) hx hb hts (fun w h => List.mem_cons_of_mem _ (i_M w h)) hown hK hP 0 rfl rfl 23 (by decide) (hts _ (List.mem_cons_of_mem _ kw_482)) (fun _ h9 => h9) rfl d_M_pairOf_46 ?_
        refine lv_iload_n hx hb d_M_pairOf_49 rfl (lv_at hl 1 rfl) ?_
        obtain ⟨i6, h⟩ := h
        refine va_iald hx hb hK hP 2 0 rfl rfl i6 d_M_pairOf_50 ?_
        exact W.iret hx hb hr (fun t ht hW => ⟨_, rfl, h, ht⟩) (fun _ h9 => by cases h9) d_M_pairOf_51
      · have h := h.2 c5
        refine lv_aload_n hx hb d_M_pairOf_36 rfl (lv_at hl 0 rfl) ?_
        refine va_get (D := (dC, dI)) (ci := 6) (v := .ref q_this_he) (C := "PairChoiceModel") (T := F_M) (N := 31) hx hb hts (fun w h => List.mem_cons_of_mem _ (i_M w h)) hown hK hP 0 rfl rfl 22 (by decide) (hts _ (List.mem_cons_of_mem _ kw_481)) (fun _ h9 => h9) rfl d_M_pairOf_37 ?_
        refine lv_iload_n hx hb d_M_pairOf_40 rfl (lv_at hl 1 rfl) ?_
        obtain ⟨i7, h⟩ := h
        refine va_iald hx hb hK hP 1 0 rfl rfl i7 d_M_pairOf_41 ?_
        refine lv_goto (tgt := 51) hx hb d_M_pairOf_42 (by decide) ?_
        exact W.iret hx hb hr (fun t ht hW => ⟨_, rfl, h, ht⟩) (fun _ h9 => by cases h9) d_M_pairOf_51
    · have h := h.2 c4
      refine lv_bipush (v := (-2)) hx hb d_M_pairOf_27 (by decide) ?_
      refine lv_goto (tgt := 51) hx hb d_M_pairOf_29 (by decide) ?_
      exact W.iret hx hb hr (fun t ht hW => ⟨_, rfl, h, ht⟩) (fun _ h9 => by cases h9) d_M_pairOf_51
  · have h := h.2 c2
    refine lv_iconst (v := (-1)) hx hb d_M_pairOf_14 (by decide) ?_
    refine lv_goto (tgt := 51) hx hb d_M_pairOf_15 (by decide) ?_
    exact W.iret hx hb hr (fun t ht hW => ⟨_, rfl, h, ht⟩) (fun _ h9 => by cases h9) d_M_pairOf_51
set_option maxHeartbeats 4000000 in
set_option maxRecDepth 100000 in
theorem c_M_told (l : Launch) (dC : Nat → ClassId) (dI : Nat → Nat → Nat) (cI cJ cG cZ : ClassId) (q_this q_this_alive q_this_eggs q_this_families q_this_females q_this_he q_this_isBarred q_this_kins q_this_leasts q_this_males q_this_now q_this_points q_this_rests q_this_sexes q_this_she q_this_then q_this_worths q_this_yearSets q_this_yearWorths : Nat) (v_this_animals : Int32) (v_this_best : Int32) (v_this_bestWorth : Int32) (v_this_choice : Int32) (v_this_choiceSets : Int32) (v_this_kins : (Nat → Int32)) (v_this_limit : Int32) (v_this_many : Int32) (v_this_most : Int32) (v_this_pairs : Int32) (v_this_sets : Int32) (v_this_tested : Int32) (v_this_testedBy : Int32) (v_this_worths : (Nat → Int32)) (v_this_years : Int32) (x1 : Int32) (post : Int32 → Prop) (h : wp_M_told v_this_animals v_this_choice v_this_choiceSets v_this_kins v_this_pairs v_this_tested v_this_testedBy v_this_worths x1 post) : Met l y_M_told w_M_told ({ frames := 1, cells := 0, slots := 0, locals := 24 } : Room) (va_Pc [.ref q_this, .int x1] (pcR dC dI cI cJ cG cZ ([(q_this, .inr (6, [.int v_this_animals, .ref q_this_sexes, .ref q_this_worths, .ref q_this_families, .ref q_this_kins, .ref q_this_isBarred, .int v_this_limit, .int v_this_most, .ref q_this_leasts, .int v_this_tested, .int v_this_testedBy, .int v_this_best, .int v_this_bestWorth, .int v_this_sets, .int v_this_many, .ref q_this_males, .ref q_this_females, .ref q_this_now, .ref q_this_then, .int v_this_pairs, .int v_this_choice, .int v_this_choiceSets, .ref q_this_he, .ref q_this_she, .ref q_this_eggs, .ref q_this_points, .ref q_this_rests, .int v_this_years, .ref q_this_alive, .ref q_this_yearSets, .ref q_this_yearWorths])), (q_this_kins, .inl (cI, 144, .inl v_this_kins)), (q_this_worths, .inl (cI, 12, .inl v_this_worths))]))) (vp_Si (fun r => post r)) 0 0 (fun _ => False) := by
  refine Met.ofW (cc := b_M_told) (maxL := 2) (ret := (some .int)) (by decide) rfl ?_
  intro p e s m args below meth c s₁ B hml hv
  obtain ⟨rfl, hP, hK, hN⟩ := hv
  have hx := B.exec
  have hb := B.bytes
  have hr := B.returns
  have hts := atoms_spec (ws := w_M_told) B.pre
  have hown : s.vm.findClass "PairChoiceModel" = some m.cls := findClass_of_methodNamed B.named
  have hlocks := B.notSynchronized
  have hl := lv_entry ([.ref q_this, .int x1]) (n := 2) (Nat.le_of_ble_eq_true rfl)
  rw [lg_entry_eq]
  generalize (lg_sl ([.ref q_this, .int x1]) ++ List.replicate (2 - (lg_sl ([.ref q_this, .int x1])).length) Slot.unset).toArray = ls at hl ⊢
  have hl : lv_has ls 2 [(0, .ref q_this), (1, .int x1)] := hl
  unfold wp_M_told at h
  refine lv_iload_n hx hb d_M_told_0 rfl (lv_at hl 1 rfl) ?_
  refine lv_iconst (v := 0) hx hb d_M_told_1 (by decide) ?_
  refine lv_iconst (v := 3) hx hb d_M_told_2 (by decide) ?_
  refine vp_callSi (va_Run.run (va_runS (As := [.int x1, .int 0, .int 3]) (rest := []) ⟨hx, hb, hml, hown, hts⟩ (c_M_isIn l dC dI cI cJ cG cZ     (x1 : Int32) (0 : Int32) (3 : Int32) _ h) (va_cwS 3 hts (gcS kw_558 kw_559 kw_45 kw_560) rfl rfl rfl (by decide +kernel) ⟨Nat.le_of_ble_eq_true rfl, Nat.le_of_ble_eq_true rfl⟩) ⟨fb_s, pre_s hK hN⟩ rfl rfl hl.1 rfl (lv_room (Nat.le_of_ble_eq_true rfl)) d_M_told_3 ⟨Nat.zero_le _, Nat.zero_le _⟩)) (fun r1 h => ?_)
  obtain ⟨br1, h⟩ := h
  refine lv_if_ne (tgt := 12) hx hb d_M_told_6 (by decide) (fun c2 => ?_) (fun c2 => ?_)
  · have h := h.1 c2
    refine lv_aload_n hx hb d_M_told_12 rfl (lv_at hl 0 rfl) ?_
    refine va_get (D := (dC, dI)) (ci := 6) (v := .int v_this_pairs) (C := "PairChoiceModel") (T := F_M) (N := 31) hx hb hts (fun w h => List.mem_cons_of_mem _ (i_M w h)) hown hK hP 0 rfl rfl 19 (by decide) (hts _ (List.mem_cons_of_mem _ kw_478)) (fun _ h9 => h9) rfl d_M_told_13 ?_
    refine lv_if_ne (tgt := 22) hx hb d_M_told_16 (by decide) (fun c3 => ?_) (fun c3 => ?_)
    · have h := h.1 c3
      refine lv_iload_n hx hb d_M_told_22 rfl (lv_at hl 1 rfl) ?_
      refine lv_if_ne (tgt := 37) hx hb d_M_told_23 (by decide) (fun c4 => ?_) (fun c4 => ?_)
      · have h := h.1 c4
        refine lv_iload_n hx hb d_M_told_37 rfl (lv_at hl 1 rfl) ?_
        refine lv_iconst (v := 1) hx hb d_M_told_38 (by decide) ?_
        refine lv_icmp_ne (tgt := 53) hx hb d_M_told_39 (by decide) (fun c5 => ?_) (fun c5 => ?_)
        · have h := h.1 c5
          refine lv_iload_n hx hb d_M_told_53 rfl (lv_at hl 1 rfl) ?_
          refine lv_iconst (v := 2) hx hb d_M_told_54 (by decide) ?_
          refine lv_icmp_ne (tgt := 65) hx hb d_M_told_55 (by decide) (fun c6 => ?_) (fun c6 => ?_)
          · have h := h.1 c6
            refine lv_aload_n hx hb d_M_told_65 rfl (lv_at hl 0 rfl) ?_
            refine va_get (D := (dC, dI)) (ci := 6) (v := .int v_this_choiceSets) (C := "PairChoiceModel") (T := F_M) (N := 31) hx hb hts (fun w h => List.mem_cons_of_mem _ (i_M w h)) hown hK hP 0 rfl rfl 21 (by decide) (hts _ (List.mem_cons_of_mem _ kw_480)) (fun _ h9 => h9) rfl d_M_told_66 ?_
            exact W.iret hx hb hr (fun t ht hW => ⟨_, rfl, h, ht⟩) (fun _ h9 => by cases h9) d_M_told_69
          · have h := h.2 c6
            refine lv_aload_n hx hb d_M_told_58 rfl (lv_at hl 0 rfl) ?_
            refine va_get (D := (dC, dI)) (ci := 6) (v := .int v_this_pairs) (C := "PairChoiceModel") (T := F_M) (N := 31) hx hb hts (fun w h => List.mem_cons_of_mem _ (i_M w h)) hown hK hP 0 rfl rfl 19 (by decide) (hts _ (List.mem_cons_of_mem _ kw_478)) (fun _ h9 => h9) rfl d_M_told_59 ?_
            refine lv_goto (tgt := 69) hx hb d_M_told_62 (by decide) ?_
            exact W.iret hx hb hr (fun t ht hW => ⟨_, rfl, h, ht⟩) (fun _ h9 => by cases h9) d_M_told_69
        · have h := h.2 c5
          refine lv_aload_n hx hb d_M_told_42 rfl (lv_at hl 0 rfl) ?_
          refine lv_aload_n hx hb d_M_told_43 rfl (lv_at hl 0 rfl) ?_
          refine va_get (D := (dC, dI)) (ci := 6) (v := .int v_this_choice) (C := "PairChoiceModel") (T := F_M) (N := 31) hx hb hts (fun w h => List.mem_cons_of_mem _ (i_M w h)) hown hK hP 0 rfl rfl 20 (by decide) (hts _ (List.mem_cons_of_mem _ kw_479)) (fun _ h9 => h9) rfl d_M_told_44 ?_
          have hPc := hP.sub (ws' := [(q_this, .inr (6, [.int v_this_animals, .ref q_this_sexes, .ref q_this_worths, .ref q_this_families, .ref q_this_kins, .ref q_this_isBarred, .int v_this_limit, .int v_this_most, .ref q_this_leasts, .int v_this_tested, .int v_this_testedBy, .int v_this_best, .int v_this_bestWorth, .int v_this_sets, .int v_this_many, .ref q_this_males, .ref q_this_females, .ref q_this_now, .ref q_this_then, .int v_this_pairs, .int v_this_choice, .int v_this_choiceSets, .ref q_this_he, .ref q_this_she, .ref q_this_eggs, .ref q_this_points, .ref q_this_rests, .int v_this_years, .ref q_this_alive, .ref q_this_yearSets, .ref q_this_yearWorths])), (q_this_kins, .inl (cI, 144, .inl v_this_kins))]) [0, 1] rfl
          refine vp_callSi (va_Run.run (va_runV (As := [.int v_this_choice]) (rest := []) ⟨hx, hb, hml, hown, hts⟩ (c_M_kinOf l dC dI cI cJ cG cZ  q_this q_this_alive q_this_eggs q_this_families q_this_females q_this_he q_this_isBarred q_this_kins q_this_leasts q_this_males q_this_now q_this_points q_this_rests q_this_sexes q_this_she q_this_then q_this_worths q_this_yearSets q_this_yearWorths  v_this_animals v_this_best v_this_bestWorth v_this_choice v_this_choiceSets v_this_kins v_this_limit v_this_many v_this_most v_this_pairs v_this_sets v_this_tested v_this_testedBy v_this_years (v_this_choice : Int32) _ h) (cwV 1 hts (gcV kw_613 kw_615 kw_33 kw_45 kw_616) rfl rfl rfl (by decide +kernel) ⟨Nat.le_of_ble_eq_true rfl, Nat.le_of_ble_eq_true rfl⟩) ⟨fb_r, va_recv hK hPc (ci := 6) (q0 := 0) rfl rfl, pre_r hPc hK hN⟩ rfl rfl hl.1 rfl (lv_room (Nat.le_of_ble_eq_true rfl)) d_M_told_47 ⟨Nat.zero_le _, Nat.zero_le _⟩)) (fun r7 h => ?_)
          refine lv_goto (tgt := 69) hx hb d_M_told_50 (by decide) ?_
          exact W.iret hx hb hr (fun t ht hW => ⟨_, rfl, h, ht⟩) (fun _ h9 => by cases h9) d_M_told_69
      · have h := h.2 c4
        refine lv_aload_n hx hb d_M_told_26 rfl (lv_at hl 0 rfl) ?_
        refine lv_aload_n hx hb d_M_told_27 rfl (lv_at hl 0 rfl) ?_
        refine va_get (D := (dC, dI)) (ci := 6) (v := .int v_this_choice) (C := "PairChoiceModel") (T := F_M) (N := 31) hx hb hts (fun w h => List.mem_cons_of_mem _ (i_M w h)) hown hK hP 0 rfl rfl 20 (by decide) (hts _ (List.mem_cons_of_mem _ kw_479)) (fun _ h9 => h9) rfl d_M_told_28 ?_
        have hPc := hP.sub (ws' := [(q_this, .inr (6, [.int v_this_animals, .ref q_this_sexes, .ref q_this_worths, .ref q_this_families, .ref q_this_kins, .ref q_this_isBarred, .int v_this_limit, .int v_this_most, .ref q_this_leasts, .int v_this_tested, .int v_this_testedBy, .int v_this_best, .int v_this_bestWorth, .int v_this_sets, .int v_this_many, .ref q_this_males, .ref q_this_females, .ref q_this_now, .ref q_this_then, .int v_this_pairs, .int v_this_choice, .int v_this_choiceSets, .ref q_this_he, .ref q_this_she, .ref q_this_eggs, .ref q_this_points, .ref q_this_rests, .int v_this_years, .ref q_this_alive, .ref q_this_yearSets, .ref q_this_yearWorths])), (q_this_worths, .inl (cI, 12, .inl v_this_worths))]) [0, 2] rfl
        refine vp_callSi (va_Run.run (va_runV (As := [.int v_this_choice]) (rest := []) ⟨hx, hb, hml, hown, hts⟩ (c_M_worthOf l dC dI cI cJ cG cZ  q_this q_this_alive q_this_eggs q_this_families q_this_females q_this_he q_this_isBarred q_this_kins q_this_leasts q_this_males q_this_now q_this_points q_this_rests q_this_sexes q_this_she q_this_then q_this_worths q_this_yearSets q_this_yearWorths  v_this_animals v_this_best v_this_bestWorth v_this_choice v_this_choiceSets v_this_limit v_this_many v_this_most v_this_pairs v_this_sets v_this_tested v_this_testedBy v_this_worths v_this_years (v_this_choice : Int32) _ h) (cwV 1 hts (gcV kw_625 kw_627 kw_36 kw_45 kw_628) rfl rfl rfl (by decide +kernel) ⟨Nat.le_of_ble_eq_true rfl, Nat.le_of_ble_eq_true rfl⟩) ⟨fb_r, va_recv hK hPc (ci := 6) (q0 := 0) rfl rfl, pre_r hPc hK hN⟩ rfl rfl hl.1 rfl (lv_room (Nat.le_of_ble_eq_true rfl)) d_M_told_31 ⟨Nat.zero_le _, Nat.zero_le _⟩)) (fun r8 h => ?_)
        refine lv_goto (tgt := 69) hx hb d_M_told_34 (by decide) ?_
        exact W.iret hx hb hr (fun t ht hW => ⟨_, rfl, h, ht⟩) (fun _ h9 => by cases h9) d_M_told_69
    · have h := h.2 c3
      refine lv_bipush (v := (-3)) hx hb d_M_told_19 (by decide) ?_
      exact W.iret hx hb hr (fun t ht hW => ⟨_, rfl, h, ht⟩) (fun _ h9 => by cases h9) d_M_told_21
  · have h := h.2 c2
    refine lv_bipush (v := (-2)) hx hb d_M_told_9 (by decide) ?_
    exact W.iret hx hb hr (fun t ht hW => ⟨_, rfl, h, ht⟩) (fun _ h9 => by cases h9) d_M_told_11
set_option maxHeartbeats 4000000 in
set_option maxRecDepth 100000 in
theorem c_M_pairWorth (l : Launch) (dC : Nat → ClassId) (dI : Nat → Nat → Nat) (cI cJ cG cZ : ClassId) (q_this q_this_alive q_this_eggs q_this_families q_this_females q_this_he q_this_isBarred q_this_kins q_this_leasts q_this_males q_this_now q_this_points q_this_rests q_this_sexes q_this_she q_this_then q_this_worths q_this_yearSets q_this_yearWorths : Nat) (v_this_animals : Int32) (v_this_best : Int32) (v_this_bestWorth : Int32) (v_this_choice : Int32) (v_this_choiceSets : Int32) (v_this_he : (Nat → Int32)) (v_this_limit : Int32) (v_this_many : Int32) (v_this_most : Int32) (v_this_pairs : Int32) (v_this_sets : Int32) (v_this_she : (Nat → Int32)) (v_this_tested : Int32) (v_this_testedBy : Int32) (v_this_worths : (Nat → Int32)) (v_this_years : Int32) (x1 : Int32) (post : Int32 → Prop) (h : wp_M_pairWorth v_this_he v_this_she v_this_worths x1 post) : Met l y_M_pairWorth w_M_pairWorth ({ frames := 0, cells := 0, slots := 0, locals := 0 } : Room) (va_Pc [.ref q_this, .int x1] (pcR dC dI cI cJ cG cZ ([(q_this, .inr (6, [.int v_this_animals, .ref q_this_sexes, .ref q_this_worths, .ref q_this_families, .ref q_this_kins, .ref q_this_isBarred, .int v_this_limit, .int v_this_most, .ref q_this_leasts, .int v_this_tested, .int v_this_testedBy, .int v_this_best, .int v_this_bestWorth, .int v_this_sets, .int v_this_many, .ref q_this_males, .ref q_this_females, .ref q_this_now, .ref q_this_then, .int v_this_pairs, .int v_this_choice, .int v_this_choiceSets, .ref q_this_he, .ref q_this_she, .ref q_this_eggs, .ref q_this_points, .ref q_this_rests, .int v_this_years, .ref q_this_alive, .ref q_this_yearSets, .ref q_this_yearWorths])), (q_this_he, .inl (cI, 6, .inl v_this_he)), (q_this_she, .inl (cI, 6, .inl v_this_she)), (q_this_worths, .inl (cI, 12, .inl v_this_worths))]))) (vp_Si (fun r => post r)) 0 0 (fun _ => False) := by
  refine Met.ofW (cc := b_M_pairWorth) (maxL := 2) (ret := (some .int)) (by decide) rfl ?_
  intro p e s m args below meth c s₁ B hml hv
  obtain ⟨rfl, hP, hK, hN⟩ := hv
  have hx := B.exec
  have hb := B.bytes
  have hr := B.returns
  have hts := atoms_spec (ws := w_M_pairWorth) B.pre
  have hown : s.vm.findClass "PairChoiceModel" = some m.cls := findClass_of_methodNamed B.named
  have hlocks := B.notSynchronized
  have hl := lv_entry ([.ref q_this, .int x1]) (n := 2) (Nat.le_of_ble_eq_true rfl)
  rw [lg_entry_eq]
  generalize (lg_sl ([.ref q_this, .int x1]) ++ List.replicate (2 - (lg_sl ([.ref q_this, .int x1])).length) Slot.unset).toArray = ls at hl ⊢
  have hl : lv_has ls 2 [(0, .ref q_this), (1, .int x1)] := hl
  unfold wp_M_pairWorth at h
  refine lv_aload_n hx hb d_M_pairWorth_0 rfl (lv_at hl 0 rfl) ?_
  refine va_get (D := (dC, dI)) (ci := 6) (v := .ref q_this_worths) (C := "PairChoiceModel") (T := F_M) (N := 31) hx hb hts (fun w h => List.mem_cons_of_mem _ (i_M w h)) hown hK hP 0 rfl rfl 2 (by decide) (hts _ (List.mem_cons_of_mem _ kw_461)) (fun _ h9 => h9) rfl d_M_pairWorth_1 ?_
  refine lv_aload_n hx hb d_M_pairWorth_4 rfl (lv_at hl 0 rfl) ?_
  refine va_get (D := (dC, dI)) (ci := 6) (v := .ref q_this_he) (C := "PairChoiceModel") (T := F_M) (N := 31) hx hb hts (fun w h => List.mem_cons_of_mem _ (i_M w h)) hown hK hP 0 rfl rfl 22 (by decide) (hts _ (List.mem_cons_of_mem _ kw_481)) (fun _ h9 => h9) rfl d_M_pairWorth_5 ?_
  refine lv_iload_n hx hb d_M_pairWorth_8 rfl (lv_at hl 1 rfl) ?_
  obtain ⟨i1, h⟩ := h
  refine va_iald hx hb hK hP 1 0 rfl rfl i1 d_M_pairWorth_9 ?_
  obtain ⟨i2, h⟩ := h
  refine va_iald hx hb hK hP 3 0 rfl rfl i2 d_M_pairWorth_10 ?_
  refine lv_aload_n hx hb d_M_pairWorth_11 rfl (lv_at hl 0 rfl) ?_
  refine va_get (D := (dC, dI)) (ci := 6) (v := .ref q_this_worths) (C := "PairChoiceModel") (T := F_M) (N := 31) hx hb hts (fun w h => List.mem_cons_of_mem _ (i_M w h)) hown hK hP 0 rfl rfl 2 (by decide) (hts _ (List.mem_cons_of_mem _ kw_461)) (fun _ h9 => h9) rfl d_M_pairWorth_12 ?_
  refine lv_aload_n hx hb d_M_pairWorth_15 rfl (lv_at hl 0 rfl) ?_
  refine va_get (D := (dC, dI)) (ci := 6) (v := .ref q_this_she) (C := "PairChoiceModel") (T := F_M) (N := 31) hx hb hts (fun w h => List.mem_cons_of_mem _ (i_M w h)) hown hK hP 0 rfl rfl 23 (by decide) (hts _ (List.mem_cons_of_mem _ kw_482)) (fun _ h9 => h9) rfl d_M_pairWorth_16 ?_
  refine lv_iload_n hx hb d_M_pairWorth_19 rfl (lv_at hl 1 rfl) ?_
  obtain ⟨i3, h⟩ := h
  refine va_iald hx hb hK hP 2 0 rfl rfl i3 d_M_pairWorth_20 ?_
  obtain ⟨i4, h⟩ := h
  refine va_iald hx hb hK hP 3 0 rfl rfl i4 d_M_pairWorth_21 ?_
  refine lv_iadd hx hb d_M_pairWorth_22 ?_
  exact W.iret hx hb hr (fun t ht hW => ⟨_, rfl, h, ht⟩) (fun _ h9 => by cases h9) d_M_pairWorth_23
