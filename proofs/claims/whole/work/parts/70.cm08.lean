set_option maxHeartbeats 4000000 in
set_option maxRecDepth 100000 in
theorem c_M_backUp (l : Launch) (dC : Nat → ClassId) (dI : Nat → Nat → Nat) (cI cJ cG cZ : ClassId) (q_this q_this_alive q_this_eggs q_this_families q_this_females q_this_he q_this_isBarred q_this_kins q_this_leasts q_this_males q_this_now q_this_points q_this_rests q_this_sexes q_this_she q_this_then q_this_worths q_this_yearSets q_this_yearWorths : Nat) (v_this_animals : Int32) (v_this_best : Int32) (v_this_bestWorth : Int32) (v_this_choice : Int32) (v_this_choiceSets : Int32) (v_this_families : (Nat → Int32)) (v_this_he : (Nat → Int32)) (v_this_isBarred : (Nat → Int32)) (v_this_kins : (Nat → Int32)) (v_this_leasts : (Nat → Int32)) (v_this_limit : Int32) (v_this_many : Int32) (v_this_most : Int32) (v_this_pairs : Int32) (v_this_sets : Int32) (v_this_sexes : (Nat → Int32)) (v_this_she : (Nat → Int32)) (v_this_tested : Int32) (v_this_testedBy : Int32) (v_this_worths : (Nat → Int32)) (v_this_years : Int32) (x1 : Int32) (post : Int32 → Prop) (h : wp_M_backUp v_this_animals v_this_choice v_this_families v_this_he v_this_isBarred v_this_kins v_this_leasts v_this_limit v_this_most v_this_pairs v_this_sexes v_this_she v_this_worths x1 post) : Met l y_M_backUp w_M_backUp ({ frames := 2, cells := 0, slots := 0, locals := 47 } : Room) (va_Pc [.ref q_this, .int x1] (pcR dC dI cI cJ cG cZ ([(q_this, .inr (6, [.int v_this_animals, .ref q_this_sexes, .ref q_this_worths, .ref q_this_families, .ref q_this_kins, .ref q_this_isBarred, .int v_this_limit, .int v_this_most, .ref q_this_leasts, .int v_this_tested, .int v_this_testedBy, .int v_this_best, .int v_this_bestWorth, .int v_this_sets, .int v_this_many, .ref q_this_males, .ref q_this_females, .ref q_this_now, .ref q_this_then, .int v_this_pairs, .int v_this_choice, .int v_this_choiceSets, .ref q_this_he, .ref q_this_she, .ref q_this_eggs, .ref q_this_points, .ref q_this_rests, .int v_this_years, .ref q_this_alive, .ref q_this_yearSets, .ref q_this_yearWorths])), (q_this_families, .inl (cI, 12, .inl v_this_families)), (q_this_he, .inl (cI, 6, .inl v_this_he)), (q_this_isBarred, .inl (cZ, 144, .inl v_this_isBarred)), (q_this_kins, .inl (cI, 144, .inl v_this_kins)), (q_this_leasts, .inl (cI, 8, .inl v_this_leasts)), (q_this_sexes, .inl (cI, 12, .inl v_this_sexes)), (q_this_she, .inl (cI, 6, .inl v_this_she)), (q_this_worths, .inl (cI, 12, .inl v_this_worths))]))) (vp_Si (fun r => post r)) 0 0 (fun _ => False) := by
  refine Met.ofW (cc := b_M_backUp) (maxL := 6) (ret := (some .int)) (by decide) rfl ?_
  intro p e s m args below meth c s₁ B hml hv
  obtain ⟨rfl, hP, hK, hN⟩ := hv
  have hx := B.exec
  have hb := B.bytes
  have hr := B.returns
  have hts := atoms_spec (ws := w_M_backUp) B.pre
  have hown : s.vm.findClass "PairChoiceModel" = some m.cls := findClass_of_methodNamed B.named
  have hlocks := B.notSynchronized
  have hl := lv_entry ([.ref q_this, .int x1]) (n := 6) (Nat.le_of_ble_eq_true rfl)
  rw [lg_entry_eq]
  generalize (lg_sl ([.ref q_this, .int x1]) ++ List.replicate (6 - (lg_sl ([.ref q_this, .int x1])).length) Slot.unset).toArray = ls at hl ⊢
  have hl : lv_has ls 6 [(0, .ref q_this), (1, .int x1)] := hl
  unfold wp_M_backUp at h
  refine lv_iload_n hx hb d_M_backUp_0 rfl (lv_at hl 1 rfl) ?_
  refine lv_iconst (v := 0) hx hb d_M_backUp_1 (by decide) ?_
  refine lv_aload_n hx hb d_M_backUp_2 rfl (lv_at hl 0 rfl) ?_
  refine va_get (D := (dC, dI)) (ci := 6) (v := .int v_this_pairs) (C := "PairChoiceModel") (T := F_M) (N := 31) hx hb hts (fun w h => List.mem_cons_of_mem _ (i_M w h)) hown hK hP 0 rfl rfl 19 (by decide) (hts _ (List.mem_cons_of_mem _ kw_478)) (fun _ h9 => h9) rfl d_M_backUp_3 ?_
  refine lv_iconst (v := 1) hx hb d_M_backUp_6 (by decide) ?_
  refine lv_isub hx hb d_M_backUp_7 ?_
  refine vp_callSi (va_Run.run (va_runS (As := [.int x1, .int 0, .int (v_this_pairs - 1)]) (rest := []) ⟨hx, hb, hml, hown, hts⟩ (c_M_isIn l dC dI cI cJ cG cZ     (x1 : Int32) (0 : Int32) ((v_this_pairs - 1) : Int32) _ h) (va_cwS 3 hts (gcS kw_558 kw_559 kw_45 kw_560) rfl rfl rfl (by decide +kernel) ⟨Nat.le_of_ble_eq_true rfl, Nat.le_of_ble_eq_true rfl⟩) ⟨fb_s, pre_s hK hN⟩ rfl rfl hl.1 rfl (lv_room (Nat.le_of_ble_eq_true rfl)) d_M_backUp_8 ⟨Nat.zero_le _, Nat.zero_le _⟩)) (fun r1 h => ?_)
  obtain ⟨br1, h⟩ := h
  refine lv_if_ne (tgt := 16) hx hb d_M_backUp_11 (by decide) (fun c2 => ?_) (fun c2 => ?_)
  · have h := h.1 c2
    refine lv_bipush (v := (-3)) hx hb d_M_backUp_16 (by decide) ?_
    refine lv_istore_n (lv' := [(2, .int (-3)), (0, .ref q_this), (1, .int x1)]) hx hb d_M_backUp_18 rfl hl (by decide) rfl (fun ls hl => ?_)
    refine lv_iconst (v := 0) hx hb d_M_backUp_19 (by decide) ?_
    refine lv_istore_n (lv' := [(3, .int 0), (2, .int (-3)), (0, .ref q_this), (1, .int x1)]) hx hb d_M_backUp_20 rfl hl (by decide) rfl (fun ls hl => ?_)
    obtain ⟨nn, h⟩ := h
    have lp21 : ∀ (n21 : Nat) (x2_21 : Int32) (x3_21 : Int32) (ls : Array Slot), wp_M_backUp_L21 v_this_animals v_this_choice v_this_families v_this_he v_this_isBarred v_this_kins v_this_leasts v_this_limit v_this_most v_this_pairs v_this_sexes v_this_she v_this_worths x1 post n21 x2_21 x3_21 → lv_has ls 6 [(3, .int x3_21), (2, .int x2_21), (0, .ref q_this), (1, .int x1)] → W p l e (headSpec w_M_backUp ({ frames := 2, cells := 0, slots := 0, locals := 47 } : Room)).room s m ([.ref q_this, .int x1] : List Value).toArray below meth c s.heap [] 0 0 (MQ below (vp_Si (fun r => post r)) ([.ref q_this, .int x1] : List Value).toArray s 0 0 (fun _ => False)) (F0 m 21 ls []) := by
      intro n21
      induction n21 with
      | zero =>
        intro x2_21 x3_21 ls h
        rw [wp_M_backUp_L21] at h
        exact h.elim
      | succ n21 ih21 =>
        intro x2_21 x3_21 ls h hl
        rw [wp_M_backUp_L21] at h
        refine lv_iload_n hx hb d_M_backUp_21 rfl (lv_at hl 0 rfl) ?_
        refine lv_aload_n hx hb d_M_backUp_22 rfl (lv_at hl 2 rfl) ?_
        refine va_get (D := (dC, dI)) (ci := 6) (v := .int v_this_animals) (C := "PairChoiceModel") (T := F_M) (N := 31) hx hb hts (fun w h => List.mem_cons_of_mem _ (i_M w h)) hown hK hP 0 rfl rfl 0 (by decide) (hts _ (List.mem_cons_of_mem _ kw_459)) (fun _ h9 => h9) rfl d_M_backUp_23 ?_
        refine lv_icmp_ge (tgt := 145) hx hb d_M_backUp_26 (by decide) (fun c3 => ?_) (fun c3 => ?_)
        · have h := h.1 c3
          refine lv_iload_n hx hb d_M_backUp_145 rfl (lv_at hl 1 rfl) ?_
          exact W.iret hx hb hr (fun t ht hW => ⟨_, rfl, h, ht⟩) (fun _ h9 => by cases h9) d_M_backUp_146
        · have h := h.2 c3
          refine lv_aload_n hx hb d_M_backUp_29 rfl (lv_at hl 2 rfl) ?_
          refine va_get (D := (dC, dI)) (ci := 6) (v := .int v_this_choice) (C := "PairChoiceModel") (T := F_M) (N := 31) hx hb hts (fun w h => List.mem_cons_of_mem _ (i_M w h)) hown hK hP 0 rfl rfl 20 (by decide) (hts _ (List.mem_cons_of_mem _ kw_479)) (fun _ h9 => h9) rfl d_M_backUp_30 ?_
          refine lv_iconst (v := 1) hx hb d_M_backUp_33 (by decide) ?_
          refine lv_aload_n hx hb d_M_backUp_34 rfl (lv_at hl 2 rfl) ?_
          refine va_get (D := (dC, dI)) (ci := 6) (v := .ref q_this_he) (C := "PairChoiceModel") (T := F_M) (N := 31) hx hb hts (fun w h => List.mem_cons_of_mem _ (i_M w h)) hown hK hP 0 rfl rfl 22 (by decide) (hts _ (List.mem_cons_of_mem _ kw_481)) (fun _ h9 => h9) rfl d_M_backUp_35 ?_
          refine lv_iload_n hx hb d_M_backUp_38 rfl (lv_at hl 3 rfl) ?_
          obtain ⟨i4, h⟩ := h
          refine va_iald hx hb hK hP 2 0 rfl rfl i4 d_M_backUp_39 ?_
          refine lv_ishl hx hb d_M_backUp_40 ?_
          refine lv_iconst (v := (-1)) hx hb d_M_backUp_41 (by decide) ?_
          refine lv_ixor hx hb d_M_backUp_42 ?_
          refine lv_iand hx hb d_M_backUp_43 ?_
          refine lv_iconst (v := 1) hx hb d_M_backUp_44 (by decide) ?_
          refine lv_iload_n hx hb d_M_backUp_45 rfl (lv_at hl 0 rfl) ?_
          refine lv_ishl hx hb d_M_backUp_46 ?_
          refine lv_ior hx hb d_M_backUp_47 ?_
          refine lv_istore (lv' := [(4, .int ((v_this_choice &&& (((1 : Int32) <<< ((v_this_he x1.toNatClampNeg) &&& 31)) ^^^ (-1))) ||| ((1 : Int32) <<< (x3_21 &&& 31)))), (3, .int x3_21), (2, .int x2_21), (0, .ref q_this), (1, .int x1)]) hx hb d_M_backUp_48 hl (by decide) rfl (fun ls hl => ?_)
          refine lv_aload_n hx hb d_M_backUp_50 rfl (lv_at hl 3 rfl) ?_
          refine va_get (D := (dC, dI)) (ci := 6) (v := .ref q_this_sexes) (C := "PairChoiceModel") (T := F_M) (N := 31) hx hb hts (fun w h => List.mem_cons_of_mem _ (i_M w h)) hown hK hP 0 rfl rfl 1 (by decide) (hts _ (List.mem_cons_of_mem _ kw_460)) (fun _ h9 => h9) rfl d_M_backUp_51 ?_
          refine lv_iload_n hx hb d_M_backUp_54 rfl (lv_at hl 1 rfl) ?_
          obtain ⟨i5, h⟩ := h
          refine va_iald hx hb hK hP 6 0 rfl rfl i5 d_M_backUp_55 ?_
          refine lv_if_ne (tgt := 106) hx hb d_M_backUp_56 (by decide) (fun c6 => ?_) (fun c6 => ?_)
          · have h := h.1 c6
            refine lv_iconst (v := 0) hx hb d_M_backUp_106 (by decide) ?_
            refine lv_istore (lv' := [(5, .int 0), (4, .int ((v_this_choice &&& (((1 : Int32) <<< ((v_this_he x1.toNatClampNeg) &&& 31)) ^^^ (-1))) ||| ((1 : Int32) <<< (x3_21 &&& 31)))), (3, .int x3_21), (2, .int x2_21), (0, .ref q_this), (1, .int x1)]) hx hb d_M_backUp_107 hl (by decide) rfl (fun ls hl => ?_)
            refine lv_iload hx hb d_M_backUp_109 (lv_at hl 0 rfl) ?_
            refine lv_if_eq (tgt := 137) hx hb d_M_backUp_111 (by decide) (fun _ => ?_) (fun c7 => absurd c7 (by decide))
            refine lv_iload_n hx hb d_M_backUp_137 rfl (lv_at hl 3 rfl) ?_
            refine lv_istore_n (lv' := [(2, .int x2_21), (5, .int 0), (4, .int ((v_this_choice &&& (((1 : Int32) <<< ((v_this_he x1.toNatClampNeg) &&& 31)) ^^^ (-1))) ||| ((1 : Int32) <<< (x3_21 &&& 31)))), (3, .int x3_21), (0, .ref q_this), (1, .int x1)]) hx hb d_M_backUp_138 rfl hl (by decide) rfl (fun ls hl => ?_)
            refine lv_iinc (v := (x3_21 + 1)) (lv' := [(3, .int (x3_21 + 1)), (2, .int x2_21), (5, .int 0), (4, .int ((v_this_choice &&& (((1 : Int32) <<< ((v_this_he x1.toNatClampNeg) &&& 31)) ^^^ (-1))) ||| ((1 : Int32) <<< (x3_21 &&& 31)))), (0, .ref q_this), (1, .int x1)]) hx hb d_M_backUp_139 hl (k := 3) rfl rfl (by decide) rfl (fun ls hl => ?_)
            refine lv_goto (tgt := 21) hx hb d_M_backUp_142 (by decide) ?_
            exact ih21 x2_21 (x3_21 + 1) ls h (lv_sub hl [0, 1, 4, 5] rfl)
          · have h := h.2 c6
            refine lv_aload_n hx hb d_M_backUp_59 rfl (lv_at hl 3 rfl) ?_
            refine va_get (D := (dC, dI)) (ci := 6) (v := .int v_this_choice) (C := "PairChoiceModel") (T := F_M) (N := 31) hx hb hts (fun w h => List.mem_cons_of_mem _ (i_M w h)) hown hK hP 0 rfl rfl 20 (by decide) (hts _ (List.mem_cons_of_mem _ kw_479)) (fun _ h9 => h9) rfl d_M_backUp_60 ?_
            refine lv_iload_n hx hb d_M_backUp_63 rfl (lv_at hl 1 rfl) ?_
            refine lv_ishr hx hb d_M_backUp_64 ?_
            refine lv_iconst (v := 1) hx hb d_M_backUp_65 (by decide) ?_
            refine lv_iand hx hb d_M_backUp_66 ?_
            refine lv_if_ne (tgt := 106) hx hb d_M_backUp_67 (by decide) (fun c8 => ?_) (fun c8 => ?_)
            · have h := h.1 c8
              refine lv_iconst (v := 0) hx hb d_M_backUp_106 (by decide) ?_
              refine lv_istore (lv' := [(5, .int 0), (4, .int ((v_this_choice &&& (((1 : Int32) <<< ((v_this_he x1.toNatClampNeg) &&& 31)) ^^^ (-1))) ||| ((1 : Int32) <<< (x3_21 &&& 31)))), (3, .int x3_21), (2, .int x2_21), (0, .ref q_this), (1, .int x1)]) hx hb d_M_backUp_107 hl (by decide) rfl (fun ls hl => ?_)
              refine lv_iload hx hb d_M_backUp_109 (lv_at hl 0 rfl) ?_
              refine lv_if_eq (tgt := 137) hx hb d_M_backUp_111 (by decide) (fun _ => ?_) (fun c9 => absurd c9 (by decide))
              refine lv_iload_n hx hb d_M_backUp_137 rfl (lv_at hl 3 rfl) ?_
              refine lv_istore_n (lv' := [(2, .int x2_21), (5, .int 0), (4, .int ((v_this_choice &&& (((1 : Int32) <<< ((v_this_he x1.toNatClampNeg) &&& 31)) ^^^ (-1))) ||| ((1 : Int32) <<< (x3_21 &&& 31)))), (3, .int x3_21), (0, .ref q_this), (1, .int x1)]) hx hb d_M_backUp_138 rfl hl (by decide) rfl (fun ls hl => ?_)
              refine lv_iinc (v := (x3_21 + 1)) (lv' := [(3, .int (x3_21 + 1)), (2, .int x2_21), (5, .int 0), (4, .int ((v_this_choice &&& (((1 : Int32) <<< ((v_this_he x1.toNatClampNeg) &&& 31)) ^^^ (-1))) ||| ((1 : Int32) <<< (x3_21 &&& 31)))), (0, .ref q_this), (1, .int x1)]) hx hb d_M_backUp_139 hl (k := 3) rfl rfl (by decide) rfl (fun ls hl => ?_)
              refine lv_goto (tgt := 21) hx hb d_M_backUp_142 (by decide) ?_
              exact ih21 x2_21 (x3_21 + 1) ls h (lv_sub hl [0, 1, 4, 5] rfl)
            · have h := h.2 c8
              refine lv_aload_n hx hb d_M_backUp_70 rfl (lv_at hl 3 rfl) ?_
              refine va_get (D := (dC, dI)) (ci := 6) (v := .ref q_this_isBarred) (C := "PairChoiceModel") (T := F_M) (N := 31) hx hb hts (fun w h => List.mem_cons_of_mem _ (i_M w h)) hown hK hP 0 rfl rfl 5 (by decide) (hts _ (List.mem_cons_of_mem _ kw_464)) (fun _ h9 => h9) rfl d_M_backUp_71 ?_
              refine lv_bipush (v := 12) hx hb d_M_backUp_74 (by decide) ?_
              refine lv_iload_n hx hb d_M_backUp_76 rfl (lv_at hl 1 rfl) ?_
              refine lv_imul hx hb d_M_backUp_77 ?_
              refine lv_aload_n hx hb d_M_backUp_78 rfl (lv_at hl 3 rfl) ?_
              refine va_get (D := (dC, dI)) (ci := 6) (v := .ref q_this_she) (C := "PairChoiceModel") (T := F_M) (N := 31) hx hb hts (fun w h => List.mem_cons_of_mem _ (i_M w h)) hown hK hP 0 rfl rfl 23 (by decide) (hts _ (List.mem_cons_of_mem _ kw_482)) (fun _ h9 => h9) rfl d_M_backUp_79 ?_
              refine lv_iload_n hx hb d_M_backUp_82 rfl (lv_at hl 4 rfl) ?_
              obtain ⟨i10, h⟩ := h
              refine va_iald hx hb hK hP 7 0 rfl rfl i10 d_M_backUp_83 ?_
              refine lv_iadd hx hb d_M_backUp_84 ?_
              obtain ⟨i11, h⟩ := h
              refine va_zald hx hb hK hP 3 3 rfl rfl i11 d_M_backUp_85 ?_
              refine lv_if_ne (tgt := 106) hx hb d_M_backUp_86 (by decide) (fun c12 => ?_) (fun c12 => ?_)
              · have h := h.1 c12
                refine lv_iconst (v := 0) hx hb d_M_backUp_106 (by decide) ?_
                refine lv_istore (lv' := [(5, .int 0), (4, .int ((v_this_choice &&& (((1 : Int32) <<< ((v_this_he x1.toNatClampNeg) &&& 31)) ^^^ (-1))) ||| ((1 : Int32) <<< (x3_21 &&& 31)))), (3, .int x3_21), (2, .int x2_21), (0, .ref q_this), (1, .int x1)]) hx hb d_M_backUp_107 hl (by decide) rfl (fun ls hl => ?_)
                refine lv_iload hx hb d_M_backUp_109 (lv_at hl 0 rfl) ?_
                refine lv_if_eq (tgt := 137) hx hb d_M_backUp_111 (by decide) (fun _ => ?_) (fun c13 => absurd c13 (by decide))
                refine lv_iload_n hx hb d_M_backUp_137 rfl (lv_at hl 3 rfl) ?_
                refine lv_istore_n (lv' := [(2, .int x2_21), (5, .int 0), (4, .int ((v_this_choice &&& (((1 : Int32) <<< ((v_this_he x1.toNatClampNeg) &&& 31)) ^^^ (-1))) ||| ((1 : Int32) <<< (x3_21 &&& 31)))), (3, .int x3_21), (0, .ref q_this), (1, .int x1)]) hx hb d_M_backUp_138 rfl hl (by decide) rfl (fun ls hl => ?_)
                refine lv_iinc (v := (x3_21 + 1)) (lv' := [(3, .int (x3_21 + 1)), (2, .int x2_21), (5, .int 0), (4, .int ((v_this_choice &&& (((1 : Int32) <<< ((v_this_he x1.toNatClampNeg) &&& 31)) ^^^ (-1))) ||| ((1 : Int32) <<< (x3_21 &&& 31)))), (0, .ref q_this), (1, .int x1)]) hx hb d_M_backUp_139 hl (k := 3) rfl rfl (by decide) rfl (fun ls hl => ?_)
                refine lv_goto (tgt := 21) hx hb d_M_backUp_142 (by decide) ?_
                exact ih21 x2_21 (x3_21 + 1) ls h (lv_sub hl [0, 1, 4, 5] rfl)
              · have h := h.2 c12
                refine lv_aload_n hx hb d_M_backUp_89 rfl (lv_at hl 3 rfl) ?_
                refine lv_iload hx hb d_M_backUp_90 (lv_at hl 0 rfl) ?_
                refine lv_aload_n hx hb d_M_backUp_92 rfl (lv_at hl 3 rfl) ?_
                refine va_get (D := (dC, dI)) (ci := 6) (v := .int v_this_pairs) (C := "PairChoiceModel") (T := F_M) (N := 31) hx hb hts (fun w h => List.mem_cons_of_mem _ (i_M w h)) hown hK hP 0 rfl rfl 19 (by decide) (hts _ (List.mem_cons_of_mem _ kw_478)) (fun _ h9 => h9) rfl d_M_backUp_93 ?_
                have hPc := hP.sub (ws' := [(q_this, .inr (6, [.int v_this_animals, .ref q_this_sexes, .ref q_this_worths, .ref q_this_families, .ref q_this_kins, .ref q_this_isBarred, .int v_this_limit, .int v_this_most, .ref q_this_leasts, .int v_this_tested, .int v_this_testedBy, .int v_this_best, .int v_this_bestWorth, .int v_this_sets, .int v_this_many, .ref q_this_males, .ref q_this_females, .ref q_this_now, .ref q_this_then, .int v_this_pairs, .int v_this_choice, .int v_this_choiceSets, .ref q_this_he, .ref q_this_she, .ref q_this_eggs, .ref q_this_points, .ref q_this_rests, .int v_this_years, .ref q_this_alive, .ref q_this_yearSets, .ref q_this_yearWorths])), (q_this_families, .inl (cI, 12, .inl v_this_families)), (q_this_kins, .inl (cI, 144, .inl v_this_kins)), (q_this_leasts, .inl (cI, 8, .inl v_this_leasts))]) [0, 1, 4, 5] rfl
                refine vp_callSi (va_Run.run (va_runV (As := [.int ((v_this_choice &&& (((1 : Int32) <<< ((v_this_he x1.toNatClampNeg) &&& 31)) ^^^ (-1))) ||| ((1 : Int32) <<< (x3_21 &&& 31))), .int v_this_pairs]) (rest := []) ⟨hx, hb, hml, hown, hts⟩ (c_M_fits l dC dI cI cJ cG cZ  q_this q_this_alive q_this_eggs q_this_families q_this_females q_this_he q_this_isBarred q_this_kins q_this_leasts q_this_males q_this_now q_this_points q_this_rests q_this_sexes q_this_she q_this_then q_this_worths q_this_yearSets q_this_yearWorths  v_this_animals v_this_best v_this_bestWorth v_this_choice v_this_choiceSets v_this_families v_this_kins v_this_leasts v_this_limit v_this_many v_this_most v_this_pairs v_this_sets v_this_tested v_this_testedBy v_this_years (((v_this_choice &&& (((1 : Int32) <<< ((v_this_he x1.toNatClampNeg) &&& 31)) ^^^ (-1))) ||| ((1 : Int32) <<< (x3_21 &&& 31))) : Int32) (v_this_pairs : Int32) _ h) (cwV 2 hts (gcV kw_609 kw_611 kw_32 kw_45 kw_612) rfl rfl rfl (by decide +kernel) ⟨Nat.le_of_ble_eq_true rfl, Nat.le_of_ble_eq_true rfl⟩) ⟨fb_r, va_recv hK hPc (ci := 6) (q0 := 0) rfl rfl, pre_r hPc hK hN⟩ rfl rfl hl.1 rfl (lv_room (Nat.le_of_ble_eq_true rfl)) d_M_backUp_96 ⟨Nat.zero_le _, Nat.zero_le _⟩)) (fun r14 h => ?_)
                obtain ⟨br14, h⟩ := h
                refine lv_if_eq (tgt := 106) hx hb d_M_backUp_99 (by decide) (fun c15 => ?_) (fun c15 => ?_)
                · have h := h.1 c15
                  refine lv_iconst (v := 0) hx hb d_M_backUp_106 (by decide) ?_
                  refine lv_istore (lv' := [(5, .int 0), (4, .int ((v_this_choice &&& (((1 : Int32) <<< ((v_this_he x1.toNatClampNeg) &&& 31)) ^^^ (-1))) ||| ((1 : Int32) <<< (x3_21 &&& 31)))), (3, .int x3_21), (2, .int x2_21), (0, .ref q_this), (1, .int x1)]) hx hb d_M_backUp_107 hl (by decide) rfl (fun ls hl => ?_)
                  refine lv_iload hx hb d_M_backUp_109 (lv_at hl 0 rfl) ?_
                  refine lv_if_eq (tgt := 137) hx hb d_M_backUp_111 (by decide) (fun _ => ?_) (fun c16 => absurd c16 (by decide))
                  refine lv_iload_n hx hb d_M_backUp_137 rfl (lv_at hl 3 rfl) ?_
                  refine lv_istore_n (lv' := [(2, .int x2_21), (5, .int 0), (4, .int ((v_this_choice &&& (((1 : Int32) <<< ((v_this_he x1.toNatClampNeg) &&& 31)) ^^^ (-1))) ||| ((1 : Int32) <<< (x3_21 &&& 31)))), (3, .int x3_21), (0, .ref q_this), (1, .int x1)]) hx hb d_M_backUp_138 rfl hl (by decide) rfl (fun ls hl => ?_)
                  refine lv_iinc (v := (x3_21 + 1)) (lv' := [(3, .int (x3_21 + 1)), (2, .int x2_21), (5, .int 0), (4, .int ((v_this_choice &&& (((1 : Int32) <<< ((v_this_he x1.toNatClampNeg) &&& 31)) ^^^ (-1))) ||| ((1 : Int32) <<< (x3_21 &&& 31)))), (0, .ref q_this), (1, .int x1)]) hx hb d_M_backUp_139 hl (k := 3) rfl rfl (by decide) rfl (fun ls hl => ?_)
                  refine lv_goto (tgt := 21) hx hb d_M_backUp_142 (by decide) ?_
                  exact ih21 x2_21 (x3_21 + 1) ls h (lv_sub hl [0, 1, 4, 5] rfl)
                · have h := h.2 c15
                  refine lv_iconst (v := 1) hx hb d_M_backUp_102 (by decide) ?_
                  refine lv_goto (tgt := 107) hx hb d_M_backUp_103 (by decide) ?_
                  refine lv_istore (lv' := [(5, .int 1), (4, .int ((v_this_choice &&& (((1 : Int32) <<< ((v_this_he x1.toNatClampNeg) &&& 31)) ^^^ (-1))) ||| ((1 : Int32) <<< (x3_21 &&& 31)))), (3, .int x3_21), (2, .int x2_21), (0, .ref q_this), (1, .int x1)]) hx hb d_M_backUp_107 hl (by decide) rfl (fun ls hl => ?_)
                  refine lv_iload hx hb d_M_backUp_109 (lv_at hl 0 rfl) ?_
                  refine lv_if_eq (tgt := 137) hx hb d_M_backUp_111 (by decide) (fun c17 => absurd c17 (by decide)) (fun _ => ?_)
                  refine lv_iload_n hx hb d_M_backUp_114 rfl (lv_at hl 3 rfl) ?_
                  refine lv_if_lt (tgt := 133) hx hb d_M_backUp_115 (by decide) (fun c18 => ?_) (fun c18 => ?_)
                  · have h := h.1 c18
                    refine lv_iload_n hx hb d_M_backUp_133 rfl (lv_at hl 2 rfl) ?_
                    refine lv_goto (tgt := 138) hx hb d_M_backUp_134 (by decide) ?_
                    refine lv_istore_n (lv' := [(2, .int x3_21), (5, .int 1), (4, .int ((v_this_choice &&& (((1 : Int32) <<< ((v_this_he x1.toNatClampNeg) &&& 31)) ^^^ (-1))) ||| ((1 : Int32) <<< (x3_21 &&& 31)))), (3, .int x3_21), (0, .ref q_this), (1, .int x1)]) hx hb d_M_backUp_138 rfl hl (by decide) rfl (fun ls hl => ?_)
                    refine lv_iinc (v := (x3_21 + 1)) (lv' := [(3, .int (x3_21 + 1)), (2, .int x3_21), (5, .int 1), (4, .int ((v_this_choice &&& (((1 : Int32) <<< ((v_this_he x1.toNatClampNeg) &&& 31)) ^^^ (-1))) ||| ((1 : Int32) <<< (x3_21 &&& 31)))), (0, .ref q_this), (1, .int x1)]) hx hb d_M_backUp_139 hl (k := 3) rfl rfl (by decide) rfl (fun ls hl => ?_)
                    refine lv_goto (tgt := 21) hx hb d_M_backUp_142 (by decide) ?_
                    exact ih21 x3_21 (x3_21 + 1) ls h (lv_sub hl [0, 1, 4, 5] rfl)
                  · have h := h.2 c18
                    refine lv_aload_n hx hb d_M_backUp_118 rfl (lv_at hl 4 rfl) ?_
                    refine va_get (D := (dC, dI)) (ci := 6) (v := .ref q_this_worths) (C := "PairChoiceModel") (T := F_M) (N := 31) hx hb hts (fun w h => List.mem_cons_of_mem _ (i_M w h)) hown hK hP 0 rfl rfl 2 (by decide) (hts _ (List.mem_cons_of_mem _ kw_461)) (fun _ h9 => h9) rfl d_M_backUp_119 ?_
                    refine lv_iload_n hx hb d_M_backUp_122 rfl (lv_at hl 2 rfl) ?_
                    obtain ⟨i19, h⟩ := h
                    refine va_iald hx hb hK hP 8 0 rfl rfl i19 d_M_backUp_123 ?_
                    refine lv_aload_n hx hb d_M_backUp_124 rfl (lv_at hl 4 rfl) ?_
                    refine va_get (D := (dC, dI)) (ci := 6) (v := .ref q_this_worths) (C := "PairChoiceModel") (T := F_M) (N := 31) hx hb hts (fun w h => List.mem_cons_of_mem _ (i_M w h)) hown hK hP 0 rfl rfl 2 (by decide) (hts _ (List.mem_cons_of_mem _ kw_461)) (fun _ h9 => h9) rfl d_M_backUp_125 ?_
                    refine lv_iload_n hx hb d_M_backUp_128 rfl (lv_at hl 3 rfl) ?_
                    obtain ⟨i20, h⟩ := h
                    refine va_iald hx hb hK hP 8 0 rfl rfl i20 d_M_backUp_129 ?_
                    refine lv_icmp_le (tgt := 137) hx hb d_M_backUp_130 (by decide) (fun c21 => ?_) (fun c21 => ?_)
                    · have h := h.1 c21
                      refine lv_iload_n hx hb d_M_backUp_137 rfl (lv_at hl 3 rfl) ?_
                      refine lv_istore_n (lv' := [(2, .int x2_21), (5, .int 1), (4, .int ((v_this_choice &&& (((1 : Int32) <<< ((v_this_he x1.toNatClampNeg) &&& 31)) ^^^ (-1))) ||| ((1 : Int32) <<< (x3_21 &&& 31)))), (3, .int x3_21), (0, .ref q_this), (1, .int x1)]) hx hb d_M_backUp_138 rfl hl (by decide) rfl (fun ls hl => ?_)
                      refine lv_iinc (v := (x3_21 + 1)) (lv' := [(3, .int (x3_21 + 1)), (2, .int x2_21), (5, .int 1), (4, .int ((v_this_choice &&& (((1 : Int32) <<< ((v_this_he x1.toNatClampNeg) &&& 31)) ^^^ (-1))) ||| ((1 : Int32) <<< (x3_21 &&& 31)))), (0, .ref q_this), (1, .int x1)]) hx hb d_M_backUp_139 hl (k := 3) rfl rfl (by decide) rfl (fun ls hl => ?_)
                      refine lv_goto (tgt := 21) hx hb d_M_backUp_142 (by decide) ?_
                      exact ih21 x2_21 (x3_21 + 1) ls h (lv_sub hl [0, 1, 4, 5] rfl)
                    · have h := h.2 c21
                      refine lv_iload_n hx hb d_M_backUp_133 rfl (lv_at hl 2 rfl) ?_
                      refine lv_goto (tgt := 138) hx hb d_M_backUp_134 (by decide) ?_
                      refine lv_istore_n (lv' := [(2, .int x3_21), (5, .int 1), (4, .int ((v_this_choice &&& (((1 : Int32) <<< ((v_this_he x1.toNatClampNeg) &&& 31)) ^^^ (-1))) ||| ((1 : Int32) <<< (x3_21 &&& 31)))), (3, .int x3_21), (0, .ref q_this), (1, .int x1)]) hx hb d_M_backUp_138 rfl hl (by decide) rfl (fun ls hl => ?_)
                      refine lv_iinc (v := (x3_21 + 1)) (lv' := [(3, .int (x3_21 + 1)), (2, .int x3_21), (5, .int 1), (4, .int ((v_this_choice &&& (((1 : Int32) <<< ((v_this_he x1.toNatClampNeg) &&& 31)) ^^^ (-1))) ||| ((1 : Int32) <<< (x3_21 &&& 31)))), (0, .ref q_this), (1, .int x1)]) hx hb d_M_backUp_139 hl (k := 3) rfl rfl (by decide) rfl (fun ls hl => ?_)
                      refine lv_goto (tgt := 21) hx hb d_M_backUp_142 (by decide) ?_
                      exact ih21 x3_21 (x3_21 + 1) ls h (lv_sub hl [0, 1, 4, 5] rfl)
    exact lp21 nn (-3) (0) ls h hl
  · have h := h.2 c2
    refine lv_iconst (v := (-1)) hx hb d_M_backUp_14 (by decide) ?_
    exact W.iret hx hb hr (fun t ht hW => ⟨_, rfl, h, ht⟩) (fun _ h9 => by cases h9) d_M_backUp_15
