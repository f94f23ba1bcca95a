def at_M_line (dC : Nat → ClassId) (dI : Nat → Nat → Nat) (cI cJ cG cZ : ClassId) (q_this q_this_alive q_this_eggs q_this_families q_this_females q_this_he q_this_isBarred q_this_kins q_this_leasts q_this_males q_this_now q_this_points q_this_rests q_this_sexes q_this_she q_this_then q_this_worths q_this_yearSets q_this_yearWorths : Nat) (A : Nat → Prop) (v_this_animals : Int32) (v_this_best : Int32) (v_this_bestWorth : Int32) (v_this_choice : Int32) (v_this_choiceSets : Int32) (v_this_limit : Int32) (v_this_many : Int32) (v_this_most : Int32) (v_this_sets : Int32) (v_this_tested : Int32) (v_this_testedBy : Int32) (v_this_years : Int32) (u : (Nat → Int32) × Int32) (t : State) : Prop := va_P (dC, dI) vCl ([(q_this, .inr (6, [.int v_this_animals, .ref q_this_sexes, .ref q_this_worths, .ref q_this_families, .ref q_this_kins, .ref q_this_isBarred, .int v_this_limit, .int v_this_most, .ref q_this_leasts, .int v_this_tested, .int v_this_testedBy, .int v_this_best, .int v_this_bestWorth, .int v_this_sets, .int v_this_many, .ref q_this_males, .ref q_this_females, .ref q_this_now, .ref q_this_then, .int u.2, .int v_this_choice, .int v_this_choiceSets, .ref q_this_he, .ref q_this_she, .ref q_this_eggs, .ref q_this_points, .ref q_this_rests, .int v_this_years, .ref q_this_alive, .ref q_this_yearSets, .ref q_this_yearWorths])), (q_this_leasts, .inl (cI, 8, .inl u.1))]) t.heap ∧ va_D A ([(q_this, .inr (6, [.int v_this_animals, .ref q_this_sexes, .ref q_this_worths, .ref q_this_families, .ref q_this_kins, .ref q_this_isBarred, .int v_this_limit, .int v_this_most, .ref q_this_leasts, .int v_this_tested, .int v_this_testedBy, .int v_this_best, .int v_this_bestWorth, .int v_this_sets, .int v_this_many, .ref q_this_males, .ref q_this_females, .ref q_this_now, .ref q_this_then, .int u.2, .int v_this_choice, .int v_this_choiceSets, .ref q_this_he, .ref q_this_she, .ref q_this_eggs, .ref q_this_points, .ref q_this_rests, .int v_this_years, .ref q_this_alive, .ref q_this_yearSets, .ref q_this_yearWorths])), (q_this_leasts, .inl (cI, 8, .inl u.1))])
set_option maxHeartbeats 4000000 in
set_option maxRecDepth 100000 in
theorem c_M_line (l : Launch) (dC : Nat → ClassId) (dI : Nat → Nat → Nat) (cI cJ cG cZ : ClassId) (q_this q_this_alive q_this_eggs q_this_families q_this_females q_this_he q_this_isBarred q_this_kins q_this_leasts q_this_males q_this_now q_this_points q_this_rests q_this_sexes q_this_she q_this_then q_this_worths q_this_yearSets q_this_yearWorths : Nat) (sz : Nat) (v_this_animals : Int32) (v_this_best : Int32) (v_this_bestWorth : Int32) (v_this_choice : Int32) (v_this_choiceSets : Int32) (v_this_leasts : (Nat → Int32)) (v_this_limit : Int32) (v_this_many : Int32) (v_this_most : Int32) (v_this_pairs : Int32) (v_this_sets : Int32) (v_this_tested : Int32) (v_this_testedBy : Int32) (v_this_years : Int32) (x1 : Int32) (x2 : Int32) (post : Int32 → (Nat → Int32) → Int32 → Prop) (h : wp_M_line v_this_leasts v_this_pairs x1 x2 post) : Met l y_M_line w_M_line ({ frames := 1, cells := 0, slots := 0, locals := 22 } : Room) (va_Pc [.ref q_this, .int x1, .int x2] (pcW dC dI cI cJ cG cZ sz ([(q_this, .inr (6, [.int v_this_animals, .ref q_this_sexes, .ref q_this_worths, .ref q_this_families, .ref q_this_kins, .ref q_this_isBarred, .int v_this_limit, .int v_this_most, .ref q_this_leasts, .int v_this_tested, .int v_this_testedBy, .int v_this_best, .int v_this_bestWorth, .int v_this_sets, .int v_this_many, .ref q_this_males, .ref q_this_females, .ref q_this_now, .ref q_this_then, .int v_this_pairs, .int v_this_choice, .int v_this_choiceSets, .ref q_this_he, .ref q_this_she, .ref q_this_eggs, .ref q_this_points, .ref q_this_rests, .int v_this_years, .ref q_this_alive, .ref q_this_yearSets, .ref q_this_yearWorths])), (q_this_leasts, .inl (cI, 8, .inl v_this_leasts))]))) (va_Qi (fun (r : Int32) (u : (Nat → Int32) × Int32) => post r u.1 u.2) (fun (u : (Nat → Int32) × Int32) (t : State) => at_M_line dC dI cI cJ cG cZ q_this q_this_alive q_this_eggs q_this_families q_this_females q_this_he q_this_isBarred q_this_kins q_this_leasts q_this_males q_this_now q_this_points q_this_rests q_this_sexes q_this_she q_this_then q_this_worths q_this_yearSets q_this_yearWorths (va_A ([(q_this, .inr (6, [.int v_this_animals, .ref q_this_sexes, .ref q_this_worths, .ref q_this_families, .ref q_this_kins, .ref q_this_isBarred, .int v_this_limit, .int v_this_most, .ref q_this_leasts, .int v_this_tested, .int v_this_testedBy, .int v_this_best, .int v_this_bestWorth, .int v_this_sets, .int v_this_many, .ref q_this_males, .ref q_this_females, .ref q_this_now, .ref q_this_then, .int v_this_pairs, .int v_this_choice, .int v_this_choiceSets, .ref q_this_he, .ref q_this_she, .ref q_this_eggs, .ref q_this_points, .ref q_this_rests, .int v_this_years, .ref q_this_alive, .ref q_this_yearSets, .ref q_this_yearWorths])), (q_this_leasts, .inl (cI, 8, .inl v_this_leasts))]) sz) v_this_animals v_this_best v_this_bestWorth v_this_choice v_this_choiceSets v_this_limit v_this_many v_this_most v_this_sets v_this_tested v_this_testedBy v_this_years u t) (va_A ([(q_this, .inr (6, [.int v_this_animals, .ref q_this_sexes, .ref q_this_worths, .ref q_this_families, .ref q_this_kins, .ref q_this_isBarred, .int v_this_limit, .int v_this_most, .ref q_this_leasts, .int v_this_tested, .int v_this_testedBy, .int v_this_best, .int v_this_bestWorth, .int v_this_sets, .int v_this_many, .ref q_this_males, .ref q_this_females, .ref q_this_now, .ref q_this_then, .int v_this_pairs, .int v_this_choice, .int v_this_choiceSets, .ref q_this_he, .ref q_this_she, .ref q_this_eggs, .ref q_this_points, .ref q_this_rests, .int v_this_years, .ref q_this_alive, .ref q_this_yearSets, .ref q_this_yearWorths])), (q_this_leasts, .inl (cI, 8, .inl v_this_leasts))]) sz)) 0 0 (va_A ([(q_this, .inr (6, [.int v_this_animals, .ref q_this_sexes, .ref q_this_worths, .ref q_this_families, .ref q_this_kins, .ref q_this_isBarred, .int v_this_limit, .int v_this_most, .ref q_this_leasts, .int v_this_tested, .int v_this_testedBy, .int v_this_best, .int v_this_bestWorth, .int v_this_sets, .int v_this_many, .ref q_this_males, .ref q_this_females, .ref q_this_now, .ref q_this_then, .int v_this_pairs, .int v_this_choice, .int v_this_choiceSets, .ref q_this_he, .ref q_this_she, .ref q_this_eggs, .ref q_this_points, .ref q_this_rests, .int v_this_years, .ref q_this_alive, .ref q_this_yearSets, .ref q_this_yearWorths])), (q_this_leasts, .inl (cI, 8, .inl v_this_leasts))]) sz) := by
  refine Met.ofW (cc := b_M_line) (maxL := 4) (ret := (some .int)) (by decide) rfl ?_
  intro p e s m args below meth c s₁ B hml hv
  obtain ⟨rfl, hsz, hP, hK, hN, hD0⟩ := hv
  have hx := B.exec
  have hb := B.bytes
  have hr := B.returns
  have hts := atoms_spec (ws := w_M_line) B.pre
  have hown : s.vm.findClass "PairChoiceModel" = some m.cls := findClass_of_methodNamed B.named
  have hlocks := B.notSynchronized
  subst hsz
  have hD := hD0.self (sz := s.heap.size)
  generalize hAe : va_A ([(q_this, .inr (6, [.int v_this_animals, .ref q_this_sexes, .ref q_this_worths, .ref q_this_families, .ref q_this_kins, .ref q_this_isBarred, .int v_this_limit, .int v_this_most, .ref q_this_leasts, .int v_this_tested, .int v_this_testedBy, .int v_this_best, .int v_this_bestWorth, .int v_this_sets, .int v_this_many, .ref q_this_males, .ref q_this_females, .ref q_this_now, .ref q_this_then, .int v_this_pairs, .int v_this_choice, .int v_this_choiceSets, .ref q_this_he, .ref q_this_she, .ref q_this_eggs, .ref q_this_points, .ref q_this_rests, .int v_this_years, .ref q_this_alive, .ref q_this_yearSets, .ref q_this_yearWorths])), (q_this_leasts, .inl (cI, 8, .inl v_this_leasts))]) s.heap.size = A at hD ⊢
  have hA : ∀ q : Nat, s.heap.size ≤ q → A q := fun q h => by rw [← hAe]; exact Or.inr h
  have hS : va_S A s.heap s.heap [] := va_S.rf
  have hl := lv_entry ([.ref q_this, .int x1, .int x2]) (n := 4) (Nat.le_of_ble_eq_true rfl)
  rw [lg_entry_eq]
  generalize (lg_sl ([.ref q_this, .int x1, .int x2]) ++ List.replicate (4 - (lg_sl ([.ref q_this, .int x1, .int x2])).length) Slot.unset).toArray = ls at hl ⊢
  have hl : lv_has ls 4 [(0, .ref q_this), (1, .int x1), (2, .int x2)] := hl
  unfold wp_M_line at h
  refine lv_iload_n hx hb d_M_line_0 rfl (lv_at hl 1 rfl) ?_
  refine lv_iconst (v := 0) hx hb d_M_line_1 (by decide) ?_
  refine lv_bipush (v := 7) hx hb d_M_line_2 (by decide) ?_
  refine vp_callSi (va_Run.run (va_runS (As := [.int x1, .int 0, .int 7]) (rest := []) ⟨hx, hb, hml, hown, hts⟩ (c_M_isIn l dC dI cI cJ cG cZ     (x1 : Int32) (0 : Int32) (7 : Int32) _ h) (va_cwS 3 hts (gcS kw_558 kw_559 kw_45 kw_560) rfl rfl rfl (by decide +kernel) ⟨Nat.le_of_ble_eq_true rfl, Nat.le_of_ble_eq_true rfl⟩) ⟨fb_s, pre_s hK hN⟩ rfl rfl hl.1 rfl (lv_room (Nat.le_of_ble_eq_true rfl)) d_M_line_4 ⟨Nat.zero_le _, Nat.zero_le _⟩)) (fun r1 h => ?_)
  obtain ⟨br1, h⟩ := h
  refine lv_if_ne (tgt := 12) hx hb d_M_line_7 (by decide) (fun c2 => ?_) (fun c2 => ?_)
  · have h := h.1 c2
    refine lv_iload_n hx hb d_M_line_12 rfl (lv_at hl 2 rfl) ?_
    refine lv_iconst (v := 0) hx hb d_M_line_13 (by decide) ?_
    refine lv_bipush (v := 12) hx hb d_M_line_14 (by decide) ?_
    refine vp_callSi (va_Run.run (va_runS (As := [.int x2, .int 0, .int 12]) (rest := []) ⟨hx, hb, hml, hown, hts⟩ (c_M_isIn l dC dI cI cJ cG cZ     (x2 : Int32) (0 : Int32) (12 : Int32) _ h) (va_cwS 3 hts (gcS kw_558 kw_559 kw_45 kw_560) rfl rfl rfl (by decide +kernel) ⟨Nat.le_of_ble_eq_true rfl, Nat.le_of_ble_eq_true rfl⟩) ⟨fb_s, pre_s hK hN⟩ rfl rfl hl.1 rfl (lv_room (Nat.le_of_ble_eq_true rfl)) d_M_line_16 ⟨Nat.zero_le _, Nat.zero_le _⟩)) (fun r3 h => ?_)
    obtain ⟨br3, h⟩ := h
    refine lv_if_ne (tgt := 25) hx hb d_M_line_19 (by decide) (fun c4 => ?_) (fun c4 => ?_)
    · have h := h.1 c4
      refine lv_aload_n hx hb d_M_line_25 rfl (lv_at hl 0 rfl) ?_
      refine va_get (D := (dC, dI)) (ci := 6) (v := .ref q_this_leasts) (C := "PairChoiceModel") (T := F_M) (N := 31) hx hb hts (fun w h => List.mem_cons_of_mem _ (i_M w h)) hown hK hP 0 rfl rfl 8 (by decide) (hts _ (List.mem_cons_of_mem _ kw_467)) (fun _ h9 => h9) rfl d_M_line_26 ?_
      refine lv_iload_n hx hb d_M_line_29 rfl (lv_at hl 1 rfl) ?_
      obtain ⟨i5, h⟩ := h
      refine va_iald hx hb hK hP 1 0 rfl rfl i5 d_M_line_30 ?_
      refine lv_istore_n (lv' := [(3, .int (v_this_leasts x1.toNatClampNeg)), (0, .ref q_this), (1, .int x1), (2, .int x2)]) hx hb d_M_line_31 rfl hl (by decide) rfl (fun ls hl => ?_)
      refine lv_aload_n hx hb d_M_line_32 rfl (lv_at hl 1 rfl) ?_
      refine va_get (D := (dC, dI)) (ci := 6) (v := .ref q_this_leasts) (C := "PairChoiceModel") (T := F_M) (N := 31) hx hb hts (fun w h => List.mem_cons_of_mem _ (i_M w h)) hown hK hP 0 rfl rfl 8 (by decide) (hts _ (List.mem_cons_of_mem _ kw_467)) (fun _ h9 => h9) rfl d_M_line_33 ?_
      refine lv_iload_n hx hb d_M_line_36 rfl (lv_at hl 2 rfl) ?_
      refine lv_iload_n hx hb d_M_line_37 rfl (lv_at hl 3 rfl) ?_
      obtain ⟨i6, h⟩ := h
      refine va_iast hx hb hK hP hD hS 1 0 rfl rfl i6 d_M_line_38 (fun H locs hP hD hS => ?_)
      have hP : va_P (dC, dI) vCl ([(q_this, .inr (6, [.int v_this_animals, .ref q_this_sexes, .ref q_this_worths, .ref q_this_families, .ref q_this_kins, .ref q_this_isBarred, .int v_this_limit, .int v_this_most, .ref q_this_leasts, .int v_this_tested, .int v_this_testedBy, .int v_this_best, .int v_this_bestWorth, .int v_this_sets, .int v_this_many, .ref q_this_males, .ref q_this_females, .ref q_this_now, .ref q_this_then, .int v_this_pairs, .int v_this_choice, .int v_this_choiceSets, .ref q_this_he, .ref q_this_she, .ref q_this_eggs, .ref q_this_points, .ref q_this_rests, .int v_this_years, .ref q_this_alive, .ref q_this_yearSets, .ref q_this_yearWorths])), (q_this_leasts, .inl (cI, 8, .inl (upd v_this_leasts x1.toNatClampNeg x2)))]) H := hP
      have hD : va_D A ([(q_this, .inr (6, [.int v_this_animals, .ref q_this_sexes, .ref q_this_worths, .ref q_this_families, .ref q_this_kins, .ref q_this_isBarred, .int v_this_limit, .int v_this_most, .ref q_this_leasts, .int v_this_tested, .int v_this_testedBy, .int v_this_best, .int v_this_bestWorth, .int v_this_sets, .int v_this_many, .ref q_this_males, .ref q_this_females, .ref q_this_now, .ref q_this_then, .int v_this_pairs, .int v_this_choice, .int v_this_choiceSets, .ref q_this_he, .ref q_this_she, .ref q_this_eggs, .ref q_this_points, .ref q_this_rests, .int v_this_years, .ref q_this_alive, .ref q_this_yearSets, .ref q_this_yearWorths])), (q_this_leasts, .inl (cI, 8, .inl (upd v_this_leasts x1.toNatClampNeg x2)))]) := hD
      refine lv_iload_n hx hb d_M_line_39 rfl (lv_at hl 0 rfl) ?_
      refine lv_iload_n hx hb d_M_line_40 rfl (lv_at hl 3 rfl) ?_
      refine lv_icmp_eq (tgt := 48) hx hb d_M_line_41 (by decide) (fun c7 => ?_) (fun c7 => ?_)
      · have h := h.1 c7
        refine lv_iload_n hx hb d_M_line_48 rfl (lv_at hl 0 rfl) ?_
        exact W.iret hx hb hr (fun t ht hW => ⟨⟨_, ((upd v_this_leasts x1.toNatClampNeg x2), v_this_pairs), rfl, h, ⟨by rw [ht]; exact hP, hD⟩⟩, hS.F ht⟩) hS.2.2 d_M_line_49
      · have h := h.2 c7
        refine lv_aload_n hx hb d_M_line_44 rfl (lv_at hl 1 rfl) ?_
        have hPc := hP.sub (ws' := [(q_this, .inr (6, [.int v_this_animals, .ref q_this_sexes, .ref q_this_worths, .ref q_this_families, .ref q_this_kins, .ref q_this_isBarred, .int v_this_limit, .int v_this_most, .ref q_this_leasts, .int v_this_tested, .int v_this_testedBy, .int v_this_best, .int v_this_bestWorth, .int v_this_sets, .int v_this_many, .ref q_this_males, .ref q_this_females, .ref q_this_now, .ref q_this_then, .int v_this_pairs, .int v_this_choice, .int v_this_choiceSets, .ref q_this_he, .ref q_this_she, .ref q_this_eggs, .ref q_this_points, .ref q_this_rests, .int v_this_years, .ref q_this_alive, .ref q_this_yearSets, .ref q_this_yearWorths]))]) [0] rfl
        have hDc := hD.sub (ws' := [(q_this, .inr (6, [.int v_this_animals, .ref q_this_sexes, .ref q_this_worths, .ref q_this_families, .ref q_this_kins, .ref q_this_isBarred, .int v_this_limit, .int v_this_most, .ref q_this_leasts, .int v_this_tested, .int v_this_testedBy, .int v_this_best, .int v_this_bestWorth, .int v_this_sets, .int v_this_many, .ref q_this_males, .ref q_this_females, .ref q_this_now, .ref q_this_then, .int v_this_pairs, .int v_this_choice, .int v_this_choiceSets, .ref q_this_he, .ref q_this_she, .ref q_this_eggs, .ref q_this_points, .ref q_this_rests, .int v_this_years, .ref q_this_alive, .ref q_this_yearSets, .ref q_this_yearWorths]))]) [0] (by decide) rfl
        have hFc := va_free (wc := [(q_this, .inr (6, [.int v_this_animals, .ref q_this_sexes, .ref q_this_worths, .ref q_this_families, .ref q_this_kins, .ref q_this_isBarred, .int v_this_limit, .int v_this_most, .ref q_this_leasts, .int v_this_tested, .int v_this_testedBy, .int v_this_best, .int v_this_bestWorth, .int v_this_sets, .int v_this_many, .ref q_this_males, .ref q_this_females, .ref q_this_now, .ref q_this_then, .int v_this_pairs, .int v_this_choice, .int v_this_choiceSets, .ref q_this_he, .ref q_this_she, .ref q_this_eggs, .ref q_this_points, .ref q_this_rests, .int v_this_years, .ref q_this_alive, .ref q_this_yearSets, .ref q_this_yearWorths]))]) hD hS hA [0] rfl
        refine va_callv (va_runV (As := []) (rest := []) ⟨hx, hb, hml, hown, hts⟩ (c_M_leave l dC dI cI cJ cG cZ  q_this q_this_alive q_this_eggs q_this_families q_this_females q_this_he q_this_isBarred q_this_kins q_this_leasts q_this_males q_this_now q_this_points q_this_rests q_this_sexes q_this_she q_this_then q_this_worths q_this_yearSets q_this_yearWorths H.size v_this_animals v_this_best v_this_bestWorth v_this_choice v_this_choiceSets v_this_limit v_this_many v_this_most v_this_pairs v_this_sets v_this_tested v_this_testedBy v_this_years  _ h) (cwV 0 hts (gcV kw_561 kw_563 kw_27 kw_45 kw_564) rfl rfl rfl (by decide +kernel) ⟨Nat.le_of_ble_eq_true rfl, Nat.le_of_ble_eq_true rfl⟩) ⟨fb_w, va_recv hK hPc (ci := 6) (q0 := 0) rfl rfl, pre_w hPc hK hN hDc⟩ rfl rfl hl.1 rfl (lv_room (Nat.le_of_ble_eq_true rfl)) d_M_line_45 ⟨Nat.zero_le _, Nat.zero_le _⟩) hS (fun q _ h => hFc q h) hFc (fun u t H1 locs ht hvm h hB hz1 hk1 hS => ?_)
        obtain ⟨v8, rfl⟩ : ∃ z, z = u := ⟨_, rfl⟩
        obtain ⟨hP1, hD1⟩ := hB
        rw [ht] at hP1
        obtain ⟨hP, hD⟩ := va_join (wr := [(q_this_leasts, .inl (cI, 8, .inl (upd v_this_leasts x1.toNatClampNeg x2)))]) (w1 := [(q_this, .inr (6, [.int v_this_animals, .ref q_this_sexes, .ref q_this_worths, .ref q_this_families, .ref q_this_kins, .ref q_this_isBarred, .int v_this_limit, .int v_this_most, .ref q_this_leasts, .int v_this_tested, .int v_this_testedBy, .int v_this_best, .int v_this_bestWorth, .int v_this_sets, .int v_this_many, .ref q_this_males, .ref q_this_females, .ref q_this_now, .ref q_this_then, .int v8, .int v_this_choice, .int v_this_choiceSets, .ref q_this_he, .ref q_this_she, .ref q_this_eggs, .ref q_this_points, .ref q_this_rests, .int v_this_years, .ref q_this_alive, .ref q_this_yearSets, .ref q_this_yearWorths]))]) hP hD [0] [1] rfl rfl (by decide) (by decide) hk1 hFc hP1 hD1
        generalize H1 = H at hP hS ⊢
        have hP : va_P (dC, dI) vCl ([(q_this, .inr (6, [.int v_this_animals, .ref q_this_sexes, .ref q_this_worths, .ref q_this_families, .ref q_this_kins, .ref q_this_isBarred, .int v_this_limit, .int v_this_most, .ref q_this_leasts, .int v_this_tested, .int v_this_testedBy, .int v_this_best, .int v_this_bestWorth, .int v_this_sets, .int v_this_many, .ref q_this_males, .ref q_this_females, .ref q_this_now, .ref q_this_then, .int v8, .int v_this_choice, .int v_this_choiceSets, .ref q_this_he, .ref q_this_she, .ref q_this_eggs, .ref q_this_points, .ref q_this_rests, .int v_this_years, .ref q_this_alive, .ref q_this_yearSets, .ref q_this_yearWorths])), (q_this_leasts, .inl (cI, 8, .inl (upd v_this_leasts x1.toNatClampNeg x2)))]) H := hP.sub [1, 0] rfl
        have hD : va_D A ([(q_this, .inr (6, [.int v_this_animals, .ref q_this_sexes, .ref q_this_worths, .ref q_this_families, .ref q_this_kins, .ref q_this_isBarred, .int v_this_limit, .int v_this_most, .ref q_this_leasts, .int v_this_tested, .int v_this_testedBy, .int v_this_best, .int v_this_bestWorth, .int v_this_sets, .int v_this_many, .ref q_this_males, .ref q_this_females, .ref q_this_now, .ref q_this_then, .int v8, .int v_this_choice, .int v_this_choiceSets, .ref q_this_he, .ref q_this_she, .ref q_this_eggs, .ref q_this_points, .ref q_this_rests, .int v_this_years, .ref q_this_alive, .ref q_this_yearSets, .ref q_this_yearWorths])), (q_this_leasts, .inl (cI, 8, .inl (upd v_this_leasts x1.toNatClampNeg x2)))]) := hD.sub [1, 0] (by decide) rfl
        refine lv_iload_n hx hb d_M_line_48 rfl (lv_at hl 0 rfl) ?_
        exact W.iret hx hb hr (fun t ht hW => ⟨⟨_, ((upd v_this_leasts x1.toNatClampNeg x2), v8), rfl, h, ⟨by rw [ht]; exact hP, hD⟩⟩, hS.F ht⟩) hS.2.2 d_M_line_49
    · have h := h.2 c4
      refine lv_bipush (v := (-2)) hx hb d_M_line_22 (by decide) ?_
      exact W.iret hx hb hr (fun t ht hW => ⟨⟨_, (v_this_leasts, v_this_pairs), rfl, h, ⟨by rw [ht]; exact hP, hD⟩⟩, hS.F ht⟩) hS.2.2 d_M_line_24
  · have h := h.2 c2
    refine lv_iconst (v := (-1)) hx hb d_M_line_10 (by decide) ?_
    exact W.iret hx hb hr (fun t ht hW => ⟨⟨_, (v_this_leasts, v_this_pairs), rfl, h, ⟨by rw [ht]; exact hP, hD⟩⟩, hS.F ht⟩) hS.2.2 d_M_line_11
set_option maxHeartbeats 4000000 in
set_option maxRecDepth 100000 in
theorem c_M_kinOf (l : Launch) (dC : Nat → ClassId) (dI : Nat → Nat → Nat) (cI cJ cG cZ : ClassId) (q_this q_this_alive q_this_eggs q_this_families q_this_females q_this_he q_this_isBarred q_this_kins q_this_leasts q_this_males q_this_now q_this_points q_this_rests q_this_sexes q_this_she q_this_then q_this_worths q_this_yearSets q_this_yearWorths : Nat) (v_this_animals : Int32) (v_this_best : Int32) (v_this_bestWorth : Int32) (v_this_choice : Int32) (v_this_choiceSets : Int32) (v_this_kins : (Nat → Int32)) (v_this_limit : Int32) (v_this_many : Int32) (v_this_most : Int32) (v_this_pairs : Int32) (v_this_sets : Int32) (v_this_tested : Int32) (v_this_testedBy : Int32) (v_this_years : Int32) (x1 : Int32) (post : Int32 → Prop) (h : wp_M_kinOf v_this_animals v_this_kins x1 post) : Met l y_M_kinOf w_M_kinOf ({ frames := 0, cells := 0, slots := 0, locals := 0 } : Room) (va_Pc [.ref q_this, .int x1] (pcR dC dI cI cJ cG cZ ([(q_this, .inr (6, [.int v_this_animals, .ref q_this_sexes, .ref q_this_worths, .ref q_this_families, .ref q_this_kins, .ref q_this_isBarred, .int v_this_limit, .int v_this_most, .ref q_this_leasts, .int v_this_tested, .int v_this_testedBy, .int v_this_best, .int v_this_bestWorth, .int v_this_sets, .int v_this_many, .ref q_this_males, .ref q_this_females, .ref q_this_now, .ref q_this_then, .int v_this_pairs, .int v_this_choice, .int v_this_choiceSets, .ref q_this_he, .ref q_this_she, .ref q_this_eggs, .ref q_this_points, .ref q_this_rests, .int v_this_years, .ref q_this_alive, .ref q_this_yearSets, .ref q_this_yearWorths])), (q_this_kins, .inl (cI, 144, .inl v_this_kins))]))) (vp_Si (fun r => post r)) 0 0 (fun _ => False) := by
  refine Met.ofW (cc := b_M_kinOf) (maxL := 5) (ret := (some .int)) (by decide) rfl ?_
  intro p e s m args below meth c s₁ B hml hv
  obtain ⟨rfl, hP, hK, hN⟩ := hv
  have hx := B.exec
  have hb := B.bytes
  have hr := B.returns
  have hts := atoms_spec (ws := w_M_kinOf) B.pre
  have hown : s.vm.findClass "PairChoiceModel" = some m.cls := findClass_of_methodNamed B.named
  have hlocks := B.notSynchronized
  have hl := lv_entry ([.ref q_this, .int x1]) (n := 5) (Nat.le_of_ble_eq_true rfl)
  rw [lg_entry_eq]
  generalize (lg_sl ([.ref q_this, .int x1]) ++ List.replicate (5 - (lg_sl ([.ref q_this, .int x1])).length) Slot.unset).toArray = ls at hl ⊢
  have hl : lv_has ls 5 [(0, .ref q_this), (1, .int x1)] := hl
  unfold wp_M_kinOf at h
  refine lv_iconst (v := 0) hx hb d_M_kinOf_0 (by decide) ?_
  refine lv_istore_n (lv' := [(2, .int 0), (0, .ref q_this), (1, .int x1)]) hx hb d_M_kinOf_1 rfl hl (by decide) rfl (fun ls hl => ?_)
  refine lv_iconst (v := 0) hx hb d_M_kinOf_2 (by decide) ?_
  refine lv_istore_n (lv' := [(3, .int 0), (2, .int 0), (0, .ref q_this), (1, .int x1)]) hx hb d_M_kinOf_3 rfl hl (by decide) rfl (fun ls hl => ?_)
  obtain ⟨nn, h⟩ := h
  have lp4 : ∀ (n4 : Nat) (x2_4 : Int32) (x3_4 : Int32) (ls : Array Slot), wp_M_kinOf_L4 v_this_animals v_this_kins x1 post n4 x2_4 x3_4 → lv_has ls 5 [(3, .int x3_4), (2, .int x2_4), (0, .ref q_this), (1, .int x1)] → W p l e (headSpec w_M_kinOf ({ frames := 0, cells := 0, slots := 0, locals := 0 } : Room)).room s m ([.ref q_this, .int x1] : List Value).toArray below meth c s.heap [] 0 0 (MQ below (vp_Si (fun r => post r)) ([.ref q_this, .int x1] : List Value).toArray s 0 0 (fun _ => False)) (F0 m 4 ls []) := by
    intro n4
    induction n4 with
    | zero =>
      intro x2_4 x3_4 ls h
      rw [wp_M_kinOf_L4] at h
      exact h.elim
    | succ n4 ih4 =>
      intro x2_4 x3_4 ls h hl
      rw [wp_M_kinOf_L4] at h
      refine lv_iload_n hx hb d_M_kinOf_4 rfl (lv_at hl 0 rfl) ?_
      refine lv_aload_n hx hb d_M_kinOf_5 rfl (lv_at hl 2 rfl) ?_
      refine va_get (D := (dC, dI)) (ci := 6) (v := .int v_this_animals) (C := "PairChoiceModel") (T := F_M) (N := 31) hx hb hts (fun w h => List.mem_cons_of_mem _ (i_M w h)) hown hK hP 0 rfl rfl 0 (by decide) (hts _ (List.mem_cons_of_mem _ kw_459)) (fun _ h9 => h9) rfl d_M_kinOf_6 ?_
      refine lv_icmp_ge (tgt := 74) hx hb d_M_kinOf_9 (by decide) (fun c1 => ?_) (fun c1 => ?_)
      · have h := h.1 c1
        refine lv_iload_n hx hb d_M_kinOf_74 rfl (lv_at hl 1 rfl) ?_
        exact W.iret hx hb hr (fun t ht hW => ⟨_, rfl, h, ht⟩) (fun _ h9 => by cases h9) d_M_kinOf_75
      · have h := h.2 c1
        refine lv_iconst (v := 0) hx hb d_M_kinOf_12 (by decide) ?_
        refine lv_istore (lv' := [(4, .int 0), (3, .int x3_4), (2, .int x2_4), (0, .ref q_this), (1, .int x1)]) hx hb d_M_kinOf_13 hl (by decide) rfl (fun ls hl => ?_)
        obtain ⟨nn, h⟩ := h
        have lp15 : ∀ (n15 : Nat) (x2_15 : Int32) (x4_15 : Int32) (ls : Array Slot), wp_M_kinOf_L15 v_this_animals v_this_kins x1 x3_4 post (fun z0 z1 => wp_M_kinOf_L4 v_this_animals v_this_kins x1 post n4 z0 z1) n15 x2_15 x4_15 → lv_has ls 5 [(4, .int x4_15), (3, .int x3_4), (2, .int x2_15), (0, .ref q_this), (1, .int x1)] → W p l e (headSpec w_M_kinOf ({ frames := 0, cells := 0, slots := 0, locals := 0 } : Room)).room s m ([.ref q_this, .int x1] : List Value).toArray below meth c s.heap [] 0 0 (MQ below (vp_Si (fun r => post r)) ([.ref q_this, .int x1] : List Value).toArray s 0 0 (fun _ => False)) (F0 m 15 ls []) := by
          intro n15
          induction n15 with
          | zero =>
            intro x2_15 x4_15 ls h
            rw [wp_M_kinOf_L15] at h
            exact h.elim
          | succ n15 ih15 =>
            intro x2_15 x4_15 ls h hl
            rw [wp_M_kinOf_L15] at h
            refine lv_iload hx hb d_M_kinOf_15 (lv_at hl 0 rfl) ?_
            refine lv_aload_n hx hb d_M_kinOf_17 rfl (lv_at hl 3 rfl) ?_
            refine va_get (D := (dC, dI)) (ci := 6) (v := .int v_this_animals) (C := "PairChoiceModel") (T := F_M) (N := 31) hx hb hts (fun w h => List.mem_cons_of_mem _ (i_M w h)) hown hK hP 0 rfl rfl 0 (by decide) (hts _ (List.mem_cons_of_mem _ kw_459)) (fun _ h9 => h9) rfl d_M_kinOf_18 ?_
            refine lv_icmp_ge (tgt := 68) hx hb d_M_kinOf_21 (by decide) (fun c2 => ?_) (fun c2 => ?_)
            · have h := h.1 c2
              refine lv_iinc (v := (x3_4 + 1)) (lv' := [(3, .int (x3_4 + 1)), (4, .int x4_15), (2, .int x2_15), (0, .ref q_this), (1, .int x1)]) hx hb d_M_kinOf_68 hl (k := 1) rfl rfl (by decide) rfl (fun ls hl => ?_)
              refine lv_goto (tgt := 4) hx hb d_M_kinOf_71 (by decide) ?_
              exact ih4 x2_15 (x3_4 + 1) ls h (lv_sub hl [0, 2, 3, 4] rfl)
            · have h := h.2 c2
              refine lv_iload_n hx hb d_M_kinOf_24 rfl (lv_at hl 4 rfl) ?_
              refine lv_iload_n hx hb d_M_kinOf_25 rfl (lv_at hl 1 rfl) ?_
              refine lv_ishr hx hb d_M_kinOf_26 ?_
              refine lv_iconst (v := 1) hx hb d_M_kinOf_27 (by decide) ?_
              refine lv_iand hx hb d_M_kinOf_28 ?_
              refine lv_iconst (v := 1) hx hb d_M_kinOf_29 (by decide) ?_
              refine lv_icmp_ne (tgt := 60) hx hb d_M_kinOf_30 (by decide) (fun c3 => ?_) (fun c3 => ?_)
              · have h := h.1 c3
                refine lv_iload_n hx hb d_M_kinOf_60 rfl (lv_at hl 2 rfl) ?_
                refine lv_istore_n (lv' := [(2, .int x2_15), (4, .int x4_15), (3, .int x3_4), (0, .ref q_this), (1, .int x1)]) hx hb d_M_kinOf_61 rfl hl (by decide) rfl (fun ls hl => ?_)
                refine lv_iinc (v := (x4_15 + 1)) (lv' := [(4, .int (x4_15 + 1)), (2, .int x2_15), (3, .int x3_4), (0, .ref q_this), (1, .int x1)]) hx hb d_M_kinOf_62 hl (k := 1) rfl rfl (by decide) rfl (fun ls hl => ?_)
                refine lv_goto (tgt := 15) hx hb d_M_kinOf_65 (by decide) ?_
                exact ih15 x2_15 (x4_15 + 1) ls h (lv_sub hl [0, 2, 1, 3, 4] rfl)
              · have h := h.2 c3
                refine lv_iload_n hx hb d_M_kinOf_33 rfl (lv_at hl 4 rfl) ?_
                refine lv_iload hx hb d_M_kinOf_34 (lv_at hl 0 rfl) ?_
                refine lv_ishr hx hb d_M_kinOf_36 ?_
                refine lv_iconst (v := 1) hx hb d_M_kinOf_37 (by decide) ?_
                refine lv_iand hx hb d_M_kinOf_38 ?_
                refine lv_iconst (v := 1) hx hb d_M_kinOf_39 (by decide) ?_
                refine lv_icmp_ne (tgt := 60) hx hb d_M_kinOf_40 (by decide) (fun c4 => ?_) (fun c4 => ?_)
                · have h := h.1 c4
                  refine lv_iload_n hx hb d_M_kinOf_60 rfl (lv_at hl 2 rfl) ?_
                  refine lv_istore_n (lv' := [(2, .int x2_15), (4, .int x4_15), (3, .int x3_4), (0, .ref q_this), (1, .int x1)]) hx hb d_M_kinOf_61 rfl hl (by decide) rfl (fun ls hl => ?_)
                  refine lv_iinc (v := (x4_15 + 1)) (lv' := [(4, .int (x4_15 + 1)), (2, .int x2_15), (3, .int x3_4), (0, .ref q_this), (1, .int x1)]) hx hb d_M_kinOf_62 hl (k := 1) rfl rfl (by decide) rfl (fun ls hl => ?_)
                  refine lv_goto (tgt := 15) hx hb d_M_kinOf_65 (by decide) ?_
                  exact ih15 x2_15 (x4_15 + 1) ls h (lv_sub hl [0, 2, 1, 3, 4] rfl)
                · have h := h.2 c4
                  refine lv_iload_n hx hb d_M_kinOf_43 rfl (lv_at hl 2 rfl) ?_
                  refine lv_aload_n hx hb d_M_kinOf_44 rfl (lv_at hl 3 rfl) ?_
                  refine va_get (D := (dC, dI)) (ci := 6) (v := .ref q_this_kins) (C := "PairChoiceModel") (T := F_M) (N := 31) hx hb hts (fun w h => List.mem_cons_of_mem _ (i_M w h)) hown hK hP 0 rfl rfl 4 (by decide) (hts _ (List.mem_cons_of_mem _ kw_463)) (fun _ h9 => h9) rfl d_M_kinOf_45 ?_
                  refine lv_bipush (v := 12) hx hb d_M_kinOf_48 (by decide) ?_
                  refine lv_iload_n hx hb d_M_kinOf_50 rfl (lv_at hl 1 rfl) ?_
                  refine lv_imul hx hb d_M_kinOf_51 ?_
                  refine lv_iload hx hb d_M_kinOf_52 (lv_at hl 0 rfl) ?_
                  refine lv_iadd hx hb d_M_kinOf_54 ?_
                  obtain ⟨i5, h⟩ := h
                  refine va_iald hx hb hK hP 1 0 rfl rfl i5 d_M_kinOf_55 ?_
                  refine lv_iadd hx hb d_M_kinOf_56 ?_
                  refine lv_goto (tgt := 61) hx hb d_M_kinOf_57 (by decide) ?_
                  refine lv_istore_n (lv' := [(2, .int (x2_15 + (v_this_kins (((12 : Int32) * x3_4) + x4_15).toNatClampNeg))), (4, .int x4_15), (3, .int x3_4), (0, .ref q_this), (1, .int x1)]) hx hb d_M_kinOf_61 rfl hl (by decide) rfl (fun ls hl => ?_)
                  refine lv_iinc (v := (x4_15 + 1)) (lv' := [(4, .int (x4_15 + 1)), (2, .int (x2_15 + (v_this_kins (((12 : Int32) * x3_4) + x4_15).toNatClampNeg))), (3, .int x3_4), (0, .ref q_this), (1, .int x1)]) hx hb d_M_kinOf_62 hl (k := 1) rfl rfl (by decide) rfl (fun ls hl => ?_)
                  refine lv_goto (tgt := 15) hx hb d_M_kinOf_65 (by decide) ?_
                  exact ih15 (x2_15 + (v_this_kins (((12 : Int32) * x3_4) + x4_15).toNatClampNeg)) (x4_15 + 1) ls h (lv_sub hl [0, 2, 1, 3, 4] rfl)
        exact lp15 nn x2_4 (0) ls h hl
  exact lp4 nn (0) (0) ls h hl
set_option maxHeartbeats 4000000 in
set_option maxRecDepth 100000 in
theorem c_M_fitsFamilies (l : Launch) (dC : Nat → ClassId) (dI : Nat → Nat → Nat) (cI cJ cG cZ : ClassId) (q_this q_this_alive q_this_eggs q_this_families q_this_females q_this_he q_this_isBarred q_this_kins q_this_leasts q_this_males q_this_now q_this_points q_this_rests q_this_sexes q_this_she q_this_then q_this_worths q_this_yearSets q_this_yearWorths : Nat) (v_this_animals : Int32) (v_this_best : Int32) (v_this_bestWorth : Int32) (v_this_choice : Int32) (v_this_choiceSets : Int32) (v_this_families : (Nat → Int32)) (v_this_leasts : (Nat → Int32)) (v_this_limit : Int32) (v_this_many : Int32) (v_this_most : Int32) (v_this_pairs : Int32) (v_this_sets : Int32) (v_this_tested : Int32) (v_this_testedBy : Int32) (v_this_years : Int32) (x1 : Int32) (post : Int32 → Prop) (h : wp_M_fitsFamilies v_this_animals v_this_families v_this_leasts v_this_most x1 post) : Met l y_M_fitsFamilies w_M_fitsFamilies ({ frames := 0, cells := 0, slots := 0, locals := 0 } : Room) (va_Pc [.ref q_this, .int x1] (pcR dC dI cI cJ cG cZ ([(q_this, .inr (6, [.int v_this_animals, .ref q_this_sexes, .ref q_this_worths, .ref q_this_families, .ref q_this_kins, .ref q_this_isBarred, .int v_this_limit, .int v_this_most, .ref q_this_leasts, .int v_this_tested, .int v_this_testedBy, .int v_this_best, .int v_this_bestWorth, .int v_this_sets, .int v_this_many, .ref q_this_males, .ref q_this_females, .ref q_this_now, .ref q_this_then, .int v_this_pairs, .int v_this_choice, .int v_this_choiceSets, .ref q_this_he, .ref q_this_she, .ref q_this_eggs, .ref q_this_points, .ref q_this_rests, .int v_this_years, .ref q_this_alive, .ref q_this_yearSets, .ref q_this_yearWorths])), (q_this_families, .inl (cI, 12, .inl v_this_families)), (q_this_leasts, .inl (cI, 8, .inl v_this_leasts))]))) (vp_Si (fun r => (r = 0 ∨ r = 1) ∧ post r)) 0 0 (fun _ => False) := by
  refine Met.ofW (cc := b_M_fitsFamilies) (maxL := 6) (ret := (some .boolean)) (by decide) rfl ?_
  intro p e s m args below meth c s₁ B hml hv
  obtain ⟨rfl, hP, hK, hN⟩ := hv
  have hx := B.exec
  have hb := B.bytes
  have hr := B.returns
  have hts := atoms_spec (ws := w_M_fitsFamilies) B.pre
  have hown : s.vm.findClass "PairChoiceModel" = some m.cls := findClass_of_methodNamed B.named
  have hlocks := B.notSynchronized
  have hl := lv_entry ([.ref q_this, .int x1]) (n := 6) (Nat.le_of_ble_eq_true rfl)
  rw [lg_entry_eq]
  generalize (lg_sl ([.ref q_this, .int x1]) ++ List.replicate (6 - (lg_sl ([.ref q_this, .int x1])).length) Slot.unset).toArray = ls at hl ⊢
  have hl : lv_has ls 6 [(0, .ref q_this), (1, .int x1)] := hl
  unfold wp_M_fitsFamilies at h
  refine lv_iconst (v := 1) hx hb d_M_fitsFamilies_0 (by decide) ?_
  refine lv_istore_n (lv' := [(2, .int 1), (0, .ref q_this), (1, .int x1)]) hx hb d_M_fitsFamilies_1 rfl hl (by decide) rfl (fun ls hl => ?_)
  refine lv_iconst (v := 0) hx hb d_M_fitsFamilies_2 (by decide) ?_
  refine lv_istore_n (lv' := [(3, .int 0), (2, .int 1), (0, .ref q_this), (1, .int x1)]) hx hb d_M_fitsFamilies_3 rfl hl (by decide) rfl (fun ls hl => ?_)
  obtain ⟨nn, h⟩ := h
  have lp4 : ∀ (n4 : Nat) (x2_4 : Int32) (x3_4 : Int32) (ls : Array Slot), wp_M_fitsFamilies_L4 v_this_animals v_this_families v_this_leasts v_this_most x1 post n4 x2_4 x3_4 → lv_has ls 6 [(3, .int x3_4), (2, .int x2_4), (0, .ref q_this), (1, .int x1)] → W p l e (headSpec w_M_fitsFamilies ({ frames := 0, cells := 0, slots := 0, locals := 0 } : Room)).room s m ([.ref q_this, .int x1] : List Value).toArray below meth c s.heap [] 0 0 (MQ below (vp_Si (fun r => (r = 0 ∨ r = 1) ∧ post r)) ([.ref q_this, .int x1] : List Value).toArray s 0 0 (fun _ => False)) (F0 m 4 ls []) := by
    intro n4
    induction n4 with
    | zero =>
      intro x2_4 x3_4 ls h
      rw [wp_M_fitsFamilies_L4] at h
      exact h.elim
    | succ n4 ih4 =>
      intro x2_4 x3_4 ls h hl
      rw [wp_M_fitsFamilies_L4] at h
      refine lv_iload_n hx hb d_M_fitsFamilies_4 rfl (lv_at hl 0 rfl) ?_
      refine lv_bipush (v := 8) hx hb d_M_fitsFamilies_5 (by decide) ?_
      refine lv_icmp_ge (tgt := 106) hx hb d_M_fitsFamilies_7 (by decide) (fun c1 => ?_) (fun c1 => ?_)
      · have h := h.1 c1
        refine lv_iload_n hx hb d_M_fitsFamilies_106 rfl (lv_at hl 1 rfl) ?_
        obtain ⟨z2, h⟩ := h
        exact W.zret hx hb hr (z_nar (z2)) (fun t ht hW => ⟨_, rfl, ⟨z2, h⟩, ht⟩) (fun _ h9 => by cases h9) d_M_fitsFamilies_107
      · have h := h.2 c1
        refine lv_iload_n hx hb d_M_fitsFamilies_10 rfl (lv_at hl 1 rfl) ?_
        refine lv_if_eq (tgt := 106) hx hb d_M_fitsFamilies_11 (by decide) (fun c3 => ?_) (fun c3 => ?_)
        · have h := h.1 c3
          refine lv_iload_n hx hb d_M_fitsFamilies_106 rfl (lv_at hl 1 rfl) ?_
          obtain ⟨z4, h⟩ := h
          exact W.zret hx hb hr (z_nar (z4)) (fun t ht hW => ⟨_, rfl, ⟨z4, h⟩, ht⟩) (fun _ h9 => by cases h9) d_M_fitsFamilies_107
        · have h := h.2 c3
          refine lv_iconst (v := 0) hx hb d_M_fitsFamilies_14 (by decide) ?_
          refine lv_istore (lv' := [(4, .int 0), (3, .int x3_4), (2, .int x2_4), (0, .ref q_this), (1, .int x1)]) hx hb d_M_fitsFamilies_15 hl (by decide) rfl (fun ls hl => ?_)
          refine lv_iconst (v := 0) hx hb d_M_fitsFamilies_17 (by decide) ?_
          refine lv_istore (lv' := [(5, .int 0), (4, .int 0), (3, .int x3_4), (2, .int x2_4), (0, .ref q_this), (1, .int x1)]) hx hb d_M_fitsFamilies_18 hl (by decide) rfl (fun ls hl => ?_)
          obtain ⟨nn, h⟩ := h
          have lp20 : ∀ (n20 : Nat) (x4_20 : Int32) (x5_20 : Int32) (ls : Array Slot), wp_M_fitsFamilies_L20 v_this_animals v_this_families v_this_leasts v_this_most x1 x3_4 post (fun z0 z1 => wp_M_fitsFamilies_L4 v_this_animals v_this_families v_this_leasts v_this_most x1 post n4 z0 z1) n20 x4_20 x5_20 → lv_has ls 6 [(5, .int x5_20), (4, .int x4_20), (3, .int x3_4), (2, .int x2_4), (0, .ref q_this), (1, .int x1)] → W p l e (headSpec w_M_fitsFamilies ({ frames := 0, cells := 0, slots := 0, locals := 0 } : Room)).room s m ([.ref q_this, .int x1] : List Value).toArray below meth c s.heap [] 0 0 (MQ below (vp_Si (fun r => (r = 0 ∨ r = 1) ∧ post r)) ([.ref q_this, .int x1] : List Value).toArray s 0 0 (fun _ => False)) (F0 m 20 ls []) := by
            intro n20
            induction n20 with
            | zero =>
              intro x4_20 x5_20 ls h
              rw [wp_M_fitsFamilies_L20] at h
              exact h.elim
            | succ n20 ih20 =>
              intro x4_20 x5_20 ls h hl
              rw [wp_M_fitsFamilies_L20] at h
              refine lv_iload hx hb d_M_fitsFamilies_20 (lv_at hl 0 rfl) ?_
              refine lv_aload_n hx hb d_M_fitsFamilies_22 rfl (lv_at hl 4 rfl) ?_
              refine va_get (D := (dC, dI)) (ci := 6) (v := .int v_this_animals) (C := "PairChoiceModel") (T := F_M) (N := 31) hx hb hts (fun w h => List.mem_cons_of_mem _ (i_M w h)) hown hK hP 0 rfl rfl 0 (by decide) (hts _ (List.mem_cons_of_mem _ kw_459)) (fun _ h9 => h9) rfl d_M_fitsFamilies_23 ?_
              refine lv_icmp_ge (tgt := 67) hx hb d_M_fitsFamilies_26 (by decide) (fun c5 => ?_) (fun c5 => ?_)
              · have h := h.1 c5
                refine lv_aload_n hx hb d_M_fitsFamilies_67 rfl (lv_at hl 4 rfl) ?_
                refine va_get (D := (dC, dI)) (ci := 6) (v := .int v_this_most) (C := "PairChoiceModel") (T := F_M) (N := 31) hx hb hts (fun w h => List.mem_cons_of_mem _ (i_M w h)) hown hK hP 0 rfl rfl 7 (by decide) (hts _ (List.mem_cons_of_mem _ kw_466)) (fun _ h9 => h9) rfl d_M_fitsFamilies_68 ?_
                refine lv_if_eq (tgt := 83) hx hb d_M_fitsFamilies_71 (by decide) (fun c6 => ?_) (fun c6 => ?_)
                · have h := h.1 c6
                  refine lv_iload hx hb d_M_fitsFamilies_83 (lv_at hl 1 rfl) ?_
                  refine lv_aload_n hx hb d_M_fitsFamilies_85 rfl (lv_at hl 4 rfl) ?_
                  refine va_get (D := (dC, dI)) (ci := 6) (v := .ref q_this_leasts) (C := "PairChoiceModel") (T := F_M) (N := 31) hx hb hts (fun w h => List.mem_cons_of_mem _ (i_M w h)) hown hK hP 0 rfl rfl 8 (by decide) (hts _ (List.mem_cons_of_mem _ kw_467)) (fun _ h9 => h9) rfl d_M_fitsFamilies_86 ?_
                  refine lv_iload_n hx hb d_M_fitsFamilies_89 rfl (lv_at hl 2 rfl) ?_
                  obtain ⟨i7, h⟩ := h
                  refine va_iald hx hb hK hP 2 0 rfl rfl i7 d_M_fitsFamilies_90 ?_
                  refine lv_icmp_lt (tgt := 98) hx hb d_M_fitsFamilies_91 (by decide) (fun c8 => ?_) (fun c8 => ?_)
                  · have h := h.1 c8
                    refine lv_iconst (v := 0) hx hb d_M_fitsFamilies_98 (by decide) ?_
                    refine lv_istore_n (lv' := [(2, .int 0), (5, .int x5_20), (4, .int x4_20), (3, .int x3_4), (0, .ref q_this), (1, .int x1)]) hx hb d_M_fitsFamilies_99 rfl hl (by decide) rfl (fun ls hl => ?_)
                    refine lv_iinc (v := (x3_4 + 1)) (lv' := [(3, .int (x3_4 + 1)), (2, .int 0), (5, .int x5_20), (4, .int x4_20), (0, .ref q_this), (1, .int x1)]) hx hb d_M_fitsFamilies_100 hl (k := 3) rfl rfl (by decide) rfl (fun ls hl => ?_)
                    refine lv_goto (tgt := 4) hx hb d_M_fitsFamilies_103 (by decide) ?_
                    exact ih4 (0) (x3_4 + 1) ls h (lv_sub hl [0, 1, 4, 5] rfl)
                  · have h := h.2 c8
                    refine lv_iconst (v := 1) hx hb d_M_fitsFamilies_94 (by decide) ?_
                    refine lv_goto (tgt := 99) hx hb d_M_fitsFamilies_95 (by decide) ?_
                    refine lv_istore_n (lv' := [(2, .int 1), (5, .int x5_20), (4, .int x4_20), (3, .int x3_4), (0, .ref q_this), (1, .int x1)]) hx hb d_M_fitsFamilies_99 rfl hl (by decide) rfl (fun ls hl => ?_)
                    refine lv_iinc (v := (x3_4 + 1)) (lv' := [(3, .int (x3_4 + 1)), (2, .int 1), (5, .int x5_20), (4, .int x4_20), (0, .ref q_this), (1, .int x1)]) hx hb d_M_fitsFamilies_100 hl (k := 3) rfl rfl (by decide) rfl (fun ls hl => ?_)
                    refine lv_goto (tgt := 4) hx hb d_M_fitsFamilies_103 (by decide) ?_
                    exact ih4 (1) (x3_4 + 1) ls h (lv_sub hl [0, 1, 4, 5] rfl)
                · have h := h.2 c6
                  refine lv_iload hx hb d_M_fitsFamilies_74 (lv_at hl 1 rfl) ?_
                  refine lv_aload_n hx hb d_M_fitsFamilies_76 rfl (lv_at hl 4 rfl) ?_
                  refine va_get (D := (dC, dI)) (ci := 6) (v := .int v_this_most) (C := "PairChoiceModel") (T := F_M) (N := 31) hx hb hts (fun w h => List.mem_cons_of_mem _ (i_M w h)) hown hK hP 0 rfl rfl 7 (by decide) (hts _ (List.mem_cons_of_mem _ kw_466)) (fun _ h9 => h9) rfl d_M_fitsFamilies_77 ?_
                  refine lv_icmp_gt (tgt := 98) hx hb d_M_fitsFamilies_80 (by decide) (fun c9 => ?_) (fun c9 => ?_)
                  · have h := h.1 c9
                    refine lv_iconst (v := 0) hx hb d_M_fitsFamilies_98 (by decide) ?_
                    refine lv_istore_n (lv' := [(2, .int 0), (5, .int x5_20), (4, .int x4_20), (3, .int x3_4), (0, .ref q_this), (1, .int x1)]) hx hb d_M_fitsFamilies_99 rfl hl (by decide) rfl (fun ls hl => ?_)
                    refine lv_iinc (v := (x3_4 + 1)) (lv' := [(3, .int (x3_4 + 1)), (2, .int 0), (5, .int x5_20), (4, .int x4_20), (0, .ref q_this), (1, .int x1)]) hx hb d_M_fitsFamilies_100 hl (k := 3) rfl rfl (by decide) rfl (fun ls hl => ?_)
                    refine lv_goto (tgt := 4) hx hb d_M_fitsFamilies_103 (by decide) ?_
                    exact ih4 (0) (x3_4 + 1) ls h (lv_sub hl [0, 1, 4, 5] rfl)
                  · have h := h.2 c9
                    refine lv_iload hx hb d_M_fitsFamilies_83 (lv_at hl 1 rfl) ?_
                    refine lv_aload_n hx hb d_M_fitsFamilies_85 rfl (lv_at hl 4 rfl) ?_
                    refine va_get (D := (dC, dI)) (ci := 6) (v := .ref q_this_leasts) (C := "PairChoiceModel") (T := F_M) (N := 31) hx hb hts (fun w h => List.mem_cons_of_mem _ (i_M w h)) hown hK hP 0 rfl rfl 8 (by decide) (hts _ (List.mem_cons_of_mem _ kw_467)) (fun _ h9 => h9) rfl d_M_fitsFamilies_86 ?_
                    refine lv_iload_n hx hb d_M_fitsFamilies_89 rfl (lv_at hl 2 rfl) ?_
                    obtain ⟨i10, h⟩ := h
                    refine va_iald hx hb hK hP 2 0 rfl rfl i10 d_M_fitsFamilies_90 ?_
                    refine lv_icmp_lt (tgt := 98) hx hb d_M_fitsFamilies_91 (by decide) (fun c11 => ?_) (fun c11 => ?_)
                    · have h := h.1 c11
                      refine lv_iconst (v := 0) hx hb d_M_fitsFamilies_98 (by decide) ?_
                      refine lv_istore_n (lv' := [(2, .int 0), (5, .int x5_20), (4, .int x4_20), (3, .int x3_4), (0, .ref q_this), (1, .int x1)]) hx hb d_M_fitsFamilies_99 rfl hl (by decide) rfl (fun ls hl => ?_)
                      refine lv_iinc (v := (x3_4 + 1)) (lv' := [(3, .int (x3_4 + 1)), (2, .int 0), (5, .int x5_20), (4, .int x4_20), (0, .ref q_this), (1, .int x1)]) hx hb d_M_fitsFamilies_100 hl (k := 3) rfl rfl (by decide) rfl (fun ls hl => ?_)
                      refine lv_goto (tgt := 4) hx hb d_M_fitsFamilies_103 (by decide) ?_
                      exact ih4 (0) (x3_4 + 1) ls h (lv_sub hl [0, 1, 4, 5] rfl)
                    · have h := h.2 c11
                      refine lv_iconst (v := 1) hx hb d_M_fitsFamilies_94 (by decide) ?_
                      refine lv_goto (tgt := 99) hx hb d_M_fitsFamilies_95 (by decide) ?_
                      refine lv_istore_n (lv' := [(2, .int 1), (5, .int x5_20), (4, .int x4_20), (3, .int x3_4), (0, .ref q_this), (1, .int x1)]) hx hb d_M_fitsFamilies_99 rfl hl (by decide) rfl (fun ls hl => ?_)
                      refine lv_iinc (v := (x3_4 + 1)) (lv' := [(3, .int (x3_4 + 1)), (2, .int 1), (5, .int x5_20), (4, .int x4_20), (0, .ref q_this), (1, .int x1)]) hx hb d_M_fitsFamilies_100 hl (k := 3) rfl rfl (by decide) rfl (fun ls hl => ?_)
                      refine lv_goto (tgt := 4) hx hb d_M_fitsFamilies_103 (by decide) ?_
                      exact ih4 (1) (x3_4 + 1) ls h (lv_sub hl [0, 1, 4, 5] rfl)
              · have h := h.2 c5
                refine lv_iload_n hx hb d_M_fitsFamilies_29 rfl (lv_at hl 5 rfl) ?_
                refine lv_iload hx hb d_M_fitsFamilies_30 (lv_at hl 0 rfl) ?_
                refine lv_ishr hx hb d_M_fitsFamilies_32 ?_
                refine lv_iconst (v := 1) hx hb d_M_fitsFamilies_33 (by decide) ?_
                refine lv_iand hx hb d_M_fitsFamilies_34 ?_
                refine lv_iconst (v := 1) hx hb d_M_fitsFamilies_35 (by decide) ?_
                refine lv_icmp_ne (tgt := 57) hx hb d_M_fitsFamilies_36 (by decide) (fun c12 => ?_) (fun c12 => ?_)
                · have h := h.1 c12
                  refine lv_iload hx hb d_M_fitsFamilies_57 (lv_at hl 1 rfl) ?_
                  refine lv_istore (lv' := [(4, .int x4_20), (5, .int x5_20), (3, .int x3_4), (2, .int x2_4), (0, .ref q_this), (1, .int x1)]) hx hb d_M_fitsFamilies_59 hl (by decide) rfl (fun ls hl => ?_)
                  refine lv_iinc (v := (x5_20 + 1)) (lv' := [(5, .int (x5_20 + 1)), (4, .int x4_20), (3, .int x3_4), (2, .int x2_4), (0, .ref q_this), (1, .int x1)]) hx hb d_M_fitsFamilies_61 hl (k := 1) rfl rfl (by decide) rfl (fun ls hl => ?_)
                  refine lv_goto (tgt := 20) hx hb d_M_fitsFamilies_64 (by decide) ?_
                  exact ih20 x4_20 (x5_20 + 1) ls h (lv_sub hl [0, 1, 2, 3, 4, 5] rfl)
                · have h := h.2 c12
                  refine lv_aload_n hx hb d_M_fitsFamilies_39 rfl (lv_at hl 4 rfl) ?_
                  refine va_get (D := (dC, dI)) (ci := 6) (v := .ref q_this_families) (C := "PairChoiceModel") (T := F_M) (N := 31) hx hb hts (fun w h => List.mem_cons_of_mem _ (i_M w h)) hown hK hP 0 rfl rfl 3 (by decide) (hts _ (List.mem_cons_of_mem _ kw_462)) (fun _ h9 => h9) rfl d_M_fitsFamilies_40 ?_
                  refine lv_iload hx hb d_M_fitsFamilies_43 (lv_at hl 0 rfl) ?_
                  obtain ⟨i13, h⟩ := h
                  refine va_iald hx hb hK hP 1 0 rfl rfl i13 d_M_fitsFamilies_45 ?_
                  refine lv_iload_n hx hb d_M_fitsFamilies_46 rfl (lv_at hl 2 rfl) ?_
                  refine lv_icmp_ne (tgt := 57) hx hb d_M_fitsFamilies_47 (by decide) (fun c14 => ?_) (fun c14 => ?_)
                  · have h := h.1 c14
                    refine lv_iload hx hb d_M_fitsFamilies_57 (lv_at hl 1 rfl) ?_
                    refine lv_istore (lv' := [(4, .int x4_20), (5, .int x5_20), (3, .int x3_4), (2, .int x2_4), (0, .ref q_this), (1, .int x1)]) hx hb d_M_fitsFamilies_59 hl (by decide) rfl (fun ls hl => ?_)
                    refine lv_iinc (v := (x5_20 + 1)) (lv' := [(5, .int (x5_20 + 1)), (4, .int x4_20), (3, .int x3_4), (2, .int x2_4), (0, .ref q_this), (1, .int x1)]) hx hb d_M_fitsFamilies_61 hl (k := 1) rfl rfl (by decide) rfl (fun ls hl => ?_)
                    refine lv_goto (tgt := 20) hx hb d_M_fitsFamilies_64 (by decide) ?_
                    exact ih20 x4_20 (x5_20 + 1) ls h (lv_sub hl [0, 1, 2, 3, 4, 5] rfl)
                  · have h := h.2 c14
                    refine lv_iload hx hb d_M_fitsFamilies_50 (lv_at hl 1 rfl) ?_
                    refine lv_iconst (v := 1) hx hb d_M_fitsFamilies_52 (by decide) ?_
                    refine lv_iadd hx hb d_M_fitsFamilies_53 ?_
                    refine lv_goto (tgt := 59) hx hb d_M_fitsFamilies_54 (by decide) ?_
                    refine lv_istore (lv' := [(4, .int (x4_20 + 1)), (5, .int x5_20), (3, .int x3_4), (2, .int x2_4), (0, .ref q_this), (1, .int x1)]) hx hb d_M_fitsFamilies_59 hl (by decide) rfl (fun ls hl => ?_)
                    refine lv_iinc (v := (x5_20 + 1)) (lv' := [(5, .int (x5_20 + 1)), (4, .int (x4_20 + 1)), (3, .int x3_4), (2, .int x2_4), (0, .ref q_this), (1, .int x1)]) hx hb d_M_fitsFamilies_61 hl (k := 1) rfl rfl (by decide) rfl (fun ls hl => ?_)
                    refine lv_goto (tgt := 20) hx hb d_M_fitsFamilies_64 (by decide) ?_
                    exact ih20 (x4_20 + 1) (x5_20 + 1) ls h (lv_sub hl [0, 1, 2, 3, 4, 5] rfl)
          exact lp20 nn (0) (0) ls h hl
  exact lp4 nn (1) (0) ls h hl
def at_M_part (dC : Nat → ClassId) (dI : Nat → Nat → Nat) (cI cJ cG cZ : ClassId) (q_this q_this_alive q_this_eggs q_this_families q_this_females q_this_he q_this_isBarred q_this_kins q_this_leasts q_this_males q_this_now q_this_points q_this_rests q_this_sexes q_this_she q_this_then q_this_worths q_this_yearSets q_this_yearWorths : Nat) (A : Nat → Prop) (v_this_animals : Int32) (v_this_best : Int32) (v_this_bestWorth : Int32) (v_this_choice : Int32) (v_this_choiceSets : Int32) (v_this_limit : Int32) (v_this_most : Int32) (v_this_pairs : Int32) (v_this_sets : Int32) (v_this_sexes : (Nat → Int32)) (v_this_tested : Int32) (v_this_testedBy : Int32) (v_this_years : Int32) (u : (Nat → Int32) × (Nat → Int32) × Int32) (t : State) : Prop := va_P (dC, dI) vCl ([(q_this, .inr (6, [.int v_this_animals, .ref q_this_sexes, .ref q_this_worths, .ref q_this_families, .ref q_this_kins, .ref q_this_isBarred, .int v_this_limit, .int v_this_most, .ref q_this_leasts, .int v_this_tested, .int v_this_testedBy, .int v_this_best, .int v_this_bestWorth, .int v_this_sets, .int u.2.2, .ref q_this_males, .ref q_this_females, .ref q_this_now, .ref q_this_then, .int v_this_pairs, .int v_this_choice, .int v_this_choiceSets, .ref q_this_he, .ref q_this_she, .ref q_this_eggs, .ref q_this_points, .ref q_this_rests, .int v_this_years, .ref q_this_alive, .ref q_this_yearSets, .ref q_this_yearWorths])), (q_this_females, .inl (cI, 12, .inl u.1)), (q_this_males, .inl (cI, 12, .inl u.2.1)), (q_this_sexes, .inl (cI, 12, .inl v_this_sexes))]) t.heap ∧ va_D A ([(q_this, .inr (6, [.int v_this_animals, .ref q_this_sexes, .ref q_this_worths, .ref q_this_families, .ref q_this_kins, .ref q_this_isBarred, .int v_this_limit, .int v_this_most, .ref q_this_leasts, .int v_this_tested, .int v_this_testedBy, .int v_this_best, .int v_this_bestWorth, .int v_this_sets, .int u.2.2, .ref q_this_males, .ref q_this_females, .ref q_this_now, .ref q_this_then, .int v_this_pairs, .int v_this_choice, .int v_this_choiceSets, .ref q_this_he, .ref q_this_she, .ref q_this_eggs, .ref q_this_points, .ref q_this_rests, .int v_this_years, .ref q_this_alive, .ref q_this_yearSets, .ref q_this_yearWorths])), (q_this_females, .inl (cI, 12, .inl u.1)), (q_this_males, .inl (cI, 12, .inl u.2.1)), (q_this_sexes, .inl (cI, 12, .inl v_this_sexes))])
set_option maxHeartbeats 4000000 in
set_option maxRecDepth 100000 in
theorem c_M_part (l : Launch) (dC : Nat → ClassId) (dI : Nat → Nat → Nat) (cI cJ cG cZ : ClassId) (q_this q_this_alive q_this_eggs q_this_families q_this_females q_this_he q_this_isBarred q_this_kins q_this_leasts q_this_males q_this_now q_this_points q_this_rests q_this_sexes q_this_she q_this_then q_this_worths q_this_yearSets q_this_yearWorths : Nat) (sz : Nat) (v_this_animals : Int32) (v_this_best : Int32) (v_this_bestWorth : Int32) (v_this_choice : Int32) (v_this_choiceSets : Int32) (v_this_females : (Nat → Int32)) (v_this_limit : Int32) (v_this_males : (Nat → Int32)) (v_this_many : Int32) (v_this_most : Int32) (v_this_pairs : Int32) (v_this_sets : Int32) (v_this_sexes : (Nat → Int32)) (v_this_tested : Int32) (v_this_testedBy : Int32) (v_this_years : Int32) (x1 : Int32) (x2 : Int32) (post : Int32 → (Nat → Int32) → (Nat → Int32) → Int32 → Prop) (h : wp_M_part v_this_animals v_this_females v_this_males v_this_many v_this_sexes x1 x2 post) : Met l y_M_part w_M_part ({ frames := 0, cells := 0, slots := 0, locals := 0 } : Room) (va_Pc [.ref q_this, .int x1, .int x2] (pcW dC dI cI cJ cG cZ sz ([(q_this, .inr (6, [.int v_this_animals, .ref q_this_sexes, .ref q_this_worths, .ref q_this_families, .ref q_this_kins, .ref q_this_isBarred, .int v_this_limit, .int v_this_most, .ref q_this_leasts, .int v_this_tested, .int v_this_testedBy, .int v_this_best, .int v_this_bestWorth, .int v_this_sets, .int v_this_many, .ref q_this_males, .ref q_this_females, .ref q_this_now, .ref q_this_then, .int v_this_pairs, .int v_this_choice, .int v_this_choiceSets, .ref q_this_he, .ref q_this_she, .ref q_this_eggs, .ref q_this_points, .ref q_this_rests, .int v_this_years, .ref q_this_alive, .ref q_this_yearSets, .ref q_this_yearWorths])), (q_this_females, .inl (cI, 12, .inl v_this_females)), (q_this_males, .inl (cI, 12, .inl v_this_males)), (q_this_sexes, .inl (cI, 12, .inl v_this_sexes))]))) (va_Qi (fun (r : Int32) (u : (Nat → Int32) × (Nat → Int32) × Int32) => (r = 0 ∨ r = 1) ∧ post r u.1 u.2.1 u.2.2) (fun (u : (Nat → Int32) × (Nat → Int32) × Int32) (t : State) => at_M_part dC dI cI cJ cG cZ q_this q_this_alive q_this_eggs q_this_families q_this_females q_this_he q_this_isBarred q_this_kins q_this_leasts q_this_males q_this_now q_this_points q_this_rests q_this_sexes q_this_she q_this_then q_this_worths q_this_yearSets q_this_yearWorths (va_A ([(q_this, .inr (6, [.int v_this_animals, .ref q_this_sexes, .ref q_this_worths, .ref q_this_families, .ref q_this_kins, .ref q_this_isBarred, .int v_this_limit, .int v_this_most, .ref q_this_leasts, .int v_this_tested, .int v_this_testedBy, .int v_this_best, .int v_this_bestWorth, .int v_this_sets, .int v_this_many, .ref q_this_males, .ref q_this_females, .ref q_this_now, .ref q_this_then, .int v_this_pairs, .int v_this_choice, .int v_this_choiceSets, .ref q_this_he, .ref q_this_she, .ref q_this_eggs, .ref q_this_points, .ref q_this_rests, .int v_this_years, .ref q_this_alive, .ref q_this_yearSets, .ref q_this_yearWorths])), (q_this_females, .inl (cI, 12, .inl v_this_females)), (q_this_males, .inl (cI, 12, .inl v_this_males)), (q_this_sexes, .inl (cI, 12, .inl v_this_sexes))]) sz) v_this_animals v_this_best v_this_bestWorth v_this_choice v_this_choiceSets v_this_limit v_this_most v_this_pairs v_this_sets v_this_sexes v_this_tested v_this_testedBy v_this_years u t) (va_A ([(q_this, .inr (6, [.int v_this_animals, .ref q_this_sexes, .ref q_this_worths, .ref q_this_families, .ref q_this_kins, .ref q_this_isBarred, .int v_this_limit, .int v_this_most, .ref q_this_leasts, .int v_this_tested, .int v_this_testedBy, .int v_this_best, .int v_this_bestWorth, .int v_this_sets, .int v_this_many, .ref q_this_males, .ref q_this_females, .ref q_this_now, .ref q_this_then, .int v_this_pairs, .int v_this_choice, .int v_this_choiceSets, .ref q_this_he, .ref q_this_she, .ref q_this_eggs, .ref q_this_points, .ref q_this_rests, .int v_this_years, .ref q_this_alive, .ref q_this_yearSets, .ref q_this_yearWorths])), (q_this_females, .inl (cI, 12, .inl v_this_females)), (q_this_males, .inl (cI, 12, .inl v_this_males)), (q_this_sexes, .inl (cI, 12, .inl v_this_sexes))]) sz)) 0 0 (va_A ([(q_this, .inr (6, [.int v_this_animals, .ref q_this_sexes, .ref q_this_worths, .ref q_this_families, .ref q_this_kins, .ref q_this_isBarred, .int v_this_limit, .int v_this_most, .ref q_this_leasts, .int v_this_tested, .int v_this_testedBy, .int v_this_best, .int v_this_bestWorth, .int v_this_sets, .int v_this_many, .ref q_this_males, .ref q_this_females, .ref q_this_now, .ref q_this_then, .int v_this_pairs, .int v_this_choice, .int v_this_choiceSets, .ref q_this_he, .ref q_this_she, .ref q_this_eggs, .ref q_this_points, .ref q_this_rests, .int v_this_years, .ref q_this_alive, .ref q_this_yearSets, .ref q_this_yearWorths])), (q_this_females, .inl (cI, 12, .inl v_this_females)), (q_this_males, .inl (cI, 12, .inl v_this_males)), (q_this_sexes, .inl (cI, 12, .inl v_this_sexes))]) sz) := by
  refine Met.ofW (cc := b_M_part) (maxL := 6) (ret := (some .boolean)) (by decide) rfl ?_
  intro p e s m args below meth c s₁ B hml hv
  obtain ⟨rfl, hsz, hP, hK, hN, hD0⟩ := hv
  have hx := B.exec
  have hb := B.bytes
  have hr := B.returns
  have hts := atoms_spec (ws := w_M_part) B.pre
  have hown : s.vm.findClass "PairChoiceModel" = some m.cls := findClass_of_methodNamed B.named
  have hlocks := B.notSynchronized
  subst hsz
  have hD := hD0.self (sz := s.heap.size)
  generalize hAe : va_A ([(q_this, .inr (6, [.int v_this_animals, .ref q_this_sexes, .ref q_this_worths, .ref q_this_families, .ref q_this_kins, .ref q_this_isBarred, .int v_this_limit, .int v_this_most, .ref q_this_leasts, .int v_this_tested, .int v_this_testedBy, .int v_this_best, .int v_this_bestWorth, .int v_this_sets, .int v_this_many, .ref q_this_males, .ref q_this_females, .ref q_this_now, .ref q_this_then, .int v_this_pairs, .int v_this_choice, .int v_this_choiceSets, .ref q_this_he, .ref q_this_she, .ref q_this_eggs, .ref q_this_points, .ref q_this_rests, .int v_this_years, .ref q_this_alive, .ref q_this_yearSets, .ref q_this_yearWorths])), (q_this_females, .inl (cI, 12, .inl v_this_females)), (q_this_males, .inl (cI, 12, .inl v_this_males)), (q_this_sexes, .inl (cI, 12, .inl v_this_sexes))]) s.heap.size = A at hD ⊢
  have hA : ∀ q : Nat, s.heap.size ≤ q → A q := fun q h => by rw [← hAe]; exact Or.inr h
  have hS : va_S A s.heap s.heap [] := va_S.rf
  have hl := lv_entry ([.ref q_this, .int x1, .int x2]) (n := 6) (Nat.le_of_ble_eq_true rfl)
  rw [lg_entry_eq]
  generalize (lg_sl ([.ref q_this, .int x1, .int x2]) ++ List.replicate (6 - (lg_sl ([.ref q_this, .int x1, .int x2])).length) Slot.unset).toArray = ls at hl ⊢
  have hl : lv_has ls 6 [(0, .ref q_this), (1, .int x1), (2, .int x2)] := hl
  unfold wp_M_part at h
  refine lv_iconst (v := 0) hx hb d_M_part_0 (by decide) ?_
  refine lv_istore_n (lv' := [(3, .int 0), (0, .ref q_this), (1, .int x1), (2, .int x2)]) hx hb d_M_part_1 rfl hl (by decide) rfl (fun ls hl => ?_)
  refine lv_iconst (v := 0) hx hb d_M_part_2 (by decide) ?_
  refine lv_istore (lv' := [(4, .int 0), (3, .int 0), (0, .ref q_this), (1, .int x1), (2, .int x2)]) hx hb d_M_part_3 hl (by decide) rfl (fun ls hl => ?_)
  refine lv_iconst (v := 0) hx hb d_M_part_5 (by decide) ?_
  refine lv_istore (lv' := [(5, .int 0), (4, .int 0), (3, .int 0), (0, .ref q_this), (1, .int x1), (2, .int x2)]) hx hb d_M_part_6 hl (by decide) rfl (fun ls hl => ?_)
  obtain ⟨nn, h⟩ := h
  have lp8 : ∀ (n8 : Nat) (x3_8 : Int32) (x4_8 : Int32) (x5_8 : Int32) (w8_this_females : (Nat → Int32)) (w8_this_males : (Nat → Int32)) (H : Heap) (locs : List Loc) (ls : Array Slot), wp_M_part_L8 v_this_animals v_this_sexes x1 x2 post n8 x3_8 x4_8 x5_8 w8_this_females w8_this_males → va_P (dC, dI) vCl ([(q_this, .inr (6, [.int v_this_animals, .ref q_this_sexes, .ref q_this_worths, .ref q_this_families, .ref q_this_kins, .ref q_this_isBarred, .int v_this_limit, .int v_this_most, .ref q_this_leasts, .int v_this_tested, .int v_this_testedBy, .int v_this_best, .int v_this_bestWorth, .int v_this_sets, .int v_this_many, .ref q_this_males, .ref q_this_females, .ref q_this_now, .ref q_this_then, .int v_this_pairs, .int v_this_choice, .int v_this_choiceSets, .ref q_this_he, .ref q_this_she, .ref q_this_eggs, .ref q_this_points, .ref q_this_rests, .int v_this_years, .ref q_this_alive, .ref q_this_yearSets, .ref q_this_yearWorths])), (q_this_females, .inl (cI, 12, .inl w8_this_females)), (q_this_males, .inl (cI, 12, .inl w8_this_males)), (q_this_sexes, .inl (cI, 12, .inl v_this_sexes))]) H → va_D A ([(q_this, .inr (6, [.int v_this_animals, .ref q_this_sexes, .ref q_this_worths, .ref q_this_families, .ref q_this_kins, .ref q_this_isBarred, .int v_this_limit, .int v_this_most, .ref q_this_leasts, .int v_this_tested, .int v_this_testedBy, .int v_this_best, .int v_this_bestWorth, .int v_this_sets, .int v_this_many, .ref q_this_males, .ref q_this_females, .ref q_this_now, .ref q_this_then, .int v_this_pairs, .int v_this_choice, .int v_this_choiceSets, .ref q_this_he, .ref q_this_she, .ref q_this_eggs, .ref q_this_points, .ref q_this_rests, .int v_this_years, .ref q_this_alive, .ref q_this_yearSets, .ref q_this_yearWorths])), (q_this_females, .inl (cI, 12, .inl w8_this_females)), (q_this_males, .inl (cI, 12, .inl w8_this_males)), (q_this_sexes, .inl (cI, 12, .inl v_this_sexes))]) → va_S A s.heap H locs → lv_has ls 6 [(5, .int x5_8), (4, .int x4_8), (3, .int x3_8), (0, .ref q_this), (1, .int x1), (2, .int x2)] → W p l e (headSpec w_M_part ({ frames := 0, cells := 0, slots := 0, locals := 0 } : Room)).room s m ([.ref q_this, .int x1, .int x2] : List Value).toArray below meth c H locs 0 0 (MQ below (va_Qi (fun (r : Int32) (u : (Nat → Int32) × (Nat → Int32) × Int32) => (r = 0 ∨ r = 1) ∧ post r u.1 u.2.1 u.2.2) (fun (u : (Nat → Int32) × (Nat → Int32) × Int32) (t : State) => at_M_part dC dI cI cJ cG cZ q_this q_this_alive q_this_eggs q_this_families q_this_females q_this_he q_this_isBarred q_this_kins q_this_leasts q_this_males q_this_now q_this_points q_this_rests q_this_sexes q_this_she q_this_then q_this_worths q_this_yearSets q_this_yearWorths A v_this_animals v_this_best v_this_bestWorth v_this_choice v_this_choiceSets v_this_limit v_this_most v_this_pairs v_this_sets v_this_sexes v_this_tested v_this_testedBy v_this_years u t) A) ([.ref q_this, .int x1, .int x2] : List Value).toArray s 0 0 (A)) (F0 m 8 ls []) := by
    intro n8
    induction n8 with
    | zero =>
      intro x3_8 x4_8 x5_8 w8_this_females w8_this_males H locs ls h
      rw [wp_M_part_L8] at h
      exact h.elim
    | succ n8 ih8 =>
      intro x3_8 x4_8 x5_8 w8_this_females w8_this_males H locs ls h hP hD hS hl
      rw [wp_M_part_L8] at h
      refine lv_iload hx hb d_M_part_8 (lv_at hl 0 rfl) ?_
      refine lv_aload_n hx hb d_M_part_10 rfl (lv_at hl 3 rfl) ?_
      refine va_get (D := (dC, dI)) (ci := 6) (v := .int v_this_animals) (C := "PairChoiceModel") (T := F_M) (N := 31) hx hb hts (fun w h => List.mem_cons_of_mem _ (i_M w h)) hown hK hP 0 rfl rfl 0 (by decide) (hts _ (List.mem_cons_of_mem _ kw_459)) (fun _ h9 => h9) rfl d_M_part_11 ?_
      refine lv_icmp_ge (tgt := 79) hx hb d_M_part_14 (by decide) (fun c1 => ?_) (fun c1 => ?_)
      · have h := h.1 c1
        refine lv_aload_n hx hb d_M_part_79 rfl (lv_at hl 3 rfl) ?_
        refine lv_iload_n hx hb d_M_part_80 rfl (lv_at hl 2 rfl) ?_
        refine va_put (D := (dC, dI)) (ci := 6) (v := .int x3_8) (ty := .int) (C := "PairChoiceModel") (T := F_M) (N := 31) hx hb hts (fun w h => List.mem_cons_of_mem _ (i_M w h)) t_M t_M_ok n_M hown hK hP hD hS 0 rfl rfl 14 (by decide) (hts _ (List.mem_cons_of_mem _ kw_473)) (fun _ h9 => h9) rfl (by decide +kernel) rfl rfl (Nat.le_of_ble_eq_true rfl) d_M_part_81 (fun H locs hP hD hS => ?_)
        have hP : va_P (dC, dI) vCl ([(q_this, .inr (6, [.int v_this_animals, .ref q_this_sexes, .ref q_this_worths, .ref q_this_families, .ref q_this_kins, .ref q_this_isBarred, .int v_this_limit, .int v_this_most, .ref q_this_leasts, .int v_this_tested, .int v_this_testedBy, .int v_this_best, .int v_this_bestWorth, .int v_this_sets, .int x3_8, .ref q_this_males, .ref q_this_females, .ref q_this_now, .ref q_this_then, .int v_this_pairs, .int v_this_choice, .int v_this_choiceSets, .ref q_this_he, .ref q_this_she, .ref q_this_eggs, .ref q_this_points, .ref q_this_rests, .int v_this_years, .ref q_this_alive, .ref q_this_yearSets, .ref q_this_yearWorths])), (q_this_females, .inl (cI, 12, .inl w8_this_females)), (q_this_males, .inl (cI, 12, .inl w8_this_males)), (q_this_sexes, .inl (cI, 12, .inl v_this_sexes))]) H := hP
        have hD : va_D A ([(q_this, .inr (6, [.int v_this_animals, .ref q_this_sexes, .ref q_this_worths, .ref q_this_families, .ref q_this_kins, .ref q_this_isBarred, .int v_this_limit, .int v_this_most, .ref q_this_leasts, .int v_this_tested, .int v_this_testedBy, .int v_this_best, .int v_this_bestWorth, .int v_this_sets, .int x3_8, .ref q_this_males, .ref q_this_females, .ref q_this_now, .ref q_this_then, .int v_this_pairs, .int v_this_choice, .int v_this_choiceSets, .ref q_this_he, .ref q_this_she, .ref q_this_eggs, .ref q_this_points, .ref q_this_rests, .int v_this_years, .ref q_this_alive, .ref q_this_yearSets, .ref q_this_yearWorths])), (q_this_females, .inl (cI, 12, .inl w8_this_females)), (q_this_males, .inl (cI, 12, .inl w8_this_males)), (q_this_sexes, .inl (cI, 12, .inl v_this_sexes))]) := hD
        refine lv_iload_n hx hb d_M_part_84 rfl (lv_at hl 2 rfl) ?_
        refine lv_iload_n hx hb d_M_part_85 rfl (lv_at hl 5 rfl) ?_
        refine lv_icmp_ne (tgt := 99) hx hb d_M_part_86 (by decide) (fun c2 => ?_) (fun c2 => ?_)
        · have h := h.1 c2
          refine lv_iconst (v := 0) hx hb d_M_part_99 (by decide) ?_
          exact W.zret hx hb hr (z_nar (Or.inl rfl)) (fun t ht hW => ⟨⟨_, (w8_this_females, w8_this_males, x3_8), rfl, ⟨Or.inl rfl, h⟩, ⟨by rw [ht]; exact hP, hD⟩⟩, hS.F ht⟩) hS.2.2 d_M_part_100
        · have h := h.2 c2
          refine lv_iload hx hb d_M_part_89 (lv_at hl 1 rfl) ?_
          refine lv_iload_n hx hb d_M_part_91 rfl (lv_at hl 5 rfl) ?_
          refine lv_icmp_ne (tgt := 99) hx hb d_M_part_92 (by decide) (fun c3 => ?_) (fun c3 => ?_)
          · have h := h.1 c3
            refine lv_iconst (v := 0) hx hb d_M_part_99 (by decide) ?_
            exact W.zret hx hb hr (z_nar (Or.inl rfl)) (fun t ht hW => ⟨⟨_, (w8_this_females, w8_this_males, x3_8), rfl, ⟨Or.inl rfl, h⟩, ⟨by rw [ht]; exact hP, hD⟩⟩, hS.F ht⟩) hS.2.2 d_M_part_100
          · have h := h.2 c3
            refine lv_iconst (v := 1) hx hb d_M_part_95 (by decide) ?_
            refine lv_goto (tgt := 100) hx hb d_M_part_96 (by decide) ?_
            exact W.zret hx hb hr (z_nar (Or.inr rfl)) (fun t ht hW => ⟨⟨_, (w8_this_females, w8_this_males, x3_8), rfl, ⟨Or.inr rfl, h⟩, ⟨by rw [ht]; exact hP, hD⟩⟩, hS.F ht⟩) hS.2.2 d_M_part_100
      · have h := h.2 c1
        refine lv_iload_n hx hb d_M_part_17 rfl (lv_at hl 4 rfl) ?_
        refine lv_iload hx hb d_M_part_18 (lv_at hl 0 rfl) ?_
        refine lv_ishr hx hb d_M_part_20 ?_
        refine lv_iconst (v := 1) hx hb d_M_part_21 (by decide) ?_
        refine lv_iand hx hb d_M_part_22 ?_
        refine lv_iconst (v := 1) hx hb d_M_part_23 (by decide) ?_
        refine lv_icmp_ne (tgt := 51) hx hb d_M_part_24 (by decide) (fun c4 => ?_) (fun c4 => ?_)
        · have h := h.1 c4
          refine lv_iload_n hx hb d_M_part_51 rfl (lv_at hl 4 rfl) ?_
          refine lv_iload hx hb d_M_part_52 (lv_at hl 0 rfl) ?_
          refine lv_ishr hx hb d_M_part_54 ?_
          refine lv_iconst (v := 1) hx hb d_M_part_55 (by decide) ?_
          refine lv_iand hx hb d_M_part_56 ?_
          refine lv_iconst (v := 1) hx hb d_M_part_57 (by decide) ?_
          refine lv_icmp_ne (tgt := 73) hx hb d_M_part_58 (by decide) (fun c5 => ?_) (fun c5 => ?_)
          · have h := h.1 c5
            refine lv_iinc (v := (x5_8 + 1)) (lv' := [(5, .int (x5_8 + 1)), (4, .int x4_8), (3, .int x3_8), (0, .ref q_this), (1, .int x1), (2, .int x2)]) hx hb d_M_part_73 hl (k := 0) rfl rfl (by decide) rfl (fun ls hl => ?_)
            refine lv_goto (tgt := 8) hx hb d_M_part_76 (by decide) ?_
            exact ih8 x3_8 x4_8 (x5_8 + 1) w8_this_females w8_this_males _ _ ls h hP hD hS (lv_sub hl [0, 1, 2, 3, 4, 5] rfl)
          · have h := h.2 c5
            refine lv_aload_n hx hb d_M_part_61 rfl (lv_at hl 3 rfl) ?_
            refine va_get (D := (dC, dI)) (ci := 6) (v := .ref q_this_females) (C := "PairChoiceModel") (T := F_M) (N := 31) hx hb hts (fun w h => List.mem_cons_of_mem _ (i_M w h)) hown hK hP 0 rfl rfl 16 (by decide) (hts _ (List.mem_cons_of_mem _ kw_475)) (fun _ h9 => h9) rfl d_M_part_62 ?_
            refine lv_iload hx hb d_M_part_65 (lv_at hl 1 rfl) ?_
            refine lv_iload hx hb d_M_part_67 (lv_at hl 0 rfl) ?_
            obtain ⟨i6, h⟩ := h
            refine va_iast hx hb hK hP hD hS 1 0 rfl rfl i6 d_M_part_69 (fun H locs hP hD hS => ?_)
            have hP : va_P (dC, dI) vCl ([(q_this, .inr (6, [.int v_this_animals, .ref q_this_sexes, .ref q_this_worths, .ref q_this_families, .ref q_this_kins, .ref q_this_isBarred, .int v_this_limit, .int v_this_most, .ref q_this_leasts, .int v_this_tested, .int v_this_testedBy, .int v_this_best, .int v_this_bestWorth, .int v_this_sets, .int v_this_many, .ref q_this_males, .ref q_this_females, .ref q_this_now, .ref q_this_then, .int v_this_pairs, .int v_this_choice, .int v_this_choiceSets, .ref q_this_he, .ref q_this_she, .ref q_this_eggs, .ref q_this_points, .ref q_this_rests, .int v_this_years, .ref q_this_alive, .ref q_this_yearSets, .ref q_this_yearWorths])), (q_this_females, .inl (cI, 12, .inl (upd w8_this_females x4_8.toNatClampNeg x5_8))), (q_this_males, .inl (cI, 12, .inl w8_this_males)), (q_this_sexes, .inl (cI, 12, .inl v_this_sexes))]) H := hP
            have hD : va_D A ([(q_this, .inr (6, [.int v_this_animals, .ref q_this_sexes, .ref q_this_worths, .ref q_this_families, .ref q_this_kins, .ref q_this_isBarred, .int v_this_limit, .int v_this_most, .ref q_this_leasts, .int v_this_tested, .int v_this_testedBy, .int v_this_best, .int v_this_bestWorth, .int v_this_sets, .int v_this_many, .ref q_this_males, .ref q_this_females, .ref q_this_now, .ref q_this_then, .int v_this_pairs, .int v_this_choice, .int v_this_choiceSets, .ref q_this_he, .ref q_this_she, .ref q_this_eggs, .ref q_this_points, .ref q_this_rests, .int v_this_years, .ref q_this_alive, .ref q_this_yearSets, .ref q_this_yearWorths])), (q_this_females, .inl (cI, 12, .inl (upd w8_this_females x4_8.toNatClampNeg x5_8))), (q_this_males, .inl (cI, 12, .inl w8_this_males)), (q_this_sexes, .inl (cI, 12, .inl v_this_sexes))]) := hD
            refine lv_iinc (v := (x4_8 + 1)) (lv' := [(4, .int (x4_8 + 1)), (5, .int x5_8), (3, .int x3_8), (0, .ref q_this), (1, .int x1), (2, .int x2)]) hx hb d_M_part_70 hl (k := 1) rfl rfl (by decide) rfl (fun ls hl => ?_)
            refine lv_iinc (v := (x5_8 + 1)) (lv' := [(5, .int (x5_8 + 1)), (4, .int (x4_8 + 1)), (3, .int x3_8), (0, .ref q_this), (1, .int x1), (2, .int x2)]) hx hb d_M_part_73 hl (k := 1) rfl rfl (by decide) rfl (fun ls hl => ?_)
            refine lv_goto (tgt := 8) hx hb d_M_part_76 (by decide) ?_
            exact ih8 x3_8 (x4_8 + 1) (x5_8 + 1) (upd w8_this_females x4_8.toNatClampNeg x5_8) w8_this_males _ _ ls h hP hD hS (lv_sub hl [0, 1, 2, 3, 4, 5] rfl)
        · have h := h.2 c4
          refine lv_aload_n hx hb d_M_part_27 rfl (lv_at hl 3 rfl) ?_
          refine va_get (D := (dC, dI)) (ci := 6) (v := .ref q_this_sexes) (C := "PairChoiceModel") (T := F_M) (N := 31) hx hb hts (fun w h => List.mem_cons_of_mem _ (i_M w h)) hown hK hP 0 rfl rfl 1 (by decide) (hts _ (List.mem_cons_of_mem _ kw_460)) (fun _ h9 => h9) rfl d_M_part_28 ?_
          refine lv_iload hx hb d_M_part_31 (lv_at hl 0 rfl) ?_
          obtain ⟨i7, h⟩ := h
          refine va_iald hx hb hK hP 3 0 rfl rfl i7 d_M_part_33 ?_
          refine lv_if_ne (tgt := 51) hx hb d_M_part_34 (by decide) (fun c8 => ?_) (fun c8 => ?_)
          · have h := h.1 c8
            refine lv_iload_n hx hb d_M_part_51 rfl (lv_at hl 4 rfl) ?_
            refine lv_iload hx hb d_M_part_52 (lv_at hl 0 rfl) ?_
            refine lv_ishr hx hb d_M_part_54 ?_
            refine lv_iconst (v := 1) hx hb d_M_part_55 (by decide) ?_
            refine lv_iand hx hb d_M_part_56 ?_
            refine lv_iconst (v := 1) hx hb d_M_part_57 (by decide) ?_
            refine lv_icmp_ne (tgt := 73) hx hb d_M_part_58 (by decide) (fun c9 => ?_) (fun c9 => ?_)
            · have h := h.1 c9
              refine lv_iinc (v := (x5_8 + 1)) (lv' := [(5, .int (x5_8 + 1)), (4, .int x4_8), (3, .int x3_8), (0, .ref q_this), (1, .int x1), (2, .int x2)]) hx hb d_M_part_73 hl (k := 0) rfl rfl (by decide) rfl (fun ls hl => ?_)
              refine lv_goto (tgt := 8) hx hb d_M_part_76 (by decide) ?_
              exact ih8 x3_8 x4_8 (x5_8 + 1) w8_this_females w8_this_males _ _ ls h hP hD hS (lv_sub hl [0, 1, 2, 3, 4, 5] rfl)
            · have h := h.2 c9
              refine lv_aload_n hx hb d_M_part_61 rfl (lv_at hl 3 rfl) ?_
              refine va_get (D := (dC, dI)) (ci := 6) (v := .ref q_this_females) (C := "PairChoiceModel") (T := F_M) (N := 31) hx hb hts (fun w h => List.mem_cons_of_mem _ (i_M w h)) hown hK hP 0 rfl rfl 16 (by decide) (hts _ (List.mem_cons_of_mem _ kw_475)) (fun _ h9 => h9) rfl d_M_part_62 ?_
              refine lv_iload hx hb d_M_part_65 (lv_at hl 1 rfl) ?_
              refine lv_iload hx hb d_M_part_67 (lv_at hl 0 rfl) ?_
              obtain ⟨i10, h⟩ := h
              refine va_iast hx hb hK hP hD hS 1 0 rfl rfl i10 d_M_part_69 (fun H locs hP hD hS => ?_)
              have hP : va_P (dC, dI) vCl ([(q_this, .inr (6, [.int v_this_animals, .ref q_this_sexes, .ref q_this_worths, .ref q_this_families, .ref q_this_kins, .ref q_this_isBarred, .int v_this_limit, .int v_this_most, .ref q_this_leasts, .int v_this_tested, .int v_this_testedBy, .int v_this_best, .int v_this_bestWorth, .int v_this_sets, .int v_this_many, .ref q_this_males, .ref q_this_females, .ref q_this_now, .ref q_this_then, .int v_this_pairs, .int v_this_choice, .int v_this_choiceSets, .ref q_this_he, .ref q_this_she, .ref q_this_eggs, .ref q_this_points, .ref q_this_rests, .int v_this_years, .ref q_this_alive, .ref q_this_yearSets, .ref q_this_yearWorths])), (q_this_females, .inl (cI, 12, .inl (upd w8_this_females x4_8.toNatClampNeg x5_8))), (q_this_males, .inl (cI, 12, .inl w8_this_males)), (q_this_sexes, .inl (cI, 12, .inl v_this_sexes))]) H := hP
              have hD : va_D A ([(q_this, .inr (6, [.int v_this_animals, .ref q_this_sexes, .ref q_this_worths, .ref q_this_families, .ref q_this_kins, .ref q_this_isBarred, .int v_this_limit, .int v_this_most, .ref q_this_leasts, .int v_this_tested, .int v_this_testedBy, .int v_this_best, .int v_this_bestWorth, .int v_this_sets, .int v_this_many, .ref q_this_males, .ref q_this_females, .ref q_this_now, .ref q_this_then, .int v_this_pairs, .int v_this_choice, .int v_this_choiceSets, .ref q_this_he, .ref q_this_she, .ref q_this_eggs, .ref q_this_points, .ref q_this_rests, .int v_this_years, .ref q_this_alive, .ref q_this_yearSets, .ref q_this_yearWorths])), (q_this_females, .inl (cI, 12, .inl (upd w8_this_females x4_8.toNatClampNeg x5_8))), (q_this_males, .inl (cI, 12, .inl w8_this_males)), (q_this_sexes, .inl (cI, 12, .inl v_this_sexes))]) := hD
              refine lv_iinc (v := (x4_8 + 1)) (lv' := [(4, .int (x4_8 + 1)), (5, .int x5_8), (3, .int x3_8), (0, .ref q_this), (1, .int x1), (2, .int x2)]) hx hb d_M_part_70 hl (k := 1) rfl rfl (by decide) rfl (fun ls hl => ?_)
              refine lv_iinc (v := (x5_8 + 1)) (lv' := [(5, .int (x5_8 + 1)), (4, .int (x4_8 + 1)), (3, .int x3_8), (0, .ref q_this), (1, .int x1), (2, .int x2)]) hx hb d_M_part_73 hl (k := 1) rfl rfl (by decide) rfl (fun ls hl => ?_)
              refine lv_goto (tgt := 8) hx hb d_M_part_76 (by decide) ?_
              exact ih8 x3_8 (x4_8 + 1) (x5_8 + 1) (upd w8_this_females x4_8.toNatClampNeg x5_8) w8_this_males _ _ ls h hP hD hS (lv_sub hl [0, 1, 2, 3, 4, 5] rfl)
          · have h := h.2 c8
            refine lv_aload_n hx hb d_M_part_37 rfl (lv_at hl 3 rfl) ?_
            refine va_get (D := (dC, dI)) (ci := 6) (v := .ref q_this_males) (C := "PairChoiceModel") (T := F_M) (N := 31) hx hb hts (fun w h => List.mem_cons_of_mem _ (i_M w h)) hown hK hP 0 rfl rfl 15 (by decide) (hts _ (List.mem_cons_of_mem _ kw_474)) (fun _ h9 => h9) rfl d_M_part_38 ?_
            refine lv_iload_n hx hb d_M_part_41 rfl (lv_at hl 2 rfl) ?_
            refine lv_iload hx hb d_M_part_42 (lv_at hl 0 rfl) ?_
            obtain ⟨i11, h⟩ := h
            refine va_iast hx hb hK hP hD hS 2 0 rfl rfl i11 d_M_part_44 (fun H locs hP hD hS => ?_)
            have hP : va_P (dC, dI) vCl ([(q_this, .inr (6, [.int v_this_animals, .ref q_this_sexes, .ref q_this_worths, .ref q_this_families, .ref q_this_kins, .ref q_this_isBarred, .int v_this_limit, .int v_this_most, .ref q_this_leasts, .int v_this_tested, .int v_this_testedBy, .int v_this_best, .int v_this_bestWorth, .int v_this_sets, .int v_this_many, .ref q_this_males, .ref q_this_females, .ref q_this_now, .ref q_this_then, .int v_this_pairs, .int v_this_choice, .int v_this_choiceSets, .ref q_this_he, .ref q_this_she, .ref q_this_eggs, .ref q_this_points, .ref q_this_rests, .int v_this_years, .ref q_this_alive, .ref q_this_yearSets, .ref q_this_yearWorths])), (q_this_females, .inl (cI, 12, .inl w8_this_females)), (q_this_males, .inl (cI, 12, .inl (upd w8_this_males x3_8.toNatClampNeg x5_8))), (q_this_sexes, .inl (cI, 12, .inl v_this_sexes))]) H := hP
            have hD : va_D A ([(q_this, .inr (6, [.int v_this_animals, .ref q_this_sexes, .ref q_this_worths, .ref q_this_families, .ref q_this_kins, .ref q_this_isBarred, .int v_this_limit, .int v_this_most, .ref q_this_leasts, .int v_this_tested, .int v_this_testedBy, .int v_this_best, .int v_this_bestWorth, .int v_this_sets, .int v_this_many, .ref q_this_males, .ref q_this_females, .ref q_this_now, .ref q_this_then, .int v_this_pairs, .int v_this_choice, .int v_this_choiceSets, .ref q_this_he, .ref q_this_she, .ref q_this_eggs, .ref q_this_points, .ref q_this_rests, .int v_this_years, .ref q_this_alive, .ref q_this_yearSets, .ref q_this_yearWorths])), (q_this_females, .inl (cI, 12, .inl w8_this_females)), (q_this_males, .inl (cI, 12, .inl (upd w8_this_males x3_8.toNatClampNeg x5_8))), (q_this_sexes, .inl (cI, 12, .inl v_this_sexes))]) := hD
            refine lv_iinc (v := (x3_8 + 1)) (lv' := [(3, .int (x3_8 + 1)), (5, .int x5_8), (4, .int x4_8), (0, .ref q_this), (1, .int x1), (2, .int x2)]) hx hb d_M_part_45 hl (k := 2) rfl rfl (by decide) rfl (fun ls hl => ?_)
            refine lv_goto (tgt := 73) hx hb d_M_part_48 (by decide) ?_
            refine lv_iinc (v := (x5_8 + 1)) (lv' := [(5, .int (x5_8 + 1)), (3, .int (x3_8 + 1)), (4, .int x4_8), (0, .ref q_this), (1, .int x1), (2, .int x2)]) hx hb d_M_part_73 hl (k := 1) rfl rfl (by decide) rfl (fun ls hl => ?_)
            refine lv_goto (tgt := 8) hx hb d_M_part_76 (by decide) ?_
            exact ih8 (x3_8 + 1) x4_8 (x5_8 + 1) w8_this_females (upd w8_this_males x3_8.toNatClampNeg x5_8) _ _ ls h hP hD hS (lv_sub hl [0, 2, 1, 3, 4, 5] rfl)
  exact lp8 nn (0) (0) (0) v_this_females v_this_males _ _ ls h hP hD hS hl
