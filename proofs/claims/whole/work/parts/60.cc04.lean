def at_PairChoice_line (dC : Nat → ClassId) (dI : Nat → Nat → Nat) (cI cJ cG cZ : ClassId) (q_this q_this_choice q_this_choice_eggShares q_this_choice_pairing q_this_choice_rests q_this_herd q_this_herd_barred q_this_herd_families q_this_herd_kinships q_this_herd_leastOfFamily q_this_herd_worths q_this_outlook q_this_sets q_this_sets_listed q_this_sets_sums q_this_sets_trial : Nat) (A : Nat → Prop) (v_this_choice_set : Int32) (v_this_choice_setsThatMayBe : Int32) (v_this_herd_count : Int32) (v_this_herd_kinLimit : Int32) (v_this_herd_males : Int32) (v_this_herd_mostOfFamily : Int32) (v_this_sets_size : Int32) (u : Int32 × (Nat → Int32) × Int32) (t : State) : Prop := va_P (dC, dI) vCl ([(q_this, .inr (5, [.ref q_this_herd, .ref q_this_sets, .ref q_this_choice, .ref q_this_outlook])), (q_this_choice, .inr (0, [.ref q_this_herd, .ref q_this_choice_pairing, .int u.1, .int v_this_choice_set, .int v_this_choice_setsThatMayBe, .ref q_this_choice_eggShares, .ref q_this_choice_rests])), (q_this_herd, .inr (1, [.int v_this_herd_count, .int v_this_herd_males, .ref q_this_herd_worths, .ref q_this_herd_families, .ref q_this_herd_kinships, .ref q_this_herd_barred, .int v_this_herd_kinLimit, .int v_this_herd_mostOfFamily, .ref q_this_herd_leastOfFamily])), (q_this_herd_leastOfFamily, .inl (cI, 8, .inl u.2.1)), (q_this_sets, .inr (4, [.ref q_this_herd, .ref q_this_sets_trial, .ref q_this_sets_listed, .ref q_this_sets_sums, .int v_this_sets_size, .int u.2.2]))]) t.heap ∧ va_D A ([(q_this, .inr (5, [.ref q_this_herd, .ref q_this_sets, .ref q_this_choice, .ref q_this_outlook])), (q_this_choice, .inr (0, [.ref q_this_herd, .ref q_this_choice_pairing, .int u.1, .int v_this_choice_set, .int v_this_choice_setsThatMayBe, .ref q_this_choice_eggShares, .ref q_this_choice_rests])), (q_this_herd, .inr (1, [.int v_this_herd_count, .int v_this_herd_males, .ref q_this_herd_worths, .ref q_this_herd_families, .ref q_this_herd_kinships, .ref q_this_herd_barred, .int v_this_herd_kinLimit, .int v_this_herd_mostOfFamily, .ref q_this_herd_leastOfFamily])), (q_this_herd_leastOfFamily, .inl (cI, 8, .inl u.2.1)), (q_this_sets, .inr (4, [.ref q_this_herd, .ref q_this_sets_trial, .ref q_this_sets_listed, .ref q_this_sets_sums, .int v_this_sets_size, .int u.2.2]))])
set_option maxHeartbeats 4000000 in
set_option maxRecDepth 100000 in
theorem c_PairChoice_line (l : Launch) (dC : Nat → ClassId) (dI : Nat → Nat → Nat) (cI cJ cG cZ : ClassId) (q_this q_this_choice q_this_choice_eggShares q_this_choice_pairing q_this_choice_rests q_this_herd q_this_herd_barred q_this_herd_families q_this_herd_kinships q_this_herd_leastOfFamily q_this_herd_worths q_this_outlook q_this_sets q_this_sets_listed q_this_sets_sums q_this_sets_trial : Nat) (sz : Nat) (v_this_choice_pairs : Int32) (v_this_choice_set : Int32) (v_this_choice_setsThatMayBe : Int32) (v_this_herd_count : Int32) (v_this_herd_kinLimit : Int32) (v_this_herd_leastOfFamily : (Nat → Int32)) (v_this_herd_males : Int32) (v_this_herd_mostOfFamily : Int32) (v_this_sets_pairs : Int32) (v_this_sets_size : Int32) (x1 : Int32) (x2 : Int32) (post : Int32 → Int32 → (Nat → Int32) → Int32 → Prop) (h : wp_PairChoice_line v_this_choice_pairs v_this_herd_leastOfFamily v_this_sets_pairs x1 x2 post) : Met l y_PairChoice_line w_PairChoice_line ({ frames := 2, cells := 0, slots := 0, locals := 40 } : Room) (va_Pc [.ref q_this, .int x1, .int x2] (pcW dC dI cI cJ cG cZ sz ([(q_this, .inr (5, [.ref q_this_herd, .ref q_this_sets, .ref q_this_choice, .ref q_this_outlook])), (q_this_choice, .inr (0, [.ref q_this_herd, .ref q_this_choice_pairing, .int v_this_choice_pairs, .int v_this_choice_set, .int v_this_choice_setsThatMayBe, .ref q_this_choice_eggShares, .ref q_this_choice_rests])), (q_this_herd, .inr (1, [.int v_this_herd_count, .int v_this_herd_males, .ref q_this_herd_worths, .ref q_this_herd_families, .ref q_this_herd_kinships, .ref q_this_herd_barred, .int v_this_herd_kinLimit, .int v_this_herd_mostOfFamily, .ref q_this_herd_leastOfFamily])), (q_this_herd_leastOfFamily, .inl (cI, 8, .inl v_this_herd_leastOfFamily)), (q_this_sets, .inr (4, [.ref q_this_herd, .ref q_this_sets_trial, .ref q_this_sets_listed, .ref q_this_sets_sums, .int v_this_sets_size, .int v_this_sets_pairs]))]))) (va_Qi (fun (r : Int32) (u : Int32 × (Nat → Int32) × Int32) => post r u.1 u.2.1 u.2.2) (fun (u : Int32 × (Nat → Int32) × Int32) (t : State) => at_PairChoice_line dC dI cI cJ cG cZ q_this q_this_choice q_this_choice_eggShares q_this_choice_pairing q_this_choice_rests q_this_herd q_this_herd_barred q_this_herd_families q_this_herd_kinships q_this_herd_leastOfFamily q_this_herd_worths q_this_outlook q_this_sets q_this_sets_listed q_this_sets_sums q_this_sets_trial (va_A ([(q_this, .inr (5, [.ref q_this_herd, .ref q_this_sets, .ref q_this_choice, .ref q_this_outlook])), (q_this_choice, .inr (0, [.ref q_this_herd, .ref q_this_choice_pairing, .int v_this_choice_pairs, .int v_this_choice_set, .int v_this_choice_setsThatMayBe, .ref q_this_choice_eggShares, .ref q_this_choice_rests])), (q_this_herd, .inr (1, [.int v_this_herd_count, .int v_this_herd_males, .ref q_this_herd_worths, .ref q_this_herd_families, .ref q_this_herd_kinships, .ref q_this_herd_barred, .int v_this_herd_kinLimit, .int v_this_herd_mostOfFamily, .ref q_this_herd_leastOfFamily])), (q_this_herd_leastOfFamily, .inl (cI, 8, .inl v_this_herd_leastOfFamily)), (q_this_sets, .inr (4, [.ref q_this_herd, .ref q_this_sets_trial, .ref q_this_sets_listed, .ref q_this_sets_sums, .int v_this_sets_size, .int v_this_sets_pairs]))]) sz) v_this_choice_set v_this_choice_setsThatMayBe v_this_herd_count v_this_herd_kinLimit v_this_herd_males v_this_herd_mostOfFamily v_this_sets_size u t) (va_A ([(q_this, .inr (5, [.ref q_this_herd, .ref q_this_sets, .ref q_this_choice, .ref q_this_outlook])), (q_this_choice, .inr (0, [.ref q_this_herd, .ref q_this_choice_pairing, .int v_this_choice_pairs, .int v_this_choice_set, .int v_this_choice_setsThatMayBe, .ref q_this_choice_eggShares, .ref q_this_choice_rests])), (q_this_herd, .inr (1, [.int v_this_herd_count, .int v_this_herd_males, .ref q_this_herd_worths, .ref q_this_herd_families, .ref q_this_herd_kinships, .ref q_this_herd_barred, .int v_this_herd_kinLimit, .int v_this_herd_mostOfFamily, .ref q_this_herd_leastOfFamily])), (q_this_herd_leastOfFamily, .inl (cI, 8, .inl v_this_herd_leastOfFamily)), (q_this_sets, .inr (4, [.ref q_this_herd, .ref q_this_sets_trial, .ref q_this_sets_listed, .ref q_this_sets_sums, .int v_this_sets_size, .int v_this_sets_pairs]))]) sz)) 0 0 (va_A ([(q_this, .inr (5, [.ref q_this_herd, .ref q_this_sets, .ref q_this_choice, .ref q_this_outlook])), (q_this_choice, .inr (0, [.ref q_this_herd, .ref q_this_choice_pairing, .int v_this_choice_pairs, .int v_this_choice_set, .int v_this_choice_setsThatMayBe, .ref q_this_choice_eggShares, .ref q_this_choice_rests])), (q_this_herd, .inr (1, [.int v_this_herd_count, .int v_this_herd_males, .ref q_this_herd_worths, .ref q_this_herd_families, .ref q_this_herd_kinships, .ref q_this_herd_barred, .int v_this_herd_kinLimit, .int v_this_herd_mostOfFamily, .ref q_this_herd_leastOfFamily])), (q_this_herd_leastOfFamily, .inl (cI, 8, .inl v_this_herd_leastOfFamily)), (q_this_sets, .inr (4, [.ref q_this_herd, .ref q_this_sets_trial, .ref q_this_sets_listed, .ref q_this_sets_sums, .int v_this_sets_size, .int v_this_sets_pairs]))]) sz) := by
  refine Met.ofW (cc := b_PairChoice_line) (maxL := 4) (ret := (some .int)) (by decide) rfl ?_
  intro p e s m args below meth c s₁ B hml hv
  obtain ⟨rfl, hsz, hP, hK, hN, hD0⟩ := hv
  have hx := B.exec
  have hb := B.bytes
  have hr := B.returns
  have hts := atoms_spec (ws := w_PairChoice_line) B.pre
  have hown : s.vm.findClass "PairChoice" = some m.cls := findClass_of_methodNamed B.named
  have hlocks := B.notSynchronized
  subst hsz
  have hD := hD0.self (sz := s.heap.size)
  generalize hAe : va_A ([(q_this, .inr (5, [.ref q_this_herd, .ref q_this_sets, .ref q_this_choice, .ref q_this_outlook])), (q_this_choice, .inr (0, [.ref q_this_herd, .ref q_this_choice_pairing, .int v_this_choice_pairs, .int v_this_choice_set, .int v_this_choice_setsThatMayBe, .ref q_this_choice_eggShares, .ref q_this_choice_rests])), (q_this_herd, .inr (1, [.int v_this_herd_count, .int v_this_herd_males, .ref q_this_herd_worths, .ref q_this_herd_families, .ref q_this_herd_kinships, .ref q_this_herd_barred, .int v_this_herd_kinLimit, .int v_this_herd_mostOfFamily, .ref q_this_herd_leastOfFamily])), (q_this_herd_leastOfFamily, .inl (cI, 8, .inl v_this_herd_leastOfFamily)), (q_this_sets, .inr (4, [.ref q_this_herd, .ref q_this_sets_trial, .ref q_this_sets_listed, .ref q_this_sets_sums, .int v_this_sets_size, .int v_this_sets_pairs]))]) s.heap.size = A at hD ⊢
  have hA : ∀ q : Nat, s.heap.size ≤ q → A q := fun q h => by rw [← hAe]; exact Or.inr h
  have hS : va_S A s.heap s.heap [] := va_S.rf
  have hl := lv_entry ([.ref q_this, .int x1, .int x2]) (n := 4) (Nat.le_of_ble_eq_true rfl)
  rw [lg_entry_eq]
  generalize (lg_sl ([.ref q_this, .int x1, .int x2]) ++ List.replicate (4 - (lg_sl ([.ref q_this, .int x1, .int x2])).length) Slot.unset).toArray = ls at hl ⊢
  have hl : lv_has ls 4 [(0, .ref q_this), (1, .int x1), (2, .int x2)] := hl
  unfold wp_PairChoice_line at h
  refine lv_iload_n hx hb d_PairChoice_line_0 rfl (lv_at hl 1 rfl) ?_
  refine lv_iconst (v := 0) hx hb d_PairChoice_line_1 (by decide) ?_
  refine lv_bipush (v := 7) hx hb d_PairChoice_line_2 (by decide) ?_
  refine vp_callSi (va_Run.run (va_runS (As := [.int x1, .int 0, .int 7]) (rest := []) ⟨hx, hb, hml, hown, hts⟩ (c_PairChoice_isWithin l dC dI cI cJ cG cZ     (x1 : Int32) (0 : Int32) (7 : Int32) _ h) (va_cwS 3 hts (gcS kw_223 kw_224 kw_39 kw_225) rfl rfl rfl (by decide +kernel) ⟨Nat.le_of_ble_eq_true rfl, Nat.le_of_ble_eq_true rfl⟩) ⟨fb_s, pre_s hK hN⟩ rfl rfl hl.1 rfl (lv_room (Nat.le_of_ble_eq_true rfl)) d_PairChoice_line_4 ⟨Nat.zero_le _, Nat.zero_le _⟩)) (fun r1 h => ?_)
  obtain ⟨br1, h⟩ := h
  refine lv_if_ne (tgt := 12) hx hb d_PairChoice_line_7 (by decide) (fun c2 => ?_) (fun c2 => ?_)
  · have h := h.1 c2
    refine lv_iload_n hx hb d_PairChoice_line_12 rfl (lv_at hl 2 rfl) ?_
    refine lv_iconst (v := 0) hx hb d_PairChoice_line_13 (by decide) ?_
    refine lv_bipush (v := 12) hx hb d_PairChoice_line_14 (by decide) ?_
    refine vp_callSi (va_Run.run (va_runS (As := [.int x2, .int 0, .int 12]) (rest := []) ⟨hx, hb, hml, hown, hts⟩ (c_PairChoice_isWithin l dC dI cI cJ cG cZ     (x2 : Int32) (0 : Int32) (12 : Int32) _ h) (va_cwS 3 hts (gcS kw_223 kw_224 kw_39 kw_225) rfl rfl rfl (by decide +kernel) ⟨Nat.le_of_ble_eq_true rfl, Nat.le_of_ble_eq_true rfl⟩) ⟨fb_s, pre_s hK hN⟩ rfl rfl hl.1 rfl (lv_room (Nat.le_of_ble_eq_true rfl)) d_PairChoice_line_16 ⟨Nat.zero_le _, Nat.zero_le _⟩)) (fun r3 h => ?_)
    obtain ⟨br3, h⟩ := h
    refine lv_if_ne (tgt := 25) hx hb d_PairChoice_line_19 (by decide) (fun c4 => ?_) (fun c4 => ?_)
    · have h := h.1 c4
      refine lv_aload_n hx hb d_PairChoice_line_25 rfl (lv_at hl 0 rfl) ?_
      refine va_get (D := (dC, dI)) (ci := 5) (v := .ref q_this_herd) (C := "PairChoice") (T := F_PairChoice) (N := 4) hx hb hts (fun w h => List.mem_cons_of_mem _ (i_PairChoice w h)) hown hK hP 0 rfl rfl 0 (by decide) (hts _ (List.mem_cons_of_mem _ kw_206)) (fun _ h9 => h9) rfl d_PairChoice_line_26 ?_
      refine va_getN (D := (dC, dI)) (ci := 1) (v := .ref q_this_herd_leastOfFamily) (C := "PairChoice$Herd") (T := F_Herd) (N := 9) hx hb hts (fun w h => List.mem_cons_of_mem _ (i_Herd w h)) hown hK hP 2 rfl rfl 8 (by decide) (va_Nw.use rfl (nw_87 hN)) (fun _ h9 => h9) rfl d_PairChoice_line_29 ?_
      refine lv_iload_n hx hb d_PairChoice_line_32 rfl (lv_at hl 1 rfl) ?_
      obtain ⟨i5, h⟩ := h
      refine va_iald hx hb hK hP 3 0 rfl rfl i5 d_PairChoice_line_33 ?_
      refine lv_istore_n (lv' := [(3, .int (v_this_herd_leastOfFamily x1.toNatClampNeg)), (0, .ref q_this), (1, .int x1), (2, .int x2)]) hx hb d_PairChoice_line_34 rfl hl (by decide) rfl (fun ls hl => ?_)
      refine lv_iload_n hx hb d_PairChoice_line_35 rfl (lv_at hl 3 rfl) ?_
      refine lv_iload_n hx hb d_PairChoice_line_36 rfl (lv_at hl 0 rfl) ?_
      refine lv_icmp_eq (tgt := 54) hx hb d_PairChoice_line_37 (by decide) (fun c6 => ?_) (fun c6 => ?_)
      · have h := h.1 c6
        refine lv_iload_n hx hb d_PairChoice_line_54 rfl (lv_at hl 0 rfl) ?_
        exact W.iret hx hb hr (fun t ht hW => ⟨⟨_, (v_this_choice_pairs, v_this_herd_leastOfFamily, v_this_sets_pairs), rfl, h, ⟨by rw [ht]; exact hP, hD⟩⟩, hS.F ht⟩) hS.2.2 d_PairChoice_line_55
      · have h := h.2 c6
        refine lv_aload_n hx hb d_PairChoice_line_40 rfl (lv_at hl 1 rfl) ?_
        refine va_get (D := (dC, dI)) (ci := 5) (v := .ref q_this_herd) (C := "PairChoice") (T := F_PairChoice) (N := 4) hx hb hts (fun w h => List.mem_cons_of_mem _ (i_PairChoice w h)) hown hK hP 0 rfl rfl 0 (by decide) (hts _ (List.mem_cons_of_mem _ kw_206)) (fun _ h9 => h9) rfl d_PairChoice_line_41 ?_
        refine va_getN (D := (dC, dI)) (ci := 1) (v := .ref q_this_herd_leastOfFamily) (C := "PairChoice$Herd") (T := F_Herd) (N := 9) hx hb hts (fun w h => List.mem_cons_of_mem _ (i_Herd w h)) hown hK hP 2 rfl rfl 8 (by decide) (va_Nw.use rfl (nw_87 hN)) (fun _ h9 => h9) rfl d_PairChoice_line_44 ?_
        refine lv_iload_n hx hb d_PairChoice_line_47 rfl (lv_at hl 2 rfl) ?_
        refine lv_iload_n hx hb d_PairChoice_line_48 rfl (lv_at hl 3 rfl) ?_
        obtain ⟨i7, h⟩ := h
        refine va_iast hx hb hK hP hD hS 3 0 rfl rfl i7 d_PairChoice_line_49 (fun H locs hP hD hS => ?_)
        have hP : va_P (dC, dI) vCl ([(q_this, .inr (5, [.ref q_this_herd, .ref q_this_sets, .ref q_this_choice, .ref q_this_outlook])), (q_this_choice, .inr (0, [.ref q_this_herd, .ref q_this_choice_pairing, .int v_this_choice_pairs, .int v_this_choice_set, .int v_this_choice_setsThatMayBe, .ref q_this_choice_eggShares, .ref q_this_choice_rests])), (q_this_herd, .inr (1, [.int v_this_herd_count, .int v_this_herd_males, .ref q_this_herd_worths, .ref q_this_herd_families, .ref q_this_herd_kinships, .ref q_this_herd_barred, .int v_this_herd_kinLimit, .int v_this_herd_mostOfFamily, .ref q_this_herd_leastOfFamily])), (q_this_herd_leastOfFamily, .inl (cI, 8, .inl (upd v_this_herd_leastOfFamily x1.toNatClampNeg x2))), (q_this_sets, .inr (4, [.ref q_this_herd, .ref q_this_sets_trial, .ref q_this_sets_listed, .ref q_this_sets_sums, .int v_this_sets_size, .int v_this_sets_pairs]))]) H := hP
        have hD : va_D A ([(q_this, .inr (5, [.ref q_this_herd, .ref q_this_sets, .ref q_this_choice, .ref q_this_outlook])), (q_this_choice, .inr (0, [.ref q_this_herd, .ref q_this_choice_pairing, .int v_this_choice_pairs, .int v_this_choice_set, .int v_this_choice_setsThatMayBe, .ref q_this_choice_eggShares, .ref q_this_choice_rests])), (q_this_herd, .inr (1, [.int v_this_herd_count, .int v_this_herd_males, .ref q_this_herd_worths, .ref q_this_herd_families, .ref q_this_herd_kinships, .ref q_this_herd_barred, .int v_this_herd_kinLimit, .int v_this_herd_mostOfFamily, .ref q_this_herd_leastOfFamily])), (q_this_herd_leastOfFamily, .inl (cI, 8, .inl (upd v_this_herd_leastOfFamily x1.toNatClampNeg x2))), (q_this_sets, .inr (4, [.ref q_this_herd, .ref q_this_sets_trial, .ref q_this_sets_listed, .ref q_this_sets_sums, .int v_this_sets_size, .int v_this_sets_pairs]))]) := hD
        refine lv_aload_n hx hb d_PairChoice_line_50 rfl (lv_at hl 1 rfl) ?_
        have hPc := hP.sub (ws' := [(q_this, .inr (5, [.ref q_this_herd, .ref q_this_sets, .ref q_this_choice, .ref q_this_outlook])), (q_this_choice, .inr (0, [.ref q_this_herd, .ref q_this_choice_pairing, .int v_this_choice_pairs, .int v_this_choice_set, .int v_this_choice_setsThatMayBe, .ref q_this_choice_eggShares, .ref q_this_choice_rests])), (q_this_sets, .inr (4, [.ref q_this_herd, .ref q_this_sets_trial, .ref q_this_sets_listed, .ref q_this_sets_sums, .int v_this_sets_size, .int v_this_sets_pairs]))]) [0, 1, 4] rfl
        have hDc := hD.sub (ws' := [(q_this, .inr (5, [.ref q_this_herd, .ref q_this_sets, .ref q_this_choice, .ref q_this_outlook])), (q_this_choice, .inr (0, [.ref q_this_herd, .ref q_this_choice_pairing, .int v_this_choice_pairs, .int v_this_choice_set, .int v_this_choice_setsThatMayBe, .ref q_this_choice_eggShares, .ref q_this_choice_rests])), (q_this_sets, .inr (4, [.ref q_this_herd, .ref q_this_sets_trial, .ref q_this_sets_listed, .ref q_this_sets_sums, .int v_this_sets_size, .int v_this_sets_pairs]))]) [0, 1, 4] (by decide) rfl
        have hFc := va_free (wc := [(q_this, .inr (5, [.ref q_this_herd, .ref q_this_sets, .ref q_this_choice, .ref q_this_outlook])), (q_this_choice, .inr (0, [.ref q_this_herd, .ref q_this_choice_pairing, .int v_this_choice_pairs, .int v_this_choice_set, .int v_this_choice_setsThatMayBe, .ref q_this_choice_eggShares, .ref q_this_choice_rests])), (q_this_sets, .inr (4, [.ref q_this_herd, .ref q_this_sets_trial, .ref q_this_sets_listed, .ref q_this_sets_sums, .int v_this_sets_size, .int v_this_sets_pairs]))]) hD hS hA [0, 1, 4] rfl
        refine va_callv (va_runV (As := []) (rest := []) ⟨hx, hb, hml, hown, hts⟩ (c_PairChoice_forgetFindings l dC dI cI cJ cG cZ  q_this q_this_choice q_this_choice_eggShares q_this_choice_pairing q_this_choice_rests q_this_herd q_this_outlook q_this_sets q_this_sets_listed q_this_sets_sums q_this_sets_trial H.size v_this_choice_pairs v_this_choice_set v_this_choice_setsThatMayBe v_this_sets_pairs v_this_sets_size  _ h) (cwV 0 hts (gcV kw_229 kw_231 kw_0 kw_39 kw_232) rfl rfl rfl (by decide +kernel) ⟨Nat.le_of_ble_eq_true rfl, Nat.le_of_ble_eq_true rfl⟩) ⟨fb_w, va_recv hK hPc (ci := 5) (q0 := 0) rfl rfl, pre_w hPc hK hN hDc⟩ rfl rfl hl.1 rfl (lv_room (Nat.le_of_ble_eq_true rfl)) d_PairChoice_line_51 ⟨Nat.zero_le _, Nat.zero_le _⟩) hS (fun q _ h => hFc q h) hFc (fun u t H1 locs ht hvm h hB hz1 hk1 hS => ?_)
        obtain ⟨v8, v9⟩ := u
        obtain ⟨hP1, hD1⟩ := hB
        rw [ht] at hP1
        obtain ⟨hP, hD⟩ := va_join (wr := [(q_this_herd, .inr (1, [.int v_this_herd_count, .int v_this_herd_males, .ref q_this_herd_worths, .ref q_this_herd_families, .ref q_this_herd_kinships, .ref q_this_herd_barred, .int v_this_herd_kinLimit, .int v_this_herd_mostOfFamily, .ref q_this_herd_leastOfFamily])), (q_this_herd_leastOfFamily, .inl (cI, 8, .inl (upd v_this_herd_leastOfFamily x1.toNatClampNeg x2)))]) (w1 := [(q_this, .inr (5, [.ref q_this_herd, .ref q_this_sets, .ref q_this_choice, .ref q_this_outlook])), (q_this_choice, .inr (0, [.ref q_this_herd, .ref q_this_choice_pairing, .int v8, .int v_this_choice_set, .int v_this_choice_setsThatMayBe, .ref q_this_choice_eggShares, .ref q_this_choice_rests])), (q_this_sets, .inr (4, [.ref q_this_herd, .ref q_this_sets_trial, .ref q_this_sets_listed, .ref q_this_sets_sums, .int v_this_sets_size, .int v9]))]) hP hD [0, 1, 4] [2, 3] rfl rfl (by decide) (by decide) hk1 hFc hP1 hD1
        generalize H1 = H at hP hS ⊢
        have hP : va_P (dC, dI) vCl ([(q_this, .inr (5, [.ref q_this_herd, .ref q_this_sets, .ref q_this_choice, .ref q_this_outlook])), (q_this_choice, .inr (0, [.ref q_this_herd, .ref q_this_choice_pairing, .int v8, .int v_this_choice_set, .int v_this_choice_setsThatMayBe, .ref q_this_choice_eggShares, .ref q_this_choice_rests])), (q_this_herd, .inr (1, [.int v_this_herd_count, .int v_this_herd_males, .ref q_this_herd_worths, .ref q_this_herd_families, .ref q_this_herd_kinships, .ref q_this_herd_barred, .int v_this_herd_kinLimit, .int v_this_herd_mostOfFamily, .ref q_this_herd_leastOfFamily])), (q_this_herd_leastOfFamily, .inl (cI, 8, .inl (upd v_this_herd_leastOfFamily x1.toNatClampNeg x2))), (q_this_sets, .inr (4, [.ref q_this_herd, .ref q_this_sets_trial, .ref q_this_sets_listed, .ref q_this_sets_sums, .int v_this_sets_size, .int v9]))]) H := hP.sub [2, 3, 0, 1, 4] rfl
        have hD : va_D A ([(q_this, .inr (5, [.ref q_this_herd, .ref q_this_sets, .ref q_this_choice, .ref q_this_outlook])), (q_this_choice, .inr (0, [.ref q_this_herd, .ref q_this_choice_pairing, .int v8, .int v_this_choice_set, .int v_this_choice_setsThatMayBe, .ref q_this_choice_eggShares, .ref q_this_choice_rests])), (q_this_herd, .inr (1, [.int v_this_herd_count, .int v_this_herd_males, .ref q_this_herd_worths, .ref q_this_herd_families, .ref q_this_herd_kinships, .ref q_this_herd_barred, .int v_this_herd_kinLimit, .int v_this_herd_mostOfFamily, .ref q_this_herd_leastOfFamily])), (q_this_herd_leastOfFamily, .inl (cI, 8, .inl (upd v_this_herd_leastOfFamily x1.toNatClampNeg x2))), (q_this_sets, .inr (4, [.ref q_this_herd, .ref q_this_sets_trial, .ref q_this_sets_listed, .ref q_this_sets_sums, .int v_this_sets_size, .int v9]))]) := hD.sub [2, 3, 0, 1, 4] (by decide) rfl
        refine lv_iload_n hx hb d_PairChoice_line_54 rfl (lv_at hl 0 rfl) ?_
        exact W.iret hx hb hr (fun t ht hW => ⟨⟨_, (v8, (upd v_this_herd_leastOfFamily x1.toNatClampNeg x2), v9), rfl, h, ⟨by rw [ht]; exact hP, hD⟩⟩, hS.F ht⟩) hS.2.2 d_PairChoice_line_55
    · have h := h.2 c4
      refine lv_bipush (v := (-2)) hx hb d_PairChoice_line_22 (by decide) ?_
      exact W.iret hx hb hr (fun t ht hW => ⟨⟨_, (v_this_choice_pairs, v_this_herd_leastOfFamily, v_this_sets_pairs), rfl, h, ⟨by rw [ht]; exact hP, hD⟩⟩, hS.F ht⟩) hS.2.2 d_PairChoice_line_24
  · have h := h.2 c2
    refine lv_iconst (v := (-1)) hx hb d_PairChoice_line_10 (by decide) ?_
    exact W.iret hx hb hr (fun t ht hW => ⟨⟨_, (v_this_choice_pairs, v_this_herd_leastOfFamily, v_this_sets_pairs), rfl, h, ⟨by rw [ht]; exact hP, hD⟩⟩, hS.F ht⟩) hS.2.2 d_PairChoice_line_11
set_option maxHeartbeats 4000000 in
set_option maxRecDepth 100000 in
theorem c_PairChoice_pairOf (l : Launch) (dC : Nat → ClassId) (dI : Nat → Nat → Nat) (cI cJ cG cZ : ClassId) (q_this q_this_choice q_this_choice_eggShares q_this_choice_pairing q_this_choice_pairing_females q_this_choice_pairing_males q_this_choice_rests q_this_herd q_this_outlook q_this_sets : Nat) (v_this_choice_pairing_females : (Nat → Int32)) (v_this_choice_pairing_males : (Nat → Int32)) (v_this_choice_pairs : Int32) (v_this_choice_set : Int32) (v_this_choice_setsThatMayBe : Int32) (x1 : Int32) (x2 : Int32) (post : Int32 → Prop) (h : wp_PairChoice_pairOf v_this_choice_pairing_females v_this_choice_pairing_males v_this_choice_pairs x1 x2 post) : Met l y_PairChoice_pairOf w_PairChoice_pairOf ({ frames := 1, cells := 0, slots := 0, locals := 22 } : Room) (va_Pc [.ref q_this, .int x1, .int x2] (pcR dC dI cI cJ cG cZ ([(q_this, .inr (5, [.ref q_this_herd, .ref q_this_sets, .ref q_this_choice, .ref q_this_outlook])), (q_this_choice, .inr (0, [.ref q_this_herd, .ref q_this_choice_pairing, .int v_this_choice_pairs, .int v_this_choice_set, .int v_this_choice_setsThatMayBe, .ref q_this_choice_eggShares, .ref q_this_choice_rests])), (q_this_choice_pairing, .inr (3, [.ref q_this_choice_pairing_males, .ref q_this_choice_pairing_females])), (q_this_choice_pairing_females, .inl (cI, 6, .inl v_this_choice_pairing_females)), (q_this_choice_pairing_males, .inl (cI, 6, .inl v_this_choice_pairing_males))]))) (vp_Si (fun r => post r)) 0 0 (fun _ => False) := by
  refine Met.ofW (cc := b_PairChoice_pairOf) (maxL := 3) (ret := (some .int)) (by decide) rfl ?_
  intro p e s m args below meth c s₁ B hml hv
  obtain ⟨rfl, hP, hK, hN⟩ := hv
  have hx := B.exec
  have hb := B.bytes
  have hr := B.returns
  have hts := atoms_spec (ws := w_PairChoice_pairOf) B.pre
  have hown : s.vm.findClass "PairChoice" = some m.cls := findClass_of_methodNamed B.named
  have hlocks := B.notSynchronized
  have hl := lv_entry ([.ref q_this, .int x1, .int x2]) (n := 3) (Nat.le_of_ble_eq_true rfl)
  rw [lg_entry_eq]
  generalize (lg_sl ([.ref q_this, .int x1, .int x2]) ++ List.replicate (3 - (lg_sl ([.ref q_this, .int x1, .int x2])).length) Slot.unset).toArray = ls at hl ⊢
  have hl : lv_has ls 3 [(0, .ref q_this), (1, .int x1), (2, .int x2)] := hl
  unfold wp_PairChoice_pairOf at h
  refine lv_aload_n hx hb d_PairChoice_pairOf_0 rfl (lv_at hl 0 rfl) ?_
  refine va_get (D := (dC, dI)) (ci := 5) (v := .ref q_this_choice) (C := "PairChoice") (T := F_PairChoice) (N := 4) hx hb hts (fun w h => List.mem_cons_of_mem _ (i_PairChoice w h)) hown hK hP 0 rfl rfl 2 (by decide) (hts _ (List.mem_cons_of_mem _ kw_208)) (fun _ h9 => h9) rfl d_PairChoice_pairOf_1 ?_
  refine lv_iload_n hx hb d_PairChoice_pairOf_4 rfl (lv_at hl 1 rfl) ?_
  have hPc := hP.sub (ws' := [(q_this_choice, .inr (0, [.ref q_this_herd, .ref q_this_choice_pairing, .int v_this_choice_pairs, .int v_this_choice_set, .int v_this_choice_setsThatMayBe, .ref q_this_choice_eggShares, .ref q_this_choice_rests]))]) [1] rfl
  refine vp_callSi (va_Run.run (va_runVN (As := [.int x1]) (rest := []) ⟨hx, hb, hml, hown, hts⟩ (c_Choice_hasPair l dC dI cI cJ cG cZ  q_this_choice q_this_choice_eggShares q_this_herd q_this_choice_pairing q_this_choice_rests  v_this_choice_pairs v_this_choice_set v_this_choice_setsThatMayBe (x1 : Int32) _ h) ⟨va_cnB 1 hts (gcB kw_362) rfl rfl rfl (nw_359 hN) (hts _ (List.mem_cons_of_mem _ kw_43)) (by decide +kernel) ⟨Nat.le_of_ble_eq_true rfl, Nat.le_of_ble_eq_true rfl⟩, (hts _ (List.mem_cons_of_mem _ kw_361)), (hts _ (List.mem_cons_of_mem _ kw_17))⟩ ⟨fb_r, va_recv hK hPc (ci := 0) (q0 := 0) rfl rfl, pre_r hPc hK hN⟩ rfl rfl hl.1 rfl (lv_room (Nat.le_of_ble_eq_true rfl)) d_PairChoice_pairOf_5 ⟨Nat.zero_le _, Nat.zero_le _⟩)) (fun r1 h => ?_)
  obtain ⟨br1, h⟩ := h
  refine lv_if_ne (tgt := 13) hx hb d_PairChoice_pairOf_8 (by decide) (fun c2 => ?_) (fun c2 => ?_)
  · have h := h.1 c2
    refine lv_iload_n hx hb d_PairChoice_pairOf_13 rfl (lv_at hl 2 rfl) ?_
    refine lv_iconst (v := 0) hx hb d_PairChoice_pairOf_14 (by decide) ?_
    refine lv_iconst (v := 1) hx hb d_PairChoice_pairOf_15 (by decide) ?_
    refine vp_callSi (va_Run.run (va_runS (As := [.int x2, .int 0, .int 1]) (rest := []) ⟨hx, hb, hml, hown, hts⟩ (c_PairChoice_isWithin l dC dI cI cJ cG cZ     (x2 : Int32) (0 : Int32) (1 : Int32) _ h) (va_cwS 3 hts (gcS kw_223 kw_224 kw_39 kw_225) rfl rfl rfl (by decide +kernel) ⟨Nat.le_of_ble_eq_true rfl, Nat.le_of_ble_eq_true rfl⟩) ⟨fb_s, pre_s hK hN⟩ rfl rfl hl.1 rfl (lv_room (Nat.le_of_ble_eq_true rfl)) d_PairChoice_pairOf_16 ⟨Nat.zero_le _, Nat.zero_le _⟩)) (fun r3 h => ?_)
    obtain ⟨br3, h⟩ := h
    refine lv_if_ne (tgt := 25) hx hb d_PairChoice_pairOf_19 (by decide) (fun c4 => ?_) (fun c4 => ?_)
    · have h := h.1 c4
      refine lv_iload_n hx hb d_PairChoice_pairOf_25 rfl (lv_at hl 2 rfl) ?_
      refine lv_if_ne (tgt := 44) hx hb d_PairChoice_pairOf_26 (by decide) (fun c5 => ?_) (fun c5 => ?_)
      · have h := h.1 c5
        refine lv_aload_n hx hb d_PairChoice_pairOf_44 rfl (lv_at hl 0 rfl) ?_
        refine va_get (D := (dC, dI)) (ci := 5) (v := .ref q_this_choice) (C := "PairChoice") (T := F_PairChoice) (N := 4) hx hb hts (fun w h => List.mem_cons_of_mem _ (i_PairChoice w h)) hown hK hP 0 rfl rfl 2 (by decide) (hts _ (List.mem_cons_of_mem _ kw_208)) (fun _ h9 => h9) rfl d_PairChoice_pairOf_45 ?_
        refine va_getN (D := (dC, dI)) (ci := 0) (v := .ref q_this_choice_pairing) (C := "PairChoice$Choice") (T := F_Choice) (N := 7) hx hb hts (fun w h => List.mem_cons_of_mem _ (i_Choice w h)) hown hK hP 1 rfl rfl 1 (by decide) (va_Nw.use rfl (nw_161 hN)) (fun _ h9 => h9) rfl d_PairChoice_pairOf_48 ?_
        refine va_getN (D := (dC, dI)) (ci := 3) (v := .ref q_this_choice_pairing_females) (C := "PairChoice$Pairing") (T := F_Pairing) (N := 2) hx hb hts (fun w h => List.mem_cons_of_mem _ (i_Pairing w h)) hown hK hP 2 rfl rfl 1 (by decide) (va_Nw.use rfl (nw_125 hN)) (fun _ h9 => h9) rfl d_PairChoice_pairOf_51 ?_
        refine lv_iload_n hx hb d_PairChoice_pairOf_54 rfl (lv_at hl 1 rfl) ?_
        obtain ⟨i6, h⟩ := h
        refine va_iald hx hb hK hP 3 0 rfl rfl i6 d_PairChoice_pairOf_55 ?_
        exact W.iret hx hb hr (fun t ht hW => ⟨_, rfl, h, ht⟩) (fun _ h9 => by cases h9) d_PairChoice_pairOf_56
      · have h := h.2 c5
        refine lv_aload_n hx hb d_PairChoice_pairOf_29 rfl (lv_at hl 0 rfl) ?_
        refine va_get (D := (dC, dI)) (ci := 5) (v := .ref q_this_choice) (C := "PairChoice") (T := F_PairChoice) (N := 4) hx hb hts (fun w h => List.mem_cons_of_mem _ (i_PairChoice w h)) hown hK hP 0 rfl rfl 2 (by decide) (hts _ (List.mem_cons_of_mem _ kw_208)) (fun _ h9 => h9) rfl d_PairChoice_pairOf_30 ?_
        refine va_getN (D := (dC, dI)) (ci := 0) (v := .ref q_this_choice_pairing) (C := "PairChoice$Choice") (T := F_Choice) (N := 7) hx hb hts (fun w h => List.mem_cons_of_mem _ (i_Choice w h)) hown hK hP 1 rfl rfl 1 (by decide) (va_Nw.use rfl (nw_161 hN)) (fun _ h9 => h9) rfl d_PairChoice_pairOf_33 ?_
        refine va_getN (D := (dC, dI)) (ci := 3) (v := .ref q_this_choice_pairing_males) (C := "PairChoice$Pairing") (T := F_Pairing) (N := 2) hx hb hts (fun w h => List.mem_cons_of_mem _ (i_Pairing w h)) hown hK hP 2 rfl rfl 0 (by decide) (va_Nw.use rfl (nw_122 hN)) (fun _ h9 => h9) rfl d_PairChoice_pairOf_36 ?_
        refine lv_iload_n hx hb d_PairChoice_pairOf_39 rfl (lv_at hl 1 rfl) ?_
        obtain ⟨i7, h⟩ := h
        refine va_iald hx hb hK hP 4 0 rfl rfl i7 d_PairChoice_pairOf_40 ?_
        refine lv_goto (tgt := 56) hx hb d_PairChoice_pairOf_41 (by decide) ?_
        exact W.iret hx hb hr (fun t ht hW => ⟨_, rfl, h, ht⟩) (fun _ h9 => by cases h9) d_PairChoice_pairOf_56
    · have h := h.2 c4
      refine lv_bipush (v := (-2)) hx hb d_PairChoice_pairOf_22 (by decide) ?_
      exact W.iret hx hb hr (fun t ht hW => ⟨_, rfl, h, ht⟩) (fun _ h9 => by cases h9) d_PairChoice_pairOf_24
  · have h := h.2 c2
    refine lv_iconst (v := (-1)) hx hb d_PairChoice_pairOf_11 (by decide) ?_
    exact W.iret hx hb hr (fun t ht hW => ⟨_, rfl, h, ht⟩) (fun _ h9 => by cases h9) d_PairChoice_pairOf_12
set_option maxHeartbeats 4000000 in
set_option maxRecDepth 100000 in
theorem c_PairChoice_told (l : Launch) (dC : Nat → ClassId) (dI : Nat → Nat → Nat) (cI cJ cG cZ : ClassId) (rw_this_herd_kinships : Nat → Nat) (q_this q_this_choice q_this_choice_eggShares q_this_choice_pairing q_this_choice_rests q_this_herd q_this_herd_barred q_this_herd_families q_this_herd_kinships q_this_herd_leastOfFamily q_this_herd_worths q_this_outlook q_this_sets : Nat) (v_this_choice_pairs : Int32) (v_this_choice_set : Int32) (v_this_choice_setsThatMayBe : Int32) (v_this_herd_count : Int32) (v_this_herd_kinLimit : Int32) (v_this_herd_kinships : (Nat → Nat → Int32)) (v_this_herd_males : Int32) (v_this_herd_mostOfFamily : Int32) (v_this_herd_worths : (Nat → Int32)) (x1 : Int32) (post : Int32 → Prop) (h : wp_PairChoice_told v_this_choice_pairs v_this_choice_set v_this_choice_setsThatMayBe v_this_herd_count v_this_herd_kinships v_this_herd_worths x1 post) : Met l y_PairChoice_told w_PairChoice_told ({ frames := 2, cells := 0, slots := 0, locals := 45 } : Room) (va_Pc [.ref q_this, .int x1] (pcR dC dI cI cJ cG cZ ([(q_this, .inr (5, [.ref q_this_herd, .ref q_this_sets, .ref q_this_choice, .ref q_this_outlook])), (q_this_choice, .inr (0, [.ref q_this_herd, .ref q_this_choice_pairing, .int v_this_choice_pairs, .int v_this_choice_set, .int v_this_choice_setsThatMayBe, .ref q_this_choice_eggShares, .ref q_this_choice_rests])), (q_this_herd, .inr (1, [.int v_this_herd_count, .int v_this_herd_males, .ref q_this_herd_worths, .ref q_this_herd_families, .ref q_this_herd_kinships, .ref q_this_herd_barred, .int v_this_herd_kinLimit, .int v_this_herd_mostOfFamily, .ref q_this_herd_leastOfFamily])), (q_this_herd_kinships, .inl (cG, 12, .inr (.inr (.inr (.inr (gw rw_this_herd_kinships)))))), (q_this_herd_worths, .inl (cI, 12, .inl v_this_herd_worths))] ++ rws rw_this_herd_kinships cI v_this_herd_kinships))) (vp_Si (fun r => post r)) 0 0 (fun _ => False) := by
  refine Met.ofW (cc := b_PairChoice_told) (maxL := 2) (ret := (some .int)) (by decide) rfl ?_
  intro p e s m args below meth c s₁ B hml hv
  obtain ⟨rfl, hP, hK, hN⟩ := hv
  have hx := B.exec
  have hb := B.bytes
  have hr := B.returns
  have hts := atoms_spec (ws := w_PairChoice_told) B.pre
  have hown : s.vm.findClass "PairChoice" = some m.cls := findClass_of_methodNamed B.named
  have hlocks := B.notSynchronized
  have hl := lv_entry ([.ref q_this, .int x1]) (n := 2) (Nat.le_of_ble_eq_true rfl)
  rw [lg_entry_eq]
  generalize (lg_sl ([.ref q_this, .int x1]) ++ List.replicate (2 - (lg_sl ([.ref q_this, .int x1])).length) Slot.unset).toArray = ls at hl ⊢
  have hl : lv_has ls 2 [(0, .ref q_this), (1, .int x1)] := hl
  unfold wp_PairChoice_told at h
  refine lv_iload_n hx hb d_PairChoice_told_0 rfl (lv_at hl 1 rfl) ?_
  refine lv_iconst (v := 0) hx hb d_PairChoice_told_1 (by decide) ?_
  refine lv_iconst (v := 3) hx hb d_PairChoice_told_2 (by decide) ?_
  refine vp_callSi (va_Run.run (va_runS (As := [.int x1, .int 0, .int 3]) (rest := []) ⟨hx, hb, hml, hown, hts⟩ (c_PairChoice_isWithin l dC dI cI cJ cG cZ     (x1 : Int32) (0 : Int32) (3 : Int32) _ h) (va_cwS 3 hts (gcS kw_223 kw_224 kw_39 kw_225) rfl rfl rfl (by decide +kernel) ⟨Nat.le_of_ble_eq_true rfl, Nat.le_of_ble_eq_true rfl⟩) ⟨fb_s, pre_s hK hN⟩ rfl rfl hl.1 rfl (lv_room (Nat.le_of_ble_eq_true rfl)) d_PairChoice_told_3 ⟨Nat.zero_le _, Nat.zero_le _⟩)) (fun r1 h => ?_)
  obtain ⟨br1, h⟩ := h
  refine lv_if_ne (tgt := 12) hx hb d_PairChoice_told_6 (by decide) (fun c2 => ?_) (fun c2 => ?_)
  · have h := h.1 c2
    refine lv_aload_n hx hb d_PairChoice_told_12 rfl (lv_at hl 0 rfl) ?_
    refine va_get (D := (dC, dI)) (ci := 5) (v := .ref q_this_choice) (C := "PairChoice") (T := F_PairChoice) (N := 4) hx hb hts (fun w h => List.mem_cons_of_mem _ (i_PairChoice w h)) hown hK hP 0 rfl rfl 2 (by decide) (hts _ (List.mem_cons_of_mem _ kw_208)) (fun _ h9 => h9) rfl d_PairChoice_told_13 ?_
    refine va_getN (D := (dC, dI)) (ci := 0) (v := .int v_this_choice_pairs) (C := "PairChoice$Choice") (T := F_Choice) (N := 7) hx hb hts (fun w h => List.mem_cons_of_mem _ (i_Choice w h)) hown hK hP 1 rfl rfl 2 (by decide) (va_Nw.use rfl (nw_163 hN)) (fun _ h9 => h9) rfl d_PairChoice_told_16 ?_
    refine lv_if_ne (tgt := 25) hx hb d_PairChoice_told_19 (by decide) (fun c3 => ?_) (fun c3 => ?_)
    · have h := h.1 c3
      refine lv_iload_n hx hb d_PairChoice_told_25 rfl (lv_at hl 1 rfl) ?_
      by_cases c4 : x1 = 0
      · have h := h.1 c4
        refine lv_tableIn (tgt := 52) hx hb d_PairChoice_told_26 (by have e9 : (x1 : Int32).toInt = 0 := (by rw [c4]; decide); omega) (by have e9 : (x1 : Int32).toInt = 0 := (by rw [c4]; decide); omega) (by rw [c4]; rfl) (by decide) ?_
        refine lv_aload_n hx hb d_PairChoice_told_52 rfl (lv_at hl 0 rfl) ?_
        refine va_get (D := (dC, dI)) (ci := 5) (v := .ref q_this_herd) (C := "PairChoice") (T := F_PairChoice) (N := 4) hx hb hts (fun w h => List.mem_cons_of_mem _ (i_PairChoice w h)) hown hK hP 0 rfl rfl 0 (by decide) (hts _ (List.mem_cons_of_mem _ kw_206)) (fun _ h9 => h9) rfl d_PairChoice_told_53 ?_
        refine lv_aload_n hx hb d_PairChoice_told_56 rfl (lv_at hl 0 rfl) ?_
        refine va_get (D := (dC, dI)) (ci := 5) (v := .ref q_this_choice) (C := "PairChoice") (T := F_PairChoice) (N := 4) hx hb hts (fun w h => List.mem_cons_of_mem _ (i_PairChoice w h)) hown hK hP 0 rfl rfl 2 (by decide) (hts _ (List.mem_cons_of_mem _ kw_208)) (fun _ h9 => h9) rfl d_PairChoice_told_57 ?_
        refine va_getN (D := (dC, dI)) (ci := 0) (v := .int v_this_choice_set) (C := "PairChoice$Choice") (T := F_Choice) (N := 7) hx hb hts (fun w h => List.mem_cons_of_mem _ (i_Choice w h)) hown hK hP 1 rfl rfl 3 (by decide) (va_Nw.use rfl (nw_165 hN)) (fun _ h9 => h9) rfl d_PairChoice_told_60 ?_
        have hPc := hP.sub (ws' := [(q_this_herd, .inr (1, [.int v_this_herd_count, .int v_this_herd_males, .ref q_this_herd_worths, .ref q_this_herd_families, .ref q_this_herd_kinships, .ref q_this_herd_barred, .int v_this_herd_kinLimit, .int v_this_herd_mostOfFamily, .ref q_this_herd_leastOfFamily])), (q_this_herd_worths, .inl (cI, 12, .inl v_this_herd_worths))]) [2, 4] rfl
        refine vp_callSi (va_Run.run (va_runVN (As := [.int v_this_choice_set]) (rest := []) ⟨hx, hb, hml, hown, hts⟩ (c_Herd_worthSum l dC dI cI cJ cG cZ  q_this_herd q_this_herd_barred q_this_herd_families q_this_herd_kinships q_this_herd_leastOfFamily q_this_herd_worths  v_this_herd_count v_this_herd_kinLimit v_this_herd_males v_this_herd_mostOfFamily v_this_herd_worths (v_this_choice_set : Int32) _ h) ⟨va_cnB 1 hts (gcB kw_341) rfl rfl rfl (nw_367 hN) (hts _ (List.mem_cons_of_mem _ kw_40)) (by decide +kernel) ⟨Nat.le_of_ble_eq_true rfl, Nat.le_of_ble_eq_true rfl⟩, (hts _ (List.mem_cons_of_mem _ kw_340)), (hts _ (List.mem_cons_of_mem _ kw_14))⟩ ⟨fb_r, va_recv hK hPc (ci := 1) (q0 := 0) rfl rfl, pre_r hPc hK hN⟩ rfl rfl hl.1 rfl (lv_room (Nat.le_of_ble_eq_true rfl)) d_PairChoice_told_63 ⟨Nat.zero_le _, Nat.zero_le _⟩)) (fun r7 h => ?_)
        exact W.iret hx hb hr (fun t ht hW => ⟨_, rfl, h, ht⟩) (fun _ h9 => by cases h9) d_PairChoice_told_66
      have h := h.2 c4
      by_cases c5 : x1 = 1
      · have h := h.1 c5
        refine lv_tableIn (tgt := 67) hx hb d_PairChoice_told_26 (by have e9 : (x1 : Int32).toInt = 1 := (by rw [c5]; decide); omega) (by have e9 : (x1 : Int32).toInt = 1 := (by rw [c5]; decide); omega) (by rw [c5]; rfl) (by decide) ?_
        refine lv_aload_n hx hb d_PairChoice_told_67 rfl (lv_at hl 0 rfl) ?_
        refine va_get (D := (dC, dI)) (ci := 5) (v := .ref q_this_herd) (C := "PairChoice") (T := F_PairChoice) (N := 4) hx hb hts (fun w h => List.mem_cons_of_mem _ (i_PairChoice w h)) hown hK hP 0 rfl rfl 0 (by decide) (hts _ (List.mem_cons_of_mem _ kw_206)) (fun _ h9 => h9) rfl d_PairChoice_told_68 ?_
        refine lv_aload_n hx hb d_PairChoice_told_71 rfl (lv_at hl 0 rfl) ?_
        refine va_get (D := (dC, dI)) (ci := 5) (v := .ref q_this_choice) (C := "PairChoice") (T := F_PairChoice) (N := 4) hx hb hts (fun w h => List.mem_cons_of_mem _ (i_PairChoice w h)) hown hK hP 0 rfl rfl 2 (by decide) (hts _ (List.mem_cons_of_mem _ kw_208)) (fun _ h9 => h9) rfl d_PairChoice_told_72 ?_
        refine va_getN (D := (dC, dI)) (ci := 0) (v := .int v_this_choice_set) (C := "PairChoice$Choice") (T := F_Choice) (N := 7) hx hb hts (fun w h => List.mem_cons_of_mem _ (i_Choice w h)) hown hK hP 1 rfl rfl 3 (by decide) (va_Nw.use rfl (nw_165 hN)) (fun _ h9 => h9) rfl d_PairChoice_told_75 ?_
        have hPc := hP.sub (ws' := [(q_this_herd, .inr (1, [.int v_this_herd_count, .int v_this_herd_males, .ref q_this_herd_worths, .ref q_this_herd_families, .ref q_this_herd_kinships, .ref q_this_herd_barred, .int v_this_herd_kinLimit, .int v_this_herd_mostOfFamily, .ref q_this_herd_leastOfFamily])), (q_this_herd_kinships, .inl (cG, 12, .inr (.inr (.inr (.inr (gw rw_this_herd_kinships))))))] ++ rws rw_this_herd_kinships cI v_this_herd_kinships) [2, 3, 5, 6, 7, 8, 9, 10, 11, 12, 13, 14, 15, 16] rfl
        refine vp_callSi (va_Run.run (va_runVN (As := [.int v_this_choice_set]) (rest := []) ⟨hx, hb, hml, hown, hts⟩ (c_Herd_kinSum l dC dI cI cJ cG cZ rw_this_herd_kinships q_this_herd q_this_herd_barred q_this_herd_families q_this_herd_kinships q_this_herd_leastOfFamily q_this_herd_worths  v_this_herd_count v_this_herd_kinLimit v_this_herd_kinships v_this_herd_males v_this_herd_mostOfFamily (v_this_choice_set : Int32) _ h) ⟨va_cnB 1 hts (gcB kw_321) rfl rfl rfl (nw_368 hN) (hts _ (List.mem_cons_of_mem _ kw_40)) (by decide +kernel) ⟨Nat.le_of_ble_eq_true rfl, Nat.le_of_ble_eq_true rfl⟩, (hts _ (List.mem_cons_of_mem _ kw_320)), (hts _ (List.mem_cons_of_mem _ kw_11))⟩ ⟨fb_r, va_recv hK hPc (ci := 1) (q0 := 0) rfl rfl, pre_r hPc hK hN⟩ rfl rfl hl.1 rfl (lv_room (Nat.le_of_ble_eq_true rfl)) d_PairChoice_told_78 ⟨Nat.zero_le _, Nat.zero_le _⟩)) (fun r8 h => ?_)
        exact W.iret hx hb hr (fun t ht hW => ⟨_, rfl, h, ht⟩) (fun _ h9 => by cases h9) d_PairChoice_told_81
      have h := h.2 c5
      by_cases c6 : x1 = 2
      · have h := h.1 c6
        refine lv_tableIn (tgt := 82) hx hb d_PairChoice_told_26 (by have e9 : (x1 : Int32).toInt = 2 := (by rw [c6]; decide); omega) (by have e9 : (x1 : Int32).toInt = 2 := (by rw [c6]; decide); omega) (by rw [c6]; rfl) (by decide) ?_
        refine lv_aload_n hx hb d_PairChoice_told_82 rfl (lv_at hl 0 rfl) ?_
        refine va_get (D := (dC, dI)) (ci := 5) (v := .ref q_this_choice) (C := "PairChoice") (T := F_PairChoice) (N := 4) hx hb hts (fun w h => List.mem_cons_of_mem _ (i_PairChoice w h)) hown hK hP 0 rfl rfl 2 (by decide) (hts _ (List.mem_cons_of_mem _ kw_208)) (fun _ h9 => h9) rfl d_PairChoice_told_83 ?_
        refine va_getN (D := (dC, dI)) (ci := 0) (v := .int v_this_choice_pairs) (C := "PairChoice$Choice") (T := F_Choice) (N := 7) hx hb hts (fun w h => List.mem_cons_of_mem _ (i_Choice w h)) hown hK hP 1 rfl rfl 2 (by decide) (va_Nw.use rfl (nw_163 hN)) (fun _ h9 => h9) rfl d_PairChoice_told_86 ?_
        exact W.iret hx hb hr (fun t ht hW => ⟨_, rfl, h, ht⟩) (fun _ h9 => by cases h9) d_PairChoice_told_89
      have h := h.2 c6
      refine lv_tableOut (tgt := 90) hx hb d_PairChoice_told_26 (by have e0 := lv_neT c4 (a := 0) (by decide); have e1 := lv_neT c5 (a := 1) (by decide); have e2 := lv_neT c6 (a := 2) (by decide); omega) (by decide) ?_
      refine lv_aload_n hx hb d_PairChoice_told_90 rfl (lv_at hl 0 rfl) ?_
      refine va_get (D := (dC, dI)) (ci := 5) (v := .ref q_this_choice) (C := "PairChoice") (T := F_PairChoice) (N := 4) hx hb hts (fun w h => List.mem_cons_of_mem _ (i_PairChoice w h)) hown hK hP 0 rfl rfl 2 (by decide) (hts _ (List.mem_cons_of_mem _ kw_208)) (fun _ h9 => h9) rfl d_PairChoice_told_91 ?_
      refine va_getN (D := (dC, dI)) (ci := 0) (v := .int v_this_choice_setsThatMayBe) (C := "PairChoice$Choice") (T := F_Choice) (N := 7) hx hb hts (fun w h => List.mem_cons_of_mem _ (i_Choice w h)) hown hK hP 1 rfl rfl 4 (by decide) (va_Nw.use rfl (nw_167 hN)) (fun _ h9 => h9) rfl d_PairChoice_told_94 ?_
      exact W.iret hx hb hr (fun t ht hW => ⟨_, rfl, h, ht⟩) (fun _ h9 => by cases h9) d_PairChoice_told_97
    · have h := h.2 c3
      refine lv_bipush (v := (-3)) hx hb d_PairChoice_told_22 (by decide) ?_
      exact W.iret hx hb hr (fun t ht hW => ⟨_, rfl, h, ht⟩) (fun _ h9 => by cases h9) d_PairChoice_told_24
  · have h := h.2 c2
    refine lv_bipush (v := (-2)) hx hb d_PairChoice_told_9 (by decide) ?_
    exact W.iret hx hb hr (fun t ht hW => ⟨_, rfl, h, ht⟩) (fun _ h9 => by cases h9) d_PairChoice_told_11
set_option maxHeartbeats 4000000 in
set_option maxRecDepth 100000 in
theorem c_PairChoice_after (l : Launch) (dC : Nat → ClassId) (dI : Nat → Nat → Nat) (cI cJ cG cZ : ClassId) (q_this q_this_choice q_this_herd q_this_outlook q_this_outlook_alive q_this_outlook_bestSums q_this_sets : Nat) (v_this_outlook_alive : (Nat → Int32)) (v_this_outlook_bestSums : (Nat → Int32)) (v_this_outlook_years : Int32) (x1 : Int32) (x2 : Int32) (post : Int32 → Prop) (h : wp_PairChoice_after v_this_outlook_alive v_this_outlook_bestSums v_this_outlook_years x1 x2 post) : Met l y_PairChoice_after w_PairChoice_after ({ frames := 1, cells := 0, slots := 0, locals := 22 } : Room) (va_Pc [.ref q_this, .int x1, .int x2] (pcR dC dI cI cJ cG cZ ([(q_this, .inr (5, [.ref q_this_herd, .ref q_this_sets, .ref q_this_choice, .ref q_this_outlook])), (q_this_outlook, .inr (2, [.int v_this_outlook_years, .ref q_this_outlook_alive, .ref q_this_outlook_bestSums])), (q_this_outlook_alive, .inl (cI, 20, .inl v_this_outlook_alive)), (q_this_outlook_bestSums, .inl (cI, 20, .inl v_this_outlook_bestSums))]))) (vp_Si (fun r => post r)) 0 0 (fun _ => False) := by
  refine Met.ofW (cc := b_PairChoice_after) (maxL := 3) (ret := (some .int)) (by decide) rfl ?_
  intro p e s m args below meth c s₁ B hml hv
  obtain ⟨rfl, hP, hK, hN⟩ := hv
  have hx := B.exec
  have hb := B.bytes
  have hr := B.returns
  have hts := atoms_spec (ws := w_PairChoice_after) B.pre
  have hown : s.vm.findClass "PairChoice" = some m.cls := findClass_of_methodNamed B.named
  have hlocks := B.notSynchronized
  have hl := lv_entry ([.ref q_this, .int x1, .int x2]) (n := 3) (Nat.le_of_ble_eq_true rfl)
  rw [lg_entry_eq]
  generalize (lg_sl ([.ref q_this, .int x1, .int x2]) ++ List.replicate (3 - (lg_sl ([.ref q_this, .int x1, .int x2])).length) Slot.unset).toArray = ls at hl ⊢
  have hl : lv_has ls 3 [(0, .ref q_this), (1, .int x1), (2, .int x2)] := hl
  unfold wp_PairChoice_after at h
  refine lv_iload_n hx hb d_PairChoice_after_0 rfl (lv_at hl 1 rfl) ?_
  refine lv_iconst (v := 0) hx hb d_PairChoice_after_1 (by decide) ?_
  refine lv_aload_n hx hb d_PairChoice_after_2 rfl (lv_at hl 0 rfl) ?_
  refine va_get (D := (dC, dI)) (ci := 5) (v := .ref q_this_outlook) (C := "PairChoice") (T := F_PairChoice) (N := 4) hx hb hts (fun w h => List.mem_cons_of_mem _ (i_PairChoice w h)) hown hK hP 0 rfl rfl 3 (by decide) (hts _ (List.mem_cons_of_mem _ kw_209)) (fun _ h9 => h9) rfl d_PairChoice_after_3 ?_
  refine va_getN (D := (dC, dI)) (ci := 2) (v := .int v_this_outlook_years) (C := "PairChoice$Outlook") (T := F_Outlook) (N := 3) hx hb hts (fun w h => List.mem_cons_of_mem _ (i_Outlook w h)) hown hK hP 1 rfl rfl 0 (by decide) (va_Nw.use rfl (nw_194 hN)) (fun _ h9 => h9) rfl d_PairChoice_after_6 ?_
  refine lv_iconst (v := 1) hx hb d_PairChoice_after_9 (by decide) ?_
  refine lv_isub hx hb d_PairChoice_after_10 ?_
  refine vp_callSi (va_Run.run (va_runS (As := [.int x1, .int 0, .int (v_this_outlook_years - 1)]) (rest := []) ⟨hx, hb, hml, hown, hts⟩ (c_PairChoice_isWithin l dC dI cI cJ cG cZ     (x1 : Int32) (0 : Int32) ((v_this_outlook_years - 1) : Int32) _ h) (va_cwS 3 hts (gcS kw_223 kw_224 kw_39 kw_225) rfl rfl rfl (by decide +kernel) ⟨Nat.le_of_ble_eq_true rfl, Nat.le_of_ble_eq_true rfl⟩) ⟨fb_s, pre_s hK hN⟩ rfl rfl hl.1 rfl (lv_room (Nat.le_of_ble_eq_true rfl)) d_PairChoice_after_11 ⟨Nat.zero_le _, Nat.zero_le _⟩)) (fun r1 h => ?_)
  obtain ⟨br1, h⟩ := h
  refine lv_if_ne (tgt := 19) hx hb d_PairChoice_after_14 (by decide) (fun c2 => ?_) (fun c2 => ?_)
  · have h := h.1 c2
    refine lv_iload_n hx hb d_PairChoice_after_19 rfl (lv_at hl 2 rfl) ?_
    by_cases c3 : x2 = 0
    · have h := h.1 c3
      refine lv_tableIn (tgt := 48) hx hb d_PairChoice_after_20 (by have e9 : (x2 : Int32).toInt = 0 := (by rw [c3]; decide); omega) (by have e9 : (x2 : Int32).toInt = 0 := (by rw [c3]; decide); omega) (by rw [c3]; rfl) (by decide) ?_
      refine lv_aload_n hx hb d_PairChoice_after_48 rfl (lv_at hl 0 rfl) ?_
      refine va_get (D := (dC, dI)) (ci := 5) (v := .ref q_this_outlook) (C := "PairChoice") (T := F_PairChoice) (N := 4) hx hb hts (fun w h => List.mem_cons_of_mem _ (i_PairChoice w h)) hown hK hP 0 rfl rfl 3 (by decide) (hts _ (List.mem_cons_of_mem _ kw_209)) (fun _ h9 => h9) rfl d_PairChoice_after_49 ?_
      refine va_getN (D := (dC, dI)) (ci := 2) (v := .ref q_this_outlook_alive) (C := "PairChoice$Outlook") (T := F_Outlook) (N := 3) hx hb hts (fun w h => List.mem_cons_of_mem _ (i_Outlook w h)) hown hK hP 1 rfl rfl 1 (by decide) (va_Nw.use rfl (nw_196 hN)) (fun _ h9 => h9) rfl d_PairChoice_after_52 ?_
      refine lv_iload_n hx hb d_PairChoice_after_55 rfl (lv_at hl 1 rfl) ?_
      obtain ⟨i6, h⟩ := h
      refine va_iald hx hb hK hP 2 0 rfl rfl i6 d_PairChoice_after_56 ?_
      exact W.iret hx hb hr (fun t ht hW => ⟨_, rfl, h, ht⟩) (fun _ h9 => by cases h9) d_PairChoice_after_57
    have h := h.2 c3
    by_cases c4 : x2 = 1
    · have h := h.1 c4
      refine lv_tableIn (tgt := 58) hx hb d_PairChoice_after_20 (by have e9 : (x2 : Int32).toInt = 1 := (by rw [c4]; decide); omega) (by have e9 : (x2 : Int32).toInt = 1 := (by rw [c4]; decide); omega) (by rw [c4]; rfl) (by decide) ?_
      refine lv_aload_n hx hb d_PairChoice_after_58 rfl (lv_at hl 0 rfl) ?_
      refine va_get (D := (dC, dI)) (ci := 5) (v := .ref q_this_outlook) (C := "PairChoice") (T := F_PairChoice) (N := 4) hx hb hts (fun w h => List.mem_cons_of_mem _ (i_PairChoice w h)) hown hK hP 0 rfl rfl 3 (by decide) (hts _ (List.mem_cons_of_mem _ kw_209)) (fun _ h9 => h9) rfl d_PairChoice_after_59 ?_
      refine va_getN (D := (dC, dI)) (ci := 2) (v := .ref q_this_outlook_bestSums) (C := "PairChoice$Outlook") (T := F_Outlook) (N := 3) hx hb hts (fun w h => List.mem_cons_of_mem _ (i_Outlook w h)) hown hK hP 1 rfl rfl 2 (by decide) (va_Nw.use rfl (nw_198 hN)) (fun _ h9 => h9) rfl d_PairChoice_after_62 ?_
      refine lv_iload_n hx hb d_PairChoice_after_65 rfl (lv_at hl 1 rfl) ?_
      obtain ⟨i7, h⟩ := h
      refine va_iald hx hb hK hP 3 0 rfl rfl i7 d_PairChoice_after_66 ?_
      refine lv_ldc (v := (-100000000)) hx hb hown (hts _ (List.mem_cons_of_mem _ kw_417)) d_PairChoice_after_67 ?_
      refine lv_icmp_ne (tgt := 76) hx hb d_PairChoice_after_69 (by decide) (fun c8 => ?_) (fun c8 => ?_)
      · have h := h.1 c8
        refine lv_iconst (v := 1) hx hb d_PairChoice_after_76 (by decide) ?_
        exact W.iret hx hb hr (fun t ht hW => ⟨_, rfl, h, ht⟩) (fun _ h9 => by cases h9) d_PairChoice_after_77
      · have h := h.2 c8
        refine lv_iconst (v := 0) hx hb d_PairChoice_after_72 (by decide) ?_
        refine lv_goto (tgt := 77) hx hb d_PairChoice_after_73 (by decide) ?_
        exact W.iret hx hb hr (fun t ht hW => ⟨_, rfl, h, ht⟩) (fun _ h9 => by cases h9) d_PairChoice_after_77
    have h := h.2 c4
    by_cases c5 : x2 = 2
    · have h := h.1 c5
      refine lv_tableIn (tgt := 78) hx hb d_PairChoice_after_20 (by have e9 : (x2 : Int32).toInt = 2 := (by rw [c5]; decide); omega) (by have e9 : (x2 : Int32).toInt = 2 := (by rw [c5]; decide); omega) (by rw [c5]; rfl) (by decide) ?_
      refine lv_aload_n hx hb d_PairChoice_after_78 rfl (lv_at hl 0 rfl) ?_
      refine va_get (D := (dC, dI)) (ci := 5) (v := .ref q_this_outlook) (C := "PairChoice") (T := F_PairChoice) (N := 4) hx hb hts (fun w h => List.mem_cons_of_mem _ (i_PairChoice w h)) hown hK hP 0 rfl rfl 3 (by decide) (hts _ (List.mem_cons_of_mem _ kw_209)) (fun _ h9 => h9) rfl d_PairChoice_after_79 ?_
      refine va_getN (D := (dC, dI)) (ci := 2) (v := .ref q_this_outlook_bestSums) (C := "PairChoice$Outlook") (T := F_Outlook) (N := 3) hx hb hts (fun w h => List.mem_cons_of_mem _ (i_Outlook w h)) hown hK hP 1 rfl rfl 2 (by decide) (va_Nw.use rfl (nw_198 hN)) (fun _ h9 => h9) rfl d_PairChoice_after_82 ?_
      refine lv_iload_n hx hb d_PairChoice_after_85 rfl (lv_at hl 1 rfl) ?_
      obtain ⟨i9, h⟩ := h
      refine va_iald hx hb hK hP 3 0 rfl rfl i9 d_PairChoice_after_86 ?_
      refine lv_ldc (v := (-100000000)) hx hb hown (hts _ (List.mem_cons_of_mem _ kw_417)) d_PairChoice_after_87 ?_
      refine lv_icmp_ne (tgt := 96) hx hb d_PairChoice_after_89 (by decide) (fun c10 => ?_) (fun c10 => ?_)
      · have h := h.1 c10
        refine lv_aload_n hx hb d_PairChoice_after_96 rfl (lv_at hl 0 rfl) ?_
        refine va_get (D := (dC, dI)) (ci := 5) (v := .ref q_this_outlook) (C := "PairChoice") (T := F_PairChoice) (N := 4) hx hb hts (fun w h => List.mem_cons_of_mem _ (i_PairChoice w h)) hown hK hP 0 rfl rfl 3 (by decide) (hts _ (List.mem_cons_of_mem _ kw_209)) (fun _ h9 => h9) rfl d_PairChoice_after_97 ?_
        refine va_getN (D := (dC, dI)) (ci := 2) (v := .ref q_this_outlook_bestSums) (C := "PairChoice$Outlook") (T := F_Outlook) (N := 3) hx hb hts (fun w h => List.mem_cons_of_mem _ (i_Outlook w h)) hown hK hP 1 rfl rfl 2 (by decide) (va_Nw.use rfl (nw_198 hN)) (fun _ h9 => h9) rfl d_PairChoice_after_100 ?_
        refine lv_iload_n hx hb d_PairChoice_after_103 rfl (lv_at hl 1 rfl) ?_
        obtain ⟨i11, h⟩ := h
        refine va_iald hx hb hK hP 3 0 rfl rfl i11 d_PairChoice_after_104 ?_
        exact W.iret hx hb hr (fun t ht hW => ⟨_, rfl, h, ht⟩) (fun _ h9 => by cases h9) d_PairChoice_after_105
      · have h := h.2 c10
        refine lv_iconst (v := 0) hx hb d_PairChoice_after_92 (by decide) ?_
        refine lv_goto (tgt := 105) hx hb d_PairChoice_after_93 (by decide) ?_
        exact W.iret hx hb hr (fun t ht hW => ⟨_, rfl, h, ht⟩) (fun _ h9 => by cases h9) d_PairChoice_after_105
    have h := h.2 c5
    refine lv_tableOut (tgt := 106) hx hb d_PairChoice_after_20 (by have e0 := lv_neT c3 (a := 0) (by decide); have e1 := lv_neT c4 (a := 1) (by decide); have e2 := lv_neT c5 (a := 2) (by decide); omega) (by decide) ?_
    refine lv_bipush (v := (-2)) hx hb d_PairChoice_after_106 (by decide) ?_
    exact W.iret hx hb hr (fun t ht hW => ⟨_, rfl, h, ht⟩) (fun _ h9 => by cases h9) d_PairChoice_after_108
  · have h := h.2 c2
    refine lv_iconst (v := (-1)) hx hb d_PairChoice_after_17 (by decide) ?_
    exact W.iret hx hb hr (fun t ht hW => ⟨_, rfl, h, ht⟩) (fun _ h9 => by cases h9) d_PairChoice_after_18
set_option maxHeartbeats 4000000 in
set_option maxRecDepth 100000 in
theorem c_PairChoice_survivors (l : Launch) (dC : Nat → ClassId) (dI : Nat → Nat → Nat) (cI cJ cG cZ : ClassId)  (x0 : Int32) (x1 : Int64) (x3 : Int32) (post : Int32 → Prop) (h : wp_PairChoice_survivors x0 x1 x3 post) : Met l y_PairChoice_survivors w_PairChoice_survivors ({ frames := 1, cells := 0, slots := 0, locals := 23 } : Room) (va_Pc [.int x0, .long x1, .int x3] (pcS dC dI cI cJ cG cZ)) (vp_Si (fun r => post r)) 0 0 (fun _ => False) := by
  refine Met.ofW (cc := b_PairChoice_survivors) (maxL := 6) (ret := (some .int)) (by decide) rfl ?_
  intro p e s m args below meth c s₁ B hml hv
  obtain ⟨rfl, hK, hN⟩ := hv
  have hx := B.exec
  have hb := B.bytes
  have hr := B.returns
  have hts := atoms_spec (ws := w_PairChoice_survivors) B.pre
  have hown : s.vm.findClass "PairChoice" = some m.cls := findClass_of_methodNamed B.named
  have hlocks := B.notSynchronized
  have hl := lv_entry ([.int x0, .long x1, .int x3]) (n := 6) (Nat.le_of_ble_eq_true rfl)
  rw [lg_entry_eq]
  generalize (lg_sl ([.int x0, .long x1, .int x3]) ++ List.replicate (6 - (lg_sl ([.int x0, .long x1, .int x3])).length) Slot.unset).toArray = ls at hl ⊢
  have hl : lv_has ls 6 [(0, .int x0), (1, .long x1), (3, .int x3)] := hl
  unfold wp_PairChoice_survivors at h
  refine lv_iload_n hx hb d_PairChoice_survivors_0 rfl (lv_at hl 0 rfl) ?_
  refine lv_istore (lv' := [(4, .int x0), (0, .int x0), (1, .long x1), (3, .int x3)]) hx hb d_PairChoice_survivors_1 hl (by decide) rfl (fun ls hl => ?_)
  refine lv_iconst (v := 0) hx hb d_PairChoice_survivors_3 (by decide) ?_
  refine lv_istore (lv' := [(5, .int 0), (4, .int x0), (0, .int x0), (1, .long x1), (3, .int x3)]) hx hb d_PairChoice_survivors_4 hl (by decide) rfl (fun ls hl => ?_)
  obtain ⟨nn, h⟩ := h
  have lp6 : ∀ (n6 : Nat) (x4_6 : Int32) (x5_6 : Int32) (ls : Array Slot), wp_PairChoice_survivors_L6 x1 x3 post n6 x4_6 x5_6 → lv_has ls 6 [(5, .int x5_6), (4, .int x4_6), (0, .int x0), (1, .long x1), (3, .int x3)] → W p l e (headSpec w_PairChoice_survivors ({ frames := 1, cells := 0, slots := 0, locals := 23 } : Room)).room s m ([.int x0, .long x1, .int x3] : List Value).toArray below meth c s.heap [] 0 0 (MQ below (vp_Si (fun r => post r)) ([.int x0, .long x1, .int x3] : List Value).toArray s 0 0 (fun _ => False)) (F0 m 6 ls []) := by
    intro n6
    induction n6 with
    | zero =>
      intro x4_6 x5_6 ls h
      rw [wp_PairChoice_survivors_L6] at h
      exact h.elim
    | succ n6 ih6 =>
      intro x4_6 x5_6 ls h hl
      rw [wp_PairChoice_survivors_L6] at h
      refine lv_iload hx hb d_PairChoice_survivors_6 (lv_at hl 0 rfl) ?_
      refine lv_bipush (v := 12) hx hb d_PairChoice_survivors_8 (by decide) ?_
      refine lv_icmp_ge (tgt := 47) hx hb d_PairChoice_survivors_10 (by decide) (fun c1 => ?_) (fun c1 => ?_)
      · have h := h.1 c1
        refine lv_iload hx hb d_PairChoice_survivors_47 (lv_at hl 1 rfl) ?_
        exact W.iret hx hb hr (fun t ht hW => ⟨_, rfl, h, ht⟩) (fun _ h9 => by cases h9) d_PairChoice_survivors_49
      · have h := h.2 c1
        refine lv_lload_n hx hb d_PairChoice_survivors_13 rfl (lv_at hl 3 rfl) ?_
        refine lv_iload hx hb d_PairChoice_survivors_14 (lv_at hl 0 rfl) ?_
        refine lv_i2l (v := (x5_6 : Int32).toInt64) hx hb d_PairChoice_survivors_16 rfl ?_
        refine lv_ladd hx hb d_PairChoice_survivors_17 ?_
        refine lv_lconst (v := 1) hx hb d_PairChoice_survivors_18 (by decide) ?_
        refine lv_ladd hx hb d_PairChoice_survivors_19 ?_
        refine vp_callSl (va_Run.run (va_runS (As := [.long ((x1 + ((x5_6 : Int32).toInt64)) + (1 : Int64))]) (rest := []) ⟨hx, hb, hml, hown, hts⟩ (c_PairChoice_fate l dC dI cI cJ cG cZ     (((x1 + ((x5_6 : Int32).toInt64)) + (1 : Int64)) : Int64) _ h) (va_cwS 1 hts (gcS kw_435 kw_436 kw_39 kw_437) rfl rfl rfl (by decide +kernel) ⟨Nat.le_of_ble_eq_true rfl, Nat.le_of_ble_eq_true rfl⟩) ⟨fb_s, pre_s hK hN⟩ rfl rfl hl.1 rfl (lv_room (Nat.le_of_ble_eq_true rfl)) d_PairChoice_survivors_20 ⟨Nat.zero_le _, Nat.zero_le _⟩)) (fun r2 h => ?_)
        refine lv_iload_n hx hb d_PairChoice_survivors_23 rfl (lv_at hl 4 rfl) ?_
        refine lv_i2l (v := (x3 : Int32).toInt64) hx hb d_PairChoice_survivors_24 rfl ?_
        refine W.lcmp hx hb d_PairChoice_survivors_25 ?_
        refine lv_if_ge (tgt := 41) hx hb d_PairChoice_survivors_26 (by decide) (fun c3 => ?_) (fun c3 => ?_)
        · have h := h.1 c3
          refine lv_iinc (v := (x5_6 + 1)) (lv' := [(5, .int (x5_6 + 1)), (4, .int x4_6), (0, .int x0), (1, .long x1), (3, .int x3)]) hx hb d_PairChoice_survivors_41 hl (k := 0) rfl rfl (by decide) rfl (fun ls hl => ?_)
          refine lv_goto (tgt := 6) hx hb d_PairChoice_survivors_44 (by decide) ?_
          exact ih6 x4_6 (x5_6 + 1) ls h (lv_sub hl [0, 1, 2, 3, 4] rfl)
        · have h := h.2 c3
          refine lv_iload hx hb d_PairChoice_survivors_29 (lv_at hl 1 rfl) ?_
          refine lv_iload hx hb d_PairChoice_survivors_31 (lv_at hl 0 rfl) ?_
          refine vp_callSi (va_Run.run (va_runS (As := [.int x5_6]) (rest := [.int x4_6]) ⟨hx, hb, hml, hown, hts⟩ (c_PairChoice_bit l dC dI cI cJ cG cZ     (x5_6 : Int32) _ h) (va_cwS 1 hts (gcS kw_267 kw_246 kw_39 kw_247) rfl rfl rfl (by decide +kernel) ⟨Nat.le_of_ble_eq_true rfl, Nat.le_of_ble_eq_true rfl⟩) ⟨fb_s, pre_s hK hN⟩ rfl rfl hl.1 rfl (lv_room (Nat.le_of_ble_eq_true rfl)) d_PairChoice_survivors_33 ⟨Nat.zero_le _, Nat.zero_le _⟩)) (fun r4 h => ?_)
          refine lv_iconst (v := (-1)) hx hb d_PairChoice_survivors_36 (by decide) ?_
          refine lv_ixor hx hb d_PairChoice_survivors_37 ?_
          refine lv_iand hx hb d_PairChoice_survivors_38 ?_
          refine lv_istore (lv' := [(4, .int (x4_6 &&& (r4 ^^^ (-1)))), (5, .int x5_6), (0, .int x0), (1, .long x1), (3, .int x3)]) hx hb d_PairChoice_survivors_39 hl (by decide) rfl (fun ls hl => ?_)
          refine lv_iinc (v := (x5_6 + 1)) (lv' := [(5, .int (x5_6 + 1)), (4, .int (x4_6 &&& (r4 ^^^ (-1)))), (0, .int x0), (1, .long x1), (3, .int x3)]) hx hb d_PairChoice_survivors_41 hl (k := 1) rfl rfl (by decide) rfl (fun ls hl => ?_)
          refine lv_goto (tgt := 6) hx hb d_PairChoice_survivors_44 (by decide) ?_
          exact ih6 (x4_6 &&& (r4 ^^^ (-1))) (x5_6 + 1) ls h (lv_sub hl [0, 1, 2, 3, 4] rfl)
  exact lp6 nn x0 (0) ls h hl
set_option maxHeartbeats 4000000 in
set_option maxRecDepth 100000 in
theorem c_PairChoice_leastOf (l : Launch) (dC : Nat → ClassId) (dI : Nat → Nat → Nat) (cI cJ cG cZ : ClassId)  (x0 : Int32) (post : Int32 → Prop) (h : wp_PairChoice_leastOf x0 post) : Met l y_PairChoice_leastOf w_PairChoice_leastOf ({ frames := 1, cells := 0, slots := 0, locals := 20 } : Room) (va_Pc [.int x0] (pcS dC dI cI cJ cG cZ)) (vp_Si (fun r => post r)) 0 0 (fun _ => False) := by
  refine Met.ofW (cc := b_PairChoice_leastOf) (maxL := 1) (ret := (some .int)) (by decide) rfl ?_
  intro p e s m args below meth c s₁ B hml hv
  obtain ⟨rfl, hK, hN⟩ := hv
  have hx := B.exec
  have hb := B.bytes
  have hr := B.returns
  have hts := atoms_spec (ws := w_PairChoice_leastOf) B.pre
  have hown : s.vm.findClass "PairChoice" = some m.cls := findClass_of_methodNamed B.named
  have hlocks := B.notSynchronized
  have hl := lv_entry ([.int x0]) (n := 1) (Nat.le_of_ble_eq_true rfl)
  rw [lg_entry_eq]
  generalize (lg_sl ([.int x0]) ++ List.replicate (1 - (lg_sl ([.int x0])).length) Slot.unset).toArray = ls at hl ⊢
  have hl : lv_has ls 1 [(0, .int x0)] := hl
  unfold wp_PairChoice_leastOf at h
  refine lv_iload_n hx hb d_PairChoice_leastOf_0 rfl (lv_at hl 0 rfl) ?_
  refine lv_iload_n hx hb d_PairChoice_leastOf_1 rfl (lv_at hl 0 rfl) ?_
  refine lv_ineg hx hb d_PairChoice_leastOf_2 ?_
  refine lv_iand hx hb d_PairChoice_leastOf_3 ?_
  refine lv_iconst (v := 1) hx hb d_PairChoice_leastOf_4 (by decide) ?_
  refine lv_isub hx hb d_PairChoice_leastOf_5 ?_
  refine vp_callSi (va_Run.run (va_runS (As := [.int ((x0 &&& (-x0)) - 1)]) (rest := []) ⟨hx, hb, hml, hown, hts⟩ (c_Integer_bitCount l dC dI cI cJ cG cZ     (((x0 &&& (-x0)) - 1) : Int32) _ h) (va_cwS 1 hts (gcS kw_334 kw_292 kw_46 kw_293) rfl rfl rfl (by decide +kernel) ⟨Nat.le_of_ble_eq_true rfl, Nat.le_of_ble_eq_true rfl⟩) ⟨fb_s, pre_s hK hN⟩ rfl rfl hl.1 rfl (lv_room (Nat.le_of_ble_eq_true rfl)) d_PairChoice_leastOf_6 ⟨Nat.zero_le _, Nat.zero_le _⟩)) (fun r1 h => ?_)
  exact W.iret hx hb hr (fun t ht hW => ⟨_, rfl, h, ht⟩) (fun _ h9 => by cases h9) d_PairChoice_leastOf_9
