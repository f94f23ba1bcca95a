def at_Choice_drop (dC : Nat → ClassId) (dI : Nat → Nat → Nat) (cI cJ cG cZ : ClassId) (q_this q_this_eggShares q_this_herd q_this_pairing q_this_rests : Nat) (A : Nat → Prop) (v_this_set : Int32) (v_this_setsThatMayBe : Int32) (u : Int32) (t : State) : Prop := va_P (dC, dI) vCl ([(q_this, .inr (0, [.ref q_this_herd, .ref q_this_pairing, .int u, .int v_this_set, .int v_this_setsThatMayBe, .ref q_this_eggShares, .ref q_this_rests]))]) t.heap ∧ va_D A ([(q_this, .inr (0, [.ref q_this_herd, .ref q_this_pairing, .int u, .int v_this_set, .int v_this_setsThatMayBe, .ref q_this_eggShares, .ref q_this_rests]))])
set_option maxHeartbeats 4000000 in
set_option maxRecDepth 100000 in
theorem c_Choice_drop (l : Launch) (dC : Nat → ClassId) (dI : Nat → Nat → Nat) (cI cJ cG cZ : ClassId) (q_this q_this_eggShares q_this_herd q_this_pairing q_this_rests : Nat) (sz : Nat) (v_this_pairs : Int32) (v_this_set : Int32) (v_this_setsThatMayBe : Int32)  (post : Int32 → Prop) (h : wp_Choice_drop v_this_pairs post) : Met l y_Choice_drop w_Choice_drop ({ frames := 0, cells := 0, slots := 0, locals := 0 } : Room) (va_Pc [.ref q_this] (pcW dC dI cI cJ cG cZ sz ([(q_this, .inr (0, [.ref q_this_herd, .ref q_this_pairing, .int v_this_pairs, .int v_this_set, .int v_this_setsThatMayBe, .ref q_this_eggShares, .ref q_this_rests]))]))) (va_Qv (fun (u : Int32) => post u) (fun (u : Int32) (t : State) => at_Choice_drop dC dI cI cJ cG cZ q_this q_this_eggShares q_this_herd q_this_pairing q_this_rests (va_A ([(q_this, .inr (0, [.ref q_this_herd, .ref q_this_pairing, .int v_this_pairs, .int v_this_set, .int v_this_setsThatMayBe, .ref q_this_eggShares, .ref q_this_rests]))]) sz) v_this_set v_this_setsThatMayBe u t) (va_A ([(q_this, .inr (0, [.ref q_this_herd, .ref q_this_pairing, .int v_this_pairs, .int v_this_set, .int v_this_setsThatMayBe, .ref q_this_eggShares, .ref q_this_rests]))]) sz)) 0 0 (va_A ([(q_this, .inr (0, [.ref q_this_herd, .ref q_this_pairing, .int v_this_pairs, .int v_this_set, .int v_this_setsThatMayBe, .ref q_this_eggShares, .ref q_this_rests]))]) sz) := by
  refine Met.ofW (cc := b_Choice_drop) (maxL := 1) (ret := none) (by decide) rfl ?_
  intro p e s m args below meth c s₁ B hml hv
  obtain ⟨rfl, hsz, hP, hK, hN, hD0⟩ := hv
  have hx := B.exec
  have hb := B.bytes
  have hr := B.returns
  have hts := atoms_spec (ws := w_Choice_drop) B.pre
  have hown : s.vm.findClass "PairChoice$Choice" = some m.cls := findClass_of_methodNamed B.named
  have hlocks := B.notSynchronized
  subst hsz
  have hD := hD0.self (sz := s.heap.size)
  generalize hAe : va_A ([(q_this, .inr (0, [.ref q_this_herd, .ref q_this_pairing, .int v_this_pairs, .int v_this_set, .int v_this_setsThatMayBe, .ref q_this_eggShares, .ref q_this_rests]))]) s.heap.size = A at hD ⊢
  have hA : ∀ q : Nat, s.heap.size ≤ q → A q := fun q h => by rw [← hAe]; exact Or.inr h
  have hS : va_S A s.heap s.heap [] := va_S.rf
  have hl := lv_entry ([.ref q_this]) (n := 1) (Nat.le_of_ble_eq_true rfl)
  rw [lg_entry_eq]
  generalize (lg_sl ([.ref q_this]) ++ List.replicate (1 - (lg_sl ([.ref q_this])).length) Slot.unset).toArray = ls at hl ⊢
  have hl : lv_has ls 1 [(0, .ref q_this)] := hl
  unfold wp_Choice_drop at h
  refine lv_aload_n hx hb d_Choice_drop_0 rfl (lv_at hl 0 rfl) ?_
  refine lv_iconst (v := 0) hx hb d_Choice_drop_1 (by decide) ?_
  refine va_put (D := (dC, dI)) (ci := 0) (v := .int 0) (ty := .int) (C := "PairChoice$Choice") (T := F_Choice) (N := 7) hx hb hts (fun w h => List.mem_cons_of_mem _ (i_Choice w h)) t_Choice t_Choice_ok n_Choice hown hK hP hD hS 0 rfl rfl 2 (by decide) (hts _ (List.mem_cons_of_mem _ kw_162)) (fun _ h9 => h9) rfl (by decide +kernel) rfl rfl (Nat.le_of_ble_eq_true rfl) d_Choice_drop_2 (fun H locs hP hD hS => ?_)
  have hP : va_P (dC, dI) vCl ([(q_this, .inr (0, [.ref q_this_herd, .ref q_this_pairing, .int 0, .int v_this_set, .int v_this_setsThatMayBe, .ref q_this_eggShares, .ref q_this_rests]))]) H := hP
  have hD : va_D A ([(q_this, .inr (0, [.ref q_this_herd, .ref q_this_pairing, .int 0, .int v_this_set, .int v_this_setsThatMayBe, .ref q_this_eggShares, .ref q_this_rests]))]) := hD
  exact W.vret hx hb hr (fun t ht hW => ⟨⟨0, rfl, h, ⟨by rw [ht]; exact hP, hD⟩⟩, hS.F ht⟩) hS.2.2 d_Choice_drop_5
set_option maxHeartbeats 4000000 in
set_option maxRecDepth 100000 in
theorem c_Choice_hasPair (l : Launch) (dC : Nat → ClassId) (dI : Nat → Nat → Nat) (cI cJ cG cZ : ClassId) (q_this q_this_eggShares q_this_herd q_this_pairing q_this_rests : Nat) (v_this_pairs : Int32) (v_this_set : Int32) (v_this_setsThatMayBe : Int32) (x1 : Int32) (post : Int32 → Prop) (h : wp_Choice_hasPair v_this_pairs x1 post) : Met l y_Choice_hasPair w_Choice_hasPair ({ frames := 0, cells := 0, slots := 0, locals := 0 } : Room) (va_Pc [.ref q_this, .int x1] (pcR dC dI cI cJ cG cZ ([(q_this, .inr (0, [.ref q_this_herd, .ref q_this_pairing, .int v_this_pairs, .int v_this_set, .int v_this_setsThatMayBe, .ref q_this_eggShares, .ref q_this_rests]))]))) (vp_Si (fun r => (r = 0 ∨ r = 1) ∧ post r)) 0 0 (fun _ => False) := by
  refine Met.ofW (cc := b_Choice_hasPair) (maxL := 2) (ret := (some .boolean)) (by decide) rfl ?_
  intro p e s m args below meth c s₁ B hml hv
  obtain ⟨rfl, hP, hK, hN⟩ := hv
  have hx := B.exec
  have hb := B.bytes
  have hr := B.returns
  have hts := atoms_spec (ws := w_Choice_hasPair) B.pre
  have hown : s.vm.findClass "PairChoice$Choice" = some m.cls := findClass_of_methodNamed B.named
  have hlocks := B.notSynchronized
  have hl := lv_entry ([.ref q_this, .int x1]) (n := 2) (Nat.le_of_ble_eq_true rfl)
  rw [lg_entry_eq]
  generalize (lg_sl ([.ref q_this, .int x1]) ++ List.replicate (2 - (lg_sl ([.ref q_this, .int x1])).length) Slot.unset).toArray = ls at hl ⊢
  have hl : lv_has ls 2 [(0, .ref q_this), (1, .int x1)] := hl
  unfold wp_Choice_hasPair at h
  refine lv_iload_n hx hb d_Choice_hasPair_0 rfl (lv_at hl 1 rfl) ?_
  refine lv_if_lt (tgt := 16) hx hb d_Choice_hasPair_1 (by decide) (fun c1 => ?_) (fun c1 => ?_)
  · have h := h.1 c1
    refine lv_iconst (v := 0) hx hb d_Choice_hasPair_16 (by decide) ?_
    exact W.zret hx hb hr (z_nar (Or.inl rfl)) (fun t ht hW => ⟨_, rfl, ⟨Or.inl rfl, h⟩, ht⟩) (fun _ h9 => by cases h9) d_Choice_hasPair_17
  · have h := h.2 c1
    refine lv_iload_n hx hb d_Choice_hasPair_4 rfl (lv_at hl 1 rfl) ?_
    refine lv_aload_n hx hb d_Choice_hasPair_5 rfl (lv_at hl 0 rfl) ?_
    refine va_get (D := (dC, dI)) (ci := 0) (v := .int v_this_pairs) (C := "PairChoice$Choice") (T := F_Choice) (N := 7) hx hb hts (fun w h => List.mem_cons_of_mem _ (i_Choice w h)) hown hK hP 0 rfl rfl 2 (by decide) (hts _ (List.mem_cons_of_mem _ kw_162)) (fun _ h9 => h9) rfl d_Choice_hasPair_6 ?_
    refine lv_icmp_ge (tgt := 16) hx hb d_Choice_hasPair_9 (by decide) (fun c2 => ?_) (fun c2 => ?_)
    · have h := h.1 c2
      refine lv_iconst (v := 0) hx hb d_Choice_hasPair_16 (by decide) ?_
      exact W.zret hx hb hr (z_nar (Or.inl rfl)) (fun t ht hW => ⟨_, rfl, ⟨Or.inl rfl, h⟩, ht⟩) (fun _ h9 => by cases h9) d_Choice_hasPair_17
    · have h := h.2 c2
      refine lv_iconst (v := 1) hx hb d_Choice_hasPair_12 (by decide) ?_
      refine lv_goto (tgt := 17) hx hb d_Choice_hasPair_13 (by decide) ?_
      exact W.zret hx hb hr (z_nar (Or.inr rfl)) (fun t ht hW => ⟨_, rfl, ⟨Or.inr rfl, h⟩, ht⟩) (fun _ h9 => by cases h9) d_Choice_hasPair_17
set_option maxHeartbeats 4000000 in
set_option maxRecDepth 100000 in
theorem c_Choice_pairWorth (l : Launch) (dC : Nat → ClassId) (dI : Nat → Nat → Nat) (cI cJ cG cZ : ClassId) (q_this q_this_eggShares q_this_herd q_this_herd_barred q_this_herd_families q_this_herd_kinships q_this_herd_leastOfFamily q_this_herd_worths q_this_pairing q_this_pairing_females q_this_pairing_males q_this_rests : Nat) (v_this_herd_count : Int32) (v_this_herd_kinLimit : Int32) (v_this_herd_males : Int32) (v_this_herd_mostOfFamily : Int32) (v_this_herd_worths : (Nat → Int32)) (v_this_pairing_females : (Nat → Int32)) (v_this_pairing_males : (Nat → Int32)) (v_this_pairs : Int32) (v_this_set : Int32) (v_this_setsThatMayBe : Int32) (x1 : Int32) (post : Int32 → Prop) (h : wp_Choice_pairWorth v_this_herd_worths v_this_pairing_females v_this_pairing_males x1 post) : Met l y_Choice_pairWorth w_Choice_pairWorth ({ frames := 0, cells := 0, slots := 0, locals := 0 } : Room) (va_Pc [.ref q_this, .int x1] (pcR dC dI cI cJ cG cZ ([(q_this, .inr (0, [.ref q_this_herd, .ref q_this_pairing, .int v_this_pairs, .int v_this_set, .int v_this_setsThatMayBe, .ref q_this_eggShares, .ref q_this_rests])), (q_this_herd, .inr (1, [.int v_this_herd_count, .int v_this_herd_males, .ref q_this_herd_worths, .ref q_this_herd_families, .ref q_this_herd_kinships, .ref q_this_herd_barred, .int v_this_herd_kinLimit, .int v_this_herd_mostOfFamily, .ref q_this_herd_leastOfFamily])), (q_this_herd_worths, .inl (cI, 12, .inl v_this_herd_worths)), (q_this_pairing, .inr (3, [.ref q_this_pairing_males, .ref q_this_pairing_females])), (q_this_pairing_females, .inl (cI, 6, .inl v_this_pairing_females)), (q_this_pairing_males, .inl (cI, 6, .inl v_this_pairing_males))]))) (vp_Si (fun r => post r)) 0 0 (fun _ => False) := by
  refine Met.ofW (cc := b_Choice_pairWorth) (maxL := 2) (ret := (some .int)) (by decide) rfl ?_
  intro p e s m args below meth c s₁ B hml hv
  obtain ⟨rfl, hP, hK, hN⟩ := hv
  have hx := B.exec
  have hb := B.bytes
  have hr := B.returns
  have hts := atoms_spec (ws := w_Choice_pairWorth) B.pre
  have hown : s.vm.findClass "PairChoice$Choice" = some m.cls := findClass_of_methodNamed B.named
  have hlocks := B.notSynchronized
  have hl := lv_entry ([.ref q_this, .int x1]) (n := 2) (Nat.le_of_ble_eq_true rfl)
  rw [lg_entry_eq]
  generalize (lg_sl ([.ref q_this, .int x1]) ++ List.replicate (2 - (lg_sl ([.ref q_this, .int x1])).length) Slot.unset).toArray = ls at hl ⊢
  have hl : lv_has ls 2 [(0, .ref q_this), (1, .int x1)] := hl
  unfold wp_Choice_pairWorth at h
  refine lv_aload_n hx hb d_Choice_pairWorth_0 rfl (lv_at hl 0 rfl) ?_
  refine va_get (D := (dC, dI)) (ci := 0) (v := .ref q_this_herd) (C := "PairChoice$Choice") (T := F_Choice) (N := 7) hx hb hts (fun w h => List.mem_cons_of_mem _ (i_Choice w h)) hown hK hP 0 rfl rfl 0 (by decide) (hts _ (List.mem_cons_of_mem _ kw_159)) (fun _ h9 => h9) rfl d_Choice_pairWorth_1 ?_
  refine va_getN (D := (dC, dI)) (ci := 1) (v := .ref q_this_herd_worths) (C := "PairChoice$Herd") (T := F_Herd) (N := 9) hx hb hts (fun w h => List.mem_cons_of_mem _ (i_Herd w h)) hown hK hP 1 rfl rfl 2 (by decide) (va_Nw.use rfl (nw_74 hN)) (fun _ h9 => h9) rfl d_Choice_pairWorth_4 ?_
  refine lv_aload_n hx hb d_Choice_pairWorth_7 rfl (lv_at hl 0 rfl) ?_
  refine va_get (D := (dC, dI)) (ci := 0) (v := .ref q_this_pairing) (C := "PairChoice$Choice") (T := F_Choice) (N := 7) hx hb hts (fun w h => List.mem_cons_of_mem _ (i_Choice w h)) hown hK hP 0 rfl rfl 1 (by decide) (hts _ (List.mem_cons_of_mem _ kw_160)) (fun _ h9 => h9) rfl d_Choice_pairWorth_8 ?_
  refine va_getN (D := (dC, dI)) (ci := 3) (v := .ref q_this_pairing_males) (C := "PairChoice$Pairing") (T := F_Pairing) (N := 2) hx hb hts (fun w h => List.mem_cons_of_mem _ (i_Pairing w h)) hown hK hP 3 rfl rfl 0 (by decide) (va_Nw.use rfl (nw_121 hN)) (fun _ h9 => h9) rfl d_Choice_pairWorth_11 ?_
  refine lv_iload_n hx hb d_Choice_pairWorth_14 rfl (lv_at hl 1 rfl) ?_
  obtain ⟨i1, h⟩ := h
  refine va_iald hx hb hK hP 5 0 rfl rfl i1 d_Choice_pairWorth_15 ?_
  obtain ⟨i2, h⟩ := h
  refine va_iald hx hb hK hP 2 0 rfl rfl i2 d_Choice_pairWorth_16 ?_
  refine lv_aload_n hx hb d_Choice_pairWorth_17 rfl (lv_at hl 0 rfl) ?_
  refine va_get (D := (dC, dI)) (ci := 0) (v := .ref q_this_herd) (C := "PairChoice$Choice") (T := F_Choice) (N := 7) hx hb hts (fun w h => List.mem_cons_of_mem _ (i_Choice w h)) hown hK hP 0 rfl rfl 0 (by decide) (hts _ (List.mem_cons_of_mem _ kw_159)) (fun _ h9 => h9) rfl d_Choice_pairWorth_18 ?_
  refine va_getN (D := (dC, dI)) (ci := 1) (v := .ref q_this_herd_worths) (C := "PairChoice$Herd") (T := F_Herd) (N := 9) hx hb hts (fun w h => List.mem_cons_of_mem _ (i_Herd w h)) hown hK hP 1 rfl rfl 2 (by decide) (va_Nw.use rfl (nw_74 hN)) (fun _ h9 => h9) rfl d_Choice_pairWorth_21 ?_
  refine lv_aload_n hx hb d_Choice_pairWorth_24 rfl (lv_at hl 0 rfl) ?_
  refine va_get (D := (dC, dI)) (ci := 0) (v := .ref q_this_pairing) (C := "PairChoice$Choice") (T := F_Choice) (N := 7) hx hb hts (fun w h => List.mem_cons_of_mem _ (i_Choice w h)) hown hK hP 0 rfl rfl 1 (by decide) (hts _ (List.mem_cons_of_mem _ kw_160)) (fun _ h9 => h9) rfl d_Choice_pairWorth_25 ?_
  refine va_getN (D := (dC, dI)) (ci := 3) (v := .ref q_this_pairing_females) (C := "PairChoice$Pairing") (T := F_Pairing) (N := 2) hx hb hts (fun w h => List.mem_cons_of_mem _ (i_Pairing w h)) hown hK hP 3 rfl rfl 1 (by decide) (va_Nw.use rfl (nw_124 hN)) (fun _ h9 => h9) rfl d_Choice_pairWorth_28 ?_
  refine lv_iload_n hx hb d_Choice_pairWorth_31 rfl (lv_at hl 1 rfl) ?_
  obtain ⟨i3, h⟩ := h
  refine va_iald hx hb hK hP 4 0 rfl rfl i3 d_Choice_pairWorth_32 ?_
  obtain ⟨i4, h⟩ := h
  refine va_iald hx hb hK hP 2 0 rfl rfl i4 d_Choice_pairWorth_33 ?_
  refine lv_iadd hx hb d_Choice_pairWorth_34 ?_
  exact W.iret hx hb hr (fun t ht hW => ⟨_, rfl, h, ht⟩) (fun _ h9 => by cases h9) d_Choice_pairWorth_35
set_option maxHeartbeats 4000000 in
set_option maxRecDepth 100000 in
theorem c_Choice_leastPairWorth (l : Launch) (dC : Nat → ClassId) (dI : Nat → Nat → Nat) (cI cJ cG cZ : ClassId) (q_this q_this_eggShares q_this_herd q_this_herd_barred q_this_herd_families q_this_herd_kinships q_this_herd_leastOfFamily q_this_herd_worths q_this_pairing q_this_pairing_females q_this_pairing_males q_this_rests : Nat) (v_this_herd_count : Int32) (v_this_herd_kinLimit : Int32) (v_this_herd_males : Int32) (v_this_herd_mostOfFamily : Int32) (v_this_herd_worths : (Nat → Int32)) (v_this_pairing_females : (Nat → Int32)) (v_this_pairing_males : (Nat → Int32)) (v_this_pairs : Int32) (v_this_set : Int32) (v_this_setsThatMayBe : Int32)  (post : Int32 → Prop) (h : wp_Choice_leastPairWorth v_this_herd_worths v_this_pairing_females v_this_pairing_males v_this_pairs post) : Met l y_Choice_leastPairWorth w_Choice_leastPairWorth ({ frames := 1, cells := 0, slots := 0, locals := 21 } : Room) (va_Pc [.ref q_this] (pcR dC dI cI cJ cG cZ ([(q_this, .inr (0, [.ref q_this_herd, .ref q_this_pairing, .int v_this_pairs, .int v_this_set, .int v_this_setsThatMayBe, .ref q_this_eggShares, .ref q_this_rests])), (q_this_herd, .inr (1, [.int v_this_herd_count, .int v_this_herd_males, .ref q_this_herd_worths, .ref q_this_herd_families, .ref q_this_herd_kinships, .ref q_this_herd_barred, .int v_this_herd_kinLimit, .int v_this_herd_mostOfFamily, .ref q_this_herd_leastOfFamily])), (q_this_herd_worths, .inl (cI, 12, .inl v_this_herd_worths)), (q_this_pairing, .inr (3, [.ref q_this_pairing_males, .ref q_this_pairing_females])), (q_this_pairing_females, .inl (cI, 6, .inl v_this_pairing_females)), (q_this_pairing_males, .inl (cI, 6, .inl v_this_pairing_males))]))) (vp_Si (fun r => post r)) 0 0 (fun _ => False) := by
  refine Met.ofW (cc := b_Choice_leastPairWorth) (maxL := 3) (ret := (some .int)) (by decide) rfl ?_
  intro p e s m args below meth c s₁ B hml hv
  obtain ⟨rfl, hP, hK, hN⟩ := hv
  have hx := B.exec
  have hb := B.bytes
  have hr := B.returns
  have hts := atoms_spec (ws := w_Choice_leastPairWorth) B.pre
  have hown : s.vm.findClass "PairChoice$Choice" = some m.cls := findClass_of_methodNamed B.named
  have hlocks := B.notSynchronized
  have hl := lv_entry ([.ref q_this]) (n := 3) (Nat.le_of_ble_eq_true rfl)
  rw [lg_entry_eq]
  generalize (lg_sl ([.ref q_this]) ++ List.replicate (3 - (lg_sl ([.ref q_this])).length) Slot.unset).toArray = ls at hl ⊢
  have hl : lv_has ls 3 [(0, .ref q_this)] := hl
  unfold wp_Choice_leastPairWorth at h
  refine lv_aload_n hx hb d_Choice_leastPairWorth_0 rfl (lv_at hl 0 rfl) ?_
  refine lv_iconst (v := 0) hx hb d_Choice_leastPairWorth_1 (by decide) ?_
  have hPc := hP.sub (ws' := [(q_this, .inr (0, [.ref q_this_herd, .ref q_this_pairing, .int v_this_pairs, .int v_this_set, .int v_this_setsThatMayBe, .ref q_this_eggShares, .ref q_this_rests])), (q_this_herd, .inr (1, [.int v_this_herd_count, .int v_this_herd_males, .ref q_this_herd_worths, .ref q_this_herd_families, .ref q_this_herd_kinships, .ref q_this_herd_barred, .int v_this_herd_kinLimit, .int v_this_herd_mostOfFamily, .ref q_this_herd_leastOfFamily])), (q_this_herd_worths, .inl (cI, 12, .inl v_this_herd_worths)), (q_this_pairing, .inr (3, [.ref q_this_pairing_males, .ref q_this_pairing_females])), (q_this_pairing_females, .inl (cI, 6, .inl v_this_pairing_females)), (q_this_pairing_males, .inl (cI, 6, .inl v_this_pairing_males))]) [0, 1, 2, 3, 4, 5] rfl
  refine vp_callSi (va_Run.run (va_runV (As := [.int 0]) (rest := []) ⟨hx, hb, hml, hown, hts⟩ (c_Choice_pairWorth l dC dI cI cJ cG cZ  q_this q_this_eggShares q_this_herd q_this_herd_barred q_this_herd_families q_this_herd_kinships q_this_herd_leastOfFamily q_this_herd_worths q_this_pairing q_this_pairing_females q_this_pairing_males q_this_rests  v_this_herd_count v_this_herd_kinLimit v_this_herd_males v_this_herd_mostOfFamily v_this_herd_worths v_this_pairing_females v_this_pairing_males v_this_pairs v_this_set v_this_setsThatMayBe (0 : Int32) _ h) (cwV 1 hts (gcV kw_382 kw_384 kw_20 kw_43 kw_385) rfl rfl rfl (by decide +kernel) ⟨Nat.le_of_ble_eq_true rfl, Nat.le_of_ble_eq_true rfl⟩) ⟨fb_r, va_recv hK hPc (ci := 0) (q0 := 0) rfl rfl, pre_r hPc hK hN⟩ rfl rfl hl.1 rfl (lv_room (Nat.le_of_ble_eq_true rfl)) d_Choice_leastPairWorth_2 ⟨Nat.zero_le _, Nat.zero_le _⟩)) (fun r1 h => ?_)
  refine lv_istore_n (lv' := [(1, .int r1), (0, .ref q_this)]) hx hb d_Choice_leastPairWorth_5 rfl hl (by decide) rfl (fun ls hl => ?_)
  refine lv_iconst (v := 1) hx hb d_Choice_leastPairWorth_6 (by decide) ?_
  refine lv_istore_n (lv' := [(2, .int 1), (1, .int r1), (0, .ref q_this)]) hx hb d_Choice_leastPairWorth_7 rfl hl (by decide) rfl (fun ls hl => ?_)
  obtain ⟨nn, h⟩ := h
  have lp8 : ∀ (n8 : Nat) (x1_8 : Int32) (x2_8 : Int32) (ls : Array Slot), wp_Choice_leastPairWorth_L8 v_this_herd_worths v_this_pairing_females v_this_pairing_males v_this_pairs post n8 x1_8 x2_8 → lv_has ls 3 [(2, .int x2_8), (1, .int x1_8), (0, .ref q_this)] → W p l e (headSpec w_Choice_leastPairWorth ({ frames := 1, cells := 0, slots := 0, locals := 21 } : Room)).room s m ([.ref q_this] : List Value).toArray below meth c s.heap [] 0 0 (MQ below (vp_Si (fun r => post r)) ([.ref q_this] : List Value).toArray s 0 0 (fun _ => False)) (F0 m 8 ls []) := by
    intro n8
    induction n8 with
    | zero =>
      intro x1_8 x2_8 ls h
      rw [wp_Choice_leastPairWorth_L8] at h
      exact h.elim
    | succ n8 ih8 =>
      intro x1_8 x2_8 ls h hl
      rw [wp_Choice_leastPairWorth_L8] at h
      refine lv_iload_n hx hb d_Choice_leastPairWorth_8 rfl (lv_at hl 0 rfl) ?_
      refine lv_aload_n hx hb d_Choice_leastPairWorth_9 rfl (lv_at hl 2 rfl) ?_
      refine va_get (D := (dC, dI)) (ci := 0) (v := .int v_this_pairs) (C := "PairChoice$Choice") (T := F_Choice) (N := 7) hx hb hts (fun w h => List.mem_cons_of_mem _ (i_Choice w h)) hown hK hP 0 rfl rfl 2 (by decide) (hts _ (List.mem_cons_of_mem _ kw_162)) (fun _ h9 => h9) rfl d_Choice_leastPairWorth_10 ?_
      refine lv_icmp_ge (tgt := 32) hx hb d_Choice_leastPairWorth_13 (by decide) (fun c2 => ?_) (fun c2 => ?_)
      · have h := h.1 c2
        refine lv_iload_n hx hb d_Choice_leastPairWorth_32 rfl (lv_at hl 1 rfl) ?_
        exact W.iret hx hb hr (fun t ht hW => ⟨_, rfl, h, ht⟩) (fun _ h9 => by cases h9) d_Choice_leastPairWorth_33
      · have h := h.2 c2
        refine lv_iload_n hx hb d_Choice_leastPairWorth_16 rfl (lv_at hl 1 rfl) ?_
        refine lv_aload_n hx hb d_Choice_leastPairWorth_17 rfl (lv_at hl 2 rfl) ?_
        refine lv_iload_n hx hb d_Choice_leastPairWorth_18 rfl (lv_at hl 0 rfl) ?_
        have hPc := hP.sub (ws' := [(q_this, .inr (0, [.ref q_this_herd, .ref q_this_pairing, .int v_this_pairs, .int v_this_set, .int v_this_setsThatMayBe, .ref q_this_eggShares, .ref q_this_rests])), (q_this_herd, .inr (1, [.int v_this_herd_count, .int v_this_herd_males, .ref q_this_herd_worths, .ref q_this_herd_families, .ref q_this_herd_kinships, .ref q_this_herd_barred, .int v_this_herd_kinLimit, .int v_this_herd_mostOfFamily, .ref q_this_herd_leastOfFamily])), (q_this_herd_worths, .inl (cI, 12, .inl v_this_herd_worths)), (q_this_pairing, .inr (3, [.ref q_this_pairing_males, .ref q_this_pairing_females])), (q_this_pairing_females, .inl (cI, 6, .inl v_this_pairing_females)), (q_this_pairing_males, .inl (cI, 6, .inl v_this_pairing_males))]) [0, 1, 2, 3, 4, 5] rfl
        refine vp_callSi (va_Run.run (va_runV (As := [.int x2_8]) (rest := [.int x1_8]) ⟨hx, hb, hml, hown, hts⟩ (c_Choice_pairWorth l dC dI cI cJ cG cZ  q_this q_this_eggShares q_this_herd q_this_herd_barred q_this_herd_families q_this_herd_kinships q_this_herd_leastOfFamily q_this_herd_worths q_this_pairing q_this_pairing_females q_this_pairing_males q_this_rests  v_this_herd_count v_this_herd_kinLimit v_this_herd_males v_this_herd_mostOfFamily v_this_herd_worths v_this_pairing_females v_this_pairing_males v_this_pairs v_this_set v_this_setsThatMayBe (x2_8 : Int32) _ h) (cwV 1 hts (gcV kw_382 kw_384 kw_20 kw_43 kw_385) rfl rfl rfl (by decide +kernel) ⟨Nat.le_of_ble_eq_true rfl, Nat.le_of_ble_eq_true rfl⟩) ⟨fb_r, va_recv hK hPc (ci := 0) (q0 := 0) rfl rfl, pre_r hPc hK hN⟩ rfl rfl hl.1 rfl (lv_room (Nat.le_of_ble_eq_true rfl)) d_Choice_leastPairWorth_19 ⟨Nat.zero_le _, Nat.zero_le _⟩)) (fun r3 h => ?_)
        refine va_mmin hx hb (by rw [hml]; exact hl.1.symm) hown (hts _ (List.mem_cons_of_mem _ kw_386)) (hts _ (List.mem_cons_of_mem _ kw_387)) (hts _ (List.mem_cons_of_mem _ kw_47)) (hts _ (List.mem_cons_of_mem _ kw_388)) (Nat.le_of_ble_eq_true rfl) (Nat.le_of_ble_eq_true rfl) (Nat.zero_le _) (Nat.zero_le _) d_Choice_leastPairWorth_22 ?_
        refine lv_istore_n (lv' := [(1, .int (if r3 < x1_8 then r3 else x1_8)), (2, .int x2_8), (0, .ref q_this)]) hx hb d_Choice_leastPairWorth_25 rfl hl (by decide) rfl (fun ls hl => ?_)
        refine lv_iinc (v := (x2_8 + 1)) (lv' := [(2, .int (x2_8 + 1)), (1, .int (if r3 < x1_8 then r3 else x1_8)), (0, .ref q_this)]) hx hb d_Choice_leastPairWorth_26 hl (k := 1) rfl rfl (by decide) rfl (fun ls hl => ?_)
        refine lv_goto (tgt := 8) hx hb d_Choice_leastPairWorth_29 (by decide) ?_
        exact ih8 (if r3 < x1_8 then r3 else x1_8) (x2_8 + 1) ls h (lv_sub hl [0, 1, 2] rfl)
  exact lp8 nn r1 (1) ls h hl
set_option maxHeartbeats 4000000 in
set_option maxRecDepth 100000 in
theorem c_Choice_greatestRest (l : Launch) (dC : Nat → ClassId) (dI : Nat → Nat → Nat) (cI cJ cG cZ : ClassId) (q_this q_this_eggShares q_this_herd q_this_pairing q_this_rests : Nat) (v_this_pairs : Int32) (v_this_rests : (Nat → Int64)) (v_this_set : Int32) (v_this_setsThatMayBe : Int32)  (post : Int32 → Prop) (h : wp_Choice_greatestRest v_this_pairs v_this_rests post) : Met l y_Choice_greatestRest w_Choice_greatestRest ({ frames := 0, cells := 0, slots := 0, locals := 0 } : Room) (va_Pc [.ref q_this] (pcR dC dI cI cJ cG cZ ([(q_this, .inr (0, [.ref q_this_herd, .ref q_this_pairing, .int v_this_pairs, .int v_this_set, .int v_this_setsThatMayBe, .ref q_this_eggShares, .ref q_this_rests])), (q_this_rests, .inl (cJ, 6, .inr (.inl v_this_rests)))]))) (vp_Si (fun r => post r)) 0 0 (fun _ => False) := by
  refine Met.ofW (cc := b_Choice_greatestRest) (maxL := 3) (ret := (some .int)) (by decide) rfl ?_
  intro p e s m args below meth c s₁ B hml hv
  obtain ⟨rfl, hP, hK, hN⟩ := hv
  have hx := B.exec
  have hb := B.bytes
  have hr := B.returns
  have hts := atoms_spec (ws := w_Choice_greatestRest) B.pre
  have hown : s.vm.findClass "PairChoice$Choice" = some m.cls := findClass_of_methodNamed B.named
  have hlocks := B.notSynchronized
  have hl := lv_entry ([.ref q_this]) (n := 3) (Nat.le_of_ble_eq_true rfl)
  rw [lg_entry_eq]
  generalize (lg_sl ([.ref q_this]) ++ List.replicate (3 - (lg_sl ([.ref q_this])).length) Slot.unset).toArray = ls at hl ⊢
  have hl : lv_has ls 3 [(0, .ref q_this)] := hl
  unfold wp_Choice_greatestRest at h
  refine lv_iconst (v := 0) hx hb d_Choice_greatestRest_0 (by decide) ?_
  refine lv_istore_n (lv' := [(1, .int 0), (0, .ref q_this)]) hx hb d_Choice_greatestRest_1 rfl hl (by decide) rfl (fun ls hl => ?_)
  refine lv_iconst (v := 1) hx hb d_Choice_greatestRest_2 (by decide) ?_
  refine lv_istore_n (lv' := [(2, .int 1), (1, .int 0), (0, .ref q_this)]) hx hb d_Choice_greatestRest_3 rfl hl (by decide) rfl (fun ls hl => ?_)
  obtain ⟨nn, h⟩ := h
  have lp4 : ∀ (n4 : Nat) (x1_4 : Int32) (x2_4 : Int32) (ls : Array Slot), wp_Choice_greatestRest_L4 v_this_pairs v_this_rests post n4 x1_4 x2_4 → lv_has ls 3 [(2, .int x2_4), (1, .int x1_4), (0, .ref q_this)] → W p l e (headSpec w_Choice_greatestRest ({ frames := 0, cells := 0, slots := 0, locals := 0 } : Room)).room s m ([.ref q_this] : List Value).toArray below meth c s.heap [] 0 0 (MQ below (vp_Si (fun r => post r)) ([.ref q_this] : List Value).toArray s 0 0 (fun _ => False)) (F0 m 4 ls []) := by
    intro n4
    induction n4 with
    | zero =>
      intro x1_4 x2_4 ls h
      rw [wp_Choice_greatestRest_L4] at h
      exact h.elim
    | succ n4 ih4 =>
      intro x1_4 x2_4 ls h hl
      rw [wp_Choice_greatestRest_L4] at h
      refine lv_iload_n hx hb d_Choice_greatestRest_4 rfl (lv_at hl 0 rfl) ?_
      refine lv_aload_n hx hb d_Choice_greatestRest_5 rfl (lv_at hl 2 rfl) ?_
      refine va_get (D := (dC, dI)) (ci := 0) (v := .int v_this_pairs) (C := "PairChoice$Choice") (T := F_Choice) (N := 7) hx hb hts (fun w h => List.mem_cons_of_mem _ (i_Choice w h)) hown hK hP 0 rfl rfl 2 (by decide) (hts _ (List.mem_cons_of_mem _ kw_162)) (fun _ h9 => h9) rfl d_Choice_greatestRest_6 ?_
      refine lv_icmp_ge (tgt := 36) hx hb d_Choice_greatestRest_9 (by decide) (fun c1 => ?_) (fun c1 => ?_)
      · have h := h.1 c1
        refine lv_iload_n hx hb d_Choice_greatestRest_36 rfl (lv_at hl 1 rfl) ?_
        exact W.iret hx hb hr (fun t ht hW => ⟨_, rfl, h, ht⟩) (fun _ h9 => by cases h9) d_Choice_greatestRest_37
      · have h := h.2 c1
        refine lv_aload_n hx hb d_Choice_greatestRest_12 rfl (lv_at hl 2 rfl) ?_
        refine va_get (D := (dC, dI)) (ci := 0) (v := .ref q_this_rests) (C := "PairChoice$Choice") (T := F_Choice) (N := 7) hx hb hts (fun w h => List.mem_cons_of_mem _ (i_Choice w h)) hown hK hP 0 rfl rfl 6 (by decide) (hts _ (List.mem_cons_of_mem _ kw_170)) (fun _ h9 => h9) rfl d_Choice_greatestRest_13 ?_
        refine lv_iload_n hx hb d_Choice_greatestRest_16 rfl (lv_at hl 0 rfl) ?_
        obtain ⟨i2, h⟩ := h
        refine va_lald hx hb hK hP 1 1 rfl rfl i2 d_Choice_greatestRest_17 ?_
        refine lv_aload_n hx hb d_Choice_greatestRest_18 rfl (lv_at hl 2 rfl) ?_
        refine va_get (D := (dC, dI)) (ci := 0) (v := .ref q_this_rests) (C := "PairChoice$Choice") (T := F_Choice) (N := 7) hx hb hts (fun w h => List.mem_cons_of_mem _ (i_Choice w h)) hown hK hP 0 rfl rfl 6 (by decide) (hts _ (List.mem_cons_of_mem _ kw_170)) (fun _ h9 => h9) rfl d_Choice_greatestRest_19 ?_
        refine lv_iload_n hx hb d_Choice_greatestRest_22 rfl (lv_at hl 1 rfl) ?_
        obtain ⟨i3, h⟩ := h
        refine va_lald hx hb hK hP 1 1 rfl rfl i3 d_Choice_greatestRest_23 ?_
        refine W.lcmp hx hb d_Choice_greatestRest_24 ?_
        refine lv_if_le (tgt := 30) hx hb d_Choice_greatestRest_25 (by decide) (fun c4 => ?_) (fun c4 => ?_)
        · have h := h.1 c4
          refine lv_iinc (v := (x2_4 + 1)) (lv' := [(2, .int (x2_4 + 1)), (1, .int x1_4), (0, .ref q_this)]) hx hb d_Choice_greatestRest_30 hl (k := 0) rfl rfl (by decide) rfl (fun ls hl => ?_)
          refine lv_goto (tgt := 4) hx hb d_Choice_greatestRest_33 (by decide) ?_
          exact ih4 x1_4 (x2_4 + 1) ls h (lv_sub hl [0, 1, 2] rfl)
        · have h := h.2 c4
          refine lv_iload_n hx hb d_Choice_greatestRest_28 rfl (lv_at hl 0 rfl) ?_
          refine lv_istore_n (lv' := [(1, .int x2_4), (2, .int x2_4), (0, .ref q_this)]) hx hb d_Choice_greatestRest_29 rfl hl (by decide) rfl (fun ls hl => ?_)
          refine lv_iinc (v := (x2_4 + 1)) (lv' := [(2, .int (x2_4 + 1)), (1, .int x2_4), (0, .ref q_this)]) hx hb d_Choice_greatestRest_30 hl (k := 1) rfl rfl (by decide) rfl (fun ls hl => ?_)
          refine lv_goto (tgt := 4) hx hb d_Choice_greatestRest_33 (by decide) ?_
          exact ih4 x2_4 (x2_4 + 1) ls h (lv_sub hl [0, 1, 2] rfl)
  exact lp4 nn (0) (1) ls h hl
set_option maxHeartbeats 4000000 in
set_option maxRecDepth 100000 in
theorem c_Herd_knows (l : Launch) (dC : Nat → ClassId) (dI : Nat → Nat → Nat) (cI cJ cG cZ : ClassId) (q_this q_this_barred q_this_families q_this_kinships q_this_leastOfFamily q_this_worths : Nat) (v_this_count : Int32) (v_this_kinLimit : Int32) (v_this_males : Int32) (v_this_mostOfFamily : Int32) (x1 : Int32) (post : Int32 → Prop) (h : wp_Herd_knows v_this_count x1 post) : Met l y_Herd_knows w_Herd_knows ({ frames := 0, cells := 0, slots := 0, locals := 0 } : Room) (va_Pc [.ref q_this, .int x1] (pcR dC dI cI cJ cG cZ ([(q_this, .inr (1, [.int v_this_count, .int v_this_males, .ref q_this_worths, .ref q_this_families, .ref q_this_kinships, .ref q_this_barred, .int v_this_kinLimit, .int v_this_mostOfFamily, .ref q_this_leastOfFamily]))]))) (vp_Si (fun r => (r = 0 ∨ r = 1) ∧ post r)) 0 0 (fun _ => False) := by
  refine Met.ofW (cc := b_Herd_knows) (maxL := 2) (ret := (some .boolean)) (by decide) rfl ?_
  intro p e s m args below meth c s₁ B hml hv
  obtain ⟨rfl, hP, hK, hN⟩ := hv
  have hx := B.exec
  have hb := B.bytes
  have hr := B.returns
  have hts := atoms_spec (ws := w_Herd_knows) B.pre
  have hown : s.vm.findClass "PairChoice$Herd" = some m.cls := findClass_of_methodNamed B.named
  have hlocks := B.notSynchronized
  have hl := lv_entry ([.ref q_this, .int x1]) (n := 2) (Nat.le_of_ble_eq_true rfl)
  rw [lg_entry_eq]
  generalize (lg_sl ([.ref q_this, .int x1]) ++ List.replicate (2 - (lg_sl ([.ref q_this, .int x1])).length) Slot.unset).toArray = ls at hl ⊢
  have hl : lv_has ls 2 [(0, .ref q_this), (1, .int x1)] := hl
  unfold wp_Herd_knows at h
  refine lv_iload_n hx hb d_Herd_knows_0 rfl (lv_at hl 1 rfl) ?_
  refine lv_if_lt (tgt := 16) hx hb d_Herd_knows_1 (by decide) (fun c1 => ?_) (fun c1 => ?_)
  · have h := h.1 c1
    refine lv_iconst (v := 0) hx hb d_Herd_knows_16 (by decide) ?_
    exact W.zret hx hb hr (z_nar (Or.inl rfl)) (fun t ht hW => ⟨_, rfl, ⟨Or.inl rfl, h⟩, ht⟩) (fun _ h9 => by cases h9) d_Herd_knows_17
  · have h := h.2 c1
    refine lv_iload_n hx hb d_Herd_knows_4 rfl (lv_at hl 1 rfl) ?_
    refine lv_aload_n hx hb d_Herd_knows_5 rfl (lv_at hl 0 rfl) ?_
    refine va_get (D := (dC, dI)) (ci := 1) (v := .int v_this_count) (C := "PairChoice$Herd") (T := F_Herd) (N := 9) hx hb hts (fun w h => List.mem_cons_of_mem _ (i_Herd w h)) hown hK hP 0 rfl rfl 0 (by decide) (hts _ (List.mem_cons_of_mem _ kw_64)) (fun _ h9 => h9) rfl d_Herd_knows_6 ?_
    refine lv_icmp_ge (tgt := 16) hx hb d_Herd_knows_9 (by decide) (fun c2 => ?_) (fun c2 => ?_)
    · have h := h.1 c2
      refine lv_iconst (v := 0) hx hb d_Herd_knows_16 (by decide) ?_
      exact W.zret hx hb hr (z_nar (Or.inl rfl)) (fun t ht hW => ⟨_, rfl, ⟨Or.inl rfl, h⟩, ht⟩) (fun _ h9 => by cases h9) d_Herd_knows_17
    · have h := h.2 c2
      refine lv_iconst (v := 1) hx hb d_Herd_knows_12 (by decide) ?_
      refine lv_goto (tgt := 17) hx hb d_Herd_knows_13 (by decide) ?_
      exact W.zret hx hb hr (z_nar (Or.inr rfl)) (fun t ht hW => ⟨_, rfl, ⟨Or.inr rfl, h⟩, ht⟩) (fun _ h9 => by cases h9) d_Herd_knows_17
def at_Outlook_note (dC : Nat → ClassId) (dI : Nat → Nat → Nat) (cI cJ cG cZ : ClassId) (q_this q_this_alive q_this_bestSums : Nat) (A : Nat → Prop) (v_this_years : Int32) (u : (Nat → Int32) × (Nat → Int32)) (t : State) : Prop := va_P (dC, dI) vCl ([(q_this, .inr (2, [.int v_this_years, .ref q_this_alive, .ref q_this_bestSums])), (q_this_alive, .inl (cI, 20, .inl u.1)), (q_this_bestSums, .inl (cI, 20, .inl u.2))]) t.heap ∧ va_D A ([(q_this, .inr (2, [.int v_this_years, .ref q_this_alive, .ref q_this_bestSums])), (q_this_alive, .inl (cI, 20, .inl u.1)), (q_this_bestSums, .inl (cI, 20, .inl u.2))])
set_option maxHeartbeats 4000000 in
set_option maxRecDepth 100000 in
theorem c_Outlook_note (l : Launch) (dC : Nat → ClassId) (dI : Nat → Nat → Nat) (cI cJ cG cZ : ClassId) (q_this q_this_alive q_this_bestSums : Nat) (sz : Nat) (v_this_alive : (Nat → Int32)) (v_this_bestSums : (Nat → Int32)) (v_this_years : Int32) (x1 : Int32) (x2 : Int32) (x3 : Int32) (post : (Nat → Int32) → (Nat → Int32) → Prop) (h : wp_Outlook_note v_this_alive v_this_bestSums x1 x2 x3 post) : Met l y_Outlook_note w_Outlook_note ({ frames := 0, cells := 0, slots := 0, locals := 0 } : Room) (va_Pc [.ref q_this, .int x1, .int x2, .int x3] (pcW dC dI cI cJ cG cZ sz ([(q_this, .inr (2, [.int v_this_years, .ref q_this_alive, .ref q_this_bestSums])), (q_this_alive, .inl (cI, 20, .inl v_this_alive)), (q_this_bestSums, .inl (cI, 20, .inl v_this_bestSums))]))) (va_Qv (fun (u : (Nat → Int32) × (Nat → Int32)) => post u.1 u.2) (fun (u : (Nat → Int32) × (Nat → Int32)) (t : State) => at_Outlook_note dC dI cI cJ cG cZ q_this q_this_alive q_this_bestSums (va_A ([(q_this, .inr (2, [.int v_this_years, .ref q_this_alive, .ref q_this_bestSums])), (q_this_alive, .inl (cI, 20, .inl v_this_alive)), (q_this_bestSums, .inl (cI, 20, .inl v_this_bestSums))]) sz) v_this_years u t) (va_A ([(q_this, .inr (2, [.int v_this_years, .ref q_this_alive, .ref q_this_bestSums])), (q_this_alive, .inl (cI, 20, .inl v_this_alive)), (q_this_bestSums, .inl (cI, 20, .inl v_this_bestSums))]) sz)) 0 0 (va_A ([(q_this, .inr (2, [.int v_this_years, .ref q_this_alive, .ref q_this_bestSums])), (q_this_alive, .inl (cI, 20, .inl v_this_alive)), (q_this_bestSums, .inl (cI, 20, .inl v_this_bestSums))]) sz) := by
  refine Met.ofW (cc := b_Outlook_note) (maxL := 4) (ret := none) (by decide) rfl ?_
  intro p e s m args below meth c s₁ B hml hv
  obtain ⟨rfl, hsz, hP, hK, hN, hD0⟩ := hv
  have hx := B.exec
  have hb := B.bytes
  have hr := B.returns
  have hts := atoms_spec (ws := w_Outlook_note) B.pre
  have hown : s.vm.findClass "PairChoice$Outlook" = some m.cls := findClass_of_methodNamed B.named
  have hlocks := B.notSynchronized
  subst hsz
  have hD := hD0.self (sz := s.heap.size)
  generalize hAe : va_A ([(q_this, .inr (2, [.int v_this_years, .ref q_this_alive, .ref q_this_bestSums])), (q_this_alive, .inl (cI, 20, .inl v_this_alive)), (q_this_bestSums, .inl (cI, 20, .inl v_this_bestSums))]) s.heap.size = A at hD ⊢
  have hA : ∀ q : Nat, s.heap.size ≤ q → A q := fun q h => by rw [← hAe]; exact Or.inr h
  have hS : va_S A s.heap s.heap [] := va_S.rf
  have hl := lv_entry ([.ref q_this, .int x1, .int x2, .int x3]) (n := 4) (Nat.le_of_ble_eq_true rfl)
  rw [lg_entry_eq]
  generalize (lg_sl ([.ref q_this, .int x1, .int x2, .int x3]) ++ List.replicate (4 - (lg_sl ([.ref q_this, .int x1, .int x2, .int x3])).length) Slot.unset).toArray = ls at hl ⊢
  have hl : lv_has ls 4 [(0, .ref q_this), (1, .int x1), (2, .int x2), (3, .int x3)] := hl
  unfold wp_Outlook_note at h
  refine lv_aload_n hx hb d_Outlook_note_0 rfl (lv_at hl 0 rfl) ?_
  refine va_get (D := (dC, dI)) (ci := 2) (v := .ref q_this_alive) (C := "PairChoice$Outlook") (T := F_Outlook) (N := 3) hx hb hts (fun w h => List.mem_cons_of_mem _ (i_Outlook w h)) hown hK hP 0 rfl rfl 1 (by decide) (hts _ (List.mem_cons_of_mem _ kw_195)) (fun _ h9 => h9) rfl d_Outlook_note_1 ?_
  refine lv_iload_n hx hb d_Outlook_note_4 rfl (lv_at hl 1 rfl) ?_
  refine lv_iload_n hx hb d_Outlook_note_5 rfl (lv_at hl 2 rfl) ?_
  obtain ⟨i1, h⟩ := h
  refine va_iast hx hb hK hP hD hS 1 0 rfl rfl i1 d_Outlook_note_6 (fun H locs hP hD hS => ?_)
  have hP : va_P (dC, dI) vCl ([(q_this, .inr (2, [.int v_this_years, .ref q_this_alive, .ref q_this_bestSums])), (q_this_alive, .inl (cI, 20, .inl (upd v_this_alive x1.toNatClampNeg x2))), (q_this_bestSums, .inl (cI, 20, .inl v_this_bestSums))]) H := hP
  have hD : va_D A ([(q_this, .inr (2, [.int v_this_years, .ref q_this_alive, .ref q_this_bestSums])), (q_this_alive, .inl (cI, 20, .inl (upd v_this_alive x1.toNatClampNeg x2))), (q_this_bestSums, .inl (cI, 20, .inl v_this_bestSums))]) := hD
  refine lv_aload_n hx hb d_Outlook_note_7 rfl (lv_at hl 0 rfl) ?_
  refine va_get (D := (dC, dI)) (ci := 2) (v := .ref q_this_bestSums) (C := "PairChoice$Outlook") (T := F_Outlook) (N := 3) hx hb hts (fun w h => List.mem_cons_of_mem _ (i_Outlook w h)) hown hK hP 0 rfl rfl 2 (by decide) (hts _ (List.mem_cons_of_mem _ kw_197)) (fun _ h9 => h9) rfl d_Outlook_note_8 ?_
  refine lv_iload_n hx hb d_Outlook_note_11 rfl (lv_at hl 1 rfl) ?_
  refine lv_iload_n hx hb d_Outlook_note_12 rfl (lv_at hl 3 rfl) ?_
  obtain ⟨i2, h⟩ := h
  refine va_iast hx hb hK hP hD hS 2 0 rfl rfl i2 d_Outlook_note_13 (fun H locs hP hD hS => ?_)
  have hP : va_P (dC, dI) vCl ([(q_this, .inr (2, [.int v_this_years, .ref q_this_alive, .ref q_this_bestSums])), (q_this_alive, .inl (cI, 20, .inl (upd v_this_alive x1.toNatClampNeg x2))), (q_this_bestSums, .inl (cI, 20, .inl (upd v_this_bestSums x1.toNatClampNeg x3)))]) H := hP
  have hD : va_D A ([(q_this, .inr (2, [.int v_this_years, .ref q_this_alive, .ref q_this_bestSums])), (q_this_alive, .inl (cI, 20, .inl (upd v_this_alive x1.toNatClampNeg x2))), (q_this_bestSums, .inl (cI, 20, .inl (upd v_this_bestSums x1.toNatClampNeg x3)))]) := hD
  exact W.vret hx hb hr (fun t ht hW => ⟨⟨((upd v_this_alive x1.toNatClampNeg x2), (upd v_this_bestSums x1.toNatClampNeg x3)), rfl, h, ⟨by rw [ht]; exact hP, hD⟩⟩, hS.F ht⟩) hS.2.2 d_Outlook_note_14
def at_SetList_forget (dC : Nat → ClassId) (dI : Nat → Nat → Nat) (cI cJ cG cZ : ClassId) (q_this q_this_herd q_this_listed q_this_sums q_this_trial : Nat) (A : Nat → Prop) (v_this_size : Int32) (u : Int32) (t : State) : Prop := va_P (dC, dI) vCl ([(q_this, .inr (4, [.ref q_this_herd, .ref q_this_trial, .ref q_this_listed, .ref q_this_sums, .int v_this_size, .int u]))]) t.heap ∧ va_D A ([(q_this, .inr (4, [.ref q_this_herd, .ref q_this_trial, .ref q_this_listed, .ref q_this_sums, .int v_this_size, .int u]))])
set_option maxHeartbeats 4000000 in
set_option maxRecDepth 100000 in
theorem c_SetList_forget (l : Launch) (dC : Nat → ClassId) (dI : Nat → Nat → Nat) (cI cJ cG cZ : ClassId) (q_this q_this_herd q_this_listed q_this_sums q_this_trial : Nat) (sz : Nat) (v_this_pairs : Int32) (v_this_size : Int32)  (post : Int32 → Prop) (h : wp_SetList_forget v_this_pairs post) : Met l y_SetList_forget w_SetList_forget ({ frames := 0, cells := 0, slots := 0, locals := 0 } : Room) (va_Pc [.ref q_this] (pcW dC dI cI cJ cG cZ sz ([(q_this, .inr (4, [.ref q_this_herd, .ref q_this_trial, .ref q_this_listed, .ref q_this_sums, .int v_this_size, .int v_this_pairs]))]))) (va_Qv (fun (u : Int32) => post u) (fun (u : Int32) (t : State) => at_SetList_forget dC dI cI cJ cG cZ q_this q_this_herd q_this_listed q_this_sums q_this_trial (va_A ([(q_this, .inr (4, [.ref q_this_herd, .ref q_this_trial, .ref q_this_listed, .ref q_this_sums, .int v_this_size, .int v_this_pairs]))]) sz) v_this_size u t) (va_A ([(q_this, .inr (4, [.ref q_this_herd, .ref q_this_trial, .ref q_this_listed, .ref q_this_sums, .int v_this_size, .int v_this_pairs]))]) sz)) 0 0 (va_A ([(q_this, .inr (4, [.ref q_this_herd, .ref q_this_trial, .ref q_this_listed, .ref q_this_sums, .int v_this_size, .int v_this_pairs]))]) sz) := by
  refine Met.ofW (cc := b_SetList_forget) (maxL := 1) (ret := none) (by decide) rfl ?_
  intro p e s m args below meth c s₁ B hml hv
  obtain ⟨rfl, hsz, hP, hK, hN, hD0⟩ := hv
  have hx := B.exec
  have hb := B.bytes
  have hr := B.returns
  have hts := atoms_spec (ws := w_SetList_forget) B.pre
  have hown : s.vm.findClass "PairChoice$SetList" = some m.cls := findClass_of_methodNamed B.named
  have hlocks := B.notSynchronized
  subst hsz
  have hD := hD0.self (sz := s.heap.size)
  generalize hAe : va_A ([(q_this, .inr (4, [.ref q_this_herd, .ref q_this_trial, .ref q_this_listed, .ref q_this_sums, .int v_this_size, .int v_this_pairs]))]) s.heap.size = A at hD ⊢
  have hA : ∀ q : Nat, s.heap.size ≤ q → A q := fun q h => by rw [← hAe]; exact Or.inr h
  have hS : va_S A s.heap s.heap [] := va_S.rf
  have hl := lv_entry ([.ref q_this]) (n := 1) (Nat.le_of_ble_eq_true rfl)
  rw [lg_entry_eq]
  generalize (lg_sl ([.ref q_this]) ++ List.replicate (1 - (lg_sl ([.ref q_this])).length) Slot.unset).toArray = ls at hl ⊢
  have hl : lv_has ls 1 [(0, .ref q_this)] := hl
  unfold wp_SetList_forget at h
  refine lv_aload_n hx hb d_SetList_forget_0 rfl (lv_at hl 0 rfl) ?_
  refine lv_iconst (v := 0) hx hb d_SetList_forget_1 (by decide) ?_
  refine va_put (D := (dC, dI)) (ci := 4) (v := .int 0) (ty := .int) (C := "PairChoice$SetList") (T := F_SetList) (N := 6) hx hb hts (fun w h => List.mem_cons_of_mem _ (i_SetList w h)) t_SetList t_SetList_ok n_SetList hown hK hP hD hS 0 rfl rfl 5 (by decide) (hts _ (List.mem_cons_of_mem _ kw_137)) (fun _ h9 => h9) rfl (by decide +kernel) rfl rfl (Nat.le_of_ble_eq_true rfl) d_SetList_forget_2 (fun H locs hP hD hS => ?_)
  have hP : va_P (dC, dI) vCl ([(q_this, .inr (4, [.ref q_this_herd, .ref q_this_trial, .ref q_this_listed, .ref q_this_sums, .int v_this_size, .int 0]))]) H := hP
  have hD : va_D A ([(q_this, .inr (4, [.ref q_this_herd, .ref q_this_trial, .ref q_this_listed, .ref q_this_sums, .int v_this_size, .int 0]))]) := hD
  exact W.vret hx hb hr (fun t ht hW => ⟨⟨0, rfl, h, ⟨by rw [ht]; exact hP, hD⟩⟩, hS.F ht⟩) hS.2.2 d_SetList_forget_5
set_option maxHeartbeats 4000000 in
set_option maxRecDepth 100000 in
theorem c_SetList_goesBefore (l : Launch) (dC : Nat → ClassId) (dI : Nat → Nat → Nat) (cI cJ cG cZ : ClassId)  (x0 : Int32) (x1 : Int32) (post : Int32 → Prop) (h : wp_SetList_goesBefore x0 x1 post) : Met l y_SetList_goesBefore w_SetList_goesBefore ({ frames := 0, cells := 0, slots := 0, locals := 0 } : Room) (va_Pc [.int x0, .int x1] (pcS dC dI cI cJ cG cZ)) (vp_Si (fun r => (r = 0 ∨ r = 1) ∧ post r)) 0 0 (fun _ => False) := by
  refine Met.ofW (cc := b_SetList_goesBefore) (maxL := 3) (ret := (some .boolean)) (by decide) rfl ?_
  intro p e s m args below meth c s₁ B hml hv
  obtain ⟨rfl, hK, hN⟩ := hv
  have hx := B.exec
  have hb := B.bytes
  have hr := B.returns
  have hts := atoms_spec (ws := w_SetList_goesBefore) B.pre
  have hown : s.vm.findClass "PairChoice$SetList" = some m.cls := findClass_of_methodNamed B.named
  have hlocks := B.notSynchronized
  have hl := lv_entry ([.int x0, .int x1]) (n := 3) (Nat.le_of_ble_eq_true rfl)
  rw [lg_entry_eq]
  generalize (lg_sl ([.int x0, .int x1]) ++ List.replicate (3 - (lg_sl ([.int x0, .int x1])).length) Slot.unset).toArray = ls at hl ⊢
  have hl : lv_has ls 3 [(0, .int x0), (1, .int x1)] := hl
  unfold wp_SetList_goesBefore at h
  refine lv_iload_n hx hb d_SetList_goesBefore_0 rfl (lv_at hl 0 rfl) ?_
  refine lv_iload_n hx hb d_SetList_goesBefore_1 rfl (lv_at hl 1 rfl) ?_
  refine lv_ixor hx hb d_SetList_goesBefore_2 ?_
  refine lv_istore_n (lv' := [(2, .int (x0 ^^^ x1)), (0, .int x0), (1, .int x1)]) hx hb d_SetList_goesBefore_3 rfl hl (by decide) rfl (fun ls hl => ?_)
  refine lv_iload_n hx hb d_SetList_goesBefore_4 rfl (lv_at hl 1 rfl) ?_
  refine lv_iload_n hx hb d_SetList_goesBefore_5 rfl (lv_at hl 0 rfl) ?_
  refine lv_iand hx hb d_SetList_goesBefore_6 ?_
  refine lv_iload_n hx hb d_SetList_goesBefore_7 rfl (lv_at hl 0 rfl) ?_
  refine lv_ineg hx hb d_SetList_goesBefore_8 ?_
  refine lv_iand hx hb d_SetList_goesBefore_9 ?_
  refine lv_if_eq (tgt := 17) hx hb d_SetList_goesBefore_10 (by decide) (fun c1 => ?_) (fun c1 => ?_)
  · have h := h.1 c1
    refine lv_iconst (v := 0) hx hb d_SetList_goesBefore_17 (by decide) ?_
    exact W.zret hx hb hr (z_nar (Or.inl rfl)) (fun t ht hW => ⟨_, rfl, ⟨Or.inl rfl, h⟩, ht⟩) (fun _ h9 => by cases h9) d_SetList_goesBefore_18
  · have h := h.2 c1
    refine lv_iconst (v := 1) hx hb d_SetList_goesBefore_13 (by decide) ?_
    refine lv_goto (tgt := 18) hx hb d_SetList_goesBefore_14 (by decide) ?_
    exact W.zret hx hb hr (z_nar (Or.inr rfl)) (fun t ht hW => ⟨_, rfl, ⟨Or.inr rfl, h⟩, ht⟩) (fun _ h9 => by cases h9) d_SetList_goesBefore_18
set_option maxHeartbeats 4000000 in
set_option maxRecDepth 100000 in
theorem c_SetList_greatestSumAmong (l : Launch) (dC : Nat → ClassId) (dI : Nat → Nat → Nat) (cI cJ cG cZ : ClassId) (q_this q_this_herd q_this_listed q_this_sums q_this_trial : Nat) (v_this_listed : (Nat → Int32)) (v_this_pairs : Int32) (v_this_size : Int32) (v_this_sums : (Nat → Int32)) (x1 : Int32) (post : Int32 → Prop) (h : wp_SetList_greatestSumAmong v_this_listed v_this_size v_this_sums x1 post) : Met l y_SetList_greatestSumAmong w_SetList_greatestSumAmong ({ frames := 1, cells := 0, slots := 0, locals := 21 } : Room) (va_Pc [.ref q_this, .int x1] (pcR dC dI cI cJ cG cZ ([(q_this, .inr (4, [.ref q_this_herd, .ref q_this_trial, .ref q_this_listed, .ref q_this_sums, .int v_this_size, .int v_this_pairs])), (q_this_listed, .inl (cI, 400, .inl v_this_listed)), (q_this_sums, .inl (cI, 400, .inl v_this_sums))]))) (vp_Si (fun r => post r)) 0 0 (fun _ => False) := by
  refine Met.ofW (cc := b_SetList_greatestSumAmong) (maxL := 4) (ret := (some .int)) (by decide) rfl ?_
  intro p e s m args below meth c s₁ B hml hv
  obtain ⟨rfl, hP, hK, hN⟩ := hv
  have hx := B.exec
  have hb := B.bytes
  have hr := B.returns
  have hts := atoms_spec (ws := w_SetList_greatestSumAmong) B.pre
  have hown : s.vm.findClass "PairChoice$SetList" = some m.cls := findClass_of_methodNamed B.named
  have hlocks := B.notSynchronized
  have hl := lv_entry ([.ref q_this, .int x1]) (n := 4) (Nat.le_of_ble_eq_true rfl)
  rw [lg_entry_eq]
  generalize (lg_sl ([.ref q_this, .int x1]) ++ List.replicate (4 - (lg_sl ([.ref q_this, .int x1])).length) Slot.unset).toArray = ls at hl ⊢
  have hl : lv_has ls 4 [(0, .ref q_this), (1, .int x1)] := hl
  unfold wp_SetList_greatestSumAmong at h
  refine lv_ldc (v := (-100000000)) hx hb hown (hts _ (List.mem_cons_of_mem _ kw_346)) d_SetList_greatestSumAmong_0 ?_
  refine lv_istore_n (lv' := [(2, .int (-100000000)), (0, .ref q_this), (1, .int x1)]) hx hb d_SetList_greatestSumAmong_2 rfl hl (by decide) rfl (fun ls hl => ?_)
  refine lv_iconst (v := 0) hx hb d_SetList_greatestSumAmong_3 (by decide) ?_
  refine lv_istore_n (lv' := [(3, .int 0), (2, .int (-100000000)), (0, .ref q_this), (1, .int x1)]) hx hb d_SetList_greatestSumAmong_4 rfl hl (by decide) rfl (fun ls hl => ?_)
  obtain ⟨nn, h⟩ := h
  have lp5 : ∀ (n5 : Nat) (x2_5 : Int32) (x3_5 : Int32) (ls : Array Slot), wp_SetList_greatestSumAmong_L5 v_this_listed v_this_size v_this_sums x1 post n5 x2_5 x3_5 → lv_has ls 4 [(3, .int x3_5), (2, .int x2_5), (0, .ref q_this), (1, .int x1)] → W p l e (headSpec w_SetList_greatestSumAmong ({ frames := 1, cells := 0, slots := 0, locals := 21 } : Room)).room s m ([.ref q_this, .int x1] : List Value).toArray below meth c s.heap [] 0 0 (MQ below (vp_Si (fun r => post r)) ([.ref q_this, .int x1] : List Value).toArray s 0 0 (fun _ => False)) (F0 m 5 ls []) := by
    intro n5
    induction n5 with
    | zero =>
      intro x2_5 x3_5 ls h
      rw [wp_SetList_greatestSumAmong_L5] at h
      exact h.elim
    | succ n5 ih5 =>
      intro x2_5 x3_5 ls h hl
      rw [wp_SetList_greatestSumAmong_L5] at h
      refine lv_iload_n hx hb d_SetList_greatestSumAmong_5 rfl (lv_at hl 0 rfl) ?_
      refine lv_aload_n hx hb d_SetList_greatestSumAmong_6 rfl (lv_at hl 2 rfl) ?_
      refine va_get (D := (dC, dI)) (ci := 4) (v := .int v_this_size) (C := "PairChoice$SetList") (T := F_SetList) (N := 6) hx hb hts (fun w h => List.mem_cons_of_mem _ (i_SetList w h)) hown hK hP 0 rfl rfl 4 (by decide) (hts _ (List.mem_cons_of_mem _ kw_135)) (fun _ h9 => h9) rfl d_SetList_greatestSumAmong_7 ?_
      refine lv_icmp_ge (tgt := 43) hx hb d_SetList_greatestSumAmong_10 (by decide) (fun c1 => ?_) (fun c1 => ?_)
      · have h := h.1 c1
        refine lv_iload_n hx hb d_SetList_greatestSumAmong_43 rfl (lv_at hl 1 rfl) ?_
        exact W.iret hx hb hr (fun t ht hW => ⟨_, rfl, h, ht⟩) (fun _ h9 => by cases h9) d_SetList_greatestSumAmong_44
      · have h := h.2 c1
        refine lv_aload_n hx hb d_SetList_greatestSumAmong_13 rfl (lv_at hl 2 rfl) ?_
        refine va_get (D := (dC, dI)) (ci := 4) (v := .ref q_this_listed) (C := "PairChoice$SetList") (T := F_SetList) (N := 6) hx hb hts (fun w h => List.mem_cons_of_mem _ (i_SetList w h)) hown hK hP 0 rfl rfl 2 (by decide) (hts _ (List.mem_cons_of_mem _ kw_133)) (fun _ h9 => h9) rfl d_SetList_greatestSumAmong_14 ?_
        refine lv_iload_n hx hb d_SetList_greatestSumAmong_17 rfl (lv_at hl 0 rfl) ?_
        obtain ⟨i2, h⟩ := h
        refine va_iald hx hb hK hP 1 0 rfl rfl i2 d_SetList_greatestSumAmong_18 ?_
        refine lv_iload_n hx hb d_SetList_greatestSumAmong_19 rfl (lv_at hl 3 rfl) ?_
        refine lv_iconst (v := (-1)) hx hb d_SetList_greatestSumAmong_20 (by decide) ?_
        refine lv_ixor hx hb d_SetList_greatestSumAmong_21 ?_
        refine lv_iand hx hb d_SetList_greatestSumAmong_22 ?_
        refine lv_if_ne (tgt := 37) hx hb d_SetList_greatestSumAmong_23 (by decide) (fun c3 => ?_) (fun c3 => ?_)
        · have h := h.1 c3
          refine lv_iinc (v := (x3_5 + 1)) (lv' := [(3, .int (x3_5 + 1)), (2, .int x2_5), (0, .ref q_this), (1, .int x1)]) hx hb d_SetList_greatestSumAmong_37 hl (k := 0) rfl rfl (by decide) rfl (fun ls hl => ?_)
          refine lv_goto (tgt := 5) hx hb d_SetList_greatestSumAmong_40 (by decide) ?_
          exact ih5 x2_5 (x3_5 + 1) ls h (lv_sub hl [0, 1, 2, 3] rfl)
        · have h := h.2 c3
          refine lv_iload_n hx hb d_SetList_greatestSumAmong_26 rfl (lv_at hl 1 rfl) ?_
          refine lv_aload_n hx hb d_SetList_greatestSumAmong_27 rfl (lv_at hl 2 rfl) ?_
          refine va_get (D := (dC, dI)) (ci := 4) (v := .ref q_this_sums) (C := "PairChoice$SetList") (T := F_SetList) (N := 6) hx hb hts (fun w h => List.mem_cons_of_mem _ (i_SetList w h)) hown hK hP 0 rfl rfl 3 (by decide) (hts _ (List.mem_cons_of_mem _ kw_134)) (fun _ h9 => h9) rfl d_SetList_greatestSumAmong_28 ?_
          refine lv_iload_n hx hb d_SetList_greatestSumAmong_31 rfl (lv_at hl 0 rfl) ?_
          obtain ⟨i4, h⟩ := h
          refine va_iald hx hb hK hP 2 0 rfl rfl i4 d_SetList_greatestSumAmong_32 ?_
          refine va_mmax hx hb (by rw [hml]; exact hl.1.symm) hown (hts _ (List.mem_cons_of_mem _ kw_423)) (hts _ (List.mem_cons_of_mem _ kw_424)) (hts _ (List.mem_cons_of_mem _ kw_47)) (hts _ (List.mem_cons_of_mem _ kw_425)) (Nat.le_of_ble_eq_true rfl) (Nat.le_of_ble_eq_true rfl) (Nat.zero_le _) (Nat.zero_le _) d_SetList_greatestSumAmong_33 ?_
          refine lv_istore_n (lv' := [(2, .int (if x2_5 < (v_this_sums x3_5.toNatClampNeg) then (v_this_sums x3_5.toNatClampNeg) else x2_5)), (3, .int x3_5), (0, .ref q_this), (1, .int x1)]) hx hb d_SetList_greatestSumAmong_36 rfl hl (by decide) rfl (fun ls hl => ?_)
          refine lv_iinc (v := (x3_5 + 1)) (lv' := [(3, .int (x3_5 + 1)), (2, .int (if x2_5 < (v_this_sums x3_5.toNatClampNeg) then (v_this_sums x3_5.toNatClampNeg) else x2_5)), (0, .ref q_this), (1, .int x1)]) hx hb d_SetList_greatestSumAmong_37 hl (k := 1) rfl rfl (by decide) rfl (fun ls hl => ?_)
          refine lv_goto (tgt := 5) hx hb d_SetList_greatestSumAmong_40 (by decide) ?_
          exact ih5 (if x2_5 < (v_this_sums x3_5.toNatClampNeg) then (v_this_sums x3_5.toNatClampNeg) else x2_5) (x3_5 + 1) ls h (lv_sub hl [0, 1, 2, 3] rfl)
  exact lp5 nn (-100000000) (0) ls h hl
set_option maxHeartbeats 4000000 in
set_option maxRecDepth 100000 in
theorem c_PairChoice_eggsOf (l : Launch) (dC : Nat → ClassId) (dI : Nat → Nat → Nat) (cI cJ cG cZ : ClassId) (q_this q_this_choice q_this_choice_eggShares q_this_choice_pairing q_this_choice_rests q_this_herd q_this_outlook q_this_sets : Nat) (v_this_choice_eggShares : (Nat → Int32)) (v_this_choice_pairs : Int32) (v_this_choice_set : Int32) (v_this_choice_setsThatMayBe : Int32) (x1 : Int32) (post : Int32 → Prop) (h : wp_PairChoice_eggsOf v_this_choice_eggShares v_this_choice_pairs x1 post) : Met l y_PairChoice_eggsOf w_PairChoice_eggsOf ({ frames := 1, cells := 0, slots := 0, locals := 21 } : Room) (va_Pc [.ref q_this, .int x1] (pcR dC dI cI cJ cG cZ ([(q_this, .inr (5, [.ref q_this_herd, .ref q_this_sets, .ref q_this_choice, .ref q_this_outlook])), (q_this_choice, .inr (0, [.ref q_this_herd, .ref q_this_choice_pairing, .int v_this_choice_pairs, .int v_this_choice_set, .int v_this_choice_setsThatMayBe, .ref q_this_choice_eggShares, .ref q_this_choice_rests])), (q_this_choice_eggShares, .inl (cI, 6, .inl v_this_choice_eggShares))]))) (vp_Si (fun r => post r)) 0 0 (fun _ => False) := by
  refine Met.ofW (cc := b_PairChoice_eggsOf) (maxL := 2) (ret := (some .int)) (by decide) rfl ?_
  intro p e s m args below meth c s₁ B hml hv
  obtain ⟨rfl, hP, hK, hN⟩ := hv
  have hx := B.exec
  have hb := B.bytes
  have hr := B.returns
  have hts := atoms_spec (ws := w_PairChoice_eggsOf) B.pre
  have hown : s.vm.findClass "PairChoice" = some m.cls := findClass_of_methodNamed B.named
  have hlocks := B.notSynchronized
  have hl := lv_entry ([.ref q_this, .int x1]) (n := 2) (Nat.le_of_ble_eq_true rfl)
  rw [lg_entry_eq]
  generalize (lg_sl ([.ref q_this, .int x1]) ++ List.replicate (2 - (lg_sl ([.ref q_this, .int x1])).length) Slot.unset).toArray = ls at hl ⊢
  have hl : lv_has ls 2 [(0, .ref q_this), (1, .int x1)] := hl
  unfold wp_PairChoice_eggsOf at h
  refine lv_aload_n hx hb d_PairChoice_eggsOf_0 rfl (lv_at hl 0 rfl) ?_
  refine va_get (D := (dC, dI)) (ci := 5) (v := .ref q_this_choice) (C := "PairChoice") (T := F_PairChoice) (N := 4) hx hb hts (fun w h => List.mem_cons_of_mem _ (i_PairChoice w h)) hown hK hP 0 rfl rfl 2 (by decide) (hts _ (List.mem_cons_of_mem _ kw_208)) (fun _ h9 => h9) rfl d_PairChoice_eggsOf_1 ?_
  refine lv_iload_n hx hb d_PairChoice_eggsOf_4 rfl (lv_at hl 1 rfl) ?_
  have hPc := hP.sub (ws' := [(q_this_choice, .inr (0, [.ref q_this_herd, .ref q_this_choice_pairing, .int v_this_choice_pairs, .int v_this_choice_set, .int v_this_choice_setsThatMayBe, .ref q_this_choice_eggShares, .ref q_this_choice_rests]))]) [1] rfl
  refine vp_callSi (va_Run.run (va_runVN (As := [.int x1]) (rest := []) ⟨hx, hb, hml, hown, hts⟩ (c_Choice_hasPair l dC dI cI cJ cG cZ  q_this_choice q_this_choice_eggShares q_this_herd q_this_choice_pairing q_this_choice_rests  v_this_choice_pairs v_this_choice_set v_this_choice_setsThatMayBe (x1 : Int32) _ h) ⟨va_cnB 1 hts (gcB kw_362) rfl rfl rfl (nw_359 hN) (hts _ (List.mem_cons_of_mem _ kw_43)) (by decide +kernel) ⟨Nat.le_of_ble_eq_true rfl, Nat.le_of_ble_eq_true rfl⟩, (hts _ (List.mem_cons_of_mem _ kw_361)), (hts _ (List.mem_cons_of_mem _ kw_17))⟩ ⟨fb_r, va_recv hK hPc (ci := 0) (q0 := 0) rfl rfl, pre_r hPc hK hN⟩ rfl rfl hl.1 rfl (lv_room (Nat.le_of_ble_eq_true rfl)) d_PairChoice_eggsOf_5 ⟨Nat.zero_le _, Nat.zero_le _⟩)) (fun r1 h => ?_)
  obtain ⟨br1, h⟩ := h
  refine lv_if_eq (tgt := 23) hx hb d_PairChoice_eggsOf_8 (by decide) (fun c2 => ?_) (fun c2 => ?_)
  · have h := h.1 c2
    refine lv_iconst (v := (-1)) hx hb d_PairChoice_eggsOf_23 (by decide) ?_
    exact W.iret hx hb hr (fun t ht hW => ⟨_, rfl, h, ht⟩) (fun _ h9 => by cases h9) d_PairChoice_eggsOf_24
  · have h := h.2 c2
    refine lv_aload_n hx hb d_PairChoice_eggsOf_11 rfl (lv_at hl 0 rfl) ?_
    refine va_get (D := (dC, dI)) (ci := 5) (v := .ref q_this_choice) (C := "PairChoice") (T := F_PairChoice) (N := 4) hx hb hts (fun w h => List.mem_cons_of_mem _ (i_PairChoice w h)) hown hK hP 0 rfl rfl 2 (by decide) (hts _ (List.mem_cons_of_mem _ kw_208)) (fun _ h9 => h9) rfl d_PairChoice_eggsOf_12 ?_
    refine va_getN (D := (dC, dI)) (ci := 0) (v := .ref q_this_choice_eggShares) (C := "PairChoice$Choice") (T := F_Choice) (N := 7) hx hb hts (fun w h => List.mem_cons_of_mem _ (i_Choice w h)) hown hK hP 1 rfl rfl 5 (by decide) (va_Nw.use rfl (nw_169 hN)) (fun _ h9 => h9) rfl d_PairChoice_eggsOf_15 ?_
    refine lv_iload_n hx hb d_PairChoice_eggsOf_18 rfl (lv_at hl 1 rfl) ?_
    obtain ⟨i3, h⟩ := h
    refine va_iald hx hb hK hP 2 0 rfl rfl i3 d_PairChoice_eggsOf_19 ?_
    refine lv_goto (tgt := 24) hx hb d_PairChoice_eggsOf_20 (by decide) ?_
    exact W.iret hx hb hr (fun t ht hW => ⟨_, rfl, h, ht⟩) (fun _ h9 => by cases h9) d_PairChoice_eggsOf_24
def at_PairChoice_forgetFindings (dC : Nat → ClassId) (dI : Nat → Nat → Nat) (cI cJ cG cZ : ClassId) (q_this q_this_choice q_this_choice_eggShares q_this_choice_pairing q_this_choice_rests q_this_herd q_this_outlook q_this_sets q_this_sets_listed q_this_sets_sums q_this_sets_trial : Nat) (A : Nat → Prop) (v_this_choice_set : Int32) (v_this_choice_setsThatMayBe : Int32) (v_this_sets_size : Int32) (u : Int32 × Int32) (t : State) : Prop := va_P (dC, dI) vCl ([(q_this, .inr (5, [.ref q_this_herd, .ref q_this_sets, .ref q_this_choice, .ref q_this_outlook])), (q_this_choice, .inr (0, [.ref q_this_herd, .ref q_this_choice_pairing, .int u.1, .int v_this_choice_set, .int v_this_choice_setsThatMayBe, .ref q_this_choice_eggShares, .ref q_this_choice_rests])), (q_this_sets, .inr (4, [.ref q_this_herd, .ref q_this_sets_trial, .ref q_this_sets_listed, .ref q_this_sets_sums, .int v_this_sets_size, .int u.2]))]) t.heap ∧ va_D A ([(q_this, .inr (5, [.ref q_this_herd, .ref q_this_sets, .ref q_this_choice, .ref q_this_outlook])), (q_this_choice, .inr (0, [.ref q_this_herd, .ref q_this_choice_pairing, .int u.1, .int v_this_choice_set, .int v_this_choice_setsThatMayBe, .ref q_this_choice_eggShares, .ref q_this_choice_rests])), (q_this_sets, .inr (4, [.ref q_this_herd, .ref q_this_sets_trial, .ref q_this_sets_listed, .ref q_this_sets_sums, .int v_this_sets_size, .int u.2]))])
set_option maxHeartbeats 4000000 in
set_option maxRecDepth 100000 in
theorem c_PairChoice_forgetFindings (l : Launch) (dC : Nat → ClassId) (dI : Nat → Nat → Nat) (cI cJ cG cZ : ClassId) (q_this q_this_choice q_this_choice_eggShares q_this_choice_pairing q_this_choice_rests q_this_herd q_this_outlook q_this_sets q_this_sets_listed q_this_sets_sums q_this_sets_trial : Nat) (sz : Nat) (v_this_choice_pairs : Int32) (v_this_choice_set : Int32) (v_this_choice_setsThatMayBe : Int32) (v_this_sets_pairs : Int32) (v_this_sets_size : Int32)  (post : Int32 → Int32 → Prop) (h : wp_PairChoice_forgetFindings v_this_choice_pairs v_this_sets_pairs post) : Met l y_PairChoice_forgetFindings w_PairChoice_forgetFindings ({ frames := 1, cells := 0, slots := 0, locals := 20 } : Room) (va_Pc [.ref q_this] (pcW dC dI cI cJ cG cZ sz ([(q_this, .inr (5, [.ref q_this_herd, .ref q_this_sets, .ref q_this_choice, .ref q_this_outlook])), (q_this_choice, .inr (0, [.ref q_this_herd, .ref q_this_choice_pairing, .int v_this_choice_pairs, .int v_this_choice_set, .int v_this_choice_setsThatMayBe, .ref q_this_choice_eggShares, .ref q_this_choice_rests])), (q_this_sets, .inr (4, [.ref q_this_herd, .ref q_this_sets_trial, .ref q_this_sets_listed, .ref q_this_sets_sums, .int v_this_sets_size, .int v_this_sets_pairs]))]))) (va_Qv (fun (u : Int32 × Int32) => post u.1 u.2) (fun (u : Int32 × Int32) (t : State) => at_PairChoice_forgetFindings dC dI cI cJ cG cZ q_this q_this_choice q_this_choice_eggShares q_this_choice_pairing q_this_choice_rests q_this_herd q_this_outlook q_this_sets q_this_sets_listed q_this_sets_sums q_this_sets_trial (va_A ([(q_this, .inr (5, [.ref q_this_herd, .ref q_this_sets, .ref q_this_choice, .ref q_this_outlook])), (q_this_choice, .inr (0, [.ref q_this_herd, .ref q_this_choice_pairing, .int v_this_choice_pairs, .int v_this_choice_set, .int v_this_choice_setsThatMayBe, .ref q_this_choice_eggShares, .ref q_this_choice_rests])), (q_this_sets, .inr (4, [.ref q_this_herd, .ref q_this_sets_trial, .ref q_this_sets_listed, .ref q_this_sets_sums, .int v_this_sets_size, .int v_this_sets_pairs]))]) sz) v_this_choice_set v_this_choice_setsThatMayBe v_this_sets_size u t) (va_A ([(q_this, .inr (5, [.ref q_this_herd, .ref q_this_sets, .ref q_this_choice, .ref q_this_outlook])), (q_this_choice, .inr (0, [.ref q_this_herd, .ref q_this_choice_pairing, .int v_this_choice_pairs, .int v_this_choice_set, .int v_this_choice_setsThatMayBe, .ref q_this_choice_eggShares, .ref q_this_choice_rests])), (q_this_sets, .inr (4, [.ref q_this_herd, .ref q_this_sets_trial, .ref q_this_sets_listed, .ref q_this_sets_sums, .int v_this_sets_size, .int v_this_sets_pairs]))]) sz)) 0 0 (va_A ([(q_this, .inr (5, [.ref q_this_herd, .ref q_this_sets, .ref q_this_choice, .ref q_this_outlook])), (q_this_choice, .inr (0, [.ref q_this_herd, .ref q_this_choice_pairing, .int v_this_choice_pairs, .int v_this_choice_set, .int v_this_choice_setsThatMayBe, .ref q_this_choice_eggShares, .ref q_this_choice_rests])), (q_this_sets, .inr (4, [.ref q_this_herd, .ref q_this_sets_trial, .ref q_this_sets_listed, .ref q_this_sets_sums, .int v_this_sets_size, .int v_this_sets_pairs]))]) sz) := by
  refine Met.ofW (cc := b_PairChoice_forgetFindings) (maxL := 1) (ret := none) (by decide) rfl ?_
  intro p e s m args below meth c s₁ B hml hv
  obtain ⟨rfl, hsz, hP, hK, hN, hD0⟩ := hv
  have hx := B.exec
  have hb := B.bytes
  have hr := B.returns
  have hts := atoms_spec (ws := w_PairChoice_forgetFindings) B.pre
  have hown : s.vm.findClass "PairChoice" = some m.cls := findClass_of_methodNamed B.named
  have hlocks := B.notSynchronized
  subst hsz
  have hD := hD0.self (sz := s.heap.size)
  generalize hAe : va_A ([(q_this, .inr (5, [.ref q_this_herd, .ref q_this_sets, .ref q_this_choice, .ref q_this_outlook])), (q_this_choice, .inr (0, [.ref q_this_herd, .ref q_this_choice_pairing, .int v_this_choice_pairs, .int v_this_choice_set, .int v_this_choice_setsThatMayBe, .ref q_this_choice_eggShares, .ref q_this_choice_rests])), (q_this_sets, .inr (4, [.ref q_this_herd, .ref q_this_sets_trial, .ref q_this_sets_listed, .ref q_this_sets_sums, .int v_this_sets_size, .int v_this_sets_pairs]))]) s.heap.size = A at hD ⊢
  have hA : ∀ q : Nat, s.heap.size ≤ q → A q := fun q h => by rw [← hAe]; exact Or.inr h
  have hS : va_S A s.heap s.heap [] := va_S.rf
  have hl := lv_entry ([.ref q_this]) (n := 1) (Nat.le_of_ble_eq_true rfl)
  rw [lg_entry_eq]
  generalize (lg_sl ([.ref q_this]) ++ List.replicate (1 - (lg_sl ([.ref q_this])).length) Slot.unset).toArray = ls at hl ⊢
  have hl : lv_has ls 1 [(0, .ref q_this)] := hl
  unfold wp_PairChoice_forgetFindings at h
  refine lv_aload_n hx hb d_PairChoice_forgetFindings_0 rfl (lv_at hl 0 rfl) ?_
  refine va_get (D := (dC, dI)) (ci := 5) (v := .ref q_this_choice) (C := "PairChoice") (T := F_PairChoice) (N := 4) hx hb hts (fun w h => List.mem_cons_of_mem _ (i_PairChoice w h)) hown hK hP 0 rfl rfl 2 (by decide) (hts _ (List.mem_cons_of_mem _ kw_208)) (fun _ h9 => h9) rfl d_PairChoice_forgetFindings_1 ?_
  have hPc := hP.sub (ws' := [(q_this_choice, .inr (0, [.ref q_this_herd, .ref q_this_choice_pairing, .int v_this_choice_pairs, .int v_this_choice_set, .int v_this_choice_setsThatMayBe, .ref q_this_choice_eggShares, .ref q_this_choice_rests]))]) [1] rfl
  have hDc := hD.sub (ws' := [(q_this_choice, .inr (0, [.ref q_this_herd, .ref q_this_choice_pairing, .int v_this_choice_pairs, .int v_this_choice_set, .int v_this_choice_setsThatMayBe, .ref q_this_choice_eggShares, .ref q_this_choice_rests]))]) [1] (by decide) rfl
  have hFc := va_free (wc := [(q_this_choice, .inr (0, [.ref q_this_herd, .ref q_this_choice_pairing, .int v_this_choice_pairs, .int v_this_choice_set, .int v_this_choice_setsThatMayBe, .ref q_this_choice_eggShares, .ref q_this_choice_rests]))]) hD hS hA [1] rfl
  refine va_callv (va_runVN (As := []) (rest := []) ⟨hx, hb, hml, hown, hts⟩ (c_Choice_drop l dC dI cI cJ cG cZ  q_this_choice q_this_choice_eggShares q_this_herd q_this_choice_pairing q_this_choice_rests s.heap.size v_this_choice_pairs v_this_choice_set v_this_choice_setsThatMayBe  _ h) ⟨va_cnB 0 hts (gcB kw_236) rfl rfl rfl (nw_233 hN) (hts _ (List.mem_cons_of_mem _ kw_43)) (by decide +kernel) ⟨Nat.le_of_ble_eq_true rfl, Nat.le_of_ble_eq_true rfl⟩, (hts _ (List.mem_cons_of_mem _ kw_235)), (hts _ (List.mem_cons_of_mem _ kw_1))⟩ ⟨fb_w, va_recv hK hPc (ci := 0) (q0 := 0) rfl rfl, pre_w hPc hK hN hDc⟩ rfl rfl hl.1 rfl (lv_room (Nat.le_of_ble_eq_true rfl)) d_PairChoice_forgetFindings_4 ⟨Nat.zero_le _, Nat.zero_le _⟩) hS (fun q _ h => hFc q h) hFc (fun u t H1 locs ht hvm h hB hz1 hk1 hS => ?_)
  obtain ⟨v1, rfl⟩ : ∃ z, z = u := ⟨_, rfl⟩
  obtain ⟨hP1, hD1⟩ := hB
  rw [ht] at hP1
  obtain ⟨hP, hD⟩ := va_join (wr := [(q_this, .inr (5, [.ref q_this_herd, .ref q_this_sets, .ref q_this_choice, .ref q_this_outlook])), (q_this_sets, .inr (4, [.ref q_this_herd, .ref q_this_sets_trial, .ref q_this_sets_listed, .ref q_this_sets_sums, .int v_this_sets_size, .int v_this_sets_pairs]))]) (w1 := [(q_this_choice, .inr (0, [.ref q_this_herd, .ref q_this_choice_pairing, .int v1, .int v_this_choice_set, .int v_this_choice_setsThatMayBe, .ref q_this_choice_eggShares, .ref q_this_choice_rests]))]) hP hD [1] [0, 2] rfl rfl (by decide) (by decide) hk1 hFc hP1 hD1
  generalize H1 = H at hP hS ⊢
  have hP : va_P (dC, dI) vCl ([(q_this, .inr (5, [.ref q_this_herd, .ref q_this_sets, .ref q_this_choice, .ref q_this_outlook])), (q_this_choice, .inr (0, [.ref q_this_herd, .ref q_this_choice_pairing, .int v1, .int v_this_choice_set, .int v_this_choice_setsThatMayBe, .ref q_this_choice_eggShares, .ref q_this_choice_rests])), (q_this_sets, .inr (4, [.ref q_this_herd, .ref q_this_sets_trial, .ref q_this_sets_listed, .ref q_this_sets_sums, .int v_this_sets_size, .int v_this_sets_pairs]))]) H := hP.sub [0, 2, 1] rfl
  have hD : va_D A ([(q_this, .inr (5, [.ref q_this_herd, .ref q_this_sets, .ref q_this_choice, .ref q_this_outlook])), (q_this_choice, .inr (0, [.ref q_this_herd, .ref q_this_choice_pairing, .int v1, .int v_this_choice_set, .int v_this_choice_setsThatMayBe, .ref q_this_choice_eggShares, .ref q_this_choice_rests])), (q_this_sets, .inr (4, [.ref q_this_herd, .ref q_this_sets_trial, .ref q_this_sets_listed, .ref q_this_sets_sums, .int v_this_sets_size, .int v_this_sets_pairs]))]) := hD.sub [0, 2, 1] (by decide) rfl
  refine lv_aload_n hx hb d_PairChoice_forgetFindings_7 rfl (lv_at hl 0 rfl) ?_
  refine va_get (D := (dC, dI)) (ci := 5) (v := .ref q_this_sets) (C := "PairChoice") (T := F_PairChoice) (N := 4) hx hb hts (fun w h => List.mem_cons_of_mem _ (i_PairChoice w h)) hown hK hP 0 rfl rfl 1 (by decide) (hts _ (List.mem_cons_of_mem _ kw_207)) (fun _ h9 => h9) rfl d_PairChoice_forgetFindings_8 ?_
  have hPc := hP.sub (ws' := [(q_this_sets, .inr (4, [.ref q_this_herd, .ref q_this_sets_trial, .ref q_this_sets_listed, .ref q_this_sets_sums, .int v_this_sets_size, .int v_this_sets_pairs]))]) [2] rfl
  have hDc := hD.sub (ws' := [(q_this_sets, .inr (4, [.ref q_this_herd, .ref q_this_sets_trial, .ref q_this_sets_listed, .ref q_this_sets_sums, .int v_this_sets_size, .int v_this_sets_pairs]))]) [2] (by decide) rfl
  have hFc := va_free (wc := [(q_this_sets, .inr (4, [.ref q_this_herd, .ref q_this_sets_trial, .ref q_this_sets_listed, .ref q_this_sets_sums, .int v_this_sets_size, .int v_this_sets_pairs]))]) hD hS hA [2] rfl
  refine va_callv (va_runVN (As := []) (rest := []) ⟨hx, hb, hml, hown, hts⟩ (c_SetList_forget l dC dI cI cJ cG cZ  q_this_sets q_this_herd q_this_sets_listed q_this_sets_sums q_this_sets_trial H.size v_this_sets_pairs v_this_sets_size  _ h) ⟨va_cnB 0 hts (gcB kw_240) rfl rfl rfl (nw_237 hN) (hts _ (List.mem_cons_of_mem _ kw_41)) (by decide +kernel) ⟨Nat.le_of_ble_eq_true rfl, Nat.le_of_ble_eq_true rfl⟩, (hts _ (List.mem_cons_of_mem _ kw_239)), (hts _ (List.mem_cons_of_mem _ kw_2))⟩ ⟨fb_w, va_recv hK hPc (ci := 4) (q0 := 0) rfl rfl, pre_w hPc hK hN hDc⟩ rfl rfl hl.1 rfl (lv_room (Nat.le_of_ble_eq_true rfl)) d_PairChoice_forgetFindings_11 ⟨Nat.zero_le _, Nat.zero_le _⟩) hS (fun q _ h => hFc q h) hFc (fun u t H1 locs ht hvm h hB hz1 hk1 hS => ?_)
  obtain ⟨v2, rfl⟩ : ∃ z, z = u := ⟨_, rfl⟩
  obtain ⟨hP1, hD1⟩ := hB
  rw [ht] at hP1
  obtain ⟨hP, hD⟩ := va_join (wr := [(q_this, .inr (5, [.ref q_this_herd, .ref q_this_sets, .ref q_this_choice, .ref q_this_outlook])), (q_this_choice, .inr (0, [.ref q_this_herd, .ref q_this_choice_pairing, .int v1, .int v_this_choice_set, .int v_this_choice_setsThatMayBe, .ref q_this_choice_eggShares, .ref q_this_choice_rests]))]) (w1 := [(q_this_sets, .inr (4, [.ref q_this_herd, .ref q_this_sets_trial, .ref q_this_sets_listed, .ref q_this_sets_sums, .int v_this_sets_size, .int v2]))]) hP hD [2] [0, 1] rfl rfl (by decide) (by decide) hk1 hFc hP1 hD1
  generalize H1 = H at hP hS ⊢
  have hP : va_P (dC, dI) vCl ([(q_this, .inr (5, [.ref q_this_herd, .ref q_this_sets, .ref q_this_choice, .ref q_this_outlook])), (q_this_choice, .inr (0, [.ref q_this_herd, .ref q_this_choice_pairing, .int v1, .int v_this_choice_set, .int v_this_choice_setsThatMayBe, .ref q_this_choice_eggShares, .ref q_this_choice_rests])), (q_this_sets, .inr (4, [.ref q_this_herd, .ref q_this_sets_trial, .ref q_this_sets_listed, .ref q_this_sets_sums, .int v_this_sets_size, .int v2]))]) H := hP.sub [0, 1, 2] rfl
  have hD : va_D A ([(q_this, .inr (5, [.ref q_this_herd, .ref q_this_sets, .ref q_this_choice, .ref q_this_outlook])), (q_this_choice, .inr (0, [.ref q_this_herd, .ref q_this_choice_pairing, .int v1, .int v_this_choice_set, .int v_this_choice_setsThatMayBe, .ref q_this_choice_eggShares, .ref q_this_choice_rests])), (q_this_sets, .inr (4, [.ref q_this_herd, .ref q_this_sets_trial, .ref q_this_sets_listed, .ref q_this_sets_sums, .int v_this_sets_size, .int v2]))]) := hD.sub [0, 1, 2] (by decide) rfl
  exact W.vret hx hb hr (fun t ht hW => ⟨⟨(v1, v2), rfl, h, ⟨by rw [ht]; exact hP, hD⟩⟩, hS.F ht⟩) hS.2.2 d_PairChoice_forgetFindings_14
set_option maxHeartbeats 4000000 in
set_option maxRecDepth 100000 in
theorem c_PairChoice_fate (l : Launch) (dC : Nat → ClassId) (dI : Nat → Nat → Nat) (cI cJ cG cZ : ClassId)  (x0 : Int64) (post : Int64 → Prop) (h : wp_PairChoice_fate x0 post) : Met l y_PairChoice_fate w_PairChoice_fate ({ frames := 0, cells := 0, slots := 0, locals := 0 } : Room) (va_Pc [.long x0] (pcS dC dI cI cJ cG cZ)) (vp_Sl (fun r => post r)) 0 0 (fun _ => False) := by
  refine Met.ofW (cc := b_PairChoice_fate) (maxL := 4) (ret := (some .long)) (by decide) rfl ?_
  intro p e s m args below meth c s₁ B hml hv
  obtain ⟨rfl, hK, hN⟩ := hv
  have hx := B.exec
  have hb := B.bytes
  have hr := B.returns
  have hts := atoms_spec (ws := w_PairChoice_fate) B.pre
  have hown : s.vm.findClass "PairChoice" = some m.cls := findClass_of_methodNamed B.named
  have hlocks := B.notSynchronized
  have hl := lv_entry ([.long x0]) (n := 4) (Nat.le_of_ble_eq_true rfl)
  rw [lg_entry_eq]
  generalize (lg_sl ([.long x0]) ++ List.replicate (4 - (lg_sl ([.long x0])).length) Slot.unset).toArray = ls at hl ⊢
  have hl : lv_has ls 4 [(0, .long x0)] := hl
  unfold wp_PairChoice_fate at h
  refine lv_lload_n hx hb d_PairChoice_fate_0 rfl (lv_at hl 0 rfl) ?_
  refine lv_ldc2 (v := (-7046029254386353131)) hx hb hown (hts _ (List.mem_cons_of_mem _ kw_438)) d_PairChoice_fate_1 ?_
  refine lv_lmul hx hb d_PairChoice_fate_4 ?_
  refine lv_lstore_n (lv' := [(2, .long (x0 * (-7046029254386353131 : Int64))), (0, .long x0)]) hx hb d_PairChoice_fate_5 rfl hl (by decide) rfl (fun ls hl => ?_)
  refine lv_lload_n hx hb d_PairChoice_fate_6 rfl (lv_at hl 0 rfl) ?_
  refine lv_lload_n hx hb d_PairChoice_fate_7 rfl (lv_at hl 0 rfl) ?_
  refine lv_bipush (v := 29) hx hb d_PairChoice_fate_8 (by decide) ?_
  refine lv_lushr (v := ((x0 * (-7046029254386353131 : Int64)).toUInt64 >>> ((29 : Int32).toInt64.toUInt64 &&& Int64.toUInt64 63)).toInt64) hx hb d_PairChoice_fate_10 rfl ?_
  refine lv_lxor hx hb d_PairChoice_fate_11 ?_
  refine lv_ldc2 (v := (-4658895280553007687)) hx hb hown (hts _ (List.mem_cons_of_mem _ kw_439)) d_PairChoice_fate_12 ?_
  refine lv_lmul hx hb d_PairChoice_fate_15 ?_
  refine lv_lstore_n (lv' := [(2, .long (((x0 * (-7046029254386353131 : Int64)) ^^^ (((x0 * (-7046029254386353131 : Int64)).toUInt64 >>> ((29 : Int32).toInt64.toUInt64 &&& Int64.toUInt64 63)).toInt64)) * (-4658895280553007687 : Int64))), (0, .long x0)]) hx hb d_PairChoice_fate_16 rfl hl (by decide) rfl (fun ls hl => ?_)
  refine lv_lload_n hx hb d_PairChoice_fate_17 rfl (lv_at hl 0 rfl) ?_
  refine lv_bipush (v := 33) hx hb d_PairChoice_fate_18 (by decide) ?_
  refine lv_lushr (v := ((((x0 * (-7046029254386353131 : Int64)) ^^^ (((x0 * (-7046029254386353131 : Int64)).toUInt64 >>> ((29 : Int32).toInt64.toUInt64 &&& Int64.toUInt64 63)).toInt64)) * (-4658895280553007687 : Int64)).toUInt64 >>> ((33 : Int32).toInt64.toUInt64 &&& Int64.toUInt64 63)).toInt64) hx hb d_PairChoice_fate_20 rfl ?_
  refine lv_ldc2 (v := 1000) hx hb hown (hts _ (List.mem_cons_of_mem _ kw_440)) d_PairChoice_fate_21 ?_
  obtain ⟨z1, h⟩ := h
  refine lv_lrem hx hb d_PairChoice_fate_24 z1 ?_
  exact W.lret hx hb hr (fun t ht hW => ⟨_, rfl, h, ht⟩) (fun _ h9 => by cases h9) d_PairChoice_fate_25
set_option maxHeartbeats 4000000 in
set_option maxRecDepth 100000 in
theorem c_PairChoice_isWithin (l : Launch) (dC : Nat → ClassId) (dI : Nat → Nat → Nat) (cI cJ cG cZ : ClassId)  (x0 : Int32) (x1 : Int32) (x2 : Int32) (post : Int32 → Prop) (h : wp_PairChoice_isWithin x0 x1 x2 post) : Met l y_PairChoice_isWithin w_PairChoice_isWithin ({ frames := 0, cells := 0, slots := 0, locals := 0 } : Room) (va_Pc [.int x0, .int x1, .int x2] (pcS dC dI cI cJ cG cZ)) (vp_Si (fun r => (r = 0 ∨ r = 1) ∧ post r)) 0 0 (fun _ => False) := by
  refine Met.ofW (cc := b_PairChoice_isWithin) (maxL := 3) (ret := (some .boolean)) (by decide) rfl ?_
  intro p e s m args below meth c s₁ B hml hv
  obtain ⟨rfl, hK, hN⟩ := hv
  have hx := B.exec
  have hb := B.bytes
  have hr := B.returns
  have hts := atoms_spec (ws := w_PairChoice_isWithin) B.pre
  have hown : s.vm.findClass "PairChoice" = some m.cls := findClass_of_methodNamed B.named
  have hlocks := B.notSynchronized
  have hl := lv_entry ([.int x0, .int x1, .int x2]) (n := 3) (Nat.le_of_ble_eq_true rfl)
  rw [lg_entry_eq]
  generalize (lg_sl ([.int x0, .int x1, .int x2]) ++ List.replicate (3 - (lg_sl ([.int x0, .int x1, .int x2])).length) Slot.unset).toArray = ls at hl ⊢
  have hl : lv_has ls 3 [(0, .int x0), (1, .int x1), (2, .int x2)] := hl
  unfold wp_PairChoice_isWithin at h
  refine lv_iload_n hx hb d_PairChoice_isWithin_0 rfl (lv_at hl 0 rfl) ?_
  refine lv_iload_n hx hb d_PairChoice_isWithin_1 rfl (lv_at hl 1 rfl) ?_
  refine lv_icmp_lt (tgt := 14) hx hb d_PairChoice_isWithin_2 (by decide) (fun c1 => ?_) (fun c1 => ?_)
  · have h := h.1 c1
    refine lv_iconst (v := 0) hx hb d_PairChoice_isWithin_14 (by decide) ?_
    exact W.zret hx hb hr (z_nar (Or.inl rfl)) (fun t ht hW => ⟨_, rfl, ⟨Or.inl rfl, h⟩, ht⟩) (fun _ h9 => by cases h9) d_PairChoice_isWithin_15
  · have h := h.2 c1
    refine lv_iload_n hx hb d_PairChoice_isWithin_5 rfl (lv_at hl 0 rfl) ?_
    refine lv_iload_n hx hb d_PairChoice_isWithin_6 rfl (lv_at hl 2 rfl) ?_
    refine lv_icmp_gt (tgt := 14) hx hb d_PairChoice_isWithin_7 (by decide) (fun c2 => ?_) (fun c2 => ?_)
    · have h := h.1 c2
      refine lv_iconst (v := 0) hx hb d_PairChoice_isWithin_14 (by decide) ?_
      exact W.zret hx hb hr (z_nar (Or.inl rfl)) (fun t ht hW => ⟨_, rfl, ⟨Or.inl rfl, h⟩, ht⟩) (fun _ h9 => by cases h9) d_PairChoice_isWithin_15
    · have h := h.2 c2
      refine lv_iconst (v := 1) hx hb d_PairChoice_isWithin_10 (by decide) ?_
      refine lv_goto (tgt := 15) hx hb d_PairChoice_isWithin_11 (by decide) ?_
      exact W.zret hx hb hr (z_nar (Or.inr rfl)) (fun t ht hW => ⟨_, rfl, ⟨Or.inr rfl, h⟩, ht⟩) (fun _ h9 => by cases h9) d_PairChoice_isWithin_15
set_option maxHeartbeats 4000000 in
set_option maxRecDepth 100000 in
theorem c_PairChoice_isWorth (l : Launch) (dC : Nat → ClassId) (dI : Nat → Nat → Nat) (cI cJ cG cZ : ClassId)  (x0 : Int32) (post : Int32 → Prop) (h : wp_PairChoice_isWorth x0 post) : Met l y_PairChoice_isWorth w_PairChoice_isWorth ({ frames := 1, cells := 0, slots := 0, locals := 22 } : Room) (va_Pc [.int x0] (pcS dC dI cI cJ cG cZ)) (vp_Si (fun r => (r = 0 ∨ r = 1) ∧ post r)) 0 0 (fun _ => False) := by
  refine Met.ofW (cc := b_PairChoice_isWorth) (maxL := 1) (ret := (some .boolean)) (by decide) rfl ?_
  intro p e s m args below meth c s₁ B hml hv
  obtain ⟨rfl, hK, hN⟩ := hv
  have hx := B.exec
  have hb := B.bytes
  have hr := B.returns
  have hts := atoms_spec (ws := w_PairChoice_isWorth) B.pre
  have hown : s.vm.findClass "PairChoice" = some m.cls := findClass_of_methodNamed B.named
  have hlocks := B.notSynchronized
  have hl := lv_entry ([.int x0]) (n := 1) (Nat.le_of_ble_eq_true rfl)
  rw [lg_entry_eq]
  generalize (lg_sl ([.int x0]) ++ List.replicate (1 - (lg_sl ([.int x0])).length) Slot.unset).toArray = ls at hl ⊢
  have hl : lv_has ls 1 [(0, .int x0)] := hl
  unfold wp_PairChoice_isWorth at h
  refine lv_iload_n hx hb d_PairChoice_isWorth_0 rfl (lv_at hl 0 rfl) ?_
  refine lv_sipush (v := (-10000)) hx hb d_PairChoice_isWorth_1 (by decide) ?_
  refine lv_sipush (v := 10000) hx hb d_PairChoice_isWorth_4 (by decide) ?_
  refine vp_callSi (va_Run.run (va_runS (As := [.int x0, .int (-10000), .int 10000]) (rest := []) ⟨hx, hb, hml, hown, hts⟩ (c_PairChoice_isWithin l dC dI cI cJ cG cZ     (x0 : Int32) ((-10000) : Int32) (10000 : Int32) _ h) (va_cwS 3 hts (gcS kw_223 kw_224 kw_39 kw_225) rfl rfl rfl (by decide +kernel) ⟨Nat.le_of_ble_eq_true rfl, Nat.le_of_ble_eq_true rfl⟩) ⟨fb_s, pre_s hK hN⟩ rfl rfl hl.1 rfl (lv_room (Nat.le_of_ble_eq_true rfl)) d_PairChoice_isWorth_7 ⟨Nat.zero_le _, Nat.zero_le _⟩)) (fun r1 h => ?_)
  obtain ⟨br1, h⟩ := h
  exact W.zret hx hb hr (z_nar (br1)) (fun t ht hW => ⟨_, rfl, ⟨br1, h⟩, ht⟩) (fun _ h9 => by cases h9) d_PairChoice_isWorth_10
set_option maxHeartbeats 4000000 in
set_option maxRecDepth 100000 in
theorem c_PairChoice_isNumberOfPairs (l : Launch) (dC : Nat → ClassId) (dI : Nat → Nat → Nat) (cI cJ cG cZ : ClassId)  (x0 : Int32) (post : Int32 → Prop) (h : wp_PairChoice_isNumberOfPairs x0 post) : Met l y_PairChoice_isNumberOfPairs w_PairChoice_isNumberOfPairs ({ frames := 1, cells := 0, slots := 0, locals := 22 } : Room) (va_Pc [.int x0] (pcS dC dI cI cJ cG cZ)) (vp_Si (fun r => (r = 0 ∨ r = 1) ∧ post r)) 0 0 (fun _ => False) := by
  refine Met.ofW (cc := b_PairChoice_isNumberOfPairs) (maxL := 1) (ret := (some .boolean)) (by decide) rfl ?_
  intro p e s m args below meth c s₁ B hml hv
  obtain ⟨rfl, hK, hN⟩ := hv
  have hx := B.exec
  have hb := B.bytes
  have hr := B.returns
  have hts := atoms_spec (ws := w_PairChoice_isNumberOfPairs) B.pre
  have hown : s.vm.findClass "PairChoice" = some m.cls := findClass_of_methodNamed B.named
  have hlocks := B.notSynchronized
  have hl := lv_entry ([.int x0]) (n := 1) (Nat.le_of_ble_eq_true rfl)
  rw [lg_entry_eq]
  generalize (lg_sl ([.int x0]) ++ List.replicate (1 - (lg_sl ([.int x0])).length) Slot.unset).toArray = ls at hl ⊢
  have hl : lv_has ls 1 [(0, .int x0)] := hl
  unfold wp_PairChoice_isNumberOfPairs at h
  refine lv_iload_n hx hb d_PairChoice_isNumberOfPairs_0 rfl (lv_at hl 0 rfl) ?_
  refine lv_iconst (v := 1) hx hb d_PairChoice_isNumberOfPairs_1 (by decide) ?_
  refine lv_bipush (v := 6) hx hb d_PairChoice_isNumberOfPairs_2 (by decide) ?_
  refine vp_callSi (va_Run.run (va_runS (As := [.int x0, .int 1, .int 6]) (rest := []) ⟨hx, hb, hml, hown, hts⟩ (c_PairChoice_isWithin l dC dI cI cJ cG cZ     (x0 : Int32) (1 : Int32) (6 : Int32) _ h) (va_cwS 3 hts (gcS kw_223 kw_224 kw_39 kw_225) rfl rfl rfl (by decide +kernel) ⟨Nat.le_of_ble_eq_true rfl, Nat.le_of_ble_eq_true rfl⟩) ⟨fb_s, pre_s hK hN⟩ rfl rfl hl.1 rfl (lv_room (Nat.le_of_ble_eq_true rfl)) d_PairChoice_isNumberOfPairs_4 ⟨Nat.zero_le _, Nat.zero_le _⟩)) (fun r1 h => ?_)
  obtain ⟨br1, h⟩ := h
  exact W.zret hx hb hr (z_nar (br1)) (fun t ht hW => ⟨_, rfl, ⟨br1, h⟩, ht⟩) (fun _ h9 => by cases h9) d_PairChoice_isNumberOfPairs_7
set_option maxHeartbeats 4000000 in
set_option maxRecDepth 100000 in
theorem c_PairChoice_bit (l : Launch) (dC : Nat → ClassId) (dI : Nat → Nat → Nat) (cI cJ cG cZ : ClassId)  (x0 : Int32) (post : Int32 → Prop) (h : wp_PairChoice_bit x0 post) : Met l y_PairChoice_bit w_PairChoice_bit ({ frames := 0, cells := 0, slots := 0, locals := 0 } : Room) (va_Pc [.int x0] (pcS dC dI cI cJ cG cZ)) (vp_Si (fun r => post r)) 0 0 (fun _ => False) := by
  refine Met.ofW (cc := b_PairChoice_bit) (maxL := 1) (ret := (some .int)) (by decide) rfl ?_
  intro p e s m args below meth c s₁ B hml hv
  obtain ⟨rfl, hK, hN⟩ := hv
  have hx := B.exec
  have hb := B.bytes
  have hr := B.returns
  have hts := atoms_spec (ws := w_PairChoice_bit) B.pre
  have hown : s.vm.findClass "PairChoice" = some m.cls := findClass_of_methodNamed B.named
  have hlocks := B.notSynchronized
  have hl := lv_entry ([.int x0]) (n := 1) (Nat.le_of_ble_eq_true rfl)
  rw [lg_entry_eq]
  generalize (lg_sl ([.int x0]) ++ List.replicate (1 - (lg_sl ([.int x0])).length) Slot.unset).toArray = ls at hl ⊢
  have hl : lv_has ls 1 [(0, .int x0)] := hl
  unfold wp_PairChoice_bit at h
  refine lv_iconst (v := 1) hx hb d_PairChoice_bit_0 (by decide) ?_
  refine lv_iload_n hx hb d_PairChoice_bit_1 rfl (lv_at hl 0 rfl) ?_
  refine lv_ishl hx hb d_PairChoice_bit_2 ?_
  exact W.iret hx hb hr (fun t ht hW => ⟨_, rfl, h, ht⟩) (fun _ h9 => by cases h9) d_PairChoice_bit_3
set_option maxHeartbeats 4000000 in
set_option maxRecDepth 100000 in
theorem c_PairChoice_has (l : Launch) (dC : Nat → ClassId) (dI : Nat → Nat → Nat) (cI cJ cG cZ : ClassId)  (x0 : Int32) (x1 : Int32) (post : Int32 → Prop) (h : wp_PairChoice_has x0 x1 post) : Met l y_PairChoice_has w_PairChoice_has ({ frames := 0, cells := 0, slots := 0, locals := 0 } : Room) (va_Pc [.int x0, .int x1] (pcS dC dI cI cJ cG cZ)) (vp_Si (fun r => (r = 0 ∨ r = 1) ∧ post r)) 0 0 (fun _ => False) := by
  refine Met.ofW (cc := b_PairChoice_has) (maxL := 2) (ret := (some .boolean)) (by decide) rfl ?_
  intro p e s m args below meth c s₁ B hml hv
  obtain ⟨rfl, hK, hN⟩ := hv
  have hx := B.exec
  have hb := B.bytes
  have hr := B.returns
  have hts := atoms_spec (ws := w_PairChoice_has) B.pre
  have hown : s.vm.findClass "PairChoice" = some m.cls := findClass_of_methodNamed B.named
  have hlocks := B.notSynchronized
  have hl := lv_entry ([.int x0, .int x1]) (n := 2) (Nat.le_of_ble_eq_true rfl)
  rw [lg_entry_eq]
  generalize (lg_sl ([.int x0, .int x1]) ++ List.replicate (2 - (lg_sl ([.int x0, .int x1])).length) Slot.unset).toArray = ls at hl ⊢
  have hl : lv_has ls 2 [(0, .int x0), (1, .int x1)] := hl
  unfold wp_PairChoice_has at h
  refine lv_iload_n hx hb d_PairChoice_has_0 rfl (lv_at hl 0 rfl) ?_
  refine lv_iload_n hx hb d_PairChoice_has_1 rfl (lv_at hl 1 rfl) ?_
  refine lv_ishr hx hb d_PairChoice_has_2 ?_
  refine lv_iconst (v := 1) hx hb d_PairChoice_has_3 (by decide) ?_
  refine lv_iand hx hb d_PairChoice_has_4 ?_
  refine lv_if_eq (tgt := 12) hx hb d_PairChoice_has_5 (by decide) (fun c1 => ?_) (fun c1 => ?_)
  · have h := h.1 c1
    refine lv_iconst (v := 0) hx hb d_PairChoice_has_12 (by decide) ?_
    exact W.zret hx hb hr (z_nar (Or.inl rfl)) (fun t ht hW => ⟨_, rfl, ⟨Or.inl rfl, h⟩, ht⟩) (fun _ h9 => by cases h9) d_PairChoice_has_13
  · have h := h.2 c1
    refine lv_iconst (v := 1) hx hb d_PairChoice_has_8 (by decide) ?_
    refine lv_goto (tgt := 13) hx hb d_PairChoice_has_9 (by decide) ?_
    exact W.zret hx hb hr (z_nar (Or.inr rfl)) (fun t ht hW => ⟨_, rfl, ⟨Or.inr rfl, h⟩, ht⟩) (fun _ h9 => by cases h9) d_PairChoice_has_13
set_option maxHeartbeats 4000000 in
set_option maxRecDepth 100000 in
theorem c_Integer_bitCount (l : Launch) (dC : Nat → ClassId) (dI : Nat → Nat → Nat) (cI cJ cG cZ : ClassId)  (x0 : Int32) (post : Int32 → Prop) (h : wp_Integer_bitCount x0 post) : Met l y_Integer_bitCount w_Integer_bitCount ({ frames := 0, cells := 0, slots := 0, locals := 0 } : Room) (va_Pc [.int x0] (pcS dC dI cI cJ cG cZ)) (vp_Si (fun r => post r)) 0 0 (fun _ => False) := by
  refine Met.ofW (cc := b_Integer_bitCount) (maxL := 1) (ret := (some .int)) (by decide) rfl ?_
  intro p e s m args below meth c s₁ B hml hv
  obtain ⟨rfl, hK, hN⟩ := hv
  have hx := B.exec
  have hb := B.bytes
  have hr := B.returns
  have hts := atoms_spec (ws := w_Integer_bitCount) B.pre
  have hown : s.vm.findClass "java/lang/Integer" = some m.cls := findClass_of_methodNamed B.named
  have hlocks := B.notSynchronized
  have hl := lv_entry ([.int x0]) (n := 1) (Nat.le_of_ble_eq_true rfl)
  rw [lg_entry_eq]
  generalize (lg_sl ([.int x0]) ++ List.replicate (1 - (lg_sl ([.int x0])).length) Slot.unset).toArray = ls at hl ⊢
  have hl : lv_has ls 1 [(0, .int x0)] := hl
  unfold wp_Integer_bitCount at h
  refine lv_iload_n hx hb d_Integer_bitCount_0 rfl (lv_at hl 0 rfl) ?_
  refine lv_iload_n hx hb d_Integer_bitCount_1 rfl (lv_at hl 0 rfl) ?_
  refine lv_iconst (v := 1) hx hb d_Integer_bitCount_2 (by decide) ?_
  refine lv_iushr (v := (x0.toUInt32 >>> ((1 : Int32).toUInt32 &&& Int32.toUInt32 31)).toInt32) hx hb d_Integer_bitCount_3 rfl ?_
  refine lv_ldcw (v := 1431655765) hx hb hown (hts _ (List.mem_cons_of_mem _ kw_294)) d_Integer_bitCount_4 ?_
  refine lv_iand hx hb d_Integer_bitCount_7 ?_
  refine lv_isub hx hb d_Integer_bitCount_8 ?_
  refine lv_istore_n (lv' := [(0, .int (x0 - (((x0.toUInt32 >>> ((1 : Int32).toUInt32 &&& Int32.toUInt32 31)).toInt32) &&& 1431655765)))]) hx hb d_Integer_bitCount_9 rfl hl (by decide) rfl (fun ls hl => ?_)
  refine lv_iload_n hx hb d_Integer_bitCount_10 rfl (lv_at hl 0 rfl) ?_
  refine lv_ldcw (v := 858993459) hx hb hown (hts _ (List.mem_cons_of_mem _ kw_295)) d_Integer_bitCount_11 ?_
  refine lv_iand hx hb d_Integer_bitCount_14 ?_
  refine lv_iload_n hx hb d_Integer_bitCount_15 rfl (lv_at hl 0 rfl) ?_
  refine lv_iconst (v := 2) hx hb d_Integer_bitCount_16 (by decide) ?_
  refine lv_iushr (v := ((x0 - (((x0.toUInt32 >>> ((1 : Int32).toUInt32 &&& Int32.toUInt32 31)).toInt32) &&& 1431655765)).toUInt32 >>> ((2 : Int32).toUInt32 &&& Int32.toUInt32 31)).toInt32) hx hb d_Integer_bitCount_17 rfl ?_
  refine lv_ldcw (v := 858993459) hx hb hown (hts _ (List.mem_cons_of_mem _ kw_295)) d_Integer_bitCount_18 ?_
  refine lv_iand hx hb d_Integer_bitCount_21 ?_
  refine lv_iadd hx hb d_Integer_bitCount_22 ?_
  refine lv_topi (fun y1 ey1 => ?_)
  have h := h y1 ey1
  refine lv_istore_n (lv' := [(0, .int y1)]) hx hb d_Integer_bitCount_23 rfl hl (by decide) rfl (fun ls hl => ?_)
  refine lv_iload_n hx hb d_Integer_bitCount_24 rfl (lv_at hl 0 rfl) ?_
  refine lv_iload_n hx hb d_Integer_bitCount_25 rfl (lv_at hl 0 rfl) ?_
  refine lv_iconst (v := 4) hx hb d_Integer_bitCount_26 (by decide) ?_
  refine lv_iushr (v := (y1.toUInt32 >>> ((4 : Int32).toUInt32 &&& Int32.toUInt32 31)).toInt32) hx hb d_Integer_bitCount_27 rfl ?_
  refine lv_iadd hx hb d_Integer_bitCount_28 ?_
  refine lv_ldcw (v := 252645135) hx hb hown (hts _ (List.mem_cons_of_mem _ kw_296)) d_Integer_bitCount_29 ?_
  refine lv_iand hx hb d_Integer_bitCount_32 ?_
  refine lv_istore_n (lv' := [(0, .int ((y1 + ((y1.toUInt32 >>> ((4 : Int32).toUInt32 &&& Int32.toUInt32 31)).toInt32)) &&& 252645135))]) hx hb d_Integer_bitCount_33 rfl hl (by decide) rfl (fun ls hl => ?_)
  refine lv_iload_n hx hb d_Integer_bitCount_34 rfl (lv_at hl 0 rfl) ?_
  refine lv_iload_n hx hb d_Integer_bitCount_35 rfl (lv_at hl 0 rfl) ?_
  refine lv_bipush (v := 8) hx hb d_Integer_bitCount_36 (by decide) ?_
  refine lv_iushr (v := (((y1 + ((y1.toUInt32 >>> ((4 : Int32).toUInt32 &&& Int32.toUInt32 31)).toInt32)) &&& 252645135).toUInt32 >>> ((8 : Int32).toUInt32 &&& Int32.toUInt32 31)).toInt32) hx hb d_Integer_bitCount_38 rfl ?_
  refine lv_iadd hx hb d_Integer_bitCount_39 ?_
  refine lv_topi (fun y2 ey2 => ?_)
  have h := h y2 ey2
  refine lv_istore_n (lv' := [(0, .int y2)]) hx hb d_Integer_bitCount_40 rfl hl (by decide) rfl (fun ls hl => ?_)
  refine lv_iload_n hx hb d_Integer_bitCount_41 rfl (lv_at hl 0 rfl) ?_
  refine lv_iload_n hx hb d_Integer_bitCount_42 rfl (lv_at hl 0 rfl) ?_
  refine lv_bipush (v := 16) hx hb d_Integer_bitCount_43 (by decide) ?_
  refine lv_iushr (v := (y2.toUInt32 >>> ((16 : Int32).toUInt32 &&& Int32.toUInt32 31)).toInt32) hx hb d_Integer_bitCount_45 rfl ?_
  refine lv_iadd hx hb d_Integer_bitCount_46 ?_
  refine lv_istore_n (lv' := [(0, .int (y2 + ((y2.toUInt32 >>> ((16 : Int32).toUInt32 &&& Int32.toUInt32 31)).toInt32)))]) hx hb d_Integer_bitCount_47 rfl hl (by decide) rfl (fun ls hl => ?_)
  refine lv_iload_n hx hb d_Integer_bitCount_48 rfl (lv_at hl 0 rfl) ?_
  refine lv_bipush (v := 63) hx hb d_Integer_bitCount_49 (by decide) ?_
  refine lv_iand hx hb d_Integer_bitCount_51 ?_
  exact W.iret hx hb hr (fun t ht hW => ⟨_, rfl, h, ht⟩) (fun _ h9 => by cases h9) d_Integer_bitCount_52
