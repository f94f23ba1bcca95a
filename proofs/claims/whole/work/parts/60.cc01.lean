def at_Choice_giveLeftOnes (dC : Nat → ClassId) (dI : Nat → Nat → Nat) (cI cJ cG cZ : ClassId) (q_this q_this_eggShares q_this_herd q_this_pairing q_this_rests : Nat) (A : Nat → Prop) (v_this_pairs : Int32) (v_this_set : Int32) (v_this_setsThatMayBe : Int32) (u : (Nat → Int32) × (Nat → Int64)) (t : State) : Prop := va_P (dC, dI) vCl ([(q_this, .inr (0, [.ref q_this_herd, .ref q_this_pairing, .int v_this_pairs, .int v_this_set, .int v_this_setsThatMayBe, .ref q_this_eggShares, .ref q_this_rests])), (q_this_eggShares, .inl (cI, 6, .inl u.1)), (q_this_rests, .inl (cJ, 6, .inr (.inl u.2)))]) t.heap ∧ va_D A ([(q_this, .inr (0, [.ref q_this_herd, .ref q_this_pairing, .int v_this_pairs, .int v_this_set, .int v_this_setsThatMayBe, .ref q_this_eggShares, .ref q_this_rests])), (q_this_eggShares, .inl (cI, 6, .inl u.1)), (q_this_rests, .inl (cJ, 6, .inr (.inl u.2)))])
set_option maxHeartbeats 4000000 in
set_option maxRecDepth 100000 in
theorem c_Choice_giveLeftOnes (l : Launch) (dC : Nat → ClassId) (dI : Nat → Nat → Nat) (cI cJ cG cZ : ClassId) (q_this q_this_eggShares q_this_herd q_this_pairing q_this_rests : Nat) (sz : Nat) (v_this_eggShares : (Nat → Int32)) (v_this_pairs : Int32) (v_this_rests : (Nat → Int64)) (v_this_set : Int32) (v_this_setsThatMayBe : Int32) (x1 : Int32) (post : (Nat → Int32) → (Nat → Int64) → Prop) (h : wp_Choice_giveLeftOnes v_this_eggShares v_this_pairs v_this_rests x1 post) : Met l y_Choice_giveLeftOnes w_Choice_giveLeftOnes ({ frames := 1, cells := 0, slots := 0, locals := 22 } : Room) (va_Pc [.ref q_this, .int x1] (pcW dC dI cI cJ cG cZ sz ([(q_this, .inr (0, [.ref q_this_herd, .ref q_this_pairing, .int v_this_pairs, .int v_this_set, .int v_this_setsThatMayBe, .ref q_this_eggShares, .ref q_this_rests])), (q_this_eggShares, .inl (cI, 6, .inl v_this_eggShares)), (q_this_rests, .inl (cJ, 6, .inr (.inl v_this_rests)))]))) (va_Qv (fun (u : (Nat → Int32) × (Nat → Int64)) => post u.1 u.2) (fun (u : (Nat → Int32) × (Nat → Int64)) (t : State) => at_Choice_giveLeftOnes dC dI cI cJ cG cZ q_this q_this_eggShares q_this_herd q_this_pairing q_this_rests (va_A ([(q_this, .inr (0, [.ref q_this_herd, .ref q_this_pairing, .int v_this_pairs, .int v_this_set, .int v_this_setsThatMayBe, .ref q_this_eggShares, .ref q_this_rests])), (q_this_eggShares, .inl (cI, 6, .inl v_this_eggShares)), (q_this_rests, .inl (cJ, 6, .inr (.inl v_this_rests)))]) sz) v_this_pairs v_this_set v_this_setsThatMayBe u t) (va_A ([(q_this, .inr (0, [.ref q_this_herd, .ref q_this_pairing, .int v_this_pairs, .int v_this_set, .int v_this_setsThatMayBe, .ref q_this_eggShares, .ref q_this_rests])), (q_this_eggShares, .inl (cI, 6, .inl v_this_eggShares)), (q_this_rests, .inl (cJ, 6, .inr (.inl v_this_rests)))]) sz)) 0 0 (va_A ([(q_this, .inr (0, [.ref q_this_herd, .ref q_this_pairing, .int v_this_pairs, .int v_this_set, .int v_this_setsThatMayBe, .ref q_this_eggShares, .ref q_this_rests])), (q_this_eggShares, .inl (cI, 6, .inl v_this_eggShares)), (q_this_rests, .inl (cJ, 6, .inr (.inl v_this_rests)))]) sz) := by
  refine Met.ofW (cc := b_Choice_giveLeftOnes) (maxL := 4) (ret := none) (by decide) rfl ?_
  intro p e s m args below meth c s₁ B hml hv
  obtain ⟨rfl, hsz, hP, hK, hN, hD0⟩ := hv
  have hx := B.exec
  have hb := B.bytes
  have hr := B.returns
  have hts := atoms_spec (ws := w_Choice_giveLeftOnes) B.pre
  have hown : s.vm.findClass "PairChoice$Choice" = some m.cls := findClass_of_methodNamed B.named
  have hlocks := B.notSynchronized
  subst hsz
  have hD := hD0.self (sz := s.heap.size)
  generalize hAe : va_A ([(q_this, .inr (0, [.ref q_this_herd, .ref q_this_pairing, .int v_this_pairs, .int v_this_set, .int v_this_setsThatMayBe, .ref q_this_eggShares, .ref q_this_rests])), (q_this_eggShares, .inl (cI, 6, .inl v_this_eggShares)), (q_this_rests, .inl (cJ, 6, .inr (.inl v_this_rests)))]) s.heap.size = A at hD ⊢
  have hA : ∀ q : Nat, s.heap.size ≤ q → A q := fun q h => by rw [← hAe]; exact Or.inr h
  have hS : va_S A s.heap s.heap [] := va_S.rf
  have hl := lv_entry ([.ref q_this, .int x1]) (n := 4) (Nat.le_of_ble_eq_true rfl)
  rw [lg_entry_eq]
  generalize (lg_sl ([.ref q_this, .int x1]) ++ List.replicate (4 - (lg_sl ([.ref q_this, .int x1])).length) Slot.unset).toArray = ls at hl ⊢
  have hl : lv_has ls 4 [(0, .ref q_this), (1, .int x1)] := hl
  unfold wp_Choice_giveLeftOnes at h
  refine lv_iconst (v := 0) hx hb d_Choice_giveLeftOnes_0 (by decide) ?_
  refine lv_istore_n (lv' := [(2, .int 0), (0, .ref q_this), (1, .int x1)]) hx hb d_Choice_giveLeftOnes_1 rfl hl (by decide) rfl (fun ls hl => ?_)
  obtain ⟨nn, h⟩ := h
  have lp2 : ∀ (n2 : Nat) (x2_2 : Int32) (w2_this_eggShares : (Nat → Int32)) (w2_this_rests : (Nat → Int64)) (H : Heap) (locs : List Loc) (ls : Array Slot), wp_Choice_giveLeftOnes_L2 v_this_pairs x1 post n2 x2_2 w2_this_eggShares w2_this_rests → va_P (dC, dI) vCl ([(q_this, .inr (0, [.ref q_this_herd, .ref q_this_pairing, .int v_this_pairs, .int v_this_set, .int v_this_setsThatMayBe, .ref q_this_eggShares, .ref q_this_rests])), (q_this_eggShares, .inl (cI, 6, .inl w2_this_eggShares)), (q_this_rests, .inl (cJ, 6, .inr (.inl w2_this_rests)))]) H → va_D A ([(q_this, .inr (0, [.ref q_this_herd, .ref q_this_pairing, .int v_this_pairs, .int v_this_set, .int v_this_setsThatMayBe, .ref q_this_eggShares, .ref q_this_rests])), (q_this_eggShares, .inl (cI, 6, .inl w2_this_eggShares)), (q_this_rests, .inl (cJ, 6, .inr (.inl w2_this_rests)))]) → va_S A s.heap H locs → lv_has ls 4 [(2, .int x2_2), (0, .ref q_this), (1, .int x1)] → W p l e (headSpec w_Choice_giveLeftOnes ({ frames := 1, cells := 0, slots := 0, locals := 22 } : Room)).room s m ([.ref q_this, .int x1] : List Value).toArray below meth c H locs 0 0 (MQ below (va_Qv (fun (u : (Nat → Int32) × (Nat → Int64)) => post u.1 u.2) (fun (u : (Nat → Int32) × (Nat → Int64)) (t : State) => at_Choice_giveLeftOnes dC dI cI cJ cG cZ q_this q_this_eggShares q_this_herd q_this_pairing q_this_rests A v_this_pairs v_this_set v_this_setsThatMayBe u t) A) ([.ref q_this, .int x1] : List Value).toArray s 0 0 (A)) (F0 m 2 ls []) := by
    intro n2
    induction n2 with
    | zero =>
      intro x2_2 w2_this_eggShares w2_this_rests H locs ls h
      rw [wp_Choice_giveLeftOnes_L2] at h
      exact h.elim
    | succ n2 ih2 =>
      intro x2_2 w2_this_eggShares w2_this_rests H locs ls h hP hD hS hl
      rw [wp_Choice_giveLeftOnes_L2] at h
      refine lv_iload_n hx hb d_Choice_giveLeftOnes_2 rfl (lv_at hl 0 rfl) ?_
      refine lv_iload_n hx hb d_Choice_giveLeftOnes_3 rfl (lv_at hl 2 rfl) ?_
      refine lv_icmp_ge (tgt := 45) hx hb d_Choice_giveLeftOnes_4 (by decide) (fun c1 => ?_) (fun c1 => ?_)
      · have h := h.1 c1
        exact W.vret hx hb hr (fun t ht hW => ⟨⟨(w2_this_eggShares, w2_this_rests), rfl, h, ⟨by rw [ht]; exact hP, hD⟩⟩, hS.F ht⟩) hS.2.2 d_Choice_giveLeftOnes_45
      · have h := h.2 c1
        refine lv_iload_n hx hb d_Choice_giveLeftOnes_7 rfl (lv_at hl 0 rfl) ?_
        refine lv_aload_n hx hb d_Choice_giveLeftOnes_8 rfl (lv_at hl 1 rfl) ?_
        refine va_get (D := (dC, dI)) (ci := 0) (v := .int v_this_pairs) (C := "PairChoice$Choice") (T := F_Choice) (N := 7) hx hb hts (fun w h => List.mem_cons_of_mem _ (i_Choice w h)) hown hK hP 0 rfl rfl 2 (by decide) (hts _ (List.mem_cons_of_mem _ kw_162)) (fun _ h9 => h9) rfl d_Choice_giveLeftOnes_9 ?_
        refine lv_icmp_ge (tgt := 45) hx hb d_Choice_giveLeftOnes_12 (by decide) (fun c2 => ?_) (fun c2 => ?_)
        · have h := h.1 c2
          exact W.vret hx hb hr (fun t ht hW => ⟨⟨(w2_this_eggShares, w2_this_rests), rfl, h, ⟨by rw [ht]; exact hP, hD⟩⟩, hS.F ht⟩) hS.2.2 d_Choice_giveLeftOnes_45
        · have h := h.2 c2
          refine lv_aload_n hx hb d_Choice_giveLeftOnes_15 rfl (lv_at hl 1 rfl) ?_
          have hPc := hP.sub (ws' := [(q_this, .inr (0, [.ref q_this_herd, .ref q_this_pairing, .int v_this_pairs, .int v_this_set, .int v_this_setsThatMayBe, .ref q_this_eggShares, .ref q_this_rests])), (q_this_rests, .inl (cJ, 6, .inr (.inl w2_this_rests)))]) [0, 2] rfl
          refine vp_callSi (va_Run.run (va_runV (As := []) (rest := []) ⟨hx, hb, hml, hown, hts⟩ (c_Choice_greatestRest l dC dI cI cJ cG cZ  q_this q_this_eggShares q_this_herd q_this_pairing q_this_rests  v_this_pairs w2_this_rests v_this_set v_this_setsThatMayBe  _ h) (cwV 0 hts (gcV kw_393 kw_395 kw_22 kw_43 kw_396) rfl rfl rfl (by decide +kernel) ⟨Nat.le_of_ble_eq_true rfl, Nat.le_of_ble_eq_true rfl⟩) ⟨fb_r, va_recv hK hPc (ci := 0) (q0 := 0) rfl rfl, pre_r hPc hK hN⟩ rfl rfl hl.1 rfl (lv_room (Nat.le_of_ble_eq_true rfl)) d_Choice_giveLeftOnes_16 ⟨Nat.zero_le _, Nat.zero_le _⟩)) (fun r3 h => ?_)
          refine lv_istore_n (lv' := [(3, .int r3), (2, .int x2_2), (0, .ref q_this), (1, .int x1)]) hx hb d_Choice_giveLeftOnes_19 rfl hl (by decide) rfl (fun ls hl => ?_)
          refine lv_aload_n hx hb d_Choice_giveLeftOnes_20 rfl (lv_at hl 2 rfl) ?_
          refine va_get (D := (dC, dI)) (ci := 0) (v := .ref q_this_eggShares) (C := "PairChoice$Choice") (T := F_Choice) (N := 7) hx hb hts (fun w h => List.mem_cons_of_mem _ (i_Choice w h)) hown hK hP 0 rfl rfl 5 (by decide) (hts _ (List.mem_cons_of_mem _ kw_168)) (fun _ h9 => h9) rfl d_Choice_giveLeftOnes_21 ?_
          refine lv_iload_n hx hb d_Choice_giveLeftOnes_24 rfl (lv_at hl 0 rfl) ?_
          refine lv_dup2_11 hx hb d_Choice_giveLeftOnes_25 rfl rfl ?_
          obtain ⟨i4, h⟩ := h
          refine va_iald hx hb hK hP 1 0 rfl rfl i4 d_Choice_giveLeftOnes_26 ?_
          refine lv_iconst (v := 1) hx hb d_Choice_giveLeftOnes_27 (by decide) ?_
          refine lv_iadd hx hb d_Choice_giveLeftOnes_28 ?_
          obtain ⟨i5, h⟩ := h
          refine va_iast hx hb hK hP hD hS 1 0 rfl rfl i5 d_Choice_giveLeftOnes_29 (fun H locs hP hD hS => ?_)
          have hP : va_P (dC, dI) vCl ([(q_this, .inr (0, [.ref q_this_herd, .ref q_this_pairing, .int v_this_pairs, .int v_this_set, .int v_this_setsThatMayBe, .ref q_this_eggShares, .ref q_this_rests])), (q_this_eggShares, .inl (cI, 6, .inl (upd w2_this_eggShares r3.toNatClampNeg ((w2_this_eggShares r3.toNatClampNeg) + 1)))), (q_this_rests, .inl (cJ, 6, .inr (.inl w2_this_rests)))]) H := hP
          have hD : va_D A ([(q_this, .inr (0, [.ref q_this_herd, .ref q_this_pairing, .int v_this_pairs, .int v_this_set, .int v_this_setsThatMayBe, .ref q_this_eggShares, .ref q_this_rests])), (q_this_eggShares, .inl (cI, 6, .inl (upd w2_this_eggShares r3.toNatClampNeg ((w2_this_eggShares r3.toNatClampNeg) + 1)))), (q_this_rests, .inl (cJ, 6, .inr (.inl w2_this_rests)))]) := hD
          refine lv_aload_n hx hb d_Choice_giveLeftOnes_30 rfl (lv_at hl 2 rfl) ?_
          refine va_get (D := (dC, dI)) (ci := 0) (v := .ref q_this_rests) (C := "PairChoice$Choice") (T := F_Choice) (N := 7) hx hb hts (fun w h => List.mem_cons_of_mem _ (i_Choice w h)) hown hK hP 0 rfl rfl 6 (by decide) (hts _ (List.mem_cons_of_mem _ kw_170)) (fun _ h9 => h9) rfl d_Choice_giveLeftOnes_31 ?_
          refine lv_iload_n hx hb d_Choice_giveLeftOnes_34 rfl (lv_at hl 0 rfl) ?_
          refine lv_ldc2 (v := (-1)) hx hb hown (hts _ (List.mem_cons_of_mem _ kw_397)) d_Choice_giveLeftOnes_35 ?_
          obtain ⟨i6, h⟩ := h
          refine va_last hx hb hK hP hD hS 2 1 rfl rfl i6 d_Choice_giveLeftOnes_38 (fun H locs hP hD hS => ?_)
          have hP : va_P (dC, dI) vCl ([(q_this, .inr (0, [.ref q_this_herd, .ref q_this_pairing, .int v_this_pairs, .int v_this_set, .int v_this_setsThatMayBe, .ref q_this_eggShares, .ref q_this_rests])), (q_this_eggShares, .inl (cI, 6, .inl (upd w2_this_eggShares r3.toNatClampNeg ((w2_this_eggShares r3.toNatClampNeg) + 1)))), (q_this_rests, .inl (cJ, 6, .inr (.inl (vp_updL w2_this_rests r3.toNatClampNeg (-1 : Int64)))))]) H := hP
          have hD : va_D A ([(q_this, .inr (0, [.ref q_this_herd, .ref q_this_pairing, .int v_this_pairs, .int v_this_set, .int v_this_setsThatMayBe, .ref q_this_eggShares, .ref q_this_rests])), (q_this_eggShares, .inl (cI, 6, .inl (upd w2_this_eggShares r3.toNatClampNeg ((w2_this_eggShares r3.toNatClampNeg) + 1)))), (q_this_rests, .inl (cJ, 6, .inr (.inl (vp_updL w2_this_rests r3.toNatClampNeg (-1 : Int64)))))]) := hD
          refine lv_iinc (v := (x2_2 + 1)) (lv' := [(2, .int (x2_2 + 1)), (3, .int r3), (0, .ref q_this), (1, .int x1)]) hx hb d_Choice_giveLeftOnes_39 hl (k := 1) rfl rfl (by decide) rfl (fun ls hl => ?_)
          refine lv_goto (tgt := 2) hx hb d_Choice_giveLeftOnes_42 (by decide) ?_
          exact ih2 (x2_2 + 1) (upd w2_this_eggShares r3.toNatClampNeg ((w2_this_eggShares r3.toNatClampNeg) + 1)) (vp_updL w2_this_rests r3.toNatClampNeg (-1 : Int64)) _ _ ls h hP hD hS (lv_sub hl [0, 2, 3] rfl)
  exact lp2 nn (0) v_this_eggShares v_this_rests _ _ ls h hP hD hS hl
set_option maxHeartbeats 4000000 in
set_option maxRecDepth 100000 in
theorem c_Herd_all (l : Launch) (dC : Nat → ClassId) (dI : Nat → Nat → Nat) (cI cJ cG cZ : ClassId) (q_this q_this_barred q_this_families q_this_kinships q_this_leastOfFamily q_this_worths : Nat) (v_this_count : Int32) (v_this_kinLimit : Int32) (v_this_males : Int32) (v_this_mostOfFamily : Int32)  (post : Int32 → Prop) (h : wp_Herd_all v_this_count post) : Met l y_Herd_all w_Herd_all ({ frames := 1, cells := 0, slots := 0, locals := 20 } : Room) (va_Pc [.ref q_this] (pcR dC dI cI cJ cG cZ ([(q_this, .inr (1, [.int v_this_count, .int v_this_males, .ref q_this_worths, .ref q_this_families, .ref q_this_kinships, .ref q_this_barred, .int v_this_kinLimit, .int v_this_mostOfFamily, .ref q_this_leastOfFamily]))]))) (vp_Si (fun r => post r)) 0 0 (fun _ => False) := by
  refine Met.ofW (cc := b_Herd_all) (maxL := 1) (ret := (some .int)) (by decide) rfl ?_
  intro p e s m args below meth c s₁ B hml hv
  obtain ⟨rfl, hP, hK, hN⟩ := hv
  have hx := B.exec
  have hb := B.bytes
  have hr := B.returns
  have hts := atoms_spec (ws := w_Herd_all) B.pre
  have hown : s.vm.findClass "PairChoice$Herd" = some m.cls := findClass_of_methodNamed B.named
  have hlocks := B.notSynchronized
  have hl := lv_entry ([.ref q_this]) (n := 1) (Nat.le_of_ble_eq_true rfl)
  rw [lg_entry_eq]
  generalize (lg_sl ([.ref q_this]) ++ List.replicate (1 - (lg_sl ([.ref q_this])).length) Slot.unset).toArray = ls at hl ⊢
  have hl : lv_has ls 1 [(0, .ref q_this)] := hl
  unfold wp_Herd_all at h
  refine lv_aload_n hx hb d_Herd_all_0 rfl (lv_at hl 0 rfl) ?_
  refine va_get (D := (dC, dI)) (ci := 1) (v := .int v_this_count) (C := "PairChoice$Herd") (T := F_Herd) (N := 9) hx hb hts (fun w h => List.mem_cons_of_mem _ (i_Herd w h)) hown hK hP 0 rfl rfl 0 (by decide) (hts _ (List.mem_cons_of_mem _ kw_64)) (fun _ h9 => h9) rfl d_Herd_all_1 ?_
  refine vp_callSi (va_Run.run (va_runSN (As := [.int v_this_count]) (rest := []) ⟨hx, hb, hml, hown, hts⟩ (c_PairChoice_bit l dC dI cI cJ cG cZ     (v_this_count : Int32) _ h) ⟨va_cnB 1 hts (gcB kw_247) rfl rfl rfl (nw_245 hN) (hts _ (List.mem_cons_of_mem _ kw_39)) (by decide +kernel) ⟨Nat.le_of_ble_eq_true rfl, Nat.le_of_ble_eq_true rfl⟩, (hts _ (List.mem_cons_of_mem _ kw_246)), trivial⟩ ⟨fb_s, pre_s hK hN⟩ rfl rfl hl.1 rfl (lv_room (Nat.le_of_ble_eq_true rfl)) d_Herd_all_4 ⟨Nat.zero_le _, Nat.zero_le _⟩)) (fun r1 h => ?_)
  refine lv_iconst (v := 1) hx hb d_Herd_all_7 (by decide) ?_
  refine lv_isub hx hb d_Herd_all_8 ?_
  exact W.iret hx hb hr (fun t ht hW => ⟨_, rfl, h, ht⟩) (fun _ h9 => by cases h9) d_Herd_all_9
def at_Herd_add (dC : Nat → ClassId) (dI : Nat → Nat → Nat) (cI cJ cG cZ : ClassId) (q_this q_this_barred q_this_families q_this_kinships q_this_leastOfFamily q_this_worths : Nat) (A : Nat → Prop) (v_this_kinLimit : Int32) (v_this_mostOfFamily : Int32) (u : Int32 × (Nat → Int32) × Int32 × (Nat → Int32)) (t : State) : Prop := va_P (dC, dI) vCl ([(q_this, .inr (1, [.int u.1, .int u.2.2.1, .ref q_this_worths, .ref q_this_families, .ref q_this_kinships, .ref q_this_barred, .int v_this_kinLimit, .int v_this_mostOfFamily, .ref q_this_leastOfFamily])), (q_this_families, .inl (cI, 8, .inl u.2.1)), (q_this_worths, .inl (cI, 12, .inl u.2.2.2))]) t.heap ∧ va_D A ([(q_this, .inr (1, [.int u.1, .int u.2.2.1, .ref q_this_worths, .ref q_this_families, .ref q_this_kinships, .ref q_this_barred, .int v_this_kinLimit, .int v_this_mostOfFamily, .ref q_this_leastOfFamily])), (q_this_families, .inl (cI, 8, .inl u.2.1)), (q_this_worths, .inl (cI, 12, .inl u.2.2.2))])
set_option maxHeartbeats 4000000 in
set_option maxRecDepth 100000 in
theorem c_Herd_add (l : Launch) (dC : Nat → ClassId) (dI : Nat → Nat → Nat) (cI cJ cG cZ : ClassId) (q_this q_this_barred q_this_families q_this_kinships q_this_leastOfFamily q_this_worths : Nat) (sz : Nat) (v_this_count : Int32) (v_this_families : (Nat → Int32)) (v_this_kinLimit : Int32) (v_this_males : Int32) (v_this_mostOfFamily : Int32) (v_this_worths : (Nat → Int32)) (x1 : Int32) (x2 : Int32) (x3 : Int32) (post : Int32 → Int32 → (Nat → Int32) → Int32 → (Nat → Int32) → Prop) (h : wp_Herd_add v_this_count v_this_families v_this_males v_this_worths x1 x2 x3 post) : Met l y_Herd_add w_Herd_add ({ frames := 1, cells := 0, slots := 0, locals := 20 } : Room) (va_Pc [.ref q_this, .int x1, .int x2, .int x3] (pcW dC dI cI cJ cG cZ sz ([(q_this, .inr (1, [.int v_this_count, .int v_this_males, .ref q_this_worths, .ref q_this_families, .ref q_this_kinships, .ref q_this_barred, .int v_this_kinLimit, .int v_this_mostOfFamily, .ref q_this_leastOfFamily])), (q_this_families, .inl (cI, 8, .inl v_this_families)), (q_this_worths, .inl (cI, 12, .inl v_this_worths))]))) (va_Qi (fun (r : Int32) (u : Int32 × (Nat → Int32) × Int32 × (Nat → Int32)) => post r u.1 u.2.1 u.2.2.1 u.2.2.2) (fun (u : Int32 × (Nat → Int32) × Int32 × (Nat → Int32)) (t : State) => at_Herd_add dC dI cI cJ cG cZ q_this q_this_barred q_this_families q_this_kinships q_this_leastOfFamily q_this_worths (va_A ([(q_this, .inr (1, [.int v_this_count, .int v_this_males, .ref q_this_worths, .ref q_this_families, .ref q_this_kinships, .ref q_this_barred, .int v_this_kinLimit, .int v_this_mostOfFamily, .ref q_this_leastOfFamily])), (q_this_families, .inl (cI, 8, .inl v_this_families)), (q_this_worths, .inl (cI, 12, .inl v_this_worths))]) sz) v_this_kinLimit v_this_mostOfFamily u t) (va_A ([(q_this, .inr (1, [.int v_this_count, .int v_this_males, .ref q_this_worths, .ref q_this_families, .ref q_this_kinships, .ref q_this_barred, .int v_this_kinLimit, .int v_this_mostOfFamily, .ref q_this_leastOfFamily])), (q_this_families, .inl (cI, 8, .inl v_this_families)), (q_this_worths, .inl (cI, 12, .inl v_this_worths))]) sz)) 0 0 (va_A ([(q_this, .inr (1, [.int v_this_count, .int v_this_males, .ref q_this_worths, .ref q_this_families, .ref q_this_kinships, .ref q_this_barred, .int v_this_kinLimit, .int v_this_mostOfFamily, .ref q_this_leastOfFamily])), (q_this_families, .inl (cI, 8, .inl v_this_families)), (q_this_worths, .inl (cI, 12, .inl v_this_worths))]) sz) := by
  refine Met.ofW (cc := b_Herd_add) (maxL := 5) (ret := (some .int)) (by decide) rfl ?_
  intro p e s m args below meth c s₁ B hml hv
  obtain ⟨rfl, hsz, hP, hK, hN, hD0⟩ := hv
  have hx := B.exec
  have hb := B.bytes
  have hr := B.returns
  have hts := atoms_spec (ws := w_Herd_add) B.pre
  have hown : s.vm.findClass "PairChoice$Herd" = some m.cls := findClass_of_methodNamed B.named
  have hlocks := B.notSynchronized
  subst hsz
  have hD := hD0.self (sz := s.heap.size)
  generalize hAe : va_A ([(q_this, .inr (1, [.int v_this_count, .int v_this_males, .ref q_this_worths, .ref q_this_families, .ref q_this_kinships, .ref q_this_barred, .int v_this_kinLimit, .int v_this_mostOfFamily, .ref q_this_leastOfFamily])), (q_this_families, .inl (cI, 8, .inl v_this_families)), (q_this_worths, .inl (cI, 12, .inl v_this_worths))]) s.heap.size = A at hD ⊢
  have hA : ∀ q : Nat, s.heap.size ≤ q → A q := fun q h => by rw [← hAe]; exact Or.inr h
  have hS : va_S A s.heap s.heap [] := va_S.rf
  have hl := lv_entry ([.ref q_this, .int x1, .int x2, .int x3]) (n := 5) (Nat.le_of_ble_eq_true rfl)
  rw [lg_entry_eq]
  generalize (lg_sl ([.ref q_this, .int x1, .int x2, .int x3]) ++ List.replicate (5 - (lg_sl ([.ref q_this, .int x1, .int x2, .int x3])).length) Slot.unset).toArray = ls at hl ⊢
  have hl : lv_has ls 5 [(0, .ref q_this), (1, .int x1), (2, .int x2), (3, .int x3)] := hl
  unfold wp_Herd_add at h
  refine lv_aload_n hx hb d_Herd_add_0 rfl (lv_at hl 0 rfl) ?_
  refine va_get (D := (dC, dI)) (ci := 1) (v := .int v_this_count) (C := "PairChoice$Herd") (T := F_Herd) (N := 9) hx hb hts (fun w h => List.mem_cons_of_mem _ (i_Herd w h)) hown hK hP 0 rfl rfl 0 (by decide) (hts _ (List.mem_cons_of_mem _ kw_64)) (fun _ h9 => h9) rfl d_Herd_add_1 ?_
  refine lv_istore (lv' := [(4, .int v_this_count), (0, .ref q_this), (1, .int x1), (2, .int x2), (3, .int x3)]) hx hb d_Herd_add_4 hl (by decide) rfl (fun ls hl => ?_)
  refine lv_aload_n hx hb d_Herd_add_6 rfl (lv_at hl 1 rfl) ?_
  refine lv_dup hx hb d_Herd_add_7 rfl ?_
  refine va_get (D := (dC, dI)) (ci := 1) (v := .int v_this_count) (C := "PairChoice$Herd") (T := F_Herd) (N := 9) hx hb hts (fun w h => List.mem_cons_of_mem _ (i_Herd w h)) hown hK hP 0 rfl rfl 0 (by decide) (hts _ (List.mem_cons_of_mem _ kw_64)) (fun _ h9 => h9) rfl d_Herd_add_8 ?_
  refine lv_iconst (v := 1) hx hb d_Herd_add_11 (by decide) ?_
  refine lv_iadd hx hb d_Herd_add_12 ?_
  refine va_put (D := (dC, dI)) (ci := 1) (v := .int (v_this_count + 1)) (ty := .int) (C := "PairChoice$Herd") (T := F_Herd) (N := 9) hx hb hts (fun w h => List.mem_cons_of_mem _ (i_Herd w h)) t_Herd t_Herd_ok n_Herd hown hK hP hD hS 0 rfl rfl 0 (by decide) (hts _ (List.mem_cons_of_mem _ kw_64)) (fun _ h9 => h9) rfl (by decide +kernel) rfl rfl (Nat.le_of_ble_eq_true rfl) d_Herd_add_13 (fun H locs hP hD hS => ?_)
  have hP : va_P (dC, dI) vCl ([(q_this, .inr (1, [.int (v_this_count + 1), .int v_this_males, .ref q_this_worths, .ref q_this_families, .ref q_this_kinships, .ref q_this_barred, .int v_this_kinLimit, .int v_this_mostOfFamily, .ref q_this_leastOfFamily])), (q_this_families, .inl (cI, 8, .inl v_this_families)), (q_this_worths, .inl (cI, 12, .inl v_this_worths))]) H := hP
  have hD : va_D A ([(q_this, .inr (1, [.int (v_this_count + 1), .int v_this_males, .ref q_this_worths, .ref q_this_families, .ref q_this_kinships, .ref q_this_barred, .int v_this_kinLimit, .int v_this_mostOfFamily, .ref q_this_leastOfFamily])), (q_this_families, .inl (cI, 8, .inl v_this_families)), (q_this_worths, .inl (cI, 12, .inl v_this_worths))]) := hD
  refine lv_aload_n hx hb d_Herd_add_16 rfl (lv_at hl 1 rfl) ?_
  refine va_get (D := (dC, dI)) (ci := 1) (v := .ref q_this_worths) (C := "PairChoice$Herd") (T := F_Herd) (N := 9) hx hb hts (fun w h => List.mem_cons_of_mem _ (i_Herd w h)) hown hK hP 0 rfl rfl 2 (by decide) (hts _ (List.mem_cons_of_mem _ kw_72)) (fun _ h9 => h9) rfl d_Herd_add_17 ?_
  refine lv_iload hx hb d_Herd_add_20 (lv_at hl 0 rfl) ?_
  refine lv_iload_n hx hb d_Herd_add_22 rfl (lv_at hl 3 rfl) ?_
  obtain ⟨i1, h⟩ := h
  refine va_iast hx hb hK hP hD hS 2 0 rfl rfl i1 d_Herd_add_23 (fun H locs hP hD hS => ?_)
  have hP : va_P (dC, dI) vCl ([(q_this, .inr (1, [.int (v_this_count + 1), .int v_this_males, .ref q_this_worths, .ref q_this_families, .ref q_this_kinships, .ref q_this_barred, .int v_this_kinLimit, .int v_this_mostOfFamily, .ref q_this_leastOfFamily])), (q_this_families, .inl (cI, 8, .inl v_this_families)), (q_this_worths, .inl (cI, 12, .inl (upd v_this_worths v_this_count.toNatClampNeg x2)))]) H := hP
  have hD : va_D A ([(q_this, .inr (1, [.int (v_this_count + 1), .int v_this_males, .ref q_this_worths, .ref q_this_families, .ref q_this_kinships, .ref q_this_barred, .int v_this_kinLimit, .int v_this_mostOfFamily, .ref q_this_leastOfFamily])), (q_this_families, .inl (cI, 8, .inl v_this_families)), (q_this_worths, .inl (cI, 12, .inl (upd v_this_worths v_this_count.toNatClampNeg x2)))]) := hD
  refine lv_aload_n hx hb d_Herd_add_24 rfl (lv_at hl 1 rfl) ?_
  refine va_get (D := (dC, dI)) (ci := 1) (v := .ref q_this_families) (C := "PairChoice$Herd") (T := F_Herd) (N := 9) hx hb hts (fun w h => List.mem_cons_of_mem _ (i_Herd w h)) hown hK hP 0 rfl rfl 3 (by decide) (hts _ (List.mem_cons_of_mem _ kw_75)) (fun _ h9 => h9) rfl d_Herd_add_25 ?_
  refine lv_iload_n hx hb d_Herd_add_28 rfl (lv_at hl 4 rfl) ?_
  refine lv_dup2_11 hx hb d_Herd_add_29 rfl rfl ?_
  obtain ⟨i2, h⟩ := h
  refine va_iald hx hb hK hP 1 0 rfl rfl i2 d_Herd_add_30 ?_
  refine lv_iload hx hb d_Herd_add_31 (lv_at hl 0 rfl) ?_
  refine vp_callSi (va_Run.run (va_runSN (As := [.int v_this_count]) (rest := [.int (v_this_families x3.toNatClampNeg), .int x3, .ref q_this_families]) ⟨hx, hb, hml, hown, hts⟩ (c_PairChoice_bit l dC dI cI cJ cG cZ     (v_this_count : Int32) _ h) ⟨va_cnB 1 hts (gcB kw_247) rfl rfl rfl (nw_245 hN) (hts _ (List.mem_cons_of_mem _ kw_39)) (by decide +kernel) ⟨Nat.le_of_ble_eq_true rfl, Nat.le_of_ble_eq_true rfl⟩, (hts _ (List.mem_cons_of_mem _ kw_246)), trivial⟩ ⟨fb_s, pre_s hK hN⟩ rfl rfl hl.1 rfl (lv_room (Nat.le_of_ble_eq_true rfl)) d_Herd_add_33 ⟨Nat.zero_le _, Nat.zero_le _⟩)) (fun r3 h => ?_)
  refine lv_ior hx hb d_Herd_add_36 ?_
  obtain ⟨i4, h⟩ := h
  refine va_iast hx hb hK hP hD hS 1 0 rfl rfl i4 d_Herd_add_37 (fun H locs hP hD hS => ?_)
  have hP : va_P (dC, dI) vCl ([(q_this, .inr (1, [.int (v_this_count + 1), .int v_this_males, .ref q_this_worths, .ref q_this_families, .ref q_this_kinships, .ref q_this_barred, .int v_this_kinLimit, .int v_this_mostOfFamily, .ref q_this_leastOfFamily])), (q_this_families, .inl (cI, 8, .inl (upd v_this_families x3.toNatClampNeg ((v_this_families x3.toNatClampNeg) ||| r3)))), (q_this_worths, .inl (cI, 12, .inl (upd v_this_worths v_this_count.toNatClampNeg x2)))]) H := hP
  have hD : va_D A ([(q_this, .inr (1, [.int (v_this_count + 1), .int v_this_males, .ref q_this_worths, .ref q_this_families, .ref q_this_kinships, .ref q_this_barred, .int v_this_kinLimit, .int v_this_mostOfFamily, .ref q_this_leastOfFamily])), (q_this_families, .inl (cI, 8, .inl (upd v_this_families x3.toNatClampNeg ((v_this_families x3.toNatClampNeg) ||| r3)))), (q_this_worths, .inl (cI, 12, .inl (upd v_this_worths v_this_count.toNatClampNeg x2)))]) := hD
  refine lv_iload_n hx hb d_Herd_add_38 rfl (lv_at hl 2 rfl) ?_
  refine lv_if_ne (tgt := 56) hx hb d_Herd_add_39 (by decide) (fun c5 => ?_) (fun c5 => ?_)
  · have h := h.1 c5
    refine lv_iload hx hb d_Herd_add_56 (lv_at hl 0 rfl) ?_
    exact W.iret hx hb hr (fun t ht hW => ⟨⟨_, ((v_this_count + 1), (upd v_this_families x3.toNatClampNeg ((v_this_families x3.toNatClampNeg) ||| r3)), v_this_males, (upd v_this_worths v_this_count.toNatClampNeg x2)), rfl, h, ⟨by rw [ht]; exact hP, hD⟩⟩, hS.F ht⟩) hS.2.2 d_Herd_add_58
  · have h := h.2 c5
    refine lv_aload_n hx hb d_Herd_add_42 rfl (lv_at hl 1 rfl) ?_
    refine lv_dup hx hb d_Herd_add_43 rfl ?_
    refine va_get (D := (dC, dI)) (ci := 1) (v := .int v_this_males) (C := "PairChoice$Herd") (T := F_Herd) (N := 9) hx hb hts (fun w h => List.mem_cons_of_mem _ (i_Herd w h)) hown hK hP 0 rfl rfl 1 (by decide) (hts _ (List.mem_cons_of_mem _ kw_67)) (fun _ h9 => h9) rfl d_Herd_add_44 ?_
    refine lv_iload hx hb d_Herd_add_47 (lv_at hl 0 rfl) ?_
    refine vp_callSi (va_Run.run (va_runSN (As := [.int v_this_count]) (rest := [.int v_this_males, .ref q_this]) ⟨hx, hb, hml, hown, hts⟩ (c_PairChoice_bit l dC dI cI cJ cG cZ     (v_this_count : Int32) _ h) ⟨va_cnB 1 hts (gcB kw_247) rfl rfl rfl (nw_245 hN) (hts _ (List.mem_cons_of_mem _ kw_39)) (by decide +kernel) ⟨Nat.le_of_ble_eq_true rfl, Nat.le_of_ble_eq_true rfl⟩, (hts _ (List.mem_cons_of_mem _ kw_246)), trivial⟩ ⟨fb_s, pre_s hK hN⟩ rfl rfl hl.1 rfl (lv_room (Nat.le_of_ble_eq_true rfl)) d_Herd_add_49 ⟨Nat.zero_le _, Nat.zero_le _⟩)) (fun r6 h => ?_)
    refine lv_ior hx hb d_Herd_add_52 ?_
    refine va_put (D := (dC, dI)) (ci := 1) (v := .int (v_this_males ||| r6)) (ty := .int) (C := "PairChoice$Herd") (T := F_Herd) (N := 9) hx hb hts (fun w h => List.mem_cons_of_mem _ (i_Herd w h)) t_Herd t_Herd_ok n_Herd hown hK hP hD hS 0 rfl rfl 1 (by decide) (hts _ (List.mem_cons_of_mem _ kw_67)) (fun _ h9 => h9) rfl (by decide +kernel) rfl rfl (Nat.le_of_ble_eq_true rfl) d_Herd_add_53 (fun H locs hP hD hS => ?_)
    have hP : va_P (dC, dI) vCl ([(q_this, .inr (1, [.int (v_this_count + 1), .int (v_this_males ||| r6), .ref q_this_worths, .ref q_this_families, .ref q_this_kinships, .ref q_this_barred, .int v_this_kinLimit, .int v_this_mostOfFamily, .ref q_this_leastOfFamily])), (q_this_families, .inl (cI, 8, .inl (upd v_this_families x3.toNatClampNeg ((v_this_families x3.toNatClampNeg) ||| r3)))), (q_this_worths, .inl (cI, 12, .inl (upd v_this_worths v_this_count.toNatClampNeg x2)))]) H := hP
    have hD : va_D A ([(q_this, .inr (1, [.int (v_this_count + 1), .int (v_this_males ||| r6), .ref q_this_worths, .ref q_this_families, .ref q_this_kinships, .ref q_this_barred, .int v_this_kinLimit, .int v_this_mostOfFamily, .ref q_this_leastOfFamily])), (q_this_families, .inl (cI, 8, .inl (upd v_this_families x3.toNatClampNeg ((v_this_families x3.toNatClampNeg) ||| r3)))), (q_this_worths, .inl (cI, 12, .inl (upd v_this_worths v_this_count.toNatClampNeg x2)))]) := hD
    refine lv_iload hx hb d_Herd_add_56 (lv_at hl 0 rfl) ?_
    exact W.iret hx hb hr (fun t ht hW => ⟨⟨_, ((v_this_count + 1), (upd v_this_families x3.toNatClampNeg ((v_this_families x3.toNatClampNeg) ||| r3)), (v_this_males ||| r6), (upd v_this_worths v_this_count.toNatClampNeg x2)), rfl, h, ⟨by rw [ht]; exact hP, hD⟩⟩, hS.F ht⟩) hS.2.2 d_Herd_add_58
set_option maxHeartbeats 4000000 in
set_option maxRecDepth 100000 in
theorem c_Herd_worthSum (l : Launch) (dC : Nat → ClassId) (dI : Nat → Nat → Nat) (cI cJ cG cZ : ClassId) (q_this q_this_barred q_this_families q_this_kinships q_this_leastOfFamily q_this_worths : Nat) (v_this_count : Int32) (v_this_kinLimit : Int32) (v_this_males : Int32) (v_this_mostOfFamily : Int32) (v_this_worths : (Nat → Int32)) (x1 : Int32) (post : Int32 → Prop) (h : wp_Herd_worthSum v_this_count v_this_worths x1 post) : Met l y_Herd_worthSum w_Herd_worthSum ({ frames := 1, cells := 0, slots := 0, locals := 21 } : Room) (va_Pc [.ref q_this, .int x1] (pcR dC dI cI cJ cG cZ ([(q_this, .inr (1, [.int v_this_count, .int v_this_males, .ref q_this_worths, .ref q_this_families, .ref q_this_kinships, .ref q_this_barred, .int v_this_kinLimit, .int v_this_mostOfFamily, .ref q_this_leastOfFamily])), (q_this_worths, .inl (cI, 12, .inl v_this_worths))]))) (vp_Si (fun r => post r)) 0 0 (fun _ => False) := by
  refine Met.ofW (cc := b_Herd_worthSum) (maxL := 4) (ret := (some .int)) (by decide) rfl ?_
  intro p e s m args below meth c s₁ B hml hv
  obtain ⟨rfl, hP, hK, hN⟩ := hv
  have hx := B.exec
  have hb := B.bytes
  have hr := B.returns
  have hts := atoms_spec (ws := w_Herd_worthSum) B.pre
  have hown : s.vm.findClass "PairChoice$Herd" = some m.cls := findClass_of_methodNamed B.named
  have hlocks := B.notSynchronized
  have hl := lv_entry ([.ref q_this, .int x1]) (n := 4) (Nat.le_of_ble_eq_true rfl)
  rw [lg_entry_eq]
  generalize (lg_sl ([.ref q_this, .int x1]) ++ List.replicate (4 - (lg_sl ([.ref q_this, .int x1])).length) Slot.unset).toArray = ls at hl ⊢
  have hl : lv_has ls 4 [(0, .ref q_this), (1, .int x1)] := hl
  unfold wp_Herd_worthSum at h
  refine lv_iconst (v := 0) hx hb d_Herd_worthSum_0 (by decide) ?_
  refine lv_istore_n (lv' := [(2, .int 0), (0, .ref q_this), (1, .int x1)]) hx hb d_Herd_worthSum_1 rfl hl (by decide) rfl (fun ls hl => ?_)
  refine lv_iconst (v := 0) hx hb d_Herd_worthSum_2 (by decide) ?_
  refine lv_istore_n (lv' := [(3, .int 0), (2, .int 0), (0, .ref q_this), (1, .int x1)]) hx hb d_Herd_worthSum_3 rfl hl (by decide) rfl (fun ls hl => ?_)
  obtain ⟨nn, h⟩ := h
  have lp4 : ∀ (n4 : Nat) (x2_4 : Int32) (x3_4 : Int32) (ls : Array Slot), wp_Herd_worthSum_L4 v_this_count v_this_worths x1 post n4 x2_4 x3_4 → lv_has ls 4 [(3, .int x3_4), (2, .int x2_4), (0, .ref q_this), (1, .int x1)] → W p l e (headSpec w_Herd_worthSum ({ frames := 1, cells := 0, slots := 0, locals := 21 } : Room)).room s m ([.ref q_this, .int x1] : List Value).toArray below meth c s.heap [] 0 0 (MQ below (vp_Si (fun r => post r)) ([.ref q_this, .int x1] : List Value).toArray s 0 0 (fun _ => False)) (F0 m 4 ls []) := by
    intro n4
    induction n4 with
    | zero =>
      intro x2_4 x3_4 ls h
      rw [wp_Herd_worthSum_L4] at h
      exact h.elim
    | succ n4 ih4 =>
      intro x2_4 x3_4 ls h hl
      rw [wp_Herd_worthSum_L4] at h
      refine lv_iload_n hx hb d_Herd_worthSum_4 rfl (lv_at hl 0 rfl) ?_
      refine lv_aload_n hx hb d_Herd_worthSum_5 rfl (lv_at hl 2 rfl) ?_
      refine va_get (D := (dC, dI)) (ci := 1) (v := .int v_this_count) (C := "PairChoice$Herd") (T := F_Herd) (N := 9) hx hb hts (fun w h => List.mem_cons_of_mem _ (i_Herd w h)) hown hK hP 0 rfl rfl 0 (by decide) (hts _ (List.mem_cons_of_mem _ kw_64)) (fun _ h9 => h9) rfl d_Herd_worthSum_6 ?_
      refine lv_icmp_ge (tgt := 35) hx hb d_Herd_worthSum_9 (by decide) (fun c1 => ?_) (fun c1 => ?_)
      · have h := h.1 c1
        refine lv_iload_n hx hb d_Herd_worthSum_35 rfl (lv_at hl 1 rfl) ?_
        exact W.iret hx hb hr (fun t ht hW => ⟨_, rfl, h, ht⟩) (fun _ h9 => by cases h9) d_Herd_worthSum_36
      · have h := h.2 c1
        refine lv_iload_n hx hb d_Herd_worthSum_12 rfl (lv_at hl 3 rfl) ?_
        refine lv_iload_n hx hb d_Herd_worthSum_13 rfl (lv_at hl 0 rfl) ?_
        refine vp_callSi (va_Run.run (va_runSN (As := [.int x1, .int x3_4]) (rest := []) ⟨hx, hb, hml, hown, hts⟩ (c_PairChoice_has l dC dI cI cJ cG cZ     (x1 : Int32) (x3_4 : Int32) _ h) ⟨va_cnB 2 hts (gcB kw_266) rfl rfl rfl (nw_322 hN) (hts _ (List.mem_cons_of_mem _ kw_39)) (by decide +kernel) ⟨Nat.le_of_ble_eq_true rfl, Nat.le_of_ble_eq_true rfl⟩, (hts _ (List.mem_cons_of_mem _ kw_265)), trivial⟩ ⟨fb_s, pre_s hK hN⟩ rfl rfl hl.1 rfl (lv_room (Nat.le_of_ble_eq_true rfl)) d_Herd_worthSum_14 ⟨Nat.zero_le _, Nat.zero_le _⟩)) (fun r2 h => ?_)
        obtain ⟨br2, h⟩ := h
        refine lv_if_eq (tgt := 29) hx hb d_Herd_worthSum_17 (by decide) (fun c3 => ?_) (fun c3 => ?_)
        · have h := h.1 c3
          refine lv_iinc (v := (x3_4 + 1)) (lv' := [(3, .int (x3_4 + 1)), (2, .int x2_4), (0, .ref q_this), (1, .int x1)]) hx hb d_Herd_worthSum_29 hl (k := 0) rfl rfl (by decide) rfl (fun ls hl => ?_)
          refine lv_goto (tgt := 4) hx hb d_Herd_worthSum_32 (by decide) ?_
          exact ih4 x2_4 (x3_4 + 1) ls h (lv_sub hl [0, 1, 2, 3] rfl)
        · have h := h.2 c3
          refine lv_iload_n hx hb d_Herd_worthSum_20 rfl (lv_at hl 1 rfl) ?_
          refine lv_aload_n hx hb d_Herd_worthSum_21 rfl (lv_at hl 2 rfl) ?_
          refine va_get (D := (dC, dI)) (ci := 1) (v := .ref q_this_worths) (C := "PairChoice$Herd") (T := F_Herd) (N := 9) hx hb hts (fun w h => List.mem_cons_of_mem _ (i_Herd w h)) hown hK hP 0 rfl rfl 2 (by decide) (hts _ (List.mem_cons_of_mem _ kw_72)) (fun _ h9 => h9) rfl d_Herd_worthSum_22 ?_
          refine lv_iload_n hx hb d_Herd_worthSum_25 rfl (lv_at hl 0 rfl) ?_
          obtain ⟨i4, h⟩ := h
          refine va_iald hx hb hK hP 1 0 rfl rfl i4 d_Herd_worthSum_26 ?_
          refine lv_iadd hx hb d_Herd_worthSum_27 ?_
          refine lv_istore_n (lv' := [(2, .int (x2_4 + (v_this_worths x3_4.toNatClampNeg))), (3, .int x3_4), (0, .ref q_this), (1, .int x1)]) hx hb d_Herd_worthSum_28 rfl hl (by decide) rfl (fun ls hl => ?_)
          refine lv_iinc (v := (x3_4 + 1)) (lv' := [(3, .int (x3_4 + 1)), (2, .int (x2_4 + (v_this_worths x3_4.toNatClampNeg))), (0, .ref q_this), (1, .int x1)]) hx hb d_Herd_worthSum_29 hl (k := 1) rfl rfl (by decide) rfl (fun ls hl => ?_)
          refine lv_goto (tgt := 4) hx hb d_Herd_worthSum_32 (by decide) ?_
          exact ih4 (x2_4 + (v_this_worths x3_4.toNatClampNeg)) (x3_4 + 1) ls h (lv_sub hl [0, 1, 2, 3] rfl)
  exact lp4 nn (0) (0) ls h hl
set_option maxHeartbeats 4000000 in
set_option maxRecDepth 100000 in
theorem c_Herd_kinSum (l : Launch) (dC : Nat → ClassId) (dI : Nat → Nat → Nat) (cI cJ cG cZ : ClassId) (rw_this_kinships : Nat → Nat) (q_this q_this_barred q_this_families q_this_kinships q_this_leastOfFamily q_this_worths : Nat) (v_this_count : Int32) (v_this_kinLimit : Int32) (v_this_kinships : (Nat → Nat → Int32)) (v_this_males : Int32) (v_this_mostOfFamily : Int32) (x1 : Int32) (post : Int32 → Prop) (h : wp_Herd_kinSum v_this_count v_this_kinships x1 post) : Met l y_Herd_kinSum w_Herd_kinSum ({ frames := 1, cells := 0, slots := 0, locals := 21 } : Room) (va_Pc [.ref q_this, .int x1] (pcR dC dI cI cJ cG cZ ([(q_this, .inr (1, [.int v_this_count, .int v_this_males, .ref q_this_worths, .ref q_this_families, .ref q_this_kinships, .ref q_this_barred, .int v_this_kinLimit, .int v_this_mostOfFamily, .ref q_this_leastOfFamily])), (q_this_kinships, .inl (cG, 12, .inr (.inr (.inr (.inr (gw rw_this_kinships))))))] ++ rws rw_this_kinships cI v_this_kinships))) (vp_Si (fun r => post r)) 0 0 (fun _ => False) := by
  refine Met.ofW (cc := b_Herd_kinSum) (maxL := 5) (ret := (some .int)) (by decide) rfl ?_
  intro p e s m args below meth c s₁ B hml hv
  obtain ⟨rfl, hP, hK, hN⟩ := hv
  have hx := B.exec
  have hb := B.bytes
  have hr := B.returns
  have hts := atoms_spec (ws := w_Herd_kinSum) B.pre
  have hown : s.vm.findClass "PairChoice$Herd" = some m.cls := findClass_of_methodNamed B.named
  have hlocks := B.notSynchronized
  have hl := lv_entry ([.ref q_this, .int x1]) (n := 5) (Nat.le_of_ble_eq_true rfl)
  rw [lg_entry_eq]
  generalize (lg_sl ([.ref q_this, .int x1]) ++ List.replicate (5 - (lg_sl ([.ref q_this, .int x1])).length) Slot.unset).toArray = ls at hl ⊢
  have hl : lv_has ls 5 [(0, .ref q_this), (1, .int x1)] := hl
  unfold wp_Herd_kinSum at h
  refine lv_iconst (v := 0) hx hb d_Herd_kinSum_0 (by decide) ?_
  refine lv_istore_n (lv' := [(2, .int 0), (0, .ref q_this), (1, .int x1)]) hx hb d_Herd_kinSum_1 rfl hl (by decide) rfl (fun ls hl => ?_)
  refine lv_iconst (v := 0) hx hb d_Herd_kinSum_2 (by decide) ?_
  refine lv_istore_n (lv' := [(3, .int 0), (2, .int 0), (0, .ref q_this), (1, .int x1)]) hx hb d_Herd_kinSum_3 rfl hl (by decide) rfl (fun ls hl => ?_)
  obtain ⟨nn, h⟩ := h
  have lp4 : ∀ (n4 : Nat) (x2_4 : Int32) (x3_4 : Int32) (ls : Array Slot), wp_Herd_kinSum_L4 v_this_count v_this_kinships x1 post n4 x2_4 x3_4 → lv_has ls 5 [(3, .int x3_4), (2, .int x2_4), (0, .ref q_this), (1, .int x1)] → W p l e (headSpec w_Herd_kinSum ({ frames := 1, cells := 0, slots := 0, locals := 21 } : Room)).room s m ([.ref q_this, .int x1] : List Value).toArray below meth c s.heap [] 0 0 (MQ below (vp_Si (fun r => post r)) ([.ref q_this, .int x1] : List Value).toArray s 0 0 (fun _ => False)) (F0 m 4 ls []) := by
    intro n4
    induction n4 with
    | zero =>
      intro x2_4 x3_4 ls h
      rw [wp_Herd_kinSum_L4] at h
      exact h.elim
    | succ n4 ih4 =>
      intro x2_4 x3_4 ls h hl
      rw [wp_Herd_kinSum_L4] at h
      refine lv_iload_n hx hb d_Herd_kinSum_4 rfl (lv_at hl 0 rfl) ?_
      refine lv_aload_n hx hb d_Herd_kinSum_5 rfl (lv_at hl 2 rfl) ?_
      refine va_get (D := (dC, dI)) (ci := 1) (v := .int v_this_count) (C := "PairChoice$Herd") (T := F_Herd) (N := 9) hx hb hts (fun w h => List.mem_cons_of_mem _ (i_Herd w h)) hown hK hP 0 rfl rfl 0 (by decide) (hts _ (List.mem_cons_of_mem _ kw_64)) (fun _ h9 => h9) rfl d_Herd_kinSum_6 ?_
      refine lv_icmp_ge (tgt := 78) hx hb d_Herd_kinSum_9 (by decide) (fun c1 => ?_) (fun c1 => ?_)
      · have h := h.1 c1
        refine lv_iload_n hx hb d_Herd_kinSum_78 rfl (lv_at hl 1 rfl) ?_
        exact W.iret hx hb hr (fun t ht hW => ⟨_, rfl, h, ht⟩) (fun _ h9 => by cases h9) d_Herd_kinSum_79
      · have h := h.2 c1
        refine lv_iload_n hx hb d_Herd_kinSum_12 rfl (lv_at hl 3 rfl) ?_
        refine lv_iload_n hx hb d_Herd_kinSum_13 rfl (lv_at hl 0 rfl) ?_
        refine vp_callSi (va_Run.run (va_runSN (As := [.int x1, .int x3_4]) (rest := []) ⟨hx, hb, hml, hown, hts⟩ (c_PairChoice_has l dC dI cI cJ cG cZ     (x1 : Int32) (x3_4 : Int32) _ h) ⟨va_cnB 2 hts (gcB kw_266) rfl rfl rfl (nw_322 hN) (hts _ (List.mem_cons_of_mem _ kw_39)) (by decide +kernel) ⟨Nat.le_of_ble_eq_true rfl, Nat.le_of_ble_eq_true rfl⟩, (hts _ (List.mem_cons_of_mem _ kw_265)), trivial⟩ ⟨fb_s, pre_s hK hN⟩ rfl rfl hl.1 rfl (lv_room (Nat.le_of_ble_eq_true rfl)) d_Herd_kinSum_14 ⟨Nat.zero_le _, Nat.zero_le _⟩)) (fun r2 h => ?_)
        obtain ⟨br2, h⟩ := h
        refine lv_if_ne (tgt := 23) hx hb d_Herd_kinSum_17 (by decide) (fun c3 => ?_) (fun c3 => ?_)
        · have h := h.1 c3
          refine lv_iload_n hx hb d_Herd_kinSum_23 rfl (lv_at hl 1 rfl) ?_
          refine lv_aload_n hx hb d_Herd_kinSum_24 rfl (lv_at hl 2 rfl) ?_
          refine va_get (D := (dC, dI)) (ci := 1) (v := .ref q_this_kinships) (C := "PairChoice$Herd") (T := F_Herd) (N := 9) hx hb hts (fun w h => List.mem_cons_of_mem _ (i_Herd w h)) hown hK hP 0 rfl rfl 4 (by decide) (hts _ (List.mem_cons_of_mem _ kw_76)) (fun _ h9 => h9) rfl d_Herd_kinSum_25 ?_
          refine lv_iload_n hx hb d_Herd_kinSum_28 rfl (lv_at hl 0 rfl) ?_
          obtain ⟨i4, h⟩ := h
          refine ga_ald hx hb hK hP 1 2 rfl rfl i4 d_Herd_kinSum_29 ?_
          rw [gw_at i4]
          refine lv_iload_n hx hb d_Herd_kinSum_30 rfl (lv_at hl 0 rfl) ?_
          obtain ⟨i5, h⟩ := h
          refine va_iald hx hb hK hP (2 + x3_4.toNatClampNeg) 0 (rws_at rfl i4) rfl i5 d_Herd_kinSum_31 ?_
          refine lv_iadd hx hb d_Herd_kinSum_32 ?_
          refine lv_istore_n (lv' := [(2, .int (x2_4 + (v_this_kinships x3_4.toNatClampNeg x3_4.toNatClampNeg))), (3, .int x3_4), (0, .ref q_this), (1, .int x1)]) hx hb d_Herd_kinSum_33 rfl hl (by decide) rfl (fun ls hl => ?_)
          refine lv_iconst (v := 0) hx hb d_Herd_kinSum_34 (by decide) ?_
          refine lv_istore (lv' := [(4, .int 0), (2, .int (x2_4 + (v_this_kinships x3_4.toNatClampNeg x3_4.toNatClampNeg))), (3, .int x3_4), (0, .ref q_this), (1, .int x1)]) hx hb d_Herd_kinSum_35 hl (by decide) rfl (fun ls hl => ?_)
          obtain ⟨nn, h⟩ := h
          have lp37 : ∀ (n37 : Nat) (x2_37 : Int32) (x4_37 : Int32) (ls : Array Slot), wp_Herd_kinSum_L37 v_this_kinships x1 x3_4 post (fun z0 z1 => wp_Herd_kinSum_L4 v_this_count v_this_kinships x1 post n4 z0 z1) n37 x2_37 x4_37 → lv_has ls 5 [(4, .int x4_37), (2, .int x2_37), (3, .int x3_4), (0, .ref q_this), (1, .int x1)] → W p l e (headSpec w_Herd_kinSum ({ frames := 1, cells := 0, slots := 0, locals := 21 } : Room)).room s m ([.ref q_this, .int x1] : List Value).toArray below meth c s.heap [] 0 0 (MQ below (vp_Si (fun r => post r)) ([.ref q_this, .int x1] : List Value).toArray s 0 0 (fun _ => False)) (F0 m 37 ls []) := by
            intro n37
            induction n37 with
            | zero =>
              intro x2_37 x4_37 ls h
              rw [wp_Herd_kinSum_L37] at h
              exact h.elim
            | succ n37 ih37 =>
              intro x2_37 x4_37 ls h hl
              rw [wp_Herd_kinSum_L37] at h
              refine lv_iload hx hb d_Herd_kinSum_37 (lv_at hl 0 rfl) ?_
              refine lv_iload_n hx hb d_Herd_kinSum_39 rfl (lv_at hl 2 rfl) ?_
              refine lv_icmp_ge (tgt := 72) hx hb d_Herd_kinSum_40 (by decide) (fun c6 => ?_) (fun c6 => ?_)
              · have h := h.1 c6
                refine lv_iinc (v := (x3_4 + 1)) (lv' := [(3, .int (x3_4 + 1)), (4, .int x4_37), (2, .int x2_37), (0, .ref q_this), (1, .int x1)]) hx hb d_Herd_kinSum_72 hl (k := 2) rfl rfl (by decide) rfl (fun ls hl => ?_)
                refine lv_goto (tgt := 4) hx hb d_Herd_kinSum_75 (by decide) ?_
                exact ih4 x2_37 (x3_4 + 1) ls h (lv_sub hl [0, 2, 3, 4] rfl)
              · have h := h.2 c6
                refine lv_iload_n hx hb d_Herd_kinSum_43 rfl (lv_at hl 4 rfl) ?_
                refine lv_iload hx hb d_Herd_kinSum_44 (lv_at hl 0 rfl) ?_
                refine vp_callSi (va_Run.run (va_runSN (As := [.int x1, .int x4_37]) (rest := []) ⟨hx, hb, hml, hown, hts⟩ (c_PairChoice_has l dC dI cI cJ cG cZ     (x1 : Int32) (x4_37 : Int32) _ h) ⟨va_cnB 2 hts (gcB kw_266) rfl rfl rfl (nw_322 hN) (hts _ (List.mem_cons_of_mem _ kw_39)) (by decide +kernel) ⟨Nat.le_of_ble_eq_true rfl, Nat.le_of_ble_eq_true rfl⟩, (hts _ (List.mem_cons_of_mem _ kw_265)), trivial⟩ ⟨fb_s, pre_s hK hN⟩ rfl rfl hl.1 rfl (lv_room (Nat.le_of_ble_eq_true rfl)) d_Herd_kinSum_46 ⟨Nat.zero_le _, Nat.zero_le _⟩)) (fun r7 h => ?_)
                obtain ⟨br7, h⟩ := h
                refine lv_if_eq (tgt := 66) hx hb d_Herd_kinSum_49 (by decide) (fun c8 => ?_) (fun c8 => ?_)
                · have h := h.1 c8
                  refine lv_iinc (v := (x4_37 + 1)) (lv' := [(4, .int (x4_37 + 1)), (2, .int x2_37), (3, .int x3_4), (0, .ref q_this), (1, .int x1)]) hx hb d_Herd_kinSum_66 hl (k := 0) rfl rfl (by decide) rfl (fun ls hl => ?_)
                  refine lv_goto (tgt := 37) hx hb d_Herd_kinSum_69 (by decide) ?_
                  exact ih37 x2_37 (x4_37 + 1) ls h (lv_sub hl [0, 1, 2, 3, 4] rfl)
                · have h := h.2 c8
                  refine lv_iload_n hx hb d_Herd_kinSum_52 rfl (lv_at hl 1 rfl) ?_
                  refine lv_iconst (v := 2) hx hb d_Herd_kinSum_53 (by decide) ?_
                  refine lv_aload_n hx hb d_Herd_kinSum_54 rfl (lv_at hl 3 rfl) ?_
                  refine va_get (D := (dC, dI)) (ci := 1) (v := .ref q_this_kinships) (C := "PairChoice$Herd") (T := F_Herd) (N := 9) hx hb hts (fun w h => List.mem_cons_of_mem _ (i_Herd w h)) hown hK hP 0 rfl rfl 4 (by decide) (hts _ (List.mem_cons_of_mem _ kw_76)) (fun _ h9 => h9) rfl d_Herd_kinSum_55 ?_
                  refine lv_iload_n hx hb d_Herd_kinSum_58 rfl (lv_at hl 2 rfl) ?_
                  obtain ⟨i9, h⟩ := h
                  refine ga_ald hx hb hK hP 1 2 rfl rfl i9 d_Herd_kinSum_59 ?_
                  rw [gw_at i9]
                  refine lv_iload hx hb d_Herd_kinSum_60 (lv_at hl 0 rfl) ?_
                  obtain ⟨i10, h⟩ := h
                  refine va_iald hx hb hK hP (2 + x3_4.toNatClampNeg) 0 (rws_at rfl i9) rfl i10 d_Herd_kinSum_62 ?_
                  refine lv_imul hx hb d_Herd_kinSum_63 ?_
                  refine lv_iadd hx hb d_Herd_kinSum_64 ?_
                  refine lv_istore_n (lv' := [(2, .int (x2_37 + ((2 : Int32) * (v_this_kinships x3_4.toNatClampNeg x4_37.toNatClampNeg)))), (4, .int x4_37), (3, .int x3_4), (0, .ref q_this), (1, .int x1)]) hx hb d_Herd_kinSum_65 rfl hl (by decide) rfl (fun ls hl => ?_)
                  refine lv_iinc (v := (x4_37 + 1)) (lv' := [(4, .int (x4_37 + 1)), (2, .int (x2_37 + ((2 : Int32) * (v_this_kinships x3_4.toNatClampNeg x4_37.toNatClampNeg)))), (3, .int x3_4), (0, .ref q_this), (1, .int x1)]) hx hb d_Herd_kinSum_66 hl (k := 1) rfl rfl (by decide) rfl (fun ls hl => ?_)
                  refine lv_goto (tgt := 37) hx hb d_Herd_kinSum_69 (by decide) ?_
                  exact ih37 (x2_37 + ((2 : Int32) * (v_this_kinships x3_4.toNatClampNeg x4_37.toNatClampNeg))) (x4_37 + 1) ls h (lv_sub hl [0, 1, 2, 3, 4] rfl)
          exact lp37 nn (x2_4 + (v_this_kinships x3_4.toNatClampNeg x3_4.toNatClampNeg)) (0) ls h hl
        · have h := h.2 c3
          refine lv_goto (tgt := 72) hx hb d_Herd_kinSum_20 (by decide) ?_
          refine lv_iinc (v := (x3_4 + 1)) (lv' := [(3, .int (x3_4 + 1)), (2, .int x2_4), (0, .ref q_this), (1, .int x1)]) hx hb d_Herd_kinSum_72 hl (k := 0) rfl rfl (by decide) rfl (fun ls hl => ?_)
          refine lv_goto (tgt := 4) hx hb d_Herd_kinSum_75 (by decide) ?_
          exact ih4 x2_4 (x3_4 + 1) ls h (lv_sub hl [0, 1, 2, 3] rfl)
  exact lp4 nn (0) (0) ls h hl
set_option maxHeartbeats 4000000 in
set_option maxRecDepth 100000 in
theorem c_Herd_keepsFamilies (l : Launch) (dC : Nat → ClassId) (dI : Nat → Nat → Nat) (cI cJ cG cZ : ClassId) (q_this q_this_barred q_this_families q_this_kinships q_this_leastOfFamily q_this_worths : Nat) (v_this_count : Int32) (v_this_families : (Nat → Int32)) (v_this_kinLimit : Int32) (v_this_leastOfFamily : (Nat → Int32)) (v_this_males : Int32) (v_this_mostOfFamily : Int32) (x1 : Int32) (post : Int32 → Prop) (h : wp_Herd_keepsFamilies v_this_families v_this_leastOfFamily v_this_mostOfFamily x1 post) : Met l y_Herd_keepsFamilies w_Herd_keepsFamilies ({ frames := 1, cells := 0, slots := 0, locals := 20 } : Room) (va_Pc [.ref q_this, .int x1] (pcR dC dI cI cJ cG cZ ([(q_this, .inr (1, [.int v_this_count, .int v_this_males, .ref q_this_worths, .ref q_this_families, .ref q_this_kinships, .ref q_this_barred, .int v_this_kinLimit, .int v_this_mostOfFamily, .ref q_this_leastOfFamily])), (q_this_families, .inl (cI, 8, .inl v_this_families)), (q_this_leastOfFamily, .inl (cI, 8, .inl v_this_leastOfFamily))]))) (vp_Si (fun r => (r = 0 ∨ r = 1) ∧ post r)) 0 0 (fun _ => False) := by
  refine Met.ofW (cc := b_Herd_keepsFamilies) (maxL := 4) (ret := (some .boolean)) (by decide) rfl ?_
  intro p e s m args below meth c s₁ B hml hv
  obtain ⟨rfl, hP, hK, hN⟩ := hv
  have hx := B.exec
  have hb := B.bytes
  have hr := B.returns
  have hts := atoms_spec (ws := w_Herd_keepsFamilies) B.pre
  have hown : s.vm.findClass "PairChoice$Herd" = some m.cls := findClass_of_methodNamed B.named
  have hlocks := B.notSynchronized
  have hl := lv_entry ([.ref q_this, .int x1]) (n := 4) (Nat.le_of_ble_eq_true rfl)
  rw [lg_entry_eq]
  generalize (lg_sl ([.ref q_this, .int x1]) ++ List.replicate (4 - (lg_sl ([.ref q_this, .int x1])).length) Slot.unset).toArray = ls at hl ⊢
  have hl : lv_has ls 4 [(0, .ref q_this), (1, .int x1)] := hl
  unfold wp_Herd_keepsFamilies at h
  refine lv_iconst (v := 0) hx hb d_Herd_keepsFamilies_0 (by decide) ?_
  refine lv_istore_n (lv' := [(2, .int 0), (0, .ref q_this), (1, .int x1)]) hx hb d_Herd_keepsFamilies_1 rfl hl (by decide) rfl (fun ls hl => ?_)
  obtain ⟨nn, h⟩ := h
  have lp2 : ∀ (n2 : Nat) (x2_2 : Int32) (ls : Array Slot), wp_Herd_keepsFamilies_L2 v_this_families v_this_leastOfFamily v_this_mostOfFamily x1 post n2 x2_2 → lv_has ls 4 [(2, .int x2_2), (0, .ref q_this), (1, .int x1)] → W p l e (headSpec w_Herd_keepsFamilies ({ frames := 1, cells := 0, slots := 0, locals := 20 } : Room)).room s m ([.ref q_this, .int x1] : List Value).toArray below meth c s.heap [] 0 0 (MQ below (vp_Si (fun r => (r = 0 ∨ r = 1) ∧ post r)) ([.ref q_this, .int x1] : List Value).toArray s 0 0 (fun _ => False)) (F0 m 2 ls []) := by
    intro n2
    induction n2 with
    | zero =>
      intro x2_2 ls h
      rw [wp_Herd_keepsFamilies_L2] at h
      exact h.elim
    | succ n2 ih2 =>
      intro x2_2 ls h hl
      rw [wp_Herd_keepsFamilies_L2] at h
      refine lv_iload_n hx hb d_Herd_keepsFamilies_2 rfl (lv_at hl 0 rfl) ?_
      refine lv_bipush (v := 8) hx hb d_Herd_keepsFamilies_3 (by decide) ?_
      refine lv_icmp_ge (tgt := 53) hx hb d_Herd_keepsFamilies_5 (by decide) (fun c1 => ?_) (fun c1 => ?_)
      · have h := h.1 c1
        refine lv_iconst (v := 1) hx hb d_Herd_keepsFamilies_53 (by decide) ?_
        exact W.zret hx hb hr (z_nar (Or.inr rfl)) (fun t ht hW => ⟨_, rfl, ⟨Or.inr rfl, h⟩, ht⟩) (fun _ h9 => by cases h9) d_Herd_keepsFamilies_54
      · have h := h.2 c1
        refine lv_iload_n hx hb d_Herd_keepsFamilies_8 rfl (lv_at hl 2 rfl) ?_
        refine lv_aload_n hx hb d_Herd_keepsFamilies_9 rfl (lv_at hl 1 rfl) ?_
        refine va_get (D := (dC, dI)) (ci := 1) (v := .ref q_this_families) (C := "PairChoice$Herd") (T := F_Herd) (N := 9) hx hb hts (fun w h => List.mem_cons_of_mem _ (i_Herd w h)) hown hK hP 0 rfl rfl 3 (by decide) (hts _ (List.mem_cons_of_mem _ kw_75)) (fun _ h9 => h9) rfl d_Herd_keepsFamilies_10 ?_
        refine lv_iload_n hx hb d_Herd_keepsFamilies_13 rfl (lv_at hl 0 rfl) ?_
        obtain ⟨i2, h⟩ := h
        refine va_iald hx hb hK hP 1 0 rfl rfl i2 d_Herd_keepsFamilies_14 ?_
        refine lv_iand hx hb d_Herd_keepsFamilies_15 ?_
        refine vp_callSi (va_Run.run (va_runS (As := [.int (x1 &&& (v_this_families x2_2.toNatClampNeg))]) (rest := []) ⟨hx, hb, hml, hown, hts⟩ (c_Integer_bitCount l dC dI cI cJ cG cZ     ((x1 &&& (v_this_families x2_2.toNatClampNeg)) : Int32) _ h) (va_cwS 1 hts (gcS kw_317 kw_292 kw_46 kw_293) rfl rfl rfl (by decide +kernel) ⟨Nat.le_of_ble_eq_true rfl, Nat.le_of_ble_eq_true rfl⟩) ⟨fb_s, pre_s hK hN⟩ rfl rfl hl.1 rfl (lv_room (Nat.le_of_ble_eq_true rfl)) d_Herd_keepsFamilies_16 ⟨Nat.zero_le _, Nat.zero_le _⟩)) (fun r3 h => ?_)
        refine lv_istore_n (lv' := [(3, .int r3), (2, .int x2_2), (0, .ref q_this), (1, .int x1)]) hx hb d_Herd_keepsFamilies_19 rfl hl (by decide) rfl (fun ls hl => ?_)
        refine lv_iload_n hx hb d_Herd_keepsFamilies_20 rfl (lv_at hl 0 rfl) ?_
        refine lv_aload_n hx hb d_Herd_keepsFamilies_21 rfl (lv_at hl 2 rfl) ?_
        refine va_get (D := (dC, dI)) (ci := 1) (v := .ref q_this_leastOfFamily) (C := "PairChoice$Herd") (T := F_Herd) (N := 9) hx hb hts (fun w h => List.mem_cons_of_mem _ (i_Herd w h)) hown hK hP 0 rfl rfl 8 (by decide) (hts _ (List.mem_cons_of_mem _ kw_86)) (fun _ h9 => h9) rfl d_Herd_keepsFamilies_22 ?_
        refine lv_iload_n hx hb d_Herd_keepsFamilies_25 rfl (lv_at hl 1 rfl) ?_
        obtain ⟨i4, h⟩ := h
        refine va_iald hx hb hK hP 2 0 rfl rfl i4 d_Herd_keepsFamilies_26 ?_
        refine lv_icmp_lt (tgt := 45) hx hb d_Herd_keepsFamilies_27 (by decide) (fun c5 => ?_) (fun c5 => ?_)
        · have h := h.1 c5
          refine lv_iconst (v := 0) hx hb d_Herd_keepsFamilies_45 (by decide) ?_
          exact W.zret hx hb hr (z_nar (Or.inl rfl)) (fun t ht hW => ⟨_, rfl, ⟨Or.inl rfl, h⟩, ht⟩) (fun _ h9 => by cases h9) d_Herd_keepsFamilies_46
        · have h := h.2 c5
          refine lv_aload_n hx hb d_Herd_keepsFamilies_30 rfl (lv_at hl 2 rfl) ?_
          refine va_get (D := (dC, dI)) (ci := 1) (v := .int v_this_mostOfFamily) (C := "PairChoice$Herd") (T := F_Herd) (N := 9) hx hb hts (fun w h => List.mem_cons_of_mem _ (i_Herd w h)) hown hK hP 0 rfl rfl 7 (by decide) (hts _ (List.mem_cons_of_mem _ kw_84)) (fun _ h9 => h9) rfl d_Herd_keepsFamilies_31 ?_
          refine lv_if_le (tgt := 47) hx hb d_Herd_keepsFamilies_34 (by decide) (fun c6 => ?_) (fun c6 => ?_)
          · have h := h.1 c6
            refine lv_iinc (v := (x2_2 + 1)) (lv' := [(2, .int (x2_2 + 1)), (3, .int r3), (0, .ref q_this), (1, .int x1)]) hx hb d_Herd_keepsFamilies_47 hl (k := 1) rfl rfl (by decide) rfl (fun ls hl => ?_)
            refine lv_goto (tgt := 2) hx hb d_Herd_keepsFamilies_50 (by decide) ?_
            exact ih2 (x2_2 + 1) ls h (lv_sub hl [0, 2, 3] rfl)
          · have h := h.2 c6
            refine lv_iload_n hx hb d_Herd_keepsFamilies_37 rfl (lv_at hl 0 rfl) ?_
            refine lv_aload_n hx hb d_Herd_keepsFamilies_38 rfl (lv_at hl 2 rfl) ?_
            refine va_get (D := (dC, dI)) (ci := 1) (v := .int v_this_mostOfFamily) (C := "PairChoice$Herd") (T := F_Herd) (N := 9) hx hb hts (fun w h => List.mem_cons_of_mem _ (i_Herd w h)) hown hK hP 0 rfl rfl 7 (by decide) (hts _ (List.mem_cons_of_mem _ kw_84)) (fun _ h9 => h9) rfl d_Herd_keepsFamilies_39 ?_
            refine lv_icmp_le (tgt := 47) hx hb d_Herd_keepsFamilies_42 (by decide) (fun c7 => ?_) (fun c7 => ?_)
            · have h := h.1 c7
              refine lv_iinc (v := (x2_2 + 1)) (lv' := [(2, .int (x2_2 + 1)), (3, .int r3), (0, .ref q_this), (1, .int x1)]) hx hb d_Herd_keepsFamilies_47 hl (k := 1) rfl rfl (by decide) rfl (fun ls hl => ?_)
              refine lv_goto (tgt := 2) hx hb d_Herd_keepsFamilies_50 (by decide) ?_
              exact ih2 (x2_2 + 1) ls h (lv_sub hl [0, 2, 3] rfl)
            · have h := h.2 c7
              refine lv_iconst (v := 0) hx hb d_Herd_keepsFamilies_45 (by decide) ?_
              exact W.zret hx hb hr (z_nar (Or.inl rfl)) (fun t ht hW => ⟨_, rfl, ⟨Or.inl rfl, h⟩, ht⟩) (fun _ h9 => by cases h9) d_Herd_keepsFamilies_46
  exact lp2 nn (0) ls h hl
set_option maxHeartbeats 4000000 in
set_option maxRecDepth 100000 in
theorem c_Herd_keepsRules (l : Launch) (dC : Nat → ClassId) (dI : Nat → Nat → Nat) (cI cJ cG cZ : ClassId) (rw_this_kinships : Nat → Nat) (q_this q_this_barred q_this_families q_this_kinships q_this_leastOfFamily q_this_worths : Nat) (v_this_count : Int32) (v_this_families : (Nat → Int32)) (v_this_kinLimit : Int32) (v_this_kinships : (Nat → Nat → Int32)) (v_this_leastOfFamily : (Nat → Int32)) (v_this_males : Int32) (v_this_mostOfFamily : Int32) (x1 : Int32) (x2 : Int32) (post : Int32 → Prop) (h : wp_Herd_keepsRules v_this_count v_this_families v_this_kinLimit v_this_kinships v_this_leastOfFamily v_this_mostOfFamily x1 x2 post) : Met l y_Herd_keepsRules w_Herd_keepsRules ({ frames := 2, cells := 0, slots := 0, locals := 45 } : Room) (va_Pc [.ref q_this, .int x1, .int x2] (pcR dC dI cI cJ cG cZ ([(q_this, .inr (1, [.int v_this_count, .int v_this_males, .ref q_this_worths, .ref q_this_families, .ref q_this_kinships, .ref q_this_barred, .int v_this_kinLimit, .int v_this_mostOfFamily, .ref q_this_leastOfFamily])), (q_this_families, .inl (cI, 8, .inl v_this_families)), (q_this_kinships, .inl (cG, 12, .inr (.inr (.inr (.inr (gw rw_this_kinships)))))), (q_this_leastOfFamily, .inl (cI, 8, .inl v_this_leastOfFamily))] ++ rws rw_this_kinships cI v_this_kinships))) (vp_Si (fun r => (r = 0 ∨ r = 1) ∧ post r)) 0 0 (fun _ => False) := by
  refine Met.ofW (cc := b_Herd_keepsRules) (maxL := 3) (ret := (some .boolean)) (by decide) rfl ?_
  intro p e s m args below meth c s₁ B hml hv
  obtain ⟨rfl, hP, hK, hN⟩ := hv
  have hx := B.exec
  have hb := B.bytes
  have hr := B.returns
  have hts := atoms_spec (ws := w_Herd_keepsRules) B.pre
  have hown : s.vm.findClass "PairChoice$Herd" = some m.cls := findClass_of_methodNamed B.named
  have hlocks := B.notSynchronized
  have hl := lv_entry ([.ref q_this, .int x1, .int x2]) (n := 3) (Nat.le_of_ble_eq_true rfl)
  rw [lg_entry_eq]
  generalize (lg_sl ([.ref q_this, .int x1, .int x2]) ++ List.replicate (3 - (lg_sl ([.ref q_this, .int x1, .int x2])).length) Slot.unset).toArray = ls at hl ⊢
  have hl : lv_has ls 3 [(0, .ref q_this), (1, .int x1), (2, .int x2)] := hl
  unfold wp_Herd_keepsRules at h
  refine lv_aload_n hx hb d_Herd_keepsRules_0 rfl (lv_at hl 0 rfl) ?_
  refine lv_iload_n hx hb d_Herd_keepsRules_1 rfl (lv_at hl 1 rfl) ?_
  have hPc := hP.sub (ws' := [(q_this, .inr (1, [.int v_this_count, .int v_this_males, .ref q_this_worths, .ref q_this_families, .ref q_this_kinships, .ref q_this_barred, .int v_this_kinLimit, .int v_this_mostOfFamily, .ref q_this_leastOfFamily])), (q_this_families, .inl (cI, 8, .inl v_this_families)), (q_this_leastOfFamily, .inl (cI, 8, .inl v_this_leastOfFamily))]) [0, 1, 3] rfl
  refine vp_callSi (va_Run.run (va_runV (As := [.int x1]) (rest := []) ⟨hx, hb, hml, hown, hts⟩ (c_Herd_keepsFamilies l dC dI cI cJ cG cZ  q_this q_this_barred q_this_families q_this_kinships q_this_leastOfFamily q_this_worths  v_this_count v_this_families v_this_kinLimit v_this_leastOfFamily v_this_males v_this_mostOfFamily (x1 : Int32) _ h) (cwV 1 hts (gcV kw_313 kw_315 kw_10 kw_40 kw_316) rfl rfl rfl (by decide +kernel) ⟨Nat.le_of_ble_eq_true rfl, Nat.le_of_ble_eq_true rfl⟩) ⟨fb_r, va_recv hK hPc (ci := 1) (q0 := 0) rfl rfl, pre_r hPc hK hN⟩ rfl rfl hl.1 rfl (lv_room (Nat.le_of_ble_eq_true rfl)) d_Herd_keepsRules_2 ⟨Nat.zero_le _, Nat.zero_le _⟩)) (fun r1 h => ?_)
  obtain ⟨br1, h⟩ := h
  refine lv_if_eq (tgt := 30) hx hb d_Herd_keepsRules_5 (by decide) (fun c2 => ?_) (fun c2 => ?_)
  · have h := h.1 c2
    refine lv_iconst (v := 0) hx hb d_Herd_keepsRules_30 (by decide) ?_
    exact W.zret hx hb hr (z_nar (Or.inl rfl)) (fun t ht hW => ⟨_, rfl, ⟨Or.inl rfl, h⟩, ht⟩) (fun _ h9 => by cases h9) d_Herd_keepsRules_31
  · have h := h.2 c2
    refine lv_aload_n hx hb d_Herd_keepsRules_8 rfl (lv_at hl 0 rfl) ?_
    refine lv_iload_n hx hb d_Herd_keepsRules_9 rfl (lv_at hl 1 rfl) ?_
    have hPc := hP.sub (ws' := [(q_this, .inr (1, [.int v_this_count, .int v_this_males, .ref q_this_worths, .ref q_this_families, .ref q_this_kinships, .ref q_this_barred, .int v_this_kinLimit, .int v_this_mostOfFamily, .ref q_this_leastOfFamily])), (q_this_kinships, .inl (cG, 12, .inr (.inr (.inr (.inr (gw rw_this_kinships))))))] ++ rws rw_this_kinships cI v_this_kinships) [0, 2, 4, 5, 6, 7, 8, 9, 10, 11, 12, 13, 14, 15] rfl
    refine vp_callSi (va_Run.run (va_runV (As := [.int x1]) (rest := []) ⟨hx, hb, hml, hown, hts⟩ (c_Herd_kinSum l dC dI cI cJ cG cZ rw_this_kinships q_this q_this_barred q_this_families q_this_kinships q_this_leastOfFamily q_this_worths  v_this_count v_this_kinLimit v_this_kinships v_this_males v_this_mostOfFamily (x1 : Int32) _ h) (cwV 1 hts (gcV kw_318 kw_320 kw_11 kw_40 kw_321) rfl rfl rfl (by decide +kernel) ⟨Nat.le_of_ble_eq_true rfl, Nat.le_of_ble_eq_true rfl⟩) ⟨fb_r, va_recv hK hPc (ci := 1) (q0 := 0) rfl rfl, pre_r hPc hK hN⟩ rfl rfl hl.1 rfl (lv_room (Nat.le_of_ble_eq_true rfl)) d_Herd_keepsRules_10 ⟨Nat.zero_le _, Nat.zero_le _⟩)) (fun r3 h => ?_)
    refine lv_iconst (v := 4) hx hb d_Herd_keepsRules_13 (by decide) ?_
    refine lv_iload_n hx hb d_Herd_keepsRules_14 rfl (lv_at hl 2 rfl) ?_
    refine lv_imul hx hb d_Herd_keepsRules_15 ?_
    refine lv_iload_n hx hb d_Herd_keepsRules_16 rfl (lv_at hl 2 rfl) ?_
    refine lv_imul hx hb d_Herd_keepsRules_17 ?_
    refine lv_aload_n hx hb d_Herd_keepsRules_18 rfl (lv_at hl 0 rfl) ?_
    refine va_get (D := (dC, dI)) (ci := 1) (v := .int v_this_kinLimit) (C := "PairChoice$Herd") (T := F_Herd) (N := 9) hx hb hts (fun w h => List.mem_cons_of_mem _ (i_Herd w h)) hown hK hP 0 rfl rfl 6 (by decide) (hts _ (List.mem_cons_of_mem _ kw_82)) (fun _ h9 => h9) rfl d_Herd_keepsRules_19 ?_
    refine lv_imul hx hb d_Herd_keepsRules_22 ?_
    refine lv_icmp_gt (tgt := 30) hx hb d_Herd_keepsRules_23 (by decide) (fun c4 => ?_) (fun c4 => ?_)
    · have h := h.1 c4
      refine lv_iconst (v := 0) hx hb d_Herd_keepsRules_30 (by decide) ?_
      exact W.zret hx hb hr (z_nar (Or.inl rfl)) (fun t ht hW => ⟨_, rfl, ⟨Or.inl rfl, h⟩, ht⟩) (fun _ h9 => by cases h9) d_Herd_keepsRules_31
    · have h := h.2 c4
      refine lv_iconst (v := 1) hx hb d_Herd_keepsRules_26 (by decide) ?_
      refine lv_goto (tgt := 31) hx hb d_Herd_keepsRules_27 (by decide) ?_
      exact W.zret hx hb hr (z_nar (Or.inr rfl)) (fun t ht hW => ⟨_, rfl, ⟨Or.inr rfl, h⟩, ht⟩) (fun _ h9 => by cases h9) d_Herd_keepsRules_31
set_option maxHeartbeats 4000000 in
set_option maxRecDepth 100000 in
theorem c_SetList_best (l : Launch) (dC : Nat → ClassId) (dI : Nat → Nat → Nat) (cI cJ cG cZ : ClassId) (q_this q_this_herd q_this_listed q_this_sums q_this_trial : Nat) (v_this_listed : (Nat → Int32)) (v_this_pairs : Int32) (v_this_size : Int32) (v_this_sums : (Nat → Int32))  (post : Int32 → Prop) (h : wp_SetList_best v_this_listed v_this_size v_this_sums post) : Met l y_SetList_best w_SetList_best ({ frames := 1, cells := 0, slots := 0, locals := 22 } : Room) (va_Pc [.ref q_this] (pcR dC dI cI cJ cG cZ ([(q_this, .inr (4, [.ref q_this_herd, .ref q_this_trial, .ref q_this_listed, .ref q_this_sums, .int v_this_size, .int v_this_pairs])), (q_this_listed, .inl (cI, 400, .inl v_this_listed)), (q_this_sums, .inl (cI, 400, .inl v_this_sums))]))) (vp_Si (fun r => post r)) 0 0 (fun _ => False) := by
  refine Met.ofW (cc := b_SetList_best) (maxL := 4) (ret := (some .int)) (by decide) rfl ?_
  intro p e s m args below meth c s₁ B hml hv
  obtain ⟨rfl, hP, hK, hN⟩ := hv
  have hx := B.exec
  have hb := B.bytes
  have hr := B.returns
  have hts := atoms_spec (ws := w_SetList_best) B.pre
  have hown : s.vm.findClass "PairChoice$SetList" = some m.cls := findClass_of_methodNamed B.named
  have hlocks := B.notSynchronized
  have hl := lv_entry ([.ref q_this]) (n := 4) (Nat.le_of_ble_eq_true rfl)
  rw [lg_entry_eq]
  generalize (lg_sl ([.ref q_this]) ++ List.replicate (4 - (lg_sl ([.ref q_this])).length) Slot.unset).toArray = ls at hl ⊢
  have hl : lv_has ls 4 [(0, .ref q_this)] := hl
  unfold wp_SetList_best at h
  refine lv_iconst (v := 0) hx hb d_SetList_best_0 (by decide) ?_
  refine lv_istore_n (lv' := [(1, .int 0), (0, .ref q_this)]) hx hb d_SetList_best_1 rfl hl (by decide) rfl (fun ls hl => ?_)
  refine lv_ldc (v := (-100000000)) hx hb hown (hts _ (List.mem_cons_of_mem _ kw_346)) d_SetList_best_2 ?_
  refine lv_istore_n (lv' := [(2, .int (-100000000)), (1, .int 0), (0, .ref q_this)]) hx hb d_SetList_best_4 rfl hl (by decide) rfl (fun ls hl => ?_)
  refine lv_iconst (v := 0) hx hb d_SetList_best_5 (by decide) ?_
  refine lv_istore_n (lv' := [(3, .int 0), (2, .int (-100000000)), (1, .int 0), (0, .ref q_this)]) hx hb d_SetList_best_6 rfl hl (by decide) rfl (fun ls hl => ?_)
  obtain ⟨nn, h⟩ := h
  have lp7 : ∀ (n7 : Nat) (x1_7 : Int32) (x2_7 : Int32) (x3_7 : Int32) (ls : Array Slot), wp_SetList_best_L7 v_this_listed v_this_size v_this_sums post n7 x1_7 x2_7 x3_7 → lv_has ls 4 [(3, .int x3_7), (2, .int x2_7), (1, .int x1_7), (0, .ref q_this)] → W p l e (headSpec w_SetList_best ({ frames := 1, cells := 0, slots := 0, locals := 22 } : Room)).room s m ([.ref q_this] : List Value).toArray below meth c s.heap [] 0 0 (MQ below (vp_Si (fun r => post r)) ([.ref q_this] : List Value).toArray s 0 0 (fun _ => False)) (F0 m 7 ls []) := by
    intro n7
    induction n7 with
    | zero =>
      intro x1_7 x2_7 x3_7 ls h
      rw [wp_SetList_best_L7] at h
      exact h.elim
    | succ n7 ih7 =>
      intro x1_7 x2_7 x3_7 ls h hl
      rw [wp_SetList_best_L7] at h
      refine lv_iload_n hx hb d_SetList_best_7 rfl (lv_at hl 0 rfl) ?_
      refine lv_aload_n hx hb d_SetList_best_8 rfl (lv_at hl 3 rfl) ?_
      refine va_get (D := (dC, dI)) (ci := 4) (v := .int v_this_size) (C := "PairChoice$SetList") (T := F_SetList) (N := 6) hx hb hts (fun w h => List.mem_cons_of_mem _ (i_SetList w h)) hown hK hP 0 rfl rfl 4 (by decide) (hts _ (List.mem_cons_of_mem _ kw_135)) (fun _ h9 => h9) rfl d_SetList_best_9 ?_
      refine lv_icmp_ge (tgt := 68) hx hb d_SetList_best_12 (by decide) (fun c1 => ?_) (fun c1 => ?_)
      · have h := h.1 c1
        refine lv_iload_n hx hb d_SetList_best_68 rfl (lv_at hl 2 rfl) ?_
        exact W.iret hx hb hr (fun t ht hW => ⟨_, rfl, h, ht⟩) (fun _ h9 => by cases h9) d_SetList_best_69
      · have h := h.2 c1
        refine lv_aload_n hx hb d_SetList_best_15 rfl (lv_at hl 3 rfl) ?_
        refine va_get (D := (dC, dI)) (ci := 4) (v := .ref q_this_sums) (C := "PairChoice$SetList") (T := F_SetList) (N := 6) hx hb hts (fun w h => List.mem_cons_of_mem _ (i_SetList w h)) hown hK hP 0 rfl rfl 3 (by decide) (hts _ (List.mem_cons_of_mem _ kw_134)) (fun _ h9 => h9) rfl d_SetList_best_16 ?_
        refine lv_iload_n hx hb d_SetList_best_19 rfl (lv_at hl 0 rfl) ?_
        obtain ⟨i2, h⟩ := h
        refine va_iald hx hb hK hP 2 0 rfl rfl i2 d_SetList_best_20 ?_
        refine lv_iload_n hx hb d_SetList_best_21 rfl (lv_at hl 1 rfl) ?_
        refine lv_icmp_gt (tgt := 48) hx hb d_SetList_best_22 (by decide) (fun c3 => ?_) (fun c3 => ?_)
        · have h := h.1 c3
          refine lv_aload_n hx hb d_SetList_best_48 rfl (lv_at hl 3 rfl) ?_
          refine va_get (D := (dC, dI)) (ci := 4) (v := .ref q_this_listed) (C := "PairChoice$SetList") (T := F_SetList) (N := 6) hx hb hts (fun w h => List.mem_cons_of_mem _ (i_SetList w h)) hown hK hP 0 rfl rfl 2 (by decide) (hts _ (List.mem_cons_of_mem _ kw_133)) (fun _ h9 => h9) rfl d_SetList_best_49 ?_
          refine lv_iload_n hx hb d_SetList_best_52 rfl (lv_at hl 0 rfl) ?_
          obtain ⟨i4, h⟩ := h
          refine va_iald hx hb hK hP 1 0 rfl rfl i4 d_SetList_best_53 ?_
          refine lv_istore_n (lv' := [(1, .int (v_this_listed x3_7.toNatClampNeg)), (3, .int x3_7), (2, .int x2_7), (0, .ref q_this)]) hx hb d_SetList_best_54 rfl hl (by decide) rfl (fun ls hl => ?_)
          refine lv_aload_n hx hb d_SetList_best_55 rfl (lv_at hl 3 rfl) ?_
          refine va_get (D := (dC, dI)) (ci := 4) (v := .ref q_this_sums) (C := "PairChoice$SetList") (T := F_SetList) (N := 6) hx hb hts (fun w h => List.mem_cons_of_mem _ (i_SetList w h)) hown hK hP 0 rfl rfl 3 (by decide) (hts _ (List.mem_cons_of_mem _ kw_134)) (fun _ h9 => h9) rfl d_SetList_best_56 ?_
          refine lv_iload_n hx hb d_SetList_best_59 rfl (lv_at hl 1 rfl) ?_
          obtain ⟨i5, h⟩ := h
          refine va_iald hx hb hK hP 2 0 rfl rfl i5 d_SetList_best_60 ?_
          refine lv_istore_n (lv' := [(2, .int (v_this_sums x3_7.toNatClampNeg)), (1, .int (v_this_listed x3_7.toNatClampNeg)), (3, .int x3_7), (0, .ref q_this)]) hx hb d_SetList_best_61 rfl hl (by decide) rfl (fun ls hl => ?_)
          refine lv_iinc (v := (x3_7 + 1)) (lv' := [(3, .int (x3_7 + 1)), (2, .int (v_this_sums x3_7.toNatClampNeg)), (1, .int (v_this_listed x3_7.toNatClampNeg)), (0, .ref q_this)]) hx hb d_SetList_best_62 hl (k := 2) rfl rfl (by decide) rfl (fun ls hl => ?_)
          refine lv_goto (tgt := 7) hx hb d_SetList_best_65 (by decide) ?_
          exact ih7 (v_this_listed x3_7.toNatClampNeg) (v_this_sums x3_7.toNatClampNeg) (x3_7 + 1) ls h (lv_sub hl [0, 1, 2, 3] rfl)
        · have h := h.2 c3
          refine lv_aload_n hx hb d_SetList_best_25 rfl (lv_at hl 3 rfl) ?_
          refine va_get (D := (dC, dI)) (ci := 4) (v := .ref q_this_sums) (C := "PairChoice$SetList") (T := F_SetList) (N := 6) hx hb hts (fun w h => List.mem_cons_of_mem _ (i_SetList w h)) hown hK hP 0 rfl rfl 3 (by decide) (hts _ (List.mem_cons_of_mem _ kw_134)) (fun _ h9 => h9) rfl d_SetList_best_26 ?_
          refine lv_iload_n hx hb d_SetList_best_29 rfl (lv_at hl 0 rfl) ?_
          obtain ⟨i6, h⟩ := h
          refine va_iald hx hb hK hP 2 0 rfl rfl i6 d_SetList_best_30 ?_
          refine lv_iload_n hx hb d_SetList_best_31 rfl (lv_at hl 1 rfl) ?_
          refine lv_icmp_ne (tgt := 62) hx hb d_SetList_best_32 (by decide) (fun c7 => ?_) (fun c7 => ?_)
          · have h := h.1 c7
            refine lv_iinc (v := (x3_7 + 1)) (lv' := [(3, .int (x3_7 + 1)), (2, .int x2_7), (1, .int x1_7), (0, .ref q_this)]) hx hb d_SetList_best_62 hl (k := 0) rfl rfl (by decide) rfl (fun ls hl => ?_)
            refine lv_goto (tgt := 7) hx hb d_SetList_best_65 (by decide) ?_
            exact ih7 x1_7 x2_7 (x3_7 + 1) ls h (lv_sub hl [0, 1, 2, 3] rfl)
          · have h := h.2 c7
            refine lv_aload_n hx hb d_SetList_best_35 rfl (lv_at hl 3 rfl) ?_
            refine va_get (D := (dC, dI)) (ci := 4) (v := .ref q_this_listed) (C := "PairChoice$SetList") (T := F_SetList) (N := 6) hx hb hts (fun w h => List.mem_cons_of_mem _ (i_SetList w h)) hown hK hP 0 rfl rfl 2 (by decide) (hts _ (List.mem_cons_of_mem _ kw_133)) (fun _ h9 => h9) rfl d_SetList_best_36 ?_
            refine lv_iload_n hx hb d_SetList_best_39 rfl (lv_at hl 0 rfl) ?_
            obtain ⟨i8, h⟩ := h
            refine va_iald hx hb hK hP 1 0 rfl rfl i8 d_SetList_best_40 ?_
            refine lv_iload_n hx hb d_SetList_best_41 rfl (lv_at hl 2 rfl) ?_
            refine vp_callSi (va_Run.run (va_runS (As := [.int (v_this_listed x3_7.toNatClampNeg), .int x1_7]) (rest := []) ⟨hx, hb, hml, hown, hts⟩ (c_SetList_goesBefore l dC dI cI cJ cG cZ     ((v_this_listed x3_7.toNatClampNeg) : Int32) (x1_7 : Int32) _ h) (va_cwS 2 hts (gcS kw_347 kw_348 kw_41 kw_349) rfl rfl rfl (by decide +kernel) ⟨Nat.le_of_ble_eq_true rfl, Nat.le_of_ble_eq_true rfl⟩) ⟨fb_s, pre_s hK hN⟩ rfl rfl hl.1 rfl (lv_room (Nat.le_of_ble_eq_true rfl)) d_SetList_best_42 ⟨Nat.zero_le _, Nat.zero_le _⟩)) (fun r9 h => ?_)
            obtain ⟨br9, h⟩ := h
            refine lv_if_eq (tgt := 62) hx hb d_SetList_best_45 (by decide) (fun c10 => ?_) (fun c10 => ?_)
            · have h := h.1 c10
              refine lv_iinc (v := (x3_7 + 1)) (lv' := [(3, .int (x3_7 + 1)), (2, .int x2_7), (1, .int x1_7), (0, .ref q_this)]) hx hb d_SetList_best_62 hl (k := 0) rfl rfl (by decide) rfl (fun ls hl => ?_)
              refine lv_goto (tgt := 7) hx hb d_SetList_best_65 (by decide) ?_
              exact ih7 x1_7 x2_7 (x3_7 + 1) ls h (lv_sub hl [0, 1, 2, 3] rfl)
            · have h := h.2 c10
              refine lv_aload_n hx hb d_SetList_best_48 rfl (lv_at hl 3 rfl) ?_
              refine va_get (D := (dC, dI)) (ci := 4) (v := .ref q_this_listed) (C := "PairChoice$SetList") (T := F_SetList) (N := 6) hx hb hts (fun w h => List.mem_cons_of_mem _ (i_SetList w h)) hown hK hP 0 rfl rfl 2 (by decide) (hts _ (List.mem_cons_of_mem _ kw_133)) (fun _ h9 => h9) rfl d_SetList_best_49 ?_
              refine lv_iload_n hx hb d_SetList_best_52 rfl (lv_at hl 0 rfl) ?_
              obtain ⟨i11, h⟩ := h
              refine va_iald hx hb hK hP 1 0 rfl rfl i11 d_SetList_best_53 ?_
              refine lv_istore_n (lv' := [(1, .int (v_this_listed x3_7.toNatClampNeg)), (3, .int x3_7), (2, .int x2_7), (0, .ref q_this)]) hx hb d_SetList_best_54 rfl hl (by decide) rfl (fun ls hl => ?_)
              refine lv_aload_n hx hb d_SetList_best_55 rfl (lv_at hl 3 rfl) ?_
              refine va_get (D := (dC, dI)) (ci := 4) (v := .ref q_this_sums) (C := "PairChoice$SetList") (T := F_SetList) (N := 6) hx hb hts (fun w h => List.mem_cons_of_mem _ (i_SetList w h)) hown hK hP 0 rfl rfl 3 (by decide) (hts _ (List.mem_cons_of_mem _ kw_134)) (fun _ h9 => h9) rfl d_SetList_best_56 ?_
              refine lv_iload_n hx hb d_SetList_best_59 rfl (lv_at hl 1 rfl) ?_
              obtain ⟨i12, h⟩ := h
              refine va_iald hx hb hK hP 2 0 rfl rfl i12 d_SetList_best_60 ?_
              refine lv_istore_n (lv' := [(2, .int (v_this_sums x3_7.toNatClampNeg)), (1, .int (v_this_listed x3_7.toNatClampNeg)), (3, .int x3_7), (0, .ref q_this)]) hx hb d_SetList_best_61 rfl hl (by decide) rfl (fun ls hl => ?_)
              refine lv_iinc (v := (x3_7 + 1)) (lv' := [(3, .int (x3_7 + 1)), (2, .int (v_this_sums x3_7.toNatClampNeg)), (1, .int (v_this_listed x3_7.toNatClampNeg)), (0, .ref q_this)]) hx hb d_SetList_best_62 hl (k := 2) rfl rfl (by decide) rfl (fun ls hl => ?_)
              refine lv_goto (tgt := 7) hx hb d_SetList_best_65 (by decide) ?_
              exact ih7 (v_this_listed x3_7.toNatClampNeg) (v_this_sums x3_7.toNatClampNeg) (x3_7 + 1) ls h (lv_sub hl [0, 1, 2, 3] rfl)
  exact lp7 nn (0) (-100000000) (0) ls h hl
set_option maxHeartbeats 4000000 in
set_option maxRecDepth 100000 in
theorem c_SetList_greatestSumWith (l : Launch) (dC : Nat → ClassId) (dI : Nat → Nat → Nat) (cI cJ cG cZ : ClassId) (q_this q_this_herd q_this_listed q_this_sums q_this_trial : Nat) (v_this_listed : (Nat → Int32)) (v_this_pairs : Int32) (v_this_size : Int32) (v_this_sums : (Nat → Int32)) (x1 : Int32) (x2 : Int32) (post : Int32 → Prop) (h : wp_SetList_greatestSumWith v_this_listed v_this_size v_this_sums x1 x2 post) : Met l y_SetList_greatestSumWith w_SetList_greatestSumWith ({ frames := 1, cells := 0, slots := 0, locals := 21 } : Room) (va_Pc [.ref q_this, .int x1, .int x2] (pcR dC dI cI cJ cG cZ ([(q_this, .inr (4, [.ref q_this_herd, .ref q_this_trial, .ref q_this_listed, .ref q_this_sums, .int v_this_size, .int v_this_pairs])), (q_this_listed, .inl (cI, 400, .inl v_this_listed)), (q_this_sums, .inl (cI, 400, .inl v_this_sums))]))) (vp_Si (fun r => post r)) 0 0 (fun _ => False) := by
  refine Met.ofW (cc := b_SetList_greatestSumWith) (maxL := 6) (ret := (some .int)) (by decide) rfl ?_
  intro p e s m args below meth c s₁ B hml hv
  obtain ⟨rfl, hP, hK, hN⟩ := hv
  have hx := B.exec
  have hb := B.bytes
  have hr := B.returns
  have hts := atoms_spec (ws := w_SetList_greatestSumWith) B.pre
  have hown : s.vm.findClass "PairChoice$SetList" = some m.cls := findClass_of_methodNamed B.named
  have hlocks := B.notSynchronized
  have hl := lv_entry ([.ref q_this, .int x1, .int x2]) (n := 6) (Nat.le_of_ble_eq_true rfl)
  rw [lg_entry_eq]
  generalize (lg_sl ([.ref q_this, .int x1, .int x2]) ++ List.replicate (6 - (lg_sl ([.ref q_this, .int x1, .int x2])).length) Slot.unset).toArray = ls at hl ⊢
  have hl : lv_has ls 6 [(0, .ref q_this), (1, .int x1), (2, .int x2)] := hl
  unfold wp_SetList_greatestSumWith at h
  refine lv_ldc (v := (-100000000)) hx hb hown (hts _ (List.mem_cons_of_mem _ kw_346)) d_SetList_greatestSumWith_0 ?_
  refine lv_istore_n (lv' := [(3, .int (-100000000)), (0, .ref q_this), (1, .int x1), (2, .int x2)]) hx hb d_SetList_greatestSumWith_2 rfl hl (by decide) rfl (fun ls hl => ?_)
  refine lv_iconst (v := 0) hx hb d_SetList_greatestSumWith_3 (by decide) ?_
  refine lv_istore (lv' := [(4, .int 0), (3, .int (-100000000)), (0, .ref q_this), (1, .int x1), (2, .int x2)]) hx hb d_SetList_greatestSumWith_4 hl (by decide) rfl (fun ls hl => ?_)
  obtain ⟨nn, h⟩ := h
  have lp6 : ∀ (n6 : Nat) (x3_6 : Int32) (x4_6 : Int32) (ls : Array Slot), wp_SetList_greatestSumWith_L6 v_this_listed v_this_size v_this_sums x1 x2 post n6 x3_6 x4_6 → lv_has ls 6 [(4, .int x4_6), (3, .int x3_6), (0, .ref q_this), (1, .int x1), (2, .int x2)] → W p l e (headSpec w_SetList_greatestSumWith ({ frames := 1, cells := 0, slots := 0, locals := 21 } : Room)).room s m ([.ref q_this, .int x1, .int x2] : List Value).toArray below meth c s.heap [] 0 0 (MQ below (vp_Si (fun r => post r)) ([.ref q_this, .int x1, .int x2] : List Value).toArray s 0 0 (fun _ => False)) (F0 m 6 ls []) := by
    intro n6
    induction n6 with
    | zero =>
      intro x3_6 x4_6 ls h
      rw [wp_SetList_greatestSumWith_L6] at h
      exact h.elim
    | succ n6 ih6 =>
      intro x3_6 x4_6 ls h hl
      rw [wp_SetList_greatestSumWith_L6] at h
      refine lv_iload hx hb d_SetList_greatestSumWith_6 (lv_at hl 0 rfl) ?_
      refine lv_aload_n hx hb d_SetList_greatestSumWith_8 rfl (lv_at hl 2 rfl) ?_
      refine va_get (D := (dC, dI)) (ci := 4) (v := .int v_this_size) (C := "PairChoice$SetList") (T := F_SetList) (N := 6) hx hb hts (fun w h => List.mem_cons_of_mem _ (i_SetList w h)) hown hK hP 0 rfl rfl 4 (by decide) (hts _ (List.mem_cons_of_mem _ kw_135)) (fun _ h9 => h9) rfl d_SetList_greatestSumWith_9 ?_
      refine lv_icmp_ge (tgt := 63) hx hb d_SetList_greatestSumWith_12 (by decide) (fun c1 => ?_) (fun c1 => ?_)
      · have h := h.1 c1
        refine lv_iload_n hx hb d_SetList_greatestSumWith_63 rfl (lv_at hl 1 rfl) ?_
        exact W.iret hx hb hr (fun t ht hW => ⟨_, rfl, h, ht⟩) (fun _ h9 => by cases h9) d_SetList_greatestSumWith_64
      · have h := h.2 c1
        refine lv_aload_n hx hb d_SetList_greatestSumWith_15 rfl (lv_at hl 2 rfl) ?_
        refine va_get (D := (dC, dI)) (ci := 4) (v := .ref q_this_listed) (C := "PairChoice$SetList") (T := F_SetList) (N := 6) hx hb hts (fun w h => List.mem_cons_of_mem _ (i_SetList w h)) hown hK hP 0 rfl rfl 2 (by decide) (hts _ (List.mem_cons_of_mem _ kw_133)) (fun _ h9 => h9) rfl d_SetList_greatestSumWith_16 ?_
        refine lv_iload hx hb d_SetList_greatestSumWith_19 (lv_at hl 0 rfl) ?_
        obtain ⟨i2, h⟩ := h
        refine va_iald hx hb hK hP 1 0 rfl rfl i2 d_SetList_greatestSumWith_21 ?_
        refine lv_iload_n hx hb d_SetList_greatestSumWith_22 rfl (lv_at hl 3 rfl) ?_
        refine vp_callSi (va_Run.run (va_runSN (As := [.int (v_this_listed x4_6.toNatClampNeg), .int x1]) (rest := []) ⟨hx, hb, hml, hown, hts⟩ (c_PairChoice_has l dC dI cI cJ cG cZ     ((v_this_listed x4_6.toNatClampNeg) : Int32) (x1 : Int32) _ h) ⟨va_cnB 2 hts (gcB kw_266) rfl rfl rfl (nw_422 hN) (hts _ (List.mem_cons_of_mem _ kw_39)) (by decide +kernel) ⟨Nat.le_of_ble_eq_true rfl, Nat.le_of_ble_eq_true rfl⟩, (hts _ (List.mem_cons_of_mem _ kw_265)), trivial⟩ ⟨fb_s, pre_s hK hN⟩ rfl rfl hl.1 rfl (lv_room (Nat.le_of_ble_eq_true rfl)) d_SetList_greatestSumWith_23 ⟨Nat.zero_le _, Nat.zero_le _⟩)) (fun r3 h => ?_)
        obtain ⟨br3, h⟩ := h
        refine lv_if_eq (tgt := 41) hx hb d_SetList_greatestSumWith_26 (by decide) (fun c4 => ?_) (fun c4 => ?_)
        · have h := h.1 c4
          refine lv_aload_n hx hb d_SetList_greatestSumWith_41 rfl (lv_at hl 2 rfl) ?_
          refine va_get (D := (dC, dI)) (ci := 4) (v := .ref q_this_sums) (C := "PairChoice$SetList") (T := F_SetList) (N := 6) hx hb hts (fun w h => List.mem_cons_of_mem _ (i_SetList w h)) hown hK hP 0 rfl rfl 3 (by decide) (hts _ (List.mem_cons_of_mem _ kw_134)) (fun _ h9 => h9) rfl d_SetList_greatestSumWith_42 ?_
          refine lv_iload hx hb d_SetList_greatestSumWith_45 (lv_at hl 0 rfl) ?_
          obtain ⟨i5, h⟩ := h
          refine va_iald hx hb hK hP 2 0 rfl rfl i5 d_SetList_greatestSumWith_47 ?_
          refine lv_istore (lv' := [(5, .int (v_this_sums x4_6.toNatClampNeg)), (4, .int x4_6), (3, .int x3_6), (0, .ref q_this), (1, .int x1), (2, .int x2)]) hx hb d_SetList_greatestSumWith_48 hl (by decide) rfl (fun ls hl => ?_)
          refine lv_iload_n hx hb d_SetList_greatestSumWith_50 rfl (lv_at hl 2 rfl) ?_
          refine lv_iload hx hb d_SetList_greatestSumWith_51 (lv_at hl 0 rfl) ?_
          refine va_mmax hx hb (by rw [hml]; exact hl.1.symm) hown (hts _ (List.mem_cons_of_mem _ kw_423)) (hts _ (List.mem_cons_of_mem _ kw_424)) (hts _ (List.mem_cons_of_mem _ kw_47)) (hts _ (List.mem_cons_of_mem _ kw_425)) (Nat.le_of_ble_eq_true rfl) (Nat.le_of_ble_eq_true rfl) (Nat.zero_le _) (Nat.zero_le _) d_SetList_greatestSumWith_53 ?_
          refine lv_istore_n (lv' := [(3, .int (if x3_6 < (v_this_sums x4_6.toNatClampNeg) then (v_this_sums x4_6.toNatClampNeg) else x3_6)), (5, .int (v_this_sums x4_6.toNatClampNeg)), (4, .int x4_6), (0, .ref q_this), (1, .int x1), (2, .int x2)]) hx hb d_SetList_greatestSumWith_56 rfl hl (by decide) rfl (fun ls hl => ?_)
          refine lv_iinc (v := (x4_6 + 1)) (lv' := [(4, .int (x4_6 + 1)), (3, .int (if x3_6 < (v_this_sums x4_6.toNatClampNeg) then (v_this_sums x4_6.toNatClampNeg) else x3_6)), (5, .int (v_this_sums x4_6.toNatClampNeg)), (0, .ref q_this), (1, .int x1), (2, .int x2)]) hx hb d_SetList_greatestSumWith_57 hl (k := 2) rfl rfl (by decide) rfl (fun ls hl => ?_)
          refine lv_goto (tgt := 6) hx hb d_SetList_greatestSumWith_60 (by decide) ?_
          exact ih6 (if x3_6 < (v_this_sums x4_6.toNatClampNeg) then (v_this_sums x4_6.toNatClampNeg) else x3_6) (x4_6 + 1) ls h (lv_sub hl [0, 1, 3, 4, 5] rfl)
        · have h := h.2 c4
          refine lv_aload_n hx hb d_SetList_greatestSumWith_29 rfl (lv_at hl 2 rfl) ?_
          refine va_get (D := (dC, dI)) (ci := 4) (v := .ref q_this_sums) (C := "PairChoice$SetList") (T := F_SetList) (N := 6) hx hb hts (fun w h => List.mem_cons_of_mem _ (i_SetList w h)) hown hK hP 0 rfl rfl 3 (by decide) (hts _ (List.mem_cons_of_mem _ kw_134)) (fun _ h9 => h9) rfl d_SetList_greatestSumWith_30 ?_
          refine lv_iload hx hb d_SetList_greatestSumWith_33 (lv_at hl 0 rfl) ?_
          obtain ⟨i6, h⟩ := h
          refine va_iald hx hb hK hP 2 0 rfl rfl i6 d_SetList_greatestSumWith_35 ?_
          refine lv_iload_n hx hb d_SetList_greatestSumWith_36 rfl (lv_at hl 4 rfl) ?_
          refine lv_iadd hx hb d_SetList_greatestSumWith_37 ?_
          refine lv_goto (tgt := 48) hx hb d_SetList_greatestSumWith_38 (by decide) ?_
          refine lv_istore (lv' := [(5, .int ((v_this_sums x4_6.toNatClampNeg) + x2)), (4, .int x4_6), (3, .int x3_6), (0, .ref q_this), (1, .int x1), (2, .int x2)]) hx hb d_SetList_greatestSumWith_48 hl (by decide) rfl (fun ls hl => ?_)
          refine lv_iload_n hx hb d_SetList_greatestSumWith_50 rfl (lv_at hl 2 rfl) ?_
          refine lv_iload hx hb d_SetList_greatestSumWith_51 (lv_at hl 0 rfl) ?_
          refine va_mmax hx hb (by rw [hml]; exact hl.1.symm) hown (hts _ (List.mem_cons_of_mem _ kw_423)) (hts _ (List.mem_cons_of_mem _ kw_424)) (hts _ (List.mem_cons_of_mem _ kw_47)) (hts _ (List.mem_cons_of_mem _ kw_425)) (Nat.le_of_ble_eq_true rfl) (Nat.le_of_ble_eq_true rfl) (Nat.zero_le _) (Nat.zero_le _) d_SetList_greatestSumWith_53 ?_
          refine lv_istore_n (lv' := [(3, .int (if x3_6 < ((v_this_sums x4_6.toNatClampNeg) + x2) then ((v_this_sums x4_6.toNatClampNeg) + x2) else x3_6)), (5, .int ((v_this_sums x4_6.toNatClampNeg) + x2)), (4, .int x4_6), (0, .ref q_this), (1, .int x1), (2, .int x2)]) hx hb d_SetList_greatestSumWith_56 rfl hl (by decide) rfl (fun ls hl => ?_)
          refine lv_iinc (v := (x4_6 + 1)) (lv' := [(4, .int (x4_6 + 1)), (3, .int (if x3_6 < ((v_this_sums x4_6.toNatClampNeg) + x2) then ((v_this_sums x4_6.toNatClampNeg) + x2) else x3_6)), (5, .int ((v_this_sums x4_6.toNatClampNeg) + x2)), (0, .ref q_this), (1, .int x1), (2, .int x2)]) hx hb d_SetList_greatestSumWith_57 hl (k := 2) rfl rfl (by decide) rfl (fun ls hl => ?_)
          refine lv_goto (tgt := 6) hx hb d_SetList_greatestSumWith_60 (by decide) ?_
          exact ih6 (if x3_6 < ((v_this_sums x4_6.toNatClampNeg) + x2) then ((v_this_sums x4_6.toNatClampNeg) + x2) else x3_6) (x4_6 + 1) ls h (lv_sub hl [0, 1, 3, 4, 5] rfl)
  exact lp6 nn (-100000000) (0) ls h hl
