def at_Pairing_init (dC : Nat → ClassId) (dI : Nat → Nat → Nat) (cI cJ cG cZ : ClassId) (q0 : Nat) (A : Nat → Prop) (u : Nat × Nat) (t : State) : Prop := va_P (dC, dI) vCl ([(q0, .inr (3, [.ref u.1, .ref u.2])), (u.1, .inl (cI, 6, .inl (fun _ => 0))), (u.2, .inl (cI, 6, .inl (fun _ => 0)))]) t.heap ∧ va_D A ([(q0, .inr (3, [.ref u.1, .ref u.2])), (u.1, .inl (cI, 6, .inl (fun _ => 0))), (u.2, .inl (cI, 6, .inl (fun _ => 0)))])
set_option maxHeartbeats 8000000 in
set_option maxRecDepth 100000 in
theorem c_Pairing_init (l : Launch) (dC : Nat → ClassId) (dI : Nat → Nat → Nat) (cI cJ cG cZ : ClassId) (q0 : Nat) (sz : Nat) : Met l y_Pairing_init w_Pairing_init ({ frames := 1, cells := 2, slots := 12, locals := 12 } : Room) (va_Pc [.ref q0] (pcN dC dI cI cJ cG cZ sz ([(q0, .inr (3, [.null, .null]))]))) (va_Qv (fun (_ : Nat × Nat) => True) (at_Pairing_init dC dI cI cJ cG cZ q0 (va_A ([(q0, .inr (3, [.null, .null]))]) sz)) (va_A ([(q0, .inr (3, [.null, .null]))]) sz)) 2 12 (va_A ([(q0, .inr (3, [.null, .null]))]) sz) := by
  refine Met.ofW (cc := b_Pairing_init) (maxL := 1) (ret := none) (by decide) rfl ?_
  intro p e s m args below meth c s₁ B hml hv
  obtain ⟨rfl, ⟨hsz, hP, hK, hN, hD0⟩, hO⟩ := hv
  have hx := B.exec
  have hb := B.bytes
  have hr := B.returns
  have hts := atoms_spec (ws := w_Pairing_init) B.pre
  have hown : s.vm.findClass "PairChoice$Pairing" = some m.cls := findClass_of_methodNamed B.named
  have hlocks := B.notSynchronized
  have hin : meth.name = "<init>" := (name_of_methodNamed B.named B.method).1
  subst hsz
  have hD := hD0.self (sz := s.heap.size)
  generalize hAe : va_A ([(q0, .inr (3, [.null, .null]))]) s.heap.size = A at hD ⊢
  have hA : ∀ q : Nat, s.heap.size ≤ q → A q := fun q h => by rw [← hAe]; exact Or.inr h
  have hS : va_S A s.heap s.heap [] := va_S.rf
  have hl := lv_entry ([.ref q0]) (n := 1) (Nat.le_of_ble_eq_true rfl)
  rw [lg_entry_eq]
  generalize (lg_sl ([.ref q0]) ++ List.replicate (1 - (lg_sl ([.ref q0])).length) Slot.unset).toArray = ls at hl ⊢
  have hl : lv_has ls 1 [(0, .ref q0)] := hl
  refine lv_aload_n hx hb d_Pairing_init_0 rfl (lv_at hl 0 rfl) ?_
  refine W.objInit hx hb hown (hts _ (List.mem_cons_of_mem _ kw_119)) (hts _ (List.mem_cons_of_mem _ kw_54)) (hts _ (List.mem_cons_of_mem _ kw_55)) rfl (by rw [hml]; exact hl.1) rfl d_Pairing_init_1 (Nat.le_of_ble_eq_true rfl) (Nat.le_of_ble_eq_true rfl) ?_
  refine W.eq (g2 := F0 m 4 ls []) rfl ?_
  refine lv_aload_n hx hb d_Pairing_init_4 rfl (lv_at hl 0 rfl) ?_
  refine lv_bipush (v := 6) hx hb d_Pairing_init_5 (by decide) ?_
  refine va_newa (atype := .int) (N' := 6) (a0 := (6, .inl (fun _ => 0))) hx hb (hts _ (List.mem_cons_of_mem _ kw_107)) (ty := .int) rfl hK hP hD hS hA (fun _ => rfl) (by decide) rfl (by decide) (Nat.le_of_ble_eq_true rfl) (Nat.le_of_ble_eq_true rfl) d_Pairing_init_7 (fun a1 cA H hK1 hP hD hS => ?_)
  obtain rfl := ca_i hK hK1
  have hP : va_P (dC, dI) vCl ([(q0, .inr (3, [.null, .null])), (a1, .inl (cI, 6, .inl (fun _ => 0)))]) H := hP
  have hD : va_D A ([(q0, .inr (3, [.null, .null])), (a1, .inl (cI, 6, .inl (fun _ => 0)))]) := hD
  refine va_putF (D := (dC, dI)) (ci := 3) (v := .ref a1) (ty := .array .int) (C := "PairChoice$Pairing") (T := F_Pairing) (N := 2) hx hb hts (fun w h => List.mem_cons_of_mem _ (i_Pairing w h)) t_Pairing t_Pairing_ok n_Pairing hown hK hP hD hS 0 rfl rfl 0 (by decide) (hts _ (List.mem_cons_of_mem _ kw_120)) (fun _ h9 => h9) rfl hin rfl (by decide +kernel) rfl rfl (Nat.le_of_ble_eq_true rfl) d_Pairing_init_9 (fun H locs hP hD hS => ?_)
  have hP : va_P (dC, dI) vCl ([(q0, .inr (3, [.ref a1, .null])), (a1, .inl (cI, 6, .inl (fun _ => 0)))]) H := hP
  have hD : va_D A ([(q0, .inr (3, [.ref a1, .null])), (a1, .inl (cI, 6, .inl (fun _ => 0)))]) := hD
  refine lv_aload_n hx hb d_Pairing_init_12 rfl (lv_at hl 0 rfl) ?_
  refine lv_bipush (v := 6) hx hb d_Pairing_init_13 (by decide) ?_
  refine va_newa (atype := .int) (N' := 6) (a0 := (6, .inl (fun _ => 0))) hx hb (hts _ (List.mem_cons_of_mem _ kw_107)) (ty := .int) rfl hK hP hD hS hA (fun _ => rfl) (by decide) rfl (by decide) (Nat.le_of_ble_eq_true rfl) (Nat.le_of_ble_eq_true rfl) d_Pairing_init_15 (fun a2 cA H hK1 hP hD hS => ?_)
  obtain rfl := ca_i hK hK1
  have hP : va_P (dC, dI) vCl ([(q0, .inr (3, [.ref a1, .null])), (a1, .inl (cI, 6, .inl (fun _ => 0))), (a2, .inl (cI, 6, .inl (fun _ => 0)))]) H := hP
  have hD : va_D A ([(q0, .inr (3, [.ref a1, .null])), (a1, .inl (cI, 6, .inl (fun _ => 0))), (a2, .inl (cI, 6, .inl (fun _ => 0)))]) := hD
  refine va_putF (D := (dC, dI)) (ci := 3) (v := .ref a2) (ty := .array .int) (C := "PairChoice$Pairing") (T := F_Pairing) (N := 2) hx hb hts (fun w h => List.mem_cons_of_mem _ (i_Pairing w h)) t_Pairing t_Pairing_ok n_Pairing hown hK hP hD hS 0 rfl rfl 1 (by decide) (hts _ (List.mem_cons_of_mem _ kw_123)) (fun _ h9 => h9) rfl hin rfl (by decide +kernel) rfl rfl (Nat.le_of_ble_eq_true rfl) d_Pairing_init_17 (fun H locs hP hD hS => ?_)
  have hP : va_P (dC, dI) vCl ([(q0, .inr (3, [.ref a1, .ref a2])), (a1, .inl (cI, 6, .inl (fun _ => 0))), (a2, .inl (cI, 6, .inl (fun _ => 0)))]) H := hP
  have hD : va_D A ([(q0, .inr (3, [.ref a1, .ref a2])), (a1, .inl (cI, 6, .inl (fun _ => 0))), (a2, .inl (cI, 6, .inl (fun _ => 0)))]) := hD
  refine W.widen (k := 2) (n := 12) (Nat.le_of_ble_eq_true rfl) (Nat.le_of_ble_eq_true rfl) ?_
  exact W.vret hx hb hr (fun t ht hW => ⟨⟨(a1, a2), rfl, trivial, ⟨by rw [ht]; exact hP, hD⟩⟩, hS.F ht⟩) hS.2.2 d_Pairing_init_20
def at_Herd_init (dC : Nat → ClassId) (dI : Nat → Nat → Nat) (cI cJ cG cZ : ClassId) (q0 : Nat) (A : Nat → Prop) (u : Nat × Nat × Nat × (Nat → Nat) × Nat × Nat) (t : State) : Prop := va_P (dC, dI) vCl ([(q0, .inr (1, [.int 0, .int 0, .ref u.1, .ref u.2.1, .ref u.2.2.1, .ref u.2.2.2.2.1, .int 1000, .int 0, .ref u.2.2.2.2.2])), (u.1, .inl (cI, 12, .inl (fun _ => 0))), (u.2.1, .inl (cI, 8, .inl (fun _ => 0))), (u.2.2.1, .inl (cG, 12, .inr (.inr (.inr (.inr (gw u.2.2.2.1)))))), (u.2.2.2.2.1, .inl (cI, 12, .inl (fun _ => 0))), (u.2.2.2.2.2, .inl (cI, 8, .inl (fun _ => 0)))] ++ rws u.2.2.2.1 cI (fun _ _ => 0)) t.heap ∧ va_D A ([(q0, .inr (1, [.int 0, .int 0, .ref u.1, .ref u.2.1, .ref u.2.2.1, .ref u.2.2.2.2.1, .int 1000, .int 0, .ref u.2.2.2.2.2])), (u.1, .inl (cI, 12, .inl (fun _ => 0))), (u.2.1, .inl (cI, 8, .inl (fun _ => 0))), (u.2.2.1, .inl (cG, 12, .inr (.inr (.inr (.inr (gw u.2.2.2.1)))))), (u.2.2.2.2.1, .inl (cI, 12, .inl (fun _ => 0))), (u.2.2.2.2.2, .inl (cI, 8, .inl (fun _ => 0)))] ++ rws u.2.2.2.1 cI (fun _ _ => 0))
set_option maxHeartbeats 8000000 in
set_option maxRecDepth 100000 in
theorem c_Herd_init (l : Launch) (dC : Nat → ClassId) (dI : Nat → Nat → Nat) (cI cJ cG cZ : ClassId) (q0 : Nat) (sz : Nat) : Met l y_Herd_init w_Herd_init ({ frames := 1, cells := 17, slots := 196, locals := 12 } : Room) (va_Pc [.ref q0] (pcN dC dI cI cJ cG cZ sz ([(q0, .inr (1, [.int 0, .int 0, .null, .null, .null, .null, .int 0, .int 0, .null]))]))) (va_Qv (fun (_ : Nat × Nat × Nat × (Nat → Nat) × Nat × Nat) => True) (at_Herd_init dC dI cI cJ cG cZ q0 (va_A ([(q0, .inr (1, [.int 0, .int 0, .null, .null, .null, .null, .int 0, .int 0, .null]))]) sz)) (va_A ([(q0, .inr (1, [.int 0, .int 0, .null, .null, .null, .null, .int 0, .int 0, .null]))]) sz)) 17 196 (va_A ([(q0, .inr (1, [.int 0, .int 0, .null, .null, .null, .null, .int 0, .int 0, .null]))]) sz) := by
  refine Met.ofW (cc := b_Herd_init) (maxL := 1) (ret := none) (by decide) rfl ?_
  intro p e s m args below meth c s₁ B hml hv
  obtain ⟨rfl, ⟨hsz, hP, hK, hN, hD0⟩, hO⟩ := hv
  have hx := B.exec
  have hb := B.bytes
  have hr := B.returns
  have hts := atoms_spec (ws := w_Herd_init) B.pre
  have hown : s.vm.findClass "PairChoice$Herd" = some m.cls := findClass_of_methodNamed B.named
  have hlocks := B.notSynchronized
  have hin : meth.name = "<init>" := (name_of_methodNamed B.named B.method).1
  subst hsz
  have hD := hD0.self (sz := s.heap.size)
  generalize hAe : va_A ([(q0, .inr (1, [.int 0, .int 0, .null, .null, .null, .null, .int 0, .int 0, .null]))]) s.heap.size = A at hD ⊢
  have hA : ∀ q : Nat, s.heap.size ≤ q → A q := fun q h => by rw [← hAe]; exact Or.inr h
  have hS : va_S A s.heap s.heap [] := va_S.rf
  have hl := lv_entry ([.ref q0]) (n := 1) (Nat.le_of_ble_eq_true rfl)
  rw [lg_entry_eq]
  generalize (lg_sl ([.ref q0]) ++ List.replicate (1 - (lg_sl ([.ref q0])).length) Slot.unset).toArray = ls at hl ⊢
  have hl : lv_has ls 1 [(0, .ref q0)] := hl
  refine lv_aload_n hx hb d_Herd_init_0 rfl (lv_at hl 0 rfl) ?_
  refine W.objInit hx hb hown (hts _ (List.mem_cons_of_mem _ kw_61)) (hts _ (List.mem_cons_of_mem _ kw_54)) (hts _ (List.mem_cons_of_mem _ kw_55)) rfl (by rw [hml]; exact hl.1) rfl d_Herd_init_1 (Nat.le_of_ble_eq_true rfl) (Nat.le_of_ble_eq_true rfl) ?_
  refine W.eq (g2 := F0 m 4 ls []) rfl ?_
  refine lv_aload_n hx hb d_Herd_init_4 rfl (lv_at hl 0 rfl) ?_
  refine lv_iconst (v := 0) hx hb d_Herd_init_5 (by decide) ?_
  refine va_put (D := (dC, dI)) (ci := 1) (v := .int 0) (ty := .int) (C := "PairChoice$Herd") (T := F_Herd) (N := 9) hx hb hts (fun w h => List.mem_cons_of_mem _ (i_Herd w h)) t_Herd t_Herd_ok n_Herd hown hK hP hD hS 0 rfl rfl 0 (by decide) (hts _ (List.mem_cons_of_mem _ kw_64)) (fun _ h9 => h9) rfl (by decide +kernel) rfl rfl (Nat.le_of_ble_eq_true rfl) d_Herd_init_6 (fun H locs hP hD hS => ?_)
  have hP : va_P (dC, dI) vCl ([(q0, .inr (1, [.int 0, .int 0, .null, .null, .null, .null, .int 0, .int 0, .null]))]) H := hP
  have hD : va_D A ([(q0, .inr (1, [.int 0, .int 0, .null, .null, .null, .null, .int 0, .int 0, .null]))]) := hD
  refine lv_aload_n hx hb d_Herd_init_9 rfl (lv_at hl 0 rfl) ?_
  refine lv_iconst (v := 0) hx hb d_Herd_init_10 (by decide) ?_
  refine va_put (D := (dC, dI)) (ci := 1) (v := .int 0) (ty := .int) (C := "PairChoice$Herd") (T := F_Herd) (N := 9) hx hb hts (fun w h => List.mem_cons_of_mem _ (i_Herd w h)) t_Herd t_Herd_ok n_Herd hown hK hP hD hS 0 rfl rfl 1 (by decide) (hts _ (List.mem_cons_of_mem _ kw_67)) (fun _ h9 => h9) rfl (by decide +kernel) rfl rfl (Nat.le_of_ble_eq_true rfl) d_Herd_init_11 (fun H locs hP hD hS => ?_)
  have hP : va_P (dC, dI) vCl ([(q0, .inr (1, [.int 0, .int 0, .null, .null, .null, .null, .int 0, .int 0, .null]))]) H := hP
  have hD : va_D A ([(q0, .inr (1, [.int 0, .int 0, .null, .null, .null, .null, .int 0, .int 0, .null]))]) := hD
  refine lv_aload_n hx hb d_Herd_init_14 rfl (lv_at hl 0 rfl) ?_
  refine lv_bipush (v := 12) hx hb d_Herd_init_15 (by decide) ?_
  refine va_newa (atype := .int) (N' := 12) (a0 := (12, .inl (fun _ => 0))) hx hb (hts _ (List.mem_cons_of_mem _ kw_107)) (ty := .int) rfl hK hP hD hS hA (fun _ => rfl) (by decide) rfl (by decide) (Nat.le_of_ble_eq_true rfl) (Nat.le_of_ble_eq_true rfl) d_Herd_init_17 (fun a1 cA H hK1 hP hD hS => ?_)
  obtain rfl := ca_i hK hK1
  have hP : va_P (dC, dI) vCl ([(q0, .inr (1, [.int 0, .int 0, .null, .null, .null, .null, .int 0, .int 0, .null])), (a1, .inl (cI, 12, .inl (fun _ => 0)))]) H := hP
  have hD : va_D A ([(q0, .inr (1, [.int 0, .int 0, .null, .null, .null, .null, .int 0, .int 0, .null])), (a1, .inl (cI, 12, .inl (fun _ => 0)))]) := hD
  refine va_putF (D := (dC, dI)) (ci := 1) (v := .ref a1) (ty := .array .int) (C := "PairChoice$Herd") (T := F_Herd) (N := 9) hx hb hts (fun w h => List.mem_cons_of_mem _ (i_Herd w h)) t_Herd t_Herd_ok n_Herd hown hK hP hD hS 0 rfl rfl 2 (by decide) (hts _ (List.mem_cons_of_mem _ kw_72)) (fun _ h9 => h9) rfl hin rfl (by decide +kernel) rfl rfl (Nat.le_of_ble_eq_true rfl) d_Herd_init_19 (fun H locs hP hD hS => ?_)
  have hP : va_P (dC, dI) vCl ([(q0, .inr (1, [.int 0, .int 0, .ref a1, .null, .null, .null, .int 0, .int 0, .null])), (a1, .inl (cI, 12, .inl (fun _ => 0)))]) H := hP
  have hD : va_D A ([(q0, .inr (1, [.int 0, .int 0, .ref a1, .null, .null, .null, .int 0, .int 0, .null])), (a1, .inl (cI, 12, .inl (fun _ => 0)))]) := hD
  refine lv_aload_n hx hb d_Herd_init_22 rfl (lv_at hl 0 rfl) ?_
  refine lv_bipush (v := 8) hx hb d_Herd_init_23 (by decide) ?_
  refine va_newa (atype := .int) (N' := 8) (a0 := (8, .inl (fun _ => 0))) hx hb (hts _ (List.mem_cons_of_mem _ kw_107)) (ty := .int) rfl hK hP hD hS hA (fun _ => rfl) (by decide) rfl (by decide) (Nat.le_of_ble_eq_true rfl) (Nat.le_of_ble_eq_true rfl) d_Herd_init_25 (fun a2 cA H hK1 hP hD hS => ?_)
  obtain rfl := ca_i hK hK1
  have hP : va_P (dC, dI) vCl ([(q0, .inr (1, [.int 0, .int 0, .ref a1, .null, .null, .null, .int 0, .int 0, .null])), (a1, .inl (cI, 12, .inl (fun _ => 0))), (a2, .inl (cI, 8, .inl (fun _ => 0)))]) H := hP
  have hD : va_D A ([(q0, .inr (1, [.int 0, .int 0, .ref a1, .null, .null, .null, .int 0, .int 0, .null])), (a1, .inl (cI, 12, .inl (fun _ => 0))), (a2, .inl (cI, 8, .inl (fun _ => 0)))]) := hD
  refine va_putF (D := (dC, dI)) (ci := 1) (v := .ref a2) (ty := .array .int) (C := "PairChoice$Herd") (T := F_Herd) (N := 9) hx hb hts (fun w h => List.mem_cons_of_mem _ (i_Herd w h)) t_Herd t_Herd_ok n_Herd hown hK hP hD hS 0 rfl rfl 3 (by decide) (hts _ (List.mem_cons_of_mem _ kw_75)) (fun _ h9 => h9) rfl hin rfl (by decide +kernel) rfl rfl (Nat.le_of_ble_eq_true rfl) d_Herd_init_27 (fun H locs hP hD hS => ?_)
  have hP : va_P (dC, dI) vCl ([(q0, .inr (1, [.int 0, .int 0, .ref a1, .ref a2, .null, .null, .int 0, .int 0, .null])), (a1, .inl (cI, 12, .inl (fun _ => 0))), (a2, .inl (cI, 8, .inl (fun _ => 0)))]) H := hP
  have hD : va_D A ([(q0, .inr (1, [.int 0, .int 0, .ref a1, .ref a2, .null, .null, .int 0, .int 0, .null])), (a1, .inl (cI, 12, .inl (fun _ => 0))), (a2, .inl (cI, 8, .inl (fun _ => 0)))]) := hD
  refine lv_aload_n hx hb d_Herd_init_30 rfl (lv_at hl 0 rfl) ?_
  refine lv_bipush (v := 12) hx hb d_Herd_init_31 (by decide) ?_
  refine lv_bipush (v := 12) hx hb d_Herd_init_33 (by decide) ?_
  refine va_mna (X := [(q0, .inr (1, [.int 0, .int 0, .ref a1, .ref a2, .null, .null, .int 0, .int 0, .null])), (a1, .inl (cI, 12, .inl (fun _ => 0))), (a2, .inl (cI, 8, .inl (fun _ => 0)))]) (L := []) (f := fun _ => .inl (cI, 12, .inl (fun _ => 0))) (cy := cI) (N' := 12) (K' := 12) (z := (12, .inl (fun _ => 0))) hx hb hown (hts _ (List.mem_cons_of_mem _ kw_62)) hO (hts _ (List.mem_cons_of_mem _ kw_107)) (hK.2 0 _ rfl).2 hK hP hD hS hA (by decide) (by decide) rfl rfl (by decide) (by decide) (by decide) rfl rfl (Nat.le_of_ble_eq_true rfl) (Nat.le_of_ble_eq_true rfl) (fun _ => rfl) d_Herd_init_35 (fun a3 rw cA H hri hrL hK1 hP hD hS => ?_)
  obtain rfl := ca_g hK hK1
  rw [grid_rows] at hP hD
  have hP : va_P (dC, dI) vCl ([(q0, .inr (1, [.int 0, .int 0, .ref a1, .ref a2, .null, .null, .int 0, .int 0, .null])), (a1, .inl (cI, 12, .inl (fun _ => 0))), (a2, .inl (cI, 8, .inl (fun _ => 0))), (a3, .inl (cG, 12, .inr (.inr (.inr (.inr (gw rw))))))] ++ rws rw cI (fun _ _ => 0)) H := hP
  have hD : va_D A ([(q0, .inr (1, [.int 0, .int 0, .ref a1, .ref a2, .null, .null, .int 0, .int 0, .null])), (a1, .inl (cI, 12, .inl (fun _ => 0))), (a2, .inl (cI, 8, .inl (fun _ => 0))), (a3, .inl (cG, 12, .inr (.inr (.inr (.inr (gw rw))))))] ++ rws rw cI (fun _ _ => 0)) := hD
  refine va_putF (D := (dC, dI)) (ci := 1) (v := .ref a3) (ty := .array (.array .int)) (C := "PairChoice$Herd") (T := F_Herd) (N := 9) hx hb hts (fun w h => List.mem_cons_of_mem _ (i_Herd w h)) t_Herd t_Herd_ok n_Herd hown hK hP hD hS 0 rfl rfl 4 (by decide) (hts _ (List.mem_cons_of_mem _ kw_76)) (fun _ h9 => h9) rfl hin rfl (by decide +kernel) rfl rfl (Nat.le_of_ble_eq_true rfl) d_Herd_init_39 (fun H locs hP hD hS => ?_)
  have hP : va_P (dC, dI) vCl ([(q0, .inr (1, [.int 0, .int 0, .ref a1, .ref a2, .ref a3, .null, .int 0, .int 0, .null])), (a1, .inl (cI, 12, .inl (fun _ => 0))), (a2, .inl (cI, 8, .inl (fun _ => 0))), (a3, .inl (cG, 12, .inr (.inr (.inr (.inr (gw rw))))))] ++ rws rw cI (fun _ _ => 0)) H := hP
  have hD : va_D A ([(q0, .inr (1, [.int 0, .int 0, .ref a1, .ref a2, .ref a3, .null, .int 0, .int 0, .null])), (a1, .inl (cI, 12, .inl (fun _ => 0))), (a2, .inl (cI, 8, .inl (fun _ => 0))), (a3, .inl (cG, 12, .inr (.inr (.inr (.inr (gw rw))))))] ++ rws rw cI (fun _ _ => 0)) := hD
  refine lv_aload_n hx hb d_Herd_init_42 rfl (lv_at hl 0 rfl) ?_
  refine lv_bipush (v := 12) hx hb d_Herd_init_43 (by decide) ?_
  refine va_newa (atype := .int) (N' := 12) (a0 := (12, .inl (fun _ => 0))) hx hb (hts _ (List.mem_cons_of_mem _ kw_107)) (ty := .int) rfl hK hP hD hS hA (fun _ => rfl) (by decide) rfl (by decide) (Nat.le_of_ble_eq_true rfl) (Nat.le_of_ble_eq_true rfl) d_Herd_init_45 (fun a4 cA H hK1 hP hD hS => ?_)
  obtain rfl := ca_i hK hK1
  have hP : va_P (dC, dI) vCl ([(q0, .inr (1, [.int 0, .int 0, .ref a1, .ref a2, .ref a3, .null, .int 0, .int 0, .null])), (a1, .inl (cI, 12, .inl (fun _ => 0))), (a2, .inl (cI, 8, .inl (fun _ => 0))), (a3, .inl (cG, 12, .inr (.inr (.inr (.inr (gw rw)))))), (a4, .inl (cI, 12, .inl (fun _ => 0)))] ++ rws rw cI (fun _ _ => 0)) H := hP.sub [0, 1, 2, 3, 16, 4, 5, 6, 7, 8, 9, 10, 11, 12, 13, 14, 15] rfl
  have hD : va_D A ([(q0, .inr (1, [.int 0, .int 0, .ref a1, .ref a2, .ref a3, .null, .int 0, .int 0, .null])), (a1, .inl (cI, 12, .inl (fun _ => 0))), (a2, .inl (cI, 8, .inl (fun _ => 0))), (a3, .inl (cG, 12, .inr (.inr (.inr (.inr (gw rw)))))), (a4, .inl (cI, 12, .inl (fun _ => 0)))] ++ rws rw cI (fun _ _ => 0)) := hD.sub [0, 1, 2, 3, 16, 4, 5, 6, 7, 8, 9, 10, 11, 12, 13, 14, 15] (by decide) rfl
  refine va_putF (D := (dC, dI)) (ci := 1) (v := .ref a4) (ty := .array .int) (C := "PairChoice$Herd") (T := F_Herd) (N := 9) hx hb hts (fun w h => List.mem_cons_of_mem _ (i_Herd w h)) t_Herd t_Herd_ok n_Herd hown hK hP hD hS 0 rfl rfl 5 (by decide) (hts _ (List.mem_cons_of_mem _ kw_78)) (fun _ h9 => h9) rfl hin rfl (by decide +kernel) rfl rfl (Nat.le_of_ble_eq_true rfl) d_Herd_init_47 (fun H locs hP hD hS => ?_)
  have hP : va_P (dC, dI) vCl ([(q0, .inr (1, [.int 0, .int 0, .ref a1, .ref a2, .ref a3, .ref a4, .int 0, .int 0, .null])), (a1, .inl (cI, 12, .inl (fun _ => 0))), (a2, .inl (cI, 8, .inl (fun _ => 0))), (a3, .inl (cG, 12, .inr (.inr (.inr (.inr (gw rw)))))), (a4, .inl (cI, 12, .inl (fun _ => 0)))] ++ rws rw cI (fun _ _ => 0)) H := hP
  have hD : va_D A ([(q0, .inr (1, [.int 0, .int 0, .ref a1, .ref a2, .ref a3, .ref a4, .int 0, .int 0, .null])), (a1, .inl (cI, 12, .inl (fun _ => 0))), (a2, .inl (cI, 8, .inl (fun _ => 0))), (a3, .inl (cG, 12, .inr (.inr (.inr (.inr (gw rw)))))), (a4, .inl (cI, 12, .inl (fun _ => 0)))] ++ rws rw cI (fun _ _ => 0)) := hD
  refine lv_aload_n hx hb d_Herd_init_50 rfl (lv_at hl 0 rfl) ?_
  refine lv_sipush (v := 1000) hx hb d_Herd_init_51 (by decide) ?_
  refine va_put (D := (dC, dI)) (ci := 1) (v := .int 1000) (ty := .int) (C := "PairChoice$Herd") (T := F_Herd) (N := 9) hx hb hts (fun w h => List.mem_cons_of_mem _ (i_Herd w h)) t_Herd t_Herd_ok n_Herd hown hK hP hD hS 0 rfl rfl 6 (by decide) (hts _ (List.mem_cons_of_mem _ kw_82)) (fun _ h9 => h9) rfl (by decide +kernel) rfl rfl (Nat.le_of_ble_eq_true rfl) d_Herd_init_54 (fun H locs hP hD hS => ?_)
  have hP : va_P (dC, dI) vCl ([(q0, .inr (1, [.int 0, .int 0, .ref a1, .ref a2, .ref a3, .ref a4, .int 1000, .int 0, .null])), (a1, .inl (cI, 12, .inl (fun _ => 0))), (a2, .inl (cI, 8, .inl (fun _ => 0))), (a3, .inl (cG, 12, .inr (.inr (.inr (.inr (gw rw)))))), (a4, .inl (cI, 12, .inl (fun _ => 0)))] ++ rws rw cI (fun _ _ => 0)) H := hP
  have hD : va_D A ([(q0, .inr (1, [.int 0, .int 0, .ref a1, .ref a2, .ref a3, .ref a4, .int 1000, .int 0, .null])), (a1, .inl (cI, 12, .inl (fun _ => 0))), (a2, .inl (cI, 8, .inl (fun _ => 0))), (a3, .inl (cG, 12, .inr (.inr (.inr (.inr (gw rw)))))), (a4, .inl (cI, 12, .inl (fun _ => 0)))] ++ rws rw cI (fun _ _ => 0)) := hD
  refine lv_aload_n hx hb d_Herd_init_57 rfl (lv_at hl 0 rfl) ?_
  refine lv_iconst (v := 0) hx hb d_Herd_init_58 (by decide) ?_
  refine va_put (D := (dC, dI)) (ci := 1) (v := .int 0) (ty := .int) (C := "PairChoice$Herd") (T := F_Herd) (N := 9) hx hb hts (fun w h => List.mem_cons_of_mem _ (i_Herd w h)) t_Herd t_Herd_ok n_Herd hown hK hP hD hS 0 rfl rfl 7 (by decide) (hts _ (List.mem_cons_of_mem _ kw_84)) (fun _ h9 => h9) rfl (by decide +kernel) rfl rfl (Nat.le_of_ble_eq_true rfl) d_Herd_init_59 (fun H locs hP hD hS => ?_)
  have hP : va_P (dC, dI) vCl ([(q0, .inr (1, [.int 0, .int 0, .ref a1, .ref a2, .ref a3, .ref a4, .int 1000, .int 0, .null])), (a1, .inl (cI, 12, .inl (fun _ => 0))), (a2, .inl (cI, 8, .inl (fun _ => 0))), (a3, .inl (cG, 12, .inr (.inr (.inr (.inr (gw rw)))))), (a4, .inl (cI, 12, .inl (fun _ => 0)))] ++ rws rw cI (fun _ _ => 0)) H := hP
  have hD : va_D A ([(q0, .inr (1, [.int 0, .int 0, .ref a1, .ref a2, .ref a3, .ref a4, .int 1000, .int 0, .null])), (a1, .inl (cI, 12, .inl (fun _ => 0))), (a2, .inl (cI, 8, .inl (fun _ => 0))), (a3, .inl (cG, 12, .inr (.inr (.inr (.inr (gw rw)))))), (a4, .inl (cI, 12, .inl (fun _ => 0)))] ++ rws rw cI (fun _ _ => 0)) := hD
  refine lv_aload_n hx hb d_Herd_init_62 rfl (lv_at hl 0 rfl) ?_
  refine lv_bipush (v := 8) hx hb d_Herd_init_63 (by decide) ?_
  refine va_newa (atype := .int) (N' := 8) (a0 := (8, .inl (fun _ => 0))) hx hb (hts _ (List.mem_cons_of_mem _ kw_107)) (ty := .int) rfl hK hP hD hS hA (fun _ => rfl) (by decide) rfl (by decide) (Nat.le_of_ble_eq_true rfl) (Nat.le_of_ble_eq_true rfl) d_Herd_init_65 (fun a5 cA H hK1 hP hD hS => ?_)
  obtain rfl := ca_i hK hK1
  have hP : va_P (dC, dI) vCl ([(q0, .inr (1, [.int 0, .int 0, .ref a1, .ref a2, .ref a3, .ref a4, .int 1000, .int 0, .null])), (a1, .inl (cI, 12, .inl (fun _ => 0))), (a2, .inl (cI, 8, .inl (fun _ => 0))), (a3, .inl (cG, 12, .inr (.inr (.inr (.inr (gw rw)))))), (a4, .inl (cI, 12, .inl (fun _ => 0))), (a5, .inl (cI, 8, .inl (fun _ => 0)))] ++ rws rw cI (fun _ _ => 0)) H := hP.sub [0, 1, 2, 3, 4, 17, 5, 6, 7, 8, 9, 10, 11, 12, 13, 14, 15, 16] rfl
  have hD : va_D A ([(q0, .inr (1, [.int 0, .int 0, .ref a1, .ref a2, .ref a3, .ref a4, .int 1000, .int 0, .null])), (a1, .inl (cI, 12, .inl (fun _ => 0))), (a2, .inl (cI, 8, .inl (fun _ => 0))), (a3, .inl (cG, 12, .inr (.inr (.inr (.inr (gw rw)))))), (a4, .inl (cI, 12, .inl (fun _ => 0))), (a5, .inl (cI, 8, .inl (fun _ => 0)))] ++ rws rw cI (fun _ _ => 0)) := hD.sub [0, 1, 2, 3, 4, 17, 5, 6, 7, 8, 9, 10, 11, 12, 13, 14, 15, 16] (by decide) rfl
  refine va_putF (D := (dC, dI)) (ci := 1) (v := .ref a5) (ty := .array .int) (C := "PairChoice$Herd") (T := F_Herd) (N := 9) hx hb hts (fun w h => List.mem_cons_of_mem _ (i_Herd w h)) t_Herd t_Herd_ok n_Herd hown hK hP hD hS 0 rfl rfl 8 (by decide) (hts _ (List.mem_cons_of_mem _ kw_86)) (fun _ h9 => h9) rfl hin rfl (by decide +kernel) rfl rfl (Nat.le_of_ble_eq_true rfl) d_Herd_init_67 (fun H locs hP hD hS => ?_)
  have hP : va_P (dC, dI) vCl ([(q0, .inr (1, [.int 0, .int 0, .ref a1, .ref a2, .ref a3, .ref a4, .int 1000, .int 0, .ref a5])), (a1, .inl (cI, 12, .inl (fun _ => 0))), (a2, .inl (cI, 8, .inl (fun _ => 0))), (a3, .inl (cG, 12, .inr (.inr (.inr (.inr (gw rw)))))), (a4, .inl (cI, 12, .inl (fun _ => 0))), (a5, .inl (cI, 8, .inl (fun _ => 0)))] ++ rws rw cI (fun _ _ => 0)) H := hP
  have hD : va_D A ([(q0, .inr (1, [.int 0, .int 0, .ref a1, .ref a2, .ref a3, .ref a4, .int 1000, .int 0, .ref a5])), (a1, .inl (cI, 12, .inl (fun _ => 0))), (a2, .inl (cI, 8, .inl (fun _ => 0))), (a3, .inl (cG, 12, .inr (.inr (.inr (.inr (gw rw)))))), (a4, .inl (cI, 12, .inl (fun _ => 0))), (a5, .inl (cI, 8, .inl (fun _ => 0)))] ++ rws rw cI (fun _ _ => 0)) := hD
  refine W.widen (k := 17) (n := 196) (Nat.le_of_ble_eq_true rfl) (Nat.le_of_ble_eq_true rfl) ?_
  exact W.vret hx hb hr (fun t ht hW => ⟨⟨(a1, a2, a3, rw, a4, a5), rfl, trivial, ⟨by rw [ht]; exact hP, hD⟩⟩, hS.F ht⟩) hS.2.2 d_Herd_init_70
def at_Outlook_init (dC : Nat → ClassId) (dI : Nat → Nat → Nat) (cI cJ cG cZ : ClassId) (q0 : Nat) (A : Nat → Prop) (u : Nat × Nat) (t : State) : Prop := va_P (dC, dI) vCl ([(q0, .inr (2, [.int 0, .ref u.1, .ref u.2])), (u.1, .inl (cI, 20, .inl (fun _ => 0))), (u.2, .inl (cI, 20, .inl (fun _ => 0)))]) t.heap ∧ va_D A ([(q0, .inr (2, [.int 0, .ref u.1, .ref u.2])), (u.1, .inl (cI, 20, .inl (fun _ => 0))), (u.2, .inl (cI, 20, .inl (fun _ => 0)))])
set_option maxHeartbeats 8000000 in
set_option maxRecDepth 100000 in
theorem c_Outlook_init (l : Launch) (dC : Nat → ClassId) (dI : Nat → Nat → Nat) (cI cJ cG cZ : ClassId) (q0 : Nat) (sz : Nat) : Met l y_Outlook_init w_Outlook_init ({ frames := 1, cells := 2, slots := 40, locals := 12 } : Room) (va_Pc [.ref q0] (pcN dC dI cI cJ cG cZ sz ([(q0, .inr (2, [.int 0, .null, .null]))]))) (va_Qv (fun (_ : Nat × Nat) => True) (at_Outlook_init dC dI cI cJ cG cZ q0 (va_A ([(q0, .inr (2, [.int 0, .null, .null]))]) sz)) (va_A ([(q0, .inr (2, [.int 0, .null, .null]))]) sz)) 2 40 (va_A ([(q0, .inr (2, [.int 0, .null, .null]))]) sz) := by
  refine Met.ofW (cc := b_Outlook_init) (maxL := 1) (ret := none) (by decide) rfl ?_
  intro p e s m args below meth c s₁ B hml hv
  obtain ⟨rfl, ⟨hsz, hP, hK, hN, hD0⟩, hO⟩ := hv
  have hx := B.exec
  have hb := B.bytes
  have hr := B.returns
  have hts := atoms_spec (ws := w_Outlook_init) B.pre
  have hown : s.vm.findClass "PairChoice$Outlook" = some m.cls := findClass_of_methodNamed B.named
  have hlocks := B.notSynchronized
  have hin : meth.name = "<init>" := (name_of_methodNamed B.named B.method).1
  subst hsz
  have hD := hD0.self (sz := s.heap.size)
  generalize hAe : va_A ([(q0, .inr (2, [.int 0, .null, .null]))]) s.heap.size = A at hD ⊢
  have hA : ∀ q : Nat, s.heap.size ≤ q → A q := fun q h => by rw [← hAe]; exact Or.inr h
  have hS : va_S A s.heap s.heap [] := va_S.rf
  have hl := lv_entry ([.ref q0]) (n := 1) (Nat.le_of_ble_eq_true rfl)
  rw [lg_entry_eq]
  generalize (lg_sl ([.ref q0]) ++ List.replicate (1 - (lg_sl ([.ref q0])).length) Slot.unset).toArray = ls at hl ⊢
  have hl : lv_has ls 1 [(0, .ref q0)] := hl
  refine lv_aload_n hx hb d_Outlook_init_0 rfl (lv_at hl 0 rfl) ?_
  refine W.objInit hx hb hown (hts _ (List.mem_cons_of_mem _ kw_192)) (hts _ (List.mem_cons_of_mem _ kw_54)) (hts _ (List.mem_cons_of_mem _ kw_55)) rfl (by rw [hml]; exact hl.1) rfl d_Outlook_init_1 (Nat.le_of_ble_eq_true rfl) (Nat.le_of_ble_eq_true rfl) ?_
  refine W.eq (g2 := F0 m 4 ls []) rfl ?_
  refine lv_aload_n hx hb d_Outlook_init_4 rfl (lv_at hl 0 rfl) ?_
  refine lv_iconst (v := 0) hx hb d_Outlook_init_5 (by decide) ?_
  refine va_put (D := (dC, dI)) (ci := 2) (v := .int 0) (ty := .int) (C := "PairChoice$Outlook") (T := F_Outlook) (N := 3) hx hb hts (fun w h => List.mem_cons_of_mem _ (i_Outlook w h)) t_Outlook t_Outlook_ok n_Outlook hown hK hP hD hS 0 rfl rfl 0 (by decide) (hts _ (List.mem_cons_of_mem _ kw_193)) (fun _ h9 => h9) rfl (by decide +kernel) rfl rfl (Nat.le_of_ble_eq_true rfl) d_Outlook_init_6 (fun H locs hP hD hS => ?_)
  have hP : va_P (dC, dI) vCl ([(q0, .inr (2, [.int 0, .null, .null]))]) H := hP
  have hD : va_D A ([(q0, .inr (2, [.int 0, .null, .null]))]) := hD
  refine lv_aload_n hx hb d_Outlook_init_9 rfl (lv_at hl 0 rfl) ?_
  refine lv_bipush (v := 20) hx hb d_Outlook_init_10 (by decide) ?_
  refine va_newa (atype := .int) (N' := 20) (a0 := (20, .inl (fun _ => 0))) hx hb (hts _ (List.mem_cons_of_mem _ kw_107)) (ty := .int) rfl hK hP hD hS hA (fun _ => rfl) (by decide) rfl (by decide) (Nat.le_of_ble_eq_true rfl) (Nat.le_of_ble_eq_true rfl) d_Outlook_init_12 (fun a1 cA H hK1 hP hD hS => ?_)
  obtain rfl := ca_i hK hK1
  have hP : va_P (dC, dI) vCl ([(q0, .inr (2, [.int 0, .null, .null])), (a1, .inl (cI, 20, .inl (fun _ => 0)))]) H := hP
  have hD : va_D A ([(q0, .inr (2, [.int 0, .null, .null])), (a1, .inl (cI, 20, .inl (fun _ => 0)))]) := hD
  refine va_putF (D := (dC, dI)) (ci := 2) (v := .ref a1) (ty := .array .int) (C := "PairChoice$Outlook") (T := F_Outlook) (N := 3) hx hb hts (fun w h => List.mem_cons_of_mem _ (i_Outlook w h)) t_Outlook t_Outlook_ok n_Outlook hown hK hP hD hS 0 rfl rfl 1 (by decide) (hts _ (List.mem_cons_of_mem _ kw_195)) (fun _ h9 => h9) rfl hin rfl (by decide +kernel) rfl rfl (Nat.le_of_ble_eq_true rfl) d_Outlook_init_14 (fun H locs hP hD hS => ?_)
  have hP : va_P (dC, dI) vCl ([(q0, .inr (2, [.int 0, .ref a1, .null])), (a1, .inl (cI, 20, .inl (fun _ => 0)))]) H := hP
  have hD : va_D A ([(q0, .inr (2, [.int 0, .ref a1, .null])), (a1, .inl (cI, 20, .inl (fun _ => 0)))]) := hD
  refine lv_aload_n hx hb d_Outlook_init_17 rfl (lv_at hl 0 rfl) ?_
  refine lv_bipush (v := 20) hx hb d_Outlook_init_18 (by decide) ?_
  refine va_newa (atype := .int) (N' := 20) (a0 := (20, .inl (fun _ => 0))) hx hb (hts _ (List.mem_cons_of_mem _ kw_107)) (ty := .int) rfl hK hP hD hS hA (fun _ => rfl) (by decide) rfl (by decide) (Nat.le_of_ble_eq_true rfl) (Nat.le_of_ble_eq_true rfl) d_Outlook_init_20 (fun a2 cA H hK1 hP hD hS => ?_)
  obtain rfl := ca_i hK hK1
  have hP : va_P (dC, dI) vCl ([(q0, .inr (2, [.int 0, .ref a1, .null])), (a1, .inl (cI, 20, .inl (fun _ => 0))), (a2, .inl (cI, 20, .inl (fun _ => 0)))]) H := hP
  have hD : va_D A ([(q0, .inr (2, [.int 0, .ref a1, .null])), (a1, .inl (cI, 20, .inl (fun _ => 0))), (a2, .inl (cI, 20, .inl (fun _ => 0)))]) := hD
  refine va_putF (D := (dC, dI)) (ci := 2) (v := .ref a2) (ty := .array .int) (C := "PairChoice$Outlook") (T := F_Outlook) (N := 3) hx hb hts (fun w h => List.mem_cons_of_mem _ (i_Outlook w h)) t_Outlook t_Outlook_ok n_Outlook hown hK hP hD hS 0 rfl rfl 2 (by decide) (hts _ (List.mem_cons_of_mem _ kw_197)) (fun _ h9 => h9) rfl hin rfl (by decide +kernel) rfl rfl (Nat.le_of_ble_eq_true rfl) d_Outlook_init_22 (fun H locs hP hD hS => ?_)
  have hP : va_P (dC, dI) vCl ([(q0, .inr (2, [.int 0, .ref a1, .ref a2])), (a1, .inl (cI, 20, .inl (fun _ => 0))), (a2, .inl (cI, 20, .inl (fun _ => 0)))]) H := hP
  have hD : va_D A ([(q0, .inr (2, [.int 0, .ref a1, .ref a2])), (a1, .inl (cI, 20, .inl (fun _ => 0))), (a2, .inl (cI, 20, .inl (fun _ => 0)))]) := hD
  refine W.widen (k := 2) (n := 40) (Nat.le_of_ble_eq_true rfl) (Nat.le_of_ble_eq_true rfl) ?_
  exact W.vret hx hb hr (fun t ht hW => ⟨⟨(a1, a2), rfl, trivial, ⟨by rw [ht]; exact hP, hD⟩⟩, hS.F ht⟩) hS.2.2 d_Outlook_init_25
def at_SetList_init (dC : Nat → ClassId) (dI : Nat → Nat → Nat) (cI cJ cG cZ : ClassId) (q0 p1 : Nat) (A : Nat → Prop) (u : Nat × Nat × Nat × Nat × Nat) (t : State) : Prop := va_P (dC, dI) vCl ([(q0, .inr (4, [.ref p1, .ref u.1, .ref u.2.2.2.1, .ref u.2.2.2.2, .int 0, .int 0])), (u.1, .inr (3, [.ref u.2.1, .ref u.2.2.1])), (u.2.1, .inl (cI, 6, .inl (fun _ => 0))), (u.2.2.1, .inl (cI, 6, .inl (fun _ => 0))), (u.2.2.2.1, .inl (cI, 400, .inl (fun _ => 0))), (u.2.2.2.2, .inl (cI, 400, .inl (fun _ => 0)))]) t.heap ∧ va_D A ([(q0, .inr (4, [.ref p1, .ref u.1, .ref u.2.2.2.1, .ref u.2.2.2.2, .int 0, .int 0])), (u.1, .inr (3, [.ref u.2.1, .ref u.2.2.1])), (u.2.1, .inl (cI, 6, .inl (fun _ => 0))), (u.2.2.1, .inl (cI, 6, .inl (fun _ => 0))), (u.2.2.2.1, .inl (cI, 400, .inl (fun _ => 0))), (u.2.2.2.2, .inl (cI, 400, .inl (fun _ => 0)))])
set_option maxHeartbeats 8000000 in
set_option maxRecDepth 100000 in
theorem c_SetList_init (l : Launch) (dC : Nat → ClassId) (dI : Nat → Nat → Nat) (cI cJ cG cZ : ClassId) (q0 p1 : Nat) (sz : Nat) : Met l y_SetList_init w_SetList_init ({ frames := 2, cells := 5, slots := 814, locals := 32 } : Room) (va_Pc [.ref q0, .ref p1] (pcN dC dI cI cJ cG cZ sz ([(q0, .inr (4, [.null, .null, .null, .null, .int 0, .int 0]))]))) (va_Qv (fun (_ : Nat × Nat × Nat × Nat × Nat) => True) (at_SetList_init dC dI cI cJ cG cZ q0 p1 (va_A ([(q0, .inr (4, [.null, .null, .null, .null, .int 0, .int 0]))]) sz)) (va_A ([(q0, .inr (4, [.null, .null, .null, .null, .int 0, .int 0]))]) sz)) 5 814 (va_A ([(q0, .inr (4, [.null, .null, .null, .null, .int 0, .int 0]))]) sz) := by
  refine Met.ofW (cc := b_SetList_init) (maxL := 2) (ret := none) (by decide) rfl ?_
  intro p e s m args below meth c s₁ B hml hv
  obtain ⟨rfl, ⟨hsz, hP, hK, hN, hD0⟩, hO⟩ := hv
  have hx := B.exec
  have hb := B.bytes
  have hr := B.returns
  have hts := atoms_spec (ws := w_SetList_init) B.pre
  have hown : s.vm.findClass "PairChoice$SetList" = some m.cls := findClass_of_methodNamed B.named
  have hlocks := B.notSynchronized
  have hin : meth.name = "<init>" := (name_of_methodNamed B.named B.method).1
  subst hsz
  have hD := hD0.self (sz := s.heap.size)
  generalize hAe : va_A ([(q0, .inr (4, [.null, .null, .null, .null, .int 0, .int 0]))]) s.heap.size = A at hD ⊢
  have hA : ∀ q : Nat, s.heap.size ≤ q → A q := fun q h => by rw [← hAe]; exact Or.inr h
  have hS : va_S A s.heap s.heap [] := va_S.rf
  have hl := lv_entry ([.ref q0, .ref p1]) (n := 2) (Nat.le_of_ble_eq_true rfl)
  rw [lg_entry_eq]
  generalize (lg_sl ([.ref q0, .ref p1]) ++ List.replicate (2 - (lg_sl ([.ref q0, .ref p1])).length) Slot.unset).toArray = ls at hl ⊢
  have hl : lv_has ls 2 [(0, .ref q0), (1, .ref p1)] := hl
  refine lv_aload_n hx hb d_SetList_init_0 rfl (lv_at hl 0 rfl) ?_
  refine W.objInit hx hb hown (hts _ (List.mem_cons_of_mem _ kw_113)) (hts _ (List.mem_cons_of_mem _ kw_54)) (hts _ (List.mem_cons_of_mem _ kw_55)) rfl (by rw [hml]; exact hl.1) rfl d_SetList_init_1 (Nat.le_of_ble_eq_true rfl) (Nat.le_of_ble_eq_true rfl) ?_
  refine W.eq (g2 := F0 m 4 ls []) rfl ?_
  refine lv_aload_n hx hb d_SetList_init_4 rfl (lv_at hl 0 rfl) ?_
  refine va_new (ci := 3) (fs := [.null, .null]) (C := "PairChoice$Pairing") (T := F_Pairing) (N := 2) hx hb hts (fun w h => List.mem_cons_of_mem _ (i_Pairing w h)) t_Pairing t_Pairing_ok hown (hts _ (List.mem_cons_of_mem _ kw_114)) (hts _ (List.mem_cons_of_mem _ kw_115)) (hts _ (List.mem_cons_of_mem _ kw_42)) hK hP hD hS hA rfl (fun j hj => by rcases (show j = 0 ∨ j = 1 by omega) with rfl | rfl <;> rfl) (Nat.le_of_ble_eq_true rfl) (Nat.le_of_ble_eq_true rfl) d_SetList_init_5 (fun a1 H hP hD hS => ?_)
  have hP : va_P (dC, dI) vCl ([(q0, .inr (4, [.null, .null, .null, .null, .int 0, .int 0])), (a1, .inr (3, [.null, .null]))]) H := hP
  have hD : va_D A ([(q0, .inr (4, [.null, .null, .null, .null, .int 0, .int 0])), (a1, .inr (3, [.null, .null]))]) := hD
  refine lv_dup hx hb d_SetList_init_8 rfl ?_
  have hPc := hP.sub (ws' := [(a1, .inr (3, [.null, .null]))]) [1] rfl
  have hDc := hD.sub (ws' := [(a1, .inr (3, [.null, .null]))]) [1] (by decide) rfl
  have hFc := va_free (wc := [(a1, .inr (3, [.null, .null]))]) hD hS hA [1] rfl
  refine va_callv (va_runIN (As := []) (rest := [.ref a1, .ref q0]) ⟨hx, hb, hml, hown, hts⟩ (c_Pairing_init l dC dI cI cJ cG cZ a1 H.size) ⟨va_cnB 0 hts (gcB kw_118) rfl rfl rfl (nw_116 hN) (hts _ (List.mem_cons_of_mem _ kw_42)) (by decide +kernel) ⟨Nat.le_of_ble_eq_true rfl, Nat.le_of_ble_eq_true rfl⟩, rfl, (hts _ (List.mem_cons_of_mem _ kw_117))⟩ ⟨fb_n, pre_n hPc hK hN hDc hO⟩ rfl rfl hl.1 rfl (lv_room (Nat.le_of_ble_eq_true rfl)) d_SetList_init_9 ⟨Nat.le_of_ble_eq_true rfl, Nat.le_of_ble_eq_true rfl⟩) hS (fun q _ h => hFc q h) hFc (fun u t H1 locs ht hvm _ hB hz1 hk1 hS => ?_)
  obtain ⟨a2, a3⟩ := u
  obtain ⟨hP1, hD1⟩ := hB
  rw [ht] at hP1
  obtain ⟨hP, hD⟩ := va_join (wr := [(q0, .inr (4, [.null, .null, .null, .null, .int 0, .int 0]))]) (w1 := [(a1, .inr (3, [.ref a2, .ref a3])), (a2, .inl (cI, 6, .inl (fun _ => 0))), (a3, .inl (cI, 6, .inl (fun _ => 0)))]) hP hD [1] [0] rfl rfl (by decide) (by decide) hk1 hFc hP1 hD1
  generalize H1 = H at hP hS ⊢
  have hP : va_P (dC, dI) vCl ([(q0, .inr (4, [.null, .null, .null, .null, .int 0, .int 0])), (a1, .inr (3, [.ref a2, .ref a3])), (a2, .inl (cI, 6, .inl (fun _ => 0))), (a3, .inl (cI, 6, .inl (fun _ => 0)))]) H := hP
  have hD : va_D A ([(q0, .inr (4, [.null, .null, .null, .null, .int 0, .int 0])), (a1, .inr (3, [.ref a2, .ref a3])), (a2, .inl (cI, 6, .inl (fun _ => 0))), (a3, .inl (cI, 6, .inl (fun _ => 0)))]) := hD
  refine va_putF (D := (dC, dI)) (ci := 4) (v := .ref a1) (ty := .object "PairChoice$Pairing") (C := "PairChoice$SetList") (T := F_SetList) (N := 6) hx hb hts (fun w h => List.mem_cons_of_mem _ (i_SetList w h)) t_SetList t_SetList_ok n_SetList hown hK hP hD hS 0 rfl rfl 1 (by decide) (hts _ (List.mem_cons_of_mem _ kw_132)) (fun _ h9 => h9) rfl hin rfl (by decide +kernel) rfl rfl (Nat.le_of_ble_eq_true rfl) d_SetList_init_12 (fun H locs hP hD hS => ?_)
  have hP : va_P (dC, dI) vCl ([(q0, .inr (4, [.null, .ref a1, .null, .null, .int 0, .int 0])), (a1, .inr (3, [.ref a2, .ref a3])), (a2, .inl (cI, 6, .inl (fun _ => 0))), (a3, .inl (cI, 6, .inl (fun _ => 0)))]) H := hP
  have hD : va_D A ([(q0, .inr (4, [.null, .ref a1, .null, .null, .int 0, .int 0])), (a1, .inr (3, [.ref a2, .ref a3])), (a2, .inl (cI, 6, .inl (fun _ => 0))), (a3, .inl (cI, 6, .inl (fun _ => 0)))]) := hD
  refine lv_aload_n hx hb d_SetList_init_15 rfl (lv_at hl 0 rfl) ?_
  refine lv_sipush (v := 400) hx hb d_SetList_init_16 (by decide) ?_
  refine va_newa (atype := .int) (N' := 400) (a0 := (400, .inl (fun _ => 0))) hx hb (hts _ (List.mem_cons_of_mem _ kw_107)) (ty := .int) rfl hK hP hD hS hA (fun _ => rfl) (by decide) rfl (by decide) (Nat.le_of_ble_eq_true rfl) (Nat.le_of_ble_eq_true rfl) d_SetList_init_19 (fun a4 cA H hK1 hP hD hS => ?_)
  obtain rfl := ca_i hK hK1
  have hP : va_P (dC, dI) vCl ([(q0, .inr (4, [.null, .ref a1, .null, .null, .int 0, .int 0])), (a1, .inr (3, [.ref a2, .ref a3])), (a2, .inl (cI, 6, .inl (fun _ => 0))), (a3, .inl (cI, 6, .inl (fun _ => 0))), (a4, .inl (cI, 400, .inl (fun _ => 0)))]) H := hP
  have hD : va_D A ([(q0, .inr (4, [.null, .ref a1, .null, .null, .int 0, .int 0])), (a1, .inr (3, [.ref a2, .ref a3])), (a2, .inl (cI, 6, .inl (fun _ => 0))), (a3, .inl (cI, 6, .inl (fun _ => 0))), (a4, .inl (cI, 400, .inl (fun _ => 0)))]) := hD
  refine va_putF (D := (dC, dI)) (ci := 4) (v := .ref a4) (ty := .array .int) (C := "PairChoice$SetList") (T := F_SetList) (N := 6) hx hb hts (fun w h => List.mem_cons_of_mem _ (i_SetList w h)) t_SetList t_SetList_ok n_SetList hown hK hP hD hS 0 rfl rfl 2 (by decide) (hts _ (List.mem_cons_of_mem _ kw_133)) (fun _ h9 => h9) rfl hin rfl (by decide +kernel) rfl rfl (Nat.le_of_ble_eq_true rfl) d_SetList_init_21 (fun H locs hP hD hS => ?_)
  have hP : va_P (dC, dI) vCl ([(q0, .inr (4, [.null, .ref a1, .ref a4, .null, .int 0, .int 0])), (a1, .inr (3, [.ref a2, .ref a3])), (a2, .inl (cI, 6, .inl (fun _ => 0))), (a3, .inl (cI, 6, .inl (fun _ => 0))), (a4, .inl (cI, 400, .inl (fun _ => 0)))]) H := hP
  have hD : va_D A ([(q0, .inr (4, [.null, .ref a1, .ref a4, .null, .int 0, .int 0])), (a1, .inr (3, [.ref a2, .ref a3])), (a2, .inl (cI, 6, .inl (fun _ => 0))), (a3, .inl (cI, 6, .inl (fun _ => 0))), (a4, .inl (cI, 400, .inl (fun _ => 0)))]) := hD
  refine lv_aload_n hx hb d_SetList_init_24 rfl (lv_at hl 0 rfl) ?_
  refine lv_sipush (v := 400) hx hb d_SetList_init_25 (by decide) ?_
  refine va_newa (atype := .int) (N' := 400) (a0 := (400, .inl (fun _ => 0))) hx hb (hts _ (List.mem_cons_of_mem _ kw_107)) (ty := .int) rfl hK hP hD hS hA (fun _ => rfl) (by decide) rfl (by decide) (Nat.le_of_ble_eq_true rfl) (Nat.le_of_ble_eq_true rfl) d_SetList_init_28 (fun a5 cA H hK1 hP hD hS => ?_)
  obtain rfl := ca_i hK hK1
  have hP : va_P (dC, dI) vCl ([(q0, .inr (4, [.null, .ref a1, .ref a4, .null, .int 0, .int 0])), (a1, .inr (3, [.ref a2, .ref a3])), (a2, .inl (cI, 6, .inl (fun _ => 0))), (a3, .inl (cI, 6, .inl (fun _ => 0))), (a4, .inl (cI, 400, .inl (fun _ => 0))), (a5, .inl (cI, 400, .inl (fun _ => 0)))]) H := hP
  have hD : va_D A ([(q0, .inr (4, [.null, .ref a1, .ref a4, .null, .int 0, .int 0])), (a1, .inr (3, [.ref a2, .ref a3])), (a2, .inl (cI, 6, .inl (fun _ => 0))), (a3, .inl (cI, 6, .inl (fun _ => 0))), (a4, .inl (cI, 400, .inl (fun _ => 0))), (a5, .inl (cI, 400, .inl (fun _ => 0)))]) := hD
  refine va_putF (D := (dC, dI)) (ci := 4) (v := .ref a5) (ty := .array .int) (C := "PairChoice$SetList") (T := F_SetList) (N := 6) hx hb hts (fun w h => List.mem_cons_of_mem _ (i_SetList w h)) t_SetList t_SetList_ok n_SetList hown hK hP hD hS 0 rfl rfl 3 (by decide) (hts _ (List.mem_cons_of_mem _ kw_134)) (fun _ h9 => h9) rfl hin rfl (by decide +kernel) rfl rfl (Nat.le_of_ble_eq_true rfl) d_SetList_init_30 (fun H locs hP hD hS => ?_)
  have hP : va_P (dC, dI) vCl ([(q0, .inr (4, [.null, .ref a1, .ref a4, .ref a5, .int 0, .int 0])), (a1, .inr (3, [.ref a2, .ref a3])), (a2, .inl (cI, 6, .inl (fun _ => 0))), (a3, .inl (cI, 6, .inl (fun _ => 0))), (a4, .inl (cI, 400, .inl (fun _ => 0))), (a5, .inl (cI, 400, .inl (fun _ => 0)))]) H := hP
  have hD : va_D A ([(q0, .inr (4, [.null, .ref a1, .ref a4, .ref a5, .int 0, .int 0])), (a1, .inr (3, [.ref a2, .ref a3])), (a2, .inl (cI, 6, .inl (fun _ => 0))), (a3, .inl (cI, 6, .inl (fun _ => 0))), (a4, .inl (cI, 400, .inl (fun _ => 0))), (a5, .inl (cI, 400, .inl (fun _ => 0)))]) := hD
  refine lv_aload_n hx hb d_SetList_init_33 rfl (lv_at hl 0 rfl) ?_
  refine lv_iconst (v := 0) hx hb d_SetList_init_34 (by decide) ?_
  refine va_put (D := (dC, dI)) (ci := 4) (v := .int 0) (ty := .int) (C := "PairChoice$SetList") (T := F_SetList) (N := 6) hx hb hts (fun w h => List.mem_cons_of_mem _ (i_SetList w h)) t_SetList t_SetList_ok n_SetList hown hK hP hD hS 0 rfl rfl 4 (by decide) (hts _ (List.mem_cons_of_mem _ kw_135)) (fun _ h9 => h9) rfl (by decide +kernel) rfl rfl (Nat.le_of_ble_eq_true rfl) d_SetList_init_35 (fun H locs hP hD hS => ?_)
  have hP : va_P (dC, dI) vCl ([(q0, .inr (4, [.null, .ref a1, .ref a4, .ref a5, .int 0, .int 0])), (a1, .inr (3, [.ref a2, .ref a3])), (a2, .inl (cI, 6, .inl (fun _ => 0))), (a3, .inl (cI, 6, .inl (fun _ => 0))), (a4, .inl (cI, 400, .inl (fun _ => 0))), (a5, .inl (cI, 400, .inl (fun _ => 0)))]) H := hP
  have hD : va_D A ([(q0, .inr (4, [.null, .ref a1, .ref a4, .ref a5, .int 0, .int 0])), (a1, .inr (3, [.ref a2, .ref a3])), (a2, .inl (cI, 6, .inl (fun _ => 0))), (a3, .inl (cI, 6, .inl (fun _ => 0))), (a4, .inl (cI, 400, .inl (fun _ => 0))), (a5, .inl (cI, 400, .inl (fun _ => 0)))]) := hD
  refine lv_aload_n hx hb d_SetList_init_38 rfl (lv_at hl 0 rfl) ?_
  refine lv_iconst (v := 0) hx hb d_SetList_init_39 (by decide) ?_
  refine va_put (D := (dC, dI)) (ci := 4) (v := .int 0) (ty := .int) (C := "PairChoice$SetList") (T := F_SetList) (N := 6) hx hb hts (fun w h => List.mem_cons_of_mem _ (i_SetList w h)) t_SetList t_SetList_ok n_SetList hown hK hP hD hS 0 rfl rfl 5 (by decide) (hts _ (List.mem_cons_of_mem _ kw_137)) (fun _ h9 => h9) rfl (by decide +kernel) rfl rfl (Nat.le_of_ble_eq_true rfl) d_SetList_init_40 (fun H locs hP hD hS => ?_)
  have hP : va_P (dC, dI) vCl ([(q0, .inr (4, [.null, .ref a1, .ref a4, .ref a5, .int 0, .int 0])), (a1, .inr (3, [.ref a2, .ref a3])), (a2, .inl (cI, 6, .inl (fun _ => 0))), (a3, .inl (cI, 6, .inl (fun _ => 0))), (a4, .inl (cI, 400, .inl (fun _ => 0))), (a5, .inl (cI, 400, .inl (fun _ => 0)))]) H := hP
  have hD : va_D A ([(q0, .inr (4, [.null, .ref a1, .ref a4, .ref a5, .int 0, .int 0])), (a1, .inr (3, [.ref a2, .ref a3])), (a2, .inl (cI, 6, .inl (fun _ => 0))), (a3, .inl (cI, 6, .inl (fun _ => 0))), (a4, .inl (cI, 400, .inl (fun _ => 0))), (a5, .inl (cI, 400, .inl (fun _ => 0)))]) := hD
  refine lv_aload_n hx hb d_SetList_init_43 rfl (lv_at hl 0 rfl) ?_
  refine lv_aload_n hx hb d_SetList_init_44 rfl (lv_at hl 1 rfl) ?_
  refine va_putF (D := (dC, dI)) (ci := 4) (v := .ref p1) (ty := .object "PairChoice$Herd") (C := "PairChoice$SetList") (T := F_SetList) (N := 6) hx hb hts (fun w h => List.mem_cons_of_mem _ (i_SetList w h)) t_SetList t_SetList_ok n_SetList hown hK hP hD hS 0 rfl rfl 0 (by decide) (hts _ (List.mem_cons_of_mem _ kw_131)) (fun _ h9 => h9) rfl hin rfl (by decide +kernel) rfl rfl (Nat.le_of_ble_eq_true rfl) d_SetList_init_45 (fun H locs hP hD hS => ?_)
  have hP : va_P (dC, dI) vCl ([(q0, .inr (4, [.ref p1, .ref a1, .ref a4, .ref a5, .int 0, .int 0])), (a1, .inr (3, [.ref a2, .ref a3])), (a2, .inl (cI, 6, .inl (fun _ => 0))), (a3, .inl (cI, 6, .inl (fun _ => 0))), (a4, .inl (cI, 400, .inl (fun _ => 0))), (a5, .inl (cI, 400, .inl (fun _ => 0)))]) H := hP
  have hD : va_D A ([(q0, .inr (4, [.ref p1, .ref a1, .ref a4, .ref a5, .int 0, .int 0])), (a1, .inr (3, [.ref a2, .ref a3])), (a2, .inl (cI, 6, .inl (fun _ => 0))), (a3, .inl (cI, 6, .inl (fun _ => 0))), (a4, .inl (cI, 400, .inl (fun _ => 0))), (a5, .inl (cI, 400, .inl (fun _ => 0)))]) := hD
  refine W.widen (k := 5) (n := 814) (Nat.le_of_ble_eq_true rfl) (Nat.le_of_ble_eq_true rfl) ?_
  exact W.vret hx hb hr (fun t ht hW => ⟨⟨(a1, a2, a3, a4, a5), rfl, trivial, ⟨by rw [ht]; exact hP, hD⟩⟩, hS.F ht⟩) hS.2.2 d_SetList_init_48
def at_Choice_init (dC : Nat → ClassId) (dI : Nat → Nat → Nat) (cI cJ cG cZ : ClassId) (q0 p1 : Nat) (A : Nat → Prop) (u : Nat × Nat × Nat × Nat × Nat) (t : State) : Prop := va_P (dC, dI) vCl ([(q0, .inr (0, [.ref p1, .ref u.1, .int 0, .int 0, .int 0, .ref u.2.2.2.1, .ref u.2.2.2.2])), (u.1, .inr (3, [.ref u.2.1, .ref u.2.2.1])), (u.2.1, .inl (cI, 6, .inl (fun _ => 0))), (u.2.2.1, .inl (cI, 6, .inl (fun _ => 0))), (u.2.2.2.1, .inl (cI, 6, .inl (fun _ => 0))), (u.2.2.2.2, .inl (cJ, 6, .inr (.inl (fun _ => 0))))]) t.heap ∧ va_D A ([(q0, .inr (0, [.ref p1, .ref u.1, .int 0, .int 0, .int 0, .ref u.2.2.2.1, .ref u.2.2.2.2])), (u.1, .inr (3, [.ref u.2.1, .ref u.2.2.1])), (u.2.1, .inl (cI, 6, .inl (fun _ => 0))), (u.2.2.1, .inl (cI, 6, .inl (fun _ => 0))), (u.2.2.2.1, .inl (cI, 6, .inl (fun _ => 0))), (u.2.2.2.2, .inl (cJ, 6, .inr (.inl (fun _ => 0))))])
set_option maxHeartbeats 8000000 in
set_option maxRecDepth 100000 in
theorem c_Choice_init (l : Launch) (dC : Nat → ClassId) (dI : Nat → Nat → Nat) (cI cJ cG cZ : ClassId) (q0 p1 : Nat) (sz : Nat) : Met l y_Choice_init w_Choice_init ({ frames := 2, cells := 5, slots := 26, locals := 32 } : Room) (va_Pc [.ref q0, .ref p1] (pcN dC dI cI cJ cG cZ sz ([(q0, .inr (0, [.null, .null, .int 0, .int 0, .int 0, .null, .null]))]))) (va_Qv (fun (_ : Nat × Nat × Nat × Nat × Nat) => True) (at_Choice_init dC dI cI cJ cG cZ q0 p1 (va_A ([(q0, .inr (0, [.null, .null, .int 0, .int 0, .int 0, .null, .null]))]) sz)) (va_A ([(q0, .inr (0, [.null, .null, .int 0, .int 0, .int 0, .null, .null]))]) sz)) 5 26 (va_A ([(q0, .inr (0, [.null, .null, .int 0, .int 0, .int 0, .null, .null]))]) sz) := by
  refine Met.ofW (cc := b_Choice_init) (maxL := 2) (ret := none) (by decide) rfl ?_
  intro p e s m args below meth c s₁ B hml hv
  obtain ⟨rfl, ⟨hsz, hP, hK, hN, hD0⟩, hO⟩ := hv
  have hx := B.exec
  have hb := B.bytes
  have hr := B.returns
  have hts := atoms_spec (ws := w_Choice_init) B.pre
  have hown : s.vm.findClass "PairChoice$Choice" = some m.cls := findClass_of_methodNamed B.named
  have hlocks := B.notSynchronized
  have hin : meth.name = "<init>" := (name_of_methodNamed B.named B.method).1
  subst hsz
  have hD := hD0.self (sz := s.heap.size)
  generalize hAe : va_A ([(q0, .inr (0, [.null, .null, .int 0, .int 0, .int 0, .null, .null]))]) s.heap.size = A at hD ⊢
  have hA : ∀ q : Nat, s.heap.size ≤ q → A q := fun q h => by rw [← hAe]; exact Or.inr h
  have hS : va_S A s.heap s.heap [] := va_S.rf
  have hl := lv_entry ([.ref q0, .ref p1]) (n := 2) (Nat.le_of_ble_eq_true rfl)
  rw [lg_entry_eq]
  generalize (lg_sl ([.ref q0, .ref p1]) ++ List.replicate (2 - (lg_sl ([.ref q0, .ref p1])).length) Slot.unset).toArray = ls at hl ⊢
  have hl : lv_has ls 2 [(0, .ref q0), (1, .ref p1)] := hl
  refine lv_aload_n hx hb d_Choice_init_0 rfl (lv_at hl 0 rfl) ?_
  refine W.objInit hx hb hown (hts _ (List.mem_cons_of_mem _ kw_156)) (hts _ (List.mem_cons_of_mem _ kw_54)) (hts _ (List.mem_cons_of_mem _ kw_55)) rfl (by rw [hml]; exact hl.1) rfl d_Choice_init_1 (Nat.le_of_ble_eq_true rfl) (Nat.le_of_ble_eq_true rfl) ?_
  refine W.eq (g2 := F0 m 4 ls []) rfl ?_
  refine lv_aload_n hx hb d_Choice_init_4 rfl (lv_at hl 0 rfl) ?_
  refine va_new (ci := 3) (fs := [.null, .null]) (C := "PairChoice$Pairing") (T := F_Pairing) (N := 2) hx hb hts (fun w h => List.mem_cons_of_mem _ (i_Pairing w h)) t_Pairing t_Pairing_ok hown (hts _ (List.mem_cons_of_mem _ kw_157)) (hts _ (List.mem_cons_of_mem _ kw_115)) (hts _ (List.mem_cons_of_mem _ kw_42)) hK hP hD hS hA rfl (fun j hj => by rcases (show j = 0 ∨ j = 1 by omega) with rfl | rfl <;> rfl) (Nat.le_of_ble_eq_true rfl) (Nat.le_of_ble_eq_true rfl) d_Choice_init_5 (fun a1 H hP hD hS => ?_)
  have hP : va_P (dC, dI) vCl ([(q0, .inr (0, [.null, .null, .int 0, .int 0, .int 0, .null, .null])), (a1, .inr (3, [.null, .null]))]) H := hP
  have hD : va_D A ([(q0, .inr (0, [.null, .null, .int 0, .int 0, .int 0, .null, .null])), (a1, .inr (3, [.null, .null]))]) := hD
  refine lv_dup hx hb d_Choice_init_8 rfl ?_
  have hPc := hP.sub (ws' := [(a1, .inr (3, [.null, .null]))]) [1] rfl
  have hDc := hD.sub (ws' := [(a1, .inr (3, [.null, .null]))]) [1] (by decide) rfl
  have hFc := va_free (wc := [(a1, .inr (3, [.null, .null]))]) hD hS hA [1] rfl
  refine va_callv (va_runIN (As := []) (rest := [.ref a1, .ref q0]) ⟨hx, hb, hml, hown, hts⟩ (c_Pairing_init l dC dI cI cJ cG cZ a1 H.size) ⟨va_cnB 0 hts (gcB kw_118) rfl rfl rfl (nw_158 hN) (hts _ (List.mem_cons_of_mem _ kw_42)) (by decide +kernel) ⟨Nat.le_of_ble_eq_true rfl, Nat.le_of_ble_eq_true rfl⟩, rfl, (hts _ (List.mem_cons_of_mem _ kw_117))⟩ ⟨fb_n, pre_n hPc hK hN hDc hO⟩ rfl rfl hl.1 rfl (lv_room (Nat.le_of_ble_eq_true rfl)) d_Choice_init_9 ⟨Nat.le_of_ble_eq_true rfl, Nat.le_of_ble_eq_true rfl⟩) hS (fun q _ h => hFc q h) hFc (fun u t H1 locs ht hvm _ hB hz1 hk1 hS => ?_)
  obtain ⟨a2, a3⟩ := u
  obtain ⟨hP1, hD1⟩ := hB
  rw [ht] at hP1
  obtain ⟨hP, hD⟩ := va_join (wr := [(q0, .inr (0, [.null, .null, .int 0, .int 0, .int 0, .null, .null]))]) (w1 := [(a1, .inr (3, [.ref a2, .ref a3])), (a2, .inl (cI, 6, .inl (fun _ => 0))), (a3, .inl (cI, 6, .inl (fun _ => 0)))]) hP hD [1] [0] rfl rfl (by decide) (by decide) hk1 hFc hP1 hD1
  generalize H1 = H at hP hS ⊢
  have hP : va_P (dC, dI) vCl ([(q0, .inr (0, [.null, .null, .int 0, .int 0, .int 0, .null, .null])), (a1, .inr (3, [.ref a2, .ref a3])), (a2, .inl (cI, 6, .inl (fun _ => 0))), (a3, .inl (cI, 6, .inl (fun _ => 0)))]) H := hP
  have hD : va_D A ([(q0, .inr (0, [.null, .null, .int 0, .int 0, .int 0, .null, .null])), (a1, .inr (3, [.ref a2, .ref a3])), (a2, .inl (cI, 6, .inl (fun _ => 0))), (a3, .inl (cI, 6, .inl (fun _ => 0)))]) := hD
  refine va_putF (D := (dC, dI)) (ci := 0) (v := .ref a1) (ty := .object "PairChoice$Pairing") (C := "PairChoice$Choice") (T := F_Choice) (N := 7) hx hb hts (fun w h => List.mem_cons_of_mem _ (i_Choice w h)) t_Choice t_Choice_ok n_Choice hown hK hP hD hS 0 rfl rfl 1 (by decide) (hts _ (List.mem_cons_of_mem _ kw_160)) (fun _ h9 => h9) rfl hin rfl (by decide +kernel) rfl rfl (Nat.le_of_ble_eq_true rfl) d_Choice_init_12 (fun H locs hP hD hS => ?_)
  have hP : va_P (dC, dI) vCl ([(q0, .inr (0, [.null, .ref a1, .int 0, .int 0, .int 0, .null, .null])), (a1, .inr (3, [.ref a2, .ref a3])), (a2, .inl (cI, 6, .inl (fun _ => 0))), (a3, .inl (cI, 6, .inl (fun _ => 0)))]) H := hP
  have hD : va_D A ([(q0, .inr (0, [.null, .ref a1, .int 0, .int 0, .int 0, .null, .null])), (a1, .inr (3, [.ref a2, .ref a3])), (a2, .inl (cI, 6, .inl (fun _ => 0))), (a3, .inl (cI, 6, .inl (fun _ => 0)))]) := hD
  refine lv_aload_n hx hb d_Choice_init_15 rfl (lv_at hl 0 rfl) ?_
  refine lv_iconst (v := 0) hx hb d_Choice_init_16 (by decide) ?_
  refine va_put (D := (dC, dI)) (ci := 0) (v := .int 0) (ty := .int) (C := "PairChoice$Choice") (T := F_Choice) (N := 7) hx hb hts (fun w h => List.mem_cons_of_mem _ (i_Choice w h)) t_Choice t_Choice_ok n_Choice hown hK hP hD hS 0 rfl rfl 2 (by decide) (hts _ (List.mem_cons_of_mem _ kw_162)) (fun _ h9 => h9) rfl (by decide +kernel) rfl rfl (Nat.le_of_ble_eq_true rfl) d_Choice_init_17 (fun H locs hP hD hS => ?_)
  have hP : va_P (dC, dI) vCl ([(q0, .inr (0, [.null, .ref a1, .int 0, .int 0, .int 0, .null, .null])), (a1, .inr (3, [.ref a2, .ref a3])), (a2, .inl (cI, 6, .inl (fun _ => 0))), (a3, .inl (cI, 6, .inl (fun _ => 0)))]) H := hP
  have hD : va_D A ([(q0, .inr (0, [.null, .ref a1, .int 0, .int 0, .int 0, .null, .null])), (a1, .inr (3, [.ref a2, .ref a3])), (a2, .inl (cI, 6, .inl (fun _ => 0))), (a3, .inl (cI, 6, .inl (fun _ => 0)))]) := hD
  refine lv_aload_n hx hb d_Choice_init_20 rfl (lv_at hl 0 rfl) ?_
  refine lv_iconst (v := 0) hx hb d_Choice_init_21 (by decide) ?_
  refine va_put (D := (dC, dI)) (ci := 0) (v := .int 0) (ty := .int) (C := "PairChoice$Choice") (T := F_Choice) (N := 7) hx hb hts (fun w h => List.mem_cons_of_mem _ (i_Choice w h)) t_Choice t_Choice_ok n_Choice hown hK hP hD hS 0 rfl rfl 3 (by decide) (hts _ (List.mem_cons_of_mem _ kw_164)) (fun _ h9 => h9) rfl (by decide +kernel) rfl rfl (Nat.le_of_ble_eq_true rfl) d_Choice_init_22 (fun H locs hP hD hS => ?_)
  have hP : va_P (dC, dI) vCl ([(q0, .inr (0, [.null, .ref a1, .int 0, .int 0, .int 0, .null, .null])), (a1, .inr (3, [.ref a2, .ref a3])), (a2, .inl (cI, 6, .inl (fun _ => 0))), (a3, .inl (cI, 6, .inl (fun _ => 0)))]) H := hP
  have hD : va_D A ([(q0, .inr (0, [.null, .ref a1, .int 0, .int 0, .int 0, .null, .null])), (a1, .inr (3, [.ref a2, .ref a3])), (a2, .inl (cI, 6, .inl (fun _ => 0))), (a3, .inl (cI, 6, .inl (fun _ => 0)))]) := hD
  refine lv_aload_n hx hb d_Choice_init_25 rfl (lv_at hl 0 rfl) ?_
  refine lv_iconst (v := 0) hx hb d_Choice_init_26 (by decide) ?_
  refine va_put (D := (dC, dI)) (ci := 0) (v := .int 0) (ty := .int) (C := "PairChoice$Choice") (T := F_Choice) (N := 7) hx hb hts (fun w h => List.mem_cons_of_mem _ (i_Choice w h)) t_Choice t_Choice_ok n_Choice hown hK hP hD hS 0 rfl rfl 4 (by decide) (hts _ (List.mem_cons_of_mem _ kw_166)) (fun _ h9 => h9) rfl (by decide +kernel) rfl rfl (Nat.le_of_ble_eq_true rfl) d_Choice_init_27 (fun H locs hP hD hS => ?_)
  have hP : va_P (dC, dI) vCl ([(q0, .inr (0, [.null, .ref a1, .int 0, .int 0, .int 0, .null, .null])), (a1, .inr (3, [.ref a2, .ref a3])), (a2, .inl (cI, 6, .inl (fun _ => 0))), (a3, .inl (cI, 6, .inl (fun _ => 0)))]) H := hP
  have hD : va_D A ([(q0, .inr (0, [.null, .ref a1, .int 0, .int 0, .int 0, .null, .null])), (a1, .inr (3, [.ref a2, .ref a3])), (a2, .inl (cI, 6, .inl (fun _ => 0))), (a3, .inl (cI, 6, .inl (fun _ => 0)))]) := hD
  refine lv_aload_n hx hb d_Choice_init_30 rfl (lv_at hl 0 rfl) ?_
  refine lv_bipush (v := 6) hx hb d_Choice_init_31 (by decide) ?_
  refine va_newa (atype := .int) (N' := 6) (a0 := (6, .inl (fun _ => 0))) hx hb (hts _ (List.mem_cons_of_mem _ kw_107)) (ty := .int) rfl hK hP hD hS hA (fun _ => rfl) (by decide) rfl (by decide) (Nat.le_of_ble_eq_true rfl) (Nat.le_of_ble_eq_true rfl) d_Choice_init_33 (fun a4 cA H hK1 hP hD hS => ?_)
  obtain rfl := ca_i hK hK1
  have hP : va_P (dC, dI) vCl ([(q0, .inr (0, [.null, .ref a1, .int 0, .int 0, .int 0, .null, .null])), (a1, .inr (3, [.ref a2, .ref a3])), (a2, .inl (cI, 6, .inl (fun _ => 0))), (a3, .inl (cI, 6, .inl (fun _ => 0))), (a4, .inl (cI, 6, .inl (fun _ => 0)))]) H := hP
  have hD : va_D A ([(q0, .inr (0, [.null, .ref a1, .int 0, .int 0, .int 0, .null, .null])), (a1, .inr (3, [.ref a2, .ref a3])), (a2, .inl (cI, 6, .inl (fun _ => 0))), (a3, .inl (cI, 6, .inl (fun _ => 0))), (a4, .inl (cI, 6, .inl (fun _ => 0)))]) := hD
  refine va_putF (D := (dC, dI)) (ci := 0) (v := .ref a4) (ty := .array .int) (C := "PairChoice$Choice") (T := F_Choice) (N := 7) hx hb hts (fun w h => List.mem_cons_of_mem _ (i_Choice w h)) t_Choice t_Choice_ok n_Choice hown hK hP hD hS 0 rfl rfl 5 (by decide) (hts _ (List.mem_cons_of_mem _ kw_168)) (fun _ h9 => h9) rfl hin rfl (by decide +kernel) rfl rfl (Nat.le_of_ble_eq_true rfl) d_Choice_init_35 (fun H locs hP hD hS => ?_)
  have hP : va_P (dC, dI) vCl ([(q0, .inr (0, [.null, .ref a1, .int 0, .int 0, .int 0, .ref a4, .null])), (a1, .inr (3, [.ref a2, .ref a3])), (a2, .inl (cI, 6, .inl (fun _ => 0))), (a3, .inl (cI, 6, .inl (fun _ => 0))), (a4, .inl (cI, 6, .inl (fun _ => 0)))]) H := hP
  have hD : va_D A ([(q0, .inr (0, [.null, .ref a1, .int 0, .int 0, .int 0, .ref a4, .null])), (a1, .inr (3, [.ref a2, .ref a3])), (a2, .inl (cI, 6, .inl (fun _ => 0))), (a3, .inl (cI, 6, .inl (fun _ => 0))), (a4, .inl (cI, 6, .inl (fun _ => 0)))]) := hD
  refine lv_aload_n hx hb d_Choice_init_38 rfl (lv_at hl 0 rfl) ?_
  refine lv_bipush (v := 6) hx hb d_Choice_init_39 (by decide) ?_
  refine va_newa (atype := .long) (N' := 6) (a0 := (6, .inr (.inl (fun _ => 0)))) hx hb (hts _ (List.mem_cons_of_mem _ kw_186)) (ty := .long) rfl hK hP hD hS hA (fun _ => rfl) (by decide) rfl (by decide) (Nat.le_of_ble_eq_true rfl) (Nat.le_of_ble_eq_true rfl) d_Choice_init_41 (fun a5 cA H hK1 hP hD hS => ?_)
  obtain rfl := ca_j hK hK1
  have hP : va_P (dC, dI) vCl ([(q0, .inr (0, [.null, .ref a1, .int 0, .int 0, .int 0, .ref a4, .null])), (a1, .inr (3, [.ref a2, .ref a3])), (a2, .inl (cI, 6, .inl (fun _ => 0))), (a3, .inl (cI, 6, .inl (fun _ => 0))), (a4, .inl (cI, 6, .inl (fun _ => 0))), (a5, .inl (cJ, 6, .inr (.inl (fun _ => 0))))]) H := hP
  have hD : va_D A ([(q0, .inr (0, [.null, .ref a1, .int 0, .int 0, .int 0, .ref a4, .null])), (a1, .inr (3, [.ref a2, .ref a3])), (a2, .inl (cI, 6, .inl (fun _ => 0))), (a3, .inl (cI, 6, .inl (fun _ => 0))), (a4, .inl (cI, 6, .inl (fun _ => 0))), (a5, .inl (cJ, 6, .inr (.inl (fun _ => 0))))]) := hD
  refine va_putF (D := (dC, dI)) (ci := 0) (v := .ref a5) (ty := .array .long) (C := "PairChoice$Choice") (T := F_Choice) (N := 7) hx hb hts (fun w h => List.mem_cons_of_mem _ (i_Choice w h)) t_Choice t_Choice_ok n_Choice hown hK hP hD hS 0 rfl rfl 6 (by decide) (hts _ (List.mem_cons_of_mem _ kw_170)) (fun _ h9 => h9) rfl hin rfl (by decide +kernel) rfl rfl (Nat.le_of_ble_eq_true rfl) d_Choice_init_43 (fun H locs hP hD hS => ?_)
  have hP : va_P (dC, dI) vCl ([(q0, .inr (0, [.null, .ref a1, .int 0, .int 0, .int 0, .ref a4, .ref a5])), (a1, .inr (3, [.ref a2, .ref a3])), (a2, .inl (cI, 6, .inl (fun _ => 0))), (a3, .inl (cI, 6, .inl (fun _ => 0))), (a4, .inl (cI, 6, .inl (fun _ => 0))), (a5, .inl (cJ, 6, .inr (.inl (fun _ => 0))))]) H := hP
  have hD : va_D A ([(q0, .inr (0, [.null, .ref a1, .int 0, .int 0, .int 0, .ref a4, .ref a5])), (a1, .inr (3, [.ref a2, .ref a3])), (a2, .inl (cI, 6, .inl (fun _ => 0))), (a3, .inl (cI, 6, .inl (fun _ => 0))), (a4, .inl (cI, 6, .inl (fun _ => 0))), (a5, .inl (cJ, 6, .inr (.inl (fun _ => 0))))]) := hD
  refine lv_aload_n hx hb d_Choice_init_46 rfl (lv_at hl 0 rfl) ?_
  refine lv_aload_n hx hb d_Choice_init_47 rfl (lv_at hl 1 rfl) ?_
  refine va_putF (D := (dC, dI)) (ci := 0) (v := .ref p1) (ty := .object "PairChoice$Herd") (C := "PairChoice$Choice") (T := F_Choice) (N := 7) hx hb hts (fun w h => List.mem_cons_of_mem _ (i_Choice w h)) t_Choice t_Choice_ok n_Choice hown hK hP hD hS 0 rfl rfl 0 (by decide) (hts _ (List.mem_cons_of_mem _ kw_159)) (fun _ h9 => h9) rfl hin rfl (by decide +kernel) rfl rfl (Nat.le_of_ble_eq_true rfl) d_Choice_init_48 (fun H locs hP hD hS => ?_)
  have hP : va_P (dC, dI) vCl ([(q0, .inr (0, [.ref p1, .ref a1, .int 0, .int 0, .int 0, .ref a4, .ref a5])), (a1, .inr (3, [.ref a2, .ref a3])), (a2, .inl (cI, 6, .inl (fun _ => 0))), (a3, .inl (cI, 6, .inl (fun _ => 0))), (a4, .inl (cI, 6, .inl (fun _ => 0))), (a5, .inl (cJ, 6, .inr (.inl (fun _ => 0))))]) H := hP
  have hD : va_D A ([(q0, .inr (0, [.ref p1, .ref a1, .int 0, .int 0, .int 0, .ref a4, .ref a5])), (a1, .inr (3, [.ref a2, .ref a3])), (a2, .inl (cI, 6, .inl (fun _ => 0))), (a3, .inl (cI, 6, .inl (fun _ => 0))), (a4, .inl (cI, 6, .inl (fun _ => 0))), (a5, .inl (cJ, 6, .inr (.inl (fun _ => 0))))]) := hD
  refine W.widen (k := 5) (n := 26) (Nat.le_of_ble_eq_true rfl) (Nat.le_of_ble_eq_true rfl) ?_
  exact W.vret hx hb hr (fun t ht hW => ⟨⟨(a1, a2, a3, a4, a5), rfl, trivial, ⟨by rw [ht]; exact hP, hD⟩⟩, hS.F ht⟩) hS.2.2 d_Choice_init_51
