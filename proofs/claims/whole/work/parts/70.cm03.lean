def at_M_canPair (dC : Nat → ClassId) (dI : Nat → Nat → Nat) (cI cJ cG cZ : ClassId) (q_this q_this_alive q_this_eggs q_this_families q_this_females q_this_he q_this_isBarred q_this_kins q_this_leasts q_this_males q_this_now q_this_points q_this_rests q_this_sexes q_this_she q_this_then q_this_worths q_this_yearSets q_this_yearWorths : Nat) (A : Nat → Prop) (v_this_animals : Int32) (v_this_best : Int32) (v_this_bestWorth : Int32) (v_this_choice : Int32) (v_this_choiceSets : Int32) (v_this_females : (Nat → Int32)) (v_this_isBarred : (Nat → Int32)) (v_this_limit : Int32) (v_this_males : (Nat → Int32)) (v_this_many : Int32) (v_this_most : Int32) (v_this_pairs : Int32) (v_this_sets : Int32) (v_this_tested : Int32) (v_this_testedBy : Int32) (v_this_years : Int32) (u : (Nat → Int32) × (Nat → Int32)) (t : State) : Prop := va_P (dC, dI) vCl ([(q_this, .inr (6, [.int v_this_animals, .ref q_this_sexes, .ref q_this_worths, .ref q_this_families, .ref q_this_kins, .ref q_this_isBarred, .int v_this_limit, .int v_this_most, .ref q_this_leasts, .int v_this_tested, .int v_this_testedBy, .int v_this_best, .int v_this_bestWorth, .int v_this_sets, .int v_this_many, .ref q_this_males, .ref q_this_females, .ref q_this_now, .ref q_this_then, .int v_this_pairs, .int v_this_choice, .int v_this_choiceSets, .ref q_this_he, .ref q_this_she, .ref q_this_eggs, .ref q_this_points, .ref q_this_rests, .int v_this_years, .ref q_this_alive, .ref q_this_yearSets, .ref q_this_yearWorths])), (q_this_females, .inl (cI, 12, .inl v_this_females)), (q_this_isBarred, .inl (cZ, 144, .inl v_this_isBarred)), (q_this_males, .inl (cI, 12, .inl v_this_males)), (q_this_now, .inl (cZ, 64, .inl u.1)), (q_this_then, .inl (cZ, 64, .inl u.2))]) t.heap ∧ va_D A ([(q_this, .inr (6, [.int v_this_animals, .ref q_this_sexes, .ref q_this_worths, .ref q_this_families, .ref q_this_kins, .ref q_this_isBarred, .int v_this_limit, .int v_this_most, .ref q_this_leasts, .int v_this_tested, .int v_this_testedBy, .int v_this_best, .int v_this_bestWorth, .int v_this_sets, .int v_this_many, .ref q_this_males, .ref q_this_females, .ref q_this_now, .ref q_this_then, .int v_this_pairs, .int v_this_choice, .int v_this_choiceSets, .ref q_this_he, .ref q_this_she, .ref q_this_eggs, .ref q_this_points, .ref q_this_rests, .int v_this_years, .ref q_this_alive, .ref q_this_yearSets, .ref q_this_yearWorths])), (q_this_females, .inl (cI, 12, .inl v_this_females)), (q_this_isBarred, .inl (cZ, 144, .inl v_this_isBarred)), (q_this_males, .inl (cI, 12, .inl v_this_males)), (q_this_now, .inl (cZ, 64, .inl u.1)), (q_this_then, .inl (cZ, 64, .inl u.2))])
set_option maxHeartbeats 4000000 in
set_option maxRecDepth 100000 in
theorem c_M_canPair (l : Launch) (dC : Nat → ClassId) (dI : Nat → Nat → Nat) (cI cJ cG cZ : ClassId) (q_this q_this_alive q_this_eggs q_this_families q_this_females q_this_he q_this_isBarred q_this_kins q_this_leasts q_this_males q_this_now q_this_points q_this_rests q_this_sexes q_this_she q_this_then q_this_worths q_this_yearSets q_this_yearWorths : Nat) (sz : Nat) (v_this_animals : Int32) (v_this_best : Int32) (v_this_bestWorth : Int32) (v_this_choice : Int32) (v_this_choiceSets : Int32) (v_this_females : (Nat → Int32)) (v_this_isBarred : (Nat → Int32)) (v_this_limit : Int32) (v_this_males : (Nat → Int32)) (v_this_many : Int32) (v_this_most : Int32) (v_this_now : (Nat → Int32)) (v_this_pairs : Int32) (v_this_sets : Int32) (v_this_tested : Int32) (v_this_testedBy : Int32) (v_this_then : (Nat → Int32)) (v_this_years : Int32) (x1 : Int32) (x2 : Int32) (post : Int32 → (Nat → Int32) → (Nat → Int32) → Prop) (h : wp_M_canPair v_this_females v_this_isBarred v_this_males v_this_many v_this_now v_this_then x1 x2 post) : Met l y_M_canPair w_M_canPair ({ frames := 0, cells := 0, slots := 0, locals := 0 } : Room) (va_Pc [.ref q_this, .int x1, .int x2] (pcW dC dI cI cJ cG cZ sz ([(q_this, .inr (6, [.int v_this_animals, .ref q_this_sexes, .ref q_this_worths, .ref q_this_families, .ref q_this_kins, .ref q_this_isBarred, .int v_this_limit, .int v_this_most, .ref q_this_leasts, .int v_this_tested, .int v_this_testedBy, .int v_this_best, .int v_this_bestWorth, .int v_this_sets, .int v_this_many, .ref q_this_males, .ref q_this_females, .ref q_this_now, .ref q_this_then, .int v_this_pairs, .int v_this_choice, .int v_this_choiceSets, .ref q_this_he, .ref q_this_she, .ref q_this_eggs, .ref q_this_points, .ref q_this_rests, .int v_this_years, .ref q_this_alive, .ref q_this_yearSets, .ref q_this_yearWorths])), (q_this_females, .inl (cI, 12, .inl v_this_females)), (q_this_isBarred, .inl (cZ, 144, .inl v_this_isBarred)), (q_this_males, .inl (cI, 12, .inl v_this_males)), (q_this_now, .inl (cZ, 64, .inl v_this_now)), (q_this_then, .inl (cZ, 64, .inl v_this_then))]))) (va_Qi (fun (r : Int32) (u : (Nat → Int32) × (Nat → Int32)) => (r = 0 ∨ r = 1) ∧ post r u.1 u.2) (fun (u : (Nat → Int32) × (Nat → Int32)) (t : State) => at_M_canPair dC dI cI cJ cG cZ q_this q_this_alive q_this_eggs q_this_families q_this_females q_this_he q_this_isBarred q_this_kins q_this_leasts q_this_males q_this_now q_this_points q_this_rests q_this_sexes q_this_she q_this_then q_this_worths q_this_yearSets q_this_yearWorths (va_A ([(q_this, .inr (6, [.int v_this_animals, .ref q_this_sexes, .ref q_this_worths, .ref q_this_families, .ref q_this_kins, .ref q_this_isBarred, .int v_this_limit, .int v_this_most, .ref q_this_leasts, .int v_this_tested, .int v_this_testedBy, .int v_this_best, .int v_this_bestWorth, .int v_this_sets, .int v_this_many, .ref q_this_males, .ref q_this_females, .ref q_this_now, .ref q_this_then, .int v_this_pairs, .int v_this_choice, .int v_this_choiceSets, .ref q_this_he, .ref q_this_she, .ref q_this_eggs, .ref q_this_points, .ref q_this_rests, .int v_this_years, .ref q_this_alive, .ref q_this_yearSets, .ref q_this_yearWorths])), (q_this_females, .inl (cI, 12, .inl v_this_females)), (q_this_isBarred, .inl (cZ, 144, .inl v_this_isBarred)), (q_this_males, .inl (cI, 12, .inl v_this_males)), (q_this_now, .inl (cZ, 64, .inl v_this_now)), (q_this_then, .inl (cZ, 64, .inl v_this_then))]) sz) v_this_animals v_this_best v_this_bestWorth v_this_choice v_this_choiceSets v_this_females v_this_isBarred v_this_limit v_this_males v_this_many v_this_most v_this_pairs v_this_sets v_this_tested v_this_testedBy v_this_years u t) (va_A ([(q_this, .inr (6, [.int v_this_animals, .ref q_this_sexes, .ref q_this_worths, .ref q_this_families, .ref q_this_kins, .ref q_this_isBarred, .int v_this_limit, .int v_this_most, .ref q_this_leasts, .int v_this_tested, .int v_this_testedBy, .int v_this_best, .int v_this_bestWorth, .int v_this_sets, .int v_this_many, .ref q_this_males, .ref q_this_females, .ref q_this_now, .ref q_this_then, .int v_this_pairs, .int v_this_choice, .int v_this_choiceSets, .ref q_this_he, .ref q_this_she, .ref q_this_eggs, .ref q_this_points, .ref q_this_rests, .int v_this_years, .ref q_this_alive, .ref q_this_yearSets, .ref q_this_yearWorths])), (q_this_females, .inl (cI, 12, .inl v_this_females)), (q_this_isBarred, .inl (cZ, 144, .inl v_this_isBarred)), (q_this_males, .inl (cI, 12, .inl v_this_males)), (q_this_now, .inl (cZ, 64, .inl v_this_now)), (q_this_then, .inl (cZ, 64, .inl v_this_then))]) sz)) 0 0 (va_A ([(q_this, .inr (6, [.int v_this_animals, .ref q_this_sexes, .ref q_this_worths, .ref q_this_families, .ref q_this_kins, .ref q_this_isBarred, .int v_this_limit, .int v_this_most, .ref q_this_leasts, .int v_this_tested, .int v_this_testedBy, .int v_this_best, .int v_this_bestWorth, .int v_this_sets, .int v_this_many, .ref q_this_males, .ref q_this_females, .ref q_this_now, .ref q_this_then, .int v_this_pairs, .int v_this_choice, .int v_this_choiceSets, .ref q_this_he, .ref q_this_she, .ref q_this_eggs, .ref q_this_points, .ref q_this_rests, .int v_this_years, .ref q_this_alive, .ref q_this_yearSets, .ref q_this_yearWorths])), (q_this_females, .inl (cI, 12, .inl v_this_females)), (q_this_isBarred, .inl (cZ, 144, .inl v_this_isBarred)), (q_this_males, .inl (cI, 12, .inl v_this_males)), (q_this_now, .inl (cZ, 64, .inl v_this_now)), (q_this_then, .inl (cZ, 64, .inl v_this_then))]) sz) := by
  refine Met.ofW (cc := b_M_canPair) (maxL := 6) (ret := (some .boolean)) (by decide) rfl ?_
  intro p e s m args below meth c s₁ B hml hv
  obtain ⟨rfl, hsz, hP, hK, hN, hD0⟩ := hv
  have hx := B.exec
  have hb := B.bytes
  have hr := B.returns
  have hts := atoms_spec (ws := w_M_canPair) B.pre
  have hown : s.vm.findClass "PairChoiceModel" = some m.cls := findClass_of_methodNamed B.named
  have hlocks := B.notSynchronized
  subst hsz
  have hD := hD0.self (sz := s.heap.size)
  generalize hAe : va_A ([(q_this, .inr (6, [.int v_this_animals, .ref q_this_sexes, .ref q_this_worths, .ref q_this_families, .ref q_this_kins, .ref q_this_isBarred, .int v_this_limit, .int v_this_most, .ref q_this_leasts, .int v_this_tested, .int v_this_testedBy, .int v_this_best, .int v_this_bestWorth, .int v_this_sets, .int v_this_many, .ref q_this_males, .ref q_this_females, .ref q_this_now, .ref q_this_then, .int v_this_pairs, .int v_this_choice, .int v_this_choiceSets, .ref q_this_he, .ref q_this_she, .ref q_this_eggs, .ref q_this_points, .ref q_this_rests, .int v_this_years, .ref q_this_alive, .ref q_this_yearSets, .ref q_this_yearWorths])), (q_this_females, .inl (cI, 12, .inl v_this_females)), (q_this_isBarred, .inl (cZ, 144, .inl v_this_isBarred)), (q_this_males, .inl (cI, 12, .inl v_this_males)), (q_this_now, .inl (cZ, 64, .inl v_this_now)), (q_this_then, .inl (cZ, 64, .inl v_this_then))]) s.heap.size = A at hD ⊢
  have hA : ∀ q : Nat, s.heap.size ≤ q → A q := fun q h => by rw [← hAe]; exact Or.inr h
  have hS : va_S A s.heap s.heap [] := va_S.rf
  have hl := lv_entry ([.ref q_this, .int x1, .int x2]) (n := 6) (Nat.le_of_ble_eq_true rfl)
  rw [lg_entry_eq]
  generalize (lg_sl ([.ref q_this, .int x1, .int x2]) ++ List.replicate (6 - (lg_sl ([.ref q_this, .int x1, .int x2])).length) Slot.unset).toArray = ls at hl ⊢
  have hl : lv_has ls 6 [(0, .ref q_this), (1, .int x1), (2, .int x2)] := hl
  unfold wp_M_canPair at h
  refine lv_iconst (v := 0) hx hb d_M_canPair_0 (by decide) ?_
  refine lv_istore_n (lv' := [(3, .int 0), (0, .ref q_this), (1, .int x1), (2, .int x2)]) hx hb d_M_canPair_1 rfl hl (by decide) rfl (fun ls hl => ?_)
  obtain ⟨nn, h⟩ := h
  have lp2 : ∀ (n2 : Nat) (x3_2 : Int32) (w2_this_now : (Nat → Int32)) (H : Heap) (locs : List Loc) (ls : Array Slot), wp_M_canPair_L2 v_this_females v_this_isBarred v_this_males v_this_many v_this_then x1 x2 post n2 x3_2 w2_this_now → va_P (dC, dI) vCl ([(q_this, .inr (6, [.int v_this_animals, .ref q_this_sexes, .ref q_this_worths, .ref q_this_families, .ref q_this_kins, .ref q_this_isBarred, .int v_this_limit, .int v_this_most, .ref q_this_leasts, .int v_this_tested, .int v_this_testedBy, .int v_this_best, .int v_this_bestWorth, .int v_this_sets, .int v_this_many, .ref q_this_males, .ref q_this_females, .ref q_this_now, .ref q_this_then, .int v_this_pairs, .int v_this_choice, .int v_this_choiceSets, .ref q_this_he, .ref q_this_she, .ref q_this_eggs, .ref q_this_points, .ref q_this_rests, .int v_this_years, .ref q_this_alive, .ref q_this_yearSets, .ref q_this_yearWorths])), (q_this_females, .inl (cI, 12, .inl v_this_females)), (q_this_isBarred, .inl (cZ, 144, .inl v_this_isBarred)), (q_this_males, .inl (cI, 12, .inl v_this_males)), (q_this_now, .inl (cZ, 64, .inl w2_this_now)), (q_this_then, .inl (cZ, 64, .inl v_this_then))]) H → va_D A ([(q_this, .inr (6, [.int v_this_animals, .ref q_this_sexes, .ref q_this_worths, .ref q_this_families, .ref q_this_kins, .ref q_this_isBarred, .int v_this_limit, .int v_this_most, .ref q_this_leasts, .int v_this_tested, .int v_this_testedBy, .int v_this_best, .int v_this_bestWorth, .int v_this_sets, .int v_this_many, .ref q_this_males, .ref q_this_females, .ref q_this_now, .ref q_this_then, .int v_this_pairs, .int v_this_choice, .int v_this_choiceSets, .ref q_this_he, .ref q_this_she, .ref q_this_eggs, .ref q_this_points, .ref q_this_rests, .int v_this_years, .ref q_this_alive, .ref q_this_yearSets, .ref q_this_yearWorths])), (q_this_females, .inl (cI, 12, .inl v_this_females)), (q_this_isBarred, .inl (cZ, 144, .inl v_this_isBarred)), (q_this_males, .inl (cI, 12, .inl v_this_males)), (q_this_now, .inl (cZ, 64, .inl w2_this_now)), (q_this_then, .inl (cZ, 64, .inl v_this_then))]) → va_S A s.heap H locs → lv_has ls 6 [(3, .int x3_2), (0, .ref q_this), (1, .int x1), (2, .int x2)] → W p l e (headSpec w_M_canPair ({ frames := 0, cells := 0, slots := 0, locals := 0 } : Room)).room s m ([.ref q_this, .int x1, .int x2] : List Value).toArray below meth c H locs 0 0 (MQ below (va_Qi (fun (r : Int32) (u : (Nat → Int32) × (Nat → Int32)) => (r = 0 ∨ r = 1) ∧ post r u.1 u.2) (fun (u : (Nat → Int32) × (Nat → Int32)) (t : State) => at_M_canPair dC dI cI cJ cG cZ q_this q_this_alive q_this_eggs q_this_families q_this_females q_this_he q_this_isBarred q_this_kins q_this_leasts q_this_males q_this_now q_this_points q_this_rests q_this_sexes q_this_she q_this_then q_this_worths q_this_yearSets q_this_yearWorths A v_this_animals v_this_best v_this_bestWorth v_this_choice v_this_choiceSets v_this_females v_this_isBarred v_this_limit v_this_males v_this_many v_this_most v_this_pairs v_this_sets v_this_tested v_this_testedBy v_this_years u t) A) ([.ref q_this, .int x1, .int x2] : List Value).toArray s 0 0 (A)) (F0 m 2 ls []) := by
    intro n2
    induction n2 with
    | zero =>
      intro x3_2 w2_this_now H locs ls h
      rw [wp_M_canPair_L2] at h
      exact h.elim
    | succ n2 ih2 =>
      intro x3_2 w2_this_now H locs ls h hP hD hS hl
      rw [wp_M_canPair_L2] at h
      refine lv_iload_n hx hb d_M_canPair_2 rfl (lv_at hl 0 rfl) ?_
      refine lv_bipush (v := 64) hx hb d_M_canPair_3 (by decide) ?_
      refine lv_icmp_ge (tgt := 30) hx hb d_M_canPair_5 (by decide) (fun c1 => ?_) (fun c1 => ?_)
      · have h := h.1 c1
        refine lv_iload_n hx hb d_M_canPair_30 rfl (lv_at hl 2 rfl) ?_
        refine lv_istore_n (lv' := [(3, .int x1), (0, .ref q_this), (1, .int x1), (2, .int x2)]) hx hb d_M_canPair_31 rfl hl (by decide) rfl (fun ls hl => ?_)
        obtain ⟨nn, h⟩ := h
        have lp32 : ∀ (n32 : Nat) (x3_32 : Int32) (w32_this_now : (Nat → Int32)) (w32_this_then : (Nat → Int32)) (H : Heap) (locs : List Loc) (ls : Array Slot), wp_M_canPair_L32 v_this_females v_this_isBarred v_this_males v_this_many post n32 x3_32 w32_this_now w32_this_then → va_P (dC, dI) vCl ([(q_this, .inr (6, [.int v_this_animals, .ref q_this_sexes, .ref q_this_worths, .ref q_this_families, .ref q_this_kins, .ref q_this_isBarred, .int v_this_limit, .int v_this_most, .ref q_this_leasts, .int v_this_tested, .int v_this_testedBy, .int v_this_best, .int v_this_bestWorth, .int v_this_sets, .int v_this_many, .ref q_this_males, .ref q_this_females, .ref q_this_now, .ref q_this_then, .int v_this_pairs, .int v_this_choice, .int v_this_choiceSets, .ref q_this_he, .ref q_this_she, .ref q_this_eggs, .ref q_this_points, .ref q_this_rests, .int v_this_years, .ref q_this_alive, .ref q_this_yearSets, .ref q_this_yearWorths])), (q_this_females, .inl (cI, 12, .inl v_this_females)), (q_this_isBarred, .inl (cZ, 144, .inl v_this_isBarred)), (q_this_males, .inl (cI, 12, .inl v_this_males)), (q_this_now, .inl (cZ, 64, .inl w32_this_now)), (q_this_then, .inl (cZ, 64, .inl w32_this_then))]) H → va_D A ([(q_this, .inr (6, [.int v_this_animals, .ref q_this_sexes, .ref q_this_worths, .ref q_this_families, .ref q_this_kins, .ref q_this_isBarred, .int v_this_limit, .int v_this_most, .ref q_this_leasts, .int v_this_tested, .int v_this_testedBy, .int v_this_best, .int v_this_bestWorth, .int v_this_sets, .int v_this_many, .ref q_this_males, .ref q_this_females, .ref q_this_now, .ref q_this_then, .int v_this_pairs, .int v_this_choice, .int v_this_choiceSets, .ref q_this_he, .ref q_this_she, .ref q_this_eggs, .ref q_this_points, .ref q_this_rests, .int v_this_years, .ref q_this_alive, .ref q_this_yearSets, .ref q_this_yearWorths])), (q_this_females, .inl (cI, 12, .inl v_this_females)), (q_this_isBarred, .inl (cZ, 144, .inl v_this_isBarred)), (q_this_males, .inl (cI, 12, .inl v_this_males)), (q_this_now, .inl (cZ, 64, .inl w32_this_now)), (q_this_then, .inl (cZ, 64, .inl w32_this_then))]) → va_S A s.heap H locs → lv_has ls 6 [(3, .int x3_32), (0, .ref q_this), (1, .int x1), (2, .int x2)] → W p l e (headSpec w_M_canPair ({ frames := 0, cells := 0, slots := 0, locals := 0 } : Room)).room s m ([.ref q_this, .int x1, .int x2] : List Value).toArray below meth c H locs 0 0 (MQ below (va_Qi (fun (r : Int32) (u : (Nat → Int32) × (Nat → Int32)) => (r = 0 ∨ r = 1) ∧ post r u.1 u.2) (fun (u : (Nat → Int32) × (Nat → Int32)) (t : State) => at_M_canPair dC dI cI cJ cG cZ q_this q_this_alive q_this_eggs q_this_families q_this_females q_this_he q_this_isBarred q_this_kins q_this_leasts q_this_males q_this_now q_this_points q_this_rests q_this_sexes q_this_she q_this_then q_this_worths q_this_yearSets q_this_yearWorths A v_this_animals v_this_best v_this_bestWorth v_this_choice v_this_choiceSets v_this_females v_this_isBarred v_this_limit v_this_males v_this_many v_this_most v_this_pairs v_this_sets v_this_tested v_this_testedBy v_this_years u t) A) ([.ref q_this, .int x1, .int x2] : List Value).toArray s 0 0 (A)) (F0 m 32 ls []) := by
          intro n32
          induction n32 with
          | zero =>
            intro x3_32 w32_this_now w32_this_then H locs ls h
            rw [wp_M_canPair_L32] at h
            exact h.elim
          | succ n32 ih32 =>
            intro x3_32 w32_this_now w32_this_then H locs ls h hP hD hS hl
            rw [wp_M_canPair_L32] at h
            refine lv_iload_n hx hb d_M_canPair_32 rfl (lv_at hl 0 rfl) ?_
            refine lv_aload_n hx hb d_M_canPair_33 rfl (lv_at hl 1 rfl) ?_
            refine va_get (D := (dC, dI)) (ci := 6) (v := .int v_this_many) (C := "PairChoiceModel") (T := F_M) (N := 31) hx hb hts (fun w h => List.mem_cons_of_mem _ (i_M w h)) hown hK hP 0 rfl rfl 14 (by decide) (hts _ (List.mem_cons_of_mem _ kw_473)) (fun _ h9 => h9) rfl d_M_canPair_34 ?_
            refine lv_icmp_ge (tgt := 192) hx hb d_M_canPair_37 (by decide) (fun c2 => ?_) (fun c2 => ?_)
            · have h := h.1 c2
              refine lv_aload_n hx hb d_M_canPair_192 rfl (lv_at hl 1 rfl) ?_
              refine va_get (D := (dC, dI)) (ci := 6) (v := .ref q_this_now) (C := "PairChoiceModel") (T := F_M) (N := 31) hx hb hts (fun w h => List.mem_cons_of_mem _ (i_M w h)) hown hK hP 0 rfl rfl 17 (by decide) (hts _ (List.mem_cons_of_mem _ kw_476)) (fun _ h9 => h9) rfl d_M_canPair_193 ?_
              refine lv_iconst (v := 1) hx hb d_M_canPair_196 (by decide) ?_
              refine lv_aload_n hx hb d_M_canPair_197 rfl (lv_at hl 1 rfl) ?_
              refine va_get (D := (dC, dI)) (ci := 6) (v := .int v_this_many) (C := "PairChoiceModel") (T := F_M) (N := 31) hx hb hts (fun w h => List.mem_cons_of_mem _ (i_M w h)) hown hK hP 0 rfl rfl 14 (by decide) (hts _ (List.mem_cons_of_mem _ kw_473)) (fun _ h9 => h9) rfl d_M_canPair_198 ?_
              refine lv_ishl hx hb d_M_canPair_201 ?_
              refine lv_iconst (v := 1) hx hb d_M_canPair_202 (by decide) ?_
              refine lv_isub hx hb d_M_canPair_203 ?_
              obtain ⟨i3, h⟩ := h
              refine va_zald hx hb hK hP 4 3 rfl rfl i3 d_M_canPair_204 ?_
              obtain ⟨z4, h⟩ := h
              exact W.zret hx hb hr (z_nar (z4)) (fun t ht hW => ⟨⟨_, (w32_this_now, w32_this_then), rfl, ⟨z4, h⟩, ⟨by rw [ht]; exact hP, hD⟩⟩, hS.F ht⟩) hS.2.2 d_M_canPair_205
            · have h := h.2 c2
              refine lv_iconst (v := 0) hx hb d_M_canPair_40 (by decide) ?_
              refine lv_istore (lv' := [(4, .int 0), (3, .int x3_32), (0, .ref q_this), (1, .int x1), (2, .int x2)]) hx hb d_M_canPair_41 hl (by decide) rfl (fun ls hl => ?_)
              obtain ⟨nn, h⟩ := h
              have lp43 : ∀ (n43 : Nat) (x4_43 : Int32) (w43_this_then : (Nat → Int32)) (H : Heap) (locs : List Loc) (ls : Array Slot), wp_M_canPair_L43 v_this_females v_this_isBarred v_this_males v_this_many x3_32 w32_this_now post (fun z0 z1 z2 => wp_M_canPair_L32 v_this_females v_this_isBarred v_this_males v_this_many post n32 z0 z1 z2) n43 x4_43 w43_this_then → va_P (dC, dI) vCl ([(q_this, .inr (6, [.int v_this_animals, .ref q_this_sexes, .ref q_this_worths, .ref q_this_families, .ref q_this_kins, .ref q_this_isBarred, .int v_this_limit, .int v_this_most, .ref q_this_leasts, .int v_this_tested, .int v_this_testedBy, .int v_this_best, .int v_this_bestWorth, .int v_this_sets, .int v_this_many, .ref q_this_males, .ref q_this_females, .ref q_this_now, .ref q_this_then, .int v_this_pairs, .int v_this_choice, .int v_this_choiceSets, .ref q_this_he, .ref q_this_she, .ref q_this_eggs, .ref q_this_points, .ref q_this_rests, .int v_this_years, .ref q_this_alive, .ref q_this_yearSets, .ref q_this_yearWorths])), (q_this_females, .inl (cI, 12, .inl v_this_females)), (q_this_isBarred, .inl (cZ, 144, .inl v_this_isBarred)), (q_this_males, .inl (cI, 12, .inl v_this_males)), (q_this_now, .inl (cZ, 64, .inl w32_this_now)), (q_this_then, .inl (cZ, 64, .inl w43_this_then))]) H → va_D A ([(q_this, .inr (6, [.int v_this_animals, .ref q_this_sexes, .ref q_this_worths, .ref q_this_families, .ref q_this_kins, .ref q_this_isBarred, .int v_this_limit, .int v_this_most, .ref q_this_leasts, .int v_this_tested, .int v_this_testedBy, .int v_this_best, .int v_this_bestWorth, .int v_this_sets, .int v_this_many, .ref q_this_males, .ref q_this_females, .ref q_this_now, .ref q_this_then, .int v_this_pairs, .int v_this_choice, .int v_this_choiceSets, .ref q_this_he, .ref q_this_she, .ref q_this_eggs, .ref q_this_points, .ref q_this_rests, .int v_this_years, .ref q_this_alive, .ref q_this_yearSets, .ref q_this_yearWorths])), (q_this_females, .inl (cI, 12, .inl v_this_females)), (q_this_isBarred, .inl (cZ, 144, .inl v_this_isBarred)), (q_this_males, .inl (cI, 12, .inl v_this_males)), (q_this_now, .inl (cZ, 64, .inl w32_this_now)), (q_this_then, .inl (cZ, 64, .inl w43_this_then))]) → va_S A s.heap H locs → lv_has ls 6 [(4, .int x4_43), (3, .int x3_32), (0, .ref q_this), (1, .int x1), (2, .int x2)] → W p l e (headSpec w_M_canPair ({ frames := 0, cells := 0, slots := 0, locals := 0 } : Room)).room s m ([.ref q_this, .int x1, .int x2] : List Value).toArray below meth c H locs 0 0 (MQ below (va_Qi (fun (r : Int32) (u : (Nat → Int32) × (Nat → Int32)) => (r = 0 ∨ r = 1) ∧ post r u.1 u.2) (fun (u : (Nat → Int32) × (Nat → Int32)) (t : State) => at_M_canPair dC dI cI cJ cG cZ q_this q_this_alive q_this_eggs q_this_families q_this_females q_this_he q_this_isBarred q_this_kins q_this_leasts q_this_males q_this_now q_this_points q_this_rests q_this_sexes q_this_she q_this_then q_this_worths q_this_yearSets q_this_yearWorths A v_this_animals v_this_best v_this_bestWorth v_this_choice v_this_choiceSets v_this_females v_this_isBarred v_this_limit v_this_males v_this_many v_this_most v_this_pairs v_this_sets v_this_tested v_this_testedBy v_this_years u t) A) ([.ref q_this, .int x1, .int x2] : List Value).toArray s 0 0 (A)) (F0 m 43 ls []) := by
                intro n43
                induction n43 with
                | zero =>
                  intro x4_43 w43_this_then H locs ls h
                  rw [wp_M_canPair_L43] at h
                  exact h.elim
                | succ n43 ih43 =>
                  intro x4_43 w43_this_then H locs ls h hP hD hS hl
                  rw [wp_M_canPair_L43] at h
                  refine lv_iload hx hb d_M_canPair_43 (lv_at hl 0 rfl) ?_
                  refine lv_bipush (v := 64) hx hb d_M_canPair_45 (by decide) ?_
                  refine lv_icmp_ge (tgt := 64) hx hb d_M_canPair_47 (by decide) (fun c5 => ?_) (fun c5 => ?_)
                  · have h := h.1 c5
                    refine lv_iconst (v := 0) hx hb d_M_canPair_64 (by decide) ?_
                    refine lv_istore (lv' := [(4, .int 0), (3, .int x3_32), (0, .ref q_this), (1, .int x1), (2, .int x2)]) hx hb d_M_canPair_65 hl (by decide) rfl (fun ls hl => ?_)
                    obtain ⟨nn, h⟩ := h
                    have lp67 : ∀ (n67 : Nat) (x4_67 : Int32) (w67_this_then : (Nat → Int32)) (H : Heap) (locs : List Loc) (ls : Array Slot), wp_M_canPair_L67 v_this_females v_this_isBarred v_this_males v_this_many x3_32 w32_this_now post (fun z0 z1 z2 => wp_M_canPair_L32 v_this_females v_this_isBarred v_this_males v_this_many post n32 z0 z1 z2) n67 x4_67 w67_this_then → va_P (dC, dI) vCl ([(q_this, .inr (6, [.int v_this_animals, .ref q_this_sexes, .ref q_this_worths, .ref q_this_families, .ref q_this_kins, .ref q_this_isBarred, .int v_this_limit, .int v_this_most, .ref q_this_leasts, .int v_this_tested, .int v_this_testedBy, .int v_this_best, .int v_this_bestWorth, .int v_this_sets, .int v_this_many, .ref q_this_males, .ref q_this_females, .ref q_this_now, .ref q_this_then, .int v_this_pairs, .int v_this_choice, .int v_this_choiceSets, .ref q_this_he, .ref q_this_she, .ref q_this_eggs, .ref q_this_points, .ref q_this_rests, .int v_this_years, .ref q_this_alive, .ref q_this_yearSets, .ref q_this_yearWorths])), (q_this_females, .inl (cI, 12, .inl v_this_females)), (q_this_isBarred, .inl (cZ, 144, .inl v_this_isBarred)), (q_this_males, .inl (cI, 12, .inl v_this_males)), (q_this_now, .inl (cZ, 64, .inl w32_this_now)), (q_this_then, .inl (cZ, 64, .inl w67_this_then))]) H → va_D A ([(q_this, .inr (6, [.int v_this_animals, .ref q_this_sexes, .ref q_this_worths, .ref q_this_families, .ref q_this_kins, .ref q_this_isBarred, .int v_this_limit, .int v_this_most, .ref q_this_leasts, .int v_this_tested, .int v_this_testedBy, .int v_this_best, .int v_this_bestWorth, .int v_this_sets, .int v_this_many, .ref q_this_males, .ref q_this_females, .ref q_this_now, .ref q_this_then, .int v_this_pairs, .int v_this_choice, .int v_this_choiceSets, .ref q_this_he, .ref q_this_she, .ref q_this_eggs, .ref q_this_points, .ref q_this_rests, .int v_this_years, .ref q_this_alive, .ref q_this_yearSets, .ref q_this_yearWorths])), (q_this_females, .inl (cI, 12, .inl v_this_females)), (q_this_isBarred, .inl (cZ, 144, .inl v_this_isBarred)), (q_this_males, .inl (cI, 12, .inl v_this_males)), (q_this_now, .inl (cZ, 64, .inl w32_this_now)), (q_this_then, .inl (cZ, 64, .inl w67_this_then))]) → va_S A s.heap H locs → lv_has ls 6 [(4, .int x4_67), (3, .int x3_32), (0, .ref q_this), (1, .int x1), (2, .int x2)] → W p l e (headSpec w_M_canPair ({ frames := 0, cells := 0, slots := 0, locals := 0 } : Room)).room s m ([.ref q_this, .int x1, .int x2] : List Value).toArray below meth c H locs 0 0 (MQ below (va_Qi (fun (r : Int32) (u : (Nat → Int32) × (Nat → Int32)) => (r = 0 ∨ r = 1) ∧ post r u.1 u.2) (fun (u : (Nat → Int32) × (Nat → Int32)) (t : State) => at_M_canPair dC dI cI cJ cG cZ q_this q_this_alive q_this_eggs q_this_families q_this_females q_this_he q_this_isBarred q_this_kins q_this_leasts q_this_males q_this_now q_this_points q_this_rests q_this_sexes q_this_she q_this_then q_this_worths q_this_yearSets q_this_yearWorths A v_this_animals v_this_best v_this_bestWorth v_this_choice v_this_choiceSets v_this_females v_this_isBarred v_this_limit v_this_males v_this_many v_this_most v_this_pairs v_this_sets v_this_tested v_this_testedBy v_this_years u t) A) ([.ref q_this, .int x1, .int x2] : List Value).toArray s 0 0 (A)) (F0 m 67 ls []) := by
                      intro n67
                      induction n67 with
                      | zero =>
                        intro x4_67 w67_this_then H locs ls h
                        rw [wp_M_canPair_L67] at h
                        exact h.elim
                      | succ n67 ih67 =>
                        intro x4_67 w67_this_then H locs ls h hP hD hS hl
                        rw [wp_M_canPair_L67] at h
                        refine lv_iload hx hb d_M_canPair_67 (lv_at hl 0 rfl) ?_
                        refine lv_bipush (v := 64) hx hb d_M_canPair_69 (by decide) ?_
                        refine lv_icmp_ge (tgt := 156) hx hb d_M_canPair_71 (by decide) (fun c6 => ?_) (fun c6 => ?_)
                        · have h := h.1 c6
                          refine lv_iconst (v := 0) hx hb d_M_canPair_156 (by decide) ?_
                          refine lv_istore (lv' := [(4, .int 0), (3, .int x3_32), (0, .ref q_this), (1, .int x1), (2, .int x2)]) hx hb d_M_canPair_157 hl (by decide) rfl (fun ls hl => ?_)
                          obtain ⟨nn, h⟩ := h
                          have lp159 : ∀ (n159 : Nat) (x4_159 : Int32) (w159_this_now : (Nat → Int32)) (H : Heap) (locs : List Loc) (ls : Array Slot), wp_M_canPair_L159 x3_32 w67_this_then post (fun z0 z1 z2 => wp_M_canPair_L32 v_this_females v_this_isBarred v_this_males v_this_many post n32 z0 z1 z2) n159 x4_159 w159_this_now → va_P (dC, dI) vCl ([(q_this, .inr (6, [.int v_this_animals, .ref q_this_sexes, .ref q_this_worths, .ref q_this_families, .ref q_this_kins, .ref q_this_isBarred, .int v_this_limit, .int v_this_most, .ref q_this_leasts, .int v_this_tested, .int v_this_testedBy, .int v_this_best, .int v_this_bestWorth, .int v_this_sets, .int v_this_many, .ref q_this_males, .ref q_this_females, .ref q_this_now, .ref q_this_then, .int v_this_pairs, .int v_this_choice, .int v_this_choiceSets, .ref q_this_he, .ref q_this_she, .ref q_this_eggs, .ref q_this_points, .ref q_this_rests, .int v_this_years, .ref q_this_alive, .ref q_this_yearSets, .ref q_this_yearWorths])), (q_this_females, .inl (cI, 12, .inl v_this_females)), (q_this_isBarred, .inl (cZ, 144, .inl v_this_isBarred)), (q_this_males, .inl (cI, 12, .inl v_this_males)), (q_this_now, .inl (cZ, 64, .inl w159_this_now)), (q_this_then, .inl (cZ, 64, .inl w67_this_then))]) H → va_D A ([(q_this, .inr (6, [.int v_this_animals, .ref q_this_sexes, .ref q_this_worths, .ref q_this_families, .ref q_this_kins, .ref q_this_isBarred, .int v_this_limit, .int v_this_most, .ref q_this_leasts, .int v_this_tested, .int v_this_testedBy, .int v_this_best, .int v_this_bestWorth, .int v_this_sets, .int v_this_many, .ref q_this_males, .ref q_this_females, .ref q_this_now, .ref q_this_then, .int v_this_pairs, .int v_this_choice, .int v_this_choiceSets, .ref q_this_he, .ref q_this_she, .ref q_this_eggs, .ref q_this_points, .ref q_this_rests, .int v_this_years, .ref q_this_alive, .ref q_this_yearSets, .ref q_this_yearWorths])), (q_this_females, .inl (cI, 12, .inl v_this_females)), (q_this_isBarred, .inl (cZ, 144, .inl v_this_isBarred)), (q_this_males, .inl (cI, 12, .inl v_this_males)), (q_this_now, .inl (cZ, 64, .inl w159_this_now)), (q_this_then, .inl (cZ, 64, .inl w67_this_then))]) → va_S A s.heap H locs → lv_has ls 6 [(4, .int x4_159), (3, .int x3_32), (0, .ref q_this), (1, .int x1), (2, .int x2)] → W p l e (headSpec w_M_canPair ({ frames := 0, cells := 0, slots := 0, locals := 0 } : Room)).room s m ([.ref q_this, .int x1, .int x2] : List Value).toArray below meth c H locs 0 0 (MQ below (va_Qi (fun (r : Int32) (u : (Nat → Int32) × (Nat → Int32)) => (r = 0 ∨ r = 1) ∧ post r u.1 u.2) (fun (u : (Nat → Int32) × (Nat → Int32)) (t : State) => at_M_canPair dC dI cI cJ cG cZ q_this q_this_alive q_this_eggs q_this_families q_this_females q_this_he q_this_isBarred q_this_kins q_this_leasts q_this_males q_this_now q_this_points q_this_rests q_this_sexes q_this_she q_this_then q_this_worths q_this_yearSets q_this_yearWorths A v_this_animals v_this_best v_this_bestWorth v_this_choice v_this_choiceSets v_this_females v_this_isBarred v_this_limit v_this_males v_this_many v_this_most v_this_pairs v_this_sets v_this_tested v_this_testedBy v_this_years u t) A) ([.ref q_this, .int x1, .int x2] : List Value).toArray s 0 0 (A)) (F0 m 159 ls []) := by
                            intro n159
                            induction n159 with
                            | zero =>
                              intro x4_159 w159_this_now H locs ls h
                              rw [wp_M_canPair_L159] at h
                              exact h.elim
                            | succ n159 ih159 =>
                              intro x4_159 w159_this_now H locs ls h hP hD hS hl
                              rw [wp_M_canPair_L159] at h
                              refine lv_iload hx hb d_M_canPair_159 (lv_at hl 0 rfl) ?_
                              refine lv_bipush (v := 64) hx hb d_M_canPair_161 (by decide) ?_
                              refine lv_icmp_ge (tgt := 186) hx hb d_M_canPair_163 (by decide) (fun c7 => ?_) (fun c7 => ?_)
                              · have h := h.1 c7
                                refine lv_iinc (v := (x3_32 + 1)) (lv' := [(3, .int (x3_32 + 1)), (4, .int x4_159), (0, .ref q_this), (1, .int x1), (2, .int x2)]) hx hb d_M_canPair_186 hl (k := 1) rfl rfl (by decide) rfl (fun ls hl => ?_)
                                refine lv_goto (tgt := 32) hx hb d_M_canPair_189 (by decide) ?_
                                exact ih32 (x3_32 + 1) w159_this_now w67_this_then _ _ ls h hP hD hS (lv_sub hl [0, 2, 3, 4] rfl)
                              · have h := h.2 c7
                                refine lv_aload_n hx hb d_M_canPair_166 rfl (lv_at hl 2 rfl) ?_
                                refine va_get (D := (dC, dI)) (ci := 6) (v := .ref q_this_now) (C := "PairChoiceModel") (T := F_M) (N := 31) hx hb hts (fun w h => List.mem_cons_of_mem _ (i_M w h)) hown hK hP 0 rfl rfl 17 (by decide) (hts _ (List.mem_cons_of_mem _ kw_476)) (fun _ h9 => h9) rfl d_M_canPair_167 ?_
                                refine lv_iload hx hb d_M_canPair_170 (lv_at hl 0 rfl) ?_
                                refine lv_aload_n hx hb d_M_canPair_172 rfl (lv_at hl 2 rfl) ?_
                                refine va_get (D := (dC, dI)) (ci := 6) (v := .ref q_this_then) (C := "PairChoiceModel") (T := F_M) (N := 31) hx hb hts (fun w h => List.mem_cons_of_mem _ (i_M w h)) hown hK hP 0 rfl rfl 18 (by decide) (hts _ (List.mem_cons_of_mem _ kw_477)) (fun _ h9 => h9) rfl d_M_canPair_173 ?_
                                refine lv_iload hx hb d_M_canPair_176 (lv_at hl 0 rfl) ?_
                                obtain ⟨i8, h⟩ := h
                                refine va_zald hx hb hK hP 5 3 rfl rfl i8 d_M_canPair_178 ?_
                                obtain ⟨i9, h⟩ := h
                                refine va_zast hx hb hK hP hD hS 4 3 rfl rfl i9 d_M_canPair_179 (fun H locs hP hD hS => ?_)
                                have hP : va_P (dC, dI) vCl ([(q_this, .inr (6, [.int v_this_animals, .ref q_this_sexes, .ref q_this_worths, .ref q_this_families, .ref q_this_kins, .ref q_this_isBarred, .int v_this_limit, .int v_this_most, .ref q_this_leasts, .int v_this_tested, .int v_this_testedBy, .int v_this_best, .int v_this_bestWorth, .int v_this_sets, .int v_this_many, .ref q_this_males, .ref q_this_females, .ref q_this_now, .ref q_this_then, .int v_this_pairs, .int v_this_choice, .int v_this_choiceSets, .ref q_this_he, .ref q_this_she, .ref q_this_eggs, .ref q_this_points, .ref q_this_rests, .int v_this_years, .ref q_this_alive, .ref q_this_yearSets, .ref q_this_yearWorths])), (q_this_females, .inl (cI, 12, .inl v_this_females)), (q_this_isBarred, .inl (cZ, 144, .inl v_this_isBarred)), (q_this_males, .inl (cI, 12, .inl v_this_males)), (q_this_now, .inl (cZ, 64, .inl (upd w159_this_now x4_159.toNatClampNeg (vp_nar .boolean (w67_this_then x4_159.toNatClampNeg))))), (q_this_then, .inl (cZ, 64, .inl w67_this_then))]) H := hP
                                have hD : va_D A ([(q_this, .inr (6, [.int v_this_animals, .ref q_this_sexes, .ref q_this_worths, .ref q_this_families, .ref q_this_kins, .ref q_this_isBarred, .int v_this_limit, .int v_this_most, .ref q_this_leasts, .int v_this_tested, .int v_this_testedBy, .int v_this_best, .int v_this_bestWorth, .int v_this_sets, .int v_this_many, .ref q_this_males, .ref q_this_females, .ref q_this_now, .ref q_this_then, .int v_this_pairs, .int v_this_choice, .int v_this_choiceSets, .ref q_this_he, .ref q_this_she, .ref q_this_eggs, .ref q_this_points, .ref q_this_rests, .int v_this_years, .ref q_this_alive, .ref q_this_yearSets, .ref q_this_yearWorths])), (q_this_females, .inl (cI, 12, .inl v_this_females)), (q_this_isBarred, .inl (cZ, 144, .inl v_this_isBarred)), (q_this_males, .inl (cI, 12, .inl v_this_males)), (q_this_now, .inl (cZ, 64, .inl (upd w159_this_now x4_159.toNatClampNeg (vp_nar .boolean (w67_this_then x4_159.toNatClampNeg))))), (q_this_then, .inl (cZ, 64, .inl w67_this_then))]) := hD
                                refine lv_iinc (v := (x4_159 + 1)) (lv' := [(4, .int (x4_159 + 1)), (3, .int x3_32), (0, .ref q_this), (1, .int x1), (2, .int x2)]) hx hb d_M_canPair_180 hl (k := 0) rfl rfl (by decide) rfl (fun ls hl => ?_)
                                refine lv_goto (tgt := 159) hx hb d_M_canPair_183 (by decide) ?_
                                exact ih159 (x4_159 + 1) (upd w159_this_now x4_159.toNatClampNeg (vp_nar .boolean (w67_this_then x4_159.toNatClampNeg))) _ _ ls h hP hD hS (lv_sub hl [0, 1, 2, 3, 4] rfl)
                          exact lp159 nn (0) w32_this_now _ _ ls h hP hD hS hl
                        · have h := h.2 c6
                          refine lv_iconst (v := 0) hx hb d_M_canPair_74 (by decide) ?_
                          refine lv_istore (lv' := [(5, .int 0), (4, .int x4_67), (3, .int x3_32), (0, .ref q_this), (1, .int x1), (2, .int x2)]) hx hb d_M_canPair_75 hl (by decide) rfl (fun ls hl => ?_)
                          obtain ⟨nn, h⟩ := h
                          have lp77 : ∀ (n77 : Nat) (x5_77 : Int32) (w77_this_then : (Nat → Int32)) (H : Heap) (locs : List Loc) (ls : Array Slot), wp_M_canPair_L77 v_this_females v_this_isBarred v_this_males v_this_many x3_32 w32_this_now x4_67 post (fun z0 z1 => wp_M_canPair_L67 v_this_females v_this_isBarred v_this_males v_this_many x3_32 w32_this_now post (fun z0 z1 z2 => wp_M_canPair_L32 v_this_females v_this_isBarred v_this_males v_this_many post n32 z0 z1 z2) n67 z0 z1) n77 x5_77 w77_this_then → va_P (dC, dI) vCl ([(q_this, .inr (6, [.int v_this_animals, .ref q_this_sexes, .ref q_this_worths, .ref q_this_families, .ref q_this_kins, .ref q_this_isBarred, .int v_this_limit, .int v_this_most, .ref q_this_leasts, .int v_this_tested, .int v_this_testedBy, .int v_this_best, .int v_this_bestWorth, .int v_this_sets, .int v_this_many, .ref q_this_males, .ref q_this_females, .ref q_this_now, .ref q_this_then, .int v_this_pairs, .int v_this_choice, .int v_this_choiceSets, .ref q_this_he, .ref q_this_she, .ref q_this_eggs, .ref q_this_points, .ref q_this_rests, .int v_this_years, .ref q_this_alive, .ref q_this_yearSets, .ref q_this_yearWorths])), (q_this_females, .inl (cI, 12, .inl v_this_females)), (q_this_isBarred, .inl (cZ, 144, .inl v_this_isBarred)), (q_this_males, .inl (cI, 12, .inl v_this_males)), (q_this_now, .inl (cZ, 64, .inl w32_this_now)), (q_this_then, .inl (cZ, 64, .inl w77_this_then))]) H → va_D A ([(q_this, .inr (6, [.int v_this_animals, .ref q_this_sexes, .ref q_this_worths, .ref q_this_families, .ref q_this_kins, .ref q_this_isBarred, .int v_this_limit, .int v_this_most, .ref q_this_leasts, .int v_this_tested, .int v_this_testedBy, .int v_this_best, .int v_this_bestWorth, .int v_this_sets, .int v_this_many, .ref q_this_males, .ref q_this_females, .ref q_this_now, .ref q_this_then, .int v_this_pairs, .int v_this_choice, .int v_this_choiceSets, .ref q_this_he, .ref q_this_she, .ref q_this_eggs, .ref q_this_points, .ref q_this_rests, .int v_this_years, .ref q_this_alive, .ref q_this_yearSets, .ref q_this_yearWorths])), (q_this_females, .inl (cI, 12, .inl v_this_females)), (q_this_isBarred, .inl (cZ, 144, .inl v_this_isBarred)), (q_this_males, .inl (cI, 12, .inl v_this_males)), (q_this_now, .inl (cZ, 64, .inl w32_this_now)), (q_this_then, .inl (cZ, 64, .inl w77_this_then))]) → va_S A s.heap H locs → lv_has ls 6 [(5, .int x5_77), (4, .int x4_67), (3, .int x3_32), (0, .ref q_this), (1, .int x1), (2, .int x2)] → W p l e (headSpec w_M_canPair ({ frames := 0, cells := 0, slots := 0, locals := 0 } : Room)).room s m ([.ref q_this, .int x1, .int x2] : List Value).toArray below meth c H locs 0 0 (MQ below (va_Qi (fun (r : Int32) (u : (Nat → Int32) × (Nat → Int32)) => (r = 0 ∨ r = 1) ∧ post r u.1 u.2) (fun (u : (Nat → Int32) × (Nat → Int32)) (t : State) => at_M_canPair dC dI cI cJ cG cZ q_this q_this_alive q_this_eggs q_this_families q_this_females q_this_he q_this_isBarred q_this_kins q_this_leasts q_this_males q_this_now q_this_points q_this_rests q_this_sexes q_this_she q_this_then q_this_worths q_this_yearSets q_this_yearWorths A v_this_animals v_this_best v_this_bestWorth v_this_choice v_this_choiceSets v_this_females v_this_isBarred v_this_limit v_this_males v_this_many v_this_most v_this_pairs v_this_sets v_this_tested v_this_testedBy v_this_years u t) A) ([.ref q_this, .int x1, .int x2] : List Value).toArray s 0 0 (A)) (F0 m 77 ls []) := by
                            intro n77
                            induction n77 with
                            | zero =>
                              intro x5_77 w77_this_then H locs ls h
                              rw [wp_M_canPair_L77] at h
                              exact h.elim
                            | succ n77 ih77 =>
                              intro x5_77 w77_this_then H locs ls h hP hD hS hl
                              rw [wp_M_canPair_L77] at h
                              refine lv_iload hx hb d_M_canPair_77 (lv_at hl 0 rfl) ?_
                              refine lv_aload_n hx hb d_M_canPair_79 rfl (lv_at hl 3 rfl) ?_
                              refine va_get (D := (dC, dI)) (ci := 6) (v := .int v_this_many) (C := "PairChoiceModel") (T := F_M) (N := 31) hx hb hts (fun w h => List.mem_cons_of_mem _ (i_M w h)) hown hK hP 0 rfl rfl 14 (by decide) (hts _ (List.mem_cons_of_mem _ kw_473)) (fun _ h9 => h9) rfl d_M_canPair_80 ?_
                              refine lv_icmp_ge (tgt := 150) hx hb d_M_canPair_83 (by decide) (fun c10 => ?_) (fun c10 => ?_)
                              · have h := h.1 c10
                                refine lv_iinc (v := (x4_67 + 1)) (lv' := [(4, .int (x4_67 + 1)), (5, .int x5_77), (3, .int x3_32), (0, .ref q_this), (1, .int x1), (2, .int x2)]) hx hb d_M_canPair_150 hl (k := 1) rfl rfl (by decide) rfl (fun ls hl => ?_)
                                refine lv_goto (tgt := 67) hx hb d_M_canPair_153 (by decide) ?_
                                exact ih67 (x4_67 + 1) w77_this_then _ _ ls h hP hD hS (lv_sub hl [0, 2, 3, 4, 5] rfl)
                              · have h := h.2 c10
                                refine lv_aload_n hx hb d_M_canPair_86 rfl (lv_at hl 3 rfl) ?_
                                refine va_get (D := (dC, dI)) (ci := 6) (v := .ref q_this_now) (C := "PairChoiceModel") (T := F_M) (N := 31) hx hb hts (fun w h => List.mem_cons_of_mem _ (i_M w h)) hown hK hP 0 rfl rfl 17 (by decide) (hts _ (List.mem_cons_of_mem _ kw_476)) (fun _ h9 => h9) rfl d_M_canPair_87 ?_
                                refine lv_iload hx hb d_M_canPair_90 (lv_at hl 1 rfl) ?_
                                obtain ⟨i11, h⟩ := h
                                refine va_zald hx hb hK hP 4 3 rfl rfl i11 d_M_canPair_92 ?_
                                refine lv_if_eq (tgt := 150) hx hb d_M_canPair_93 (by decide) (fun c12 => ?_) (fun c12 => ?_)
                                · have h := h.1 c12
                                  refine lv_iinc (v := (x4_67 + 1)) (lv' := [(4, .int (x4_67 + 1)), (5, .int x5_77), (3, .int x3_32), (0, .ref q_this), (1, .int x1), (2, .int x2)]) hx hb d_M_canPair_150 hl (k := 1) rfl rfl (by decide) rfl (fun ls hl => ?_)
                                  refine lv_goto (tgt := 67) hx hb d_M_canPair_153 (by decide) ?_
                                  exact ih67 (x4_67 + 1) w77_this_then _ _ ls h hP hD hS (lv_sub hl [0, 2, 3, 4, 5] rfl)
                                · have h := h.2 c12
                                  refine lv_iload hx hb d_M_canPair_96 (lv_at hl 1 rfl) ?_
                                  refine lv_iload hx hb d_M_canPair_98 (lv_at hl 0 rfl) ?_
                                  refine lv_ishr hx hb d_M_canPair_100 ?_
                                  refine lv_iconst (v := 1) hx hb d_M_canPair_101 (by decide) ?_
                                  refine lv_iand hx hb d_M_canPair_102 ?_
                                  refine lv_if_ne (tgt := 144) hx hb d_M_canPair_103 (by decide) (fun c13 => ?_) (fun c13 => ?_)
                                  · have h := h.1 c13
                                    refine lv_iinc (v := (x5_77 + 1)) (lv' := [(5, .int (x5_77 + 1)), (4, .int x4_67), (3, .int x3_32), (0, .ref q_this), (1, .int x1), (2, .int x2)]) hx hb d_M_canPair_144 hl (k := 0) rfl rfl (by decide) rfl (fun ls hl => ?_)
                                    refine lv_goto (tgt := 77) hx hb d_M_canPair_147 (by decide) ?_
                                    exact ih77 (x5_77 + 1) w77_this_then _ _ ls h hP hD hS (lv_sub hl [0, 1, 2, 3, 4, 5] rfl)
                                  · have h := h.2 c13
                                    refine lv_aload_n hx hb d_M_canPair_106 rfl (lv_at hl 3 rfl) ?_
                                    refine va_get (D := (dC, dI)) (ci := 6) (v := .ref q_this_isBarred) (C := "PairChoiceModel") (T := F_M) (N := 31) hx hb hts (fun w h => List.mem_cons_of_mem _ (i_M w h)) hown hK hP 0 rfl rfl 5 (by decide) (hts _ (List.mem_cons_of_mem _ kw_464)) (fun _ h9 => h9) rfl d_M_canPair_107 ?_
                                    refine lv_bipush (v := 12) hx hb d_M_canPair_110 (by decide) ?_
                                    refine lv_aload_n hx hb d_M_canPair_112 rfl (lv_at hl 3 rfl) ?_
                                    refine va_get (D := (dC, dI)) (ci := 6) (v := .ref q_this_males) (C := "PairChoiceModel") (T := F_M) (N := 31) hx hb hts (fun w h => List.mem_cons_of_mem _ (i_M w h)) hown hK hP 0 rfl rfl 15 (by decide) (hts _ (List.mem_cons_of_mem _ kw_474)) (fun _ h9 => h9) rfl d_M_canPair_113 ?_
                                    refine lv_iload_n hx hb d_M_canPair_116 rfl (lv_at hl 2 rfl) ?_
                                    obtain ⟨i14, h⟩ := h
                                    refine va_iald hx hb hK hP 3 0 rfl rfl i14 d_M_canPair_117 ?_
                                    refine lv_imul hx hb d_M_canPair_118 ?_
                                    refine lv_aload_n hx hb d_M_canPair_119 rfl (lv_at hl 3 rfl) ?_
                                    refine va_get (D := (dC, dI)) (ci := 6) (v := .ref q_this_females) (C := "PairChoiceModel") (T := F_M) (N := 31) hx hb hts (fun w h => List.mem_cons_of_mem _ (i_M w h)) hown hK hP 0 rfl rfl 16 (by decide) (hts _ (List.mem_cons_of_mem _ kw_475)) (fun _ h9 => h9) rfl d_M_canPair_120 ?_
                                    refine lv_iload hx hb d_M_canPair_123 (lv_at hl 0 rfl) ?_
                                    obtain ⟨i15, h⟩ := h
                                    refine va_iald hx hb hK hP 1 0 rfl rfl i15 d_M_canPair_125 ?_
                                    refine lv_iadd hx hb d_M_canPair_126 ?_
                                    obtain ⟨i16, h⟩ := h
                                    refine va_zald hx hb hK hP 2 3 rfl rfl i16 d_M_canPair_127 ?_
                                    refine lv_if_ne (tgt := 144) hx hb d_M_canPair_128 (by decide) (fun c17 => ?_) (fun c17 => ?_)
                                    · have h := h.1 c17
                                      refine lv_iinc (v := (x5_77 + 1)) (lv' := [(5, .int (x5_77 + 1)), (4, .int x4_67), (3, .int x3_32), (0, .ref q_this), (1, .int x1), (2, .int x2)]) hx hb d_M_canPair_144 hl (k := 0) rfl rfl (by decide) rfl (fun ls hl => ?_)
                                      refine lv_goto (tgt := 77) hx hb d_M_canPair_147 (by decide) ?_
                                      exact ih77 (x5_77 + 1) w77_this_then _ _ ls h hP hD hS (lv_sub hl [0, 1, 2, 3, 4, 5] rfl)
                                    · have h := h.2 c17
                                      refine lv_aload_n hx hb d_M_canPair_131 rfl (lv_at hl 3 rfl) ?_
                                      refine va_get (D := (dC, dI)) (ci := 6) (v := .ref q_this_then) (C := "PairChoiceModel") (T := F_M) (N := 31) hx hb hts (fun w h => List.mem_cons_of_mem _ (i_M w h)) hown hK hP 0 rfl rfl 18 (by decide) (hts _ (List.mem_cons_of_mem _ kw_477)) (fun _ h9 => h9) rfl d_M_canPair_132 ?_
                                      refine lv_iload hx hb d_M_canPair_135 (lv_at hl 1 rfl) ?_
                                      refine lv_iconst (v := 1) hx hb d_M_canPair_137 (by decide) ?_
                                      refine lv_iload hx hb d_M_canPair_138 (lv_at hl 0 rfl) ?_
                                      refine lv_ishl hx hb d_M_canPair_140 ?_
                                      refine lv_ior hx hb d_M_canPair_141 ?_
                                      refine lv_iconst (v := 1) hx hb d_M_canPair_142 (by decide) ?_
                                      obtain ⟨i18, h⟩ := h
                                      refine va_zast hx hb hK hP hD hS 5 3 rfl rfl i18 d_M_canPair_143 (fun H locs hP hD hS => ?_)
                                      have hP : va_P (dC, dI) vCl ([(q_this, .inr (6, [.int v_this_animals, .ref q_this_sexes, .ref q_this_worths, .ref q_this_families, .ref q_this_kins, .ref q_this_isBarred, .int v_this_limit, .int v_this_most, .ref q_this_leasts, .int v_this_tested, .int v_this_testedBy, .int v_this_best, .int v_this_bestWorth, .int v_this_sets, .int v_this_many, .ref q_this_males, .ref q_this_females, .ref q_this_now, .ref q_this_then, .int v_this_pairs, .int v_this_choice, .int v_this_choiceSets, .ref q_this_he, .ref q_this_she, .ref q_this_eggs, .ref q_this_points, .ref q_this_rests, .int v_this_years, .ref q_this_alive, .ref q_this_yearSets, .ref q_this_yearWorths])), (q_this_females, .inl (cI, 12, .inl v_this_females)), (q_this_isBarred, .inl (cZ, 144, .inl v_this_isBarred)), (q_this_males, .inl (cI, 12, .inl v_this_males)), (q_this_now, .inl (cZ, 64, .inl w32_this_now)), (q_this_then, .inl (cZ, 64, .inl (upd w77_this_then (x4_67 ||| ((1 : Int32) <<< (x5_77 &&& 31))).toNatClampNeg (vp_nar .boolean 1))))]) H := hP
                                      have hD : va_D A ([(q_this, .inr (6, [.int v_this_animals, .ref q_this_sexes, .ref q_this_worths, .ref q_this_families, .ref q_this_kins, .ref q_this_isBarred, .int v_this_limit, .int v_this_most, .ref q_this_leasts, .int v_this_tested, .int v_this_testedBy, .int v_this_best, .int v_this_bestWorth, .int v_this_sets, .int v_this_many, .ref q_this_males, .ref q_this_females, .ref q_this_now, .ref q_this_then, .int v_this_pairs, .int v_this_choice, .int v_this_choiceSets, .ref q_this_he, .ref q_this_she, .ref q_this_eggs, .ref q_this_points, .ref q_this_rests, .int v_this_years, .ref q_this_alive, .ref q_this_yearSets, .ref q_this_yearWorths])), (q_this_females, .inl (cI, 12, .inl v_this_females)), (q_this_isBarred, .inl (cZ, 144, .inl v_this_isBarred)), (q_this_males, .inl (cI, 12, .inl v_this_males)), (q_this_now, .inl (cZ, 64, .inl w32_this_now)), (q_this_then, .inl (cZ, 64, .inl (upd w77_this_then (x4_67 ||| ((1 : Int32) <<< (x5_77 &&& 31))).toNatClampNeg (vp_nar .boolean 1))))]) := hD
                                      refine lv_iinc (v := (x5_77 + 1)) (lv' := [(5, .int (x5_77 + 1)), (4, .int x4_67), (3, .int x3_32), (0, .ref q_this), (1, .int x1), (2, .int x2)]) hx hb d_M_canPair_144 hl (k := 0) rfl rfl (by decide) rfl (fun ls hl => ?_)
                                      refine lv_goto (tgt := 77) hx hb d_M_canPair_147 (by decide) ?_
                                      exact ih77 (x5_77 + 1) (upd w77_this_then (x4_67 ||| ((1 : Int32) <<< (x5_77 &&& 31))).toNatClampNeg (vp_nar .boolean 1)) _ _ ls h hP hD hS (lv_sub hl [0, 1, 2, 3, 4, 5] rfl)
                          exact lp77 nn (0) w67_this_then _ _ ls h hP hD hS hl
                    exact lp67 nn (0) w43_this_then _ _ ls h hP hD hS hl
                  · have h := h.2 c5
                    refine lv_aload_n hx hb d_M_canPair_50 rfl (lv_at hl 2 rfl) ?_
                    refine va_get (D := (dC, dI)) (ci := 6) (v := .ref q_this_then) (C := "PairChoiceModel") (T := F_M) (N := 31) hx hb hts (fun w h => List.mem_cons_of_mem _ (i_M w h)) hown hK hP 0 rfl rfl 18 (by decide) (hts _ (List.mem_cons_of_mem _ kw_477)) (fun _ h9 => h9) rfl d_M_canPair_51 ?_
                    refine lv_iload hx hb d_M_canPair_54 (lv_at hl 0 rfl) ?_
                    refine lv_iconst (v := 0) hx hb d_M_canPair_56 (by decide) ?_
                    obtain ⟨i19, h⟩ := h
                    refine va_zast hx hb hK hP hD hS 5 3 rfl rfl i19 d_M_canPair_57 (fun H locs hP hD hS => ?_)
                    have hP : va_P (dC, dI) vCl ([(q_this, .inr (6, [.int v_this_animals, .ref q_this_sexes, .ref q_this_worths, .ref q_this_families, .ref q_this_kins, .ref q_this_isBarred, .int v_this_limit, .int v_this_most, .ref q_this_leasts, .int v_this_tested, .int v_this_testedBy, .int v_this_best, .int v_this_bestWorth, .int v_this_sets, .int v_this_many, .ref q_this_males, .ref q_this_females, .ref q_this_now, .ref q_this_then, .int v_this_pairs, .int v_this_choice, .int v_this_choiceSets, .ref q_this_he, .ref q_this_she, .ref q_this_eggs, .ref q_this_points, .ref q_this_rests, .int v_this_years, .ref q_this_alive, .ref q_this_yearSets, .ref q_this_yearWorths])), (q_this_females, .inl (cI, 12, .inl v_this_females)), (q_this_isBarred, .inl (cZ, 144, .inl v_this_isBarred)), (q_this_males, .inl (cI, 12, .inl v_this_males)), (q_this_now, .inl (cZ, 64, .inl w32_this_now)), (q_this_then, .inl (cZ, 64, .inl (upd w43_this_then x4_43.toNatClampNeg (vp_nar .boolean 0))))]) H := hP
                    have hD : va_D A ([(q_this, .inr (6, [.int v_this_animals, .ref q_this_sexes, .ref q_this_worths, .ref q_this_families, .ref q_this_kins, .ref q_this_isBarred, .int v_this_limit, .int v_this_most, .ref q_this_leasts, .int v_this_tested, .int v_this_testedBy, .int v_this_best, .int v_this_bestWorth, .int v_this_sets, .int v_this_many, .ref q_this_males, .ref q_this_females, .ref q_this_now, .ref q_this_then, .int v_this_pairs, .int v_this_choice, .int v_this_choiceSets, .ref q_this_he, .ref q_this_she, .ref q_this_eggs, .ref q_this_points, .ref q_this_rests, .int v_this_years, .ref q_this_alive, .ref q_this_yearSets, .ref q_this_yearWorths])), (q_this_females, .inl (cI, 12, .inl v_this_females)), (q_this_isBarred, .inl (cZ, 144, .inl v_this_isBarred)), (q_this_males, .inl (cI, 12, .inl v_this_males)), (q_this_now, .inl (cZ, 64, .inl w32_this_now)), (q_this_then, .inl (cZ, 64, .inl (upd w43_this_then x4_43.toNatClampNeg (vp_nar .boolean 0))))]) := hD
                    refine lv_iinc (v := (x4_43 + 1)) (lv' := [(4, .int (x4_43 + 1)), (3, .int x3_32), (0, .ref q_this), (1, .int x1), (2, .int x2)]) hx hb d_M_canPair_58 hl (k := 0) rfl rfl (by decide) rfl (fun ls hl => ?_)
                    refine lv_goto (tgt := 43) hx hb d_M_canPair_61 (by decide) ?_
                    exact ih43 (x4_43 + 1) (upd w43_this_then x4_43.toNatClampNeg (vp_nar .boolean 0)) _ _ ls h hP hD hS (lv_sub hl [0, 1, 2, 3, 4] rfl)
              exact lp43 nn (0) w32_this_then _ _ ls h hP hD hS hl
        exact lp32 nn x1 w2_this_now v_this_then _ _ ls h hP hD hS hl
      · have h := h.2 c1
        refine lv_aload_n hx hb d_M_canPair_8 rfl (lv_at hl 1 rfl) ?_
        refine va_get (D := (dC, dI)) (ci := 6) (v := .ref q_this_now) (C := "PairChoiceModel") (T := F_M) (N := 31) hx hb hts (fun w h => List.mem_cons_of_mem _ (i_M w h)) hown hK hP 0 rfl rfl 17 (by decide) (hts _ (List.mem_cons_of_mem _ kw_476)) (fun _ h9 => h9) rfl d_M_canPair_9 ?_
        refine lv_iload_n hx hb d_M_canPair_12 rfl (lv_at hl 0 rfl) ?_
        refine lv_iload_n hx hb d_M_canPair_13 rfl (lv_at hl 0 rfl) ?_
        refine lv_iload_n hx hb d_M_canPair_14 rfl (lv_at hl 3 rfl) ?_
        refine lv_icmp_ne (tgt := 22) hx hb d_M_canPair_15 (by decide) (fun c20 => ?_) (fun c20 => ?_)
        · have h := h.1 c20
          refine lv_iconst (v := 0) hx hb d_M_canPair_22 (by decide) ?_
          obtain ⟨i21, h⟩ := h
          refine va_zast hx hb hK hP hD hS 4 3 rfl rfl i21 d_M_canPair_23 (fun H locs hP hD hS => ?_)
          have hP : va_P (dC, dI) vCl ([(q_this, .inr (6, [.int v_this_animals, .ref q_this_sexes, .ref q_this_worths, .ref q_this_families, .ref q_this_kins, .ref q_this_isBarred, .int v_this_limit, .int v_this_most, .ref q_this_leasts, .int v_this_tested, .int v_this_testedBy, .int v_this_best, .int v_this_bestWorth, .int v_this_sets, .int v_this_many, .ref q_this_males, .ref q_this_females, .ref q_this_now, .ref q_this_then, .int v_this_pairs, .int v_this_choice, .int v_this_choiceSets, .ref q_this_he, .ref q_this_she, .ref q_this_eggs, .ref q_this_points, .ref q_this_rests, .int v_this_years, .ref q_this_alive, .ref q_this_yearSets, .ref q_this_yearWorths])), (q_this_females, .inl (cI, 12, .inl v_this_females)), (q_this_isBarred, .inl (cZ, 144, .inl v_this_isBarred)), (q_this_males, .inl (cI, 12, .inl v_this_males)), (q_this_now, .inl (cZ, 64, .inl (upd w2_this_now x3_2.toNatClampNeg (vp_nar .boolean 0)))), (q_this_then, .inl (cZ, 64, .inl v_this_then))]) H := hP
          have hD : va_D A ([(q_this, .inr (6, [.int v_this_animals, .ref q_this_sexes, .ref q_this_worths, .ref q_this_families, .ref q_this_kins, .ref q_this_isBarred, .int v_this_limit, .int v_this_most, .ref q_this_leasts, .int v_this_tested, .int v_this_testedBy, .int v_this_best, .int v_this_bestWorth, .int v_this_sets, .int v_this_many, .ref q_this_males, .ref q_this_females, .ref q_this_now, .ref q_this_then, .int v_this_pairs, .int v_this_choice, .int v_this_choiceSets, .ref q_this_he, .ref q_this_she, .ref q_this_eggs, .ref q_this_points, .ref q_this_rests, .int v_this_years, .ref q_this_alive, .ref q_this_yearSets, .ref q_this_yearWorths])), (q_this_females, .inl (cI, 12, .inl v_this_females)), (q_this_isBarred, .inl (cZ, 144, .inl v_this_isBarred)), (q_this_males, .inl (cI, 12, .inl v_this_males)), (q_this_now, .inl (cZ, 64, .inl (upd w2_this_now x3_2.toNatClampNeg (vp_nar .boolean 0)))), (q_this_then, .inl (cZ, 64, .inl v_this_then))]) := hD
          refine lv_iinc (v := (x3_2 + 1)) (lv' := [(3, .int (x3_2 + 1)), (0, .ref q_this), (1, .int x1), (2, .int x2)]) hx hb d_M_canPair_24 hl (k := 0) rfl rfl (by decide) rfl (fun ls hl => ?_)
          refine lv_goto (tgt := 2) hx hb d_M_canPair_27 (by decide) ?_
          exact ih2 (x3_2 + 1) (upd w2_this_now x3_2.toNatClampNeg (vp_nar .boolean 0)) _ _ ls h hP hD hS (lv_sub hl [0, 1, 2, 3] rfl)
        · have h := h.2 c20
          refine lv_iconst (v := 1) hx hb d_M_canPair_18 (by decide) ?_
          refine lv_goto (tgt := 23) hx hb d_M_canPair_19 (by decide) ?_
          obtain ⟨i22, h⟩ := h
          refine va_zast hx hb hK hP hD hS 4 3 rfl rfl i22 d_M_canPair_23 (fun H locs hP hD hS => ?_)
          have hP : va_P (dC, dI) vCl ([(q_this, .inr (6, [.int v_this_animals, .ref q_this_sexes, .ref q_this_worths, .ref q_this_families, .ref q_this_kins, .ref q_this_isBarred, .int v_this_limit, .int v_this_most, .ref q_this_leasts, .int v_this_tested, .int v_this_testedBy, .int v_this_best, .int v_this_bestWorth, .int v_this_sets, .int v_this_many, .ref q_this_males, .ref q_this_females, .ref q_this_now, .ref q_this_then, .int v_this_pairs, .int v_this_choice, .int v_this_choiceSets, .ref q_this_he, .ref q_this_she, .ref q_this_eggs, .ref q_this_points, .ref q_this_rests, .int v_this_years, .ref q_this_alive, .ref q_this_yearSets, .ref q_this_yearWorths])), (q_this_females, .inl (cI, 12, .inl v_this_females)), (q_this_isBarred, .inl (cZ, 144, .inl v_this_isBarred)), (q_this_males, .inl (cI, 12, .inl v_this_males)), (q_this_now, .inl (cZ, 64, .inl (upd w2_this_now x3_2.toNatClampNeg (vp_nar .boolean 1)))), (q_this_then, .inl (cZ, 64, .inl v_this_then))]) H := hP
          have hD : va_D A ([(q_this, .inr (6, [.int v_this_animals, .ref q_this_sexes, .ref q_this_worths, .ref q_this_families, .ref q_this_kins, .ref q_this_isBarred, .int v_this_limit, .int v_this_most, .ref q_this_leasts, .int v_this_tested, .int v_this_testedBy, .int v_this_best, .int v_this_bestWorth, .int v_this_sets, .int v_this_many, .ref q_this_males, .ref q_this_females, .ref q_this_now, .ref q_this_then, .int v_this_pairs, .int v_this_choice, .int v_this_choiceSets, .ref q_this_he, .ref q_this_she, .ref q_this_eggs, .ref q_this_points, .ref q_this_rests, .int v_this_years, .ref q_this_alive, .ref q_this_yearSets, .ref q_this_yearWorths])), (q_this_females, .inl (cI, 12, .inl v_this_females)), (q_this_isBarred, .inl (cZ, 144, .inl v_this_isBarred)), (q_this_males, .inl (cI, 12, .inl v_this_males)), (q_this_now, .inl (cZ, 64, .inl (upd w2_this_now x3_2.toNatClampNeg (vp_nar .boolean 1)))), (q_this_then, .inl (cZ, 64, .inl v_this_then))]) := hD
          refine lv_iinc (v := (x3_2 + 1)) (lv' := [(3, .int (x3_2 + 1)), (0, .ref q_this), (1, .int x1), (2, .int x2)]) hx hb d_M_canPair_24 hl (k := 0) rfl rfl (by decide) rfl (fun ls hl => ?_)
          refine lv_goto (tgt := 2) hx hb d_M_canPair_27 (by decide) ?_
          exact ih2 (x3_2 + 1) (upd w2_this_now x3_2.toNatClampNeg (vp_nar .boolean 1)) _ _ ls h hP hD hS (lv_sub hl [0, 1, 2, 3] rfl)
  exact lp2 nn (0) v_this_now _ _ ls h hP hD hS hl
set_option maxHeartbeats 4000000 in
set_option maxRecDepth 100000 in
theorem c_M_fits (l : Launch) (dC : Nat → ClassId) (dI : Nat → Nat → Nat) (cI cJ cG cZ : ClassId) (q_this q_this_alive q_this_eggs q_this_families q_this_females q_this_he q_this_isBarred q_this_kins q_this_leasts q_this_males q_this_now q_this_points q_this_rests q_this_sexes q_this_she q_this_then q_this_worths q_this_yearSets q_this_yearWorths : Nat) (v_this_animals : Int32) (v_this_best : Int32) (v_this_bestWorth : Int32) (v_this_choice : Int32) (v_this_choiceSets : Int32) (v_this_families : (Nat → Int32)) (v_this_kins : (Nat → Int32)) (v_this_leasts : (Nat → Int32)) (v_this_limit : Int32) (v_this_many : Int32) (v_this_most : Int32) (v_this_pairs : Int32) (v_this_sets : Int32) (v_this_tested : Int32) (v_this_testedBy : Int32) (v_this_years : Int32) (x1 : Int32) (x2 : Int32) (post : Int32 → Prop) (h : wp_M_fits v_this_animals v_this_families v_this_kins v_this_leasts v_this_limit v_this_most x1 x2 post) : Met l y_M_fits w_M_fits ({ frames := 1, cells := 0, slots := 0, locals := 25 } : Room) (va_Pc [.ref q_this, .int x1, .int x2] (pcR dC dI cI cJ cG cZ ([(q_this, .inr (6, [.int v_this_animals, .ref q_this_sexes, .ref q_this_worths, .ref q_this_families, .ref q_this_kins, .ref q_this_isBarred, .int v_this_limit, .int v_this_most, .ref q_this_leasts, .int v_this_tested, .int v_this_testedBy, .int v_this_best, .int v_this_bestWorth, .int v_this_sets, .int v_this_many, .ref q_this_males, .ref q_this_females, .ref q_this_now, .ref q_this_then, .int v_this_pairs, .int v_this_choice, .int v_this_choiceSets, .ref q_this_he, .ref q_this_she, .ref q_this_eggs, .ref q_this_points, .ref q_this_rests, .int v_this_years, .ref q_this_alive, .ref q_this_yearSets, .ref q_this_yearWorths])), (q_this_families, .inl (cI, 12, .inl v_this_families)), (q_this_kins, .inl (cI, 144, .inl v_this_kins)), (q_this_leasts, .inl (cI, 8, .inl v_this_leasts))]))) (vp_Si (fun r => (r = 0 ∨ r = 1) ∧ post r)) 0 0 (fun _ => False) := by
  refine Met.ofW (cc := b_M_fits) (maxL := 3) (ret := (some .boolean)) (by decide) rfl ?_
  intro p e s m args below meth c s₁ B hml hv
  obtain ⟨rfl, hP, hK, hN⟩ := hv
  have hx := B.exec
  have hb := B.bytes
  have hr := B.returns
  have hts := atoms_spec (ws := w_M_fits) B.pre
  have hown : s.vm.findClass "PairChoiceModel" = some m.cls := findClass_of_methodNamed B.named
  have hlocks := B.notSynchronized
  have hl := lv_entry ([.ref q_this, .int x1, .int x2]) (n := 3) (Nat.le_of_ble_eq_true rfl)
  rw [lg_entry_eq]
  generalize (lg_sl ([.ref q_this, .int x1, .int x2]) ++ List.replicate (3 - (lg_sl ([.ref q_this, .int x1, .int x2])).length) Slot.unset).toArray = ls at hl ⊢
  have hl : lv_has ls 3 [(0, .ref q_this), (1, .int x1), (2, .int x2)] := hl
  unfold wp_M_fits at h
  refine lv_aload_n hx hb d_M_fits_0 rfl (lv_at hl 0 rfl) ?_
  refine lv_iload_n hx hb d_M_fits_1 rfl (lv_at hl 1 rfl) ?_
  have hPc := hP.sub (ws' := [(q_this, .inr (6, [.int v_this_animals, .ref q_this_sexes, .ref q_this_worths, .ref q_this_families, .ref q_this_kins, .ref q_this_isBarred, .int v_this_limit, .int v_this_most, .ref q_this_leasts, .int v_this_tested, .int v_this_testedBy, .int v_this_best, .int v_this_bestWorth, .int v_this_sets, .int v_this_many, .ref q_this_males, .ref q_this_females, .ref q_this_now, .ref q_this_then, .int v_this_pairs, .int v_this_choice, .int v_this_choiceSets, .ref q_this_he, .ref q_this_she, .ref q_this_eggs, .ref q_this_points, .ref q_this_rests, .int v_this_years, .ref q_this_alive, .ref q_this_yearSets, .ref q_this_yearWorths])), (q_this_kins, .inl (cI, 144, .inl v_this_kins))]) [0, 2] rfl
  refine vp_callSi (va_Run.run (va_runV (As := [.int x1]) (rest := []) ⟨hx, hb, hml, hown, hts⟩ (c_M_kinOf l dC dI cI cJ cG cZ  q_this q_this_alive q_this_eggs q_this_families q_this_females q_this_he q_this_isBarred q_this_kins q_this_leasts q_this_males q_this_now q_this_points q_this_rests q_this_sexes q_this_she q_this_then q_this_worths q_this_yearSets q_this_yearWorths  v_this_animals v_this_best v_this_bestWorth v_this_choice v_this_choiceSets v_this_kins v_this_limit v_this_many v_this_most v_this_pairs v_this_sets v_this_tested v_this_testedBy v_this_years (x1 : Int32) _ h) (cwV 1 hts (gcV kw_613 kw_615 kw_33 kw_45 kw_616) rfl rfl rfl (by decide +kernel) ⟨Nat.le_of_ble_eq_true rfl, Nat.le_of_ble_eq_true rfl⟩) ⟨fb_r, va_recv hK hPc (ci := 6) (q0 := 0) rfl rfl, pre_r hPc hK hN⟩ rfl rfl hl.1 rfl (lv_room (Nat.le_of_ble_eq_true rfl)) d_M_fits_2 ⟨Nat.zero_le _, Nat.zero_le _⟩)) (fun r1 h => ?_)
  refine lv_iconst (v := 4) hx hb d_M_fits_5 (by decide) ?_
  refine lv_iload_n hx hb d_M_fits_6 rfl (lv_at hl 2 rfl) ?_
  refine lv_imul hx hb d_M_fits_7 ?_
  refine lv_iload_n hx hb d_M_fits_8 rfl (lv_at hl 2 rfl) ?_
  refine lv_imul hx hb d_M_fits_9 ?_
  refine lv_aload_n hx hb d_M_fits_10 rfl (lv_at hl 0 rfl) ?_
  refine va_get (D := (dC, dI)) (ci := 6) (v := .int v_this_limit) (C := "PairChoiceModel") (T := F_M) (N := 31) hx hb hts (fun w h => List.mem_cons_of_mem _ (i_M w h)) hown hK hP 0 rfl rfl 6 (by decide) (hts _ (List.mem_cons_of_mem _ kw_465)) (fun _ h9 => h9) rfl d_M_fits_11 ?_
  refine lv_imul hx hb d_M_fits_14 ?_
  refine lv_icmp_gt (tgt := 30) hx hb d_M_fits_15 (by decide) (fun c2 => ?_) (fun c2 => ?_)
  · have h := h.1 c2
    refine lv_iconst (v := 0) hx hb d_M_fits_30 (by decide) ?_
    exact W.zret hx hb hr (z_nar (Or.inl rfl)) (fun t ht hW => ⟨_, rfl, ⟨Or.inl rfl, h⟩, ht⟩) (fun _ h9 => by cases h9) d_M_fits_31
  · have h := h.2 c2
    refine lv_aload_n hx hb d_M_fits_18 rfl (lv_at hl 0 rfl) ?_
    refine lv_iload_n hx hb d_M_fits_19 rfl (lv_at hl 1 rfl) ?_
    have hPc := hP.sub (ws' := [(q_this, .inr (6, [.int v_this_animals, .ref q_this_sexes, .ref q_this_worths, .ref q_this_families, .ref q_this_kins, .ref q_this_isBarred, .int v_this_limit, .int v_this_most, .ref q_this_leasts, .int v_this_tested, .int v_this_testedBy, .int v_this_best, .int v_this_bestWorth, .int v_this_sets, .int v_this_many, .ref q_this_males, .ref q_this_females, .ref q_this_now, .ref q_this_then, .int v_this_pairs, .int v_this_choice, .int v_this_choiceSets, .ref q_this_he, .ref q_this_she, .ref q_this_eggs, .ref q_this_points, .ref q_this_rests, .int v_this_years, .ref q_this_alive, .ref q_this_yearSets, .ref q_this_yearWorths])), (q_this_families, .inl (cI, 12, .inl v_this_families)), (q_this_leasts, .inl (cI, 8, .inl v_this_leasts))]) [0, 1, 3] rfl
    refine vp_callSi (va_Run.run (va_runV (As := [.int x1]) (rest := []) ⟨hx, hb, hml, hown, hts⟩ (c_M_fitsFamilies l dC dI cI cJ cG cZ  q_this q_this_alive q_this_eggs q_this_families q_this_females q_this_he q_this_isBarred q_this_kins q_this_leasts q_this_males q_this_now q_this_points q_this_rests q_this_sexes q_this_she q_this_then q_this_worths q_this_yearSets q_this_yearWorths  v_this_animals v_this_best v_this_bestWorth v_this_choice v_this_choiceSets v_this_families v_this_leasts v_this_limit v_this_many v_this_most v_this_pairs v_this_sets v_this_tested v_this_testedBy v_this_years (x1 : Int32) _ h) (cwV 1 hts (gcV kw_617 kw_619 kw_34 kw_45 kw_620) rfl rfl rfl (by decide +kernel) ⟨Nat.le_of_ble_eq_true rfl, Nat.le_of_ble_eq_true rfl⟩) ⟨fb_r, va_recv hK hPc (ci := 6) (q0 := 0) rfl rfl, pre_r hPc hK hN⟩ rfl rfl hl.1 rfl (lv_room (Nat.le_of_ble_eq_true rfl)) d_M_fits_20 ⟨Nat.zero_le _, Nat.zero_le _⟩)) (fun r3 h => ?_)
    obtain ⟨br3, h⟩ := h
    refine lv_if_eq (tgt := 30) hx hb d_M_fits_23 (by decide) (fun c4 => ?_) (fun c4 => ?_)
    · have h := h.1 c4
      refine lv_iconst (v := 0) hx hb d_M_fits_30 (by decide) ?_
      exact W.zret hx hb hr (z_nar (Or.inl rfl)) (fun t ht hW => ⟨_, rfl, ⟨Or.inl rfl, h⟩, ht⟩) (fun _ h9 => by cases h9) d_M_fits_31
    · have h := h.2 c4
      refine lv_iconst (v := 1) hx hb d_M_fits_26 (by decide) ?_
      refine lv_goto (tgt := 31) hx hb d_M_fits_27 (by decide) ?_
      exact W.zret hx hb hr (z_nar (Or.inr rfl)) (fun t ht hW => ⟨_, rfl, ⟨Or.inr rfl, h⟩, ht⟩) (fun _ h9 => by cases h9) d_M_fits_31
set_option maxHeartbeats 4000000 in
set_option maxRecDepth 100000 in
theorem c_M_worthOf (l : Launch) (dC : Nat → ClassId) (dI : Nat → Nat → Nat) (cI cJ cG cZ : ClassId) (q_this q_this_alive q_this_eggs q_this_families q_this_females q_this_he q_this_isBarred q_this_kins q_this_leasts q_this_males q_this_now q_this_points q_this_rests q_this_sexes q_this_she q_this_then q_this_worths q_this_yearSets q_this_yearWorths : Nat) (v_this_animals : Int32) (v_this_best : Int32) (v_this_bestWorth : Int32) (v_this_choice : Int32) (v_this_choiceSets : Int32) (v_this_limit : Int32) (v_this_many : Int32) (v_this_most : Int32) (v_this_pairs : Int32) (v_this_sets : Int32) (v_this_tested : Int32) (v_this_testedBy : Int32) (v_this_worths : (Nat → Int32)) (v_this_years : Int32) (x1 : Int32) (post : Int32 → Prop) (h : wp_M_worthOf v_this_animals v_this_tested v_this_testedBy v_this_worths x1 post) : Met l y_M_worthOf w_M_worthOf ({ frames := 0, cells := 0, slots := 0, locals := 0 } : Room) (va_Pc [.ref q_this, .int x1] (pcR dC dI cI cJ cG cZ ([(q_this, .inr (6, [.int v_this_animals, .ref q_this_sexes, .ref q_this_worths, .ref q_this_families, .ref q_this_kins, .ref q_this_isBarred, .int v_this_limit, .int v_this_most, .ref q_this_leasts, .int v_this_tested, .int v_this_testedBy, .int v_this_best, .int v_this_bestWorth, .int v_this_sets, .int v_this_many, .ref q_this_males, .ref q_this_females, .ref q_this_now, .ref q_this_then, .int v_this_pairs, .int v_this_choice, .int v_this_choiceSets, .ref q_this_he, .ref q_this_she, .ref q_this_eggs, .ref q_this_points, .ref q_this_rests, .int v_this_years, .ref q_this_alive, .ref q_this_yearSets, .ref q_this_yearWorths])), (q_this_worths, .inl (cI, 12, .inl v_this_worths))]))) (vp_Si (fun r => post r)) 0 0 (fun _ => False) := by
  refine Met.ofW (cc := b_M_worthOf) (maxL := 4) (ret := (some .int)) (by decide) rfl ?_
  intro p e s m args below meth c s₁ B hml hv
  obtain ⟨rfl, hP, hK, hN⟩ := hv
  have hx := B.exec
  have hb := B.bytes
  have hr := B.returns
  have hts := atoms_spec (ws := w_M_worthOf) B.pre
  have hown : s.vm.findClass "PairChoiceModel" = some m.cls := findClass_of_methodNamed B.named
  have hlocks := B.notSynchronized
  have hl := lv_entry ([.ref q_this, .int x1]) (n := 4) (Nat.le_of_ble_eq_true rfl)
  rw [lg_entry_eq]
  generalize (lg_sl ([.ref q_this, .int x1]) ++ List.replicate (4 - (lg_sl ([.ref q_this, .int x1])).length) Slot.unset).toArray = ls at hl ⊢
  have hl : lv_has ls 4 [(0, .ref q_this), (1, .int x1)] := hl
  unfold wp_M_worthOf at h
  refine lv_iconst (v := 0) hx hb d_M_worthOf_0 (by decide) ?_
  refine lv_istore_n (lv' := [(2, .int 0), (0, .ref q_this), (1, .int x1)]) hx hb d_M_worthOf_1 rfl hl (by decide) rfl (fun ls hl => ?_)
  refine lv_iconst (v := 0) hx hb d_M_worthOf_2 (by decide) ?_
  refine lv_istore_n (lv' := [(3, .int 0), (2, .int 0), (0, .ref q_this), (1, .int x1)]) hx hb d_M_worthOf_3 rfl hl (by decide) rfl (fun ls hl => ?_)
  obtain ⟨nn, h⟩ := h
  have lp4 : ∀ (n4 : Nat) (x2_4 : Int32) (x3_4 : Int32) (ls : Array Slot), wp_M_worthOf_L4 v_this_animals v_this_tested v_this_testedBy v_this_worths x1 post n4 x2_4 x3_4 → lv_has ls 4 [(3, .int x3_4), (2, .int x2_4), (0, .ref q_this), (1, .int x1)] → W p l e (headSpec w_M_worthOf ({ frames := 0, cells := 0, slots := 0, locals := 0 } : Room)).room s m ([.ref q_this, .int x1] : List Value).toArray below meth c s.heap [] 0 0 (MQ below (vp_Si (fun r => post r)) ([.ref q_this, .int x1] : List Value).toArray s 0 0 (fun _ => False)) (F0 m 4 ls []) := by
    intro n4
    induction n4 with
    | zero =>
      intro x2_4 x3_4 ls h
      rw [wp_M_worthOf_L4] at h
      exact h.elim
    | succ n4 ih4 =>
      intro x2_4 x3_4 ls h hl
      rw [wp_M_worthOf_L4] at h
      refine lv_iload_n hx hb d_M_worthOf_4 rfl (lv_at hl 0 rfl) ?_
      refine lv_aload_n hx hb d_M_worthOf_5 rfl (lv_at hl 2 rfl) ?_
      refine va_get (D := (dC, dI)) (ci := 6) (v := .int v_this_animals) (C := "PairChoiceModel") (T := F_M) (N := 31) hx hb hts (fun w h => List.mem_cons_of_mem _ (i_M w h)) hown hK hP 0 rfl rfl 0 (by decide) (hts _ (List.mem_cons_of_mem _ kw_459)) (fun _ h9 => h9) rfl d_M_worthOf_6 ?_
      refine lv_icmp_ge (tgt := 57) hx hb d_M_worthOf_9 (by decide) (fun c1 => ?_) (fun c1 => ?_)
      · have h := h.1 c1
        refine lv_iload_n hx hb d_M_worthOf_57 rfl (lv_at hl 1 rfl) ?_
        exact W.iret hx hb hr (fun t ht hW => ⟨_, rfl, h, ht⟩) (fun _ h9 => by cases h9) d_M_worthOf_58
      · have h := h.2 c1
        refine lv_iload_n hx hb d_M_worthOf_12 rfl (lv_at hl 3 rfl) ?_
        refine lv_iload_n hx hb d_M_worthOf_13 rfl (lv_at hl 0 rfl) ?_
        refine lv_ishr hx hb d_M_worthOf_14 ?_
        refine lv_iconst (v := 1) hx hb d_M_worthOf_15 (by decide) ?_
        refine lv_iand hx hb d_M_worthOf_16 ?_
        refine lv_iconst (v := 1) hx hb d_M_worthOf_17 (by decide) ?_
        refine lv_icmp_ne (tgt := 49) hx hb d_M_worthOf_18 (by decide) (fun c2 => ?_) (fun c2 => ?_)
        · have h := h.1 c2
          refine lv_iload_n hx hb d_M_worthOf_49 rfl (lv_at hl 1 rfl) ?_
          refine lv_istore_n (lv' := [(2, .int x2_4), (3, .int x3_4), (0, .ref q_this), (1, .int x1)]) hx hb d_M_worthOf_50 rfl hl (by decide) rfl (fun ls hl => ?_)
          refine lv_iinc (v := (x3_4 + 1)) (lv' := [(3, .int (x3_4 + 1)), (2, .int x2_4), (0, .ref q_this), (1, .int x1)]) hx hb d_M_worthOf_51 hl (k := 1) rfl rfl (by decide) rfl (fun ls hl => ?_)
          refine lv_goto (tgt := 4) hx hb d_M_worthOf_54 (by decide) ?_
          exact ih4 x2_4 (x3_4 + 1) ls h (lv_sub hl [0, 1, 2, 3] rfl)
        · have h := h.2 c2
          refine lv_iload_n hx hb d_M_worthOf_21 rfl (lv_at hl 1 rfl) ?_
          refine lv_aload_n hx hb d_M_worthOf_22 rfl (lv_at hl 2 rfl) ?_
          refine va_get (D := (dC, dI)) (ci := 6) (v := .ref q_this_worths) (C := "PairChoiceModel") (T := F_M) (N := 31) hx hb hts (fun w h => List.mem_cons_of_mem _ (i_M w h)) hown hK hP 0 rfl rfl 2 (by decide) (hts _ (List.mem_cons_of_mem _ kw_461)) (fun _ h9 => h9) rfl d_M_worthOf_23 ?_
          refine lv_iload_n hx hb d_M_worthOf_26 rfl (lv_at hl 0 rfl) ?_
          obtain ⟨i3, h⟩ := h
          refine va_iald hx hb hK hP 1 0 rfl rfl i3 d_M_worthOf_27 ?_
          refine lv_iadd hx hb d_M_worthOf_28 ?_
          refine lv_iload_n hx hb d_M_worthOf_29 rfl (lv_at hl 0 rfl) ?_
          refine lv_aload_n hx hb d_M_worthOf_30 rfl (lv_at hl 2 rfl) ?_
          refine va_get (D := (dC, dI)) (ci := 6) (v := .int v_this_tested) (C := "PairChoiceModel") (T := F_M) (N := 31) hx hb hts (fun w h => List.mem_cons_of_mem _ (i_M w h)) hown hK hP 0 rfl rfl 9 (by decide) (hts _ (List.mem_cons_of_mem _ kw_468)) (fun _ h9 => h9) rfl d_M_worthOf_31 ?_
          refine lv_icmp_ne (tgt := 44) hx hb d_M_worthOf_34 (by decide) (fun c4 => ?_) (fun c4 => ?_)
          · have h := h.1 c4
            refine lv_iconst (v := 0) hx hb d_M_worthOf_44 (by decide) ?_
            refine lv_iadd hx hb d_M_worthOf_45 ?_
            refine lv_goto (tgt := 50) hx hb d_M_worthOf_46 (by decide) ?_
            refine lv_istore_n (lv' := [(2, .int ((x2_4 + (v_this_worths x3_4.toNatClampNeg)) + 0)), (3, .int x3_4), (0, .ref q_this), (1, .int x1)]) hx hb d_M_worthOf_50 rfl hl (by decide) rfl (fun ls hl => ?_)
            refine lv_iinc (v := (x3_4 + 1)) (lv' := [(3, .int (x3_4 + 1)), (2, .int ((x2_4 + (v_this_worths x3_4.toNatClampNeg)) + 0)), (0, .ref q_this), (1, .int x1)]) hx hb d_M_worthOf_51 hl (k := 1) rfl rfl (by decide) rfl (fun ls hl => ?_)
            refine lv_goto (tgt := 4) hx hb d_M_worthOf_54 (by decide) ?_
            exact ih4 ((x2_4 + (v_this_worths x3_4.toNatClampNeg)) + 0) (x3_4 + 1) ls h (lv_sub hl [0, 1, 2, 3] rfl)
          · have h := h.2 c4
            refine lv_aload_n hx hb d_M_worthOf_37 rfl (lv_at hl 2 rfl) ?_
            refine va_get (D := (dC, dI)) (ci := 6) (v := .int v_this_testedBy) (C := "PairChoiceModel") (T := F_M) (N := 31) hx hb hts (fun w h => List.mem_cons_of_mem _ (i_M w h)) hown hK hP 0 rfl rfl 10 (by decide) (hts _ (List.mem_cons_of_mem _ kw_469)) (fun _ h9 => h9) rfl d_M_worthOf_38 ?_
            refine lv_goto (tgt := 45) hx hb d_M_worthOf_41 (by decide) ?_
            refine lv_iadd hx hb d_M_worthOf_45 ?_
            refine lv_goto (tgt := 50) hx hb d_M_worthOf_46 (by decide) ?_
            refine lv_istore_n (lv' := [(2, .int ((x2_4 + (v_this_worths x3_4.toNatClampNeg)) + v_this_testedBy)), (3, .int x3_4), (0, .ref q_this), (1, .int x1)]) hx hb d_M_worthOf_50 rfl hl (by decide) rfl (fun ls hl => ?_)
            refine lv_iinc (v := (x3_4 + 1)) (lv' := [(3, .int (x3_4 + 1)), (2, .int ((x2_4 + (v_this_worths x3_4.toNatClampNeg)) + v_this_testedBy)), (0, .ref q_this), (1, .int x1)]) hx hb d_M_worthOf_51 hl (k := 1) rfl rfl (by decide) rfl (fun ls hl => ?_)
            refine lv_goto (tgt := 4) hx hb d_M_worthOf_54 (by decide) ?_
            exact ih4 ((x2_4 + (v_this_worths x3_4.toNatClampNeg)) + v_this_testedBy) (x3_4 + 1) ls h (lv_sub hl [0, 1, 2, 3] rfl)
  exact lp4 nn (0) (0) ls h hl
