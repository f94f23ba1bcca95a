def nfF : List (String × Nat × String × String × String × String) := [("PairChoice", 47, "PairChoice$Herd", "count", "I", "PairChoice"), ("PairChoice$Pairing", 38, "PairChoice$Herd", "count", "I", "PairChoice"), ("PairChoice$Pairing", 18, "PairChoice$Herd", "males", "I", "PairChoice"), ("PairChoice$SetList", 36, "PairChoice$Herd", "males", "I", "PairChoice"), ("PairChoice", 69, "PairChoice$Herd", "males", "I", "PairChoice"), ("PairChoice$Choice", 78, "PairChoice$Herd", "males", "I", "PairChoice"), ("PairChoice", 61, "PairChoice$Herd", "worths", "[I", "PairChoice"), ("PairChoice$Choice", 44, "PairChoice$Herd", "worths", "[I", "PairChoice"), ("PairChoice", 65, "PairChoice$Herd", "kinships", "[[I", "PairChoice"), ("PairChoice$Pairing", 35, "PairChoice$Herd", "barred", "[I", "PairChoice"), ("PairChoice", 76, "PairChoice$Herd", "barred", "[I", "PairChoice"), ("PairChoice$Choice", 84, "PairChoice$Herd", "barred", "[I", "PairChoice"), ("PairChoice", 83, "PairChoice$Herd", "kinLimit", "I", "PairChoice"), ("PairChoice", 86, "PairChoice$Herd", "mostOfFamily", "I", "PairChoice"), ("PairChoice", 89, "PairChoice$Herd", "leastOfFamily", "[I", "PairChoice"), ("PairChoice$Choice", 49, "PairChoice$Pairing", "males", "[I", "PairChoice"), ("PairChoice", 120, "PairChoice$Pairing", "males", "[I", "PairChoice"), ("PairChoice$Choice", 52, "PairChoice$Pairing", "females", "[I", "PairChoice"), ("PairChoice", 124, "PairChoice$Pairing", "females", "[I", "PairChoice"), ("PairChoice", 99, "PairChoice$SetList", "size", "I", "PairChoice"), ("PairChoice", 116, "PairChoice$Choice", "pairing", "LPairChoice$Pairing;", "PairChoice"), ("PairChoice", 127, "PairChoice$Choice", "pairs", "I", "PairChoice"), ("PairChoice", 130, "PairChoice$Choice", "set", "I", "PairChoice"), ("PairChoice", 139, "PairChoice$Choice", "setsThatMayBe", "I", "PairChoice"), ("PairChoice", 146, "PairChoice$Choice", "eggShares", "[I", "PairChoice"), ("PairChoice", 157, "PairChoice$Outlook", "years", "I", "PairChoice"), ("PairChoice", 180, "PairChoice$Outlook", "alive", "[I", "PairChoice"), ("PairChoice", 183, "PairChoice$Outlook", "bestSums", "[I", "PairChoice")]
def nfM : List (String × Nat × MethodName × String) := [("PairChoice", 9, ⟨"PairChoice$Herd", "<init>", "()V"⟩, "PairChoice"), ("PairChoice", 18, ⟨"PairChoice$SetList", "<init>", "(LPairChoice$Herd;)V"⟩, "PairChoice"), ("PairChoice$SetList", 11, ⟨"PairChoice$Pairing", "<init>", "()V"⟩, "PairChoice"), ("PairChoice", 27, ⟨"PairChoice$Choice", "<init>", "(LPairChoice$Herd;)V"⟩, "PairChoice"), ("PairChoice$Choice", 11, ⟨"PairChoice$Pairing", "<init>", "()V"⟩, "PairChoice"), ("PairChoice", 34, ⟨"PairChoice$Outlook", "<init>", "()V"⟩, "PairChoice"), ("PairChoice", 102, ⟨"PairChoice$Choice", "drop", "()V"⟩, "PairChoice"), ("PairChoice", 186, ⟨"PairChoice$SetList", "forget", "()V"⟩, "PairChoice"), ("PairChoice", 54, ⟨"PairChoice$Herd", "add", "(III)I"⟩, "PairChoice"), ("PairChoice$Herd", 42, ⟨"PairChoice", "bit", "(I)I"⟩, "PairChoice"), ("PairChoice", 58, ⟨"PairChoice$Herd", "knows", "(I)Z"⟩, "PairChoice"), ("PairChoice", 95, ⟨"PairChoice$SetList", "listAll", "(I)V"⟩, "PairChoice"), ("PairChoice$SetList", 51, ⟨"PairChoice$Herd", "all", "()I"⟩, "PairChoice"), ("PairChoice$SetList", 58, ⟨"PairChoice$Herd", "keepsRules", "(II)Z"⟩, "PairChoice"), ("PairChoice$Herd", 46, ⟨"PairChoice", "has", "(II)Z"⟩, "PairChoice"), ("PairChoice$SetList", 62, ⟨"PairChoice$Pairing", "pairSet", "(LPairChoice$Herd;I)Z"⟩, "PairChoice"), ("PairChoice$Pairing", 27, ⟨"PairChoice", "leastOf", "(I)I"⟩, "PairChoice"), ("PairChoice$Pairing", 31, ⟨"PairChoice$Herd", "knows", "(I)Z"⟩, "PairChoice"), ("PairChoice$Pairing", 41, ⟨"PairChoice", "has", "(II)Z"⟩, "PairChoice"), ("PairChoice$Pairing", 45, ⟨"PairChoice", "bit", "(I)I"⟩, "PairChoice"), ("PairChoice$SetList", 66, ⟨"PairChoice$Herd", "worthSum", "(I)I"⟩, "PairChoice"), ("PairChoice", 105, ⟨"PairChoice$SetList", "best", "()I"⟩, "PairChoice"), ("PairChoice", 109, ⟨"PairChoice$Choice", "take", "(III)V"⟩, "PairChoice"), ("PairChoice$Choice", 40, ⟨"PairChoice$Pairing", "pairSet", "(LPairChoice$Herd;I)Z"⟩, "PairChoice"), ("PairChoice", 113, ⟨"PairChoice$Choice", "hasPair", "(I)Z"⟩, "PairChoice"), ("PairChoice", 133, ⟨"PairChoice$Herd", "worthSum", "(I)I"⟩, "PairChoice"), ("PairChoice", 136, ⟨"PairChoice$Herd", "kinSum", "(I)I"⟩, "PairChoice"), ("PairChoice", 143, ⟨"PairChoice$Choice", "shareOut", "(I)V"⟩, "PairChoice"), ("PairChoice", 149, ⟨"PairChoice$Choice", "couldStandIn", "(II)Z"⟩, "PairChoice"), ("PairChoice$Choice", 80, ⟨"PairChoice", "has", "(II)Z"⟩, "PairChoice"), ("PairChoice$Choice", 87, ⟨"PairChoice", "bit", "(I)I"⟩, "PairChoice"), ("PairChoice$Choice", 90, ⟨"PairChoice$Herd", "keepsRules", "(II)Z"⟩, "PairChoice"), ("PairChoice", 153, ⟨"PairChoice$SetList", "greatestSumWith", "(II)I"⟩, "PairChoice"), ("PairChoice$SetList", 73, ⟨"PairChoice", "has", "(II)Z"⟩, "PairChoice"), ("PairChoice", 160, ⟨"PairChoice$Herd", "all", "()I"⟩, "PairChoice"), ("PairChoice", 174, ⟨"PairChoice$SetList", "greatestSumAmong", "(I)I"⟩, "PairChoice"), ("PairChoice", 177, ⟨"PairChoice$Outlook", "note", "(III)V"⟩, "PairChoice")]
/-! what all walks rest on -/
abbrev tys0 (cI cJ cG cZ : ClassId) : List (ClassId × FieldType) := [(cI, .int), (cJ, .long), (cG, .array .int), (cZ, .boolean)]
def NF (U : State) : Prop := (∀ q ∈ nfF, va_Nw (.fieldLinkNest q.1 q.2.1 q.2.2.1 q.2.2.2.1 q.2.2.2.2.1 q.2.2.2.2.2) U) ∧ ∀ q ∈ nfM, va_Nw (.methodLinkNest q.1 q.2.1 q.2.2.1 q.2.2.2) U
theorem NF.warm {s U : State} (hW : s.WarmedH U.vm) (h : NF s) : NF U := ⟨fun q hq => va_Nw.warmF hW (h.1 q hq), fun q hq => va_Nw.warmM hW (h.2 q hq)⟩
theorem NF.same {u U : State} (e : u.vm = U.vm) (h : NF u) : NF U := ⟨fun q hq => va_Nw.same rfl e (h.1 q hq), fun q hq => va_Nw.same rfl e (h.2 q hq)⟩
def pcS (dC : Nat → ClassId) (dI : Nat → Nat → Nat) (cI cJ cG cZ : ClassId) (U : State) : Prop := va_K (dC, dI) vCl (tys0 cI cJ cG cZ) U ∧ NF U
def pcR (dC : Nat → ClassId) (dI : Nat → Nat → Nat) (cI cJ cG cZ : ClassId) (ws : va_W) (U : State) : Prop := va_P (dC, dI) vCl ws U.heap ∧ va_K (dC, dI) vCl (tys0 cI cJ cG cZ) U ∧ NF U
def pcW (dC : Nat → ClassId) (dI : Nat → Nat → Nat) (cI cJ cG cZ : ClassId) (sz : Nat) (ws : va_W) (U : State) : Prop := U.heap.size = sz ∧ va_P (dC, dI) vCl ws U.heap ∧ va_K (dC, dI) vCl (tys0 cI cJ cG cZ) U ∧ NF U ∧ va_D (fun _ => True) ws
section
variable {dC : Nat → ClassId} {dI : Nat → Nat → Nat} {cI cJ cG cZ : ClassId} {ws : va_W} {av : List Value} {s : State} {H : Heap}
theorem fb_s : FrameBlind (va_Pc av (pcS dC dI cI cJ cG cZ)) := fun a U g mk q => ⟨q.1, va_K.moved (u := U) (U := U.calling g mk a) (Vm.Alike.refl U.vm) q.2.1, NF.same rfl q.2.2⟩
theorem fb_r : FrameBlind (va_Pc av (pcR dC dI cI cJ cG cZ ws)) := fun a U g mk q => ⟨q.1, q.2.1, va_K.moved (u := U) (U := U.calling g mk a) (Vm.Alike.refl U.vm) q.2.2.1, NF.same rfl q.2.2.2⟩
theorem fb_w {sz : Nat} : FrameBlind (va_Pc av (pcW dC dI cI cJ cG cZ sz ws)) := fun a U g mk q => ⟨q.1, q.2.1, q.2.2.1, va_K.moved (u := U) (U := U.calling g mk a) (Vm.Alike.refl U.vm) q.2.2.2.1, NF.same rfl q.2.2.2.2.1, q.2.2.2.2.2⟩
theorem pre_s (hK : va_K (dC, dI) vCl (tys0 cI cJ cG cZ) s) (hN : NF s) : ∀ U : State, U.heap = H → s.WarmedH U.vm → va_Pc av (pcS dC dI cI cJ cG cZ) av.toArray U := fun _ _ hW => ⟨rfl, va_K.moved hW.alike hK, hN.warm hW⟩
theorem pre_r (hP : va_P (dC, dI) vCl ws H) (hK : va_K (dC, dI) vCl (tys0 cI cJ cG cZ) s) (hN : NF s) : ∀ U : State, U.heap = H → s.WarmedH U.vm → va_Pc av (pcR dC dI cI cJ cG cZ ws) av.toArray U := fun _ hU hW => ⟨rfl, by rw [hU]; exact hP, va_K.moved hW.alike hK, hN.warm hW⟩
theorem pre_w {A : Nat → Prop} (hP : va_P (dC, dI) vCl ws H) (hK : va_K (dC, dI) vCl (tys0 cI cJ cG cZ) s) (hN : NF s) (hD : va_D A ws) : ∀ U : State, U.heap = H → s.WarmedH U.vm → va_Pc av (pcW dC dI cI cJ cG cZ H.size ws) av.toArray U := fun _ hU hW => ⟨rfl, by rw [hU], by rw [hU]; exact hP, va_K.moved hW.alike hK, hN.warm hW, hD.weaken (fun _ _ _ _ => trivial)⟩
end
theorem z_nar {r : Int32} (h : r = 0 ∨ r = 1) : narrow .boolean (.int r) = .int r := by
  rcases h with rfl | rfl <;> rfl
/-! the grid: twelve rows of twelve, at the end of a world -/
def gw (r : Nat → Nat) : Nat → Option Nat := fun i => if i < 12 then some (r i) else none
theorem gw_at {r : Nat → Nat} {i : Int32} (h : vp_in i 12) : va_rf (gw r i.toNatClampNeg) = .ref (r i.toNatClampNeg) := by
  have hl : i.toNatClampNeg < 12 := Nat.not_le.mp fun q => h (Or.inr q)
  unfold gw
  rw [if_pos hl]
  rfl
def rws (r : Nat → Nat) (cI : ClassId) (k : Nat → Nat → Int32) : va_W := [(r 0, .inl (cI, 12, .inl (k 0))), (r 1, .inl (cI, 12, .inl (k 1))), (r 2, .inl (cI, 12, .inl (k 2))), (r 3, .inl (cI, 12, .inl (k 3))), (r 4, .inl (cI, 12, .inl (k 4))), (r 5, .inl (cI, 12, .inl (k 5))), (r 6, .inl (cI, 12, .inl (k 6))), (r 7, .inl (cI, 12, .inl (k 7))), (r 8, .inl (cI, 12, .inl (k 8))), (r 9, .inl (cI, 12, .inl (k 9))), (r 10, .inl (cI, 12, .inl (k 10))), (r 11, .inl (cI, 12, .inl (k 11)))]
def gup (k : Nat → Nat → Int32) (i j : Nat) (x : Int32) : Nat → Nat → Int32 := fun a => if a = i then upd (k a) j x else k a
theorem rws_get {r : Nat → Nat} {cI : ClassId} {k : Nat → Nat → Int32} : ∀ i, i < 12 → (rws r cI k)[i]? = some (r i, .inl (cI, 12, .inl (k i)))
  | 0, _ => rfl
  | 1, _ => rfl
  | 2, _ => rfl
  | 3, _ => rfl
  | 4, _ => rfl
  | 5, _ => rfl
  | 6, _ => rfl
  | 7, _ => rfl
  | 8, _ => rfl
  | 9, _ => rfl
  | 10, _ => rfl
  | 11, _ => rfl
  | n + 12, h => absurd h (by omega)
theorem rws_at {X : va_W} {r : Nat → Nat} {cI : ClassId} {k : Nat → Nat → Int32} {n : Nat} {i : Int32} (hX : X.length = n) (h : vp_in i 12) : (X ++ rws r cI k)[n + i.toNatClampNeg]? = some (r i.toNatClampNeg, .inl (cI, 12, .inl (k i.toNatClampNeg))) := by
  have hl : i.toNatClampNeg < 12 := Nat.not_le.mp fun q => h (Or.inr q)
  subst hX
  rw [List.getElem?_append_right (Nat.le_add_right _ _), Nat.add_sub_cancel_left]
  exact rws_get _ hl
theorem rws_upd {r : Nat → Nat} {cI : ClassId} {k : Nat → Nat → Int32} {j : Nat} {x : Int32} : ∀ i, i < 12 → (rws r cI k).set i (r i, .inl (cI, 12, .inl (upd (k i) j x))) = rws r cI (gup k i j x)
  | 0, _ => rfl
  | 1, _ => rfl
  | 2, _ => rfl
  | 3, _ => rfl
  | 4, _ => rfl
  | 5, _ => rfl
  | 6, _ => rfl
  | 7, _ => rfl
  | 8, _ => rfl
  | 9, _ => rfl
  | 10, _ => rfl
  | 11, _ => rfl
  | n + 12, h => absurd h (by omega)
theorem rws_set {X : va_W} {r : Nat → Nat} {cI : ClassId} {k : Nat → Nat → Int32} {n j : Nat} {i x : Int32} (hX : X.length = n) (h : vp_in i 12) : (X ++ rws r cI k).set (n + i.toNatClampNeg) (r i.toNatClampNeg, .inl (cI, 12, .inl (upd (k i.toNatClampNeg) j x))) = X ++ rws r cI (gup k i.toNatClampNeg j x) := by
  have hl : i.toNatClampNeg < 12 := Nat.not_le.mp fun q => h (Or.inr q)
  subst hX
  rw [List.set_append_right _ _ (Nat.le_add_right _ _), Nat.add_sub_cancel_left, rws_upd _ hl]
theorem rws_setP {D : va_G} {cl : List vw_C} {H : Heap} {X : va_W} {r : Nat → Nat} {cI : ClassId} {k : Nat → Nat → Int32} {n j : Nat} {i x : Int32} (hX : X.length = n) (h : vp_in i 12) (hP : va_P D cl ((X ++ rws r cI k).set (n + i.toNatClampNeg) (r i.toNatClampNeg, .inl (cI, 12, .inl (upd (k i.toNatClampNeg) j x)))) H) : va_P D cl (X ++ rws r cI (gup k i.toNatClampNeg j x)) H := by
  rw [rws_set hX h] at hP
  exact hP
theorem rws_setD {A : Nat → Prop} {X : va_W} {r : Nat → Nat} {cI : ClassId} {k : Nat → Nat → Int32} {n j : Nat} {i x : Int32} (hX : X.length = n) (h : vp_in i 12) (hD : va_D A ((X ++ rws r cI k).set (n + i.toNatClampNeg) (r i.toNatClampNeg, .inl (cI, 12, .inl (upd (k i.toNatClampNeg) j x))))) : va_D A (X ++ rws r cI (gup k i.toNatClampNeg j x)) := by
  rw [rws_set hX h] at hD
  exact hD

theorem nw_74 {s : State} (h : NF s) : va_Nw (.fieldLinkNest "PairChoice$Choice" 44 "PairChoice$Herd" "worths" "[I" "PairChoice") s := h.1 ("PairChoice$Choice", 44, "PairChoice$Herd", "worths", "[I", "PairChoice") (by decide +kernel)
theorem nw_121 {s : State} (h : NF s) : va_Nw (.fieldLinkNest "PairChoice$Choice" 49 "PairChoice$Pairing" "males" "[I" "PairChoice") s := h.1 ("PairChoice$Choice", 49, "PairChoice$Pairing", "males", "[I", "PairChoice") (by decide +kernel)
theorem nw_124 {s : State} (h : NF s) : va_Nw (.fieldLinkNest "PairChoice$Choice" 52 "PairChoice$Pairing" "females" "[I" "PairChoice") s := h.1 ("PairChoice$Choice", 52, "PairChoice$Pairing", "females", "[I", "PairChoice") (by decide +kernel)
theorem nw_359 {s : State} (h : NF s) : va_Nw (.methodLinkNest "PairChoice" 113 ⟨"PairChoice$Choice", "hasPair", "(I)Z"⟩ "PairChoice") s := h.2 ("PairChoice", 113, ⟨"PairChoice$Choice", "hasPair", "(I)Z"⟩, "PairChoice") (by decide +kernel)
theorem nw_169 {s : State} (h : NF s) : va_Nw (.fieldLinkNest "PairChoice" 146 "PairChoice$Choice" "eggShares" "[I" "PairChoice") s := h.1 ("PairChoice", 146, "PairChoice$Choice", "eggShares", "[I", "PairChoice") (by decide +kernel)
theorem nw_233 {s : State} (h : NF s) : va_Nw (.methodLinkNest "PairChoice" 102 ⟨"PairChoice$Choice", "drop", "()V"⟩ "PairChoice") s := h.2 ("PairChoice", 102, ⟨"PairChoice$Choice", "drop", "()V"⟩, "PairChoice") (by decide +kernel)
theorem nw_237 {s : State} (h : NF s) : va_Nw (.methodLinkNest "PairChoice" 186 ⟨"PairChoice$SetList", "forget", "()V"⟩ "PairChoice") s := h.2 ("PairChoice", 186, ⟨"PairChoice$SetList", "forget", "()V"⟩, "PairChoice") (by decide +kernel)
theorem nw_245 {s : State} (h : NF s) : va_Nw (.methodLinkNest "PairChoice$Herd" 42 ⟨"PairChoice", "bit", "(I)I"⟩ "PairChoice") s := h.2 ("PairChoice$Herd", 42, ⟨"PairChoice", "bit", "(I)I"⟩, "PairChoice") (by decide +kernel)
theorem nw_322 {s : State} (h : NF s) : va_Nw (.methodLinkNest "PairChoice$Herd" 46 ⟨"PairChoice", "has", "(II)Z"⟩ "PairChoice") s := h.2 ("PairChoice$Herd", 46, ⟨"PairChoice", "has", "(II)Z"⟩, "PairChoice") (by decide +kernel)
theorem nw_422 {s : State} (h : NF s) : va_Nw (.methodLinkNest "PairChoice$SetList" 73 ⟨"PairChoice", "has", "(II)Z"⟩ "PairChoice") s := h.2 ("PairChoice$SetList", 73, ⟨"PairChoice", "has", "(II)Z"⟩, "PairChoice") (by decide +kernel)
theorem nw_65 {s : State} (h : NF s) : va_Nw (.fieldLinkNest "PairChoice" 47 "PairChoice$Herd" "count" "I" "PairChoice") s := h.1 ("PairChoice", 47, "PairChoice$Herd", "count", "I", "PairChoice") (by decide +kernel)
theorem nw_241 {s : State} (h : NF s) : va_Nw (.methodLinkNest "PairChoice" 54 ⟨"PairChoice$Herd", "add", "(III)I"⟩ "PairChoice") s := h.2 ("PairChoice", 54, ⟨"PairChoice$Herd", "add", "(III)I"⟩, "PairChoice") (by decide +kernel)
theorem nw_252 {s : State} (h : NF s) : va_Nw (.methodLinkNest "PairChoice" 58 ⟨"PairChoice$Herd", "knows", "(I)Z"⟩ "PairChoice") s := h.2 ("PairChoice", 58, ⟨"PairChoice$Herd", "knows", "(I)Z"⟩, "PairChoice") (by decide +kernel)
theorem nw_73 {s : State} (h : NF s) : va_Nw (.fieldLinkNest "PairChoice" 61 "PairChoice$Herd" "worths" "[I" "PairChoice") s := h.1 ("PairChoice", 61, "PairChoice$Herd", "worths", "[I", "PairChoice") (by decide +kernel)
theorem nw_77 {s : State} (h : NF s) : va_Nw (.fieldLinkNest "PairChoice" 65 "PairChoice$Herd" "kinships" "[[I" "PairChoice") s := h.1 ("PairChoice", 65, "PairChoice$Herd", "kinships", "[[I", "PairChoice") (by decide +kernel)
theorem nw_70 {s : State} (h : NF s) : va_Nw (.fieldLinkNest "PairChoice" 69 "PairChoice$Herd" "males" "I" "PairChoice") s := h.1 ("PairChoice", 69, "PairChoice$Herd", "males", "I", "PairChoice") (by decide +kernel)
theorem nw_80 {s : State} (h : NF s) : va_Nw (.fieldLinkNest "PairChoice" 76 "PairChoice$Herd" "barred" "[I" "PairChoice") s := h.1 ("PairChoice", 76, "PairChoice$Herd", "barred", "[I", "PairChoice") (by decide +kernel)
theorem nw_83 {s : State} (h : NF s) : va_Nw (.fieldLinkNest "PairChoice" 83 "PairChoice$Herd" "kinLimit" "I" "PairChoice") s := h.1 ("PairChoice", 83, "PairChoice$Herd", "kinLimit", "I", "PairChoice") (by decide +kernel)
theorem nw_85 {s : State} (h : NF s) : va_Nw (.fieldLinkNest "PairChoice" 86 "PairChoice$Herd" "mostOfFamily" "I" "PairChoice") s := h.1 ("PairChoice", 86, "PairChoice$Herd", "mostOfFamily", "I", "PairChoice") (by decide +kernel)
theorem nw_87 {s : State} (h : NF s) : va_Nw (.fieldLinkNest "PairChoice" 89 "PairChoice$Herd" "leastOfFamily" "[I" "PairChoice") s := h.1 ("PairChoice", 89, "PairChoice$Herd", "leastOfFamily", "[I", "PairChoice") (by decide +kernel)
theorem nw_161 {s : State} (h : NF s) : va_Nw (.fieldLinkNest "PairChoice" 116 "PairChoice$Choice" "pairing" "LPairChoice$Pairing;" "PairChoice") s := h.1 ("PairChoice", 116, "PairChoice$Choice", "pairing", "LPairChoice$Pairing;", "PairChoice") (by decide +kernel)
theorem nw_125 {s : State} (h : NF s) : va_Nw (.fieldLinkNest "PairChoice" 124 "PairChoice$Pairing" "females" "[I" "PairChoice") s := h.1 ("PairChoice", 124, "PairChoice$Pairing", "females", "[I", "PairChoice") (by decide +kernel)
theorem nw_122 {s : State} (h : NF s) : va_Nw (.fieldLinkNest "PairChoice" 120 "PairChoice$Pairing" "males" "[I" "PairChoice") s := h.1 ("PairChoice", 120, "PairChoice$Pairing", "males", "[I", "PairChoice") (by decide +kernel)
theorem nw_163 {s : State} (h : NF s) : va_Nw (.fieldLinkNest "PairChoice" 127 "PairChoice$Choice" "pairs" "I" "PairChoice") s := h.1 ("PairChoice", 127, "PairChoice$Choice", "pairs", "I", "PairChoice") (by decide +kernel)
theorem nw_165 {s : State} (h : NF s) : va_Nw (.fieldLinkNest "PairChoice" 130 "PairChoice$Choice" "set" "I" "PairChoice") s := h.1 ("PairChoice", 130, "PairChoice$Choice", "set", "I", "PairChoice") (by decide +kernel)
theorem nw_367 {s : State} (h : NF s) : va_Nw (.methodLinkNest "PairChoice" 133 ⟨"PairChoice$Herd", "worthSum", "(I)I"⟩ "PairChoice") s := h.2 ("PairChoice", 133, ⟨"PairChoice$Herd", "worthSum", "(I)I"⟩, "PairChoice") (by decide +kernel)
theorem nw_368 {s : State} (h : NF s) : va_Nw (.methodLinkNest "PairChoice" 136 ⟨"PairChoice$Herd", "kinSum", "(I)I"⟩ "PairChoice") s := h.2 ("PairChoice", 136, ⟨"PairChoice$Herd", "kinSum", "(I)I"⟩, "PairChoice") (by decide +kernel)
theorem nw_167 {s : State} (h : NF s) : va_Nw (.fieldLinkNest "PairChoice" 139 "PairChoice$Choice" "setsThatMayBe" "I" "PairChoice") s := h.1 ("PairChoice", 139, "PairChoice$Choice", "setsThatMayBe", "I", "PairChoice") (by decide +kernel)
theorem nw_194 {s : State} (h : NF s) : va_Nw (.fieldLinkNest "PairChoice" 157 "PairChoice$Outlook" "years" "I" "PairChoice") s := h.1 ("PairChoice", 157, "PairChoice$Outlook", "years", "I", "PairChoice") (by decide +kernel)
theorem nw_196 {s : State} (h : NF s) : va_Nw (.fieldLinkNest "PairChoice" 180 "PairChoice$Outlook" "alive" "[I" "PairChoice") s := h.1 ("PairChoice", 180, "PairChoice$Outlook", "alive", "[I", "PairChoice") (by decide +kernel)
theorem nw_198 {s : State} (h : NF s) : va_Nw (.fieldLinkNest "PairChoice" 183 "PairChoice$Outlook" "bestSums" "[I" "PairChoice") s := h.1 ("PairChoice", 183, "PairChoice$Outlook", "bestSums", "[I", "PairChoice") (by decide +kernel)
theorem nw_71 {s : State} (h : NF s) : va_Nw (.fieldLinkNest "PairChoice$Choice" 78 "PairChoice$Herd" "males" "I" "PairChoice") s := h.1 ("PairChoice$Choice", 78, "PairChoice$Herd", "males", "I", "PairChoice") (by decide +kernel)
theorem nw_410 {s : State} (h : NF s) : va_Nw (.methodLinkNest "PairChoice$Choice" 80 ⟨"PairChoice", "has", "(II)Z"⟩ "PairChoice") s := h.2 ("PairChoice$Choice", 80, ⟨"PairChoice", "has", "(II)Z"⟩, "PairChoice") (by decide +kernel)
theorem nw_81 {s : State} (h : NF s) : va_Nw (.fieldLinkNest "PairChoice$Choice" 84 "PairChoice$Herd" "barred" "[I" "PairChoice") s := h.1 ("PairChoice$Choice", 84, "PairChoice$Herd", "barred", "[I", "PairChoice") (by decide +kernel)
theorem nw_411 {s : State} (h : NF s) : va_Nw (.methodLinkNest "PairChoice$Choice" 87 ⟨"PairChoice", "bit", "(I)I"⟩ "PairChoice") s := h.2 ("PairChoice$Choice", 87, ⟨"PairChoice", "bit", "(I)I"⟩, "PairChoice") (by decide +kernel)
theorem nw_412 {s : State} (h : NF s) : va_Nw (.methodLinkNest "PairChoice$Choice" 90 ⟨"PairChoice$Herd", "keepsRules", "(II)Z"⟩ "PairChoice") s := h.2 ("PairChoice$Choice", 90, ⟨"PairChoice$Herd", "keepsRules", "(II)Z"⟩, "PairChoice") (by decide +kernel)
theorem nw_331 {s : State} (h : NF s) : va_Nw (.methodLinkNest "PairChoice$Pairing" 27 ⟨"PairChoice", "leastOf", "(I)I"⟩ "PairChoice") s := h.2 ("PairChoice$Pairing", 27, ⟨"PairChoice", "leastOf", "(I)I"⟩, "PairChoice") (by decide +kernel)
theorem nw_335 {s : State} (h : NF s) : va_Nw (.methodLinkNest "PairChoice$Pairing" 31 ⟨"PairChoice$Herd", "knows", "(I)Z"⟩ "PairChoice") s := h.2 ("PairChoice$Pairing", 31, ⟨"PairChoice$Herd", "knows", "(I)Z"⟩, "PairChoice") (by decide +kernel)
theorem nw_79 {s : State} (h : NF s) : va_Nw (.fieldLinkNest "PairChoice$Pairing" 35 "PairChoice$Herd" "barred" "[I" "PairChoice") s := h.1 ("PairChoice$Pairing", 35, "PairChoice$Herd", "barred", "[I", "PairChoice") (by decide +kernel)
theorem nw_66 {s : State} (h : NF s) : va_Nw (.fieldLinkNest "PairChoice$Pairing" 38 "PairChoice$Herd" "count" "I" "PairChoice") s := h.1 ("PairChoice$Pairing", 38, "PairChoice$Herd", "count", "I", "PairChoice") (by decide +kernel)
theorem nw_336 {s : State} (h : NF s) : va_Nw (.methodLinkNest "PairChoice$Pairing" 41 ⟨"PairChoice", "has", "(II)Z"⟩ "PairChoice") s := h.2 ("PairChoice$Pairing", 41, ⟨"PairChoice", "has", "(II)Z"⟩, "PairChoice") (by decide +kernel)
theorem nw_337 {s : State} (h : NF s) : va_Nw (.methodLinkNest "PairChoice$Pairing" 45 ⟨"PairChoice", "bit", "(I)I"⟩ "PairChoice") s := h.2 ("PairChoice$Pairing", 45, ⟨"PairChoice", "bit", "(I)I"⟩, "PairChoice") (by decide +kernel)
theorem nw_374 {s : State} (h : NF s) : va_Nw (.methodLinkNest "PairChoice" 143 ⟨"PairChoice$Choice", "shareOut", "(I)V"⟩ "PairChoice") s := h.2 ("PairChoice", 143, ⟨"PairChoice$Choice", "shareOut", "(I)V"⟩, "PairChoice") (by decide +kernel)
theorem nw_406 {s : State} (h : NF s) : va_Nw (.methodLinkNest "PairChoice" 149 ⟨"PairChoice$Choice", "couldStandIn", "(II)Z"⟩ "PairChoice") s := h.2 ("PairChoice", 149, ⟨"PairChoice$Choice", "couldStandIn", "(II)Z"⟩, "PairChoice") (by decide +kernel)
theorem nw_68 {s : State} (h : NF s) : va_Nw (.fieldLinkNest "PairChoice$Pairing" 18 "PairChoice$Herd" "males" "I" "PairChoice") s := h.1 ("PairChoice$Pairing", 18, "PairChoice$Herd", "males", "I", "PairChoice") (by decide +kernel)
theorem nw_309 {s : State} (h : NF s) : va_Nw (.methodLinkNest "PairChoice$SetList" 58 ⟨"PairChoice$Herd", "keepsRules", "(II)Z"⟩ "PairChoice") s := h.2 ("PairChoice$SetList", 58, ⟨"PairChoice$Herd", "keepsRules", "(II)Z"⟩, "PairChoice") (by decide +kernel)
theorem nw_323 {s : State} (h : NF s) : va_Nw (.methodLinkNest "PairChoice$SetList" 62 ⟨"PairChoice$Pairing", "pairSet", "(LPairChoice$Herd;I)Z"⟩ "PairChoice") s := h.2 ("PairChoice$SetList", 62, ⟨"PairChoice$Pairing", "pairSet", "(LPairChoice$Herd;I)Z"⟩, "PairChoice") (by decide +kernel)
theorem nw_338 {s : State} (h : NF s) : va_Nw (.methodLinkNest "PairChoice$SetList" 66 ⟨"PairChoice$Herd", "worthSum", "(I)I"⟩ "PairChoice") s := h.2 ("PairChoice$SetList", 66, ⟨"PairChoice$Herd", "worthSum", "(I)I"⟩, "PairChoice") (by decide +kernel)
theorem nw_354 {s : State} (h : NF s) : va_Nw (.methodLinkNest "PairChoice$Choice" 40 ⟨"PairChoice$Pairing", "pairSet", "(LPairChoice$Herd;I)Z"⟩ "PairChoice") s := h.2 ("PairChoice$Choice", 40, ⟨"PairChoice$Pairing", "pairSet", "(LPairChoice$Herd;I)Z"⟩, "PairChoice") (by decide +kernel)
theorem nw_301 {s : State} (h : NF s) : va_Nw (.methodLinkNest "PairChoice$SetList" 51 ⟨"PairChoice$Herd", "all", "()I"⟩ "PairChoice") s := h.2 ("PairChoice$SetList", 51, ⟨"PairChoice$Herd", "all", "()I"⟩, "PairChoice") (by decide +kernel)
theorem nw_69 {s : State} (h : NF s) : va_Nw (.fieldLinkNest "PairChoice$SetList" 36 "PairChoice$Herd" "males" "I" "PairChoice") s := h.1 ("PairChoice$SetList", 36, "PairChoice$Herd", "males", "I", "PairChoice") (by decide +kernel)
theorem nw_287 {s : State} (h : NF s) : va_Nw (.methodLinkNest "PairChoice" 95 ⟨"PairChoice$SetList", "listAll", "(I)V"⟩ "PairChoice") s := h.2 ("PairChoice", 95, ⟨"PairChoice$SetList", "listAll", "(I)V"⟩, "PairChoice") (by decide +kernel)
theorem nw_136 {s : State} (h : NF s) : va_Nw (.fieldLinkNest "PairChoice" 99 "PairChoice$SetList" "size" "I" "PairChoice") s := h.1 ("PairChoice", 99, "PairChoice$SetList", "size", "I", "PairChoice") (by decide +kernel)
theorem nw_342 {s : State} (h : NF s) : va_Nw (.methodLinkNest "PairChoice" 105 ⟨"PairChoice$SetList", "best", "()I"⟩ "PairChoice") s := h.2 ("PairChoice", 105, ⟨"PairChoice$SetList", "best", "()I"⟩, "PairChoice") (by decide +kernel)
theorem nw_350 {s : State} (h : NF s) : va_Nw (.methodLinkNest "PairChoice" 109 ⟨"PairChoice$Choice", "take", "(III)V"⟩ "PairChoice") s := h.2 ("PairChoice", 109, ⟨"PairChoice$Choice", "take", "(III)V"⟩, "PairChoice") (by decide +kernel)
theorem nw_418 {s : State} (h : NF s) : va_Nw (.methodLinkNest "PairChoice" 153 ⟨"PairChoice$SetList", "greatestSumWith", "(II)I"⟩ "PairChoice") s := h.2 ("PairChoice", 153, ⟨"PairChoice$SetList", "greatestSumWith", "(II)I"⟩, "PairChoice") (by decide +kernel)
theorem nw_430 {s : State} (h : NF s) : va_Nw (.methodLinkNest "PairChoice" 160 ⟨"PairChoice$Herd", "all", "()I"⟩ "PairChoice") s := h.2 ("PairChoice", 160, ⟨"PairChoice$Herd", "all", "()I"⟩, "PairChoice") (by decide +kernel)
theorem nw_441 {s : State} (h : NF s) : va_Nw (.methodLinkNest "PairChoice" 174 ⟨"PairChoice$SetList", "greatestSumAmong", "(I)I"⟩ "PairChoice") s := h.2 ("PairChoice", 174, ⟨"PairChoice$SetList", "greatestSumAmong", "(I)I"⟩, "PairChoice") (by decide +kernel)
theorem nw_445 {s : State} (h : NF s) : va_Nw (.methodLinkNest "PairChoice" 177 ⟨"PairChoice$Outlook", "note", "(III)V"⟩ "PairChoice") s := h.2 ("PairChoice", 177, ⟨"PairChoice$Outlook", "note", "(III)V"⟩, "PairChoice") (by decide +kernel)
