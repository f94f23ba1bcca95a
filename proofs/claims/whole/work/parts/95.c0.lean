/-! constructors -/
theorem va_AOA.alike {t : FieldType} {s U : State} (h : s.vm.Alike U.vm) (q : va_AOA t s) : va_AOA t U := by
  have e := Cond.arrayOver_setVmC (args := #[]) h (.array t)
  unfold va_AOA at q ⊢
  rw [← e] at q
  simp only [Cond.before, Cond.holds, Cond.value, State.vm_setVm] at q ⊢
  exact q
def pcN (dC : Nat → ClassId) (dI : Nat → Nat → Nat) (cI cJ cG cZ : ClassId) (sz : Nat) (ws : va_W) (U : State) : Prop := pcW dC dI cI cJ cG cZ sz ws U ∧ va_AOA .int U
section
variable {dC : Nat → ClassId} {dI : Nat → Nat → Nat} {cI cJ cG cZ cA : ClassId} {ws : va_W} {av : List Value} {s : State} {H : Heap}
theorem fb_n {sz : Nat} : FrameBlind (va_Pc av (pcN dC dI cI cJ cG cZ sz ws)) := fun a U g mk q => ⟨q.1, (fb_w a U g mk ⟨q.1, q.2.1⟩).2, va_AOA.alike (U := U.calling g mk a) (Vm.Alike.refl U.vm) q.2.2⟩
theorem pre_n {A : Nat → Prop} (hP : va_P (dC, dI) vCl ws H) (hK : va_K (dC, dI) vCl (tys0 cI cJ cG cZ) s) (hN : NF s) (hD : va_D A ws) (hO : va_AOA .int s) : ∀ U : State, U.heap = H → s.WarmedH U.vm → va_Pc av (pcN dC dI cI cJ cG cZ H.size ws) av.toArray U := fun U hU hW => ⟨rfl, (pre_w (av := av) hP hK hN hD U hU hW).2, va_AOA.alike hW.alike hO⟩
theorem ca_i (hK : va_K (dC, dI) vCl (tys0 cI cJ cG cZ) s) (h : va_K (dC, dI) vCl (tys0 cI cJ cG cZ ++ [(cA, .int)]) s) : cI = cA := by
  have a : s.vm.findClass ("[" ++ FieldType.int.toString) = some cI := (hK.2 0 _ rfl).2
  have b : s.vm.findClass ("[" ++ FieldType.int.toString) = some cA := (h.2 4 _ rfl).2
  exact Option.some.inj (a.symm.trans b)
theorem ca_j (hK : va_K (dC, dI) vCl (tys0 cI cJ cG cZ) s) (h : va_K (dC, dI) vCl (tys0 cI cJ cG cZ ++ [(cA, .long)]) s) : cJ = cA := by
  have a : s.vm.findClass ("[" ++ FieldType.long.toString) = some cJ := (hK.2 1 _ rfl).2
  have b : s.vm.findClass ("[" ++ FieldType.long.toString) = some cA := (h.2 4 _ rfl).2
  exact Option.some.inj (a.symm.trans b)
theorem ca_g (hK : va_K (dC, dI) vCl (tys0 cI cJ cG cZ) s) (h : va_K (dC, dI) vCl (tys0 cI cJ cG cZ ++ [(cA, .array .int)]) s) : cG = cA := by
  have a : s.vm.findClass ("[" ++ (FieldType.array .int).toString) = some cG := (hK.2 2 _ rfl).2
  have b : s.vm.findClass ("[" ++ (FieldType.array .int).toString) = some cA := (h.2 4 _ rfl).2
  exact Option.some.inj (a.symm.trans b)
theorem ca_z (hK : va_K (dC, dI) vCl (tys0 cI cJ cG cZ) s) (h : va_K (dC, dI) vCl (tys0 cI cJ cG cZ ++ [(cA, .boolean)]) s) : cZ = cA := by
  have a : s.vm.findClass ("[" ++ FieldType.boolean.toString) = some cZ := (hK.2 3 _ rfl).2
  have b : s.vm.findClass ("[" ++ FieldType.boolean.toString) = some cA := (h.2 4 _ rfl).2
  exact Option.some.inj (a.symm.trans b)
end
theorem grid_rows {r : Nat → Nat} {f : Nat → va_E} {cI : ClassId} : va_pl ([] ++ (List.range 12).map r) (vr_up f ((List.range 12).map r) (.inl (cI, 12, .inl (fun _ => 0)))) = rws r cI (fun _ _ => 0) := by
  have e : va_pl ([] ++ (List.range 12).map r) (vr_up f ((List.range 12).map r) (.inl (cI, 12, .inl (fun _ => 0)))) = ((List.range 12).map r).map (fun a => ((a, .inl (cI, 12, .inl (fun _ => 0))) : Nat × va_E)) := by
    rw [List.nil_append]
    unfold va_pl
    refine List.map_congr_left (fun a ha => ?_)
    rw [vr_up_in ha]
  rw [e]
  rfl
theorem kw_53 : (.methodLink "PairChoice" 1 ⟨"java/lang/Object", "<init>", "()V"⟩ : Cond) ∈ wAl := wAl_of (List.mem_of_getElem? (i := 53) (by decide +kernel)) (by decide +kernel)
theorem kw_54 : (.instanceMethod ⟨"java/lang/Object", "<init>", "()V"⟩ : Cond) ∈ wAl := wAl_of (List.mem_of_getElem? (i := 54) (by decide +kernel)) (by decide +kernel)
theorem kw_55 : (.code ⟨"java/lang/Object", "<init>", "()V"⟩ object_method_1_code 1 none : Cond) ∈ wAl := wAl_of (List.mem_of_getElem? (i := 55) (by decide +kernel)) (by decide +kernel)
theorem kw_56 : (.classLink "PairChoice" 7 "PairChoice$Herd" : Cond) ∈ wAl := wAl_of (List.mem_of_getElem? (i := 56) (by decide +kernel)) (by decide +kernel)
theorem kw_57 : (.instantiable "PairChoice$Herd" 9 : Cond) ∈ wAl := wAl_of (List.mem_of_getElem? (i := 57) (by decide +kernel)) (by decide +kernel)
theorem kw_59 : (.instanceMethod ⟨"PairChoice$Herd", "<init>", "()V"⟩ : Cond) ∈ wAl := wAl_of (List.mem_of_getElem? (i := 59) (by decide +kernel)) (by decide +kernel)
theorem kw_60 : (.code ⟨"PairChoice$Herd", "<init>", "()V"⟩ prog_3_method_1_code 1 none : Cond) ∈ wAl := wAl_of (List.mem_of_getElem? (i := 60) (by decide +kernel)) (by decide +kernel)
theorem kw_61 : (.methodLink "PairChoice$Herd" 3 ⟨"java/lang/Object", "<init>", "()V"⟩ : Cond) ∈ wAl := wAl_of (List.mem_of_getElem? (i := 61) (by decide +kernel)) (by decide +kernel)
theorem kw_62 : (.classLink "PairChoice$Herd" 25 "[[I" : Cond) ∈ wAl := wAl_of (List.mem_of_getElem? (i := 62) (by decide +kernel)) (by decide +kernel)
theorem kw_78 : (.fieldLink "PairChoice$Herd" 30 "PairChoice$Herd" "barred" "[I" : Cond) ∈ wAl := wAl_of (List.mem_of_getElem? (i := 78) (by decide +kernel)) (by decide +kernel)
theorem kw_107 : (.arrayClass .int : Cond) ∈ wAl := wAl_of (List.mem_of_getElem? (i := 107) (by decide +kernel)) (by decide +kernel)
theorem kw_108 : (.classLink "PairChoice" 16 "PairChoice$SetList" : Cond) ∈ wAl := wAl_of (List.mem_of_getElem? (i := 108) (by decide +kernel)) (by decide +kernel)
theorem kw_109 : (.instantiable "PairChoice$SetList" 6 : Cond) ∈ wAl := wAl_of (List.mem_of_getElem? (i := 109) (by decide +kernel)) (by decide +kernel)
theorem kw_111 : (.instanceMethod ⟨"PairChoice$SetList", "<init>", "(LPairChoice$Herd;)V"⟩ : Cond) ∈ wAl := wAl_of (List.mem_of_getElem? (i := 111) (by decide +kernel)) (by decide +kernel)
theorem kw_112 : (.code ⟨"PairChoice$SetList", "<init>", "(LPairChoice$Herd;)V"⟩ prog_6_method_1_code 2 none : Cond) ∈ wAl := wAl_of (List.mem_of_getElem? (i := 112) (by decide +kernel)) (by decide +kernel)
theorem kw_113 : (.methodLink "PairChoice$SetList" 3 ⟨"java/lang/Object", "<init>", "()V"⟩ : Cond) ∈ wAl := wAl_of (List.mem_of_getElem? (i := 113) (by decide +kernel)) (by decide +kernel)
theorem kw_114 : (.classLink "PairChoice$SetList" 9 "PairChoice$Pairing" : Cond) ∈ wAl := wAl_of (List.mem_of_getElem? (i := 114) (by decide +kernel)) (by decide +kernel)
theorem kw_115 : (.instantiable "PairChoice$Pairing" 2 : Cond) ∈ wAl := wAl_of (List.mem_of_getElem? (i := 115) (by decide +kernel)) (by decide +kernel)
theorem kw_117 : (.instanceMethod ⟨"PairChoice$Pairing", "<init>", "()V"⟩ : Cond) ∈ wAl := wAl_of (List.mem_of_getElem? (i := 117) (by decide +kernel)) (by decide +kernel)
theorem kw_118 : (.code ⟨"PairChoice$Pairing", "<init>", "()V"⟩ prog_5_method_1_code 1 none : Cond) ∈ wAl := wAl_of (List.mem_of_getElem? (i := 118) (by decide +kernel)) (by decide +kernel)
theorem kw_119 : (.methodLink "PairChoice$Pairing" 3 ⟨"java/lang/Object", "<init>", "()V"⟩ : Cond) ∈ wAl := wAl_of (List.mem_of_getElem? (i := 119) (by decide +kernel)) (by decide +kernel)
theorem kw_151 : (.classLink "PairChoice" 25 "PairChoice$Choice" : Cond) ∈ wAl := wAl_of (List.mem_of_getElem? (i := 151) (by decide +kernel)) (by decide +kernel)
theorem kw_152 : (.instantiable "PairChoice$Choice" 7 : Cond) ∈ wAl := wAl_of (List.mem_of_getElem? (i := 152) (by decide +kernel)) (by decide +kernel)
theorem kw_154 : (.instanceMethod ⟨"PairChoice$Choice", "<init>", "(LPairChoice$Herd;)V"⟩ : Cond) ∈ wAl := wAl_of (List.mem_of_getElem? (i := 154) (by decide +kernel)) (by decide +kernel)
theorem kw_155 : (.code ⟨"PairChoice$Choice", "<init>", "(LPairChoice$Herd;)V"⟩ prog_2_method_1_code 2 none : Cond) ∈ wAl := wAl_of (List.mem_of_getElem? (i := 155) (by decide +kernel)) (by decide +kernel)
theorem kw_156 : (.methodLink "PairChoice$Choice" 3 ⟨"java/lang/Object", "<init>", "()V"⟩ : Cond) ∈ wAl := wAl_of (List.mem_of_getElem? (i := 156) (by decide +kernel)) (by decide +kernel)
theorem kw_157 : (.classLink "PairChoice$Choice" 9 "PairChoice$Pairing" : Cond) ∈ wAl := wAl_of (List.mem_of_getElem? (i := 157) (by decide +kernel)) (by decide +kernel)
theorem kw_186 : (.arrayClass .long : Cond) ∈ wAl := wAl_of (List.mem_of_getElem? (i := 186) (by decide +kernel)) (by decide +kernel)
theorem kw_187 : (.classLink "PairChoice" 32 "PairChoice$Outlook" : Cond) ∈ wAl := wAl_of (List.mem_of_getElem? (i := 187) (by decide +kernel)) (by decide +kernel)
theorem kw_188 : (.instantiable "PairChoice$Outlook" 3 : Cond) ∈ wAl := wAl_of (List.mem_of_getElem? (i := 188) (by decide +kernel)) (by decide +kernel)
theorem kw_190 : (.instanceMethod ⟨"PairChoice$Outlook", "<init>", "()V"⟩ : Cond) ∈ wAl := wAl_of (List.mem_of_getElem? (i := 190) (by decide +kernel)) (by decide +kernel)
theorem kw_191 : (.code ⟨"PairChoice$Outlook", "<init>", "()V"⟩ prog_4_method_1_code 1 none : Cond) ∈ wAl := wAl_of (List.mem_of_getElem? (i := 191) (by decide +kernel)) (by decide +kernel)
theorem kw_192 : (.methodLink "PairChoice$Outlook" 3 ⟨"java/lang/Object", "<init>", "()V"⟩ : Cond) ∈ wAl := wAl_of (List.mem_of_getElem? (i := 192) (by decide +kernel)) (by decide +kernel)
theorem kw_193 : (.fieldLink "PairChoice$Outlook" 9 "PairChoice$Outlook" "years" "I" : Cond) ∈ wAl := wAl_of (List.mem_of_getElem? (i := 193) (by decide +kernel)) (by decide +kernel)
theorem kw_458 : (.methodLink "PairChoiceModel" 1 ⟨"java/lang/Object", "<init>", "()V"⟩ : Cond) ∈ wAl := wAl_of (List.mem_of_getElem? (i := 458) (by decide +kernel)) (by decide +kernel)
theorem kw_553 : (.arrayClass .boolean : Cond) ∈ wAl := wAl_of (List.mem_of_getElem? (i := 553) (by decide +kernel)) (by decide +kernel)
theorem nw_116 {s : State} (h : NF s) : va_Nw (.methodLinkNest "PairChoice$SetList" 11 ⟨"PairChoice$Pairing", "<init>", "()V"⟩ "PairChoice") s := h.2 ("PairChoice$SetList", 11, ⟨"PairChoice$Pairing", "<init>", "()V"⟩, "PairChoice") (by decide +kernel)
theorem nw_158 {s : State} (h : NF s) : va_Nw (.methodLinkNest "PairChoice$Choice" 11 ⟨"PairChoice$Pairing", "<init>", "()V"⟩ "PairChoice") s := h.2 ("PairChoice$Choice", 11, ⟨"PairChoice$Pairing", "<init>", "()V"⟩, "PairChoice") (by decide +kernel)
theorem nw_58 {s : State} (h : NF s) : va_Nw (.methodLinkNest "PairChoice" 9 ⟨"PairChoice$Herd", "<init>", "()V"⟩ "PairChoice") s := h.2 ("PairChoice", 9, ⟨"PairChoice$Herd", "<init>", "()V"⟩, "PairChoice") (by decide +kernel)
theorem nw_110 {s : State} (h : NF s) : va_Nw (.methodLinkNest "PairChoice" 18 ⟨"PairChoice$SetList", "<init>", "(LPairChoice$Herd;)V"⟩ "PairChoice") s := h.2 ("PairChoice", 18, ⟨"PairChoice$SetList", "<init>", "(LPairChoice$Herd;)V"⟩, "PairChoice") (by decide +kernel)
theorem nw_153 {s : State} (h : NF s) : va_Nw (.methodLinkNest "PairChoice" 27 ⟨"PairChoice$Choice", "<init>", "(LPairChoice$Herd;)V"⟩ "PairChoice") s := h.2 ("PairChoice", 27, ⟨"PairChoice$Choice", "<init>", "(LPairChoice$Herd;)V"⟩, "PairChoice") (by decide +kernel)
theorem nw_189 {s : State} (h : NF s) : va_Nw (.methodLinkNest "PairChoice" 34 ⟨"PairChoice$Outlook", "<init>", "()V"⟩ "PairChoice") s := h.2 ("PairChoice", 34, ⟨"PairChoice$Outlook", "<init>", "()V"⟩, "PairChoice") (by decide +kernel)
