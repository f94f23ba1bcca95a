section
-- ===== PART A: goes FIRST, ahead of the names: the tables' words, and 'selects' of the private methods out of them =====
/-- a private method of a class that the tables say can be made, by its rows of tables_1 -/
def lw_okq (q : MethodName × Nat) : Prop := (q.1.cls ≠ "java/lang/invoke/MethodHandle" ∧ q.1.cls ≠ "java/lang/invoke/VarHandle") ∧ Cond.instantiable q.1.cls q.2 ∈ tables_1 ∧ Cond.privateMethod q.1 ∈ tables_1 ∧ Cond.instanceMethod q.1 ∈ tables_1
theorem lw_p0 : lw_okq (⟨"PairChoice", "forgetFindings", "()V"⟩, 4) := ⟨⟨by decide +kernel, by decide +kernel⟩, List.mem_of_getElem? (i := 11) (by decide +kernel), List.mem_of_getElem? (i := 192) (by decide +kernel), List.mem_of_getElem? (i := 193) (by decide +kernel)⟩
theorem lw_p1 : lw_okq (⟨"PairChoice$Choice", "drop", "()V"⟩, 7) := ⟨⟨by decide +kernel, by decide +kernel⟩, List.mem_of_getElem? (i := 114) (by decide +kernel), List.mem_of_getElem? (i := 196) (by decide +kernel), List.mem_of_getElem? (i := 197) (by decide +kernel)⟩
theorem lw_p2 : lw_okq (⟨"PairChoice$SetList", "forget", "()V"⟩, 6) := ⟨⟨by decide +kernel, by decide +kernel⟩, List.mem_of_getElem? (i := 71) (by decide +kernel), List.mem_of_getElem? (i := 200) (by decide +kernel), List.mem_of_getElem? (i := 201) (by decide +kernel)⟩
theorem lw_p3 : lw_okq (⟨"PairChoice$Herd", "add", "(III)I"⟩, 9) := ⟨⟨by decide +kernel, by decide +kernel⟩, List.mem_of_getElem? (i := 19) (by decide +kernel), List.mem_of_getElem? (i := 204) (by decide +kernel), List.mem_of_getElem? (i := 205) (by decide +kernel)⟩
theorem lw_p4 : lw_okq (⟨"PairChoice$Herd", "knows", "(I)Z"⟩, 9) := ⟨⟨by decide +kernel, by decide +kernel⟩, List.mem_of_getElem? (i := 19) (by decide +kernel), List.mem_of_getElem? (i := 215) (by decide +kernel), List.mem_of_getElem? (i := 216) (by decide +kernel)⟩
theorem lw_p5 : lw_okq (⟨"PairChoice$SetList", "listAll", "(I)V"⟩, 6) := ⟨⟨by decide +kernel, by decide +kernel⟩, List.mem_of_getElem? (i := 71) (by decide +kernel), List.mem_of_getElem? (i := 250) (by decide +kernel), List.mem_of_getElem? (i := 251) (by decide +kernel)⟩
theorem lw_p6 : lw_okq (⟨"PairChoice$SetList", "listWithMales", "(I)V"⟩, 6) := ⟨⟨by decide +kernel, by decide +kernel⟩, List.mem_of_getElem? (i := 71) (by decide +kernel), List.mem_of_getElem? (i := 260) (by decide +kernel), List.mem_of_getElem? (i := 261) (by decide +kernel)⟩
theorem lw_p7 : lw_okq (⟨"PairChoice$Herd", "all", "()I"⟩, 9) := ⟨⟨by decide +kernel, by decide +kernel⟩, List.mem_of_getElem? (i := 19) (by decide +kernel), List.mem_of_getElem? (i := 264) (by decide +kernel), List.mem_of_getElem? (i := 265) (by decide +kernel)⟩
theorem lw_p8 : lw_okq (⟨"PairChoice$SetList", "listIfItMayBe", "(I)V"⟩, 6) := ⟨⟨by decide +kernel, by decide +kernel⟩, List.mem_of_getElem? (i := 71) (by decide +kernel), List.mem_of_getElem? (i := 268) (by decide +kernel), List.mem_of_getElem? (i := 269) (by decide +kernel)⟩
theorem lw_p9 : lw_okq (⟨"PairChoice$Herd", "keepsRules", "(II)Z"⟩, 9) := ⟨⟨by decide +kernel, by decide +kernel⟩, List.mem_of_getElem? (i := 19) (by decide +kernel), List.mem_of_getElem? (i := 272) (by decide +kernel), List.mem_of_getElem? (i := 273) (by decide +kernel)⟩
theorem lw_p10 : lw_okq (⟨"PairChoice$Herd", "keepsFamilies", "(I)Z"⟩, 9) := ⟨⟨by decide +kernel, by decide +kernel⟩, List.mem_of_getElem? (i := 19) (by decide +kernel), List.mem_of_getElem? (i := 276) (by decide +kernel), List.mem_of_getElem? (i := 277) (by decide +kernel)⟩
theorem lw_p11 : lw_okq (⟨"PairChoice$Herd", "kinSum", "(I)I"⟩, 9) := ⟨⟨by decide +kernel, by decide +kernel⟩, List.mem_of_getElem? (i := 19) (by decide +kernel), List.mem_of_getElem? (i := 281) (by decide +kernel), List.mem_of_getElem? (i := 282) (by decide +kernel)⟩
theorem lw_p12 : lw_okq (⟨"PairChoice$Pairing", "pairSet", "(LPairChoice$Herd;I)Z"⟩, 2) := ⟨⟨by decide +kernel, by decide +kernel⟩, List.mem_of_getElem? (i := 77) (by decide +kernel), List.mem_of_getElem? (i := 286) (by decide +kernel), List.mem_of_getElem? (i := 287) (by decide +kernel)⟩
theorem lw_p13 : lw_okq (⟨"PairChoice$Pairing", "pairFrom", "(ILPairChoice$Herd;II)Z"⟩, 2) := ⟨⟨by decide +kernel, by decide +kernel⟩, List.mem_of_getElem? (i := 77) (by decide +kernel), List.mem_of_getElem? (i := 290) (by decide +kernel), List.mem_of_getElem? (i := 291) (by decide +kernel)⟩
theorem lw_p14 : lw_okq (⟨"PairChoice$Herd", "worthSum", "(I)I"⟩, 9) := ⟨⟨by decide +kernel, by decide +kernel⟩, List.mem_of_getElem? (i := 19) (by decide +kernel), List.mem_of_getElem? (i := 301) (by decide +kernel), List.mem_of_getElem? (i := 302) (by decide +kernel)⟩
theorem lw_p15 : lw_okq (⟨"PairChoice$SetList", "best", "()I"⟩, 6) := ⟨⟨by decide +kernel, by decide +kernel⟩, List.mem_of_getElem? (i := 71) (by decide +kernel), List.mem_of_getElem? (i := 305) (by decide +kernel), List.mem_of_getElem? (i := 306) (by decide +kernel)⟩
def lw_privs_1 : List (MethodName × Nat) := [(⟨"PairChoice", "forgetFindings", "()V"⟩, 4), (⟨"PairChoice$Choice", "drop", "()V"⟩, 7), (⟨"PairChoice$SetList", "forget", "()V"⟩, 6), (⟨"PairChoice$Herd", "add", "(III)I"⟩, 9), (⟨"PairChoice$Herd", "knows", "(I)Z"⟩, 9), (⟨"PairChoice$SetList", "listAll", "(I)V"⟩, 6), (⟨"PairChoice$SetList", "listWithMales", "(I)V"⟩, 6), (⟨"PairChoice$Herd", "all", "()I"⟩, 9), (⟨"PairChoice$SetList", "listIfItMayBe", "(I)V"⟩, 6), (⟨"PairChoice$Herd", "keepsRules", "(II)Z"⟩, 9), (⟨"PairChoice$Herd", "keepsFamilies", "(I)Z"⟩, 9), (⟨"PairChoice$Herd", "kinSum", "(I)I"⟩, 9), (⟨"PairChoice$Pairing", "pairSet", "(LPairChoice$Herd;I)Z"⟩, 2), (⟨"PairChoice$Pairing", "pairFrom", "(ILPairChoice$Herd;II)Z"⟩, 2), (⟨"PairChoice$Herd", "worthSum", "(I)I"⟩, 9), (⟨"PairChoice$SetList", "best", "()I"⟩, 6)]
theorem lw_r1 : ∀ q ∈ lw_privs_1, lw_okq q := List.forall_mem_cons.mpr ⟨lw_p0, List.forall_mem_cons.mpr ⟨lw_p1, List.forall_mem_cons.mpr ⟨lw_p2, List.forall_mem_cons.mpr ⟨lw_p3, List.forall_mem_cons.mpr ⟨lw_p4, List.forall_mem_cons.mpr ⟨lw_p5, List.forall_mem_cons.mpr ⟨lw_p6, List.forall_mem_cons.mpr ⟨lw_p7, List.forall_mem_cons.mpr ⟨lw_p8, List.forall_mem_cons.mpr ⟨lw_p9, List.forall_mem_cons.mpr ⟨lw_p10, List.forall_mem_cons.mpr ⟨lw_p11, List.forall_mem_cons.mpr ⟨lw_p12, List.forall_mem_cons.mpr ⟨lw_p13, List.forall_mem_cons.mpr ⟨lw_p14, List.forall_mem_cons.mpr ⟨lw_p15, fun _ h => absurd h List.not_mem_nil⟩⟩⟩⟩⟩⟩⟩⟩⟩⟩⟩⟩⟩⟩⟩⟩
theorem lw_p16 : lw_okq (⟨"PairChoice$Choice", "take", "(III)V"⟩, 7) := ⟨⟨by decide +kernel, by decide +kernel⟩, List.mem_of_getElem? (i := 114) (by decide +kernel), List.mem_of_getElem? (i := 313) (by decide +kernel), List.mem_of_getElem? (i := 314) (by decide +kernel)⟩
theorem lw_p17 : lw_okq (⟨"PairChoice$Choice", "hasPair", "(I)Z"⟩, 7) := ⟨⟨by decide +kernel, by decide +kernel⟩, List.mem_of_getElem? (i := 114) (by decide +kernel), List.mem_of_getElem? (i := 322) (by decide +kernel), List.mem_of_getElem? (i := 323) (by decide +kernel)⟩
theorem lw_p18 : lw_okq (⟨"PairChoice$Choice", "shareOut", "(I)V"⟩, 7) := ⟨⟨by decide +kernel, by decide +kernel⟩, List.mem_of_getElem? (i := 114) (by decide +kernel), List.mem_of_getElem? (i := 337) (by decide +kernel), List.mem_of_getElem? (i := 338) (by decide +kernel)⟩
theorem lw_p19 : lw_okq (⟨"PairChoice$Choice", "leastPairWorth", "()I"⟩, 7) := ⟨⟨by decide +kernel, by decide +kernel⟩, List.mem_of_getElem? (i := 114) (by decide +kernel), List.mem_of_getElem? (i := 341) (by decide +kernel), List.mem_of_getElem? (i := 342) (by decide +kernel)⟩
theorem lw_p20 : lw_okq (⟨"PairChoice$Choice", "pairWorth", "(I)I"⟩, 7) := ⟨⟨by decide +kernel, by decide +kernel⟩, List.mem_of_getElem? (i := 114) (by decide +kernel), List.mem_of_getElem? (i := 345) (by decide +kernel), List.mem_of_getElem? (i := 346) (by decide +kernel)⟩
theorem lw_p21 : lw_okq (⟨"PairChoice$Choice", "giveLeftOnes", "(I)V"⟩, 7) := ⟨⟨by decide +kernel, by decide +kernel⟩, List.mem_of_getElem? (i := 114) (by decide +kernel), List.mem_of_getElem? (i := 352) (by decide +kernel), List.mem_of_getElem? (i := 353) (by decide +kernel)⟩
theorem lw_p22 : lw_okq (⟨"PairChoice$Choice", "greatestRest", "()I"⟩, 7) := ⟨⟨by decide +kernel, by decide +kernel⟩, List.mem_of_getElem? (i := 114) (by decide +kernel), List.mem_of_getElem? (i := 356) (by decide +kernel), List.mem_of_getElem? (i := 357) (by decide +kernel)⟩
theorem lw_p23 : lw_okq (⟨"PairChoice$Choice", "couldStandIn", "(II)Z"⟩, 7) := ⟨⟨by decide +kernel, by decide +kernel⟩, List.mem_of_getElem? (i := 114) (by decide +kernel), List.mem_of_getElem? (i := 369) (by decide +kernel), List.mem_of_getElem? (i := 370) (by decide +kernel)⟩
theorem lw_p24 : lw_okq (⟨"PairChoice$SetList", "greatestSumWith", "(II)I"⟩, 6) := ⟨⟨by decide +kernel, by decide +kernel⟩, List.mem_of_getElem? (i := 71) (by decide +kernel), List.mem_of_getElem? (i := 381) (by decide +kernel), List.mem_of_getElem? (i := 382) (by decide +kernel)⟩
theorem lw_p25 : lw_okq (⟨"PairChoice$SetList", "greatestSumAmong", "(I)I"⟩, 6) := ⟨⟨by decide +kernel, by decide +kernel⟩, List.mem_of_getElem? (i := 71) (by decide +kernel), List.mem_of_getElem? (i := 404) (by decide +kernel), List.mem_of_getElem? (i := 405) (by decide +kernel)⟩
theorem lw_p26 : lw_okq (⟨"PairChoice$Outlook", "note", "(III)V"⟩, 3) := ⟨⟨by decide +kernel, by decide +kernel⟩, List.mem_of_getElem? (i := 150) (by decide +kernel), List.mem_of_getElem? (i := 408) (by decide +kernel), List.mem_of_getElem? (i := 409) (by decide +kernel)⟩
theorem lw_p27 : lw_okq (⟨"PairChoiceModel", "leave", "()V"⟩, 31) := ⟨⟨by decide +kernel, by decide +kernel⟩, List.mem_of_getElem? (i := 416) (by decide +kernel), List.mem_of_getElem? (i := 524) (by decide +kernel), List.mem_of_getElem? (i := 525) (by decide +kernel)⟩
theorem lw_p28 : lw_okq (⟨"PairChoiceModel", "isAnimal", "(I)Z"⟩, 31) := ⟨⟨by decide +kernel, by decide +kernel⟩, List.mem_of_getElem? (i := 416) (by decide +kernel), List.mem_of_getElem? (i := 532) (by decide +kernel), List.mem_of_getElem? (i := 533) (by decide +kernel)⟩
theorem lw_p29 : lw_okq (⟨"PairChoiceModel", "all", "()I"⟩, 31) := ⟨⟨by decide +kernel, by decide +kernel⟩, List.mem_of_getElem? (i := 416) (by decide +kernel), List.mem_of_getElem? (i := 560) (by decide +kernel), List.mem_of_getElem? (i := 561) (by decide +kernel)⟩
theorem lw_p30 : lw_okq (⟨"PairChoiceModel", "find", "(II)Z"⟩, 31) := ⟨⟨by decide +kernel, by decide +kernel⟩, List.mem_of_getElem? (i := 416) (by decide +kernel), List.mem_of_getElem? (i := 564) (by decide +kernel), List.mem_of_getElem? (i := 565) (by decide +kernel)⟩
theorem lw_p31 : lw_okq (⟨"PairChoiceModel", "part", "(II)Z"⟩, 31) := ⟨⟨by decide +kernel, by decide +kernel⟩, List.mem_of_getElem? (i := 416) (by decide +kernel), List.mem_of_getElem? (i := 568) (by decide +kernel), List.mem_of_getElem? (i := 569) (by decide +kernel)⟩
def lw_privs_2 : List (MethodName × Nat) := [(⟨"PairChoice$Choice", "take", "(III)V"⟩, 7), (⟨"PairChoice$Choice", "hasPair", "(I)Z"⟩, 7), (⟨"PairChoice$Choice", "shareOut", "(I)V"⟩, 7), (⟨"PairChoice$Choice", "leastPairWorth", "()I"⟩, 7), (⟨"PairChoice$Choice", "pairWorth", "(I)I"⟩, 7), (⟨"PairChoice$Choice", "giveLeftOnes", "(I)V"⟩, 7), (⟨"PairChoice$Choice", "greatestRest", "()I"⟩, 7), (⟨"PairChoice$Choice", "couldStandIn", "(II)Z"⟩, 7), (⟨"PairChoice$SetList", "greatestSumWith", "(II)I"⟩, 6), (⟨"PairChoice$SetList", "greatestSumAmong", "(I)I"⟩, 6), (⟨"PairChoice$Outlook", "note", "(III)V"⟩, 3), (⟨"PairChoiceModel", "leave", "()V"⟩, 31), (⟨"PairChoiceModel", "isAnimal", "(I)Z"⟩, 31), (⟨"PairChoiceModel", "all", "()I"⟩, 31), (⟨"PairChoiceModel", "find", "(II)Z"⟩, 31), (⟨"PairChoiceModel", "part", "(II)Z"⟩, 31)]
theorem lw_r2 : ∀ q ∈ lw_privs_2, lw_okq q := List.forall_mem_cons.mpr ⟨lw_p16, List.forall_mem_cons.mpr ⟨lw_p17, List.forall_mem_cons.mpr ⟨lw_p18, List.forall_mem_cons.mpr ⟨lw_p19, List.forall_mem_cons.mpr ⟨lw_p20, List.forall_mem_cons.mpr ⟨lw_p21, List.forall_mem_cons.mpr ⟨lw_p22, List.forall_mem_cons.mpr ⟨lw_p23, List.forall_mem_cons.mpr ⟨lw_p24, List.forall_mem_cons.mpr ⟨lw_p25, List.forall_mem_cons.mpr ⟨lw_p26, List.forall_mem_cons.mpr ⟨lw_p27, List.forall_mem_cons.mpr ⟨lw_p28, List.forall_mem_cons.mpr ⟨lw_p29, List.forall_mem_cons.mpr ⟨lw_p30, List.forall_mem_cons.mpr ⟨lw_p31, fun _ h => absurd h List.not_mem_nil⟩⟩⟩⟩⟩⟩⟩⟩⟩⟩⟩⟩⟩⟩⟩⟩
theorem lw_p32 : lw_okq (⟨"PairChoiceModel", "fits", "(II)Z"⟩, 31) := ⟨⟨by decide +kernel, by decide +kernel⟩, List.mem_of_getElem? (i := 416) (by decide +kernel), List.mem_of_getElem? (i := 572) (by decide +kernel), List.mem_of_getElem? (i := 573) (by decide +kernel)⟩
theorem lw_p33 : lw_okq (⟨"PairChoiceModel", "kinOf", "(I)I"⟩, 31) := ⟨⟨by decide +kernel, by decide +kernel⟩, List.mem_of_getElem? (i := 416) (by decide +kernel), List.mem_of_getElem? (i := 576) (by decide +kernel), List.mem_of_getElem? (i := 577) (by decide +kernel)⟩
theorem lw_p34 : lw_okq (⟨"PairChoiceModel", "fitsFamilies", "(I)Z"⟩, 31) := ⟨⟨by decide +kernel, by decide +kernel⟩, List.mem_of_getElem? (i := 416) (by decide +kernel), List.mem_of_getElem? (i := 580) (by decide +kernel), List.mem_of_getElem? (i := 581) (by decide +kernel)⟩
theorem lw_p35 : lw_okq (⟨"PairChoiceModel", "canPair", "(II)Z"⟩, 31) := ⟨⟨by decide +kernel, by decide +kernel⟩, List.mem_of_getElem? (i := 416) (by decide +kernel), List.mem_of_getElem? (i := 584) (by decide +kernel), List.mem_of_getElem? (i := 585) (by decide +kernel)⟩
theorem lw_p36 : lw_okq (⟨"PairChoiceModel", "worthOf", "(I)I"⟩, 31) := ⟨⟨by decide +kernel, by decide +kernel⟩, List.mem_of_getElem? (i := 416) (by decide +kernel), List.mem_of_getElem? (i := 588) (by decide +kernel), List.mem_of_getElem? (i := 589) (by decide +kernel)⟩
theorem lw_p37 : lw_okq (⟨"PairChoiceModel", "pairWorth", "(I)I"⟩, 31) := ⟨⟨by decide +kernel, by decide +kernel⟩, List.mem_of_getElem? (i := 416) (by decide +kernel), List.mem_of_getElem? (i := 605) (by decide +kernel), List.mem_of_getElem? (i := 606) (by decide +kernel)⟩
def lw_privs_3 : List (MethodName × Nat) := [(⟨"PairChoiceModel", "fits", "(II)Z"⟩, 31), (⟨"PairChoiceModel", "kinOf", "(I)I"⟩, 31), (⟨"PairChoiceModel", "fitsFamilies", "(I)Z"⟩, 31), (⟨"PairChoiceModel", "canPair", "(II)Z"⟩, 31), (⟨"PairChoiceModel", "worthOf", "(I)I"⟩, 31), (⟨"PairChoiceModel", "pairWorth", "(I)I"⟩, 31)]
theorem lw_r3 : ∀ q ∈ lw_privs_3, lw_okq q := List.forall_mem_cons.mpr ⟨lw_p32, List.forall_mem_cons.mpr ⟨lw_p33, List.forall_mem_cons.mpr ⟨lw_p34, List.forall_mem_cons.mpr ⟨lw_p35, List.forall_mem_cons.mpr ⟨lw_p36, List.forall_mem_cons.mpr ⟨lw_p37, fun _ h => absurd h List.not_mem_nil⟩⟩⟩⟩⟩⟩
def lw_privs : List (MethodName × Nat) := lw_privs_1 ++ (lw_privs_2 ++ (lw_privs_3))
def lw_tbl : List Cond := k2_sels lw_privs ++ tables_1
theorem lw_privs_ok : ∀ q ∈ lw_privs, lw_okq q := by
  show ∀ q ∈ lw_privs_1 ++ (lw_privs_2 ++ (lw_privs_3)), lw_okq q
  exact List.forall_mem_append.mpr ⟨lw_r1, List.forall_mem_append.mpr ⟨lw_r2, lw_r3⟩⟩
end
section
/-! names: words of the tables that may be handed on, tables of fields, methods -/
def wAl : List Cond := lw_tbl.filter goodWord
theorem wAl_of {w : Cond} (h : w ∈ lw_tbl) (g : goodWord w = true) : w ∈ wAl := List.mem_filter.mpr ⟨h, g⟩
theorem wAl_tbl {w : Cond} (h : w ∈ wAl) : w ∈ lw_tbl := (List.mem_filter.mp h).1
theorem wAl_good {w : Cond} (h : w ∈ wAl) : (w.onTables && w.keeps) = true ∨ ∃ ty, w = .arrayClass ty := good_of_word (List.mem_filter.mp h).2
theorem gcB {c0 c1 : Cond} (h : c1 ∈ wAl) : GoodIn (c0 :: wAl) (c1 :: wAl) := fun w hw => (List.mem_cons.mp hw).elim (fun e => e ▸ ⟨List.mem_cons_of_mem _ h, wAl_good h⟩) (fun hw => ⟨List.mem_cons_of_mem _ hw, wAl_good hw⟩)
theorem gc1 {c0 c1 : Cond} {ws : List Cond} (h : c1 ∈ wAl) (g : GoodIn (c0 :: wAl) ws) : GoodIn (c0 :: wAl) (c1 :: ws) := fun w hw => (List.mem_cons.mp hw).elim (fun e => e ▸ ⟨List.mem_cons_of_mem _ h, wAl_good h⟩) (g w)
theorem gcV {c0 c1 : Cond} {own : String} {idx : Nat} {C : String} {y : MethodName} (h1 : Cond.methodLink own idx y ∈ wAl) (h2 : Cond.instanceMethod y ∈ wAl) (h3 : Cond.selects C y y ∈ wAl) (h4 : Cond.initialized C ∈ wAl) (h : c1 ∈ wAl) : GoodIn (c0 :: wAl) (wsV own idx C y (c1 :: wAl)) := gc1 h1 (gc1 h2 (gc1 h3 (gc1 h4 (gcB h))))
theorem gcS {c0 c1 : Cond} {own : String} {idx : Nat} {y : MethodName} (h1 : Cond.methodLink own idx y ∈ wAl) (h2 : Cond.static y ∈ wAl) (h3 : Cond.initialized y.cls ∈ wAl) (h : c1 ∈ wAl) : GoodIn (c0 :: wAl) (va_wsS own idx y (c1 :: wAl)) := gc1 h1 (gc1 h2 (gc1 h3 (gcB h)))
def F_Choice : u_T := fun k => match k with
  | 0 => ("PairChoice$Choice", "herd", "LPairChoice$Herd;", true)
  | 1 => ("PairChoice$Choice", "pairing", "LPairChoice$Pairing;", true)
  | 2 => ("PairChoice$Choice", "pairs", "I", false)
  | 3 => ("PairChoice$Choice", "set", "I", false)
  | 4 => ("PairChoice$Choice", "setsThatMayBe", "I", false)
  | 5 => ("PairChoice$Choice", "eggShares", "[I", true)
  | _ => ("PairChoice$Choice", "rests", "[J", true)
def t_Choice : Nat → FieldType := fun k => match k with
  | 0 => .object "PairChoice$Herd"
  | 1 => .object "PairChoice$Pairing"
  | 2 => .int
  | 3 => .int
  | 4 => .int
  | 5 => .array .int
  | _ => .array .long
theorem n_Choice : ∀ a, a < 7 → ∀ b, b < 7 → a ≠ b → (F_Choice a).2.1 ≠ (F_Choice b).2.1 := by decide +kernel
theorem t_Choice_ok : ∀ k, k < 7 → parseFieldDescriptor (F_Choice k).2.2.1 = some (t_Choice k) := by decide +kernel
theorem i_Choice : ∀ w ∈ u_ws "PairChoice$Choice" F_Choice 7, w ∈ wAl := fun w h => wAl_of ((by decide +kernel : ∀ w ∈ u_ws "PairChoice$Choice" F_Choice 7, w ∈ lw_tbl) w h) ((by decide +kernel : ∀ w ∈ u_ws "PairChoice$Choice" F_Choice 7, goodWord w = true) w h)
def F_Herd : u_T := fun k => match k with
  | 0 => ("PairChoice$Herd", "count", "I", false)
  | 1 => ("PairChoice$Herd", "males", "I", false)
  | 2 => ("PairChoice$Herd", "worths", "[I", true)
  | 3 => ("PairChoice$Herd", "families", "[I", true)
  | 4 => ("PairChoice$Herd", "kinships", "[[I", true)
  | 5 => ("PairChoice$Herd", "barred", "[I", true)
  | 6 => ("PairChoice$Herd", "kinLimit", "I", false)
  | 7 => ("PairChoice$Herd", "mostOfFamily", "I", false)
  | _ => ("PairChoice$Herd", "leastOfFamily", "[I", true)
def t_Herd : Nat → FieldType := fun k => match k with
  | 0 => .int
  | 1 => .int
  | 2 => .array .int
  | 3 => .array .int
  | 4 => .array (.array .int)
  | 5 => .array .int
  | 6 => .int
  | 7 => .int
  | _ => .array .int
theorem n_Herd : ∀ a, a < 9 → ∀ b, b < 9 → a ≠ b → (F_Herd a).2.1 ≠ (F_Herd b).2.1 := by decide +kernel
theorem t_Herd_ok : ∀ k, k < 9 → parseFieldDescriptor (F_Herd k).2.2.1 = some (t_Herd k) := by decide +kernel
theorem i_Herd : ∀ w ∈ u_ws "PairChoice$Herd" F_Herd 9, w ∈ wAl := fun w h => wAl_of ((by decide +kernel : ∀ w ∈ u_ws "PairChoice$Herd" F_Herd 9, w ∈ lw_tbl) w h) ((by decide +kernel : ∀ w ∈ u_ws "PairChoice$Herd" F_Herd 9, goodWord w = true) w h)
def F_Outlook : u_T := fun k => match k with
  | 0 => ("PairChoice$Outlook", "years", "I", false)
  | 1 => ("PairChoice$Outlook", "alive", "[I", true)
  | _ => ("PairChoice$Outlook", "bestSums", "[I", true)
def t_Outlook : Nat → FieldType := fun k => match k with
  | 0 => .int
  | 1 => .array .int
  | _ => .array .int
theorem n_Outlook : ∀ a, a < 3 → ∀ b, b < 3 → a ≠ b → (F_Outlook a).2.1 ≠ (F_Outlook b).2.1 := by decide +kernel
theorem t_Outlook_ok : ∀ k, k < 3 → parseFieldDescriptor (F_Outlook k).2.2.1 = some (t_Outlook k) := by decide +kernel
theorem i_Outlook : ∀ w ∈ u_ws "PairChoice$Outlook" F_Outlook 3, w ∈ wAl := fun w h => wAl_of ((by decide +kernel : ∀ w ∈ u_ws "PairChoice$Outlook" F_Outlook 3, w ∈ lw_tbl) w h) ((by decide +kernel : ∀ w ∈ u_ws "PairChoice$Outlook" F_Outlook 3, goodWord w = true) w h)
def F_Pairing : u_T := fun k => match k with
  | 0 => ("PairChoice$Pairing", "males", "[I", true)
  | _ => ("PairChoice$Pairing", "females", "[I", true)
def t_Pairing : Nat → FieldType := fun k => match k with
  | 0 => .array .int
  | _ => .array .int
theorem n_Pairing : ∀ a, a < 2 → ∀ b, b < 2 → a ≠ b → (F_Pairing a).2.1 ≠ (F_Pairing b).2.1 := by decide +kernel
theorem t_Pairing_ok : ∀ k, k < 2 → parseFieldDescriptor (F_Pairing k).2.2.1 = some (t_Pairing k) := by decide +kernel
theorem i_Pairing : ∀ w ∈ u_ws "PairChoice$Pairing" F_Pairing 2, w ∈ wAl := fun w h => wAl_of ((by decide +kernel : ∀ w ∈ u_ws "PairChoice$Pairing" F_Pairing 2, w ∈ lw_tbl) w h) ((by decide +kernel : ∀ w ∈ u_ws "PairChoice$Pairing" F_Pairing 2, goodWord w = true) w h)
def F_SetList : u_T := fun k => match k with
  | 0 => ("PairChoice$SetList", "herd", "LPairChoice$Herd;", true)
  | 1 => ("PairChoice$SetList", "trial", "LPairChoice$Pairing;", true)
  | 2 => ("PairChoice$SetList", "listed", "[I", true)
  | 3 => ("PairChoice$SetList", "sums", "[I", true)
  | 4 => ("PairChoice$SetList", "size", "I", false)
  | _ => ("PairChoice$SetList", "pairs", "I", false)
def t_SetList : Nat → FieldType := fun k => match k with
  | 0 => .object "PairChoice$Herd"
  | 1 => .object "PairChoice$Pairing"
  | 2 => .array .int
  | 3 => .array .int
  | 4 => .int
  | _ => .int
theorem n_SetList : ∀ a, a < 6 → ∀ b, b < 6 → a ≠ b → (F_SetList a).2.1 ≠ (F_SetList b).2.1 := by decide +kernel
theorem t_SetList_ok : ∀ k, k < 6 → parseFieldDescriptor (F_SetList k).2.2.1 = some (t_SetList k) := by decide +kernel
theorem i_SetList : ∀ w ∈ u_ws "PairChoice$SetList" F_SetList 6, w ∈ wAl := fun w h => wAl_of ((by decide +kernel : ∀ w ∈ u_ws "PairChoice$SetList" F_SetList 6, w ∈ lw_tbl) w h) ((by decide +kernel : ∀ w ∈ u_ws "PairChoice$SetList" F_SetList 6, goodWord w = true) w h)
def F_PairChoice : u_T := fun k => match k with
  | 0 => ("PairChoice", "herd", "LPairChoice$Herd;", true)
  | 1 => ("PairChoice", "sets", "LPairChoice$SetList;", true)
  | 2 => ("PairChoice", "choice", "LPairChoice$Choice;", true)
  | _ => ("PairChoice", "outlook", "LPairChoice$Outlook;", true)
def t_PairChoice : Nat → FieldType := fun k => match k with
  | 0 => .object "PairChoice$Herd"
  | 1 => .object "PairChoice$SetList"
  | 2 => .object "PairChoice$Choice"
  | _ => .object "PairChoice$Outlook"
theorem n_PairChoice : ∀ a, a < 4 → ∀ b, b < 4 → a ≠ b → (F_PairChoice a).2.1 ≠ (F_PairChoice b).2.1 := by decide +kernel
theorem t_PairChoice_ok : ∀ k, k < 4 → parseFieldDescriptor (F_PairChoice k).2.2.1 = some (t_PairChoice k) := by decide +kernel
theorem i_PairChoice : ∀ w ∈ u_ws "PairChoice" F_PairChoice 4, w ∈ wAl := fun w h => wAl_of ((by decide +kernel : ∀ w ∈ u_ws "PairChoice" F_PairChoice 4, w ∈ lw_tbl) w h) ((by decide +kernel : ∀ w ∈ u_ws "PairChoice" F_PairChoice 4, goodWord w = true) w h)
def F_M : u_T := fun k => match k with
  | 0 => ("PairChoiceModel", "animals", "I", false)
  | 1 => ("PairChoiceModel", "sexes", "[I", true)
  | 2 => ("PairChoiceModel", "worths", "[I", true)
  | 3 => ("PairChoiceModel", "families", "[I", true)
  | 4 => ("PairChoiceModel", "kins", "[I", true)
  | 5 => ("PairChoiceModel", "isBarred", "[Z", true)
  | 6 => ("PairChoiceModel", "limit", "I", false)
  | 7 => ("PairChoiceModel", "most", "I", false)
  | 8 => ("PairChoiceModel", "leasts", "[I", true)
  | 9 => ("PairChoiceModel", "tested", "I", false)
  | 10 => ("PairChoiceModel", "testedBy", "I", false)
  | 11 => ("PairChoiceModel", "best", "I", false)
  | 12 => ("PairChoiceModel", "bestWorth", "I", false)
  | 13 => ("PairChoiceModel", "sets", "I", false)
  | 14 => ("PairChoiceModel", "many", "I", false)
  | 15 => ("PairChoiceModel", "males", "[I", true)
  | 16 => ("PairChoiceModel", "females", "[I", true)
  | 17 => ("PairChoiceModel", "now", "[Z", true)
  | 18 => ("PairChoiceModel", "then", "[Z", true)
  | 19 => ("PairChoiceModel", "pairs", "I", false)
  | 20 => ("PairChoiceModel", "choice", "I", false)
  | 21 => ("PairChoiceModel", "choiceSets", "I", false)
  | 22 => ("PairChoiceModel", "he", "[I", true)
  | 23 => ("PairChoiceModel", "she", "[I", true)
  | 24 => ("PairChoiceModel", "eggs", "[I", true)
  | 25 => ("PairChoiceModel", "points", "[I", true)
  | 26 => ("PairChoiceModel", "rests", "[I", true)
  | 27 => ("PairChoiceModel", "years", "I", false)
  | 28 => ("PairChoiceModel", "alive", "[I", true)
  | 29 => ("PairChoiceModel", "yearSets", "[I", true)
  | _ => ("PairChoiceModel", "yearWorths", "[I", true)
def t_M : Nat → FieldType := fun k => match k with
  | 0 => .int
  | 1 => .array .int
  | 2 => .array .int
  | 3 => .array .int
  | 4 => .array .int
  | 5 => .array .boolean
  | 6 => .int
  | 7 => .int
  | 8 => .array .int
  | 9 => .int
  | 10 => .int
  | 11 => .int
  | 12 => .int
  | 13 => .int
  | 14 => .int
  | 15 => .array .int
  | 16 => .array .int
  | 17 => .array .boolean
  | 18 => .array .boolean
  | 19 => .int
  | 20 => .int
  | 21 => .int
  | 22 => .array .int
  | 23 => .array .int
  | 24 => .array .int
  | 25 => .array .int
  | 26 => .array .int
  | 27 => .int
  | 28 => .array .int
  | 29 => .array .int
  | _ => .array .int
theorem n_M : ∀ a, a < 31 → ∀ b, b < 31 → a ≠ b → (F_M a).2.1 ≠ (F_M b).2.1 := by decide +kernel
theorem t_M_ok : ∀ k, k < 31 → parseFieldDescriptor (F_M k).2.2.1 = some (t_M k) := by decide +kernel
theorem i_M : ∀ w ∈ u_ws "PairChoiceModel" F_M 31, w ∈ wAl := fun w h => wAl_of ((by decide +kernel : ∀ w ∈ u_ws "PairChoiceModel" F_M 31, w ∈ lw_tbl) w h) ((by decide +kernel : ∀ w ∈ u_ws "PairChoiceModel" F_M 31, goodWord w = true) w h)
abbrev vCl : List vw_C := [("PairChoice$Choice", F_Choice, 7), ("PairChoice$Herd", F_Herd, 9), ("PairChoice$Outlook", F_Outlook, 3), ("PairChoice$Pairing", F_Pairing, 2), ("PairChoice$SetList", F_SetList, 6), ("PairChoice", F_PairChoice, 4), ("PairChoiceModel", F_M, 31)]
abbrev b_Choice_init : ByteArray := prog_2_method_1_code
abbrev y_Choice_init : MethodName := ⟨"PairChoice$Choice", "<init>", "(LPairChoice$Herd;)V"⟩
abbrev w_Choice_init : List Cond := .code y_Choice_init b_Choice_init 2 none :: wAl
abbrev b_Choice_drop : ByteArray := prog_2_method_2_code
abbrev y_Choice_drop : MethodName := ⟨"PairChoice$Choice", "drop", "()V"⟩
abbrev w_Choice_drop : List Cond := .code y_Choice_drop b_Choice_drop 1 none :: wAl
abbrev b_Choice_take : ByteArray := prog_2_method_3_code
abbrev y_Choice_take : MethodName := ⟨"PairChoice$Choice", "take", "(III)V"⟩
abbrev w_Choice_take : List Cond := .code y_Choice_take b_Choice_take 5 none :: wAl
abbrev b_Choice_hasPair : ByteArray := prog_2_method_4_code
abbrev y_Choice_hasPair : MethodName := ⟨"PairChoice$Choice", "hasPair", "(I)Z"⟩
abbrev w_Choice_hasPair : List Cond := .code y_Choice_hasPair b_Choice_hasPair 2 (some .boolean) :: wAl
abbrev b_Choice_pairWorth : ByteArray := prog_2_method_5_code
abbrev y_Choice_pairWorth : MethodName := ⟨"PairChoice$Choice", "pairWorth", "(I)I"⟩
abbrev w_Choice_pairWorth : List Cond := .code y_Choice_pairWorth b_Choice_pairWorth 2 (some .int) :: wAl
abbrev b_Choice_leastPairWorth : ByteArray := prog_2_method_6_code
abbrev y_Choice_leastPairWorth : MethodName := ⟨"PairChoice$Choice", "leastPairWorth", "()I"⟩
abbrev w_Choice_leastPairWorth : List Cond := .code y_Choice_leastPairWorth b_Choice_leastPairWorth 3 (some .int) :: wAl
abbrev b_Choice_shareOut : ByteArray := prog_2_method_7_code
abbrev y_Choice_shareOut : MethodName := ⟨"PairChoice$Choice", "shareOut", "(I)V"⟩
abbrev w_Choice_shareOut : List Cond := .code y_Choice_shareOut b_Choice_shareOut 9 none :: wAl
abbrev b_Choice_giveLeftOnes : ByteArray := prog_2_method_8_code
abbrev y_Choice_giveLeftOnes : MethodName := ⟨"PairChoice$Choice", "giveLeftOnes", "(I)V"⟩
abbrev w_Choice_giveLeftOnes : List Cond := .code y_Choice_giveLeftOnes b_Choice_giveLeftOnes 4 none :: wAl
abbrev b_Choice_greatestRest : ByteArray := prog_2_method_9_code
abbrev y_Choice_greatestRest : MethodName := ⟨"PairChoice$Choice", "greatestRest", "()I"⟩
abbrev w_Choice_greatestRest : List Cond := .code y_Choice_greatestRest b_Choice_greatestRest 3 (some .int) :: wAl
abbrev b_Choice_couldStandIn : ByteArray := prog_2_method_10_code
abbrev y_Choice_couldStandIn : MethodName := ⟨"PairChoice$Choice", "couldStandIn", "(II)Z"⟩
abbrev w_Choice_couldStandIn : List Cond := .code y_Choice_couldStandIn b_Choice_couldStandIn 4 (some .boolean) :: wAl
abbrev b_Herd_init : ByteArray := prog_3_method_1_code
abbrev y_Herd_init : MethodName := ⟨"PairChoice$Herd", "<init>", "()V"⟩
abbrev w_Herd_init : List Cond := .code y_Herd_init b_Herd_init 1 none :: wAl
abbrev b_Herd_knows : ByteArray := prog_3_method_2_code
abbrev y_Herd_knows : MethodName := ⟨"PairChoice$Herd", "knows", "(I)Z"⟩
abbrev w_Herd_knows : List Cond := .code y_Herd_knows b_Herd_knows 2 (some .boolean) :: wAl
abbrev b_Herd_all : ByteArray := prog_3_method_3_code
abbrev y_Herd_all : MethodName := ⟨"PairChoice$Herd", "all", "()I"⟩
abbrev w_Herd_all : List Cond := .code y_Herd_all b_Herd_all 1 (some .int) :: wAl
abbrev b_Herd_add : ByteArray := prog_3_method_4_code
abbrev y_Herd_add : MethodName := ⟨"PairChoice$Herd", "add", "(III)I"⟩
abbrev w_Herd_add : List Cond := .code y_Herd_add b_Herd_add 5 (some .int) :: wAl
abbrev b_Herd_worthSum : ByteArray := prog_3_method_5_code
abbrev y_Herd_worthSum : MethodName := ⟨"PairChoice$Herd", "worthSum", "(I)I"⟩
abbrev w_Herd_worthSum : List Cond := .code y_Herd_worthSum b_Herd_worthSum 4 (some .int) :: wAl
abbrev b_Herd_kinSum : ByteArray := prog_3_method_6_code
abbrev y_Herd_kinSum : MethodName := ⟨"PairChoice$Herd", "kinSum", "(I)I"⟩
abbrev w_Herd_kinSum : List Cond := .code y_Herd_kinSum b_Herd_kinSum 5 (some .int) :: wAl
abbrev b_Herd_keepsFamilies : ByteArray := prog_3_method_7_code
abbrev y_Herd_keepsFamilies : MethodName := ⟨"PairChoice$Herd", "keepsFamilies", "(I)Z"⟩
abbrev w_Herd_keepsFamilies : List Cond := .code y_Herd_keepsFamilies b_Herd_keepsFamilies 4 (some .boolean) :: wAl
abbrev b_Herd_keepsRules : ByteArray := prog_3_method_8_code
abbrev y_Herd_keepsRules : MethodName := ⟨"PairChoice$Herd", "keepsRules", "(II)Z"⟩
abbrev w_Herd_keepsRules : List Cond := .code y_Herd_keepsRules b_Herd_keepsRules 3 (some .boolean) :: wAl
abbrev b_Outlook_init : ByteArray := prog_4_method_1_code
abbrev y_Outlook_init : MethodName := ⟨"PairChoice$Outlook", "<init>", "()V"⟩
abbrev w_Outlook_init : List Cond := .code y_Outlook_init b_Outlook_init 1 none :: wAl
abbrev b_Outlook_note : ByteArray := prog_4_method_2_code
abbrev y_Outlook_note : MethodName := ⟨"PairChoice$Outlook", "note", "(III)V"⟩
abbrev w_Outlook_note : List Cond := .code y_Outlook_note b_Outlook_note 4 none :: wAl
abbrev b_Pairing_init : ByteArray := prog_5_method_1_code
abbrev y_Pairing_init : MethodName := ⟨"PairChoice$Pairing", "<init>", "()V"⟩
abbrev w_Pairing_init : List Cond := .code y_Pairing_init b_Pairing_init 1 none :: wAl
abbrev b_Pairing_pairSet : ByteArray := prog_5_method_2_code
abbrev y_Pairing_pairSet : MethodName := ⟨"PairChoice$Pairing", "pairSet", "(LPairChoice$Herd;I)Z"⟩
abbrev w_Pairing_pairSet : List Cond := .code y_Pairing_pairSet b_Pairing_pairSet 3 (some .boolean) :: wAl
abbrev b_Pairing_pairFrom : ByteArray := prog_5_method_3_code
abbrev y_Pairing_pairFrom : MethodName := ⟨"PairChoice$Pairing", "pairFrom", "(ILPairChoice$Herd;II)Z"⟩
abbrev w_Pairing_pairFrom : List Cond := .code y_Pairing_pairFrom b_Pairing_pairFrom 8 (some .boolean) :: wAl
abbrev b_SetList_init : ByteArray := prog_6_method_1_code
abbrev y_SetList_init : MethodName := ⟨"PairChoice$SetList", "<init>", "(LPairChoice$Herd;)V"⟩
abbrev w_SetList_init : List Cond := .code y_SetList_init b_SetList_init 2 none :: wAl
abbrev b_SetList_forget : ByteArray := prog_6_method_2_code
abbrev y_SetList_forget : MethodName := ⟨"PairChoice$SetList", "forget", "()V"⟩
abbrev w_SetList_forget : List Cond := .code y_SetList_forget b_SetList_forget 1 none :: wAl
abbrev b_SetList_listAll : ByteArray := prog_6_method_3_code
abbrev y_SetList_listAll : MethodName := ⟨"PairChoice$SetList", "listAll", "(I)V"⟩
abbrev w_SetList_listAll : List Cond := .code y_SetList_listAll b_SetList_listAll 3 none :: wAl
abbrev b_SetList_listWithMales : ByteArray := prog_6_method_4_code
abbrev y_SetList_listWithMales : MethodName := ⟨"PairChoice$SetList", "listWithMales", "(I)V"⟩
abbrev w_SetList_listWithMales : List Cond := .code y_SetList_listWithMales b_SetList_listWithMales 4 none :: wAl
abbrev b_SetList_listIfItMayBe : ByteArray := prog_6_method_5_code
abbrev y_SetList_listIfItMayBe : MethodName := ⟨"PairChoice$SetList", "listIfItMayBe", "(I)V"⟩
abbrev w_SetList_listIfItMayBe : List Cond := .code y_SetList_listIfItMayBe b_SetList_listIfItMayBe 2 none :: wAl
abbrev b_SetList_best : ByteArray := prog_6_method_6_code
abbrev y_SetList_best : MethodName := ⟨"PairChoice$SetList", "best", "()I"⟩
abbrev w_SetList_best : List Cond := .code y_SetList_best b_SetList_best 4 (some .int) :: wAl
abbrev b_SetList_goesBefore : ByteArray := prog_6_method_7_code
abbrev y_SetList_goesBefore : MethodName := ⟨"PairChoice$SetList", "goesBefore", "(II)Z"⟩
abbrev w_SetList_goesBefore : List Cond := .code y_SetList_goesBefore b_SetList_goesBefore 3 (some .boolean) :: wAl
abbrev b_SetList_greatestSumWith : ByteArray := prog_6_method_8_code
abbrev y_SetList_greatestSumWith : MethodName := ⟨"PairChoice$SetList", "greatestSumWith", "(II)I"⟩
abbrev w_SetList_greatestSumWith : List Cond := .code y_SetList_greatestSumWith b_SetList_greatestSumWith 6 (some .int) :: wAl
abbrev b_SetList_greatestSumAmong : ByteArray := prog_6_method_9_code
abbrev y_SetList_greatestSumAmong : MethodName := ⟨"PairChoice$SetList", "greatestSumAmong", "(I)I"⟩
abbrev w_SetList_greatestSumAmong : List Cond := .code y_SetList_greatestSumAmong b_SetList_greatestSumAmong 4 (some .int) :: wAl
abbrev b_PairChoice_init : ByteArray := prog_1_method_1_code
abbrev y_PairChoice_init : MethodName := ⟨"PairChoice", "<init>", "()V"⟩
abbrev w_PairChoice_init : List Cond := .code y_PairChoice_init b_PairChoice_init 1 none :: wAl
abbrev b_PairChoice_animal : ByteArray := prog_1_method_2_code
abbrev y_PairChoice_animal : MethodName := ⟨"PairChoice", "animal", "(III)I"⟩
abbrev w_PairChoice_animal : List Cond := .code y_PairChoice_animal b_PairChoice_animal 4 (some .int) :: wAl
abbrev b_PairChoice_worth : ByteArray := prog_1_method_3_code
abbrev y_PairChoice_worth : MethodName := ⟨"PairChoice", "worth", "(II)I"⟩
abbrev w_PairChoice_worth : List Cond := .code y_PairChoice_worth b_PairChoice_worth 4 (some .int) :: wAl
abbrev b_PairChoice_kin : ByteArray := prog_1_method_4_code
abbrev y_PairChoice_kin : MethodName := ⟨"PairChoice", "kin", "(III)I"⟩
abbrev w_PairChoice_kin : List Cond := .code y_PairChoice_kin b_PairChoice_kin 5 (some .int) :: wAl
abbrev b_PairChoice_bar : ByteArray := prog_1_method_5_code
abbrev y_PairChoice_bar : MethodName := ⟨"PairChoice", "bar", "(IIZ)Z"⟩
abbrev w_PairChoice_bar : List Cond := .code y_PairChoice_bar b_PairChoice_bar 4 (some .boolean) :: wAl
abbrev b_PairChoice_limit : ByteArray := prog_1_method_6_code
abbrev y_PairChoice_limit : MethodName := ⟨"PairChoice", "limit", "(I)I"⟩
abbrev w_PairChoice_limit : List Cond := .code y_PairChoice_limit b_PairChoice_limit 3 (some .int) :: wAl
abbrev b_PairChoice_even : ByteArray := prog_1_method_7_code
abbrev y_PairChoice_even : MethodName := ⟨"PairChoice", "even", "(I)I"⟩
abbrev w_PairChoice_even : List Cond := .code y_PairChoice_even b_PairChoice_even 3 (some .int) :: wAl
abbrev b_PairChoice_line : ByteArray := prog_1_method_8_code
abbrev y_PairChoice_line : MethodName := ⟨"PairChoice", "line", "(II)I"⟩
abbrev w_PairChoice_line : List Cond := .code y_PairChoice_line b_PairChoice_line 4 (some .int) :: wAl
abbrev b_PairChoice_run : ByteArray := prog_1_method_9_code
abbrev y_PairChoice_run : MethodName := ⟨"PairChoice", "run", "(I)I"⟩
abbrev w_PairChoice_run : List Cond := .code y_PairChoice_run b_PairChoice_run 2 (some .int) :: wAl
abbrev b_PairChoice_pairOf : ByteArray := prog_1_method_10_code
abbrev y_PairChoice_pairOf : MethodName := ⟨"PairChoice", "pairOf", "(II)I"⟩
abbrev w_PairChoice_pairOf : List Cond := .code y_PairChoice_pairOf b_PairChoice_pairOf 3 (some .int) :: wAl
abbrev b_PairChoice_told : ByteArray := prog_1_method_11_code
abbrev y_PairChoice_told : MethodName := ⟨"PairChoice", "told", "(I)I"⟩
abbrev w_PairChoice_told : List Cond := .code y_PairChoice_told b_PairChoice_told 2 (some .int) :: wAl
abbrev b_PairChoice_eggs : ByteArray := prog_1_method_12_code
abbrev y_PairChoice_eggs : MethodName := ⟨"PairChoice", "eggs", "(I)I"⟩
abbrev w_PairChoice_eggs : List Cond := .code y_PairChoice_eggs b_PairChoice_eggs 2 (some .int) :: wAl
abbrev b_PairChoice_eggsOf : ByteArray := prog_1_method_13_code
abbrev y_PairChoice_eggsOf : MethodName := ⟨"PairChoice", "eggsOf", "(I)I"⟩
abbrev w_PairChoice_eggsOf : List Cond := .code y_PairChoice_eggsOf b_PairChoice_eggsOf 2 (some .int) :: wAl
abbrev b_PairChoice_backUp : ByteArray := prog_1_method_14_code
abbrev y_PairChoice_backUp : MethodName := ⟨"PairChoice", "backUp", "(I)I"⟩
abbrev w_PairChoice_backUp : List Cond := .code y_PairChoice_backUp b_PairChoice_backUp 4 (some .int) :: wAl
abbrev b_PairChoice_test : ByteArray := prog_1_method_15_code
abbrev y_PairChoice_test : MethodName := ⟨"PairChoice", "test", "(II)I"⟩
abbrev w_PairChoice_test : List Cond := .code y_PairChoice_test b_PairChoice_test 7 (some .int) :: wAl
abbrev b_PairChoice_ahead : ByteArray := prog_1_method_16_code
abbrev y_PairChoice_ahead : MethodName := ⟨"PairChoice", "ahead", "(IIJI)I"⟩
abbrev w_PairChoice_ahead : List Cond := .code y_PairChoice_ahead b_PairChoice_ahead 8 (some .int) :: wAl
abbrev b_PairChoice_after : ByteArray := prog_1_method_17_code
abbrev y_PairChoice_after : MethodName := ⟨"PairChoice", "after", "(II)I"⟩
abbrev w_PairChoice_after : List Cond := .code y_PairChoice_after b_PairChoice_after 3 (some .int) :: wAl
abbrev b_PairChoice_forgetFindings : ByteArray := prog_1_method_18_code
abbrev y_PairChoice_forgetFindings : MethodName := ⟨"PairChoice", "forgetFindings", "()V"⟩
abbrev w_PairChoice_forgetFindings : List Cond := .code y_PairChoice_forgetFindings b_PairChoice_forgetFindings 1 none :: wAl
abbrev b_PairChoice_survivors : ByteArray := prog_1_method_19_code
abbrev y_PairChoice_survivors : MethodName := ⟨"PairChoice", "survivors", "(IJI)I"⟩
abbrev w_PairChoice_survivors : List Cond := .code y_PairChoice_survivors b_PairChoice_survivors 6 (some .int) :: wAl
abbrev b_PairChoice_fate : ByteArray := prog_1_method_20_code
abbrev y_PairChoice_fate : MethodName := ⟨"PairChoice", "fate", "(J)J"⟩
abbrev w_PairChoice_fate : List Cond := .code y_PairChoice_fate b_PairChoice_fate 4 (some .long) :: wAl
abbrev b_PairChoice_isWithin : ByteArray := prog_1_method_21_code
abbrev y_PairChoice_isWithin : MethodName := ⟨"PairChoice", "isWithin", "(III)Z"⟩
abbrev w_PairChoice_isWithin : List Cond := .code y_PairChoice_isWithin b_PairChoice_isWithin 3 (some .boolean) :: wAl
abbrev b_PairChoice_isWorth : ByteArray := prog_1_method_22_code
abbrev y_PairChoice_isWorth : MethodName := ⟨"PairChoice", "isWorth", "(I)Z"⟩
abbrev w_PairChoice_isWorth : List Cond := .code y_PairChoice_isWorth b_PairChoice_isWorth 1 (some .boolean) :: wAl
abbrev b_PairChoice_isNumberOfPairs : ByteArray := prog_1_method_23_code
abbrev y_PairChoice_isNumberOfPairs : MethodName := ⟨"PairChoice", "isNumberOfPairs", "(I)Z"⟩
abbrev w_PairChoice_isNumberOfPairs : List Cond := .code y_PairChoice_isNumberOfPairs b_PairChoice_isNumberOfPairs 1 (some .boolean) :: wAl
abbrev b_PairChoice_bit : ByteArray := prog_1_method_24_code
abbrev y_PairChoice_bit : MethodName := ⟨"PairChoice", "bit", "(I)I"⟩
abbrev w_PairChoice_bit : List Cond := .code y_PairChoice_bit b_PairChoice_bit 1 (some .int) :: wAl
abbrev b_PairChoice_has : ByteArray := prog_1_method_25_code
abbrev y_PairChoice_has : MethodName := ⟨"PairChoice", "has", "(II)Z"⟩
abbrev w_PairChoice_has : List Cond := .code y_PairChoice_has b_PairChoice_has 2 (some .boolean) :: wAl
abbrev b_PairChoice_leastOf : ByteArray := prog_1_method_26_code
abbrev y_PairChoice_leastOf : MethodName := ⟨"PairChoice", "leastOf", "(I)I"⟩
abbrev w_PairChoice_leastOf : List Cond := .code y_PairChoice_leastOf b_PairChoice_leastOf 1 (some .int) :: wAl
abbrev b_M_init : ByteArray := prog_8_method_1_code
abbrev y_M_init : MethodName := ⟨"PairChoiceModel", "<init>", "()V"⟩
abbrev w_M_init : List Cond := .code y_M_init b_M_init 1 none :: wAl
abbrev b_M_isIn : ByteArray := prog_8_method_2_code
abbrev y_M_isIn : MethodName := ⟨"PairChoiceModel", "isIn", "(III)Z"⟩
abbrev w_M_isIn : List Cond := .code y_M_isIn b_M_isIn 3 (some .boolean) :: wAl
abbrev b_M_isAnimal : ByteArray := prog_8_method_3_code
abbrev y_M_isAnimal : MethodName := ⟨"PairChoiceModel", "isAnimal", "(I)Z"⟩
abbrev w_M_isAnimal : List Cond := .code y_M_isAnimal b_M_isAnimal 2 (some .boolean) :: wAl
abbrev b_M_leave : ByteArray := prog_8_method_4_code
abbrev y_M_leave : MethodName := ⟨"PairChoiceModel", "leave", "()V"⟩
abbrev w_M_leave : List Cond := .code y_M_leave b_M_leave 1 none :: wAl
abbrev b_M_animal : ByteArray := prog_8_method_5_code
abbrev y_M_animal : MethodName := ⟨"PairChoiceModel", "animal", "(III)I"⟩
abbrev w_M_animal : List Cond := .code y_M_animal b_M_animal 4 (some .int) :: wAl
abbrev b_M_worth : ByteArray := prog_8_method_6_code
abbrev y_M_worth : MethodName := ⟨"PairChoiceModel", "worth", "(II)I"⟩
abbrev w_M_worth : List Cond := .code y_M_worth b_M_worth 4 (some .int) :: wAl
abbrev b_M_kin : ByteArray := prog_8_method_7_code
abbrev y_M_kin : MethodName := ⟨"PairChoiceModel", "kin", "(III)I"⟩
abbrev w_M_kin : List Cond := .code y_M_kin b_M_kin 5 (some .int) :: wAl
abbrev b_M_bar : ByteArray := prog_8_method_8_code
abbrev y_M_bar : MethodName := ⟨"PairChoiceModel", "bar", "(IIZ)Z"⟩
abbrev w_M_bar : List Cond := .code y_M_bar b_M_bar 4 (some .boolean) :: wAl
abbrev b_M_limit : ByteArray := prog_8_method_9_code
abbrev y_M_limit : MethodName := ⟨"PairChoiceModel", "limit", "(I)I"⟩
abbrev w_M_limit : List Cond := .code y_M_limit b_M_limit 3 (some .int) :: wAl
abbrev b_M_even : ByteArray := prog_8_method_10_code
abbrev y_M_even : MethodName := ⟨"PairChoiceModel", "even", "(I)I"⟩
abbrev w_M_even : List Cond := .code y_M_even b_M_even 3 (some .int) :: wAl
abbrev b_M_line : ByteArray := prog_8_method_11_code
abbrev y_M_line : MethodName := ⟨"PairChoiceModel", "line", "(II)I"⟩
abbrev w_M_line : List Cond := .code y_M_line b_M_line 4 (some .int) :: wAl
abbrev b_M_kinOf : ByteArray := prog_8_method_12_code
abbrev y_M_kinOf : MethodName := ⟨"PairChoiceModel", "kinOf", "(I)I"⟩
abbrev w_M_kinOf : List Cond := .code y_M_kinOf b_M_kinOf 5 (some .int) :: wAl
abbrev b_M_fitsFamilies : ByteArray := prog_8_method_13_code
abbrev y_M_fitsFamilies : MethodName := ⟨"PairChoiceModel", "fitsFamilies", "(I)Z"⟩
abbrev w_M_fitsFamilies : List Cond := .code y_M_fitsFamilies b_M_fitsFamilies 6 (some .boolean) :: wAl
abbrev b_M_part : ByteArray := prog_8_method_14_code
abbrev y_M_part : MethodName := ⟨"PairChoiceModel", "part", "(II)Z"⟩
abbrev w_M_part : List Cond := .code y_M_part b_M_part 6 (some .boolean) :: wAl
abbrev b_M_canPair : ByteArray := prog_8_method_15_code
abbrev y_M_canPair : MethodName := ⟨"PairChoiceModel", "canPair", "(II)Z"⟩
abbrev w_M_canPair : List Cond := .code y_M_canPair b_M_canPair 6 (some .boolean) :: wAl
abbrev b_M_fits : ByteArray := prog_8_method_16_code
abbrev y_M_fits : MethodName := ⟨"PairChoiceModel", "fits", "(II)Z"⟩
abbrev w_M_fits : List Cond := .code y_M_fits b_M_fits 3 (some .boolean) :: wAl
abbrev b_M_worthOf : ByteArray := prog_8_method_17_code
abbrev y_M_worthOf : MethodName := ⟨"PairChoiceModel", "worthOf", "(I)I"⟩
abbrev w_M_worthOf : List Cond := .code y_M_worthOf b_M_worthOf 4 (some .int) :: wAl
abbrev b_M_find : ByteArray := prog_8_method_18_code
abbrev y_M_find : MethodName := ⟨"PairChoiceModel", "find", "(II)Z"⟩
abbrev w_M_find : List Cond := .code y_M_find b_M_find 7 (some .boolean) :: wAl
abbrev b_M_all : ByteArray := prog_8_method_19_code
abbrev y_M_all : MethodName := ⟨"PairChoiceModel", "all", "()I"⟩
abbrev w_M_all : List Cond := .code y_M_all b_M_all 1 (some .int) :: wAl
abbrev b_M_run : ByteArray := prog_8_method_20_code
abbrev y_M_run : MethodName := ⟨"PairChoiceModel", "run", "(I)I"⟩
abbrev w_M_run : List Cond := .code y_M_run b_M_run 5 (some .int) :: wAl
abbrev b_M_pairOf : ByteArray := prog_8_method_21_code
abbrev y_M_pairOf : MethodName := ⟨"PairChoiceModel", "pairOf", "(II)I"⟩
abbrev w_M_pairOf : List Cond := .code y_M_pairOf b_M_pairOf 3 (some .int) :: wAl
abbrev b_M_told : ByteArray := prog_8_method_22_code
abbrev y_M_told : MethodName := ⟨"PairChoiceModel", "told", "(I)I"⟩
abbrev w_M_told : List Cond := .code y_M_told b_M_told 2 (some .int) :: wAl
abbrev b_M_pairWorth : ByteArray := prog_8_method_23_code
abbrev y_M_pairWorth : MethodName := ⟨"PairChoiceModel", "pairWorth", "(I)I"⟩
abbrev w_M_pairWorth : List Cond := .code y_M_pairWorth b_M_pairWorth 2 (some .int) :: wAl
abbrev b_M_eggs : ByteArray := prog_8_method_24_code
abbrev y_M_eggs : MethodName := ⟨"PairChoiceModel", "eggs", "(I)I"⟩
abbrev w_M_eggs : List Cond := .code y_M_eggs b_M_eggs 8 (some .int) :: wAl
abbrev b_M_eggsOf : ByteArray := prog_8_method_25_code
abbrev y_M_eggsOf : MethodName := ⟨"PairChoiceModel", "eggsOf", "(I)I"⟩
abbrev w_M_eggsOf : List Cond := .code y_M_eggsOf b_M_eggsOf 2 (some .int) :: wAl
abbrev b_M_backUp : ByteArray := prog_8_method_26_code
abbrev y_M_backUp : MethodName := ⟨"PairChoiceModel", "backUp", "(I)I"⟩
abbrev w_M_backUp : List Cond := .code y_M_backUp b_M_backUp 6 (some .int) :: wAl
abbrev b_M_test : ByteArray := prog_8_method_27_code
abbrev y_M_test : MethodName := ⟨"PairChoiceModel", "test", "(II)I"⟩
abbrev w_M_test : List Cond := .code y_M_test b_M_test 7 (some .int) :: wAl
abbrev b_M_dies : ByteArray := prog_8_method_28_code
abbrev y_M_dies : MethodName := ⟨"PairChoiceModel", "dies", "(IIIJ)Z"⟩
abbrev w_M_dies : List Cond := .code y_M_dies b_M_dies 7 (some .boolean) :: wAl
abbrev b_M_ahead : ByteArray := prog_8_method_29_code
abbrev y_M_ahead : MethodName := ⟨"PairChoiceModel", "ahead", "(IIJI)I"⟩
abbrev w_M_ahead : List Cond := .code y_M_ahead b_M_ahead 9 (some .int) :: wAl
abbrev b_M_after : ByteArray := prog_8_method_30_code
abbrev y_M_after : MethodName := ⟨"PairChoiceModel", "after", "(II)I"⟩
abbrev w_M_after : List Cond := .code y_M_after b_M_after 3 (some .int) :: wAl
abbrev b_Integer_bitCount : ByteArray := prog_9_method_49_code
abbrev y_Integer_bitCount : MethodName := ⟨"java/lang/Integer", "bitCount", "(I)I"⟩
abbrev w_Integer_bitCount : List Cond := .code y_Integer_bitCount b_Integer_bitCount 1 (some .int) :: wAl
def rm_Pairing_pairFrom (d : Nat) : Room := { frames := 1 * d + 4, cells := 0, slots := 0, locals := 27 * d + 80 }
end
section
theorem kw_0 : (.selects "PairChoice" ⟨"PairChoice", "forgetFindings", "()V"⟩ ⟨"PairChoice", "forgetFindings", "()V"⟩ : Cond) ∈ wAl := wAl_of (List.mem_of_getElem? (i := 0) (by decide +kernel)) (by decide +kernel)
theorem kw_1 : (.selects "PairChoice$Choice" ⟨"PairChoice$Choice", "drop", "()V"⟩ ⟨"PairChoice$Choice", "drop", "()V"⟩ : Cond) ∈ wAl := wAl_of (List.mem_of_getElem? (i := 1) (by decide +kernel)) (by decide +kernel)
theorem kw_2 : (.selects "PairChoice$SetList" ⟨"PairChoice$SetList", "forget", "()V"⟩ ⟨"PairChoice$SetList", "forget", "()V"⟩ : Cond) ∈ wAl := wAl_of (List.mem_of_getElem? (i := 2) (by decide +kernel)) (by decide +kernel)
theorem kw_3 : (.selects "PairChoice$Herd" ⟨"PairChoice$Herd", "add", "(III)I"⟩ ⟨"PairChoice$Herd", "add", "(III)I"⟩ : Cond) ∈ wAl := wAl_of (List.mem_of_getElem? (i := 3) (by decide +kernel)) (by decide +kernel)
theorem kw_4 : (.selects "PairChoice$Herd" ⟨"PairChoice$Herd", "knows", "(I)Z"⟩ ⟨"PairChoice$Herd", "knows", "(I)Z"⟩ : Cond) ∈ wAl := wAl_of (List.mem_of_getElem? (i := 4) (by decide +kernel)) (by decide +kernel)
theorem kw_5 : (.selects "PairChoice$SetList" ⟨"PairChoice$SetList", "listAll", "(I)V"⟩ ⟨"PairChoice$SetList", "listAll", "(I)V"⟩ : Cond) ∈ wAl := wAl_of (List.mem_of_getElem? (i := 5) (by decide +kernel)) (by decide +kernel)
theorem kw_6 : (.selects "PairChoice$SetList" ⟨"PairChoice$SetList", "listWithMales", "(I)V"⟩ ⟨"PairChoice$SetList", "listWithMales", "(I)V"⟩ : Cond) ∈ wAl := wAl_of (List.mem_of_getElem? (i := 6) (by decide +kernel)) (by decide +kernel)
theorem kw_7 : (.selects "PairChoice$Herd" ⟨"PairChoice$Herd", "all", "()I"⟩ ⟨"PairChoice$Herd", "all", "()I"⟩ : Cond) ∈ wAl := wAl_of (List.mem_of_getElem? (i := 7) (by decide +kernel)) (by decide +kernel)
theorem kw_8 : (.selects "PairChoice$SetList" ⟨"PairChoice$SetList", "listIfItMayBe", "(I)V"⟩ ⟨"PairChoice$SetList", "listIfItMayBe", "(I)V"⟩ : Cond) ∈ wAl := wAl_of (List.mem_of_getElem? (i := 8) (by decide +kernel)) (by decide +kernel)
theorem kw_9 : (.selects "PairChoice$Herd" ⟨"PairChoice$Herd", "keepsRules", "(II)Z"⟩ ⟨"PairChoice$Herd", "keepsRules", "(II)Z"⟩ : Cond) ∈ wAl := wAl_of (List.mem_of_getElem? (i := 9) (by decide +kernel)) (by decide +kernel)
theorem kw_10 : (.selects "PairChoice$Herd" ⟨"PairChoice$Herd", "keepsFamilies", "(I)Z"⟩ ⟨"PairChoice$Herd", "keepsFamilies", "(I)Z"⟩ : Cond) ∈ wAl := wAl_of (List.mem_of_getElem? (i := 10) (by decide +kernel)) (by decide +kernel)
theorem kw_11 : (.selects "PairChoice$Herd" ⟨"PairChoice$Herd", "kinSum", "(I)I"⟩ ⟨"PairChoice$Herd", "kinSum", "(I)I"⟩ : Cond) ∈ wAl := wAl_of (List.mem_of_getElem? (i := 11) (by decide +kernel)) (by decide +kernel)
theorem kw_12 : (.selects "PairChoice$Pairing" ⟨"PairChoice$Pairing", "pairSet", "(LPairChoice$Herd;I)Z"⟩ ⟨"PairChoice$Pairing", "pairSet", "(LPairChoice$Herd;I)Z"⟩ : Cond) ∈ wAl := wAl_of (List.mem_of_getElem? (i := 12) (by decide +kernel)) (by decide +kernel)
theorem kw_13 : (.selects "PairChoice$Pairing" ⟨"PairChoice$Pairing", "pairFrom", "(ILPairChoice$Herd;II)Z"⟩ ⟨"PairChoice$Pairing", "pairFrom", "(ILPairChoice$Herd;II)Z"⟩ : Cond) ∈ wAl := wAl_of (List.mem_of_getElem? (i := 13) (by decide +kernel)) (by decide +kernel)
theorem kw_14 : (.selects "PairChoice$Herd" ⟨"PairChoice$Herd", "worthSum", "(I)I"⟩ ⟨"PairChoice$Herd", "worthSum", "(I)I"⟩ : Cond) ∈ wAl := wAl_of (List.mem_of_getElem? (i := 14) (by decide +kernel)) (by decide +kernel)
theorem kw_15 : (.selects "PairChoice$SetList" ⟨"PairChoice$SetList", "best", "()I"⟩ ⟨"PairChoice$SetList", "best", "()I"⟩ : Cond) ∈ wAl := wAl_of (List.mem_of_getElem? (i := 15) (by decide +kernel)) (by decide +kernel)
theorem kw_16 : (.selects "PairChoice$Choice" ⟨"PairChoice$Choice", "take", "(III)V"⟩ ⟨"PairChoice$Choice", "take", "(III)V"⟩ : Cond) ∈ wAl := wAl_of (List.mem_of_getElem? (i := 16) (by decide +kernel)) (by decide +kernel)
theorem kw_17 : (.selects "PairChoice$Choice" ⟨"PairChoice$Choice", "hasPair", "(I)Z"⟩ ⟨"PairChoice$Choice", "hasPair", "(I)Z"⟩ : Cond) ∈ wAl := wAl_of (List.mem_of_getElem? (i := 17) (by decide +kernel)) (by decide +kernel)
theorem kw_18 : (.selects "PairChoice$Choice" ⟨"PairChoice$Choice", "shareOut", "(I)V"⟩ ⟨"PairChoice$Choice", "shareOut", "(I)V"⟩ : Cond) ∈ wAl := wAl_of (List.mem_of_getElem? (i := 18) (by decide +kernel)) (by decide +kernel)
theorem kw_19 : (.selects "PairChoice$Choice" ⟨"PairChoice$Choice", "leastPairWorth", "()I"⟩ ⟨"PairChoice$Choice", "leastPairWorth", "()I"⟩ : Cond) ∈ wAl := wAl_of (List.mem_of_getElem? (i := 19) (by decide +kernel)) (by decide +kernel)
theorem kw_20 : (.selects "PairChoice$Choice" ⟨"PairChoice$Choice", "pairWorth", "(I)I"⟩ ⟨"PairChoice$Choice", "pairWorth", "(I)I"⟩ : Cond) ∈ wAl := wAl_of (List.mem_of_getElem? (i := 20) (by decide +kernel)) (by decide +kernel)
theorem kw_21 : (.selects "PairChoice$Choice" ⟨"PairChoice$Choice", "giveLeftOnes", "(I)V"⟩ ⟨"PairChoice$Choice", "giveLeftOnes", "(I)V"⟩ : Cond) ∈ wAl := wAl_of (List.mem_of_getElem? (i := 21) (by decide +kernel)) (by decide +kernel)
theorem kw_22 : (.selects "PairChoice$Choice" ⟨"PairChoice$Choice", "greatestRest", "()I"⟩ ⟨"PairChoice$Choice", "greatestRest", "()I"⟩ : Cond) ∈ wAl := wAl_of (List.mem_of_getElem? (i := 22) (by decide +kernel)) (by decide +kernel)
theorem kw_23 : (.selects "PairChoice$Choice" ⟨"PairChoice$Choice", "couldStandIn", "(II)Z"⟩ ⟨"PairChoice$Choice", "couldStandIn", "(II)Z"⟩ : Cond) ∈ wAl := wAl_of (List.mem_of_getElem? (i := 23) (by decide +kernel)) (by decide +kernel)
theorem kw_24 : (.selects "PairChoice$SetList" ⟨"PairChoice$SetList", "greatestSumWith", "(II)I"⟩ ⟨"PairChoice$SetList", "greatestSumWith", "(II)I"⟩ : Cond) ∈ wAl := wAl_of (List.mem_of_getElem? (i := 24) (by decide +kernel)) (by decide +kernel)
theorem kw_25 : (.selects "PairChoice$SetList" ⟨"PairChoice$SetList", "greatestSumAmong", "(I)I"⟩ ⟨"PairChoice$SetList", "greatestSumAmong", "(I)I"⟩ : Cond) ∈ wAl := wAl_of (List.mem_of_getElem? (i := 25) (by decide +kernel)) (by decide +kernel)
theorem kw_26 : (.selects "PairChoice$Outlook" ⟨"PairChoice$Outlook", "note", "(III)V"⟩ ⟨"PairChoice$Outlook", "note", "(III)V"⟩ : Cond) ∈ wAl := wAl_of (List.mem_of_getElem? (i := 26) (by decide +kernel)) (by decide +kernel)
theorem kw_27 : (.selects "PairChoiceModel" ⟨"PairChoiceModel", "leave", "()V"⟩ ⟨"PairChoiceModel", "leave", "()V"⟩ : Cond) ∈ wAl := wAl_of (List.mem_of_getElem? (i := 27) (by decide +kernel)) (by decide +kernel)
theorem kw_28 : (.selects "PairChoiceModel" ⟨"PairChoiceModel", "isAnimal", "(I)Z"⟩ ⟨"PairChoiceModel", "isAnimal", "(I)Z"⟩ : Cond) ∈ wAl := wAl_of (List.mem_of_getElem? (i := 28) (by decide +kernel)) (by decide +kernel)
theorem kw_29 : (.selects "PairChoiceModel" ⟨"PairChoiceModel", "all", "()I"⟩ ⟨"PairChoiceModel", "all", "()I"⟩ : Cond) ∈ wAl := wAl_of (List.mem_of_getElem? (i := 29) (by decide +kernel)) (by decide +kernel)
theorem kw_30 : (.selects "PairChoiceModel" ⟨"PairChoiceModel", "find", "(II)Z"⟩ ⟨"PairChoiceModel", "find", "(II)Z"⟩ : Cond) ∈ wAl := wAl_of (List.mem_of_getElem? (i := 30) (by decide +kernel)) (by decide +kernel)
theorem kw_31 : (.selects "PairChoiceModel" ⟨"PairChoiceModel", "part", "(II)Z"⟩ ⟨"PairChoiceModel", "part", "(II)Z"⟩ : Cond) ∈ wAl := wAl_of (List.mem_of_getElem? (i := 31) (by decide +kernel)) (by decide +kernel)
theorem kw_32 : (.selects "PairChoiceModel" ⟨"PairChoiceModel", "fits", "(II)Z"⟩ ⟨"PairChoiceModel", "fits", "(II)Z"⟩ : Cond) ∈ wAl := wAl_of (List.mem_of_getElem? (i := 32) (by decide +kernel)) (by decide +kernel)
theorem kw_33 : (.selects "PairChoiceModel" ⟨"PairChoiceModel", "kinOf", "(I)I"⟩ ⟨"PairChoiceModel", "kinOf", "(I)I"⟩ : Cond) ∈ wAl := wAl_of (List.mem_of_getElem? (i := 33) (by decide +kernel)) (by decide +kernel)
theorem kw_34 : (.selects "PairChoiceModel" ⟨"PairChoiceModel", "fitsFamilies", "(I)Z"⟩ ⟨"PairChoiceModel", "fitsFamilies", "(I)Z"⟩ : Cond) ∈ wAl := wAl_of (List.mem_of_getElem? (i := 34) (by decide +kernel)) (by decide +kernel)
theorem kw_35 : (.selects "PairChoiceModel" ⟨"PairChoiceModel", "canPair", "(II)Z"⟩ ⟨"PairChoiceModel", "canPair", "(II)Z"⟩ : Cond) ∈ wAl := wAl_of (List.mem_of_getElem? (i := 35) (by decide +kernel)) (by decide +kernel)
theorem kw_36 : (.selects "PairChoiceModel" ⟨"PairChoiceModel", "worthOf", "(I)I"⟩ ⟨"PairChoiceModel", "worthOf", "(I)I"⟩ : Cond) ∈ wAl := wAl_of (List.mem_of_getElem? (i := 36) (by decide +kernel)) (by decide +kernel)
theorem kw_37 : (.selects "PairChoiceModel" ⟨"PairChoiceModel", "pairWorth", "(I)I"⟩ ⟨"PairChoiceModel", "pairWorth", "(I)I"⟩ : Cond) ∈ wAl := wAl_of (List.mem_of_getElem? (i := 37) (by decide +kernel)) (by decide +kernel)
theorem kw_39 : (.initialized "PairChoice" : Cond) ∈ wAl := wAl_of (List.mem_of_getElem? (i := 39) (by decide +kernel)) (by decide +kernel)
theorem kw_40 : (.initialized "PairChoice$Herd" : Cond) ∈ wAl := wAl_of (List.mem_of_getElem? (i := 40) (by decide +kernel)) (by decide +kernel)
theorem kw_41 : (.initialized "PairChoice$SetList" : Cond) ∈ wAl := wAl_of (List.mem_of_getElem? (i := 41) (by decide +kernel)) (by decide +kernel)
theorem kw_42 : (.initialized "PairChoice$Pairing" : Cond) ∈ wAl := wAl_of (List.mem_of_getElem? (i := 42) (by decide +kernel)) (by decide +kernel)
theorem kw_43 : (.initialized "PairChoice$Choice" : Cond) ∈ wAl := wAl_of (List.mem_of_getElem? (i := 43) (by decide +kernel)) (by decide +kernel)
theorem kw_44 : (.initialized "PairChoice$Outlook" : Cond) ∈ wAl := wAl_of (List.mem_of_getElem? (i := 44) (by decide +kernel)) (by decide +kernel)
theorem kw_45 : (.initialized "PairChoiceModel" : Cond) ∈ wAl := wAl_of (List.mem_of_getElem? (i := 45) (by decide +kernel)) (by decide +kernel)
theorem kw_46 : (.initialized "java/lang/Integer" : Cond) ∈ wAl := wAl_of (List.mem_of_getElem? (i := 46) (by decide +kernel)) (by decide +kernel)
theorem kw_47 : (.initialized "java/lang/Math" : Cond) ∈ wAl := wAl_of (List.mem_of_getElem? (i := 47) (by decide +kernel)) (by decide +kernel)
theorem kw_64 : (.fieldLink "PairChoice$Herd" 9 "PairChoice$Herd" "count" "I" : Cond) ∈ wAl := wAl_of (List.mem_of_getElem? (i := 64) (by decide +kernel)) (by decide +kernel)
theorem kw_67 : (.fieldLink "PairChoice$Herd" 15 "PairChoice$Herd" "males" "I" : Cond) ∈ wAl := wAl_of (List.mem_of_getElem? (i := 67) (by decide +kernel)) (by decide +kernel)
theorem kw_72 : (.fieldLink "PairChoice$Herd" 18 "PairChoice$Herd" "worths" "[I" : Cond) ∈ wAl := wAl_of (List.mem_of_getElem? (i := 72) (by decide +kernel)) (by decide +kernel)
theorem kw_75 : (.fieldLink "PairChoice$Herd" 22 "PairChoice$Herd" "families" "[I" : Cond) ∈ wAl := wAl_of (List.mem_of_getElem? (i := 75) (by decide +kernel)) (by decide +kernel)
theorem kw_76 : (.fieldLink "PairChoice$Herd" 27 "PairChoice$Herd" "kinships" "[[I" : Cond) ∈ wAl := wAl_of (List.mem_of_getElem? (i := 76) (by decide +kernel)) (by decide +kernel)
theorem kw_82 : (.fieldLink "PairChoice$Herd" 33 "PairChoice$Herd" "kinLimit" "I" : Cond) ∈ wAl := wAl_of (List.mem_of_getElem? (i := 82) (by decide +kernel)) (by decide +kernel)
theorem kw_84 : (.fieldLink "PairChoice$Herd" 36 "PairChoice$Herd" "mostOfFamily" "I" : Cond) ∈ wAl := wAl_of (List.mem_of_getElem? (i := 84) (by decide +kernel)) (by decide +kernel)
theorem kw_86 : (.fieldLink "PairChoice$Herd" 39 "PairChoice$Herd" "leastOfFamily" "[I" : Cond) ∈ wAl := wAl_of (List.mem_of_getElem? (i := 86) (by decide +kernel)) (by decide +kernel)
theorem kw_120 : (.fieldLink "PairChoice$Pairing" 9 "PairChoice$Pairing" "males" "[I" : Cond) ∈ wAl := wAl_of (List.mem_of_getElem? (i := 120) (by decide +kernel)) (by decide +kernel)
theorem kw_123 : (.fieldLink "PairChoice$Pairing" 15 "PairChoice$Pairing" "females" "[I" : Cond) ∈ wAl := wAl_of (List.mem_of_getElem? (i := 123) (by decide +kernel)) (by decide +kernel)
theorem kw_131 : (.fieldLink "PairChoice$SetList" 32 "PairChoice$SetList" "herd" "LPairChoice$Herd;" : Cond) ∈ wAl := wAl_of (List.mem_of_getElem? (i := 131) (by decide +kernel)) (by decide +kernel)
theorem kw_132 : (.fieldLink "PairChoice$SetList" 12 "PairChoice$SetList" "trial" "LPairChoice$Pairing;" : Cond) ∈ wAl := wAl_of (List.mem_of_getElem? (i := 132) (by decide +kernel)) (by decide +kernel)
theorem kw_133 : (.fieldLink "PairChoice$SetList" 18 "PairChoice$SetList" "listed" "[I" : Cond) ∈ wAl := wAl_of (List.mem_of_getElem? (i := 133) (by decide +kernel)) (by decide +kernel)
theorem kw_134 : (.fieldLink "PairChoice$SetList" 22 "PairChoice$SetList" "sums" "[I" : Cond) ∈ wAl := wAl_of (List.mem_of_getElem? (i := 134) (by decide +kernel)) (by decide +kernel)
theorem kw_135 : (.fieldLink "PairChoice$SetList" 25 "PairChoice$SetList" "size" "I" : Cond) ∈ wAl := wAl_of (List.mem_of_getElem? (i := 135) (by decide +kernel)) (by decide +kernel)
theorem kw_137 : (.fieldLink "PairChoice$SetList" 29 "PairChoice$SetList" "pairs" "I" : Cond) ∈ wAl := wAl_of (List.mem_of_getElem? (i := 137) (by decide +kernel)) (by decide +kernel)
theorem kw_159 : (.fieldLink "PairChoice$Choice" 36 "PairChoice$Choice" "herd" "LPairChoice$Herd;" : Cond) ∈ wAl := wAl_of (List.mem_of_getElem? (i := 159) (by decide +kernel)) (by decide +kernel)
theorem kw_160 : (.fieldLink "PairChoice$Choice" 12 "PairChoice$Choice" "pairing" "LPairChoice$Pairing;" : Cond) ∈ wAl := wAl_of (List.mem_of_getElem? (i := 160) (by decide +kernel)) (by decide +kernel)
theorem kw_162 : (.fieldLink "PairChoice$Choice" 18 "PairChoice$Choice" "pairs" "I" : Cond) ∈ wAl := wAl_of (List.mem_of_getElem? (i := 162) (by decide +kernel)) (by decide +kernel)
theorem kw_164 : (.fieldLink "PairChoice$Choice" 22 "PairChoice$Choice" "set" "I" : Cond) ∈ wAl := wAl_of (List.mem_of_getElem? (i := 164) (by decide +kernel)) (by decide +kernel)
theorem kw_166 : (.fieldLink "PairChoice$Choice" 25 "PairChoice$Choice" "setsThatMayBe" "I" : Cond) ∈ wAl := wAl_of (List.mem_of_getElem? (i := 166) (by decide +kernel)) (by decide +kernel)
theorem kw_168 : (.fieldLink "PairChoice$Choice" 28 "PairChoice$Choice" "eggShares" "[I" : Cond) ∈ wAl := wAl_of (List.mem_of_getElem? (i := 168) (by decide +kernel)) (by decide +kernel)
theorem kw_170 : (.fieldLink "PairChoice$Choice" 32 "PairChoice$Choice" "rests" "[J" : Cond) ∈ wAl := wAl_of (List.mem_of_getElem? (i := 170) (by decide +kernel)) (by decide +kernel)
theorem kw_195 : (.fieldLink "PairChoice$Outlook" 15 "PairChoice$Outlook" "alive" "[I" : Cond) ∈ wAl := wAl_of (List.mem_of_getElem? (i := 195) (by decide +kernel)) (by decide +kernel)
theorem kw_197 : (.fieldLink "PairChoice$Outlook" 19 "PairChoice$Outlook" "bestSums" "[I" : Cond) ∈ wAl := wAl_of (List.mem_of_getElem? (i := 197) (by decide +kernel)) (by decide +kernel)
theorem kw_206 : (.fieldLink "PairChoice" 10 "PairChoice" "herd" "LPairChoice$Herd;" : Cond) ∈ wAl := wAl_of (List.mem_of_getElem? (i := 206) (by decide +kernel)) (by decide +kernel)
theorem kw_207 : (.fieldLink "PairChoice" 21 "PairChoice" "sets" "LPairChoice$SetList;" : Cond) ∈ wAl := wAl_of (List.mem_of_getElem? (i := 207) (by decide +kernel)) (by decide +kernel)
theorem kw_208 : (.fieldLink "PairChoice" 28 "PairChoice" "choice" "LPairChoice$Choice;" : Cond) ∈ wAl := wAl_of (List.mem_of_getElem? (i := 208) (by decide +kernel)) (by decide +kernel)
theorem kw_209 : (.fieldLink "PairChoice" 35 "PairChoice" "outlook" "LPairChoice$Outlook;" : Cond) ∈ wAl := wAl_of (List.mem_of_getElem? (i := 209) (by decide +kernel)) (by decide +kernel)
theorem kw_223 : (.methodLink "PairChoice" 39 ⟨"PairChoice", "isWithin", "(III)Z"⟩ : Cond) ∈ wAl := wAl_of (List.mem_of_getElem? (i := 223) (by decide +kernel)) (by decide +kernel)
theorem kw_224 : (.static ⟨"PairChoice", "isWithin", "(III)Z"⟩ : Cond) ∈ wAl := wAl_of (List.mem_of_getElem? (i := 224) (by decide +kernel)) (by decide +kernel)
theorem kw_225 : (.code ⟨"PairChoice", "isWithin", "(III)Z"⟩ prog_1_method_21_code 3 (some .boolean) : Cond) ∈ wAl := wAl_of (List.mem_of_getElem? (i := 225) (by decide +kernel)) (by decide +kernel)
theorem kw_226 : (.methodLink "PairChoice" 43 ⟨"PairChoice", "isWorth", "(I)Z"⟩ : Cond) ∈ wAl := wAl_of (List.mem_of_getElem? (i := 226) (by decide +kernel)) (by decide +kernel)
theorem kw_227 : (.static ⟨"PairChoice", "isWorth", "(I)Z"⟩ : Cond) ∈ wAl := wAl_of (List.mem_of_getElem? (i := 227) (by decide +kernel)) (by decide +kernel)
theorem kw_228 : (.code ⟨"PairChoice", "isWorth", "(I)Z"⟩ prog_1_method_22_code 1 (some .boolean) : Cond) ∈ wAl := wAl_of (List.mem_of_getElem? (i := 228) (by decide +kernel)) (by decide +kernel)
theorem kw_229 : (.methodLink "PairChoice" 51 ⟨"PairChoice", "forgetFindings", "()V"⟩ : Cond) ∈ wAl := wAl_of (List.mem_of_getElem? (i := 229) (by decide +kernel)) (by decide +kernel)
theorem kw_231 : (.instanceMethod ⟨"PairChoice", "forgetFindings", "()V"⟩ : Cond) ∈ wAl := wAl_of (List.mem_of_getElem? (i := 231) (by decide +kernel)) (by decide +kernel)
theorem kw_232 : (.code ⟨"PairChoice", "forgetFindings", "()V"⟩ prog_1_method_18_code 1 none : Cond) ∈ wAl := wAl_of (List.mem_of_getElem? (i := 232) (by decide +kernel)) (by decide +kernel)
theorem kw_235 : (.instanceMethod ⟨"PairChoice$Choice", "drop", "()V"⟩ : Cond) ∈ wAl := wAl_of (List.mem_of_getElem? (i := 235) (by decide +kernel)) (by decide +kernel)
theorem kw_236 : (.code ⟨"PairChoice$Choice", "drop", "()V"⟩ prog_2_method_2_code 1 none : Cond) ∈ wAl := wAl_of (List.mem_of_getElem? (i := 236) (by decide +kernel)) (by decide +kernel)
theorem kw_239 : (.instanceMethod ⟨"PairChoice$SetList", "forget", "()V"⟩ : Cond) ∈ wAl := wAl_of (List.mem_of_getElem? (i := 239) (by decide +kernel)) (by decide +kernel)
theorem kw_240 : (.code ⟨"PairChoice$SetList", "forget", "()V"⟩ prog_6_method_2_code 1 none : Cond) ∈ wAl := wAl_of (List.mem_of_getElem? (i := 240) (by decide +kernel)) (by decide +kernel)
theorem kw_243 : (.instanceMethod ⟨"PairChoice$Herd", "add", "(III)I"⟩ : Cond) ∈ wAl := wAl_of (List.mem_of_getElem? (i := 243) (by decide +kernel)) (by decide +kernel)
theorem kw_244 : (.code ⟨"PairChoice$Herd", "add", "(III)I"⟩ prog_3_method_4_code 5 (some .int) : Cond) ∈ wAl := wAl_of (List.mem_of_getElem? (i := 244) (by decide +kernel)) (by decide +kernel)
theorem kw_246 : (.static ⟨"PairChoice", "bit", "(I)I"⟩ : Cond) ∈ wAl := wAl_of (List.mem_of_getElem? (i := 246) (by decide +kernel)) (by decide +kernel)
theorem kw_247 : (.code ⟨"PairChoice", "bit", "(I)I"⟩ prog_1_method_24_code 1 (some .int) : Cond) ∈ wAl := wAl_of (List.mem_of_getElem? (i := 247) (by decide +kernel)) (by decide +kernel)
theorem kw_254 : (.instanceMethod ⟨"PairChoice$Herd", "knows", "(I)Z"⟩ : Cond) ∈ wAl := wAl_of (List.mem_of_getElem? (i := 254) (by decide +kernel)) (by decide +kernel)
theorem kw_255 : (.code ⟨"PairChoice$Herd", "knows", "(I)Z"⟩ prog_3_method_2_code 2 (some .boolean) : Cond) ∈ wAl := wAl_of (List.mem_of_getElem? (i := 255) (by decide +kernel)) (by decide +kernel)
theorem kw_264 : (.methodLink "PairChoice" 72 ⟨"PairChoice", "has", "(II)Z"⟩ : Cond) ∈ wAl := wAl_of (List.mem_of_getElem? (i := 264) (by decide +kernel)) (by decide +kernel)
theorem kw_265 : (.static ⟨"PairChoice", "has", "(II)Z"⟩ : Cond) ∈ wAl := wAl_of (List.mem_of_getElem? (i := 265) (by decide +kernel)) (by decide +kernel)
theorem kw_266 : (.code ⟨"PairChoice", "has", "(II)Z"⟩ prog_1_method_25_code 2 (some .boolean) : Cond) ∈ wAl := wAl_of (List.mem_of_getElem? (i := 266) (by decide +kernel)) (by decide +kernel)
theorem kw_267 : (.methodLink "PairChoice" 79 ⟨"PairChoice", "bit", "(I)I"⟩ : Cond) ∈ wAl := wAl_of (List.mem_of_getElem? (i := 267) (by decide +kernel)) (by decide +kernel)
theorem kw_284 : (.methodLink "PairChoice" 92 ⟨"PairChoice", "isNumberOfPairs", "(I)Z"⟩ : Cond) ∈ wAl := wAl_of (List.mem_of_getElem? (i := 284) (by decide +kernel)) (by decide +kernel)
theorem kw_285 : (.static ⟨"PairChoice", "isNumberOfPairs", "(I)Z"⟩ : Cond) ∈ wAl := wAl_of (List.mem_of_getElem? (i := 285) (by decide +kernel)) (by decide +kernel)
theorem kw_286 : (.code ⟨"PairChoice", "isNumberOfPairs", "(I)Z"⟩ prog_1_method_23_code 1 (some .boolean) : Cond) ∈ wAl := wAl_of (List.mem_of_getElem? (i := 286) (by decide +kernel)) (by decide +kernel)
theorem kw_289 : (.instanceMethod ⟨"PairChoice$SetList", "listAll", "(I)V"⟩ : Cond) ∈ wAl := wAl_of (List.mem_of_getElem? (i := 289) (by decide +kernel)) (by decide +kernel)
theorem kw_290 : (.code ⟨"PairChoice$SetList", "listAll", "(I)V"⟩ prog_6_method_3_code 3 none : Cond) ∈ wAl := wAl_of (List.mem_of_getElem? (i := 290) (by decide +kernel)) (by decide +kernel)
theorem kw_291 : (.methodLink "PairChoice$SetList" 41 ⟨"java/lang/Integer", "bitCount", "(I)I"⟩ : Cond) ∈ wAl := wAl_of (List.mem_of_getElem? (i := 291) (by decide +kernel)) (by decide +kernel)
theorem kw_292 : (.static ⟨"java/lang/Integer", "bitCount", "(I)I"⟩ : Cond) ∈ wAl := wAl_of (List.mem_of_getElem? (i := 292) (by decide +kernel)) (by decide +kernel)
theorem kw_293 : (.code ⟨"java/lang/Integer", "bitCount", "(I)I"⟩ prog_9_method_49_code 1 (some .int) : Cond) ∈ wAl := wAl_of (List.mem_of_getElem? (i := 293) (by decide +kernel)) (by decide +kernel)
theorem kw_294 : (.constant "java/lang/Integer" 265 (1431655765) : Cond) ∈ wAl := wAl_of (List.mem_of_getElem? (i := 294) (by decide +kernel)) (by decide +kernel)
theorem kw_295 : (.constant "java/lang/Integer" 266 (858993459) : Cond) ∈ wAl := wAl_of (List.mem_of_getElem? (i := 295) (by decide +kernel)) (by decide +kernel)
theorem kw_296 : (.constant "java/lang/Integer" 267 (252645135) : Cond) ∈ wAl := wAl_of (List.mem_of_getElem? (i := 296) (by decide +kernel)) (by decide +kernel)
theorem kw_297 : (.methodLink "PairChoice$SetList" 47 ⟨"PairChoice$SetList", "listWithMales", "(I)V"⟩ : Cond) ∈ wAl := wAl_of (List.mem_of_getElem? (i := 297) (by decide +kernel)) (by decide +kernel)
theorem kw_299 : (.instanceMethod ⟨"PairChoice$SetList", "listWithMales", "(I)V"⟩ : Cond) ∈ wAl := wAl_of (List.mem_of_getElem? (i := 299) (by decide +kernel)) (by decide +kernel)
theorem kw_300 : (.code ⟨"PairChoice$SetList", "listWithMales", "(I)V"⟩ prog_6_method_4_code 4 none : Cond) ∈ wAl := wAl_of (List.mem_of_getElem? (i := 300) (by decide +kernel)) (by decide +kernel)
theorem kw_303 : (.instanceMethod ⟨"PairChoice$Herd", "all", "()I"⟩ : Cond) ∈ wAl := wAl_of (List.mem_of_getElem? (i := 303) (by decide +kernel)) (by decide +kernel)
theorem kw_304 : (.code ⟨"PairChoice$Herd", "all", "()I"⟩ prog_3_method_3_code 1 (some .int) : Cond) ∈ wAl := wAl_of (List.mem_of_getElem? (i := 304) (by decide +kernel)) (by decide +kernel)
theorem kw_305 : (.methodLink "PairChoice$SetList" 55 ⟨"PairChoice$SetList", "listIfItMayBe", "(I)V"⟩ : Cond) ∈ wAl := wAl_of (List.mem_of_getElem? (i := 305) (by decide +kernel)) (by decide +kernel)
theorem kw_307 : (.instanceMethod ⟨"PairChoice$SetList", "listIfItMayBe", "(I)V"⟩ : Cond) ∈ wAl := wAl_of (List.mem_of_getElem? (i := 307) (by decide +kernel)) (by decide +kernel)
theorem kw_308 : (.code ⟨"PairChoice$SetList", "listIfItMayBe", "(I)V"⟩ prog_6_method_5_code 2 none : Cond) ∈ wAl := wAl_of (List.mem_of_getElem? (i := 308) (by decide +kernel)) (by decide +kernel)
theorem kw_311 : (.instanceMethod ⟨"PairChoice$Herd", "keepsRules", "(II)Z"⟩ : Cond) ∈ wAl := wAl_of (List.mem_of_getElem? (i := 311) (by decide +kernel)) (by decide +kernel)
theorem kw_312 : (.code ⟨"PairChoice$Herd", "keepsRules", "(II)Z"⟩ prog_3_method_8_code 3 (some .boolean) : Cond) ∈ wAl := wAl_of (List.mem_of_getElem? (i := 312) (by decide +kernel)) (by decide +kernel)
theorem kw_313 : (.methodLink "PairChoice$Herd" 55 ⟨"PairChoice$Herd", "keepsFamilies", "(I)Z"⟩ : Cond) ∈ wAl := wAl_of (List.mem_of_getElem? (i := 313) (by decide +kernel)) (by decide +kernel)
theorem kw_315 : (.instanceMethod ⟨"PairChoice$Herd", "keepsFamilies", "(I)Z"⟩ : Cond) ∈ wAl := wAl_of (List.mem_of_getElem? (i := 315) (by decide +kernel)) (by decide +kernel)
theorem kw_316 : (.code ⟨"PairChoice$Herd", "keepsFamilies", "(I)Z"⟩ prog_3_method_7_code 4 (some .boolean) : Cond) ∈ wAl := wAl_of (List.mem_of_getElem? (i := 316) (by decide +kernel)) (by decide +kernel)
theorem kw_317 : (.methodLink "PairChoice$Herd" 50 ⟨"java/lang/Integer", "bitCount", "(I)I"⟩ : Cond) ∈ wAl := wAl_of (List.mem_of_getElem? (i := 317) (by decide +kernel)) (by decide +kernel)
theorem kw_318 : (.methodLink "PairChoice$Herd" 59 ⟨"PairChoice$Herd", "kinSum", "(I)I"⟩ : Cond) ∈ wAl := wAl_of (List.mem_of_getElem? (i := 318) (by decide +kernel)) (by decide +kernel)
theorem kw_320 : (.instanceMethod ⟨"PairChoice$Herd", "kinSum", "(I)I"⟩ : Cond) ∈ wAl := wAl_of (List.mem_of_getElem? (i := 320) (by decide +kernel)) (by decide +kernel)
theorem kw_321 : (.code ⟨"PairChoice$Herd", "kinSum", "(I)I"⟩ prog_3_method_6_code 5 (some .int) : Cond) ∈ wAl := wAl_of (List.mem_of_getElem? (i := 321) (by decide +kernel)) (by decide +kernel)
theorem kw_325 : (.instanceMethod ⟨"PairChoice$Pairing", "pairSet", "(LPairChoice$Herd;I)Z"⟩ : Cond) ∈ wAl := wAl_of (List.mem_of_getElem? (i := 325) (by decide +kernel)) (by decide +kernel)
theorem kw_326 : (.code ⟨"PairChoice$Pairing", "pairSet", "(LPairChoice$Herd;I)Z"⟩ prog_5_method_2_code 3 (some .boolean) : Cond) ∈ wAl := wAl_of (List.mem_of_getElem? (i := 326) (by decide +kernel)) (by decide +kernel)
theorem kw_327 : (.methodLink "PairChoice$Pairing" 23 ⟨"PairChoice$Pairing", "pairFrom", "(ILPairChoice$Herd;II)Z"⟩ : Cond) ∈ wAl := wAl_of (List.mem_of_getElem? (i := 327) (by decide +kernel)) (by decide +kernel)
theorem kw_329 : (.instanceMethod ⟨"PairChoice$Pairing", "pairFrom", "(ILPairChoice$Herd;II)Z"⟩ : Cond) ∈ wAl := wAl_of (List.mem_of_getElem? (i := 329) (by decide +kernel)) (by decide +kernel)
theorem kw_330 : (.code ⟨"PairChoice$Pairing", "pairFrom", "(ILPairChoice$Herd;II)Z"⟩ prog_5_method_3_code 8 (some .boolean) : Cond) ∈ wAl := wAl_of (List.mem_of_getElem? (i := 330) (by decide +kernel)) (by decide +kernel)
theorem kw_332 : (.static ⟨"PairChoice", "leastOf", "(I)I"⟩ : Cond) ∈ wAl := wAl_of (List.mem_of_getElem? (i := 332) (by decide +kernel)) (by decide +kernel)
theorem kw_333 : (.code ⟨"PairChoice", "leastOf", "(I)I"⟩ prog_1_method_26_code 1 (some .int) : Cond) ∈ wAl := wAl_of (List.mem_of_getElem? (i := 333) (by decide +kernel)) (by decide +kernel)
theorem kw_334 : (.methodLink "PairChoice" 169 ⟨"java/lang/Integer", "bitCount", "(I)I"⟩ : Cond) ∈ wAl := wAl_of (List.mem_of_getElem? (i := 334) (by decide +kernel)) (by decide +kernel)
theorem kw_340 : (.instanceMethod ⟨"PairChoice$Herd", "worthSum", "(I)I"⟩ : Cond) ∈ wAl := wAl_of (List.mem_of_getElem? (i := 340) (by decide +kernel)) (by decide +kernel)
theorem kw_341 : (.code ⟨"PairChoice$Herd", "worthSum", "(I)I"⟩ prog_3_method_5_code 4 (some .int) : Cond) ∈ wAl := wAl_of (List.mem_of_getElem? (i := 341) (by decide +kernel)) (by decide +kernel)
theorem kw_344 : (.instanceMethod ⟨"PairChoice$SetList", "best", "()I"⟩ : Cond) ∈ wAl := wAl_of (List.mem_of_getElem? (i := 344) (by decide +kernel)) (by decide +kernel)
theorem kw_345 : (.code ⟨"PairChoice$SetList", "best", "()I"⟩ prog_6_method_6_code 4 (some .int) : Cond) ∈ wAl := wAl_of (List.mem_of_getElem? (i := 345) (by decide +kernel)) (by decide +kernel)
theorem kw_346 : (.constant "PairChoice$SetList" 69 (-100000000) : Cond) ∈ wAl := wAl_of (List.mem_of_getElem? (i := 346) (by decide +kernel)) (by decide +kernel)
theorem kw_347 : (.methodLink "PairChoice$SetList" 70 ⟨"PairChoice$SetList", "goesBefore", "(II)Z"⟩ : Cond) ∈ wAl := wAl_of (List.mem_of_getElem? (i := 347) (by decide +kernel)) (by decide +kernel)
theorem kw_348 : (.static ⟨"PairChoice$SetList", "goesBefore", "(II)Z"⟩ : Cond) ∈ wAl := wAl_of (List.mem_of_getElem? (i := 348) (by decide +kernel)) (by decide +kernel)
theorem kw_349 : (.code ⟨"PairChoice$SetList", "goesBefore", "(II)Z"⟩ prog_6_method_7_code 3 (some .boolean) : Cond) ∈ wAl := wAl_of (List.mem_of_getElem? (i := 349) (by decide +kernel)) (by decide +kernel)
theorem kw_352 : (.instanceMethod ⟨"PairChoice$Choice", "take", "(III)V"⟩ : Cond) ∈ wAl := wAl_of (List.mem_of_getElem? (i := 352) (by decide +kernel)) (by decide +kernel)
theorem kw_353 : (.code ⟨"PairChoice$Choice", "take", "(III)V"⟩ prog_2_method_3_code 5 none : Cond) ∈ wAl := wAl_of (List.mem_of_getElem? (i := 353) (by decide +kernel)) (by decide +kernel)
theorem kw_361 : (.instanceMethod ⟨"PairChoice$Choice", "hasPair", "(I)Z"⟩ : Cond) ∈ wAl := wAl_of (List.mem_of_getElem? (i := 361) (by decide +kernel)) (by decide +kernel)
theorem kw_362 : (.code ⟨"PairChoice$Choice", "hasPair", "(I)Z"⟩ prog_2_method_4_code 2 (some .boolean) : Cond) ∈ wAl := wAl_of (List.mem_of_getElem? (i := 362) (by decide +kernel)) (by decide +kernel)
theorem kw_373 : (.constant "PairChoice" 142 (100000) : Cond) ∈ wAl := wAl_of (List.mem_of_getElem? (i := 373) (by decide +kernel)) (by decide +kernel)
theorem kw_376 : (.instanceMethod ⟨"PairChoice$Choice", "shareOut", "(I)V"⟩ : Cond) ∈ wAl := wAl_of (List.mem_of_getElem? (i := 376) (by decide +kernel)) (by decide +kernel)
theorem kw_377 : (.code ⟨"PairChoice$Choice", "shareOut", "(I)V"⟩ prog_2_method_7_code 9 none : Cond) ∈ wAl := wAl_of (List.mem_of_getElem? (i := 377) (by decide +kernel)) (by decide +kernel)
theorem kw_378 : (.methodLink "PairChoice$Choice" 65 ⟨"PairChoice$Choice", "leastPairWorth", "()I"⟩ : Cond) ∈ wAl := wAl_of (List.mem_of_getElem? (i := 378) (by decide +kernel)) (by decide +kernel)
theorem kw_380 : (.instanceMethod ⟨"PairChoice$Choice", "leastPairWorth", "()I"⟩ : Cond) ∈ wAl := wAl_of (List.mem_of_getElem? (i := 380) (by decide +kernel)) (by decide +kernel)
theorem kw_381 : (.code ⟨"PairChoice$Choice", "leastPairWorth", "()I"⟩ prog_2_method_6_code 3 (some .int) : Cond) ∈ wAl := wAl_of (List.mem_of_getElem? (i := 381) (by decide +kernel)) (by decide +kernel)
theorem kw_382 : (.methodLink "PairChoice$Choice" 55 ⟨"PairChoice$Choice", "pairWorth", "(I)I"⟩ : Cond) ∈ wAl := wAl_of (List.mem_of_getElem? (i := 382) (by decide +kernel)) (by decide +kernel)
theorem kw_384 : (.instanceMethod ⟨"PairChoice$Choice", "pairWorth", "(I)I"⟩ : Cond) ∈ wAl := wAl_of (List.mem_of_getElem? (i := 384) (by decide +kernel)) (by decide +kernel)
theorem kw_385 : (.code ⟨"PairChoice$Choice", "pairWorth", "(I)I"⟩ prog_2_method_5_code 2 (some .int) : Cond) ∈ wAl := wAl_of (List.mem_of_getElem? (i := 385) (by decide +kernel)) (by decide +kernel)
theorem kw_386 : (.methodLink "PairChoice$Choice" 59 ⟨"java/lang/Math", "min", "(II)I"⟩ : Cond) ∈ wAl := wAl_of (List.mem_of_getElem? (i := 386) (by decide +kernel)) (by decide +kernel)
theorem kw_387 : (.static ⟨"java/lang/Math", "min", "(II)I"⟩ : Cond) ∈ wAl := wAl_of (List.mem_of_getElem? (i := 387) (by decide +kernel)) (by decide +kernel)
theorem kw_388 : (.code ⟨"java/lang/Math", "min", "(II)I"⟩ prog_10_method_69_code 2 (some .int) : Cond) ∈ wAl := wAl_of (List.mem_of_getElem? (i := 388) (by decide +kernel)) (by decide +kernel)
theorem kw_389 : (.methodLink "PairChoice$Choice" 69 ⟨"PairChoice$Choice", "giveLeftOnes", "(I)V"⟩ : Cond) ∈ wAl := wAl_of (List.mem_of_getElem? (i := 389) (by decide +kernel)) (by decide +kernel)
theorem kw_391 : (.instanceMethod ⟨"PairChoice$Choice", "giveLeftOnes", "(I)V"⟩ : Cond) ∈ wAl := wAl_of (List.mem_of_getElem? (i := 391) (by decide +kernel)) (by decide +kernel)
theorem kw_392 : (.code ⟨"PairChoice$Choice", "giveLeftOnes", "(I)V"⟩ prog_2_method_8_code 4 none : Cond) ∈ wAl := wAl_of (List.mem_of_getElem? (i := 392) (by decide +kernel)) (by decide +kernel)
theorem kw_393 : (.methodLink "PairChoice$Choice" 73 ⟨"PairChoice$Choice", "greatestRest", "()I"⟩ : Cond) ∈ wAl := wAl_of (List.mem_of_getElem? (i := 393) (by decide +kernel)) (by decide +kernel)
theorem kw_395 : (.instanceMethod ⟨"PairChoice$Choice", "greatestRest", "()I"⟩ : Cond) ∈ wAl := wAl_of (List.mem_of_getElem? (i := 395) (by decide +kernel)) (by decide +kernel)
theorem kw_396 : (.code ⟨"PairChoice$Choice", "greatestRest", "()I"⟩ prog_2_method_9_code 3 (some .int) : Cond) ∈ wAl := wAl_of (List.mem_of_getElem? (i := 396) (by decide +kernel)) (by decide +kernel)
theorem kw_397 : (.constantLong "PairChoice$Choice" 76 (-1) : Cond) ∈ wAl := wAl_of (List.mem_of_getElem? (i := 397) (by decide +kernel)) (by decide +kernel)
theorem kw_408 : (.instanceMethod ⟨"PairChoice$Choice", "couldStandIn", "(II)Z"⟩ : Cond) ∈ wAl := wAl_of (List.mem_of_getElem? (i := 408) (by decide +kernel)) (by decide +kernel)
theorem kw_409 : (.code ⟨"PairChoice$Choice", "couldStandIn", "(II)Z"⟩ prog_2_method_10_code 4 (some .boolean) : Cond) ∈ wAl := wAl_of (List.mem_of_getElem? (i := 409) (by decide +kernel)) (by decide +kernel)
theorem kw_417 : (.constant "PairChoice" 152 (-100000000) : Cond) ∈ wAl := wAl_of (List.mem_of_getElem? (i := 417) (by decide +kernel)) (by decide +kernel)
theorem kw_420 : (.instanceMethod ⟨"PairChoice$SetList", "greatestSumWith", "(II)I"⟩ : Cond) ∈ wAl := wAl_of (List.mem_of_getElem? (i := 420) (by decide +kernel)) (by decide +kernel)
theorem kw_421 : (.code ⟨"PairChoice$SetList", "greatestSumWith", "(II)I"⟩ prog_6_method_8_code 6 (some .int) : Cond) ∈ wAl := wAl_of (List.mem_of_getElem? (i := 421) (by decide +kernel)) (by decide +kernel)
theorem kw_423 : (.methodLink "PairChoice$SetList" 76 ⟨"java/lang/Math", "max", "(II)I"⟩ : Cond) ∈ wAl := wAl_of (List.mem_of_getElem? (i := 423) (by decide +kernel)) (by decide +kernel)
theorem kw_424 : (.static ⟨"java/lang/Math", "max", "(II)I"⟩ : Cond) ∈ wAl := wAl_of (List.mem_of_getElem? (i := 424) (by decide +kernel)) (by decide +kernel)
theorem kw_425 : (.code ⟨"java/lang/Math", "max", "(II)I"⟩ prog_10_method_65_code 2 (some .int) : Cond) ∈ wAl := wAl_of (List.mem_of_getElem? (i := 425) (by decide +kernel)) (by decide +kernel)
theorem kw_431 : (.constantLong "PairChoice" 163 (16) : Cond) ∈ wAl := wAl_of (List.mem_of_getElem? (i := 431) (by decide +kernel)) (by decide +kernel)
theorem kw_432 : (.methodLink "PairChoice" 165 ⟨"PairChoice", "survivors", "(IJI)I"⟩ : Cond) ∈ wAl := wAl_of (List.mem_of_getElem? (i := 432) (by decide +kernel)) (by decide +kernel)
theorem kw_433 : (.static ⟨"PairChoice", "survivors", "(IJI)I"⟩ : Cond) ∈ wAl := wAl_of (List.mem_of_getElem? (i := 433) (by decide +kernel)) (by decide +kernel)
theorem kw_434 : (.code ⟨"PairChoice", "survivors", "(IJI)I"⟩ prog_1_method_19_code 6 (some .int) : Cond) ∈ wAl := wAl_of (List.mem_of_getElem? (i := 434) (by decide +kernel)) (by decide +kernel)
theorem kw_435 : (.methodLink "PairChoice" 189 ⟨"PairChoice", "fate", "(J)J"⟩ : Cond) ∈ wAl := wAl_of (List.mem_of_getElem? (i := 435) (by decide +kernel)) (by decide +kernel)
theorem kw_436 : (.static ⟨"PairChoice", "fate", "(J)J"⟩ : Cond) ∈ wAl := wAl_of (List.mem_of_getElem? (i := 436) (by decide +kernel)) (by decide +kernel)
theorem kw_437 : (.code ⟨"PairChoice", "fate", "(J)J"⟩ prog_1_method_20_code 4 (some .long) : Cond) ∈ wAl := wAl_of (List.mem_of_getElem? (i := 437) (by decide +kernel)) (by decide +kernel)
theorem kw_438 : (.constantLong "PairChoice" 193 (-7046029254386353131) : Cond) ∈ wAl := wAl_of (List.mem_of_getElem? (i := 438) (by decide +kernel)) (by decide +kernel)
theorem kw_439 : (.constantLong "PairChoice" 195 (-4658895280553007687) : Cond) ∈ wAl := wAl_of (List.mem_of_getElem? (i := 439) (by decide +kernel)) (by decide +kernel)
theorem kw_440 : (.constantLong "PairChoice" 197 (1000) : Cond) ∈ wAl := wAl_of (List.mem_of_getElem? (i := 440) (by decide +kernel)) (by decide +kernel)
theorem kw_443 : (.instanceMethod ⟨"PairChoice$SetList", "greatestSumAmong", "(I)I"⟩ : Cond) ∈ wAl := wAl_of (List.mem_of_getElem? (i := 443) (by decide +kernel)) (by decide +kernel)
theorem kw_444 : (.code ⟨"PairChoice$SetList", "greatestSumAmong", "(I)I"⟩ prog_6_method_9_code 4 (some .int) : Cond) ∈ wAl := wAl_of (List.mem_of_getElem? (i := 444) (by decide +kernel)) (by decide +kernel)
theorem kw_447 : (.instanceMethod ⟨"PairChoice$Outlook", "note", "(III)V"⟩ : Cond) ∈ wAl := wAl_of (List.mem_of_getElem? (i := 447) (by decide +kernel)) (by decide +kernel)
theorem kw_448 : (.code ⟨"PairChoice$Outlook", "note", "(III)V"⟩ prog_4_method_2_code 4 none : Cond) ∈ wAl := wAl_of (List.mem_of_getElem? (i := 448) (by decide +kernel)) (by decide +kernel)
theorem kw_459 : (.fieldLink "PairChoiceModel" 72 "PairChoiceModel" "animals" "I" : Cond) ∈ wAl := wAl_of (List.mem_of_getElem? (i := 459) (by decide +kernel)) (by decide +kernel)
theorem kw_460 : (.fieldLink "PairChoiceModel" 7 "PairChoiceModel" "sexes" "[I" : Cond) ∈ wAl := wAl_of (List.mem_of_getElem? (i := 460) (by decide +kernel)) (by decide +kernel)
theorem kw_461 : (.fieldLink "PairChoiceModel" 13 "PairChoiceModel" "worths" "[I" : Cond) ∈ wAl := wAl_of (List.mem_of_getElem? (i := 461) (by decide +kernel)) (by decide +kernel)
theorem kw_462 : (.fieldLink "PairChoiceModel" 16 "PairChoiceModel" "families" "[I" : Cond) ∈ wAl := wAl_of (List.mem_of_getElem? (i := 462) (by decide +kernel)) (by decide +kernel)
theorem kw_463 : (.fieldLink "PairChoiceModel" 19 "PairChoiceModel" "kins" "[I" : Cond) ∈ wAl := wAl_of (List.mem_of_getElem? (i := 463) (by decide +kernel)) (by decide +kernel)
theorem kw_464 : (.fieldLink "PairChoiceModel" 22 "PairChoiceModel" "isBarred" "[Z" : Cond) ∈ wAl := wAl_of (List.mem_of_getElem? (i := 464) (by decide +kernel)) (by decide +kernel)
theorem kw_465 : (.fieldLink "PairChoiceModel" 26 "PairChoiceModel" "limit" "I" : Cond) ∈ wAl := wAl_of (List.mem_of_getElem? (i := 465) (by decide +kernel)) (by decide +kernel)
theorem kw_466 : (.fieldLink "PairChoiceModel" 89 "PairChoiceModel" "most" "I" : Cond) ∈ wAl := wAl_of (List.mem_of_getElem? (i := 466) (by decide +kernel)) (by decide +kernel)
theorem kw_467 : (.fieldLink "PairChoiceModel" 30 "PairChoiceModel" "leasts" "[I" : Cond) ∈ wAl := wAl_of (List.mem_of_getElem? (i := 467) (by decide +kernel)) (by decide +kernel)
theorem kw_468 : (.fieldLink "PairChoiceModel" 33 "PairChoiceModel" "tested" "I" : Cond) ∈ wAl := wAl_of (List.mem_of_getElem? (i := 468) (by decide +kernel)) (by decide +kernel)
theorem kw_469 : (.fieldLink "PairChoiceModel" 102 "PairChoiceModel" "testedBy" "I" : Cond) ∈ wAl := wAl_of (List.mem_of_getElem? (i := 469) (by decide +kernel)) (by decide +kernel)
theorem kw_470 : (.fieldLink "PairChoiceModel" 108 "PairChoiceModel" "best" "I" : Cond) ∈ wAl := wAl_of (List.mem_of_getElem? (i := 470) (by decide +kernel)) (by decide +kernel)
theorem kw_471 : (.fieldLink "PairChoiceModel" 111 "PairChoiceModel" "bestWorth" "I" : Cond) ∈ wAl := wAl_of (List.mem_of_getElem? (i := 471) (by decide +kernel)) (by decide +kernel)
theorem kw_472 : (.fieldLink "PairChoiceModel" 105 "PairChoiceModel" "sets" "I" : Cond) ∈ wAl := wAl_of (List.mem_of_getElem? (i := 472) (by decide +kernel)) (by decide +kernel)
theorem kw_473 : (.fieldLink "PairChoiceModel" 92 "PairChoiceModel" "many" "I" : Cond) ∈ wAl := wAl_of (List.mem_of_getElem? (i := 473) (by decide +kernel)) (by decide +kernel)
theorem kw_474 : (.fieldLink "PairChoiceModel" 36 "PairChoiceModel" "males" "[I" : Cond) ∈ wAl := wAl_of (List.mem_of_getElem? (i := 474) (by decide +kernel)) (by decide +kernel)
theorem kw_475 : (.fieldLink "PairChoiceModel" 39 "PairChoiceModel" "females" "[I" : Cond) ∈ wAl := wAl_of (List.mem_of_getElem? (i := 475) (by decide +kernel)) (by decide +kernel)
theorem kw_476 : (.fieldLink "PairChoiceModel" 42 "PairChoiceModel" "now" "[Z" : Cond) ∈ wAl := wAl_of (List.mem_of_getElem? (i := 476) (by decide +kernel)) (by decide +kernel)
theorem kw_477 : (.fieldLink "PairChoiceModel" 45 "PairChoiceModel" "then" "[Z" : Cond) ∈ wAl := wAl_of (List.mem_of_getElem? (i := 477) (by decide +kernel)) (by decide +kernel)
theorem kw_478 : (.fieldLink "PairChoiceModel" 79 "PairChoiceModel" "pairs" "I" : Cond) ∈ wAl := wAl_of (List.mem_of_getElem? (i := 478) (by decide +kernel)) (by decide +kernel)
theorem kw_479 : (.fieldLink "PairChoiceModel" 134 "PairChoiceModel" "choice" "I" : Cond) ∈ wAl := wAl_of (List.mem_of_getElem? (i := 479) (by decide +kernel)) (by decide +kernel)
theorem kw_480 : (.fieldLink "PairChoiceModel" 137 "PairChoiceModel" "choiceSets" "I" : Cond) ∈ wAl := wAl_of (List.mem_of_getElem? (i := 480) (by decide +kernel)) (by decide +kernel)
theorem kw_481 : (.fieldLink "PairChoiceModel" 48 "PairChoiceModel" "he" "[I" : Cond) ∈ wAl := wAl_of (List.mem_of_getElem? (i := 481) (by decide +kernel)) (by decide +kernel)
theorem kw_482 : (.fieldLink "PairChoiceModel" 51 "PairChoiceModel" "she" "[I" : Cond) ∈ wAl := wAl_of (List.mem_of_getElem? (i := 482) (by decide +kernel)) (by decide +kernel)
theorem kw_483 : (.fieldLink "PairChoiceModel" 54 "PairChoiceModel" "eggs" "[I" : Cond) ∈ wAl := wAl_of (List.mem_of_getElem? (i := 483) (by decide +kernel)) (by decide +kernel)
theorem kw_484 : (.fieldLink "PairChoiceModel" 57 "PairChoiceModel" "points" "[I" : Cond) ∈ wAl := wAl_of (List.mem_of_getElem? (i := 484) (by decide +kernel)) (by decide +kernel)
theorem kw_485 : (.fieldLink "PairChoiceModel" 60 "PairChoiceModel" "rests" "[I" : Cond) ∈ wAl := wAl_of (List.mem_of_getElem? (i := 485) (by decide +kernel)) (by decide +kernel)
theorem kw_486 : (.fieldLink "PairChoiceModel" 152 "PairChoiceModel" "years" "I" : Cond) ∈ wAl := wAl_of (List.mem_of_getElem? (i := 486) (by decide +kernel)) (by decide +kernel)
theorem kw_487 : (.fieldLink "PairChoiceModel" 63 "PairChoiceModel" "alive" "[I" : Cond) ∈ wAl := wAl_of (List.mem_of_getElem? (i := 487) (by decide +kernel)) (by decide +kernel)
theorem kw_488 : (.fieldLink "PairChoiceModel" 66 "PairChoiceModel" "yearSets" "[I" : Cond) ∈ wAl := wAl_of (List.mem_of_getElem? (i := 488) (by decide +kernel)) (by decide +kernel)
theorem kw_489 : (.fieldLink "PairChoiceModel" 69 "PairChoiceModel" "yearWorths" "[I" : Cond) ∈ wAl := wAl_of (List.mem_of_getElem? (i := 489) (by decide +kernel)) (by decide +kernel)
theorem kw_558 : (.methodLink "PairChoiceModel" 75 ⟨"PairChoiceModel", "isIn", "(III)Z"⟩ : Cond) ∈ wAl := wAl_of (List.mem_of_getElem? (i := 558) (by decide +kernel)) (by decide +kernel)
theorem kw_559 : (.static ⟨"PairChoiceModel", "isIn", "(III)Z"⟩ : Cond) ∈ wAl := wAl_of (List.mem_of_getElem? (i := 559) (by decide +kernel)) (by decide +kernel)
theorem kw_560 : (.code ⟨"PairChoiceModel", "isIn", "(III)Z"⟩ prog_8_method_2_code 3 (some .boolean) : Cond) ∈ wAl := wAl_of (List.mem_of_getElem? (i := 560) (by decide +kernel)) (by decide +kernel)
theorem kw_561 : (.methodLink "PairChoiceModel" 82 ⟨"PairChoiceModel", "leave", "()V"⟩ : Cond) ∈ wAl := wAl_of (List.mem_of_getElem? (i := 561) (by decide +kernel)) (by decide +kernel)
theorem kw_563 : (.instanceMethod ⟨"PairChoiceModel", "leave", "()V"⟩ : Cond) ∈ wAl := wAl_of (List.mem_of_getElem? (i := 563) (by decide +kernel)) (by decide +kernel)
theorem kw_564 : (.code ⟨"PairChoiceModel", "leave", "()V"⟩ prog_8_method_4_code 1 none : Cond) ∈ wAl := wAl_of (List.mem_of_getElem? (i := 564) (by decide +kernel)) (by decide +kernel)
theorem kw_569 : (.methodLink "PairChoiceModel" 85 ⟨"PairChoiceModel", "isAnimal", "(I)Z"⟩ : Cond) ∈ wAl := wAl_of (List.mem_of_getElem? (i := 569) (by decide +kernel)) (by decide +kernel)
theorem kw_571 : (.instanceMethod ⟨"PairChoiceModel", "isAnimal", "(I)Z"⟩ : Cond) ∈ wAl := wAl_of (List.mem_of_getElem? (i := 571) (by decide +kernel)) (by decide +kernel)
theorem kw_572 : (.code ⟨"PairChoiceModel", "isAnimal", "(I)Z"⟩ prog_8_method_3_code 2 (some .boolean) : Cond) ∈ wAl := wAl_of (List.mem_of_getElem? (i := 572) (by decide +kernel)) (by decide +kernel)
theorem kw_597 : (.methodLink "PairChoiceModel" 127 ⟨"PairChoiceModel", "all", "()I"⟩ : Cond) ∈ wAl := wAl_of (List.mem_of_getElem? (i := 597) (by decide +kernel)) (by decide +kernel)
theorem kw_599 : (.instanceMethod ⟨"PairChoiceModel", "all", "()I"⟩ : Cond) ∈ wAl := wAl_of (List.mem_of_getElem? (i := 599) (by decide +kernel)) (by decide +kernel)
theorem kw_600 : (.code ⟨"PairChoiceModel", "all", "()I"⟩ prog_8_method_19_code 1 (some .int) : Cond) ∈ wAl := wAl_of (List.mem_of_getElem? (i := 600) (by decide +kernel)) (by decide +kernel)
theorem kw_601 : (.methodLink "PairChoiceModel" 131 ⟨"PairChoiceModel", "find", "(II)Z"⟩ : Cond) ∈ wAl := wAl_of (List.mem_of_getElem? (i := 601) (by decide +kernel)) (by decide +kernel)
theorem kw_603 : (.instanceMethod ⟨"PairChoiceModel", "find", "(II)Z"⟩ : Cond) ∈ wAl := wAl_of (List.mem_of_getElem? (i := 603) (by decide +kernel)) (by decide +kernel)
theorem kw_604 : (.code ⟨"PairChoiceModel", "find", "(II)Z"⟩ prog_8_method_18_code 7 (some .boolean) : Cond) ∈ wAl := wAl_of (List.mem_of_getElem? (i := 604) (by decide +kernel)) (by decide +kernel)
theorem kw_605 : (.methodLink "PairChoiceModel" 114 ⟨"PairChoiceModel", "part", "(II)Z"⟩ : Cond) ∈ wAl := wAl_of (List.mem_of_getElem? (i := 605) (by decide +kernel)) (by decide +kernel)
theorem kw_607 : (.instanceMethod ⟨"PairChoiceModel", "part", "(II)Z"⟩ : Cond) ∈ wAl := wAl_of (List.mem_of_getElem? (i := 607) (by decide +kernel)) (by decide +kernel)
theorem kw_608 : (.code ⟨"PairChoiceModel", "part", "(II)Z"⟩ prog_8_method_14_code 6 (some .boolean) : Cond) ∈ wAl := wAl_of (List.mem_of_getElem? (i := 608) (by decide +kernel)) (by decide +kernel)
theorem kw_609 : (.methodLink "PairChoiceModel" 118 ⟨"PairChoiceModel", "fits", "(II)Z"⟩ : Cond) ∈ wAl := wAl_of (List.mem_of_getElem? (i := 609) (by decide +kernel)) (by decide +kernel)
theorem kw_611 : (.instanceMethod ⟨"PairChoiceModel", "fits", "(II)Z"⟩ : Cond) ∈ wAl := wAl_of (List.mem_of_getElem? (i := 611) (by decide +kernel)) (by decide +kernel)
theorem kw_612 : (.code ⟨"PairChoiceModel", "fits", "(II)Z"⟩ prog_8_method_16_code 3 (some .boolean) : Cond) ∈ wAl := wAl_of (List.mem_of_getElem? (i := 612) (by decide +kernel)) (by decide +kernel)
theorem kw_613 : (.methodLink "PairChoiceModel" 95 ⟨"PairChoiceModel", "kinOf", "(I)I"⟩ : Cond) ∈ wAl := wAl_of (List.mem_of_getElem? (i := 613) (by decide +kernel)) (by decide +kernel)
theorem kw_615 : (.instanceMethod ⟨"PairChoiceModel", "kinOf", "(I)I"⟩ : Cond) ∈ wAl := wAl_of (List.mem_of_getElem? (i := 615) (by decide +kernel)) (by decide +kernel)
theorem kw_616 : (.code ⟨"PairChoiceModel", "kinOf", "(I)I"⟩ prog_8_method_12_code 5 (some .int) : Cond) ∈ wAl := wAl_of (List.mem_of_getElem? (i := 616) (by decide +kernel)) (by decide +kernel)
theorem kw_617 : (.methodLink "PairChoiceModel" 99 ⟨"PairChoiceModel", "fitsFamilies", "(I)Z"⟩ : Cond) ∈ wAl := wAl_of (List.mem_of_getElem? (i := 617) (by decide +kernel)) (by decide +kernel)
theorem kw_619 : (.instanceMethod ⟨"PairChoiceModel", "fitsFamilies", "(I)Z"⟩ : Cond) ∈ wAl := wAl_of (List.mem_of_getElem? (i := 619) (by decide +kernel)) (by decide +kernel)
theorem kw_620 : (.code ⟨"PairChoiceModel", "fitsFamilies", "(I)Z"⟩ prog_8_method_13_code 6 (some .boolean) : Cond) ∈ wAl := wAl_of (List.mem_of_getElem? (i := 620) (by decide +kernel)) (by decide +kernel)
theorem kw_621 : (.methodLink "PairChoiceModel" 121 ⟨"PairChoiceModel", "canPair", "(II)Z"⟩ : Cond) ∈ wAl := wAl_of (List.mem_of_getElem? (i := 621) (by decide +kernel)) (by decide +kernel)
theorem kw_623 : (.instanceMethod ⟨"PairChoiceModel", "canPair", "(II)Z"⟩ : Cond) ∈ wAl := wAl_of (List.mem_of_getElem? (i := 623) (by decide +kernel)) (by decide +kernel)
theorem kw_624 : (.code ⟨"PairChoiceModel", "canPair", "(II)Z"⟩ prog_8_method_15_code 6 (some .boolean) : Cond) ∈ wAl := wAl_of (List.mem_of_getElem? (i := 624) (by decide +kernel)) (by decide +kernel)
theorem kw_625 : (.methodLink "PairChoiceModel" 124 ⟨"PairChoiceModel", "worthOf", "(I)I"⟩ : Cond) ∈ wAl := wAl_of (List.mem_of_getElem? (i := 625) (by decide +kernel)) (by decide +kernel)
theorem kw_627 : (.instanceMethod ⟨"PairChoiceModel", "worthOf", "(I)I"⟩ : Cond) ∈ wAl := wAl_of (List.mem_of_getElem? (i := 627) (by decide +kernel)) (by decide +kernel)
theorem kw_628 : (.code ⟨"PairChoiceModel", "worthOf", "(I)I"⟩ prog_8_method_17_code 4 (some .int) : Cond) ∈ wAl := wAl_of (List.mem_of_getElem? (i := 628) (by decide +kernel)) (by decide +kernel)
theorem kw_641 : (.constant "PairChoiceModel" 140 (100000) : Cond) ∈ wAl := wAl_of (List.mem_of_getElem? (i := 641) (by decide +kernel)) (by decide +kernel)
theorem kw_642 : (.methodLink "PairChoiceModel" 141 ⟨"PairChoiceModel", "pairWorth", "(I)I"⟩ : Cond) ∈ wAl := wAl_of (List.mem_of_getElem? (i := 642) (by decide +kernel)) (by decide +kernel)
theorem kw_644 : (.instanceMethod ⟨"PairChoiceModel", "pairWorth", "(I)I"⟩ : Cond) ∈ wAl := wAl_of (List.mem_of_getElem? (i := 644) (by decide +kernel)) (by decide +kernel)
theorem kw_645 : (.code ⟨"PairChoiceModel", "pairWorth", "(I)I"⟩ prog_8_method_23_code 2 (some .int) : Cond) ∈ wAl := wAl_of (List.mem_of_getElem? (i := 645) (by decide +kernel)) (by decide +kernel)
theorem kw_662 : (.methodLink "PairChoiceModel" 155 ⟨"PairChoiceModel", "dies", "(IIIJ)Z"⟩ : Cond) ∈ wAl := wAl_of (List.mem_of_getElem? (i := 662) (by decide +kernel)) (by decide +kernel)
theorem kw_663 : (.static ⟨"PairChoiceModel", "dies", "(IIIJ)Z"⟩ : Cond) ∈ wAl := wAl_of (List.mem_of_getElem? (i := 663) (by decide +kernel)) (by decide +kernel)
theorem kw_664 : (.code ⟨"PairChoiceModel", "dies", "(IIIJ)Z"⟩ prog_8_method_28_code 7 (some .boolean) : Cond) ∈ wAl := wAl_of (List.mem_of_getElem? (i := 664) (by decide +kernel)) (by decide +kernel)
theorem kw_665 : (.constantLong "PairChoiceModel" 144 (16) : Cond) ∈ wAl := wAl_of (List.mem_of_getElem? (i := 665) (by decide +kernel)) (by decide +kernel)
theorem kw_666 : (.constantLong "PairChoiceModel" 146 (-7046029254386353131) : Cond) ∈ wAl := wAl_of (List.mem_of_getElem? (i := 666) (by decide +kernel)) (by decide +kernel)
theorem kw_667 : (.constantLong "PairChoiceModel" 148 (-4658895280553007687) : Cond) ∈ wAl := wAl_of (List.mem_of_getElem? (i := 667) (by decide +kernel)) (by decide +kernel)
theorem kw_668 : (.constantLong "PairChoiceModel" 150 (1000) : Cond) ∈ wAl := wAl_of (List.mem_of_getElem? (i := 668) (by decide +kernel)) (by decide +kernel)
end
section
theorem d_Choice_init_0 : decode b_Choice_init 0 = .ok (.aload_n 0, 1) := by decide +kernel
theorem d_Choice_init_1 : decode b_Choice_init 1 = .ok (.invokespecial 3, 3) := by decide +kernel
theorem d_Choice_init_4 : decode b_Choice_init 4 = .ok (.aload_n 0, 1) := by decide +kernel
theorem d_Choice_init_5 : decode b_Choice_init 5 = .ok (.new 9, 3) := by decide +kernel
theorem d_Choice_init_8 : decode b_Choice_init 8 = .ok (.dup, 1) := by decide +kernel
theorem d_Choice_init_9 : decode b_Choice_init 9 = .ok (.invokespecial 11, 3) := by decide +kernel
theorem d_Choice_init_12 : decode b_Choice_init 12 = .ok (.putfield 12, 3) := by decide +kernel
theorem d_Choice_init_15 : decode b_Choice_init 15 = .ok (.aload_n 0, 1) := by decide +kernel
theorem d_Choice_init_16 : decode b_Choice_init 16 = .ok (.iconst 0, 1) := by decide +kernel
theorem d_Choice_init_17 : decode b_Choice_init 17 = .ok (.putfield 18, 3) := by decide +kernel
theorem d_Choice_init_20 : decode b_Choice_init 20 = .ok (.aload_n 0, 1) := by decide +kernel
theorem d_Choice_init_21 : decode b_Choice_init 21 = .ok (.iconst 0, 1) := by decide +kernel
theorem d_Choice_init_22 : decode b_Choice_init 22 = .ok (.putfield 22, 3) := by decide +kernel
theorem d_Choice_init_25 : decode b_Choice_init 25 = .ok (.aload_n 0, 1) := by decide +kernel
theorem d_Choice_init_26 : decode b_Choice_init 26 = .ok (.iconst 0, 1) := by decide +kernel
theorem d_Choice_init_27 : decode b_Choice_init 27 = .ok (.putfield 25, 3) := by decide +kernel
theorem d_Choice_init_30 : decode b_Choice_init 30 = .ok (.aload_n 0, 1) := by decide +kernel
theorem d_Choice_init_31 : decode b_Choice_init 31 = .ok (.bipush 6, 2) := by decide +kernel
theorem d_Choice_init_33 : decode b_Choice_init 33 = .ok (.newarray .int, 2) := by decide +kernel
theorem d_Choice_init_35 : decode b_Choice_init 35 = .ok (.putfield 28, 3) := by decide +kernel
theorem d_Choice_init_38 : decode b_Choice_init 38 = .ok (.aload_n 0, 1) := by decide +kernel
theorem d_Choice_init_39 : decode b_Choice_init 39 = .ok (.bipush 6, 2) := by decide +kernel
theorem d_Choice_init_41 : decode b_Choice_init 41 = .ok (.newarray .long, 2) := by decide +kernel
theorem d_Choice_init_43 : decode b_Choice_init 43 = .ok (.putfield 32, 3) := by decide +kernel
theorem d_Choice_init_46 : decode b_Choice_init 46 = .ok (.aload_n 0, 1) := by decide +kernel
theorem d_Choice_init_47 : decode b_Choice_init 47 = .ok (.aload_n 1, 1) := by decide +kernel
theorem d_Choice_init_48 : decode b_Choice_init 48 = .ok (.putfield 36, 3) := by decide +kernel
theorem d_Choice_init_51 : decode b_Choice_init 51 = .ok (.return_, 1) := by decide +kernel
theorem d_Choice_drop_0 : decode b_Choice_drop 0 = .ok (.aload_n 0, 1) := by decide +kernel
theorem d_Choice_drop_1 : decode b_Choice_drop 1 = .ok (.iconst 0, 1) := by decide +kernel
theorem d_Choice_drop_2 : decode b_Choice_drop 2 = .ok (.putfield 18, 3) := by decide +kernel
theorem d_Choice_drop_5 : decode b_Choice_drop 5 = .ok (.return_, 1) := by decide +kernel
theorem d_Choice_take_0 : decode b_Choice_take 0 = .ok (.aload_n 0, 1) := by decide +kernel
theorem d_Choice_take_1 : decode b_Choice_take 1 = .ok (.iload_n 1, 1) := by decide +kernel
theorem d_Choice_take_2 : decode b_Choice_take 2 = .ok (.putfield 22, 3) := by decide +kernel
theorem d_Choice_take_5 : decode b_Choice_take 5 = .ok (.aload_n 0, 1) := by decide +kernel
theorem d_Choice_take_6 : decode b_Choice_take 6 = .ok (.iload_n 2, 1) := by decide +kernel
theorem d_Choice_take_7 : decode b_Choice_take 7 = .ok (.putfield 18, 3) := by decide +kernel
theorem d_Choice_take_10 : decode b_Choice_take 10 = .ok (.aload_n 0, 1) := by decide +kernel
theorem d_Choice_take_11 : decode b_Choice_take 11 = .ok (.iload_n 3, 1) := by decide +kernel
theorem d_Choice_take_12 : decode b_Choice_take 12 = .ok (.putfield 25, 3) := by decide +kernel
theorem d_Choice_take_15 : decode b_Choice_take 15 = .ok (.aload_n 0, 1) := by decide +kernel
theorem d_Choice_take_16 : decode b_Choice_take 16 = .ok (.getfield 12, 3) := by decide +kernel
theorem d_Choice_take_19 : decode b_Choice_take 19 = .ok (.aload_n 0, 1) := by decide +kernel
theorem d_Choice_take_20 : decode b_Choice_take 20 = .ok (.getfield 36, 3) := by decide +kernel
theorem d_Choice_take_23 : decode b_Choice_take 23 = .ok (.iload_n 1, 1) := by decide +kernel
theorem d_Choice_take_24 : decode b_Choice_take 24 = .ok (.invokevirtual 40, 3) := by decide +kernel
theorem d_Choice_take_27 : decode b_Choice_take 27 = .ok (.pop, 1) := by decide +kernel
theorem d_Choice_take_28 : decode b_Choice_take 28 = .ok (.iconst 0, 1) := by decide +kernel
theorem d_Choice_take_29 : decode b_Choice_take 29 = .ok (.istore 4, 2) := by decide +kernel
theorem d_Choice_take_31 : decode b_Choice_take 31 = .ok (.iload 4, 2) := by decide +kernel
theorem d_Choice_take_33 : decode b_Choice_take 33 = .ok (.bipush 6, 2) := by decide +kernel
theorem d_Choice_take_35 : decode b_Choice_take 35 = .ok (.if_icmp .ge 17, 3) := by decide +kernel
theorem d_Choice_take_38 : decode b_Choice_take 38 = .ok (.aload_n 0, 1) := by decide +kernel
theorem d_Choice_take_39 : decode b_Choice_take 39 = .ok (.getfield 28, 3) := by decide +kernel
theorem d_Choice_take_42 : decode b_Choice_take 42 = .ok (.iload 4, 2) := by decide +kernel
theorem d_Choice_take_44 : decode b_Choice_take 44 = .ok (.iconst 0, 1) := by decide +kernel
theorem d_Choice_take_45 : decode b_Choice_take 45 = .ok (.iastore, 1) := by decide +kernel
theorem d_Choice_take_46 : decode b_Choice_take 46 = .ok (.iinc 4 1, 3) := by decide +kernel
theorem d_Choice_take_49 : decode b_Choice_take 49 = .ok (.goto (-18), 3) := by decide +kernel
theorem d_Choice_take_52 : decode b_Choice_take 52 = .ok (.return_, 1) := by decide +kernel
theorem d_Choice_hasPair_0 : decode b_Choice_hasPair 0 = .ok (.iload_n 1, 1) := by decide +kernel
theorem d_Choice_hasPair_1 : decode b_Choice_hasPair 1 = .ok (.ifCond .lt 15, 3) := by decide +kernel
theorem d_Choice_hasPair_4 : decode b_Choice_hasPair 4 = .ok (.iload_n 1, 1) := by decide +kernel
theorem d_Choice_hasPair_5 : decode b_Choice_hasPair 5 = .ok (.aload_n 0, 1) := by decide +kernel
theorem d_Choice_hasPair_6 : decode b_Choice_hasPair 6 = .ok (.getfield 18, 3) := by decide +kernel
theorem d_Choice_hasPair_9 : decode b_Choice_hasPair 9 = .ok (.if_icmp .ge 7, 3) := by decide +kernel
theorem d_Choice_hasPair_12 : decode b_Choice_hasPair 12 = .ok (.iconst 1, 1) := by decide +kernel
theorem d_Choice_hasPair_13 : decode b_Choice_hasPair 13 = .ok (.goto 4, 3) := by decide +kernel
theorem d_Choice_hasPair_16 : decode b_Choice_hasPair 16 = .ok (.iconst 0, 1) := by decide +kernel
theorem d_Choice_hasPair_17 : decode b_Choice_hasPair 17 = .ok (.ireturn, 1) := by decide +kernel
theorem d_Choice_pairWorth_0 : decode b_Choice_pairWorth 0 = .ok (.aload_n 0, 1) := by decide +kernel
theorem d_Choice_pairWorth_1 : decode b_Choice_pairWorth 1 = .ok (.getfield 36, 3) := by decide +kernel
theorem d_Choice_pairWorth_4 : decode b_Choice_pairWorth 4 = .ok (.getfield 44, 3) := by decide +kernel
theorem d_Choice_pairWorth_7 : decode b_Choice_pairWorth 7 = .ok (.aload_n 0, 1) := by decide +kernel
theorem d_Choice_pairWorth_8 : decode b_Choice_pairWorth 8 = .ok (.getfield 12, 3) := by decide +kernel
theorem d_Choice_pairWorth_11 : decode b_Choice_pairWorth 11 = .ok (.getfield 49, 3) := by decide +kernel
theorem d_Choice_pairWorth_14 : decode b_Choice_pairWorth 14 = .ok (.iload_n 1, 1) := by decide +kernel
theorem d_Choice_pairWorth_15 : decode b_Choice_pairWorth 15 = .ok (.iaload, 1) := by decide +kernel
theorem d_Choice_pairWorth_16 : decode b_Choice_pairWorth 16 = .ok (.iaload, 1) := by decide +kernel
theorem d_Choice_pairWorth_17 : decode b_Choice_pairWorth 17 = .ok (.aload_n 0, 1) := by decide +kernel
theorem d_Choice_pairWorth_18 : decode b_Choice_pairWorth 18 = .ok (.getfield 36, 3) := by decide +kernel
theorem d_Choice_pairWorth_21 : decode b_Choice_pairWorth 21 = .ok (.getfield 44, 3) := by decide +kernel
theorem d_Choice_pairWorth_24 : decode b_Choice_pairWorth 24 = .ok (.aload_n 0, 1) := by decide +kernel
theorem d_Choice_pairWorth_25 : decode b_Choice_pairWorth 25 = .ok (.getfield 12, 3) := by decide +kernel
theorem d_Choice_pairWorth_28 : decode b_Choice_pairWorth 28 = .ok (.getfield 52, 3) := by decide +kernel
theorem d_Choice_pairWorth_31 : decode b_Choice_pairWorth 31 = .ok (.iload_n 1, 1) := by decide +kernel
theorem d_Choice_pairWorth_32 : decode b_Choice_pairWorth 32 = .ok (.iaload, 1) := by decide +kernel
theorem d_Choice_pairWorth_33 : decode b_Choice_pairWorth 33 = .ok (.iaload, 1) := by decide +kernel
theorem d_Choice_pairWorth_34 : decode b_Choice_pairWorth 34 = .ok (.iadd, 1) := by decide +kernel
theorem d_Choice_pairWorth_35 : decode b_Choice_pairWorth 35 = .ok (.ireturn, 1) := by decide +kernel
theorem d_Choice_leastPairWorth_0 : decode b_Choice_leastPairWorth 0 = .ok (.aload_n 0, 1) := by decide +kernel
theorem d_Choice_leastPairWorth_1 : decode b_Choice_leastPairWorth 1 = .ok (.iconst 0, 1) := by decide +kernel
theorem d_Choice_leastPairWorth_2 : decode b_Choice_leastPairWorth 2 = .ok (.invokevirtual 55, 3) := by decide +kernel
theorem d_Choice_leastPairWorth_5 : decode b_Choice_leastPairWorth 5 = .ok (.istore_n 1, 1) := by decide +kernel
theorem d_Choice_leastPairWorth_6 : decode b_Choice_leastPairWorth 6 = .ok (.iconst 1, 1) := by decide +kernel
theorem d_Choice_leastPairWorth_7 : decode b_Choice_leastPairWorth 7 = .ok (.istore_n 2, 1) := by decide +kernel
theorem d_Choice_leastPairWorth_8 : decode b_Choice_leastPairWorth 8 = .ok (.iload_n 2, 1) := by decide +kernel
theorem d_Choice_leastPairWorth_9 : decode b_Choice_leastPairWorth 9 = .ok (.aload_n 0, 1) := by decide +kernel
theorem d_Choice_leastPairWorth_10 : decode b_Choice_leastPairWorth 10 = .ok (.getfield 18, 3) := by decide +kernel
theorem d_Choice_leastPairWorth_13 : decode b_Choice_leastPairWorth 13 = .ok (.if_icmp .ge 19, 3) := by decide +kernel
theorem d_Choice_leastPairWorth_16 : decode b_Choice_leastPairWorth 16 = .ok (.iload_n 1, 1) := by decide +kernel
theorem d_Choice_leastPairWorth_17 : decode b_Choice_leastPairWorth 17 = .ok (.aload_n 0, 1) := by decide +kernel
theorem d_Choice_leastPairWorth_18 : decode b_Choice_leastPairWorth 18 = .ok (.iload_n 2, 1) := by decide +kernel
theorem d_Choice_leastPairWorth_19 : decode b_Choice_leastPairWorth 19 = .ok (.invokevirtual 55, 3) := by decide +kernel
theorem d_Choice_leastPairWorth_22 : decode b_Choice_leastPairWorth 22 = .ok (.invokestatic 59, 3) := by decide +kernel
theorem d_Choice_leastPairWorth_25 : decode b_Choice_leastPairWorth 25 = .ok (.istore_n 1, 1) := by decide +kernel
theorem d_Choice_leastPairWorth_26 : decode b_Choice_leastPairWorth 26 = .ok (.iinc 2 1, 3) := by decide +kernel
theorem d_Choice_leastPairWorth_29 : decode b_Choice_leastPairWorth 29 = .ok (.goto (-21), 3) := by decide +kernel
theorem d_Choice_leastPairWorth_32 : decode b_Choice_leastPairWorth 32 = .ok (.iload_n 1, 1) := by decide +kernel
theorem d_Choice_leastPairWorth_33 : decode b_Choice_leastPairWorth 33 = .ok (.ireturn, 1) := by decide +kernel
theorem d_Choice_shareOut_0 : decode b_Choice_shareOut 0 = .ok (.aload_n 0, 1) := by decide +kernel
theorem d_Choice_shareOut_1 : decode b_Choice_shareOut 1 = .ok (.invokevirtual 65, 3) := by decide +kernel
theorem d_Choice_shareOut_4 : decode b_Choice_shareOut 4 = .ok (.iconst 1, 1) := by decide +kernel
theorem d_Choice_shareOut_5 : decode b_Choice_shareOut 5 = .ok (.isub, 1) := by decide +kernel
theorem d_Choice_shareOut_6 : decode b_Choice_shareOut 6 = .ok (.istore_n 2, 1) := by decide +kernel
theorem d_Choice_shareOut_7 : decode b_Choice_shareOut 7 = .ok (.lconst 0, 1) := by decide +kernel
theorem d_Choice_shareOut_8 : decode b_Choice_shareOut 8 = .ok (.lstore_n 3, 1) := by decide +kernel
theorem d_Choice_shareOut_9 : decode b_Choice_shareOut 9 = .ok (.iconst 0, 1) := by decide +kernel
theorem d_Choice_shareOut_10 : decode b_Choice_shareOut 10 = .ok (.istore 5, 2) := by decide +kernel
theorem d_Choice_shareOut_12 : decode b_Choice_shareOut 12 = .ok (.iload 5, 2) := by decide +kernel
theorem d_Choice_shareOut_14 : decode b_Choice_shareOut 14 = .ok (.aload_n 0, 1) := by decide +kernel
theorem d_Choice_shareOut_15 : decode b_Choice_shareOut 15 = .ok (.getfield 18, 3) := by decide +kernel
theorem d_Choice_shareOut_18 : decode b_Choice_shareOut 18 = .ok (.if_icmp .ge 21, 3) := by decide +kernel
theorem d_Choice_shareOut_21 : decode b_Choice_shareOut 21 = .ok (.lload_n 3, 1) := by decide +kernel
theorem d_Choice_shareOut_22 : decode b_Choice_shareOut 22 = .ok (.aload_n 0, 1) := by decide +kernel
theorem d_Choice_shareOut_23 : decode b_Choice_shareOut 23 = .ok (.iload 5, 2) := by decide +kernel
theorem d_Choice_shareOut_25 : decode b_Choice_shareOut 25 = .ok (.invokevirtual 55, 3) := by decide +kernel
theorem d_Choice_shareOut_28 : decode b_Choice_shareOut 28 = .ok (.iload_n 2, 1) := by decide +kernel
theorem d_Choice_shareOut_29 : decode b_Choice_shareOut 29 = .ok (.isub, 1) := by decide +kernel
theorem d_Choice_shareOut_30 : decode b_Choice_shareOut 30 = .ok (.i2l, 1) := by decide +kernel
theorem d_Choice_shareOut_31 : decode b_Choice_shareOut 31 = .ok (.ladd, 1) := by decide +kernel
theorem d_Choice_shareOut_32 : decode b_Choice_shareOut 32 = .ok (.lstore_n 3, 1) := by decide +kernel
theorem d_Choice_shareOut_33 : decode b_Choice_shareOut 33 = .ok (.iinc 5 1, 3) := by decide +kernel
theorem d_Choice_shareOut_36 : decode b_Choice_shareOut 36 = .ok (.goto (-24), 3) := by decide +kernel
theorem d_Choice_shareOut_39 : decode b_Choice_shareOut 39 = .ok (.lload_n 3, 1) := by decide +kernel
theorem d_Choice_shareOut_40 : decode b_Choice_shareOut 40 = .ok (.lconst 1, 1) := by decide +kernel
theorem d_Choice_shareOut_41 : decode b_Choice_shareOut 41 = .ok (.lcmp, 1) := by decide +kernel
theorem d_Choice_shareOut_42 : decode b_Choice_shareOut 42 = .ok (.ifCond .ge 4, 3) := by decide +kernel
theorem d_Choice_shareOut_45 : decode b_Choice_shareOut 45 = .ok (.return_, 1) := by decide +kernel
theorem d_Choice_shareOut_46 : decode b_Choice_shareOut 46 = .ok (.iload_n 1, 1) := by decide +kernel
theorem d_Choice_shareOut_47 : decode b_Choice_shareOut 47 = .ok (.istore 5, 2) := by decide +kernel
theorem d_Choice_shareOut_49 : decode b_Choice_shareOut 49 = .ok (.iconst 0, 1) := by decide +kernel
theorem d_Choice_shareOut_50 : decode b_Choice_shareOut 50 = .ok (.istore 6, 2) := by decide +kernel
theorem d_Choice_shareOut_52 : decode b_Choice_shareOut 52 = .ok (.iload 6, 2) := by decide +kernel
theorem d_Choice_shareOut_54 : decode b_Choice_shareOut 54 = .ok (.aload_n 0, 1) := by decide +kernel
theorem d_Choice_shareOut_55 : decode b_Choice_shareOut 55 = .ok (.getfield 18, 3) := by decide +kernel
theorem d_Choice_shareOut_58 : decode b_Choice_shareOut 58 = .ok (.if_icmp .ge 58, 3) := by decide +kernel
theorem d_Choice_shareOut_61 : decode b_Choice_shareOut 61 = .ok (.iload_n 1, 1) := by decide +kernel
theorem d_Choice_shareOut_62 : decode b_Choice_shareOut 62 = .ok (.i2l, 1) := by decide +kernel
theorem d_Choice_shareOut_63 : decode b_Choice_shareOut 63 = .ok (.aload_n 0, 1) := by decide +kernel
theorem d_Choice_shareOut_64 : decode b_Choice_shareOut 64 = .ok (.iload 6, 2) := by decide +kernel
theorem d_Choice_shareOut_66 : decode b_Choice_shareOut 66 = .ok (.invokevirtual 55, 3) := by decide +kernel
theorem d_Choice_shareOut_69 : decode b_Choice_shareOut 69 = .ok (.iload_n 2, 1) := by decide +kernel
theorem d_Choice_shareOut_70 : decode b_Choice_shareOut 70 = .ok (.isub, 1) := by decide +kernel
theorem d_Choice_shareOut_71 : decode b_Choice_shareOut 71 = .ok (.i2l, 1) := by decide +kernel
theorem d_Choice_shareOut_72 : decode b_Choice_shareOut 72 = .ok (.lmul, 1) := by decide +kernel
theorem d_Choice_shareOut_73 : decode b_Choice_shareOut 73 = .ok (.lstore 7, 2) := by decide +kernel
theorem d_Choice_shareOut_75 : decode b_Choice_shareOut 75 = .ok (.aload_n 0, 1) := by decide +kernel
theorem d_Choice_shareOut_76 : decode b_Choice_shareOut 76 = .ok (.getfield 28, 3) := by decide +kernel
theorem d_Choice_shareOut_79 : decode b_Choice_shareOut 79 = .ok (.iload 6, 2) := by decide +kernel
theorem d_Choice_shareOut_81 : decode b_Choice_shareOut 81 = .ok (.lload 7, 2) := by decide +kernel
theorem d_Choice_shareOut_83 : decode b_Choice_shareOut 83 = .ok (.lload_n 3, 1) := by decide +kernel
theorem d_Choice_shareOut_84 : decode b_Choice_shareOut 84 = .ok (.ldiv, 1) := by decide +kernel
theorem d_Choice_shareOut_85 : decode b_Choice_shareOut 85 = .ok (.l2i, 1) := by decide +kernel
theorem d_Choice_shareOut_86 : decode b_Choice_shareOut 86 = .ok (.iastore, 1) := by decide +kernel
theorem d_Choice_shareOut_87 : decode b_Choice_shareOut 87 = .ok (.aload_n 0, 1) := by decide +kernel
theorem d_Choice_shareOut_88 : decode b_Choice_shareOut 88 = .ok (.getfield 32, 3) := by decide +kernel
theorem d_Choice_shareOut_91 : decode b_Choice_shareOut 91 = .ok (.iload 6, 2) := by decide +kernel
theorem d_Choice_shareOut_93 : decode b_Choice_shareOut 93 = .ok (.lload 7, 2) := by decide +kernel
theorem d_Choice_shareOut_95 : decode b_Choice_shareOut 95 = .ok (.lload_n 3, 1) := by decide +kernel
theorem d_Choice_shareOut_96 : decode b_Choice_shareOut 96 = .ok (.lrem, 1) := by decide +kernel
theorem d_Choice_shareOut_97 : decode b_Choice_shareOut 97 = .ok (.lastore, 1) := by decide +kernel
theorem d_Choice_shareOut_98 : decode b_Choice_shareOut 98 = .ok (.iload 5, 2) := by decide +kernel
theorem d_Choice_shareOut_100 : decode b_Choice_shareOut 100 = .ok (.aload_n 0, 1) := by decide +kernel
theorem d_Choice_shareOut_101 : decode b_Choice_shareOut 101 = .ok (.getfield 28, 3) := by decide +kernel
theorem d_Choice_shareOut_104 : decode b_Choice_shareOut 104 = .ok (.iload 6, 2) := by decide +kernel
theorem d_Choice_shareOut_106 : decode b_Choice_shareOut 106 = .ok (.iaload, 1) := by decide +kernel
theorem d_Choice_shareOut_107 : decode b_Choice_shareOut 107 = .ok (.isub, 1) := by decide +kernel
theorem d_Choice_shareOut_108 : decode b_Choice_shareOut 108 = .ok (.istore 5, 2) := by decide +kernel
theorem d_Choice_shareOut_110 : decode b_Choice_shareOut 110 = .ok (.iinc 6 1, 3) := by decide +kernel
theorem d_Choice_shareOut_113 : decode b_Choice_shareOut 113 = .ok (.goto (-61), 3) := by decide +kernel
theorem d_Choice_shareOut_116 : decode b_Choice_shareOut 116 = .ok (.aload_n 0, 1) := by decide +kernel
theorem d_Choice_shareOut_117 : decode b_Choice_shareOut 117 = .ok (.iload 5, 2) := by decide +kernel
theorem d_Choice_shareOut_119 : decode b_Choice_shareOut 119 = .ok (.invokevirtual 69, 3) := by decide +kernel
theorem d_Choice_shareOut_122 : decode b_Choice_shareOut 122 = .ok (.return_, 1) := by decide +kernel
theorem d_Choice_giveLeftOnes_0 : decode b_Choice_giveLeftOnes 0 = .ok (.iconst 0, 1) := by decide +kernel
theorem d_Choice_giveLeftOnes_1 : decode b_Choice_giveLeftOnes 1 = .ok (.istore_n 2, 1) := by decide +kernel
theorem d_Choice_giveLeftOnes_2 : decode b_Choice_giveLeftOnes 2 = .ok (.iload_n 2, 1) := by decide +kernel
theorem d_Choice_giveLeftOnes_3 : decode b_Choice_giveLeftOnes 3 = .ok (.iload_n 1, 1) := by decide +kernel
theorem d_Choice_giveLeftOnes_4 : decode b_Choice_giveLeftOnes 4 = .ok (.if_icmp .ge 41, 3) := by decide +kernel
theorem d_Choice_giveLeftOnes_7 : decode b_Choice_giveLeftOnes 7 = .ok (.iload_n 2, 1) := by decide +kernel
theorem d_Choice_giveLeftOnes_8 : decode b_Choice_giveLeftOnes 8 = .ok (.aload_n 0, 1) := by decide +kernel
theorem d_Choice_giveLeftOnes_9 : decode b_Choice_giveLeftOnes 9 = .ok (.getfield 18, 3) := by decide +kernel
theorem d_Choice_giveLeftOnes_12 : decode b_Choice_giveLeftOnes 12 = .ok (.if_icmp .ge 33, 3) := by decide +kernel
theorem d_Choice_giveLeftOnes_15 : decode b_Choice_giveLeftOnes 15 = .ok (.aload_n 0, 1) := by decide +kernel
theorem d_Choice_giveLeftOnes_16 : decode b_Choice_giveLeftOnes 16 = .ok (.invokevirtual 73, 3) := by decide +kernel
theorem d_Choice_giveLeftOnes_19 : decode b_Choice_giveLeftOnes 19 = .ok (.istore_n 3, 1) := by decide +kernel
theorem d_Choice_giveLeftOnes_20 : decode b_Choice_giveLeftOnes 20 = .ok (.aload_n 0, 1) := by decide +kernel
theorem d_Choice_giveLeftOnes_21 : decode b_Choice_giveLeftOnes 21 = .ok (.getfield 28, 3) := by decide +kernel
theorem d_Choice_giveLeftOnes_24 : decode b_Choice_giveLeftOnes 24 = .ok (.iload_n 3, 1) := by decide +kernel
theorem d_Choice_giveLeftOnes_25 : decode b_Choice_giveLeftOnes 25 = .ok (.dup2, 1) := by decide +kernel
theorem d_Choice_giveLeftOnes_26 : decode b_Choice_giveLeftOnes 26 = .ok (.iaload, 1) := by decide +kernel
theorem d_Choice_giveLeftOnes_27 : decode b_Choice_giveLeftOnes 27 = .ok (.iconst 1, 1) := by decide +kernel
theorem d_Choice_giveLeftOnes_28 : decode b_Choice_giveLeftOnes 28 = .ok (.iadd, 1) := by decide +kernel
theorem d_Choice_giveLeftOnes_29 : decode b_Choice_giveLeftOnes 29 = .ok (.iastore, 1) := by decide +kernel
theorem d_Choice_giveLeftOnes_30 : decode b_Choice_giveLeftOnes 30 = .ok (.aload_n 0, 1) := by decide +kernel
theorem d_Choice_giveLeftOnes_31 : decode b_Choice_giveLeftOnes 31 = .ok (.getfield 32, 3) := by decide +kernel
theorem d_Choice_giveLeftOnes_34 : decode b_Choice_giveLeftOnes 34 = .ok (.iload_n 3, 1) := by decide +kernel
theorem d_Choice_giveLeftOnes_35 : decode b_Choice_giveLeftOnes 35 = .ok (.ldc2_w 76, 3) := by decide +kernel
theorem d_Choice_giveLeftOnes_38 : decode b_Choice_giveLeftOnes 38 = .ok (.lastore, 1) := by decide +kernel
theorem d_Choice_giveLeftOnes_39 : decode b_Choice_giveLeftOnes 39 = .ok (.iinc 2 1, 3) := by decide +kernel
theorem d_Choice_giveLeftOnes_42 : decode b_Choice_giveLeftOnes 42 = .ok (.goto (-40), 3) := by decide +kernel
theorem d_Choice_giveLeftOnes_45 : decode b_Choice_giveLeftOnes 45 = .ok (.return_, 1) := by decide +kernel
theorem d_Choice_greatestRest_0 : decode b_Choice_greatestRest 0 = .ok (.iconst 0, 1) := by decide +kernel
theorem d_Choice_greatestRest_1 : decode b_Choice_greatestRest 1 = .ok (.istore_n 1, 1) := by decide +kernel
theorem d_Choice_greatestRest_2 : decode b_Choice_greatestRest 2 = .ok (.iconst 1, 1) := by decide +kernel
theorem d_Choice_greatestRest_3 : decode b_Choice_greatestRest 3 = .ok (.istore_n 2, 1) := by decide +kernel
theorem d_Choice_greatestRest_4 : decode b_Choice_greatestRest 4 = .ok (.iload_n 2, 1) := by decide +kernel
theorem d_Choice_greatestRest_5 : decode b_Choice_greatestRest 5 = .ok (.aload_n 0, 1) := by decide +kernel
theorem d_Choice_greatestRest_6 : decode b_Choice_greatestRest 6 = .ok (.getfield 18, 3) := by decide +kernel
theorem d_Choice_greatestRest_9 : decode b_Choice_greatestRest 9 = .ok (.if_icmp .ge 27, 3) := by decide +kernel
theorem d_Choice_greatestRest_12 : decode b_Choice_greatestRest 12 = .ok (.aload_n 0, 1) := by decide +kernel
theorem d_Choice_greatestRest_13 : decode b_Choice_greatestRest 13 = .ok (.getfield 32, 3) := by decide +kernel
theorem d_Choice_greatestRest_16 : decode b_Choice_greatestRest 16 = .ok (.iload_n 2, 1) := by decide +kernel
theorem d_Choice_greatestRest_17 : decode b_Choice_greatestRest 17 = .ok (.laload, 1) := by decide +kernel
theorem d_Choice_greatestRest_18 : decode b_Choice_greatestRest 18 = .ok (.aload_n 0, 1) := by decide +kernel
theorem d_Choice_greatestRest_19 : decode b_Choice_greatestRest 19 = .ok (.getfield 32, 3) := by decide +kernel
theorem d_Choice_greatestRest_22 : decode b_Choice_greatestRest 22 = .ok (.iload_n 1, 1) := by decide +kernel
theorem d_Choice_greatestRest_23 : decode b_Choice_greatestRest 23 = .ok (.laload, 1) := by decide +kernel
theorem d_Choice_greatestRest_24 : decode b_Choice_greatestRest 24 = .ok (.lcmp, 1) := by decide +kernel
theorem d_Choice_greatestRest_25 : decode b_Choice_greatestRest 25 = .ok (.ifCond .le 5, 3) := by decide +kernel
theorem d_Choice_greatestRest_28 : decode b_Choice_greatestRest 28 = .ok (.iload_n 2, 1) := by decide +kernel
theorem d_Choice_greatestRest_29 : decode b_Choice_greatestRest 29 = .ok (.istore_n 1, 1) := by decide +kernel
theorem d_Choice_greatestRest_30 : decode b_Choice_greatestRest 30 = .ok (.iinc 2 1, 3) := by decide +kernel
theorem d_Choice_greatestRest_33 : decode b_Choice_greatestRest 33 = .ok (.goto (-29), 3) := by decide +kernel
theorem d_Choice_greatestRest_36 : decode b_Choice_greatestRest 36 = .ok (.iload_n 1, 1) := by decide +kernel
theorem d_Choice_greatestRest_37 : decode b_Choice_greatestRest 37 = .ok (.ireturn, 1) := by decide +kernel
theorem d_Choice_couldStandIn_0 : decode b_Choice_couldStandIn 0 = .ok (.aload_n 0, 1) := by decide +kernel
theorem d_Choice_couldStandIn_1 : decode b_Choice_couldStandIn 1 = .ok (.getfield 36, 3) := by decide +kernel
theorem d_Choice_couldStandIn_4 : decode b_Choice_couldStandIn 4 = .ok (.getfield 78, 3) := by decide +kernel
theorem d_Choice_couldStandIn_7 : decode b_Choice_couldStandIn 7 = .ok (.aload_n 0, 1) := by decide +kernel
theorem d_Choice_couldStandIn_8 : decode b_Choice_couldStandIn 8 = .ok (.getfield 22, 3) := by decide +kernel
theorem d_Choice_couldStandIn_11 : decode b_Choice_couldStandIn 11 = .ok (.iconst (-1), 1) := by decide +kernel
theorem d_Choice_couldStandIn_12 : decode b_Choice_couldStandIn 12 = .ok (.ixor, 1) := by decide +kernel
theorem d_Choice_couldStandIn_13 : decode b_Choice_couldStandIn 13 = .ok (.iand, 1) := by decide +kernel
theorem d_Choice_couldStandIn_14 : decode b_Choice_couldStandIn 14 = .ok (.iload_n 1, 1) := by decide +kernel
theorem d_Choice_couldStandIn_15 : decode b_Choice_couldStandIn 15 = .ok (.invokestatic 80, 3) := by decide +kernel
theorem d_Choice_couldStandIn_18 : decode b_Choice_couldStandIn 18 = .ok (.ifCond .eq 27, 3) := by decide +kernel
theorem d_Choice_couldStandIn_21 : decode b_Choice_couldStandIn 21 = .ok (.aload_n 0, 1) := by decide +kernel
theorem d_Choice_couldStandIn_22 : decode b_Choice_couldStandIn 22 = .ok (.getfield 36, 3) := by decide +kernel
theorem d_Choice_couldStandIn_25 : decode b_Choice_couldStandIn 25 = .ok (.getfield 84, 3) := by decide +kernel
theorem d_Choice_couldStandIn_28 : decode b_Choice_couldStandIn 28 = .ok (.iload_n 1, 1) := by decide +kernel
theorem d_Choice_couldStandIn_29 : decode b_Choice_couldStandIn 29 = .ok (.iaload, 1) := by decide +kernel
theorem d_Choice_couldStandIn_30 : decode b_Choice_couldStandIn 30 = .ok (.aload_n 0, 1) := by decide +kernel
theorem d_Choice_couldStandIn_31 : decode b_Choice_couldStandIn 31 = .ok (.getfield 12, 3) := by decide +kernel
theorem d_Choice_couldStandIn_34 : decode b_Choice_couldStandIn 34 = .ok (.getfield 52, 3) := by decide +kernel
theorem d_Choice_couldStandIn_37 : decode b_Choice_couldStandIn 37 = .ok (.iload_n 2, 1) := by decide +kernel
theorem d_Choice_couldStandIn_38 : decode b_Choice_couldStandIn 38 = .ok (.iaload, 1) := by decide +kernel
theorem d_Choice_couldStandIn_39 : decode b_Choice_couldStandIn 39 = .ok (.invokestatic 80, 3) := by decide +kernel
theorem d_Choice_couldStandIn_42 : decode b_Choice_couldStandIn 42 = .ok (.ifCond .eq 5, 3) := by decide +kernel
theorem d_Choice_couldStandIn_45 : decode b_Choice_couldStandIn 45 = .ok (.iconst 0, 1) := by decide +kernel
theorem d_Choice_couldStandIn_46 : decode b_Choice_couldStandIn 46 = .ok (.ireturn, 1) := by decide +kernel
theorem d_Choice_couldStandIn_47 : decode b_Choice_couldStandIn 47 = .ok (.aload_n 0, 1) := by decide +kernel
theorem d_Choice_couldStandIn_48 : decode b_Choice_couldStandIn 48 = .ok (.getfield 22, 3) := by decide +kernel
theorem d_Choice_couldStandIn_51 : decode b_Choice_couldStandIn 51 = .ok (.aload_n 0, 1) := by decide +kernel
theorem d_Choice_couldStandIn_52 : decode b_Choice_couldStandIn 52 = .ok (.getfield 12, 3) := by decide +kernel
theorem d_Choice_couldStandIn_55 : decode b_Choice_couldStandIn 55 = .ok (.getfield 49, 3) := by decide +kernel
theorem d_Choice_couldStandIn_58 : decode b_Choice_couldStandIn 58 = .ok (.iload_n 2, 1) := by decide +kernel
theorem d_Choice_couldStandIn_59 : decode b_Choice_couldStandIn 59 = .ok (.iaload, 1) := by decide +kernel
theorem d_Choice_couldStandIn_60 : decode b_Choice_couldStandIn 60 = .ok (.invokestatic 87, 3) := by decide +kernel
theorem d_Choice_couldStandIn_63 : decode b_Choice_couldStandIn 63 = .ok (.iconst (-1), 1) := by decide +kernel
theorem d_Choice_couldStandIn_64 : decode b_Choice_couldStandIn 64 = .ok (.ixor, 1) := by decide +kernel
theorem d_Choice_couldStandIn_65 : decode b_Choice_couldStandIn 65 = .ok (.iand, 1) := by decide +kernel
theorem d_Choice_couldStandIn_66 : decode b_Choice_couldStandIn 66 = .ok (.iload_n 1, 1) := by decide +kernel
theorem d_Choice_couldStandIn_67 : decode b_Choice_couldStandIn 67 = .ok (.invokestatic 87, 3) := by decide +kernel
theorem d_Choice_couldStandIn_70 : decode b_Choice_couldStandIn 70 = .ok (.ior, 1) := by decide +kernel
theorem d_Choice_couldStandIn_71 : decode b_Choice_couldStandIn 71 = .ok (.istore_n 3, 1) := by decide +kernel
theorem d_Choice_couldStandIn_72 : decode b_Choice_couldStandIn 72 = .ok (.aload_n 0, 1) := by decide +kernel
theorem d_Choice_couldStandIn_73 : decode b_Choice_couldStandIn 73 = .ok (.getfield 36, 3) := by decide +kernel
theorem d_Choice_couldStandIn_76 : decode b_Choice_couldStandIn 76 = .ok (.iload_n 3, 1) := by decide +kernel
theorem d_Choice_couldStandIn_77 : decode b_Choice_couldStandIn 77 = .ok (.aload_n 0, 1) := by decide +kernel
theorem d_Choice_couldStandIn_78 : decode b_Choice_couldStandIn 78 = .ok (.getfield 18, 3) := by decide +kernel
theorem d_Choice_couldStandIn_81 : decode b_Choice_couldStandIn 81 = .ok (.invokevirtual 90, 3) := by decide +kernel
theorem d_Choice_couldStandIn_84 : decode b_Choice_couldStandIn 84 = .ok (.ireturn, 1) := by decide +kernel
theorem d_Herd_init_0 : decode b_Herd_init 0 = .ok (.aload_n 0, 1) := by decide +kernel
theorem d_Herd_init_1 : decode b_Herd_init 1 = .ok (.invokespecial 3, 3) := by decide +kernel
theorem d_Herd_init_4 : decode b_Herd_init 4 = .ok (.aload_n 0, 1) := by decide +kernel
theorem d_Herd_init_5 : decode b_Herd_init 5 = .ok (.iconst 0, 1) := by decide +kernel
theorem d_Herd_init_6 : decode b_Herd_init 6 = .ok (.putfield 9, 3) := by decide +kernel
theorem d_Herd_init_9 : decode b_Herd_init 9 = .ok (.aload_n 0, 1) := by decide +kernel
theorem d_Herd_init_10 : decode b_Herd_init 10 = .ok (.iconst 0, 1) := by decide +kernel
theorem d_Herd_init_11 : decode b_Herd_init 11 = .ok (.putfield 15, 3) := by decide +kernel
theorem d_Herd_init_14 : decode b_Herd_init 14 = .ok (.aload_n 0, 1) := by decide +kernel
theorem d_Herd_init_15 : decode b_Herd_init 15 = .ok (.bipush 12, 2) := by decide +kernel
theorem d_Herd_init_17 : decode b_Herd_init 17 = .ok (.newarray .int, 2) := by decide +kernel
theorem d_Herd_init_19 : decode b_Herd_init 19 = .ok (.putfield 18, 3) := by decide +kernel
theorem d_Herd_init_22 : decode b_Herd_init 22 = .ok (.aload_n 0, 1) := by decide +kernel
theorem d_Herd_init_23 : decode b_Herd_init 23 = .ok (.bipush 8, 2) := by decide +kernel
theorem d_Herd_init_25 : decode b_Herd_init 25 = .ok (.newarray .int, 2) := by decide +kernel
theorem d_Herd_init_27 : decode b_Herd_init 27 = .ok (.putfield 22, 3) := by decide +kernel
theorem d_Herd_init_30 : decode b_Herd_init 30 = .ok (.aload_n 0, 1) := by decide +kernel
theorem d_Herd_init_31 : decode b_Herd_init 31 = .ok (.bipush 12, 2) := by decide +kernel
theorem d_Herd_init_33 : decode b_Herd_init 33 = .ok (.bipush 12, 2) := by decide +kernel
theorem d_Herd_init_35 : decode b_Herd_init 35 = .ok (.multianewarray 25 2, 4) := by decide +kernel
theorem d_Herd_init_39 : decode b_Herd_init 39 = .ok (.putfield 27, 3) := by decide +kernel
theorem d_Herd_init_42 : decode b_Herd_init 42 = .ok (.aload_n 0, 1) := by decide +kernel
theorem d_Herd_init_43 : decode b_Herd_init 43 = .ok (.bipush 12, 2) := by decide +kernel
theorem d_Herd_init_45 : decode b_Herd_init 45 = .ok (.newarray .int, 2) := by decide +kernel
theorem d_Herd_init_47 : decode b_Herd_init 47 = .ok (.putfield 30, 3) := by decide +kernel
theorem d_Herd_init_50 : decode b_Herd_init 50 = .ok (.aload_n 0, 1) := by decide +kernel
theorem d_Herd_init_51 : decode b_Herd_init 51 = .ok (.sipush 1000, 3) := by decide +kernel
theorem d_Herd_init_54 : decode b_Herd_init 54 = .ok (.putfield 33, 3) := by decide +kernel
theorem d_Herd_init_57 : decode b_Herd_init 57 = .ok (.aload_n 0, 1) := by decide +kernel
theorem d_Herd_init_58 : decode b_Herd_init 58 = .ok (.iconst 0, 1) := by decide +kernel
theorem d_Herd_init_59 : decode b_Herd_init 59 = .ok (.putfield 36, 3) := by decide +kernel
theorem d_Herd_init_62 : decode b_Herd_init 62 = .ok (.aload_n 0, 1) := by decide +kernel
theorem d_Herd_init_63 : decode b_Herd_init 63 = .ok (.bipush 8, 2) := by decide +kernel
theorem d_Herd_init_65 : decode b_Herd_init 65 = .ok (.newarray .int, 2) := by decide +kernel
theorem d_Herd_init_67 : decode b_Herd_init 67 = .ok (.putfield 39, 3) := by decide +kernel
theorem d_Herd_init_70 : decode b_Herd_init 70 = .ok (.return_, 1) := by decide +kernel
theorem d_Herd_knows_0 : decode b_Herd_knows 0 = .ok (.iload_n 1, 1) := by decide +kernel
theorem d_Herd_knows_1 : decode b_Herd_knows 1 = .ok (.ifCond .lt 15, 3) := by decide +kernel
theorem d_Herd_knows_4 : decode b_Herd_knows 4 = .ok (.iload_n 1, 1) := by decide +kernel
theorem d_Herd_knows_5 : decode b_Herd_knows 5 = .ok (.aload_n 0, 1) := by decide +kernel
theorem d_Herd_knows_6 : decode b_Herd_knows 6 = .ok (.getfield 9, 3) := by decide +kernel
theorem d_Herd_knows_9 : decode b_Herd_knows 9 = .ok (.if_icmp .ge 7, 3) := by decide +kernel
theorem d_Herd_knows_12 : decode b_Herd_knows 12 = .ok (.iconst 1, 1) := by decide +kernel
theorem d_Herd_knows_13 : decode b_Herd_knows 13 = .ok (.goto 4, 3) := by decide +kernel
theorem d_Herd_knows_16 : decode b_Herd_knows 16 = .ok (.iconst 0, 1) := by decide +kernel
theorem d_Herd_knows_17 : decode b_Herd_knows 17 = .ok (.ireturn, 1) := by decide +kernel
theorem d_Herd_all_0 : decode b_Herd_all 0 = .ok (.aload_n 0, 1) := by decide +kernel
theorem d_Herd_all_1 : decode b_Herd_all 1 = .ok (.getfield 9, 3) := by decide +kernel
theorem d_Herd_all_4 : decode b_Herd_all 4 = .ok (.invokestatic 42, 3) := by decide +kernel
theorem d_Herd_all_7 : decode b_Herd_all 7 = .ok (.iconst 1, 1) := by decide +kernel
theorem d_Herd_all_8 : decode b_Herd_all 8 = .ok (.isub, 1) := by decide +kernel
theorem d_Herd_all_9 : decode b_Herd_all 9 = .ok (.ireturn, 1) := by decide +kernel
theorem d_Herd_add_0 : decode b_Herd_add 0 = .ok (.aload_n 0, 1) := by decide +kernel
theorem d_Herd_add_1 : decode b_Herd_add 1 = .ok (.getfield 9, 3) := by decide +kernel
theorem d_Herd_add_4 : decode b_Herd_add 4 = .ok (.istore 4, 2) := by decide +kernel
theorem d_Herd_add_6 : decode b_Herd_add 6 = .ok (.aload_n 0, 1) := by decide +kernel
theorem d_Herd_add_7 : decode b_Herd_add 7 = .ok (.dup, 1) := by decide +kernel
theorem d_Herd_add_8 : decode b_Herd_add 8 = .ok (.getfield 9, 3) := by decide +kernel
theorem d_Herd_add_11 : decode b_Herd_add 11 = .ok (.iconst 1, 1) := by decide +kernel
theorem d_Herd_add_12 : decode b_Herd_add 12 = .ok (.iadd, 1) := by decide +kernel
theorem d_Herd_add_13 : decode b_Herd_add 13 = .ok (.putfield 9, 3) := by decide +kernel
theorem d_Herd_add_16 : decode b_Herd_add 16 = .ok (.aload_n 0, 1) := by decide +kernel
theorem d_Herd_add_17 : decode b_Herd_add 17 = .ok (.getfield 18, 3) := by decide +kernel
theorem d_Herd_add_20 : decode b_Herd_add 20 = .ok (.iload 4, 2) := by decide +kernel
theorem d_Herd_add_22 : decode b_Herd_add 22 = .ok (.iload_n 2, 1) := by decide +kernel
theorem d_Herd_add_23 : decode b_Herd_add 23 = .ok (.iastore, 1) := by decide +kernel
theorem d_Herd_add_24 : decode b_Herd_add 24 = .ok (.aload_n 0, 1) := by decide +kernel
theorem d_Herd_add_25 : decode b_Herd_add 25 = .ok (.getfield 22, 3) := by decide +kernel
theorem d_Herd_add_28 : decode b_Herd_add 28 = .ok (.iload_n 3, 1) := by decide +kernel
theorem d_Herd_add_29 : decode b_Herd_add 29 = .ok (.dup2, 1) := by decide +kernel
theorem d_Herd_add_30 : decode b_Herd_add 30 = .ok (.iaload, 1) := by decide +kernel
theorem d_Herd_add_31 : decode b_Herd_add 31 = .ok (.iload 4, 2) := by decide +kernel
theorem d_Herd_add_33 : decode b_Herd_add 33 = .ok (.invokestatic 42, 3) := by decide +kernel
theorem d_Herd_add_36 : decode b_Herd_add 36 = .ok (.ior, 1) := by decide +kernel
theorem d_Herd_add_37 : decode b_Herd_add 37 = .ok (.iastore, 1) := by decide +kernel
theorem d_Herd_add_38 : decode b_Herd_add 38 = .ok (.iload_n 1, 1) := by decide +kernel
theorem d_Herd_add_39 : decode b_Herd_add 39 = .ok (.ifCond .ne 17, 3) := by decide +kernel
theorem d_Herd_add_42 : decode b_Herd_add 42 = .ok (.aload_n 0, 1) := by decide +kernel
theorem d_Herd_add_43 : decode b_Herd_add 43 = .ok (.dup, 1) := by decide +kernel
theorem d_Herd_add_44 : decode b_Herd_add 44 = .ok (.getfield 15, 3) := by decide +kernel
theorem d_Herd_add_47 : decode b_Herd_add 47 = .ok (.iload 4, 2) := by decide +kernel
theorem d_Herd_add_49 : decode b_Herd_add 49 = .ok (.invokestatic 42, 3) := by decide +kernel
theorem d_Herd_add_52 : decode b_Herd_add 52 = .ok (.ior, 1) := by decide +kernel
theorem d_Herd_add_53 : decode b_Herd_add 53 = .ok (.putfield 15, 3) := by decide +kernel
theorem d_Herd_add_56 : decode b_Herd_add 56 = .ok (.iload 4, 2) := by decide +kernel
theorem d_Herd_add_58 : decode b_Herd_add 58 = .ok (.ireturn, 1) := by decide +kernel
theorem d_Herd_worthSum_0 : decode b_Herd_worthSum 0 = .ok (.iconst 0, 1) := by decide +kernel
theorem d_Herd_worthSum_1 : decode b_Herd_worthSum 1 = .ok (.istore_n 2, 1) := by decide +kernel
theorem d_Herd_worthSum_2 : decode b_Herd_worthSum 2 = .ok (.iconst 0, 1) := by decide +kernel
theorem d_Herd_worthSum_3 : decode b_Herd_worthSum 3 = .ok (.istore_n 3, 1) := by decide +kernel
theorem d_Herd_worthSum_4 : decode b_Herd_worthSum 4 = .ok (.iload_n 3, 1) := by decide +kernel
theorem d_Herd_worthSum_5 : decode b_Herd_worthSum 5 = .ok (.aload_n 0, 1) := by decide +kernel
theorem d_Herd_worthSum_6 : decode b_Herd_worthSum 6 = .ok (.getfield 9, 3) := by decide +kernel
theorem d_Herd_worthSum_9 : decode b_Herd_worthSum 9 = .ok (.if_icmp .ge 26, 3) := by decide +kernel
theorem d_Herd_worthSum_12 : decode b_Herd_worthSum 12 = .ok (.iload_n 1, 1) := by decide +kernel
theorem d_Herd_worthSum_13 : decode b_Herd_worthSum 13 = .ok (.iload_n 3, 1) := by decide +kernel
theorem d_Herd_worthSum_14 : decode b_Herd_worthSum 14 = .ok (.invokestatic 46, 3) := by decide +kernel
theorem d_Herd_worthSum_17 : decode b_Herd_worthSum 17 = .ok (.ifCond .eq 12, 3) := by decide +kernel
theorem d_Herd_worthSum_20 : decode b_Herd_worthSum 20 = .ok (.iload_n 2, 1) := by decide +kernel
theorem d_Herd_worthSum_21 : decode b_Herd_worthSum 21 = .ok (.aload_n 0, 1) := by decide +kernel
theorem d_Herd_worthSum_22 : decode b_Herd_worthSum 22 = .ok (.getfield 18, 3) := by decide +kernel
theorem d_Herd_worthSum_25 : decode b_Herd_worthSum 25 = .ok (.iload_n 3, 1) := by decide +kernel
theorem d_Herd_worthSum_26 : decode b_Herd_worthSum 26 = .ok (.iaload, 1) := by decide +kernel
theorem d_Herd_worthSum_27 : decode b_Herd_worthSum 27 = .ok (.iadd, 1) := by decide +kernel
theorem d_Herd_worthSum_28 : decode b_Herd_worthSum 28 = .ok (.istore_n 2, 1) := by decide +kernel
theorem d_Herd_worthSum_29 : decode b_Herd_worthSum 29 = .ok (.iinc 3 1, 3) := by decide +kernel
theorem d_Herd_worthSum_32 : decode b_Herd_worthSum 32 = .ok (.goto (-28), 3) := by decide +kernel
theorem d_Herd_worthSum_35 : decode b_Herd_worthSum 35 = .ok (.iload_n 2, 1) := by decide +kernel
theorem d_Herd_worthSum_36 : decode b_Herd_worthSum 36 = .ok (.ireturn, 1) := by decide +kernel
theorem d_Herd_kinSum_0 : decode b_Herd_kinSum 0 = .ok (.iconst 0, 1) := by decide +kernel
theorem d_Herd_kinSum_1 : decode b_Herd_kinSum 1 = .ok (.istore_n 2, 1) := by decide +kernel
theorem d_Herd_kinSum_2 : decode b_Herd_kinSum 2 = .ok (.iconst 0, 1) := by decide +kernel
theorem d_Herd_kinSum_3 : decode b_Herd_kinSum 3 = .ok (.istore_n 3, 1) := by decide +kernel
theorem d_Herd_kinSum_4 : decode b_Herd_kinSum 4 = .ok (.iload_n 3, 1) := by decide +kernel
theorem d_Herd_kinSum_5 : decode b_Herd_kinSum 5 = .ok (.aload_n 0, 1) := by decide +kernel
end
section
theorem d_Herd_kinSum_6 : decode b_Herd_kinSum 6 = .ok (.getfield 9, 3) := by decide +kernel
theorem d_Herd_kinSum_9 : decode b_Herd_kinSum 9 = .ok (.if_icmp .ge 69, 3) := by decide +kernel
theorem d_Herd_kinSum_12 : decode b_Herd_kinSum 12 = .ok (.iload_n 1, 1) := by decide +kernel
theorem d_Herd_kinSum_13 : decode b_Herd_kinSum 13 = .ok (.iload_n 3, 1) := by decide +kernel
theorem d_Herd_kinSum_14 : decode b_Herd_kinSum 14 = .ok (.invokestatic 46, 3) := by decide +kernel
theorem d_Herd_kinSum_17 : decode b_Herd_kinSum 17 = .ok (.ifCond .ne 6, 3) := by decide +kernel
theorem d_Herd_kinSum_20 : decode b_Herd_kinSum 20 = .ok (.goto 52, 3) := by decide +kernel
theorem d_Herd_kinSum_23 : decode b_Herd_kinSum 23 = .ok (.iload_n 2, 1) := by decide +kernel
theorem d_Herd_kinSum_24 : decode b_Herd_kinSum 24 = .ok (.aload_n 0, 1) := by decide +kernel
theorem d_Herd_kinSum_25 : decode b_Herd_kinSum 25 = .ok (.getfield 27, 3) := by decide +kernel
theorem d_Herd_kinSum_28 : decode b_Herd_kinSum 28 = .ok (.iload_n 3, 1) := by decide +kernel
theorem d_Herd_kinSum_29 : decode b_Herd_kinSum 29 = .ok (.aaload, 1) := by decide +kernel
theorem d_Herd_kinSum_30 : decode b_Herd_kinSum 30 = .ok (.iload_n 3, 1) := by decide +kernel
theorem d_Herd_kinSum_31 : decode b_Herd_kinSum 31 = .ok (.iaload, 1) := by decide +kernel
theorem d_Herd_kinSum_32 : decode b_Herd_kinSum 32 = .ok (.iadd, 1) := by decide +kernel
theorem d_Herd_kinSum_33 : decode b_Herd_kinSum 33 = .ok (.istore_n 2, 1) := by decide +kernel
theorem d_Herd_kinSum_34 : decode b_Herd_kinSum 34 = .ok (.iconst 0, 1) := by decide +kernel
theorem d_Herd_kinSum_35 : decode b_Herd_kinSum 35 = .ok (.istore 4, 2) := by decide +kernel
theorem d_Herd_kinSum_37 : decode b_Herd_kinSum 37 = .ok (.iload 4, 2) := by decide +kernel
theorem d_Herd_kinSum_39 : decode b_Herd_kinSum 39 = .ok (.iload_n 3, 1) := by decide +kernel
theorem d_Herd_kinSum_40 : decode b_Herd_kinSum 40 = .ok (.if_icmp .ge 32, 3) := by decide +kernel
theorem d_Herd_kinSum_43 : decode b_Herd_kinSum 43 = .ok (.iload_n 1, 1) := by decide +kernel
theorem d_Herd_kinSum_44 : decode b_Herd_kinSum 44 = .ok (.iload 4, 2) := by decide +kernel
theorem d_Herd_kinSum_46 : decode b_Herd_kinSum 46 = .ok (.invokestatic 46, 3) := by decide +kernel
theorem d_Herd_kinSum_49 : decode b_Herd_kinSum 49 = .ok (.ifCond .eq 17, 3) := by decide +kernel
theorem d_Herd_kinSum_52 : decode b_Herd_kinSum 52 = .ok (.iload_n 2, 1) := by decide +kernel
theorem d_Herd_kinSum_53 : decode b_Herd_kinSum 53 = .ok (.iconst 2, 1) := by decide +kernel
theorem d_Herd_kinSum_54 : decode b_Herd_kinSum 54 = .ok (.aload_n 0, 1) := by decide +kernel
theorem d_Herd_kinSum_55 : decode b_Herd_kinSum 55 = .ok (.getfield 27, 3) := by decide +kernel
theorem d_Herd_kinSum_58 : decode b_Herd_kinSum 58 = .ok (.iload_n 3, 1) := by decide +kernel
theorem d_Herd_kinSum_59 : decode b_Herd_kinSum 59 = .ok (.aaload, 1) := by decide +kernel
theorem d_Herd_kinSum_60 : decode b_Herd_kinSum 60 = .ok (.iload 4, 2) := by decide +kernel
theorem d_Herd_kinSum_62 : decode b_Herd_kinSum 62 = .ok (.iaload, 1) := by decide +kernel
theorem d_Herd_kinSum_63 : decode b_Herd_kinSum 63 = .ok (.imul, 1) := by decide +kernel
theorem d_Herd_kinSum_64 : decode b_Herd_kinSum 64 = .ok (.iadd, 1) := by decide +kernel
theorem d_Herd_kinSum_65 : decode b_Herd_kinSum 65 = .ok (.istore_n 2, 1) := by decide +kernel
theorem d_Herd_kinSum_66 : decode b_Herd_kinSum 66 = .ok (.iinc 4 1, 3) := by decide +kernel
theorem d_Herd_kinSum_69 : decode b_Herd_kinSum 69 = .ok (.goto (-32), 3) := by decide +kernel
theorem d_Herd_kinSum_72 : decode b_Herd_kinSum 72 = .ok (.iinc 3 1, 3) := by decide +kernel
theorem d_Herd_kinSum_75 : decode b_Herd_kinSum 75 = .ok (.goto (-71), 3) := by decide +kernel
theorem d_Herd_kinSum_78 : decode b_Herd_kinSum 78 = .ok (.iload_n 2, 1) := by decide +kernel
theorem d_Herd_kinSum_79 : decode b_Herd_kinSum 79 = .ok (.ireturn, 1) := by decide +kernel
theorem d_Herd_keepsFamilies_0 : decode b_Herd_keepsFamilies 0 = .ok (.iconst 0, 1) := by decide +kernel
theorem d_Herd_keepsFamilies_1 : decode b_Herd_keepsFamilies 1 = .ok (.istore_n 2, 1) := by decide +kernel
theorem d_Herd_keepsFamilies_2 : decode b_Herd_keepsFamilies 2 = .ok (.iload_n 2, 1) := by decide +kernel
theorem d_Herd_keepsFamilies_3 : decode b_Herd_keepsFamilies 3 = .ok (.bipush 8, 2) := by decide +kernel
theorem d_Herd_keepsFamilies_5 : decode b_Herd_keepsFamilies 5 = .ok (.if_icmp .ge 48, 3) := by decide +kernel
theorem d_Herd_keepsFamilies_8 : decode b_Herd_keepsFamilies 8 = .ok (.iload_n 1, 1) := by decide +kernel
theorem d_Herd_keepsFamilies_9 : decode b_Herd_keepsFamilies 9 = .ok (.aload_n 0, 1) := by decide +kernel
theorem d_Herd_keepsFamilies_10 : decode b_Herd_keepsFamilies 10 = .ok (.getfield 22, 3) := by decide +kernel
theorem d_Herd_keepsFamilies_13 : decode b_Herd_keepsFamilies 13 = .ok (.iload_n 2, 1) := by decide +kernel
theorem d_Herd_keepsFamilies_14 : decode b_Herd_keepsFamilies 14 = .ok (.iaload, 1) := by decide +kernel
theorem d_Herd_keepsFamilies_15 : decode b_Herd_keepsFamilies 15 = .ok (.iand, 1) := by decide +kernel
theorem d_Herd_keepsFamilies_16 : decode b_Herd_keepsFamilies 16 = .ok (.invokestatic 50, 3) := by decide +kernel
theorem d_Herd_keepsFamilies_19 : decode b_Herd_keepsFamilies 19 = .ok (.istore_n 3, 1) := by decide +kernel
theorem d_Herd_keepsFamilies_20 : decode b_Herd_keepsFamilies 20 = .ok (.iload_n 3, 1) := by decide +kernel
theorem d_Herd_keepsFamilies_21 : decode b_Herd_keepsFamilies 21 = .ok (.aload_n 0, 1) := by decide +kernel
theorem d_Herd_keepsFamilies_22 : decode b_Herd_keepsFamilies 22 = .ok (.getfield 39, 3) := by decide +kernel
theorem d_Herd_keepsFamilies_25 : decode b_Herd_keepsFamilies 25 = .ok (.iload_n 2, 1) := by decide +kernel
theorem d_Herd_keepsFamilies_26 : decode b_Herd_keepsFamilies 26 = .ok (.iaload, 1) := by decide +kernel
theorem d_Herd_keepsFamilies_27 : decode b_Herd_keepsFamilies 27 = .ok (.if_icmp .lt 18, 3) := by decide +kernel
theorem d_Herd_keepsFamilies_30 : decode b_Herd_keepsFamilies 30 = .ok (.aload_n 0, 1) := by decide +kernel
theorem d_Herd_keepsFamilies_31 : decode b_Herd_keepsFamilies 31 = .ok (.getfield 36, 3) := by decide +kernel
theorem d_Herd_keepsFamilies_34 : decode b_Herd_keepsFamilies 34 = .ok (.ifCond .le 13, 3) := by decide +kernel
theorem d_Herd_keepsFamilies_37 : decode b_Herd_keepsFamilies 37 = .ok (.iload_n 3, 1) := by decide +kernel
theorem d_Herd_keepsFamilies_38 : decode b_Herd_keepsFamilies 38 = .ok (.aload_n 0, 1) := by decide +kernel
theorem d_Herd_keepsFamilies_39 : decode b_Herd_keepsFamilies 39 = .ok (.getfield 36, 3) := by decide +kernel
theorem d_Herd_keepsFamilies_42 : decode b_Herd_keepsFamilies 42 = .ok (.if_icmp .le 5, 3) := by decide +kernel
theorem d_Herd_keepsFamilies_45 : decode b_Herd_keepsFamilies 45 = .ok (.iconst 0, 1) := by decide +kernel
theorem d_Herd_keepsFamilies_46 : decode b_Herd_keepsFamilies 46 = .ok (.ireturn, 1) := by decide +kernel
theorem d_Herd_keepsFamilies_47 : decode b_Herd_keepsFamilies 47 = .ok (.iinc 2 1, 3) := by decide +kernel
theorem d_Herd_keepsFamilies_50 : decode b_Herd_keepsFamilies 50 = .ok (.goto (-48), 3) := by decide +kernel
theorem d_Herd_keepsFamilies_53 : decode b_Herd_keepsFamilies 53 = .ok (.iconst 1, 1) := by decide +kernel
theorem d_Herd_keepsFamilies_54 : decode b_Herd_keepsFamilies 54 = .ok (.ireturn, 1) := by decide +kernel
theorem d_Herd_keepsRules_0 : decode b_Herd_keepsRules 0 = .ok (.aload_n 0, 1) := by decide +kernel
theorem d_Herd_keepsRules_1 : decode b_Herd_keepsRules 1 = .ok (.iload_n 1, 1) := by decide +kernel
theorem d_Herd_keepsRules_2 : decode b_Herd_keepsRules 2 = .ok (.invokevirtual 55, 3) := by decide +kernel
theorem d_Herd_keepsRules_5 : decode b_Herd_keepsRules 5 = .ok (.ifCond .eq 25, 3) := by decide +kernel
theorem d_Herd_keepsRules_8 : decode b_Herd_keepsRules 8 = .ok (.aload_n 0, 1) := by decide +kernel
theorem d_Herd_keepsRules_9 : decode b_Herd_keepsRules 9 = .ok (.iload_n 1, 1) := by decide +kernel
theorem d_Herd_keepsRules_10 : decode b_Herd_keepsRules 10 = .ok (.invokevirtual 59, 3) := by decide +kernel
theorem d_Herd_keepsRules_13 : decode b_Herd_keepsRules 13 = .ok (.iconst 4, 1) := by decide +kernel
theorem d_Herd_keepsRules_14 : decode b_Herd_keepsRules 14 = .ok (.iload_n 2, 1) := by decide +kernel
theorem d_Herd_keepsRules_15 : decode b_Herd_keepsRules 15 = .ok (.imul, 1) := by decide +kernel
theorem d_Herd_keepsRules_16 : decode b_Herd_keepsRules 16 = .ok (.iload_n 2, 1) := by decide +kernel
theorem d_Herd_keepsRules_17 : decode b_Herd_keepsRules 17 = .ok (.imul, 1) := by decide +kernel
theorem d_Herd_keepsRules_18 : decode b_Herd_keepsRules 18 = .ok (.aload_n 0, 1) := by decide +kernel
theorem d_Herd_keepsRules_19 : decode b_Herd_keepsRules 19 = .ok (.getfield 33, 3) := by decide +kernel
theorem d_Herd_keepsRules_22 : decode b_Herd_keepsRules 22 = .ok (.imul, 1) := by decide +kernel
theorem d_Herd_keepsRules_23 : decode b_Herd_keepsRules 23 = .ok (.if_icmp .gt 7, 3) := by decide +kernel
theorem d_Herd_keepsRules_26 : decode b_Herd_keepsRules 26 = .ok (.iconst 1, 1) := by decide +kernel
theorem d_Herd_keepsRules_27 : decode b_Herd_keepsRules 27 = .ok (.goto 4, 3) := by decide +kernel
theorem d_Herd_keepsRules_30 : decode b_Herd_keepsRules 30 = .ok (.iconst 0, 1) := by decide +kernel
theorem d_Herd_keepsRules_31 : decode b_Herd_keepsRules 31 = .ok (.ireturn, 1) := by decide +kernel
theorem d_Outlook_init_0 : decode b_Outlook_init 0 = .ok (.aload_n 0, 1) := by decide +kernel
theorem d_Outlook_init_1 : decode b_Outlook_init 1 = .ok (.invokespecial 3, 3) := by decide +kernel
theorem d_Outlook_init_4 : decode b_Outlook_init 4 = .ok (.aload_n 0, 1) := by decide +kernel
theorem d_Outlook_init_5 : decode b_Outlook_init 5 = .ok (.iconst 0, 1) := by decide +kernel
theorem d_Outlook_init_6 : decode b_Outlook_init 6 = .ok (.putfield 9, 3) := by decide +kernel
theorem d_Outlook_init_9 : decode b_Outlook_init 9 = .ok (.aload_n 0, 1) := by decide +kernel
theorem d_Outlook_init_10 : decode b_Outlook_init 10 = .ok (.bipush 20, 2) := by decide +kernel
theorem d_Outlook_init_12 : decode b_Outlook_init 12 = .ok (.newarray .int, 2) := by decide +kernel
theorem d_Outlook_init_14 : decode b_Outlook_init 14 = .ok (.putfield 15, 3) := by decide +kernel
theorem d_Outlook_init_17 : decode b_Outlook_init 17 = .ok (.aload_n 0, 1) := by decide +kernel
theorem d_Outlook_init_18 : decode b_Outlook_init 18 = .ok (.bipush 20, 2) := by decide +kernel
theorem d_Outlook_init_20 : decode b_Outlook_init 20 = .ok (.newarray .int, 2) := by decide +kernel
theorem d_Outlook_init_22 : decode b_Outlook_init 22 = .ok (.putfield 19, 3) := by decide +kernel
theorem d_Outlook_init_25 : decode b_Outlook_init 25 = .ok (.return_, 1) := by decide +kernel
theorem d_Outlook_note_0 : decode b_Outlook_note 0 = .ok (.aload_n 0, 1) := by decide +kernel
theorem d_Outlook_note_1 : decode b_Outlook_note 1 = .ok (.getfield 15, 3) := by decide +kernel
theorem d_Outlook_note_4 : decode b_Outlook_note 4 = .ok (.iload_n 1, 1) := by decide +kernel
theorem d_Outlook_note_5 : decode b_Outlook_note 5 = .ok (.iload_n 2, 1) := by decide +kernel
theorem d_Outlook_note_6 : decode b_Outlook_note 6 = .ok (.iastore, 1) := by decide +kernel
theorem d_Outlook_note_7 : decode b_Outlook_note 7 = .ok (.aload_n 0, 1) := by decide +kernel
theorem d_Outlook_note_8 : decode b_Outlook_note 8 = .ok (.getfield 19, 3) := by decide +kernel
theorem d_Outlook_note_11 : decode b_Outlook_note 11 = .ok (.iload_n 1, 1) := by decide +kernel
theorem d_Outlook_note_12 : decode b_Outlook_note 12 = .ok (.iload_n 3, 1) := by decide +kernel
theorem d_Outlook_note_13 : decode b_Outlook_note 13 = .ok (.iastore, 1) := by decide +kernel
theorem d_Outlook_note_14 : decode b_Outlook_note 14 = .ok (.return_, 1) := by decide +kernel
theorem d_Pairing_init_0 : decode b_Pairing_init 0 = .ok (.aload_n 0, 1) := by decide +kernel
theorem d_Pairing_init_1 : decode b_Pairing_init 1 = .ok (.invokespecial 3, 3) := by decide +kernel
theorem d_Pairing_init_4 : decode b_Pairing_init 4 = .ok (.aload_n 0, 1) := by decide +kernel
theorem d_Pairing_init_5 : decode b_Pairing_init 5 = .ok (.bipush 6, 2) := by decide +kernel
theorem d_Pairing_init_7 : decode b_Pairing_init 7 = .ok (.newarray .int, 2) := by decide +kernel
theorem d_Pairing_init_9 : decode b_Pairing_init 9 = .ok (.putfield 9, 3) := by decide +kernel
theorem d_Pairing_init_12 : decode b_Pairing_init 12 = .ok (.aload_n 0, 1) := by decide +kernel
theorem d_Pairing_init_13 : decode b_Pairing_init 13 = .ok (.bipush 6, 2) := by decide +kernel
theorem d_Pairing_init_15 : decode b_Pairing_init 15 = .ok (.newarray .int, 2) := by decide +kernel
theorem d_Pairing_init_17 : decode b_Pairing_init 17 = .ok (.putfield 15, 3) := by decide +kernel
theorem d_Pairing_init_20 : decode b_Pairing_init 20 = .ok (.return_, 1) := by decide +kernel
theorem d_Pairing_pairSet_0 : decode b_Pairing_pairSet 0 = .ok (.aload_n 0, 1) := by decide +kernel
theorem d_Pairing_pairSet_1 : decode b_Pairing_pairSet 1 = .ok (.iconst 0, 1) := by decide +kernel
theorem d_Pairing_pairSet_2 : decode b_Pairing_pairSet 2 = .ok (.aload_n 1, 1) := by decide +kernel
theorem d_Pairing_pairSet_3 : decode b_Pairing_pairSet 3 = .ok (.iload_n 2, 1) := by decide +kernel
theorem d_Pairing_pairSet_4 : decode b_Pairing_pairSet 4 = .ok (.aload_n 1, 1) := by decide +kernel
theorem d_Pairing_pairSet_5 : decode b_Pairing_pairSet 5 = .ok (.getfield 18, 3) := by decide +kernel
theorem d_Pairing_pairSet_8 : decode b_Pairing_pairSet 8 = .ok (.iand, 1) := by decide +kernel
theorem d_Pairing_pairSet_9 : decode b_Pairing_pairSet 9 = .ok (.iload_n 2, 1) := by decide +kernel
theorem d_Pairing_pairSet_10 : decode b_Pairing_pairSet 10 = .ok (.aload_n 1, 1) := by decide +kernel
theorem d_Pairing_pairSet_11 : decode b_Pairing_pairSet 11 = .ok (.getfield 18, 3) := by decide +kernel
theorem d_Pairing_pairSet_14 : decode b_Pairing_pairSet 14 = .ok (.iconst (-1), 1) := by decide +kernel
theorem d_Pairing_pairSet_15 : decode b_Pairing_pairSet 15 = .ok (.ixor, 1) := by decide +kernel
theorem d_Pairing_pairSet_16 : decode b_Pairing_pairSet 16 = .ok (.iand, 1) := by decide +kernel
theorem d_Pairing_pairSet_17 : decode b_Pairing_pairSet 17 = .ok (.invokevirtual 23, 3) := by decide +kernel
theorem d_Pairing_pairSet_20 : decode b_Pairing_pairSet 20 = .ok (.ireturn, 1) := by decide +kernel
theorem d_Pairing_pairFrom_0 : decode b_Pairing_pairFrom 0 = .ok (.iload_n 3, 1) := by decide +kernel
theorem d_Pairing_pairFrom_1 : decode b_Pairing_pairFrom 1 = .ok (.ifCond .ne 5, 3) := by decide +kernel
theorem d_Pairing_pairFrom_4 : decode b_Pairing_pairFrom 4 = .ok (.iconst 1, 1) := by decide +kernel
theorem d_Pairing_pairFrom_5 : decode b_Pairing_pairFrom 5 = .ok (.ireturn, 1) := by decide +kernel
theorem d_Pairing_pairFrom_6 : decode b_Pairing_pairFrom 6 = .ok (.iload_n 1, 1) := by decide +kernel
theorem d_Pairing_pairFrom_7 : decode b_Pairing_pairFrom 7 = .ok (.bipush 6, 2) := by decide +kernel
theorem d_Pairing_pairFrom_9 : decode b_Pairing_pairFrom 9 = .ok (.if_icmp .lt 5, 3) := by decide +kernel
theorem d_Pairing_pairFrom_12 : decode b_Pairing_pairFrom 12 = .ok (.iconst 0, 1) := by decide +kernel
theorem d_Pairing_pairFrom_13 : decode b_Pairing_pairFrom 13 = .ok (.ireturn, 1) := by decide +kernel
theorem d_Pairing_pairFrom_14 : decode b_Pairing_pairFrom 14 = .ok (.iload_n 3, 1) := by decide +kernel
theorem d_Pairing_pairFrom_15 : decode b_Pairing_pairFrom 15 = .ok (.invokestatic 27, 3) := by decide +kernel
theorem d_Pairing_pairFrom_18 : decode b_Pairing_pairFrom 18 = .ok (.istore 5, 2) := by decide +kernel
theorem d_Pairing_pairFrom_20 : decode b_Pairing_pairFrom 20 = .ok (.aload_n 2, 1) := by decide +kernel
theorem d_Pairing_pairFrom_21 : decode b_Pairing_pairFrom 21 = .ok (.iload 5, 2) := by decide +kernel
theorem d_Pairing_pairFrom_23 : decode b_Pairing_pairFrom 23 = .ok (.invokevirtual 31, 3) := by decide +kernel
theorem d_Pairing_pairFrom_26 : decode b_Pairing_pairFrom 26 = .ok (.ifCond .ne 5, 3) := by decide +kernel
theorem d_Pairing_pairFrom_29 : decode b_Pairing_pairFrom 29 = .ok (.iconst 0, 1) := by decide +kernel
theorem d_Pairing_pairFrom_30 : decode b_Pairing_pairFrom 30 = .ok (.ireturn, 1) := by decide +kernel
theorem d_Pairing_pairFrom_31 : decode b_Pairing_pairFrom 31 = .ok (.iload 4, 2) := by decide +kernel
theorem d_Pairing_pairFrom_33 : decode b_Pairing_pairFrom 33 = .ok (.aload_n 2, 1) := by decide +kernel
theorem d_Pairing_pairFrom_34 : decode b_Pairing_pairFrom 34 = .ok (.getfield 35, 3) := by decide +kernel
theorem d_Pairing_pairFrom_37 : decode b_Pairing_pairFrom 37 = .ok (.iload 5, 2) := by decide +kernel
theorem d_Pairing_pairFrom_39 : decode b_Pairing_pairFrom 39 = .ok (.iaload, 1) := by decide +kernel
theorem d_Pairing_pairFrom_40 : decode b_Pairing_pairFrom 40 = .ok (.iconst (-1), 1) := by decide +kernel
theorem d_Pairing_pairFrom_41 : decode b_Pairing_pairFrom 41 = .ok (.ixor, 1) := by decide +kernel
theorem d_Pairing_pairFrom_42 : decode b_Pairing_pairFrom 42 = .ok (.iand, 1) := by decide +kernel
theorem d_Pairing_pairFrom_43 : decode b_Pairing_pairFrom 43 = .ok (.istore 6, 2) := by decide +kernel
theorem d_Pairing_pairFrom_45 : decode b_Pairing_pairFrom 45 = .ok (.iconst 0, 1) := by decide +kernel
theorem d_Pairing_pairFrom_46 : decode b_Pairing_pairFrom 46 = .ok (.istore 7, 2) := by decide +kernel
theorem d_Pairing_pairFrom_48 : decode b_Pairing_pairFrom 48 = .ok (.iload 7, 2) := by decide +kernel
theorem d_Pairing_pairFrom_50 : decode b_Pairing_pairFrom 50 = .ok (.aload_n 2, 1) := by decide +kernel
theorem d_Pairing_pairFrom_51 : decode b_Pairing_pairFrom 51 = .ok (.getfield 38, 3) := by decide +kernel
theorem d_Pairing_pairFrom_54 : decode b_Pairing_pairFrom 54 = .ok (.if_icmp .ge 67, 3) := by decide +kernel
theorem d_Pairing_pairFrom_57 : decode b_Pairing_pairFrom 57 = .ok (.iload 6, 2) := by decide +kernel
theorem d_Pairing_pairFrom_59 : decode b_Pairing_pairFrom 59 = .ok (.iload 7, 2) := by decide +kernel
theorem d_Pairing_pairFrom_61 : decode b_Pairing_pairFrom 61 = .ok (.invokestatic 41, 3) := by decide +kernel
theorem d_Pairing_pairFrom_64 : decode b_Pairing_pairFrom 64 = .ok (.ifCond .eq 51, 3) := by decide +kernel
theorem d_Pairing_pairFrom_67 : decode b_Pairing_pairFrom 67 = .ok (.aload_n 0, 1) := by decide +kernel
theorem d_Pairing_pairFrom_68 : decode b_Pairing_pairFrom 68 = .ok (.iload_n 1, 1) := by decide +kernel
theorem d_Pairing_pairFrom_69 : decode b_Pairing_pairFrom 69 = .ok (.iconst 1, 1) := by decide +kernel
theorem d_Pairing_pairFrom_70 : decode b_Pairing_pairFrom 70 = .ok (.iadd, 1) := by decide +kernel
theorem d_Pairing_pairFrom_71 : decode b_Pairing_pairFrom 71 = .ok (.aload_n 2, 1) := by decide +kernel
theorem d_Pairing_pairFrom_72 : decode b_Pairing_pairFrom 72 = .ok (.iload_n 3, 1) := by decide +kernel
theorem d_Pairing_pairFrom_73 : decode b_Pairing_pairFrom 73 = .ok (.iload 5, 2) := by decide +kernel
theorem d_Pairing_pairFrom_75 : decode b_Pairing_pairFrom 75 = .ok (.invokestatic 45, 3) := by decide +kernel
theorem d_Pairing_pairFrom_78 : decode b_Pairing_pairFrom 78 = .ok (.iconst (-1), 1) := by decide +kernel
theorem d_Pairing_pairFrom_79 : decode b_Pairing_pairFrom 79 = .ok (.ixor, 1) := by decide +kernel
theorem d_Pairing_pairFrom_80 : decode b_Pairing_pairFrom 80 = .ok (.iand, 1) := by decide +kernel
theorem d_Pairing_pairFrom_81 : decode b_Pairing_pairFrom 81 = .ok (.iload 4, 2) := by decide +kernel
theorem d_Pairing_pairFrom_83 : decode b_Pairing_pairFrom 83 = .ok (.iload 7, 2) := by decide +kernel
theorem d_Pairing_pairFrom_85 : decode b_Pairing_pairFrom 85 = .ok (.invokestatic 45, 3) := by decide +kernel
theorem d_Pairing_pairFrom_88 : decode b_Pairing_pairFrom 88 = .ok (.iconst (-1), 1) := by decide +kernel
theorem d_Pairing_pairFrom_89 : decode b_Pairing_pairFrom 89 = .ok (.ixor, 1) := by decide +kernel
theorem d_Pairing_pairFrom_90 : decode b_Pairing_pairFrom 90 = .ok (.iand, 1) := by decide +kernel
theorem d_Pairing_pairFrom_91 : decode b_Pairing_pairFrom 91 = .ok (.invokevirtual 23, 3) := by decide +kernel
theorem d_Pairing_pairFrom_94 : decode b_Pairing_pairFrom 94 = .ok (.ifCond .eq 21, 3) := by decide +kernel
theorem d_Pairing_pairFrom_97 : decode b_Pairing_pairFrom 97 = .ok (.aload_n 0, 1) := by decide +kernel
theorem d_Pairing_pairFrom_98 : decode b_Pairing_pairFrom 98 = .ok (.getfield 9, 3) := by decide +kernel
theorem d_Pairing_pairFrom_101 : decode b_Pairing_pairFrom 101 = .ok (.iload_n 1, 1) := by decide +kernel
theorem d_Pairing_pairFrom_102 : decode b_Pairing_pairFrom 102 = .ok (.iload 5, 2) := by decide +kernel
theorem d_Pairing_pairFrom_104 : decode b_Pairing_pairFrom 104 = .ok (.iastore, 1) := by decide +kernel
theorem d_Pairing_pairFrom_105 : decode b_Pairing_pairFrom 105 = .ok (.aload_n 0, 1) := by decide +kernel
theorem d_Pairing_pairFrom_106 : decode b_Pairing_pairFrom 106 = .ok (.getfield 15, 3) := by decide +kernel
theorem d_Pairing_pairFrom_109 : decode b_Pairing_pairFrom 109 = .ok (.iload_n 1, 1) := by decide +kernel
theorem d_Pairing_pairFrom_110 : decode b_Pairing_pairFrom 110 = .ok (.iload 7, 2) := by decide +kernel
theorem d_Pairing_pairFrom_112 : decode b_Pairing_pairFrom 112 = .ok (.iastore, 1) := by decide +kernel
theorem d_Pairing_pairFrom_113 : decode b_Pairing_pairFrom 113 = .ok (.iconst 1, 1) := by decide +kernel
theorem d_Pairing_pairFrom_114 : decode b_Pairing_pairFrom 114 = .ok (.ireturn, 1) := by decide +kernel
theorem d_Pairing_pairFrom_115 : decode b_Pairing_pairFrom 115 = .ok (.iinc 7 1, 3) := by decide +kernel
theorem d_Pairing_pairFrom_118 : decode b_Pairing_pairFrom 118 = .ok (.goto (-70), 3) := by decide +kernel
theorem d_Pairing_pairFrom_121 : decode b_Pairing_pairFrom 121 = .ok (.iconst 0, 1) := by decide +kernel
theorem d_Pairing_pairFrom_122 : decode b_Pairing_pairFrom 122 = .ok (.ireturn, 1) := by decide +kernel
theorem d_SetList_init_0 : decode b_SetList_init 0 = .ok (.aload_n 0, 1) := by decide +kernel
theorem d_SetList_init_1 : decode b_SetList_init 1 = .ok (.invokespecial 3, 3) := by decide +kernel
theorem d_SetList_init_4 : decode b_SetList_init 4 = .ok (.aload_n 0, 1) := by decide +kernel
theorem d_SetList_init_5 : decode b_SetList_init 5 = .ok (.new 9, 3) := by decide +kernel
theorem d_SetList_init_8 : decode b_SetList_init 8 = .ok (.dup, 1) := by decide +kernel
theorem d_SetList_init_9 : decode b_SetList_init 9 = .ok (.invokespecial 11, 3) := by decide +kernel
theorem d_SetList_init_12 : decode b_SetList_init 12 = .ok (.putfield 12, 3) := by decide +kernel
theorem d_SetList_init_15 : decode b_SetList_init 15 = .ok (.aload_n 0, 1) := by decide +kernel
theorem d_SetList_init_16 : decode b_SetList_init 16 = .ok (.sipush 400, 3) := by decide +kernel
theorem d_SetList_init_19 : decode b_SetList_init 19 = .ok (.newarray .int, 2) := by decide +kernel
theorem d_SetList_init_21 : decode b_SetList_init 21 = .ok (.putfield 18, 3) := by decide +kernel
theorem d_SetList_init_24 : decode b_SetList_init 24 = .ok (.aload_n 0, 1) := by decide +kernel
theorem d_SetList_init_25 : decode b_SetList_init 25 = .ok (.sipush 400, 3) := by decide +kernel
theorem d_SetList_init_28 : decode b_SetList_init 28 = .ok (.newarray .int, 2) := by decide +kernel
theorem d_SetList_init_30 : decode b_SetList_init 30 = .ok (.putfield 22, 3) := by decide +kernel
theorem d_SetList_init_33 : decode b_SetList_init 33 = .ok (.aload_n 0, 1) := by decide +kernel
theorem d_SetList_init_34 : decode b_SetList_init 34 = .ok (.iconst 0, 1) := by decide +kernel
theorem d_SetList_init_35 : decode b_SetList_init 35 = .ok (.putfield 25, 3) := by decide +kernel
theorem d_SetList_init_38 : decode b_SetList_init 38 = .ok (.aload_n 0, 1) := by decide +kernel
theorem d_SetList_init_39 : decode b_SetList_init 39 = .ok (.iconst 0, 1) := by decide +kernel
theorem d_SetList_init_40 : decode b_SetList_init 40 = .ok (.putfield 29, 3) := by decide +kernel
theorem d_SetList_init_43 : decode b_SetList_init 43 = .ok (.aload_n 0, 1) := by decide +kernel
theorem d_SetList_init_44 : decode b_SetList_init 44 = .ok (.aload_n 1, 1) := by decide +kernel
theorem d_SetList_init_45 : decode b_SetList_init 45 = .ok (.putfield 32, 3) := by decide +kernel
theorem d_SetList_init_48 : decode b_SetList_init 48 = .ok (.return_, 1) := by decide +kernel
theorem d_SetList_forget_0 : decode b_SetList_forget 0 = .ok (.aload_n 0, 1) := by decide +kernel
theorem d_SetList_forget_1 : decode b_SetList_forget 1 = .ok (.iconst 0, 1) := by decide +kernel
theorem d_SetList_forget_2 : decode b_SetList_forget 2 = .ok (.putfield 29, 3) := by decide +kernel
theorem d_SetList_forget_5 : decode b_SetList_forget 5 = .ok (.return_, 1) := by decide +kernel
theorem d_SetList_listAll_0 : decode b_SetList_listAll 0 = .ok (.iload_n 1, 1) := by decide +kernel
theorem d_SetList_listAll_1 : decode b_SetList_listAll 1 = .ok (.aload_n 0, 1) := by decide +kernel
theorem d_SetList_listAll_2 : decode b_SetList_listAll 2 = .ok (.getfield 29, 3) := by decide +kernel
theorem d_SetList_listAll_5 : decode b_SetList_listAll 5 = .ok (.if_icmp .ne 4, 3) := by decide +kernel
theorem d_SetList_listAll_8 : decode b_SetList_listAll 8 = .ok (.return_, 1) := by decide +kernel
theorem d_SetList_listAll_9 : decode b_SetList_listAll 9 = .ok (.aload_n 0, 1) := by decide +kernel
theorem d_SetList_listAll_10 : decode b_SetList_listAll 10 = .ok (.iload_n 1, 1) := by decide +kernel
theorem d_SetList_listAll_11 : decode b_SetList_listAll 11 = .ok (.putfield 29, 3) := by decide +kernel
theorem d_SetList_listAll_14 : decode b_SetList_listAll 14 = .ok (.aload_n 0, 1) := by decide +kernel
theorem d_SetList_listAll_15 : decode b_SetList_listAll 15 = .ok (.iconst 0, 1) := by decide +kernel
theorem d_SetList_listAll_16 : decode b_SetList_listAll 16 = .ok (.putfield 25, 3) := by decide +kernel
theorem d_SetList_listAll_19 : decode b_SetList_listAll 19 = .ok (.aload_n 0, 1) := by decide +kernel
theorem d_SetList_listAll_20 : decode b_SetList_listAll 20 = .ok (.getfield 32, 3) := by decide +kernel
theorem d_SetList_listAll_23 : decode b_SetList_listAll 23 = .ok (.getfield 36, 3) := by decide +kernel
theorem d_SetList_listAll_26 : decode b_SetList_listAll 26 = .ok (.istore_n 2, 1) := by decide +kernel
theorem d_SetList_listAll_27 : decode b_SetList_listAll 27 = .ok (.iload_n 2, 1) := by decide +kernel
theorem d_SetList_listAll_28 : decode b_SetList_listAll 28 = .ok (.ifCond .le 31, 3) := by decide +kernel
theorem d_SetList_listAll_31 : decode b_SetList_listAll 31 = .ok (.iload_n 2, 1) := by decide +kernel
theorem d_SetList_listAll_32 : decode b_SetList_listAll 32 = .ok (.invokestatic 41, 3) := by decide +kernel
theorem d_SetList_listAll_35 : decode b_SetList_listAll 35 = .ok (.iload_n 1, 1) := by decide +kernel
theorem d_SetList_listAll_36 : decode b_SetList_listAll 36 = .ok (.if_icmp .ne 8, 3) := by decide +kernel
theorem d_SetList_listAll_39 : decode b_SetList_listAll 39 = .ok (.aload_n 0, 1) := by decide +kernel
theorem d_SetList_listAll_40 : decode b_SetList_listAll 40 = .ok (.iload_n 2, 1) := by decide +kernel
theorem d_SetList_listAll_41 : decode b_SetList_listAll 41 = .ok (.invokevirtual 47, 3) := by decide +kernel
theorem d_SetList_listAll_44 : decode b_SetList_listAll 44 = .ok (.iload_n 2, 1) := by decide +kernel
theorem d_SetList_listAll_45 : decode b_SetList_listAll 45 = .ok (.iconst 1, 1) := by decide +kernel
theorem d_SetList_listAll_46 : decode b_SetList_listAll 46 = .ok (.isub, 1) := by decide +kernel
theorem d_SetList_listAll_47 : decode b_SetList_listAll 47 = .ok (.aload_n 0, 1) := by decide +kernel
theorem d_SetList_listAll_48 : decode b_SetList_listAll 48 = .ok (.getfield 32, 3) := by decide +kernel
theorem d_SetList_listAll_51 : decode b_SetList_listAll 51 = .ok (.getfield 36, 3) := by decide +kernel
theorem d_SetList_listAll_54 : decode b_SetList_listAll 54 = .ok (.iand, 1) := by decide +kernel
theorem d_SetList_listAll_55 : decode b_SetList_listAll 55 = .ok (.istore_n 2, 1) := by decide +kernel
theorem d_SetList_listAll_56 : decode b_SetList_listAll 56 = .ok (.goto (-29), 3) := by decide +kernel
theorem d_SetList_listAll_59 : decode b_SetList_listAll 59 = .ok (.return_, 1) := by decide +kernel
theorem d_SetList_listWithMales_0 : decode b_SetList_listWithMales 0 = .ok (.aload_n 0, 1) := by decide +kernel
theorem d_SetList_listWithMales_1 : decode b_SetList_listWithMales 1 = .ok (.getfield 32, 3) := by decide +kernel
theorem d_SetList_listWithMales_4 : decode b_SetList_listWithMales 4 = .ok (.invokevirtual 51, 3) := by decide +kernel
theorem d_SetList_listWithMales_7 : decode b_SetList_listWithMales 7 = .ok (.aload_n 0, 1) := by decide +kernel
theorem d_SetList_listWithMales_8 : decode b_SetList_listWithMales 8 = .ok (.getfield 32, 3) := by decide +kernel
theorem d_SetList_listWithMales_11 : decode b_SetList_listWithMales 11 = .ok (.getfield 36, 3) := by decide +kernel
theorem d_SetList_listWithMales_14 : decode b_SetList_listWithMales 14 = .ok (.iconst (-1), 1) := by decide +kernel
theorem d_SetList_listWithMales_15 : decode b_SetList_listWithMales 15 = .ok (.ixor, 1) := by decide +kernel
theorem d_SetList_listWithMales_16 : decode b_SetList_listWithMales 16 = .ok (.iand, 1) := by decide +kernel
theorem d_SetList_listWithMales_17 : decode b_SetList_listWithMales 17 = .ok (.istore_n 2, 1) := by decide +kernel
theorem d_SetList_listWithMales_18 : decode b_SetList_listWithMales 18 = .ok (.iload_n 2, 1) := by decide +kernel
theorem d_SetList_listWithMales_19 : decode b_SetList_listWithMales 19 = .ok (.istore_n 3, 1) := by decide +kernel
theorem d_SetList_listWithMales_20 : decode b_SetList_listWithMales 20 = .ok (.iload_n 3, 1) := by decide +kernel
theorem d_SetList_listWithMales_21 : decode b_SetList_listWithMales 21 = .ok (.ifCond .le 30, 3) := by decide +kernel
theorem d_SetList_listWithMales_24 : decode b_SetList_listWithMales 24 = .ok (.iload_n 3, 1) := by decide +kernel
theorem d_SetList_listWithMales_25 : decode b_SetList_listWithMales 25 = .ok (.invokestatic 41, 3) := by decide +kernel
theorem d_SetList_listWithMales_28 : decode b_SetList_listWithMales 28 = .ok (.aload_n 0, 1) := by decide +kernel
theorem d_SetList_listWithMales_29 : decode b_SetList_listWithMales 29 = .ok (.getfield 29, 3) := by decide +kernel
theorem d_SetList_listWithMales_32 : decode b_SetList_listWithMales 32 = .ok (.if_icmp .ne 10, 3) := by decide +kernel
theorem d_SetList_listWithMales_35 : decode b_SetList_listWithMales 35 = .ok (.aload_n 0, 1) := by decide +kernel
theorem d_SetList_listWithMales_36 : decode b_SetList_listWithMales 36 = .ok (.iload_n 1, 1) := by decide +kernel
theorem d_SetList_listWithMales_37 : decode b_SetList_listWithMales 37 = .ok (.iload_n 3, 1) := by decide +kernel
theorem d_SetList_listWithMales_38 : decode b_SetList_listWithMales 38 = .ok (.ior, 1) := by decide +kernel
theorem d_SetList_listWithMales_39 : decode b_SetList_listWithMales 39 = .ok (.invokevirtual 55, 3) := by decide +kernel
theorem d_SetList_listWithMales_42 : decode b_SetList_listWithMales 42 = .ok (.iload_n 3, 1) := by decide +kernel
theorem d_SetList_listWithMales_43 : decode b_SetList_listWithMales 43 = .ok (.iconst 1, 1) := by decide +kernel
theorem d_SetList_listWithMales_44 : decode b_SetList_listWithMales 44 = .ok (.isub, 1) := by decide +kernel
theorem d_SetList_listWithMales_45 : decode b_SetList_listWithMales 45 = .ok (.iload_n 2, 1) := by decide +kernel
theorem d_SetList_listWithMales_46 : decode b_SetList_listWithMales 46 = .ok (.iand, 1) := by decide +kernel
theorem d_SetList_listWithMales_47 : decode b_SetList_listWithMales 47 = .ok (.istore_n 3, 1) := by decide +kernel
theorem d_SetList_listWithMales_48 : decode b_SetList_listWithMales 48 = .ok (.goto (-28), 3) := by decide +kernel
theorem d_SetList_listWithMales_51 : decode b_SetList_listWithMales 51 = .ok (.return_, 1) := by decide +kernel
theorem d_SetList_listIfItMayBe_0 : decode b_SetList_listIfItMayBe 0 = .ok (.aload_n 0, 1) := by decide +kernel
theorem d_SetList_listIfItMayBe_1 : decode b_SetList_listIfItMayBe 1 = .ok (.getfield 25, 3) := by decide +kernel
theorem d_SetList_listIfItMayBe_4 : decode b_SetList_listIfItMayBe 4 = .ok (.sipush 400, 3) := by decide +kernel
theorem d_SetList_listIfItMayBe_7 : decode b_SetList_listIfItMayBe 7 = .ok (.if_icmp .ge 70, 3) := by decide +kernel
theorem d_SetList_listIfItMayBe_10 : decode b_SetList_listIfItMayBe 10 = .ok (.aload_n 0, 1) := by decide +kernel
theorem d_SetList_listIfItMayBe_11 : decode b_SetList_listIfItMayBe 11 = .ok (.getfield 32, 3) := by decide +kernel
theorem d_SetList_listIfItMayBe_14 : decode b_SetList_listIfItMayBe 14 = .ok (.iload_n 1, 1) := by decide +kernel
theorem d_SetList_listIfItMayBe_15 : decode b_SetList_listIfItMayBe 15 = .ok (.aload_n 0, 1) := by decide +kernel
theorem d_SetList_listIfItMayBe_16 : decode b_SetList_listIfItMayBe 16 = .ok (.getfield 29, 3) := by decide +kernel
theorem d_SetList_listIfItMayBe_19 : decode b_SetList_listIfItMayBe 19 = .ok (.invokevirtual 58, 3) := by decide +kernel
theorem d_SetList_listIfItMayBe_22 : decode b_SetList_listIfItMayBe 22 = .ok (.ifCond .eq 55, 3) := by decide +kernel
theorem d_SetList_listIfItMayBe_25 : decode b_SetList_listIfItMayBe 25 = .ok (.aload_n 0, 1) := by decide +kernel
theorem d_SetList_listIfItMayBe_26 : decode b_SetList_listIfItMayBe 26 = .ok (.getfield 12, 3) := by decide +kernel
theorem d_SetList_listIfItMayBe_29 : decode b_SetList_listIfItMayBe 29 = .ok (.aload_n 0, 1) := by decide +kernel
theorem d_SetList_listIfItMayBe_30 : decode b_SetList_listIfItMayBe 30 = .ok (.getfield 32, 3) := by decide +kernel
theorem d_SetList_listIfItMayBe_33 : decode b_SetList_listIfItMayBe 33 = .ok (.iload_n 1, 1) := by decide +kernel
theorem d_SetList_listIfItMayBe_34 : decode b_SetList_listIfItMayBe 34 = .ok (.invokevirtual 62, 3) := by decide +kernel
theorem d_SetList_listIfItMayBe_37 : decode b_SetList_listIfItMayBe 37 = .ok (.ifCond .eq 40, 3) := by decide +kernel
theorem d_SetList_listIfItMayBe_40 : decode b_SetList_listIfItMayBe 40 = .ok (.aload_n 0, 1) := by decide +kernel
theorem d_SetList_listIfItMayBe_41 : decode b_SetList_listIfItMayBe 41 = .ok (.getfield 18, 3) := by decide +kernel
theorem d_SetList_listIfItMayBe_44 : decode b_SetList_listIfItMayBe 44 = .ok (.aload_n 0, 1) := by decide +kernel
theorem d_SetList_listIfItMayBe_45 : decode b_SetList_listIfItMayBe 45 = .ok (.getfield 25, 3) := by decide +kernel
theorem d_SetList_listIfItMayBe_48 : decode b_SetList_listIfItMayBe 48 = .ok (.iload_n 1, 1) := by decide +kernel
theorem d_SetList_listIfItMayBe_49 : decode b_SetList_listIfItMayBe 49 = .ok (.iastore, 1) := by decide +kernel
theorem d_SetList_listIfItMayBe_50 : decode b_SetList_listIfItMayBe 50 = .ok (.aload_n 0, 1) := by decide +kernel
theorem d_SetList_listIfItMayBe_51 : decode b_SetList_listIfItMayBe 51 = .ok (.getfield 22, 3) := by decide +kernel
theorem d_SetList_listIfItMayBe_54 : decode b_SetList_listIfItMayBe 54 = .ok (.aload_n 0, 1) := by decide +kernel
theorem d_SetList_listIfItMayBe_55 : decode b_SetList_listIfItMayBe 55 = .ok (.getfield 25, 3) := by decide +kernel
theorem d_SetList_listIfItMayBe_58 : decode b_SetList_listIfItMayBe 58 = .ok (.aload_n 0, 1) := by decide +kernel
theorem d_SetList_listIfItMayBe_59 : decode b_SetList_listIfItMayBe 59 = .ok (.getfield 32, 3) := by decide +kernel
theorem d_SetList_listIfItMayBe_62 : decode b_SetList_listIfItMayBe 62 = .ok (.iload_n 1, 1) := by decide +kernel
theorem d_SetList_listIfItMayBe_63 : decode b_SetList_listIfItMayBe 63 = .ok (.invokevirtual 66, 3) := by decide +kernel
theorem d_SetList_listIfItMayBe_66 : decode b_SetList_listIfItMayBe 66 = .ok (.iastore, 1) := by decide +kernel
theorem d_SetList_listIfItMayBe_67 : decode b_SetList_listIfItMayBe 67 = .ok (.aload_n 0, 1) := by decide +kernel
theorem d_SetList_listIfItMayBe_68 : decode b_SetList_listIfItMayBe 68 = .ok (.dup, 1) := by decide +kernel
theorem d_SetList_listIfItMayBe_69 : decode b_SetList_listIfItMayBe 69 = .ok (.getfield 25, 3) := by decide +kernel
theorem d_SetList_listIfItMayBe_72 : decode b_SetList_listIfItMayBe 72 = .ok (.iconst 1, 1) := by decide +kernel
theorem d_SetList_listIfItMayBe_73 : decode b_SetList_listIfItMayBe 73 = .ok (.iadd, 1) := by decide +kernel
theorem d_SetList_listIfItMayBe_74 : decode b_SetList_listIfItMayBe 74 = .ok (.putfield 25, 3) := by decide +kernel
theorem d_SetList_listIfItMayBe_77 : decode b_SetList_listIfItMayBe 77 = .ok (.return_, 1) := by decide +kernel
theorem d_SetList_best_0 : decode b_SetList_best 0 = .ok (.iconst 0, 1) := by decide +kernel
theorem d_SetList_best_1 : decode b_SetList_best 1 = .ok (.istore_n 1, 1) := by decide +kernel
theorem d_SetList_best_2 : decode b_SetList_best 2 = .ok (.ldc 69, 2) := by decide +kernel
theorem d_SetList_best_4 : decode b_SetList_best 4 = .ok (.istore_n 2, 1) := by decide +kernel
theorem d_SetList_best_5 : decode b_SetList_best 5 = .ok (.iconst 0, 1) := by decide +kernel
theorem d_SetList_best_6 : decode b_SetList_best 6 = .ok (.istore_n 3, 1) := by decide +kernel
theorem d_SetList_best_7 : decode b_SetList_best 7 = .ok (.iload_n 3, 1) := by decide +kernel
theorem d_SetList_best_8 : decode b_SetList_best 8 = .ok (.aload_n 0, 1) := by decide +kernel
theorem d_SetList_best_9 : decode b_SetList_best 9 = .ok (.getfield 25, 3) := by decide +kernel
theorem d_SetList_best_12 : decode b_SetList_best 12 = .ok (.if_icmp .ge 56, 3) := by decide +kernel
theorem d_SetList_best_15 : decode b_SetList_best 15 = .ok (.aload_n 0, 1) := by decide +kernel
theorem d_SetList_best_16 : decode b_SetList_best 16 = .ok (.getfield 22, 3) := by decide +kernel
theorem d_SetList_best_19 : decode b_SetList_best 19 = .ok (.iload_n 3, 1) := by decide +kernel
theorem d_SetList_best_20 : decode b_SetList_best 20 = .ok (.iaload, 1) := by decide +kernel
theorem d_SetList_best_21 : decode b_SetList_best 21 = .ok (.iload_n 2, 1) := by decide +kernel
theorem d_SetList_best_22 : decode b_SetList_best 22 = .ok (.if_icmp .gt 26, 3) := by decide +kernel
theorem d_SetList_best_25 : decode b_SetList_best 25 = .ok (.aload_n 0, 1) := by decide +kernel
theorem d_SetList_best_26 : decode b_SetList_best 26 = .ok (.getfield 22, 3) := by decide +kernel
theorem d_SetList_best_29 : decode b_SetList_best 29 = .ok (.iload_n 3, 1) := by decide +kernel
theorem d_SetList_best_30 : decode b_SetList_best 30 = .ok (.iaload, 1) := by decide +kernel
theorem d_SetList_best_31 : decode b_SetList_best 31 = .ok (.iload_n 2, 1) := by decide +kernel
theorem d_SetList_best_32 : decode b_SetList_best 32 = .ok (.if_icmp .ne 30, 3) := by decide +kernel
theorem d_SetList_best_35 : decode b_SetList_best 35 = .ok (.aload_n 0, 1) := by decide +kernel
theorem d_SetList_best_36 : decode b_SetList_best 36 = .ok (.getfield 18, 3) := by decide +kernel
theorem d_SetList_best_39 : decode b_SetList_best 39 = .ok (.iload_n 3, 1) := by decide +kernel
theorem d_SetList_best_40 : decode b_SetList_best 40 = .ok (.iaload, 1) := by decide +kernel
theorem d_SetList_best_41 : decode b_SetList_best 41 = .ok (.iload_n 1, 1) := by decide +kernel
theorem d_SetList_best_42 : decode b_SetList_best 42 = .ok (.invokestatic 70, 3) := by decide +kernel
theorem d_SetList_best_45 : decode b_SetList_best 45 = .ok (.ifCond .eq 17, 3) := by decide +kernel
theorem d_SetList_best_48 : decode b_SetList_best 48 = .ok (.aload_n 0, 1) := by decide +kernel
theorem d_SetList_best_49 : decode b_SetList_best 49 = .ok (.getfield 18, 3) := by decide +kernel
theorem d_SetList_best_52 : decode b_SetList_best 52 = .ok (.iload_n 3, 1) := by decide +kernel
theorem d_SetList_best_53 : decode b_SetList_best 53 = .ok (.iaload, 1) := by decide +kernel
theorem d_SetList_best_54 : decode b_SetList_best 54 = .ok (.istore_n 1, 1) := by decide +kernel
theorem d_SetList_best_55 : decode b_SetList_best 55 = .ok (.aload_n 0, 1) := by decide +kernel
theorem d_SetList_best_56 : decode b_SetList_best 56 = .ok (.getfield 22, 3) := by decide +kernel
theorem d_SetList_best_59 : decode b_SetList_best 59 = .ok (.iload_n 3, 1) := by decide +kernel
theorem d_SetList_best_60 : decode b_SetList_best 60 = .ok (.iaload, 1) := by decide +kernel
theorem d_SetList_best_61 : decode b_SetList_best 61 = .ok (.istore_n 2, 1) := by decide +kernel
theorem d_SetList_best_62 : decode b_SetList_best 62 = .ok (.iinc 3 1, 3) := by decide +kernel
theorem d_SetList_best_65 : decode b_SetList_best 65 = .ok (.goto (-58), 3) := by decide +kernel
theorem d_SetList_best_68 : decode b_SetList_best 68 = .ok (.iload_n 1, 1) := by decide +kernel
theorem d_SetList_best_69 : decode b_SetList_best 69 = .ok (.ireturn, 1) := by decide +kernel
theorem d_SetList_goesBefore_0 : decode b_SetList_goesBefore 0 = .ok (.iload_n 0, 1) := by decide +kernel
theorem d_SetList_goesBefore_1 : decode b_SetList_goesBefore 1 = .ok (.iload_n 1, 1) := by decide +kernel
theorem d_SetList_goesBefore_2 : decode b_SetList_goesBefore 2 = .ok (.ixor, 1) := by decide +kernel
theorem d_SetList_goesBefore_3 : decode b_SetList_goesBefore 3 = .ok (.istore_n 2, 1) := by decide +kernel
theorem d_SetList_goesBefore_4 : decode b_SetList_goesBefore 4 = .ok (.iload_n 0, 1) := by decide +kernel
end
section
theorem d_SetList_goesBefore_5 : decode b_SetList_goesBefore 5 = .ok (.iload_n 2, 1) := by decide +kernel
theorem d_SetList_goesBefore_6 : decode b_SetList_goesBefore 6 = .ok (.iand, 1) := by decide +kernel
theorem d_SetList_goesBefore_7 : decode b_SetList_goesBefore 7 = .ok (.iload_n 2, 1) := by decide +kernel
theorem d_SetList_goesBefore_8 : decode b_SetList_goesBefore 8 = .ok (.ineg, 1) := by decide +kernel
theorem d_SetList_goesBefore_9 : decode b_SetList_goesBefore 9 = .ok (.iand, 1) := by decide +kernel
theorem d_SetList_goesBefore_10 : decode b_SetList_goesBefore 10 = .ok (.ifCond .eq 7, 3) := by decide +kernel
theorem d_SetList_goesBefore_13 : decode b_SetList_goesBefore 13 = .ok (.iconst 1, 1) := by decide +kernel
theorem d_SetList_goesBefore_14 : decode b_SetList_goesBefore 14 = .ok (.goto 4, 3) := by decide +kernel
theorem d_SetList_goesBefore_17 : decode b_SetList_goesBefore 17 = .ok (.iconst 0, 1) := by decide +kernel
theorem d_SetList_goesBefore_18 : decode b_SetList_goesBefore 18 = .ok (.ireturn, 1) := by decide +kernel
theorem d_SetList_greatestSumWith_0 : decode b_SetList_greatestSumWith 0 = .ok (.ldc 69, 2) := by decide +kernel
theorem d_SetList_greatestSumWith_2 : decode b_SetList_greatestSumWith 2 = .ok (.istore_n 3, 1) := by decide +kernel
theorem d_SetList_greatestSumWith_3 : decode b_SetList_greatestSumWith 3 = .ok (.iconst 0, 1) := by decide +kernel
theorem d_SetList_greatestSumWith_4 : decode b_SetList_greatestSumWith 4 = .ok (.istore 4, 2) := by decide +kernel
theorem d_SetList_greatestSumWith_6 : decode b_SetList_greatestSumWith 6 = .ok (.iload 4, 2) := by decide +kernel
theorem d_SetList_greatestSumWith_8 : decode b_SetList_greatestSumWith 8 = .ok (.aload_n 0, 1) := by decide +kernel
theorem d_SetList_greatestSumWith_9 : decode b_SetList_greatestSumWith 9 = .ok (.getfield 25, 3) := by decide +kernel
theorem d_SetList_greatestSumWith_12 : decode b_SetList_greatestSumWith 12 = .ok (.if_icmp .ge 51, 3) := by decide +kernel
theorem d_SetList_greatestSumWith_15 : decode b_SetList_greatestSumWith 15 = .ok (.aload_n 0, 1) := by decide +kernel
theorem d_SetList_greatestSumWith_16 : decode b_SetList_greatestSumWith 16 = .ok (.getfield 18, 3) := by decide +kernel
theorem d_SetList_greatestSumWith_19 : decode b_SetList_greatestSumWith 19 = .ok (.iload 4, 2) := by decide +kernel
theorem d_SetList_greatestSumWith_21 : decode b_SetList_greatestSumWith 21 = .ok (.iaload, 1) := by decide +kernel
theorem d_SetList_greatestSumWith_22 : decode b_SetList_greatestSumWith 22 = .ok (.iload_n 1, 1) := by decide +kernel
theorem d_SetList_greatestSumWith_23 : decode b_SetList_greatestSumWith 23 = .ok (.invokestatic 73, 3) := by decide +kernel
theorem d_SetList_greatestSumWith_26 : decode b_SetList_greatestSumWith 26 = .ok (.ifCond .eq 15, 3) := by decide +kernel
theorem d_SetList_greatestSumWith_29 : decode b_SetList_greatestSumWith 29 = .ok (.aload_n 0, 1) := by decide +kernel
theorem d_SetList_greatestSumWith_30 : decode b_SetList_greatestSumWith 30 = .ok (.getfield 22, 3) := by decide +kernel
theorem d_SetList_greatestSumWith_33 : decode b_SetList_greatestSumWith 33 = .ok (.iload 4, 2) := by decide +kernel
theorem d_SetList_greatestSumWith_35 : decode b_SetList_greatestSumWith 35 = .ok (.iaload, 1) := by decide +kernel
theorem d_SetList_greatestSumWith_36 : decode b_SetList_greatestSumWith 36 = .ok (.iload_n 2, 1) := by decide +kernel
theorem d_SetList_greatestSumWith_37 : decode b_SetList_greatestSumWith 37 = .ok (.iadd, 1) := by decide +kernel
theorem d_SetList_greatestSumWith_38 : decode b_SetList_greatestSumWith 38 = .ok (.goto 10, 3) := by decide +kernel
theorem d_SetList_greatestSumWith_41 : decode b_SetList_greatestSumWith 41 = .ok (.aload_n 0, 1) := by decide +kernel
theorem d_SetList_greatestSumWith_42 : decode b_SetList_greatestSumWith 42 = .ok (.getfield 22, 3) := by decide +kernel
theorem d_SetList_greatestSumWith_45 : decode b_SetList_greatestSumWith 45 = .ok (.iload 4, 2) := by decide +kernel
theorem d_SetList_greatestSumWith_47 : decode b_SetList_greatestSumWith 47 = .ok (.iaload, 1) := by decide +kernel
theorem d_SetList_greatestSumWith_48 : decode b_SetList_greatestSumWith 48 = .ok (.istore 5, 2) := by decide +kernel
theorem d_SetList_greatestSumWith_50 : decode b_SetList_greatestSumWith 50 = .ok (.iload_n 3, 1) := by decide +kernel
theorem d_SetList_greatestSumWith_51 : decode b_SetList_greatestSumWith 51 = .ok (.iload 5, 2) := by decide +kernel
theorem d_SetList_greatestSumWith_53 : decode b_SetList_greatestSumWith 53 = .ok (.invokestatic 76, 3) := by decide +kernel
theorem d_SetList_greatestSumWith_56 : decode b_SetList_greatestSumWith 56 = .ok (.istore_n 3, 1) := by decide +kernel
theorem d_SetList_greatestSumWith_57 : decode b_SetList_greatestSumWith 57 = .ok (.iinc 4 1, 3) := by decide +kernel
theorem d_SetList_greatestSumWith_60 : decode b_SetList_greatestSumWith 60 = .ok (.goto (-54), 3) := by decide +kernel
theorem d_SetList_greatestSumWith_63 : decode b_SetList_greatestSumWith 63 = .ok (.iload_n 3, 1) := by decide +kernel
theorem d_SetList_greatestSumWith_64 : decode b_SetList_greatestSumWith 64 = .ok (.ireturn, 1) := by decide +kernel
theorem d_SetList_greatestSumAmong_0 : decode b_SetList_greatestSumAmong 0 = .ok (.ldc 69, 2) := by decide +kernel
theorem d_SetList_greatestSumAmong_2 : decode b_SetList_greatestSumAmong 2 = .ok (.istore_n 2, 1) := by decide +kernel
theorem d_SetList_greatestSumAmong_3 : decode b_SetList_greatestSumAmong 3 = .ok (.iconst 0, 1) := by decide +kernel
theorem d_SetList_greatestSumAmong_4 : decode b_SetList_greatestSumAmong 4 = .ok (.istore_n 3, 1) := by decide +kernel
theorem d_SetList_greatestSumAmong_5 : decode b_SetList_greatestSumAmong 5 = .ok (.iload_n 3, 1) := by decide +kernel
theorem d_SetList_greatestSumAmong_6 : decode b_SetList_greatestSumAmong 6 = .ok (.aload_n 0, 1) := by decide +kernel
theorem d_SetList_greatestSumAmong_7 : decode b_SetList_greatestSumAmong 7 = .ok (.getfield 25, 3) := by decide +kernel
theorem d_SetList_greatestSumAmong_10 : decode b_SetList_greatestSumAmong 10 = .ok (.if_icmp .ge 33, 3) := by decide +kernel
theorem d_SetList_greatestSumAmong_13 : decode b_SetList_greatestSumAmong 13 = .ok (.aload_n 0, 1) := by decide +kernel
theorem d_SetList_greatestSumAmong_14 : decode b_SetList_greatestSumAmong 14 = .ok (.getfield 18, 3) := by decide +kernel
theorem d_SetList_greatestSumAmong_17 : decode b_SetList_greatestSumAmong 17 = .ok (.iload_n 3, 1) := by decide +kernel
theorem d_SetList_greatestSumAmong_18 : decode b_SetList_greatestSumAmong 18 = .ok (.iaload, 1) := by decide +kernel
theorem d_SetList_greatestSumAmong_19 : decode b_SetList_greatestSumAmong 19 = .ok (.iload_n 1, 1) := by decide +kernel
theorem d_SetList_greatestSumAmong_20 : decode b_SetList_greatestSumAmong 20 = .ok (.iconst (-1), 1) := by decide +kernel
theorem d_SetList_greatestSumAmong_21 : decode b_SetList_greatestSumAmong 21 = .ok (.ixor, 1) := by decide +kernel
theorem d_SetList_greatestSumAmong_22 : decode b_SetList_greatestSumAmong 22 = .ok (.iand, 1) := by decide +kernel
theorem d_SetList_greatestSumAmong_23 : decode b_SetList_greatestSumAmong 23 = .ok (.ifCond .ne 14, 3) := by decide +kernel
theorem d_SetList_greatestSumAmong_26 : decode b_SetList_greatestSumAmong 26 = .ok (.iload_n 2, 1) := by decide +kernel
theorem d_SetList_greatestSumAmong_27 : decode b_SetList_greatestSumAmong 27 = .ok (.aload_n 0, 1) := by decide +kernel
theorem d_SetList_greatestSumAmong_28 : decode b_SetList_greatestSumAmong 28 = .ok (.getfield 22, 3) := by decide +kernel
theorem d_SetList_greatestSumAmong_31 : decode b_SetList_greatestSumAmong 31 = .ok (.iload_n 3, 1) := by decide +kernel
theorem d_SetList_greatestSumAmong_32 : decode b_SetList_greatestSumAmong 32 = .ok (.iaload, 1) := by decide +kernel
theorem d_SetList_greatestSumAmong_33 : decode b_SetList_greatestSumAmong 33 = .ok (.invokestatic 76, 3) := by decide +kernel
theorem d_SetList_greatestSumAmong_36 : decode b_SetList_greatestSumAmong 36 = .ok (.istore_n 2, 1) := by decide +kernel
theorem d_SetList_greatestSumAmong_37 : decode b_SetList_greatestSumAmong 37 = .ok (.iinc 3 1, 3) := by decide +kernel
theorem d_SetList_greatestSumAmong_40 : decode b_SetList_greatestSumAmong 40 = .ok (.goto (-35), 3) := by decide +kernel
theorem d_SetList_greatestSumAmong_43 : decode b_SetList_greatestSumAmong 43 = .ok (.iload_n 2, 1) := by decide +kernel
theorem d_SetList_greatestSumAmong_44 : decode b_SetList_greatestSumAmong 44 = .ok (.ireturn, 1) := by decide +kernel
theorem d_PairChoice_init_0 : decode b_PairChoice_init 0 = .ok (.aload_n 0, 1) := by decide +kernel
theorem d_PairChoice_init_1 : decode b_PairChoice_init 1 = .ok (.invokespecial 1, 3) := by decide +kernel
theorem d_PairChoice_init_4 : decode b_PairChoice_init 4 = .ok (.aload_n 0, 1) := by decide +kernel
theorem d_PairChoice_init_5 : decode b_PairChoice_init 5 = .ok (.new 7, 3) := by decide +kernel
theorem d_PairChoice_init_8 : decode b_PairChoice_init 8 = .ok (.dup, 1) := by decide +kernel
theorem d_PairChoice_init_9 : decode b_PairChoice_init 9 = .ok (.invokespecial 9, 3) := by decide +kernel
theorem d_PairChoice_init_12 : decode b_PairChoice_init 12 = .ok (.putfield 10, 3) := by decide +kernel
theorem d_PairChoice_init_15 : decode b_PairChoice_init 15 = .ok (.aload_n 0, 1) := by decide +kernel
theorem d_PairChoice_init_16 : decode b_PairChoice_init 16 = .ok (.new 16, 3) := by decide +kernel
theorem d_PairChoice_init_19 : decode b_PairChoice_init 19 = .ok (.dup, 1) := by decide +kernel
theorem d_PairChoice_init_20 : decode b_PairChoice_init 20 = .ok (.aload_n 0, 1) := by decide +kernel
theorem d_PairChoice_init_21 : decode b_PairChoice_init 21 = .ok (.getfield 10, 3) := by decide +kernel
theorem d_PairChoice_init_24 : decode b_PairChoice_init 24 = .ok (.invokespecial 18, 3) := by decide +kernel
theorem d_PairChoice_init_27 : decode b_PairChoice_init 27 = .ok (.putfield 21, 3) := by decide +kernel
theorem d_PairChoice_init_30 : decode b_PairChoice_init 30 = .ok (.aload_n 0, 1) := by decide +kernel
theorem d_PairChoice_init_31 : decode b_PairChoice_init 31 = .ok (.new 25, 3) := by decide +kernel
theorem d_PairChoice_init_34 : decode b_PairChoice_init 34 = .ok (.dup, 1) := by decide +kernel
theorem d_PairChoice_init_35 : decode b_PairChoice_init 35 = .ok (.aload_n 0, 1) := by decide +kernel
theorem d_PairChoice_init_36 : decode b_PairChoice_init 36 = .ok (.getfield 10, 3) := by decide +kernel
theorem d_PairChoice_init_39 : decode b_PairChoice_init 39 = .ok (.invokespecial 27, 3) := by decide +kernel
theorem d_PairChoice_init_42 : decode b_PairChoice_init 42 = .ok (.putfield 28, 3) := by decide +kernel
theorem d_PairChoice_init_45 : decode b_PairChoice_init 45 = .ok (.aload_n 0, 1) := by decide +kernel
theorem d_PairChoice_init_46 : decode b_PairChoice_init 46 = .ok (.new 32, 3) := by decide +kernel
theorem d_PairChoice_init_49 : decode b_PairChoice_init 49 = .ok (.dup, 1) := by decide +kernel
theorem d_PairChoice_init_50 : decode b_PairChoice_init 50 = .ok (.invokespecial 34, 3) := by decide +kernel
theorem d_PairChoice_init_53 : decode b_PairChoice_init 53 = .ok (.putfield 35, 3) := by decide +kernel
theorem d_PairChoice_init_56 : decode b_PairChoice_init 56 = .ok (.return_, 1) := by decide +kernel
theorem d_PairChoice_animal_0 : decode b_PairChoice_animal 0 = .ok (.iload_n 1, 1) := by decide +kernel
theorem d_PairChoice_animal_1 : decode b_PairChoice_animal 1 = .ok (.iconst 0, 1) := by decide +kernel
theorem d_PairChoice_animal_2 : decode b_PairChoice_animal 2 = .ok (.iconst 1, 1) := by decide +kernel
theorem d_PairChoice_animal_3 : decode b_PairChoice_animal 3 = .ok (.invokestatic 39, 3) := by decide +kernel
theorem d_PairChoice_animal_6 : decode b_PairChoice_animal 6 = .ok (.ifCond .eq 20, 3) := by decide +kernel
theorem d_PairChoice_animal_9 : decode b_PairChoice_animal 9 = .ok (.iload_n 2, 1) := by decide +kernel
theorem d_PairChoice_animal_10 : decode b_PairChoice_animal 10 = .ok (.invokestatic 43, 3) := by decide +kernel
theorem d_PairChoice_animal_13 : decode b_PairChoice_animal 13 = .ok (.ifCond .eq 13, 3) := by decide +kernel
theorem d_PairChoice_animal_16 : decode b_PairChoice_animal 16 = .ok (.iload_n 3, 1) := by decide +kernel
theorem d_PairChoice_animal_17 : decode b_PairChoice_animal 17 = .ok (.iconst 0, 1) := by decide +kernel
theorem d_PairChoice_animal_18 : decode b_PairChoice_animal 18 = .ok (.bipush 7, 2) := by decide +kernel
theorem d_PairChoice_animal_20 : decode b_PairChoice_animal 20 = .ok (.invokestatic 39, 3) := by decide +kernel
theorem d_PairChoice_animal_23 : decode b_PairChoice_animal 23 = .ok (.ifCond .ne 6, 3) := by decide +kernel
theorem d_PairChoice_animal_26 : decode b_PairChoice_animal 26 = .ok (.bipush (-2), 2) := by decide +kernel
theorem d_PairChoice_animal_28 : decode b_PairChoice_animal 28 = .ok (.ireturn, 1) := by decide +kernel
theorem d_PairChoice_animal_29 : decode b_PairChoice_animal 29 = .ok (.aload_n 0, 1) := by decide +kernel
theorem d_PairChoice_animal_30 : decode b_PairChoice_animal 30 = .ok (.getfield 10, 3) := by decide +kernel
theorem d_PairChoice_animal_33 : decode b_PairChoice_animal 33 = .ok (.getfield 47, 3) := by decide +kernel
theorem d_PairChoice_animal_36 : decode b_PairChoice_animal 36 = .ok (.bipush 12, 2) := by decide +kernel
theorem d_PairChoice_animal_38 : decode b_PairChoice_animal 38 = .ok (.if_icmp .lt 6, 3) := by decide +kernel
theorem d_PairChoice_animal_41 : decode b_PairChoice_animal 41 = .ok (.bipush (-4), 2) := by decide +kernel
theorem d_PairChoice_animal_43 : decode b_PairChoice_animal 43 = .ok (.ireturn, 1) := by decide +kernel
theorem d_PairChoice_animal_44 : decode b_PairChoice_animal 44 = .ok (.aload_n 0, 1) := by decide +kernel
theorem d_PairChoice_animal_45 : decode b_PairChoice_animal 45 = .ok (.invokevirtual 51, 3) := by decide +kernel
theorem d_PairChoice_animal_48 : decode b_PairChoice_animal 48 = .ok (.aload_n 0, 1) := by decide +kernel
theorem d_PairChoice_animal_49 : decode b_PairChoice_animal 49 = .ok (.getfield 10, 3) := by decide +kernel
theorem d_PairChoice_animal_52 : decode b_PairChoice_animal 52 = .ok (.iload_n 1, 1) := by decide +kernel
theorem d_PairChoice_animal_53 : decode b_PairChoice_animal 53 = .ok (.iload_n 2, 1) := by decide +kernel
theorem d_PairChoice_animal_54 : decode b_PairChoice_animal 54 = .ok (.iload_n 3, 1) := by decide +kernel
theorem d_PairChoice_animal_55 : decode b_PairChoice_animal 55 = .ok (.invokevirtual 54, 3) := by decide +kernel
theorem d_PairChoice_animal_58 : decode b_PairChoice_animal 58 = .ok (.ireturn, 1) := by decide +kernel
theorem d_PairChoice_worth_0 : decode b_PairChoice_worth 0 = .ok (.aload_n 0, 1) := by decide +kernel
theorem d_PairChoice_worth_1 : decode b_PairChoice_worth 1 = .ok (.getfield 10, 3) := by decide +kernel
theorem d_PairChoice_worth_4 : decode b_PairChoice_worth 4 = .ok (.iload_n 1, 1) := by decide +kernel
theorem d_PairChoice_worth_5 : decode b_PairChoice_worth 5 = .ok (.invokevirtual 58, 3) := by decide +kernel
theorem d_PairChoice_worth_8 : decode b_PairChoice_worth 8 = .ok (.ifCond .ne 7, 3) := by decide +kernel
theorem d_PairChoice_worth_11 : decode b_PairChoice_worth 11 = .ok (.sipush (-20000), 3) := by decide +kernel
theorem d_PairChoice_worth_14 : decode b_PairChoice_worth 14 = .ok (.ireturn, 1) := by decide +kernel
theorem d_PairChoice_worth_15 : decode b_PairChoice_worth 15 = .ok (.iload_n 2, 1) := by decide +kernel
theorem d_PairChoice_worth_16 : decode b_PairChoice_worth 16 = .ok (.invokestatic 43, 3) := by decide +kernel
theorem d_PairChoice_worth_19 : decode b_PairChoice_worth 19 = .ok (.ifCond .ne 7, 3) := by decide +kernel
theorem d_PairChoice_worth_22 : decode b_PairChoice_worth 22 = .ok (.sipush (-20001), 3) := by decide +kernel
theorem d_PairChoice_worth_25 : decode b_PairChoice_worth 25 = .ok (.ireturn, 1) := by decide +kernel
theorem d_PairChoice_worth_26 : decode b_PairChoice_worth 26 = .ok (.aload_n 0, 1) := by decide +kernel
theorem d_PairChoice_worth_27 : decode b_PairChoice_worth 27 = .ok (.getfield 10, 3) := by decide +kernel
theorem d_PairChoice_worth_30 : decode b_PairChoice_worth 30 = .ok (.getfield 61, 3) := by decide +kernel
theorem d_PairChoice_worth_33 : decode b_PairChoice_worth 33 = .ok (.iload_n 1, 1) := by decide +kernel
theorem d_PairChoice_worth_34 : decode b_PairChoice_worth 34 = .ok (.iaload, 1) := by decide +kernel
theorem d_PairChoice_worth_35 : decode b_PairChoice_worth 35 = .ok (.istore_n 3, 1) := by decide +kernel
theorem d_PairChoice_worth_36 : decode b_PairChoice_worth 36 = .ok (.iload_n 2, 1) := by decide +kernel
theorem d_PairChoice_worth_37 : decode b_PairChoice_worth 37 = .ok (.iload_n 3, 1) := by decide +kernel
theorem d_PairChoice_worth_38 : decode b_PairChoice_worth 38 = .ok (.if_icmp .eq 17, 3) := by decide +kernel
theorem d_PairChoice_worth_41 : decode b_PairChoice_worth 41 = .ok (.aload_n 0, 1) := by decide +kernel
theorem d_PairChoice_worth_42 : decode b_PairChoice_worth 42 = .ok (.getfield 10, 3) := by decide +kernel
theorem d_PairChoice_worth_45 : decode b_PairChoice_worth 45 = .ok (.getfield 61, 3) := by decide +kernel
theorem d_PairChoice_worth_48 : decode b_PairChoice_worth 48 = .ok (.iload_n 1, 1) := by decide +kernel
theorem d_PairChoice_worth_49 : decode b_PairChoice_worth 49 = .ok (.iload_n 2, 1) := by decide +kernel
theorem d_PairChoice_worth_50 : decode b_PairChoice_worth 50 = .ok (.iastore, 1) := by decide +kernel
theorem d_PairChoice_worth_51 : decode b_PairChoice_worth 51 = .ok (.aload_n 0, 1) := by decide +kernel
theorem d_PairChoice_worth_52 : decode b_PairChoice_worth 52 = .ok (.invokevirtual 51, 3) := by decide +kernel
theorem d_PairChoice_worth_55 : decode b_PairChoice_worth 55 = .ok (.iload_n 3, 1) := by decide +kernel
theorem d_PairChoice_worth_56 : decode b_PairChoice_worth 56 = .ok (.ireturn, 1) := by decide +kernel
theorem d_PairChoice_kin_0 : decode b_PairChoice_kin 0 = .ok (.aload_n 0, 1) := by decide +kernel
theorem d_PairChoice_kin_1 : decode b_PairChoice_kin 1 = .ok (.getfield 10, 3) := by decide +kernel
theorem d_PairChoice_kin_4 : decode b_PairChoice_kin 4 = .ok (.iload_n 1, 1) := by decide +kernel
theorem d_PairChoice_kin_5 : decode b_PairChoice_kin 5 = .ok (.invokevirtual 58, 3) := by decide +kernel
theorem d_PairChoice_kin_8 : decode b_PairChoice_kin 8 = .ok (.ifCond .eq 14, 3) := by decide +kernel
theorem d_PairChoice_kin_11 : decode b_PairChoice_kin 11 = .ok (.aload_n 0, 1) := by decide +kernel
theorem d_PairChoice_kin_12 : decode b_PairChoice_kin 12 = .ok (.getfield 10, 3) := by decide +kernel
theorem d_PairChoice_kin_15 : decode b_PairChoice_kin 15 = .ok (.iload_n 2, 1) := by decide +kernel
theorem d_PairChoice_kin_16 : decode b_PairChoice_kin 16 = .ok (.invokevirtual 58, 3) := by decide +kernel
theorem d_PairChoice_kin_19 : decode b_PairChoice_kin 19 = .ok (.ifCond .ne 5, 3) := by decide +kernel
theorem d_PairChoice_kin_22 : decode b_PairChoice_kin 22 = .ok (.iconst (-1), 1) := by decide +kernel
theorem d_PairChoice_kin_23 : decode b_PairChoice_kin 23 = .ok (.ireturn, 1) := by decide +kernel
theorem d_PairChoice_kin_24 : decode b_PairChoice_kin 24 = .ok (.iload_n 3, 1) := by decide +kernel
theorem d_PairChoice_kin_25 : decode b_PairChoice_kin 25 = .ok (.iconst 0, 1) := by decide +kernel
theorem d_PairChoice_kin_26 : decode b_PairChoice_kin 26 = .ok (.sipush 1000, 3) := by decide +kernel
theorem d_PairChoice_kin_29 : decode b_PairChoice_kin 29 = .ok (.invokestatic 39, 3) := by decide +kernel
theorem d_PairChoice_kin_32 : decode b_PairChoice_kin 32 = .ok (.ifCond .ne 6, 3) := by decide +kernel
theorem d_PairChoice_kin_35 : decode b_PairChoice_kin 35 = .ok (.bipush (-2), 2) := by decide +kernel
theorem d_PairChoice_kin_37 : decode b_PairChoice_kin 37 = .ok (.ireturn, 1) := by decide +kernel
theorem d_PairChoice_kin_38 : decode b_PairChoice_kin 38 = .ok (.aload_n 0, 1) := by decide +kernel
theorem d_PairChoice_kin_39 : decode b_PairChoice_kin 39 = .ok (.getfield 10, 3) := by decide +kernel
theorem d_PairChoice_kin_42 : decode b_PairChoice_kin 42 = .ok (.getfield 65, 3) := by decide +kernel
theorem d_PairChoice_kin_45 : decode b_PairChoice_kin 45 = .ok (.iload_n 1, 1) := by decide +kernel
theorem d_PairChoice_kin_46 : decode b_PairChoice_kin 46 = .ok (.aaload, 1) := by decide +kernel
theorem d_PairChoice_kin_47 : decode b_PairChoice_kin 47 = .ok (.iload_n 2, 1) := by decide +kernel
theorem d_PairChoice_kin_48 : decode b_PairChoice_kin 48 = .ok (.iaload, 1) := by decide +kernel
theorem d_PairChoice_kin_49 : decode b_PairChoice_kin 49 = .ok (.istore 4, 2) := by decide +kernel
theorem d_PairChoice_kin_51 : decode b_PairChoice_kin 51 = .ok (.iload_n 3, 1) := by decide +kernel
theorem d_PairChoice_kin_52 : decode b_PairChoice_kin 52 = .ok (.iload 4, 2) := by decide +kernel
theorem d_PairChoice_kin_54 : decode b_PairChoice_kin 54 = .ok (.if_icmp .eq 31, 3) := by decide +kernel
theorem d_PairChoice_kin_57 : decode b_PairChoice_kin 57 = .ok (.aload_n 0, 1) := by decide +kernel
theorem d_PairChoice_kin_58 : decode b_PairChoice_kin 58 = .ok (.getfield 10, 3) := by decide +kernel
theorem d_PairChoice_kin_61 : decode b_PairChoice_kin 61 = .ok (.getfield 65, 3) := by decide +kernel
theorem d_PairChoice_kin_64 : decode b_PairChoice_kin 64 = .ok (.iload_n 1, 1) := by decide +kernel
theorem d_PairChoice_kin_65 : decode b_PairChoice_kin 65 = .ok (.aaload, 1) := by decide +kernel
theorem d_PairChoice_kin_66 : decode b_PairChoice_kin 66 = .ok (.iload_n 2, 1) := by decide +kernel
theorem d_PairChoice_kin_67 : decode b_PairChoice_kin 67 = .ok (.iload_n 3, 1) := by decide +kernel
theorem d_PairChoice_kin_68 : decode b_PairChoice_kin 68 = .ok (.iastore, 1) := by decide +kernel
theorem d_PairChoice_kin_69 : decode b_PairChoice_kin 69 = .ok (.aload_n 0, 1) := by decide +kernel
theorem d_PairChoice_kin_70 : decode b_PairChoice_kin 70 = .ok (.getfield 10, 3) := by decide +kernel
theorem d_PairChoice_kin_73 : decode b_PairChoice_kin 73 = .ok (.getfield 65, 3) := by decide +kernel
theorem d_PairChoice_kin_76 : decode b_PairChoice_kin 76 = .ok (.iload_n 2, 1) := by decide +kernel
theorem d_PairChoice_kin_77 : decode b_PairChoice_kin 77 = .ok (.aaload, 1) := by decide +kernel
theorem d_PairChoice_kin_78 : decode b_PairChoice_kin 78 = .ok (.iload_n 1, 1) := by decide +kernel
theorem d_PairChoice_kin_79 : decode b_PairChoice_kin 79 = .ok (.iload_n 3, 1) := by decide +kernel
theorem d_PairChoice_kin_80 : decode b_PairChoice_kin 80 = .ok (.iastore, 1) := by decide +kernel
theorem d_PairChoice_kin_81 : decode b_PairChoice_kin 81 = .ok (.aload_n 0, 1) := by decide +kernel
theorem d_PairChoice_kin_82 : decode b_PairChoice_kin 82 = .ok (.invokevirtual 51, 3) := by decide +kernel
theorem d_PairChoice_kin_85 : decode b_PairChoice_kin 85 = .ok (.iload 4, 2) := by decide +kernel
theorem d_PairChoice_kin_87 : decode b_PairChoice_kin 87 = .ok (.ireturn, 1) := by decide +kernel
theorem d_PairChoice_bar_0 : decode b_PairChoice_bar 0 = .ok (.aload_n 0, 1) := by decide +kernel
theorem d_PairChoice_bar_1 : decode b_PairChoice_bar 1 = .ok (.getfield 10, 3) := by decide +kernel
theorem d_PairChoice_bar_4 : decode b_PairChoice_bar 4 = .ok (.iload_n 1, 1) := by decide +kernel
theorem d_PairChoice_bar_5 : decode b_PairChoice_bar 5 = .ok (.invokevirtual 58, 3) := by decide +kernel
theorem d_PairChoice_bar_8 : decode b_PairChoice_bar 8 = .ok (.ifCond .eq 14, 3) := by decide +kernel
theorem d_PairChoice_bar_11 : decode b_PairChoice_bar 11 = .ok (.aload_n 0, 1) := by decide +kernel
theorem d_PairChoice_bar_12 : decode b_PairChoice_bar 12 = .ok (.getfield 10, 3) := by decide +kernel
theorem d_PairChoice_bar_15 : decode b_PairChoice_bar 15 = .ok (.iload_n 2, 1) := by decide +kernel
theorem d_PairChoice_bar_16 : decode b_PairChoice_bar 16 = .ok (.invokevirtual 58, 3) := by decide +kernel
theorem d_PairChoice_bar_19 : decode b_PairChoice_bar 19 = .ok (.ifCond .ne 5, 3) := by decide +kernel
theorem d_PairChoice_bar_22 : decode b_PairChoice_bar 22 = .ok (.iconst 0, 1) := by decide +kernel
theorem d_PairChoice_bar_23 : decode b_PairChoice_bar 23 = .ok (.ireturn, 1) := by decide +kernel
theorem d_PairChoice_bar_24 : decode b_PairChoice_bar 24 = .ok (.aload_n 0, 1) := by decide +kernel
theorem d_PairChoice_bar_25 : decode b_PairChoice_bar 25 = .ok (.getfield 10, 3) := by decide +kernel
theorem d_PairChoice_bar_28 : decode b_PairChoice_bar 28 = .ok (.getfield 69, 3) := by decide +kernel
theorem d_PairChoice_bar_31 : decode b_PairChoice_bar 31 = .ok (.iload_n 1, 1) := by decide +kernel
theorem d_PairChoice_bar_32 : decode b_PairChoice_bar 32 = .ok (.invokestatic 72, 3) := by decide +kernel
theorem d_PairChoice_bar_35 : decode b_PairChoice_bar 35 = .ok (.aload_n 0, 1) := by decide +kernel
theorem d_PairChoice_bar_36 : decode b_PairChoice_bar 36 = .ok (.getfield 10, 3) := by decide +kernel
theorem d_PairChoice_bar_39 : decode b_PairChoice_bar 39 = .ok (.getfield 69, 3) := by decide +kernel
theorem d_PairChoice_bar_42 : decode b_PairChoice_bar 42 = .ok (.iload_n 2, 1) := by decide +kernel
theorem d_PairChoice_bar_43 : decode b_PairChoice_bar 43 = .ok (.invokestatic 72, 3) := by decide +kernel
theorem d_PairChoice_bar_46 : decode b_PairChoice_bar 46 = .ok (.if_icmp .eq 20, 3) := by decide +kernel
theorem d_PairChoice_bar_49 : decode b_PairChoice_bar 49 = .ok (.aload_n 0, 1) := by decide +kernel
theorem d_PairChoice_bar_50 : decode b_PairChoice_bar 50 = .ok (.getfield 10, 3) := by decide +kernel
theorem d_PairChoice_bar_53 : decode b_PairChoice_bar 53 = .ok (.getfield 76, 3) := by decide +kernel
theorem d_PairChoice_bar_56 : decode b_PairChoice_bar 56 = .ok (.iload_n 1, 1) := by decide +kernel
theorem d_PairChoice_bar_57 : decode b_PairChoice_bar 57 = .ok (.iaload, 1) := by decide +kernel
theorem d_PairChoice_bar_58 : decode b_PairChoice_bar 58 = .ok (.iload_n 2, 1) := by decide +kernel
theorem d_PairChoice_bar_59 : decode b_PairChoice_bar 59 = .ok (.invokestatic 72, 3) := by decide +kernel
theorem d_PairChoice_bar_62 : decode b_PairChoice_bar 62 = .ok (.iload_n 3, 1) := by decide +kernel
theorem d_PairChoice_bar_63 : decode b_PairChoice_bar 63 = .ok (.if_icmp .ne 5, 3) := by decide +kernel
theorem d_PairChoice_bar_66 : decode b_PairChoice_bar 66 = .ok (.iconst 0, 1) := by decide +kernel
theorem d_PairChoice_bar_67 : decode b_PairChoice_bar 67 = .ok (.ireturn, 1) := by decide +kernel
theorem d_PairChoice_bar_68 : decode b_PairChoice_bar 68 = .ok (.aload_n 0, 1) := by decide +kernel
theorem d_PairChoice_bar_69 : decode b_PairChoice_bar 69 = .ok (.getfield 10, 3) := by decide +kernel
theorem d_PairChoice_bar_72 : decode b_PairChoice_bar 72 = .ok (.getfield 76, 3) := by decide +kernel
theorem d_PairChoice_bar_75 : decode b_PairChoice_bar 75 = .ok (.iload_n 1, 1) := by decide +kernel
theorem d_PairChoice_bar_76 : decode b_PairChoice_bar 76 = .ok (.dup2, 1) := by decide +kernel
theorem d_PairChoice_bar_77 : decode b_PairChoice_bar 77 = .ok (.iaload, 1) := by decide +kernel
theorem d_PairChoice_bar_78 : decode b_PairChoice_bar 78 = .ok (.iload_n 2, 1) := by decide +kernel
theorem d_PairChoice_bar_79 : decode b_PairChoice_bar 79 = .ok (.invokestatic 79, 3) := by decide +kernel
theorem d_PairChoice_bar_82 : decode b_PairChoice_bar 82 = .ok (.ixor, 1) := by decide +kernel
theorem d_PairChoice_bar_83 : decode b_PairChoice_bar 83 = .ok (.iastore, 1) := by decide +kernel
theorem d_PairChoice_bar_84 : decode b_PairChoice_bar 84 = .ok (.aload_n 0, 1) := by decide +kernel
theorem d_PairChoice_bar_85 : decode b_PairChoice_bar 85 = .ok (.getfield 10, 3) := by decide +kernel
theorem d_PairChoice_bar_88 : decode b_PairChoice_bar 88 = .ok (.getfield 76, 3) := by decide +kernel
theorem d_PairChoice_bar_91 : decode b_PairChoice_bar 91 = .ok (.iload_n 2, 1) := by decide +kernel
theorem d_PairChoice_bar_92 : decode b_PairChoice_bar 92 = .ok (.dup2, 1) := by decide +kernel
theorem d_PairChoice_bar_93 : decode b_PairChoice_bar 93 = .ok (.iaload, 1) := by decide +kernel
theorem d_PairChoice_bar_94 : decode b_PairChoice_bar 94 = .ok (.iload_n 1, 1) := by decide +kernel
theorem d_PairChoice_bar_95 : decode b_PairChoice_bar 95 = .ok (.invokestatic 79, 3) := by decide +kernel
theorem d_PairChoice_bar_98 : decode b_PairChoice_bar 98 = .ok (.ixor, 1) := by decide +kernel
theorem d_PairChoice_bar_99 : decode b_PairChoice_bar 99 = .ok (.iastore, 1) := by decide +kernel
theorem d_PairChoice_bar_100 : decode b_PairChoice_bar 100 = .ok (.aload_n 0, 1) := by decide +kernel
theorem d_PairChoice_bar_101 : decode b_PairChoice_bar 101 = .ok (.invokevirtual 51, 3) := by decide +kernel
theorem d_PairChoice_bar_104 : decode b_PairChoice_bar 104 = .ok (.iconst 1, 1) := by decide +kernel
theorem d_PairChoice_bar_105 : decode b_PairChoice_bar 105 = .ok (.ireturn, 1) := by decide +kernel
theorem d_PairChoice_limit_0 : decode b_PairChoice_limit 0 = .ok (.iload_n 1, 1) := by decide +kernel
theorem d_PairChoice_limit_1 : decode b_PairChoice_limit 1 = .ok (.iconst 0, 1) := by decide +kernel
theorem d_PairChoice_limit_2 : decode b_PairChoice_limit 2 = .ok (.sipush 1000, 3) := by decide +kernel
theorem d_PairChoice_limit_5 : decode b_PairChoice_limit 5 = .ok (.invokestatic 39, 3) := by decide +kernel
theorem d_PairChoice_limit_8 : decode b_PairChoice_limit 8 = .ok (.ifCond .ne 6, 3) := by decide +kernel
theorem d_PairChoice_limit_11 : decode b_PairChoice_limit 11 = .ok (.bipush (-2), 2) := by decide +kernel
theorem d_PairChoice_limit_13 : decode b_PairChoice_limit 13 = .ok (.ireturn, 1) := by decide +kernel
theorem d_PairChoice_limit_14 : decode b_PairChoice_limit 14 = .ok (.aload_n 0, 1) := by decide +kernel
theorem d_PairChoice_limit_15 : decode b_PairChoice_limit 15 = .ok (.getfield 10, 3) := by decide +kernel
theorem d_PairChoice_limit_18 : decode b_PairChoice_limit 18 = .ok (.getfield 83, 3) := by decide +kernel
theorem d_PairChoice_limit_21 : decode b_PairChoice_limit 21 = .ok (.istore_n 2, 1) := by decide +kernel
theorem d_PairChoice_limit_22 : decode b_PairChoice_limit 22 = .ok (.iload_n 1, 1) := by decide +kernel
theorem d_PairChoice_limit_23 : decode b_PairChoice_limit 23 = .ok (.iload_n 2, 1) := by decide +kernel
theorem d_PairChoice_limit_24 : decode b_PairChoice_limit 24 = .ok (.if_icmp .eq 15, 3) := by decide +kernel
theorem d_PairChoice_limit_27 : decode b_PairChoice_limit 27 = .ok (.aload_n 0, 1) := by decide +kernel
theorem d_PairChoice_limit_28 : decode b_PairChoice_limit 28 = .ok (.getfield 10, 3) := by decide +kernel
theorem d_PairChoice_limit_31 : decode b_PairChoice_limit 31 = .ok (.iload_n 1, 1) := by decide +kernel
theorem d_PairChoice_limit_32 : decode b_PairChoice_limit 32 = .ok (.putfield 83, 3) := by decide +kernel
theorem d_PairChoice_limit_35 : decode b_PairChoice_limit 35 = .ok (.aload_n 0, 1) := by decide +kernel
theorem d_PairChoice_limit_36 : decode b_PairChoice_limit 36 = .ok (.invokevirtual 51, 3) := by decide +kernel
theorem d_PairChoice_limit_39 : decode b_PairChoice_limit 39 = .ok (.iload_n 2, 1) := by decide +kernel
theorem d_PairChoice_limit_40 : decode b_PairChoice_limit 40 = .ok (.ireturn, 1) := by decide +kernel
theorem d_PairChoice_even_0 : decode b_PairChoice_even 0 = .ok (.iload_n 1, 1) := by decide +kernel
theorem d_PairChoice_even_1 : decode b_PairChoice_even 1 = .ok (.iconst 0, 1) := by decide +kernel
theorem d_PairChoice_even_2 : decode b_PairChoice_even 2 = .ok (.bipush 12, 2) := by decide +kernel
theorem d_PairChoice_even_4 : decode b_PairChoice_even 4 = .ok (.invokestatic 39, 3) := by decide +kernel
theorem d_PairChoice_even_7 : decode b_PairChoice_even 7 = .ok (.ifCond .ne 6, 3) := by decide +kernel
theorem d_PairChoice_even_10 : decode b_PairChoice_even 10 = .ok (.bipush (-2), 2) := by decide +kernel
theorem d_PairChoice_even_12 : decode b_PairChoice_even 12 = .ok (.ireturn, 1) := by decide +kernel
theorem d_PairChoice_even_13 : decode b_PairChoice_even 13 = .ok (.aload_n 0, 1) := by decide +kernel
theorem d_PairChoice_even_14 : decode b_PairChoice_even 14 = .ok (.getfield 10, 3) := by decide +kernel
theorem d_PairChoice_even_17 : decode b_PairChoice_even 17 = .ok (.getfield 86, 3) := by decide +kernel
theorem d_PairChoice_even_20 : decode b_PairChoice_even 20 = .ok (.istore_n 2, 1) := by decide +kernel
theorem d_PairChoice_even_21 : decode b_PairChoice_even 21 = .ok (.iload_n 1, 1) := by decide +kernel
theorem d_PairChoice_even_22 : decode b_PairChoice_even 22 = .ok (.iload_n 2, 1) := by decide +kernel
theorem d_PairChoice_even_23 : decode b_PairChoice_even 23 = .ok (.if_icmp .eq 15, 3) := by decide +kernel
theorem d_PairChoice_even_26 : decode b_PairChoice_even 26 = .ok (.aload_n 0, 1) := by decide +kernel
theorem d_PairChoice_even_27 : decode b_PairChoice_even 27 = .ok (.getfield 10, 3) := by decide +kernel
theorem d_PairChoice_even_30 : decode b_PairChoice_even 30 = .ok (.iload_n 1, 1) := by decide +kernel
theorem d_PairChoice_even_31 : decode b_PairChoice_even 31 = .ok (.putfield 86, 3) := by decide +kernel
theorem d_PairChoice_even_34 : decode b_PairChoice_even 34 = .ok (.aload_n 0, 1) := by decide +kernel
theorem d_PairChoice_even_35 : decode b_PairChoice_even 35 = .ok (.invokevirtual 51, 3) := by decide +kernel
theorem d_PairChoice_even_38 : decode b_PairChoice_even 38 = .ok (.iload_n 2, 1) := by decide +kernel
theorem d_PairChoice_even_39 : decode b_PairChoice_even 39 = .ok (.ireturn, 1) := by decide +kernel
theorem d_PairChoice_line_0 : decode b_PairChoice_line 0 = .ok (.iload_n 1, 1) := by decide +kernel
theorem d_PairChoice_line_1 : decode b_PairChoice_line 1 = .ok (.iconst 0, 1) := by decide +kernel
theorem d_PairChoice_line_2 : decode b_PairChoice_line 2 = .ok (.bipush 7, 2) := by decide +kernel
theorem d_PairChoice_line_4 : decode b_PairChoice_line 4 = .ok (.invokestatic 39, 3) := by decide +kernel
theorem d_PairChoice_line_7 : decode b_PairChoice_line 7 = .ok (.ifCond .ne 5, 3) := by decide +kernel
theorem d_PairChoice_line_10 : decode b_PairChoice_line 10 = .ok (.iconst (-1), 1) := by decide +kernel
theorem d_PairChoice_line_11 : decode b_PairChoice_line 11 = .ok (.ireturn, 1) := by decide +kernel
theorem d_PairChoice_line_12 : decode b_PairChoice_line 12 = .ok (.iload_n 2, 1) := by decide +kernel
theorem d_PairChoice_line_13 : decode b_PairChoice_line 13 = .ok (.iconst 0, 1) := by decide +kernel
theorem d_PairChoice_line_14 : decode b_PairChoice_line 14 = .ok (.bipush 12, 2) := by decide +kernel
theorem d_PairChoice_line_16 : decode b_PairChoice_line 16 = .ok (.invokestatic 39, 3) := by decide +kernel
theorem d_PairChoice_line_19 : decode b_PairChoice_line 19 = .ok (.ifCond .ne 6, 3) := by decide +kernel
theorem d_PairChoice_line_22 : decode b_PairChoice_line 22 = .ok (.bipush (-2), 2) := by decide +kernel
theorem d_PairChoice_line_24 : decode b_PairChoice_line 24 = .ok (.ireturn, 1) := by decide +kernel
theorem d_PairChoice_line_25 : decode b_PairChoice_line 25 = .ok (.aload_n 0, 1) := by decide +kernel
theorem d_PairChoice_line_26 : decode b_PairChoice_line 26 = .ok (.getfield 10, 3) := by decide +kernel
theorem d_PairChoice_line_29 : decode b_PairChoice_line 29 = .ok (.getfield 89, 3) := by decide +kernel
theorem d_PairChoice_line_32 : decode b_PairChoice_line 32 = .ok (.iload_n 1, 1) := by decide +kernel
theorem d_PairChoice_line_33 : decode b_PairChoice_line 33 = .ok (.iaload, 1) := by decide +kernel
theorem d_PairChoice_line_34 : decode b_PairChoice_line 34 = .ok (.istore_n 3, 1) := by decide +kernel
theorem d_PairChoice_line_35 : decode b_PairChoice_line 35 = .ok (.iload_n 2, 1) := by decide +kernel
theorem d_PairChoice_line_36 : decode b_PairChoice_line 36 = .ok (.iload_n 3, 1) := by decide +kernel
theorem d_PairChoice_line_37 : decode b_PairChoice_line 37 = .ok (.if_icmp .eq 17, 3) := by decide +kernel
theorem d_PairChoice_line_40 : decode b_PairChoice_line 40 = .ok (.aload_n 0, 1) := by decide +kernel
theorem d_PairChoice_line_41 : decode b_PairChoice_line 41 = .ok (.getfield 10, 3) := by decide +kernel
theorem d_PairChoice_line_44 : decode b_PairChoice_line 44 = .ok (.getfield 89, 3) := by decide +kernel
theorem d_PairChoice_line_47 : decode b_PairChoice_line 47 = .ok (.iload_n 1, 1) := by decide +kernel
theorem d_PairChoice_line_48 : decode b_PairChoice_line 48 = .ok (.iload_n 2, 1) := by decide +kernel
theorem d_PairChoice_line_49 : decode b_PairChoice_line 49 = .ok (.iastore, 1) := by decide +kernel
theorem d_PairChoice_line_50 : decode b_PairChoice_line 50 = .ok (.aload_n 0, 1) := by decide +kernel
theorem d_PairChoice_line_51 : decode b_PairChoice_line 51 = .ok (.invokevirtual 51, 3) := by decide +kernel
theorem d_PairChoice_line_54 : decode b_PairChoice_line 54 = .ok (.iload_n 3, 1) := by decide +kernel
theorem d_PairChoice_line_55 : decode b_PairChoice_line 55 = .ok (.ireturn, 1) := by decide +kernel
theorem d_PairChoice_run_0 : decode b_PairChoice_run 0 = .ok (.iload_n 1, 1) := by decide +kernel
theorem d_PairChoice_run_1 : decode b_PairChoice_run 1 = .ok (.invokestatic 92, 3) := by decide +kernel
theorem d_PairChoice_run_4 : decode b_PairChoice_run 4 = .ok (.ifCond .ne 6, 3) := by decide +kernel
theorem d_PairChoice_run_7 : decode b_PairChoice_run 7 = .ok (.bipush (-2), 2) := by decide +kernel
theorem d_PairChoice_run_9 : decode b_PairChoice_run 9 = .ok (.ireturn, 1) := by decide +kernel
theorem d_PairChoice_run_10 : decode b_PairChoice_run 10 = .ok (.aload_n 0, 1) := by decide +kernel
theorem d_PairChoice_run_11 : decode b_PairChoice_run 11 = .ok (.getfield 21, 3) := by decide +kernel
theorem d_PairChoice_run_14 : decode b_PairChoice_run 14 = .ok (.iload_n 1, 1) := by decide +kernel
theorem d_PairChoice_run_15 : decode b_PairChoice_run 15 = .ok (.invokevirtual 95, 3) := by decide +kernel
theorem d_PairChoice_run_18 : decode b_PairChoice_run 18 = .ok (.aload_n 0, 1) := by decide +kernel
theorem d_PairChoice_run_19 : decode b_PairChoice_run 19 = .ok (.getfield 21, 3) := by decide +kernel
theorem d_PairChoice_run_22 : decode b_PairChoice_run 22 = .ok (.getfield 99, 3) := by decide +kernel
theorem d_PairChoice_run_25 : decode b_PairChoice_run 25 = .ok (.ifCond .ne 12, 3) := by decide +kernel
theorem d_PairChoice_run_28 : decode b_PairChoice_run 28 = .ok (.aload_n 0, 1) := by decide +kernel
theorem d_PairChoice_run_29 : decode b_PairChoice_run 29 = .ok (.getfield 28, 3) := by decide +kernel
theorem d_PairChoice_run_32 : decode b_PairChoice_run 32 = .ok (.invokevirtual 102, 3) := by decide +kernel
theorem d_PairChoice_run_35 : decode b_PairChoice_run 35 = .ok (.iconst 0, 1) := by decide +kernel
theorem d_PairChoice_run_36 : decode b_PairChoice_run 36 = .ok (.ireturn, 1) := by decide +kernel
theorem d_PairChoice_run_37 : decode b_PairChoice_run 37 = .ok (.aload_n 0, 1) := by decide +kernel
theorem d_PairChoice_run_38 : decode b_PairChoice_run 38 = .ok (.getfield 28, 3) := by decide +kernel
theorem d_PairChoice_run_41 : decode b_PairChoice_run 41 = .ok (.aload_n 0, 1) := by decide +kernel
theorem d_PairChoice_run_42 : decode b_PairChoice_run 42 = .ok (.getfield 21, 3) := by decide +kernel
theorem d_PairChoice_run_45 : decode b_PairChoice_run 45 = .ok (.invokevirtual 105, 3) := by decide +kernel
theorem d_PairChoice_run_48 : decode b_PairChoice_run 48 = .ok (.iload_n 1, 1) := by decide +kernel
theorem d_PairChoice_run_49 : decode b_PairChoice_run 49 = .ok (.aload_n 0, 1) := by decide +kernel
theorem d_PairChoice_run_50 : decode b_PairChoice_run 50 = .ok (.getfield 21, 3) := by decide +kernel
theorem d_PairChoice_run_53 : decode b_PairChoice_run 53 = .ok (.getfield 99, 3) := by decide +kernel
theorem d_PairChoice_run_56 : decode b_PairChoice_run 56 = .ok (.invokevirtual 109, 3) := by decide +kernel
theorem d_PairChoice_run_59 : decode b_PairChoice_run 59 = .ok (.iload_n 1, 1) := by decide +kernel
theorem d_PairChoice_run_60 : decode b_PairChoice_run 60 = .ok (.ireturn, 1) := by decide +kernel
theorem d_PairChoice_pairOf_0 : decode b_PairChoice_pairOf 0 = .ok (.aload_n 0, 1) := by decide +kernel
theorem d_PairChoice_pairOf_1 : decode b_PairChoice_pairOf 1 = .ok (.getfield 28, 3) := by decide +kernel
theorem d_PairChoice_pairOf_4 : decode b_PairChoice_pairOf 4 = .ok (.iload_n 1, 1) := by decide +kernel
theorem d_PairChoice_pairOf_5 : decode b_PairChoice_pairOf 5 = .ok (.invokevirtual 113, 3) := by decide +kernel
theorem d_PairChoice_pairOf_8 : decode b_PairChoice_pairOf 8 = .ok (.ifCond .ne 5, 3) := by decide +kernel
theorem d_PairChoice_pairOf_11 : decode b_PairChoice_pairOf 11 = .ok (.iconst (-1), 1) := by decide +kernel
theorem d_PairChoice_pairOf_12 : decode b_PairChoice_pairOf 12 = .ok (.ireturn, 1) := by decide +kernel
theorem d_PairChoice_pairOf_13 : decode b_PairChoice_pairOf 13 = .ok (.iload_n 2, 1) := by decide +kernel
theorem d_PairChoice_pairOf_14 : decode b_PairChoice_pairOf 14 = .ok (.iconst 0, 1) := by decide +kernel
theorem d_PairChoice_pairOf_15 : decode b_PairChoice_pairOf 15 = .ok (.iconst 1, 1) := by decide +kernel
theorem d_PairChoice_pairOf_16 : decode b_PairChoice_pairOf 16 = .ok (.invokestatic 39, 3) := by decide +kernel
theorem d_PairChoice_pairOf_19 : decode b_PairChoice_pairOf 19 = .ok (.ifCond .ne 6, 3) := by decide +kernel
theorem d_PairChoice_pairOf_22 : decode b_PairChoice_pairOf 22 = .ok (.bipush (-2), 2) := by decide +kernel
theorem d_PairChoice_pairOf_24 : decode b_PairChoice_pairOf 24 = .ok (.ireturn, 1) := by decide +kernel
theorem d_PairChoice_pairOf_25 : decode b_PairChoice_pairOf 25 = .ok (.iload_n 2, 1) := by decide +kernel
theorem d_PairChoice_pairOf_26 : decode b_PairChoice_pairOf 26 = .ok (.ifCond .ne 18, 3) := by decide +kernel
theorem d_PairChoice_pairOf_29 : decode b_PairChoice_pairOf 29 = .ok (.aload_n 0, 1) := by decide +kernel
theorem d_PairChoice_pairOf_30 : decode b_PairChoice_pairOf 30 = .ok (.getfield 28, 3) := by decide +kernel
theorem d_PairChoice_pairOf_33 : decode b_PairChoice_pairOf 33 = .ok (.getfield 116, 3) := by decide +kernel
theorem d_PairChoice_pairOf_36 : decode b_PairChoice_pairOf 36 = .ok (.getfield 120, 3) := by decide +kernel
theorem d_PairChoice_pairOf_39 : decode b_PairChoice_pairOf 39 = .ok (.iload_n 1, 1) := by decide +kernel
theorem d_PairChoice_pairOf_40 : decode b_PairChoice_pairOf 40 = .ok (.iaload, 1) := by decide +kernel
theorem d_PairChoice_pairOf_41 : decode b_PairChoice_pairOf 41 = .ok (.goto 15, 3) := by decide +kernel
end
section
theorem d_PairChoice_pairOf_44 : decode b_PairChoice_pairOf 44 = .ok (.aload_n 0, 1) := by decide +kernel
theorem d_PairChoice_pairOf_45 : decode b_PairChoice_pairOf 45 = .ok (.getfield 28, 3) := by decide +kernel
theorem d_PairChoice_pairOf_48 : decode b_PairChoice_pairOf 48 = .ok (.getfield 116, 3) := by decide +kernel
theorem d_PairChoice_pairOf_51 : decode b_PairChoice_pairOf 51 = .ok (.getfield 124, 3) := by decide +kernel
theorem d_PairChoice_pairOf_54 : decode b_PairChoice_pairOf 54 = .ok (.iload_n 1, 1) := by decide +kernel
theorem d_PairChoice_pairOf_55 : decode b_PairChoice_pairOf 55 = .ok (.iaload, 1) := by decide +kernel
theorem d_PairChoice_pairOf_56 : decode b_PairChoice_pairOf 56 = .ok (.ireturn, 1) := by decide +kernel
theorem d_PairChoice_told_0 : decode b_PairChoice_told 0 = .ok (.iload_n 1, 1) := by decide +kernel
theorem d_PairChoice_told_1 : decode b_PairChoice_told 1 = .ok (.iconst 0, 1) := by decide +kernel
theorem d_PairChoice_told_2 : decode b_PairChoice_told 2 = .ok (.iconst 3, 1) := by decide +kernel
theorem d_PairChoice_told_3 : decode b_PairChoice_told 3 = .ok (.invokestatic 39, 3) := by decide +kernel
theorem d_PairChoice_told_6 : decode b_PairChoice_told 6 = .ok (.ifCond .ne 6, 3) := by decide +kernel
theorem d_PairChoice_told_9 : decode b_PairChoice_told 9 = .ok (.bipush (-2), 2) := by decide +kernel
theorem d_PairChoice_told_11 : decode b_PairChoice_told 11 = .ok (.ireturn, 1) := by decide +kernel
theorem d_PairChoice_told_12 : decode b_PairChoice_told 12 = .ok (.aload_n 0, 1) := by decide +kernel
theorem d_PairChoice_told_13 : decode b_PairChoice_told 13 = .ok (.getfield 28, 3) := by decide +kernel
theorem d_PairChoice_told_16 : decode b_PairChoice_told 16 = .ok (.getfield 127, 3) := by decide +kernel
theorem d_PairChoice_told_19 : decode b_PairChoice_told 19 = .ok (.ifCond .ne 6, 3) := by decide +kernel
theorem d_PairChoice_told_22 : decode b_PairChoice_told 22 = .ok (.bipush (-3), 2) := by decide +kernel
theorem d_PairChoice_told_24 : decode b_PairChoice_told 24 = .ok (.ireturn, 1) := by decide +kernel
theorem d_PairChoice_told_25 : decode b_PairChoice_told 25 = .ok (.iload_n 1, 1) := by decide +kernel
theorem d_PairChoice_told_26 : decode b_PairChoice_told 26 = .ok (.tableswitch 64 0 2 #[26, 41, 56], 26) := by decide +kernel
theorem d_PairChoice_told_52 : decode b_PairChoice_told 52 = .ok (.aload_n 0, 1) := by decide +kernel
theorem d_PairChoice_told_53 : decode b_PairChoice_told 53 = .ok (.getfield 10, 3) := by decide +kernel
theorem d_PairChoice_told_56 : decode b_PairChoice_told 56 = .ok (.aload_n 0, 1) := by decide +kernel
theorem d_PairChoice_told_57 : decode b_PairChoice_told 57 = .ok (.getfield 28, 3) := by decide +kernel
theorem d_PairChoice_told_60 : decode b_PairChoice_told 60 = .ok (.getfield 130, 3) := by decide +kernel
theorem d_PairChoice_told_63 : decode b_PairChoice_told 63 = .ok (.invokevirtual 133, 3) := by decide +kernel
theorem d_PairChoice_told_66 : decode b_PairChoice_told 66 = .ok (.ireturn, 1) := by decide +kernel
theorem d_PairChoice_told_67 : decode b_PairChoice_told 67 = .ok (.aload_n 0, 1) := by decide +kernel
theorem d_PairChoice_told_68 : decode b_PairChoice_told 68 = .ok (.getfield 10, 3) := by decide +kernel
theorem d_PairChoice_told_71 : decode b_PairChoice_told 71 = .ok (.aload_n 0, 1) := by decide +kernel
theorem d_PairChoice_told_72 : decode b_PairChoice_told 72 = .ok (.getfield 28, 3) := by decide +kernel
theorem d_PairChoice_told_75 : decode b_PairChoice_told 75 = .ok (.getfield 130, 3) := by decide +kernel
theorem d_PairChoice_told_78 : decode b_PairChoice_told 78 = .ok (.invokevirtual 136, 3) := by decide +kernel
theorem d_PairChoice_told_81 : decode b_PairChoice_told 81 = .ok (.ireturn, 1) := by decide +kernel
theorem d_PairChoice_told_82 : decode b_PairChoice_told 82 = .ok (.aload_n 0, 1) := by decide +kernel
theorem d_PairChoice_told_83 : decode b_PairChoice_told 83 = .ok (.getfield 28, 3) := by decide +kernel
theorem d_PairChoice_told_86 : decode b_PairChoice_told 86 = .ok (.getfield 127, 3) := by decide +kernel
theorem d_PairChoice_told_89 : decode b_PairChoice_told 89 = .ok (.ireturn, 1) := by decide +kernel
theorem d_PairChoice_told_90 : decode b_PairChoice_told 90 = .ok (.aload_n 0, 1) := by decide +kernel
theorem d_PairChoice_told_91 : decode b_PairChoice_told 91 = .ok (.getfield 28, 3) := by decide +kernel
theorem d_PairChoice_told_94 : decode b_PairChoice_told 94 = .ok (.getfield 139, 3) := by decide +kernel
theorem d_PairChoice_told_97 : decode b_PairChoice_told 97 = .ok (.ireturn, 1) := by decide +kernel
theorem d_PairChoice_eggs_0 : decode b_PairChoice_eggs 0 = .ok (.iload_n 1, 1) := by decide +kernel
theorem d_PairChoice_eggs_1 : decode b_PairChoice_eggs 1 = .ok (.iconst 0, 1) := by decide +kernel
theorem d_PairChoice_eggs_2 : decode b_PairChoice_eggs 2 = .ok (.ldc 142, 2) := by decide +kernel
theorem d_PairChoice_eggs_4 : decode b_PairChoice_eggs 4 = .ok (.invokestatic 39, 3) := by decide +kernel
theorem d_PairChoice_eggs_7 : decode b_PairChoice_eggs 7 = .ok (.ifCond .ne 6, 3) := by decide +kernel
theorem d_PairChoice_eggs_10 : decode b_PairChoice_eggs 10 = .ok (.bipush (-2), 2) := by decide +kernel
theorem d_PairChoice_eggs_12 : decode b_PairChoice_eggs 12 = .ok (.ireturn, 1) := by decide +kernel
theorem d_PairChoice_eggs_13 : decode b_PairChoice_eggs 13 = .ok (.aload_n 0, 1) := by decide +kernel
theorem d_PairChoice_eggs_14 : decode b_PairChoice_eggs 14 = .ok (.getfield 28, 3) := by decide +kernel
theorem d_PairChoice_eggs_17 : decode b_PairChoice_eggs 17 = .ok (.getfield 127, 3) := by decide +kernel
theorem d_PairChoice_eggs_20 : decode b_PairChoice_eggs 20 = .ok (.ifCond .ne 6, 3) := by decide +kernel
theorem d_PairChoice_eggs_23 : decode b_PairChoice_eggs 23 = .ok (.bipush (-3), 2) := by decide +kernel
theorem d_PairChoice_eggs_25 : decode b_PairChoice_eggs 25 = .ok (.ireturn, 1) := by decide +kernel
theorem d_PairChoice_eggs_26 : decode b_PairChoice_eggs 26 = .ok (.aload_n 0, 1) := by decide +kernel
theorem d_PairChoice_eggs_27 : decode b_PairChoice_eggs 27 = .ok (.getfield 28, 3) := by decide +kernel
theorem d_PairChoice_eggs_30 : decode b_PairChoice_eggs 30 = .ok (.iload_n 1, 1) := by decide +kernel
theorem d_PairChoice_eggs_31 : decode b_PairChoice_eggs 31 = .ok (.invokevirtual 143, 3) := by decide +kernel
theorem d_PairChoice_eggs_34 : decode b_PairChoice_eggs 34 = .ok (.aload_n 0, 1) := by decide +kernel
theorem d_PairChoice_eggs_35 : decode b_PairChoice_eggs 35 = .ok (.getfield 28, 3) := by decide +kernel
theorem d_PairChoice_eggs_38 : decode b_PairChoice_eggs 38 = .ok (.getfield 146, 3) := by decide +kernel
theorem d_PairChoice_eggs_41 : decode b_PairChoice_eggs 41 = .ok (.iconst 0, 1) := by decide +kernel
theorem d_PairChoice_eggs_42 : decode b_PairChoice_eggs 42 = .ok (.iaload, 1) := by decide +kernel
theorem d_PairChoice_eggs_43 : decode b_PairChoice_eggs 43 = .ok (.ireturn, 1) := by decide +kernel
theorem d_PairChoice_eggsOf_0 : decode b_PairChoice_eggsOf 0 = .ok (.aload_n 0, 1) := by decide +kernel
theorem d_PairChoice_eggsOf_1 : decode b_PairChoice_eggsOf 1 = .ok (.getfield 28, 3) := by decide +kernel
theorem d_PairChoice_eggsOf_4 : decode b_PairChoice_eggsOf 4 = .ok (.iload_n 1, 1) := by decide +kernel
theorem d_PairChoice_eggsOf_5 : decode b_PairChoice_eggsOf 5 = .ok (.invokevirtual 113, 3) := by decide +kernel
theorem d_PairChoice_eggsOf_8 : decode b_PairChoice_eggsOf 8 = .ok (.ifCond .eq 15, 3) := by decide +kernel
theorem d_PairChoice_eggsOf_11 : decode b_PairChoice_eggsOf 11 = .ok (.aload_n 0, 1) := by decide +kernel
theorem d_PairChoice_eggsOf_12 : decode b_PairChoice_eggsOf 12 = .ok (.getfield 28, 3) := by decide +kernel
theorem d_PairChoice_eggsOf_15 : decode b_PairChoice_eggsOf 15 = .ok (.getfield 146, 3) := by decide +kernel
theorem d_PairChoice_eggsOf_18 : decode b_PairChoice_eggsOf 18 = .ok (.iload_n 1, 1) := by decide +kernel
theorem d_PairChoice_eggsOf_19 : decode b_PairChoice_eggsOf 19 = .ok (.iaload, 1) := by decide +kernel
theorem d_PairChoice_eggsOf_20 : decode b_PairChoice_eggsOf 20 = .ok (.goto 4, 3) := by decide +kernel
theorem d_PairChoice_eggsOf_23 : decode b_PairChoice_eggsOf 23 = .ok (.iconst (-1), 1) := by decide +kernel
theorem d_PairChoice_eggsOf_24 : decode b_PairChoice_eggsOf 24 = .ok (.ireturn, 1) := by decide +kernel
theorem d_PairChoice_backUp_0 : decode b_PairChoice_backUp 0 = .ok (.aload_n 0, 1) := by decide +kernel
theorem d_PairChoice_backUp_1 : decode b_PairChoice_backUp 1 = .ok (.getfield 28, 3) := by decide +kernel
theorem d_PairChoice_backUp_4 : decode b_PairChoice_backUp 4 = .ok (.iload_n 1, 1) := by decide +kernel
theorem d_PairChoice_backUp_5 : decode b_PairChoice_backUp 5 = .ok (.invokevirtual 113, 3) := by decide +kernel
theorem d_PairChoice_backUp_8 : decode b_PairChoice_backUp 8 = .ok (.ifCond .ne 5, 3) := by decide +kernel
theorem d_PairChoice_backUp_11 : decode b_PairChoice_backUp 11 = .ok (.iconst (-1), 1) := by decide +kernel
theorem d_PairChoice_backUp_12 : decode b_PairChoice_backUp 12 = .ok (.ireturn, 1) := by decide +kernel
theorem d_PairChoice_backUp_13 : decode b_PairChoice_backUp 13 = .ok (.bipush (-3), 2) := by decide +kernel
theorem d_PairChoice_backUp_15 : decode b_PairChoice_backUp 15 = .ok (.istore_n 2, 1) := by decide +kernel
theorem d_PairChoice_backUp_16 : decode b_PairChoice_backUp 16 = .ok (.iconst 0, 1) := by decide +kernel
theorem d_PairChoice_backUp_17 : decode b_PairChoice_backUp 17 = .ok (.istore_n 3, 1) := by decide +kernel
theorem d_PairChoice_backUp_18 : decode b_PairChoice_backUp 18 = .ok (.iload_n 3, 1) := by decide +kernel
theorem d_PairChoice_backUp_19 : decode b_PairChoice_backUp 19 = .ok (.aload_n 0, 1) := by decide +kernel
theorem d_PairChoice_backUp_20 : decode b_PairChoice_backUp 20 = .ok (.getfield 10, 3) := by decide +kernel
theorem d_PairChoice_backUp_23 : decode b_PairChoice_backUp 23 = .ok (.getfield 47, 3) := by decide +kernel
theorem d_PairChoice_backUp_26 : decode b_PairChoice_backUp 26 = .ok (.if_icmp .ge 48, 3) := by decide +kernel
theorem d_PairChoice_backUp_29 : decode b_PairChoice_backUp 29 = .ok (.aload_n 0, 1) := by decide +kernel
theorem d_PairChoice_backUp_30 : decode b_PairChoice_backUp 30 = .ok (.getfield 28, 3) := by decide +kernel
theorem d_PairChoice_backUp_33 : decode b_PairChoice_backUp 33 = .ok (.iload_n 3, 1) := by decide +kernel
theorem d_PairChoice_backUp_34 : decode b_PairChoice_backUp 34 = .ok (.iload_n 1, 1) := by decide +kernel
theorem d_PairChoice_backUp_35 : decode b_PairChoice_backUp 35 = .ok (.invokevirtual 149, 3) := by decide +kernel
theorem d_PairChoice_backUp_38 : decode b_PairChoice_backUp 38 = .ok (.ifCond .eq 30, 3) := by decide +kernel
theorem d_PairChoice_backUp_41 : decode b_PairChoice_backUp 41 = .ok (.iload_n 2, 1) := by decide +kernel
theorem d_PairChoice_backUp_42 : decode b_PairChoice_backUp 42 = .ok (.ifCond .lt 24, 3) := by decide +kernel
theorem d_PairChoice_backUp_45 : decode b_PairChoice_backUp 45 = .ok (.aload_n 0, 1) := by decide +kernel
theorem d_PairChoice_backUp_46 : decode b_PairChoice_backUp 46 = .ok (.getfield 10, 3) := by decide +kernel
theorem d_PairChoice_backUp_49 : decode b_PairChoice_backUp 49 = .ok (.getfield 61, 3) := by decide +kernel
theorem d_PairChoice_backUp_52 : decode b_PairChoice_backUp 52 = .ok (.iload_n 3, 1) := by decide +kernel
theorem d_PairChoice_backUp_53 : decode b_PairChoice_backUp 53 = .ok (.iaload, 1) := by decide +kernel
theorem d_PairChoice_backUp_54 : decode b_PairChoice_backUp 54 = .ok (.aload_n 0, 1) := by decide +kernel
theorem d_PairChoice_backUp_55 : decode b_PairChoice_backUp 55 = .ok (.getfield 10, 3) := by decide +kernel
theorem d_PairChoice_backUp_58 : decode b_PairChoice_backUp 58 = .ok (.getfield 61, 3) := by decide +kernel
theorem d_PairChoice_backUp_61 : decode b_PairChoice_backUp 61 = .ok (.iload_n 2, 1) := by decide +kernel
theorem d_PairChoice_backUp_62 : decode b_PairChoice_backUp 62 = .ok (.iaload, 1) := by decide +kernel
theorem d_PairChoice_backUp_63 : decode b_PairChoice_backUp 63 = .ok (.if_icmp .le 5, 3) := by decide +kernel
theorem d_PairChoice_backUp_66 : decode b_PairChoice_backUp 66 = .ok (.iload_n 3, 1) := by decide +kernel
theorem d_PairChoice_backUp_67 : decode b_PairChoice_backUp 67 = .ok (.istore_n 2, 1) := by decide +kernel
theorem d_PairChoice_backUp_68 : decode b_PairChoice_backUp 68 = .ok (.iinc 3 1, 3) := by decide +kernel
theorem d_PairChoice_backUp_71 : decode b_PairChoice_backUp 71 = .ok (.goto (-53), 3) := by decide +kernel
theorem d_PairChoice_backUp_74 : decode b_PairChoice_backUp 74 = .ok (.iload_n 2, 1) := by decide +kernel
theorem d_PairChoice_backUp_75 : decode b_PairChoice_backUp 75 = .ok (.ireturn, 1) := by decide +kernel
theorem d_PairChoice_test_0 : decode b_PairChoice_test 0 = .ok (.iload_n 1, 1) := by decide +kernel
theorem d_PairChoice_test_1 : decode b_PairChoice_test 1 = .ok (.invokestatic 92, 3) := by decide +kernel
theorem d_PairChoice_test_4 : decode b_PairChoice_test 4 = .ok (.ifCond .eq 14, 3) := by decide +kernel
theorem d_PairChoice_test_7 : decode b_PairChoice_test 7 = .ok (.iload_n 2, 1) := by decide +kernel
theorem d_PairChoice_test_8 : decode b_PairChoice_test 8 = .ok (.iconst 1, 1) := by decide +kernel
theorem d_PairChoice_test_9 : decode b_PairChoice_test 9 = .ok (.sipush 10000, 3) := by decide +kernel
theorem d_PairChoice_test_12 : decode b_PairChoice_test 12 = .ok (.invokestatic 39, 3) := by decide +kernel
theorem d_PairChoice_test_15 : decode b_PairChoice_test 15 = .ok (.ifCond .ne 6, 3) := by decide +kernel
theorem d_PairChoice_test_18 : decode b_PairChoice_test 18 = .ok (.bipush (-2), 2) := by decide +kernel
theorem d_PairChoice_test_20 : decode b_PairChoice_test 20 = .ok (.ireturn, 1) := by decide +kernel
theorem d_PairChoice_test_21 : decode b_PairChoice_test 21 = .ok (.aload_n 0, 1) := by decide +kernel
theorem d_PairChoice_test_22 : decode b_PairChoice_test 22 = .ok (.getfield 21, 3) := by decide +kernel
theorem d_PairChoice_test_25 : decode b_PairChoice_test 25 = .ok (.iload_n 1, 1) := by decide +kernel
theorem d_PairChoice_test_26 : decode b_PairChoice_test 26 = .ok (.invokevirtual 95, 3) := by decide +kernel
theorem d_PairChoice_test_29 : decode b_PairChoice_test 29 = .ok (.aload_n 0, 1) := by decide +kernel
theorem d_PairChoice_test_30 : decode b_PairChoice_test 30 = .ok (.getfield 21, 3) := by decide +kernel
theorem d_PairChoice_test_33 : decode b_PairChoice_test 33 = .ok (.getfield 99, 3) := by decide +kernel
theorem d_PairChoice_test_36 : decode b_PairChoice_test 36 = .ok (.ifCond .ne 6, 3) := by decide +kernel
theorem d_PairChoice_test_39 : decode b_PairChoice_test 39 = .ok (.bipush (-3), 2) := by decide +kernel
theorem d_PairChoice_test_41 : decode b_PairChoice_test 41 = .ok (.ireturn, 1) := by decide +kernel
theorem d_PairChoice_test_42 : decode b_PairChoice_test 42 = .ok (.iconst 0, 1) := by decide +kernel
theorem d_PairChoice_test_43 : decode b_PairChoice_test 43 = .ok (.istore_n 3, 1) := by decide +kernel
theorem d_PairChoice_test_44 : decode b_PairChoice_test 44 = .ok (.ldc 152, 2) := by decide +kernel
theorem d_PairChoice_test_46 : decode b_PairChoice_test 46 = .ok (.istore 4, 2) := by decide +kernel
theorem d_PairChoice_test_48 : decode b_PairChoice_test 48 = .ok (.iconst 0, 1) := by decide +kernel
theorem d_PairChoice_test_49 : decode b_PairChoice_test 49 = .ok (.istore 5, 2) := by decide +kernel
theorem d_PairChoice_test_51 : decode b_PairChoice_test 51 = .ok (.iload 5, 2) := by decide +kernel
theorem d_PairChoice_test_53 : decode b_PairChoice_test 53 = .ok (.aload_n 0, 1) := by decide +kernel
theorem d_PairChoice_test_54 : decode b_PairChoice_test 54 = .ok (.getfield 10, 3) := by decide +kernel
theorem d_PairChoice_test_57 : decode b_PairChoice_test 57 = .ok (.getfield 47, 3) := by decide +kernel
theorem d_PairChoice_test_60 : decode b_PairChoice_test 60 = .ok (.if_icmp .ge 47, 3) := by decide +kernel
theorem d_PairChoice_test_63 : decode b_PairChoice_test 63 = .ok (.aload_n 0, 1) := by decide +kernel
theorem d_PairChoice_test_64 : decode b_PairChoice_test 64 = .ok (.getfield 21, 3) := by decide +kernel
theorem d_PairChoice_test_67 : decode b_PairChoice_test 67 = .ok (.iload 5, 2) := by decide +kernel
theorem d_PairChoice_test_69 : decode b_PairChoice_test 69 = .ok (.iload_n 2, 1) := by decide +kernel
theorem d_PairChoice_test_70 : decode b_PairChoice_test 70 = .ok (.invokevirtual 153, 3) := by decide +kernel
theorem d_PairChoice_test_73 : decode b_PairChoice_test 73 = .ok (.aload_n 0, 1) := by decide +kernel
theorem d_PairChoice_test_74 : decode b_PairChoice_test 74 = .ok (.getfield 21, 3) := by decide +kernel
theorem d_PairChoice_test_77 : decode b_PairChoice_test 77 = .ok (.iload 5, 2) := by decide +kernel
theorem d_PairChoice_test_79 : decode b_PairChoice_test 79 = .ok (.iload_n 2, 1) := by decide +kernel
theorem d_PairChoice_test_80 : decode b_PairChoice_test 80 = .ok (.ineg, 1) := by decide +kernel
theorem d_PairChoice_test_81 : decode b_PairChoice_test 81 = .ok (.invokevirtual 153, 3) := by decide +kernel
theorem d_PairChoice_test_84 : decode b_PairChoice_test 84 = .ok (.iadd, 1) := by decide +kernel
theorem d_PairChoice_test_85 : decode b_PairChoice_test 85 = .ok (.istore 6, 2) := by decide +kernel
theorem d_PairChoice_test_87 : decode b_PairChoice_test 87 = .ok (.iload 6, 2) := by decide +kernel
theorem d_PairChoice_test_89 : decode b_PairChoice_test 89 = .ok (.iload 4, 2) := by decide +kernel
theorem d_PairChoice_test_91 : decode b_PairChoice_test 91 = .ok (.if_icmp .le 10, 3) := by decide +kernel
theorem d_PairChoice_test_94 : decode b_PairChoice_test 94 = .ok (.iload 5, 2) := by decide +kernel
theorem d_PairChoice_test_96 : decode b_PairChoice_test 96 = .ok (.istore_n 3, 1) := by decide +kernel
theorem d_PairChoice_test_97 : decode b_PairChoice_test 97 = .ok (.iload 6, 2) := by decide +kernel
theorem d_PairChoice_test_99 : decode b_PairChoice_test 99 = .ok (.istore 4, 2) := by decide +kernel
theorem d_PairChoice_test_101 : decode b_PairChoice_test 101 = .ok (.iinc 5 1, 3) := by decide +kernel
theorem d_PairChoice_test_104 : decode b_PairChoice_test 104 = .ok (.goto (-53), 3) := by decide +kernel
theorem d_PairChoice_test_107 : decode b_PairChoice_test 107 = .ok (.iload_n 3, 1) := by decide +kernel
theorem d_PairChoice_test_108 : decode b_PairChoice_test 108 = .ok (.ireturn, 1) := by decide +kernel
theorem d_PairChoice_ahead_0 : decode b_PairChoice_ahead 0 = .ok (.iload_n 1, 1) := by decide +kernel
theorem d_PairChoice_ahead_1 : decode b_PairChoice_ahead 1 = .ok (.iconst 1, 1) := by decide +kernel
theorem d_PairChoice_ahead_2 : decode b_PairChoice_ahead 2 = .ok (.bipush 20, 2) := by decide +kernel
theorem d_PairChoice_ahead_4 : decode b_PairChoice_ahead 4 = .ok (.invokestatic 39, 3) := by decide +kernel
theorem d_PairChoice_ahead_7 : decode b_PairChoice_ahead 7 = .ok (.ifCond .eq 22, 3) := by decide +kernel
theorem d_PairChoice_ahead_10 : decode b_PairChoice_ahead 10 = .ok (.iload_n 2, 1) := by decide +kernel
theorem d_PairChoice_ahead_11 : decode b_PairChoice_ahead 11 = .ok (.iconst 0, 1) := by decide +kernel
theorem d_PairChoice_ahead_12 : decode b_PairChoice_ahead 12 = .ok (.sipush 1000, 3) := by decide +kernel
theorem d_PairChoice_ahead_15 : decode b_PairChoice_ahead 15 = .ok (.invokestatic 39, 3) := by decide +kernel
theorem d_PairChoice_ahead_18 : decode b_PairChoice_ahead 18 = .ok (.ifCond .eq 11, 3) := by decide +kernel
theorem d_PairChoice_ahead_21 : decode b_PairChoice_ahead 21 = .ok (.iload 5, 2) := by decide +kernel
theorem d_PairChoice_ahead_23 : decode b_PairChoice_ahead 23 = .ok (.invokestatic 92, 3) := by decide +kernel
theorem d_PairChoice_ahead_26 : decode b_PairChoice_ahead 26 = .ok (.ifCond .ne 6, 3) := by decide +kernel
theorem d_PairChoice_ahead_29 : decode b_PairChoice_ahead 29 = .ok (.bipush (-2), 2) := by decide +kernel
theorem d_PairChoice_ahead_31 : decode b_PairChoice_ahead 31 = .ok (.ireturn, 1) := by decide +kernel
theorem d_PairChoice_ahead_32 : decode b_PairChoice_ahead 32 = .ok (.aload_n 0, 1) := by decide +kernel
theorem d_PairChoice_ahead_33 : decode b_PairChoice_ahead 33 = .ok (.getfield 21, 3) := by decide +kernel
theorem d_PairChoice_ahead_36 : decode b_PairChoice_ahead 36 = .ok (.iload 5, 2) := by decide +kernel
theorem d_PairChoice_ahead_38 : decode b_PairChoice_ahead 38 = .ok (.invokevirtual 95, 3) := by decide +kernel
theorem d_PairChoice_ahead_41 : decode b_PairChoice_ahead 41 = .ok (.aload_n 0, 1) := by decide +kernel
theorem d_PairChoice_ahead_42 : decode b_PairChoice_ahead 42 = .ok (.getfield 35, 3) := by decide +kernel
theorem d_PairChoice_ahead_45 : decode b_PairChoice_ahead 45 = .ok (.iload_n 1, 1) := by decide +kernel
theorem d_PairChoice_ahead_46 : decode b_PairChoice_ahead 46 = .ok (.putfield 157, 3) := by decide +kernel
theorem d_PairChoice_ahead_49 : decode b_PairChoice_ahead 49 = .ok (.aload_n 0, 1) := by decide +kernel
theorem d_PairChoice_ahead_50 : decode b_PairChoice_ahead 50 = .ok (.getfield 10, 3) := by decide +kernel
theorem d_PairChoice_ahead_53 : decode b_PairChoice_ahead 53 = .ok (.invokevirtual 160, 3) := by decide +kernel
theorem d_PairChoice_ahead_56 : decode b_PairChoice_ahead 56 = .ok (.istore 6, 2) := by decide +kernel
theorem d_PairChoice_ahead_58 : decode b_PairChoice_ahead 58 = .ok (.iconst 0, 1) := by decide +kernel
theorem d_PairChoice_ahead_59 : decode b_PairChoice_ahead 59 = .ok (.istore 7, 2) := by decide +kernel
theorem d_PairChoice_ahead_61 : decode b_PairChoice_ahead 61 = .ok (.iload 7, 2) := by decide +kernel
theorem d_PairChoice_ahead_63 : decode b_PairChoice_ahead 63 = .ok (.iload_n 1, 1) := by decide +kernel
theorem d_PairChoice_ahead_64 : decode b_PairChoice_ahead 64 = .ok (.if_icmp .ge 49, 3) := by decide +kernel
theorem d_PairChoice_ahead_67 : decode b_PairChoice_ahead 67 = .ok (.iload 6, 2) := by decide +kernel
theorem d_PairChoice_ahead_69 : decode b_PairChoice_ahead 69 = .ok (.lload_n 3, 1) := by decide +kernel
theorem d_PairChoice_ahead_70 : decode b_PairChoice_ahead 70 = .ok (.ldc2_w 163, 3) := by decide +kernel
theorem d_PairChoice_ahead_73 : decode b_PairChoice_ahead 73 = .ok (.iload 7, 2) := by decide +kernel
theorem d_PairChoice_ahead_75 : decode b_PairChoice_ahead 75 = .ok (.i2l, 1) := by decide +kernel
theorem d_PairChoice_ahead_76 : decode b_PairChoice_ahead 76 = .ok (.lmul, 1) := by decide +kernel
theorem d_PairChoice_ahead_77 : decode b_PairChoice_ahead 77 = .ok (.ladd, 1) := by decide +kernel
theorem d_PairChoice_ahead_78 : decode b_PairChoice_ahead 78 = .ok (.iload_n 2, 1) := by decide +kernel
theorem d_PairChoice_ahead_79 : decode b_PairChoice_ahead 79 = .ok (.invokestatic 165, 3) := by decide +kernel
theorem d_PairChoice_ahead_82 : decode b_PairChoice_ahead 82 = .ok (.istore 6, 2) := by decide +kernel
theorem d_PairChoice_ahead_84 : decode b_PairChoice_ahead 84 = .ok (.aload_n 0, 1) := by decide +kernel
theorem d_PairChoice_ahead_85 : decode b_PairChoice_ahead 85 = .ok (.getfield 35, 3) := by decide +kernel
theorem d_PairChoice_ahead_88 : decode b_PairChoice_ahead 88 = .ok (.iload 7, 2) := by decide +kernel
theorem d_PairChoice_ahead_90 : decode b_PairChoice_ahead 90 = .ok (.iload 6, 2) := by decide +kernel
theorem d_PairChoice_ahead_92 : decode b_PairChoice_ahead 92 = .ok (.invokestatic 169, 3) := by decide +kernel
theorem d_PairChoice_ahead_95 : decode b_PairChoice_ahead 95 = .ok (.aload_n 0, 1) := by decide +kernel
theorem d_PairChoice_ahead_96 : decode b_PairChoice_ahead 96 = .ok (.getfield 21, 3) := by decide +kernel
theorem d_PairChoice_ahead_99 : decode b_PairChoice_ahead 99 = .ok (.iload 6, 2) := by decide +kernel
theorem d_PairChoice_ahead_101 : decode b_PairChoice_ahead 101 = .ok (.invokevirtual 174, 3) := by decide +kernel
theorem d_PairChoice_ahead_104 : decode b_PairChoice_ahead 104 = .ok (.invokevirtual 177, 3) := by decide +kernel
theorem d_PairChoice_ahead_107 : decode b_PairChoice_ahead 107 = .ok (.iinc 7 1, 3) := by decide +kernel
theorem d_PairChoice_ahead_110 : decode b_PairChoice_ahead 110 = .ok (.goto (-49), 3) := by decide +kernel
theorem d_PairChoice_ahead_113 : decode b_PairChoice_ahead 113 = .ok (.iload 6, 2) := by decide +kernel
theorem d_PairChoice_ahead_115 : decode b_PairChoice_ahead 115 = .ok (.invokestatic 169, 3) := by decide +kernel
theorem d_PairChoice_ahead_118 : decode b_PairChoice_ahead 118 = .ok (.ireturn, 1) := by decide +kernel
theorem d_PairChoice_after_0 : decode b_PairChoice_after 0 = .ok (.iload_n 1, 1) := by decide +kernel
theorem d_PairChoice_after_1 : decode b_PairChoice_after 1 = .ok (.iconst 0, 1) := by decide +kernel
theorem d_PairChoice_after_2 : decode b_PairChoice_after 2 = .ok (.aload_n 0, 1) := by decide +kernel
theorem d_PairChoice_after_3 : decode b_PairChoice_after 3 = .ok (.getfield 35, 3) := by decide +kernel
theorem d_PairChoice_after_6 : decode b_PairChoice_after 6 = .ok (.getfield 157, 3) := by decide +kernel
theorem d_PairChoice_after_9 : decode b_PairChoice_after 9 = .ok (.iconst 1, 1) := by decide +kernel
theorem d_PairChoice_after_10 : decode b_PairChoice_after 10 = .ok (.isub, 1) := by decide +kernel
theorem d_PairChoice_after_11 : decode b_PairChoice_after 11 = .ok (.invokestatic 39, 3) := by decide +kernel
theorem d_PairChoice_after_14 : decode b_PairChoice_after 14 = .ok (.ifCond .ne 5, 3) := by decide +kernel
theorem d_PairChoice_after_17 : decode b_PairChoice_after 17 = .ok (.iconst (-1), 1) := by decide +kernel
theorem d_PairChoice_after_18 : decode b_PairChoice_after 18 = .ok (.ireturn, 1) := by decide +kernel
theorem d_PairChoice_after_19 : decode b_PairChoice_after 19 = .ok (.iload_n 2, 1) := by decide +kernel
theorem d_PairChoice_after_20 : decode b_PairChoice_after 20 = .ok (.tableswitch 86 0 2 #[28, 38, 58], 28) := by decide +kernel
theorem d_PairChoice_after_48 : decode b_PairChoice_after 48 = .ok (.aload_n 0, 1) := by decide +kernel
theorem d_PairChoice_after_49 : decode b_PairChoice_after 49 = .ok (.getfield 35, 3) := by decide +kernel
theorem d_PairChoice_after_52 : decode b_PairChoice_after 52 = .ok (.getfield 180, 3) := by decide +kernel
theorem d_PairChoice_after_55 : decode b_PairChoice_after 55 = .ok (.iload_n 1, 1) := by decide +kernel
theorem d_PairChoice_after_56 : decode b_PairChoice_after 56 = .ok (.iaload, 1) := by decide +kernel
theorem d_PairChoice_after_57 : decode b_PairChoice_after 57 = .ok (.ireturn, 1) := by decide +kernel
theorem d_PairChoice_after_58 : decode b_PairChoice_after 58 = .ok (.aload_n 0, 1) := by decide +kernel
theorem d_PairChoice_after_59 : decode b_PairChoice_after 59 = .ok (.getfield 35, 3) := by decide +kernel
theorem d_PairChoice_after_62 : decode b_PairChoice_after 62 = .ok (.getfield 183, 3) := by decide +kernel
theorem d_PairChoice_after_65 : decode b_PairChoice_after 65 = .ok (.iload_n 1, 1) := by decide +kernel
theorem d_PairChoice_after_66 : decode b_PairChoice_after 66 = .ok (.iaload, 1) := by decide +kernel
theorem d_PairChoice_after_67 : decode b_PairChoice_after 67 = .ok (.ldc 152, 2) := by decide +kernel
theorem d_PairChoice_after_69 : decode b_PairChoice_after 69 = .ok (.if_icmp .ne 7, 3) := by decide +kernel
theorem d_PairChoice_after_72 : decode b_PairChoice_after 72 = .ok (.iconst 0, 1) := by decide +kernel
theorem d_PairChoice_after_73 : decode b_PairChoice_after 73 = .ok (.goto 4, 3) := by decide +kernel
theorem d_PairChoice_after_76 : decode b_PairChoice_after 76 = .ok (.iconst 1, 1) := by decide +kernel
theorem d_PairChoice_after_77 : decode b_PairChoice_after 77 = .ok (.ireturn, 1) := by decide +kernel
theorem d_PairChoice_after_78 : decode b_PairChoice_after 78 = .ok (.aload_n 0, 1) := by decide +kernel
theorem d_PairChoice_after_79 : decode b_PairChoice_after 79 = .ok (.getfield 35, 3) := by decide +kernel
theorem d_PairChoice_after_82 : decode b_PairChoice_after 82 = .ok (.getfield 183, 3) := by decide +kernel
theorem d_PairChoice_after_85 : decode b_PairChoice_after 85 = .ok (.iload_n 1, 1) := by decide +kernel
theorem d_PairChoice_after_86 : decode b_PairChoice_after 86 = .ok (.iaload, 1) := by decide +kernel
theorem d_PairChoice_after_87 : decode b_PairChoice_after 87 = .ok (.ldc 152, 2) := by decide +kernel
theorem d_PairChoice_after_89 : decode b_PairChoice_after 89 = .ok (.if_icmp .ne 7, 3) := by decide +kernel
theorem d_PairChoice_after_92 : decode b_PairChoice_after 92 = .ok (.iconst 0, 1) := by decide +kernel
theorem d_PairChoice_after_93 : decode b_PairChoice_after 93 = .ok (.goto 12, 3) := by decide +kernel
theorem d_PairChoice_after_96 : decode b_PairChoice_after 96 = .ok (.aload_n 0, 1) := by decide +kernel
theorem d_PairChoice_after_97 : decode b_PairChoice_after 97 = .ok (.getfield 35, 3) := by decide +kernel
theorem d_PairChoice_after_100 : decode b_PairChoice_after 100 = .ok (.getfield 183, 3) := by decide +kernel
theorem d_PairChoice_after_103 : decode b_PairChoice_after 103 = .ok (.iload_n 1, 1) := by decide +kernel
theorem d_PairChoice_after_104 : decode b_PairChoice_after 104 = .ok (.iaload, 1) := by decide +kernel
theorem d_PairChoice_after_105 : decode b_PairChoice_after 105 = .ok (.ireturn, 1) := by decide +kernel
theorem d_PairChoice_after_106 : decode b_PairChoice_after 106 = .ok (.bipush (-2), 2) := by decide +kernel
theorem d_PairChoice_after_108 : decode b_PairChoice_after 108 = .ok (.ireturn, 1) := by decide +kernel
theorem d_PairChoice_forgetFindings_0 : decode b_PairChoice_forgetFindings 0 = .ok (.aload_n 0, 1) := by decide +kernel
theorem d_PairChoice_forgetFindings_1 : decode b_PairChoice_forgetFindings 1 = .ok (.getfield 28, 3) := by decide +kernel
theorem d_PairChoice_forgetFindings_4 : decode b_PairChoice_forgetFindings 4 = .ok (.invokevirtual 102, 3) := by decide +kernel
theorem d_PairChoice_forgetFindings_7 : decode b_PairChoice_forgetFindings 7 = .ok (.aload_n 0, 1) := by decide +kernel
theorem d_PairChoice_forgetFindings_8 : decode b_PairChoice_forgetFindings 8 = .ok (.getfield 21, 3) := by decide +kernel
theorem d_PairChoice_forgetFindings_11 : decode b_PairChoice_forgetFindings 11 = .ok (.invokevirtual 186, 3) := by decide +kernel
theorem d_PairChoice_forgetFindings_14 : decode b_PairChoice_forgetFindings 14 = .ok (.return_, 1) := by decide +kernel
theorem d_PairChoice_survivors_0 : decode b_PairChoice_survivors 0 = .ok (.iload_n 0, 1) := by decide +kernel
theorem d_PairChoice_survivors_1 : decode b_PairChoice_survivors 1 = .ok (.istore 4, 2) := by decide +kernel
theorem d_PairChoice_survivors_3 : decode b_PairChoice_survivors 3 = .ok (.iconst 0, 1) := by decide +kernel
theorem d_PairChoice_survivors_4 : decode b_PairChoice_survivors 4 = .ok (.istore 5, 2) := by decide +kernel
theorem d_PairChoice_survivors_6 : decode b_PairChoice_survivors 6 = .ok (.iload 5, 2) := by decide +kernel
theorem d_PairChoice_survivors_8 : decode b_PairChoice_survivors 8 = .ok (.bipush 12, 2) := by decide +kernel
theorem d_PairChoice_survivors_10 : decode b_PairChoice_survivors 10 = .ok (.if_icmp .ge 37, 3) := by decide +kernel
theorem d_PairChoice_survivors_13 : decode b_PairChoice_survivors 13 = .ok (.lload_n 1, 1) := by decide +kernel
theorem d_PairChoice_survivors_14 : decode b_PairChoice_survivors 14 = .ok (.iload 5, 2) := by decide +kernel
theorem d_PairChoice_survivors_16 : decode b_PairChoice_survivors 16 = .ok (.i2l, 1) := by decide +kernel
theorem d_PairChoice_survivors_17 : decode b_PairChoice_survivors 17 = .ok (.ladd, 1) := by decide +kernel
theorem d_PairChoice_survivors_18 : decode b_PairChoice_survivors 18 = .ok (.lconst 1, 1) := by decide +kernel
theorem d_PairChoice_survivors_19 : decode b_PairChoice_survivors 19 = .ok (.ladd, 1) := by decide +kernel
theorem d_PairChoice_survivors_20 : decode b_PairChoice_survivors 20 = .ok (.invokestatic 189, 3) := by decide +kernel
theorem d_PairChoice_survivors_23 : decode b_PairChoice_survivors 23 = .ok (.iload_n 3, 1) := by decide +kernel
theorem d_PairChoice_survivors_24 : decode b_PairChoice_survivors 24 = .ok (.i2l, 1) := by decide +kernel
theorem d_PairChoice_survivors_25 : decode b_PairChoice_survivors 25 = .ok (.lcmp, 1) := by decide +kernel
theorem d_PairChoice_survivors_26 : decode b_PairChoice_survivors 26 = .ok (.ifCond .ge 15, 3) := by decide +kernel
theorem d_PairChoice_survivors_29 : decode b_PairChoice_survivors 29 = .ok (.iload 4, 2) := by decide +kernel
theorem d_PairChoice_survivors_31 : decode b_PairChoice_survivors 31 = .ok (.iload 5, 2) := by decide +kernel
theorem d_PairChoice_survivors_33 : decode b_PairChoice_survivors 33 = .ok (.invokestatic 79, 3) := by decide +kernel
theorem d_PairChoice_survivors_36 : decode b_PairChoice_survivors 36 = .ok (.iconst (-1), 1) := by decide +kernel
theorem d_PairChoice_survivors_37 : decode b_PairChoice_survivors 37 = .ok (.ixor, 1) := by decide +kernel
theorem d_PairChoice_survivors_38 : decode b_PairChoice_survivors 38 = .ok (.iand, 1) := by decide +kernel
theorem d_PairChoice_survivors_39 : decode b_PairChoice_survivors 39 = .ok (.istore 4, 2) := by decide +kernel
theorem d_PairChoice_survivors_41 : decode b_PairChoice_survivors 41 = .ok (.iinc 5 1, 3) := by decide +kernel
theorem d_PairChoice_survivors_44 : decode b_PairChoice_survivors 44 = .ok (.goto (-38), 3) := by decide +kernel
theorem d_PairChoice_survivors_47 : decode b_PairChoice_survivors 47 = .ok (.iload 4, 2) := by decide +kernel
theorem d_PairChoice_survivors_49 : decode b_PairChoice_survivors 49 = .ok (.ireturn, 1) := by decide +kernel
theorem d_PairChoice_fate_0 : decode b_PairChoice_fate 0 = .ok (.lload_n 0, 1) := by decide +kernel
theorem d_PairChoice_fate_1 : decode b_PairChoice_fate 1 = .ok (.ldc2_w 193, 3) := by decide +kernel
theorem d_PairChoice_fate_4 : decode b_PairChoice_fate 4 = .ok (.lmul, 1) := by decide +kernel
theorem d_PairChoice_fate_5 : decode b_PairChoice_fate 5 = .ok (.lstore_n 2, 1) := by decide +kernel
theorem d_PairChoice_fate_6 : decode b_PairChoice_fate 6 = .ok (.lload_n 2, 1) := by decide +kernel
theorem d_PairChoice_fate_7 : decode b_PairChoice_fate 7 = .ok (.lload_n 2, 1) := by decide +kernel
theorem d_PairChoice_fate_8 : decode b_PairChoice_fate 8 = .ok (.bipush 29, 2) := by decide +kernel
theorem d_PairChoice_fate_10 : decode b_PairChoice_fate 10 = .ok (.lushr, 1) := by decide +kernel
theorem d_PairChoice_fate_11 : decode b_PairChoice_fate 11 = .ok (.lxor, 1) := by decide +kernel
theorem d_PairChoice_fate_12 : decode b_PairChoice_fate 12 = .ok (.ldc2_w 195, 3) := by decide +kernel
theorem d_PairChoice_fate_15 : decode b_PairChoice_fate 15 = .ok (.lmul, 1) := by decide +kernel
theorem d_PairChoice_fate_16 : decode b_PairChoice_fate 16 = .ok (.lstore_n 2, 1) := by decide +kernel
theorem d_PairChoice_fate_17 : decode b_PairChoice_fate 17 = .ok (.lload_n 2, 1) := by decide +kernel
theorem d_PairChoice_fate_18 : decode b_PairChoice_fate 18 = .ok (.bipush 33, 2) := by decide +kernel
theorem d_PairChoice_fate_20 : decode b_PairChoice_fate 20 = .ok (.lushr, 1) := by decide +kernel
theorem d_PairChoice_fate_21 : decode b_PairChoice_fate 21 = .ok (.ldc2_w 197, 3) := by decide +kernel
theorem d_PairChoice_fate_24 : decode b_PairChoice_fate 24 = .ok (.lrem, 1) := by decide +kernel
theorem d_PairChoice_fate_25 : decode b_PairChoice_fate 25 = .ok (.lreturn, 1) := by decide +kernel
theorem d_PairChoice_isWithin_0 : decode b_PairChoice_isWithin 0 = .ok (.iload_n 0, 1) := by decide +kernel
theorem d_PairChoice_isWithin_1 : decode b_PairChoice_isWithin 1 = .ok (.iload_n 1, 1) := by decide +kernel
theorem d_PairChoice_isWithin_2 : decode b_PairChoice_isWithin 2 = .ok (.if_icmp .lt 12, 3) := by decide +kernel
theorem d_PairChoice_isWithin_5 : decode b_PairChoice_isWithin 5 = .ok (.iload_n 0, 1) := by decide +kernel
theorem d_PairChoice_isWithin_6 : decode b_PairChoice_isWithin 6 = .ok (.iload_n 2, 1) := by decide +kernel
theorem d_PairChoice_isWithin_7 : decode b_PairChoice_isWithin 7 = .ok (.if_icmp .gt 7, 3) := by decide +kernel
theorem d_PairChoice_isWithin_10 : decode b_PairChoice_isWithin 10 = .ok (.iconst 1, 1) := by decide +kernel
theorem d_PairChoice_isWithin_11 : decode b_PairChoice_isWithin 11 = .ok (.goto 4, 3) := by decide +kernel
theorem d_PairChoice_isWithin_14 : decode b_PairChoice_isWithin 14 = .ok (.iconst 0, 1) := by decide +kernel
theorem d_PairChoice_isWithin_15 : decode b_PairChoice_isWithin 15 = .ok (.ireturn, 1) := by decide +kernel
theorem d_PairChoice_isWorth_0 : decode b_PairChoice_isWorth 0 = .ok (.iload_n 0, 1) := by decide +kernel
theorem d_PairChoice_isWorth_1 : decode b_PairChoice_isWorth 1 = .ok (.sipush (-10000), 3) := by decide +kernel
theorem d_PairChoice_isWorth_4 : decode b_PairChoice_isWorth 4 = .ok (.sipush 10000, 3) := by decide +kernel
theorem d_PairChoice_isWorth_7 : decode b_PairChoice_isWorth 7 = .ok (.invokestatic 39, 3) := by decide +kernel
theorem d_PairChoice_isWorth_10 : decode b_PairChoice_isWorth 10 = .ok (.ireturn, 1) := by decide +kernel
theorem d_PairChoice_isNumberOfPairs_0 : decode b_PairChoice_isNumberOfPairs 0 = .ok (.iload_n 0, 1) := by decide +kernel
theorem d_PairChoice_isNumberOfPairs_1 : decode b_PairChoice_isNumberOfPairs 1 = .ok (.iconst 1, 1) := by decide +kernel
theorem d_PairChoice_isNumberOfPairs_2 : decode b_PairChoice_isNumberOfPairs 2 = .ok (.bipush 6, 2) := by decide +kernel
theorem d_PairChoice_isNumberOfPairs_4 : decode b_PairChoice_isNumberOfPairs 4 = .ok (.invokestatic 39, 3) := by decide +kernel
theorem d_PairChoice_isNumberOfPairs_7 : decode b_PairChoice_isNumberOfPairs 7 = .ok (.ireturn, 1) := by decide +kernel
theorem d_PairChoice_bit_0 : decode b_PairChoice_bit 0 = .ok (.iconst 1, 1) := by decide +kernel
theorem d_PairChoice_bit_1 : decode b_PairChoice_bit 1 = .ok (.iload_n 0, 1) := by decide +kernel
theorem d_PairChoice_bit_2 : decode b_PairChoice_bit 2 = .ok (.ishl, 1) := by decide +kernel
theorem d_PairChoice_bit_3 : decode b_PairChoice_bit 3 = .ok (.ireturn, 1) := by decide +kernel
theorem d_PairChoice_has_0 : decode b_PairChoice_has 0 = .ok (.iload_n 0, 1) := by decide +kernel
theorem d_PairChoice_has_1 : decode b_PairChoice_has 1 = .ok (.iload_n 1, 1) := by decide +kernel
theorem d_PairChoice_has_2 : decode b_PairChoice_has 2 = .ok (.ishr, 1) := by decide +kernel
theorem d_PairChoice_has_3 : decode b_PairChoice_has 3 = .ok (.iconst 1, 1) := by decide +kernel
theorem d_PairChoice_has_4 : decode b_PairChoice_has 4 = .ok (.iand, 1) := by decide +kernel
theorem d_PairChoice_has_5 : decode b_PairChoice_has 5 = .ok (.ifCond .eq 7, 3) := by decide +kernel
theorem d_PairChoice_has_8 : decode b_PairChoice_has 8 = .ok (.iconst 1, 1) := by decide +kernel
theorem d_PairChoice_has_9 : decode b_PairChoice_has 9 = .ok (.goto 4, 3) := by decide +kernel
theorem d_PairChoice_has_12 : decode b_PairChoice_has 12 = .ok (.iconst 0, 1) := by decide +kernel
theorem d_PairChoice_has_13 : decode b_PairChoice_has 13 = .ok (.ireturn, 1) := by decide +kernel
theorem d_PairChoice_leastOf_0 : decode b_PairChoice_leastOf 0 = .ok (.iload_n 0, 1) := by decide +kernel
theorem d_PairChoice_leastOf_1 : decode b_PairChoice_leastOf 1 = .ok (.iload_n 0, 1) := by decide +kernel
theorem d_PairChoice_leastOf_2 : decode b_PairChoice_leastOf 2 = .ok (.ineg, 1) := by decide +kernel
theorem d_PairChoice_leastOf_3 : decode b_PairChoice_leastOf 3 = .ok (.iand, 1) := by decide +kernel
theorem d_PairChoice_leastOf_4 : decode b_PairChoice_leastOf 4 = .ok (.iconst 1, 1) := by decide +kernel
theorem d_PairChoice_leastOf_5 : decode b_PairChoice_leastOf 5 = .ok (.isub, 1) := by decide +kernel
theorem d_PairChoice_leastOf_6 : decode b_PairChoice_leastOf 6 = .ok (.invokestatic 169, 3) := by decide +kernel
theorem d_PairChoice_leastOf_9 : decode b_PairChoice_leastOf 9 = .ok (.ireturn, 1) := by decide +kernel
theorem d_M_init_0 : decode b_M_init 0 = .ok (.aload_n 0, 1) := by decide +kernel
theorem d_M_init_1 : decode b_M_init 1 = .ok (.invokespecial 1, 3) := by decide +kernel
theorem d_M_init_4 : decode b_M_init 4 = .ok (.aload_n 0, 1) := by decide +kernel
theorem d_M_init_5 : decode b_M_init 5 = .ok (.bipush 12, 2) := by decide +kernel
theorem d_M_init_7 : decode b_M_init 7 = .ok (.newarray .int, 2) := by decide +kernel
theorem d_M_init_9 : decode b_M_init 9 = .ok (.putfield 7, 3) := by decide +kernel
theorem d_M_init_12 : decode b_M_init 12 = .ok (.aload_n 0, 1) := by decide +kernel
theorem d_M_init_13 : decode b_M_init 13 = .ok (.bipush 12, 2) := by decide +kernel
theorem d_M_init_15 : decode b_M_init 15 = .ok (.newarray .int, 2) := by decide +kernel
theorem d_M_init_17 : decode b_M_init 17 = .ok (.putfield 13, 3) := by decide +kernel
theorem d_M_init_20 : decode b_M_init 20 = .ok (.aload_n 0, 1) := by decide +kernel
theorem d_M_init_21 : decode b_M_init 21 = .ok (.bipush 12, 2) := by decide +kernel
theorem d_M_init_23 : decode b_M_init 23 = .ok (.newarray .int, 2) := by decide +kernel
theorem d_M_init_25 : decode b_M_init 25 = .ok (.putfield 16, 3) := by decide +kernel
theorem d_M_init_28 : decode b_M_init 28 = .ok (.aload_n 0, 1) := by decide +kernel
theorem d_M_init_29 : decode b_M_init 29 = .ok (.sipush 144, 3) := by decide +kernel
theorem d_M_init_32 : decode b_M_init 32 = .ok (.newarray .int, 2) := by decide +kernel
theorem d_M_init_34 : decode b_M_init 34 = .ok (.putfield 19, 3) := by decide +kernel
theorem d_M_init_37 : decode b_M_init 37 = .ok (.aload_n 0, 1) := by decide +kernel
theorem d_M_init_38 : decode b_M_init 38 = .ok (.sipush 144, 3) := by decide +kernel
theorem d_M_init_41 : decode b_M_init 41 = .ok (.newarray .boolean, 2) := by decide +kernel
theorem d_M_init_43 : decode b_M_init 43 = .ok (.putfield 22, 3) := by decide +kernel
theorem d_M_init_46 : decode b_M_init 46 = .ok (.aload_n 0, 1) := by decide +kernel
theorem d_M_init_47 : decode b_M_init 47 = .ok (.sipush 1000, 3) := by decide +kernel
end
section
theorem d_M_init_50 : decode b_M_init 50 = .ok (.putfield 26, 3) := by decide +kernel
theorem d_M_init_53 : decode b_M_init 53 = .ok (.aload_n 0, 1) := by decide +kernel
theorem d_M_init_54 : decode b_M_init 54 = .ok (.bipush 8, 2) := by decide +kernel
theorem d_M_init_56 : decode b_M_init 56 = .ok (.newarray .int, 2) := by decide +kernel
theorem d_M_init_58 : decode b_M_init 58 = .ok (.putfield 30, 3) := by decide +kernel
theorem d_M_init_61 : decode b_M_init 61 = .ok (.aload_n 0, 1) := by decide +kernel
theorem d_M_init_62 : decode b_M_init 62 = .ok (.iconst (-1), 1) := by decide +kernel
theorem d_M_init_63 : decode b_M_init 63 = .ok (.putfield 33, 3) := by decide +kernel
theorem d_M_init_66 : decode b_M_init 66 = .ok (.aload_n 0, 1) := by decide +kernel
theorem d_M_init_67 : decode b_M_init 67 = .ok (.bipush 12, 2) := by decide +kernel
theorem d_M_init_69 : decode b_M_init 69 = .ok (.newarray .int, 2) := by decide +kernel
theorem d_M_init_71 : decode b_M_init 71 = .ok (.putfield 36, 3) := by decide +kernel
theorem d_M_init_74 : decode b_M_init 74 = .ok (.aload_n 0, 1) := by decide +kernel
theorem d_M_init_75 : decode b_M_init 75 = .ok (.bipush 12, 2) := by decide +kernel
theorem d_M_init_77 : decode b_M_init 77 = .ok (.newarray .int, 2) := by decide +kernel
theorem d_M_init_79 : decode b_M_init 79 = .ok (.putfield 39, 3) := by decide +kernel
theorem d_M_init_82 : decode b_M_init 82 = .ok (.aload_n 0, 1) := by decide +kernel
theorem d_M_init_83 : decode b_M_init 83 = .ok (.bipush 64, 2) := by decide +kernel
theorem d_M_init_85 : decode b_M_init 85 = .ok (.newarray .boolean, 2) := by decide +kernel
theorem d_M_init_87 : decode b_M_init 87 = .ok (.putfield 42, 3) := by decide +kernel
theorem d_M_init_90 : decode b_M_init 90 = .ok (.aload_n 0, 1) := by decide +kernel
theorem d_M_init_91 : decode b_M_init 91 = .ok (.bipush 64, 2) := by decide +kernel
theorem d_M_init_93 : decode b_M_init 93 = .ok (.newarray .boolean, 2) := by decide +kernel
theorem d_M_init_95 : decode b_M_init 95 = .ok (.putfield 45, 3) := by decide +kernel
theorem d_M_init_98 : decode b_M_init 98 = .ok (.aload_n 0, 1) := by decide +kernel
theorem d_M_init_99 : decode b_M_init 99 = .ok (.bipush 6, 2) := by decide +kernel
theorem d_M_init_101 : decode b_M_init 101 = .ok (.newarray .int, 2) := by decide +kernel
theorem d_M_init_103 : decode b_M_init 103 = .ok (.putfield 48, 3) := by decide +kernel
theorem d_M_init_106 : decode b_M_init 106 = .ok (.aload_n 0, 1) := by decide +kernel
theorem d_M_init_107 : decode b_M_init 107 = .ok (.bipush 6, 2) := by decide +kernel
theorem d_M_init_109 : decode b_M_init 109 = .ok (.newarray .int, 2) := by decide +kernel
theorem d_M_init_111 : decode b_M_init 111 = .ok (.putfield 51, 3) := by decide +kernel
theorem d_M_init_114 : decode b_M_init 114 = .ok (.aload_n 0, 1) := by decide +kernel
theorem d_M_init_115 : decode b_M_init 115 = .ok (.bipush 6, 2) := by decide +kernel
theorem d_M_init_117 : decode b_M_init 117 = .ok (.newarray .int, 2) := by decide +kernel
theorem d_M_init_119 : decode b_M_init 119 = .ok (.putfield 54, 3) := by decide +kernel
theorem d_M_init_122 : decode b_M_init 122 = .ok (.aload_n 0, 1) := by decide +kernel
theorem d_M_init_123 : decode b_M_init 123 = .ok (.bipush 6, 2) := by decide +kernel
theorem d_M_init_125 : decode b_M_init 125 = .ok (.newarray .int, 2) := by decide +kernel
theorem d_M_init_127 : decode b_M_init 127 = .ok (.putfield 57, 3) := by decide +kernel
theorem d_M_init_130 : decode b_M_init 130 = .ok (.aload_n 0, 1) := by decide +kernel
theorem d_M_init_131 : decode b_M_init 131 = .ok (.bipush 6, 2) := by decide +kernel
theorem d_M_init_133 : decode b_M_init 133 = .ok (.newarray .int, 2) := by decide +kernel
theorem d_M_init_135 : decode b_M_init 135 = .ok (.putfield 60, 3) := by decide +kernel
theorem d_M_init_138 : decode b_M_init 138 = .ok (.aload_n 0, 1) := by decide +kernel
theorem d_M_init_139 : decode b_M_init 139 = .ok (.bipush 20, 2) := by decide +kernel
theorem d_M_init_141 : decode b_M_init 141 = .ok (.newarray .int, 2) := by decide +kernel
theorem d_M_init_143 : decode b_M_init 143 = .ok (.putfield 63, 3) := by decide +kernel
theorem d_M_init_146 : decode b_M_init 146 = .ok (.aload_n 0, 1) := by decide +kernel
theorem d_M_init_147 : decode b_M_init 147 = .ok (.bipush 20, 2) := by decide +kernel
theorem d_M_init_149 : decode b_M_init 149 = .ok (.newarray .int, 2) := by decide +kernel
theorem d_M_init_151 : decode b_M_init 151 = .ok (.putfield 66, 3) := by decide +kernel
theorem d_M_init_154 : decode b_M_init 154 = .ok (.aload_n 0, 1) := by decide +kernel
theorem d_M_init_155 : decode b_M_init 155 = .ok (.bipush 20, 2) := by decide +kernel
theorem d_M_init_157 : decode b_M_init 157 = .ok (.newarray .int, 2) := by decide +kernel
theorem d_M_init_159 : decode b_M_init 159 = .ok (.putfield 69, 3) := by decide +kernel
theorem d_M_init_162 : decode b_M_init 162 = .ok (.return_, 1) := by decide +kernel
theorem d_M_isIn_0 : decode b_M_isIn 0 = .ok (.iload_n 0, 1) := by decide +kernel
theorem d_M_isIn_1 : decode b_M_isIn 1 = .ok (.iload_n 1, 1) := by decide +kernel
theorem d_M_isIn_2 : decode b_M_isIn 2 = .ok (.if_icmp .lt 12, 3) := by decide +kernel
theorem d_M_isIn_5 : decode b_M_isIn 5 = .ok (.iload_n 0, 1) := by decide +kernel
theorem d_M_isIn_6 : decode b_M_isIn 6 = .ok (.iload_n 2, 1) := by decide +kernel
theorem d_M_isIn_7 : decode b_M_isIn 7 = .ok (.if_icmp .gt 7, 3) := by decide +kernel
theorem d_M_isIn_10 : decode b_M_isIn 10 = .ok (.iconst 1, 1) := by decide +kernel
theorem d_M_isIn_11 : decode b_M_isIn 11 = .ok (.goto 4, 3) := by decide +kernel
theorem d_M_isIn_14 : decode b_M_isIn 14 = .ok (.iconst 0, 1) := by decide +kernel
theorem d_M_isIn_15 : decode b_M_isIn 15 = .ok (.ireturn, 1) := by decide +kernel
theorem d_M_isAnimal_0 : decode b_M_isAnimal 0 = .ok (.iload_n 1, 1) := by decide +kernel
theorem d_M_isAnimal_1 : decode b_M_isAnimal 1 = .ok (.iconst 0, 1) := by decide +kernel
theorem d_M_isAnimal_2 : decode b_M_isAnimal 2 = .ok (.aload_n 0, 1) := by decide +kernel
theorem d_M_isAnimal_3 : decode b_M_isAnimal 3 = .ok (.getfield 72, 3) := by decide +kernel
theorem d_M_isAnimal_6 : decode b_M_isAnimal 6 = .ok (.iconst 1, 1) := by decide +kernel
theorem d_M_isAnimal_7 : decode b_M_isAnimal 7 = .ok (.isub, 1) := by decide +kernel
theorem d_M_isAnimal_8 : decode b_M_isAnimal 8 = .ok (.invokestatic 75, 3) := by decide +kernel
theorem d_M_isAnimal_11 : decode b_M_isAnimal 11 = .ok (.ireturn, 1) := by decide +kernel
theorem d_M_leave_0 : decode b_M_leave 0 = .ok (.aload_n 0, 1) := by decide +kernel
theorem d_M_leave_1 : decode b_M_leave 1 = .ok (.iconst 0, 1) := by decide +kernel
theorem d_M_leave_2 : decode b_M_leave 2 = .ok (.putfield 79, 3) := by decide +kernel
theorem d_M_leave_5 : decode b_M_leave 5 = .ok (.return_, 1) := by decide +kernel
theorem d_M_animal_0 : decode b_M_animal 0 = .ok (.iload_n 1, 1) := by decide +kernel
theorem d_M_animal_1 : decode b_M_animal 1 = .ok (.iconst 0, 1) := by decide +kernel
theorem d_M_animal_2 : decode b_M_animal 2 = .ok (.iconst 1, 1) := by decide +kernel
theorem d_M_animal_3 : decode b_M_animal 3 = .ok (.invokestatic 75, 3) := by decide +kernel
theorem d_M_animal_6 : decode b_M_animal 6 = .ok (.ifCond .eq 26, 3) := by decide +kernel
theorem d_M_animal_9 : decode b_M_animal 9 = .ok (.iload_n 2, 1) := by decide +kernel
theorem d_M_animal_10 : decode b_M_animal 10 = .ok (.sipush (-10000), 3) := by decide +kernel
theorem d_M_animal_13 : decode b_M_animal 13 = .ok (.sipush 10000, 3) := by decide +kernel
theorem d_M_animal_16 : decode b_M_animal 16 = .ok (.invokestatic 75, 3) := by decide +kernel
theorem d_M_animal_19 : decode b_M_animal 19 = .ok (.ifCond .eq 13, 3) := by decide +kernel
theorem d_M_animal_22 : decode b_M_animal 22 = .ok (.iload_n 3, 1) := by decide +kernel
theorem d_M_animal_23 : decode b_M_animal 23 = .ok (.iconst 0, 1) := by decide +kernel
theorem d_M_animal_24 : decode b_M_animal 24 = .ok (.bipush 7, 2) := by decide +kernel
theorem d_M_animal_26 : decode b_M_animal 26 = .ok (.invokestatic 75, 3) := by decide +kernel
theorem d_M_animal_29 : decode b_M_animal 29 = .ok (.ifCond .ne 6, 3) := by decide +kernel
theorem d_M_animal_32 : decode b_M_animal 32 = .ok (.bipush (-2), 2) := by decide +kernel
theorem d_M_animal_34 : decode b_M_animal 34 = .ok (.ireturn, 1) := by decide +kernel
theorem d_M_animal_35 : decode b_M_animal 35 = .ok (.aload_n 0, 1) := by decide +kernel
theorem d_M_animal_36 : decode b_M_animal 36 = .ok (.getfield 72, 3) := by decide +kernel
theorem d_M_animal_39 : decode b_M_animal 39 = .ok (.bipush 12, 2) := by decide +kernel
theorem d_M_animal_41 : decode b_M_animal 41 = .ok (.if_icmp .ne 6, 3) := by decide +kernel
theorem d_M_animal_44 : decode b_M_animal 44 = .ok (.bipush (-4), 2) := by decide +kernel
theorem d_M_animal_46 : decode b_M_animal 46 = .ok (.ireturn, 1) := by decide +kernel
theorem d_M_animal_47 : decode b_M_animal 47 = .ok (.aload_n 0, 1) := by decide +kernel
theorem d_M_animal_48 : decode b_M_animal 48 = .ok (.invokevirtual 82, 3) := by decide +kernel
theorem d_M_animal_51 : decode b_M_animal 51 = .ok (.aload_n 0, 1) := by decide +kernel
theorem d_M_animal_52 : decode b_M_animal 52 = .ok (.getfield 7, 3) := by decide +kernel
theorem d_M_animal_55 : decode b_M_animal 55 = .ok (.aload_n 0, 1) := by decide +kernel
theorem d_M_animal_56 : decode b_M_animal 56 = .ok (.getfield 72, 3) := by decide +kernel
theorem d_M_animal_59 : decode b_M_animal 59 = .ok (.iload_n 1, 1) := by decide +kernel
theorem d_M_animal_60 : decode b_M_animal 60 = .ok (.iastore, 1) := by decide +kernel
theorem d_M_animal_61 : decode b_M_animal 61 = .ok (.aload_n 0, 1) := by decide +kernel
theorem d_M_animal_62 : decode b_M_animal 62 = .ok (.getfield 13, 3) := by decide +kernel
theorem d_M_animal_65 : decode b_M_animal 65 = .ok (.aload_n 0, 1) := by decide +kernel
theorem d_M_animal_66 : decode b_M_animal 66 = .ok (.getfield 72, 3) := by decide +kernel
theorem d_M_animal_69 : decode b_M_animal 69 = .ok (.iload_n 2, 1) := by decide +kernel
theorem d_M_animal_70 : decode b_M_animal 70 = .ok (.iastore, 1) := by decide +kernel
theorem d_M_animal_71 : decode b_M_animal 71 = .ok (.aload_n 0, 1) := by decide +kernel
theorem d_M_animal_72 : decode b_M_animal 72 = .ok (.getfield 16, 3) := by decide +kernel
theorem d_M_animal_75 : decode b_M_animal 75 = .ok (.aload_n 0, 1) := by decide +kernel
theorem d_M_animal_76 : decode b_M_animal 76 = .ok (.getfield 72, 3) := by decide +kernel
theorem d_M_animal_79 : decode b_M_animal 79 = .ok (.iload_n 3, 1) := by decide +kernel
theorem d_M_animal_80 : decode b_M_animal 80 = .ok (.iastore, 1) := by decide +kernel
theorem d_M_animal_81 : decode b_M_animal 81 = .ok (.aload_n 0, 1) := by decide +kernel
theorem d_M_animal_82 : decode b_M_animal 82 = .ok (.dup, 1) := by decide +kernel
theorem d_M_animal_83 : decode b_M_animal 83 = .ok (.getfield 72, 3) := by decide +kernel
theorem d_M_animal_86 : decode b_M_animal 86 = .ok (.iconst 1, 1) := by decide +kernel
theorem d_M_animal_87 : decode b_M_animal 87 = .ok (.iadd, 1) := by decide +kernel
theorem d_M_animal_88 : decode b_M_animal 88 = .ok (.putfield 72, 3) := by decide +kernel
theorem d_M_animal_91 : decode b_M_animal 91 = .ok (.aload_n 0, 1) := by decide +kernel
theorem d_M_animal_92 : decode b_M_animal 92 = .ok (.getfield 72, 3) := by decide +kernel
theorem d_M_animal_95 : decode b_M_animal 95 = .ok (.iconst 1, 1) := by decide +kernel
theorem d_M_animal_96 : decode b_M_animal 96 = .ok (.isub, 1) := by decide +kernel
theorem d_M_animal_97 : decode b_M_animal 97 = .ok (.ireturn, 1) := by decide +kernel
theorem d_M_worth_0 : decode b_M_worth 0 = .ok (.aload_n 0, 1) := by decide +kernel
theorem d_M_worth_1 : decode b_M_worth 1 = .ok (.iload_n 1, 1) := by decide +kernel
theorem d_M_worth_2 : decode b_M_worth 2 = .ok (.invokevirtual 85, 3) := by decide +kernel
theorem d_M_worth_5 : decode b_M_worth 5 = .ok (.ifCond .ne 7, 3) := by decide +kernel
theorem d_M_worth_8 : decode b_M_worth 8 = .ok (.sipush (-20000), 3) := by decide +kernel
theorem d_M_worth_11 : decode b_M_worth 11 = .ok (.ireturn, 1) := by decide +kernel
theorem d_M_worth_12 : decode b_M_worth 12 = .ok (.iload_n 2, 1) := by decide +kernel
theorem d_M_worth_13 : decode b_M_worth 13 = .ok (.sipush (-10000), 3) := by decide +kernel
theorem d_M_worth_16 : decode b_M_worth 16 = .ok (.sipush 10000, 3) := by decide +kernel
theorem d_M_worth_19 : decode b_M_worth 19 = .ok (.invokestatic 75, 3) := by decide +kernel
theorem d_M_worth_22 : decode b_M_worth 22 = .ok (.ifCond .ne 7, 3) := by decide +kernel
theorem d_M_worth_25 : decode b_M_worth 25 = .ok (.sipush (-20001), 3) := by decide +kernel
theorem d_M_worth_28 : decode b_M_worth 28 = .ok (.ireturn, 1) := by decide +kernel
theorem d_M_worth_29 : decode b_M_worth 29 = .ok (.aload_n 0, 1) := by decide +kernel
theorem d_M_worth_30 : decode b_M_worth 30 = .ok (.getfield 13, 3) := by decide +kernel
theorem d_M_worth_33 : decode b_M_worth 33 = .ok (.iload_n 1, 1) := by decide +kernel
theorem d_M_worth_34 : decode b_M_worth 34 = .ok (.iaload, 1) := by decide +kernel
theorem d_M_worth_35 : decode b_M_worth 35 = .ok (.istore_n 3, 1) := by decide +kernel
theorem d_M_worth_36 : decode b_M_worth 36 = .ok (.aload_n 0, 1) := by decide +kernel
theorem d_M_worth_37 : decode b_M_worth 37 = .ok (.getfield 13, 3) := by decide +kernel
theorem d_M_worth_40 : decode b_M_worth 40 = .ok (.iload_n 1, 1) := by decide +kernel
theorem d_M_worth_41 : decode b_M_worth 41 = .ok (.iload_n 2, 1) := by decide +kernel
theorem d_M_worth_42 : decode b_M_worth 42 = .ok (.iastore, 1) := by decide +kernel
theorem d_M_worth_43 : decode b_M_worth 43 = .ok (.iload_n 3, 1) := by decide +kernel
theorem d_M_worth_44 : decode b_M_worth 44 = .ok (.iload_n 2, 1) := by decide +kernel
theorem d_M_worth_45 : decode b_M_worth 45 = .ok (.if_icmp .eq 7, 3) := by decide +kernel
theorem d_M_worth_48 : decode b_M_worth 48 = .ok (.aload_n 0, 1) := by decide +kernel
theorem d_M_worth_49 : decode b_M_worth 49 = .ok (.invokevirtual 82, 3) := by decide +kernel
theorem d_M_worth_52 : decode b_M_worth 52 = .ok (.iload_n 3, 1) := by decide +kernel
theorem d_M_worth_53 : decode b_M_worth 53 = .ok (.ireturn, 1) := by decide +kernel
theorem d_M_kin_0 : decode b_M_kin 0 = .ok (.aload_n 0, 1) := by decide +kernel
theorem d_M_kin_1 : decode b_M_kin 1 = .ok (.iload_n 1, 1) := by decide +kernel
theorem d_M_kin_2 : decode b_M_kin 2 = .ok (.invokevirtual 85, 3) := by decide +kernel
theorem d_M_kin_5 : decode b_M_kin 5 = .ok (.ifCond .eq 11, 3) := by decide +kernel
theorem d_M_kin_8 : decode b_M_kin 8 = .ok (.aload_n 0, 1) := by decide +kernel
theorem d_M_kin_9 : decode b_M_kin 9 = .ok (.iload_n 2, 1) := by decide +kernel
theorem d_M_kin_10 : decode b_M_kin 10 = .ok (.invokevirtual 85, 3) := by decide +kernel
theorem d_M_kin_13 : decode b_M_kin 13 = .ok (.ifCond .ne 5, 3) := by decide +kernel
theorem d_M_kin_16 : decode b_M_kin 16 = .ok (.iconst (-1), 1) := by decide +kernel
theorem d_M_kin_17 : decode b_M_kin 17 = .ok (.ireturn, 1) := by decide +kernel
theorem d_M_kin_18 : decode b_M_kin 18 = .ok (.iload_n 3, 1) := by decide +kernel
theorem d_M_kin_19 : decode b_M_kin 19 = .ok (.iconst 0, 1) := by decide +kernel
theorem d_M_kin_20 : decode b_M_kin 20 = .ok (.sipush 1000, 3) := by decide +kernel
theorem d_M_kin_23 : decode b_M_kin 23 = .ok (.invokestatic 75, 3) := by decide +kernel
theorem d_M_kin_26 : decode b_M_kin 26 = .ok (.ifCond .ne 6, 3) := by decide +kernel
theorem d_M_kin_29 : decode b_M_kin 29 = .ok (.bipush (-2), 2) := by decide +kernel
theorem d_M_kin_31 : decode b_M_kin 31 = .ok (.ireturn, 1) := by decide +kernel
theorem d_M_kin_32 : decode b_M_kin 32 = .ok (.aload_n 0, 1) := by decide +kernel
theorem d_M_kin_33 : decode b_M_kin 33 = .ok (.getfield 19, 3) := by decide +kernel
theorem d_M_kin_36 : decode b_M_kin 36 = .ok (.bipush 12, 2) := by decide +kernel
theorem d_M_kin_38 : decode b_M_kin 38 = .ok (.iload_n 1, 1) := by decide +kernel
theorem d_M_kin_39 : decode b_M_kin 39 = .ok (.imul, 1) := by decide +kernel
theorem d_M_kin_40 : decode b_M_kin 40 = .ok (.iload_n 2, 1) := by decide +kernel
theorem d_M_kin_41 : decode b_M_kin 41 = .ok (.iadd, 1) := by decide +kernel
theorem d_M_kin_42 : decode b_M_kin 42 = .ok (.iaload, 1) := by decide +kernel
theorem d_M_kin_43 : decode b_M_kin 43 = .ok (.istore 4, 2) := by decide +kernel
theorem d_M_kin_45 : decode b_M_kin 45 = .ok (.aload_n 0, 1) := by decide +kernel
theorem d_M_kin_46 : decode b_M_kin 46 = .ok (.getfield 19, 3) := by decide +kernel
theorem d_M_kin_49 : decode b_M_kin 49 = .ok (.bipush 12, 2) := by decide +kernel
theorem d_M_kin_51 : decode b_M_kin 51 = .ok (.iload_n 1, 1) := by decide +kernel
theorem d_M_kin_52 : decode b_M_kin 52 = .ok (.imul, 1) := by decide +kernel
theorem d_M_kin_53 : decode b_M_kin 53 = .ok (.iload_n 2, 1) := by decide +kernel
theorem d_M_kin_54 : decode b_M_kin 54 = .ok (.iadd, 1) := by decide +kernel
theorem d_M_kin_55 : decode b_M_kin 55 = .ok (.iload_n 3, 1) := by decide +kernel
theorem d_M_kin_56 : decode b_M_kin 56 = .ok (.iastore, 1) := by decide +kernel
theorem d_M_kin_57 : decode b_M_kin 57 = .ok (.aload_n 0, 1) := by decide +kernel
theorem d_M_kin_58 : decode b_M_kin 58 = .ok (.getfield 19, 3) := by decide +kernel
theorem d_M_kin_61 : decode b_M_kin 61 = .ok (.bipush 12, 2) := by decide +kernel
theorem d_M_kin_63 : decode b_M_kin 63 = .ok (.iload_n 2, 1) := by decide +kernel
theorem d_M_kin_64 : decode b_M_kin 64 = .ok (.imul, 1) := by decide +kernel
theorem d_M_kin_65 : decode b_M_kin 65 = .ok (.iload_n 1, 1) := by decide +kernel
theorem d_M_kin_66 : decode b_M_kin 66 = .ok (.iadd, 1) := by decide +kernel
theorem d_M_kin_67 : decode b_M_kin 67 = .ok (.iload_n 3, 1) := by decide +kernel
theorem d_M_kin_68 : decode b_M_kin 68 = .ok (.iastore, 1) := by decide +kernel
theorem d_M_kin_69 : decode b_M_kin 69 = .ok (.iload 4, 2) := by decide +kernel
theorem d_M_kin_71 : decode b_M_kin 71 = .ok (.iload_n 3, 1) := by decide +kernel
theorem d_M_kin_72 : decode b_M_kin 72 = .ok (.if_icmp .eq 7, 3) := by decide +kernel
theorem d_M_kin_75 : decode b_M_kin 75 = .ok (.aload_n 0, 1) := by decide +kernel
theorem d_M_kin_76 : decode b_M_kin 76 = .ok (.invokevirtual 82, 3) := by decide +kernel
theorem d_M_kin_79 : decode b_M_kin 79 = .ok (.iload 4, 2) := by decide +kernel
theorem d_M_kin_81 : decode b_M_kin 81 = .ok (.ireturn, 1) := by decide +kernel
theorem d_M_bar_0 : decode b_M_bar 0 = .ok (.aload_n 0, 1) := by decide +kernel
theorem d_M_bar_1 : decode b_M_bar 1 = .ok (.iload_n 1, 1) := by decide +kernel
theorem d_M_bar_2 : decode b_M_bar 2 = .ok (.invokevirtual 85, 3) := by decide +kernel
theorem d_M_bar_5 : decode b_M_bar 5 = .ok (.ifCond .eq 41, 3) := by decide +kernel
theorem d_M_bar_8 : decode b_M_bar 8 = .ok (.aload_n 0, 1) := by decide +kernel
theorem d_M_bar_9 : decode b_M_bar 9 = .ok (.iload_n 2, 1) := by decide +kernel
theorem d_M_bar_10 : decode b_M_bar 10 = .ok (.invokevirtual 85, 3) := by decide +kernel
theorem d_M_bar_13 : decode b_M_bar 13 = .ok (.ifCond .eq 33, 3) := by decide +kernel
theorem d_M_bar_16 : decode b_M_bar 16 = .ok (.aload_n 0, 1) := by decide +kernel
theorem d_M_bar_17 : decode b_M_bar 17 = .ok (.getfield 7, 3) := by decide +kernel
theorem d_M_bar_20 : decode b_M_bar 20 = .ok (.iload_n 1, 1) := by decide +kernel
theorem d_M_bar_21 : decode b_M_bar 21 = .ok (.iaload, 1) := by decide +kernel
theorem d_M_bar_22 : decode b_M_bar 22 = .ok (.aload_n 0, 1) := by decide +kernel
theorem d_M_bar_23 : decode b_M_bar 23 = .ok (.getfield 7, 3) := by decide +kernel
theorem d_M_bar_26 : decode b_M_bar 26 = .ok (.iload_n 2, 1) := by decide +kernel
theorem d_M_bar_27 : decode b_M_bar 27 = .ok (.iaload, 1) := by decide +kernel
theorem d_M_bar_28 : decode b_M_bar 28 = .ok (.if_icmp .eq 18, 3) := by decide +kernel
theorem d_M_bar_31 : decode b_M_bar 31 = .ok (.aload_n 0, 1) := by decide +kernel
theorem d_M_bar_32 : decode b_M_bar 32 = .ok (.getfield 22, 3) := by decide +kernel
theorem d_M_bar_35 : decode b_M_bar 35 = .ok (.bipush 12, 2) := by decide +kernel
theorem d_M_bar_37 : decode b_M_bar 37 = .ok (.iload_n 1, 1) := by decide +kernel
theorem d_M_bar_38 : decode b_M_bar 38 = .ok (.imul, 1) := by decide +kernel
theorem d_M_bar_39 : decode b_M_bar 39 = .ok (.iload_n 2, 1) := by decide +kernel
theorem d_M_bar_40 : decode b_M_bar 40 = .ok (.iadd, 1) := by decide +kernel
theorem d_M_bar_41 : decode b_M_bar 41 = .ok (.baload, 1) := by decide +kernel
theorem d_M_bar_42 : decode b_M_bar 42 = .ok (.iload_n 3, 1) := by decide +kernel
theorem d_M_bar_43 : decode b_M_bar 43 = .ok (.if_icmp .ne 5, 3) := by decide +kernel
theorem d_M_bar_46 : decode b_M_bar 46 = .ok (.iconst 0, 1) := by decide +kernel
theorem d_M_bar_47 : decode b_M_bar 47 = .ok (.ireturn, 1) := by decide +kernel
theorem d_M_bar_48 : decode b_M_bar 48 = .ok (.aload_n 0, 1) := by decide +kernel
theorem d_M_bar_49 : decode b_M_bar 49 = .ok (.getfield 22, 3) := by decide +kernel
theorem d_M_bar_52 : decode b_M_bar 52 = .ok (.bipush 12, 2) := by decide +kernel
theorem d_M_bar_54 : decode b_M_bar 54 = .ok (.iload_n 1, 1) := by decide +kernel
theorem d_M_bar_55 : decode b_M_bar 55 = .ok (.imul, 1) := by decide +kernel
theorem d_M_bar_56 : decode b_M_bar 56 = .ok (.iload_n 2, 1) := by decide +kernel
theorem d_M_bar_57 : decode b_M_bar 57 = .ok (.iadd, 1) := by decide +kernel
theorem d_M_bar_58 : decode b_M_bar 58 = .ok (.iload_n 3, 1) := by decide +kernel
theorem d_M_bar_59 : decode b_M_bar 59 = .ok (.bastore, 1) := by decide +kernel
theorem d_M_bar_60 : decode b_M_bar 60 = .ok (.aload_n 0, 1) := by decide +kernel
theorem d_M_bar_61 : decode b_M_bar 61 = .ok (.getfield 22, 3) := by decide +kernel
theorem d_M_bar_64 : decode b_M_bar 64 = .ok (.bipush 12, 2) := by decide +kernel
theorem d_M_bar_66 : decode b_M_bar 66 = .ok (.iload_n 2, 1) := by decide +kernel
theorem d_M_bar_67 : decode b_M_bar 67 = .ok (.imul, 1) := by decide +kernel
theorem d_M_bar_68 : decode b_M_bar 68 = .ok (.iload_n 1, 1) := by decide +kernel
theorem d_M_bar_69 : decode b_M_bar 69 = .ok (.iadd, 1) := by decide +kernel
theorem d_M_bar_70 : decode b_M_bar 70 = .ok (.iload_n 3, 1) := by decide +kernel
theorem d_M_bar_71 : decode b_M_bar 71 = .ok (.bastore, 1) := by decide +kernel
theorem d_M_bar_72 : decode b_M_bar 72 = .ok (.aload_n 0, 1) := by decide +kernel
theorem d_M_bar_73 : decode b_M_bar 73 = .ok (.invokevirtual 82, 3) := by decide +kernel
theorem d_M_bar_76 : decode b_M_bar 76 = .ok (.iconst 1, 1) := by decide +kernel
theorem d_M_bar_77 : decode b_M_bar 77 = .ok (.ireturn, 1) := by decide +kernel
theorem d_M_limit_0 : decode b_M_limit 0 = .ok (.iload_n 1, 1) := by decide +kernel
theorem d_M_limit_1 : decode b_M_limit 1 = .ok (.iconst 0, 1) := by decide +kernel
theorem d_M_limit_2 : decode b_M_limit 2 = .ok (.sipush 1000, 3) := by decide +kernel
theorem d_M_limit_5 : decode b_M_limit 5 = .ok (.invokestatic 75, 3) := by decide +kernel
theorem d_M_limit_8 : decode b_M_limit 8 = .ok (.ifCond .ne 6, 3) := by decide +kernel
theorem d_M_limit_11 : decode b_M_limit 11 = .ok (.bipush (-2), 2) := by decide +kernel
theorem d_M_limit_13 : decode b_M_limit 13 = .ok (.ireturn, 1) := by decide +kernel
theorem d_M_limit_14 : decode b_M_limit 14 = .ok (.aload_n 0, 1) := by decide +kernel
theorem d_M_limit_15 : decode b_M_limit 15 = .ok (.getfield 26, 3) := by decide +kernel
theorem d_M_limit_18 : decode b_M_limit 18 = .ok (.istore_n 2, 1) := by decide +kernel
theorem d_M_limit_19 : decode b_M_limit 19 = .ok (.aload_n 0, 1) := by decide +kernel
theorem d_M_limit_20 : decode b_M_limit 20 = .ok (.iload_n 1, 1) := by decide +kernel
theorem d_M_limit_21 : decode b_M_limit 21 = .ok (.putfield 26, 3) := by decide +kernel
theorem d_M_limit_24 : decode b_M_limit 24 = .ok (.iload_n 2, 1) := by decide +kernel
theorem d_M_limit_25 : decode b_M_limit 25 = .ok (.iload_n 1, 1) := by decide +kernel
theorem d_M_limit_26 : decode b_M_limit 26 = .ok (.if_icmp .eq 7, 3) := by decide +kernel
theorem d_M_limit_29 : decode b_M_limit 29 = .ok (.aload_n 0, 1) := by decide +kernel
theorem d_M_limit_30 : decode b_M_limit 30 = .ok (.invokevirtual 82, 3) := by decide +kernel
theorem d_M_limit_33 : decode b_M_limit 33 = .ok (.iload_n 2, 1) := by decide +kernel
theorem d_M_limit_34 : decode b_M_limit 34 = .ok (.ireturn, 1) := by decide +kernel
theorem d_M_even_0 : decode b_M_even 0 = .ok (.iload_n 1, 1) := by decide +kernel
theorem d_M_even_1 : decode b_M_even 1 = .ok (.iconst 0, 1) := by decide +kernel
theorem d_M_even_2 : decode b_M_even 2 = .ok (.bipush 12, 2) := by decide +kernel
theorem d_M_even_4 : decode b_M_even 4 = .ok (.invokestatic 75, 3) := by decide +kernel
theorem d_M_even_7 : decode b_M_even 7 = .ok (.ifCond .ne 6, 3) := by decide +kernel
theorem d_M_even_10 : decode b_M_even 10 = .ok (.bipush (-2), 2) := by decide +kernel
theorem d_M_even_12 : decode b_M_even 12 = .ok (.ireturn, 1) := by decide +kernel
theorem d_M_even_13 : decode b_M_even 13 = .ok (.aload_n 0, 1) := by decide +kernel
theorem d_M_even_14 : decode b_M_even 14 = .ok (.getfield 89, 3) := by decide +kernel
theorem d_M_even_17 : decode b_M_even 17 = .ok (.istore_n 2, 1) := by decide +kernel
theorem d_M_even_18 : decode b_M_even 18 = .ok (.aload_n 0, 1) := by decide +kernel
theorem d_M_even_19 : decode b_M_even 19 = .ok (.iload_n 1, 1) := by decide +kernel
theorem d_M_even_20 : decode b_M_even 20 = .ok (.putfield 89, 3) := by decide +kernel
theorem d_M_even_23 : decode b_M_even 23 = .ok (.iload_n 2, 1) := by decide +kernel
theorem d_M_even_24 : decode b_M_even 24 = .ok (.iload_n 1, 1) := by decide +kernel
theorem d_M_even_25 : decode b_M_even 25 = .ok (.if_icmp .eq 7, 3) := by decide +kernel
theorem d_M_even_28 : decode b_M_even 28 = .ok (.aload_n 0, 1) := by decide +kernel
theorem d_M_even_29 : decode b_M_even 29 = .ok (.invokevirtual 82, 3) := by decide +kernel
theorem d_M_even_32 : decode b_M_even 32 = .ok (.iload_n 2, 1) := by decide +kernel
theorem d_M_even_33 : decode b_M_even 33 = .ok (.ireturn, 1) := by decide +kernel
theorem d_M_line_0 : decode b_M_line 0 = .ok (.iload_n 1, 1) := by decide +kernel
theorem d_M_line_1 : decode b_M_line 1 = .ok (.iconst 0, 1) := by decide +kernel
theorem d_M_line_2 : decode b_M_line 2 = .ok (.bipush 7, 2) := by decide +kernel
theorem d_M_line_4 : decode b_M_line 4 = .ok (.invokestatic 75, 3) := by decide +kernel
theorem d_M_line_7 : decode b_M_line 7 = .ok (.ifCond .ne 5, 3) := by decide +kernel
theorem d_M_line_10 : decode b_M_line 10 = .ok (.iconst (-1), 1) := by decide +kernel
theorem d_M_line_11 : decode b_M_line 11 = .ok (.ireturn, 1) := by decide +kernel
theorem d_M_line_12 : decode b_M_line 12 = .ok (.iload_n 2, 1) := by decide +kernel
theorem d_M_line_13 : decode b_M_line 13 = .ok (.iconst 0, 1) := by decide +kernel
theorem d_M_line_14 : decode b_M_line 14 = .ok (.bipush 12, 2) := by decide +kernel
theorem d_M_line_16 : decode b_M_line 16 = .ok (.invokestatic 75, 3) := by decide +kernel
theorem d_M_line_19 : decode b_M_line 19 = .ok (.ifCond .ne 6, 3) := by decide +kernel
theorem d_M_line_22 : decode b_M_line 22 = .ok (.bipush (-2), 2) := by decide +kernel
theorem d_M_line_24 : decode b_M_line 24 = .ok (.ireturn, 1) := by decide +kernel
theorem d_M_line_25 : decode b_M_line 25 = .ok (.aload_n 0, 1) := by decide +kernel
theorem d_M_line_26 : decode b_M_line 26 = .ok (.getfield 30, 3) := by decide +kernel
theorem d_M_line_29 : decode b_M_line 29 = .ok (.iload_n 1, 1) := by decide +kernel
theorem d_M_line_30 : decode b_M_line 30 = .ok (.iaload, 1) := by decide +kernel
theorem d_M_line_31 : decode b_M_line 31 = .ok (.istore_n 3, 1) := by decide +kernel
theorem d_M_line_32 : decode b_M_line 32 = .ok (.aload_n 0, 1) := by decide +kernel
theorem d_M_line_33 : decode b_M_line 33 = .ok (.getfield 30, 3) := by decide +kernel
theorem d_M_line_36 : decode b_M_line 36 = .ok (.iload_n 1, 1) := by decide +kernel
theorem d_M_line_37 : decode b_M_line 37 = .ok (.iload_n 2, 1) := by decide +kernel
theorem d_M_line_38 : decode b_M_line 38 = .ok (.iastore, 1) := by decide +kernel
theorem d_M_line_39 : decode b_M_line 39 = .ok (.iload_n 3, 1) := by decide +kernel
theorem d_M_line_40 : decode b_M_line 40 = .ok (.iload_n 2, 1) := by decide +kernel
theorem d_M_line_41 : decode b_M_line 41 = .ok (.if_icmp .eq 7, 3) := by decide +kernel
theorem d_M_line_44 : decode b_M_line 44 = .ok (.aload_n 0, 1) := by decide +kernel
theorem d_M_line_45 : decode b_M_line 45 = .ok (.invokevirtual 82, 3) := by decide +kernel
theorem d_M_line_48 : decode b_M_line 48 = .ok (.iload_n 3, 1) := by decide +kernel
theorem d_M_line_49 : decode b_M_line 49 = .ok (.ireturn, 1) := by decide +kernel
theorem d_M_kinOf_0 : decode b_M_kinOf 0 = .ok (.iconst 0, 1) := by decide +kernel
theorem d_M_kinOf_1 : decode b_M_kinOf 1 = .ok (.istore_n 2, 1) := by decide +kernel
theorem d_M_kinOf_2 : decode b_M_kinOf 2 = .ok (.iconst 0, 1) := by decide +kernel
theorem d_M_kinOf_3 : decode b_M_kinOf 3 = .ok (.istore_n 3, 1) := by decide +kernel
theorem d_M_kinOf_4 : decode b_M_kinOf 4 = .ok (.iload_n 3, 1) := by decide +kernel
theorem d_M_kinOf_5 : decode b_M_kinOf 5 = .ok (.aload_n 0, 1) := by decide +kernel
theorem d_M_kinOf_6 : decode b_M_kinOf 6 = .ok (.getfield 72, 3) := by decide +kernel
theorem d_M_kinOf_9 : decode b_M_kinOf 9 = .ok (.if_icmp .ge 65, 3) := by decide +kernel
theorem d_M_kinOf_12 : decode b_M_kinOf 12 = .ok (.iconst 0, 1) := by decide +kernel
theorem d_M_kinOf_13 : decode b_M_kinOf 13 = .ok (.istore 4, 2) := by decide +kernel
theorem d_M_kinOf_15 : decode b_M_kinOf 15 = .ok (.iload 4, 2) := by decide +kernel
theorem d_M_kinOf_17 : decode b_M_kinOf 17 = .ok (.aload_n 0, 1) := by decide +kernel
theorem d_M_kinOf_18 : decode b_M_kinOf 18 = .ok (.getfield 72, 3) := by decide +kernel
theorem d_M_kinOf_21 : decode b_M_kinOf 21 = .ok (.if_icmp .ge 47, 3) := by decide +kernel
theorem d_M_kinOf_24 : decode b_M_kinOf 24 = .ok (.iload_n 1, 1) := by decide +kernel
theorem d_M_kinOf_25 : decode b_M_kinOf 25 = .ok (.iload_n 3, 1) := by decide +kernel
theorem d_M_kinOf_26 : decode b_M_kinOf 26 = .ok (.ishr, 1) := by decide +kernel
theorem d_M_kinOf_27 : decode b_M_kinOf 27 = .ok (.iconst 1, 1) := by decide +kernel
theorem d_M_kinOf_28 : decode b_M_kinOf 28 = .ok (.iand, 1) := by decide +kernel
theorem d_M_kinOf_29 : decode b_M_kinOf 29 = .ok (.iconst 1, 1) := by decide +kernel
theorem d_M_kinOf_30 : decode b_M_kinOf 30 = .ok (.if_icmp .ne 30, 3) := by decide +kernel
theorem d_M_kinOf_33 : decode b_M_kinOf 33 = .ok (.iload_n 1, 1) := by decide +kernel
theorem d_M_kinOf_34 : decode b_M_kinOf 34 = .ok (.iload 4, 2) := by decide +kernel
theorem d_M_kinOf_36 : decode b_M_kinOf 36 = .ok (.ishr, 1) := by decide +kernel
theorem d_M_kinOf_37 : decode b_M_kinOf 37 = .ok (.iconst 1, 1) := by decide +kernel
theorem d_M_kinOf_38 : decode b_M_kinOf 38 = .ok (.iand, 1) := by decide +kernel
theorem d_M_kinOf_39 : decode b_M_kinOf 39 = .ok (.iconst 1, 1) := by decide +kernel
theorem d_M_kinOf_40 : decode b_M_kinOf 40 = .ok (.if_icmp .ne 20, 3) := by decide +kernel
theorem d_M_kinOf_43 : decode b_M_kinOf 43 = .ok (.iload_n 2, 1) := by decide +kernel
theorem d_M_kinOf_44 : decode b_M_kinOf 44 = .ok (.aload_n 0, 1) := by decide +kernel
theorem d_M_kinOf_45 : decode b_M_kinOf 45 = .ok (.getfield 19, 3) := by decide +kernel
theorem d_M_kinOf_48 : decode b_M_kinOf 48 = .ok (.bipush 12, 2) := by decide +kernel
theorem d_M_kinOf_50 : decode b_M_kinOf 50 = .ok (.iload_n 3, 1) := by decide +kernel
theorem d_M_kinOf_51 : decode b_M_kinOf 51 = .ok (.imul, 1) := by decide +kernel
theorem d_M_kinOf_52 : decode b_M_kinOf 52 = .ok (.iload 4, 2) := by decide +kernel
theorem d_M_kinOf_54 : decode b_M_kinOf 54 = .ok (.iadd, 1) := by decide +kernel
theorem d_M_kinOf_55 : decode b_M_kinOf 55 = .ok (.iaload, 1) := by decide +kernel
theorem d_M_kinOf_56 : decode b_M_kinOf 56 = .ok (.iadd, 1) := by decide +kernel
theorem d_M_kinOf_57 : decode b_M_kinOf 57 = .ok (.goto 4, 3) := by decide +kernel
theorem d_M_kinOf_60 : decode b_M_kinOf 60 = .ok (.iload_n 2, 1) := by decide +kernel
theorem d_M_kinOf_61 : decode b_M_kinOf 61 = .ok (.istore_n 2, 1) := by decide +kernel
theorem d_M_kinOf_62 : decode b_M_kinOf 62 = .ok (.iinc 4 1, 3) := by decide +kernel
theorem d_M_kinOf_65 : decode b_M_kinOf 65 = .ok (.goto (-50), 3) := by decide +kernel
theorem d_M_kinOf_68 : decode b_M_kinOf 68 = .ok (.iinc 3 1, 3) := by decide +kernel
theorem d_M_kinOf_71 : decode b_M_kinOf 71 = .ok (.goto (-67), 3) := by decide +kernel
theorem d_M_kinOf_74 : decode b_M_kinOf 74 = .ok (.iload_n 2, 1) := by decide +kernel
theorem d_M_kinOf_75 : decode b_M_kinOf 75 = .ok (.ireturn, 1) := by decide +kernel
theorem d_M_fitsFamilies_0 : decode b_M_fitsFamilies 0 = .ok (.iconst 1, 1) := by decide +kernel
theorem d_M_fitsFamilies_1 : decode b_M_fitsFamilies 1 = .ok (.istore_n 2, 1) := by decide +kernel
theorem d_M_fitsFamilies_2 : decode b_M_fitsFamilies 2 = .ok (.iconst 0, 1) := by decide +kernel
theorem d_M_fitsFamilies_3 : decode b_M_fitsFamilies 3 = .ok (.istore_n 3, 1) := by decide +kernel
theorem d_M_fitsFamilies_4 : decode b_M_fitsFamilies 4 = .ok (.iload_n 3, 1) := by decide +kernel
theorem d_M_fitsFamilies_5 : decode b_M_fitsFamilies 5 = .ok (.bipush 8, 2) := by decide +kernel
theorem d_M_fitsFamilies_7 : decode b_M_fitsFamilies 7 = .ok (.if_icmp .ge 99, 3) := by decide +kernel
theorem d_M_fitsFamilies_10 : decode b_M_fitsFamilies 10 = .ok (.iload_n 2, 1) := by decide +kernel
theorem d_M_fitsFamilies_11 : decode b_M_fitsFamilies 11 = .ok (.ifCond .eq 95, 3) := by decide +kernel
theorem d_M_fitsFamilies_14 : decode b_M_fitsFamilies 14 = .ok (.iconst 0, 1) := by decide +kernel
theorem d_M_fitsFamilies_15 : decode b_M_fitsFamilies 15 = .ok (.istore 4, 2) := by decide +kernel
theorem d_M_fitsFamilies_17 : decode b_M_fitsFamilies 17 = .ok (.iconst 0, 1) := by decide +kernel
theorem d_M_fitsFamilies_18 : decode b_M_fitsFamilies 18 = .ok (.istore 5, 2) := by decide +kernel
theorem d_M_fitsFamilies_20 : decode b_M_fitsFamilies 20 = .ok (.iload 5, 2) := by decide +kernel
theorem d_M_fitsFamilies_22 : decode b_M_fitsFamilies 22 = .ok (.aload_n 0, 1) := by decide +kernel
theorem d_M_fitsFamilies_23 : decode b_M_fitsFamilies 23 = .ok (.getfield 72, 3) := by decide +kernel
theorem d_M_fitsFamilies_26 : decode b_M_fitsFamilies 26 = .ok (.if_icmp .ge 41, 3) := by decide +kernel
end
section
theorem d_M_fitsFamilies_29 : decode b_M_fitsFamilies 29 = .ok (.iload_n 1, 1) := by decide +kernel
theorem d_M_fitsFamilies_30 : decode b_M_fitsFamilies 30 = .ok (.iload 5, 2) := by decide +kernel
theorem d_M_fitsFamilies_32 : decode b_M_fitsFamilies 32 = .ok (.ishr, 1) := by decide +kernel
theorem d_M_fitsFamilies_33 : decode b_M_fitsFamilies 33 = .ok (.iconst 1, 1) := by decide +kernel
theorem d_M_fitsFamilies_34 : decode b_M_fitsFamilies 34 = .ok (.iand, 1) := by decide +kernel
theorem d_M_fitsFamilies_35 : decode b_M_fitsFamilies 35 = .ok (.iconst 1, 1) := by decide +kernel
theorem d_M_fitsFamilies_36 : decode b_M_fitsFamilies 36 = .ok (.if_icmp .ne 21, 3) := by decide +kernel
theorem d_M_fitsFamilies_39 : decode b_M_fitsFamilies 39 = .ok (.aload_n 0, 1) := by decide +kernel
theorem d_M_fitsFamilies_40 : decode b_M_fitsFamilies 40 = .ok (.getfield 16, 3) := by decide +kernel
theorem d_M_fitsFamilies_43 : decode b_M_fitsFamilies 43 = .ok (.iload 5, 2) := by decide +kernel
theorem d_M_fitsFamilies_45 : decode b_M_fitsFamilies 45 = .ok (.iaload, 1) := by decide +kernel
theorem d_M_fitsFamilies_46 : decode b_M_fitsFamilies 46 = .ok (.iload_n 3, 1) := by decide +kernel
theorem d_M_fitsFamilies_47 : decode b_M_fitsFamilies 47 = .ok (.if_icmp .ne 10, 3) := by decide +kernel
theorem d_M_fitsFamilies_50 : decode b_M_fitsFamilies 50 = .ok (.iload 4, 2) := by decide +kernel
theorem d_M_fitsFamilies_52 : decode b_M_fitsFamilies 52 = .ok (.iconst 1, 1) := by decide +kernel
theorem d_M_fitsFamilies_53 : decode b_M_fitsFamilies 53 = .ok (.iadd, 1) := by decide +kernel
theorem d_M_fitsFamilies_54 : decode b_M_fitsFamilies 54 = .ok (.goto 5, 3) := by decide +kernel
theorem d_M_fitsFamilies_57 : decode b_M_fitsFamilies 57 = .ok (.iload 4, 2) := by decide +kernel
theorem d_M_fitsFamilies_59 : decode b_M_fitsFamilies 59 = .ok (.istore 4, 2) := by decide +kernel
theorem d_M_fitsFamilies_61 : decode b_M_fitsFamilies 61 = .ok (.iinc 5 1, 3) := by decide +kernel
theorem d_M_fitsFamilies_64 : decode b_M_fitsFamilies 64 = .ok (.goto (-44), 3) := by decide +kernel
theorem d_M_fitsFamilies_67 : decode b_M_fitsFamilies 67 = .ok (.aload_n 0, 1) := by decide +kernel
theorem d_M_fitsFamilies_68 : decode b_M_fitsFamilies 68 = .ok (.getfield 89, 3) := by decide +kernel
theorem d_M_fitsFamilies_71 : decode b_M_fitsFamilies 71 = .ok (.ifCond .eq 12, 3) := by decide +kernel
theorem d_M_fitsFamilies_74 : decode b_M_fitsFamilies 74 = .ok (.iload 4, 2) := by decide +kernel
theorem d_M_fitsFamilies_76 : decode b_M_fitsFamilies 76 = .ok (.aload_n 0, 1) := by decide +kernel
theorem d_M_fitsFamilies_77 : decode b_M_fitsFamilies 77 = .ok (.getfield 89, 3) := by decide +kernel
theorem d_M_fitsFamilies_80 : decode b_M_fitsFamilies 80 = .ok (.if_icmp .gt 18, 3) := by decide +kernel
theorem d_M_fitsFamilies_83 : decode b_M_fitsFamilies 83 = .ok (.iload 4, 2) := by decide +kernel
theorem d_M_fitsFamilies_85 : decode b_M_fitsFamilies 85 = .ok (.aload_n 0, 1) := by decide +kernel
theorem d_M_fitsFamilies_86 : decode b_M_fitsFamilies 86 = .ok (.getfield 30, 3) := by decide +kernel
theorem d_M_fitsFamilies_89 : decode b_M_fitsFamilies 89 = .ok (.iload_n 3, 1) := by decide +kernel
theorem d_M_fitsFamilies_90 : decode b_M_fitsFamilies 90 = .ok (.iaload, 1) := by decide +kernel
theorem d_M_fitsFamilies_91 : decode b_M_fitsFamilies 91 = .ok (.if_icmp .lt 7, 3) := by decide +kernel
theorem d_M_fitsFamilies_94 : decode b_M_fitsFamilies 94 = .ok (.iconst 1, 1) := by decide +kernel
theorem d_M_fitsFamilies_95 : decode b_M_fitsFamilies 95 = .ok (.goto 4, 3) := by decide +kernel
theorem d_M_fitsFamilies_98 : decode b_M_fitsFamilies 98 = .ok (.iconst 0, 1) := by decide +kernel
theorem d_M_fitsFamilies_99 : decode b_M_fitsFamilies 99 = .ok (.istore_n 2, 1) := by decide +kernel
theorem d_M_fitsFamilies_100 : decode b_M_fitsFamilies 100 = .ok (.iinc 3 1, 3) := by decide +kernel
theorem d_M_fitsFamilies_103 : decode b_M_fitsFamilies 103 = .ok (.goto (-99), 3) := by decide +kernel
theorem d_M_fitsFamilies_106 : decode b_M_fitsFamilies 106 = .ok (.iload_n 2, 1) := by decide +kernel
theorem d_M_fitsFamilies_107 : decode b_M_fitsFamilies 107 = .ok (.ireturn, 1) := by decide +kernel
theorem d_M_part_0 : decode b_M_part 0 = .ok (.iconst 0, 1) := by decide +kernel
theorem d_M_part_1 : decode b_M_part 1 = .ok (.istore_n 3, 1) := by decide +kernel
theorem d_M_part_2 : decode b_M_part 2 = .ok (.iconst 0, 1) := by decide +kernel
theorem d_M_part_3 : decode b_M_part 3 = .ok (.istore 4, 2) := by decide +kernel
theorem d_M_part_5 : decode b_M_part 5 = .ok (.iconst 0, 1) := by decide +kernel
theorem d_M_part_6 : decode b_M_part 6 = .ok (.istore 5, 2) := by decide +kernel
theorem d_M_part_8 : decode b_M_part 8 = .ok (.iload 5, 2) := by decide +kernel
theorem d_M_part_10 : decode b_M_part 10 = .ok (.aload_n 0, 1) := by decide +kernel
theorem d_M_part_11 : decode b_M_part 11 = .ok (.getfield 72, 3) := by decide +kernel
theorem d_M_part_14 : decode b_M_part 14 = .ok (.if_icmp .ge 65, 3) := by decide +kernel
theorem d_M_part_17 : decode b_M_part 17 = .ok (.iload_n 1, 1) := by decide +kernel
theorem d_M_part_18 : decode b_M_part 18 = .ok (.iload 5, 2) := by decide +kernel
theorem d_M_part_20 : decode b_M_part 20 = .ok (.ishr, 1) := by decide +kernel
theorem d_M_part_21 : decode b_M_part 21 = .ok (.iconst 1, 1) := by decide +kernel
theorem d_M_part_22 : decode b_M_part 22 = .ok (.iand, 1) := by decide +kernel
theorem d_M_part_23 : decode b_M_part 23 = .ok (.iconst 1, 1) := by decide +kernel
theorem d_M_part_24 : decode b_M_part 24 = .ok (.if_icmp .ne 27, 3) := by decide +kernel
theorem d_M_part_27 : decode b_M_part 27 = .ok (.aload_n 0, 1) := by decide +kernel
theorem d_M_part_28 : decode b_M_part 28 = .ok (.getfield 7, 3) := by decide +kernel
theorem d_M_part_31 : decode b_M_part 31 = .ok (.iload 5, 2) := by decide +kernel
theorem d_M_part_33 : decode b_M_part 33 = .ok (.iaload, 1) := by decide +kernel
theorem d_M_part_34 : decode b_M_part 34 = .ok (.ifCond .ne 17, 3) := by decide +kernel
theorem d_M_part_37 : decode b_M_part 37 = .ok (.aload_n 0, 1) := by decide +kernel
theorem d_M_part_38 : decode b_M_part 38 = .ok (.getfield 36, 3) := by decide +kernel
theorem d_M_part_41 : decode b_M_part 41 = .ok (.iload_n 3, 1) := by decide +kernel
theorem d_M_part_42 : decode b_M_part 42 = .ok (.iload 5, 2) := by decide +kernel
theorem d_M_part_44 : decode b_M_part 44 = .ok (.iastore, 1) := by decide +kernel
theorem d_M_part_45 : decode b_M_part 45 = .ok (.iinc 3 1, 3) := by decide +kernel
theorem d_M_part_48 : decode b_M_part 48 = .ok (.goto 25, 3) := by decide +kernel
theorem d_M_part_51 : decode b_M_part 51 = .ok (.iload_n 1, 1) := by decide +kernel
theorem d_M_part_52 : decode b_M_part 52 = .ok (.iload 5, 2) := by decide +kernel
theorem d_M_part_54 : decode b_M_part 54 = .ok (.ishr, 1) := by decide +kernel
theorem d_M_part_55 : decode b_M_part 55 = .ok (.iconst 1, 1) := by decide +kernel
theorem d_M_part_56 : decode b_M_part 56 = .ok (.iand, 1) := by decide +kernel
theorem d_M_part_57 : decode b_M_part 57 = .ok (.iconst 1, 1) := by decide +kernel
theorem d_M_part_58 : decode b_M_part 58 = .ok (.if_icmp .ne 15, 3) := by decide +kernel
theorem d_M_part_61 : decode b_M_part 61 = .ok (.aload_n 0, 1) := by decide +kernel
theorem d_M_part_62 : decode b_M_part 62 = .ok (.getfield 39, 3) := by decide +kernel
theorem d_M_part_65 : decode b_M_part 65 = .ok (.iload 4, 2) := by decide +kernel
theorem d_M_part_67 : decode b_M_part 67 = .ok (.iload 5, 2) := by decide +kernel
theorem d_M_part_69 : decode b_M_part 69 = .ok (.iastore, 1) := by decide +kernel
theorem d_M_part_70 : decode b_M_part 70 = .ok (.iinc 4 1, 3) := by decide +kernel
theorem d_M_part_73 : decode b_M_part 73 = .ok (.iinc 5 1, 3) := by decide +kernel
theorem d_M_part_76 : decode b_M_part 76 = .ok (.goto (-68), 3) := by decide +kernel
theorem d_M_part_79 : decode b_M_part 79 = .ok (.aload_n 0, 1) := by decide +kernel
theorem d_M_part_80 : decode b_M_part 80 = .ok (.iload_n 3, 1) := by decide +kernel
theorem d_M_part_81 : decode b_M_part 81 = .ok (.putfield 92, 3) := by decide +kernel
theorem d_M_part_84 : decode b_M_part 84 = .ok (.iload_n 3, 1) := by decide +kernel
theorem d_M_part_85 : decode b_M_part 85 = .ok (.iload_n 2, 1) := by decide +kernel
theorem d_M_part_86 : decode b_M_part 86 = .ok (.if_icmp .ne 13, 3) := by decide +kernel
theorem d_M_part_89 : decode b_M_part 89 = .ok (.iload 4, 2) := by decide +kernel
theorem d_M_part_91 : decode b_M_part 91 = .ok (.iload_n 2, 1) := by decide +kernel
theorem d_M_part_92 : decode b_M_part 92 = .ok (.if_icmp .ne 7, 3) := by decide +kernel
theorem d_M_part_95 : decode b_M_part 95 = .ok (.iconst 1, 1) := by decide +kernel
theorem d_M_part_96 : decode b_M_part 96 = .ok (.goto 4, 3) := by decide +kernel
theorem d_M_part_99 : decode b_M_part 99 = .ok (.iconst 0, 1) := by decide +kernel
theorem d_M_part_100 : decode b_M_part 100 = .ok (.ireturn, 1) := by decide +kernel
theorem d_M_canPair_0 : decode b_M_canPair 0 = .ok (.iconst 0, 1) := by decide +kernel
theorem d_M_canPair_1 : decode b_M_canPair 1 = .ok (.istore_n 3, 1) := by decide +kernel
theorem d_M_canPair_2 : decode b_M_canPair 2 = .ok (.iload_n 3, 1) := by decide +kernel
theorem d_M_canPair_3 : decode b_M_canPair 3 = .ok (.bipush 64, 2) := by decide +kernel
theorem d_M_canPair_5 : decode b_M_canPair 5 = .ok (.if_icmp .ge 25, 3) := by decide +kernel
theorem d_M_canPair_8 : decode b_M_canPair 8 = .ok (.aload_n 0, 1) := by decide +kernel
theorem d_M_canPair_9 : decode b_M_canPair 9 = .ok (.getfield 42, 3) := by decide +kernel
theorem d_M_canPair_12 : decode b_M_canPair 12 = .ok (.iload_n 3, 1) := by decide +kernel
theorem d_M_canPair_13 : decode b_M_canPair 13 = .ok (.iload_n 3, 1) := by decide +kernel
theorem d_M_canPair_14 : decode b_M_canPair 14 = .ok (.iload_n 2, 1) := by decide +kernel
theorem d_M_canPair_15 : decode b_M_canPair 15 = .ok (.if_icmp .ne 7, 3) := by decide +kernel
theorem d_M_canPair_18 : decode b_M_canPair 18 = .ok (.iconst 1, 1) := by decide +kernel
theorem d_M_canPair_19 : decode b_M_canPair 19 = .ok (.goto 4, 3) := by decide +kernel
theorem d_M_canPair_22 : decode b_M_canPair 22 = .ok (.iconst 0, 1) := by decide +kernel
theorem d_M_canPair_23 : decode b_M_canPair 23 = .ok (.bastore, 1) := by decide +kernel
theorem d_M_canPair_24 : decode b_M_canPair 24 = .ok (.iinc 3 1, 3) := by decide +kernel
theorem d_M_canPair_27 : decode b_M_canPair 27 = .ok (.goto (-25), 3) := by decide +kernel
theorem d_M_canPair_30 : decode b_M_canPair 30 = .ok (.iload_n 1, 1) := by decide +kernel
theorem d_M_canPair_31 : decode b_M_canPair 31 = .ok (.istore_n 3, 1) := by decide +kernel
theorem d_M_canPair_32 : decode b_M_canPair 32 = .ok (.iload_n 3, 1) := by decide +kernel
theorem d_M_canPair_33 : decode b_M_canPair 33 = .ok (.aload_n 0, 1) := by decide +kernel
theorem d_M_canPair_34 : decode b_M_canPair 34 = .ok (.getfield 92, 3) := by decide +kernel
theorem d_M_canPair_37 : decode b_M_canPair 37 = .ok (.if_icmp .ge 155, 3) := by decide +kernel
theorem d_M_canPair_40 : decode b_M_canPair 40 = .ok (.iconst 0, 1) := by decide +kernel
theorem d_M_canPair_41 : decode b_M_canPair 41 = .ok (.istore 4, 2) := by decide +kernel
theorem d_M_canPair_43 : decode b_M_canPair 43 = .ok (.iload 4, 2) := by decide +kernel
theorem d_M_canPair_45 : decode b_M_canPair 45 = .ok (.bipush 64, 2) := by decide +kernel
theorem d_M_canPair_47 : decode b_M_canPair 47 = .ok (.if_icmp .ge 17, 3) := by decide +kernel
theorem d_M_canPair_50 : decode b_M_canPair 50 = .ok (.aload_n 0, 1) := by decide +kernel
theorem d_M_canPair_51 : decode b_M_canPair 51 = .ok (.getfield 45, 3) := by decide +kernel
theorem d_M_canPair_54 : decode b_M_canPair 54 = .ok (.iload 4, 2) := by decide +kernel
theorem d_M_canPair_56 : decode b_M_canPair 56 = .ok (.iconst 0, 1) := by decide +kernel
theorem d_M_canPair_57 : decode b_M_canPair 57 = .ok (.bastore, 1) := by decide +kernel
theorem d_M_canPair_58 : decode b_M_canPair 58 = .ok (.iinc 4 1, 3) := by decide +kernel
theorem d_M_canPair_61 : decode b_M_canPair 61 = .ok (.goto (-18), 3) := by decide +kernel
theorem d_M_canPair_64 : decode b_M_canPair 64 = .ok (.iconst 0, 1) := by decide +kernel
theorem d_M_canPair_65 : decode b_M_canPair 65 = .ok (.istore 4, 2) := by decide +kernel
theorem d_M_canPair_67 : decode b_M_canPair 67 = .ok (.iload 4, 2) := by decide +kernel
theorem d_M_canPair_69 : decode b_M_canPair 69 = .ok (.bipush 64, 2) := by decide +kernel
theorem d_M_canPair_71 : decode b_M_canPair 71 = .ok (.if_icmp .ge 85, 3) := by decide +kernel
theorem d_M_canPair_74 : decode b_M_canPair 74 = .ok (.iconst 0, 1) := by decide +kernel
theorem d_M_canPair_75 : decode b_M_canPair 75 = .ok (.istore 5, 2) := by decide +kernel
theorem d_M_canPair_77 : decode b_M_canPair 77 = .ok (.iload 5, 2) := by decide +kernel
theorem d_M_canPair_79 : decode b_M_canPair 79 = .ok (.aload_n 0, 1) := by decide +kernel
theorem d_M_canPair_80 : decode b_M_canPair 80 = .ok (.getfield 92, 3) := by decide +kernel
theorem d_M_canPair_83 : decode b_M_canPair 83 = .ok (.if_icmp .ge 67, 3) := by decide +kernel
theorem d_M_canPair_86 : decode b_M_canPair 86 = .ok (.aload_n 0, 1) := by decide +kernel
theorem d_M_canPair_87 : decode b_M_canPair 87 = .ok (.getfield 42, 3) := by decide +kernel
theorem d_M_canPair_90 : decode b_M_canPair 90 = .ok (.iload 4, 2) := by decide +kernel
theorem d_M_canPair_92 : decode b_M_canPair 92 = .ok (.baload, 1) := by decide +kernel
theorem d_M_canPair_93 : decode b_M_canPair 93 = .ok (.ifCond .eq 57, 3) := by decide +kernel
theorem d_M_canPair_96 : decode b_M_canPair 96 = .ok (.iload 4, 2) := by decide +kernel
theorem d_M_canPair_98 : decode b_M_canPair 98 = .ok (.iload 5, 2) := by decide +kernel
theorem d_M_canPair_100 : decode b_M_canPair 100 = .ok (.ishr, 1) := by decide +kernel
theorem d_M_canPair_101 : decode b_M_canPair 101 = .ok (.iconst 1, 1) := by decide +kernel
theorem d_M_canPair_102 : decode b_M_canPair 102 = .ok (.iand, 1) := by decide +kernel
theorem d_M_canPair_103 : decode b_M_canPair 103 = .ok (.ifCond .ne 41, 3) := by decide +kernel
theorem d_M_canPair_106 : decode b_M_canPair 106 = .ok (.aload_n 0, 1) := by decide +kernel
theorem d_M_canPair_107 : decode b_M_canPair 107 = .ok (.getfield 22, 3) := by decide +kernel
theorem d_M_canPair_110 : decode b_M_canPair 110 = .ok (.bipush 12, 2) := by decide +kernel
theorem d_M_canPair_112 : decode b_M_canPair 112 = .ok (.aload_n 0, 1) := by decide +kernel
theorem d_M_canPair_113 : decode b_M_canPair 113 = .ok (.getfield 36, 3) := by decide +kernel
theorem d_M_canPair_116 : decode b_M_canPair 116 = .ok (.iload_n 3, 1) := by decide +kernel
theorem d_M_canPair_117 : decode b_M_canPair 117 = .ok (.iaload, 1) := by decide +kernel
theorem d_M_canPair_118 : decode b_M_canPair 118 = .ok (.imul, 1) := by decide +kernel
theorem d_M_canPair_119 : decode b_M_canPair 119 = .ok (.aload_n 0, 1) := by decide +kernel
theorem d_M_canPair_120 : decode b_M_canPair 120 = .ok (.getfield 39, 3) := by decide +kernel
theorem d_M_canPair_123 : decode b_M_canPair 123 = .ok (.iload 5, 2) := by decide +kernel
theorem d_M_canPair_125 : decode b_M_canPair 125 = .ok (.iaload, 1) := by decide +kernel
theorem d_M_canPair_126 : decode b_M_canPair 126 = .ok (.iadd, 1) := by decide +kernel
theorem d_M_canPair_127 : decode b_M_canPair 127 = .ok (.baload, 1) := by decide +kernel
theorem d_M_canPair_128 : decode b_M_canPair 128 = .ok (.ifCond .ne 16, 3) := by decide +kernel
theorem d_M_canPair_131 : decode b_M_canPair 131 = .ok (.aload_n 0, 1) := by decide +kernel
theorem d_M_canPair_132 : decode b_M_canPair 132 = .ok (.getfield 45, 3) := by decide +kernel
theorem d_M_canPair_135 : decode b_M_canPair 135 = .ok (.iload 4, 2) := by decide +kernel
theorem d_M_canPair_137 : decode b_M_canPair 137 = .ok (.iconst 1, 1) := by decide +kernel
theorem d_M_canPair_138 : decode b_M_canPair 138 = .ok (.iload 5, 2) := by decide +kernel
theorem d_M_canPair_140 : decode b_M_canPair 140 = .ok (.ishl, 1) := by decide +kernel
theorem d_M_canPair_141 : decode b_M_canPair 141 = .ok (.ior, 1) := by decide +kernel
theorem d_M_canPair_142 : decode b_M_canPair 142 = .ok (.iconst 1, 1) := by decide +kernel
theorem d_M_canPair_143 : decode b_M_canPair 143 = .ok (.bastore, 1) := by decide +kernel
theorem d_M_canPair_144 : decode b_M_canPair 144 = .ok (.iinc 5 1, 3) := by decide +kernel
theorem d_M_canPair_147 : decode b_M_canPair 147 = .ok (.goto (-70), 3) := by decide +kernel
theorem d_M_canPair_150 : decode b_M_canPair 150 = .ok (.iinc 4 1, 3) := by decide +kernel
theorem d_M_canPair_153 : decode b_M_canPair 153 = .ok (.goto (-86), 3) := by decide +kernel
theorem d_M_canPair_156 : decode b_M_canPair 156 = .ok (.iconst 0, 1) := by decide +kernel
theorem d_M_canPair_157 : decode b_M_canPair 157 = .ok (.istore 4, 2) := by decide +kernel
theorem d_M_canPair_159 : decode b_M_canPair 159 = .ok (.iload 4, 2) := by decide +kernel
theorem d_M_canPair_161 : decode b_M_canPair 161 = .ok (.bipush 64, 2) := by decide +kernel
theorem d_M_canPair_163 : decode b_M_canPair 163 = .ok (.if_icmp .ge 23, 3) := by decide +kernel
theorem d_M_canPair_166 : decode b_M_canPair 166 = .ok (.aload_n 0, 1) := by decide +kernel
theorem d_M_canPair_167 : decode b_M_canPair 167 = .ok (.getfield 42, 3) := by decide +kernel
theorem d_M_canPair_170 : decode b_M_canPair 170 = .ok (.iload 4, 2) := by decide +kernel
theorem d_M_canPair_172 : decode b_M_canPair 172 = .ok (.aload_n 0, 1) := by decide +kernel
theorem d_M_canPair_173 : decode b_M_canPair 173 = .ok (.getfield 45, 3) := by decide +kernel
theorem d_M_canPair_176 : decode b_M_canPair 176 = .ok (.iload 4, 2) := by decide +kernel
theorem d_M_canPair_178 : decode b_M_canPair 178 = .ok (.baload, 1) := by decide +kernel
theorem d_M_canPair_179 : decode b_M_canPair 179 = .ok (.bastore, 1) := by decide +kernel
theorem d_M_canPair_180 : decode b_M_canPair 180 = .ok (.iinc 4 1, 3) := by decide +kernel
theorem d_M_canPair_183 : decode b_M_canPair 183 = .ok (.goto (-24), 3) := by decide +kernel
theorem d_M_canPair_186 : decode b_M_canPair 186 = .ok (.iinc 3 1, 3) := by decide +kernel
theorem d_M_canPair_189 : decode b_M_canPair 189 = .ok (.goto (-157), 3) := by decide +kernel
theorem d_M_canPair_192 : decode b_M_canPair 192 = .ok (.aload_n 0, 1) := by decide +kernel
theorem d_M_canPair_193 : decode b_M_canPair 193 = .ok (.getfield 42, 3) := by decide +kernel
theorem d_M_canPair_196 : decode b_M_canPair 196 = .ok (.iconst 1, 1) := by decide +kernel
theorem d_M_canPair_197 : decode b_M_canPair 197 = .ok (.aload_n 0, 1) := by decide +kernel
theorem d_M_canPair_198 : decode b_M_canPair 198 = .ok (.getfield 92, 3) := by decide +kernel
theorem d_M_canPair_201 : decode b_M_canPair 201 = .ok (.ishl, 1) := by decide +kernel
theorem d_M_canPair_202 : decode b_M_canPair 202 = .ok (.iconst 1, 1) := by decide +kernel
theorem d_M_canPair_203 : decode b_M_canPair 203 = .ok (.isub, 1) := by decide +kernel
theorem d_M_canPair_204 : decode b_M_canPair 204 = .ok (.baload, 1) := by decide +kernel
theorem d_M_canPair_205 : decode b_M_canPair 205 = .ok (.ireturn, 1) := by decide +kernel
theorem d_M_fits_0 : decode b_M_fits 0 = .ok (.aload_n 0, 1) := by decide +kernel
theorem d_M_fits_1 : decode b_M_fits 1 = .ok (.iload_n 1, 1) := by decide +kernel
theorem d_M_fits_2 : decode b_M_fits 2 = .ok (.invokevirtual 95, 3) := by decide +kernel
theorem d_M_fits_5 : decode b_M_fits 5 = .ok (.iconst 4, 1) := by decide +kernel
theorem d_M_fits_6 : decode b_M_fits 6 = .ok (.iload_n 2, 1) := by decide +kernel
theorem d_M_fits_7 : decode b_M_fits 7 = .ok (.imul, 1) := by decide +kernel
theorem d_M_fits_8 : decode b_M_fits 8 = .ok (.iload_n 2, 1) := by decide +kernel
theorem d_M_fits_9 : decode b_M_fits 9 = .ok (.imul, 1) := by decide +kernel
theorem d_M_fits_10 : decode b_M_fits 10 = .ok (.aload_n 0, 1) := by decide +kernel
theorem d_M_fits_11 : decode b_M_fits 11 = .ok (.getfield 26, 3) := by decide +kernel
theorem d_M_fits_14 : decode b_M_fits 14 = .ok (.imul, 1) := by decide +kernel
theorem d_M_fits_15 : decode b_M_fits 15 = .ok (.if_icmp .gt 15, 3) := by decide +kernel
theorem d_M_fits_18 : decode b_M_fits 18 = .ok (.aload_n 0, 1) := by decide +kernel
theorem d_M_fits_19 : decode b_M_fits 19 = .ok (.iload_n 1, 1) := by decide +kernel
theorem d_M_fits_20 : decode b_M_fits 20 = .ok (.invokevirtual 99, 3) := by decide +kernel
theorem d_M_fits_23 : decode b_M_fits 23 = .ok (.ifCond .eq 7, 3) := by decide +kernel
theorem d_M_fits_26 : decode b_M_fits 26 = .ok (.iconst 1, 1) := by decide +kernel
theorem d_M_fits_27 : decode b_M_fits 27 = .ok (.goto 4, 3) := by decide +kernel
theorem d_M_fits_30 : decode b_M_fits 30 = .ok (.iconst 0, 1) := by decide +kernel
theorem d_M_fits_31 : decode b_M_fits 31 = .ok (.ireturn, 1) := by decide +kernel
theorem d_M_worthOf_0 : decode b_M_worthOf 0 = .ok (.iconst 0, 1) := by decide +kernel
theorem d_M_worthOf_1 : decode b_M_worthOf 1 = .ok (.istore_n 2, 1) := by decide +kernel
theorem d_M_worthOf_2 : decode b_M_worthOf 2 = .ok (.iconst 0, 1) := by decide +kernel
theorem d_M_worthOf_3 : decode b_M_worthOf 3 = .ok (.istore_n 3, 1) := by decide +kernel
theorem d_M_worthOf_4 : decode b_M_worthOf 4 = .ok (.iload_n 3, 1) := by decide +kernel
theorem d_M_worthOf_5 : decode b_M_worthOf 5 = .ok (.aload_n 0, 1) := by decide +kernel
theorem d_M_worthOf_6 : decode b_M_worthOf 6 = .ok (.getfield 72, 3) := by decide +kernel
theorem d_M_worthOf_9 : decode b_M_worthOf 9 = .ok (.if_icmp .ge 48, 3) := by decide +kernel
theorem d_M_worthOf_12 : decode b_M_worthOf 12 = .ok (.iload_n 1, 1) := by decide +kernel
theorem d_M_worthOf_13 : decode b_M_worthOf 13 = .ok (.iload_n 3, 1) := by decide +kernel
theorem d_M_worthOf_14 : decode b_M_worthOf 14 = .ok (.ishr, 1) := by decide +kernel
theorem d_M_worthOf_15 : decode b_M_worthOf 15 = .ok (.iconst 1, 1) := by decide +kernel
theorem d_M_worthOf_16 : decode b_M_worthOf 16 = .ok (.iand, 1) := by decide +kernel
theorem d_M_worthOf_17 : decode b_M_worthOf 17 = .ok (.iconst 1, 1) := by decide +kernel
theorem d_M_worthOf_18 : decode b_M_worthOf 18 = .ok (.if_icmp .ne 31, 3) := by decide +kernel
theorem d_M_worthOf_21 : decode b_M_worthOf 21 = .ok (.iload_n 2, 1) := by decide +kernel
theorem d_M_worthOf_22 : decode b_M_worthOf 22 = .ok (.aload_n 0, 1) := by decide +kernel
theorem d_M_worthOf_23 : decode b_M_worthOf 23 = .ok (.getfield 13, 3) := by decide +kernel
theorem d_M_worthOf_26 : decode b_M_worthOf 26 = .ok (.iload_n 3, 1) := by decide +kernel
theorem d_M_worthOf_27 : decode b_M_worthOf 27 = .ok (.iaload, 1) := by decide +kernel
theorem d_M_worthOf_28 : decode b_M_worthOf 28 = .ok (.iadd, 1) := by decide +kernel
theorem d_M_worthOf_29 : decode b_M_worthOf 29 = .ok (.iload_n 3, 1) := by decide +kernel
theorem d_M_worthOf_30 : decode b_M_worthOf 30 = .ok (.aload_n 0, 1) := by decide +kernel
theorem d_M_worthOf_31 : decode b_M_worthOf 31 = .ok (.getfield 33, 3) := by decide +kernel
theorem d_M_worthOf_34 : decode b_M_worthOf 34 = .ok (.if_icmp .ne 10, 3) := by decide +kernel
theorem d_M_worthOf_37 : decode b_M_worthOf 37 = .ok (.aload_n 0, 1) := by decide +kernel
theorem d_M_worthOf_38 : decode b_M_worthOf 38 = .ok (.getfield 102, 3) := by decide +kernel
theorem d_M_worthOf_41 : decode b_M_worthOf 41 = .ok (.goto 4, 3) := by decide +kernel
theorem d_M_worthOf_44 : decode b_M_worthOf 44 = .ok (.iconst 0, 1) := by decide +kernel
theorem d_M_worthOf_45 : decode b_M_worthOf 45 = .ok (.iadd, 1) := by decide +kernel
theorem d_M_worthOf_46 : decode b_M_worthOf 46 = .ok (.goto 4, 3) := by decide +kernel
theorem d_M_worthOf_49 : decode b_M_worthOf 49 = .ok (.iload_n 2, 1) := by decide +kernel
theorem d_M_worthOf_50 : decode b_M_worthOf 50 = .ok (.istore_n 2, 1) := by decide +kernel
theorem d_M_worthOf_51 : decode b_M_worthOf 51 = .ok (.iinc 3 1, 3) := by decide +kernel
theorem d_M_worthOf_54 : decode b_M_worthOf 54 = .ok (.goto (-50), 3) := by decide +kernel
theorem d_M_worthOf_57 : decode b_M_worthOf 57 = .ok (.iload_n 2, 1) := by decide +kernel
theorem d_M_worthOf_58 : decode b_M_worthOf 58 = .ok (.ireturn, 1) := by decide +kernel
theorem d_M_find_0 : decode b_M_find 0 = .ok (.aload_n 0, 1) := by decide +kernel
theorem d_M_find_1 : decode b_M_find 1 = .ok (.iconst 0, 1) := by decide +kernel
theorem d_M_find_2 : decode b_M_find 2 = .ok (.putfield 105, 3) := by decide +kernel
theorem d_M_find_5 : decode b_M_find 5 = .ok (.aload_n 0, 1) := by decide +kernel
theorem d_M_find_6 : decode b_M_find 6 = .ok (.iconst 0, 1) := by decide +kernel
theorem d_M_find_7 : decode b_M_find 7 = .ok (.putfield 108, 3) := by decide +kernel
theorem d_M_find_10 : decode b_M_find 10 = .ok (.aload_n 0, 1) := by decide +kernel
theorem d_M_find_11 : decode b_M_find 11 = .ok (.iconst 0, 1) := by decide +kernel
theorem d_M_find_12 : decode b_M_find 12 = .ok (.putfield 111, 3) := by decide +kernel
theorem d_M_find_15 : decode b_M_find 15 = .ok (.iconst 1, 1) := by decide +kernel
theorem d_M_find_16 : decode b_M_find 16 = .ok (.istore_n 3, 1) := by decide +kernel
theorem d_M_find_17 : decode b_M_find 17 = .ok (.iload_n 3, 1) := by decide +kernel
theorem d_M_find_18 : decode b_M_find 18 = .ok (.iconst 1, 1) := by decide +kernel
theorem d_M_find_19 : decode b_M_find 19 = .ok (.aload_n 0, 1) := by decide +kernel
theorem d_M_find_20 : decode b_M_find 20 = .ok (.getfield 72, 3) := by decide +kernel
theorem d_M_find_23 : decode b_M_find 23 = .ok (.ishl, 1) := by decide +kernel
theorem d_M_find_24 : decode b_M_find 24 = .ok (.if_icmp .ge 128, 3) := by decide +kernel
theorem d_M_find_27 : decode b_M_find 27 = .ok (.iload_n 3, 1) := by decide +kernel
theorem d_M_find_28 : decode b_M_find 28 = .ok (.iload_n 2, 1) := by decide +kernel
theorem d_M_find_29 : decode b_M_find 29 = .ok (.iconst (-1), 1) := by decide +kernel
theorem d_M_find_30 : decode b_M_find 30 = .ok (.ixor, 1) := by decide +kernel
theorem d_M_find_31 : decode b_M_find 31 = .ok (.iand, 1) := by decide +kernel
theorem d_M_find_32 : decode b_M_find 32 = .ok (.ifCond .ne 114, 3) := by decide +kernel
theorem d_M_find_35 : decode b_M_find 35 = .ok (.aload_n 0, 1) := by decide +kernel
theorem d_M_find_36 : decode b_M_find 36 = .ok (.iload_n 3, 1) := by decide +kernel
theorem d_M_find_37 : decode b_M_find 37 = .ok (.iload_n 1, 1) := by decide +kernel
theorem d_M_find_38 : decode b_M_find 38 = .ok (.invokevirtual 114, 3) := by decide +kernel
theorem d_M_find_41 : decode b_M_find 41 = .ok (.ifCond .eq 105, 3) := by decide +kernel
theorem d_M_find_44 : decode b_M_find 44 = .ok (.aload_n 0, 1) := by decide +kernel
theorem d_M_find_45 : decode b_M_find 45 = .ok (.iload_n 3, 1) := by decide +kernel
theorem d_M_find_46 : decode b_M_find 46 = .ok (.iload_n 1, 1) := by decide +kernel
theorem d_M_find_47 : decode b_M_find 47 = .ok (.invokevirtual 118, 3) := by decide +kernel
theorem d_M_find_50 : decode b_M_find 50 = .ok (.ifCond .eq 96, 3) := by decide +kernel
theorem d_M_find_53 : decode b_M_find 53 = .ok (.aload_n 0, 1) := by decide +kernel
theorem d_M_find_54 : decode b_M_find 54 = .ok (.iconst 0, 1) := by decide +kernel
theorem d_M_find_55 : decode b_M_find 55 = .ok (.iconst 0, 1) := by decide +kernel
theorem d_M_find_56 : decode b_M_find 56 = .ok (.invokevirtual 121, 3) := by decide +kernel
theorem d_M_find_59 : decode b_M_find 59 = .ok (.ifCond .eq 87, 3) := by decide +kernel
theorem d_M_find_62 : decode b_M_find 62 = .ok (.aload_n 0, 1) := by decide +kernel
theorem d_M_find_63 : decode b_M_find 63 = .ok (.iload_n 3, 1) := by decide +kernel
theorem d_M_find_64 : decode b_M_find 64 = .ok (.invokevirtual 124, 3) := by decide +kernel
theorem d_M_find_67 : decode b_M_find 67 = .ok (.istore 4, 2) := by decide +kernel
theorem d_M_find_69 : decode b_M_find 69 = .ok (.iload_n 3, 1) := by decide +kernel
theorem d_M_find_70 : decode b_M_find 70 = .ok (.aload_n 0, 1) := by decide +kernel
theorem d_M_find_71 : decode b_M_find 71 = .ok (.getfield 108, 3) := by decide +kernel
theorem d_M_find_74 : decode b_M_find 74 = .ok (.ixor, 1) := by decide +kernel
theorem d_M_find_75 : decode b_M_find 75 = .ok (.istore 5, 2) := by decide +kernel
theorem d_M_find_77 : decode b_M_find 77 = .ok (.iload_n 3, 1) := by decide +kernel
theorem d_M_find_78 : decode b_M_find 78 = .ok (.iload 5, 2) := by decide +kernel
theorem d_M_find_80 : decode b_M_find 80 = .ok (.iand, 1) := by decide +kernel
theorem d_M_find_81 : decode b_M_find 81 = .ok (.iload 5, 2) := by decide +kernel
theorem d_M_find_83 : decode b_M_find 83 = .ok (.ineg, 1) := by decide +kernel
theorem d_M_find_84 : decode b_M_find 84 = .ok (.iand, 1) := by decide +kernel
theorem d_M_find_85 : decode b_M_find 85 = .ok (.ifCond .eq 7, 3) := by decide +kernel
theorem d_M_find_88 : decode b_M_find 88 = .ok (.iconst 1, 1) := by decide +kernel
theorem d_M_find_89 : decode b_M_find 89 = .ok (.goto 4, 3) := by decide +kernel
theorem d_M_find_92 : decode b_M_find 92 = .ok (.iconst 0, 1) := by decide +kernel
theorem d_M_find_93 : decode b_M_find 93 = .ok (.istore 6, 2) := by decide +kernel
theorem d_M_find_95 : decode b_M_find 95 = .ok (.aload_n 0, 1) := by decide +kernel
theorem d_M_find_96 : decode b_M_find 96 = .ok (.getfield 105, 3) := by decide +kernel
theorem d_M_find_99 : decode b_M_find 99 = .ok (.ifCond .eq 26, 3) := by decide +kernel
theorem d_M_find_102 : decode b_M_find 102 = .ok (.iload 4, 2) := by decide +kernel
theorem d_M_find_104 : decode b_M_find 104 = .ok (.aload_n 0, 1) := by decide +kernel
theorem d_M_find_105 : decode b_M_find 105 = .ok (.getfield 111, 3) := by decide +kernel
theorem d_M_find_108 : decode b_M_find 108 = .ok (.if_icmp .gt 17, 3) := by decide +kernel
theorem d_M_find_111 : decode b_M_find 111 = .ok (.iload 4, 2) := by decide +kernel
theorem d_M_find_113 : decode b_M_find 113 = .ok (.aload_n 0, 1) := by decide +kernel
theorem d_M_find_114 : decode b_M_find 114 = .ok (.getfield 111, 3) := by decide +kernel
theorem d_M_find_117 : decode b_M_find 117 = .ok (.if_icmp .ne 19, 3) := by decide +kernel
theorem d_M_find_120 : decode b_M_find 120 = .ok (.iload 6, 2) := by decide +kernel
theorem d_M_find_122 : decode b_M_find 122 = .ok (.ifCond .eq 14, 3) := by decide +kernel
theorem d_M_find_125 : decode b_M_find 125 = .ok (.aload_n 0, 1) := by decide +kernel
theorem d_M_find_126 : decode b_M_find 126 = .ok (.iload_n 3, 1) := by decide +kernel
theorem d_M_find_127 : decode b_M_find 127 = .ok (.putfield 108, 3) := by decide +kernel
theorem d_M_find_130 : decode b_M_find 130 = .ok (.aload_n 0, 1) := by decide +kernel
theorem d_M_find_131 : decode b_M_find 131 = .ok (.iload 4, 2) := by decide +kernel
theorem d_M_find_133 : decode b_M_find 133 = .ok (.putfield 111, 3) := by decide +kernel
theorem d_M_find_136 : decode b_M_find 136 = .ok (.aload_n 0, 1) := by decide +kernel
theorem d_M_find_137 : decode b_M_find 137 = .ok (.dup, 1) := by decide +kernel
theorem d_M_find_138 : decode b_M_find 138 = .ok (.getfield 105, 3) := by decide +kernel
theorem d_M_find_141 : decode b_M_find 141 = .ok (.iconst 1, 1) := by decide +kernel
theorem d_M_find_142 : decode b_M_find 142 = .ok (.iadd, 1) := by decide +kernel
theorem d_M_find_143 : decode b_M_find 143 = .ok (.putfield 105, 3) := by decide +kernel
theorem d_M_find_146 : decode b_M_find 146 = .ok (.iinc 3 1, 3) := by decide +kernel
theorem d_M_find_149 : decode b_M_find 149 = .ok (.goto (-132), 3) := by decide +kernel
theorem d_M_find_152 : decode b_M_find 152 = .ok (.aload_n 0, 1) := by decide +kernel
theorem d_M_find_153 : decode b_M_find 153 = .ok (.getfield 105, 3) := by decide +kernel
theorem d_M_find_156 : decode b_M_find 156 = .ok (.ifCond .le 7, 3) := by decide +kernel
theorem d_M_find_159 : decode b_M_find 159 = .ok (.iconst 1, 1) := by decide +kernel
theorem d_M_find_160 : decode b_M_find 160 = .ok (.goto 4, 3) := by decide +kernel
theorem d_M_find_163 : decode b_M_find 163 = .ok (.iconst 0, 1) := by decide +kernel
theorem d_M_find_164 : decode b_M_find 164 = .ok (.ireturn, 1) := by decide +kernel
theorem d_M_all_0 : decode b_M_all 0 = .ok (.iconst 1, 1) := by decide +kernel
theorem d_M_all_1 : decode b_M_all 1 = .ok (.aload_n 0, 1) := by decide +kernel
theorem d_M_all_2 : decode b_M_all 2 = .ok (.getfield 72, 3) := by decide +kernel
theorem d_M_all_5 : decode b_M_all 5 = .ok (.ishl, 1) := by decide +kernel
theorem d_M_all_6 : decode b_M_all 6 = .ok (.iconst 1, 1) := by decide +kernel
theorem d_M_all_7 : decode b_M_all 7 = .ok (.isub, 1) := by decide +kernel
theorem d_M_all_8 : decode b_M_all 8 = .ok (.ireturn, 1) := by decide +kernel
theorem d_M_run_0 : decode b_M_run 0 = .ok (.iload_n 1, 1) := by decide +kernel
theorem d_M_run_1 : decode b_M_run 1 = .ok (.iconst 1, 1) := by decide +kernel
theorem d_M_run_2 : decode b_M_run 2 = .ok (.bipush 6, 2) := by decide +kernel
theorem d_M_run_4 : decode b_M_run 4 = .ok (.invokestatic 75, 3) := by decide +kernel
theorem d_M_run_7 : decode b_M_run 7 = .ok (.ifCond .ne 6, 3) := by decide +kernel
theorem d_M_run_10 : decode b_M_run 10 = .ok (.bipush (-2), 2) := by decide +kernel
theorem d_M_run_12 : decode b_M_run 12 = .ok (.ireturn, 1) := by decide +kernel
theorem d_M_run_13 : decode b_M_run 13 = .ok (.aload_n 0, 1) := by decide +kernel
theorem d_M_run_14 : decode b_M_run 14 = .ok (.invokevirtual 82, 3) := by decide +kernel
theorem d_M_run_17 : decode b_M_run 17 = .ok (.aload_n 0, 1) := by decide +kernel
theorem d_M_run_18 : decode b_M_run 18 = .ok (.iload_n 1, 1) := by decide +kernel
theorem d_M_run_19 : decode b_M_run 19 = .ok (.aload_n 0, 1) := by decide +kernel
theorem d_M_run_20 : decode b_M_run 20 = .ok (.invokevirtual 127, 3) := by decide +kernel
theorem d_M_run_23 : decode b_M_run 23 = .ok (.invokevirtual 131, 3) := by decide +kernel
theorem d_M_run_26 : decode b_M_run 26 = .ok (.ifCond .ne 5, 3) := by decide +kernel
theorem d_M_run_29 : decode b_M_run 29 = .ok (.iconst 0, 1) := by decide +kernel
theorem d_M_run_30 : decode b_M_run 30 = .ok (.ireturn, 1) := by decide +kernel
theorem d_M_run_31 : decode b_M_run 31 = .ok (.aload_n 0, 1) := by decide +kernel
theorem d_M_run_32 : decode b_M_run 32 = .ok (.aload_n 0, 1) := by decide +kernel
theorem d_M_run_33 : decode b_M_run 33 = .ok (.getfield 108, 3) := by decide +kernel
theorem d_M_run_36 : decode b_M_run 36 = .ok (.putfield 134, 3) := by decide +kernel
theorem d_M_run_39 : decode b_M_run 39 = .ok (.aload_n 0, 1) := by decide +kernel
theorem d_M_run_40 : decode b_M_run 40 = .ok (.aload_n 0, 1) := by decide +kernel
theorem d_M_run_41 : decode b_M_run 41 = .ok (.getfield 105, 3) := by decide +kernel
theorem d_M_run_44 : decode b_M_run 44 = .ok (.putfield 137, 3) := by decide +kernel
theorem d_M_run_47 : decode b_M_run 47 = .ok (.aload_n 0, 1) := by decide +kernel
theorem d_M_run_48 : decode b_M_run 48 = .ok (.aload_n 0, 1) := by decide +kernel
theorem d_M_run_49 : decode b_M_run 49 = .ok (.getfield 134, 3) := by decide +kernel
theorem d_M_run_52 : decode b_M_run 52 = .ok (.iload_n 1, 1) := by decide +kernel
theorem d_M_run_53 : decode b_M_run 53 = .ok (.invokevirtual 114, 3) := by decide +kernel
theorem d_M_run_56 : decode b_M_run 56 = .ok (.pop, 1) := by decide +kernel
theorem d_M_run_57 : decode b_M_run 57 = .ok (.aload_n 0, 1) := by decide +kernel
theorem d_M_run_58 : decode b_M_run 58 = .ok (.iload_n 1, 1) := by decide +kernel
end
section
theorem d_M_run_59 : decode b_M_run 59 = .ok (.putfield 79, 3) := by decide +kernel
theorem d_M_run_62 : decode b_M_run 62 = .ok (.iconst 0, 1) := by decide +kernel
theorem d_M_run_63 : decode b_M_run 63 = .ok (.istore_n 2, 1) := by decide +kernel
theorem d_M_run_64 : decode b_M_run 64 = .ok (.iconst 0, 1) := by decide +kernel
theorem d_M_run_65 : decode b_M_run 65 = .ok (.istore_n 3, 1) := by decide +kernel
theorem d_M_run_66 : decode b_M_run 66 = .ok (.iload_n 3, 1) := by decide +kernel
theorem d_M_run_67 : decode b_M_run 67 = .ok (.iload_n 1, 1) := by decide +kernel
theorem d_M_run_68 : decode b_M_run 68 = .ok (.if_icmp .ge 108, 3) := by decide +kernel
theorem d_M_run_71 : decode b_M_run 71 = .ok (.iconst 0, 1) := by decide +kernel
theorem d_M_run_72 : decode b_M_run 72 = .ok (.istore 4, 2) := by decide +kernel
theorem d_M_run_74 : decode b_M_run 74 = .ok (.iload_n 2, 1) := by decide +kernel
theorem d_M_run_75 : decode b_M_run 75 = .ok (.iload 4, 2) := by decide +kernel
theorem d_M_run_77 : decode b_M_run 77 = .ok (.ishr, 1) := by decide +kernel
theorem d_M_run_78 : decode b_M_run 78 = .ok (.iconst 1, 1) := by decide +kernel
theorem d_M_run_79 : decode b_M_run 79 = .ok (.iand, 1) := by decide +kernel
theorem d_M_run_80 : decode b_M_run 80 = .ok (.iconst 1, 1) := by decide +kernel
theorem d_M_run_81 : decode b_M_run 81 = .ok (.if_icmp .eq 44, 3) := by decide +kernel
theorem d_M_run_84 : decode b_M_run 84 = .ok (.aload_n 0, 1) := by decide +kernel
theorem d_M_run_85 : decode b_M_run 85 = .ok (.getfield 22, 3) := by decide +kernel
theorem d_M_run_88 : decode b_M_run 88 = .ok (.bipush 12, 2) := by decide +kernel
theorem d_M_run_90 : decode b_M_run 90 = .ok (.aload_n 0, 1) := by decide +kernel
theorem d_M_run_91 : decode b_M_run 91 = .ok (.getfield 36, 3) := by decide +kernel
theorem d_M_run_94 : decode b_M_run 94 = .ok (.iload_n 3, 1) := by decide +kernel
theorem d_M_run_95 : decode b_M_run 95 = .ok (.iaload, 1) := by decide +kernel
theorem d_M_run_96 : decode b_M_run 96 = .ok (.imul, 1) := by decide +kernel
theorem d_M_run_97 : decode b_M_run 97 = .ok (.aload_n 0, 1) := by decide +kernel
theorem d_M_run_98 : decode b_M_run 98 = .ok (.getfield 39, 3) := by decide +kernel
theorem d_M_run_101 : decode b_M_run 101 = .ok (.iload 4, 2) := by decide +kernel
theorem d_M_run_103 : decode b_M_run 103 = .ok (.iaload, 1) := by decide +kernel
theorem d_M_run_104 : decode b_M_run 104 = .ok (.iadd, 1) := by decide +kernel
theorem d_M_run_105 : decode b_M_run 105 = .ok (.baload, 1) := by decide +kernel
theorem d_M_run_106 : decode b_M_run 106 = .ok (.ifCond .ne 19, 3) := by decide +kernel
theorem d_M_run_109 : decode b_M_run 109 = .ok (.aload_n 0, 1) := by decide +kernel
theorem d_M_run_110 : decode b_M_run 110 = .ok (.iload_n 3, 1) := by decide +kernel
theorem d_M_run_111 : decode b_M_run 111 = .ok (.iconst 1, 1) := by decide +kernel
theorem d_M_run_112 : decode b_M_run 112 = .ok (.iadd, 1) := by decide +kernel
theorem d_M_run_113 : decode b_M_run 113 = .ok (.iload_n 2, 1) := by decide +kernel
theorem d_M_run_114 : decode b_M_run 114 = .ok (.iconst 1, 1) := by decide +kernel
theorem d_M_run_115 : decode b_M_run 115 = .ok (.iload 4, 2) := by decide +kernel
theorem d_M_run_117 : decode b_M_run 117 = .ok (.ishl, 1) := by decide +kernel
theorem d_M_run_118 : decode b_M_run 118 = .ok (.ior, 1) := by decide +kernel
theorem d_M_run_119 : decode b_M_run 119 = .ok (.invokevirtual 121, 3) := by decide +kernel
theorem d_M_run_122 : decode b_M_run 122 = .ok (.ifCond .ne 9, 3) := by decide +kernel
theorem d_M_run_125 : decode b_M_run 125 = .ok (.iinc 4 1, 3) := by decide +kernel
theorem d_M_run_128 : decode b_M_run 128 = .ok (.goto (-54), 3) := by decide +kernel
theorem d_M_run_131 : decode b_M_run 131 = .ok (.iload_n 2, 1) := by decide +kernel
theorem d_M_run_132 : decode b_M_run 132 = .ok (.iconst 1, 1) := by decide +kernel
theorem d_M_run_133 : decode b_M_run 133 = .ok (.iload 4, 2) := by decide +kernel
theorem d_M_run_135 : decode b_M_run 135 = .ok (.ishl, 1) := by decide +kernel
theorem d_M_run_136 : decode b_M_run 136 = .ok (.ior, 1) := by decide +kernel
theorem d_M_run_137 : decode b_M_run 137 = .ok (.istore_n 2, 1) := by decide +kernel
theorem d_M_run_138 : decode b_M_run 138 = .ok (.aload_n 0, 1) := by decide +kernel
theorem d_M_run_139 : decode b_M_run 139 = .ok (.getfield 48, 3) := by decide +kernel
theorem d_M_run_142 : decode b_M_run 142 = .ok (.iload_n 3, 1) := by decide +kernel
theorem d_M_run_143 : decode b_M_run 143 = .ok (.aload_n 0, 1) := by decide +kernel
theorem d_M_run_144 : decode b_M_run 144 = .ok (.getfield 36, 3) := by decide +kernel
theorem d_M_run_147 : decode b_M_run 147 = .ok (.iload_n 3, 1) := by decide +kernel
theorem d_M_run_148 : decode b_M_run 148 = .ok (.iaload, 1) := by decide +kernel
theorem d_M_run_149 : decode b_M_run 149 = .ok (.iastore, 1) := by decide +kernel
theorem d_M_run_150 : decode b_M_run 150 = .ok (.aload_n 0, 1) := by decide +kernel
theorem d_M_run_151 : decode b_M_run 151 = .ok (.getfield 51, 3) := by decide +kernel
theorem d_M_run_154 : decode b_M_run 154 = .ok (.iload_n 3, 1) := by decide +kernel
theorem d_M_run_155 : decode b_M_run 155 = .ok (.aload_n 0, 1) := by decide +kernel
theorem d_M_run_156 : decode b_M_run 156 = .ok (.getfield 39, 3) := by decide +kernel
theorem d_M_run_159 : decode b_M_run 159 = .ok (.iload 4, 2) := by decide +kernel
theorem d_M_run_161 : decode b_M_run 161 = .ok (.iaload, 1) := by decide +kernel
theorem d_M_run_162 : decode b_M_run 162 = .ok (.iastore, 1) := by decide +kernel
theorem d_M_run_163 : decode b_M_run 163 = .ok (.aload_n 0, 1) := by decide +kernel
theorem d_M_run_164 : decode b_M_run 164 = .ok (.getfield 54, 3) := by decide +kernel
theorem d_M_run_167 : decode b_M_run 167 = .ok (.iload_n 3, 1) := by decide +kernel
theorem d_M_run_168 : decode b_M_run 168 = .ok (.iconst 0, 1) := by decide +kernel
theorem d_M_run_169 : decode b_M_run 169 = .ok (.iastore, 1) := by decide +kernel
theorem d_M_run_170 : decode b_M_run 170 = .ok (.iinc 3 1, 3) := by decide +kernel
theorem d_M_run_173 : decode b_M_run 173 = .ok (.goto (-107), 3) := by decide +kernel
theorem d_M_run_176 : decode b_M_run 176 = .ok (.iload_n 1, 1) := by decide +kernel
theorem d_M_run_177 : decode b_M_run 177 = .ok (.ireturn, 1) := by decide +kernel
theorem d_M_pairOf_0 : decode b_M_pairOf 0 = .ok (.iload_n 1, 1) := by decide +kernel
theorem d_M_pairOf_1 : decode b_M_pairOf 1 = .ok (.iconst 0, 1) := by decide +kernel
theorem d_M_pairOf_2 : decode b_M_pairOf 2 = .ok (.aload_n 0, 1) := by decide +kernel
theorem d_M_pairOf_3 : decode b_M_pairOf 3 = .ok (.getfield 79, 3) := by decide +kernel
theorem d_M_pairOf_6 : decode b_M_pairOf 6 = .ok (.iconst 1, 1) := by decide +kernel
theorem d_M_pairOf_7 : decode b_M_pairOf 7 = .ok (.isub, 1) := by decide +kernel
theorem d_M_pairOf_8 : decode b_M_pairOf 8 = .ok (.invokestatic 75, 3) := by decide +kernel
theorem d_M_pairOf_11 : decode b_M_pairOf 11 = .ok (.ifCond .ne 7, 3) := by decide +kernel
theorem d_M_pairOf_14 : decode b_M_pairOf 14 = .ok (.iconst (-1), 1) := by decide +kernel
theorem d_M_pairOf_15 : decode b_M_pairOf 15 = .ok (.goto 36, 3) := by decide +kernel
theorem d_M_pairOf_18 : decode b_M_pairOf 18 = .ok (.iload_n 2, 1) := by decide +kernel
theorem d_M_pairOf_19 : decode b_M_pairOf 19 = .ok (.iconst 0, 1) := by decide +kernel
theorem d_M_pairOf_20 : decode b_M_pairOf 20 = .ok (.iconst 1, 1) := by decide +kernel
theorem d_M_pairOf_21 : decode b_M_pairOf 21 = .ok (.invokestatic 75, 3) := by decide +kernel
theorem d_M_pairOf_24 : decode b_M_pairOf 24 = .ok (.ifCond .ne 8, 3) := by decide +kernel
theorem d_M_pairOf_27 : decode b_M_pairOf 27 = .ok (.bipush (-2), 2) := by decide +kernel
theorem d_M_pairOf_29 : decode b_M_pairOf 29 = .ok (.goto 22, 3) := by decide +kernel
theorem d_M_pairOf_32 : decode b_M_pairOf 32 = .ok (.iload_n 2, 1) := by decide +kernel
theorem d_M_pairOf_33 : decode b_M_pairOf 33 = .ok (.ifCond .ne 12, 3) := by decide +kernel
theorem d_M_pairOf_36 : decode b_M_pairOf 36 = .ok (.aload_n 0, 1) := by decide +kernel
theorem d_M_pairOf_37 : decode b_M_pairOf 37 = .ok (.getfield 48, 3) := by decide +kernel
theorem d_M_pairOf_40 : decode b_M_pairOf 40 = .ok (.iload_n 1, 1) := by decide +kernel
theorem d_M_pairOf_41 : decode b_M_pairOf 41 = .ok (.iaload, 1) := by decide +kernel
theorem d_M_pairOf_42 : decode b_M_pairOf 42 = .ok (.goto 9, 3) := by decide +kernel
theorem d_M_pairOf_45 : decode b_M_pairOf 45 = .ok (.aload_n 0, 1) := by decide +kernel
theorem d_M_pairOf_46 : decode b_M_pairOf 46 = .ok (.getfield 51, 3) := by decide +kernel
theorem d_M_pairOf_49 : decode b_M_pairOf 49 = .ok (.iload_n 1, 1) := by decide +kernel
theorem d_M_pairOf_50 : decode b_M_pairOf 50 = .ok (.iaload, 1) := by decide +kernel
theorem d_M_pairOf_51 : decode b_M_pairOf 51 = .ok (.ireturn, 1) := by decide +kernel
theorem d_M_told_0 : decode b_M_told 0 = .ok (.iload_n 1, 1) := by decide +kernel
theorem d_M_told_1 : decode b_M_told 1 = .ok (.iconst 0, 1) := by decide +kernel
theorem d_M_told_2 : decode b_M_told 2 = .ok (.iconst 3, 1) := by decide +kernel
theorem d_M_told_3 : decode b_M_told 3 = .ok (.invokestatic 75, 3) := by decide +kernel
theorem d_M_told_6 : decode b_M_told 6 = .ok (.ifCond .ne 6, 3) := by decide +kernel
theorem d_M_told_9 : decode b_M_told 9 = .ok (.bipush (-2), 2) := by decide +kernel
theorem d_M_told_11 : decode b_M_told 11 = .ok (.ireturn, 1) := by decide +kernel
theorem d_M_told_12 : decode b_M_told 12 = .ok (.aload_n 0, 1) := by decide +kernel
theorem d_M_told_13 : decode b_M_told 13 = .ok (.getfield 79, 3) := by decide +kernel
theorem d_M_told_16 : decode b_M_told 16 = .ok (.ifCond .ne 6, 3) := by decide +kernel
theorem d_M_told_19 : decode b_M_told 19 = .ok (.bipush (-3), 2) := by decide +kernel
theorem d_M_told_21 : decode b_M_told 21 = .ok (.ireturn, 1) := by decide +kernel
theorem d_M_told_22 : decode b_M_told 22 = .ok (.iload_n 1, 1) := by decide +kernel
theorem d_M_told_23 : decode b_M_told 23 = .ok (.ifCond .ne 14, 3) := by decide +kernel
theorem d_M_told_26 : decode b_M_told 26 = .ok (.aload_n 0, 1) := by decide +kernel
theorem d_M_told_27 : decode b_M_told 27 = .ok (.aload_n 0, 1) := by decide +kernel
theorem d_M_told_28 : decode b_M_told 28 = .ok (.getfield 134, 3) := by decide +kernel
theorem d_M_told_31 : decode b_M_told 31 = .ok (.invokevirtual 124, 3) := by decide +kernel
theorem d_M_told_34 : decode b_M_told 34 = .ok (.goto 35, 3) := by decide +kernel
theorem d_M_told_37 : decode b_M_told 37 = .ok (.iload_n 1, 1) := by decide +kernel
theorem d_M_told_38 : decode b_M_told 38 = .ok (.iconst 1, 1) := by decide +kernel
theorem d_M_told_39 : decode b_M_told 39 = .ok (.if_icmp .ne 14, 3) := by decide +kernel
theorem d_M_told_42 : decode b_M_told 42 = .ok (.aload_n 0, 1) := by decide +kernel
theorem d_M_told_43 : decode b_M_told 43 = .ok (.aload_n 0, 1) := by decide +kernel
theorem d_M_told_44 : decode b_M_told 44 = .ok (.getfield 134, 3) := by decide +kernel
theorem d_M_told_47 : decode b_M_told 47 = .ok (.invokevirtual 95, 3) := by decide +kernel
theorem d_M_told_50 : decode b_M_told 50 = .ok (.goto 19, 3) := by decide +kernel
theorem d_M_told_53 : decode b_M_told 53 = .ok (.iload_n 1, 1) := by decide +kernel
theorem d_M_told_54 : decode b_M_told 54 = .ok (.iconst 2, 1) := by decide +kernel
theorem d_M_told_55 : decode b_M_told 55 = .ok (.if_icmp .ne 10, 3) := by decide +kernel
theorem d_M_told_58 : decode b_M_told 58 = .ok (.aload_n 0, 1) := by decide +kernel
theorem d_M_told_59 : decode b_M_told 59 = .ok (.getfield 79, 3) := by decide +kernel
theorem d_M_told_62 : decode b_M_told 62 = .ok (.goto 7, 3) := by decide +kernel
theorem d_M_told_65 : decode b_M_told 65 = .ok (.aload_n 0, 1) := by decide +kernel
theorem d_M_told_66 : decode b_M_told 66 = .ok (.getfield 137, 3) := by decide +kernel
theorem d_M_told_69 : decode b_M_told 69 = .ok (.ireturn, 1) := by decide +kernel
theorem d_M_pairWorth_0 : decode b_M_pairWorth 0 = .ok (.aload_n 0, 1) := by decide +kernel
theorem d_M_pairWorth_1 : decode b_M_pairWorth 1 = .ok (.getfield 13, 3) := by decide +kernel
theorem d_M_pairWorth_4 : decode b_M_pairWorth 4 = .ok (.aload_n 0, 1) := by decide +kernel
theorem d_M_pairWorth_5 : decode b_M_pairWorth 5 = .ok (.getfield 48, 3) := by decide +kernel
theorem d_M_pairWorth_8 : decode b_M_pairWorth 8 = .ok (.iload_n 1, 1) := by decide +kernel
theorem d_M_pairWorth_9 : decode b_M_pairWorth 9 = .ok (.iaload, 1) := by decide +kernel
theorem d_M_pairWorth_10 : decode b_M_pairWorth 10 = .ok (.iaload, 1) := by decide +kernel
theorem d_M_pairWorth_11 : decode b_M_pairWorth 11 = .ok (.aload_n 0, 1) := by decide +kernel
theorem d_M_pairWorth_12 : decode b_M_pairWorth 12 = .ok (.getfield 13, 3) := by decide +kernel
theorem d_M_pairWorth_15 : decode b_M_pairWorth 15 = .ok (.aload_n 0, 1) := by decide +kernel
theorem d_M_pairWorth_16 : decode b_M_pairWorth 16 = .ok (.getfield 51, 3) := by decide +kernel
theorem d_M_pairWorth_19 : decode b_M_pairWorth 19 = .ok (.iload_n 1, 1) := by decide +kernel
theorem d_M_pairWorth_20 : decode b_M_pairWorth 20 = .ok (.iaload, 1) := by decide +kernel
theorem d_M_pairWorth_21 : decode b_M_pairWorth 21 = .ok (.iaload, 1) := by decide +kernel
theorem d_M_pairWorth_22 : decode b_M_pairWorth 22 = .ok (.iadd, 1) := by decide +kernel
theorem d_M_pairWorth_23 : decode b_M_pairWorth 23 = .ok (.ireturn, 1) := by decide +kernel
theorem d_M_eggs_0 : decode b_M_eggs 0 = .ok (.iload_n 1, 1) := by decide +kernel
theorem d_M_eggs_1 : decode b_M_eggs 1 = .ok (.iconst 0, 1) := by decide +kernel
theorem d_M_eggs_2 : decode b_M_eggs 2 = .ok (.ldc 140, 2) := by decide +kernel
theorem d_M_eggs_4 : decode b_M_eggs 4 = .ok (.invokestatic 75, 3) := by decide +kernel
theorem d_M_eggs_7 : decode b_M_eggs 7 = .ok (.ifCond .ne 6, 3) := by decide +kernel
theorem d_M_eggs_10 : decode b_M_eggs 10 = .ok (.bipush (-2), 2) := by decide +kernel
theorem d_M_eggs_12 : decode b_M_eggs 12 = .ok (.ireturn, 1) := by decide +kernel
theorem d_M_eggs_13 : decode b_M_eggs 13 = .ok (.aload_n 0, 1) := by decide +kernel
theorem d_M_eggs_14 : decode b_M_eggs 14 = .ok (.getfield 79, 3) := by decide +kernel
theorem d_M_eggs_17 : decode b_M_eggs 17 = .ok (.ifCond .ne 6, 3) := by decide +kernel
theorem d_M_eggs_20 : decode b_M_eggs 20 = .ok (.bipush (-3), 2) := by decide +kernel
theorem d_M_eggs_22 : decode b_M_eggs 22 = .ok (.ireturn, 1) := by decide +kernel
theorem d_M_eggs_23 : decode b_M_eggs 23 = .ok (.aload_n 0, 1) := by decide +kernel
theorem d_M_eggs_24 : decode b_M_eggs 24 = .ok (.iconst 0, 1) := by decide +kernel
theorem d_M_eggs_25 : decode b_M_eggs 25 = .ok (.invokevirtual 141, 3) := by decide +kernel
theorem d_M_eggs_28 : decode b_M_eggs 28 = .ok (.istore_n 2, 1) := by decide +kernel
theorem d_M_eggs_29 : decode b_M_eggs 29 = .ok (.iconst 1, 1) := by decide +kernel
theorem d_M_eggs_30 : decode b_M_eggs 30 = .ok (.istore_n 3, 1) := by decide +kernel
theorem d_M_eggs_31 : decode b_M_eggs 31 = .ok (.iload_n 3, 1) := by decide +kernel
theorem d_M_eggs_32 : decode b_M_eggs 32 = .ok (.aload_n 0, 1) := by decide +kernel
theorem d_M_eggs_33 : decode b_M_eggs 33 = .ok (.getfield 79, 3) := by decide +kernel
theorem d_M_eggs_36 : decode b_M_eggs 36 = .ok (.if_icmp .ge 28, 3) := by decide +kernel
theorem d_M_eggs_39 : decode b_M_eggs 39 = .ok (.aload_n 0, 1) := by decide +kernel
theorem d_M_eggs_40 : decode b_M_eggs 40 = .ok (.iload_n 3, 1) := by decide +kernel
theorem d_M_eggs_41 : decode b_M_eggs 41 = .ok (.invokevirtual 141, 3) := by decide +kernel
theorem d_M_eggs_44 : decode b_M_eggs 44 = .ok (.iload_n 2, 1) := by decide +kernel
theorem d_M_eggs_45 : decode b_M_eggs 45 = .ok (.if_icmp .ge 11, 3) := by decide +kernel
theorem d_M_eggs_48 : decode b_M_eggs 48 = .ok (.aload_n 0, 1) := by decide +kernel
theorem d_M_eggs_49 : decode b_M_eggs 49 = .ok (.iload_n 3, 1) := by decide +kernel
theorem d_M_eggs_50 : decode b_M_eggs 50 = .ok (.invokevirtual 141, 3) := by decide +kernel
theorem d_M_eggs_53 : decode b_M_eggs 53 = .ok (.goto 4, 3) := by decide +kernel
theorem d_M_eggs_56 : decode b_M_eggs 56 = .ok (.iload_n 2, 1) := by decide +kernel
theorem d_M_eggs_57 : decode b_M_eggs 57 = .ok (.istore_n 2, 1) := by decide +kernel
theorem d_M_eggs_58 : decode b_M_eggs 58 = .ok (.iinc 3 1, 3) := by decide +kernel
theorem d_M_eggs_61 : decode b_M_eggs 61 = .ok (.goto (-30), 3) := by decide +kernel
theorem d_M_eggs_64 : decode b_M_eggs 64 = .ok (.lconst 0, 1) := by decide +kernel
theorem d_M_eggs_65 : decode b_M_eggs 65 = .ok (.lstore_n 3, 1) := by decide +kernel
theorem d_M_eggs_66 : decode b_M_eggs 66 = .ok (.iconst 0, 1) := by decide +kernel
theorem d_M_eggs_67 : decode b_M_eggs 67 = .ok (.istore 5, 2) := by decide +kernel
theorem d_M_eggs_69 : decode b_M_eggs 69 = .ok (.iload 5, 2) := by decide +kernel
theorem d_M_eggs_71 : decode b_M_eggs 71 = .ok (.aload_n 0, 1) := by decide +kernel
theorem d_M_eggs_72 : decode b_M_eggs 72 = .ok (.getfield 79, 3) := by decide +kernel
theorem d_M_eggs_75 : decode b_M_eggs 75 = .ok (.if_icmp .ge 37, 3) := by decide +kernel
theorem d_M_eggs_78 : decode b_M_eggs 78 = .ok (.aload_n 0, 1) := by decide +kernel
theorem d_M_eggs_79 : decode b_M_eggs 79 = .ok (.getfield 57, 3) := by decide +kernel
theorem d_M_eggs_82 : decode b_M_eggs 82 = .ok (.iload 5, 2) := by decide +kernel
theorem d_M_eggs_84 : decode b_M_eggs 84 = .ok (.aload_n 0, 1) := by decide +kernel
theorem d_M_eggs_85 : decode b_M_eggs 85 = .ok (.iload 5, 2) := by decide +kernel
theorem d_M_eggs_87 : decode b_M_eggs 87 = .ok (.invokevirtual 141, 3) := by decide +kernel
theorem d_M_eggs_90 : decode b_M_eggs 90 = .ok (.iload_n 2, 1) := by decide +kernel
theorem d_M_eggs_91 : decode b_M_eggs 91 = .ok (.isub, 1) := by decide +kernel
theorem d_M_eggs_92 : decode b_M_eggs 92 = .ok (.iconst 1, 1) := by decide +kernel
theorem d_M_eggs_93 : decode b_M_eggs 93 = .ok (.iadd, 1) := by decide +kernel
theorem d_M_eggs_94 : decode b_M_eggs 94 = .ok (.iastore, 1) := by decide +kernel
theorem d_M_eggs_95 : decode b_M_eggs 95 = .ok (.lload_n 3, 1) := by decide +kernel
theorem d_M_eggs_96 : decode b_M_eggs 96 = .ok (.aload_n 0, 1) := by decide +kernel
theorem d_M_eggs_97 : decode b_M_eggs 97 = .ok (.getfield 57, 3) := by decide +kernel
theorem d_M_eggs_100 : decode b_M_eggs 100 = .ok (.iload 5, 2) := by decide +kernel
theorem d_M_eggs_102 : decode b_M_eggs 102 = .ok (.iaload, 1) := by decide +kernel
theorem d_M_eggs_103 : decode b_M_eggs 103 = .ok (.i2l, 1) := by decide +kernel
theorem d_M_eggs_104 : decode b_M_eggs 104 = .ok (.ladd, 1) := by decide +kernel
theorem d_M_eggs_105 : decode b_M_eggs 105 = .ok (.lstore_n 3, 1) := by decide +kernel
theorem d_M_eggs_106 : decode b_M_eggs 106 = .ok (.iinc 5 1, 3) := by decide +kernel
theorem d_M_eggs_109 : decode b_M_eggs 109 = .ok (.goto (-40), 3) := by decide +kernel
theorem d_M_eggs_112 : decode b_M_eggs 112 = .ok (.iload_n 1, 1) := by decide +kernel
theorem d_M_eggs_113 : decode b_M_eggs 113 = .ok (.istore 5, 2) := by decide +kernel
theorem d_M_eggs_115 : decode b_M_eggs 115 = .ok (.iconst 0, 1) := by decide +kernel
theorem d_M_eggs_116 : decode b_M_eggs 116 = .ok (.istore 6, 2) := by decide +kernel
theorem d_M_eggs_118 : decode b_M_eggs 118 = .ok (.iload 6, 2) := by decide +kernel
theorem d_M_eggs_120 : decode b_M_eggs 120 = .ok (.aload_n 0, 1) := by decide +kernel
theorem d_M_eggs_121 : decode b_M_eggs 121 = .ok (.getfield 79, 3) := by decide +kernel
theorem d_M_eggs_124 : decode b_M_eggs 124 = .ok (.if_icmp .ge 63, 3) := by decide +kernel
theorem d_M_eggs_127 : decode b_M_eggs 127 = .ok (.aload_n 0, 1) := by decide +kernel
theorem d_M_eggs_128 : decode b_M_eggs 128 = .ok (.getfield 54, 3) := by decide +kernel
theorem d_M_eggs_131 : decode b_M_eggs 131 = .ok (.iload 6, 2) := by decide +kernel
theorem d_M_eggs_133 : decode b_M_eggs 133 = .ok (.iload_n 1, 1) := by decide +kernel
theorem d_M_eggs_134 : decode b_M_eggs 134 = .ok (.i2l, 1) := by decide +kernel
theorem d_M_eggs_135 : decode b_M_eggs 135 = .ok (.aload_n 0, 1) := by decide +kernel
theorem d_M_eggs_136 : decode b_M_eggs 136 = .ok (.getfield 57, 3) := by decide +kernel
theorem d_M_eggs_139 : decode b_M_eggs 139 = .ok (.iload 6, 2) := by decide +kernel
theorem d_M_eggs_141 : decode b_M_eggs 141 = .ok (.iaload, 1) := by decide +kernel
theorem d_M_eggs_142 : decode b_M_eggs 142 = .ok (.i2l, 1) := by decide +kernel
theorem d_M_eggs_143 : decode b_M_eggs 143 = .ok (.lmul, 1) := by decide +kernel
theorem d_M_eggs_144 : decode b_M_eggs 144 = .ok (.lload_n 3, 1) := by decide +kernel
theorem d_M_eggs_145 : decode b_M_eggs 145 = .ok (.ldiv, 1) := by decide +kernel
theorem d_M_eggs_146 : decode b_M_eggs 146 = .ok (.l2i, 1) := by decide +kernel
theorem d_M_eggs_147 : decode b_M_eggs 147 = .ok (.iastore, 1) := by decide +kernel
theorem d_M_eggs_148 : decode b_M_eggs 148 = .ok (.aload_n 0, 1) := by decide +kernel
theorem d_M_eggs_149 : decode b_M_eggs 149 = .ok (.getfield 60, 3) := by decide +kernel
theorem d_M_eggs_152 : decode b_M_eggs 152 = .ok (.iload 6, 2) := by decide +kernel
theorem d_M_eggs_154 : decode b_M_eggs 154 = .ok (.iload_n 1, 1) := by decide +kernel
theorem d_M_eggs_155 : decode b_M_eggs 155 = .ok (.i2l, 1) := by decide +kernel
theorem d_M_eggs_156 : decode b_M_eggs 156 = .ok (.aload_n 0, 1) := by decide +kernel
theorem d_M_eggs_157 : decode b_M_eggs 157 = .ok (.getfield 57, 3) := by decide +kernel
theorem d_M_eggs_160 : decode b_M_eggs 160 = .ok (.iload 6, 2) := by decide +kernel
theorem d_M_eggs_162 : decode b_M_eggs 162 = .ok (.iaload, 1) := by decide +kernel
theorem d_M_eggs_163 : decode b_M_eggs 163 = .ok (.i2l, 1) := by decide +kernel
theorem d_M_eggs_164 : decode b_M_eggs 164 = .ok (.lmul, 1) := by decide +kernel
theorem d_M_eggs_165 : decode b_M_eggs 165 = .ok (.lload_n 3, 1) := by decide +kernel
theorem d_M_eggs_166 : decode b_M_eggs 166 = .ok (.lrem, 1) := by decide +kernel
theorem d_M_eggs_167 : decode b_M_eggs 167 = .ok (.l2i, 1) := by decide +kernel
theorem d_M_eggs_168 : decode b_M_eggs 168 = .ok (.iastore, 1) := by decide +kernel
theorem d_M_eggs_169 : decode b_M_eggs 169 = .ok (.iload 5, 2) := by decide +kernel
theorem d_M_eggs_171 : decode b_M_eggs 171 = .ok (.aload_n 0, 1) := by decide +kernel
theorem d_M_eggs_172 : decode b_M_eggs 172 = .ok (.getfield 54, 3) := by decide +kernel
theorem d_M_eggs_175 : decode b_M_eggs 175 = .ok (.iload 6, 2) := by decide +kernel
theorem d_M_eggs_177 : decode b_M_eggs 177 = .ok (.iaload, 1) := by decide +kernel
theorem d_M_eggs_178 : decode b_M_eggs 178 = .ok (.isub, 1) := by decide +kernel
theorem d_M_eggs_179 : decode b_M_eggs 179 = .ok (.istore 5, 2) := by decide +kernel
theorem d_M_eggs_181 : decode b_M_eggs 181 = .ok (.iinc 6 1, 3) := by decide +kernel
theorem d_M_eggs_184 : decode b_M_eggs 184 = .ok (.goto (-66), 3) := by decide +kernel
theorem d_M_eggs_187 : decode b_M_eggs 187 = .ok (.iload 5, 2) := by decide +kernel
theorem d_M_eggs_189 : decode b_M_eggs 189 = .ok (.ifCond .le 75, 3) := by decide +kernel
theorem d_M_eggs_192 : decode b_M_eggs 192 = .ok (.iconst 0, 1) := by decide +kernel
theorem d_M_eggs_193 : decode b_M_eggs 193 = .ok (.istore 6, 2) := by decide +kernel
theorem d_M_eggs_195 : decode b_M_eggs 195 = .ok (.iconst 1, 1) := by decide +kernel
theorem d_M_eggs_196 : decode b_M_eggs 196 = .ok (.istore 7, 2) := by decide +kernel
theorem d_M_eggs_198 : decode b_M_eggs 198 = .ok (.iload 7, 2) := by decide +kernel
theorem d_M_eggs_200 : decode b_M_eggs 200 = .ok (.aload_n 0, 1) := by decide +kernel
theorem d_M_eggs_201 : decode b_M_eggs 201 = .ok (.getfield 79, 3) := by decide +kernel
theorem d_M_eggs_204 : decode b_M_eggs 204 = .ok (.if_icmp .ge 35, 3) := by decide +kernel
theorem d_M_eggs_207 : decode b_M_eggs 207 = .ok (.aload_n 0, 1) := by decide +kernel
theorem d_M_eggs_208 : decode b_M_eggs 208 = .ok (.getfield 60, 3) := by decide +kernel
theorem d_M_eggs_211 : decode b_M_eggs 211 = .ok (.iload 7, 2) := by decide +kernel
theorem d_M_eggs_213 : decode b_M_eggs 213 = .ok (.iaload, 1) := by decide +kernel
theorem d_M_eggs_214 : decode b_M_eggs 214 = .ok (.aload_n 0, 1) := by decide +kernel
theorem d_M_eggs_215 : decode b_M_eggs 215 = .ok (.getfield 60, 3) := by decide +kernel
theorem d_M_eggs_218 : decode b_M_eggs 218 = .ok (.iload 6, 2) := by decide +kernel
theorem d_M_eggs_220 : decode b_M_eggs 220 = .ok (.iaload, 1) := by decide +kernel
theorem d_M_eggs_221 : decode b_M_eggs 221 = .ok (.if_icmp .le 8, 3) := by decide +kernel
theorem d_M_eggs_224 : decode b_M_eggs 224 = .ok (.iload 7, 2) := by decide +kernel
theorem d_M_eggs_226 : decode b_M_eggs 226 = .ok (.goto 5, 3) := by decide +kernel
theorem d_M_eggs_229 : decode b_M_eggs 229 = .ok (.iload 6, 2) := by decide +kernel
theorem d_M_eggs_231 : decode b_M_eggs 231 = .ok (.istore 6, 2) := by decide +kernel
theorem d_M_eggs_233 : decode b_M_eggs 233 = .ok (.iinc 7 1, 3) := by decide +kernel
theorem d_M_eggs_236 : decode b_M_eggs 236 = .ok (.goto (-38), 3) := by decide +kernel
theorem d_M_eggs_239 : decode b_M_eggs 239 = .ok (.aload_n 0, 1) := by decide +kernel
theorem d_M_eggs_240 : decode b_M_eggs 240 = .ok (.getfield 54, 3) := by decide +kernel
theorem d_M_eggs_243 : decode b_M_eggs 243 = .ok (.iload 6, 2) := by decide +kernel
theorem d_M_eggs_245 : decode b_M_eggs 245 = .ok (.dup2, 1) := by decide +kernel
theorem d_M_eggs_246 : decode b_M_eggs 246 = .ok (.iaload, 1) := by decide +kernel
theorem d_M_eggs_247 : decode b_M_eggs 247 = .ok (.iconst 1, 1) := by decide +kernel
theorem d_M_eggs_248 : decode b_M_eggs 248 = .ok (.iadd, 1) := by decide +kernel
theorem d_M_eggs_249 : decode b_M_eggs 249 = .ok (.iastore, 1) := by decide +kernel
theorem d_M_eggs_250 : decode b_M_eggs 250 = .ok (.aload_n 0, 1) := by decide +kernel
theorem d_M_eggs_251 : decode b_M_eggs 251 = .ok (.getfield 60, 3) := by decide +kernel
theorem d_M_eggs_254 : decode b_M_eggs 254 = .ok (.iload 6, 2) := by decide +kernel
theorem d_M_eggs_256 : decode b_M_eggs 256 = .ok (.iconst (-1), 1) := by decide +kernel
theorem d_M_eggs_257 : decode b_M_eggs 257 = .ok (.iastore, 1) := by decide +kernel
theorem d_M_eggs_258 : decode b_M_eggs 258 = .ok (.iinc 5 (-1), 3) := by decide +kernel
theorem d_M_eggs_261 : decode b_M_eggs 261 = .ok (.goto (-74), 3) := by decide +kernel
theorem d_M_eggs_264 : decode b_M_eggs 264 = .ok (.aload_n 0, 1) := by decide +kernel
theorem d_M_eggs_265 : decode b_M_eggs 265 = .ok (.getfield 54, 3) := by decide +kernel
theorem d_M_eggs_268 : decode b_M_eggs 268 = .ok (.iconst 0, 1) := by decide +kernel
theorem d_M_eggs_269 : decode b_M_eggs 269 = .ok (.iaload, 1) := by decide +kernel
theorem d_M_eggs_270 : decode b_M_eggs 270 = .ok (.ireturn, 1) := by decide +kernel
theorem d_M_eggsOf_0 : decode b_M_eggsOf 0 = .ok (.iload_n 1, 1) := by decide +kernel
theorem d_M_eggsOf_1 : decode b_M_eggsOf 1 = .ok (.iconst 0, 1) := by decide +kernel
theorem d_M_eggsOf_2 : decode b_M_eggsOf 2 = .ok (.aload_n 0, 1) := by decide +kernel
theorem d_M_eggsOf_3 : decode b_M_eggsOf 3 = .ok (.getfield 79, 3) := by decide +kernel
theorem d_M_eggsOf_6 : decode b_M_eggsOf 6 = .ok (.iconst 1, 1) := by decide +kernel
theorem d_M_eggsOf_7 : decode b_M_eggsOf 7 = .ok (.isub, 1) := by decide +kernel
theorem d_M_eggsOf_8 : decode b_M_eggsOf 8 = .ok (.invokestatic 75, 3) := by decide +kernel
theorem d_M_eggsOf_11 : decode b_M_eggsOf 11 = .ok (.ifCond .eq 12, 3) := by decide +kernel
theorem d_M_eggsOf_14 : decode b_M_eggsOf 14 = .ok (.aload_n 0, 1) := by decide +kernel
theorem d_M_eggsOf_15 : decode b_M_eggsOf 15 = .ok (.getfield 54, 3) := by decide +kernel
theorem d_M_eggsOf_18 : decode b_M_eggsOf 18 = .ok (.iload_n 1, 1) := by decide +kernel
theorem d_M_eggsOf_19 : decode b_M_eggsOf 19 = .ok (.iaload, 1) := by decide +kernel
theorem d_M_eggsOf_20 : decode b_M_eggsOf 20 = .ok (.goto 4, 3) := by decide +kernel
theorem d_M_eggsOf_23 : decode b_M_eggsOf 23 = .ok (.iconst (-1), 1) := by decide +kernel
theorem d_M_eggsOf_24 : decode b_M_eggsOf 24 = .ok (.ireturn, 1) := by decide +kernel
theorem d_M_backUp_0 : decode b_M_backUp 0 = .ok (.iload_n 1, 1) := by decide +kernel
theorem d_M_backUp_1 : decode b_M_backUp 1 = .ok (.iconst 0, 1) := by decide +kernel
theorem d_M_backUp_2 : decode b_M_backUp 2 = .ok (.aload_n 0, 1) := by decide +kernel
theorem d_M_backUp_3 : decode b_M_backUp 3 = .ok (.getfield 79, 3) := by decide +kernel
theorem d_M_backUp_6 : decode b_M_backUp 6 = .ok (.iconst 1, 1) := by decide +kernel
theorem d_M_backUp_7 : decode b_M_backUp 7 = .ok (.isub, 1) := by decide +kernel
theorem d_M_backUp_8 : decode b_M_backUp 8 = .ok (.invokestatic 75, 3) := by decide +kernel
theorem d_M_backUp_11 : decode b_M_backUp 11 = .ok (.ifCond .ne 5, 3) := by decide +kernel
theorem d_M_backUp_14 : decode b_M_backUp 14 = .ok (.iconst (-1), 1) := by decide +kernel
theorem d_M_backUp_15 : decode b_M_backUp 15 = .ok (.ireturn, 1) := by decide +kernel
theorem d_M_backUp_16 : decode b_M_backUp 16 = .ok (.bipush (-3), 2) := by decide +kernel
theorem d_M_backUp_18 : decode b_M_backUp 18 = .ok (.istore_n 2, 1) := by decide +kernel
theorem d_M_backUp_19 : decode b_M_backUp 19 = .ok (.iconst 0, 1) := by decide +kernel
theorem d_M_backUp_20 : decode b_M_backUp 20 = .ok (.istore_n 3, 1) := by decide +kernel
theorem d_M_backUp_21 : decode b_M_backUp 21 = .ok (.iload_n 3, 1) := by decide +kernel
theorem d_M_backUp_22 : decode b_M_backUp 22 = .ok (.aload_n 0, 1) := by decide +kernel
theorem d_M_backUp_23 : decode b_M_backUp 23 = .ok (.getfield 72, 3) := by decide +kernel
theorem d_M_backUp_26 : decode b_M_backUp 26 = .ok (.if_icmp .ge 119, 3) := by decide +kernel
theorem d_M_backUp_29 : decode b_M_backUp 29 = .ok (.aload_n 0, 1) := by decide +kernel
theorem d_M_backUp_30 : decode b_M_backUp 30 = .ok (.getfield 134, 3) := by decide +kernel
theorem d_M_backUp_33 : decode b_M_backUp 33 = .ok (.iconst 1, 1) := by decide +kernel
theorem d_M_backUp_34 : decode b_M_backUp 34 = .ok (.aload_n 0, 1) := by decide +kernel
theorem d_M_backUp_35 : decode b_M_backUp 35 = .ok (.getfield 48, 3) := by decide +kernel
theorem d_M_backUp_38 : decode b_M_backUp 38 = .ok (.iload_n 1, 1) := by decide +kernel
theorem d_M_backUp_39 : decode b_M_backUp 39 = .ok (.iaload, 1) := by decide +kernel
theorem d_M_backUp_40 : decode b_M_backUp 40 = .ok (.ishl, 1) := by decide +kernel
theorem d_M_backUp_41 : decode b_M_backUp 41 = .ok (.iconst (-1), 1) := by decide +kernel
theorem d_M_backUp_42 : decode b_M_backUp 42 = .ok (.ixor, 1) := by decide +kernel
theorem d_M_backUp_43 : decode b_M_backUp 43 = .ok (.iand, 1) := by decide +kernel
theorem d_M_backUp_44 : decode b_M_backUp 44 = .ok (.iconst 1, 1) := by decide +kernel
theorem d_M_backUp_45 : decode b_M_backUp 45 = .ok (.iload_n 3, 1) := by decide +kernel
theorem d_M_backUp_46 : decode b_M_backUp 46 = .ok (.ishl, 1) := by decide +kernel
theorem d_M_backUp_47 : decode b_M_backUp 47 = .ok (.ior, 1) := by decide +kernel
theorem d_M_backUp_48 : decode b_M_backUp 48 = .ok (.istore 4, 2) := by decide +kernel
theorem d_M_backUp_50 : decode b_M_backUp 50 = .ok (.aload_n 0, 1) := by decide +kernel
theorem d_M_backUp_51 : decode b_M_backUp 51 = .ok (.getfield 7, 3) := by decide +kernel
theorem d_M_backUp_54 : decode b_M_backUp 54 = .ok (.iload_n 3, 1) := by decide +kernel
theorem d_M_backUp_55 : decode b_M_backUp 55 = .ok (.iaload, 1) := by decide +kernel
theorem d_M_backUp_56 : decode b_M_backUp 56 = .ok (.ifCond .ne 50, 3) := by decide +kernel
theorem d_M_backUp_59 : decode b_M_backUp 59 = .ok (.aload_n 0, 1) := by decide +kernel
theorem d_M_backUp_60 : decode b_M_backUp 60 = .ok (.getfield 134, 3) := by decide +kernel
theorem d_M_backUp_63 : decode b_M_backUp 63 = .ok (.iload_n 3, 1) := by decide +kernel
theorem d_M_backUp_64 : decode b_M_backUp 64 = .ok (.ishr, 1) := by decide +kernel
theorem d_M_backUp_65 : decode b_M_backUp 65 = .ok (.iconst 1, 1) := by decide +kernel
theorem d_M_backUp_66 : decode b_M_backUp 66 = .ok (.iand, 1) := by decide +kernel
theorem d_M_backUp_67 : decode b_M_backUp 67 = .ok (.ifCond .ne 39, 3) := by decide +kernel
theorem d_M_backUp_70 : decode b_M_backUp 70 = .ok (.aload_n 0, 1) := by decide +kernel
theorem d_M_backUp_71 : decode b_M_backUp 71 = .ok (.getfield 22, 3) := by decide +kernel
theorem d_M_backUp_74 : decode b_M_backUp 74 = .ok (.bipush 12, 2) := by decide +kernel
theorem d_M_backUp_76 : decode b_M_backUp 76 = .ok (.iload_n 3, 1) := by decide +kernel
theorem d_M_backUp_77 : decode b_M_backUp 77 = .ok (.imul, 1) := by decide +kernel
theorem d_M_backUp_78 : decode b_M_backUp 78 = .ok (.aload_n 0, 1) := by decide +kernel
theorem d_M_backUp_79 : decode b_M_backUp 79 = .ok (.getfield 51, 3) := by decide +kernel
theorem d_M_backUp_82 : decode b_M_backUp 82 = .ok (.iload_n 1, 1) := by decide +kernel
theorem d_M_backUp_83 : decode b_M_backUp 83 = .ok (.iaload, 1) := by decide +kernel
theorem d_M_backUp_84 : decode b_M_backUp 84 = .ok (.iadd, 1) := by decide +kernel
theorem d_M_backUp_85 : decode b_M_backUp 85 = .ok (.baload, 1) := by decide +kernel
theorem d_M_backUp_86 : decode b_M_backUp 86 = .ok (.ifCond .ne 20, 3) := by decide +kernel
theorem d_M_backUp_89 : decode b_M_backUp 89 = .ok (.aload_n 0, 1) := by decide +kernel
theorem d_M_backUp_90 : decode b_M_backUp 90 = .ok (.iload 4, 2) := by decide +kernel
theorem d_M_backUp_92 : decode b_M_backUp 92 = .ok (.aload_n 0, 1) := by decide +kernel
theorem d_M_backUp_93 : decode b_M_backUp 93 = .ok (.getfield 79, 3) := by decide +kernel
theorem d_M_backUp_96 : decode b_M_backUp 96 = .ok (.invokevirtual 118, 3) := by decide +kernel
theorem d_M_backUp_99 : decode b_M_backUp 99 = .ok (.ifCond .eq 7, 3) := by decide +kernel
theorem d_M_backUp_102 : decode b_M_backUp 102 = .ok (.iconst 1, 1) := by decide +kernel
theorem d_M_backUp_103 : decode b_M_backUp 103 = .ok (.goto 4, 3) := by decide +kernel
theorem d_M_backUp_106 : decode b_M_backUp 106 = .ok (.iconst 0, 1) := by decide +kernel
theorem d_M_backUp_107 : decode b_M_backUp 107 = .ok (.istore 5, 2) := by decide +kernel
theorem d_M_backUp_109 : decode b_M_backUp 109 = .ok (.iload 5, 2) := by decide +kernel
theorem d_M_backUp_111 : decode b_M_backUp 111 = .ok (.ifCond .eq 26, 3) := by decide +kernel
theorem d_M_backUp_114 : decode b_M_backUp 114 = .ok (.iload_n 2, 1) := by decide +kernel
theorem d_M_backUp_115 : decode b_M_backUp 115 = .ok (.ifCond .lt 18, 3) := by decide +kernel
end
section
theorem d_M_backUp_118 : decode b_M_backUp 118 = .ok (.aload_n 0, 1) := by decide +kernel
theorem d_M_backUp_119 : decode b_M_backUp 119 = .ok (.getfield 13, 3) := by decide +kernel
theorem d_M_backUp_122 : decode b_M_backUp 122 = .ok (.iload_n 3, 1) := by decide +kernel
theorem d_M_backUp_123 : decode b_M_backUp 123 = .ok (.iaload, 1) := by decide +kernel
theorem d_M_backUp_124 : decode b_M_backUp 124 = .ok (.aload_n 0, 1) := by decide +kernel
theorem d_M_backUp_125 : decode b_M_backUp 125 = .ok (.getfield 13, 3) := by decide +kernel
theorem d_M_backUp_128 : decode b_M_backUp 128 = .ok (.iload_n 2, 1) := by decide +kernel
theorem d_M_backUp_129 : decode b_M_backUp 129 = .ok (.iaload, 1) := by decide +kernel
theorem d_M_backUp_130 : decode b_M_backUp 130 = .ok (.if_icmp .le 7, 3) := by decide +kernel
theorem d_M_backUp_133 : decode b_M_backUp 133 = .ok (.iload_n 3, 1) := by decide +kernel
theorem d_M_backUp_134 : decode b_M_backUp 134 = .ok (.goto 4, 3) := by decide +kernel
theorem d_M_backUp_137 : decode b_M_backUp 137 = .ok (.iload_n 2, 1) := by decide +kernel
theorem d_M_backUp_138 : decode b_M_backUp 138 = .ok (.istore_n 2, 1) := by decide +kernel
theorem d_M_backUp_139 : decode b_M_backUp 139 = .ok (.iinc 3 1, 3) := by decide +kernel
theorem d_M_backUp_142 : decode b_M_backUp 142 = .ok (.goto (-121), 3) := by decide +kernel
theorem d_M_backUp_145 : decode b_M_backUp 145 = .ok (.iload_n 2, 1) := by decide +kernel
theorem d_M_backUp_146 : decode b_M_backUp 146 = .ok (.ireturn, 1) := by decide +kernel
theorem d_M_test_0 : decode b_M_test 0 = .ok (.iload_n 1, 1) := by decide +kernel
theorem d_M_test_1 : decode b_M_test 1 = .ok (.iconst 1, 1) := by decide +kernel
theorem d_M_test_2 : decode b_M_test 2 = .ok (.bipush 6, 2) := by decide +kernel
theorem d_M_test_4 : decode b_M_test 4 = .ok (.invokestatic 75, 3) := by decide +kernel
theorem d_M_test_7 : decode b_M_test 7 = .ok (.ifCond .eq 14, 3) := by decide +kernel
theorem d_M_test_10 : decode b_M_test 10 = .ok (.iload_n 2, 1) := by decide +kernel
theorem d_M_test_11 : decode b_M_test 11 = .ok (.iconst 1, 1) := by decide +kernel
theorem d_M_test_12 : decode b_M_test 12 = .ok (.sipush 10000, 3) := by decide +kernel
theorem d_M_test_15 : decode b_M_test 15 = .ok (.invokestatic 75, 3) := by decide +kernel
theorem d_M_test_18 : decode b_M_test 18 = .ok (.ifCond .ne 6, 3) := by decide +kernel
theorem d_M_test_21 : decode b_M_test 21 = .ok (.bipush (-2), 2) := by decide +kernel
theorem d_M_test_23 : decode b_M_test 23 = .ok (.ireturn, 1) := by decide +kernel
theorem d_M_test_24 : decode b_M_test 24 = .ok (.aload_n 0, 1) := by decide +kernel
theorem d_M_test_25 : decode b_M_test 25 = .ok (.iload_n 1, 1) := by decide +kernel
theorem d_M_test_26 : decode b_M_test 26 = .ok (.aload_n 0, 1) := by decide +kernel
theorem d_M_test_27 : decode b_M_test 27 = .ok (.invokevirtual 127, 3) := by decide +kernel
theorem d_M_test_30 : decode b_M_test 30 = .ok (.invokevirtual 131, 3) := by decide +kernel
theorem d_M_test_33 : decode b_M_test 33 = .ok (.ifCond .ne 6, 3) := by decide +kernel
theorem d_M_test_36 : decode b_M_test 36 = .ok (.bipush (-3), 2) := by decide +kernel
theorem d_M_test_38 : decode b_M_test 38 = .ok (.ireturn, 1) := by decide +kernel
theorem d_M_test_39 : decode b_M_test 39 = .ok (.iconst 0, 1) := by decide +kernel
theorem d_M_test_40 : decode b_M_test 40 = .ok (.istore_n 3, 1) := by decide +kernel
theorem d_M_test_41 : decode b_M_test 41 = .ok (.iconst 0, 1) := by decide +kernel
theorem d_M_test_42 : decode b_M_test 42 = .ok (.istore 4, 2) := by decide +kernel
theorem d_M_test_44 : decode b_M_test 44 = .ok (.iconst 0, 1) := by decide +kernel
theorem d_M_test_45 : decode b_M_test 45 = .ok (.istore 5, 2) := by decide +kernel
theorem d_M_test_47 : decode b_M_test 47 = .ok (.iload 5, 2) := by decide +kernel
theorem d_M_test_49 : decode b_M_test 49 = .ok (.aload_n 0, 1) := by decide +kernel
theorem d_M_test_50 : decode b_M_test 50 = .ok (.getfield 72, 3) := by decide +kernel
theorem d_M_test_53 : decode b_M_test 53 = .ok (.if_icmp .ge 80, 3) := by decide +kernel
theorem d_M_test_56 : decode b_M_test 56 = .ok (.aload_n 0, 1) := by decide +kernel
theorem d_M_test_57 : decode b_M_test 57 = .ok (.iload 5, 2) := by decide +kernel
theorem d_M_test_59 : decode b_M_test 59 = .ok (.putfield 33, 3) := by decide +kernel
theorem d_M_test_62 : decode b_M_test 62 = .ok (.aload_n 0, 1) := by decide +kernel
theorem d_M_test_63 : decode b_M_test 63 = .ok (.iload_n 2, 1) := by decide +kernel
theorem d_M_test_64 : decode b_M_test 64 = .ok (.putfield 102, 3) := by decide +kernel
theorem d_M_test_67 : decode b_M_test 67 = .ok (.aload_n 0, 1) := by decide +kernel
theorem d_M_test_68 : decode b_M_test 68 = .ok (.iload_n 1, 1) := by decide +kernel
theorem d_M_test_69 : decode b_M_test 69 = .ok (.aload_n 0, 1) := by decide +kernel
theorem d_M_test_70 : decode b_M_test 70 = .ok (.invokevirtual 127, 3) := by decide +kernel
theorem d_M_test_73 : decode b_M_test 73 = .ok (.invokevirtual 131, 3) := by decide +kernel
theorem d_M_test_76 : decode b_M_test 76 = .ok (.pop, 1) := by decide +kernel
theorem d_M_test_77 : decode b_M_test 77 = .ok (.aload_n 0, 1) := by decide +kernel
theorem d_M_test_78 : decode b_M_test 78 = .ok (.getfield 111, 3) := by decide +kernel
theorem d_M_test_81 : decode b_M_test 81 = .ok (.istore 6, 2) := by decide +kernel
theorem d_M_test_83 : decode b_M_test 83 = .ok (.aload_n 0, 1) := by decide +kernel
theorem d_M_test_84 : decode b_M_test 84 = .ok (.iload_n 2, 1) := by decide +kernel
theorem d_M_test_85 : decode b_M_test 85 = .ok (.ineg, 1) := by decide +kernel
theorem d_M_test_86 : decode b_M_test 86 = .ok (.putfield 102, 3) := by decide +kernel
theorem d_M_test_89 : decode b_M_test 89 = .ok (.aload_n 0, 1) := by decide +kernel
theorem d_M_test_90 : decode b_M_test 90 = .ok (.iload_n 1, 1) := by decide +kernel
theorem d_M_test_91 : decode b_M_test 91 = .ok (.aload_n 0, 1) := by decide +kernel
theorem d_M_test_92 : decode b_M_test 92 = .ok (.invokevirtual 127, 3) := by decide +kernel
theorem d_M_test_95 : decode b_M_test 95 = .ok (.invokevirtual 131, 3) := by decide +kernel
theorem d_M_test_98 : decode b_M_test 98 = .ok (.pop, 1) := by decide +kernel
theorem d_M_test_99 : decode b_M_test 99 = .ok (.iload 6, 2) := by decide +kernel
theorem d_M_test_101 : decode b_M_test 101 = .ok (.aload_n 0, 1) := by decide +kernel
theorem d_M_test_102 : decode b_M_test 102 = .ok (.getfield 111, 3) := by decide +kernel
theorem d_M_test_105 : decode b_M_test 105 = .ok (.iadd, 1) := by decide +kernel
theorem d_M_test_106 : decode b_M_test 106 = .ok (.istore 6, 2) := by decide +kernel
theorem d_M_test_108 : decode b_M_test 108 = .ok (.iload 5, 2) := by decide +kernel
theorem d_M_test_110 : decode b_M_test 110 = .ok (.ifCond .eq 10, 3) := by decide +kernel
theorem d_M_test_113 : decode b_M_test 113 = .ok (.iload 6, 2) := by decide +kernel
theorem d_M_test_115 : decode b_M_test 115 = .ok (.iload 4, 2) := by decide +kernel
theorem d_M_test_117 : decode b_M_test 117 = .ok (.if_icmp .le 10, 3) := by decide +kernel
theorem d_M_test_120 : decode b_M_test 120 = .ok (.iload 5, 2) := by decide +kernel
theorem d_M_test_122 : decode b_M_test 122 = .ok (.istore_n 3, 1) := by decide +kernel
theorem d_M_test_123 : decode b_M_test 123 = .ok (.iload 6, 2) := by decide +kernel
theorem d_M_test_125 : decode b_M_test 125 = .ok (.istore 4, 2) := by decide +kernel
theorem d_M_test_127 : decode b_M_test 127 = .ok (.iinc 5 1, 3) := by decide +kernel
theorem d_M_test_130 : decode b_M_test 130 = .ok (.goto (-83), 3) := by decide +kernel
theorem d_M_test_133 : decode b_M_test 133 = .ok (.aload_n 0, 1) := by decide +kernel
theorem d_M_test_134 : decode b_M_test 134 = .ok (.iconst (-1), 1) := by decide +kernel
theorem d_M_test_135 : decode b_M_test 135 = .ok (.putfield 33, 3) := by decide +kernel
theorem d_M_test_138 : decode b_M_test 138 = .ok (.iload_n 3, 1) := by decide +kernel
theorem d_M_test_139 : decode b_M_test 139 = .ok (.ireturn, 1) := by decide +kernel
theorem d_M_dies_0 : decode b_M_dies 0 = .ok (.lload_n 3, 1) := by decide +kernel
theorem d_M_dies_1 : decode b_M_dies 1 = .ok (.ldc2_w 144, 3) := by decide +kernel
theorem d_M_dies_4 : decode b_M_dies 4 = .ok (.iload_n 0, 1) := by decide +kernel
theorem d_M_dies_5 : decode b_M_dies 5 = .ok (.i2l, 1) := by decide +kernel
theorem d_M_dies_6 : decode b_M_dies 6 = .ok (.lmul, 1) := by decide +kernel
theorem d_M_dies_7 : decode b_M_dies 7 = .ok (.ladd, 1) := by decide +kernel
theorem d_M_dies_8 : decode b_M_dies 8 = .ok (.iload_n 1, 1) := by decide +kernel
theorem d_M_dies_9 : decode b_M_dies 9 = .ok (.i2l, 1) := by decide +kernel
theorem d_M_dies_10 : decode b_M_dies 10 = .ok (.ladd, 1) := by decide +kernel
theorem d_M_dies_11 : decode b_M_dies 11 = .ok (.lconst 1, 1) := by decide +kernel
theorem d_M_dies_12 : decode b_M_dies 12 = .ok (.ladd, 1) := by decide +kernel
theorem d_M_dies_13 : decode b_M_dies 13 = .ok (.ldc2_w 146, 3) := by decide +kernel
theorem d_M_dies_16 : decode b_M_dies 16 = .ok (.lmul, 1) := by decide +kernel
theorem d_M_dies_17 : decode b_M_dies 17 = .ok (.lstore 5, 2) := by decide +kernel
theorem d_M_dies_19 : decode b_M_dies 19 = .ok (.lload 5, 2) := by decide +kernel
theorem d_M_dies_21 : decode b_M_dies 21 = .ok (.lload 5, 2) := by decide +kernel
theorem d_M_dies_23 : decode b_M_dies 23 = .ok (.bipush 29, 2) := by decide +kernel
theorem d_M_dies_25 : decode b_M_dies 25 = .ok (.lushr, 1) := by decide +kernel
theorem d_M_dies_26 : decode b_M_dies 26 = .ok (.lxor, 1) := by decide +kernel
theorem d_M_dies_27 : decode b_M_dies 27 = .ok (.ldc2_w 148, 3) := by decide +kernel
theorem d_M_dies_30 : decode b_M_dies 30 = .ok (.lmul, 1) := by decide +kernel
theorem d_M_dies_31 : decode b_M_dies 31 = .ok (.lstore 5, 2) := by decide +kernel
theorem d_M_dies_33 : decode b_M_dies 33 = .ok (.lload 5, 2) := by decide +kernel
theorem d_M_dies_35 : decode b_M_dies 35 = .ok (.bipush 33, 2) := by decide +kernel
theorem d_M_dies_37 : decode b_M_dies 37 = .ok (.lushr, 1) := by decide +kernel
theorem d_M_dies_38 : decode b_M_dies 38 = .ok (.ldc2_w 150, 3) := by decide +kernel
theorem d_M_dies_41 : decode b_M_dies 41 = .ok (.lrem, 1) := by decide +kernel
theorem d_M_dies_42 : decode b_M_dies 42 = .ok (.iload_n 2, 1) := by decide +kernel
theorem d_M_dies_43 : decode b_M_dies 43 = .ok (.i2l, 1) := by decide +kernel
theorem d_M_dies_44 : decode b_M_dies 44 = .ok (.lcmp, 1) := by decide +kernel
theorem d_M_dies_45 : decode b_M_dies 45 = .ok (.ifCond .ge 7, 3) := by decide +kernel
theorem d_M_dies_48 : decode b_M_dies 48 = .ok (.iconst 1, 1) := by decide +kernel
theorem d_M_dies_49 : decode b_M_dies 49 = .ok (.goto 4, 3) := by decide +kernel
theorem d_M_dies_52 : decode b_M_dies 52 = .ok (.iconst 0, 1) := by decide +kernel
theorem d_M_dies_53 : decode b_M_dies 53 = .ok (.ireturn, 1) := by decide +kernel
theorem d_M_ahead_0 : decode b_M_ahead 0 = .ok (.iload_n 1, 1) := by decide +kernel
theorem d_M_ahead_1 : decode b_M_ahead 1 = .ok (.iconst 1, 1) := by decide +kernel
theorem d_M_ahead_2 : decode b_M_ahead 2 = .ok (.bipush 20, 2) := by decide +kernel
theorem d_M_ahead_4 : decode b_M_ahead 4 = .ok (.invokestatic 75, 3) := by decide +kernel
theorem d_M_ahead_7 : decode b_M_ahead 7 = .ok (.ifCond .eq 25, 3) := by decide +kernel
theorem d_M_ahead_10 : decode b_M_ahead 10 = .ok (.iload_n 2, 1) := by decide +kernel
theorem d_M_ahead_11 : decode b_M_ahead 11 = .ok (.iconst 0, 1) := by decide +kernel
theorem d_M_ahead_12 : decode b_M_ahead 12 = .ok (.sipush 1000, 3) := by decide +kernel
theorem d_M_ahead_15 : decode b_M_ahead 15 = .ok (.invokestatic 75, 3) := by decide +kernel
theorem d_M_ahead_18 : decode b_M_ahead 18 = .ok (.ifCond .eq 14, 3) := by decide +kernel
theorem d_M_ahead_21 : decode b_M_ahead 21 = .ok (.iload 5, 2) := by decide +kernel
theorem d_M_ahead_23 : decode b_M_ahead 23 = .ok (.iconst 1, 1) := by decide +kernel
theorem d_M_ahead_24 : decode b_M_ahead 24 = .ok (.bipush 6, 2) := by decide +kernel
theorem d_M_ahead_26 : decode b_M_ahead 26 = .ok (.invokestatic 75, 3) := by decide +kernel
theorem d_M_ahead_29 : decode b_M_ahead 29 = .ok (.ifCond .ne 6, 3) := by decide +kernel
theorem d_M_ahead_32 : decode b_M_ahead 32 = .ok (.bipush (-2), 2) := by decide +kernel
theorem d_M_ahead_34 : decode b_M_ahead 34 = .ok (.ireturn, 1) := by decide +kernel
theorem d_M_ahead_35 : decode b_M_ahead 35 = .ok (.aload_n 0, 1) := by decide +kernel
theorem d_M_ahead_36 : decode b_M_ahead 36 = .ok (.iload_n 1, 1) := by decide +kernel
theorem d_M_ahead_37 : decode b_M_ahead 37 = .ok (.putfield 152, 3) := by decide +kernel
theorem d_M_ahead_40 : decode b_M_ahead 40 = .ok (.aload_n 0, 1) := by decide +kernel
theorem d_M_ahead_41 : decode b_M_ahead 41 = .ok (.invokevirtual 127, 3) := by decide +kernel
theorem d_M_ahead_44 : decode b_M_ahead 44 = .ok (.istore 6, 2) := by decide +kernel
theorem d_M_ahead_46 : decode b_M_ahead 46 = .ok (.iconst 0, 1) := by decide +kernel
theorem d_M_ahead_47 : decode b_M_ahead 47 = .ok (.istore 7, 2) := by decide +kernel
theorem d_M_ahead_49 : decode b_M_ahead 49 = .ok (.iload 7, 2) := by decide +kernel
theorem d_M_ahead_51 : decode b_M_ahead 51 = .ok (.aload_n 0, 1) := by decide +kernel
theorem d_M_ahead_52 : decode b_M_ahead 52 = .ok (.getfield 152, 3) := by decide +kernel
theorem d_M_ahead_55 : decode b_M_ahead 55 = .ok (.if_icmp .ge 114, 3) := by decide +kernel
theorem d_M_ahead_58 : decode b_M_ahead 58 = .ok (.aload_n 0, 1) := by decide +kernel
theorem d_M_ahead_59 : decode b_M_ahead 59 = .ok (.getfield 63, 3) := by decide +kernel
theorem d_M_ahead_62 : decode b_M_ahead 62 = .ok (.iload 7, 2) := by decide +kernel
theorem d_M_ahead_64 : decode b_M_ahead 64 = .ok (.iconst 0, 1) := by decide +kernel
theorem d_M_ahead_65 : decode b_M_ahead 65 = .ok (.iastore, 1) := by decide +kernel
theorem d_M_ahead_66 : decode b_M_ahead 66 = .ok (.iconst 0, 1) := by decide +kernel
theorem d_M_ahead_67 : decode b_M_ahead 67 = .ok (.istore 8, 2) := by decide +kernel
theorem d_M_ahead_69 : decode b_M_ahead 69 = .ok (.iload 8, 2) := by decide +kernel
theorem d_M_ahead_71 : decode b_M_ahead 71 = .ok (.aload_n 0, 1) := by decide +kernel
theorem d_M_ahead_72 : decode b_M_ahead 72 = .ok (.getfield 72, 3) := by decide +kernel
theorem d_M_ahead_75 : decode b_M_ahead 75 = .ok (.if_icmp .ge 54, 3) := by decide +kernel
theorem d_M_ahead_78 : decode b_M_ahead 78 = .ok (.iload 7, 2) := by decide +kernel
theorem d_M_ahead_80 : decode b_M_ahead 80 = .ok (.iload 8, 2) := by decide +kernel
theorem d_M_ahead_82 : decode b_M_ahead 82 = .ok (.iload_n 2, 1) := by decide +kernel
theorem d_M_ahead_83 : decode b_M_ahead 83 = .ok (.lload_n 3, 1) := by decide +kernel
theorem d_M_ahead_84 : decode b_M_ahead 84 = .ok (.invokestatic 155, 3) := by decide +kernel
theorem d_M_ahead_87 : decode b_M_ahead 87 = .ok (.ifCond .eq 15, 3) := by decide +kernel
theorem d_M_ahead_90 : decode b_M_ahead 90 = .ok (.iload 6, 2) := by decide +kernel
theorem d_M_ahead_92 : decode b_M_ahead 92 = .ok (.iconst 1, 1) := by decide +kernel
theorem d_M_ahead_93 : decode b_M_ahead 93 = .ok (.iload 8, 2) := by decide +kernel
theorem d_M_ahead_95 : decode b_M_ahead 95 = .ok (.ishl, 1) := by decide +kernel
theorem d_M_ahead_96 : decode b_M_ahead 96 = .ok (.iconst (-1), 1) := by decide +kernel
theorem d_M_ahead_97 : decode b_M_ahead 97 = .ok (.ixor, 1) := by decide +kernel
theorem d_M_ahead_98 : decode b_M_ahead 98 = .ok (.iand, 1) := by decide +kernel
theorem d_M_ahead_99 : decode b_M_ahead 99 = .ok (.goto 5, 3) := by decide +kernel
theorem d_M_ahead_102 : decode b_M_ahead 102 = .ok (.iload 6, 2) := by decide +kernel
theorem d_M_ahead_104 : decode b_M_ahead 104 = .ok (.istore 6, 2) := by decide +kernel
theorem d_M_ahead_106 : decode b_M_ahead 106 = .ok (.aload_n 0, 1) := by decide +kernel
theorem d_M_ahead_107 : decode b_M_ahead 107 = .ok (.getfield 63, 3) := by decide +kernel
theorem d_M_ahead_110 : decode b_M_ahead 110 = .ok (.iload 7, 2) := by decide +kernel
theorem d_M_ahead_112 : decode b_M_ahead 112 = .ok (.dup2, 1) := by decide +kernel
theorem d_M_ahead_113 : decode b_M_ahead 113 = .ok (.iaload, 1) := by decide +kernel
theorem d_M_ahead_114 : decode b_M_ahead 114 = .ok (.iload 6, 2) := by decide +kernel
theorem d_M_ahead_116 : decode b_M_ahead 116 = .ok (.iload 8, 2) := by decide +kernel
theorem d_M_ahead_118 : decode b_M_ahead 118 = .ok (.ishr, 1) := by decide +kernel
theorem d_M_ahead_119 : decode b_M_ahead 119 = .ok (.iconst 1, 1) := by decide +kernel
theorem d_M_ahead_120 : decode b_M_ahead 120 = .ok (.iand, 1) := by decide +kernel
theorem d_M_ahead_121 : decode b_M_ahead 121 = .ok (.iadd, 1) := by decide +kernel
theorem d_M_ahead_122 : decode b_M_ahead 122 = .ok (.iastore, 1) := by decide +kernel
theorem d_M_ahead_123 : decode b_M_ahead 123 = .ok (.iinc 8 1, 3) := by decide +kernel
theorem d_M_ahead_126 : decode b_M_ahead 126 = .ok (.goto (-57), 3) := by decide +kernel
theorem d_M_ahead_129 : decode b_M_ahead 129 = .ok (.aload_n 0, 1) := by decide +kernel
theorem d_M_ahead_130 : decode b_M_ahead 130 = .ok (.getfield 66, 3) := by decide +kernel
theorem d_M_ahead_133 : decode b_M_ahead 133 = .ok (.iload 7, 2) := by decide +kernel
theorem d_M_ahead_135 : decode b_M_ahead 135 = .ok (.aload_n 0, 1) := by decide +kernel
theorem d_M_ahead_136 : decode b_M_ahead 136 = .ok (.iload 5, 2) := by decide +kernel
theorem d_M_ahead_138 : decode b_M_ahead 138 = .ok (.iload 6, 2) := by decide +kernel
theorem d_M_ahead_140 : decode b_M_ahead 140 = .ok (.invokevirtual 131, 3) := by decide +kernel
theorem d_M_ahead_143 : decode b_M_ahead 143 = .ok (.ifCond .eq 7, 3) := by decide +kernel
theorem d_M_ahead_146 : decode b_M_ahead 146 = .ok (.iconst 1, 1) := by decide +kernel
theorem d_M_ahead_147 : decode b_M_ahead 147 = .ok (.goto 4, 3) := by decide +kernel
theorem d_M_ahead_150 : decode b_M_ahead 150 = .ok (.iconst 0, 1) := by decide +kernel
theorem d_M_ahead_151 : decode b_M_ahead 151 = .ok (.iastore, 1) := by decide +kernel
theorem d_M_ahead_152 : decode b_M_ahead 152 = .ok (.aload_n 0, 1) := by decide +kernel
theorem d_M_ahead_153 : decode b_M_ahead 153 = .ok (.getfield 69, 3) := by decide +kernel
theorem d_M_ahead_156 : decode b_M_ahead 156 = .ok (.iload 7, 2) := by decide +kernel
theorem d_M_ahead_158 : decode b_M_ahead 158 = .ok (.aload_n 0, 1) := by decide +kernel
theorem d_M_ahead_159 : decode b_M_ahead 159 = .ok (.getfield 111, 3) := by decide +kernel
theorem d_M_ahead_162 : decode b_M_ahead 162 = .ok (.iastore, 1) := by decide +kernel
theorem d_M_ahead_163 : decode b_M_ahead 163 = .ok (.iinc 7 1, 3) := by decide +kernel
theorem d_M_ahead_166 : decode b_M_ahead 166 = .ok (.goto (-117), 3) := by decide +kernel
theorem d_M_ahead_169 : decode b_M_ahead 169 = .ok (.aload_n 0, 1) := by decide +kernel
theorem d_M_ahead_170 : decode b_M_ahead 170 = .ok (.getfield 63, 3) := by decide +kernel
theorem d_M_ahead_173 : decode b_M_ahead 173 = .ok (.aload_n 0, 1) := by decide +kernel
theorem d_M_ahead_174 : decode b_M_ahead 174 = .ok (.getfield 152, 3) := by decide +kernel
theorem d_M_ahead_177 : decode b_M_ahead 177 = .ok (.iconst 1, 1) := by decide +kernel
theorem d_M_ahead_178 : decode b_M_ahead 178 = .ok (.isub, 1) := by decide +kernel
theorem d_M_ahead_179 : decode b_M_ahead 179 = .ok (.iaload, 1) := by decide +kernel
theorem d_M_ahead_180 : decode b_M_ahead 180 = .ok (.ireturn, 1) := by decide +kernel
theorem d_M_after_0 : decode b_M_after 0 = .ok (.iload_n 1, 1) := by decide +kernel
theorem d_M_after_1 : decode b_M_after 1 = .ok (.iconst 0, 1) := by decide +kernel
theorem d_M_after_2 : decode b_M_after 2 = .ok (.aload_n 0, 1) := by decide +kernel
theorem d_M_after_3 : decode b_M_after 3 = .ok (.getfield 152, 3) := by decide +kernel
theorem d_M_after_6 : decode b_M_after 6 = .ok (.iconst 1, 1) := by decide +kernel
theorem d_M_after_7 : decode b_M_after 7 = .ok (.isub, 1) := by decide +kernel
theorem d_M_after_8 : decode b_M_after 8 = .ok (.invokestatic 75, 3) := by decide +kernel
theorem d_M_after_11 : decode b_M_after 11 = .ok (.ifCond .ne 5, 3) := by decide +kernel
theorem d_M_after_14 : decode b_M_after 14 = .ok (.iconst (-1), 1) := by decide +kernel
theorem d_M_after_15 : decode b_M_after 15 = .ok (.ireturn, 1) := by decide +kernel
theorem d_M_after_16 : decode b_M_after 16 = .ok (.iload_n 2, 1) := by decide +kernel
theorem d_M_after_17 : decode b_M_after 17 = .ok (.ifCond .ne 12, 3) := by decide +kernel
theorem d_M_after_20 : decode b_M_after 20 = .ok (.aload_n 0, 1) := by decide +kernel
theorem d_M_after_21 : decode b_M_after 21 = .ok (.getfield 63, 3) := by decide +kernel
theorem d_M_after_24 : decode b_M_after 24 = .ok (.iload_n 1, 1) := by decide +kernel
theorem d_M_after_25 : decode b_M_after 25 = .ok (.iaload, 1) := by decide +kernel
theorem d_M_after_26 : decode b_M_after 26 = .ok (.goto 33, 3) := by decide +kernel
theorem d_M_after_29 : decode b_M_after 29 = .ok (.iload_n 2, 1) := by decide +kernel
theorem d_M_after_30 : decode b_M_after 30 = .ok (.iconst 1, 1) := by decide +kernel
theorem d_M_after_31 : decode b_M_after 31 = .ok (.if_icmp .ne 12, 3) := by decide +kernel
theorem d_M_after_34 : decode b_M_after 34 = .ok (.aload_n 0, 1) := by decide +kernel
theorem d_M_after_35 : decode b_M_after 35 = .ok (.getfield 66, 3) := by decide +kernel
theorem d_M_after_38 : decode b_M_after 38 = .ok (.iload_n 1, 1) := by decide +kernel
theorem d_M_after_39 : decode b_M_after 39 = .ok (.iaload, 1) := by decide +kernel
theorem d_M_after_40 : decode b_M_after 40 = .ok (.goto 19, 3) := by decide +kernel
theorem d_M_after_43 : decode b_M_after 43 = .ok (.iload_n 2, 1) := by decide +kernel
theorem d_M_after_44 : decode b_M_after 44 = .ok (.iconst 2, 1) := by decide +kernel
theorem d_M_after_45 : decode b_M_after 45 = .ok (.if_icmp .ne 12, 3) := by decide +kernel
theorem d_M_after_48 : decode b_M_after 48 = .ok (.aload_n 0, 1) := by decide +kernel
theorem d_M_after_49 : decode b_M_after 49 = .ok (.getfield 69, 3) := by decide +kernel
theorem d_M_after_52 : decode b_M_after 52 = .ok (.iload_n 1, 1) := by decide +kernel
theorem d_M_after_53 : decode b_M_after 53 = .ok (.iaload, 1) := by decide +kernel
theorem d_M_after_54 : decode b_M_after 54 = .ok (.goto 5, 3) := by decide +kernel
theorem d_M_after_57 : decode b_M_after 57 = .ok (.bipush (-2), 2) := by decide +kernel
theorem d_M_after_59 : decode b_M_after 59 = .ok (.ireturn, 1) := by decide +kernel
theorem d_Integer_bitCount_0 : decode b_Integer_bitCount 0 = .ok (.iload_n 0, 1) := by decide +kernel
theorem d_Integer_bitCount_1 : decode b_Integer_bitCount 1 = .ok (.iload_n 0, 1) := by decide +kernel
theorem d_Integer_bitCount_2 : decode b_Integer_bitCount 2 = .ok (.iconst 1, 1) := by decide +kernel
theorem d_Integer_bitCount_3 : decode b_Integer_bitCount 3 = .ok (.iushr, 1) := by decide +kernel
theorem d_Integer_bitCount_4 : decode b_Integer_bitCount 4 = .ok (.ldc_w 265, 3) := by decide +kernel
theorem d_Integer_bitCount_7 : decode b_Integer_bitCount 7 = .ok (.iand, 1) := by decide +kernel
theorem d_Integer_bitCount_8 : decode b_Integer_bitCount 8 = .ok (.isub, 1) := by decide +kernel
theorem d_Integer_bitCount_9 : decode b_Integer_bitCount 9 = .ok (.istore_n 0, 1) := by decide +kernel
theorem d_Integer_bitCount_10 : decode b_Integer_bitCount 10 = .ok (.iload_n 0, 1) := by decide +kernel
theorem d_Integer_bitCount_11 : decode b_Integer_bitCount 11 = .ok (.ldc_w 266, 3) := by decide +kernel
theorem d_Integer_bitCount_14 : decode b_Integer_bitCount 14 = .ok (.iand, 1) := by decide +kernel
theorem d_Integer_bitCount_15 : decode b_Integer_bitCount 15 = .ok (.iload_n 0, 1) := by decide +kernel
theorem d_Integer_bitCount_16 : decode b_Integer_bitCount 16 = .ok (.iconst 2, 1) := by decide +kernel
theorem d_Integer_bitCount_17 : decode b_Integer_bitCount 17 = .ok (.iushr, 1) := by decide +kernel
theorem d_Integer_bitCount_18 : decode b_Integer_bitCount 18 = .ok (.ldc_w 266, 3) := by decide +kernel
theorem d_Integer_bitCount_21 : decode b_Integer_bitCount 21 = .ok (.iand, 1) := by decide +kernel
theorem d_Integer_bitCount_22 : decode b_Integer_bitCount 22 = .ok (.iadd, 1) := by decide +kernel
theorem d_Integer_bitCount_23 : decode b_Integer_bitCount 23 = .ok (.istore_n 0, 1) := by decide +kernel
theorem d_Integer_bitCount_24 : decode b_Integer_bitCount 24 = .ok (.iload_n 0, 1) := by decide +kernel
theorem d_Integer_bitCount_25 : decode b_Integer_bitCount 25 = .ok (.iload_n 0, 1) := by decide +kernel
theorem d_Integer_bitCount_26 : decode b_Integer_bitCount 26 = .ok (.iconst 4, 1) := by decide +kernel
theorem d_Integer_bitCount_27 : decode b_Integer_bitCount 27 = .ok (.iushr, 1) := by decide +kernel
theorem d_Integer_bitCount_28 : decode b_Integer_bitCount 28 = .ok (.iadd, 1) := by decide +kernel
theorem d_Integer_bitCount_29 : decode b_Integer_bitCount 29 = .ok (.ldc_w 267, 3) := by decide +kernel
theorem d_Integer_bitCount_32 : decode b_Integer_bitCount 32 = .ok (.iand, 1) := by decide +kernel
theorem d_Integer_bitCount_33 : decode b_Integer_bitCount 33 = .ok (.istore_n 0, 1) := by decide +kernel
theorem d_Integer_bitCount_34 : decode b_Integer_bitCount 34 = .ok (.iload_n 0, 1) := by decide +kernel
theorem d_Integer_bitCount_35 : decode b_Integer_bitCount 35 = .ok (.iload_n 0, 1) := by decide +kernel
theorem d_Integer_bitCount_36 : decode b_Integer_bitCount 36 = .ok (.bipush 8, 2) := by decide +kernel
theorem d_Integer_bitCount_38 : decode b_Integer_bitCount 38 = .ok (.iushr, 1) := by decide +kernel
theorem d_Integer_bitCount_39 : decode b_Integer_bitCount 39 = .ok (.iadd, 1) := by decide +kernel
theorem d_Integer_bitCount_40 : decode b_Integer_bitCount 40 = .ok (.istore_n 0, 1) := by decide +kernel
theorem d_Integer_bitCount_41 : decode b_Integer_bitCount 41 = .ok (.iload_n 0, 1) := by decide +kernel
theorem d_Integer_bitCount_42 : decode b_Integer_bitCount 42 = .ok (.iload_n 0, 1) := by decide +kernel
theorem d_Integer_bitCount_43 : decode b_Integer_bitCount 43 = .ok (.bipush 16, 2) := by decide +kernel
theorem d_Integer_bitCount_45 : decode b_Integer_bitCount 45 = .ok (.iushr, 1) := by decide +kernel
theorem d_Integer_bitCount_46 : decode b_Integer_bitCount 46 = .ok (.iadd, 1) := by decide +kernel
theorem d_Integer_bitCount_47 : decode b_Integer_bitCount 47 = .ok (.istore_n 0, 1) := by decide +kernel
theorem d_Integer_bitCount_48 : decode b_Integer_bitCount 48 = .ok (.iload_n 0, 1) := by decide +kernel
theorem d_Integer_bitCount_49 : decode b_Integer_bitCount 49 = .ok (.bipush 63, 2) := by decide +kernel
theorem d_Integer_bitCount_51 : decode b_Integer_bitCount 51 = .ok (.iand, 1) := by decide +kernel
theorem d_Integer_bitCount_52 : decode b_Integer_bitCount 52 = .ok (.ireturn, 1) := by decide +kernel
end
section
def nfF : List (String × Nat × String × String × String × String) := [("PairChoice", 47, "PairChoice$Herd", "count", "I", "PairChoice"), ("PairChoice$Pairing", 38, "PairChoice$Herd", "count", "I", "PairChoice"), ("PairChoice$Pairing", 18, "PairChoice$Herd", "males", "I", "PairChoice"), ("PairChoice$SetList", 36, "PairChoice$Herd", "males", "I", "PairChoice"), ("PairChoice", 69, "PairChoice$Herd", "males", "I", "PairChoice"), ("PairChoice$Choice", 78, "PairChoice$Herd", "males", "I", "PairChoice"), ("PairChoice", 61, "PairChoice$Herd", "worths", "[I", "PairChoice"), ("PairChoice$Choice", 44, "PairChoice$Herd", "worths", "[I", "PairChoice"), ("PairChoice", 65, "PairChoice$Herd", "kinships", "[[I", "PairChoice"), ("PairChoice$Pairing", 35, "PairChoice$Herd", "barred", "[I", "PairChoice"), ("PairChoice", 76, "PairChoice$Herd", "barred", "[I", "PairChoice"), ("PairChoice$Choice", 84, "PairChoice$Herd", "barred", "[I", "PairChoice"), ("PairChoice", 83, "PairChoice$Herd", "kinLimit", "I", "PairChoice"), ("PairChoice", 86, "PairChoice$Herd", "mostOfFamily", "I", "PairChoice"), ("PairChoice", 89, "PairChoice$Herd", "leastOfFamily", "[I", "PairChoice"), ("PairChoice$Choice", 49, "PairChoice$Pairing", "males", "[I", "PairChoice"), ("PairChoice", 120, "PairChoice$Pairing", "males", "[I", "PairChoice"), ("PairChoice$Choice", 52, "PairChoice$Pairing", "females", "[I", "PairChoice"), ("PairChoice", 124, "PairChoice$Pairing", "females", "[I", "PairChoice"), ("PairChoice", 99, "PairChoice$SetList", "size", "I", "PairChoice"), ("PairChoice", 116, "PairChoice$Choice", "pairing", "LPairChoice$Pairing;", "PairChoice"), ("PairChoice", 127, "PairChoice$Choice", "pairs", "I", "PairChoice"), ("PairChoice", 130, "PairChoice$Choice", "set", "I", "PairChoice"), ("PairChoice", 139, "PairChoice$Choice", "setsThatMayBe", "I", "PairChoice"), ("PairChoice", 146, "PairChoice$Choice", "eggShares", "[I", "PairChoice"), ("PairChoice", 157, "PairChoice$Outlook", "years", "I", "PairChoice"), ("PairChoice", 180, "PairChoice$Outlook", "alive", "[I", "PairChoice"), ("PairChoice", 183, "PairChoice$Outlook", "bestSums", "[I", "PairChoice")]
def nfM : List (String × Nat × MethodName × String) := [("PairChoice", 9, ⟨"PairChoice$Herd", "<init>", "()V"⟩, "PairChoice"), ("PairChoice", 18, ⟨"PairChoice$SetList", "<init>", "(LPairChoice$Herd;)V"⟩, "PairChoice"), ("PairChoice$SetList", 11, ⟨"PairChoice$Pairing", "<init>", "()V"⟩, "PairChoice"), ("PairChoice", 27, ⟨"PairChoice$Choice", "<init>", "(LPairChoice$Herd;)V"⟩, "PairChoice"), ("PairChoice$Choice", 11, ⟨"PairChoice$Pairing", "<init>", "()V"⟩, "PairChoice"), ("PairChoice", 34, ⟨"PairChoice$Outlook", "<init>", "()V"⟩, "PairChoice"), ("PairChoice", 102, ⟨"PairChoice$Choice", "drop", "()V"⟩, "PairChoice"), ("PairChoice", 186, ⟨"PairChoice$SetList", "forget", "()V"⟩, "PairChoice"), ("PairChoice", 54, ⟨"PairChoice$Herd", "add", "(III)I"⟩, "PairChoice"), ("PairChoice$Herd", 42, ⟨"PairChoice", "bit", "(I)I"⟩, "PairChoice"), ("PairChoice", 58, ⟨"PairChoice$Herd", "knows", "(I)Z"⟩, "PairChoice"), ("PairChoice", 95, ⟨"PairChoice$SetList", "listAll", "(I)V"⟩, "PairChoice"), ("PairChoice$SetList", 51, ⟨"PairChoice$Herd", "all", "()I"⟩, "PairChoice"), ("PairChoice$SetList", 58, ⟨"PairChoice$Herd", "keepsRules", "(II)Z"⟩, "PairChoice"), ("PairChoice$Herd", 46, ⟨"PairChoice", "has", "(II)Z"⟩, "PairChoice"), ("PairChoice$SetList", 62, ⟨"PairChoice$Pairing", "pairSet", "(LPairChoice$Herd;I)Z"⟩, "PairChoice"), ("PairChoice$Pairing", 27, ⟨"PairChoice", "leastOf", "(I)I"⟩, "PairChoice"), ("PairChoice$Pairing", 31, ⟨"PairChoice$Herd", "knows", "(I)Z"⟩, "PairChoice"), ("PairChoice$Pairing", 41, ⟨"PairChoice", "has", "(II)Z"⟩, "PairChoice"), ("PairChoice$Pairing", 45, ⟨"PairChoice", "bit", "(I)I"⟩, "PairChoice"), ("PairChoice$SetList", 66, ⟨"PairChoice$Herd", "worthSum", "(I)I"⟩, "PairChoice"), ("PairChoice", 105, ⟨"PairChoice$SetList", "best", "()I"⟩, "PairChoice"), ("PairChoice", 109, ⟨"PairChoice$Choice", "take", "(III)V"⟩, "PairChoice"), ("PairChoice$Choice", 40, ⟨"PairChoice$Pairing", "pairSet", "(LPairChoice$Herd;I)Z"⟩, "PairChoice"), ("PairChoice", 113, ⟨"PairChoice$Choice", "hasPair", "(I)Z"⟩, "PairChoice"), ("PairChoice", 133, ⟨"PairChoice$Herd", "worthSum", "(I)I"⟩, "PairChoice"), ("PairChoice", 136, ⟨"PairChoice$Herd", "kinSum", "(I)I"⟩, "PairChoice"), ("PairChoice", 143, ⟨"PairChoice$Choice", "shareOut", "(I)V"⟩, "PairChoice"), ("PairChoice", 149, ⟨"PairChoice$Choice", "couldStandIn", "(II)Z"⟩, "PairChoice"), ("PairChoice$Choice", 80, ⟨"PairChoice", "has", "(II)Z"⟩, "PairChoice"), ("PairChoice$Choice", 87, ⟨"PairChoice", "bit", "(I)I"⟩, "PairChoice"), ("PairChoice$Choice", 90, ⟨"PairChoice$Herd", "keepsRules", "(II)Z"⟩, "PairChoice"), ("PairChoice", 153, ⟨"PairChoice$SetList", "greatestSumWith", "(II)I"⟩, "PairChoice"), ("PairChoice$SetList", 73, ⟨"PairChoice", "has", "(II)Z"⟩, "PairChoice"), ("PairChoice", 160, ⟨"PairChoice$Herd", "all", "()I"⟩, "PairChoice"), ("PairChoice", 174, ⟨"PairChoice$SetList", "greatestSumAmong", "(I)I"⟩, "PairChoice"), ("PairChoice", 177, ⟨"PairChoice$Outlook", "note", "(III)V"⟩, "PairChoice")]
/-! what all walks rest on -/
abbrev tys0 (cI cJ cG cZ : ClassId) : List (ClassId × FieldType) := [(cI, .int), (cJ, .long), (cG, .array .int), (cZ, .boolean)]
def NF (U : State) : Prop := (∀ q ∈ nfF, va_Nw (.fieldLinkNest q.1 q.2.1 q.2.2.1 q.2.2.2.1 q.2.2.2.2.1 q.2.2.2.2.2) U) ∧ ∀ q ∈ nfM, va_Nw (.methodLinkNest q.1 q.2.1 q.2.2.1 q.2.2.2) U
theorem NF.warm {s U : State} (hW : s.WarmedH U.vm) (h : NF s) : NF U := ⟨fun q hq => va_Nw.warmF hW (h.1 q hq), fun q hq => va_Nw.warmM hW (h.2 q hq)⟩
theorem NF.same {u U : State} (e : u.vm = U.vm) (h : NF u) : NF U := ⟨fun q hq => va_Nw.same rfl e (h.1 q hq), fun q hq => va_Nw.same rfl e (h.2 q hq)⟩
def pcS (dC : Nat → ClassId) (dI : Nat → Nat → Nat) (cI cJ cG cZ : ClassId) (U : State) : Prop := va_K (dC, dI) vCl (tys0 cI cJ cG cZ) U ∧ NF U
def pcR (dC : Nat → ClassId) (dI : Nat → Nat → Nat) (cI cJ cG cZ : ClassId) (ws : va_W) (U : State) : Prop := va_P (dC, dI) vCl ws U.heap ∧ va_K (dC, dI) vCl (tys0 cI cJ cG cZ) U ∧ NF U
def pcW (dC : Nat → ClassId) (dI : Nat → Nat → Nat) (cI cJ cG cZ : ClassId) (sz : Nat) (ws : va_W) (U : State) : Prop := U.heap.size = sz ∧ va_P (dC, dI) vCl ws U.heap ∧ va_K (dC, dI) vCl (tys0 cI cJ cG cZ) U ∧ NF U ∧ va_D (fun _ => True) ws
section
variable {dC : Nat → ClassId} {dI : Nat → Nat → Nat} {cI cJ cG cZ : ClassId} {ws : va_W} {av : List Value} {s : State} {H : Heap}
theorem fb_s : FrameBlind (va_Pc av (pcS dC dI cI cJ cG cZ)) := fun a U g mk q => ⟨q.1, va_K.moved (u := U) (U := U.calling g mk a) (Vm.Alike.refl U.vm) q.2.1, NF.same rfl q.2.2⟩
theorem fb_r : FrameBlind (va_Pc av (pcR dC dI cI cJ cG cZ ws)) := fun a U g mk q => ⟨q.1, q.2.1, va_K.moved (u := U) (U := U.calling g mk a) (Vm.Alike.refl U.vm) q.2.2.1, NF.same rfl q.2.2.2⟩
theorem fb_w {sz : Nat} : FrameBlind (va_Pc av (pcW dC dI cI cJ cG cZ sz ws)) := fun a U g mk q => ⟨q.1, q.2.1, q.2.2.1, va_K.moved (u := U) (U := U.calling g mk a) (Vm.Alike.refl U.vm) q.2.2.2.1, NF.same rfl q.2.2.2.2.1, q.2.2.2.2.2⟩
theorem pre_s (hK : va_K (dC, dI) vCl (tys0 cI cJ cG cZ) s) (hN : NF s) : ∀ U : State, U.heap = H → s.WarmedH U.vm → va_Pc av (pcS dC dI cI cJ cG cZ) av.toArray U := fun _ _ hW => ⟨rfl, va_K.moved hW.alike hK, hN.warm hW⟩
theorem pre_r (hP : va_P (dC, dI) vCl ws H) (hK : va_K (dC, dI) vCl (tys0 cI cJ cG cZ) s) (hN : NF s) : ∀ U : State, U.heap = H → s.WarmedH U.vm → va_Pc av (pcR dC dI cI cJ cG cZ ws) av.toArray U := fun _ hU hW => ⟨rfl, by rw [hU]; exact hP, va_K.moved hW.alike hK, hN.warm hW⟩
theorem pre_w {A : Nat → Prop} (hP : va_P (dC, dI) vCl ws H) (hK : va_K (dC, dI) vCl (tys0 cI cJ cG cZ) s) (hN : NF s) (hD : va_D A ws) : ∀ U : State, U.heap = H → s.WarmedH U.vm → va_Pc av (pcW dC dI cI cJ cG cZ H.size ws) av.toArray U := fun _ hU hW => ⟨rfl, by rw [hU], by rw [hU]; exact hP, va_K.moved hW.alike hK, hN.warm hW, hD.weaken (fun _ _ _ _ => trivial)⟩
end
theorem z_nar {r : Int32} (h : r = 0 ∨ r = 1) : narrow .boolean (.int r) = .int r := by
  rcases h with rfl | rfl <;> rfl
/-! the grid: twelve rows of twelve, at the end of a world -/
def gw (r : Nat → Nat) : Nat → Option Nat := fun i => if i < 12 then some (r i) else none
theorem gw_at {r : Nat → Nat} {i : Int32} (h : vp_in i 12) : va_rf (gw r i.toNatClampNeg) = .ref (r i.toNatClampNeg) := by
  have hl : i.toNatClampNeg < 12 := Nat.not_le.mp fun q => h (Or.inr q)
  unfold gw
  rw [if_pos hl]
  rfl
def rws (r : Nat → Nat) (cI : ClassId) (k : Nat → Nat → Int32) : va_W := [(r 0, .inl (cI, 12, .inl (k 0))), (r 1, .inl (cI, 12, .inl (k 1))), (r 2, .inl (cI, 12, .inl (k 2))), (r 3, .inl (cI, 12, .inl (k 3))), (r 4, .inl (cI, 12, .inl (k 4))), (r 5, .inl (cI, 12, .inl (k 5))), (r 6, .inl (cI, 12, .inl (k 6))), (r 7, .inl (cI, 12, .inl (k 7))), (r 8, .inl (cI, 12, .inl (k 8))), (r 9, .inl (cI, 12, .inl (k 9))), (r 10, .inl (cI, 12, .inl (k 10))), (r 11, .inl (cI, 12, .inl (k 11)))]
def gup (k : Nat → Nat → Int32) (i j : Nat) (x : Int32) : Nat → Nat → Int32 := fun a => if a = i then upd (k a) j x else k a
theorem rws_get {r : Nat → Nat} {cI : ClassId} {k : Nat → Nat → Int32} : ∀ i, i < 12 → (rws r cI k)[i]? = some (r i, .inl (cI, 12, .inl (k i)))
  | 0, _ => rfl
  | 1, _ => rfl
  | 2, _ => rfl
  | 3, _ => rfl
  | 4, _ => rfl
  | 5, _ => rfl
  | 6, _ => rfl
  | 7, _ => rfl
  | 8, _ => rfl
  | 9, _ => rfl
  | 10, _ => rfl
  | 11, _ => rfl
  | n + 12, h => absurd h (by omega)
theorem rws_at {X : va_W} {r : Nat → Nat} {cI : ClassId} {k : Nat → Nat → Int32} {n : Nat} {i : Int32} (hX : X.length = n) (h : vp_in i 12) : (X ++ rws r cI k)[n + i.toNatClampNeg]? = some (r i.toNatClampNeg, .inl (cI, 12, .inl (k i.toNatClampNeg))) := by
  have hl : i.toNatClampNeg < 12 := Nat.not_le.mp fun q => h (Or.inr q)
  subst hX
  rw [List.getElem?_append_right (Nat.le_add_right _ _), Nat.add_sub_cancel_left]
  exact rws_get _ hl
theorem rws_upd {r : Nat → Nat} {cI : ClassId} {k : Nat → Nat → Int32} {j : Nat} {x : Int32} : ∀ i, i < 12 → (rws r cI k).set i (r i, .inl (cI, 12, .inl (upd (k i) j x))) = rws r cI (gup k i j x)
  | 0, _ => rfl
  | 1, _ => rfl
  | 2, _ => rfl
  | 3, _ => rfl
  | 4, _ => rfl
  | 5, _ => rfl
  | 6, _ => rfl
  | 7, _ => rfl
  | 8, _ => rfl
  | 9, _ => rfl
  | 10, _ => rfl
  | 11, _ => rfl
  | n + 12, h => absurd h (by omega)
theorem rws_set {X : va_W} {r : Nat → Nat} {cI : ClassId} {k : Nat → Nat → Int32} {n j : Nat} {i x : Int32} (hX : X.length = n) (h : vp_in i 12) : (X ++ rws r cI k).set (n + i.toNatClampNeg) (r i.toNatClampNeg, .inl (cI, 12, .inl (upd (k i.toNatClampNeg) j x))) = X ++ rws r cI (gup k i.toNatClampNeg j x) := by
  have hl : i.toNatClampNeg < 12 := Nat.not_le.mp fun q => h (Or.inr q)
  subst hX
  rw [List.set_append_right _ _ (Nat.le_add_right _ _), Nat.add_sub_cancel_left, rws_upd _ hl]
theorem rws_setP {D : va_G} {cl : List vw_C} {H : Heap} {X : va_W} {r : Nat → Nat} {cI : ClassId} {k : Nat → Nat → Int32} {n j : Nat} {i x : Int32} (hX : X.length = n) (h : vp_in i 12) (hP : va_P D cl ((X ++ rws r cI k).set (n + i.toNatClampNeg) (r i.toNatClampNeg, .inl (cI, 12, .inl (upd (k i.toNatClampNeg) j x)))) H) : va_P D cl (X ++ rws r cI (gup k i.toNatClampNeg j x)) H := by
  rw [rws_set hX h] at hP
  exact hP
theorem rws_setD {A : Nat → Prop} {X : va_W} {r : Nat → Nat} {cI : ClassId} {k : Nat → Nat → Int32} {n j : Nat} {i x : Int32} (hX : X.length = n) (h : vp_in i 12) (hD : va_D A ((X ++ rws r cI k).set (n + i.toNatClampNeg) (r i.toNatClampNeg, .inl (cI, 12, .inl (upd (k i.toNatClampNeg) j x))))) : va_D A (X ++ rws r cI (gup k i.toNatClampNeg j x)) := by
  rw [rws_set hX h] at hD
  exact hD

theorem nw_74 {s : State} (h : NF s) : va_Nw (.fieldLinkNest "PairChoice$Choice" 44 "PairChoice$Herd" "worths" "[I" "PairChoice") s := h.1 ("PairChoice$Choice", 44, "PairChoice$Herd", "worths", "[I", "PairChoice") (by decide +kernel)
theorem nw_121 {s : State} (h : NF s) : va_Nw (.fieldLinkNest "PairChoice$Choice" 49 "PairChoice$Pairing" "males" "[I" "PairChoice") s := h.1 ("PairChoice$Choice", 49, "PairChoice$Pairing", "males", "[I", "PairChoice") (by decide +kernel)
theorem nw_124 {s : State} (h : NF s) : va_Nw (.fieldLinkNest "PairChoice$Choice" 52 "PairChoice$Pairing" "females" "[I" "PairChoice") s := h.1 ("PairChoice$Choice", 52, "PairChoice$Pairing", "females", "[I", "PairChoice") (by decide +kernel)
theorem nw_359 {s : State} (h : NF s) : va_Nw (.methodLinkNest "PairChoice" 113 ⟨"PairChoice$Choice", "hasPair", "(I)Z"⟩ "PairChoice") s := h.2 ("PairChoice", 113, ⟨"PairChoice$Choice", "hasPair", "(I)Z"⟩, "PairChoice") (by decide +kernel)
theorem nw_169 {s : State} (h : NF s) : va_Nw (.fieldLinkNest "PairChoice" 146 "PairChoice$Choice" "eggShares" "[I" "PairChoice") s := h.1 ("PairChoice", 146, "PairChoice$Choice", "eggShares", "[I", "PairChoice") (by decide +kernel)
theorem nw_233 {s : State} (h : NF s) : va_Nw (.methodLinkNest "PairChoice" 102 ⟨"PairChoice$Choice", "drop", "()V"⟩ "PairChoice") s := h.2 ("PairChoice", 102, ⟨"PairChoice$Choice", "drop", "()V"⟩, "PairChoice") (by decide +kernel)
theorem nw_237 {s : State} (h : NF s) : va_Nw (.methodLinkNest "PairChoice" 186 ⟨"PairChoice$SetList", "forget", "()V"⟩ "PairChoice") s := h.2 ("PairChoice", 186, ⟨"PairChoice$SetList", "forget", "()V"⟩, "PairChoice") (by decide +kernel)
theorem nw_245 {s : State} (h : NF s) : va_Nw (.methodLinkNest "PairChoice$Herd" 42 ⟨"PairChoice", "bit", "(I)I"⟩ "PairChoice") s := h.2 ("PairChoice$Herd", 42, ⟨"PairChoice", "bit", "(I)I"⟩, "PairChoice") (by decide +kernel)
theorem nw_322 {s : State} (h : NF s) : va_Nw (.methodLinkNest "PairChoice$Herd" 46 ⟨"PairChoice", "has", "(II)Z"⟩ "PairChoice") s := h.2 ("PairChoice$Herd", 46, ⟨"PairChoice", "has", "(II)Z"⟩, "PairChoice") (by decide +kernel)
theorem nw_422 {s : State} (h : NF s) : va_Nw (.methodLinkNest "PairChoice$SetList" 73 ⟨"PairChoice", "has", "(II)Z"⟩ "PairChoice") s := h.2 ("PairChoice$SetList", 73, ⟨"PairChoice", "has", "(II)Z"⟩, "PairChoice") (by decide +kernel)
theorem nw_65 {s : State} (h : NF s) : va_Nw (.fieldLinkNest "PairChoice" 47 "PairChoice$Herd" "count" "I" "PairChoice") s := h.1 ("PairChoice", 47, "PairChoice$Herd", "count", "I", "PairChoice") (by decide +kernel)
theorem nw_241 {s : State} (h : NF s) : va_Nw (.methodLinkNest "PairChoice" 54 ⟨"PairChoice$Herd", "add", "(III)I"⟩ "PairChoice") s := h.2 ("PairChoice", 54, ⟨"PairChoice$Herd", "add", "(III)I"⟩, "PairChoice") (by decide +kernel)
theorem nw_252 {s : State} (h : NF s) : va_Nw (.methodLinkNest "PairChoice" 58 ⟨"PairChoice$Herd", "knows", "(I)Z"⟩ "PairChoice") s := h.2 ("PairChoice", 58, ⟨"PairChoice$Herd", "knows", "(I)Z"⟩, "PairChoice") (by decide +kernel)
theorem nw_73 {s : State} (h : NF s) : va_Nw (.fieldLinkNest "PairChoice" 61 "PairChoice$Herd" "worths" "[I" "PairChoice") s := h.1 ("PairChoice", 61, "PairChoice$Herd", "worths", "[I", "PairChoice") (by decide +kernel)
theorem nw_77 {s : State} (h : NF s) : va_Nw (.fieldLinkNest "PairChoice" 65 "PairChoice$Herd" "kinships" "[[I" "PairChoice") s := h.1 ("PairChoice", 65, "PairChoice$Herd", "kinships", "[[I", "PairChoice") (by decide +kernel)
theorem nw_70 {s : State} (h : NF s) : va_Nw (.fieldLinkNest "PairChoice" 69 "PairChoice$Herd" "males" "I" "PairChoice") s := h.1 ("PairChoice", 69, "PairChoice$Herd", "males", "I", "PairChoice") (by decide +kernel)
theorem nw_80 {s : State} (h : NF s) : va_Nw (.fieldLinkNest "PairChoice" 76 "PairChoice$Herd" "barred" "[I" "PairChoice") s := h.1 ("PairChoice", 76, "PairChoice$Herd", "barred", "[I", "PairChoice") (by decide +kernel)
theorem nw_83 {s : State} (h : NF s) : va_Nw (.fieldLinkNest "PairChoice" 83 "PairChoice$Herd" "kinLimit" "I" "PairChoice") s := h.1 ("PairChoice", 83, "PairChoice$Herd", "kinLimit", "I", "PairChoice") (by decide +kernel)
theorem nw_85 {s : State} (h : NF s) : va_Nw (.fieldLinkNest "PairChoice" 86 "PairChoice$Herd" "mostOfFamily" "I" "PairChoice") s := h.1 ("PairChoice", 86, "PairChoice$Herd", "mostOfFamily", "I", "PairChoice") (by decide +kernel)
theorem nw_87 {s : State} (h : NF s) : va_Nw (.fieldLinkNest "PairChoice" 89 "PairChoice$Herd" "leastOfFamily" "[I" "PairChoice") s := h.1 ("PairChoice", 89, "PairChoice$Herd", "leastOfFamily", "[I", "PairChoice") (by decide +kernel)
theorem nw_161 {s : State} (h : NF s) : va_Nw (.fieldLinkNest "PairChoice" 116 "PairChoice$Choice" "pairing" "LPairChoice$Pairing;" "PairChoice") s := h.1 ("PairChoice", 116, "PairChoice$Choice", "pairing", "LPairChoice$Pairing;", "PairChoice") (by decide +kernel)
theorem nw_125 {s : State} (h : NF s) : va_Nw (.fieldLinkNest "PairChoice" 124 "PairChoice$Pairing" "females" "[I" "PairChoice") s := h.1 ("PairChoice", 124, "PairChoice$Pairing", "females", "[I", "PairChoice") (by decide +kernel)
theorem nw_122 {s : State} (h : NF s) : va_Nw (.fieldLinkNest "PairChoice" 120 "PairChoice$Pairing" "males" "[I" "PairChoice") s := h.1 ("PairChoice", 120, "PairChoice$Pairing", "males", "[I", "PairChoice") (by decide +kernel)
theorem nw_163 {s : State} (h : NF s) : va_Nw (.fieldLinkNest "PairChoice" 127 "PairChoice$Choice" "pairs" "I" "PairChoice") s := h.1 ("PairChoice", 127, "PairChoice$Choice", "pairs", "I", "PairChoice") (by decide +kernel)
theorem nw_165 {s : State} (h : NF s) : va_Nw (.fieldLinkNest "PairChoice" 130 "PairChoice$Choice" "set" "I" "PairChoice") s := h.1 ("PairChoice", 130, "PairChoice$Choice", "set", "I", "PairChoice") (by decide +kernel)
theorem nw_367 {s : State} (h : NF s) : va_Nw (.methodLinkNest "PairChoice" 133 ⟨"PairChoice$Herd", "worthSum", "(I)I"⟩ "PairChoice") s := h.2 ("PairChoice", 133, ⟨"PairChoice$Herd", "worthSum", "(I)I"⟩, "PairChoice") (by decide +kernel)
theorem nw_368 {s : State} (h : NF s) : va_Nw (.methodLinkNest "PairChoice" 136 ⟨"PairChoice$Herd", "kinSum", "(I)I"⟩ "PairChoice") s := h.2 ("PairChoice", 136, ⟨"PairChoice$Herd", "kinSum", "(I)I"⟩, "PairChoice") (by decide +kernel)
theorem nw_167 {s : State} (h : NF s) : va_Nw (.fieldLinkNest "PairChoice" 139 "PairChoice$Choice" "setsThatMayBe" "I" "PairChoice") s := h.1 ("PairChoice", 139, "PairChoice$Choice", "setsThatMayBe", "I", "PairChoice") (by decide +kernel)
theorem nw_194 {s : State} (h : NF s) : va_Nw (.fieldLinkNest "PairChoice" 157 "PairChoice$Outlook" "years" "I" "PairChoice") s := h.1 ("PairChoice", 157, "PairChoice$Outlook", "years", "I", "PairChoice") (by decide +kernel)
theorem nw_196 {s : State} (h : NF s) : va_Nw (.fieldLinkNest "PairChoice" 180 "PairChoice$Outlook" "alive" "[I" "PairChoice") s := h.1 ("PairChoice", 180, "PairChoice$Outlook", "alive", "[I", "PairChoice") (by decide +kernel)
theorem nw_198 {s : State} (h : NF s) : va_Nw (.fieldLinkNest "PairChoice" 183 "PairChoice$Outlook" "bestSums" "[I" "PairChoice") s := h.1 ("PairChoice", 183, "PairChoice$Outlook", "bestSums", "[I", "PairChoice") (by decide +kernel)
theorem nw_71 {s : State} (h : NF s) : va_Nw (.fieldLinkNest "PairChoice$Choice" 78 "PairChoice$Herd" "males" "I" "PairChoice") s := h.1 ("PairChoice$Choice", 78, "PairChoice$Herd", "males", "I", "PairChoice") (by decide +kernel)
theorem nw_410 {s : State} (h : NF s) : va_Nw (.methodLinkNest "PairChoice$Choice" 80 ⟨"PairChoice", "has", "(II)Z"⟩ "PairChoice") s := h.2 ("PairChoice$Choice", 80, ⟨"PairChoice", "has", "(II)Z"⟩, "PairChoice") (by decide +kernel)
theorem nw_81 {s : State} (h : NF s) : va_Nw (.fieldLinkNest "PairChoice$Choice" 84 "PairChoice$Herd" "barred" "[I" "PairChoice") s := h.1 ("PairChoice$Choice", 84, "PairChoice$Herd", "barred", "[I", "PairChoice") (by decide +kernel)
theorem nw_411 {s : State} (h : NF s) : va_Nw (.methodLinkNest "PairChoice$Choice" 87 ⟨"PairChoice", "bit", "(I)I"⟩ "PairChoice") s := h.2 ("PairChoice$Choice", 87, ⟨"PairChoice", "bit", "(I)I"⟩, "PairChoice") (by decide +kernel)
theorem nw_412 {s : State} (h : NF s) : va_Nw (.methodLinkNest "PairChoice$Choice" 90 ⟨"PairChoice$Herd", "keepsRules", "(II)Z"⟩ "PairChoice") s := h.2 ("PairChoice$Choice", 90, ⟨"PairChoice$Herd", "keepsRules", "(II)Z"⟩, "PairChoice") (by decide +kernel)
theorem nw_331 {s : State} (h : NF s) : va_Nw (.methodLinkNest "PairChoice$Pairing" 27 ⟨"PairChoice", "leastOf", "(I)I"⟩ "PairChoice") s := h.2 ("PairChoice$Pairing", 27, ⟨"PairChoice", "leastOf", "(I)I"⟩, "PairChoice") (by decide +kernel)
theorem nw_335 {s : State} (h : NF s) : va_Nw (.methodLinkNest "PairChoice$Pairing" 31 ⟨"PairChoice$Herd", "knows", "(I)Z"⟩ "PairChoice") s := h.2 ("PairChoice$Pairing", 31, ⟨"PairChoice$Herd", "knows", "(I)Z"⟩, "PairChoice") (by decide +kernel)
theorem nw_79 {s : State} (h : NF s) : va_Nw (.fieldLinkNest "PairChoice$Pairing" 35 "PairChoice$Herd" "barred" "[I" "PairChoice") s := h.1 ("PairChoice$Pairing", 35, "PairChoice$Herd", "barred", "[I", "PairChoice") (by decide +kernel)
theorem nw_66 {s : State} (h : NF s) : va_Nw (.fieldLinkNest "PairChoice$Pairing" 38 "PairChoice$Herd" "count" "I" "PairChoice") s := h.1 ("PairChoice$Pairing", 38, "PairChoice$Herd", "count", "I", "PairChoice") (by decide +kernel)
theorem nw_336 {s : State} (h : NF s) : va_Nw (.methodLinkNest "PairChoice$Pairing" 41 ⟨"PairChoice", "has", "(II)Z"⟩ "PairChoice") s := h.2 ("PairChoice$Pairing", 41, ⟨"PairChoice", "has", "(II)Z"⟩, "PairChoice") (by decide +kernel)
theorem nw_337 {s : State} (h : NF s) : va_Nw (.methodLinkNest "PairChoice$Pairing" 45 ⟨"PairChoice", "bit", "(I)I"⟩ "PairChoice") s := h.2 ("PairChoice$Pairing", 45, ⟨"PairChoice", "bit", "(I)I"⟩, "PairChoice") (by decide +kernel)
theorem nw_374 {s : State} (h : NF s) : va_Nw (.methodLinkNest "PairChoice" 143 ⟨"PairChoice$Choice", "shareOut", "(I)V"⟩ "PairChoice") s := h.2 ("PairChoice", 143, ⟨"PairChoice$Choice", "shareOut", "(I)V"⟩, "PairChoice") (by decide +kernel)
theorem nw_406 {s : State} (h : NF s) : va_Nw (.methodLinkNest "PairChoice" 149 ⟨"PairChoice$Choice", "couldStandIn", "(II)Z"⟩ "PairChoice") s := h.2 ("PairChoice", 149, ⟨"PairChoice$Choice", "couldStandIn", "(II)Z"⟩, "PairChoice") (by decide +kernel)
theorem nw_68 {s : State} (h : NF s) : va_Nw (.fieldLinkNest "PairChoice$Pairing" 18 "PairChoice$Herd" "males" "I" "PairChoice") s := h.1 ("PairChoice$Pairing", 18, "PairChoice$Herd", "males", "I", "PairChoice") (by decide +kernel)
theorem nw_309 {s : State} (h : NF s) : va_Nw (.methodLinkNest "PairChoice$SetList" 58 ⟨"PairChoice$Herd", "keepsRules", "(II)Z"⟩ "PairChoice") s := h.2 ("PairChoice$SetList", 58, ⟨"PairChoice$Herd", "keepsRules", "(II)Z"⟩, "PairChoice") (by decide +kernel)
theorem nw_323 {s : State} (h : NF s) : va_Nw (.methodLinkNest "PairChoice$SetList" 62 ⟨"PairChoice$Pairing", "pairSet", "(LPairChoice$Herd;I)Z"⟩ "PairChoice") s := h.2 ("PairChoice$SetList", 62, ⟨"PairChoice$Pairing", "pairSet", "(LPairChoice$Herd;I)Z"⟩, "PairChoice") (by decide +kernel)
theorem nw_338 {s : State} (h : NF s) : va_Nw (.methodLinkNest "PairChoice$SetList" 66 ⟨"PairChoice$Herd", "worthSum", "(I)I"⟩ "PairChoice") s := h.2 ("PairChoice$SetList", 66, ⟨"PairChoice$Herd", "worthSum", "(I)I"⟩, "PairChoice") (by decide +kernel)
theorem nw_354 {s : State} (h : NF s) : va_Nw (.methodLinkNest "PairChoice$Choice" 40 ⟨"PairChoice$Pairing", "pairSet", "(LPairChoice$Herd;I)Z"⟩ "PairChoice") s := h.2 ("PairChoice$Choice", 40, ⟨"PairChoice$Pairing", "pairSet", "(LPairChoice$Herd;I)Z"⟩, "PairChoice") (by decide +kernel)
theorem nw_301 {s : State} (h : NF s) : va_Nw (.methodLinkNest "PairChoice$SetList" 51 ⟨"PairChoice$Herd", "all", "()I"⟩ "PairChoice") s := h.2 ("PairChoice$SetList", 51, ⟨"PairChoice$Herd", "all", "()I"⟩, "PairChoice") (by decide +kernel)
theorem nw_69 {s : State} (h : NF s) : va_Nw (.fieldLinkNest "PairChoice$SetList" 36 "PairChoice$Herd" "males" "I" "PairChoice") s := h.1 ("PairChoice$SetList", 36, "PairChoice$Herd", "males", "I", "PairChoice") (by decide +kernel)
theorem nw_287 {s : State} (h : NF s) : va_Nw (.methodLinkNest "PairChoice" 95 ⟨"PairChoice$SetList", "listAll", "(I)V"⟩ "PairChoice") s := h.2 ("PairChoice", 95, ⟨"PairChoice$SetList", "listAll", "(I)V"⟩, "PairChoice") (by decide +kernel)
theorem nw_136 {s : State} (h : NF s) : va_Nw (.fieldLinkNest "PairChoice" 99 "PairChoice$SetList" "size" "I" "PairChoice") s := h.1 ("PairChoice", 99, "PairChoice$SetList", "size", "I", "PairChoice") (by decide +kernel)
theorem nw_342 {s : State} (h : NF s) : va_Nw (.methodLinkNest "PairChoice" 105 ⟨"PairChoice$SetList", "best", "()I"⟩ "PairChoice") s := h.2 ("PairChoice", 105, ⟨"PairChoice$SetList", "best", "()I"⟩, "PairChoice") (by decide +kernel)
theorem nw_350 {s : State} (h : NF s) : va_Nw (.methodLinkNest "PairChoice" 109 ⟨"PairChoice$Choice", "take", "(III)V"⟩ "PairChoice") s := h.2 ("PairChoice", 109, ⟨"PairChoice$Choice", "take", "(III)V"⟩, "PairChoice") (by decide +kernel)
theorem nw_418 {s : State} (h : NF s) : va_Nw (.methodLinkNest "PairChoice" 153 ⟨"PairChoice$SetList", "greatestSumWith", "(II)I"⟩ "PairChoice") s := h.2 ("PairChoice", 153, ⟨"PairChoice$SetList", "greatestSumWith", "(II)I"⟩, "PairChoice") (by decide +kernel)
theorem nw_430 {s : State} (h : NF s) : va_Nw (.methodLinkNest "PairChoice" 160 ⟨"PairChoice$Herd", "all", "()I"⟩ "PairChoice") s := h.2 ("PairChoice", 160, ⟨"PairChoice$Herd", "all", "()I"⟩, "PairChoice") (by decide +kernel)
theorem nw_441 {s : State} (h : NF s) : va_Nw (.methodLinkNest "PairChoice" 174 ⟨"PairChoice$SetList", "greatestSumAmong", "(I)I"⟩ "PairChoice") s := h.2 ("PairChoice", 174, ⟨"PairChoice$SetList", "greatestSumAmong", "(I)I"⟩, "PairChoice") (by decide +kernel)
theorem nw_445 {s : State} (h : NF s) : va_Nw (.methodLinkNest "PairChoice" 177 ⟨"PairChoice$Outlook", "note", "(III)V"⟩ "PairChoice") s := h.2 ("PairChoice", 177, ⟨"PairChoice$Outlook", "note", "(III)V"⟩, "PairChoice") (by decide +kernel)
end
section
def wp_Choice_drop (v_this_pairs : Int32)  (post : Int32 → Prop) : Prop := post 0
def wp_Choice_hasPair (v_this_pairs : Int32) (x1 : Int32) (post : Int32 → Prop) : Prop := (x1 < 0 → (post 0)) ∧ (¬ x1 < 0 → ((v_this_pairs ≤ x1 → (post 0)) ∧ (¬ v_this_pairs ≤ x1 → (post 1))))
def wp_Choice_pairWorth (v_this_herd_worths : (Nat → Int32)) (v_this_pairing_females : (Nat → Int32)) (v_this_pairing_males : (Nat → Int32)) (x1 : Int32) (post : Int32 → Prop) : Prop := vp_in x1 6 ∧ (vp_in (v_this_pairing_males x1.toNatClampNeg) 12 ∧ (vp_in x1 6 ∧ (vp_in (v_this_pairing_females x1.toNatClampNeg) 12 ∧ (post ((v_this_herd_worths (v_this_pairing_males x1.toNatClampNeg).toNatClampNeg) + (v_this_herd_worths (v_this_pairing_females x1.toNatClampNeg).toNatClampNeg))))))
def wp_Choice_leastPairWorth_L8 (v_this_herd_worths : (Nat → Int32)) (v_this_pairing_females : (Nat → Int32)) (v_this_pairing_males : (Nat → Int32)) (v_this_pairs : Int32) (post : Int32 → Prop) : Nat → Int32 → Int32 → Prop
  | 0, _, _ => False
  | n8 + 1, x1_8, x2_8 => (v_this_pairs ≤ x2_8 → (post x1_8)) ∧ (¬ v_this_pairs ≤ x2_8 → (wp_Choice_pairWorth v_this_herd_worths v_this_pairing_females v_this_pairing_males x2_8 (fun r3 => wp_Choice_leastPairWorth_L8 v_this_herd_worths v_this_pairing_females v_this_pairing_males v_this_pairs post n8 (if r3 < x1_8 then r3 else x1_8) (x2_8 + 1))))
def wp_Choice_leastPairWorth (v_this_herd_worths : (Nat → Int32)) (v_this_pairing_females : (Nat → Int32)) (v_this_pairing_males : (Nat → Int32)) (v_this_pairs : Int32)  (post : Int32 → Prop) : Prop := wp_Choice_pairWorth v_this_herd_worths v_this_pairing_females v_this_pairing_males 0 (fun r1 => ∃ n8, wp_Choice_leastPairWorth_L8 v_this_herd_worths v_this_pairing_females v_this_pairing_males v_this_pairs post n8 r1 (1))
def wp_Choice_greatestRest_L4 (v_this_pairs : Int32) (v_this_rests : (Nat → Int64)) (post : Int32 → Prop) : Nat → Int32 → Int32 → Prop
  | 0, _, _ => False
  | n4 + 1, x1_4, x2_4 => (v_this_pairs ≤ x2_4 → (post x1_4)) ∧ (¬ v_this_pairs ≤ x2_4 → (vp_in x2_4 6 ∧ (vp_in x1_4 6 ∧ (((lg_cmp (v_this_rests x2_4.toNatClampNeg) (v_this_rests x1_4.toNatClampNeg)) ≤ 0 → (wp_Choice_greatestRest_L4 v_this_pairs v_this_rests post n4 x1_4 (x2_4 + 1))) ∧ (¬ (lg_cmp (v_this_rests x2_4.toNatClampNeg) (v_this_rests x1_4.toNatClampNeg)) ≤ 0 → (wp_Choice_greatestRest_L4 v_this_pairs v_this_rests post n4 x2_4 (x2_4 + 1)))))))
def wp_Choice_greatestRest (v_this_pairs : Int32) (v_this_rests : (Nat → Int64))  (post : Int32 → Prop) : Prop := ∃ n4, wp_Choice_greatestRest_L4 v_this_pairs v_this_rests post n4 (0) (1)
def wp_Herd_knows (v_this_count : Int32) (x1 : Int32) (post : Int32 → Prop) : Prop := (x1 < 0 → (post 0)) ∧ (¬ x1 < 0 → ((v_this_count ≤ x1 → (post 0)) ∧ (¬ v_this_count ≤ x1 → (post 1))))
def wp_Outlook_note (v_this_alive : (Nat → Int32)) (v_this_bestSums : (Nat → Int32)) (x1 : Int32) (x2 : Int32) (x3 : Int32) (post : (Nat → Int32) → (Nat → Int32) → Prop) : Prop := vp_in x1 20 ∧ (vp_in x1 20 ∧ (post (upd v_this_alive x1.toNatClampNeg x2) (upd v_this_bestSums x1.toNatClampNeg x3)))
def wp_SetList_forget (v_this_pairs : Int32)  (post : Int32 → Prop) : Prop := post 0
def wp_SetList_goesBefore  (x0 : Int32) (x1 : Int32) (post : Int32 → Prop) : Prop := (((x0 &&& (x0 ^^^ x1)) &&& (-(x0 ^^^ x1))) = 0 → (post 0)) ∧ (¬ ((x0 &&& (x0 ^^^ x1)) &&& (-(x0 ^^^ x1))) = 0 → (post 1))
def wp_SetList_greatestSumAmong_L5 (v_this_listed : (Nat → Int32)) (v_this_size : Int32) (v_this_sums : (Nat → Int32)) (x1 : Int32) (post : Int32 → Prop) : Nat → Int32 → Int32 → Prop
  | 0, _, _ => False
  | n5 + 1, x2_5, x3_5 => (v_this_size ≤ x3_5 → (post x2_5)) ∧ (¬ v_this_size ≤ x3_5 → (vp_in x3_5 400 ∧ ((¬ ((v_this_listed x3_5.toNatClampNeg) &&& (x1 ^^^ (-1))) = 0 → (wp_SetList_greatestSumAmong_L5 v_this_listed v_this_size v_this_sums x1 post n5 x2_5 (x3_5 + 1))) ∧ (((v_this_listed x3_5.toNatClampNeg) &&& (x1 ^^^ (-1))) = 0 → (vp_in x3_5 400 ∧ (wp_SetList_greatestSumAmong_L5 v_this_listed v_this_size v_this_sums x1 post n5 (if x2_5 < (v_this_sums x3_5.toNatClampNeg) then (v_this_sums x3_5.toNatClampNeg) else x2_5) (x3_5 + 1)))))))
def wp_SetList_greatestSumAmong (v_this_listed : (Nat → Int32)) (v_this_size : Int32) (v_this_sums : (Nat → Int32)) (x1 : Int32) (post : Int32 → Prop) : Prop := ∃ n5, wp_SetList_greatestSumAmong_L5 v_this_listed v_this_size v_this_sums x1 post n5 (-100000000) (0)
def wp_PairChoice_eggsOf (v_this_choice_eggShares : (Nat → Int32)) (v_this_choice_pairs : Int32) (x1 : Int32) (post : Int32 → Prop) : Prop := wp_Choice_hasPair v_this_choice_pairs x1 (fun r1 => (r1 = 0 → (post (-1))) ∧ (¬ r1 = 0 → (vp_in x1 6 ∧ (post (v_this_choice_eggShares x1.toNatClampNeg)))))
def wp_PairChoice_forgetFindings (v_this_choice_pairs : Int32) (v_this_sets_pairs : Int32)  (post : Int32 → Int32 → Prop) : Prop := wp_Choice_drop v_this_choice_pairs  (fun v1 => wp_SetList_forget v_this_sets_pairs  (fun v2 => post v1 v2))
def wp_PairChoice_fate  (x0 : Int64) (post : Int64 → Prop) : Prop := ¬ (1000 : Int64) = 0 ∧ (post ((((((x0 * (-7046029254386353131 : Int64)) ^^^ (((x0 * (-7046029254386353131 : Int64)).toUInt64 >>> ((29 : Int32).toInt64.toUInt64 &&& Int64.toUInt64 63)).toInt64)) * (-4658895280553007687 : Int64)).toUInt64 >>> ((33 : Int32).toInt64.toUInt64 &&& Int64.toUInt64 63)).toInt64) - (((((x0 * (-7046029254386353131 : Int64)) ^^^ (((x0 * (-7046029254386353131 : Int64)).toUInt64 >>> ((29 : Int32).toInt64.toUInt64 &&& Int64.toUInt64 63)).toInt64)) * (-4658895280553007687 : Int64)).toUInt64 >>> ((33 : Int32).toInt64.toUInt64 &&& Int64.toUInt64 63)).toInt64) / (1000 : Int64) * (1000 : Int64)))
def wp_PairChoice_isWithin  (x0 : Int32) (x1 : Int32) (x2 : Int32) (post : Int32 → Prop) : Prop := (x0 < x1 → (post 0)) ∧ (¬ x0 < x1 → ((x2 < x0 → (post 0)) ∧ (¬ x2 < x0 → (post 1))))
def wp_PairChoice_isWorth  (x0 : Int32) (post : Int32 → Prop) : Prop := wp_PairChoice_isWithin x0 (-10000) 10000 (fun r1 => post r1)
def wp_PairChoice_isNumberOfPairs  (x0 : Int32) (post : Int32 → Prop) : Prop := wp_PairChoice_isWithin x0 1 6 (fun r1 => post r1)
def wp_PairChoice_bit  (x0 : Int32) (post : Int32 → Prop) : Prop := post ((1 : Int32) <<< (x0 &&& 31))
def wp_PairChoice_has  (x0 : Int32) (x1 : Int32) (post : Int32 → Prop) : Prop := (((x0 >>> (x1 &&& 31)) &&& 1) = 0 → (post 0)) ∧ (¬ ((x0 >>> (x1 &&& 31)) &&& 1) = 0 → (post 1))
def wp_Integer_bitCount  (x0 : Int32) (post : Int32 → Prop) : Prop := ∀ y1 : Int32, y1 = (((x0 - (((x0.toUInt32 >>> ((1 : Int32).toUInt32 &&& Int32.toUInt32 31)).toInt32) &&& 1431655765)) &&& 858993459) + ((((x0 - (((x0.toUInt32 >>> ((1 : Int32).toUInt32 &&& Int32.toUInt32 31)).toInt32) &&& 1431655765)).toUInt32 >>> ((2 : Int32).toUInt32 &&& Int32.toUInt32 31)).toInt32) &&& 858993459)) → (∀ y2 : Int32, y2 = (((y1 + ((y1.toUInt32 >>> ((4 : Int32).toUInt32 &&& Int32.toUInt32 31)).toInt32)) &&& 252645135) + ((((y1 + ((y1.toUInt32 >>> ((4 : Int32).toUInt32 &&& Int32.toUInt32 31)).toInt32)) &&& 252645135).toUInt32 >>> ((8 : Int32).toUInt32 &&& Int32.toUInt32 31)).toInt32)) → (post ((y2 + ((y2.toUInt32 >>> ((16 : Int32).toUInt32 &&& Int32.toUInt32 31)).toInt32)) &&& 63)))
def wp_Choice_giveLeftOnes_L2 (v_this_pairs : Int32) (x1 : Int32) (post : (Nat → Int32) → (Nat → Int64) → Prop) : Nat → Int32 → (Nat → Int32) → (Nat → Int64) → Prop
  | 0, _, _, _ => False
  | n2 + 1, x2_2, w2_this_eggShares, w2_this_rests => (x1 ≤ x2_2 → (post w2_this_eggShares w2_this_rests)) ∧ (¬ x1 ≤ x2_2 → ((v_this_pairs ≤ x2_2 → (post w2_this_eggShares w2_this_rests)) ∧ (¬ v_this_pairs ≤ x2_2 → (wp_Choice_greatestRest v_this_pairs w2_this_rests  (fun r3 => vp_in r3 6 ∧ (vp_in r3 6 ∧ (vp_in r3 6 ∧ (wp_Choice_giveLeftOnes_L2 v_this_pairs x1 post n2 (x2_2 + 1) (upd w2_this_eggShares r3.toNatClampNeg ((w2_this_eggShares r3.toNatClampNeg) + 1)) (vp_updL w2_this_rests r3.toNatClampNeg (-1 : Int64))))))))))
def wp_Choice_giveLeftOnes (v_this_eggShares : (Nat → Int32)) (v_this_pairs : Int32) (v_this_rests : (Nat → Int64)) (x1 : Int32) (post : (Nat → Int32) → (Nat → Int64) → Prop) : Prop := ∃ n2, wp_Choice_giveLeftOnes_L2 v_this_pairs x1 post n2 (0) v_this_eggShares v_this_rests
def wp_Herd_all (v_this_count : Int32)  (post : Int32 → Prop) : Prop := wp_PairChoice_bit v_this_count (fun r1 => post (r1 - 1))
def wp_Herd_add (v_this_count : Int32) (v_this_families : (Nat → Int32)) (v_this_males : Int32) (v_this_worths : (Nat → Int32)) (x1 : Int32) (x2 : Int32) (x3 : Int32) (post : Int32 → Int32 → (Nat → Int32) → Int32 → (Nat → Int32) → Prop) : Prop := vp_in v_this_count 12 ∧ (vp_in x3 8 ∧ (wp_PairChoice_bit v_this_count (fun r3 => vp_in x3 8 ∧ ((¬ x1 = 0 → (post v_this_count (v_this_count + 1) (upd v_this_families x3.toNatClampNeg ((v_this_families x3.toNatClampNeg) ||| r3)) v_this_males (upd v_this_worths v_this_count.toNatClampNeg x2))) ∧ (x1 = 0 → (wp_PairChoice_bit v_this_count (fun r6 => post v_this_count (v_this_count + 1) (upd v_this_families x3.toNatClampNeg ((v_this_families x3.toNatClampNeg) ||| r3)) (v_this_males ||| r6) (upd v_this_worths v_this_count.toNatClampNeg x2))))))))
def wp_Herd_worthSum_L4 (v_this_count : Int32) (v_this_worths : (Nat → Int32)) (x1 : Int32) (post : Int32 → Prop) : Nat → Int32 → Int32 → Prop
  | 0, _, _ => False
  | n4 + 1, x2_4, x3_4 => (v_this_count ≤ x3_4 → (post x2_4)) ∧ (¬ v_this_count ≤ x3_4 → (wp_PairChoice_has x1 x3_4 (fun r2 => (r2 = 0 → (wp_Herd_worthSum_L4 v_this_count v_this_worths x1 post n4 x2_4 (x3_4 + 1))) ∧ (¬ r2 = 0 → (vp_in x3_4 12 ∧ (wp_Herd_worthSum_L4 v_this_count v_this_worths x1 post n4 (x2_4 + (v_this_worths x3_4.toNatClampNeg)) (x3_4 + 1)))))))
def wp_Herd_worthSum (v_this_count : Int32) (v_this_worths : (Nat → Int32)) (x1 : Int32) (post : Int32 → Prop) : Prop := ∃ n4, wp_Herd_worthSum_L4 v_this_count v_this_worths x1 post n4 (0) (0)
def wp_Herd_kinSum_L37 (v_this_kinships : (Nat → Nat → Int32)) (x1 : Int32) (x3_4 : Int32) (post : Int32 → Prop) (K4 : Int32 → Int32 → Prop) : Nat → Int32 → Int32 → Prop
  | 0, _, _ => False
  | n37 + 1, x2_37, x4_37 => (x3_4 ≤ x4_37 → (K4 x2_37 (x3_4 + 1))) ∧ (¬ x3_4 ≤ x4_37 → (wp_PairChoice_has x1 x4_37 (fun r7 => (r7 = 0 → (wp_Herd_kinSum_L37 v_this_kinships x1 x3_4 post K4 n37 x2_37 (x4_37 + 1))) ∧ (¬ r7 = 0 → (vp_in x3_4 12 ∧ (vp_in x4_37 12 ∧ (wp_Herd_kinSum_L37 v_this_kinships x1 x3_4 post K4 n37 (x2_37 + ((2 : Int32) * (v_this_kinships x3_4.toNatClampNeg x4_37.toNatClampNeg))) (x4_37 + 1))))))))
def wp_Herd_kinSum_L4 (v_this_count : Int32) (v_this_kinships : (Nat → Nat → Int32)) (x1 : Int32) (post : Int32 → Prop) : Nat → Int32 → Int32 → Prop
  | 0, _, _ => False
  | n4 + 1, x2_4, x3_4 => (v_this_count ≤ x3_4 → (post x2_4)) ∧ (¬ v_this_count ≤ x3_4 → (wp_PairChoice_has x1 x3_4 (fun r2 => (¬ r2 = 0 → (vp_in x3_4 12 ∧ (vp_in x3_4 12 ∧ (∃ n37, wp_Herd_kinSum_L37 v_this_kinships x1 x3_4 post (fun z0 z1 => wp_Herd_kinSum_L4 v_this_count v_this_kinships x1 post n4 z0 z1) n37 (x2_4 + (v_this_kinships x3_4.toNatClampNeg x3_4.toNatClampNeg)) (0))))) ∧ (r2 = 0 → (wp_Herd_kinSum_L4 v_this_count v_this_kinships x1 post n4 x2_4 (x3_4 + 1))))))
def wp_Herd_kinSum (v_this_count : Int32) (v_this_kinships : (Nat → Nat → Int32)) (x1 : Int32) (post : Int32 → Prop) : Prop := ∃ n4, wp_Herd_kinSum_L4 v_this_count v_this_kinships x1 post n4 (0) (0)
def wp_Herd_keepsFamilies_L2 (v_this_families : (Nat → Int32)) (v_this_leastOfFamily : (Nat → Int32)) (v_this_mostOfFamily : Int32) (x1 : Int32) (post : Int32 → Prop) : Nat → Int32 → Prop
  | 0, _ => False
  | n2 + 1, x2_2 => (8 ≤ x2_2 → (post 1)) ∧ (¬ 8 ≤ x2_2 → (vp_in x2_2 8 ∧ (wp_Integer_bitCount (x1 &&& (v_this_families x2_2.toNatClampNeg)) (fun r3 => vp_in x2_2 8 ∧ ((r3 < (v_this_leastOfFamily x2_2.toNatClampNeg) → (post 0)) ∧ (¬ r3 < (v_this_leastOfFamily x2_2.toNatClampNeg) → ((v_this_mostOfFamily ≤ 0 → (wp_Herd_keepsFamilies_L2 v_this_families v_this_leastOfFamily v_this_mostOfFamily x1 post n2 (x2_2 + 1))) ∧ (¬ v_this_mostOfFamily ≤ 0 → ((r3 ≤ v_this_mostOfFamily → (wp_Herd_keepsFamilies_L2 v_this_families v_this_leastOfFamily v_this_mostOfFamily x1 post n2 (x2_2 + 1))) ∧ (¬ r3 ≤ v_this_mostOfFamily → (post 0)))))))))))
def wp_Herd_keepsFamilies (v_this_families : (Nat → Int32)) (v_this_leastOfFamily : (Nat → Int32)) (v_this_mostOfFamily : Int32) (x1 : Int32) (post : Int32 → Prop) : Prop := ∃ n2, wp_Herd_keepsFamilies_L2 v_this_families v_this_leastOfFamily v_this_mostOfFamily x1 post n2 (0)
def wp_Herd_keepsRules (v_this_count : Int32) (v_this_families : (Nat → Int32)) (v_this_kinLimit : Int32) (v_this_kinships : (Nat → Nat → Int32)) (v_this_leastOfFamily : (Nat → Int32)) (v_this_mostOfFamily : Int32) (x1 : Int32) (x2 : Int32) (post : Int32 → Prop) : Prop := wp_Herd_keepsFamilies v_this_families v_this_leastOfFamily v_this_mostOfFamily x1 (fun r1 => (r1 = 0 → (post 0)) ∧ (¬ r1 = 0 → (wp_Herd_kinSum v_this_count v_this_kinships x1 (fun r3 => (((((4 : Int32) * x2) * x2) * v_this_kinLimit) < r3 → (post 0)) ∧ (¬ ((((4 : Int32) * x2) * x2) * v_this_kinLimit) < r3 → (post 1))))))
def wp_SetList_best_L7 (v_this_listed : (Nat → Int32)) (v_this_size : Int32) (v_this_sums : (Nat → Int32)) (post : Int32 → Prop) : Nat → Int32 → Int32 → Int32 → Prop
  | 0, _, _, _ => False
  | n7 + 1, x1_7, x2_7, x3_7 => (v_this_size ≤ x3_7 → (post x1_7)) ∧ (¬ v_this_size ≤ x3_7 → (vp_in x3_7 400 ∧ ((x2_7 < (v_this_sums x3_7.toNatClampNeg) → (vp_in x3_7 400 ∧ (vp_in x3_7 400 ∧ (wp_SetList_best_L7 v_this_listed v_this_size v_this_sums post n7 (v_this_listed x3_7.toNatClampNeg) (v_this_sums x3_7.toNatClampNeg) (x3_7 + 1))))) ∧ (¬ x2_7 < (v_this_sums x3_7.toNatClampNeg) → (vp_in x3_7 400 ∧ ((¬ (v_this_sums x3_7.toNatClampNeg) = x2_7 → (wp_SetList_best_L7 v_this_listed v_this_size v_this_sums post n7 x1_7 x2_7 (x3_7 + 1))) ∧ ((v_this_sums x3_7.toNatClampNeg) = x2_7 → (vp_in x3_7 400 ∧ (wp_SetList_goesBefore (v_this_listed x3_7.toNatClampNeg) x1_7 (fun r9 => (r9 = 0 → (wp_SetList_best_L7 v_this_listed v_this_size v_this_sums post n7 x1_7 x2_7 (x3_7 + 1))) ∧ (¬ r9 = 0 → (vp_in x3_7 400 ∧ (vp_in x3_7 400 ∧ (wp_SetList_best_L7 v_this_listed v_this_size v_this_sums post n7 (v_this_listed x3_7.toNatClampNeg) (v_this_sums x3_7.toNatClampNeg) (x3_7 + 1)))))))))))))))
def wp_SetList_best (v_this_listed : (Nat → Int32)) (v_this_size : Int32) (v_this_sums : (Nat → Int32))  (post : Int32 → Prop) : Prop := ∃ n7, wp_SetList_best_L7 v_this_listed v_this_size v_this_sums post n7 (0) (-100000000) (0)
def wp_SetList_greatestSumWith_L6 (v_this_listed : (Nat → Int32)) (v_this_size : Int32) (v_this_sums : (Nat → Int32)) (x1 : Int32) (x2 : Int32) (post : Int32 → Prop) : Nat → Int32 → Int32 → Prop
  | 0, _, _ => False
  | n6 + 1, x3_6, x4_6 => (v_this_size ≤ x4_6 → (post x3_6)) ∧ (¬ v_this_size ≤ x4_6 → (vp_in x4_6 400 ∧ (wp_PairChoice_has (v_this_listed x4_6.toNatClampNeg) x1 (fun r3 => (r3 = 0 → (vp_in x4_6 400 ∧ (wp_SetList_greatestSumWith_L6 v_this_listed v_this_size v_this_sums x1 x2 post n6 (if x3_6 < (v_this_sums x4_6.toNatClampNeg) then (v_this_sums x4_6.toNatClampNeg) else x3_6) (x4_6 + 1)))) ∧ (¬ r3 = 0 → (vp_in x4_6 400 ∧ (wp_SetList_greatestSumWith_L6 v_this_listed v_this_size v_this_sums x1 x2 post n6 (if x3_6 < ((v_this_sums x4_6.toNatClampNeg) + x2) then ((v_this_sums x4_6.toNatClampNeg) + x2) else x3_6) (x4_6 + 1))))))))
def wp_SetList_greatestSumWith (v_this_listed : (Nat → Int32)) (v_this_size : Int32) (v_this_sums : (Nat → Int32)) (x1 : Int32) (x2 : Int32) (post : Int32 → Prop) : Prop := ∃ n6, wp_SetList_greatestSumWith_L6 v_this_listed v_this_size v_this_sums x1 x2 post n6 (-100000000) (0)
def wp_PairChoice_animal (v_this_choice_pairs : Int32) (v_this_herd_count : Int32) (v_this_herd_families : (Nat → Int32)) (v_this_herd_males : Int32) (v_this_herd_worths : (Nat → Int32)) (v_this_sets_pairs : Int32) (x1 : Int32) (x2 : Int32) (x3 : Int32) (post : Int32 → Int32 → Int32 → (Nat → Int32) → Int32 → (Nat → Int32) → Int32 → Prop) : Prop := wp_PairChoice_isWithin x1 0 1 (fun r1 => (r1 = 0 → (post (-2) v_this_choice_pairs v_this_herd_count v_this_herd_families v_this_herd_males v_this_herd_worths v_this_sets_pairs)) ∧ (¬ r1 = 0 → (wp_PairChoice_isWorth x2 (fun r3 => (r3 = 0 → (post (-2) v_this_choice_pairs v_this_herd_count v_this_herd_families v_this_herd_males v_this_herd_worths v_this_sets_pairs)) ∧ (¬ r3 = 0 → (wp_PairChoice_isWithin x3 0 7 (fun r5 => (¬ r5 = 0 → ((v_this_herd_count < 12 → (wp_PairChoice_forgetFindings v_this_choice_pairs v_this_sets_pairs  (fun v8 v9 => wp_Herd_add v_this_herd_count v_this_herd_families v_this_herd_males v_this_herd_worths x1 x2 x3 (fun r10 v11 v12 v13 v14 => post r10 v8 v11 v12 v13 v14 v9)))) ∧ (¬ v_this_herd_count < 12 → (post (-4) v_this_choice_pairs v_this_herd_count v_this_herd_families v_this_herd_males v_this_herd_worths v_this_sets_pairs)))) ∧ (r5 = 0 → (post (-2) v_this_choice_pairs v_this_herd_count v_this_herd_families v_this_herd_males v_this_herd_worths v_this_sets_pairs)))))))))
def wp_PairChoice_worth (v_this_choice_pairs : Int32) (v_this_herd_count : Int32) (v_this_herd_worths : (Nat → Int32)) (v_this_sets_pairs : Int32) (x1 : Int32) (x2 : Int32) (post : Int32 → Int32 → (Nat → Int32) → Int32 → Prop) : Prop := wp_Herd_knows v_this_herd_count x1 (fun r1 => (¬ r1 = 0 → (wp_PairChoice_isWorth x2 (fun r3 => (¬ r3 = 0 → (vp_in x1 12 ∧ ((x2 = (v_this_herd_worths x1.toNatClampNeg) → (post (v_this_herd_worths x1.toNatClampNeg) v_this_choice_pairs v_this_herd_worths v_this_sets_pairs)) ∧ (¬ x2 = (v_this_herd_worths x1.toNatClampNeg) → (vp_in x1 12 ∧ (wp_PairChoice_forgetFindings v_this_choice_pairs v_this_sets_pairs  (fun v8 v9 => post (v_this_herd_worths x1.toNatClampNeg) v8 (upd v_this_herd_worths x1.toNatClampNeg x2) v9))))))) ∧ (r3 = 0 → (post (-20001) v_this_choice_pairs v_this_herd_worths v_this_sets_pairs))))) ∧ (r1 = 0 → (post (-20000) v_this_choice_pairs v_this_herd_worths v_this_sets_pairs)))
def wp_PairChoice_kin (v_this_choice_pairs : Int32) (v_this_herd_count : Int32) (v_this_herd_kinships : (Nat → Nat → Int32)) (v_this_sets_pairs : Int32) (x1 : Int32) (x2 : Int32) (x3 : Int32) (post : Int32 → Int32 → (Nat → Nat → Int32) → Int32 → Prop) : Prop := wp_Herd_knows v_this_herd_count x1 (fun r1 => (r1 = 0 → (post (-1) v_this_choice_pairs v_this_herd_kinships v_this_sets_pairs)) ∧ (¬ r1 = 0 → (wp_Herd_knows v_this_herd_count x2 (fun r3 => (¬ r3 = 0 → (wp_PairChoice_isWithin x3 0 1000 (fun r5 => (¬ r5 = 0 → (vp_in x1 12 ∧ (vp_in x2 12 ∧ ((x3 = (v_this_herd_kinships x1.toNatClampNeg x2.toNatClampNeg) → (post (v_this_herd_kinships x1.toNatClampNeg x2.toNatClampNeg) v_this_choice_pairs v_this_herd_kinships v_this_sets_pairs)) ∧ (¬ x3 = (v_this_herd_kinships x1.toNatClampNeg x2.toNatClampNeg) → (vp_in x1 12 ∧ (vp_in x2 12 ∧ (vp_in x2 12 ∧ (vp_in x1 12 ∧ (wp_PairChoice_forgetFindings v_this_choice_pairs v_this_sets_pairs  (fun v14 v15 => post (v_this_herd_kinships x1.toNatClampNeg x2.toNatClampNeg) v14 (gup (gup v_this_herd_kinships x1.toNatClampNeg x2.toNatClampNeg x3) x2.toNatClampNeg x1.toNatClampNeg x3) v15))))))))))) ∧ (r5 = 0 → (post (-2) v_this_choice_pairs v_this_herd_kinships v_this_sets_pairs))))) ∧ (r3 = 0 → (post (-1) v_this_choice_pairs v_this_herd_kinships v_this_sets_pairs))))))
def wp_PairChoice_bar (v_this_choice_pairs : Int32) (v_this_herd_barred : (Nat → Int32)) (v_this_herd_count : Int32) (v_this_herd_males : Int32) (v_this_sets_pairs : Int32) (x1 : Int32) (x2 : Int32) (x3 : Int32) (post : Int32 → Int32 → (Nat → Int32) → Int32 → Prop) : Prop := wp_Herd_knows v_this_herd_count x1 (fun r1 => (r1 = 0 → (post 0 v_this_choice_pairs v_this_herd_barred v_this_sets_pairs)) ∧ (¬ r1 = 0 → (wp_Herd_knows v_this_herd_count x2 (fun r3 => (¬ r3 = 0 → (wp_PairChoice_has v_this_herd_males x1 (fun r5 => wp_PairChoice_has v_this_herd_males x2 (fun r6 => (r5 = r6 → (post 0 v_this_choice_pairs v_this_herd_barred v_this_sets_pairs)) ∧ (¬ r5 = r6 → (vp_in x1 12 ∧ (wp_PairChoice_has (v_this_herd_barred x1.toNatClampNeg) x2 (fun r9 => (¬ r9 = x3 → (vp_in x1 12 ∧ (wp_PairChoice_bit x2 (fun r12 => vp_in x1 12 ∧ (vp_in x2 12 ∧ (wp_PairChoice_bit x1 (fun r15 => vp_in x2 12 ∧ (wp_PairChoice_forgetFindings v_this_choice_pairs v_this_sets_pairs  (fun v17 v18 => post 1 v17 (upd (upd v_this_herd_barred x1.toNatClampNeg ((v_this_herd_barred x1.toNatClampNeg) ^^^ r12)) x2.toNatClampNeg (((upd v_this_herd_barred x1.toNatClampNeg ((v_this_herd_barred x1.toNatClampNeg) ^^^ r12)) x2.toNatClampNeg) ^^^ r15)) v18))))))))) ∧ (r9 = x3 → (post 0 v_this_choice_pairs v_this_herd_barred v_this_sets_pairs)))))))))) ∧ (r3 = 0 → (post 0 v_this_choice_pairs v_this_herd_barred v_this_sets_pairs))))))
def wp_PairChoice_limit (v_this_choice_pairs : Int32) (v_this_herd_kinLimit : Int32) (v_this_sets_pairs : Int32) (x1 : Int32) (post : Int32 → Int32 → Int32 → Int32 → Prop) : Prop := wp_PairChoice_isWithin x1 0 1000 (fun r1 => (¬ r1 = 0 → ((x1 = v_this_herd_kinLimit → (post v_this_herd_kinLimit v_this_choice_pairs v_this_herd_kinLimit v_this_sets_pairs)) ∧ (¬ x1 = v_this_herd_kinLimit → (wp_PairChoice_forgetFindings v_this_choice_pairs v_this_sets_pairs  (fun v4 v5 => post v_this_herd_kinLimit v4 x1 v5))))) ∧ (r1 = 0 → (post (-2) v_this_choice_pairs v_this_herd_kinLimit v_this_sets_pairs)))
def wp_PairChoice_even (v_this_choice_pairs : Int32) (v_this_herd_mostOfFamily : Int32) (v_this_sets_pairs : Int32) (x1 : Int32) (post : Int32 → Int32 → Int32 → Int32 → Prop) : Prop := wp_PairChoice_isWithin x1 0 12 (fun r1 => (¬ r1 = 0 → ((x1 = v_this_herd_mostOfFamily → (post v_this_herd_mostOfFamily v_this_choice_pairs v_this_herd_mostOfFamily v_this_sets_pairs)) ∧ (¬ x1 = v_this_herd_mostOfFamily → (wp_PairChoice_forgetFindings v_this_choice_pairs v_this_sets_pairs  (fun v4 v5 => post v_this_herd_mostOfFamily v4 x1 v5))))) ∧ (r1 = 0 → (post (-2) v_this_choice_pairs v_this_herd_mostOfFamily v_this_sets_pairs)))
def wp_PairChoice_line (v_this_choice_pairs : Int32) (v_this_herd_leastOfFamily : (Nat → Int32)) (v_this_sets_pairs : Int32) (x1 : Int32) (x2 : Int32) (post : Int32 → Int32 → (Nat → Int32) → Int32 → Prop) : Prop := wp_PairChoice_isWithin x1 0 7 (fun r1 => (¬ r1 = 0 → (wp_PairChoice_isWithin x2 0 12 (fun r3 => (¬ r3 = 0 → (vp_in x1 8 ∧ ((x2 = (v_this_herd_leastOfFamily x1.toNatClampNeg) → (post (v_this_herd_leastOfFamily x1.toNatClampNeg) v_this_choice_pairs v_this_herd_leastOfFamily v_this_sets_pairs)) ∧ (¬ x2 = (v_this_herd_leastOfFamily x1.toNatClampNeg) → (vp_in x1 8 ∧ (wp_PairChoice_forgetFindings v_this_choice_pairs v_this_sets_pairs  (fun v8 v9 => post (v_this_herd_leastOfFamily x1.toNatClampNeg) v8 (upd v_this_herd_leastOfFamily x1.toNatClampNeg x2) v9))))))) ∧ (r3 = 0 → (post (-2) v_this_choice_pairs v_this_herd_leastOfFamily v_this_sets_pairs))))) ∧ (r1 = 0 → (post (-1) v_this_choice_pairs v_this_herd_leastOfFamily v_this_sets_pairs)))
def wp_PairChoice_pairOf (v_this_choice_pairing_females : (Nat → Int32)) (v_this_choice_pairing_males : (Nat → Int32)) (v_this_choice_pairs : Int32) (x1 : Int32) (x2 : Int32) (post : Int32 → Prop) : Prop := wp_Choice_hasPair v_this_choice_pairs x1 (fun r1 => (¬ r1 = 0 → (wp_PairChoice_isWithin x2 0 1 (fun r3 => (¬ r3 = 0 → ((¬ x2 = 0 → (vp_in x1 6 ∧ (post (v_this_choice_pairing_females x1.toNatClampNeg)))) ∧ (x2 = 0 → (vp_in x1 6 ∧ (post (v_this_choice_pairing_males x1.toNatClampNeg)))))) ∧ (r3 = 0 → (post (-2)))))) ∧ (r1 = 0 → (post (-1))))
def wp_PairChoice_told (v_this_choice_pairs : Int32) (v_this_choice_set : Int32) (v_this_choice_setsThatMayBe : Int32) (v_this_herd_count : Int32) (v_this_herd_kinships : (Nat → Nat → Int32)) (v_this_herd_worths : (Nat → Int32)) (x1 : Int32) (post : Int32 → Prop) : Prop := wp_PairChoice_isWithin x1 0 3 (fun r1 => (¬ r1 = 0 → ((¬ v_this_choice_pairs = 0 → ((x1 = 0 → (wp_Herd_worthSum v_this_herd_count v_this_herd_worths v_this_choice_set (fun r7 => post r7))) ∧ (¬ x1 = 0 → ((x1 = 1 → (wp_Herd_kinSum v_this_herd_count v_this_herd_kinships v_this_choice_set (fun r8 => post r8))) ∧ (¬ x1 = 1 → ((x1 = 2 → (post v_this_choice_pairs)) ∧ (¬ x1 = 2 → (post v_this_choice_setsThatMayBe)))))))) ∧ (v_this_choice_pairs = 0 → (post (-3))))) ∧ (r1 = 0 → (post (-2))))
def wp_PairChoice_after (v_this_outlook_alive : (Nat → Int32)) (v_this_outlook_bestSums : (Nat → Int32)) (v_this_outlook_years : Int32) (x1 : Int32) (x2 : Int32) (post : Int32 → Prop) : Prop := wp_PairChoice_isWithin x1 0 (v_this_outlook_years - 1) (fun r1 => (¬ r1 = 0 → ((x2 = 0 → (vp_in x1 20 ∧ (post (v_this_outlook_alive x1.toNatClampNeg)))) ∧ (¬ x2 = 0 → ((x2 = 1 → (vp_in x1 20 ∧ ((¬ (v_this_outlook_bestSums x1.toNatClampNeg) = (-100000000) → (post 1)) ∧ ((v_this_outlook_bestSums x1.toNatClampNeg) = (-100000000) → (post 0))))) ∧ (¬ x2 = 1 → ((x2 = 2 → (vp_in x1 20 ∧ ((¬ (v_this_outlook_bestSums x1.toNatClampNeg) = (-100000000) → (vp_in x1 20 ∧ (post (v_this_outlook_bestSums x1.toNatClampNeg)))) ∧ ((v_this_outlook_bestSums x1.toNatClampNeg) = (-100000000) → (post 0))))) ∧ (¬ x2 = 2 → (post (-2))))))))) ∧ (r1 = 0 → (post (-1))))
def wp_PairChoice_survivors_L6 (x1 : Int64) (x3 : Int32) (post : Int32 → Prop) : Nat → Int32 → Int32 → Prop
  | 0, _, _ => False
  | n6 + 1, x4_6, x5_6 => (12 ≤ x5_6 → (post x4_6)) ∧ (¬ 12 ≤ x5_6 → (wp_PairChoice_fate ((x1 + ((x5_6 : Int32).toInt64)) + (1 : Int64)) (fun r2 => (0 ≤ (lg_cmp r2 ((x3 : Int32).toInt64)) → (wp_PairChoice_survivors_L6 x1 x3 post n6 x4_6 (x5_6 + 1))) ∧ (¬ 0 ≤ (lg_cmp r2 ((x3 : Int32).toInt64)) → (wp_PairChoice_bit x5_6 (fun r4 => wp_PairChoice_survivors_L6 x1 x3 post n6 (x4_6 &&& (r4 ^^^ (-1))) (x5_6 + 1)))))))
def wp_PairChoice_survivors  (x0 : Int32) (x1 : Int64) (x3 : Int32) (post : Int32 → Prop) : Prop := ∃ n6, wp_PairChoice_survivors_L6 x1 x3 post n6 x0 (0)
def wp_PairChoice_leastOf  (x0 : Int32) (post : Int32 → Prop) : Prop := wp_Integer_bitCount ((x0 &&& (-x0)) - 1) (fun r1 => post r1)
def wp_Choice_shareOut_L52 (v_this_herd_worths : (Nat → Int32)) (v_this_pairing_females : (Nat → Int32)) (v_this_pairing_males : (Nat → Int32)) (v_this_pairs : Int32) (x1 : Int32) (r1 : Int32) (x3_12 : Int64) (post : (Nat → Int32) → (Nat → Int64) → Prop) : Nat → Int32 → Int32 → (Nat → Int32) → (Nat → Int64) → Prop
  | 0, _, _, _, _ => False
  | n52 + 1, x5_52, x6_52, w52_this_eggShares, w52_this_rests => (v_this_pairs ≤ x6_52 → (wp_Choice_giveLeftOnes w52_this_eggShares v_this_pairs w52_this_rests x5_52 (fun v5 v6 => post v5 v6))) ∧ (¬ v_this_pairs ≤ x6_52 → (wp_Choice_pairWorth v_this_herd_worths v_this_pairing_females v_this_pairing_males x6_52 (fun r7 => ¬ x3_12 = 0 ∧ (vp_in x6_52 6 ∧ (¬ x3_12 = 0 ∧ (vp_in x6_52 6 ∧ (vp_in x6_52 6 ∧ (wp_Choice_shareOut_L52 v_this_herd_worths v_this_pairing_females v_this_pairing_males v_this_pairs x1 r1 x3_12 post n52 (x5_52 - ((upd w52_this_eggShares x6_52.toNatClampNeg ((((((x1 : Int32).toInt64) * (((r7 - (r1 - 1)) : Int32).toInt64)) / x3_12) : Int64).toInt32)) x6_52.toNatClampNeg)) (x6_52 + 1) (upd w52_this_eggShares x6_52.toNatClampNeg ((((((x1 : Int32).toInt64) * (((r7 - (r1 - 1)) : Int32).toInt64)) / x3_12) : Int64).toInt32)) (vp_updL w52_this_rests x6_52.toNatClampNeg ((((x1 : Int32).toInt64) * (((r7 - (r1 - 1)) : Int32).toInt64)) - (((x1 : Int32).toInt64) * (((r7 - (r1 - 1)) : Int32).toInt64)) / x3_12 * x3_12))))))))))
def wp_Choice_shareOut_L12 (v_this_eggShares : (Nat → Int32)) (v_this_herd_worths : (Nat → Int32)) (v_this_pairing_females : (Nat → Int32)) (v_this_pairing_males : (Nat → Int32)) (v_this_pairs : Int32) (v_this_rests : (Nat → Int64)) (x1 : Int32) (r1 : Int32) (post : (Nat → Int32) → (Nat → Int64) → Prop) : Nat → Int64 → Int32 → Prop
  | 0, _, _ => False
  | n12 + 1, x3_12, x5_12 => (v_this_pairs ≤ x5_12 → ((0 ≤ (lg_cmp x3_12 (1 : Int64)) → (∃ n52, wp_Choice_shareOut_L52 v_this_herd_worths v_this_pairing_females v_this_pairing_males v_this_pairs x1 r1 x3_12 post n52 x1 (0) v_this_eggShares v_this_rests)) ∧ (¬ 0 ≤ (lg_cmp x3_12 (1 : Int64)) → (post v_this_eggShares v_this_rests)))) ∧ (¬ v_this_pairs ≤ x5_12 → (wp_Choice_pairWorth v_this_herd_worths v_this_pairing_females v_this_pairing_males x5_12 (fun r13 => wp_Choice_shareOut_L12 v_this_eggShares v_this_herd_worths v_this_pairing_females v_this_pairing_males v_this_pairs v_this_rests x1 r1 post n12 (x3_12 + (((r13 - (r1 - 1)) : Int32).toInt64)) (x5_12 + 1))))
def wp_Choice_shareOut (v_this_eggShares : (Nat → Int32)) (v_this_herd_worths : (Nat → Int32)) (v_this_pairing_females : (Nat → Int32)) (v_this_pairing_males : (Nat → Int32)) (v_this_pairs : Int32) (v_this_rests : (Nat → Int64)) (x1 : Int32) (post : (Nat → Int32) → (Nat → Int64) → Prop) : Prop := wp_Choice_leastPairWorth v_this_herd_worths v_this_pairing_females v_this_pairing_males v_this_pairs  (fun r1 => ∃ n12, wp_Choice_shareOut_L12 v_this_eggShares v_this_herd_worths v_this_pairing_females v_this_pairing_males v_this_pairs v_this_rests x1 r1 post n12 (0 : Int64) (0))
def wp_Choice_couldStandIn (v_this_herd_barred : (Nat → Int32)) (v_this_herd_count : Int32) (v_this_herd_families : (Nat → Int32)) (v_this_herd_kinLimit : Int32) (v_this_herd_kinships : (Nat → Nat → Int32)) (v_this_herd_leastOfFamily : (Nat → Int32)) (v_this_herd_males : Int32) (v_this_herd_mostOfFamily : Int32) (v_this_pairing_females : (Nat → Int32)) (v_this_pairing_males : (Nat → Int32)) (v_this_pairs : Int32) (v_this_set : Int32) (x1 : Int32) (x2 : Int32) (post : Int32 → Prop) : Prop := wp_PairChoice_has (v_this_herd_males &&& (v_this_set ^^^ (-1))) x1 (fun r1 => (r1 = 0 → (post 0)) ∧ (¬ r1 = 0 → (vp_in x1 12 ∧ (vp_in x2 6 ∧ (wp_PairChoice_has (v_this_herd_barred x1.toNatClampNeg) (v_this_pairing_females x2.toNatClampNeg) (fun r5 => (r5 = 0 → (vp_in x2 6 ∧ (wp_PairChoice_bit (v_this_pairing_males x2.toNatClampNeg) (fun r8 => wp_PairChoice_bit x1 (fun r9 => wp_Herd_keepsRules v_this_herd_count v_this_herd_families v_this_herd_kinLimit v_this_herd_kinships v_this_herd_leastOfFamily v_this_herd_mostOfFamily ((v_this_set &&& (r8 ^^^ (-1))) ||| r9) v_this_pairs (fun r10 => post r10)))))) ∧ (¬ r5 = 0 → (post 0))))))))
def wp_Pairing_pairFrom_L48 (v_a2_barred : (Nat → Int32)) (v_a2_count : Int32) (x1 : Int32) (x3 : Int32) (x4 : Int32) (r3 : Int32) (rec : (Nat → Int32) → Int32 → (Nat → Int32) → (Nat → Int32) → Int32 → Int32 → Int32 → (Int32 → (Nat → Int32) → (Nat → Int32) → Prop) → Prop) (post : Int32 → (Nat → Int32) → (Nat → Int32) → Prop) : Nat → Int32 → (Nat → Int32) → (Nat → Int32) → Prop
  | 0, _, _, _ => False
  | n48 + 1, x7_48, w48_this_females, w48_this_males => (v_a2_count ≤ x7_48 → (post 0 w48_this_females w48_this_males)) ∧ (¬ v_a2_count ≤ x7_48 → (wp_PairChoice_has (x4 &&& ((v_a2_barred r3.toNatClampNeg) ^^^ (-1))) x7_48 (fun r8 => (r8 = 0 → (wp_Pairing_pairFrom_L48 v_a2_barred v_a2_count x1 x3 x4 r3 rec post n48 (x7_48 + 1) w48_this_females w48_this_males)) ∧ (¬ r8 = 0 → (wp_PairChoice_bit r3 (fun r10 => wp_PairChoice_bit x7_48 (fun r11 => rec v_a2_barred v_a2_count w48_this_females w48_this_males (x1 + 1) (x3 &&& (r10 ^^^ (-1))) (x4 &&& (r11 ^^^ (-1))) (fun r12 v13 v14 => (r12 = 0 → (wp_Pairing_pairFrom_L48 v_a2_barred v_a2_count x1 x3 x4 r3 rec post n48 (x7_48 + 1) v13 v14)) ∧ (¬ r12 = 0 → (vp_in x1 6 ∧ (vp_in x1 6 ∧ (post 1 (upd v13 x1.toNatClampNeg x7_48) (upd v14 x1.toNatClampNeg r3)))))))))))))
def wp_Pairing_pairFrom : Nat → (Nat → Int32) → Int32 → (Nat → Int32) → (Nat → Int32) → Int32 → Int32 → Int32 → (Int32 → (Nat → Int32) → (Nat → Int32) → Prop) → Prop
  | 0, _, _, _, _, _, _, _, _ => False
  | d + 1, v_a2_barred, v_a2_count, v_this_females, v_this_males, x1, x3, x4, post => (¬ x3 = 0 → ((x1 < 6 → (wp_PairChoice_leastOf x3 (fun r3 => wp_Herd_knows v_a2_count r3 (fun r4 => (¬ r4 = 0 → (vp_in r3 12 ∧ (∃ n48, wp_Pairing_pairFrom_L48 v_a2_barred v_a2_count x1 x3 x4 r3 (wp_Pairing_pairFrom d) post n48 (0) v_this_females v_this_males))) ∧ (r4 = 0 → (post 0 v_this_females v_this_males)))))) ∧ (¬ x1 < 6 → (post 0 v_this_females v_this_males)))) ∧ (x3 = 0 → (post 1 v_this_females v_this_males))
def wp_PairChoice_eggs (v_this_choice_eggShares : (Nat → Int32)) (v_this_choice_pairing_females : (Nat → Int32)) (v_this_choice_pairing_males : (Nat → Int32)) (v_this_choice_pairs : Int32) (v_this_choice_rests : (Nat → Int64)) (v_this_herd_worths : (Nat → Int32)) (x1 : Int32) (post : Int32 → (Nat → Int32) → (Nat → Int64) → Prop) : Prop := wp_PairChoice_isWithin x1 0 100000 (fun r1 => (¬ r1 = 0 → ((¬ v_this_choice_pairs = 0 → (wp_Choice_shareOut v_this_choice_eggShares v_this_herd_worths v_this_choice_pairing_females v_this_choice_pairing_males v_this_choice_pairs v_this_choice_rests x1 (fun v4 v5 => vp_in 0 6 ∧ (post (v4 (0 : Int32).toNatClampNeg) v4 v5)))) ∧ (v_this_choice_pairs = 0 → (post (-3) v_this_choice_eggShares v_this_choice_rests)))) ∧ (r1 = 0 → (post (-2) v_this_choice_eggShares v_this_choice_rests)))
def wp_PairChoice_backUp_L18 (v_this_choice_pairing_females : (Nat → Int32)) (v_this_choice_pairing_males : (Nat → Int32)) (v_this_choice_pairs : Int32) (v_this_choice_set : Int32) (v_this_herd_barred : (Nat → Int32)) (v_this_herd_count : Int32) (v_this_herd_families : (Nat → Int32)) (v_this_herd_kinLimit : Int32) (v_this_herd_kinships : (Nat → Nat → Int32)) (v_this_herd_leastOfFamily : (Nat → Int32)) (v_this_herd_males : Int32) (v_this_herd_mostOfFamily : Int32) (v_this_herd_worths : (Nat → Int32)) (x1 : Int32) (post : Int32 → Prop) : Nat → Int32 → Int32 → Prop
  | 0, _, _ => False
  | n18 + 1, x2_18, x3_18 => (v_this_herd_count ≤ x3_18 → (post x2_18)) ∧ (¬ v_this_herd_count ≤ x3_18 → (wp_Choice_couldStandIn v_this_herd_barred v_this_herd_count v_this_herd_families v_this_herd_kinLimit v_this_herd_kinships v_this_herd_leastOfFamily v_this_herd_males v_this_herd_mostOfFamily v_this_choice_pairing_females v_this_choice_pairing_males v_this_choice_pairs v_this_choice_set x3_18 x1 (fun r4 => (r4 = 0 → (wp_PairChoice_backUp_L18 v_this_choice_pairing_females v_this_choice_pairing_males v_this_choice_pairs v_this_choice_set v_this_herd_barred v_this_herd_count v_this_herd_families v_this_herd_kinLimit v_this_herd_kinships v_this_herd_leastOfFamily v_this_herd_males v_this_herd_mostOfFamily v_this_herd_worths x1 post n18 x2_18 (x3_18 + 1))) ∧ (¬ r4 = 0 → ((x2_18 < 0 → (wp_PairChoice_backUp_L18 v_this_choice_pairing_females v_this_choice_pairing_males v_this_choice_pairs v_this_choice_set v_this_herd_barred v_this_herd_count v_this_herd_families v_this_herd_kinLimit v_this_herd_kinships v_this_herd_leastOfFamily v_this_herd_males v_this_herd_mostOfFamily v_this_herd_worths x1 post n18 x3_18 (x3_18 + 1))) ∧ (¬ x2_18 < 0 → (vp_in x3_18 12 ∧ (vp_in x2_18 12 ∧ (((v_this_herd_worths x3_18.toNatClampNeg) ≤ (v_this_herd_worths x2_18.toNatClampNeg) → (wp_PairChoice_backUp_L18 v_this_choice_pairing_females v_this_choice_pairing_males v_this_choice_pairs v_this_choice_set v_this_herd_barred v_this_herd_count v_this_herd_families v_this_herd_kinLimit v_this_herd_kinships v_this_herd_leastOfFamily v_this_herd_males v_this_herd_mostOfFamily v_this_herd_worths x1 post n18 x2_18 (x3_18 + 1))) ∧ (¬ (v_this_herd_worths x3_18.toNatClampNeg) ≤ (v_this_herd_worths x2_18.toNatClampNeg) → (wp_PairChoice_backUp_L18 v_this_choice_pairing_females v_this_choice_pairing_males v_this_choice_pairs v_this_choice_set v_this_herd_barred v_this_herd_count v_this_herd_families v_this_herd_kinLimit v_this_herd_kinships v_this_herd_leastOfFamily v_this_herd_males v_this_herd_mostOfFamily v_this_herd_worths x1 post n18 x3_18 (x3_18 + 1))))))))))))
def wp_PairChoice_backUp (v_this_choice_pairing_females : (Nat → Int32)) (v_this_choice_pairing_males : (Nat → Int32)) (v_this_choice_pairs : Int32) (v_this_choice_set : Int32) (v_this_herd_barred : (Nat → Int32)) (v_this_herd_count : Int32) (v_this_herd_families : (Nat → Int32)) (v_this_herd_kinLimit : Int32) (v_this_herd_kinships : (Nat → Nat → Int32)) (v_this_herd_leastOfFamily : (Nat → Int32)) (v_this_herd_males : Int32) (v_this_herd_mostOfFamily : Int32) (v_this_herd_worths : (Nat → Int32)) (x1 : Int32) (post : Int32 → Prop) : Prop := wp_Choice_hasPair v_this_choice_pairs x1 (fun r1 => (¬ r1 = 0 → (∃ n18, wp_PairChoice_backUp_L18 v_this_choice_pairing_females v_this_choice_pairing_males v_this_choice_pairs v_this_choice_set v_this_herd_barred v_this_herd_count v_this_herd_families v_this_herd_kinLimit v_this_herd_kinships v_this_herd_leastOfFamily v_this_herd_males v_this_herd_mostOfFamily v_this_herd_worths x1 post n18 (-3) (0))) ∧ (r1 = 0 → (post (-1))))
def wp_Pairing_pairSet (v_a1_barred : (Nat → Int32)) (v_a1_count : Int32) (v_a1_males : Int32) (v_this_females : (Nat → Int32)) (v_this_males : (Nat → Int32)) (x2 : Int32) (post : Int32 → (Nat → Int32) → (Nat → Int32) → Prop) : Prop := wp_Pairing_pairFrom 8 v_a1_barred v_a1_count v_this_females v_this_males 0 (x2 &&& v_a1_males) (x2 &&& (v_a1_males ^^^ (-1))) (fun r1 v2 v3 => post r1 v2 v3)
def wp_SetList_listIfItMayBe (v_this_herd_barred : (Nat → Int32)) (v_this_herd_count : Int32) (v_this_herd_families : (Nat → Int32)) (v_this_herd_kinLimit : Int32) (v_this_herd_kinships : (Nat → Nat → Int32)) (v_this_herd_leastOfFamily : (Nat → Int32)) (v_this_herd_males : Int32) (v_this_herd_mostOfFamily : Int32) (v_this_herd_worths : (Nat → Int32)) (v_this_listed : (Nat → Int32)) (v_this_pairs : Int32) (v_this_size : Int32) (v_this_sums : (Nat → Int32)) (v_this_trial_females : (Nat → Int32)) (v_this_trial_males : (Nat → Int32)) (x1 : Int32) (post : (Nat → Int32) → Int32 → (Nat → Int32) → (Nat → Int32) → (Nat → Int32) → Prop) : Prop := (400 ≤ v_this_size → (post v_this_listed v_this_size v_this_sums v_this_trial_females v_this_trial_males)) ∧ (¬ 400 ≤ v_this_size → (wp_Herd_keepsRules v_this_herd_count v_this_herd_families v_this_herd_kinLimit v_this_herd_kinships v_this_herd_leastOfFamily v_this_herd_mostOfFamily x1 v_this_pairs (fun r2 => (r2 = 0 → (post v_this_listed v_this_size v_this_sums v_this_trial_females v_this_trial_males)) ∧ (¬ r2 = 0 → (wp_Pairing_pairSet v_this_herd_barred v_this_herd_count v_this_herd_males v_this_trial_females v_this_trial_males x1 (fun r4 v5 v6 => (r4 = 0 → (post v_this_listed v_this_size v_this_sums v5 v6)) ∧ (¬ r4 = 0 → (vp_in v_this_size 400 ∧ (wp_Herd_worthSum v_this_herd_count v_this_herd_worths x1 (fun r9 => vp_in v_this_size 400 ∧ (post (upd v_this_listed v_this_size.toNatClampNeg x1) (v_this_size + 1) (upd v_this_sums v_this_size.toNatClampNeg r9) v5 v6)))))))))))
def wp_Choice_take_L31 (x1 : Int32) (x2 : Int32) (x3 : Int32) (v2 : (Nat → Int32)) (v3 : (Nat → Int32)) (post : (Nat → Int32) → (Nat → Int32) → (Nat → Int32) → Int32 → Int32 → Int32 → Prop) : Nat → Int32 → (Nat → Int32) → Prop
  | 0, _, _ => False
  | n31 + 1, x4_31, w31_this_eggShares => (6 ≤ x4_31 → (post w31_this_eggShares v2 v3 x2 x1 x3)) ∧ (¬ 6 ≤ x4_31 → (vp_in x4_31 6 ∧ (wp_Choice_take_L31 x1 x2 x3 v2 v3 post n31 (x4_31 + 1) (upd w31_this_eggShares x4_31.toNatClampNeg 0))))
def wp_Choice_take (v_this_eggShares : (Nat → Int32)) (v_this_herd_barred : (Nat → Int32)) (v_this_herd_count : Int32) (v_this_herd_males : Int32) (v_this_pairing_females : (Nat → Int32)) (v_this_pairing_males : (Nat → Int32)) (v_this_pairs : Int32) (v_this_set : Int32) (v_this_setsThatMayBe : Int32) (x1 : Int32) (x2 : Int32) (x3 : Int32) (post : (Nat → Int32) → (Nat → Int32) → (Nat → Int32) → Int32 → Int32 → Int32 → Prop) : Prop := wp_Pairing_pairSet v_this_herd_barred v_this_herd_count v_this_herd_males v_this_pairing_females v_this_pairing_males x1 (fun r1 v2 v3 => ∃ n31, wp_Choice_take_L31 x1 x2 x3 v2 v3 post n31 (0) v_this_eggShares)
def wp_SetList_listWithMales_L20 (v_this_herd_barred : (Nat → Int32)) (v_this_herd_count : Int32) (v_this_herd_families : (Nat → Int32)) (v_this_herd_kinLimit : Int32) (v_this_herd_kinships : (Nat → Nat → Int32)) (v_this_herd_leastOfFamily : (Nat → Int32)) (v_this_herd_males : Int32) (v_this_herd_mostOfFamily : Int32) (v_this_herd_worths : (Nat → Int32)) (v_this_pairs : Int32) (x1 : Int32) (r1 : Int32) (post : (Nat → Int32) → Int32 → (Nat → Int32) → (Nat → Int32) → (Nat → Int32) → Prop) : Nat → Int32 → (Nat → Int32) → Int32 → (Nat → Int32) → (Nat → Int32) → (Nat → Int32) → Prop
  | 0, _, _, _, _, _, _ => False
  | n20 + 1, x3_20, w20_this_listed, w20_this_size, w20_this_sums, w20_this_trial_females, w20_this_trial_males => (x3_20 ≤ 0 → (post w20_this_listed w20_this_size w20_this_sums w20_this_trial_females w20_this_trial_males)) ∧ (¬ x3_20 ≤ 0 → (wp_Integer_bitCount x3_20 (fun r3 => (¬ r3 = v_this_pairs → (wp_SetList_listWithMales_L20 v_this_herd_barred v_this_herd_count v_this_herd_families v_this_herd_kinLimit v_this_herd_kinships v_this_herd_leastOfFamily v_this_herd_males v_this_herd_mostOfFamily v_this_herd_worths v_this_pairs x1 r1 post n20 ((x3_20 - 1) &&& (r1 &&& (v_this_herd_males ^^^ (-1)))) w20_this_listed w20_this_size w20_this_sums w20_this_trial_females w20_this_trial_males)) ∧ (r3 = v_this_pairs → (wp_SetList_listIfItMayBe v_this_herd_barred v_this_herd_count v_this_herd_families v_this_herd_kinLimit v_this_herd_kinships v_this_herd_leastOfFamily v_this_herd_males v_this_herd_mostOfFamily v_this_herd_worths w20_this_listed v_this_pairs w20_this_size w20_this_sums w20_this_trial_females w20_this_trial_males (x1 ||| x3_20) (fun v5 v6 v7 v8 v9 => wp_SetList_listWithMales_L20 v_this_herd_barred v_this_herd_count v_this_herd_families v_this_herd_kinLimit v_this_herd_kinships v_this_herd_leastOfFamily v_this_herd_males v_this_herd_mostOfFamily v_this_herd_worths v_this_pairs x1 r1 post n20 ((x3_20 - 1) &&& (r1 &&& (v_this_herd_males ^^^ (-1)))) v5 v6 v7 v8 v9))))))
def wp_SetList_listWithMales (v_this_herd_barred : (Nat → Int32)) (v_this_herd_count : Int32) (v_this_herd_families : (Nat → Int32)) (v_this_herd_kinLimit : Int32) (v_this_herd_kinships : (Nat → Nat → Int32)) (v_this_herd_leastOfFamily : (Nat → Int32)) (v_this_herd_males : Int32) (v_this_herd_mostOfFamily : Int32) (v_this_herd_worths : (Nat → Int32)) (v_this_listed : (Nat → Int32)) (v_this_pairs : Int32) (v_this_size : Int32) (v_this_sums : (Nat → Int32)) (v_this_trial_females : (Nat → Int32)) (v_this_trial_males : (Nat → Int32)) (x1 : Int32) (post : (Nat → Int32) → Int32 → (Nat → Int32) → (Nat → Int32) → (Nat → Int32) → Prop) : Prop := wp_Herd_all v_this_herd_count  (fun r1 => ∃ n20, wp_SetList_listWithMales_L20 v_this_herd_barred v_this_herd_count v_this_herd_families v_this_herd_kinLimit v_this_herd_kinships v_this_herd_leastOfFamily v_this_herd_males v_this_herd_mostOfFamily v_this_herd_worths v_this_pairs x1 r1 post n20 (r1 &&& (v_this_herd_males ^^^ (-1))) v_this_listed v_this_size v_this_sums v_this_trial_females v_this_trial_males)
def wp_SetList_listAll_L27 (v_this_herd_barred : (Nat → Int32)) (v_this_herd_count : Int32) (v_this_herd_families : (Nat → Int32)) (v_this_herd_kinLimit : Int32) (v_this_herd_kinships : (Nat → Nat → Int32)) (v_this_herd_leastOfFamily : (Nat → Int32)) (v_this_herd_males : Int32) (v_this_herd_mostOfFamily : Int32) (v_this_herd_worths : (Nat → Int32)) (x1 : Int32) (post : (Nat → Int32) → Int32 → Int32 → (Nat → Int32) → (Nat → Int32) → (Nat → Int32) → Prop) : Nat → Int32 → (Nat → Int32) → Int32 → (Nat → Int32) → (Nat → Int32) → (Nat → Int32) → Prop
  | 0, _, _, _, _, _, _ => False
  | n27 + 1, x2_27, w27_this_listed, w27_this_size, w27_this_sums, w27_this_trial_females, w27_this_trial_males => (x2_27 ≤ 0 → (post w27_this_listed x1 w27_this_size w27_this_sums w27_this_trial_females w27_this_trial_males)) ∧ (¬ x2_27 ≤ 0 → (wp_Integer_bitCount x2_27 (fun r3 => (¬ r3 = x1 → (wp_SetList_listAll_L27 v_this_herd_barred v_this_herd_count v_this_herd_families v_this_herd_kinLimit v_this_herd_kinships v_this_herd_leastOfFamily v_this_herd_males v_this_herd_mostOfFamily v_this_herd_worths x1 post n27 ((x2_27 - 1) &&& v_this_herd_males) w27_this_listed w27_this_size w27_this_sums w27_this_trial_females w27_this_trial_males)) ∧ (r3 = x1 → (wp_SetList_listWithMales v_this_herd_barred v_this_herd_count v_this_herd_families v_this_herd_kinLimit v_this_herd_kinships v_this_herd_leastOfFamily v_this_herd_males v_this_herd_mostOfFamily v_this_herd_worths w27_this_listed x1 w27_this_size w27_this_sums w27_this_trial_females w27_this_trial_males x2_27 (fun v5 v6 v7 v8 v9 => wp_SetList_listAll_L27 v_this_herd_barred v_this_herd_count v_this_herd_families v_this_herd_kinLimit v_this_herd_kinships v_this_herd_leastOfFamily v_this_herd_males v_this_herd_mostOfFamily v_this_herd_worths x1 post n27 ((x2_27 - 1) &&& v_this_herd_males) v5 v6 v7 v8 v9))))))
def wp_SetList_listAll (v_this_herd_barred : (Nat → Int32)) (v_this_herd_count : Int32) (v_this_herd_families : (Nat → Int32)) (v_this_herd_kinLimit : Int32) (v_this_herd_kinships : (Nat → Nat → Int32)) (v_this_herd_leastOfFamily : (Nat → Int32)) (v_this_herd_males : Int32) (v_this_herd_mostOfFamily : Int32) (v_this_herd_worths : (Nat → Int32)) (v_this_listed : (Nat → Int32)) (v_this_pairs : Int32) (v_this_size : Int32) (v_this_sums : (Nat → Int32)) (v_this_trial_females : (Nat → Int32)) (v_this_trial_males : (Nat → Int32)) (x1 : Int32) (post : (Nat → Int32) → Int32 → Int32 → (Nat → Int32) → (Nat → Int32) → (Nat → Int32) → Prop) : Prop := (¬ x1 = v_this_pairs → (∃ n27, wp_SetList_listAll_L27 v_this_herd_barred v_this_herd_count v_this_herd_families v_this_herd_kinLimit v_this_herd_kinships v_this_herd_leastOfFamily v_this_herd_males v_this_herd_mostOfFamily v_this_herd_worths x1 post n27 v_this_herd_males v_this_listed 0 v_this_sums v_this_trial_females v_this_trial_males)) ∧ (x1 = v_this_pairs → (post v_this_listed v_this_pairs v_this_size v_this_sums v_this_trial_females v_this_trial_males))
def wp_PairChoice_run (v_this_choice_eggShares : (Nat → Int32)) (v_this_choice_pairing_females : (Nat → Int32)) (v_this_choice_pairing_males : (Nat → Int32)) (v_this_choice_pairs : Int32) (v_this_choice_set : Int32) (v_this_choice_setsThatMayBe : Int32) (v_this_herd_barred : (Nat → Int32)) (v_this_herd_count : Int32) (v_this_herd_families : (Nat → Int32)) (v_this_herd_kinLimit : Int32) (v_this_herd_kinships : (Nat → Nat → Int32)) (v_this_herd_leastOfFamily : (Nat → Int32)) (v_this_herd_males : Int32) (v_this_herd_mostOfFamily : Int32) (v_this_herd_worths : (Nat → Int32)) (v_this_sets_listed : (Nat → Int32)) (v_this_sets_pairs : Int32) (v_this_sets_size : Int32) (v_this_sets_sums : (Nat → Int32)) (v_this_sets_trial_females : (Nat → Int32)) (v_this_sets_trial_males : (Nat → Int32)) (x1 : Int32) (post : Int32 → (Nat → Int32) → (Nat → Int32) → (Nat → Int32) → Int32 → Int32 → Int32 → (Nat → Int32) → Int32 → Int32 → (Nat → Int32) → (Nat → Int32) → (Nat → Int32) → Prop) : Prop := wp_PairChoice_isNumberOfPairs x1 (fun r1 => (¬ r1 = 0 → (wp_SetList_listAll v_this_herd_barred v_this_herd_count v_this_herd_families v_this_herd_kinLimit v_this_herd_kinships v_this_herd_leastOfFamily v_this_herd_males v_this_herd_mostOfFamily v_this_herd_worths v_this_sets_listed v_this_sets_pairs v_this_sets_size v_this_sets_sums v_this_sets_trial_females v_this_sets_trial_males x1 (fun v3 v4 v5 v6 v7 v8 => (¬ v5 = 0 → (wp_SetList_best v3 v5 v6  (fun r10 => wp_Choice_take v_this_choice_eggShares v_this_herd_barred v_this_herd_count v_this_herd_males v_this_choice_pairing_females v_this_choice_pairing_males v_this_choice_pairs v_this_choice_set v_this_choice_setsThatMayBe r10 x1 v5 (fun v11 v12 v13 v14 v15 v16 => post x1 v11 v12 v13 v14 v15 v16 v3 v4 v5 v6 v7 v8)))) ∧ (v5 = 0 → (wp_Choice_drop v_this_choice_pairs  (fun v17 => post 0 v_this_choice_eggShares v_this_choice_pairing_females v_this_choice_pairing_males v17 v_this_choice_set v_this_choice_setsThatMayBe v3 v4 v5 v6 v7 v8)))))) ∧ (r1 = 0 → (post (-2) v_this_choice_eggShares v_this_choice_pairing_females v_this_choice_pairing_males v_this_choice_pairs v_this_choice_set v_this_choice_setsThatMayBe v_this_sets_listed v_this_sets_pairs v_this_sets_size v_this_sets_sums v_this_sets_trial_females v_this_sets_trial_males)))
def wp_PairChoice_test_L51 (v_this_herd_count : Int32) (x2 : Int32) (v5 : (Nat → Int32)) (v6 : Int32) (v7 : Int32) (v8 : (Nat → Int32)) (v9 : (Nat → Int32)) (v10 : (Nat → Int32)) (post : Int32 → (Nat → Int32) → Int32 → Int32 → (Nat → Int32) → (Nat → Int32) → (Nat → Int32) → Prop) : Nat → Int32 → Int32 → Int32 → Prop
  | 0, _, _, _ => False
  | n51 + 1, x3_51, x4_51, x5_51 => (v_this_herd_count ≤ x5_51 → (post x3_51 v5 v6 v7 v8 v9 v10)) ∧ (¬ v_this_herd_count ≤ x5_51 → (wp_SetList_greatestSumWith v5 v7 v8 x5_51 x2 (fun r13 => wp_SetList_greatestSumWith v5 v7 v8 x5_51 (-x2) (fun r14 => ((r13 + r14) ≤ x4_51 → (wp_PairChoice_test_L51 v_this_herd_count x2 v5 v6 v7 v8 v9 v10 post n51 x3_51 x4_51 (x5_51 + 1))) ∧ (¬ (r13 + r14) ≤ x4_51 → (wp_PairChoice_test_L51 v_this_herd_count x2 v5 v6 v7 v8 v9 v10 post n51 x5_51 (r13 + r14) (x5_51 + 1)))))))
def wp_PairChoice_test (v_this_herd_barred : (Nat → Int32)) (v_this_herd_count : Int32) (v_this_herd_families : (Nat → Int32)) (v_this_herd_kinLimit : Int32) (v_this_herd_kinships : (Nat → Nat → Int32)) (v_this_herd_leastOfFamily : (Nat → Int32)) (v_this_herd_males : Int32) (v_this_herd_mostOfFamily : Int32) (v_this_herd_worths : (Nat → Int32)) (v_this_sets_listed : (Nat → Int32)) (v_this_sets_pairs : Int32) (v_this_sets_size : Int32) (v_this_sets_sums : (Nat → Int32)) (v_this_sets_trial_females : (Nat → Int32)) (v_this_sets_trial_males : (Nat → Int32)) (x1 : Int32) (x2 : Int32) (post : Int32 → (Nat → Int32) → Int32 → Int32 → (Nat → Int32) → (Nat → Int32) → (Nat → Int32) → Prop) : Prop := wp_PairChoice_isNumberOfPairs x1 (fun r1 => (r1 = 0 → (post (-2) v_this_sets_listed v_this_sets_pairs v_this_sets_size v_this_sets_sums v_this_sets_trial_females v_this_sets_trial_males)) ∧ (¬ r1 = 0 → (wp_PairChoice_isWithin x2 1 10000 (fun r3 => (¬ r3 = 0 → (wp_SetList_listAll v_this_herd_barred v_this_herd_count v_this_herd_families v_this_herd_kinLimit v_this_herd_kinships v_this_herd_leastOfFamily v_this_herd_males v_this_herd_mostOfFamily v_this_herd_worths v_this_sets_listed v_this_sets_pairs v_this_sets_size v_this_sets_sums v_this_sets_trial_females v_this_sets_trial_males x1 (fun v5 v6 v7 v8 v9 v10 => (¬ v7 = 0 → (∃ n51, wp_PairChoice_test_L51 v_this_herd_count x2 v5 v6 v7 v8 v9 v10 post n51 (0) (-100000000) (0))) ∧ (v7 = 0 → (post (-3) v5 v6 v7 v8 v9 v10))))) ∧ (r3 = 0 → (post (-2) v_this_sets_listed v_this_sets_pairs v_this_sets_size v_this_sets_sums v_this_sets_trial_females v_this_sets_trial_males))))))
def wp_PairChoice_ahead_L61 (x1 : Int32) (x2 : Int32) (x3 : Int64) (v7 : (Nat → Int32)) (v8 : Int32) (v9 : Int32) (v10 : (Nat → Int32)) (v11 : (Nat → Int32)) (v12 : (Nat → Int32)) (post : Int32 → (Nat → Int32) → (Nat → Int32) → Int32 → (Nat → Int32) → Int32 → Int32 → (Nat → Int32) → (Nat → Int32) → (Nat → Int32) → Prop) : Nat → Int32 → Int32 → (Nat → Int32) → (Nat → Int32) → Prop
  | 0, _, _, _, _ => False
  | n61 + 1, x6_61, x7_61, w61_this_outlook_alive, w61_this_outlook_bestSums => (x1 ≤ x7_61 → (wp_Integer_bitCount x6_61 (fun r15 => post r15 w61_this_outlook_alive w61_this_outlook_bestSums x1 v7 v8 v9 v10 v11 v12))) ∧ (¬ x1 ≤ x7_61 → (wp_PairChoice_survivors x6_61 (x3 + ((16 : Int64) * ((x7_61 : Int32).toInt64))) x2 (fun r16 => wp_Integer_bitCount r16 (fun r17 => wp_SetList_greatestSumAmong v7 v9 v10 r16 (fun r18 => wp_Outlook_note w61_this_outlook_alive w61_this_outlook_bestSums x7_61 r17 r18 (fun v19 v20 => wp_PairChoice_ahead_L61 x1 x2 x3 v7 v8 v9 v10 v11 v12 post n61 r16 (x7_61 + 1) v19 v20))))))
def wp_PairChoice_ahead (v_this_herd_barred : (Nat → Int32)) (v_this_herd_count : Int32) (v_this_herd_families : (Nat → Int32)) (v_this_herd_kinLimit : Int32) (v_this_herd_kinships : (Nat → Nat → Int32)) (v_this_herd_leastOfFamily : (Nat → Int32)) (v_this_herd_males : Int32) (v_this_herd_mostOfFamily : Int32) (v_this_herd_worths : (Nat → Int32)) (v_this_outlook_alive : (Nat → Int32)) (v_this_outlook_bestSums : (Nat → Int32)) (v_this_outlook_years : Int32) (v_this_sets_listed : (Nat → Int32)) (v_this_sets_pairs : Int32) (v_this_sets_size : Int32) (v_this_sets_sums : (Nat → Int32)) (v_this_sets_trial_females : (Nat → Int32)) (v_this_sets_trial_males : (Nat → Int32)) (x1 : Int32) (x2 : Int32) (x3 : Int64) (x5 : Int32) (post : Int32 → (Nat → Int32) → (Nat → Int32) → Int32 → (Nat → Int32) → Int32 → Int32 → (Nat → Int32) → (Nat → Int32) → (Nat → Int32) → Prop) : Prop := wp_PairChoice_isWithin x1 1 20 (fun r1 => (r1 = 0 → (post (-2) v_this_outlook_alive v_this_outlook_bestSums v_this_outlook_years v_this_sets_listed v_this_sets_pairs v_this_sets_size v_this_sets_sums v_this_sets_trial_females v_this_sets_trial_males)) ∧ (¬ r1 = 0 → (wp_PairChoice_isWithin x2 0 1000 (fun r3 => (r3 = 0 → (post (-2) v_this_outlook_alive v_this_outlook_bestSums v_this_outlook_years v_this_sets_listed v_this_sets_pairs v_this_sets_size v_this_sets_sums v_this_sets_trial_females v_this_sets_trial_males)) ∧ (¬ r3 = 0 → (wp_PairChoice_isNumberOfPairs x5 (fun r5 => (¬ r5 = 0 → (wp_SetList_listAll v_this_herd_barred v_this_herd_count v_this_herd_families v_this_herd_kinLimit v_this_herd_kinships v_this_herd_leastOfFamily v_this_herd_males v_this_herd_mostOfFamily v_this_herd_worths v_this_sets_listed v_this_sets_pairs v_this_sets_size v_this_sets_sums v_this_sets_trial_females v_this_sets_trial_males x5 (fun v7 v8 v9 v10 v11 v12 => wp_Herd_all v_this_herd_count  (fun r13 => ∃ n61, wp_PairChoice_ahead_L61 x1 x2 x3 v7 v8 v9 v10 v11 v12 post n61 r13 (0) v_this_outlook_alive v_this_outlook_bestSums)))) ∧ (r5 = 0 → (post (-2) v_this_outlook_alive v_this_outlook_bestSums v_this_outlook_years v_this_sets_listed v_this_sets_pairs v_this_sets_size v_this_sets_sums v_this_sets_trial_females v_this_sets_trial_males)))))))))
end
section
def wp_M_isIn  (x0 : Int32) (x1 : Int32) (x2 : Int32) (post : Int32 → Prop) : Prop := (x0 < x1 → (post 0)) ∧ (¬ x0 < x1 → ((x2 < x0 → (post 0)) ∧ (¬ x2 < x0 → (post 1))))
def wp_M_isAnimal (v_this_animals : Int32) (x1 : Int32) (post : Int32 → Prop) : Prop := wp_M_isIn x1 0 (v_this_animals - 1) (fun r1 => post r1)
def wp_M_leave (v_this_pairs : Int32)  (post : Int32 → Prop) : Prop := post 0
def wp_M_animal (v_this_animals : Int32) (v_this_families : (Nat → Int32)) (v_this_pairs : Int32) (v_this_sexes : (Nat → Int32)) (v_this_worths : (Nat → Int32)) (x1 : Int32) (x2 : Int32) (x3 : Int32) (post : Int32 → Int32 → (Nat → Int32) → Int32 → (Nat → Int32) → (Nat → Int32) → Prop) : Prop := wp_M_isIn x1 0 1 (fun r1 => (r1 = 0 → (post (-2) v_this_animals v_this_families v_this_pairs v_this_sexes v_this_worths)) ∧ (¬ r1 = 0 → (wp_M_isIn x2 (-10000) 10000 (fun r3 => (r3 = 0 → (post (-2) v_this_animals v_this_families v_this_pairs v_this_sexes v_this_worths)) ∧ (¬ r3 = 0 → (wp_M_isIn x3 0 7 (fun r5 => (¬ r5 = 0 → ((¬ v_this_animals = 12 → (wp_M_leave v_this_pairs  (fun v8 => vp_in v_this_animals 12 ∧ (vp_in v_this_animals 12 ∧ (vp_in v_this_animals 12 ∧ (post ((v_this_animals + 1) - 1) (v_this_animals + 1) (upd v_this_families v_this_animals.toNatClampNeg x3) v8 (upd v_this_sexes v_this_animals.toNatClampNeg x1) (upd v_this_worths v_this_animals.toNatClampNeg x2))))))) ∧ (v_this_animals = 12 → (post (-4) v_this_animals v_this_families v_this_pairs v_this_sexes v_this_worths)))) ∧ (r5 = 0 → (post (-2) v_this_animals v_this_families v_this_pairs v_this_sexes v_this_worths)))))))))
def wp_M_worth (v_this_animals : Int32) (v_this_pairs : Int32) (v_this_worths : (Nat → Int32)) (x1 : Int32) (x2 : Int32) (post : Int32 → Int32 → (Nat → Int32) → Prop) : Prop := wp_M_isAnimal v_this_animals x1 (fun r1 => (¬ r1 = 0 → (wp_M_isIn x2 (-10000) 10000 (fun r3 => (¬ r3 = 0 → (vp_in x1 12 ∧ (vp_in x1 12 ∧ (((v_this_worths x1.toNatClampNeg) = x2 → (post (v_this_worths x1.toNatClampNeg) v_this_pairs (upd v_this_worths x1.toNatClampNeg x2))) ∧ (¬ (v_this_worths x1.toNatClampNeg) = x2 → (wp_M_leave v_this_pairs  (fun v8 => post (v_this_worths x1.toNatClampNeg) v8 (upd v_this_worths x1.toNatClampNeg x2)))))))) ∧ (r3 = 0 → (post (-20001) v_this_pairs v_this_worths))))) ∧ (r1 = 0 → (post (-20000) v_this_pairs v_this_worths)))
def wp_M_kin (v_this_animals : Int32) (v_this_kins : (Nat → Int32)) (v_this_pairs : Int32) (x1 : Int32) (x2 : Int32) (x3 : Int32) (post : Int32 → (Nat → Int32) → Int32 → Prop) : Prop := wp_M_isAnimal v_this_animals x1 (fun r1 => (r1 = 0 → (post (-1) v_this_kins v_this_pairs)) ∧ (¬ r1 = 0 → (wp_M_isAnimal v_this_animals x2 (fun r3 => (¬ r3 = 0 → (wp_M_isIn x3 0 1000 (fun r5 => (¬ r5 = 0 → (vp_in (((12 : Int32) * x1) + x2) 144 ∧ (vp_in (((12 : Int32) * x1) + x2) 144 ∧ (vp_in (((12 : Int32) * x2) + x1) 144 ∧ (((v_this_kins (((12 : Int32) * x1) + x2).toNatClampNeg) = x3 → (post (v_this_kins (((12 : Int32) * x1) + x2).toNatClampNeg) (upd (upd v_this_kins (((12 : Int32) * x1) + x2).toNatClampNeg x3) (((12 : Int32) * x2) + x1).toNatClampNeg x3) v_this_pairs)) ∧ (¬ (v_this_kins (((12 : Int32) * x1) + x2).toNatClampNeg) = x3 → (wp_M_leave v_this_pairs  (fun v11 => post (v_this_kins (((12 : Int32) * x1) + x2).toNatClampNeg) (upd (upd v_this_kins (((12 : Int32) * x1) + x2).toNatClampNeg x3) (((12 : Int32) * x2) + x1).toNatClampNeg x3) v11)))))))) ∧ (r5 = 0 → (post (-2) v_this_kins v_this_pairs))))) ∧ (r3 = 0 → (post (-1) v_this_kins v_this_pairs))))))
def wp_M_bar (v_this_animals : Int32) (v_this_isBarred : (Nat → Int32)) (v_this_pairs : Int32) (v_this_sexes : (Nat → Int32)) (x1 : Int32) (x2 : Int32) (x3 : Int32) (post : Int32 → (Nat → Int32) → Int32 → Prop) : Prop := wp_M_isAnimal v_this_animals x1 (fun r1 => (r1 = 0 → (post 0 v_this_isBarred v_this_pairs)) ∧ (¬ r1 = 0 → (wp_M_isAnimal v_this_animals x2 (fun r3 => (r3 = 0 → (post 0 v_this_isBarred v_this_pairs)) ∧ (¬ r3 = 0 → (vp_in x1 12 ∧ (vp_in x2 12 ∧ (((v_this_sexes x1.toNatClampNeg) = (v_this_sexes x2.toNatClampNeg) → (post 0 v_this_isBarred v_this_pairs)) ∧ (¬ (v_this_sexes x1.toNatClampNeg) = (v_this_sexes x2.toNatClampNeg) → (vp_in (((12 : Int32) * x1) + x2) 144 ∧ ((¬ (v_this_isBarred (((12 : Int32) * x1) + x2).toNatClampNeg) = x3 → (vp_in (((12 : Int32) * x1) + x2) 144 ∧ (vp_in (((12 : Int32) * x2) + x1) 144 ∧ (wp_M_leave v_this_pairs  (fun v12 => post 1 (upd (upd v_this_isBarred (((12 : Int32) * x1) + x2).toNatClampNeg (vp_nar .boolean x3)) (((12 : Int32) * x2) + x1).toNatClampNeg (vp_nar .boolean x3)) v12))))) ∧ ((v_this_isBarred (((12 : Int32) * x1) + x2).toNatClampNeg) = x3 → (post 0 v_this_isBarred v_this_pairs)))))))))))))
def wp_M_limit (v_this_limit : Int32) (v_this_pairs : Int32) (x1 : Int32) (post : Int32 → Int32 → Int32 → Prop) : Prop := wp_M_isIn x1 0 1000 (fun r1 => (¬ r1 = 0 → ((v_this_limit = x1 → (post v_this_limit x1 v_this_pairs)) ∧ (¬ v_this_limit = x1 → (wp_M_leave v_this_pairs  (fun v4 => post v_this_limit x1 v4))))) ∧ (r1 = 0 → (post (-2) v_this_limit v_this_pairs)))
def wp_M_even (v_this_most : Int32) (v_this_pairs : Int32) (x1 : Int32) (post : Int32 → Int32 → Int32 → Prop) : Prop := wp_M_isIn x1 0 12 (fun r1 => (¬ r1 = 0 → ((v_this_most = x1 → (post v_this_most x1 v_this_pairs)) ∧ (¬ v_this_most = x1 → (wp_M_leave v_this_pairs  (fun v4 => post v_this_most x1 v4))))) ∧ (r1 = 0 → (post (-2) v_this_most v_this_pairs)))
def wp_M_line (v_this_leasts : (Nat → Int32)) (v_this_pairs : Int32) (x1 : Int32) (x2 : Int32) (post : Int32 → (Nat → Int32) → Int32 → Prop) : Prop := wp_M_isIn x1 0 7 (fun r1 => (¬ r1 = 0 → (wp_M_isIn x2 0 12 (fun r3 => (¬ r3 = 0 → (vp_in x1 8 ∧ (vp_in x1 8 ∧ (((v_this_leasts x1.toNatClampNeg) = x2 → (post (v_this_leasts x1.toNatClampNeg) (upd v_this_leasts x1.toNatClampNeg x2) v_this_pairs)) ∧ (¬ (v_this_leasts x1.toNatClampNeg) = x2 → (wp_M_leave v_this_pairs  (fun v8 => post (v_this_leasts x1.toNatClampNeg) (upd v_this_leasts x1.toNatClampNeg x2) v8))))))) ∧ (r3 = 0 → (post (-2) v_this_leasts v_this_pairs))))) ∧ (r1 = 0 → (post (-1) v_this_leasts v_this_pairs)))
def wp_M_kinOf_L15 (v_this_animals : Int32) (v_this_kins : (Nat → Int32)) (x1 : Int32) (x3_4 : Int32) (post : Int32 → Prop) (K4 : Int32 → Int32 → Prop) : Nat → Int32 → Int32 → Prop
  | 0, _, _ => False
  | n15 + 1, x2_15, x4_15 => (v_this_animals ≤ x4_15 → (K4 x2_15 (x3_4 + 1))) ∧ (¬ v_this_animals ≤ x4_15 → ((¬ ((x1 >>> (x3_4 &&& 31)) &&& 1) = 1 → (wp_M_kinOf_L15 v_this_animals v_this_kins x1 x3_4 post K4 n15 x2_15 (x4_15 + 1))) ∧ (((x1 >>> (x3_4 &&& 31)) &&& 1) = 1 → ((¬ ((x1 >>> (x4_15 &&& 31)) &&& 1) = 1 → (wp_M_kinOf_L15 v_this_animals v_this_kins x1 x3_4 post K4 n15 x2_15 (x4_15 + 1))) ∧ (((x1 >>> (x4_15 &&& 31)) &&& 1) = 1 → (vp_in (((12 : Int32) * x3_4) + x4_15) 144 ∧ (wp_M_kinOf_L15 v_this_animals v_this_kins x1 x3_4 post K4 n15 (x2_15 + (v_this_kins (((12 : Int32) * x3_4) + x4_15).toNatClampNeg)) (x4_15 + 1))))))))
def wp_M_kinOf_L4 (v_this_animals : Int32) (v_this_kins : (Nat → Int32)) (x1 : Int32) (post : Int32 → Prop) : Nat → Int32 → Int32 → Prop
  | 0, _, _ => False
  | n4 + 1, x2_4, x3_4 => (v_this_animals ≤ x3_4 → (post x2_4)) ∧ (¬ v_this_animals ≤ x3_4 → (∃ n15, wp_M_kinOf_L15 v_this_animals v_this_kins x1 x3_4 post (fun z0 z1 => wp_M_kinOf_L4 v_this_animals v_this_kins x1 post n4 z0 z1) n15 x2_4 (0)))
def wp_M_kinOf (v_this_animals : Int32) (v_this_kins : (Nat → Int32)) (x1 : Int32) (post : Int32 → Prop) : Prop := ∃ n4, wp_M_kinOf_L4 v_this_animals v_this_kins x1 post n4 (0) (0)
def wp_M_fitsFamilies_L20 (v_this_animals : Int32) (v_this_families : (Nat → Int32)) (v_this_leasts : (Nat → Int32)) (v_this_most : Int32) (x1 : Int32) (x3_4 : Int32) (post : Int32 → Prop) (K4 : Int32 → Int32 → Prop) : Nat → Int32 → Int32 → Prop
  | 0, _, _ => False
  | n20 + 1, x4_20, x5_20 => (v_this_animals ≤ x5_20 → ((v_this_most = 0 → (vp_in x3_4 8 ∧ ((x4_20 < (v_this_leasts x3_4.toNatClampNeg) → (K4 (0) (x3_4 + 1))) ∧ (¬ x4_20 < (v_this_leasts x3_4.toNatClampNeg) → (K4 (1) (x3_4 + 1)))))) ∧ (¬ v_this_most = 0 → ((v_this_most < x4_20 → (K4 (0) (x3_4 + 1))) ∧ (¬ v_this_most < x4_20 → (vp_in x3_4 8 ∧ ((x4_20 < (v_this_leasts x3_4.toNatClampNeg) → (K4 (0) (x3_4 + 1))) ∧ (¬ x4_20 < (v_this_leasts x3_4.toNatClampNeg) → (K4 (1) (x3_4 + 1)))))))))) ∧ (¬ v_this_animals ≤ x5_20 → ((¬ ((x1 >>> (x5_20 &&& 31)) &&& 1) = 1 → (wp_M_fitsFamilies_L20 v_this_animals v_this_families v_this_leasts v_this_most x1 x3_4 post K4 n20 x4_20 (x5_20 + 1))) ∧ (((x1 >>> (x5_20 &&& 31)) &&& 1) = 1 → (vp_in x5_20 12 ∧ ((¬ (v_this_families x5_20.toNatClampNeg) = x3_4 → (wp_M_fitsFamilies_L20 v_this_animals v_this_families v_this_leasts v_this_most x1 x3_4 post K4 n20 x4_20 (x5_20 + 1))) ∧ ((v_this_families x5_20.toNatClampNeg) = x3_4 → (wp_M_fitsFamilies_L20 v_this_animals v_this_families v_this_leasts v_this_most x1 x3_4 post K4 n20 (x4_20 + 1) (x5_20 + 1))))))))
def wp_M_fitsFamilies_L4 (v_this_animals : Int32) (v_this_families : (Nat → Int32)) (v_this_leasts : (Nat → Int32)) (v_this_most : Int32) (x1 : Int32) (post : Int32 → Prop) : Nat → Int32 → Int32 → Prop
  | 0, _, _ => False
  | n4 + 1, x2_4, x3_4 => (8 ≤ x3_4 → ((x2_4 = 0 ∨ x2_4 = 1) ∧ post x2_4)) ∧ (¬ 8 ≤ x3_4 → ((x2_4 = 0 → ((x2_4 = 0 ∨ x2_4 = 1) ∧ post x2_4)) ∧ (¬ x2_4 = 0 → (∃ n20, wp_M_fitsFamilies_L20 v_this_animals v_this_families v_this_leasts v_this_most x1 x3_4 post (fun z0 z1 => wp_M_fitsFamilies_L4 v_this_animals v_this_families v_this_leasts v_this_most x1 post n4 z0 z1) n20 (0) (0)))))
def wp_M_fitsFamilies (v_this_animals : Int32) (v_this_families : (Nat → Int32)) (v_this_leasts : (Nat → Int32)) (v_this_most : Int32) (x1 : Int32) (post : Int32 → Prop) : Prop := ∃ n4, wp_M_fitsFamilies_L4 v_this_animals v_this_families v_this_leasts v_this_most x1 post n4 (1) (0)
def wp_M_part_L8 (v_this_animals : Int32) (v_this_sexes : (Nat → Int32)) (x1 : Int32) (x2 : Int32) (post : Int32 → (Nat → Int32) → (Nat → Int32) → Int32 → Prop) : Nat → Int32 → Int32 → Int32 → (Nat → Int32) → (Nat → Int32) → Prop
  | 0, _, _, _, _, _ => False
  | n8 + 1, x3_8, x4_8, x5_8, w8_this_females, w8_this_males => (v_this_animals ≤ x5_8 → ((¬ x3_8 = x2 → (post 0 w8_this_females w8_this_males x3_8)) ∧ (x3_8 = x2 → ((¬ x4_8 = x2 → (post 0 w8_this_females w8_this_males x3_8)) ∧ (x4_8 = x2 → (post 1 w8_this_females w8_this_males x3_8)))))) ∧ (¬ v_this_animals ≤ x5_8 → ((¬ ((x1 >>> (x5_8 &&& 31)) &&& 1) = 1 → ((¬ ((x1 >>> (x5_8 &&& 31)) &&& 1) = 1 → (wp_M_part_L8 v_this_animals v_this_sexes x1 x2 post n8 x3_8 x4_8 (x5_8 + 1) w8_this_females w8_this_males)) ∧ (((x1 >>> (x5_8 &&& 31)) &&& 1) = 1 → (vp_in x4_8 12 ∧ (wp_M_part_L8 v_this_animals v_this_sexes x1 x2 post n8 x3_8 (x4_8 + 1) (x5_8 + 1) (upd w8_this_females x4_8.toNatClampNeg x5_8) w8_this_males))))) ∧ (((x1 >>> (x5_8 &&& 31)) &&& 1) = 1 → (vp_in x5_8 12 ∧ ((¬ (v_this_sexes x5_8.toNatClampNeg) = 0 → ((¬ ((x1 >>> (x5_8 &&& 31)) &&& 1) = 1 → (wp_M_part_L8 v_this_animals v_this_sexes x1 x2 post n8 x3_8 x4_8 (x5_8 + 1) w8_this_females w8_this_males)) ∧ (((x1 >>> (x5_8 &&& 31)) &&& 1) = 1 → (vp_in x4_8 12 ∧ (wp_M_part_L8 v_this_animals v_this_sexes x1 x2 post n8 x3_8 (x4_8 + 1) (x5_8 + 1) (upd w8_this_females x4_8.toNatClampNeg x5_8) w8_this_males))))) ∧ ((v_this_sexes x5_8.toNatClampNeg) = 0 → (vp_in x3_8 12 ∧ (wp_M_part_L8 v_this_animals v_this_sexes x1 x2 post n8 (x3_8 + 1) x4_8 (x5_8 + 1) w8_this_females (upd w8_this_males x3_8.toNatClampNeg x5_8)))))))))
def wp_M_part (v_this_animals : Int32) (v_this_females : (Nat → Int32)) (v_this_males : (Nat → Int32)) (v_this_many : Int32) (v_this_sexes : (Nat → Int32)) (x1 : Int32) (x2 : Int32) (post : Int32 → (Nat → Int32) → (Nat → Int32) → Int32 → Prop) : Prop := ∃ n8, wp_M_part_L8 v_this_animals v_this_sexes x1 x2 post n8 (0) (0) (0) v_this_females v_this_males
def wp_M_canPair_L159 (x3_32 : Int32) (w67_this_then : (Nat → Int32)) (post : Int32 → (Nat → Int32) → (Nat → Int32) → Prop) (K32 : Int32 → (Nat → Int32) → (Nat → Int32) → Prop) : Nat → Int32 → (Nat → Int32) → Prop
  | 0, _, _ => False
  | n159 + 1, x4_159, w159_this_now => (64 ≤ x4_159 → (K32 (x3_32 + 1) w159_this_now w67_this_then)) ∧ (¬ 64 ≤ x4_159 → (vp_in x4_159 64 ∧ (vp_in x4_159 64 ∧ (wp_M_canPair_L159 x3_32 w67_this_then post K32 n159 (x4_159 + 1) (upd w159_this_now x4_159.toNatClampNeg (vp_nar .boolean (w67_this_then x4_159.toNatClampNeg)))))))
def wp_M_canPair_L77 (v_this_females : (Nat → Int32)) (v_this_isBarred : (Nat → Int32)) (v_this_males : (Nat → Int32)) (v_this_many : Int32) (x3_32 : Int32) (w32_this_now : (Nat → Int32)) (x4_67 : Int32) (post : Int32 → (Nat → Int32) → (Nat → Int32) → Prop) (K67 : Int32 → (Nat → Int32) → Prop) : Nat → Int32 → (Nat → Int32) → Prop
  | 0, _, _ => False
  | n77 + 1, x5_77, w77_this_then => (v_this_many ≤ x5_77 → (K67 (x4_67 + 1) w77_this_then)) ∧ (¬ v_this_many ≤ x5_77 → (vp_in x4_67 64 ∧ (((w32_this_now x4_67.toNatClampNeg) = 0 → (K67 (x4_67 + 1) w77_this_then)) ∧ (¬ (w32_this_now x4_67.toNatClampNeg) = 0 → ((¬ ((x4_67 >>> (x5_77 &&& 31)) &&& 1) = 0 → (wp_M_canPair_L77 v_this_females v_this_isBarred v_this_males v_this_many x3_32 w32_this_now x4_67 post K67 n77 (x5_77 + 1) w77_this_then)) ∧ (((x4_67 >>> (x5_77 &&& 31)) &&& 1) = 0 → (vp_in x3_32 12 ∧ (vp_in x5_77 12 ∧ (vp_in (((12 : Int32) * (v_this_males x3_32.toNatClampNeg)) + (v_this_females x5_77.toNatClampNeg)) 144 ∧ ((¬ (v_this_isBarred (((12 : Int32) * (v_this_males x3_32.toNatClampNeg)) + (v_this_females x5_77.toNatClampNeg)).toNatClampNeg) = 0 → (wp_M_canPair_L77 v_this_females v_this_isBarred v_this_males v_this_many x3_32 w32_this_now x4_67 post K67 n77 (x5_77 + 1) w77_this_then)) ∧ ((v_this_isBarred (((12 : Int32) * (v_this_males x3_32.toNatClampNeg)) + (v_this_females x5_77.toNatClampNeg)).toNatClampNeg) = 0 → (vp_in (x4_67 ||| ((1 : Int32) <<< (x5_77 &&& 31))) 64 ∧ (wp_M_canPair_L77 v_this_females v_this_isBarred v_this_males v_this_many x3_32 w32_this_now x4_67 post K67 n77 (x5_77 + 1) (upd w77_this_then (x4_67 ||| ((1 : Int32) <<< (x5_77 &&& 31))).toNatClampNeg (vp_nar .boolean 1)))))))))))))))
def wp_M_canPair_L67 (v_this_females : (Nat → Int32)) (v_this_isBarred : (Nat → Int32)) (v_this_males : (Nat → Int32)) (v_this_many : Int32) (x3_32 : Int32) (w32_this_now : (Nat → Int32)) (post : Int32 → (Nat → Int32) → (Nat → Int32) → Prop) (K32 : Int32 → (Nat → Int32) → (Nat → Int32) → Prop) : Nat → Int32 → (Nat → Int32) → Prop
  | 0, _, _ => False
  | n67 + 1, x4_67, w67_this_then => (64 ≤ x4_67 → (∃ n159, wp_M_canPair_L159 x3_32 w67_this_then post K32 n159 (0) w32_this_now)) ∧ (¬ 64 ≤ x4_67 → (∃ n77, wp_M_canPair_L77 v_this_females v_this_isBarred v_this_males v_this_many x3_32 w32_this_now x4_67 post (fun z0 z1 => wp_M_canPair_L67 v_this_females v_this_isBarred v_this_males v_this_many x3_32 w32_this_now post K32 n67 z0 z1) n77 (0) w67_this_then))
def wp_M_canPair_L43 (v_this_females : (Nat → Int32)) (v_this_isBarred : (Nat → Int32)) (v_this_males : (Nat → Int32)) (v_this_many : Int32) (x3_32 : Int32) (w32_this_now : (Nat → Int32)) (post : Int32 → (Nat → Int32) → (Nat → Int32) → Prop) (K32 : Int32 → (Nat → Int32) → (Nat → Int32) → Prop) : Nat → Int32 → (Nat → Int32) → Prop
  | 0, _, _ => False
  | n43 + 1, x4_43, w43_this_then => (64 ≤ x4_43 → (∃ n67, wp_M_canPair_L67 v_this_females v_this_isBarred v_this_males v_this_many x3_32 w32_this_now post K32 n67 (0) w43_this_then)) ∧ (¬ 64 ≤ x4_43 → (vp_in x4_43 64 ∧ (wp_M_canPair_L43 v_this_females v_this_isBarred v_this_males v_this_many x3_32 w32_this_now post K32 n43 (x4_43 + 1) (upd w43_this_then x4_43.toNatClampNeg (vp_nar .boolean 0)))))
def wp_M_canPair_L32 (v_this_females : (Nat → Int32)) (v_this_isBarred : (Nat → Int32)) (v_this_males : (Nat → Int32)) (v_this_many : Int32) (post : Int32 → (Nat → Int32) → (Nat → Int32) → Prop) : Nat → Int32 → (Nat → Int32) → (Nat → Int32) → Prop
  | 0, _, _, _ => False
  | n32 + 1, x3_32, w32_this_now, w32_this_then => (v_this_many ≤ x3_32 → (vp_in (((1 : Int32) <<< (v_this_many &&& 31)) - 1) 64 ∧ (((w32_this_now (((1 : Int32) <<< (v_this_many &&& 31)) - 1).toNatClampNeg) = 0 ∨ (w32_this_now (((1 : Int32) <<< (v_this_many &&& 31)) - 1).toNatClampNeg) = 1) ∧ post (w32_this_now (((1 : Int32) <<< (v_this_many &&& 31)) - 1).toNatClampNeg) w32_this_now w32_this_then))) ∧ (¬ v_this_many ≤ x3_32 → (∃ n43, wp_M_canPair_L43 v_this_females v_this_isBarred v_this_males v_this_many x3_32 w32_this_now post (fun z0 z1 z2 => wp_M_canPair_L32 v_this_females v_this_isBarred v_this_males v_this_many post n32 z0 z1 z2) n43 (0) w32_this_then))
def wp_M_canPair_L2 (v_this_females : (Nat → Int32)) (v_this_isBarred : (Nat → Int32)) (v_this_males : (Nat → Int32)) (v_this_many : Int32) (v_this_then : (Nat → Int32)) (x1 : Int32) (x2 : Int32) (post : Int32 → (Nat → Int32) → (Nat → Int32) → Prop) : Nat → Int32 → (Nat → Int32) → Prop
  | 0, _, _ => False
  | n2 + 1, x3_2, w2_this_now => (64 ≤ x3_2 → (∃ n32, wp_M_canPair_L32 v_this_females v_this_isBarred v_this_males v_this_many post n32 x1 w2_this_now v_this_then)) ∧ (¬ 64 ≤ x3_2 → ((¬ x3_2 = x2 → (vp_in x3_2 64 ∧ (wp_M_canPair_L2 v_this_females v_this_isBarred v_this_males v_this_many v_this_then x1 x2 post n2 (x3_2 + 1) (upd w2_this_now x3_2.toNatClampNeg (vp_nar .boolean 0))))) ∧ (x3_2 = x2 → (vp_in x3_2 64 ∧ (wp_M_canPair_L2 v_this_females v_this_isBarred v_this_males v_this_many v_this_then x1 x2 post n2 (x3_2 + 1) (upd w2_this_now x3_2.toNatClampNeg (vp_nar .boolean 1)))))))
def wp_M_canPair (v_this_females : (Nat → Int32)) (v_this_isBarred : (Nat → Int32)) (v_this_males : (Nat → Int32)) (v_this_many : Int32) (v_this_now : (Nat → Int32)) (v_this_then : (Nat → Int32)) (x1 : Int32) (x2 : Int32) (post : Int32 → (Nat → Int32) → (Nat → Int32) → Prop) : Prop := ∃ n2, wp_M_canPair_L2 v_this_females v_this_isBarred v_this_males v_this_many v_this_then x1 x2 post n2 (0) v_this_now
def wp_M_fits (v_this_animals : Int32) (v_this_families : (Nat → Int32)) (v_this_kins : (Nat → Int32)) (v_this_leasts : (Nat → Int32)) (v_this_limit : Int32) (v_this_most : Int32) (x1 : Int32) (x2 : Int32) (post : Int32 → Prop) : Prop := wp_M_kinOf v_this_animals v_this_kins x1 (fun r1 => (((((4 : Int32) * x2) * x2) * v_this_limit) < r1 → (post 0)) ∧ (¬ ((((4 : Int32) * x2) * x2) * v_this_limit) < r1 → (wp_M_fitsFamilies v_this_animals v_this_families v_this_leasts v_this_most x1 (fun r3 => (r3 = 0 → (post 0)) ∧ (¬ r3 = 0 → (post 1))))))
def wp_M_worthOf_L4 (v_this_animals : Int32) (v_this_tested : Int32) (v_this_testedBy : Int32) (v_this_worths : (Nat → Int32)) (x1 : Int32) (post : Int32 → Prop) : Nat → Int32 → Int32 → Prop
  | 0, _, _ => False
  | n4 + 1, x2_4, x3_4 => (v_this_animals ≤ x3_4 → (post x2_4)) ∧ (¬ v_this_animals ≤ x3_4 → ((¬ ((x1 >>> (x3_4 &&& 31)) &&& 1) = 1 → (wp_M_worthOf_L4 v_this_animals v_this_tested v_this_testedBy v_this_worths x1 post n4 x2_4 (x3_4 + 1))) ∧ (((x1 >>> (x3_4 &&& 31)) &&& 1) = 1 → (vp_in x3_4 12 ∧ ((¬ x3_4 = v_this_tested → (wp_M_worthOf_L4 v_this_animals v_this_tested v_this_testedBy v_this_worths x1 post n4 ((x2_4 + (v_this_worths x3_4.toNatClampNeg)) + 0) (x3_4 + 1))) ∧ (x3_4 = v_this_tested → (wp_M_worthOf_L4 v_this_animals v_this_tested v_this_testedBy v_this_worths x1 post n4 ((x2_4 + (v_this_worths x3_4.toNatClampNeg)) + v_this_testedBy) (x3_4 + 1))))))))
def wp_M_worthOf (v_this_animals : Int32) (v_this_tested : Int32) (v_this_testedBy : Int32) (v_this_worths : (Nat → Int32)) (x1 : Int32) (post : Int32 → Prop) : Prop := ∃ n4, wp_M_worthOf_L4 v_this_animals v_this_tested v_this_testedBy v_this_worths x1 post n4 (0) (0)
def wp_M_find_L17 (v_this_animals : Int32) (v_this_families : (Nat → Int32)) (v_this_isBarred : (Nat → Int32)) (v_this_kins : (Nat → Int32)) (v_this_leasts : (Nat → Int32)) (v_this_limit : Int32) (v_this_most : Int32) (v_this_sexes : (Nat → Int32)) (v_this_tested : Int32) (v_this_testedBy : Int32) (v_this_worths : (Nat → Int32)) (x1 : Int32) (x2 : Int32) (post : Int32 → Int32 → Int32 → (Nat → Int32) → (Nat → Int32) → Int32 → (Nat → Int32) → Int32 → (Nat → Int32) → Prop) : Nat → Int32 → Int32 → Int32 → (Nat → Int32) → (Nat → Int32) → Int32 → (Nat → Int32) → Int32 → (Nat → Int32) → Prop
  | 0, _, _, _, _, _, _, _, _, _ => False
  | n17 + 1, x3_17, w17_this_best, w17_this_bestWorth, w17_this_females, w17_this_males, w17_this_many, w17_this_now, w17_this_sets, w17_this_then => (((1 : Int32) <<< (v_this_animals &&& 31)) ≤ x3_17 → ((w17_this_sets ≤ 0 → (post 0 w17_this_best w17_this_bestWorth w17_this_females w17_this_males w17_this_many w17_this_now w17_this_sets w17_this_then)) ∧ (¬ w17_this_sets ≤ 0 → (post 1 w17_this_best w17_this_bestWorth w17_this_females w17_this_males w17_this_many w17_this_now w17_this_sets w17_this_then)))) ∧ (¬ ((1 : Int32) <<< (v_this_animals &&& 31)) ≤ x3_17 → ((¬ (x3_17 &&& (x2 ^^^ (-1))) = 0 → (wp_M_find_L17 v_this_animals v_this_families v_this_isBarred v_this_kins v_this_leasts v_this_limit v_this_most v_this_sexes v_this_tested v_this_testedBy v_this_worths x1 x2 post n17 (x3_17 + 1) w17_this_best w17_this_bestWorth w17_this_females w17_this_males w17_this_many w17_this_now w17_this_sets w17_this_then)) ∧ ((x3_17 &&& (x2 ^^^ (-1))) = 0 → (wp_M_part v_this_animals w17_this_females w17_this_males w17_this_many v_this_sexes x3_17 x1 (fun r4 v5 v6 v7 => (r4 = 0 → (wp_M_find_L17 v_this_animals v_this_families v_this_isBarred v_this_kins v_this_leasts v_this_limit v_this_most v_this_sexes v_this_tested v_this_testedBy v_this_worths x1 x2 post n17 (x3_17 + 1) w17_this_best w17_this_bestWorth v5 v6 v7 w17_this_now w17_this_sets w17_this_then)) ∧ (¬ r4 = 0 → (wp_M_fits v_this_animals v_this_families v_this_kins v_this_leasts v_this_limit v_this_most x3_17 x1 (fun r9 => (r9 = 0 → (wp_M_find_L17 v_this_animals v_this_families v_this_isBarred v_this_kins v_this_leasts v_this_limit v_this_most v_this_sexes v_this_tested v_this_testedBy v_this_worths x1 x2 post n17 (x3_17 + 1) w17_this_best w17_this_bestWorth v5 v6 v7 w17_this_now w17_this_sets w17_this_then)) ∧ (¬ r9 = 0 → (wp_M_canPair v5 v_this_isBarred v6 v7 w17_this_now w17_this_then 0 0 (fun r11 v12 v13 => (r11 = 0 → (wp_M_find_L17 v_this_animals v_this_families v_this_isBarred v_this_kins v_this_leasts v_this_limit v_this_most v_this_sexes v_this_tested v_this_testedBy v_this_worths x1 x2 post n17 (x3_17 + 1) w17_this_best w17_this_bestWorth v5 v6 v7 v12 w17_this_sets v13)) ∧ (¬ r11 = 0 → (wp_M_worthOf v_this_animals v_this_tested v_this_testedBy v_this_worths x3_17 (fun r15 => (((x3_17 &&& (x3_17 ^^^ w17_this_best)) &&& (-(x3_17 ^^^ w17_this_best))) = 0 → ((w17_this_sets = 0 → (wp_M_find_L17 v_this_animals v_this_families v_this_isBarred v_this_kins v_this_leasts v_this_limit v_this_most v_this_sexes v_this_tested v_this_testedBy v_this_worths x1 x2 post n17 (x3_17 + 1) x3_17 r15 v5 v6 v7 v12 (w17_this_sets + 1) v13)) ∧ (¬ w17_this_sets = 0 → ((w17_this_bestWorth < r15 → (wp_M_find_L17 v_this_animals v_this_families v_this_isBarred v_this_kins v_this_leasts v_this_limit v_this_most v_this_sexes v_this_tested v_this_testedBy v_this_worths x1 x2 post n17 (x3_17 + 1) x3_17 r15 v5 v6 v7 v12 (w17_this_sets + 1) v13)) ∧ (¬ w17_this_bestWorth < r15 → ((¬ r15 = w17_this_bestWorth → (wp_M_find_L17 v_this_animals v_this_families v_this_isBarred v_this_kins v_this_leasts v_this_limit v_this_most v_this_sexes v_this_tested v_this_testedBy v_this_worths x1 x2 post n17 (x3_17 + 1) w17_this_best w17_this_bestWorth v5 v6 v7 v12 (w17_this_sets + 1) v13)) ∧ (r15 = w17_this_bestWorth → (wp_M_find_L17 v_this_animals v_this_families v_this_isBarred v_this_kins v_this_leasts v_this_limit v_this_most v_this_sexes v_this_tested v_this_testedBy v_this_worths x1 x2 post n17 (x3_17 + 1) w17_this_best w17_this_bestWorth v5 v6 v7 v12 (w17_this_sets + 1) v13)))))))) ∧ (¬ ((x3_17 &&& (x3_17 ^^^ w17_this_best)) &&& (-(x3_17 ^^^ w17_this_best))) = 0 → ((w17_this_sets = 0 → (wp_M_find_L17 v_this_animals v_this_families v_this_isBarred v_this_kins v_this_leasts v_this_limit v_this_most v_this_sexes v_this_tested v_this_testedBy v_this_worths x1 x2 post n17 (x3_17 + 1) x3_17 r15 v5 v6 v7 v12 (w17_this_sets + 1) v13)) ∧ (¬ w17_this_sets = 0 → ((w17_this_bestWorth < r15 → (wp_M_find_L17 v_this_animals v_this_families v_this_isBarred v_this_kins v_this_leasts v_this_limit v_this_most v_this_sexes v_this_tested v_this_testedBy v_this_worths x1 x2 post n17 (x3_17 + 1) x3_17 r15 v5 v6 v7 v12 (w17_this_sets + 1) v13)) ∧ (¬ w17_this_bestWorth < r15 → ((¬ r15 = w17_this_bestWorth → (wp_M_find_L17 v_this_animals v_this_families v_this_isBarred v_this_kins v_this_leasts v_this_limit v_this_most v_this_sexes v_this_tested v_this_testedBy v_this_worths x1 x2 post n17 (x3_17 + 1) w17_this_best w17_this_bestWorth v5 v6 v7 v12 (w17_this_sets + 1) v13)) ∧ (r15 = w17_this_bestWorth → (wp_M_find_L17 v_this_animals v_this_families v_this_isBarred v_this_kins v_this_leasts v_this_limit v_this_most v_this_sexes v_this_tested v_this_testedBy v_this_worths x1 x2 post n17 (x3_17 + 1) x3_17 r15 v5 v6 v7 v12 (w17_this_sets + 1) v13))))))))))))))))))))))
def wp_M_find (v_this_animals : Int32) (v_this_best : Int32) (v_this_bestWorth : Int32) (v_this_families : (Nat → Int32)) (v_this_females : (Nat → Int32)) (v_this_isBarred : (Nat → Int32)) (v_this_kins : (Nat → Int32)) (v_this_leasts : (Nat → Int32)) (v_this_limit : Int32) (v_this_males : (Nat → Int32)) (v_this_many : Int32) (v_this_most : Int32) (v_this_now : (Nat → Int32)) (v_this_sets : Int32) (v_this_sexes : (Nat → Int32)) (v_this_tested : Int32) (v_this_testedBy : Int32) (v_this_then : (Nat → Int32)) (v_this_worths : (Nat → Int32)) (x1 : Int32) (x2 : Int32) (post : Int32 → Int32 → Int32 → (Nat → Int32) → (Nat → Int32) → Int32 → (Nat → Int32) → Int32 → (Nat → Int32) → Prop) : Prop := ∃ n17, wp_M_find_L17 v_this_animals v_this_families v_this_isBarred v_this_kins v_this_leasts v_this_limit v_this_most v_this_sexes v_this_tested v_this_testedBy v_this_worths x1 x2 post n17 (1) 0 0 v_this_females v_this_males v_this_many v_this_now 0 v_this_then
def wp_M_all (v_this_animals : Int32)  (post : Int32 → Prop) : Prop := post (((1 : Int32) <<< (v_this_animals &&& 31)) - 1)
def wp_M_run_L74 (v_this_isBarred : (Nat → Int32)) (v16 : (Nat → Int32)) (v17 : (Nat → Int32)) (v18 : Int32) (x2_66 : Int32) (x3_66 : Int32) (w66_this_eggs : (Nat → Int32)) (w66_this_he : (Nat → Int32)) (w66_this_she : (Nat → Int32)) (post : Int32 → Int32 → Int32 → Int32 → Int32 → (Nat → Int32) → (Nat → Int32) → (Nat → Int32) → (Nat → Int32) → Int32 → (Nat → Int32) → Int32 → Int32 → (Nat → Int32) → (Nat → Int32) → Prop) (K66 : Int32 → Int32 → (Nat → Int32) → (Nat → Int32) → (Nat → Int32) → (Nat → Int32) → (Nat → Int32) → Prop) : Nat → Int32 → (Nat → Int32) → (Nat → Int32) → Prop
  | 0, _, _, _ => False
  | n74 + 1, x4_74, w74_this_now, w74_this_then => (((x2_66 >>> (x4_74 &&& 31)) &&& 1) = 1 → (wp_M_run_L74 v_this_isBarred v16 v17 v18 x2_66 x3_66 w66_this_eggs w66_this_he w66_this_she post K66 n74 (x4_74 + 1) w74_this_now w74_this_then)) ∧ (¬ ((x2_66 >>> (x4_74 &&& 31)) &&& 1) = 1 → (vp_in x3_66 12 ∧ (vp_in x4_74 12 ∧ (vp_in (((12 : Int32) * (v17 x3_66.toNatClampNeg)) + (v16 x4_74.toNatClampNeg)) 144 ∧ ((¬ (v_this_isBarred (((12 : Int32) * (v17 x3_66.toNatClampNeg)) + (v16 x4_74.toNatClampNeg)).toNatClampNeg) = 0 → (wp_M_run_L74 v_this_isBarred v16 v17 v18 x2_66 x3_66 w66_this_eggs w66_this_he w66_this_she post K66 n74 (x4_74 + 1) w74_this_now w74_this_then)) ∧ ((v_this_isBarred (((12 : Int32) * (v17 x3_66.toNatClampNeg)) + (v16 x4_74.toNatClampNeg)).toNatClampNeg) = 0 → (wp_M_canPair v16 v_this_isBarred v17 v18 w74_this_now w74_this_then (x3_66 + 1) (x2_66 ||| ((1 : Int32) <<< (x4_74 &&& 31))) (fun r25 v26 v27 => (¬ r25 = 0 → (vp_in x3_66 12 ∧ (vp_in x3_66 6 ∧ (vp_in x4_74 12 ∧ (vp_in x3_66 6 ∧ (vp_in x3_66 6 ∧ (K66 (x2_66 ||| ((1 : Int32) <<< (x4_74 &&& 31))) (x3_66 + 1) (upd w66_this_eggs x3_66.toNatClampNeg 0) (upd w66_this_he x3_66.toNatClampNeg (v17 x3_66.toNatClampNeg)) v26 (upd w66_this_she x3_66.toNatClampNeg (v16 x4_74.toNatClampNeg)) v27))))))) ∧ (r25 = 0 → (wp_M_run_L74 v_this_isBarred v16 v17 v18 x2_66 x3_66 w66_this_eggs w66_this_he w66_this_she post K66 n74 (x4_74 + 1) v26 v27))))))))))
def wp_M_run_L66 (v_this_isBarred : (Nat → Int32)) (x1 : Int32) (v6 : Int32) (v7 : Int32) (v12 : Int32) (v16 : (Nat → Int32)) (v17 : (Nat → Int32)) (v18 : Int32) (post : Int32 → Int32 → Int32 → Int32 → Int32 → (Nat → Int32) → (Nat → Int32) → (Nat → Int32) → (Nat → Int32) → Int32 → (Nat → Int32) → Int32 → Int32 → (Nat → Int32) → (Nat → Int32) → Prop) : Nat → Int32 → Int32 → (Nat → Int32) → (Nat → Int32) → (Nat → Int32) → (Nat → Int32) → (Nat → Int32) → Prop
  | 0, _, _, _, _, _, _, _ => False
  | n66 + 1, x2_66, x3_66, w66_this_eggs, w66_this_he, w66_this_now, w66_this_she, w66_this_then => (x1 ≤ x3_66 → (post x1 v6 v7 v6 v12 w66_this_eggs v16 w66_this_he v17 v18 w66_this_now x1 v12 w66_this_she w66_this_then)) ∧ (¬ x1 ≤ x3_66 → (∃ n74, wp_M_run_L74 v_this_isBarred v16 v17 v18 x2_66 x3_66 w66_this_eggs w66_this_he w66_this_she post (fun z0 z1 z2 z3 z4 z5 z6 => wp_M_run_L66 v_this_isBarred x1 v6 v7 v12 v16 v17 v18 post n66 z0 z1 z2 z3 z4 z5 z6) n74 (0) w66_this_now w66_this_then))
def wp_M_run (v_this_animals : Int32) (v_this_best : Int32) (v_this_bestWorth : Int32) (v_this_choice : Int32) (v_this_choiceSets : Int32) (v_this_eggs : (Nat → Int32)) (v_this_families : (Nat → Int32)) (v_this_females : (Nat → Int32)) (v_this_he : (Nat → Int32)) (v_this_isBarred : (Nat → Int32)) (v_this_kins : (Nat → Int32)) (v_this_leasts : (Nat → Int32)) (v_this_limit : Int32) (v_this_males : (Nat → Int32)) (v_this_many : Int32) (v_this_most : Int32) (v_this_now : (Nat → Int32)) (v_this_pairs : Int32) (v_this_sets : Int32) (v_this_sexes : (Nat → Int32)) (v_this_she : (Nat → Int32)) (v_this_tested : Int32) (v_this_testedBy : Int32) (v_this_then : (Nat → Int32)) (v_this_worths : (Nat → Int32)) (x1 : Int32) (post : Int32 → Int32 → Int32 → Int32 → Int32 → (Nat → Int32) → (Nat → Int32) → (Nat → Int32) → (Nat → Int32) → Int32 → (Nat → Int32) → Int32 → Int32 → (Nat → Int32) → (Nat → Int32) → Prop) : Prop := wp_M_isIn x1 1 6 (fun r1 => (¬ r1 = 0 → (wp_M_leave v_this_pairs  (fun v3 => wp_M_all v_this_animals  (fun r4 => wp_M_find v_this_animals v_this_best v_this_bestWorth v_this_families v_this_females v_this_isBarred v_this_kins v_this_leasts v_this_limit v_this_males v_this_many v_this_most v_this_now v_this_sets v_this_sexes v_this_tested v_this_testedBy v_this_then v_this_worths x1 r4 (fun r5 v6 v7 v8 v9 v10 v11 v12 v13 => (¬ r5 = 0 → (wp_M_part v_this_animals v8 v9 v10 v_this_sexes v6 x1 (fun r15 v16 v17 v18 => ∃ n66, wp_M_run_L66 v_this_isBarred x1 v6 v7 v12 v16 v17 v18 post n66 (0) (0) v_this_eggs v_this_he v11 v_this_she v13))) ∧ (r5 = 0 → (post 0 v6 v7 v_this_choice v_this_choiceSets v_this_eggs v8 v_this_he v9 v10 v11 v3 v12 v_this_she v13))))))) ∧ (r1 = 0 → (post (-2) v_this_best v_this_bestWorth v_this_choice v_this_choiceSets v_this_eggs v_this_females v_this_he v_this_males v_this_many v_this_now v_this_pairs v_this_sets v_this_she v_this_then)))
def wp_M_pairOf (v_this_he : (Nat → Int32)) (v_this_pairs : Int32) (v_this_she : (Nat → Int32)) (x1 : Int32) (x2 : Int32) (post : Int32 → Prop) : Prop := wp_M_isIn x1 0 (v_this_pairs - 1) (fun r1 => (¬ r1 = 0 → (wp_M_isIn x2 0 1 (fun r3 => (¬ r3 = 0 → ((¬ x2 = 0 → (vp_in x1 6 ∧ (post (v_this_she x1.toNatClampNeg)))) ∧ (x2 = 0 → (vp_in x1 6 ∧ (post (v_this_he x1.toNatClampNeg)))))) ∧ (r3 = 0 → (post (-2)))))) ∧ (r1 = 0 → (post (-1))))
def wp_M_told (v_this_animals : Int32) (v_this_choice : Int32) (v_this_choiceSets : Int32) (v_this_kins : (Nat → Int32)) (v_this_pairs : Int32) (v_this_tested : Int32) (v_this_testedBy : Int32) (v_this_worths : (Nat → Int32)) (x1 : Int32) (post : Int32 → Prop) : Prop := wp_M_isIn x1 0 3 (fun r1 => (¬ r1 = 0 → ((¬ v_this_pairs = 0 → ((¬ x1 = 0 → ((¬ x1 = 1 → ((¬ x1 = 2 → (post v_this_choiceSets)) ∧ (x1 = 2 → (post v_this_pairs)))) ∧ (x1 = 1 → (wp_M_kinOf v_this_animals v_this_kins v_this_choice (fun r7 => post r7))))) ∧ (x1 = 0 → (wp_M_worthOf v_this_animals v_this_tested v_this_testedBy v_this_worths v_this_choice (fun r8 => post r8))))) ∧ (v_this_pairs = 0 → (post (-3))))) ∧ (r1 = 0 → (post (-2))))
def wp_M_pairWorth (v_this_he : (Nat → Int32)) (v_this_she : (Nat → Int32)) (v_this_worths : (Nat → Int32)) (x1 : Int32) (post : Int32 → Prop) : Prop := vp_in x1 6 ∧ (vp_in (v_this_he x1.toNatClampNeg) 12 ∧ (vp_in x1 6 ∧ (vp_in (v_this_she x1.toNatClampNeg) 12 ∧ (post ((v_this_worths (v_this_he x1.toNatClampNeg).toNatClampNeg) + (v_this_worths (v_this_she x1.toNatClampNeg).toNatClampNeg))))))
def wp_M_eggs_L198 (v_this_pairs : Int32) (x5_187 : Int32) (w187_this_eggs : (Nat → Int32)) (w187_this_rests : (Nat → Int32)) (post : Int32 → (Nat → Int32) → (Nat → Int32) → (Nat → Int32) → Prop) (K187 : Int32 → Int32 → (Nat → Int32) → (Nat → Int32) → Prop) : Nat → Int32 → Int32 → Prop
  | 0, _, _ => False
  | n198 + 1, x6_198, x7_198 => (v_this_pairs ≤ x7_198 → (vp_in x6_198 6 ∧ (vp_in x6_198 6 ∧ (vp_in x6_198 6 ∧ (K187 (x5_187 + (-1)) x6_198 (upd w187_this_eggs x6_198.toNatClampNeg ((w187_this_eggs x6_198.toNatClampNeg) + 1)) (upd w187_this_rests x6_198.toNatClampNeg (-1))))))) ∧ (¬ v_this_pairs ≤ x7_198 → (vp_in x7_198 6 ∧ (vp_in x6_198 6 ∧ (((w187_this_rests x7_198.toNatClampNeg) ≤ (w187_this_rests x6_198.toNatClampNeg) → (wp_M_eggs_L198 v_this_pairs x5_187 w187_this_eggs w187_this_rests post K187 n198 x6_198 (x7_198 + 1))) ∧ (¬ (w187_this_rests x7_198.toNatClampNeg) ≤ (w187_this_rests x6_198.toNatClampNeg) → (wp_M_eggs_L198 v_this_pairs x5_187 w187_this_eggs w187_this_rests post K187 n198 x7_198 (x7_198 + 1)))))))
def wp_M_eggs_L187 (v_this_pairs : Int32) (w69_this_points : (Nat → Int32)) (post : Int32 → (Nat → Int32) → (Nat → Int32) → (Nat → Int32) → Prop) : Nat → Int32 → Int32 → (Nat → Int32) → (Nat → Int32) → Prop
  | 0, _, _, _, _ => False
  | n187 + 1, x5_187, x6_187, w187_this_eggs, w187_this_rests => (x5_187 ≤ 0 → (vp_in 0 6 ∧ (post (w187_this_eggs (0 : Int32).toNatClampNeg) w187_this_eggs w69_this_points w187_this_rests))) ∧ (¬ x5_187 ≤ 0 → (∃ n198, wp_M_eggs_L198 v_this_pairs x5_187 w187_this_eggs w187_this_rests post (fun z0 z1 z2 z3 => wp_M_eggs_L187 v_this_pairs w69_this_points post n187 z0 z1 z2 z3) n198 (0) (1)))
def wp_M_eggs_L118 (v_this_pairs : Int32) (x1 : Int32) (x3_69 : Int64) (w69_this_points : (Nat → Int32)) (post : Int32 → (Nat → Int32) → (Nat → Int32) → (Nat → Int32) → Prop) : Nat → Int32 → Int32 → (Nat → Int32) → (Nat → Int32) → Prop
  | 0, _, _, _, _ => False
  | n118 + 1, x5_118, x6_118, w118_this_eggs, w118_this_rests => (v_this_pairs ≤ x6_118 → (∃ n187, wp_M_eggs_L187 v_this_pairs w69_this_points post n187 x5_118 x6_118 w118_this_eggs w118_this_rests)) ∧ (¬ v_this_pairs ≤ x6_118 → (vp_in x6_118 6 ∧ (¬ x3_69 = 0 ∧ (vp_in x6_118 6 ∧ (vp_in x6_118 6 ∧ (¬ x3_69 = 0 ∧ (vp_in x6_118 6 ∧ (vp_in x6_118 6 ∧ (wp_M_eggs_L118 v_this_pairs x1 x3_69 w69_this_points post n118 (x5_118 - ((upd w118_this_eggs x6_118.toNatClampNeg ((((((x1 : Int32).toInt64) * (((w69_this_points x6_118.toNatClampNeg) : Int32).toInt64)) / x3_69) : Int64).toInt32)) x6_118.toNatClampNeg)) (x6_118 + 1) (upd w118_this_eggs x6_118.toNatClampNeg ((((((x1 : Int32).toInt64) * (((w69_this_points x6_118.toNatClampNeg) : Int32).toInt64)) / x3_69) : Int64).toInt32)) (upd w118_this_rests x6_118.toNatClampNeg ((((((x1 : Int32).toInt64) * (((w69_this_points x6_118.toNatClampNeg) : Int32).toInt64)) - (((x1 : Int32).toInt64) * (((w69_this_points x6_118.toNatClampNeg) : Int32).toInt64)) / x3_69 * x3_69) : Int64).toInt32)))))))))))
def wp_M_eggs_L69 (v_this_eggs : (Nat → Int32)) (v_this_he : (Nat → Int32)) (v_this_pairs : Int32) (v_this_rests : (Nat → Int32)) (v_this_she : (Nat → Int32)) (v_this_worths : (Nat → Int32)) (x1 : Int32) (x2_31 : Int32) (post : Int32 → (Nat → Int32) → (Nat → Int32) → (Nat → Int32) → Prop) : Nat → Int64 → Int32 → (Nat → Int32) → Prop
  | 0, _, _, _ => False
  | n69 + 1, x3_69, x5_69, w69_this_points => (v_this_pairs ≤ x5_69 → (∃ n118, wp_M_eggs_L118 v_this_pairs x1 x3_69 w69_this_points post n118 x1 (0) v_this_eggs v_this_rests)) ∧ (¬ v_this_pairs ≤ x5_69 → (wp_M_pairWorth v_this_he v_this_she v_this_worths x5_69 (fun r24 => vp_in x5_69 6 ∧ (vp_in x5_69 6 ∧ (wp_M_eggs_L69 v_this_eggs v_this_he v_this_pairs v_this_rests v_this_she v_this_worths x1 x2_31 post n69 (x3_69 + ((((upd w69_this_points x5_69.toNatClampNeg ((r24 - x2_31) + 1)) x5_69.toNatClampNeg) : Int32).toInt64)) (x5_69 + 1) (upd w69_this_points x5_69.toNatClampNeg ((r24 - x2_31) + 1)))))))
def wp_M_eggs_L31 (v_this_eggs : (Nat → Int32)) (v_this_he : (Nat → Int32)) (v_this_pairs : Int32) (v_this_points : (Nat → Int32)) (v_this_rests : (Nat → Int32)) (v_this_she : (Nat → Int32)) (v_this_worths : (Nat → Int32)) (x1 : Int32) (post : Int32 → (Nat → Int32) → (Nat → Int32) → (Nat → Int32) → Prop) : Nat → Int32 → Int32 → Prop
  | 0, _, _ => False
  | n31 + 1, x2_31, x3_31 => (v_this_pairs ≤ x3_31 → (∃ n69, wp_M_eggs_L69 v_this_eggs v_this_he v_this_pairs v_this_rests v_this_she v_this_worths x1 x2_31 post n69 (0 : Int64) (0) v_this_points)) ∧ (¬ v_this_pairs ≤ x3_31 → (wp_M_pairWorth v_this_he v_this_she v_this_worths x3_31 (fun r27 => (x2_31 ≤ r27 → (wp_M_eggs_L31 v_this_eggs v_this_he v_this_pairs v_this_points v_this_rests v_this_she v_this_worths x1 post n31 x2_31 (x3_31 + 1))) ∧ (¬ x2_31 ≤ r27 → (wp_M_pairWorth v_this_he v_this_she v_this_worths x3_31 (fun r29 => wp_M_eggs_L31 v_this_eggs v_this_he v_this_pairs v_this_points v_this_rests v_this_she v_this_worths x1 post n31 r29 (x3_31 + 1)))))))
def wp_M_eggs (v_this_eggs : (Nat → Int32)) (v_this_he : (Nat → Int32)) (v_this_pairs : Int32) (v_this_points : (Nat → Int32)) (v_this_rests : (Nat → Int32)) (v_this_she : (Nat → Int32)) (v_this_worths : (Nat → Int32)) (x1 : Int32) (post : Int32 → (Nat → Int32) → (Nat → Int32) → (Nat → Int32) → Prop) : Prop := wp_M_isIn x1 0 100000 (fun r1 => (¬ r1 = 0 → ((¬ v_this_pairs = 0 → (wp_M_pairWorth v_this_he v_this_she v_this_worths 0 (fun r4 => ∃ n31, wp_M_eggs_L31 v_this_eggs v_this_he v_this_pairs v_this_points v_this_rests v_this_she v_this_worths x1 post n31 r4 (1)))) ∧ (v_this_pairs = 0 → (post (-3) v_this_eggs v_this_points v_this_rests)))) ∧ (r1 = 0 → (post (-2) v_this_eggs v_this_points v_this_rests)))
def wp_M_eggsOf (v_this_eggs : (Nat → Int32)) (v_this_pairs : Int32) (x1 : Int32) (post : Int32 → Prop) : Prop := wp_M_isIn x1 0 (v_this_pairs - 1) (fun r1 => (r1 = 0 → (post (-1))) ∧ (¬ r1 = 0 → (vp_in x1 6 ∧ (post (v_this_eggs x1.toNatClampNeg)))))
def wp_M_backUp_L21 (v_this_animals : Int32) (v_this_choice : Int32) (v_this_families : (Nat → Int32)) (v_this_he : (Nat → Int32)) (v_this_isBarred : (Nat → Int32)) (v_this_kins : (Nat → Int32)) (v_this_leasts : (Nat → Int32)) (v_this_limit : Int32) (v_this_most : Int32) (v_this_pairs : Int32) (v_this_sexes : (Nat → Int32)) (v_this_she : (Nat → Int32)) (v_this_worths : (Nat → Int32)) (x1 : Int32) (post : Int32 → Prop) : Nat → Int32 → Int32 → Prop
  | 0, _, _ => False
  | n21 + 1, x2_21, x3_21 => (v_this_animals ≤ x3_21 → (post x2_21)) ∧ (¬ v_this_animals ≤ x3_21 → (vp_in x1 6 ∧ (vp_in x3_21 12 ∧ ((¬ (v_this_sexes x3_21.toNatClampNeg) = 0 → (wp_M_backUp_L21 v_this_animals v_this_choice v_this_families v_this_he v_this_isBarred v_this_kins v_this_leasts v_this_limit v_this_most v_this_pairs v_this_sexes v_this_she v_this_worths x1 post n21 x2_21 (x3_21 + 1))) ∧ ((v_this_sexes x3_21.toNatClampNeg) = 0 → ((¬ ((v_this_choice >>> (x3_21 &&& 31)) &&& 1) = 0 → (wp_M_backUp_L21 v_this_animals v_this_choice v_this_families v_this_he v_this_isBarred v_this_kins v_this_leasts v_this_limit v_this_most v_this_pairs v_this_sexes v_this_she v_this_worths x1 post n21 x2_21 (x3_21 + 1))) ∧ (((v_this_choice >>> (x3_21 &&& 31)) &&& 1) = 0 → (vp_in x1 6 ∧ (vp_in (((12 : Int32) * x3_21) + (v_this_she x1.toNatClampNeg)) 144 ∧ ((¬ (v_this_isBarred (((12 : Int32) * x3_21) + (v_this_she x1.toNatClampNeg)).toNatClampNeg) = 0 → (wp_M_backUp_L21 v_this_animals v_this_choice v_this_families v_this_he v_this_isBarred v_this_kins v_this_leasts v_this_limit v_this_most v_this_pairs v_this_sexes v_this_she v_this_worths x1 post n21 x2_21 (x3_21 + 1))) ∧ ((v_this_isBarred (((12 : Int32) * x3_21) + (v_this_she x1.toNatClampNeg)).toNatClampNeg) = 0 → (wp_M_fits v_this_animals v_this_families v_this_kins v_this_leasts v_this_limit v_this_most ((v_this_choice &&& (((1 : Int32) <<< ((v_this_he x1.toNatClampNeg) &&& 31)) ^^^ (-1))) ||| ((1 : Int32) <<< (x3_21 &&& 31))) v_this_pairs (fun r14 => (r14 = 0 → (wp_M_backUp_L21 v_this_animals v_this_choice v_this_families v_this_he v_this_isBarred v_this_kins v_this_leasts v_this_limit v_this_most v_this_pairs v_this_sexes v_this_she v_this_worths x1 post n21 x2_21 (x3_21 + 1))) ∧ (¬ r14 = 0 → ((x2_21 < 0 → (wp_M_backUp_L21 v_this_animals v_this_choice v_this_families v_this_he v_this_isBarred v_this_kins v_this_leasts v_this_limit v_this_most v_this_pairs v_this_sexes v_this_she v_this_worths x1 post n21 x3_21 (x3_21 + 1))) ∧ (¬ x2_21 < 0 → (vp_in x3_21 12 ∧ (vp_in x2_21 12 ∧ (((v_this_worths x3_21.toNatClampNeg) ≤ (v_this_worths x2_21.toNatClampNeg) → (wp_M_backUp_L21 v_this_animals v_this_choice v_this_families v_this_he v_this_isBarred v_this_kins v_this_leasts v_this_limit v_this_most v_this_pairs v_this_sexes v_this_she v_this_worths x1 post n21 x2_21 (x3_21 + 1))) ∧ (¬ (v_this_worths x3_21.toNatClampNeg) ≤ (v_this_worths x2_21.toNatClampNeg) → (wp_M_backUp_L21 v_this_animals v_this_choice v_this_families v_this_he v_this_isBarred v_this_kins v_this_leasts v_this_limit v_this_most v_this_pairs v_this_sexes v_this_she v_this_worths x1 post n21 x3_21 (x3_21 + 1))))))))))))))))))))))
def wp_M_backUp (v_this_animals : Int32) (v_this_choice : Int32) (v_this_families : (Nat → Int32)) (v_this_he : (Nat → Int32)) (v_this_isBarred : (Nat → Int32)) (v_this_kins : (Nat → Int32)) (v_this_leasts : (Nat → Int32)) (v_this_limit : Int32) (v_this_most : Int32) (v_this_pairs : Int32) (v_this_sexes : (Nat → Int32)) (v_this_she : (Nat → Int32)) (v_this_worths : (Nat → Int32)) (x1 : Int32) (post : Int32 → Prop) : Prop := wp_M_isIn x1 0 (v_this_pairs - 1) (fun r1 => (¬ r1 = 0 → (∃ n21, wp_M_backUp_L21 v_this_animals v_this_choice v_this_families v_this_he v_this_isBarred v_this_kins v_this_leasts v_this_limit v_this_most v_this_pairs v_this_sexes v_this_she v_this_worths x1 post n21 (-3) (0))) ∧ (r1 = 0 → (post (-1))))
def wp_M_test_L47 (v_this_animals : Int32) (v_this_families : (Nat → Int32)) (v_this_isBarred : (Nat → Int32)) (v_this_kins : (Nat → Int32)) (v_this_leasts : (Nat → Int32)) (v_this_limit : Int32) (v_this_most : Int32) (v_this_sexes : (Nat → Int32)) (v_this_worths : (Nat → Int32)) (x1 : Int32) (x2 : Int32) (post : Int32 → Int32 → Int32 → (Nat → Int32) → (Nat → Int32) → Int32 → (Nat → Int32) → Int32 → Int32 → Int32 → (Nat → Int32) → Prop) : Nat → Int32 → Int32 → Int32 → Int32 → Int32 → (Nat → Int32) → (Nat → Int32) → Int32 → (Nat → Int32) → Int32 → Int32 → Int32 → (Nat → Int32) → Prop
  | 0, _, _, _, _, _, _, _, _, _, _, _, _, _ => False
  | n47 + 1, x3_47, x4_47, x5_47, w47_this_best, w47_this_bestWorth, w47_this_females, w47_this_males, w47_this_many, w47_this_now, w47_this_sets, w47_this_tested, w47_this_testedBy, w47_this_then => (v_this_animals ≤ x5_47 → (post x3_47 w47_this_best w47_this_bestWorth w47_this_females w47_this_males w47_this_many w47_this_now w47_this_sets (-1) w47_this_testedBy w47_this_then)) ∧ (¬ v_this_animals ≤ x5_47 → (wp_M_all v_this_animals  (fun r17 => wp_M_find v_this_animals w47_this_best w47_this_bestWorth v_this_families w47_this_females v_this_isBarred v_this_kins v_this_leasts v_this_limit w47_this_males w47_this_many v_this_most w47_this_now w47_this_sets v_this_sexes x5_47 x2 w47_this_then v_this_worths x1 r17 (fun r18 v19 v20 v21 v22 v23 v24 v25 v26 => wp_M_all v_this_animals  (fun r27 => wp_M_find v_this_animals v19 v20 v_this_families v21 v_this_isBarred v_this_kins v_this_leasts v_this_limit v22 v23 v_this_most v24 v25 v_this_sexes x5_47 (-x2) v26 v_this_worths x1 r27 (fun r28 v29 v30 v31 v32 v33 v34 v35 v36 => (x5_47 = 0 → (wp_M_test_L47 v_this_animals v_this_families v_this_isBarred v_this_kins v_this_leasts v_this_limit v_this_most v_this_sexes v_this_worths x1 x2 post n47 x5_47 (v20 + v30) (x5_47 + 1) v29 v30 v31 v32 v33 v34 v35 x5_47 (-x2) v36)) ∧ (¬ x5_47 = 0 → (((v20 + v30) ≤ x4_47 → (wp_M_test_L47 v_this_animals v_this_families v_this_isBarred v_this_kins v_this_leasts v_this_limit v_this_most v_this_sexes v_this_worths x1 x2 post n47 x3_47 x4_47 (x5_47 + 1) v29 v30 v31 v32 v33 v34 v35 x5_47 (-x2) v36)) ∧ (¬ (v20 + v30) ≤ x4_47 → (wp_M_test_L47 v_this_animals v_this_families v_this_isBarred v_this_kins v_this_leasts v_this_limit v_this_most v_this_sexes v_this_worths x1 x2 post n47 x5_47 (v20 + v30) (x5_47 + 1) v29 v30 v31 v32 v33 v34 v35 x5_47 (-x2) v36))))))))))
def wp_M_test (v_this_animals : Int32) (v_this_best : Int32) (v_this_bestWorth : Int32) (v_this_families : (Nat → Int32)) (v_this_females : (Nat → Int32)) (v_this_isBarred : (Nat → Int32)) (v_this_kins : (Nat → Int32)) (v_this_leasts : (Nat → Int32)) (v_this_limit : Int32) (v_this_males : (Nat → Int32)) (v_this_many : Int32) (v_this_most : Int32) (v_this_now : (Nat → Int32)) (v_this_sets : Int32) (v_this_sexes : (Nat → Int32)) (v_this_tested : Int32) (v_this_testedBy : Int32) (v_this_then : (Nat → Int32)) (v_this_worths : (Nat → Int32)) (x1 : Int32) (x2 : Int32) (post : Int32 → Int32 → Int32 → (Nat → Int32) → (Nat → Int32) → Int32 → (Nat → Int32) → Int32 → Int32 → Int32 → (Nat → Int32) → Prop) : Prop := wp_M_isIn x1 1 6 (fun r1 => (r1 = 0 → (post (-2) v_this_best v_this_bestWorth v_this_females v_this_males v_this_many v_this_now v_this_sets v_this_tested v_this_testedBy v_this_then)) ∧ (¬ r1 = 0 → (wp_M_isIn x2 1 10000 (fun r3 => (¬ r3 = 0 → (wp_M_all v_this_animals  (fun r5 => wp_M_find v_this_animals v_this_best v_this_bestWorth v_this_families v_this_females v_this_isBarred v_this_kins v_this_leasts v_this_limit v_this_males v_this_many v_this_most v_this_now v_this_sets v_this_sexes v_this_tested v_this_testedBy v_this_then v_this_worths x1 r5 (fun r6 v7 v8 v9 v10 v11 v12 v13 v14 => (¬ r6 = 0 → (∃ n47, wp_M_test_L47 v_this_animals v_this_families v_this_isBarred v_this_kins v_this_leasts v_this_limit v_this_most v_this_sexes v_this_worths x1 x2 post n47 (0) (0) (0) v7 v8 v9 v10 v11 v12 v13 v_this_tested v_this_testedBy v14)) ∧ (r6 = 0 → (post (-3) v7 v8 v9 v10 v11 v12 v13 v_this_tested v_this_testedBy v14)))))) ∧ (r3 = 0 → (post (-2) v_this_best v_this_bestWorth v_this_females v_this_males v_this_many v_this_now v_this_sets v_this_tested v_this_testedBy v_this_then))))))
def wp_M_dies  (x0 : Int32) (x1 : Int32) (x2 : Int32) (x3 : Int64) (post : Int32 → Prop) : Prop := ∀ y1 : Int64, y1 = ((((((x3 + ((16 : Int64) * ((x0 : Int32).toInt64))) + ((x1 : Int32).toInt64)) + (1 : Int64)) * (-7046029254386353131 : Int64)) ^^^ ((((((x3 + ((16 : Int64) * ((x0 : Int32).toInt64))) + ((x1 : Int32).toInt64)) + (1 : Int64)) * (-7046029254386353131 : Int64)).toUInt64 >>> ((29 : Int32).toInt64.toUInt64 &&& Int64.toUInt64 63)).toInt64)) * (-4658895280553007687 : Int64)) → (¬ (1000 : Int64) = 0 ∧ ((0 ≤ (lg_cmp (((y1.toUInt64 >>> ((33 : Int32).toInt64.toUInt64 &&& Int64.toUInt64 63)).toInt64) - ((y1.toUInt64 >>> ((33 : Int32).toInt64.toUInt64 &&& Int64.toUInt64 63)).toInt64) / (1000 : Int64) * (1000 : Int64)) ((x2 : Int32).toInt64)) → (post 0)) ∧ (¬ 0 ≤ (lg_cmp (((y1.toUInt64 >>> ((33 : Int32).toInt64.toUInt64 &&& Int64.toUInt64 63)).toInt64) - ((y1.toUInt64 >>> ((33 : Int32).toInt64.toUInt64 &&& Int64.toUInt64 63)).toInt64) / (1000 : Int64) * (1000 : Int64)) ((x2 : Int32).toInt64)) → (post 1))))
def wp_M_ahead_L69 (v_this_animals : Int32) (v_this_families : (Nat → Int32)) (v_this_isBarred : (Nat → Int32)) (v_this_kins : (Nat → Int32)) (v_this_leasts : (Nat → Int32)) (v_this_limit : Int32) (v_this_most : Int32) (v_this_sexes : (Nat → Int32)) (v_this_tested : Int32) (v_this_testedBy : Int32) (v_this_worths : (Nat → Int32)) (x2 : Int32) (x3 : Int64) (x5 : Int32) (x7_49 : Int32) (w49_this_best : Int32) (w49_this_bestWorth : Int32) (w49_this_females : (Nat → Int32)) (w49_this_males : (Nat → Int32)) (w49_this_many : Int32) (w49_this_now : (Nat → Int32)) (w49_this_sets : Int32) (w49_this_then : (Nat → Int32)) (w49_this_yearSets : (Nat → Int32)) (w49_this_yearWorths : (Nat → Int32)) (post : Int32 → (Nat → Int32) → Int32 → Int32 → (Nat → Int32) → (Nat → Int32) → Int32 → (Nat → Int32) → Int32 → (Nat → Int32) → (Nat → Int32) → (Nat → Int32) → Int32 → Prop) (K49 : Int32 → Int32 → (Nat → Int32) → Int32 → Int32 → (Nat → Int32) → (Nat → Int32) → Int32 → (Nat → Int32) → Int32 → (Nat → Int32) → (Nat → Int32) → (Nat → Int32) → Prop) : Nat → Int32 → Int32 → (Nat → Int32) → Prop
  | 0, _, _, _ => False
  | n69 + 1, x6_69, x8_69, w69_this_alive => (v_this_animals ≤ x8_69 → (wp_M_find v_this_animals w49_this_best w49_this_bestWorth v_this_families w49_this_females v_this_isBarred v_this_kins v_this_leasts v_this_limit w49_this_males w49_this_many v_this_most w49_this_now w49_this_sets v_this_sexes v_this_tested v_this_testedBy w49_this_then v_this_worths x5 x6_69 (fun r12 v13 v14 v15 v16 v17 v18 v19 v20 => (r12 = 0 → (vp_in x7_49 20 ∧ (vp_in x7_49 20 ∧ (K49 x6_69 (x7_49 + 1) w69_this_alive v13 v14 v15 v16 v17 v18 v19 v20 (upd w49_this_yearSets x7_49.toNatClampNeg 0) (upd w49_this_yearWorths x7_49.toNatClampNeg v14))))) ∧ (¬ r12 = 0 → (vp_in x7_49 20 ∧ (vp_in x7_49 20 ∧ (K49 x6_69 (x7_49 + 1) w69_this_alive v13 v14 v15 v16 v17 v18 v19 v20 (upd w49_this_yearSets x7_49.toNatClampNeg 1) (upd w49_this_yearWorths x7_49.toNatClampNeg v14)))))))) ∧ (¬ v_this_animals ≤ x8_69 → (wp_M_dies x7_49 x8_69 x2 x3 (fun r26 => (r26 = 0 → (vp_in x7_49 20 ∧ (vp_in x7_49 20 ∧ (wp_M_ahead_L69 v_this_animals v_this_families v_this_isBarred v_this_kins v_this_leasts v_this_limit v_this_most v_this_sexes v_this_tested v_this_testedBy v_this_worths x2 x3 x5 x7_49 w49_this_best w49_this_bestWorth w49_this_females w49_this_males w49_this_many w49_this_now w49_this_sets w49_this_then w49_this_yearSets w49_this_yearWorths post K49 n69 x6_69 (x8_69 + 1) (upd w69_this_alive x7_49.toNatClampNeg ((w69_this_alive x7_49.toNatClampNeg) + ((x6_69 >>> (x8_69 &&& 31)) &&& 1))))))) ∧ (¬ r26 = 0 → (vp_in x7_49 20 ∧ (vp_in x7_49 20 ∧ (wp_M_ahead_L69 v_this_animals v_this_families v_this_isBarred v_this_kins v_this_leasts v_this_limit v_this_most v_this_sexes v_this_tested v_this_testedBy v_this_worths x2 x3 x5 x7_49 w49_this_best w49_this_bestWorth w49_this_females w49_this_males w49_this_many w49_this_now w49_this_sets w49_this_then w49_this_yearSets w49_this_yearWorths post K49 n69 (x6_69 &&& (((1 : Int32) <<< (x8_69 &&& 31)) ^^^ (-1))) (x8_69 + 1) (upd w69_this_alive x7_49.toNatClampNeg ((w69_this_alive x7_49.toNatClampNeg) + (((x6_69 &&& (((1 : Int32) <<< (x8_69 &&& 31)) ^^^ (-1))) >>> (x8_69 &&& 31)) &&& 1))))))))))
def wp_M_ahead_L49 (v_this_animals : Int32) (v_this_families : (Nat → Int32)) (v_this_isBarred : (Nat → Int32)) (v_this_kins : (Nat → Int32)) (v_this_leasts : (Nat → Int32)) (v_this_limit : Int32) (v_this_most : Int32) (v_this_sexes : (Nat → Int32)) (v_this_tested : Int32) (v_this_testedBy : Int32) (v_this_worths : (Nat → Int32)) (x1 : Int32) (x2 : Int32) (x3 : Int64) (x5 : Int32) (post : Int32 → (Nat → Int32) → Int32 → Int32 → (Nat → Int32) → (Nat → Int32) → Int32 → (Nat → Int32) → Int32 → (Nat → Int32) → (Nat → Int32) → (Nat → Int32) → Int32 → Prop) : Nat → Int32 → Int32 → (Nat → Int32) → Int32 → Int32 → (Nat → Int32) → (Nat → Int32) → Int32 → (Nat → Int32) → Int32 → (Nat → Int32) → (Nat → Int32) → (Nat → Int32) → Prop
  | 0, _, _, _, _, _, _, _, _, _, _, _, _, _ => False
  | n49 + 1, x6_49, x7_49, w49_this_alive, w49_this_best, w49_this_bestWorth, w49_this_females, w49_this_males, w49_this_many, w49_this_now, w49_this_sets, w49_this_then, w49_this_yearSets, w49_this_yearWorths => (x1 ≤ x7_49 → (vp_in (x1 - 1) 20 ∧ (post (w49_this_alive (x1 - 1).toNatClampNeg) w49_this_alive w49_this_best w49_this_bestWorth w49_this_females w49_this_males w49_this_many w49_this_now w49_this_sets w49_this_then w49_this_yearSets w49_this_yearWorths x1))) ∧ (¬ x1 ≤ x7_49 → (vp_in x7_49 20 ∧ (∃ n69, wp_M_ahead_L69 v_this_animals v_this_families v_this_isBarred v_this_kins v_this_leasts v_this_limit v_this_most v_this_sexes v_this_tested v_this_testedBy v_this_worths x2 x3 x5 x7_49 w49_this_best w49_this_bestWorth w49_this_females w49_this_males w49_this_many w49_this_now w49_this_sets w49_this_then w49_this_yearSets w49_this_yearWorths post (fun z0 z1 z2 z3 z4 z5 z6 z7 z8 z9 z10 z11 z12 => wp_M_ahead_L49 v_this_animals v_this_families v_this_isBarred v_this_kins v_this_leasts v_this_limit v_this_most v_this_sexes v_this_tested v_this_testedBy v_this_worths x1 x2 x3 x5 post n49 z0 z1 z2 z3 z4 z5 z6 z7 z8 z9 z10 z11 z12) n69 x6_49 (0) (upd w49_this_alive x7_49.toNatClampNeg 0))))
def wp_M_ahead (v_this_alive : (Nat → Int32)) (v_this_animals : Int32) (v_this_best : Int32) (v_this_bestWorth : Int32) (v_this_families : (Nat → Int32)) (v_this_females : (Nat → Int32)) (v_this_isBarred : (Nat → Int32)) (v_this_kins : (Nat → Int32)) (v_this_leasts : (Nat → Int32)) (v_this_limit : Int32) (v_this_males : (Nat → Int32)) (v_this_many : Int32) (v_this_most : Int32) (v_this_now : (Nat → Int32)) (v_this_sets : Int32) (v_this_sexes : (Nat → Int32)) (v_this_tested : Int32) (v_this_testedBy : Int32) (v_this_then : (Nat → Int32)) (v_this_worths : (Nat → Int32)) (v_this_yearSets : (Nat → Int32)) (v_this_yearWorths : (Nat → Int32)) (v_this_years : Int32) (x1 : Int32) (x2 : Int32) (x3 : Int64) (x5 : Int32) (post : Int32 → (Nat → Int32) → Int32 → Int32 → (Nat → Int32) → (Nat → Int32) → Int32 → (Nat → Int32) → Int32 → (Nat → Int32) → (Nat → Int32) → (Nat → Int32) → Int32 → Prop) : Prop := wp_M_isIn x1 1 20 (fun r1 => (r1 = 0 → (post (-2) v_this_alive v_this_best v_this_bestWorth v_this_females v_this_males v_this_many v_this_now v_this_sets v_this_then v_this_yearSets v_this_yearWorths v_this_years)) ∧ (¬ r1 = 0 → (wp_M_isIn x2 0 1000 (fun r3 => (r3 = 0 → (post (-2) v_this_alive v_this_best v_this_bestWorth v_this_females v_this_males v_this_many v_this_now v_this_sets v_this_then v_this_yearSets v_this_yearWorths v_this_years)) ∧ (¬ r3 = 0 → (wp_M_isIn x5 1 6 (fun r5 => (¬ r5 = 0 → (wp_M_all v_this_animals  (fun r7 => ∃ n49, wp_M_ahead_L49 v_this_animals v_this_families v_this_isBarred v_this_kins v_this_leasts v_this_limit v_this_most v_this_sexes v_this_tested v_this_testedBy v_this_worths x1 x2 x3 x5 post n49 r7 (0) v_this_alive v_this_best v_this_bestWorth v_this_females v_this_males v_this_many v_this_now v_this_sets v_this_then v_this_yearSets v_this_yearWorths))) ∧ (r5 = 0 → (post (-2) v_this_alive v_this_best v_this_bestWorth v_this_females v_this_males v_this_many v_this_now v_this_sets v_this_then v_this_yearSets v_this_yearWorths v_this_years)))))))))
def wp_M_after (v_this_alive : (Nat → Int32)) (v_this_yearSets : (Nat → Int32)) (v_this_yearWorths : (Nat → Int32)) (v_this_years : Int32) (x1 : Int32) (x2 : Int32) (post : Int32 → Prop) : Prop := wp_M_isIn x1 0 (v_this_years - 1) (fun r1 => (¬ r1 = 0 → ((¬ x2 = 0 → ((¬ x2 = 1 → ((¬ x2 = 2 → (post (-2))) ∧ (x2 = 2 → (vp_in x1 20 ∧ (post (v_this_yearWorths x1.toNatClampNeg)))))) ∧ (x2 = 1 → (vp_in x1 20 ∧ (post (v_this_yearSets x1.toNatClampNeg)))))) ∧ (x2 = 0 → (vp_in x1 20 ∧ (post (v_this_alive x1.toNatClampNeg)))))) ∧ (r1 = 0 → (post (-1))))
end
section
def at_Choice_drop (dC : Nat → ClassId) (dI : Nat → Nat → Nat) (cI cJ cG cZ : ClassId) (q_this q_this_eggShares q_this_herd q_this_pairing q_this_rests : Nat) (A : Nat → Prop) (v_this_set : Int32) (v_this_setsThatMayBe : Int32) (u : Int32) (t : State) : Prop := va_P (dC, dI) vCl ([(q_this, .inr (0, [.ref q_this_herd, .ref q_this_pairing, .int u, .int v_this_set, .int v_this_setsThatMayBe, .ref q_this_eggShares, .ref q_this_rests]))]) t.heap ∧ va_D A ([(q_this, .inr (0, [.ref q_this_herd, .ref q_this_pairing, .int u, .int v_this_set, .int v_this_setsThatMayBe, .ref q_this_eggShares, .ref q_this_rests]))])
set_option maxHeartbeats 4000000 in
set_option maxRecDepth 100000 in
theorem c_Choice_drop (l : Launch) (dC : Nat → ClassId) (dI : Nat → Nat → Nat) (cI cJ cG cZ : ClassId) (q_this q_this_eggShares q_this_herd q_this_pairing q_this_rests : Nat) (sz : Nat) (v_this_pairs : Int32) (v_this_set : Int32) (v_this_setsThatMayBe : Int32)  (post : Int32 → Prop) (h : wp_Choice_drop v_this_pairs post) : Met l y_Choice_drop w_Choice_drop ({ frames := 0, cells := 0, slots := 0, locals := 0 } : Room) (va_Pc [.ref q_this] (pcW dC dI cI cJ cG cZ sz ([(q_this, .inr (0, [.ref q_this_herd, .ref q_this_pairing, .int v_this_pairs, .int v_this_set, .int v_this_setsThatMayBe, .ref q_this_eggShares, .ref q_this_rests]))]))) (va_Qv (fun (u : Int32) => post u) (fun (u : Int32) (t : State) => at_Choice_drop dC dI cI cJ cG cZ q_this q_this_eggShares q_this_herd q_this_pairing q_this_rests (va_A ([(q_this, .inr (0, [.ref q_this_herd, .ref q_this_pairing, .int v_this_pairs, .int v_this_set, .int v_this_setsThatMayBe, .ref q_this_eggShares, .ref q_this_rests]))]) sz) v_this_set v_this_setsThatMayBe u t) (va_A ([(q_this, .inr (0, [.ref q_this_herd, .ref q_this_pairing, .int v_this_pairs, .int v_this_set, .int v_this_setsThatMayBe, .ref q_this_eggShares, .ref q_this_rests]))]) sz)) 0 0 (va_A ([(q_this, .inr (0, [.ref q_this_herd, .ref q_this_pairing, .int v_this_pairs, .int v_this_set, .int v_this_setsThatMayBe, .ref q_this_eggShares, .ref q_this_rests]))]) sz) := by
  refine Met.ofW (cc := b_Choice_drop) (maxL := 1) (ret := none) (by decide) rfl ?_
  intro p e s m args below meth c s₁ B hml hv
  obtain ⟨rfl, hsz, hP, hK, hN, hD0⟩ := hv
  have hx := B.exec
  have hb := B.bytes
  have hr := B.returns
  have hts := atoms_spec (ws := w_Choice_drop) B.pre
  have hown : s.vm.findClass "PairChoice$Choice" = some m.cls := findClass_of_methodNamed B.named
  have hlocks := B.notSynchronized
  subst hsz
  have hD := hD0.self (sz := s.heap.size)
  generalize hAe : va_A ([(q_this, .inr (0, [.ref q_this_herd, .ref q_this_pairing, .int v_this_pairs, .int v_this_set, .int v_this_setsThatMayBe, .ref q_this_eggShares, .ref q_this_rests]))]) s.heap.size = A at hD ⊢
  have hA : ∀ q : Nat, s.heap.size ≤ q → A q := fun q h => by rw [← hAe]; exact Or.inr h
  have hS : va_S A s.heap s.heap [] := va_S.rf
  have hl := lv_entry ([.ref q_this]) (n := 1) (Nat.le_of_ble_eq_true rfl)
  rw [lg_entry_eq]
  generalize (lg_sl ([.ref q_this]) ++ List.replicate (1 - (lg_sl ([.ref q_this])).length) Slot.unset).toArray = ls at hl ⊢
  have hl : lv_has ls 1 [(0, .ref q_this)] := hl
  unfold wp_Choice_drop at h
  refine lv_aload_n hx hb d_Choice_drop_0 rfl (lv_at hl 0 rfl) ?_
  refine lv_iconst (v := 0) hx hb d_Choice_drop_1 (by decide) ?_
  refine va_put (D := (dC, dI)) (ci := 0) (v := .int 0) (ty := .int) (C := "PairChoice$Choice") (T := F_Choice) (N := 7) hx hb hts (fun w h => List.mem_cons_of_mem _ (i_Choice w h)) t_Choice t_Choice_ok n_Choice hown hK hP hD hS 0 rfl rfl 2 (by decide) (hts _ (List.mem_cons_of_mem _ kw_162)) (fun _ h9 => h9) rfl (by decide +kernel) rfl rfl (Nat.le_of_ble_eq_true rfl) d_Choice_drop_2 (fun H locs hP hD hS => ?_)
  have hP : va_P (dC, dI) vCl ([(q_this, .inr (0, [.ref q_this_herd, .ref q_this_pairing, .int 0, .int v_this_set, .int v_this_setsThatMayBe, .ref q_this_eggShares, .ref q_this_rests]))]) H := hP
  have hD : va_D A ([(q_this, .inr (0, [.ref q_this_herd, .ref q_this_pairing, .int 0, .int v_this_set, .int v_this_setsThatMayBe, .ref q_this_eggShares, .ref q_this_rests]))]) := hD
  exact W.vret hx hb hr (fun t ht hW => ⟨⟨0, rfl, h, ⟨by rw [ht]; exact hP, hD⟩⟩, hS.F ht⟩) hS.2.2 d_Choice_drop_5
set_option maxHeartbeats 4000000 in
set_option maxRecDepth 100000 in
theorem c_Choice_hasPair (l : Launch) (dC : Nat → ClassId) (dI : Nat → Nat → Nat) (cI cJ cG cZ : ClassId) (q_this q_this_eggShares q_this_herd q_this_pairing q_this_rests : Nat) (v_this_pairs : Int32) (v_this_set : Int32) (v_this_setsThatMayBe : Int32) (x1 : Int32) (post : Int32 → Prop) (h : wp_Choice_hasPair v_this_pairs x1 post) : Met l y_Choice_hasPair w_Choice_hasPair ({ frames := 0, cells := 0, slots := 0, locals := 0 } : Room) (va_Pc [.ref q_this, .int x1] (pcR dC dI cI cJ cG cZ ([(q_this, .inr (0, [.ref q_this_herd, .ref q_this_pairing, .int v_this_pairs, .int v_this_set, .int v_this_setsThatMayBe, .ref q_this_eggShares, .ref q_this_rests]))]))) (vp_Si (fun r => (r = 0 ∨ r = 1) ∧ post r)) 0 0 (fun _ => False) := by
  refine Met.ofW (cc := b_Choice_hasPair) (maxL := 2) (ret := (some .boolean)) (by decide) rfl ?_
  intro p e s m args below meth c s₁ B hml hv
  obtain ⟨rfl, hP, hK, hN⟩ := hv
  have hx := B.exec
  have hb := B.bytes
  have hr := B.returns
  have hts := atoms_spec (ws := w_Choice_hasPair) B.pre
  have hown : s.vm.findClass "PairChoice$Choice" = some m.cls := findClass_of_methodNamed B.named
  have hlocks := B.notSynchronized
  have hl := lv_entry ([.ref q_this, .int x1]) (n := 2) (Nat.le_of_ble_eq_true rfl)
  rw [lg_entry_eq]
  generalize (lg_sl ([.ref q_this, .int x1]) ++ List.replicate (2 - (lg_sl ([.ref q_this, .int x1])).length) Slot.unset).toArray = ls at hl ⊢
  have hl : lv_has ls 2 [(0, .ref q_this), (1, .int x1)] := hl
  unfold wp_Choice_hasPair at h
  refine lv_iload_n hx hb d_Choice_hasPair_0 rfl (lv_at hl 1 rfl) ?_
  refine lv_if_lt (tgt := 16) hx hb d_Choice_hasPair_1 (by decide) (fun c1 => ?_) (fun c1 => ?_)
  · have h := h.1 c1
    refine lv_iconst (v := 0) hx hb d_Choice_hasPair_16 (by decide) ?_
    exact W.zret hx hb hr (z_nar (Or.inl rfl)) (fun t ht hW => ⟨_, rfl, ⟨Or.inl rfl, h⟩, ht⟩) (fun _ h9 => by cases h9) d_Choice_hasPair_17
  · have h := h.2 c1
    refine lv_iload_n hx hb d_Choice_hasPair_4 rfl (lv_at hl 1 rfl) ?_
    refine lv_aload_n hx hb d_Choice_hasPair_5 rfl (lv_at hl 0 rfl) ?_
    refine va_get (D := (dC, dI)) (ci := 0) (v := .int v_this_pairs) (C := "PairChoice$Choice") (T := F_Choice) (N := 7) hx hb hts (fun w h => List.mem_cons_of_mem _ (i_Choice w h)) hown hK hP 0 rfl rfl 2 (by decide) (hts _ (List.mem_cons_of_mem _ kw_162)) (fun _ h9 => h9) rfl d_Choice_hasPair_6 ?_
    refine lv_icmp_ge (tgt := 16) hx hb d_Choice_hasPair_9 (by decide) (fun c2 => ?_) (fun c2 => ?_)
    · have h := h.1 c2
      refine lv_iconst (v := 0) hx hb d_Choice_hasPair_16 (by decide) ?_
      exact W.zret hx hb hr (z_nar (Or.inl rfl)) (fun t ht hW => ⟨_, rfl, ⟨Or.inl rfl, h⟩, ht⟩) (fun _ h9 => by cases h9) d_Choice_hasPair_17
    · have h := h.2 c2
      refine lv_iconst (v := 1) hx hb d_Choice_hasPair_12 (by decide) ?_
      refine lv_goto (tgt := 17) hx hb d_Choice_hasPair_13 (by decide) ?_
      exact W.zret hx hb hr (z_nar (Or.inr rfl)) (fun t ht hW => ⟨_, rfl, ⟨Or.inr rfl, h⟩, ht⟩) (fun _ h9 => by cases h9) d_Choice_hasPair_17
set_option maxHeartbeats 4000000 in
set_option maxRecDepth 100000 in
theorem c_Choice_pairWorth (l : Launch) (dC : Nat → ClassId) (dI : Nat → Nat → Nat) (cI cJ cG cZ : ClassId) (q_this q_this_eggShares q_this_herd q_this_herd_barred q_this_herd_families q_this_herd_kinships q_this_herd_leastOfFamily q_this_herd_worths q_this_pairing q_this_pairing_females q_this_pairing_males q_this_rests : Nat) (v_this_herd_count : Int32) (v_this_herd_kinLimit : Int32) (v_this_herd_males : Int32) (v_this_herd_mostOfFamily : Int32) (v_this_herd_worths : (Nat → Int32)) (v_this_pairing_females : (Nat → Int32)) (v_this_pairing_males : (Nat → Int32)) (v_this_pairs : Int32) (v_this_set : Int32) (v_this_setsThatMayBe : Int32) (x1 : Int32) (post : Int32 → Prop) (h : wp_Choice_pairWorth v_this_herd_worths v_this_pairing_females v_this_pairing_males x1 post) : Met l y_Choice_pairWorth w_Choice_pairWorth ({ frames := 0, cells := 0, slots := 0, locals := 0 } : Room) (va_Pc [.ref q_this, .int x1] (pcR dC dI cI cJ cG cZ ([(q_this, .inr (0, [.ref q_this_herd, .ref q_this_pairing, .int v_this_pairs, .int v_this_set, .int v_this_setsThatMayBe, .ref q_this_eggShares, .ref q_this_rests])), (q_this_herd, .inr (1, [.int v_this_herd_count, .int v_this_herd_males, .ref q_this_herd_worths, .ref q_this_herd_families, .ref q_this_herd_kinships, .ref q_this_herd_barred, .int v_this_herd_kinLimit, .int v_this_herd_mostOfFamily, .ref q_this_herd_leastOfFamily])), (q_this_herd_worths, .inl (cI, 12, .inl v_this_herd_worths)), (q_this_pairing, .inr (3, [.ref q_this_pairing_males, .ref q_this_pairing_females])), (q_this_pairing_females, .inl (cI, 6, .inl v_this_pairing_females)), (q_this_pairing_males, .inl (cI, 6, .inl v_this_pairing_males))]))) (vp_Si (fun r => post r)) 0 0 (fun _ => False) := by
  refine Met.ofW (cc := b_Choice_pairWorth) (maxL := 2) (ret := (some .int)) (by decide) rfl ?_
  intro p e s m args below meth c s₁ B hml hv
  obtain ⟨rfl, hP, hK, hN⟩ := hv
  have hx := B.exec
  have hb := B.bytes
  have hr := B.returns
  have hts := atoms_spec (ws := w_Choice_pairWorth) B.pre
  have hown : s.vm.findClass "PairChoice$Choice" = some m.cls := findClass_of_methodNamed B.named
  have hlocks := B.notSynchronized
  have hl := lv_entry ([.ref q_this, .int x1]) (n := 2) (Nat.le_of_ble_eq_true rfl)
  rw [lg_entry_eq]
  generalize (lg_sl ([.ref q_this, .int x1]) ++ List.replicate (2 - (lg_sl ([.ref q_this, .int x1])).length) Slot.unset).toArray = ls at hl ⊢
  have hl : lv_has ls 2 [(0, .ref q_this), (1, .int x1)] := hl
  unfold wp_Choice_pairWorth at h
  refine lv_aload_n hx hb d_Choice_pairWorth_0 rfl (lv_at hl 0 rfl) ?_
  refine va_get (D := (dC, dI)) (ci := 0) (v := .ref q_this_herd) (C := "PairChoice$Choice") (T := F_Choice) (N := 7) hx hb hts (fun w h => List.mem_cons_of_mem _ (i_Choice w h)) hown hK hP 0 rfl rfl 0 (by decide) (hts _ (List.mem_cons_of_mem _ kw_159)) (fun _ h9 => h9) rfl d_Choice_pairWorth_1 ?_
  refine va_getN (D := (dC, dI)) (ci := 1) (v := .ref q_this_herd_worths) (C := "PairChoice$Herd") (T := F_Herd) (N := 9) hx hb hts (fun w h => List.mem_cons_of_mem _ (i_Herd w h)) hown hK hP 1 rfl rfl 2 (by decide) (va_Nw.use rfl (nw_74 hN)) (fun _ h9 => h9) rfl d_Choice_pairWorth_4 ?_
  refine lv_aload_n hx hb d_Choice_pairWorth_7 rfl (lv_at hl 0 rfl) ?_
  refine va_get (D := (dC, dI)) (ci := 0) (v := .ref q_this_pairing) (C := "PairChoice$Choice") (T := F_Choice) (N := 7) hx hb hts (fun w h => List.mem_cons_of_mem _ (i_Choice w h)) hown hK hP 0 rfl rfl 1 (by decide) (hts _ (List.mem_cons_of_mem _ kw_160)) (fun _ h9 => h9) rfl d_Choice_pairWorth_8 ?_
  refine va_getN (D := (dC, dI)) (ci := 3) (v := .ref q_this_pairing_males) (C := "PairChoice$Pairing") (T := F_Pairing) (N := 2) hx hb hts (fun w h => List.mem_cons_of_mem _ (i_Pairing w h)) hown hK hP 3 rfl rfl 0 (by decide) (va_Nw.use rfl (nw_121 hN)) (fun _ h9 => h9) rfl d_Choice_pairWorth_11 ?_
  refine lv_iload_n hx hb d_Choice_pairWorth_14 rfl (lv_at hl 1 rfl) ?_
  obtain ⟨i1, h⟩ := h
  refine va_iald hx hb hK hP 5 0 rfl rfl i1 d_Choice_pairWorth_15 ?_
  obtain ⟨i2, h⟩ := h
  refine va_iald hx hb hK hP 2 0 rfl rfl i2 d_Choice_pairWorth_16 ?_
  refine lv_aload_n hx hb d_Choice_pairWorth_17 rfl (lv_at hl 0 rfl) ?_
  refine va_get (D := (dC, dI)) (ci := 0) (v := .ref q_this_herd) (C := "PairChoice$Choice") (T := F_Choice) (N := 7) hx hb hts (fun w h => List.mem_cons_of_mem _ (i_Choice w h)) hown hK hP 0 rfl rfl 0 (by decide) (hts _ (List.mem_cons_of_mem _ kw_159)) (fun _ h9 => h9) rfl d_Choice_pairWorth_18 ?_
  refine va_getN (D := (dC, dI)) (ci := 1) (v := .ref q_this_herd_worths) (C := "PairChoice$Herd") (T := F_Herd) (N := 9) hx hb hts (fun w h => List.mem_cons_of_mem _ (i_Herd w h)) hown hK hP 1 rfl rfl 2 (by decide) (va_Nw.use rfl (nw_74 hN)) (fun _ h9 => h9) rfl d_Choice_pairWorth_21 ?_
  refine lv_aload_n hx hb d_Choice_pairWorth_24 rfl (lv_at hl 0 rfl) ?_
  refine va_get (D := (dC, dI)) (ci := 0) (v := .ref q_this_pairing) (C := "PairChoice$Choice") (T := F_Choice) (N := 7) hx hb hts (fun w h => List.mem_cons_of_mem _ (i_Choice w h)) hown hK hP 0 rfl rfl 1 (by decide) (hts _ (List.mem_cons_of_mem _ kw_160)) (fun _ h9 => h9) rfl d_Choice_pairWorth_25 ?_
  refine va_getN (D := (dC, dI)) (ci := 3) (v := .ref q_this_pairing_females) (C := "PairChoice$Pairing") (T := F_Pairing) (N := 2) hx hb hts (fun w h => List.mem_cons_of_mem _ (i_Pairing w h)) hown hK hP 3 rfl rfl 1 (by decide) (va_Nw.use rfl (nw_124 hN)) (fun _ h9 => h9) rfl d_Choice_pairWorth_28 ?_
  refine lv_iload_n hx hb d_Choice_pairWorth_31 rfl (lv_at hl 1 rfl) ?_
  obtain ⟨i3, h⟩ := h
  refine va_iald hx hb hK hP 4 0 rfl rfl i3 d_Choice_pairWorth_32 ?_
  obtain ⟨i4, h⟩ := h
  refine va_iald hx hb hK hP 2 0 rfl rfl i4 d_Choice_pairWorth_33 ?_
  refine lv_iadd hx hb d_Choice_pairWorth_34 ?_
  exact W.iret hx hb hr (fun t ht hW => ⟨_, rfl, h, ht⟩) (fun _ h9 => by cases h9) d_Choice_pairWorth_35
set_option maxHeartbeats 4000000 in
set_option maxRecDepth 100000 in
theorem c_Choice_leastPairWorth (l : Launch) (dC : Nat → ClassId) (dI : Nat → Nat → Nat) (cI cJ cG cZ : ClassId) (q_this q_this_eggShares q_this_herd q_this_herd_barred q_this_herd_families q_this_herd_kinships q_this_herd_leastOfFamily q_this_herd_worths q_this_pairing q_this_pairing_females q_this_pairing_males q_this_rests : Nat) (v_this_herd_count : Int32) (v_this_herd_kinLimit : Int32) (v_this_herd_males : Int32) (v_this_herd_mostOfFamily : Int32) (v_this_herd_worths : (Nat → Int32)) (v_this_pairing_females : (Nat → Int32)) (v_this_pairing_males : (Nat → Int32)) (v_this_pairs : Int32) (v_this_set : Int32) (v_this_setsThatMayBe : Int32)  (post : Int32 → Prop) (h : wp_Choice_leastPairWorth v_this_herd_worths v_this_pairing_females v_this_pairing_males v_this_pairs post) : Met l y_Choice_leastPairWorth w_Choice_leastPairWorth ({ frames := 1, cells := 0, slots := 0, locals := 21 } : Room) (va_Pc [.ref q_this] (pcR dC dI cI cJ cG cZ ([(q_this, .inr (0, [.ref q_this_herd, .ref q_this_pairing, .int v_this_pairs, .int v_this_set, .int v_this_setsThatMayBe, .ref q_this_eggShares, .ref q_this_rests])), (q_this_herd, .inr (1, [.int v_this_herd_count, .int v_this_herd_males, .ref q_this_herd_worths, .ref q_this_herd_families, .ref q_this_herd_kinships, .ref q_this_herd_barred, .int v_this_herd_kinLimit, .int v_this_herd_mostOfFamily, .ref q_this_herd_leastOfFamily])), (q_this_herd_worths, .inl (cI, 12, .inl v_this_herd_worths)), (q_this_pairing, .inr (3, [.ref q_this_pairing_males, .ref q_this_pairing_females])), (q_this_pairing_females, .inl (cI, 6, .inl v_this_pairing_females)), (q_this_pairing_males, .inl (cI, 6, .inl v_this_pairing_males))]))) (vp_Si (fun r => post r)) 0 0 (fun _ => False) := by
  refine Met.ofW (cc := b_Choice_leastPairWorth) (maxL := 3) (ret := (some .int)) (by decide) rfl ?_
  intro p e s m args below meth c s₁ B hml hv
  obtain ⟨rfl, hP, hK, hN⟩ := hv
  have hx := B.exec
  have hb := B.bytes
  have hr := B.returns
  have hts := atoms_spec (ws := w_Choice_leastPairWorth) B.pre
  have hown : s.vm.findClass "PairChoice$Choice" = some m.cls := findClass_of_methodNamed B.named
  have hlocks := B.notSynchronized
  have hl := lv_entry ([.ref q_this]) (n := 3) (Nat.le_of_ble_eq_true rfl)
  rw [lg_entry_eq]
  generalize (lg_sl ([.ref q_this]) ++ List.replicate (3 - (lg_sl ([.ref q_this])).length) Slot.unset).toArray = ls at hl ⊢
  have hl : lv_has ls 3 [(0, .ref q_this)] := hl
  unfold wp_Choice_leastPairWorth at h
  refine lv_aload_n hx hb d_Choice_leastPairWorth_0 rfl (lv_at hl 0 rfl) ?_
  refine lv_iconst (v := 0) hx hb d_Choice_leastPairWorth_1 (by decide) ?_
  have hPc := hP.sub (ws' := [(q_this, .inr (0, [.ref q_this_herd, .ref q_this_pairing, .int v_this_pairs, .int v_this_set, .int v_this_setsThatMayBe, .ref q_this_eggShares, .ref q_this_rests])), (q_this_herd, .inr (1, [.int v_this_herd_count, .int v_this_herd_males, .ref q_this_herd_worths, .ref q_this_herd_families, .ref q_this_herd_kinships, .ref q_this_herd_barred, .int v_this_herd_kinLimit, .int v_this_herd_mostOfFamily, .ref q_this_herd_leastOfFamily])), (q_this_herd_worths, .inl (cI, 12, .inl v_this_herd_worths)), (q_this_pairing, .inr (3, [.ref q_this_pairing_males, .ref q_this_pairing_females])), (q_this_pairing_females, .inl (cI, 6, .inl v_this_pairing_females)), (q_this_pairing_males, .inl (cI, 6, .inl v_this_pairing_males))]) [0, 1, 2, 3, 4, 5] rfl
  refine vp_callSi (va_Run.run (va_runV (As := [.int 0]) (rest := []) ⟨hx, hb, hml, hown, hts⟩ (c_Choice_pairWorth l dC dI cI cJ cG cZ  q_this q_this_eggShares q_this_herd q_this_herd_barred q_this_herd_families q_this_herd_kinships q_this_herd_leastOfFamily q_this_herd_worths q_this_pairing q_this_pairing_females q_this_pairing_males q_this_rests  v_this_herd_count v_this_herd_kinLimit v_this_herd_males v_this_herd_mostOfFamily v_this_herd_worths v_this_pairing_females v_this_pairing_males v_this_pairs v_this_set v_this_setsThatMayBe (0 : Int32) _ h) (cwV 1 hts (gcV kw_382 kw_384 kw_20 kw_43 kw_385) rfl rfl rfl (by decide +kernel) ⟨Nat.le_of_ble_eq_true rfl, Nat.le_of_ble_eq_true rfl⟩) ⟨fb_r, va_recv hK hPc (ci := 0) (q0 := 0) rfl rfl, pre_r hPc hK hN⟩ rfl rfl hl.1 rfl (lv_room (Nat.le_of_ble_eq_true rfl)) d_Choice_leastPairWorth_2 ⟨Nat.zero_le _, Nat.zero_le _⟩)) (fun r1 h => ?_)
  refine lv_istore_n (lv' := [(1, .int r1), (0, .ref q_this)]) hx hb d_Choice_leastPairWorth_5 rfl hl (by decide) rfl (fun ls hl => ?_)
  refine lv_iconst (v := 1) hx hb d_Choice_leastPairWorth_6 (by decide) ?_
  refine lv_istore_n (lv' := [(2, .int 1), (1, .int r1), (0, .ref q_this)]) hx hb d_Choice_leastPairWorth_7 rfl hl (by decide) rfl (fun ls hl => ?_)
  obtain ⟨nn, h⟩ := h
  have lp8 : ∀ (n8 : Nat) (x1_8 : Int32) (x2_8 : Int32) (ls : Array Slot), wp_Choice_leastPairWorth_L8 v_this_herd_worths v_this_pairing_females v_this_pairing_males v_this_pairs post n8 x1_8 x2_8 → lv_has ls 3 [(2, .int x2_8), (1, .int x1_8), (0, .ref q_this)] → W p l e (headSpec w_Choice_leastPairWorth ({ frames := 1, cells := 0, slots := 0, locals := 21 } : Room)).room s m ([.ref q_this] : List Value).toArray below meth c s.heap [] 0 0 (MQ below (vp_Si (fun r => post r)) ([.ref q_this] : List Value).toArray s 0 0 (fun _ => False)) (F0 m 8 ls []) := by
    intro n8
    induction n8 with
    | zero =>
      intro x1_8 x2_8 ls h
      rw [wp_Choice_leastPairWorth_L8] at h
      exact h.elim
    | succ n8 ih8 =>
      intro x1_8 x2_8 ls h hl
      rw [wp_Choice_leastPairWorth_L8] at h
      refine lv_iload_n hx hb d_Choice_leastPairWorth_8 rfl (lv_at hl 0 rfl) ?_
      refine lv_aload_n hx hb d_Choice_leastPairWorth_9 rfl (lv_at hl 2 rfl) ?_
      refine va_get (D := (dC, dI)) (ci := 0) (v := .int v_this_pairs) (C := "PairChoice$Choice") (T := F_Choice) (N := 7) hx hb hts (fun w h => List.mem_cons_of_mem _ (i_Choice w h)) hown hK hP 0 rfl rfl 2 (by decide) (hts _ (List.mem_cons_of_mem _ kw_162)) (fun _ h9 => h9) rfl d_Choice_leastPairWorth_10 ?_
      refine lv_icmp_ge (tgt := 32) hx hb d_Choice_leastPairWorth_13 (by decide) (fun c2 => ?_) (fun c2 => ?_)
      · have h := h.1 c2
        refine lv_iload_n hx hb d_Choice_leastPairWorth_32 rfl (lv_at hl 1 rfl) ?_
        exact W.iret hx hb hr (fun t ht hW => ⟨_, rfl, h, ht⟩) (fun _ h9 => by cases h9) d_Choice_leastPairWorth_33
      · have h := h.2 c2
        refine lv_iload_n hx hb d_Choice_leastPairWorth_16 rfl (lv_at hl 1 rfl) ?_
        refine lv_aload_n hx hb d_Choice_leastPairWorth_17 rfl (lv_at hl 2 rfl) ?_
        refine lv_iload_n hx hb d_Choice_leastPairWorth_18 rfl (lv_at hl 0 rfl) ?_
        have hPc := hP.sub (ws' := [(q_this, .inr (0, [.ref q_this_herd, .ref q_this_pairing, .int v_this_pairs, .int v_this_set, .int v_this_setsThatMayBe, .ref q_this_eggShares, .ref q_this_rests])), (q_this_herd, .inr (1, [.int v_this_herd_count, .int v_this_herd_males, .ref q_this_herd_worths, .ref q_this_herd_families, .ref q_this_herd_kinships, .ref q_this_herd_barred, .int v_this_herd_kinLimit, .int v_this_herd_mostOfFamily, .ref q_this_herd_leastOfFamily])), (q_this_herd_worths, .inl (cI, 12, .inl v_this_herd_worths)), (q_this_pairing, .inr (3, [.ref q_this_pairing_males, .ref q_this_pairing_females])), (q_this_pairing_females, .inl (cI, 6, .inl v_this_pairing_females)), (q_this_pairing_males, .inl (cI, 6, .inl v_this_pairing_males))]) [0, 1, 2, 3, 4, 5] rfl
        refine vp_callSi (va_Run.run (va_runV (As := [.int x2_8]) (rest := [.int x1_8]) ⟨hx, hb, hml, hown, hts⟩ (c_Choice_pairWorth l dC dI cI cJ cG cZ  q_this q_this_eggShares q_this_herd q_this_herd_barred q_this_herd_families q_this_herd_kinships q_this_herd_leastOfFamily q_this_herd_worths q_this_pairing q_this_pairing_females q_this_pairing_males q_this_rests  v_this_herd_count v_this_herd_kinLimit v_this_herd_males v_this_herd_mostOfFamily v_this_herd_worths v_this_pairing_females v_this_pairing_males v_this_pairs v_this_set v_this_setsThatMayBe (x2_8 : Int32) _ h) (cwV 1 hts (gcV kw_382 kw_384 kw_20 kw_43 kw_385) rfl rfl rfl (by decide +kernel) ⟨Nat.le_of_ble_eq_true rfl, Nat.le_of_ble_eq_true rfl⟩) ⟨fb_r, va_recv hK hPc (ci := 0) (q0 := 0) rfl rfl, pre_r hPc hK hN⟩ rfl rfl hl.1 rfl (lv_room (Nat.le_of_ble_eq_true rfl)) d_Choice_leastPairWorth_19 ⟨Nat.zero_le _, Nat.zero_le _⟩)) (fun r3 h => ?_)
        refine va_mmin hx hb (by rw [hml]; exact hl.1.symm) hown (hts _ (List.mem_cons_of_mem _ kw_386)) (hts _ (List.mem_cons_of_mem _ kw_387)) (hts _ (List.mem_cons_of_mem _ kw_47)) (hts _ (List.mem_cons_of_mem _ kw_388)) (Nat.le_of_ble_eq_true rfl) (Nat.le_of_ble_eq_true rfl) (Nat.zero_le _) (Nat.zero_le _) d_Choice_leastPairWorth_22 ?_
        refine lv_istore_n (lv' := [(1, .int (if r3 < x1_8 then r3 else x1_8)), (2, .int x2_8), (0, .ref q_this)]) hx hb d_Choice_leastPairWorth_25 rfl hl (by decide) rfl (fun ls hl => ?_)
        refine lv_iinc (v := (x2_8 + 1)) (lv' := [(2, .int (x2_8 + 1)), (1, .int (if r3 < x1_8 then r3 else x1_8)), (0, .ref q_this)]) hx hb d_Choice_leastPairWorth_26 hl (k := 1) rfl rfl (by decide) rfl (fun ls hl => ?_)
        refine lv_goto (tgt := 8) hx hb d_Choice_leastPairWorth_29 (by decide) ?_
        exact ih8 (if r3 < x1_8 then r3 else x1_8) (x2_8 + 1) ls h (lv_sub hl [0, 1, 2] rfl)
  exact lp8 nn r1 (1) ls h hl
set_option maxHeartbeats 4000000 in
set_option maxRecDepth 100000 in
theorem c_Choice_greatestRest (l : Launch) (dC : Nat → ClassId) (dI : Nat → Nat → Nat) (cI cJ cG cZ : ClassId) (q_this q_this_eggShares q_this_herd q_this_pairing q_this_rests : Nat) (v_this_pairs : Int32) (v_this_rests : (Nat → Int64)) (v_this_set : Int32) (v_this_setsThatMayBe : Int32)  (post : Int32 → Prop) (h : wp_Choice_greatestRest v_this_pairs v_this_rests post) : Met l y_Choice_greatestRest w_Choice_greatestRest ({ frames := 0, cells := 0, slots := 0, locals := 0 } : Room) (va_Pc [.ref q_this] (pcR dC dI cI cJ cG cZ ([(q_this, .inr (0, [.ref q_this_herd, .ref q_this_pairing, .int v_this_pairs, .int v_this_set, .int v_this_setsThatMayBe, .ref q_this_eggShares, .ref q_this_rests])), (q_this_rests, .inl (cJ, 6, .inr (.inl v_this_rests)))]))) (vp_Si (fun r => post r)) 0 0 (fun _ => False) := by
  refine Met.ofW (cc := b_Choice_greatestRest) (maxL := 3) (ret := (some .int)) (by decide) rfl ?_
  intro p e s m args below meth c s₁ B hml hv
  obtain ⟨rfl, hP, hK, hN⟩ := hv
  have hx := B.exec
  have hb := B.bytes
  have hr := B.returns
  have hts := atoms_spec (ws := w_Choice_greatestRest) B.pre
  have hown : s.vm.findClass "PairChoice$Choice" = some m.cls := findClass_of_methodNamed B.named
  have hlocks := B.notSynchronized
  have hl := lv_entry ([.ref q_this]) (n := 3) (Nat.le_of_ble_eq_true rfl)
  rw [lg_entry_eq]
  generalize (lg_sl ([.ref q_this]) ++ List.replicate (3 - (lg_sl ([.ref q_this])).length) Slot.unset).toArray = ls at hl ⊢
  have hl : lv_has ls 3 [(0, .ref q_this)] := hl
  unfold wp_Choice_greatestRest at h
  refine lv_iconst (v := 0) hx hb d_Choice_greatestRest_0 (by decide) ?_
  refine lv_istore_n (lv' := [(1, .int 0), (0, .ref q_this)]) hx hb d_Choice_greatestRest_1 rfl hl (by decide) rfl (fun ls hl => ?_)
  refine lv_iconst (v := 1) hx hb d_Choice_greatestRest_2 (by decide) ?_
  refine lv_istore_n (lv' := [(2, .int 1), (1, .int 0), (0, .ref q_this)]) hx hb d_Choice_greatestRest_3 rfl hl (by decide) rfl (fun ls hl => ?_)
  obtain ⟨nn, h⟩ := h
  have lp4 : ∀ (n4 : Nat) (x1_4 : Int32) (x2_4 : Int32) (ls : Array Slot), wp_Choice_greatestRest_L4 v_this_pairs v_this_rests post n4 x1_4 x2_4 → lv_has ls 3 [(2, .int x2_4), (1, .int x1_4), (0, .ref q_this)] → W p l e (headSpec w_Choice_greatestRest ({ frames := 0, cells := 0, slots := 0, locals := 0 } : Room)).room s m ([.ref q_this] : List Value).toArray below meth c s.heap [] 0 0 (MQ below (vp_Si (fun r => post r)) ([.ref q_this] : List Value).toArray s 0 0 (fun _ => False)) (F0 m 4 ls []) := by
    intro n4
    induction n4 with
    | zero =>
      intro x1_4 x2_4 ls h
      rw [wp_Choice_greatestRest_L4] at h
      exact h.elim
    | succ n4 ih4 =>
      intro x1_4 x2_4 ls h hl
      rw [wp_Choice_greatestRest_L4] at h
      refine lv_iload_n hx hb d_Choice_greatestRest_4 rfl (lv_at hl 0 rfl) ?_
      refine lv_aload_n hx hb d_Choice_greatestRest_5 rfl (lv_at hl 2 rfl) ?_
      refine va_get (D := (dC, dI)) (ci := 0) (v := .int v_this_pairs) (C := "PairChoice$Choice") (T := F_Choice) (N := 7) hx hb hts (fun w h => List.mem_cons_of_mem _ (i_Choice w h)) hown hK hP 0 rfl rfl 2 (by decide) (hts _ (List.mem_cons_of_mem _ kw_162)) (fun _ h9 => h9) rfl d_Choice_greatestRest_6 ?_
      refine lv_icmp_ge (tgt := 36) hx hb d_Choice_greatestRest_9 (by decide) (fun c1 => ?_) (fun c1 => ?_)
      · have h := h.1 c1
        refine lv_iload_n hx hb d_Choice_greatestRest_36 rfl (lv_at hl 1 rfl) ?_
        exact W.iret hx hb hr (fun t ht hW => ⟨_, rfl, h, ht⟩) (fun _ h9 => by cases h9) d_Choice_greatestRest_37
      · have h := h.2 c1
        refine lv_aload_n hx hb d_Choice_greatestRest_12 rfl (lv_at hl 2 rfl) ?_
        refine va_get (D := (dC, dI)) (ci := 0) (v := .ref q_this_rests) (C := "PairChoice$Choice") (T := F_Choice) (N := 7) hx hb hts (fun w h => List.mem_cons_of_mem _ (i_Choice w h)) hown hK hP 0 rfl rfl 6 (by decide) (hts _ (List.mem_cons_of_mem _ kw_170)) (fun _ h9 => h9) rfl d_Choice_greatestRest_13 ?_
        refine lv_iload_n hx hb d_Choice_greatestRest_16 rfl (lv_at hl 0 rfl) ?_
        obtain ⟨i2, h⟩ := h
        refine va_lald hx hb hK hP 1 1 rfl rfl i2 d_Choice_greatestRest_17 ?_
        refine lv_aload_n hx hb d_Choice_greatestRest_18 rfl (lv_at hl 2 rfl) ?_
        refine va_get (D := (dC, dI)) (ci := 0) (v := .ref q_this_rests) (C := "PairChoice$Choice") (T := F_Choice) (N := 7) hx hb hts (fun w h => List.mem_cons_of_mem _ (i_Choice w h)) hown hK hP 0 rfl rfl 6 (by decide) (hts _ (List.mem_cons_of_mem _ kw_170)) (fun _ h9 => h9) rfl d_Choice_greatestRest_19 ?_
        refine lv_iload_n hx hb d_Choice_greatestRest_22 rfl (lv_at hl 1 rfl) ?_
        obtain ⟨i3, h⟩ := h
        refine va_lald hx hb hK hP 1 1 rfl rfl i3 d_Choice_greatestRest_23 ?_
        refine W.lcmp hx hb d_Choice_greatestRest_24 ?_
        refine lv_if_le (tgt := 30) hx hb d_Choice_greatestRest_25 (by decide) (fun c4 => ?_) (fun c4 => ?_)
        · have h := h.1 c4
          refine lv_iinc (v := (x2_4 + 1)) (lv' := [(2, .int (x2_4 + 1)), (1, .int x1_4), (0, .ref q_this)]) hx hb d_Choice_greatestRest_30 hl (k := 0) rfl rfl (by decide) rfl (fun ls hl => ?_)
          refine lv_goto (tgt := 4) hx hb d_Choice_greatestRest_33 (by decide) ?_
          exact ih4 x1_4 (x2_4 + 1) ls h (lv_sub hl [0, 1, 2] rfl)
        · have h := h.2 c4
          refine lv_iload_n hx hb d_Choice_greatestRest_28 rfl (lv_at hl 0 rfl) ?_
          refine lv_istore_n (lv' := [(1, .int x2_4), (2, .int x2_4), (0, .ref q_this)]) hx hb d_Choice_greatestRest_29 rfl hl (by decide) rfl (fun ls hl => ?_)
          refine lv_iinc (v := (x2_4 + 1)) (lv' := [(2, .int (x2_4 + 1)), (1, .int x2_4), (0, .ref q_this)]) hx hb d_Choice_greatestRest_30 hl (k := 1) rfl rfl (by decide) rfl (fun ls hl => ?_)
          refine lv_goto (tgt := 4) hx hb d_Choice_greatestRest_33 (by decide) ?_
          exact ih4 x2_4 (x2_4 + 1) ls h (lv_sub hl [0, 1, 2] rfl)
  exact lp4 nn (0) (1) ls h hl
set_option maxHeartbeats 4000000 in
set_option maxRecDepth 100000 in
theorem c_Herd_knows (l : Launch) (dC : Nat → ClassId) (dI : Nat → Nat → Nat) (cI cJ cG cZ : ClassId) (q_this q_this_barred q_this_families q_this_kinships q_this_leastOfFamily q_this_worths : Nat) (v_this_count : Int32) (v_this_kinLimit : Int32) (v_this_males : Int32) (v_this_mostOfFamily : Int32) (x1 : Int32) (post : Int32 → Prop) (h : wp_Herd_knows v_this_count x1 post) : Met l y_Herd_knows w_Herd_knows ({ frames := 0, cells := 0, slots := 0, locals := 0 } : Room) (va_Pc [.ref q_this, .int x1] (pcR dC dI cI cJ cG cZ ([(q_this, .inr (1, [.int v_this_count, .int v_this_males, .ref q_this_worths, .ref q_this_families, .ref q_this_kinships, .ref q_this_barred, .int v_this_kinLimit, .int v_this_mostOfFamily, .ref q_this_leastOfFamily]))]))) (vp_Si (fun r => (r = 0 ∨ r = 1) ∧ post r)) 0 0 (fun _ => False) := by
  refine Met.ofW (cc := b_Herd_knows) (maxL := 2) (ret := (some .boolean)) (by decide) rfl ?_
  intro p e s m args below meth c s₁ B hml hv
  obtain ⟨rfl, hP, hK, hN⟩ := hv
  have hx := B.exec
  have hb := B.bytes
  have hr := B.returns
  have hts := atoms_spec (ws := w_Herd_knows) B.pre
  have hown : s.vm.findClass "PairChoice$Herd" = some m.cls := findClass_of_methodNamed B.named
  have hlocks := B.notSynchronized
  have hl := lv_entry ([.ref q_this, .int x1]) (n := 2) (Nat.le_of_ble_eq_true rfl)
  rw [lg_entry_eq]
  generalize (lg_sl ([.ref q_this, .int x1]) ++ List.replicate (2 - (lg_sl ([.ref q_this, .int x1])).length) Slot.unset).toArray = ls at hl ⊢
  have hl : lv_has ls 2 [(0, .ref q_this), (1, .int x1)] := hl
  unfold wp_Herd_knows at h
  refine lv_iload_n hx hb d_Herd_knows_0 rfl (lv_at hl 1 rfl) ?_
  refine lv_if_lt (tgt := 16) hx hb d_Herd_knows_1 (by decide) (fun c1 => ?_) (fun c1 => ?_)
  · have h := h.1 c1
    refine lv_iconst (v := 0) hx hb d_Herd_knows_16 (by decide) ?_
    exact W.zret hx hb hr (z_nar (Or.inl rfl)) (fun t ht hW => ⟨_, rfl, ⟨Or.inl rfl, h⟩, ht⟩) (fun _ h9 => by cases h9) d_Herd_knows_17
  · have h := h.2 c1
    refine lv_iload_n hx hb d_Herd_knows_4 rfl (lv_at hl 1 rfl) ?_
    refine lv_aload_n hx hb d_Herd_knows_5 rfl (lv_at hl 0 rfl) ?_
    refine va_get (D := (dC, dI)) (ci := 1) (v := .int v_this_count) (C := "PairChoice$Herd") (T := F_Herd) (N := 9) hx hb hts (fun w h => List.mem_cons_of_mem _ (i_Herd w h)) hown hK hP 0 rfl rfl 0 (by decide) (hts _ (List.mem_cons_of_mem _ kw_64)) (fun _ h9 => h9) rfl d_Herd_knows_6 ?_
    refine lv_icmp_ge (tgt := 16) hx hb d_Herd_knows_9 (by decide) (fun c2 => ?_) (fun c2 => ?_)
    · have h := h.1 c2
      refine lv_iconst (v := 0) hx hb d_Herd_knows_16 (by decide) ?_
      exact W.zret hx hb hr (z_nar (Or.inl rfl)) (fun t ht hW => ⟨_, rfl, ⟨Or.inl rfl, h⟩, ht⟩) (fun _ h9 => by cases h9) d_Herd_knows_17
    · have h := h.2 c2
      refine lv_iconst (v := 1) hx hb d_Herd_knows_12 (by decide) ?_
      refine lv_goto (tgt := 17) hx hb d_Herd_knows_13 (by decide) ?_
      exact W.zret hx hb hr (z_nar (Or.inr rfl)) (fun t ht hW => ⟨_, rfl, ⟨Or.inr rfl, h⟩, ht⟩) (fun _ h9 => by cases h9) d_Herd_knows_17
def at_Outlook_note (dC : Nat → ClassId) (dI : Nat → Nat → Nat) (cI cJ cG cZ : ClassId) (q_this q_this_alive q_this_bestSums : Nat) (A : Nat → Prop) (v_this_years : Int32) (u : (Nat → Int32) × (Nat → Int32)) (t : State) : Prop := va_P (dC, dI) vCl ([(q_this, .inr (2, [.int v_this_years, .ref q_this_alive, .ref q_this_bestSums])), (q_this_alive, .inl (cI, 20, .inl u.1)), (q_this_bestSums, .inl (cI, 20, .inl u.2))]) t.heap ∧ va_D A ([(q_this, .inr (2, [.int v_this_years, .ref q_this_alive, .ref q_this_bestSums])), (q_this_alive, .inl (cI, 20, .inl u.1)), (q_this_bestSums, .inl (cI, 20, .inl u.2))])
set_option maxHeartbeats 4000000 in
set_option maxRecDepth 100000 in
theorem c_Outlook_note (l : Launch) (dC : Nat → ClassId) (dI : Nat → Nat → Nat) (cI cJ cG cZ : ClassId) (q_this q_this_alive q_this_bestSums : Nat) (sz : Nat) (v_this_alive : (Nat → Int32)) (v_this_bestSums : (Nat → Int32)) (v_this_years : Int32) (x1 : Int32) (x2 : Int32) (x3 : Int32) (post : (Nat → Int32) → (Nat → Int32) → Prop) (h : wp_Outlook_note v_this_alive v_this_bestSums x1 x2 x3 post) : Met l y_Outlook_note w_Outlook_note ({ frames := 0, cells := 0, slots := 0, locals := 0 } : Room) (va_Pc [.ref q_this, .int x1, .int x2, .int x3] (pcW dC dI cI cJ cG cZ sz ([(q_this, .inr (2, [.int v_this_years, .ref q_this_alive, .ref q_this_bestSums])), (q_this_alive, .inl (cI, 20, .inl v_this_alive)), (q_this_bestSums, .inl (cI, 20, .inl v_this_bestSums))]))) (va_Qv (fun (u : (Nat → Int32) × (Nat → Int32)) => post u.1 u.2) (fun (u : (Nat → Int32) × (Nat → Int32)) (t : State) => at_Outlook_note dC dI cI cJ cG cZ q_this q_this_alive q_this_bestSums (va_A ([(q_this, .inr (2, [.int v_this_years, .ref q_this_alive, .ref q_this_bestSums])), (q_this_alive, .inl (cI, 20, .inl v_this_alive)), (q_this_bestSums, .inl (cI, 20, .inl v_this_bestSums))]) sz) v_this_years u t) (va_A ([(q_this, .inr (2, [.int v_this_years, .ref q_this_alive, .ref q_this_bestSums])), (q_this_alive, .inl (cI, 20, .inl v_this_alive)), (q_this_bestSums, .inl (cI, 20, .inl v_this_bestSums))]) sz)) 0 0 (va_A ([(q_this, .inr (2, [.int v_this_years, .ref q_this_alive, .ref q_this_bestSums])), (q_this_alive, .inl (cI, 20, .inl v_this_alive)), (q_this_bestSums, .inl (cI, 20, .inl v_this_bestSums))]) sz) := by
  refine Met.ofW (cc := b_Outlook_note) (maxL := 4) (ret := none) (by decide) rfl ?_
  intro p e s m args below meth c s₁ B hml hv
  obtain ⟨rfl, hsz, hP, hK, hN, hD0⟩ := hv
  have hx := B.exec
  have hb := B.bytes
  have hr := B.returns
  have hts := atoms_spec (ws := w_Outlook_note) B.pre
  have hown : s.vm.findClass "PairChoice$Outlook" = some m.cls := findClass_of_methodNamed B.named
  have hlocks := B.notSynchronized
  subst hsz
  have hD := hD0.self (sz := s.heap.size)
  generalize hAe : va_A ([(q_this, .inr (2, [.int v_this_years, .ref q_this_alive, .ref q_this_bestSums])), (q_this_alive, .inl (cI, 20, .inl v_this_alive)), (q_this_bestSums, .inl (cI, 20, .inl v_this_bestSums))]) s.heap.size = A at hD ⊢
  have hA : ∀ q : Nat, s.heap.size ≤ q → A q := fun q h => by rw [← hAe]; exact Or.inr h
  have hS : va_S A s.heap s.heap [] := va_S.rf
  have hl := lv_entry ([.ref q_this, .int x1, .int x2, .int x3]) (n := 4) (Nat.le_of_ble_eq_true rfl)
  rw [lg_entry_eq]
  generalize (lg_sl ([.ref q_this, .int x1, .int x2, .int x3]) ++ List.replicate (4 - (lg_sl ([.ref q_this, .int x1, .int x2, .int x3])).length) Slot.unset).toArray = ls at hl ⊢
  have hl : lv_has ls 4 [(0, .ref q_this), (1, .int x1), (2, .int x2), (3, .int x3)] := hl
  unfold wp_Outlook_note at h
  refine lv_aload_n hx hb d_Outlook_note_0 rfl (lv_at hl 0 rfl) ?_
  refine va_get (D := (dC, dI)) (ci := 2) (v := .ref q_this_alive) (C := "PairChoice$Outlook") (T := F_Outlook) (N := 3) hx hb hts (fun w h => List.mem_cons_of_mem _ (i_Outlook w h)) hown hK hP 0 rfl rfl 1 (by decide) (hts _ (List.mem_cons_of_mem _ kw_195)) (fun _ h9 => h9) rfl d_Outlook_note_1 ?_
  refine lv_iload_n hx hb d_Outlook_note_4 rfl (lv_at hl 1 rfl) ?_
  refine lv_iload_n hx hb d_Outlook_note_5 rfl (lv_at hl 2 rfl) ?_
  obtain ⟨i1, h⟩ := h
  refine va_iast hx hb hK hP hD hS 1 0 rfl rfl i1 d_Outlook_note_6 (fun H locs hP hD hS => ?_)
  have hP : va_P (dC, dI) vCl ([(q_this, .inr (2, [.int v_this_years, .ref q_this_alive, .ref q_this_bestSums])), (q_this_alive, .inl (cI, 20, .inl (upd v_this_alive x1.toNatClampNeg x2))), (q_this_bestSums, .inl (cI, 20, .inl v_this_bestSums))]) H := hP
  have hD : va_D A ([(q_this, .inr (2, [.int v_this_years, .ref q_this_alive, .ref q_this_bestSums])), (q_this_alive, .inl (cI, 20, .inl (upd v_this_alive x1.toNatClampNeg x2))), (q_this_bestSums, .inl (cI, 20, .inl v_this_bestSums))]) := hD
  refine lv_aload_n hx hb d_Outlook_note_7 rfl (lv_at hl 0 rfl) ?_
  refine va_get (D := (dC, dI)) (ci := 2) (v := .ref q_this_bestSums) (C := "PairChoice$Outlook") (T := F_Outlook) (N := 3) hx hb hts (fun w h => List.mem_cons_of_mem _ (i_Outlook w h)) hown hK hP 0 rfl rfl 2 (by decide) (hts _ (List.mem_cons_of_mem _ kw_197)) (fun _ h9 => h9) rfl d_Outlook_note_8 ?_
  refine lv_iload_n hx hb d_Outlook_note_11 rfl (lv_at hl 1 rfl) ?_
  refine lv_iload_n hx hb d_Outlook_note_12 rfl (lv_at hl 3 rfl) ?_
  obtain ⟨i2, h⟩ := h
  refine va_iast hx hb hK hP hD hS 2 0 rfl rfl i2 d_Outlook_note_13 (fun H locs hP hD hS => ?_)
  have hP : va_P (dC, dI) vCl ([(q_this, .inr (2, [.int v_this_years, .ref q_this_alive, .ref q_this_bestSums])), (q_this_alive, .inl (cI, 20, .inl (upd v_this_alive x1.toNatClampNeg x2))), (q_this_bestSums, .inl (cI, 20, .inl (upd v_this_bestSums x1.toNatClampNeg x3)))]) H := hP
  have hD : va_D A ([(q_this, .inr (2, [.int v_this_years, .ref q_this_alive, .ref q_this_bestSums])), (q_this_alive, .inl (cI, 20, .inl (upd v_this_alive x1.toNatClampNeg x2))), (q_this_bestSums, .inl (cI, 20, .inl (upd v_this_bestSums x1.toNatClampNeg x3)))]) := hD
  exact W.vret hx hb hr (fun t ht hW => ⟨⟨((upd v_this_alive x1.toNatClampNeg x2), (upd v_this_bestSums x1.toNatClampNeg x3)), rfl, h, ⟨by rw [ht]; exact hP, hD⟩⟩, hS.F ht⟩) hS.2.2 d_Outlook_note_14
def at_SetList_forget (dC : Nat → ClassId) (dI : Nat → Nat → Nat) (cI cJ cG cZ : ClassId) (q_this q_this_herd q_this_listed q_this_sums q_this_trial : Nat) (A : Nat → Prop) (v_this_size : Int32) (u : Int32) (t : State) : Prop := va_P (dC, dI) vCl ([(q_this, .inr (4, [.ref q_this_herd, .ref q_this_trial, .ref q_this_listed, .ref q_this_sums, .int v_this_size, .int u]))]) t.heap ∧ va_D A ([(q_this, .inr (4, [.ref q_this_herd, .ref q_this_trial, .ref q_this_listed, .ref q_this_sums, .int v_this_size, .int u]))])
set_option maxHeartbeats 4000000 in
set_option maxRecDepth 100000 in
theorem c_SetList_forget (l : Launch) (dC : Nat → ClassId) (dI : Nat → Nat → Nat) (cI cJ cG cZ : ClassId) (q_this q_this_herd q_this_listed q_this_sums q_this_trial : Nat) (sz : Nat) (v_this_pairs : Int32) (v_this_size : Int32)  (post : Int32 → Prop) (h : wp_SetList_forget v_this_pairs post) : Met l y_SetList_forget w_SetList_forget ({ frames := 0, cells := 0, slots := 0, locals := 0 } : Room) (va_Pc [.ref q_this] (pcW dC dI cI cJ cG cZ sz ([(q_this, .inr (4, [.ref q_this_herd, .ref q_this_trial, .ref q_this_listed, .ref q_this_sums, .int v_this_size, .int v_this_pairs]))]))) (va_Qv (fun (u : Int32) => post u) (fun (u : Int32) (t : State) => at_SetList_forget dC dI cI cJ cG cZ q_this q_this_herd q_this_listed q_this_sums q_this_trial (va_A ([(q_this, .inr (4, [.ref q_this_herd, .ref q_this_trial, .ref q_this_listed, .ref q_this_sums, .int v_this_size, .int v_this_pairs]))]) sz) v_this_size u t) (va_A ([(q_this, .inr (4, [.ref q_this_herd, .ref q_this_trial, .ref q_this_listed, .ref q_this_sums, .int v_this_size, .int v_this_pairs]))]) sz)) 0 0 (va_A ([(q_this, .inr (4, [.ref q_this_herd, .ref q_this_trial, .ref q_this_listed, .ref q_this_sums, .int v_this_size, .int v_this_pairs]))]) sz) := by
  refine Met.ofW (cc := b_SetList_forget) (maxL := 1) (ret := none) (by decide) rfl ?_
  intro p e s m args below meth c s₁ B hml hv
  obtain ⟨rfl, hsz, hP, hK, hN, hD0⟩ := hv
  have hx := B.exec
  have hb := B.bytes
  have hr := B.returns
  have hts := atoms_spec (ws := w_SetList_forget) B.pre
  have hown : s.vm.findClass "PairChoice$SetList" = some m.cls := findClass_of_methodNamed B.named
  have hlocks := B.notSynchronized
  subst hsz
  have hD := hD0.self (sz := s.heap.size)
  generalize hAe : va_A ([(q_this, .inr (4, [.ref q_this_herd, .ref q_this_trial, .ref q_this_listed, .ref q_this_sums, .int v_this_size, .int v_this_pairs]))]) s.heap.size = A at hD ⊢
  have hA : ∀ q : Nat, s.heap.size ≤ q → A q := fun q h => by rw [← hAe]; exact Or.inr h
  have hS : va_S A s.heap s.heap [] := va_S.rf
  have hl := lv_entry ([.ref q_this]) (n := 1) (Nat.le_of_ble_eq_true rfl)
  rw [lg_entry_eq]
  generalize (lg_sl ([.ref q_this]) ++ List.replicate (1 - (lg_sl ([.ref q_this])).length) Slot.unset).toArray = ls at hl ⊢
  have hl : lv_has ls 1 [(0, .ref q_this)] := hl
  unfold wp_SetList_forget at h
  refine lv_aload_n hx hb d_SetList_forget_0 rfl (lv_at hl 0 rfl) ?_
  refine lv_iconst (v := 0) hx hb d_SetList_forget_1 (by decide) ?_
  refine va_put (D := (dC, dI)) (ci := 4) (v := .int 0) (ty := .int) (C := "PairChoice$SetList") (T := F_SetList) (N := 6) hx hb hts (fun w h => List.mem_cons_of_mem _ (i_SetList w h)) t_SetList t_SetList_ok n_SetList hown hK hP hD hS 0 rfl rfl 5 (by decide) (hts _ (List.mem_cons_of_mem _ kw_137)) (fun _ h9 => h9) rfl (by decide +kernel) rfl rfl (Nat.le_of_ble_eq_true rfl) d_SetList_forget_2 (fun H locs hP hD hS => ?_)
  have hP : va_P (dC, dI) vCl ([(q_this, .inr (4, [.ref q_this_herd, .ref q_this_trial, .ref q_this_listed, .ref q_this_sums, .int v_this_size, .int 0]))]) H := hP
  have hD : va_D A ([(q_this, .inr (4, [.ref q_this_herd, .ref q_this_trial, .ref q_this_listed, .ref q_this_sums, .int v_this_size, .int 0]))]) := hD
  exact W.vret hx hb hr (fun t ht hW => ⟨⟨0, rfl, h, ⟨by rw [ht]; exact hP, hD⟩⟩, hS.F ht⟩) hS.2.2 d_SetList_forget_5
set_option maxHeartbeats 4000000 in
set_option maxRecDepth 100000 in
theorem c_SetList_goesBefore (l : Launch) (dC : Nat → ClassId) (dI : Nat → Nat → Nat) (cI cJ cG cZ : ClassId)  (x0 : Int32) (x1 : Int32) (post : Int32 → Prop) (h : wp_SetList_goesBefore x0 x1 post) : Met l y_SetList_goesBefore w_SetList_goesBefore ({ frames := 0, cells := 0, slots := 0, locals := 0 } : Room) (va_Pc [.int x0, .int x1] (pcS dC dI cI cJ cG cZ)) (vp_Si (fun r => (r = 0 ∨ r = 1) ∧ post r)) 0 0 (fun _ => False) := by
  refine Met.ofW (cc := b_SetList_goesBefore) (maxL := 3) (ret := (some .boolean)) (by decide) rfl ?_
  intro p e s m args below meth c s₁ B hml hv
  obtain ⟨rfl, hK, hN⟩ := hv
  have hx := B.exec
  have hb := B.bytes
  have hr := B.returns
  have hts := atoms_spec (ws := w_SetList_goesBefore) B.pre
  have hown : s.vm.findClass "PairChoice$SetList" = some m.cls := findClass_of_methodNamed B.named
  have hlocks := B.notSynchronized
  have hl := lv_entry ([.int x0, .int x1]) (n := 3) (Nat.le_of_ble_eq_true rfl)
  rw [lg_entry_eq]
  generalize (lg_sl ([.int x0, .int x1]) ++ List.replicate (3 - (lg_sl ([.int x0, .int x1])).length) Slot.unset).toArray = ls at hl ⊢
  have hl : lv_has ls 3 [(0, .int x0), (1, .int x1)] := hl
  unfold wp_SetList_goesBefore at h
  refine lv_iload_n hx hb d_SetList_goesBefore_0 rfl (lv_at hl 0 rfl) ?_
  refine lv_iload_n hx hb d_SetList_goesBefore_1 rfl (lv_at hl 1 rfl) ?_
  refine lv_ixor hx hb d_SetList_goesBefore_2 ?_
  refine lv_istore_n (lv' := [(2, .int (x0 ^^^ x1)), (0, .int x0), (1, .int x1)]) hx hb d_SetList_goesBefore_3 rfl hl (by decide) rfl (fun ls hl => ?_)
  refine lv_iload_n hx hb d_SetList_goesBefore_4 rfl (lv_at hl 1 rfl) ?_
  refine lv_iload_n hx hb d_SetList_goesBefore_5 rfl (lv_at hl 0 rfl) ?_
  refine lv_iand hx hb d_SetList_goesBefore_6 ?_
  refine lv_iload_n hx hb d_SetList_goesBefore_7 rfl (lv_at hl 0 rfl) ?_
  refine lv_ineg hx hb d_SetList_goesBefore_8 ?_
  refine lv_iand hx hb d_SetList_goesBefore_9 ?_
  refine lv_if_eq (tgt := 17) hx hb d_SetList_goesBefore_10 (by decide) (fun c1 => ?_) (fun c1 => ?_)
  · have h := h.1 c1
    refine lv_iconst (v := 0) hx hb d_SetList_goesBefore_17 (by decide) ?_
    exact W.zret hx hb hr (z_nar (Or.inl rfl)) (fun t ht hW => ⟨_, rfl, ⟨Or.inl rfl, h⟩, ht⟩) (fun _ h9 => by cases h9) d_SetList_goesBefore_18
  · have h := h.2 c1
    refine lv_iconst (v := 1) hx hb d_SetList_goesBefore_13 (by decide) ?_
    refine lv_goto (tgt := 18) hx hb d_SetList_goesBefore_14 (by decide) ?_
    exact W.zret hx hb hr (z_nar (Or.inr rfl)) (fun t ht hW => ⟨_, rfl, ⟨Or.inr rfl, h⟩, ht⟩) (fun _ h9 => by cases h9) d_SetList_goesBefore_18
set_option maxHeartbeats 4000000 in
set_option maxRecDepth 100000 in
theorem c_SetList_greatestSumAmong (l : Launch) (dC : Nat → ClassId) (dI : Nat → Nat → Nat) (cI cJ cG cZ : ClassId) (q_this q_this_herd q_this_listed q_this_sums q_this_trial : Nat) (v_this_listed : (Nat → Int32)) (v_this_pairs : Int32) (v_this_size : Int32) (v_this_sums : (Nat → Int32)) (x1 : Int32) (post : Int32 → Prop) (h : wp_SetList_greatestSumAmong v_this_listed v_this_size v_this_sums x1 post) : Met l y_SetList_greatestSumAmong w_SetList_greatestSumAmong ({ frames := 1, cells := 0, slots := 0, locals := 21 } : Room) (va_Pc [.ref q_this, .int x1] (pcR dC dI cI cJ cG cZ ([(q_this, .inr (4, [.ref q_this_herd, .ref q_this_trial, .ref q_this_listed, .ref q_this_sums, .int v_this_size, .int v_this_pairs])), (q_this_listed, .inl (cI, 400, .inl v_this_listed)), (q_this_sums, .inl (cI, 400, .inl v_this_sums))]))) (vp_Si (fun r => post r)) 0 0 (fun _ => False) := by
  refine Met.ofW (cc := b_SetList_greatestSumAmong) (maxL := 4) (ret := (some .int)) (by decide) rfl ?_
  intro p e s m args below meth c s₁ B hml hv
  obtain ⟨rfl, hP, hK, hN⟩ := hv
  have hx := B.exec
  have hb := B.bytes
  have hr := B.returns
  have hts := atoms_spec (ws := w_SetList_greatestSumAmong) B.pre
  have hown : s.vm.findClass "PairChoice$SetList" = some m.cls := findClass_of_methodNamed B.named
  have hlocks := B.notSynchronized
  have hl := lv_entry ([.ref q_this, .int x1]) (n := 4) (Nat.le_of_ble_eq_true rfl)
  rw [lg_entry_eq]
  generalize (lg_sl ([.ref q_this, .int x1]) ++ List.replicate (4 - (lg_sl ([.ref q_this, .int x1])).length) Slot.unset).toArray = ls at hl ⊢
  have hl : lv_has ls 4 [(0, .ref q_this), (1, .int x1)] := hl
  unfold wp_SetList_greatestSumAmong at h
  refine lv_ldc (v := (-100000000)) hx hb hown (hts _ (List.mem_cons_of_mem _ kw_346)) d_SetList_greatestSumAmong_0 ?_
  refine lv_istore_n (lv' := [(2, .int (-100000000)), (0, .ref q_this), (1, .int x1)]) hx hb d_SetList_greatestSumAmong_2 rfl hl (by decide) rfl (fun ls hl => ?_)
  refine lv_iconst (v := 0) hx hb d_SetList_greatestSumAmong_3 (by decide) ?_
  refine lv_istore_n (lv' := [(3, .int 0), (2, .int (-100000000)), (0, .ref q_this), (1, .int x1)]) hx hb d_SetList_greatestSumAmong_4 rfl hl (by decide) rfl (fun ls hl => ?_)
  obtain ⟨nn, h⟩ := h
  have lp5 : ∀ (n5 : Nat) (x2_5 : Int32) (x3_5 : Int32) (ls : Array Slot), wp_SetList_greatestSumAmong_L5 v_this_listed v_this_size v_this_sums x1 post n5 x2_5 x3_5 → lv_has ls 4 [(3, .int x3_5), (2, .int x2_5), (0, .ref q_this), (1, .int x1)] → W p l e (headSpec w_SetList_greatestSumAmong ({ frames := 1, cells := 0, slots := 0, locals := 21 } : Room)).room s m ([.ref q_this, .int x1] : List Value).toArray below meth c s.heap [] 0 0 (MQ below (vp_Si (fun r => post r)) ([.ref q_this, .int x1] : List Value).toArray s 0 0 (fun _ => False)) (F0 m 5 ls []) := by
    intro n5
    induction n5 with
    | zero =>
      intro x2_5 x3_5 ls h
      rw [wp_SetList_greatestSumAmong_L5] at h
      exact h.elim
    | succ n5 ih5 =>
      intro x2_5 x3_5 ls h hl
      rw [wp_SetList_greatestSumAmong_L5] at h
      refine lv_iload_n hx hb d_SetList_greatestSumAmong_5 rfl (lv_at hl 0 rfl) ?_
      refine lv_aload_n hx hb d_SetList_greatestSumAmong_6 rfl (lv_at hl 2 rfl) ?_
      refine va_get (D := (dC, dI)) (ci := 4) (v := .int v_this_size) (C := "PairChoice$SetList") (T := F_SetList) (N := 6) hx hb hts (fun w h => List.mem_cons_of_mem _ (i_SetList w h)) hown hK hP 0 rfl rfl 4 (by decide) (hts _ (List.mem_cons_of_mem _ kw_135)) (fun _ h9 => h9) rfl d_SetList_greatestSumAmong_7 ?_
      refine lv_icmp_ge (tgt := 43) hx hb d_SetList_greatestSumAmong_10 (by decide) (fun c1 => ?_) (fun c1 => ?_)
      · have h := h.1 c1
        refine lv_iload_n hx hb d_SetList_greatestSumAmong_43 rfl (lv_at hl 1 rfl) ?_
        exact W.iret hx hb hr (fun t ht hW => ⟨_, rfl, h, ht⟩) (fun _ h9 => by cases h9) d_SetList_greatestSumAmong_44
      · have h := h.2 c1
        refine lv_aload_n hx hb d_SetList_greatestSumAmong_13 rfl (lv_at hl 2 rfl) ?_
        refine va_get (D := (dC, dI)) (ci := 4) (v := .ref q_this_listed) (C := "PairChoice$SetList") (T := F_SetList) (N := 6) hx hb hts (fun w h => List.mem_cons_of_mem _ (i_SetList w h)) hown hK hP 0 rfl rfl 2 (by decide) (hts _ (List.mem_cons_of_mem _ kw_133)) (fun _ h9 => h9) rfl d_SetList_greatestSumAmong_14 ?_
        refine lv_iload_n hx hb d_SetList_greatestSumAmong_17 rfl (lv_at hl 0 rfl) ?_
        obtain ⟨i2, h⟩ := h
        refine va_iald hx hb hK hP 1 0 rfl rfl i2 d_SetList_greatestSumAmong_18 ?_
        refine lv_iload_n hx hb d_SetList_greatestSumAmong_19 rfl (lv_at hl 3 rfl) ?_
        refine lv_iconst (v := (-1)) hx hb d_SetList_greatestSumAmong_20 (by decide) ?_
        refine lv_ixor hx hb d_SetList_greatestSumAmong_21 ?_
        refine lv_iand hx hb d_SetList_greatestSumAmong_22 ?_
        refine lv_if_ne (tgt := 37) hx hb d_SetList_greatestSumAmong_23 (by decide) (fun c3 => ?_) (fun c3 => ?_)
        · have h := h.1 c3
          refine lv_iinc (v := (x3_5 + 1)) (lv' := [(3, .int (x3_5 + 1)), (2, .int x2_5), (0, .ref q_this), (1, .int x1)]) hx hb d_SetList_greatestSumAmong_37 hl (k := 0) rfl rfl (by decide) rfl (fun ls hl => ?_)
          refine lv_goto (tgt := 5) hx hb d_SetList_greatestSumAmong_40 (by decide) ?_
          exact ih5 x2_5 (x3_5 + 1) ls h (lv_sub hl [0, 1, 2, 3] rfl)
        · have h := h.2 c3
          refine lv_iload_n hx hb d_SetList_greatestSumAmong_26 rfl (lv_at hl 1 rfl) ?_
          refine lv_aload_n hx hb d_SetList_greatestSumAmong_27 rfl (lv_at hl 2 rfl) ?_
          refine va_get (D := (dC, dI)) (ci := 4) (v := .ref q_this_sums) (C := "PairChoice$SetList") (T := F_SetList) (N := 6) hx hb hts (fun w h => List.mem_cons_of_mem _ (i_SetList w h)) hown hK hP 0 rfl rfl 3 (by decide) (hts _ (List.mem_cons_of_mem _ kw_134)) (fun _ h9 => h9) rfl d_SetList_greatestSumAmong_28 ?_
          refine lv_iload_n hx hb d_SetList_greatestSumAmong_31 rfl (lv_at hl 0 rfl) ?_
          obtain ⟨i4, h⟩ := h
          refine va_iald hx hb hK hP 2 0 rfl rfl i4 d_SetList_greatestSumAmong_32 ?_
          refine va_mmax hx hb (by rw [hml]; exact hl.1.symm) hown (hts _ (List.mem_cons_of_mem _ kw_423)) (hts _ (List.mem_cons_of_mem _ kw_424)) (hts _ (List.mem_cons_of_mem _ kw_47)) (hts _ (List.mem_cons_of_mem _ kw_425)) (Nat.le_of_ble_eq_true rfl) (Nat.le_of_ble_eq_true rfl) (Nat.zero_le _) (Nat.zero_le _) d_SetList_greatestSumAmong_33 ?_
          refine lv_istore_n (lv' := [(2, .int (if x2_5 < (v_this_sums x3_5.toNatClampNeg) then (v_this_sums x3_5.toNatClampNeg) else x2_5)), (3, .int x3_5), (0, .ref q_this), (1, .int x1)]) hx hb d_SetList_greatestSumAmong_36 rfl hl (by decide) rfl (fun ls hl => ?_)
          refine lv_iinc (v := (x3_5 + 1)) (lv' := [(3, .int (x3_5 + 1)), (2, .int (if x2_5 < (v_this_sums x3_5.toNatClampNeg) then (v_this_sums x3_5.toNatClampNeg) else x2_5)), (0, .ref q_this), (1, .int x1)]) hx hb d_SetList_greatestSumAmong_37 hl (k := 1) rfl rfl (by decide) rfl (fun ls hl => ?_)
          refine lv_goto (tgt := 5) hx hb d_SetList_greatestSumAmong_40 (by decide) ?_
          exact ih5 (if x2_5 < (v_this_sums x3_5.toNatClampNeg) then (v_this_sums x3_5.toNatClampNeg) else x2_5) (x3_5 + 1) ls h (lv_sub hl [0, 1, 2, 3] rfl)
  exact lp5 nn (-100000000) (0) ls h hl
set_option maxHeartbeats 4000000 in
set_option maxRecDepth 100000 in
theorem c_PairChoice_eggsOf (l : Launch) (dC : Nat → ClassId) (dI : Nat → Nat → Nat) (cI cJ cG cZ : ClassId) (q_this q_this_choice q_this_choice_eggShares q_this_choice_pairing q_this_choice_rests q_this_herd q_this_outlook q_this_sets : Nat) (v_this_choice_eggShares : (Nat → Int32)) (v_this_choice_pairs : Int32) (v_this_choice_set : Int32) (v_this_choice_setsThatMayBe : Int32) (x1 : Int32) (post : Int32 → Prop) (h : wp_PairChoice_eggsOf v_this_choice_eggShares v_this_choice_pairs x1 post) : Met l y_PairChoice_eggsOf w_PairChoice_eggsOf ({ frames := 1, cells := 0, slots := 0, locals := 21 } : Room) (va_Pc [.ref q_this, .int x1] (pcR dC dI cI cJ cG cZ ([(q_this, .inr (5, [.ref q_this_herd, .ref q_this_sets, .ref q_this_choice, .ref q_this_outlook])), (q_this_choice, .inr (0, [.ref q_this_herd, .ref q_this_choice_pairing, .int v_this_choice_pairs, .int v_this_choice_set, .int v_this_choice_setsThatMayBe, .ref q_this_choice_eggShares, .ref q_this_choice_rests])), (q_this_choice_eggShares, .inl (cI, 6, .inl v_this_choice_eggShares))]))) (vp_Si (fun r => post r)) 0 0 (fun _ => False) := by
  refine Met.ofW (cc := b_PairChoice_eggsOf) (maxL := 2) (ret := (some .int)) (by decide) rfl ?_
  intro p e s m args below meth c s₁ B hml hv
  obtain ⟨rfl, hP, hK, hN⟩ := hv
  have hx := B.exec
  have hb := B.bytes
  have hr := B.returns
  have hts := atoms_spec (ws := w_PairChoice_eggsOf) B.pre
  have hown : s.vm.findClass "PairChoice" = some m.cls := findClass_of_methodNamed B.named
  have hlocks := B.notSynchronized
  have hl := lv_entry ([.ref q_this, .int x1]) (n := 2) (Nat.le_of_ble_eq_true rfl)
  rw [lg_entry_eq]
  generalize (lg_sl ([.ref q_this, .int x1]) ++ List.replicate (2 - (lg_sl ([.ref q_this, .int x1])).length) Slot.unset).toArray = ls at hl ⊢
  have hl : lv_has ls 2 [(0, .ref q_this), (1, .int x1)] := hl
  unfold wp_PairChoice_eggsOf at h
  refine lv_aload_n hx hb d_PairChoice_eggsOf_0 rfl (lv_at hl 0 rfl) ?_
  refine va_get (D := (dC, dI)) (ci := 5) (v := .ref q_this_choice) (C := "PairChoice") (T := F_PairChoice) (N := 4) hx hb hts (fun w h => List.mem_cons_of_mem _ (i_PairChoice w h)) hown hK hP 0 rfl rfl 2 (by decide) (hts _ (List.mem_cons_of_mem _ kw_208)) (fun _ h9 => h9) rfl d_PairChoice_eggsOf_1 ?_
  refine lv_iload_n hx hb d_PairChoice_eggsOf_4 rfl (lv_at hl 1 rfl) ?_
  have hPc := hP.sub (ws' := [(q_this_choice, .inr (0, [.ref q_this_herd, .ref q_this_choice_pairing, .int v_this_choice_pairs, .int v_this_choice_set, .int v_this_choice_setsThatMayBe, .ref q_this_choice_eggShares, .ref q_this_choice_rests]))]) [1] rfl
  refine vp_callSi (va_Run.run (va_runVN (As := [.int x1]) (rest := []) ⟨hx, hb, hml, hown, hts⟩ (c_Choice_hasPair l dC dI cI cJ cG cZ  q_this_choice q_this_choice_eggShares q_this_herd q_this_choice_pairing q_this_choice_rests  v_this_choice_pairs v_this_choice_set v_this_choice_setsThatMayBe (x1 : Int32) _ h) ⟨va_cnB 1 hts (gcB kw_362) rfl rfl rfl (nw_359 hN) (hts _ (List.mem_cons_of_mem _ kw_43)) (by decide +kernel) ⟨Nat.le_of_ble_eq_true rfl, Nat.le_of_ble_eq_true rfl⟩, (hts _ (List.mem_cons_of_mem _ kw_361)), (hts _ (List.mem_cons_of_mem _ kw_17))⟩ ⟨fb_r, va_recv hK hPc (ci := 0) (q0 := 0) rfl rfl, pre_r hPc hK hN⟩ rfl rfl hl.1 rfl (lv_room (Nat.le_of_ble_eq_true rfl)) d_PairChoice_eggsOf_5 ⟨Nat.zero_le _, Nat.zero_le _⟩)) (fun r1 h => ?_)
  obtain ⟨br1, h⟩ := h
  refine lv_if_eq (tgt := 23) hx hb d_PairChoice_eggsOf_8 (by decide) (fun c2 => ?_) (fun c2 => ?_)
  · have h := h.1 c2
    refine lv_iconst (v := (-1)) hx hb d_PairChoice_eggsOf_23 (by decide) ?_
    exact W.iret hx hb hr (fun t ht hW => ⟨_, rfl, h, ht⟩) (fun _ h9 => by cases h9) d_PairChoice_eggsOf_24
  · have h := h.2 c2
    refine lv_aload_n hx hb d_PairChoice_eggsOf_11 rfl (lv_at hl 0 rfl) ?_
    refine va_get (D := (dC, dI)) (ci := 5) (v := .ref q_this_choice) (C := "PairChoice") (T := F_PairChoice) (N := 4) hx hb hts (fun w h => List.mem_cons_of_mem _ (i_PairChoice w h)) hown hK hP 0 rfl rfl 2 (by decide) (hts _ (List.mem_cons_of_mem _ kw_208)) (fun _ h9 => h9) rfl d_PairChoice_eggsOf_12 ?_
    refine va_getN (D := (dC, dI)) (ci := 0) (v := .ref q_this_choice_eggShares) (C := "PairChoice$Choice") (T := F_Choice) (N := 7) hx hb hts (fun w h => List.mem_cons_of_mem _ (i_Choice w h)) hown hK hP 1 rfl rfl 5 (by decide) (va_Nw.use rfl (nw_169 hN)) (fun _ h9 => h9) rfl d_PairChoice_eggsOf_15 ?_
    refine lv_iload_n hx hb d_PairChoice_eggsOf_18 rfl (lv_at hl 1 rfl) ?_
    obtain ⟨i3, h⟩ := h
    refine va_iald hx hb hK hP 2 0 rfl rfl i3 d_PairChoice_eggsOf_19 ?_
    refine lv_goto (tgt := 24) hx hb d_PairChoice_eggsOf_20 (by decide) ?_
    exact W.iret hx hb hr (fun t ht hW => ⟨_, rfl, h, ht⟩) (fun _ h9 => by cases h9) d_PairChoice_eggsOf_24
def at_PairChoice_forgetFindings (dC : Nat → ClassId) (dI : Nat → Nat → Nat) (cI cJ cG cZ : ClassId) (q_this q_this_choice q_this_choice_eggShares q_this_choice_pairing q_this_choice_rests q_this_herd q_this_outlook q_this_sets q_this_sets_listed q_this_sets_sums q_this_sets_trial : Nat) (A : Nat → Prop) (v_this_choice_set : Int32) (v_this_choice_setsThatMayBe : Int32) (v_this_sets_size : Int32) (u : Int32 × Int32) (t : State) : Prop := va_P (dC, dI) vCl ([(q_this, .inr (5, [.ref q_this_herd, .ref q_this_sets, .ref q_this_choice, .ref q_this_outlook])), (q_this_choice, .inr (0, [.ref q_this_herd, .ref q_this_choice_pairing, .int u.1, .int v_this_choice_set, .int v_this_choice_setsThatMayBe, .ref q_this_choice_eggShares, .ref q_this_choice_rests])), (q_this_sets, .inr (4, [.ref q_this_herd, .ref q_this_sets_trial, .ref q_this_sets_listed, .ref q_this_sets_sums, .int v_this_sets_size, .int u.2]))]) t.heap ∧ va_D A ([(q_this, .inr (5, [.ref q_this_herd, .ref q_this_sets, .ref q_this_choice, .ref q_this_outlook])), (q_this_choice, .inr (0, [.ref q_this_herd, .ref q_this_choice_pairing, .int u.1, .int v_this_choice_set, .int v_this_choice_setsThatMayBe, .ref q_this_choice_eggShares, .ref q_this_choice_rests])), (q_this_sets, .inr (4, [.ref q_this_herd, .ref q_this_sets_trial, .ref q_this_sets_listed, .ref q_this_sets_sums, .int v_this_sets_size, .int u.2]))])
set_option maxHeartbeats 4000000 in
set_option maxRecDepth 100000 in
theorem c_PairChoice_forgetFindings (l : Launch) (dC : Nat → ClassId) (dI : Nat → Nat → Nat) (cI cJ cG cZ : ClassId) (q_this q_this_choice q_this_choice_eggShares q_this_choice_pairing q_this_choice_rests q_this_herd q_this_outlook q_this_sets q_this_sets_listed q_this_sets_sums q_this_sets_trial : Nat) (sz : Nat) (v_this_choice_pairs : Int32) (v_this_choice_set : Int32) (v_this_choice_setsThatMayBe : Int32) (v_this_sets_pairs : Int32) (v_this_sets_size : Int32)  (post : Int32 → Int32 → Prop) (h : wp_PairChoice_forgetFindings v_this_choice_pairs v_this_sets_pairs post) : Met l y_PairChoice_forgetFindings w_PairChoice_forgetFindings ({ frames := 1, cells := 0, slots := 0, locals := 20 } : Room) (va_Pc [.ref q_this] (pcW dC dI cI cJ cG cZ sz ([(q_this, .inr (5, [.ref q_this_herd, .ref q_this_sets, .ref q_this_choice, .ref q_this_outlook])), (q_this_choice, .inr (0, [.ref q_this_herd, .ref q_this_choice_pairing, .int v_this_choice_pairs, .int v_this_choice_set, .int v_this_choice_setsThatMayBe, .ref q_this_choice_eggShares, .ref q_this_choice_rests])), (q_this_sets, .inr (4, [.ref q_this_herd, .ref q_this_sets_trial, .ref q_this_sets_listed, .ref q_this_sets_sums, .int v_this_sets_size, .int v_this_sets_pairs]))]))) (va_Qv (fun (u : Int32 × Int32) => post u.1 u.2) (fun (u : Int32 × Int32) (t : State) => at_PairChoice_forgetFindings dC dI cI cJ cG cZ q_this q_this_choice q_this_choice_eggShares q_this_choice_pairing q_this_choice_rests q_this_herd q_this_outlook q_this_sets q_this_sets_listed q_this_sets_sums q_this_sets_trial (va_A ([(q_this, .inr (5, [.ref q_this_herd, .ref q_this_sets, .ref q_this_choice, .ref q_this_outlook])), (q_this_choice, .inr (0, [.ref q_this_herd, .ref q_this_choice_pairing, .int v_this_choice_pairs, .int v_this_choice_set, .int v_this_choice_setsThatMayBe, .ref q_this_choice_eggShares, .ref q_this_choice_rests])), (q_this_sets, .inr (4, [.ref q_this_herd, .ref q_this_sets_trial, .ref q_this_sets_listed, .ref q_this_sets_sums, .int v_this_sets_size, .int v_this_sets_pairs]))]) sz) v_this_choice_set v_this_choice_setsThatMayBe v_this_sets_size u t) (va_A ([(q_this, .inr (5, [.ref q_this_herd, .ref q_this_sets, .ref q_this_choice, .ref q_this_outlook])), (q_this_choice, .inr (0, [.ref q_this_herd, .ref q_this_choice_pairing, .int v_this_choice_pairs, .int v_this_choice_set, .int v_this_choice_setsThatMayBe, .ref q_this_choice_eggShares, .ref q_this_choice_rests])), (q_this_sets, .inr (4, [.ref q_this_herd, .ref q_this_sets_trial, .ref q_this_sets_listed, .ref q_this_sets_sums, .int v_this_sets_size, .int v_this_sets_pairs]))]) sz)) 0 0 (va_A ([(q_this, .inr (5, [.ref q_this_herd, .ref q_this_sets, .ref q_this_choice, .ref q_this_outlook])), (q_this_choice, .inr (0, [.ref q_this_herd, .ref q_this_choice_pairing, .int v_this_choice_pairs, .int v_this_choice_set, .int v_this_choice_setsThatMayBe, .ref q_this_choice_eggShares, .ref q_this_choice_rests])), (q_this_sets, .inr (4, [.ref q_this_herd, .ref q_this_sets_trial, .ref q_this_sets_listed, .ref q_this_sets_sums, .int v_this_sets_size, .int v_this_sets_pairs]))]) sz) := by
  refine Met.ofW (cc := b_PairChoice_forgetFindings) (maxL := 1) (ret := none) (by decide) rfl ?_
  intro p e s m args below meth c s₁ B hml hv
  obtain ⟨rfl, hsz, hP, hK, hN, hD0⟩ := hv
  have hx := B.exec
  have hb := B.bytes
  have hr := B.returns
  have hts := atoms_spec (ws := w_PairChoice_forgetFindings) B.pre
  have hown : s.vm.findClass "PairChoice" = some m.cls := findClass_of_methodNamed B.named
  have hlocks := B.notSynchronized
  subst hsz
  have hD := hD0.self (sz := s.heap.size)
  generalize hAe : va_A ([(q_this, .inr (5, [.ref q_this_herd, .ref q_this_sets, .ref q_this_choice, .ref q_this_outlook])), (q_this_choice, .inr (0, [.ref q_this_herd, .ref q_this_choice_pairing, .int v_this_choice_pairs, .int v_this_choice_set, .int v_this_choice_setsThatMayBe, .ref q_this_choice_eggShares, .ref q_this_choice_rests])), (q_this_sets, .inr (4, [.ref q_this_herd, .ref q_this_sets_trial, .ref q_this_sets_listed, .ref q_this_sets_sums, .int v_this_sets_size, .int v_this_sets_pairs]))]) s.heap.size = A at hD ⊢
  have hA : ∀ q : Nat, s.heap.size ≤ q → A q := fun q h => by rw [← hAe]; exact Or.inr h
  have hS : va_S A s.heap s.heap [] := va_S.rf
  have hl := lv_entry ([.ref q_this]) (n := 1) (Nat.le_of_ble_eq_true rfl)
  rw [lg_entry_eq]
  generalize (lg_sl ([.ref q_this]) ++ List.replicate (1 - (lg_sl ([.ref q_this])).length) Slot.unset).toArray = ls at hl ⊢
  have hl : lv_has ls 1 [(0, .ref q_this)] := hl
  unfold wp_PairChoice_forgetFindings at h
  refine lv_aload_n hx hb d_PairChoice_forgetFindings_0 rfl (lv_at hl 0 rfl) ?_
  refine va_get (D := (dC, dI)) (ci := 5) (v := .ref q_this_choice) (C := "PairChoice") (T := F_PairChoice) (N := 4) hx hb hts (fun w h => List.mem_cons_of_mem _ (i_PairChoice w h)) hown hK hP 0 rfl rfl 2 (by decide) (hts _ (List.mem_cons_of_mem _ kw_208)) (fun _ h9 => h9) rfl d_PairChoice_forgetFindings_1 ?_
  have hPc := hP.sub (ws' := [(q_this_choice, .inr (0, [.ref q_this_herd, .ref q_this_choice_pairing, .int v_this_choice_pairs, .int v_this_choice_set, .int v_this_choice_setsThatMayBe, .ref q_this_choice_eggShares, .ref q_this_choice_rests]))]) [1] rfl
  have hDc := hD.sub (ws' := [(q_this_choice, .inr (0, [.ref q_this_herd, .ref q_this_choice_pairing, .int v_this_choice_pairs, .int v_this_choice_set, .int v_this_choice_setsThatMayBe, .ref q_this_choice_eggShares, .ref q_this_choice_rests]))]) [1] (by decide) rfl
  have hFc := va_free (wc := [(q_this_choice, .inr (0, [.ref q_this_herd, .ref q_this_choice_pairing, .int v_this_choice_pairs, .int v_this_choice_set, .int v_this_choice_setsThatMayBe, .ref q_this_choice_eggShares, .ref q_this_choice_rests]))]) hD hS hA [1] rfl
  refine va_callv (va_runVN (As := []) (rest := []) ⟨hx, hb, hml, hown, hts⟩ (c_Choice_drop l dC dI cI cJ cG cZ  q_this_choice q_this_choice_eggShares q_this_herd q_this_choice_pairing q_this_choice_rests s.heap.size v_this_choice_pairs v_this_choice_set v_this_choice_setsThatMayBe  _ h) ⟨va_cnB 0 hts (gcB kw_236) rfl rfl rfl (nw_233 hN) (hts _ (List.mem_cons_of_mem _ kw_43)) (by decide +kernel) ⟨Nat.le_of_ble_eq_true rfl, Nat.le_of_ble_eq_true rfl⟩, (hts _ (List.mem_cons_of_mem _ kw_235)), (hts _ (List.mem_cons_of_mem _ kw_1))⟩ ⟨fb_w, va_recv hK hPc (ci := 0) (q0 := 0) rfl rfl, pre_w hPc hK hN hDc⟩ rfl rfl hl.1 rfl (lv_room (Nat.le_of_ble_eq_true rfl)) d_PairChoice_forgetFindings_4 ⟨Nat.zero_le _, Nat.zero_le _⟩) hS (fun q _ h => hFc q h) hFc (fun u t H1 locs ht hvm h hB hz1 hk1 hS => ?_)
  obtain ⟨v1, rfl⟩ : ∃ z, z = u := ⟨_, rfl⟩
  obtain ⟨hP1, hD1⟩ := hB
  rw [ht] at hP1
  obtain ⟨hP, hD⟩ := va_join (wr := [(q_this, .inr (5, [.ref q_this_herd, .ref q_this_sets, .ref q_this_choice, .ref q_this_outlook])), (q_this_sets, .inr (4, [.ref q_this_herd, .ref q_this_sets_trial, .ref q_this_sets_listed, .ref q_this_sets_sums, .int v_this_sets_size, .int v_this_sets_pairs]))]) (w1 := [(q_this_choice, .inr (0, [.ref q_this_herd, .ref q_this_choice_pairing, .int v1, .int v_this_choice_set, .int v_this_choice_setsThatMayBe, .ref q_this_choice_eggShares, .ref q_this_choice_rests]))]) hP hD [1] [0, 2] rfl rfl (by decide) (by decide) hk1 hFc hP1 hD1
  generalize H1 = H at hP hS ⊢
  have hP : va_P (dC, dI) vCl ([(q_this, .inr (5, [.ref q_this_herd, .ref q_this_sets, .ref q_this_choice, .ref q_this_outlook])), (q_this_choice, .inr (0, [.ref q_this_herd, .ref q_this_choice_pairing, .int v1, .int v_this_choice_set, .int v_this_choice_setsThatMayBe, .ref q_this_choice_eggShares, .ref q_this_choice_rests])), (q_this_sets, .inr (4, [.ref q_this_herd, .ref q_this_sets_trial, .ref q_this_sets_listed, .ref q_this_sets_sums, .int v_this_sets_size, .int v_this_sets_pairs]))]) H := hP.sub [0, 2, 1] rfl
  have hD : va_D A ([(q_this, .inr (5, [.ref q_this_herd, .ref q_this_sets, .ref q_this_choice, .ref q_this_outlook])), (q_this_choice, .inr (0, [.ref q_this_herd, .ref q_this_choice_pairing, .int v1, .int v_this_choice_set, .int v_this_choice_setsThatMayBe, .ref q_this_choice_eggShares, .ref q_this_choice_rests])), (q_this_sets, .inr (4, [.ref q_this_herd, .ref q_this_sets_trial, .ref q_this_sets_listed, .ref q_this_sets_sums, .int v_this_sets_size, .int v_this_sets_pairs]))]) := hD.sub [0, 2, 1] (by decide) rfl
  refine lv_aload_n hx hb d_PairChoice_forgetFindings_7 rfl (lv_at hl 0 rfl) ?_
  refine va_get (D := (dC, dI)) (ci := 5) (v := .ref q_this_sets) (C := "PairChoice") (T := F_PairChoice) (N := 4) hx hb hts (fun w h => List.mem_cons_of_mem _ (i_PairChoice w h)) hown hK hP 0 rfl rfl 1 (by decide) (hts _ (List.mem_cons_of_mem _ kw_207)) (fun _ h9 => h9) rfl d_PairChoice_forgetFindings_8 ?_
  have hPc := hP.sub (ws' := [(q_this_sets, .inr (4, [.ref q_this_herd, .ref q_this_sets_trial, .ref q_this_sets_listed, .ref q_this_sets_sums, .int v_this_sets_size, .int v_this_sets_pairs]))]) [2] rfl
  have hDc := hD.sub (ws' := [(q_this_sets, .inr (4, [.ref q_this_herd, .ref q_this_sets_trial, .ref q_this_sets_listed, .ref q_this_sets_sums, .int v_this_sets_size, .int v_this_sets_pairs]))]) [2] (by decide) rfl
  have hFc := va_free (wc := [(q_this_sets, .inr (4, [.ref q_this_herd, .ref q_this_sets_trial, .ref q_this_sets_listed, .ref q_this_sets_sums, .int v_this_sets_size, .int v_this_sets_pairs]))]) hD hS hA [2] rfl
  refine va_callv (va_runVN (As := []) (rest := []) ⟨hx, hb, hml, hown, hts⟩ (c_SetList_forget l dC dI cI cJ cG cZ  q_this_sets q_this_herd q_this_sets_listed q_this_sets_sums q_this_sets_trial H.size v_this_sets_pairs v_this_sets_size  _ h) ⟨va_cnB 0 hts (gcB kw_240) rfl rfl rfl (nw_237 hN) (hts _ (List.mem_cons_of_mem _ kw_41)) (by decide +kernel) ⟨Nat.le_of_ble_eq_true rfl, Nat.le_of_ble_eq_true rfl⟩, (hts _ (List.mem_cons_of_mem _ kw_239)), (hts _ (List.mem_cons_of_mem _ kw_2))⟩ ⟨fb_w, va_recv hK hPc (ci := 4) (q0 := 0) rfl rfl, pre_w hPc hK hN hDc⟩ rfl rfl hl.1 rfl (lv_room (Nat.le_of_ble_eq_true rfl)) d_PairChoice_forgetFindings_11 ⟨Nat.zero_le _, Nat.zero_le _⟩) hS (fun q _ h => hFc q h) hFc (fun u t H1 locs ht hvm h hB hz1 hk1 hS => ?_)
  obtain ⟨v2, rfl⟩ : ∃ z, z = u := ⟨_, rfl⟩
  obtain ⟨hP1, hD1⟩ := hB
  rw [ht] at hP1
  obtain ⟨hP, hD⟩ := va_join (wr := [(q_this, .inr (5, [.ref q_this_herd, .ref q_this_sets, .ref q_this_choice, .ref q_this_outlook])), (q_this_choice, .inr (0, [.ref q_this_herd, .ref q_this_choice_pairing, .int v1, .int v_this_choice_set, .int v_this_choice_setsThatMayBe, .ref q_this_choice_eggShares, .ref q_this_choice_rests]))]) (w1 := [(q_this_sets, .inr (4, [.ref q_this_herd, .ref q_this_sets_trial, .ref q_this_sets_listed, .ref q_this_sets_sums, .int v_this_sets_size, .int v2]))]) hP hD [2] [0, 1] rfl rfl (by decide) (by decide) hk1 hFc hP1 hD1
  generalize H1 = H at hP hS ⊢
  have hP : va_P (dC, dI) vCl ([(q_this, .inr (5, [.ref q_this_herd, .ref q_this_sets, .ref q_this_choice, .ref q_this_outlook])), (q_this_choice, .inr (0, [.ref q_this_herd, .ref q_this_choice_pairing, .int v1, .int v_this_choice_set, .int v_this_choice_setsThatMayBe, .ref q_this_choice_eggShares, .ref q_this_choice_rests])), (q_this_sets, .inr (4, [.ref q_this_herd, .ref q_this_sets_trial, .ref q_this_sets_listed, .ref q_this_sets_sums, .int v_this_sets_size, .int v2]))]) H := hP.sub [0, 1, 2] rfl
  have hD : va_D A ([(q_this, .inr (5, [.ref q_this_herd, .ref q_this_sets, .ref q_this_choice, .ref q_this_outlook])), (q_this_choice, .inr (0, [.ref q_this_herd, .ref q_this_choice_pairing, .int v1, .int v_this_choice_set, .int v_this_choice_setsThatMayBe, .ref q_this_choice_eggShares, .ref q_this_choice_rests])), (q_this_sets, .inr (4, [.ref q_this_herd, .ref q_this_sets_trial, .ref q_this_sets_listed, .ref q_this_sets_sums, .int v_this_sets_size, .int v2]))]) := hD.sub [0, 1, 2] (by decide) rfl
  exact W.vret hx hb hr (fun t ht hW => ⟨⟨(v1, v2), rfl, h, ⟨by rw [ht]; exact hP, hD⟩⟩, hS.F ht⟩) hS.2.2 d_PairChoice_forgetFindings_14
set_option maxHeartbeats 4000000 in
set_option maxRecDepth 100000 in
theorem c_PairChoice_fate (l : Launch) (dC : Nat → ClassId) (dI : Nat → Nat → Nat) (cI cJ cG cZ : ClassId)  (x0 : Int64) (post : Int64 → Prop) (h : wp_PairChoice_fate x0 post) : Met l y_PairChoice_fate w_PairChoice_fate ({ frames := 0, cells := 0, slots := 0, locals := 0 } : Room) (va_Pc [.long x0] (pcS dC dI cI cJ cG cZ)) (vp_Sl (fun r => post r)) 0 0 (fun _ => False) := by
  refine Met.ofW (cc := b_PairChoice_fate) (maxL := 4) (ret := (some .long)) (by decide) rfl ?_
  intro p e s m args below meth c s₁ B hml hv
  obtain ⟨rfl, hK, hN⟩ := hv
  have hx := B.exec
  have hb := B.bytes
  have hr := B.returns
  have hts := atoms_spec (ws := w_PairChoice_fate) B.pre
  have hown : s.vm.findClass "PairChoice" = some m.cls := findClass_of_methodNamed B.named
  have hlocks := B.notSynchronized
  have hl := lv_entry ([.long x0]) (n := 4) (Nat.le_of_ble_eq_true rfl)
  rw [lg_entry_eq]
  generalize (lg_sl ([.long x0]) ++ List.replicate (4 - (lg_sl ([.long x0])).length) Slot.unset).toArray = ls at hl ⊢
  have hl : lv_has ls 4 [(0, .long x0)] := hl
  unfold wp_PairChoice_fate at h
  refine lv_lload_n hx hb d_PairChoice_fate_0 rfl (lv_at hl 0 rfl) ?_
  refine lv_ldc2 (v := (-7046029254386353131)) hx hb hown (hts _ (List.mem_cons_of_mem _ kw_438)) d_PairChoice_fate_1 ?_
  refine lv_lmul hx hb d_PairChoice_fate_4 ?_
  refine lv_lstore_n (lv' := [(2, .long (x0 * (-7046029254386353131 : Int64))), (0, .long x0)]) hx hb d_PairChoice_fate_5 rfl hl (by decide) rfl (fun ls hl => ?_)
  refine lv_lload_n hx hb d_PairChoice_fate_6 rfl (lv_at hl 0 rfl) ?_
  refine lv_lload_n hx hb d_PairChoice_fate_7 rfl (lv_at hl 0 rfl) ?_
  refine lv_bipush (v := 29) hx hb d_PairChoice_fate_8 (by decide) ?_
  refine lv_lushr (v := ((x0 * (-7046029254386353131 : Int64)).toUInt64 >>> ((29 : Int32).toInt64.toUInt64 &&& Int64.toUInt64 63)).toInt64) hx hb d_PairChoice_fate_10 rfl ?_
  refine lv_lxor hx hb d_PairChoice_fate_11 ?_
  refine lv_ldc2 (v := (-4658895280553007687)) hx hb hown (hts _ (List.mem_cons_of_mem _ kw_439)) d_PairChoice_fate_12 ?_
  refine lv_lmul hx hb d_PairChoice_fate_15 ?_
  refine lv_lstore_n (lv' := [(2, .long (((x0 * (-7046029254386353131 : Int64)) ^^^ (((x0 * (-7046029254386353131 : Int64)).toUInt64 >>> ((29 : Int32).toInt64.toUInt64 &&& Int64.toUInt64 63)).toInt64)) * (-4658895280553007687 : Int64))), (0, .long x0)]) hx hb d_PairChoice_fate_16 rfl hl (by decide) rfl (fun ls hl => ?_)
  refine lv_lload_n hx hb d_PairChoice_fate_17 rfl (lv_at hl 0 rfl) ?_
  refine lv_bipush (v := 33) hx hb d_PairChoice_fate_18 (by decide) ?_
  refine lv_lushr (v := ((((x0 * (-7046029254386353131 : Int64)) ^^^ (((x0 * (-7046029254386353131 : Int64)).toUInt64 >>> ((29 : Int32).toInt64.toUInt64 &&& Int64.toUInt64 63)).toInt64)) * (-4658895280553007687 : Int64)).toUInt64 >>> ((33 : Int32).toInt64.toUInt64 &&& Int64.toUInt64 63)).toInt64) hx hb d_PairChoice_fate_20 rfl ?_
  refine lv_ldc2 (v := 1000) hx hb hown (hts _ (List.mem_cons_of_mem _ kw_440)) d_PairChoice_fate_21 ?_
  obtain ⟨z1, h⟩ := h
  refine lv_lrem hx hb d_PairChoice_fate_24 z1 ?_
  exact W.lret hx hb hr (fun t ht hW => ⟨_, rfl, h, ht⟩) (fun _ h9 => by cases h9) d_PairChoice_fate_25
set_option maxHeartbeats 4000000 in
set_option maxRecDepth 100000 in
theorem c_PairChoice_isWithin (l : Launch) (dC : Nat → ClassId) (dI : Nat → Nat → Nat) (cI cJ cG cZ : ClassId)  (x0 : Int32) (x1 : Int32) (x2 : Int32) (post : Int32 → Prop) (h : wp_PairChoice_isWithin x0 x1 x2 post) : Met l y_PairChoice_isWithin w_PairChoice_isWithin ({ frames := 0, cells := 0, slots := 0, locals := 0 } : Room) (va_Pc [.int x0, .int x1, .int x2] (pcS dC dI cI cJ cG cZ)) (vp_Si (fun r => (r = 0 ∨ r = 1) ∧ post r)) 0 0 (fun _ => False) := by
  refine Met.ofW (cc := b_PairChoice_isWithin) (maxL := 3) (ret := (some .boolean)) (by decide) rfl ?_
  intro p e s m args below meth c s₁ B hml hv
  obtain ⟨rfl, hK, hN⟩ := hv
  have hx := B.exec
  have hb := B.bytes
  have hr := B.returns
  have hts := atoms_spec (ws := w_PairChoice_isWithin) B.pre
  have hown : s.vm.findClass "PairChoice" = some m.cls := findClass_of_methodNamed B.named
  have hlocks := B.notSynchronized
  have hl := lv_entry ([.int x0, .int x1, .int x2]) (n := 3) (Nat.le_of_ble_eq_true rfl)
  rw [lg_entry_eq]
  generalize (lg_sl ([.int x0, .int x1, .int x2]) ++ List.replicate (3 - (lg_sl ([.int x0, .int x1, .int x2])).length) Slot.unset).toArray = ls at hl ⊢
  have hl : lv_has ls 3 [(0, .int x0), (1, .int x1), (2, .int x2)] := hl
  unfold wp_PairChoice_isWithin at h
  refine lv_iload_n hx hb d_PairChoice_isWithin_0 rfl (lv_at hl 0 rfl) ?_
  refine lv_iload_n hx hb d_PairChoice_isWithin_1 rfl (lv_at hl 1 rfl) ?_
  refine lv_icmp_lt (tgt := 14) hx hb d_PairChoice_isWithin_2 (by decide) (fun c1 => ?_) (fun c1 => ?_)
  · have h := h.1 c1
    refine lv_iconst (v := 0) hx hb d_PairChoice_isWithin_14 (by decide) ?_
    exact W.zret hx hb hr (z_nar (Or.inl rfl)) (fun t ht hW => ⟨_, rfl, ⟨Or.inl rfl, h⟩, ht⟩) (fun _ h9 => by cases h9) d_PairChoice_isWithin_15
  · have h := h.2 c1
    refine lv_iload_n hx hb d_PairChoice_isWithin_5 rfl (lv_at hl 0 rfl) ?_
    refine lv_iload_n hx hb d_PairChoice_isWithin_6 rfl (lv_at hl 2 rfl) ?_
    refine lv_icmp_gt (tgt := 14) hx hb d_PairChoice_isWithin_7 (by decide) (fun c2 => ?_) (fun c2 => ?_)
    · have h := h.1 c2
      refine lv_iconst (v := 0) hx hb d_PairChoice_isWithin_14 (by decide) ?_
      exact W.zret hx hb hr (z_nar (Or.inl rfl)) (fun t ht hW => ⟨_, rfl, ⟨Or.inl rfl, h⟩, ht⟩) (fun _ h9 => by cases h9) d_PairChoice_isWithin_15
    · have h := h.2 c2
      refine lv_iconst (v := 1) hx hb d_PairChoice_isWithin_10 (by decide) ?_
      refine lv_goto (tgt := 15) hx hb d_PairChoice_isWithin_11 (by decide) ?_
      exact W.zret hx hb hr (z_nar (Or.inr rfl)) (fun t ht hW => ⟨_, rfl, ⟨Or.inr rfl, h⟩, ht⟩) (fun _ h9 => by cases h9) d_PairChoice_isWithin_15
set_option maxHeartbeats 4000000 in
set_option maxRecDepth 100000 in
theorem c_PairChoice_isWorth (l : Launch) (dC : Nat → ClassId) (dI : Nat → Nat → Nat) (cI cJ cG cZ : ClassId)  (x0 : Int32) (post : Int32 → Prop) (h : wp_PairChoice_isWorth x0 post) : Met l y_PairChoice_isWorth w_PairChoice_isWorth ({ frames := 1, cells := 0, slots := 0, locals := 22 } : Room) (va_Pc [.int x0] (pcS dC dI cI cJ cG cZ)) (vp_Si (fun r => (r = 0 ∨ r = 1) ∧ post r)) 0 0 (fun _ => False) := by
  refine Met.ofW (cc := b_PairChoice_isWorth) (maxL := 1) (ret := (some .boolean)) (by decide) rfl ?_
  intro p e s m args below meth c s₁ B hml hv
  obtain ⟨rfl, hK, hN⟩ := hv
  have hx := B.exec
  have hb := B.bytes
  have hr := B.returns
  have hts := atoms_spec (ws := w_PairChoice_isWorth) B.pre
  have hown : s.vm.findClass "PairChoice" = some m.cls := findClass_of_methodNamed B.named
  have hlocks := B.notSynchronized
  have hl := lv_entry ([.int x0]) (n := 1) (Nat.le_of_ble_eq_true rfl)
  rw [lg_entry_eq]
  generalize (lg_sl ([.int x0]) ++ List.replicate (1 - (lg_sl ([.int x0])).length) Slot.unset).toArray = ls at hl ⊢
  have hl : lv_has ls 1 [(0, .int x0)] := hl
  unfold wp_PairChoice_isWorth at h
  refine lv_iload_n hx hb d_PairChoice_isWorth_0 rfl (lv_at hl 0 rfl) ?_
  refine lv_sipush (v := (-10000)) hx hb d_PairChoice_isWorth_1 (by decide) ?_
  refine lv_sipush (v := 10000) hx hb d_PairChoice_isWorth_4 (by decide) ?_
  refine vp_callSi (va_Run.run (va_runS (As := [.int x0, .int (-10000), .int 10000]) (rest := []) ⟨hx, hb, hml, hown, hts⟩ (c_PairChoice_isWithin l dC dI cI cJ cG cZ     (x0 : Int32) ((-10000) : Int32) (10000 : Int32) _ h) (va_cwS 3 hts (gcS kw_223 kw_224 kw_39 kw_225) rfl rfl rfl (by decide +kernel) ⟨Nat.le_of_ble_eq_true rfl, Nat.le_of_ble_eq_true rfl⟩) ⟨fb_s, pre_s hK hN⟩ rfl rfl hl.1 rfl (lv_room (Nat.le_of_ble_eq_true rfl)) d_PairChoice_isWorth_7 ⟨Nat.zero_le _, Nat.zero_le _⟩)) (fun r1 h => ?_)
  obtain ⟨br1, h⟩ := h
  exact W.zret hx hb hr (z_nar (br1)) (fun t ht hW => ⟨_, rfl, ⟨br1, h⟩, ht⟩) (fun _ h9 => by cases h9) d_PairChoice_isWorth_10
set_option maxHeartbeats 4000000 in
set_option maxRecDepth 100000 in
theorem c_PairChoice_isNumberOfPairs (l : Launch) (dC : Nat → ClassId) (dI : Nat → Nat → Nat) (cI cJ cG cZ : ClassId)  (x0 : Int32) (post : Int32 → Prop) (h : wp_PairChoice_isNumberOfPairs x0 post) : Met l y_PairChoice_isNumberOfPairs w_PairChoice_isNumberOfPairs ({ frames := 1, cells := 0, slots := 0, locals := 22 } : Room) (va_Pc [.int x0] (pcS dC dI cI cJ cG cZ)) (vp_Si (fun r => (r = 0 ∨ r = 1) ∧ post r)) 0 0 (fun _ => False) := by
  refine Met.ofW (cc := b_PairChoice_isNumberOfPairs) (maxL := 1) (ret := (some .boolean)) (by decide) rfl ?_
  intro p e s m args below meth c s₁ B hml hv
  obtain ⟨rfl, hK, hN⟩ := hv
  have hx := B.exec
  have hb := B.bytes
  have hr := B.returns
  have hts := atoms_spec (ws := w_PairChoice_isNumberOfPairs) B.pre
  have hown : s.vm.findClass "PairChoice" = some m.cls := findClass_of_methodNamed B.named
  have hlocks := B.notSynchronized
  have hl := lv_entry ([.int x0]) (n := 1) (Nat.le_of_ble_eq_true rfl)
  rw [lg_entry_eq]
  generalize (lg_sl ([.int x0]) ++ List.replicate (1 - (lg_sl ([.int x0])).length) Slot.unset).toArray = ls at hl ⊢
  have hl : lv_has ls 1 [(0, .int x0)] := hl
  unfold wp_PairChoice_isNumberOfPairs at h
  refine lv_iload_n hx hb d_PairChoice_isNumberOfPairs_0 rfl (lv_at hl 0 rfl) ?_
  refine lv_iconst (v := 1) hx hb d_PairChoice_isNumberOfPairs_1 (by decide) ?_
  refine lv_bipush (v := 6) hx hb d_PairChoice_isNumberOfPairs_2 (by decide) ?_
  refine vp_callSi (va_Run.run (va_runS (As := [.int x0, .int 1, .int 6]) (rest := []) ⟨hx, hb, hml, hown, hts⟩ (c_PairChoice_isWithin l dC dI cI cJ cG cZ     (x0 : Int32) (1 : Int32) (6 : Int32) _ h) (va_cwS 3 hts (gcS kw_223 kw_224 kw_39 kw_225) rfl rfl rfl (by decide +kernel) ⟨Nat.le_of_ble_eq_true rfl, Nat.le_of_ble_eq_true rfl⟩) ⟨fb_s, pre_s hK hN⟩ rfl rfl hl.1 rfl (lv_room (Nat.le_of_ble_eq_true rfl)) d_PairChoice_isNumberOfPairs_4 ⟨Nat.zero_le _, Nat.zero_le _⟩)) (fun r1 h => ?_)
  obtain ⟨br1, h⟩ := h
  exact W.zret hx hb hr (z_nar (br1)) (fun t ht hW => ⟨_, rfl, ⟨br1, h⟩, ht⟩) (fun _ h9 => by cases h9) d_PairChoice_isNumberOfPairs_7
set_option maxHeartbeats 4000000 in
set_option maxRecDepth 100000 in
theorem c_PairChoice_bit (l : Launch) (dC : Nat → ClassId) (dI : Nat → Nat → Nat) (cI cJ cG cZ : ClassId)  (x0 : Int32) (post : Int32 → Prop) (h : wp_PairChoice_bit x0 post) : Met l y_PairChoice_bit w_PairChoice_bit ({ frames := 0, cells := 0, slots := 0, locals := 0 } : Room) (va_Pc [.int x0] (pcS dC dI cI cJ cG cZ)) (vp_Si (fun r => post r)) 0 0 (fun _ => False) := by
  refine Met.ofW (cc := b_PairChoice_bit) (maxL := 1) (ret := (some .int)) (by decide) rfl ?_
  intro p e s m args below meth c s₁ B hml hv
  obtain ⟨rfl, hK, hN⟩ := hv
  have hx := B.exec
  have hb := B.bytes
  have hr := B.returns
  have hts := atoms_spec (ws := w_PairChoice_bit) B.pre
  have hown : s.vm.findClass "PairChoice" = some m.cls := findClass_of_methodNamed B.named
  have hlocks := B.notSynchronized
  have hl := lv_entry ([.int x0]) (n := 1) (Nat.le_of_ble_eq_true rfl)
  rw [lg_entry_eq]
  generalize (lg_sl ([.int x0]) ++ List.replicate (1 - (lg_sl ([.int x0])).length) Slot.unset).toArray = ls at hl ⊢
  have hl : lv_has ls 1 [(0, .int x0)] := hl
  unfold wp_PairChoice_bit at h
  refine lv_iconst (v := 1) hx hb d_PairChoice_bit_0 (by decide) ?_
  refine lv_iload_n hx hb d_PairChoice_bit_1 rfl (lv_at hl 0 rfl) ?_
  refine lv_ishl hx hb d_PairChoice_bit_2 ?_
  exact W.iret hx hb hr (fun t ht hW => ⟨_, rfl, h, ht⟩) (fun _ h9 => by cases h9) d_PairChoice_bit_3
set_option maxHeartbeats 4000000 in
set_option maxRecDepth 100000 in
theorem c_PairChoice_has (l : Launch) (dC : Nat → ClassId) (dI : Nat → Nat → Nat) (cI cJ cG cZ : ClassId)  (x0 : Int32) (x1 : Int32) (post : Int32 → Prop) (h : wp_PairChoice_has x0 x1 post) : Met l y_PairChoice_has w_PairChoice_has ({ frames := 0, cells := 0, slots := 0, locals := 0 } : Room) (va_Pc [.int x0, .int x1] (pcS dC dI cI cJ cG cZ)) (vp_Si (fun r => (r = 0 ∨ r = 1) ∧ post r)) 0 0 (fun _ => False) := by
  refine Met.ofW (cc := b_PairChoice_has) (maxL := 2) (ret := (some .boolean)) (by decide) rfl ?_
  intro p e s m args below meth c s₁ B hml hv
  obtain ⟨rfl, hK, hN⟩ := hv
  have hx := B.exec
  have hb := B.bytes
  have hr := B.returns
  have hts := atoms_spec (ws := w_PairChoice_has) B.pre
  have hown : s.vm.findClass "PairChoice" = some m.cls := findClass_of_methodNamed B.named
  have hlocks := B.notSynchronized
  have hl := lv_entry ([.int x0, .int x1]) (n := 2) (Nat.le_of_ble_eq_true rfl)
  rw [lg_entry_eq]
  generalize (lg_sl ([.int x0, .int x1]) ++ List.replicate (2 - (lg_sl ([.int x0, .int x1])).length) Slot.unset).toArray = ls at hl ⊢
  have hl : lv_has ls 2 [(0, .int x0), (1, .int x1)] := hl
  unfold wp_PairChoice_has at h
  refine lv_iload_n hx hb d_PairChoice_has_0 rfl (lv_at hl 0 rfl) ?_
  refine lv_iload_n hx hb d_PairChoice_has_1 rfl (lv_at hl 1 rfl) ?_
  refine lv_ishr hx hb d_PairChoice_has_2 ?_
  refine lv_iconst (v := 1) hx hb d_PairChoice_has_3 (by decide) ?_
  refine lv_iand hx hb d_PairChoice_has_4 ?_
  refine lv_if_eq (tgt := 12) hx hb d_PairChoice_has_5 (by decide) (fun c1 => ?_) (fun c1 => ?_)
  · have h := h.1 c1
    refine lv_iconst (v := 0) hx hb d_PairChoice_has_12 (by decide) ?_
    exact W.zret hx hb hr (z_nar (Or.inl rfl)) (fun t ht hW => ⟨_, rfl, ⟨Or.inl rfl, h⟩, ht⟩) (fun _ h9 => by cases h9) d_PairChoice_has_13
  · have h := h.2 c1
    refine lv_iconst (v := 1) hx hb d_PairChoice_has_8 (by decide) ?_
    refine lv_goto (tgt := 13) hx hb d_PairChoice_has_9 (by decide) ?_
    exact W.zret hx hb hr (z_nar (Or.inr rfl)) (fun t ht hW => ⟨_, rfl, ⟨Or.inr rfl, h⟩, ht⟩) (fun _ h9 => by cases h9) d_PairChoice_has_13
set_option maxHeartbeats 4000000 in
set_option maxRecDepth 100000 in
theorem c_Integer_bitCount (l : Launch) (dC : Nat → ClassId) (dI : Nat → Nat → Nat) (cI cJ cG cZ : ClassId)  (x0 : Int32) (post : Int32 → Prop) (h : wp_Integer_bitCount x0 post) : Met l y_Integer_bitCount w_Integer_bitCount ({ frames := 0, cells := 0, slots := 0, locals := 0 } : Room) (va_Pc [.int x0] (pcS dC dI cI cJ cG cZ)) (vp_Si (fun r => post r)) 0 0 (fun _ => False) := by
  refine Met.ofW (cc := b_Integer_bitCount) (maxL := 1) (ret := (some .int)) (by decide) rfl ?_
  intro p e s m args below meth c s₁ B hml hv
  obtain ⟨rfl, hK, hN⟩ := hv
  have hx := B.exec
  have hb := B.bytes
  have hr := B.returns
  have hts := atoms_spec (ws := w_Integer_bitCount) B.pre
  have hown : s.vm.findClass "java/lang/Integer" = some m.cls := findClass_of_methodNamed B.named
  have hlocks := B.notSynchronized
  have hl := lv_entry ([.int x0]) (n := 1) (Nat.le_of_ble_eq_true rfl)
  rw [lg_entry_eq]
  generalize (lg_sl ([.int x0]) ++ List.replicate (1 - (lg_sl ([.int x0])).length) Slot.unset).toArray = ls at hl ⊢
  have hl : lv_has ls 1 [(0, .int x0)] := hl
  unfold wp_Integer_bitCount at h
  refine lv_iload_n hx hb d_Integer_bitCount_0 rfl (lv_at hl 0 rfl) ?_
  refine lv_iload_n hx hb d_Integer_bitCount_1 rfl (lv_at hl 0 rfl) ?_
  refine lv_iconst (v := 1) hx hb d_Integer_bitCount_2 (by decide) ?_
  refine lv_iushr (v := (x0.toUInt32 >>> ((1 : Int32).toUInt32 &&& Int32.toUInt32 31)).toInt32) hx hb d_Integer_bitCount_3 rfl ?_
  refine lv_ldcw (v := 1431655765) hx hb hown (hts _ (List.mem_cons_of_mem _ kw_294)) d_Integer_bitCount_4 ?_
  refine lv_iand hx hb d_Integer_bitCount_7 ?_
  refine lv_isub hx hb d_Integer_bitCount_8 ?_
  refine lv_istore_n (lv' := [(0, .int (x0 - (((x0.toUInt32 >>> ((1 : Int32).toUInt32 &&& Int32.toUInt32 31)).toInt32) &&& 1431655765)))]) hx hb d_Integer_bitCount_9 rfl hl (by decide) rfl (fun ls hl => ?_)
  refine lv_iload_n hx hb d_Integer_bitCount_10 rfl (lv_at hl 0 rfl) ?_
  refine lv_ldcw (v := 858993459) hx hb hown (hts _ (List.mem_cons_of_mem _ kw_295)) d_Integer_bitCount_11 ?_
  refine lv_iand hx hb d_Integer_bitCount_14 ?_
  refine lv_iload_n hx hb d_Integer_bitCount_15 rfl (lv_at hl 0 rfl) ?_
  refine lv_iconst (v := 2) hx hb d_Integer_bitCount_16 (by decide) ?_
  refine lv_iushr (v := ((x0 - (((x0.toUInt32 >>> ((1 : Int32).toUInt32 &&& Int32.toUInt32 31)).toInt32) &&& 1431655765)).toUInt32 >>> ((2 : Int32).toUInt32 &&& Int32.toUInt32 31)).toInt32) hx hb d_Integer_bitCount_17 rfl ?_
  refine lv_ldcw (v := 858993459) hx hb hown (hts _ (List.mem_cons_of_mem _ kw_295)) d_Integer_bitCount_18 ?_
  refine lv_iand hx hb d_Integer_bitCount_21 ?_
  refine lv_iadd hx hb d_Integer_bitCount_22 ?_
  refine lv_topi (fun y1 ey1 => ?_)
  have h := h y1 ey1
  refine lv_istore_n (lv' := [(0, .int y1)]) hx hb d_Integer_bitCount_23 rfl hl (by decide) rfl (fun ls hl => ?_)
  refine lv_iload_n hx hb d_Integer_bitCount_24 rfl (lv_at hl 0 rfl) ?_
  refine lv_iload_n hx hb d_Integer_bitCount_25 rfl (lv_at hl 0 rfl) ?_
  refine lv_iconst (v := 4) hx hb d_Integer_bitCount_26 (by decide) ?_
  refine lv_iushr (v := (y1.toUInt32 >>> ((4 : Int32).toUInt32 &&& Int32.toUInt32 31)).toInt32) hx hb d_Integer_bitCount_27 rfl ?_
  refine lv_iadd hx hb d_Integer_bitCount_28 ?_
  refine lv_ldcw (v := 252645135) hx hb hown (hts _ (List.mem_cons_of_mem _ kw_296)) d_Integer_bitCount_29 ?_
  refine lv_iand hx hb d_Integer_bitCount_32 ?_
  refine lv_istore_n (lv' := [(0, .int ((y1 + ((y1.toUInt32 >>> ((4 : Int32).toUInt32 &&& Int32.toUInt32 31)).toInt32)) &&& 252645135))]) hx hb d_Integer_bitCount_33 rfl hl (by decide) rfl (fun ls hl => ?_)
  refine lv_iload_n hx hb d_Integer_bitCount_34 rfl (lv_at hl 0 rfl) ?_
  refine lv_iload_n hx hb d_Integer_bitCount_35 rfl (lv_at hl 0 rfl) ?_
  refine lv_bipush (v := 8) hx hb d_Integer_bitCount_36 (by decide) ?_
  refine lv_iushr (v := (((y1 + ((y1.toUInt32 >>> ((4 : Int32).toUInt32 &&& Int32.toUInt32 31)).toInt32)) &&& 252645135).toUInt32 >>> ((8 : Int32).toUInt32 &&& Int32.toUInt32 31)).toInt32) hx hb d_Integer_bitCount_38 rfl ?_
  refine lv_iadd hx hb d_Integer_bitCount_39 ?_
  refine lv_topi (fun y2 ey2 => ?_)
  have h := h y2 ey2
  refine lv_istore_n (lv' := [(0, .int y2)]) hx hb d_Integer_bitCount_40 rfl hl (by decide) rfl (fun ls hl => ?_)
  refine lv_iload_n hx hb d_Integer_bitCount_41 rfl (lv_at hl 0 rfl) ?_
  refine lv_iload_n hx hb d_Integer_bitCount_42 rfl (lv_at hl 0 rfl) ?_
  refine lv_bipush (v := 16) hx hb d_Integer_bitCount_43 (by decide) ?_
  refine lv_iushr (v := (y2.toUInt32 >>> ((16 : Int32).toUInt32 &&& Int32.toUInt32 31)).toInt32) hx hb d_Integer_bitCount_45 rfl ?_
  refine lv_iadd hx hb d_Integer_bitCount_46 ?_
  refine lv_istore_n (lv' := [(0, .int (y2 + ((y2.toUInt32 >>> ((16 : Int32).toUInt32 &&& Int32.toUInt32 31)).toInt32)))]) hx hb d_Integer_bitCount_47 rfl hl (by decide) rfl (fun ls hl => ?_)
  refine lv_iload_n hx hb d_Integer_bitCount_48 rfl (lv_at hl 0 rfl) ?_
  refine lv_bipush (v := 63) hx hb d_Integer_bitCount_49 (by decide) ?_
  refine lv_iand hx hb d_Integer_bitCount_51 ?_
  exact W.iret hx hb hr (fun t ht hW => ⟨_, rfl, h, ht⟩) (fun _ h9 => by cases h9) d_Integer_bitCount_52
end
