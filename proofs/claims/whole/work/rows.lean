section
/-- a private method of a class that the tables say can be made, by its rows of tables_1 -/
def lw_okq (q : MethodName × Nat) : Prop := (q.1.cls ≠ "java/lang/invoke/MethodHandle" ∧ q.1.cls ≠ "java/lang/invoke/VarHandle") ∧ Cond.instantiable q.1.cls q.2 ∈ tables_1 ∧ Cond.privateMethod q.1 ∈ tables_1 ∧ Cond.instanceMethod q.1 ∈ tables_1
theorem lw_p0 : lw_okq (⟨"RootRows", "keepState", "()V"⟩, 10) := ⟨⟨by decide +kernel, by decide +kernel⟩, List.mem_of_getElem? (i := 11) (by decide +kernel), List.mem_of_getElem? (i := 170) (by decide +kernel), List.mem_of_getElem? (i := 171) (by decide +kernel)⟩
theorem lw_p1 : lw_okq (⟨"RootRows$State", "become", "(LRootRows$State;)V"⟩, 3) := ⟨⟨by decide +kernel, by decide +kernel⟩, List.mem_of_getElem? (i := 19) (by decide +kernel), List.mem_of_getElem? (i := 177) (by decide +kernel), List.mem_of_getElem? (i := 178) (by decide +kernel)⟩
theorem lw_p2 : lw_okq (⟨"RootRows$State", "setting", "(I)I"⟩, 3) := ⟨⟨by decide +kernel, by decide +kernel⟩, List.mem_of_getElem? (i := 19) (by decide +kernel), List.mem_of_getElem? (i := 181) (by decide +kernel), List.mem_of_getElem? (i := 182) (by decide +kernel)⟩
theorem lw_p3 : lw_okq (⟨"RootRows$State", "cellValue", "(I)J"⟩, 3) := ⟨⟨by decide +kernel, by decide +kernel⟩, List.mem_of_getElem? (i := 19) (by decide +kernel), List.mem_of_getElem? (i := 185) (by decide +kernel), List.mem_of_getElem? (i := 186) (by decide +kernel)⟩
theorem lw_p4 : lw_okq (⟨"RootRows$State", "formula", "(I)LRootRows$Formula;"⟩, 3) := ⟨⟨by decide +kernel, by decide +kernel⟩, List.mem_of_getElem? (i := 19) (by decide +kernel), List.mem_of_getElem? (i := 189) (by decide +kernel), List.mem_of_getElem? (i := 190) (by decide +kernel)⟩
theorem lw_p5 : lw_okq (⟨"RootRows$State", "changeSetting", "(II)V"⟩, 3) := ⟨⟨by decide +kernel, by decide +kernel⟩, List.mem_of_getElem? (i := 19) (by decide +kernel), List.mem_of_getElem? (i := 194) (by decide +kernel), List.mem_of_getElem? (i := 195) (by decide +kernel)⟩
theorem lw_p6 : lw_okq (⟨"RootRows$State", "changeCell", "(IJ)V"⟩, 3) := ⟨⟨by decide +kernel, by decide +kernel⟩, List.mem_of_getElem? (i := 19) (by decide +kernel), List.mem_of_getElem? (i := 207) (by decide +kernel), List.mem_of_getElem? (i := 208) (by decide +kernel)⟩
theorem lw_p7 : lw_okq (⟨"RootRows", "addToPad", "(C)V"⟩, 10) := ⟨⟨by decide +kernel, by decide +kernel⟩, List.mem_of_getElem? (i := 11) (by decide +kernel), List.mem_of_getElem? (i := 225) (by decide +kernel), List.mem_of_getElem? (i := 226) (by decide +kernel)⟩
theorem lw_p8 : lw_okq (⟨"RootRows$Reader", "faultOf", "([CI)I"⟩, 6) := ⟨⟨by decide +kernel, by decide +kernel⟩, List.mem_of_getElem? (i := 40) (by decide +kernel), List.mem_of_getElem? (i := 237) (by decide +kernel), List.mem_of_getElem? (i := 238) (by decide +kernel)⟩
theorem lw_p9 : lw_okq (⟨"RootRows$Reader", "takes", "(C)Z"⟩, 6) := ⟨⟨by decide +kernel, by decide +kernel⟩, List.mem_of_getElem? (i := 40) (by decide +kernel), List.mem_of_getElem? (i := 241) (by decide +kernel), List.mem_of_getElem? (i := 242) (by decide +kernel)⟩
theorem lw_p10 : lw_okq (⟨"RootRows$Reader", "takesFactor", "(C)Z"⟩, 6) := ⟨⟨by decide +kernel, by decide +kernel⟩, List.mem_of_getElem? (i := 40) (by decide +kernel), List.mem_of_getElem? (i := 245) (by decide +kernel), List.mem_of_getElem? (i := 246) (by decide +kernel)⟩
theorem lw_p11 : lw_okq (⟨"RootRows$Reader", "addStep", "(I)V"⟩, 6) := ⟨⟨by decide +kernel, by decide +kernel⟩, List.mem_of_getElem? (i := 40) (by decide +kernel), List.mem_of_getElem? (i := 252) (by decide +kernel), List.mem_of_getElem? (i := 253) (by decide +kernel)⟩
theorem lw_p12 : lw_okq (⟨"RootRows$Reader", "push", "(C)V"⟩, 6) := ⟨⟨by decide +kernel, by decide +kernel⟩, List.mem_of_getElem? (i := 40) (by decide +kernel), List.mem_of_getElem? (i := 259) (by decide +kernel), List.mem_of_getElem? (i := 260) (by decide +kernel)⟩
theorem lw_p13 : lw_okq (⟨"RootRows$Reader", "takesDigit", "(C)Z"⟩, 6) := ⟨⟨by decide +kernel, by decide +kernel⟩, List.mem_of_getElem? (i := 40) (by decide +kernel), List.mem_of_getElem? (i := 263) (by decide +kernel), List.mem_of_getElem? (i := 264) (by decide +kernel)⟩
theorem lw_p14 : lw_okq (⟨"RootRows$Reader", "takesBehind", "(C)Z"⟩, 6) := ⟨⟨by decide +kernel, by decide +kernel⟩, List.mem_of_getElem? (i := 40) (by decide +kernel), List.mem_of_getElem? (i := 267) (by decide +kernel), List.mem_of_getElem? (i := 268) (by decide +kernel)⟩
theorem lw_p15 : lw_okq (⟨"RootRows$Reader", "closeBracket", "()V"⟩, 6) := ⟨⟨by decide +kernel, by decide +kernel⟩, List.mem_of_getElem? (i := 40) (by decide +kernel), List.mem_of_getElem? (i := 271) (by decide +kernel), List.mem_of_getElem? (i := 272) (by decide +kernel)⟩
def lw_privs_1 : List (MethodName × Nat) := [(⟨"RootRows", "keepState", "()V"⟩, 10), (⟨"RootRows$State", "become", "(LRootRows$State;)V"⟩, 3), (⟨"RootRows$State", "setting", "(I)I"⟩, 3), (⟨"RootRows$State", "cellValue", "(I)J"⟩, 3), (⟨"RootRows$State", "formula", "(I)LRootRows$Formula;"⟩, 3), (⟨"RootRows$State", "changeSetting", "(II)V"⟩, 3), (⟨"RootRows$State", "changeCell", "(IJ)V"⟩, 3), (⟨"RootRows", "addToPad", "(C)V"⟩, 10), (⟨"RootRows$Reader", "faultOf", "([CI)I"⟩, 6), (⟨"RootRows$Reader", "takes", "(C)Z"⟩, 6), (⟨"RootRows$Reader", "takesFactor", "(C)Z"⟩, 6), (⟨"RootRows$Reader", "addStep", "(I)V"⟩, 6), (⟨"RootRows$Reader", "push", "(C)V"⟩, 6), (⟨"RootRows$Reader", "takesDigit", "(C)Z"⟩, 6), (⟨"RootRows$Reader", "takesBehind", "(C)Z"⟩, 6), (⟨"RootRows$Reader", "closeBracket", "()V"⟩, 6)]
theorem lw_r1 : ∀ q ∈ lw_privs_1, lw_okq q := List.forall_mem_cons.mpr ⟨lw_p0, List.forall_mem_cons.mpr ⟨lw_p1, List.forall_mem_cons.mpr ⟨lw_p2, List.forall_mem_cons.mpr ⟨lw_p3, List.forall_mem_cons.mpr ⟨lw_p4, List.forall_mem_cons.mpr ⟨lw_p5, List.forall_mem_cons.mpr ⟨lw_p6, List.forall_mem_cons.mpr ⟨lw_p7, List.forall_mem_cons.mpr ⟨lw_p8, List.forall_mem_cons.mpr ⟨lw_p9, List.forall_mem_cons.mpr ⟨lw_p10, List.forall_mem_cons.mpr ⟨lw_p11, List.forall_mem_cons.mpr ⟨lw_p12, List.forall_mem_cons.mpr ⟨lw_p13, List.forall_mem_cons.mpr ⟨lw_p14, List.forall_mem_cons.mpr ⟨lw_p15, fun _ h => absurd h List.not_mem_nil⟩⟩⟩⟩⟩⟩⟩⟩⟩⟩⟩⟩⟩⟩⟩⟩
theorem lw_p16 : lw_okq (⟨"RootRows$Reader", "release", "(I)V"⟩, 6) := ⟨⟨by decide +kernel, by decide +kernel⟩, List.mem_of_getElem? (i := 40) (by decide +kernel), List.mem_of_getElem? (i := 275) (by decide +kernel), List.mem_of_getElem? (i := 276) (by decide +kernel)⟩
theorem lw_p17 : lw_okq (⟨"RootRows$Reader", "top", "()C"⟩, 6) := ⟨⟨by decide +kernel, by decide +kernel⟩, List.mem_of_getElem? (i := 40) (by decide +kernel), List.mem_of_getElem? (i := 279) (by decide +kernel), List.mem_of_getElem? (i := 280) (by decide +kernel)⟩
theorem lw_p18 : lw_okq (⟨"RootRows$State", "changeFormula", "(ILRootRows$Formula;)V"⟩, 3) := ⟨⟨by decide +kernel, by decide +kernel⟩, List.mem_of_getElem? (i := 19) (by decide +kernel), List.mem_of_getElem? (i := 306) (by decide +kernel), List.mem_of_getElem? (i := 307) (by decide +kernel)⟩
theorem lw_p19 : lw_okq (⟨"RootRows$Reckoner", "reckon", "(LRootRows$Formula;LRootRows$State;)V"⟩, 5) := ⟨⟨by decide +kernel, by decide +kernel⟩, List.mem_of_getElem? (i := 68) (by decide +kernel), List.mem_of_getElem? (i := 315) (by decide +kernel), List.mem_of_getElem? (i := 316) (by decide +kernel)⟩
theorem lw_p20 : lw_okq (⟨"RootRows$Reckoner", "numberOf", "(ILRootRows$State;)J"⟩, 5) := ⟨⟨by decide +kernel, by decide +kernel⟩, List.mem_of_getElem? (i := 68) (by decide +kernel), List.mem_of_getElem? (i := 319) (by decide +kernel), List.mem_of_getElem? (i := 320) (by decide +kernel)⟩
theorem lw_p21 : lw_okq (⟨"RootRows$Reckoner", "pop", "()J"⟩, 5) := ⟨⟨by decide +kernel, by decide +kernel⟩, List.mem_of_getElem? (i := 68) (by decide +kernel), List.mem_of_getElem? (i := 326) (by decide +kernel), List.mem_of_getElem? (i := 327) (by decide +kernel)⟩
theorem lw_p22 : lw_okq (⟨"RootRows$Reckoner", "push", "(J)V"⟩, 5) := ⟨⟨by decide +kernel, by decide +kernel⟩, List.mem_of_getElem? (i := 68) (by decide +kernel), List.mem_of_getElem? (i := 350) (by decide +kernel), List.mem_of_getElem? (i := 351) (by decide +kernel)⟩
theorem lw_p23 : lw_okq (⟨"RootRows$Reckoner", "result", "()J"⟩, 5) := ⟨⟨by decide +kernel, by decide +kernel⟩, List.mem_of_getElem? (i := 68) (by decide +kernel), List.mem_of_getElem? (i := 355) (by decide +kernel), List.mem_of_getElem? (i := 356) (by decide +kernel)⟩
theorem lw_p24 : lw_okq (⟨"RootRows$Reckoner", "valueOf", "(I)J"⟩, 5) := ⟨⟨by decide +kernel, by decide +kernel⟩, List.mem_of_getElem? (i := 68) (by decide +kernel), List.mem_of_getElem? (i := 359) (by decide +kernel), List.mem_of_getElem? (i := 360) (by decide +kernel)⟩
theorem lw_p25 : lw_okq (⟨"RootRows$Formula", "cellsNamed", "()I"⟩, 1) := ⟨⟨by decide +kernel, by decide +kernel⟩, List.mem_of_getElem? (i := 291) (by decide +kernel), List.mem_of_getElem? (i := 376) (by decide +kernel), List.mem_of_getElem? (i := 377) (by decide +kernel)⟩
theorem lw_p26 : lw_okq (⟨"RootRows$Formula", "rootsInside", "()I"⟩, 1) := ⟨⟨by decide +kernel, by decide +kernel⟩, List.mem_of_getElem? (i := 291) (by decide +kernel), List.mem_of_getElem? (i := 382) (by decide +kernel), List.mem_of_getElem? (i := 383) (by decide +kernel)⟩
theorem lw_p27 : lw_okq (⟨"RootRows$State", "formulasThere", "()I"⟩, 3) := ⟨⟨by decide +kernel, by decide +kernel⟩, List.mem_of_getElem? (i := 19) (by decide +kernel), List.mem_of_getElem? (i := 395) (by decide +kernel), List.mem_of_getElem? (i := 396) (by decide +kernel)⟩
theorem lw_p28 : lw_okq (⟨"RootRows$State", "cellsNotZero", "()I"⟩, 3) := ⟨⟨by decide +kernel, by decide +kernel⟩, List.mem_of_getElem? (i := 19) (by decide +kernel), List.mem_of_getElem? (i := 399) (by decide +kernel), List.mem_of_getElem? (i := 400) (by decide +kernel)⟩
theorem lw_p29 : lw_okq (⟨"RootRows$Fraction", "start", "(I)V"⟩, 9) := ⟨⟨by decide +kernel, by decide +kernel⟩, List.mem_of_getElem? (i := 92) (by decide +kernel), List.mem_of_getElem? (i := 452) (by decide +kernel), List.mem_of_getElem? (i := 453) (by decide +kernel)⟩
theorem lw_p30 : lw_okq (⟨"RootRows$Fraction", "goesOn", "()Z"⟩, 9) := ⟨⟨by decide +kernel, by decide +kernel⟩, List.mem_of_getElem? (i := 92) (by decide +kernel), List.mem_of_getElem? (i := 458) (by decide +kernel), List.mem_of_getElem? (i := 459) (by decide +kernel)⟩
theorem lw_p31 : lw_okq (⟨"RootRows$Fraction", "extend", "()V"⟩, 9) := ⟨⟨by decide +kernel, by decide +kernel⟩, List.mem_of_getElem? (i := 92) (by decide +kernel), List.mem_of_getElem? (i := 471) (by decide +kernel), List.mem_of_getElem? (i := 472) (by decide +kernel)⟩
def lw_privs_2 : List (MethodName × Nat) := [(⟨"RootRows$Reader", "release", "(I)V"⟩, 6), (⟨"RootRows$Reader", "top", "()C"⟩, 6), (⟨"RootRows$State", "changeFormula", "(ILRootRows$Formula;)V"⟩, 3), (⟨"RootRows$Reckoner", "reckon", "(LRootRows$Formula;LRootRows$State;)V"⟩, 5), (⟨"RootRows$Reckoner", "numberOf", "(ILRootRows$State;)J"⟩, 5), (⟨"RootRows$Reckoner", "pop", "()J"⟩, 5), (⟨"RootRows$Reckoner", "push", "(J)V"⟩, 5), (⟨"RootRows$Reckoner", "result", "()J"⟩, 5), (⟨"RootRows$Reckoner", "valueOf", "(I)J"⟩, 5), (⟨"RootRows$Formula", "cellsNamed", "()I"⟩, 1), (⟨"RootRows$Formula", "rootsInside", "()I"⟩, 1), (⟨"RootRows$State", "formulasThere", "()I"⟩, 3), (⟨"RootRows$State", "cellsNotZero", "()I"⟩, 3), (⟨"RootRows$Fraction", "start", "(I)V"⟩, 9), (⟨"RootRows$Fraction", "goesOn", "()Z"⟩, 9), (⟨"RootRows$Fraction", "extend", "()V"⟩, 9)]
theorem lw_r2 : ∀ q ∈ lw_privs_2, lw_okq q := List.forall_mem_cons.mpr ⟨lw_p16, List.forall_mem_cons.mpr ⟨lw_p17, List.forall_mem_cons.mpr ⟨lw_p18, List.forall_mem_cons.mpr ⟨lw_p19, List.forall_mem_cons.mpr ⟨lw_p20, List.forall_mem_cons.mpr ⟨lw_p21, List.forall_mem_cons.mpr ⟨lw_p22, List.forall_mem_cons.mpr ⟨lw_p23, List.forall_mem_cons.mpr ⟨lw_p24, List.forall_mem_cons.mpr ⟨lw_p25, List.forall_mem_cons.mpr ⟨lw_p26, List.forall_mem_cons.mpr ⟨lw_p27, List.forall_mem_cons.mpr ⟨lw_p28, List.forall_mem_cons.mpr ⟨lw_p29, List.forall_mem_cons.mpr ⟨lw_p30, List.forall_mem_cons.mpr ⟨lw_p31, fun _ h => absurd h List.not_mem_nil⟩⟩⟩⟩⟩⟩⟩⟩⟩⟩⟩⟩⟩⟩⟩⟩
theorem lw_p32 : lw_okq (⟨"RootRowsModel", "record", "()V"⟩, 25) := ⟨⟨by decide +kernel, by decide +kernel⟩, List.mem_of_getElem? (i := 503) (by decide +kernel), List.mem_of_getElem? (i := 593) (by decide +kernel), List.mem_of_getElem? (i := 594) (by decide +kernel)⟩
theorem lw_p33 : lw_okq (⟨"RootRowsModel", "readPad", "()I"⟩, 25) := ⟨⟨by decide +kernel, by decide +kernel⟩, List.mem_of_getElem? (i := 503) (by decide +kernel), List.mem_of_getElem? (i := 624) (by decide +kernel), List.mem_of_getElem? (i := 625) (by decide +kernel)⟩
theorem lw_p34 : lw_okq (⟨"RootRowsModel", "readOperand", "()Z"⟩, 25) := ⟨⟨by decide +kernel, by decide +kernel⟩, List.mem_of_getElem? (i := 503) (by decide +kernel), List.mem_of_getElem? (i := 628) (by decide +kernel), List.mem_of_getElem? (i := 629) (by decide +kernel)⟩
theorem lw_p35 : lw_okq (⟨"RootRowsModel", "sign", "()I"⟩, 25) := ⟨⟨by decide +kernel, by decide +kernel⟩, List.mem_of_getElem? (i := 503) (by decide +kernel), List.mem_of_getElem? (i := 632) (by decide +kernel), List.mem_of_getElem? (i := 633) (by decide +kernel)⟩
theorem lw_p36 : lw_okq (⟨"RootRowsModel", "readNumber", "()V"⟩, 25) := ⟨⟨by decide +kernel, by decide +kernel⟩, List.mem_of_getElem? (i := 503) (by decide +kernel), List.mem_of_getElem? (i := 636) (by decide +kernel), List.mem_of_getElem? (i := 637) (by decide +kernel)⟩
theorem lw_p37 : lw_okq (⟨"RootRowsModel", "emit", "(II)V"⟩, 25) := ⟨⟨by decide +kernel, by decide +kernel⟩, List.mem_of_getElem? (i := 503) (by decide +kernel), List.mem_of_getElem? (i := 640) (by decide +kernel), List.mem_of_getElem? (i := 641) (by decide +kernel)⟩
theorem lw_p38 : lw_okq (⟨"RootRowsModel", "readOpening", "()Z"⟩, 25) := ⟨⟨by decide +kernel, by decide +kernel⟩, List.mem_of_getElem? (i := 503) (by decide +kernel), List.mem_of_getElem? (i := 644) (by decide +kernel), List.mem_of_getElem? (i := 645) (by decide +kernel)⟩
theorem lw_p39 : lw_okq (⟨"RootRowsModel", "push", "(I)V"⟩, 25) := ⟨⟨by decide +kernel, by decide +kernel⟩, List.mem_of_getElem? (i := 503) (by decide +kernel), List.mem_of_getElem? (i := 648) (by decide +kernel), List.mem_of_getElem? (i := 649) (by decide +kernel)⟩
theorem lw_p40 : lw_okq (⟨"RootRowsModel", "readBehind", "()Z"⟩, 25) := ⟨⟨by decide +kernel, by decide +kernel⟩, List.mem_of_getElem? (i := 503) (by decide +kernel), List.mem_of_getElem? (i := 652) (by decide +kernel), List.mem_of_getElem? (i := 653) (by decide +kernel)⟩
theorem lw_p41 : lw_okq (⟨"RootRowsModel", "close", "(I)V"⟩, 25) := ⟨⟨by decide +kernel, by decide +kernel⟩, List.mem_of_getElem? (i := 503) (by decide +kernel), List.mem_of_getElem? (i := 656) (by decide +kernel), List.mem_of_getElem? (i := 657) (by decide +kernel)⟩
theorem lw_p42 : lw_okq (⟨"RootRowsModel", "binds", "(I)Z"⟩, 25) := ⟨⟨by decide +kernel, by decide +kernel⟩, List.mem_of_getElem? (i := 503) (by decide +kernel), List.mem_of_getElem? (i := 660) (by decide +kernel), List.mem_of_getElem? (i := 661) (by decide +kernel)⟩
theorem lw_p43 : lw_okq (⟨"RootRowsModel", "isFormula", "(I)Z"⟩, 25) := ⟨⟨by decide +kernel, by decide +kernel⟩, List.mem_of_getElem? (i := 503) (by decide +kernel), List.mem_of_getElem? (i := 672) (by decide +kernel), List.mem_of_getElem? (i := 673) (by decide +kernel)⟩
theorem lw_p44 : lw_okq (⟨"RootRowsModel", "reckon", "(I)Z"⟩, 25) := ⟨⟨by decide +kernel, by decide +kernel⟩, List.mem_of_getElem? (i := 503) (by decide +kernel), List.mem_of_getElem? (i := 676) (by decide +kernel), List.mem_of_getElem? (i := 677) (by decide +kernel)⟩
theorem lw_p45 : lw_okq (⟨"RootRowsModel", "rounded", "(JI)J"⟩, 25) := ⟨⟨by decide +kernel, by decide +kernel⟩, List.mem_of_getElem? (i := 503) (by decide +kernel), List.mem_of_getElem? (i := 684) (by decide +kernel), List.mem_of_getElem? (i := 685) (by decide +kernel)⟩
theorem lw_p46 : lw_okq (⟨"RootRowsModel", "cellsOf", "(I)I"⟩, 25) := ⟨⟨by decide +kernel, by decide +kernel⟩, List.mem_of_getElem? (i := 503) (by decide +kernel), List.mem_of_getElem? (i := 712) (by decide +kernel), List.mem_of_getElem? (i := 713) (by decide +kernel)⟩
theorem lw_p47 : lw_okq (⟨"RootRowsModel", "rootsOf", "(I)I"⟩, 25) := ⟨⟨by decide +kernel, by decide +kernel⟩, List.mem_of_getElem? (i := 503) (by decide +kernel), List.mem_of_getElem? (i := 716) (by decide +kernel), List.mem_of_getElem? (i := 717) (by decide +kernel)⟩
def lw_privs_3 : List (MethodName × Nat) := [(⟨"RootRowsModel", "record", "()V"⟩, 25), (⟨"RootRowsModel", "readPad", "()I"⟩, 25), (⟨"RootRowsModel", "readOperand", "()Z"⟩, 25), (⟨"RootRowsModel", "sign", "()I"⟩, 25), (⟨"RootRowsModel", "readNumber", "()V"⟩, 25), (⟨"RootRowsModel", "emit", "(II)V"⟩, 25), (⟨"RootRowsModel", "readOpening", "()Z"⟩, 25), (⟨"RootRowsModel", "push", "(I)V"⟩, 25), (⟨"RootRowsModel", "readBehind", "()Z"⟩, 25), (⟨"RootRowsModel", "close", "(I)V"⟩, 25), (⟨"RootRowsModel", "binds", "(I)Z"⟩, 25), (⟨"RootRowsModel", "isFormula", "(I)Z"⟩, 25), (⟨"RootRowsModel", "reckon", "(I)Z"⟩, 25), (⟨"RootRowsModel", "rounded", "(JI)J"⟩, 25), (⟨"RootRowsModel", "cellsOf", "(I)I"⟩, 25), (⟨"RootRowsModel", "rootsOf", "(I)I"⟩, 25)]
theorem lw_r3 : ∀ q ∈ lw_privs_3, lw_okq q := List.forall_mem_cons.mpr ⟨lw_p32, List.forall_mem_cons.mpr ⟨lw_p33, List.forall_mem_cons.mpr ⟨lw_p34, List.forall_mem_cons.mpr ⟨lw_p35, List.forall_mem_cons.mpr ⟨lw_p36, List.forall_mem_cons.mpr ⟨lw_p37, List.forall_mem_cons.mpr ⟨lw_p38, List.forall_mem_cons.mpr ⟨lw_p39, List.forall_mem_cons.mpr ⟨lw_p40, List.forall_mem_cons.mpr ⟨lw_p41, List.forall_mem_cons.mpr ⟨lw_p42, List.forall_mem_cons.mpr ⟨lw_p43, List.forall_mem_cons.mpr ⟨lw_p44, List.forall_mem_cons.mpr ⟨lw_p45, List.forall_mem_cons.mpr ⟨lw_p46, List.forall_mem_cons.mpr ⟨lw_p47, fun _ h => absurd h List.not_mem_nil⟩⟩⟩⟩⟩⟩⟩⟩⟩⟩⟩⟩⟩⟩⟩⟩
theorem lw_p48 : lw_okq (⟨"RootRowsModel", "formulas", "()I"⟩, 25) := ⟨⟨by decide +kernel, by decide +kernel⟩, List.mem_of_getElem? (i := 503) (by decide +kernel), List.mem_of_getElem? (i := 728) (by decide +kernel), List.mem_of_getElem? (i := 729) (by decide +kernel)⟩
theorem lw_p49 : lw_okq (⟨"RootRowsModel", "beginFraction", "(I)V"⟩, 25) := ⟨⟨by decide +kernel, by decide +kernel⟩, List.mem_of_getElem? (i := 503) (by decide +kernel), List.mem_of_getElem? (i := 768) (by decide +kernel), List.mem_of_getElem? (i := 769) (by decide +kernel)⟩
theorem lw_p50 : lw_okq (⟨"RootRowsModel", "nextTerm", "(I)V"⟩, 25) := ⟨⟨by decide +kernel, by decide +kernel⟩, List.mem_of_getElem? (i := 503) (by decide +kernel), List.mem_of_getElem? (i := 772) (by decide +kernel), List.mem_of_getElem? (i := 773) (by decide +kernel)⟩
def lw_privs_4 : List (MethodName × Nat) := [(⟨"RootRowsModel", "formulas", "()I"⟩, 25), (⟨"RootRowsModel", "beginFraction", "(I)V"⟩, 25), (⟨"RootRowsModel", "nextTerm", "(I)V"⟩, 25)]
theorem lw_r4 : ∀ q ∈ lw_privs_4, lw_okq q := List.forall_mem_cons.mpr ⟨lw_p48, List.forall_mem_cons.mpr ⟨lw_p49, List.forall_mem_cons.mpr ⟨lw_p50, fun _ h => absurd h List.not_mem_nil⟩⟩⟩
def lw_privs : List (MethodName × Nat) := lw_privs_1 ++ (lw_privs_2 ++ (lw_privs_3 ++ (lw_privs_4)))
def lw_tbl : List Cond := k2_sels lw_privs ++ tables_1
theorem lw_privs_ok : ∀ q ∈ lw_privs, lw_okq q := by
  show ∀ q ∈ lw_privs_1 ++ (lw_privs_2 ++ (lw_privs_3 ++ (lw_privs_4))), lw_okq q
  exact List.forall_mem_append.mpr ⟨lw_r1, List.forall_mem_append.mpr ⟨lw_r2, List.forall_mem_append.mpr ⟨lw_r3, lw_r4⟩⟩⟩
end
section
def RX0 : String := "RootRows$Formula"
def TX0 : u_T := fun k => match k with
  | _ => ("RootRows$Formula", "steps", "[I", true)
def tyX0 : Nat → FieldType := fun k => match k with
  | _ => .array .int
abbrev wsX00 : List Cond := u_ws RX0 TX0 1
theorem nmX0 : ∀ a, a < 1 → ∀ b, b < 1 → a ≠ b → (TX0 a).2.1 ≠ (TX0 b).2.1 := by decide +kernel
theorem tyX0_ok : ∀ k, k < 1 → parseFieldDescriptor (TX0 k).2.2.1 = some (tyX0 k) := by decide +kernel
abbrev cX0_init : ByteArray := prog_2_method_1_code
def yX0_init : MethodName := ⟨RX0, "<init>", "([II)V"⟩
abbrev cX0_cellsNamed : ByteArray := prog_2_method_2_code
def yX0_cellsNamed : MethodName := ⟨RX0, "cellsNamed", "()I"⟩
abbrev cX0_rootsInside : ByteArray := prog_2_method_3_code
def yX0_rootsInside : MethodName := ⟨RX0, "rootsInside", "()I"⟩
def RX1 : String := "RootRows$Fraction"
def TX1 : u_T := fun k => match k with
  | 0 => ("RootRows$Fraction", "number", "I", false)
  | 1 => ("RootRows$Fraction", "whole", "I", false)
  | 2 => ("RootRows$Fraction", "addend", "I", false)
  | 3 => ("RootRows$Fraction", "divisor", "I", false)
  | 4 => ("RootRows$Fraction", "quotient", "I", false)
  | 5 => ("RootRows$Fraction", "upper", "J", false)
  | 6 => ("RootRows$Fraction", "lower", "J", false)
  | 7 => ("RootRows$Fraction", "upperBefore", "J", false)
  | _ => ("RootRows$Fraction", "lowerBefore", "J", false)
def tyX1 : Nat → FieldType := fun k => match k with
  | 0 => .int
  | 1 => .int
  | 2 => .int
  | 3 => .int
  | 4 => .int
  | 5 => .long
  | 6 => .long
  | 7 => .long
  | _ => .long
abbrev wsX10 : List Cond := u_ws RX1 TX1 9
theorem nmX1 : ∀ a, a < 9 → ∀ b, b < 9 → a ≠ b → (TX1 a).2.1 ≠ (TX1 b).2.1 := by decide +kernel
theorem tyX1_ok : ∀ k, k < 9 → parseFieldDescriptor (TX1 k).2.2.1 = some (tyX1 k) := by decide +kernel
abbrev cX1_init : ByteArray := prog_3_method_1_code
def yX1_init : MethodName := ⟨RX1, "<init>", "()V"⟩
abbrev cX1_start : ByteArray := prog_3_method_2_code
def yX1_start : MethodName := ⟨RX1, "start", "(I)V"⟩
abbrev cX1_goesOn : ByteArray := prog_3_method_3_code
def yX1_goesOn : MethodName := ⟨RX1, "goesOn", "()Z"⟩
abbrev cX1_extend : ByteArray := prog_3_method_4_code
def yX1_extend : MethodName := ⟨RX1, "extend", "()V"⟩
def RX2 : String := "RootRows$Reader"
def TX2 : u_T := fun k => match k with
  | 0 => ("RootRows$Reader", "steps", "[I", true)
  | 1 => ("RootRows$Reader", "waiting", "[C", true)
  | 2 => ("RootRows$Reader", "size", "I", false)
  | 3 => ("RootRows$Reader", "waits", "I", false)
  | 4 => ("RootRows$Reader", "open", "I", false)
  | _ => ("RootRows$Reader", "next", "I", false)
def tyX2 : Nat → FieldType := fun k => match k with
  | 0 => .array .int
  | 1 => .array .char
  | 2 => .int
  | 3 => .int
  | 4 => .int
  | _ => .int
abbrev wsX20 : List Cond := u_ws RX2 TX2 6
theorem nmX2 : ∀ a, a < 6 → ∀ b, b < 6 → a ≠ b → (TX2 a).2.1 ≠ (TX2 b).2.1 := by decide +kernel
theorem tyX2_ok : ∀ k, k < 6 → parseFieldDescriptor (TX2 k).2.2.1 = some (tyX2 k) := by decide +kernel
abbrev cX2_init : ByteArray := prog_4_method_1_code
def yX2_init : MethodName := ⟨RX2, "<init>", "()V"⟩
abbrev cX2_faultOf : ByteArray := prog_4_method_2_code
def yX2_faultOf : MethodName := ⟨RX2, "faultOf", "([CI)I"⟩
abbrev cX2_takes : ByteArray := prog_4_method_3_code
def yX2_takes : MethodName := ⟨RX2, "takes", "(C)Z"⟩
abbrev cX2_takesFactor : ByteArray := prog_4_method_4_code
def yX2_takesFactor : MethodName := ⟨RX2, "takesFactor", "(C)Z"⟩
abbrev cX2_takesDigit : ByteArray := prog_4_method_5_code
def yX2_takesDigit : MethodName := ⟨RX2, "takesDigit", "(C)Z"⟩
abbrev cX2_takesBehind : ByteArray := prog_4_method_6_code
def yX2_takesBehind : MethodName := ⟨RX2, "takesBehind", "(C)Z"⟩
abbrev cX2_closeBracket : ByteArray := prog_4_method_7_code
def yX2_closeBracket : MethodName := ⟨RX2, "closeBracket", "()V"⟩
abbrev cX2_release : ByteArray := prog_4_method_8_code
def yX2_release : MethodName := ⟨RX2, "release", "(I)V"⟩
abbrev cX2_strengthOf : ByteArray := prog_4_method_9_code
def yX2_strengthOf : MethodName := ⟨RX2, "strengthOf", "(C)I"⟩
abbrev cX2_isDigit : ByteArray := prog_4_method_10_code
def yX2_isDigit : MethodName := ⟨RX2, "isDigit", "(C)Z"⟩
abbrev cX2_addStep : ByteArray := prog_4_method_11_code
def yX2_addStep : MethodName := ⟨RX2, "addStep", "(I)V"⟩
abbrev cX2_push : ByteArray := prog_4_method_12_code
def yX2_push : MethodName := ⟨RX2, "push", "(C)V"⟩
abbrev cX2_top : ByteArray := prog_4_method_13_code
def yX2_top : MethodName := ⟨RX2, "top", "()C"⟩
def RX3 : String := "RootRows$Reckoner"
def TX3 : u_T := fun k => match k with
  | 0 => ("RootRows$Reckoner", "values", "[J", true)
  | 1 => ("RootRows$Reckoner", "operands", "[J", true)
  | 2 => ("RootRows$Reckoner", "height", "I", false)
  | 3 => ("RootRows$Reckoner", "reached", "I", false)
  | _ => ("RootRows$Reckoner", "reason", "I", false)
def tyX3 : Nat → FieldType := fun k => match k with
  | 0 => .array .long
  | 1 => .array .long
  | 2 => .int
  | 3 => .int
  | _ => .int
abbrev wsX30 : List Cond := u_ws RX3 TX3 5
theorem nmX3 : ∀ a, a < 5 → ∀ b, b < 5 → a ≠ b → (TX3 a).2.1 ≠ (TX3 b).2.1 := by decide +kernel
theorem tyX3_ok : ∀ k, k < 5 → parseFieldDescriptor (TX3 k).2.2.1 = some (tyX3 k) := by decide +kernel
abbrev cX3_init : ByteArray := prog_5_method_1_code
def yX3_init : MethodName := ⟨RX3, "<init>", "()V"⟩
abbrev cX3_reckon : ByteArray := prog_5_method_2_code
def yX3_reckon : MethodName := ⟨RX3, "reckon", "(LRootRows$Formula;LRootRows$State;)V"⟩
abbrev cX3_numberOf : ByteArray := prog_5_method_3_code
def yX3_numberOf : MethodName := ⟨RX3, "numberOf", "(ILRootRows$State;)J"⟩
abbrev cX3_product : ByteArray := prog_5_method_4_code
def yX3_product : MethodName := ⟨RX3, "product", "(JJ)J"⟩
abbrev cX3_result : ByteArray := prog_5_method_5_code
def yX3_result : MethodName := ⟨RX3, "result", "()J"⟩
abbrev cX3_valueOf : ByteArray := prog_5_method_6_code
def yX3_valueOf : MethodName := ⟨RX3, "valueOf", "(I)J"⟩
abbrev cX3_push : ByteArray := prog_5_method_7_code
def yX3_push : MethodName := ⟨RX3, "push", "(J)V"⟩
abbrev cX3_pop : ByteArray := prog_5_method_8_code
def yX3_pop : MethodName := ⟨RX3, "pop", "()J"⟩
def RX4 : String := "RootRows$State"
def TX4 : u_T := fun k => match k with
  | 0 => ("RootRows$State", "settings", "[I", true)
  | 1 => ("RootRows$State", "cells", "[J", true)
  | _ => ("RootRows$State", "formulas", "[LRootRows$Formula;", true)
def tyX4 : Nat → FieldType := fun k => match k with
  | 0 => .array .int
  | 1 => .array .long
  | _ => .array (.object "RootRows$Formula")
abbrev wsX40 : List Cond := u_ws RX4 TX4 3
theorem nmX4 : ∀ a, a < 3 → ∀ b, b < 3 → a ≠ b → (TX4 a).2.1 ≠ (TX4 b).2.1 := by decide +kernel
theorem tyX4_ok : ∀ k, k < 3 → parseFieldDescriptor (TX4 k).2.2.1 = some (tyX4 k) := by decide +kernel
abbrev cX4_init : ByteArray := prog_6_method_1_code
def yX4_init : MethodName := ⟨RX4, "<init>", "()V"⟩
abbrev cX4_become : ByteArray := prog_6_method_2_code
def yX4_become : MethodName := ⟨RX4, "become", "(LRootRows$State;)V"⟩
abbrev cX4_setting : ByteArray := prog_6_method_3_code
def yX4_setting : MethodName := ⟨RX4, "setting", "(I)I"⟩
abbrev cX4_changeSetting : ByteArray := prog_6_method_4_code
def yX4_changeSetting : MethodName := ⟨RX4, "changeSetting", "(II)V"⟩
abbrev cX4_cellValue : ByteArray := prog_6_method_5_code
def yX4_cellValue : MethodName := ⟨RX4, "cellValue", "(I)J"⟩
abbrev cX4_changeCell : ByteArray := prog_6_method_6_code
def yX4_changeCell : MethodName := ⟨RX4, "changeCell", "(IJ)V"⟩
abbrev cX4_formula : ByteArray := prog_6_method_7_code
def yX4_formula : MethodName := ⟨RX4, "formula", "(I)LRootRows$Formula;"⟩
abbrev cX4_changeFormula : ByteArray := prog_6_method_8_code
def yX4_changeFormula : MethodName := ⟨RX4, "changeFormula", "(ILRootRows$Formula;)V"⟩
abbrev cX4_formulasThere : ByteArray := prog_6_method_9_code
def yX4_formulasThere : MethodName := ⟨RX4, "formulasThere", "()I"⟩
abbrev cX4_cellsNotZero : ByteArray := prog_6_method_10_code
def yX4_cellsNotZero : MethodName := ⟨RX4, "cellsNotZero", "()I"⟩
def RX5 : String := "RootRows"
def TX5 : u_T := fun k => match k with
  | 0 => ("RootRows", "now", "LRootRows$State;", true)
  | 1 => ("RootRows", "history", "[LRootRows$State;", true)
  | 2 => ("RootRows", "slots", "[LRootRows$State;", true)
  | 3 => ("RootRows", "pad", "[C", true)
  | 4 => ("RootRows", "reader", "LRootRows$Reader;", true)
  | 5 => ("RootRows", "reckoner", "LRootRows$Reckoner;", true)
  | 6 => ("RootRows", "fraction", "LRootRows$Fraction;", true)
  | 7 => ("RootRows", "padLength", "I", false)
  | 8 => ("RootRows", "oldest", "I", false)
  | _ => ("RootRows", "changes", "I", false)
def tyX5 : Nat → FieldType := fun k => match k with
  | 0 => .object "RootRows$State"
  | 1 => .array (.object "RootRows$State")
  | 2 => .array (.object "RootRows$State")
  | 3 => .array .char
  | 4 => .object "RootRows$Reader"
  | 5 => .object "RootRows$Reckoner"
  | 6 => .object "RootRows$Fraction"
  | 7 => .int
  | 8 => .int
  | _ => .int
abbrev wsX50 : List Cond := u_ws RX5 TX5 10
theorem nmX5 : ∀ a, a < 10 → ∀ b, b < 10 → a ≠ b → (TX5 a).2.1 ≠ (TX5 b).2.1 := by decide +kernel
theorem tyX5_ok : ∀ k, k < 10 → parseFieldDescriptor (TX5 k).2.2.1 = some (tyX5 k) := by decide +kernel
abbrev cX5_init : ByteArray := prog_1_method_1_code
def yX5_init : MethodName := ⟨RX5, "<init>", "()V"⟩
abbrev cX5_set : ByteArray := prog_1_method_2_code
def yX5_set : MethodName := ⟨RX5, "set", "(II)I"⟩
abbrev cX5_setCell : ByteArray := prog_1_method_3_code
def yX5_setCell : MethodName := ⟨RX5, "setCell", "(IJ)J"⟩
abbrev cX5_cell : ByteArray := prog_1_method_4_code
def yX5_cell : MethodName := ⟨RX5, "cell", "(I)J"⟩
abbrev cX5_put : ByteArray := prog_1_method_5_code
def yX5_put : MethodName := ⟨RX5, "put", "(J)I"⟩
abbrev cX5_wipe : ByteArray := prog_1_method_6_code
def yX5_wipe : MethodName := ⟨RX5, "wipe", "()I"⟩
abbrev cX5_fault : ByteArray := prog_1_method_7_code
def yX5_fault : MethodName := ⟨RX5, "fault", "()I"⟩
abbrev cX5_load : ByteArray := prog_1_method_8_code
def yX5_load : MethodName := ⟨RX5, "load", "(I)I"⟩
abbrev cX5_assign : ByteArray := prog_1_method_9_code
def yX5_assign : MethodName := ⟨RX5, "assign", "(II)J"⟩
abbrev cX5_settle : ByteArray := prog_1_method_10_code
def yX5_settle : MethodName := ⟨RX5, "settle", "(III)I"⟩
abbrev cX5_value : ByteArray := prog_1_method_11_code
def yX5_value : MethodName := ⟨RX5, "value", "(I)J"⟩
abbrev cX5_ofFormula : ByteArray := prog_1_method_12_code
def yX5_ofFormula : MethodName := ⟨RX5, "ofFormula", "(II)I"⟩
abbrev cX5_stepValue : ByteArray := prog_1_method_13_code
def yX5_stepValue : MethodName := ⟨RX5, "stepValue", "(II)J"⟩
abbrev cX5_count : ByteArray := prog_1_method_14_code
def yX5_count : MethodName := ⟨RX5, "count", "(I)I"⟩
abbrev cX5_root : ByteArray := prog_1_method_15_code
def yX5_root : MethodName := ⟨RX5, "root", "(JI)I"⟩
abbrev cX5_remainder : ByteArray := prog_1_method_16_code
def yX5_remainder : MethodName := ⟨RX5, "remainder", "(JI)J"⟩
abbrev cX5_bit : ByteArray := prog_1_method_17_code
def yX5_bit : MethodName := ⟨RX5, "bit", "(JIII)J"⟩
abbrev cX5_digits : ByteArray := prog_1_method_18_code
def yX5_digits : MethodName := ⟨RX5, "digits", "(I)I"⟩
abbrev cX5_compare : ByteArray := prog_1_method_19_code
def yX5_compare : MethodName := ⟨RX5, "compare", "(IIII)I"⟩
abbrev cX5_period : ByteArray := prog_1_method_20_code
def yX5_period : MethodName := ⟨RX5, "period", "(I)I"⟩
abbrev cX5_term : ByteArray := prog_1_method_21_code
def yX5_term : MethodName := ⟨RX5, "term", "(II)I"⟩
abbrev cX5_convergent : ByteArray := prog_1_method_22_code
def yX5_convergent : MethodName := ⟨RX5, "convergent", "(III)J"⟩
abbrev cX5_twoSquares : ByteArray := prog_1_method_23_code
def yX5_twoSquares : MethodName := ⟨RX5, "twoSquares", "(II)I"⟩
abbrev cX5_powers : ByteArray := prog_1_method_24_code
def yX5_powers : MethodName := ⟨RX5, "powers", "(JJ)I"⟩
abbrev cX5_rootSum : ByteArray := prog_1_method_25_code
def yX5_rootSum : MethodName := ⟨RX5, "rootSum", "(I)J"⟩
abbrev cX5_undo : ByteArray := prog_1_method_26_code
def yX5_undo : MethodName := ⟨RX5, "undo", "()I"⟩
abbrev cX5_save : ByteArray := prog_1_method_27_code
def yX5_save : MethodName := ⟨RX5, "save", "(I)I"⟩
abbrev cX5_restore : ByteArray := prog_1_method_28_code
def yX5_restore : MethodName := ⟨RX5, "restore", "(I)I"⟩
abbrev cX5_keepState : ByteArray := prog_1_method_29_code
def yX5_keepState : MethodName := ⟨RX5, "keepState", "()V"⟩
abbrev cX5_stateIn : ByteArray := prog_1_method_30_code
def yX5_stateIn : MethodName := ⟨RX5, "stateIn", "([LRootRows$State;I)LRootRows$State;"⟩
abbrev cX5_sizeOf : ByteArray := prog_1_method_31_code
def yX5_sizeOf : MethodName := ⟨RX5, "sizeOf", "(J)I"⟩
abbrev cX5_addToPad : ByteArray := prog_1_method_32_code
def yX5_addToPad : MethodName := ⟨RX5, "addToPad", "(C)V"⟩
abbrev cX5_within : ByteArray := prog_1_method_33_code
def yX5_within : MethodName := ⟨RX5, "within", "(JJJ)Z"⟩
abbrev cX5_comparable : ByteArray := prog_1_method_34_code
def yX5_comparable : MethodName := ⟨RX5, "comparable", "(I)Z"⟩
abbrev cX5_power : ByteArray := prog_1_method_35_code
def yX5_power : MethodName := ⟨RX5, "power", "(JI)J"⟩
abbrev cX5_firstBit : ByteArray := prog_1_method_36_code
def yX5_firstBit : MethodName := ⟨RX5, "firstBit", "(JI)J"⟩
abbrev cX5_rootDown : ByteArray := prog_1_method_37_code
def yX5_rootDown : MethodName := ⟨RX5, "rootDown", "(JI)J"⟩
abbrev cX5_rootRounded : ByteArray := prog_1_method_38_code
def yX5_rootRounded : MethodName := ⟨RX5, "rootRounded", "(JII)J"⟩
abbrev cX5_bitsOfRoot : ByteArray := prog_1_method_39_code
def yX5_bitsOfRoot : MethodName := ⟨RX5, "bitsOfRoot", "(JI)I"⟩
abbrev cX5_behindBit : ByteArray := prog_1_method_40_code
def yX5_behindBit : MethodName := ⟨RX5, "behindBit", "(JIII)J"⟩
abbrev cX5_signOfRoots : ByteArray := prog_1_method_41_code
def yX5_signOfRoots : MethodName := ⟨RX5, "signOfRoots", "(JJJ)I"⟩
abbrev cX5_signOfRootsAgainst : ByteArray := prog_1_method_42_code
def yX5_signOfRootsAgainst : MethodName := ⟨RX5, "signOfRootsAgainst", "(JJJ)I"⟩
abbrev cX5_powersBelow : ByteArray := prog_1_method_43_code
def yX5_powersBelow : MethodName := ⟨RX5, "powersBelow", "(J)J"⟩
def RX6 : String := "RootRowsModel"
def TX6 : u_T := fun k => match k with
  | 0 => ("RootRowsModel", "now", "[I", true)
  | 1 => ("RootRowsModel", "cells", "[J", true)
  | 2 => ("RootRowsModel", "history", "[I", true)
  | 3 => ("RootRowsModel", "historyCells", "[J", true)
  | 4 => ("RootRowsModel", "undos", "I", false)
  | 5 => ("RootRowsModel", "saved", "[I", true)
  | 6 => ("RootRowsModel", "savedCells", "[J", true)
  | 7 => ("RootRowsModel", "isSaved", "[Z", true)
  | 8 => ("RootRowsModel", "pad", "[I", true)
  | 9 => ("RootRowsModel", "signs", "I", false)
  | 10 => ("RootRowsModel", "kind", "[I", true)
  | 11 => ("RootRowsModel", "arg", "[I", true)
  | 12 => ("RootRowsModel", "read", "I", false)
  | 13 => ("RootRowsModel", "open", "[I", true)
  | 14 => ("RootRowsModel", "opened", "I", false)
  | 15 => ("RootRowsModel", "depth", "I", false)
  | 16 => ("RootRowsModel", "place", "I", false)
  | 17 => ("RootRowsModel", "values", "[J", true)
  | 18 => ("RootRowsModel", "pile", "[J", true)
  | 19 => ("RootRowsModel", "ends", "I", false)
  | 20 => ("RootRowsModel", "reason", "I", false)
  | 21 => ("RootRowsModel", "whole", "I", false)
  | 22 => ("RootRowsModel", "term", "I", false)
  | 23 => ("RootRowsModel", "m", "I", false)
  | _ => ("RootRowsModel", "d", "I", false)
def tyX6 : Nat → FieldType := fun k => match k with
  | 0 => .array .int
  | 1 => .array .long
  | 2 => .array .int
  | 3 => .array .long
  | 4 => .int
  | 5 => .array .int
  | 6 => .array .long
  | 7 => .array .boolean
  | 8 => .array .int
  | 9 => .int
  | 10 => .array .int
  | 11 => .array .int
  | 12 => .int
  | 13 => .array .int
  | 14 => .int
  | 15 => .int
  | 16 => .int
  | 17 => .array .long
  | 18 => .array .long
  | 19 => .int
  | 20 => .int
  | 21 => .int
  | 22 => .int
  | 23 => .int
  | _ => .int
abbrev wsX60 : List Cond := u_ws RX6 TX6 25
theorem nmX6 : ∀ a, a < 25 → ∀ b, b < 25 → a ≠ b → (TX6 a).2.1 ≠ (TX6 b).2.1 := by decide +kernel
theorem tyX6_ok : ∀ k, k < 25 → parseFieldDescriptor (TX6 k).2.2.1 = some (tyX6 k) := by decide +kernel
abbrev cX6_init : ByteArray := prog_8_method_1_code
def yX6_init : MethodName := ⟨RX6, "<init>", "()V"⟩
abbrev cX6_in : ByteArray := prog_8_method_2_code
def yX6_in : MethodName := ⟨RX6, "in", "(III)Z"⟩
abbrev cX6_isValue : ByteArray := prog_8_method_3_code
def yX6_isValue : MethodName := ⟨RX6, "isValue", "(J)Z"⟩
abbrev cX6_record : ByteArray := prog_8_method_4_code
def yX6_record : MethodName := ⟨RX6, "record", "()V"⟩
abbrev cX6_set : ByteArray := prog_8_method_5_code
def yX6_set : MethodName := ⟨RX6, "set", "(II)I"⟩
abbrev cX6_setCell : ByteArray := prog_8_method_6_code
def yX6_setCell : MethodName := ⟨RX6, "setCell", "(IJ)J"⟩
abbrev cX6_cell : ByteArray := prog_8_method_7_code
def yX6_cell : MethodName := ⟨RX6, "cell", "(I)J"⟩
abbrev cX6_put : ByteArray := prog_8_method_8_code
def yX6_put : MethodName := ⟨RX6, "put", "(J)I"⟩
abbrev cX6_wipe : ByteArray := prog_8_method_9_code
def yX6_wipe : MethodName := ⟨RX6, "wipe", "()I"⟩
abbrev cX6_sign : ByteArray := prog_8_method_10_code
def yX6_sign : MethodName := ⟨RX6, "sign", "()I"⟩
abbrev cX6_emit : ByteArray := prog_8_method_11_code
def yX6_emit : MethodName := ⟨RX6, "emit", "(II)V"⟩
abbrev cX6_push : ByteArray := prog_8_method_12_code
def yX6_push : MethodName := ⟨RX6, "push", "(I)V"⟩
abbrev cX6_binds : ByteArray := prog_8_method_13_code
def yX6_binds : MethodName := ⟨RX6, "binds", "(I)Z"⟩
abbrev cX6_close : ByteArray := prog_8_method_14_code
def yX6_close : MethodName := ⟨RX6, "close", "(I)V"⟩
abbrev cX6_readNumber : ByteArray := prog_8_method_15_code
def yX6_readNumber : MethodName := ⟨RX6, "readNumber", "()V"⟩
abbrev cX6_readOperand : ByteArray := prog_8_method_16_code
def yX6_readOperand : MethodName := ⟨RX6, "readOperand", "()Z"⟩
abbrev cX6_readOpening : ByteArray := prog_8_method_17_code
def yX6_readOpening : MethodName := ⟨RX6, "readOpening", "()Z"⟩
abbrev cX6_readBehind : ByteArray := prog_8_method_18_code
def yX6_readBehind : MethodName := ⟨RX6, "readBehind", "()Z"⟩
abbrev cX6_readPad : ByteArray := prog_8_method_19_code
def yX6_readPad : MethodName := ⟨RX6, "readPad", "()I"⟩
abbrev cX6_fault : ByteArray := prog_8_method_20_code
def yX6_fault : MethodName := ⟨RX6, "fault", "()I"⟩
abbrev cX6_isFormula : ByteArray := prog_8_method_21_code
def yX6_isFormula : MethodName := ⟨RX6, "isFormula", "(I)Z"⟩
abbrev cX6_load : ByteArray := prog_8_method_22_code
def yX6_load : MethodName := ⟨RX6, "load", "(I)I"⟩
abbrev cX6_power : ByteArray := prog_8_method_23_code
def yX6_power : MethodName := ⟨RX6, "power", "(JI)J"⟩
abbrev cX6_firstBit : ByteArray := prog_8_method_24_code
def yX6_firstBit : MethodName := ⟨RX6, "firstBit", "(JI)J"⟩
abbrev cX6_floorRoot : ByteArray := prog_8_method_25_code
def yX6_floorRoot : MethodName := ⟨RX6, "floorRoot", "(JI)J"⟩
abbrev cX6_rounded : ByteArray := prog_8_method_26_code
def yX6_rounded : MethodName := ⟨RX6, "rounded", "(JI)J"⟩
abbrev cX6_times : ByteArray := prog_8_method_27_code
def yX6_times : MethodName := ⟨RX6, "times", "(JJ)J"⟩
abbrev cX6_reckon : ByteArray := prog_8_method_28_code
def yX6_reckon : MethodName := ⟨RX6, "reckon", "(I)Z"⟩
abbrev cX6_assign : ByteArray := prog_8_method_29_code
def yX6_assign : MethodName := ⟨RX6, "assign", "(II)J"⟩
abbrev cX6_settle : ByteArray := prog_8_method_30_code
def yX6_settle : MethodName := ⟨RX6, "settle", "(III)I"⟩
abbrev cX6_value : ByteArray := prog_8_method_31_code
def yX6_value : MethodName := ⟨RX6, "value", "(I)J"⟩
abbrev cX6_cellsOf : ByteArray := prog_8_method_32_code
def yX6_cellsOf : MethodName := ⟨RX6, "cellsOf", "(I)I"⟩
abbrev cX6_rootsOf : ByteArray := prog_8_method_33_code
def yX6_rootsOf : MethodName := ⟨RX6, "rootsOf", "(I)I"⟩
abbrev cX6_ofFormula : ByteArray := prog_8_method_34_code
def yX6_ofFormula : MethodName := ⟨RX6, "ofFormula", "(II)I"⟩
abbrev cX6_stepValue : ByteArray := prog_8_method_35_code
def yX6_stepValue : MethodName := ⟨RX6, "stepValue", "(II)J"⟩
abbrev cX6_formulas : ByteArray := prog_8_method_36_code
def yX6_formulas : MethodName := ⟨RX6, "formulas", "()I"⟩
abbrev cX6_count : ByteArray := prog_8_method_37_code
def yX6_count : MethodName := ⟨RX6, "count", "(I)I"⟩
abbrev cX6_isAsked : ByteArray := prog_8_method_38_code
def yX6_isAsked : MethodName := ⟨RX6, "isAsked", "(JI)Z"⟩
abbrev cX6_root : ByteArray := prog_8_method_39_code
def yX6_root : MethodName := ⟨RX6, "root", "(JI)I"⟩
abbrev cX6_remainder : ByteArray := prog_8_method_40_code
def yX6_remainder : MethodName := ⟨RX6, "remainder", "(JI)J"⟩
abbrev cX6_bit : ByteArray := prog_8_method_41_code
def yX6_bit : MethodName := ⟨RX6, "bit", "(JIII)J"⟩
abbrev cX6_digits : ByteArray := prog_8_method_42_code
def yX6_digits : MethodName := ⟨RX6, "digits", "(I)I"⟩
abbrev cX6_side : ByteArray := prog_8_method_43_code
def yX6_side : MethodName := ⟨RX6, "side", "(JJJ)I"⟩
abbrev cX6_compare : ByteArray := prog_8_method_44_code
def yX6_compare : MethodName := ⟨RX6, "compare", "(IIII)I"⟩
abbrev cX6_beginFraction : ByteArray := prog_8_method_45_code
def yX6_beginFraction : MethodName := ⟨RX6, "beginFraction", "(I)V"⟩
abbrev cX6_nextTerm : ByteArray := prog_8_method_46_code
def yX6_nextTerm : MethodName := ⟨RX6, "nextTerm", "(I)V"⟩
abbrev cX6_period : ByteArray := prog_8_method_47_code
def yX6_period : MethodName := ⟨RX6, "period", "(I)I"⟩
abbrev cX6_term : ByteArray := prog_8_method_48_code
def yX6_term : MethodName := ⟨RX6, "term", "(II)I"⟩
abbrev cX6_convergent : ByteArray := prog_8_method_49_code
def yX6_convergent : MethodName := ⟨RX6, "convergent", "(III)J"⟩
abbrev cX6_twoSquares : ByteArray := prog_8_method_50_code
def yX6_twoSquares : MethodName := ⟨RX6, "twoSquares", "(II)I"⟩
abbrev cX6_powersTo : ByteArray := prog_8_method_51_code
def yX6_powersTo : MethodName := ⟨RX6, "powersTo", "(J)J"⟩
abbrev cX6_powers : ByteArray := prog_8_method_52_code
def yX6_powers : MethodName := ⟨RX6, "powers", "(JJ)I"⟩
abbrev cX6_rootSum : ByteArray := prog_8_method_53_code
def yX6_rootSum : MethodName := ⟨RX6, "rootSum", "(I)J"⟩
abbrev cX6_undo : ByteArray := prog_8_method_54_code
def yX6_undo : MethodName := ⟨RX6, "undo", "()I"⟩
abbrev cX6_save : ByteArray := prog_8_method_55_code
def yX6_save : MethodName := ⟨RX6, "save", "(I)I"⟩
abbrev cX6_restore : ByteArray := prog_8_method_56_code
def yX6_restore : MethodName := ⟨RX6, "restore", "(I)I"⟩
def RJ13 : String := "java/lang/Long"
def TJ13 : u_T := fun k => match k with
  | _ => ("", "", "", false)
def tyJ13 : Nat → FieldType := fun k => match k with
  | _ => .int
theorem nmJ13 : ∀ a, a < 0 → ∀ b, b < 0 → a ≠ b → (TJ13 a).2.1 ≠ (TJ13 b).2.1 := by decide +kernel
theorem tyJ13_ok : ∀ k, k < 0 → parseFieldDescriptor (TJ13 k).2.2.1 = some (tyJ13 k) := by decide +kernel
abbrev cJ13_compare_74951 : ByteArray := prog_9_method_42_code
def yJ13_compare_74951 : MethodName := ⟨RJ13, "compare", "(JJ)I"⟩
def RJ9 : String := "java/lang/Math"
def TJ9 : u_T := fun k => match k with
  | _ => ("", "", "", false)
def tyJ9 : Nat → FieldType := fun k => match k with
  | _ => .int
theorem nmJ9 : ∀ a, a < 0 → ∀ b, b < 0 → a ≠ b → (TJ9 a).2.1 ≠ (TJ9 b).2.1 := by decide +kernel
theorem tyJ9_ok : ∀ k, k < 0 → parseFieldDescriptor (TJ9 k).2.2.1 = some (tyJ9 k) := by decide +kernel
abbrev cJ9_max_7cf53 : ByteArray := prog_10_method_65_code
def yJ9_max_7cf53 : MethodName := ⟨RJ9, "max", "(II)I"⟩
def RL : String := "RootRowsLaw"
abbrev cL_law : ByteArray := code
def yL_law : MethodName := ⟨RL, "law", "([I)Z"⟩
abbrev vwCl : List vw_C := [(RX0, TX0, 1), (RX1, TX1, 9), (RX2, TX2, 6), (RX3, TX3, 5), (RX4, TX4, 3), (RX5, TX5, 10), (RX6, TX6, 25)]
end
section
theorem dX0_init_0 : decode cX0_init 0 = .ok (.aload_n 0, 1) := by decide +kernel
theorem dX0_init_1 : decode cX0_init 1 = .ok (.invokespecial 3, 3) := by decide +kernel
theorem dX0_init_4 : decode cX0_init 4 = .ok (.aload_n 0, 1) := by decide +kernel
theorem dX0_init_5 : decode cX0_init 5 = .ok (.iconst 0, 1) := by decide +kernel
theorem dX0_init_6 : decode cX0_init 6 = .ok (.iload_n 2, 1) := by decide +kernel
theorem dX0_init_7 : decode cX0_init 7 = .ok (.invokestatic 9, 3) := by decide +kernel
theorem dX0_init_10 : decode cX0_init 10 = .ok (.newarray .int, 2) := by decide +kernel
theorem dX0_init_12 : decode cX0_init 12 = .ok (.putfield 15, 3) := by decide +kernel
theorem dX0_init_15 : decode cX0_init 15 = .ok (.iconst 0, 1) := by decide +kernel
theorem dX0_init_16 : decode cX0_init 16 = .ok (.istore_n 3, 1) := by decide +kernel
theorem dX0_init_17 : decode cX0_init 17 = .ok (.iload_n 3, 1) := by decide +kernel
theorem dX0_init_18 : decode cX0_init 18 = .ok (.aload_n 0, 1) := by decide +kernel
theorem dX0_init_19 : decode cX0_init 19 = .ok (.getfield 15, 3) := by decide +kernel
theorem dX0_init_22 : decode cX0_init 22 = .ok (.arraylength, 1) := by decide +kernel
theorem dX0_init_23 : decode cX0_init 23 = .ok (.if_icmp .ge 24, 3) := by decide +kernel
theorem dX0_init_26 : decode cX0_init 26 = .ok (.iload_n 3, 1) := by decide +kernel
theorem dX0_init_27 : decode cX0_init 27 = .ok (.aload_n 1, 1) := by decide +kernel
theorem dX0_init_28 : decode cX0_init 28 = .ok (.arraylength, 1) := by decide +kernel
theorem dX0_init_29 : decode cX0_init 29 = .ok (.if_icmp .ge 18, 3) := by decide +kernel
theorem dX0_init_32 : decode cX0_init 32 = .ok (.aload_n 0, 1) := by decide +kernel
theorem dX0_init_33 : decode cX0_init 33 = .ok (.getfield 15, 3) := by decide +kernel
theorem dX0_init_36 : decode cX0_init 36 = .ok (.iload_n 3, 1) := by decide +kernel
theorem dX0_init_37 : decode cX0_init 37 = .ok (.aload_n 1, 1) := by decide +kernel
theorem dX0_init_38 : decode cX0_init 38 = .ok (.iload_n 3, 1) := by decide +kernel
theorem dX0_init_39 : decode cX0_init 39 = .ok (.iaload, 1) := by decide +kernel
theorem dX0_init_40 : decode cX0_init 40 = .ok (.iastore, 1) := by decide +kernel
theorem dX0_init_41 : decode cX0_init 41 = .ok (.iinc 3 1, 3) := by decide +kernel
theorem dX0_init_44 : decode cX0_init 44 = .ok (.goto (-27), 3) := by decide +kernel
theorem dX0_init_47 : decode cX0_init 47 = .ok (.return_, 1) := by decide +kernel
theorem dX0_cellsNamed_0 : decode cX0_cellsNamed 0 = .ok (.iconst 0, 1) := by decide +kernel
theorem dX0_cellsNamed_1 : decode cX0_cellsNamed 1 = .ok (.istore_n 1, 1) := by decide +kernel
theorem dX0_cellsNamed_2 : decode cX0_cellsNamed 2 = .ok (.iconst 0, 1) := by decide +kernel
theorem dX0_cellsNamed_3 : decode cX0_cellsNamed 3 = .ok (.istore_n 2, 1) := by decide +kernel
theorem dX0_cellsNamed_4 : decode cX0_cellsNamed 4 = .ok (.iload_n 2, 1) := by decide +kernel
theorem dX0_cellsNamed_5 : decode cX0_cellsNamed 5 = .ok (.aload_n 0, 1) := by decide +kernel
theorem dX0_cellsNamed_6 : decode cX0_cellsNamed 6 = .ok (.getfield 15, 3) := by decide +kernel
theorem dX0_cellsNamed_9 : decode cX0_cellsNamed 9 = .ok (.arraylength, 1) := by decide +kernel
theorem dX0_cellsNamed_10 : decode cX0_cellsNamed 10 = .ok (.if_icmp .ge 41, 3) := by decide +kernel
theorem dX0_cellsNamed_13 : decode cX0_cellsNamed 13 = .ok (.aload_n 0, 1) := by decide +kernel
theorem dX0_cellsNamed_14 : decode cX0_cellsNamed 14 = .ok (.getfield 15, 3) := by decide +kernel
theorem dX0_cellsNamed_17 : decode cX0_cellsNamed 17 = .ok (.iload_n 2, 1) := by decide +kernel
theorem dX0_cellsNamed_18 : decode cX0_cellsNamed 18 = .ok (.iaload, 1) := by decide +kernel
theorem dX0_cellsNamed_19 : decode cX0_cellsNamed 19 = .ok (.sipush 10000, 3) := by decide +kernel
theorem dX0_cellsNamed_22 : decode cX0_cellsNamed 22 = .ok (.isub, 1) := by decide +kernel
theorem dX0_cellsNamed_23 : decode cX0_cellsNamed 23 = .ok (.bipush 65, 2) := by decide +kernel
theorem dX0_cellsNamed_25 : decode cX0_cellsNamed 25 = .ok (.isub, 1) := by decide +kernel
theorem dX0_cellsNamed_26 : decode cX0_cellsNamed 26 = .ok (.istore_n 3, 1) := by decide +kernel
theorem dX0_cellsNamed_27 : decode cX0_cellsNamed 27 = .ok (.iload_n 3, 1) := by decide +kernel
theorem dX0_cellsNamed_28 : decode cX0_cellsNamed 28 = .ok (.i2l, 1) := by decide +kernel
theorem dX0_cellsNamed_29 : decode cX0_cellsNamed 29 = .ok (.lconst 0, 1) := by decide +kernel
theorem dX0_cellsNamed_30 : decode cX0_cellsNamed 30 = .ok (.ldc2_w 21, 3) := by decide +kernel
theorem dX0_cellsNamed_33 : decode cX0_cellsNamed 33 = .ok (.invokestatic 23, 3) := by decide +kernel
theorem dX0_cellsNamed_36 : decode cX0_cellsNamed 36 = .ok (.ifCond .eq 9, 3) := by decide +kernel
theorem dX0_cellsNamed_39 : decode cX0_cellsNamed 39 = .ok (.iload_n 1, 1) := by decide +kernel
theorem dX0_cellsNamed_40 : decode cX0_cellsNamed 40 = .ok (.iconst 1, 1) := by decide +kernel
theorem dX0_cellsNamed_41 : decode cX0_cellsNamed 41 = .ok (.iload_n 3, 1) := by decide +kernel
theorem dX0_cellsNamed_42 : decode cX0_cellsNamed 42 = .ok (.ishl, 1) := by decide +kernel
theorem dX0_cellsNamed_43 : decode cX0_cellsNamed 43 = .ok (.ior, 1) := by decide +kernel
theorem dX0_cellsNamed_44 : decode cX0_cellsNamed 44 = .ok (.istore_n 1, 1) := by decide +kernel
theorem dX0_cellsNamed_45 : decode cX0_cellsNamed 45 = .ok (.iinc 2 1, 3) := by decide +kernel
theorem dX0_cellsNamed_48 : decode cX0_cellsNamed 48 = .ok (.goto (-44), 3) := by decide +kernel
theorem dX0_cellsNamed_51 : decode cX0_cellsNamed 51 = .ok (.iload_n 1, 1) := by decide +kernel
theorem dX0_cellsNamed_52 : decode cX0_cellsNamed 52 = .ok (.ireturn, 1) := by decide +kernel
theorem dX0_rootsInside_0 : decode cX0_rootsInside 0 = .ok (.iconst 0, 1) := by decide +kernel
theorem dX0_rootsInside_1 : decode cX0_rootsInside 1 = .ok (.istore_n 1, 1) := by decide +kernel
theorem dX0_rootsInside_2 : decode cX0_rootsInside 2 = .ok (.iconst 0, 1) := by decide +kernel
theorem dX0_rootsInside_3 : decode cX0_rootsInside 3 = .ok (.istore_n 2, 1) := by decide +kernel
theorem dX0_rootsInside_4 : decode cX0_rootsInside 4 = .ok (.iload_n 2, 1) := by decide +kernel
theorem dX0_rootsInside_5 : decode cX0_rootsInside 5 = .ok (.aload_n 0, 1) := by decide +kernel
theorem dX0_rootsInside_6 : decode cX0_rootsInside 6 = .ok (.getfield 15, 3) := by decide +kernel
theorem dX0_rootsInside_9 : decode cX0_rootsInside 9 = .ok (.arraylength, 1) := by decide +kernel
theorem dX0_rootsInside_10 : decode cX0_rootsInside 10 = .ok (.if_icmp .ge 36, 3) := by decide +kernel
theorem dX0_rootsInside_13 : decode cX0_rootsInside 13 = .ok (.aload_n 0, 1) := by decide +kernel
theorem dX0_rootsInside_14 : decode cX0_rootsInside 14 = .ok (.getfield 15, 3) := by decide +kernel
theorem dX0_rootsInside_17 : decode cX0_rootsInside 17 = .ok (.iload_n 2, 1) := by decide +kernel
theorem dX0_rootsInside_18 : decode cX0_rootsInside 18 = .ok (.iaload, 1) := by decide +kernel
theorem dX0_rootsInside_19 : decode cX0_rootsInside 19 = .ok (.sipush 10113, 3) := by decide +kernel
theorem dX0_rootsInside_22 : decode cX0_rootsInside 22 = .ok (.if_icmp .eq 15, 3) := by decide +kernel
theorem dX0_rootsInside_25 : decode cX0_rootsInside 25 = .ok (.aload_n 0, 1) := by decide +kernel
theorem dX0_rootsInside_26 : decode cX0_rootsInside 26 = .ok (.getfield 15, 3) := by decide +kernel
theorem dX0_rootsInside_29 : decode cX0_rootsInside 29 = .ok (.iload_n 2, 1) := by decide +kernel
theorem dX0_rootsInside_30 : decode cX0_rootsInside 30 = .ok (.iaload, 1) := by decide +kernel
theorem dX0_rootsInside_31 : decode cX0_rootsInside 31 = .ok (.sipush 10107, 3) := by decide +kernel
theorem dX0_rootsInside_34 : decode cX0_rootsInside 34 = .ok (.if_icmp .ne 6, 3) := by decide +kernel
theorem dX0_rootsInside_37 : decode cX0_rootsInside 37 = .ok (.iinc 1 1, 3) := by decide +kernel
theorem dX0_rootsInside_40 : decode cX0_rootsInside 40 = .ok (.iinc 2 1, 3) := by decide +kernel
theorem dX0_rootsInside_43 : decode cX0_rootsInside 43 = .ok (.goto (-39), 3) := by decide +kernel
theorem dX0_rootsInside_46 : decode cX0_rootsInside 46 = .ok (.iload_n 1, 1) := by decide +kernel
theorem dX0_rootsInside_47 : decode cX0_rootsInside 47 = .ok (.ireturn, 1) := by decide +kernel
theorem dX1_init_0 : decode cX1_init 0 = .ok (.aload_n 0, 1) := by decide +kernel
theorem dX1_init_1 : decode cX1_init 1 = .ok (.invokespecial 3, 3) := by decide +kernel
theorem dX1_init_4 : decode cX1_init 4 = .ok (.return_, 1) := by decide +kernel
theorem dX1_start_0 : decode cX1_start 0 = .ok (.aload_n 0, 1) := by decide +kernel
theorem dX1_start_1 : decode cX1_start 1 = .ok (.iload_n 1, 1) := by decide +kernel
theorem dX1_start_2 : decode cX1_start 2 = .ok (.putfield 9, 3) := by decide +kernel
theorem dX1_start_5 : decode cX1_start 5 = .ok (.aload_n 0, 1) := by decide +kernel
theorem dX1_start_6 : decode cX1_start 6 = .ok (.iload_n 1, 1) := by decide +kernel
theorem dX1_start_7 : decode cX1_start 7 = .ok (.i2l, 1) := by decide +kernel
theorem dX1_start_8 : decode cX1_start 8 = .ok (.iconst 2, 1) := by decide +kernel
theorem dX1_start_9 : decode cX1_start 9 = .ok (.invokestatic 15, 3) := by decide +kernel
theorem dX1_start_12 : decode cX1_start 12 = .ok (.l2i, 1) := by decide +kernel
theorem dX1_start_13 : decode cX1_start 13 = .ok (.putfield 19, 3) := by decide +kernel
theorem dX1_start_16 : decode cX1_start 16 = .ok (.aload_n 0, 1) := by decide +kernel
theorem dX1_start_17 : decode cX1_start 17 = .ok (.iconst 0, 1) := by decide +kernel
theorem dX1_start_18 : decode cX1_start 18 = .ok (.putfield 22, 3) := by decide +kernel
theorem dX1_start_21 : decode cX1_start 21 = .ok (.aload_n 0, 1) := by decide +kernel
theorem dX1_start_22 : decode cX1_start 22 = .ok (.iconst 1, 1) := by decide +kernel
theorem dX1_start_23 : decode cX1_start 23 = .ok (.putfield 25, 3) := by decide +kernel
theorem dX1_start_26 : decode cX1_start 26 = .ok (.aload_n 0, 1) := by decide +kernel
theorem dX1_start_27 : decode cX1_start 27 = .ok (.aload_n 0, 1) := by decide +kernel
theorem dX1_start_28 : decode cX1_start 28 = .ok (.getfield 19, 3) := by decide +kernel
theorem dX1_start_31 : decode cX1_start 31 = .ok (.putfield 28, 3) := by decide +kernel
theorem dX1_start_34 : decode cX1_start 34 = .ok (.aload_n 0, 1) := by decide +kernel
theorem dX1_start_35 : decode cX1_start 35 = .ok (.aload_n 0, 1) := by decide +kernel
theorem dX1_start_36 : decode cX1_start 36 = .ok (.getfield 19, 3) := by decide +kernel
theorem dX1_start_39 : decode cX1_start 39 = .ok (.i2l, 1) := by decide +kernel
theorem dX1_start_40 : decode cX1_start 40 = .ok (.putfield 31, 3) := by decide +kernel
theorem dX1_start_43 : decode cX1_start 43 = .ok (.aload_n 0, 1) := by decide +kernel
theorem dX1_start_44 : decode cX1_start 44 = .ok (.lconst 1, 1) := by decide +kernel
theorem dX1_start_45 : decode cX1_start 45 = .ok (.putfield 35, 3) := by decide +kernel
theorem dX1_start_48 : decode cX1_start 48 = .ok (.aload_n 0, 1) := by decide +kernel
theorem dX1_start_49 : decode cX1_start 49 = .ok (.lconst 1, 1) := by decide +kernel
theorem dX1_start_50 : decode cX1_start 50 = .ok (.putfield 38, 3) := by decide +kernel
theorem dX1_start_53 : decode cX1_start 53 = .ok (.aload_n 0, 1) := by decide +kernel
theorem dX1_start_54 : decode cX1_start 54 = .ok (.lconst 0, 1) := by decide +kernel
theorem dX1_start_55 : decode cX1_start 55 = .ok (.putfield 41, 3) := by decide +kernel
theorem dX1_start_58 : decode cX1_start 58 = .ok (.return_, 1) := by decide +kernel
theorem dX1_goesOn_0 : decode cX1_goesOn 0 = .ok (.aload_n 0, 1) := by decide +kernel
theorem dX1_goesOn_1 : decode cX1_goesOn 1 = .ok (.getfield 19, 3) := by decide +kernel
theorem dX1_goesOn_4 : decode cX1_goesOn 4 = .ok (.aload_n 0, 1) := by decide +kernel
theorem dX1_goesOn_5 : decode cX1_goesOn 5 = .ok (.getfield 19, 3) := by decide +kernel
theorem dX1_goesOn_8 : decode cX1_goesOn 8 = .ok (.imul, 1) := by decide +kernel
theorem dX1_goesOn_9 : decode cX1_goesOn 9 = .ok (.aload_n 0, 1) := by decide +kernel
theorem dX1_goesOn_10 : decode cX1_goesOn 10 = .ok (.getfield 9, 3) := by decide +kernel
theorem dX1_goesOn_13 : decode cX1_goesOn 13 = .ok (.if_icmp .eq 11, 3) := by decide +kernel
theorem dX1_goesOn_16 : decode cX1_goesOn 16 = .ok (.aload_n 0, 1) := by decide +kernel
theorem dX1_goesOn_17 : decode cX1_goesOn 17 = .ok (.getfield 25, 3) := by decide +kernel
theorem dX1_goesOn_20 : decode cX1_goesOn 20 = .ok (.iconst 1, 1) := by decide +kernel
theorem dX1_goesOn_21 : decode cX1_goesOn 21 = .ok (.if_icmp .ge 5, 3) := by decide +kernel
theorem dX1_goesOn_24 : decode cX1_goesOn 24 = .ok (.iconst 0, 1) := by decide +kernel
theorem dX1_goesOn_25 : decode cX1_goesOn 25 = .ok (.ireturn, 1) := by decide +kernel
theorem dX1_goesOn_26 : decode cX1_goesOn 26 = .ok (.aload_n 0, 1) := by decide +kernel
theorem dX1_goesOn_27 : decode cX1_goesOn 27 = .ok (.aload_n 0, 1) := by decide +kernel
theorem dX1_goesOn_28 : decode cX1_goesOn 28 = .ok (.getfield 25, 3) := by decide +kernel
theorem dX1_goesOn_31 : decode cX1_goesOn 31 = .ok (.aload_n 0, 1) := by decide +kernel
theorem dX1_goesOn_32 : decode cX1_goesOn 32 = .ok (.getfield 28, 3) := by decide +kernel
theorem dX1_goesOn_35 : decode cX1_goesOn 35 = .ok (.imul, 1) := by decide +kernel
theorem dX1_goesOn_36 : decode cX1_goesOn 36 = .ok (.aload_n 0, 1) := by decide +kernel
theorem dX1_goesOn_37 : decode cX1_goesOn 37 = .ok (.getfield 22, 3) := by decide +kernel
theorem dX1_goesOn_40 : decode cX1_goesOn 40 = .ok (.isub, 1) := by decide +kernel
theorem dX1_goesOn_41 : decode cX1_goesOn 41 = .ok (.putfield 22, 3) := by decide +kernel
theorem dX1_goesOn_44 : decode cX1_goesOn 44 = .ok (.aload_n 0, 1) := by decide +kernel
theorem dX1_goesOn_45 : decode cX1_goesOn 45 = .ok (.aload_n 0, 1) := by decide +kernel
theorem dX1_goesOn_46 : decode cX1_goesOn 46 = .ok (.getfield 9, 3) := by decide +kernel
theorem dX1_goesOn_49 : decode cX1_goesOn 49 = .ok (.aload_n 0, 1) := by decide +kernel
theorem dX1_goesOn_50 : decode cX1_goesOn 50 = .ok (.getfield 22, 3) := by decide +kernel
theorem dX1_goesOn_53 : decode cX1_goesOn 53 = .ok (.aload_n 0, 1) := by decide +kernel
theorem dX1_goesOn_54 : decode cX1_goesOn 54 = .ok (.getfield 22, 3) := by decide +kernel
theorem dX1_goesOn_57 : decode cX1_goesOn 57 = .ok (.imul, 1) := by decide +kernel
theorem dX1_goesOn_58 : decode cX1_goesOn 58 = .ok (.isub, 1) := by decide +kernel
theorem dX1_goesOn_59 : decode cX1_goesOn 59 = .ok (.aload_n 0, 1) := by decide +kernel
theorem dX1_goesOn_60 : decode cX1_goesOn 60 = .ok (.getfield 25, 3) := by decide +kernel
theorem dX1_goesOn_63 : decode cX1_goesOn 63 = .ok (.idiv, 1) := by decide +kernel
theorem dX1_goesOn_64 : decode cX1_goesOn 64 = .ok (.putfield 25, 3) := by decide +kernel
theorem dX1_goesOn_67 : decode cX1_goesOn 67 = .ok (.aload_n 0, 1) := by decide +kernel
theorem dX1_goesOn_68 : decode cX1_goesOn 68 = .ok (.getfield 25, 3) := by decide +kernel
theorem dX1_goesOn_71 : decode cX1_goesOn 71 = .ok (.iconst 1, 1) := by decide +kernel
theorem dX1_goesOn_72 : decode cX1_goesOn 72 = .ok (.if_icmp .ge 5, 3) := by decide +kernel
theorem dX1_goesOn_75 : decode cX1_goesOn 75 = .ok (.iconst 0, 1) := by decide +kernel
theorem dX1_goesOn_76 : decode cX1_goesOn 76 = .ok (.ireturn, 1) := by decide +kernel
theorem dX1_goesOn_77 : decode cX1_goesOn 77 = .ok (.aload_n 0, 1) := by decide +kernel
theorem dX1_goesOn_78 : decode cX1_goesOn 78 = .ok (.aload_n 0, 1) := by decide +kernel
theorem dX1_goesOn_79 : decode cX1_goesOn 79 = .ok (.getfield 19, 3) := by decide +kernel
theorem dX1_goesOn_82 : decode cX1_goesOn 82 = .ok (.aload_n 0, 1) := by decide +kernel
theorem dX1_goesOn_83 : decode cX1_goesOn 83 = .ok (.getfield 22, 3) := by decide +kernel
theorem dX1_goesOn_86 : decode cX1_goesOn 86 = .ok (.iadd, 1) := by decide +kernel
theorem dX1_goesOn_87 : decode cX1_goesOn 87 = .ok (.aload_n 0, 1) := by decide +kernel
theorem dX1_goesOn_88 : decode cX1_goesOn 88 = .ok (.getfield 25, 3) := by decide +kernel
theorem dX1_goesOn_91 : decode cX1_goesOn 91 = .ok (.idiv, 1) := by decide +kernel
theorem dX1_goesOn_92 : decode cX1_goesOn 92 = .ok (.putfield 28, 3) := by decide +kernel
theorem dX1_goesOn_95 : decode cX1_goesOn 95 = .ok (.iconst 1, 1) := by decide +kernel
theorem dX1_goesOn_96 : decode cX1_goesOn 96 = .ok (.ireturn, 1) := by decide +kernel
theorem dX1_extend_0 : decode cX1_extend 0 = .ok (.aload_n 0, 1) := by decide +kernel
theorem dX1_extend_1 : decode cX1_extend 1 = .ok (.getfield 28, 3) := by decide +kernel
theorem dX1_extend_4 : decode cX1_extend 4 = .ok (.i2l, 1) := by decide +kernel
theorem dX1_extend_5 : decode cX1_extend 5 = .ok (.aload_n 0, 1) := by decide +kernel
theorem dX1_extend_6 : decode cX1_extend 6 = .ok (.getfield 31, 3) := by decide +kernel
theorem dX1_extend_9 : decode cX1_extend 9 = .ok (.lmul, 1) := by decide +kernel
theorem dX1_extend_10 : decode cX1_extend 10 = .ok (.aload_n 0, 1) := by decide +kernel
theorem dX1_extend_11 : decode cX1_extend 11 = .ok (.getfield 38, 3) := by decide +kernel
theorem dX1_extend_14 : decode cX1_extend 14 = .ok (.ladd, 1) := by decide +kernel
theorem dX1_extend_15 : decode cX1_extend 15 = .ok (.lstore_n 1, 1) := by decide +kernel
theorem dX1_extend_16 : decode cX1_extend 16 = .ok (.aload_n 0, 1) := by decide +kernel
theorem dX1_extend_17 : decode cX1_extend 17 = .ok (.getfield 28, 3) := by decide +kernel
theorem dX1_extend_20 : decode cX1_extend 20 = .ok (.i2l, 1) := by decide +kernel
theorem dX1_extend_21 : decode cX1_extend 21 = .ok (.aload_n 0, 1) := by decide +kernel
theorem dX1_extend_22 : decode cX1_extend 22 = .ok (.getfield 35, 3) := by decide +kernel
theorem dX1_extend_25 : decode cX1_extend 25 = .ok (.lmul, 1) := by decide +kernel
theorem dX1_extend_26 : decode cX1_extend 26 = .ok (.aload_n 0, 1) := by decide +kernel
theorem dX1_extend_27 : decode cX1_extend 27 = .ok (.getfield 41, 3) := by decide +kernel
theorem dX1_extend_30 : decode cX1_extend 30 = .ok (.ladd, 1) := by decide +kernel
theorem dX1_extend_31 : decode cX1_extend 31 = .ok (.lstore_n 3, 1) := by decide +kernel
theorem dX1_extend_32 : decode cX1_extend 32 = .ok (.aload_n 0, 1) := by decide +kernel
theorem dX1_extend_33 : decode cX1_extend 33 = .ok (.aload_n 0, 1) := by decide +kernel
theorem dX1_extend_34 : decode cX1_extend 34 = .ok (.getfield 31, 3) := by decide +kernel
theorem dX1_extend_37 : decode cX1_extend 37 = .ok (.putfield 38, 3) := by decide +kernel
theorem dX1_extend_40 : decode cX1_extend 40 = .ok (.aload_n 0, 1) := by decide +kernel
theorem dX1_extend_41 : decode cX1_extend 41 = .ok (.aload_n 0, 1) := by decide +kernel
theorem dX1_extend_42 : decode cX1_extend 42 = .ok (.getfield 35, 3) := by decide +kernel
theorem dX1_extend_45 : decode cX1_extend 45 = .ok (.putfield 41, 3) := by decide +kernel
theorem dX1_extend_48 : decode cX1_extend 48 = .ok (.aload_n 0, 1) := by decide +kernel
theorem dX1_extend_49 : decode cX1_extend 49 = .ok (.lload_n 1, 1) := by decide +kernel
theorem dX1_extend_50 : decode cX1_extend 50 = .ok (.putfield 31, 3) := by decide +kernel
theorem dX1_extend_53 : decode cX1_extend 53 = .ok (.aload_n 0, 1) := by decide +kernel
theorem dX1_extend_54 : decode cX1_extend 54 = .ok (.lload_n 3, 1) := by decide +kernel
theorem dX1_extend_55 : decode cX1_extend 55 = .ok (.putfield 35, 3) := by decide +kernel
theorem dX1_extend_58 : decode cX1_extend 58 = .ok (.return_, 1) := by decide +kernel
theorem dX2_init_0 : decode cX2_init 0 = .ok (.aload_n 0, 1) := by decide +kernel
theorem dX2_init_1 : decode cX2_init 1 = .ok (.invokespecial 3, 3) := by decide +kernel
theorem dX2_init_4 : decode cX2_init 4 = .ok (.aload_n 0, 1) := by decide +kernel
theorem dX2_init_5 : decode cX2_init 5 = .ok (.bipush 60, 2) := by decide +kernel
theorem dX2_init_7 : decode cX2_init 7 = .ok (.newarray .int, 2) := by decide +kernel
theorem dX2_init_9 : decode cX2_init 9 = .ok (.putfield 9, 3) := by decide +kernel
theorem dX2_init_12 : decode cX2_init 12 = .ok (.aload_n 0, 1) := by decide +kernel
theorem dX2_init_13 : decode cX2_init 13 = .ok (.bipush 60, 2) := by decide +kernel
theorem dX2_init_15 : decode cX2_init 15 = .ok (.newarray .char, 2) := by decide +kernel
theorem dX2_init_17 : decode cX2_init 17 = .ok (.putfield 15, 3) := by decide +kernel
theorem dX2_init_20 : decode cX2_init 20 = .ok (.return_, 1) := by decide +kernel
theorem dX2_faultOf_0 : decode cX2_faultOf 0 = .ok (.aload_n 0, 1) := by decide +kernel
theorem dX2_faultOf_1 : decode cX2_faultOf 1 = .ok (.iconst 0, 1) := by decide +kernel
theorem dX2_faultOf_2 : decode cX2_faultOf 2 = .ok (.putfield 19, 3) := by decide +kernel
theorem dX2_faultOf_5 : decode cX2_faultOf 5 = .ok (.aload_n 0, 1) := by decide +kernel
theorem dX2_faultOf_6 : decode cX2_faultOf 6 = .ok (.iconst 0, 1) := by decide +kernel
theorem dX2_faultOf_7 : decode cX2_faultOf 7 = .ok (.putfield 23, 3) := by decide +kernel
theorem dX2_faultOf_10 : decode cX2_faultOf 10 = .ok (.aload_n 0, 1) := by decide +kernel
theorem dX2_faultOf_11 : decode cX2_faultOf 11 = .ok (.iconst 0, 1) := by decide +kernel
theorem dX2_faultOf_12 : decode cX2_faultOf 12 = .ok (.putfield 26, 3) := by decide +kernel
theorem dX2_faultOf_15 : decode cX2_faultOf 15 = .ok (.aload_n 0, 1) := by decide +kernel
theorem dX2_faultOf_16 : decode cX2_faultOf 16 = .ok (.iconst 0, 1) := by decide +kernel
theorem dX2_faultOf_17 : decode cX2_faultOf 17 = .ok (.putfield 29, 3) := by decide +kernel
theorem dX2_faultOf_20 : decode cX2_faultOf 20 = .ok (.iconst 0, 1) := by decide +kernel
theorem dX2_faultOf_21 : decode cX2_faultOf 21 = .ok (.istore_n 3, 1) := by decide +kernel
theorem dX2_faultOf_22 : decode cX2_faultOf 22 = .ok (.iload_n 3, 1) := by decide +kernel
theorem dX2_faultOf_23 : decode cX2_faultOf 23 = .ok (.iload_n 2, 1) := by decide +kernel
theorem dX2_faultOf_24 : decode cX2_faultOf 24 = .ok (.if_icmp .ge 27, 3) := by decide +kernel
theorem dX2_faultOf_27 : decode cX2_faultOf 27 = .ok (.iload_n 3, 1) := by decide +kernel
theorem dX2_faultOf_28 : decode cX2_faultOf 28 = .ok (.aload_n 1, 1) := by decide +kernel
theorem dX2_faultOf_29 : decode cX2_faultOf 29 = .ok (.arraylength, 1) := by decide +kernel
theorem dX2_faultOf_30 : decode cX2_faultOf 30 = .ok (.if_icmp .ge 21, 3) := by decide +kernel
theorem dX2_faultOf_33 : decode cX2_faultOf 33 = .ok (.aload_n 0, 1) := by decide +kernel
theorem dX2_faultOf_34 : decode cX2_faultOf 34 = .ok (.aload_n 1, 1) := by decide +kernel
theorem dX2_faultOf_35 : decode cX2_faultOf 35 = .ok (.iload_n 3, 1) := by decide +kernel
theorem dX2_faultOf_36 : decode cX2_faultOf 36 = .ok (.caload, 1) := by decide +kernel
theorem dX2_faultOf_37 : decode cX2_faultOf 37 = .ok (.invokevirtual 32, 3) := by decide +kernel
theorem dX2_faultOf_40 : decode cX2_faultOf 40 = .ok (.ifCond .ne 5, 3) := by decide +kernel
theorem dX2_faultOf_43 : decode cX2_faultOf 43 = .ok (.iload_n 3, 1) := by decide +kernel
theorem dX2_faultOf_44 : decode cX2_faultOf 44 = .ok (.ireturn, 1) := by decide +kernel
theorem dX2_faultOf_45 : decode cX2_faultOf 45 = .ok (.iinc 3 1, 3) := by decide +kernel
theorem dX2_faultOf_48 : decode cX2_faultOf 48 = .ok (.goto (-26), 3) := by decide +kernel
theorem dX2_faultOf_51 : decode cX2_faultOf 51 = .ok (.aload_n 0, 1) := by decide +kernel
theorem dX2_faultOf_52 : decode cX2_faultOf 52 = .ok (.getfield 29, 3) := by decide +kernel
theorem dX2_faultOf_55 : decode cX2_faultOf 55 = .ok (.ifCond .eq 18, 3) := by decide +kernel
theorem dX2_faultOf_58 : decode cX2_faultOf 58 = .ok (.aload_n 0, 1) := by decide +kernel
theorem dX2_faultOf_59 : decode cX2_faultOf 59 = .ok (.getfield 29, 3) := by decide +kernel
theorem dX2_faultOf_62 : decode cX2_faultOf 62 = .ok (.iconst 1, 1) := by decide +kernel
theorem dX2_faultOf_63 : decode cX2_faultOf 63 = .ok (.if_icmp .eq 10, 3) := by decide +kernel
theorem dX2_faultOf_66 : decode cX2_faultOf 66 = .ok (.aload_n 0, 1) := by decide +kernel
theorem dX2_faultOf_67 : decode cX2_faultOf 67 = .ok (.getfield 26, 3) := by decide +kernel
theorem dX2_faultOf_70 : decode cX2_faultOf 70 = .ok (.ifCond .le 5, 3) := by decide +kernel
theorem dX2_faultOf_73 : decode cX2_faultOf 73 = .ok (.iload_n 2, 1) := by decide +kernel
theorem dX2_faultOf_74 : decode cX2_faultOf 74 = .ok (.ireturn, 1) := by decide +kernel
theorem dX2_faultOf_75 : decode cX2_faultOf 75 = .ok (.aload_n 0, 1) := by decide +kernel
theorem dX2_faultOf_76 : decode cX2_faultOf 76 = .ok (.iconst 1, 1) := by decide +kernel
theorem dX2_faultOf_77 : decode cX2_faultOf 77 = .ok (.invokevirtual 36, 3) := by decide +kernel
theorem dX2_faultOf_80 : decode cX2_faultOf 80 = .ok (.bipush (-6), 2) := by decide +kernel
theorem dX2_faultOf_82 : decode cX2_faultOf 82 = .ok (.ireturn, 1) := by decide +kernel
theorem dX2_takes_0 : decode cX2_takes 0 = .ok (.aload_n 0, 1) := by decide +kernel
theorem dX2_takes_1 : decode cX2_takes 1 = .ok (.getfield 29, 3) := by decide +kernel
theorem dX2_takes_4 : decode cX2_takes 4 = .ok (.tableswitch 72 0 2 #[28, 34, 51], 28) := by decide +kernel
theorem dX2_takes_32 : decode cX2_takes 32 = .ok (.aload_n 0, 1) := by decide +kernel
theorem dX2_takes_33 : decode cX2_takes 33 = .ok (.iload_n 1, 1) := by decide +kernel
theorem dX2_takes_34 : decode cX2_takes 34 = .ok (.invokevirtual 40, 3) := by decide +kernel
theorem dX2_takes_37 : decode cX2_takes 37 = .ok (.ireturn, 1) := by decide +kernel
theorem dX2_takes_38 : decode cX2_takes 38 = .ok (.aload_n 0, 1) := by decide +kernel
theorem dX2_takes_39 : decode cX2_takes 39 = .ok (.iconst 0, 1) := by decide +kernel
theorem dX2_takes_40 : decode cX2_takes 40 = .ok (.putfield 29, 3) := by decide +kernel
theorem dX2_takes_43 : decode cX2_takes 43 = .ok (.iload_n 1, 1) := by decide +kernel
theorem dX2_takes_44 : decode cX2_takes 44 = .ok (.bipush 40, 2) := by decide +kernel
theorem dX2_takes_46 : decode cX2_takes 46 = .ok (.if_icmp .ne 7, 3) := by decide +kernel
theorem dX2_takes_49 : decode cX2_takes 49 = .ok (.iconst 1, 1) := by decide +kernel
theorem dX2_takes_50 : decode cX2_takes 50 = .ok (.goto 4, 3) := by decide +kernel
theorem dX2_takes_53 : decode cX2_takes 53 = .ok (.iconst 0, 1) := by decide +kernel
theorem dX2_takes_54 : decode cX2_takes 54 = .ok (.ireturn, 1) := by decide +kernel
theorem dX2_takes_55 : decode cX2_takes 55 = .ok (.iload_n 1, 1) := by decide +kernel
theorem dX2_takes_56 : decode cX2_takes 56 = .ok (.invokestatic 43, 3) := by decide +kernel
theorem dX2_takes_59 : decode cX2_takes 59 = .ok (.ifCond .eq 11, 3) := by decide +kernel
theorem dX2_takes_62 : decode cX2_takes 62 = .ok (.aload_n 0, 1) := by decide +kernel
theorem dX2_takes_63 : decode cX2_takes 63 = .ok (.iload_n 1, 1) := by decide +kernel
theorem dX2_takes_64 : decode cX2_takes 64 = .ok (.invokevirtual 46, 3) := by decide +kernel
theorem dX2_takes_67 : decode cX2_takes 67 = .ok (.goto 8, 3) := by decide +kernel
theorem dX2_takes_70 : decode cX2_takes 70 = .ok (.aload_n 0, 1) := by decide +kernel
theorem dX2_takes_71 : decode cX2_takes 71 = .ok (.iload_n 1, 1) := by decide +kernel
theorem dX2_takes_72 : decode cX2_takes 72 = .ok (.invokevirtual 49, 3) := by decide +kernel
theorem dX2_takes_75 : decode cX2_takes 75 = .ok (.ireturn, 1) := by decide +kernel
theorem dX2_takes_76 : decode cX2_takes 76 = .ok (.aload_n 0, 1) := by decide +kernel
theorem dX2_takes_77 : decode cX2_takes 77 = .ok (.iload_n 1, 1) := by decide +kernel
theorem dX2_takes_78 : decode cX2_takes 78 = .ok (.invokevirtual 49, 3) := by decide +kernel
theorem dX2_takes_81 : decode cX2_takes 81 = .ok (.ireturn, 1) := by decide +kernel
theorem dX2_takesFactor_0 : decode cX2_takesFactor 0 = .ok (.iload_n 1, 1) := by decide +kernel
theorem dX2_takesFactor_1 : decode cX2_takesFactor 1 = .ok (.invokestatic 43, 3) := by decide +kernel
theorem dX2_takesFactor_4 : decode cX2_takesFactor 4 = .ok (.ifCond .eq 18, 3) := by decide +kernel
theorem dX2_takesFactor_7 : decode cX2_takesFactor 7 = .ok (.aload_n 0, 1) := by decide +kernel
theorem dX2_takesFactor_8 : decode cX2_takesFactor 8 = .ok (.iload_n 1, 1) := by decide +kernel
theorem dX2_takesFactor_9 : decode cX2_takesFactor 9 = .ok (.bipush 48, 2) := by decide +kernel
theorem dX2_takesFactor_11 : decode cX2_takesFactor 11 = .ok (.isub, 1) := by decide +kernel
theorem dX2_takesFactor_12 : decode cX2_takesFactor 12 = .ok (.invokevirtual 52, 3) := by decide +kernel
theorem dX2_takesFactor_15 : decode cX2_takesFactor 15 = .ok (.aload_n 0, 1) := by decide +kernel
theorem dX2_takesFactor_16 : decode cX2_takesFactor 16 = .ok (.iconst 2, 1) := by decide +kernel
theorem dX2_takesFactor_17 : decode cX2_takesFactor 17 = .ok (.putfield 29, 3) := by decide +kernel
theorem dX2_takesFactor_20 : decode cX2_takesFactor 20 = .ok (.iconst 1, 1) := by decide +kernel
theorem dX2_takesFactor_21 : decode cX2_takesFactor 21 = .ok (.ireturn, 1) := by decide +kernel
theorem dX2_takesFactor_22 : decode cX2_takesFactor 22 = .ok (.iload_n 1, 1) := by decide +kernel
theorem dX2_takesFactor_23 : decode cX2_takesFactor 23 = .ok (.i2l, 1) := by decide +kernel
theorem dX2_takesFactor_24 : decode cX2_takesFactor 24 = .ok (.ldc2_w 55, 3) := by decide +kernel
theorem dX2_takesFactor_27 : decode cX2_takesFactor 27 = .ok (.ldc2_w 57, 3) := by decide +kernel
theorem dX2_takesFactor_30 : decode cX2_takesFactor 30 = .ok (.invokestatic 59, 3) := by decide +kernel
theorem dX2_takesFactor_33 : decode cX2_takesFactor 33 = .ok (.ifCond .eq 19, 3) := by decide +kernel
theorem dX2_takesFactor_36 : decode cX2_takesFactor 36 = .ok (.aload_n 0, 1) := by decide +kernel
theorem dX2_takesFactor_37 : decode cX2_takesFactor 37 = .ok (.sipush 10000, 3) := by decide +kernel
theorem dX2_takesFactor_40 : decode cX2_takesFactor 40 = .ok (.iload_n 1, 1) := by decide +kernel
theorem dX2_takesFactor_41 : decode cX2_takesFactor 41 = .ok (.iadd, 1) := by decide +kernel
theorem dX2_takesFactor_42 : decode cX2_takesFactor 42 = .ok (.invokevirtual 52, 3) := by decide +kernel
theorem dX2_takesFactor_45 : decode cX2_takesFactor 45 = .ok (.aload_n 0, 1) := by decide +kernel
theorem dX2_takesFactor_46 : decode cX2_takesFactor 46 = .ok (.iconst 3, 1) := by decide +kernel
theorem dX2_takesFactor_47 : decode cX2_takesFactor 47 = .ok (.putfield 29, 3) := by decide +kernel
theorem dX2_takesFactor_50 : decode cX2_takesFactor 50 = .ok (.iconst 1, 1) := by decide +kernel
theorem dX2_takesFactor_51 : decode cX2_takesFactor 51 = .ok (.ireturn, 1) := by decide +kernel
theorem dX2_takesFactor_52 : decode cX2_takesFactor 52 = .ok (.iload_n 1, 1) := by decide +kernel
theorem dX2_takesFactor_53 : decode cX2_takesFactor 53 = .ok (.bipush 40, 2) := by decide +kernel
theorem dX2_takesFactor_55 : decode cX2_takesFactor 55 = .ok (.if_icmp .eq 21, 3) := by decide +kernel
theorem dX2_takesFactor_58 : decode cX2_takesFactor 58 = .ok (.iload_n 1, 1) := by decide +kernel
theorem dX2_takesFactor_59 : decode cX2_takesFactor 59 = .ok (.bipush 113, 2) := by decide +kernel
theorem dX2_takesFactor_61 : decode cX2_takesFactor 61 = .ok (.if_icmp .eq 15, 3) := by decide +kernel
theorem dX2_takesFactor_64 : decode cX2_takesFactor 64 = .ok (.iload_n 1, 1) := by decide +kernel
theorem dX2_takesFactor_65 : decode cX2_takesFactor 65 = .ok (.bipush 107, 2) := by decide +kernel
theorem dX2_takesFactor_67 : decode cX2_takesFactor 67 = .ok (.if_icmp .eq 9, 3) := by decide +kernel
theorem dX2_takesFactor_70 : decode cX2_takesFactor 70 = .ok (.iload_n 1, 1) := by decide +kernel
theorem dX2_takesFactor_71 : decode cX2_takesFactor 71 = .ok (.bipush 115, 2) := by decide +kernel
theorem dX2_takesFactor_73 : decode cX2_takesFactor 73 = .ok (.if_icmp .ne 35, 3) := by decide +kernel
theorem dX2_takesFactor_76 : decode cX2_takesFactor 76 = .ok (.aload_n 0, 1) := by decide +kernel
theorem dX2_takesFactor_77 : decode cX2_takesFactor 77 = .ok (.iload_n 1, 1) := by decide +kernel
theorem dX2_takesFactor_78 : decode cX2_takesFactor 78 = .ok (.invokevirtual 63, 3) := by decide +kernel
theorem dX2_takesFactor_81 : decode cX2_takesFactor 81 = .ok (.aload_n 0, 1) := by decide +kernel
theorem dX2_takesFactor_82 : decode cX2_takesFactor 82 = .ok (.dup, 1) := by decide +kernel
theorem dX2_takesFactor_83 : decode cX2_takesFactor 83 = .ok (.getfield 26, 3) := by decide +kernel
theorem dX2_takesFactor_86 : decode cX2_takesFactor 86 = .ok (.iconst 1, 1) := by decide +kernel
theorem dX2_takesFactor_87 : decode cX2_takesFactor 87 = .ok (.iadd, 1) := by decide +kernel
theorem dX2_takesFactor_88 : decode cX2_takesFactor 88 = .ok (.putfield 26, 3) := by decide +kernel
theorem dX2_takesFactor_91 : decode cX2_takesFactor 91 = .ok (.aload_n 0, 1) := by decide +kernel
theorem dX2_takesFactor_92 : decode cX2_takesFactor 92 = .ok (.iload_n 1, 1) := by decide +kernel
theorem dX2_takesFactor_93 : decode cX2_takesFactor 93 = .ok (.bipush 40, 2) := by decide +kernel
theorem dX2_takesFactor_95 : decode cX2_takesFactor 95 = .ok (.if_icmp .ne 7, 3) := by decide +kernel
theorem dX2_takesFactor_98 : decode cX2_takesFactor 98 = .ok (.iconst 0, 1) := by decide +kernel
theorem dX2_takesFactor_99 : decode cX2_takesFactor 99 = .ok (.goto 4, 3) := by decide +kernel
theorem dX2_takesFactor_102 : decode cX2_takesFactor 102 = .ok (.iconst 1, 1) := by decide +kernel
theorem dX2_takesFactor_103 : decode cX2_takesFactor 103 = .ok (.putfield 29, 3) := by decide +kernel
theorem dX2_takesFactor_106 : decode cX2_takesFactor 106 = .ok (.iconst 1, 1) := by decide +kernel
theorem dX2_takesFactor_107 : decode cX2_takesFactor 107 = .ok (.ireturn, 1) := by decide +kernel
theorem dX2_takesFactor_108 : decode cX2_takesFactor 108 = .ok (.iconst 0, 1) := by decide +kernel
theorem dX2_takesFactor_109 : decode cX2_takesFactor 109 = .ok (.ireturn, 1) := by decide +kernel
theorem dX2_takesDigit_0 : decode cX2_takesDigit 0 = .ok (.aload_n 0, 1) := by decide +kernel
theorem dX2_takesDigit_1 : decode cX2_takesDigit 1 = .ok (.getfield 19, 3) := by decide +kernel
theorem dX2_takesDigit_4 : decode cX2_takesDigit 4 = .ok (.iconst 1, 1) := by decide +kernel
theorem dX2_takesDigit_5 : decode cX2_takesDigit 5 = .ok (.isub, 1) := by decide +kernel
theorem dX2_takesDigit_6 : decode cX2_takesDigit 6 = .ok (.istore_n 2, 1) := by decide +kernel
theorem dX2_takesDigit_7 : decode cX2_takesDigit 7 = .ok (.iload_n 2, 1) := by decide +kernel
theorem dX2_takesDigit_8 : decode cX2_takesDigit 8 = .ok (.ifCond .lt 21, 3) := by decide +kernel
theorem dX2_takesDigit_11 : decode cX2_takesDigit 11 = .ok (.iload_n 2, 1) := by decide +kernel
theorem dX2_takesDigit_12 : decode cX2_takesDigit 12 = .ok (.aload_n 0, 1) := by decide +kernel
theorem dX2_takesDigit_13 : decode cX2_takesDigit 13 = .ok (.getfield 9, 3) := by decide +kernel
theorem dX2_takesDigit_16 : decode cX2_takesDigit 16 = .ok (.arraylength, 1) := by decide +kernel
theorem dX2_takesDigit_17 : decode cX2_takesDigit 17 = .ok (.if_icmp .ge 12, 3) := by decide +kernel
theorem dX2_takesDigit_20 : decode cX2_takesDigit 20 = .ok (.aload_n 0, 1) := by decide +kernel
theorem dX2_takesDigit_21 : decode cX2_takesDigit 21 = .ok (.getfield 9, 3) := by decide +kernel
theorem dX2_takesDigit_24 : decode cX2_takesDigit 24 = .ok (.iload_n 2, 1) := by decide +kernel
theorem dX2_takesDigit_25 : decode cX2_takesDigit 25 = .ok (.iaload, 1) := by decide +kernel
theorem dX2_takesDigit_26 : decode cX2_takesDigit 26 = .ok (.ifCond .ne 5, 3) := by decide +kernel
theorem dX2_takesDigit_29 : decode cX2_takesDigit 29 = .ok (.iconst 0, 1) := by decide +kernel
theorem dX2_takesDigit_30 : decode cX2_takesDigit 30 = .ok (.ireturn, 1) := by decide +kernel
theorem dX2_takesDigit_31 : decode cX2_takesDigit 31 = .ok (.aload_n 0, 1) := by decide +kernel
theorem dX2_takesDigit_32 : decode cX2_takesDigit 32 = .ok (.getfield 9, 3) := by decide +kernel
theorem dX2_takesDigit_35 : decode cX2_takesDigit 35 = .ok (.iload_n 2, 1) := by decide +kernel
theorem dX2_takesDigit_36 : decode cX2_takesDigit 36 = .ok (.iaload, 1) := by decide +kernel
theorem dX2_takesDigit_37 : decode cX2_takesDigit 37 = .ok (.bipush 10, 2) := by decide +kernel
theorem dX2_takesDigit_39 : decode cX2_takesDigit 39 = .ok (.imul, 1) := by decide +kernel
theorem dX2_takesDigit_40 : decode cX2_takesDigit 40 = .ok (.iload_n 1, 1) := by decide +kernel
theorem dX2_takesDigit_41 : decode cX2_takesDigit 41 = .ok (.iadd, 1) := by decide +kernel
theorem dX2_takesDigit_42 : decode cX2_takesDigit 42 = .ok (.bipush 48, 2) := by decide +kernel
theorem dX2_takesDigit_44 : decode cX2_takesDigit 44 = .ok (.isub, 1) := by decide +kernel
theorem dX2_takesDigit_45 : decode cX2_takesDigit 45 = .ok (.istore_n 3, 1) := by decide +kernel
theorem dX2_takesDigit_46 : decode cX2_takesDigit 46 = .ok (.iload_n 3, 1) := by decide +kernel
theorem dX2_takesDigit_47 : decode cX2_takesDigit 47 = .ok (.sipush 9999, 3) := by decide +kernel
theorem dX2_takesDigit_50 : decode cX2_takesDigit 50 = .ok (.if_icmp .le 5, 3) := by decide +kernel
theorem dX2_takesDigit_53 : decode cX2_takesDigit 53 = .ok (.iconst 0, 1) := by decide +kernel
theorem dX2_takesDigit_54 : decode cX2_takesDigit 54 = .ok (.ireturn, 1) := by decide +kernel
theorem dX2_takesDigit_55 : decode cX2_takesDigit 55 = .ok (.aload_n 0, 1) := by decide +kernel
theorem dX2_takesDigit_56 : decode cX2_takesDigit 56 = .ok (.getfield 9, 3) := by decide +kernel
theorem dX2_takesDigit_59 : decode cX2_takesDigit 59 = .ok (.iload_n 2, 1) := by decide +kernel
theorem dX2_takesDigit_60 : decode cX2_takesDigit 60 = .ok (.iload_n 3, 1) := by decide +kernel
theorem dX2_takesDigit_61 : decode cX2_takesDigit 61 = .ok (.iastore, 1) := by decide +kernel
theorem dX2_takesDigit_62 : decode cX2_takesDigit 62 = .ok (.iconst 1, 1) := by decide +kernel
theorem dX2_takesDigit_63 : decode cX2_takesDigit 63 = .ok (.ireturn, 1) := by decide +kernel
theorem dX2_takesBehind_0 : decode cX2_takesBehind 0 = .ok (.iload_n 1, 1) := by decide +kernel
theorem dX2_takesBehind_1 : decode cX2_takesBehind 1 = .ok (.bipush 41, 2) := by decide +kernel
theorem dX2_takesBehind_3 : decode cX2_takesBehind 3 = .ok (.if_icmp .ne 16, 3) := by decide +kernel
theorem dX2_takesBehind_6 : decode cX2_takesBehind 6 = .ok (.aload_n 0, 1) := by decide +kernel
theorem dX2_takesBehind_7 : decode cX2_takesBehind 7 = .ok (.getfield 26, 3) := by decide +kernel
theorem dX2_takesBehind_10 : decode cX2_takesBehind 10 = .ok (.ifCond .le 9, 3) := by decide +kernel
theorem dX2_takesBehind_13 : decode cX2_takesBehind 13 = .ok (.aload_n 0, 1) := by decide +kernel
theorem dX2_takesBehind_14 : decode cX2_takesBehind 14 = .ok (.invokevirtual 67, 3) := by decide +kernel
theorem dX2_takesBehind_17 : decode cX2_takesBehind 17 = .ok (.iconst 1, 1) := by decide +kernel
theorem dX2_takesBehind_18 : decode cX2_takesBehind 18 = .ok (.ireturn, 1) := by decide +kernel
theorem dX2_takesBehind_19 : decode cX2_takesBehind 19 = .ok (.iload_n 1, 1) := by decide +kernel
theorem dX2_takesBehind_20 : decode cX2_takesBehind 20 = .ok (.invokestatic 70, 3) := by decide +kernel
theorem dX2_takesBehind_23 : decode cX2_takesBehind 23 = .ok (.istore_n 2, 1) := by decide +kernel
theorem dX2_takesBehind_24 : decode cX2_takesBehind 24 = .ok (.iload_n 2, 1) := by decide +kernel
theorem dX2_takesBehind_25 : decode cX2_takesBehind 25 = .ok (.ifCond .ne 5, 3) := by decide +kernel
theorem dX2_takesBehind_28 : decode cX2_takesBehind 28 = .ok (.iconst 0, 1) := by decide +kernel
theorem dX2_takesBehind_29 : decode cX2_takesBehind 29 = .ok (.ireturn, 1) := by decide +kernel
theorem dX2_takesBehind_30 : decode cX2_takesBehind 30 = .ok (.aload_n 0, 1) := by decide +kernel
theorem dX2_takesBehind_31 : decode cX2_takesBehind 31 = .ok (.iload_n 2, 1) := by decide +kernel
theorem dX2_takesBehind_32 : decode cX2_takesBehind 32 = .ok (.invokevirtual 36, 3) := by decide +kernel
theorem dX2_takesBehind_35 : decode cX2_takesBehind 35 = .ok (.aload_n 0, 1) := by decide +kernel
theorem dX2_takesBehind_36 : decode cX2_takesBehind 36 = .ok (.iload_n 1, 1) := by decide +kernel
theorem dX2_takesBehind_37 : decode cX2_takesBehind 37 = .ok (.invokevirtual 63, 3) := by decide +kernel
theorem dX2_takesBehind_40 : decode cX2_takesBehind 40 = .ok (.aload_n 0, 1) := by decide +kernel
theorem dX2_takesBehind_41 : decode cX2_takesBehind 41 = .ok (.iconst 0, 1) := by decide +kernel
theorem dX2_takesBehind_42 : decode cX2_takesBehind 42 = .ok (.putfield 29, 3) := by decide +kernel
theorem dX2_takesBehind_45 : decode cX2_takesBehind 45 = .ok (.iconst 1, 1) := by decide +kernel
theorem dX2_takesBehind_46 : decode cX2_takesBehind 46 = .ok (.ireturn, 1) := by decide +kernel
theorem dX2_closeBracket_0 : decode cX2_closeBracket 0 = .ok (.aload_n 0, 1) := by decide +kernel
theorem dX2_closeBracket_1 : decode cX2_closeBracket 1 = .ok (.iconst 1, 1) := by decide +kernel
theorem dX2_closeBracket_2 : decode cX2_closeBracket 2 = .ok (.invokevirtual 36, 3) := by decide +kernel
theorem dX2_closeBracket_5 : decode cX2_closeBracket 5 = .ok (.aload_n 0, 1) := by decide +kernel
theorem dX2_closeBracket_6 : decode cX2_closeBracket 6 = .ok (.invokevirtual 74, 3) := by decide +kernel
theorem dX2_closeBracket_9 : decode cX2_closeBracket 9 = .ok (.istore_n 1, 1) := by decide +kernel
theorem dX2_closeBracket_10 : decode cX2_closeBracket 10 = .ok (.aload_n 0, 1) := by decide +kernel
theorem dX2_closeBracket_11 : decode cX2_closeBracket 11 = .ok (.dup, 1) := by decide +kernel
theorem dX2_closeBracket_12 : decode cX2_closeBracket 12 = .ok (.getfield 23, 3) := by decide +kernel
theorem dX2_closeBracket_15 : decode cX2_closeBracket 15 = .ok (.iconst 1, 1) := by decide +kernel
theorem dX2_closeBracket_16 : decode cX2_closeBracket 16 = .ok (.isub, 1) := by decide +kernel
theorem dX2_closeBracket_17 : decode cX2_closeBracket 17 = .ok (.putfield 23, 3) := by decide +kernel
theorem dX2_closeBracket_20 : decode cX2_closeBracket 20 = .ok (.aload_n 0, 1) := by decide +kernel
theorem dX2_closeBracket_21 : decode cX2_closeBracket 21 = .ok (.dup, 1) := by decide +kernel
theorem dX2_closeBracket_22 : decode cX2_closeBracket 22 = .ok (.getfield 26, 3) := by decide +kernel
theorem dX2_closeBracket_25 : decode cX2_closeBracket 25 = .ok (.iconst 1, 1) := by decide +kernel
theorem dX2_closeBracket_26 : decode cX2_closeBracket 26 = .ok (.isub, 1) := by decide +kernel
theorem dX2_closeBracket_27 : decode cX2_closeBracket 27 = .ok (.putfield 26, 3) := by decide +kernel
theorem dX2_closeBracket_30 : decode cX2_closeBracket 30 = .ok (.iload_n 1, 1) := by decide +kernel
theorem dX2_closeBracket_31 : decode cX2_closeBracket 31 = .ok (.bipush 40, 2) := by decide +kernel
theorem dX2_closeBracket_33 : decode cX2_closeBracket 33 = .ok (.if_icmp .eq 12, 3) := by decide +kernel
theorem dX2_closeBracket_36 : decode cX2_closeBracket 36 = .ok (.aload_n 0, 1) := by decide +kernel
theorem dX2_closeBracket_37 : decode cX2_closeBracket 37 = .ok (.sipush 10000, 3) := by decide +kernel
theorem dX2_closeBracket_40 : decode cX2_closeBracket 40 = .ok (.iload_n 1, 1) := by decide +kernel
theorem dX2_closeBracket_41 : decode cX2_closeBracket 41 = .ok (.iadd, 1) := by decide +kernel
theorem dX2_closeBracket_42 : decode cX2_closeBracket 42 = .ok (.invokevirtual 52, 3) := by decide +kernel
theorem dX2_closeBracket_45 : decode cX2_closeBracket 45 = .ok (.aload_n 0, 1) := by decide +kernel
theorem dX2_closeBracket_46 : decode cX2_closeBracket 46 = .ok (.iconst 3, 1) := by decide +kernel
theorem dX2_closeBracket_47 : decode cX2_closeBracket 47 = .ok (.putfield 29, 3) := by decide +kernel
theorem dX2_closeBracket_50 : decode cX2_closeBracket 50 = .ok (.return_, 1) := by decide +kernel
theorem dX2_release_0 : decode cX2_release 0 = .ok (.aload_n 0, 1) := by decide +kernel
theorem dX2_release_1 : decode cX2_release 1 = .ok (.getfield 23, 3) := by decide +kernel
theorem dX2_release_4 : decode cX2_release 4 = .ok (.ifCond .le 39, 3) := by decide +kernel
theorem dX2_release_7 : decode cX2_release 7 = .ok (.aload_n 0, 1) := by decide +kernel
theorem dX2_release_8 : decode cX2_release 8 = .ok (.invokevirtual 74, 3) := by decide +kernel
theorem dX2_release_11 : decode cX2_release 11 = .ok (.invokestatic 70, 3) := by decide +kernel
theorem dX2_release_14 : decode cX2_release 14 = .ok (.iload_n 1, 1) := by decide +kernel
theorem dX2_release_15 : decode cX2_release 15 = .ok (.if_icmp .lt 28, 3) := by decide +kernel
theorem dX2_release_18 : decode cX2_release 18 = .ok (.aload_n 0, 1) := by decide +kernel
theorem dX2_release_19 : decode cX2_release 19 = .ok (.sipush 10000, 3) := by decide +kernel
theorem dX2_release_22 : decode cX2_release 22 = .ok (.aload_n 0, 1) := by decide +kernel
theorem dX2_release_23 : decode cX2_release 23 = .ok (.invokevirtual 74, 3) := by decide +kernel
theorem dX2_release_26 : decode cX2_release 26 = .ok (.iadd, 1) := by decide +kernel
theorem dX2_release_27 : decode cX2_release 27 = .ok (.invokevirtual 52, 3) := by decide +kernel
theorem dX2_release_30 : decode cX2_release 30 = .ok (.aload_n 0, 1) := by decide +kernel
theorem dX2_release_31 : decode cX2_release 31 = .ok (.dup, 1) := by decide +kernel
theorem dX2_release_32 : decode cX2_release 32 = .ok (.getfield 23, 3) := by decide +kernel
theorem dX2_release_35 : decode cX2_release 35 = .ok (.iconst 1, 1) := by decide +kernel
theorem dX2_release_36 : decode cX2_release 36 = .ok (.isub, 1) := by decide +kernel
theorem dX2_release_37 : decode cX2_release 37 = .ok (.putfield 23, 3) := by decide +kernel
theorem dX2_release_40 : decode cX2_release 40 = .ok (.goto (-40), 3) := by decide +kernel
theorem dX2_release_43 : decode cX2_release 43 = .ok (.return_, 1) := by decide +kernel
theorem dX2_strengthOf_0 : decode cX2_strengthOf 0 = .ok (.iload_n 0, 1) := by decide +kernel
theorem dX2_strengthOf_1 : decode cX2_strengthOf 1 = .ok (.bipush 42, 2) := by decide +kernel
theorem dX2_strengthOf_3 : decode cX2_strengthOf 3 = .ok (.if_icmp .ne 5, 3) := by decide +kernel
theorem dX2_strengthOf_6 : decode cX2_strengthOf 6 = .ok (.iconst 2, 1) := by decide +kernel
theorem dX2_strengthOf_7 : decode cX2_strengthOf 7 = .ok (.ireturn, 1) := by decide +kernel
theorem dX2_strengthOf_8 : decode cX2_strengthOf 8 = .ok (.iload_n 0, 1) := by decide +kernel
theorem dX2_strengthOf_9 : decode cX2_strengthOf 9 = .ok (.bipush 43, 2) := by decide +kernel
theorem dX2_strengthOf_11 : decode cX2_strengthOf 11 = .ok (.if_icmp .eq 9, 3) := by decide +kernel
theorem dX2_strengthOf_14 : decode cX2_strengthOf 14 = .ok (.iload_n 0, 1) := by decide +kernel
theorem dX2_strengthOf_15 : decode cX2_strengthOf 15 = .ok (.bipush 45, 2) := by decide +kernel
theorem dX2_strengthOf_17 : decode cX2_strengthOf 17 = .ok (.if_icmp .ne 7, 3) := by decide +kernel
theorem dX2_strengthOf_20 : decode cX2_strengthOf 20 = .ok (.iconst 1, 1) := by decide +kernel
theorem dX2_strengthOf_21 : decode cX2_strengthOf 21 = .ok (.goto 4, 3) := by decide +kernel
theorem dX2_strengthOf_24 : decode cX2_strengthOf 24 = .ok (.iconst 0, 1) := by decide +kernel
theorem dX2_strengthOf_25 : decode cX2_strengthOf 25 = .ok (.ireturn, 1) := by decide +kernel
theorem dX2_isDigit_0 : decode cX2_isDigit 0 = .ok (.iload_n 0, 1) := by decide +kernel
theorem dX2_isDigit_1 : decode cX2_isDigit 1 = .ok (.bipush 48, 2) := by decide +kernel
theorem dX2_isDigit_3 : decode cX2_isDigit 3 = .ok (.if_icmp .lt 13, 3) := by decide +kernel
theorem dX2_isDigit_6 : decode cX2_isDigit 6 = .ok (.iload_n 0, 1) := by decide +kernel
theorem dX2_isDigit_7 : decode cX2_isDigit 7 = .ok (.bipush 57, 2) := by decide +kernel
theorem dX2_isDigit_9 : decode cX2_isDigit 9 = .ok (.if_icmp .gt 7, 3) := by decide +kernel
theorem dX2_isDigit_12 : decode cX2_isDigit 12 = .ok (.iconst 1, 1) := by decide +kernel
theorem dX2_isDigit_13 : decode cX2_isDigit 13 = .ok (.goto 4, 3) := by decide +kernel
theorem dX2_isDigit_16 : decode cX2_isDigit 16 = .ok (.iconst 0, 1) := by decide +kernel
theorem dX2_isDigit_17 : decode cX2_isDigit 17 = .ok (.ireturn, 1) := by decide +kernel
theorem dX2_addStep_0 : decode cX2_addStep 0 = .ok (.aload_n 0, 1) := by decide +kernel
theorem dX2_addStep_1 : decode cX2_addStep 1 = .ok (.getfield 19, 3) := by decide +kernel
theorem dX2_addStep_4 : decode cX2_addStep 4 = .ok (.ifCond .lt 35, 3) := by decide +kernel
theorem dX2_addStep_7 : decode cX2_addStep 7 = .ok (.aload_n 0, 1) := by decide +kernel
theorem dX2_addStep_8 : decode cX2_addStep 8 = .ok (.getfield 19, 3) := by decide +kernel
theorem dX2_addStep_11 : decode cX2_addStep 11 = .ok (.aload_n 0, 1) := by decide +kernel
theorem dX2_addStep_12 : decode cX2_addStep 12 = .ok (.getfield 9, 3) := by decide +kernel
theorem dX2_addStep_15 : decode cX2_addStep 15 = .ok (.arraylength, 1) := by decide +kernel
theorem dX2_addStep_16 : decode cX2_addStep 16 = .ok (.if_icmp .ge 23, 3) := by decide +kernel
theorem dX2_addStep_19 : decode cX2_addStep 19 = .ok (.aload_n 0, 1) := by decide +kernel
theorem dX2_addStep_20 : decode cX2_addStep 20 = .ok (.getfield 9, 3) := by decide +kernel
theorem dX2_addStep_23 : decode cX2_addStep 23 = .ok (.aload_n 0, 1) := by decide +kernel
theorem dX2_addStep_24 : decode cX2_addStep 24 = .ok (.getfield 19, 3) := by decide +kernel
theorem dX2_addStep_27 : decode cX2_addStep 27 = .ok (.iload_n 1, 1) := by decide +kernel
theorem dX2_addStep_28 : decode cX2_addStep 28 = .ok (.iastore, 1) := by decide +kernel
theorem dX2_addStep_29 : decode cX2_addStep 29 = .ok (.aload_n 0, 1) := by decide +kernel
theorem dX2_addStep_30 : decode cX2_addStep 30 = .ok (.dup, 1) := by decide +kernel
theorem dX2_addStep_31 : decode cX2_addStep 31 = .ok (.getfield 19, 3) := by decide +kernel
theorem dX2_addStep_34 : decode cX2_addStep 34 = .ok (.iconst 1, 1) := by decide +kernel
theorem dX2_addStep_35 : decode cX2_addStep 35 = .ok (.iadd, 1) := by decide +kernel
theorem dX2_addStep_36 : decode cX2_addStep 36 = .ok (.putfield 19, 3) := by decide +kernel
theorem dX2_addStep_39 : decode cX2_addStep 39 = .ok (.return_, 1) := by decide +kernel
theorem dX2_push_0 : decode cX2_push 0 = .ok (.aload_n 0, 1) := by decide +kernel
theorem dX2_push_1 : decode cX2_push 1 = .ok (.getfield 23, 3) := by decide +kernel
theorem dX2_push_4 : decode cX2_push 4 = .ok (.ifCond .lt 35, 3) := by decide +kernel
theorem dX2_push_7 : decode cX2_push 7 = .ok (.aload_n 0, 1) := by decide +kernel
theorem dX2_push_8 : decode cX2_push 8 = .ok (.getfield 23, 3) := by decide +kernel
theorem dX2_push_11 : decode cX2_push 11 = .ok (.aload_n 0, 1) := by decide +kernel
theorem dX2_push_12 : decode cX2_push 12 = .ok (.getfield 15, 3) := by decide +kernel
theorem dX2_push_15 : decode cX2_push 15 = .ok (.arraylength, 1) := by decide +kernel
theorem dX2_push_16 : decode cX2_push 16 = .ok (.if_icmp .ge 23, 3) := by decide +kernel
theorem dX2_push_19 : decode cX2_push 19 = .ok (.aload_n 0, 1) := by decide +kernel
theorem dX2_push_20 : decode cX2_push 20 = .ok (.getfield 15, 3) := by decide +kernel
theorem dX2_push_23 : decode cX2_push 23 = .ok (.aload_n 0, 1) := by decide +kernel
theorem dX2_push_24 : decode cX2_push 24 = .ok (.getfield 23, 3) := by decide +kernel
theorem dX2_push_27 : decode cX2_push 27 = .ok (.iload_n 1, 1) := by decide +kernel
theorem dX2_push_28 : decode cX2_push 28 = .ok (.castore, 1) := by decide +kernel
theorem dX2_push_29 : decode cX2_push 29 = .ok (.aload_n 0, 1) := by decide +kernel
theorem dX2_push_30 : decode cX2_push 30 = .ok (.dup, 1) := by decide +kernel
theorem dX2_push_31 : decode cX2_push 31 = .ok (.getfield 23, 3) := by decide +kernel
theorem dX2_push_34 : decode cX2_push 34 = .ok (.iconst 1, 1) := by decide +kernel
theorem dX2_push_35 : decode cX2_push 35 = .ok (.iadd, 1) := by decide +kernel
theorem dX2_push_36 : decode cX2_push 36 = .ok (.putfield 23, 3) := by decide +kernel
theorem dX2_push_39 : decode cX2_push 39 = .ok (.return_, 1) := by decide +kernel
theorem dX2_top_0 : decode cX2_top 0 = .ok (.aload_n 0, 1) := by decide +kernel
theorem dX2_top_1 : decode cX2_top 1 = .ok (.getfield 23, 3) := by decide +kernel
theorem dX2_top_4 : decode cX2_top 4 = .ok (.iconst 1, 1) := by decide +kernel
theorem dX2_top_5 : decode cX2_top 5 = .ok (.isub, 1) := by decide +kernel
theorem dX2_top_6 : decode cX2_top 6 = .ok (.istore_n 1, 1) := by decide +kernel
theorem dX2_top_7 : decode cX2_top 7 = .ok (.iload_n 1, 1) := by decide +kernel
theorem dX2_top_8 : decode cX2_top 8 = .ok (.ifCond .lt 21, 3) := by decide +kernel
theorem dX2_top_11 : decode cX2_top 11 = .ok (.iload_n 1, 1) := by decide +kernel
theorem dX2_top_12 : decode cX2_top 12 = .ok (.aload_n 0, 1) := by decide +kernel
theorem dX2_top_13 : decode cX2_top 13 = .ok (.getfield 15, 3) := by decide +kernel
theorem dX2_top_16 : decode cX2_top 16 = .ok (.arraylength, 1) := by decide +kernel
theorem dX2_top_17 : decode cX2_top 17 = .ok (.if_icmp .ge 12, 3) := by decide +kernel
theorem dX2_top_20 : decode cX2_top 20 = .ok (.aload_n 0, 1) := by decide +kernel
theorem dX2_top_21 : decode cX2_top 21 = .ok (.getfield 15, 3) := by decide +kernel
theorem dX2_top_24 : decode cX2_top 24 = .ok (.iload_n 1, 1) := by decide +kernel
theorem dX2_top_25 : decode cX2_top 25 = .ok (.caload, 1) := by decide +kernel
theorem dX2_top_26 : decode cX2_top 26 = .ok (.goto 5, 3) := by decide +kernel
theorem dX2_top_29 : decode cX2_top 29 = .ok (.bipush 40, 2) := by decide +kernel
theorem dX2_top_31 : decode cX2_top 31 = .ok (.ireturn, 1) := by decide +kernel
theorem dX3_init_0 : decode cX3_init 0 = .ok (.aload_n 0, 1) := by decide +kernel
theorem dX3_init_1 : decode cX3_init 1 = .ok (.invokespecial 3, 3) := by decide +kernel
theorem dX3_init_4 : decode cX3_init 4 = .ok (.aload_n 0, 1) := by decide +kernel
theorem dX3_init_5 : decode cX3_init 5 = .ok (.bipush 60, 2) := by decide +kernel
theorem dX3_init_7 : decode cX3_init 7 = .ok (.newarray .long, 2) := by decide +kernel
theorem dX3_init_9 : decode cX3_init 9 = .ok (.putfield 9, 3) := by decide +kernel
theorem dX3_init_12 : decode cX3_init 12 = .ok (.aload_n 0, 1) := by decide +kernel
theorem dX3_init_13 : decode cX3_init 13 = .ok (.bipush 60, 2) := by decide +kernel
theorem dX3_init_15 : decode cX3_init 15 = .ok (.newarray .long, 2) := by decide +kernel
theorem dX3_init_17 : decode cX3_init 17 = .ok (.putfield 15, 3) := by decide +kernel
theorem dX3_init_20 : decode cX3_init 20 = .ok (.return_, 1) := by decide +kernel
theorem dX3_reckon_0 : decode cX3_reckon 0 = .ok (.aload_n 0, 1) := by decide +kernel
theorem dX3_reckon_1 : decode cX3_reckon 1 = .ok (.iconst 0, 1) := by decide +kernel
theorem dX3_reckon_2 : decode cX3_reckon 2 = .ok (.putfield 18, 3) := by decide +kernel
theorem dX3_reckon_5 : decode cX3_reckon 5 = .ok (.aload_n 0, 1) := by decide +kernel
theorem dX3_reckon_6 : decode cX3_reckon 6 = .ok (.iconst 0, 1) := by decide +kernel
theorem dX3_reckon_7 : decode cX3_reckon 7 = .ok (.putfield 22, 3) := by decide +kernel
theorem dX3_reckon_10 : decode cX3_reckon 10 = .ok (.aload_n 0, 1) := by decide +kernel
theorem dX3_reckon_11 : decode cX3_reckon 11 = .ok (.iconst 0, 1) := by decide +kernel
theorem dX3_reckon_12 : decode cX3_reckon 12 = .ok (.putfield 25, 3) := by decide +kernel
theorem dX3_reckon_15 : decode cX3_reckon 15 = .ok (.iconst 0, 1) := by decide +kernel
theorem dX3_reckon_16 : decode cX3_reckon 16 = .ok (.istore_n 3, 1) := by decide +kernel
theorem dX3_reckon_17 : decode cX3_reckon 17 = .ok (.iload_n 3, 1) := by decide +kernel
theorem dX3_reckon_18 : decode cX3_reckon 18 = .ok (.aload_n 1, 1) := by decide +kernel
theorem dX3_reckon_19 : decode cX3_reckon 19 = .ok (.getfield 28, 3) := by decide +kernel
theorem dX3_reckon_22 : decode cX3_reckon 22 = .ok (.arraylength, 1) := by decide +kernel
theorem dX3_reckon_23 : decode cX3_reckon 23 = .ok (.if_icmp .ge 83, 3) := by decide +kernel
theorem dX3_reckon_26 : decode cX3_reckon 26 = .ok (.iload_n 3, 1) := by decide +kernel
theorem dX3_reckon_27 : decode cX3_reckon 27 = .ok (.aload_n 0, 1) := by decide +kernel
theorem dX3_reckon_28 : decode cX3_reckon 28 = .ok (.getfield 9, 3) := by decide +kernel
theorem dX3_reckon_31 : decode cX3_reckon 31 = .ok (.arraylength, 1) := by decide +kernel
theorem dX3_reckon_32 : decode cX3_reckon 32 = .ok (.if_icmp .ge 74, 3) := by decide +kernel
theorem dX3_reckon_35 : decode cX3_reckon 35 = .ok (.aload_n 0, 1) := by decide +kernel
theorem dX3_reckon_36 : decode cX3_reckon 36 = .ok (.aload_n 1, 1) := by decide +kernel
theorem dX3_reckon_37 : decode cX3_reckon 37 = .ok (.getfield 28, 3) := by decide +kernel
theorem dX3_reckon_40 : decode cX3_reckon 40 = .ok (.iload_n 3, 1) := by decide +kernel
theorem dX3_reckon_41 : decode cX3_reckon 41 = .ok (.iaload, 1) := by decide +kernel
theorem dX3_reckon_42 : decode cX3_reckon 42 = .ok (.aload_n 2, 1) := by decide +kernel
theorem dX3_reckon_43 : decode cX3_reckon 43 = .ok (.invokevirtual 34, 3) := by decide +kernel
theorem dX3_reckon_46 : decode cX3_reckon 46 = .ok (.lstore 4, 2) := by decide +kernel
theorem dX3_reckon_48 : decode cX3_reckon 48 = .ok (.lload 4, 2) := by decide +kernel
theorem dX3_reckon_50 : decode cX3_reckon 50 = .ok (.ldc2_w 38, 3) := by decide +kernel
theorem dX3_reckon_53 : decode cX3_reckon 53 = .ok (.lcmp, 1) := by decide +kernel
theorem dX3_reckon_54 : decode cX3_reckon 54 = .ok (.ifCond .le 9, 3) := by decide +kernel
theorem dX3_reckon_57 : decode cX3_reckon 57 = .ok (.aload_n 0, 1) := by decide +kernel
theorem dX3_reckon_58 : decode cX3_reckon 58 = .ok (.iconst 1, 1) := by decide +kernel
theorem dX3_reckon_59 : decode cX3_reckon 59 = .ok (.putfield 25, 3) := by decide +kernel
theorem dX3_reckon_62 : decode cX3_reckon 62 = .ok (.return_, 1) := by decide +kernel
theorem dX3_reckon_63 : decode cX3_reckon 63 = .ok (.lload 4, 2) := by decide +kernel
theorem dX3_reckon_65 : decode cX3_reckon 65 = .ok (.lconst 0, 1) := by decide +kernel
theorem dX3_reckon_66 : decode cX3_reckon 66 = .ok (.lcmp, 1) := by decide +kernel
theorem dX3_reckon_67 : decode cX3_reckon 67 = .ok (.ifCond .ge 9, 3) := by decide +kernel
theorem dX3_reckon_70 : decode cX3_reckon 70 = .ok (.aload_n 0, 1) := by decide +kernel
theorem dX3_reckon_71 : decode cX3_reckon 71 = .ok (.iconst 2, 1) := by decide +kernel
theorem dX3_reckon_72 : decode cX3_reckon 72 = .ok (.putfield 25, 3) := by decide +kernel
theorem dX3_reckon_75 : decode cX3_reckon 75 = .ok (.return_, 1) := by decide +kernel
theorem dX3_reckon_76 : decode cX3_reckon 76 = .ok (.aload_n 0, 1) := by decide +kernel
theorem dX3_reckon_77 : decode cX3_reckon 77 = .ok (.getfield 9, 3) := by decide +kernel
theorem dX3_reckon_80 : decode cX3_reckon 80 = .ok (.iload_n 3, 1) := by decide +kernel
theorem dX3_reckon_81 : decode cX3_reckon 81 = .ok (.lload 4, 2) := by decide +kernel
theorem dX3_reckon_83 : decode cX3_reckon 83 = .ok (.lastore, 1) := by decide +kernel
theorem dX3_reckon_84 : decode cX3_reckon 84 = .ok (.aload_n 0, 1) := by decide +kernel
theorem dX3_reckon_85 : decode cX3_reckon 85 = .ok (.dup, 1) := by decide +kernel
theorem dX3_reckon_86 : decode cX3_reckon 86 = .ok (.getfield 22, 3) := by decide +kernel
theorem dX3_reckon_89 : decode cX3_reckon 89 = .ok (.iconst 1, 1) := by decide +kernel
theorem dX3_reckon_90 : decode cX3_reckon 90 = .ok (.iadd, 1) := by decide +kernel
theorem dX3_reckon_91 : decode cX3_reckon 91 = .ok (.putfield 22, 3) := by decide +kernel
theorem dX3_reckon_94 : decode cX3_reckon 94 = .ok (.aload_n 0, 1) := by decide +kernel
theorem dX3_reckon_95 : decode cX3_reckon 95 = .ok (.lload 4, 2) := by decide +kernel
theorem dX3_reckon_97 : decode cX3_reckon 97 = .ok (.invokevirtual 40, 3) := by decide +kernel
theorem dX3_reckon_100 : decode cX3_reckon 100 = .ok (.iinc 3 1, 3) := by decide +kernel
theorem dX3_reckon_103 : decode cX3_reckon 103 = .ok (.goto (-86), 3) := by decide +kernel
theorem dX3_reckon_106 : decode cX3_reckon 106 = .ok (.return_, 1) := by decide +kernel
theorem dX3_numberOf_0 : decode cX3_numberOf 0 = .ok (.iload_n 1, 1) := by decide +kernel
theorem dX3_numberOf_1 : decode cX3_numberOf 1 = .ok (.sipush 10000, 3) := by decide +kernel
theorem dX3_numberOf_4 : decode cX3_numberOf 4 = .ok (.if_icmp .ge 6, 3) := by decide +kernel
theorem dX3_numberOf_7 : decode cX3_numberOf 7 = .ok (.iload_n 1, 1) := by decide +kernel
theorem dX3_numberOf_8 : decode cX3_numberOf 8 = .ok (.i2l, 1) := by decide +kernel
theorem dX3_numberOf_9 : decode cX3_numberOf 9 = .ok (.lreturn, 1) := by decide +kernel
theorem dX3_numberOf_10 : decode cX3_numberOf 10 = .ok (.iload_n 1, 1) := by decide +kernel
theorem dX3_numberOf_11 : decode cX3_numberOf 11 = .ok (.sipush 10000, 3) := by decide +kernel
theorem dX3_numberOf_14 : decode cX3_numberOf 14 = .ok (.isub, 1) := by decide +kernel
theorem dX3_numberOf_15 : decode cX3_numberOf 15 = .ok (.bipush 65, 2) := by decide +kernel
theorem dX3_numberOf_17 : decode cX3_numberOf 17 = .ok (.isub, 1) := by decide +kernel
theorem dX3_numberOf_18 : decode cX3_numberOf 18 = .ok (.istore_n 3, 1) := by decide +kernel
theorem dX3_numberOf_19 : decode cX3_numberOf 19 = .ok (.iload_n 3, 1) := by decide +kernel
theorem dX3_numberOf_20 : decode cX3_numberOf 20 = .ok (.i2l, 1) := by decide +kernel
theorem dX3_numberOf_21 : decode cX3_numberOf 21 = .ok (.lconst 0, 1) := by decide +kernel
theorem dX3_numberOf_22 : decode cX3_numberOf 22 = .ok (.ldc2_w 44, 3) := by decide +kernel
theorem dX3_numberOf_25 : decode cX3_numberOf 25 = .ok (.invokestatic 46, 3) := by decide +kernel
theorem dX3_numberOf_28 : decode cX3_numberOf 28 = .ok (.ifCond .eq 9, 3) := by decide +kernel
theorem dX3_numberOf_31 : decode cX3_numberOf 31 = .ok (.aload_n 2, 1) := by decide +kernel
theorem dX3_numberOf_32 : decode cX3_numberOf 32 = .ok (.iload_n 3, 1) := by decide +kernel
theorem dX3_numberOf_33 : decode cX3_numberOf 33 = .ok (.invokevirtual 50, 3) := by decide +kernel
theorem dX3_numberOf_36 : decode cX3_numberOf 36 = .ok (.lreturn, 1) := by decide +kernel
theorem dX3_numberOf_37 : decode cX3_numberOf 37 = .ok (.aload_n 0, 1) := by decide +kernel
theorem dX3_numberOf_38 : decode cX3_numberOf 38 = .ok (.invokevirtual 56, 3) := by decide +kernel
theorem dX3_numberOf_41 : decode cX3_numberOf 41 = .ok (.lstore 4, 2) := by decide +kernel
theorem dX3_numberOf_43 : decode cX3_numberOf 43 = .ok (.iload_n 1, 1) := by decide +kernel
theorem dX3_numberOf_44 : decode cX3_numberOf 44 = .ok (.sipush 10000, 3) := by decide +kernel
theorem dX3_numberOf_47 : decode cX3_numberOf 47 = .ok (.isub, 1) := by decide +kernel
theorem dX3_numberOf_48 : decode cX3_numberOf 48 = .ok (.lookupswitch 102 #[(42, 84), (43, 94), (107, 64), (113, 52), (115, 76)], 52) := by decide +kernel
theorem dX3_numberOf_100 : decode cX3_numberOf 100 = .ok (.lload 4, 2) := by decide +kernel
theorem dX3_numberOf_102 : decode cX3_numberOf 102 = .ok (.iconst 2, 1) := by decide +kernel
theorem dX3_numberOf_103 : decode cX3_numberOf 103 = .ok (.aload_n 2, 1) := by decide +kernel
theorem dX3_numberOf_104 : decode cX3_numberOf 104 = .ok (.iconst 0, 1) := by decide +kernel
theorem dX3_numberOf_105 : decode cX3_numberOf 105 = .ok (.invokevirtual 60, 3) := by decide +kernel
theorem dX3_numberOf_108 : decode cX3_numberOf 108 = .ok (.invokestatic 64, 3) := by decide +kernel
theorem dX3_numberOf_111 : decode cX3_numberOf 111 = .ok (.lreturn, 1) := by decide +kernel
theorem dX3_numberOf_112 : decode cX3_numberOf 112 = .ok (.lload 4, 2) := by decide +kernel
theorem dX3_numberOf_114 : decode cX3_numberOf 114 = .ok (.iconst 3, 1) := by decide +kernel
theorem dX3_numberOf_115 : decode cX3_numberOf 115 = .ok (.aload_n 2, 1) := by decide +kernel
theorem dX3_numberOf_116 : decode cX3_numberOf 116 = .ok (.iconst 0, 1) := by decide +kernel
theorem dX3_numberOf_117 : decode cX3_numberOf 117 = .ok (.invokevirtual 60, 3) := by decide +kernel
theorem dX3_numberOf_120 : decode cX3_numberOf 120 = .ok (.invokestatic 64, 3) := by decide +kernel
theorem dX3_numberOf_123 : decode cX3_numberOf 123 = .ok (.lreturn, 1) := by decide +kernel
theorem dX3_numberOf_124 : decode cX3_numberOf 124 = .ok (.lload 4, 2) := by decide +kernel
theorem dX3_numberOf_126 : decode cX3_numberOf 126 = .ok (.lload 4, 2) := by decide +kernel
theorem dX3_numberOf_128 : decode cX3_numberOf 128 = .ok (.invokestatic 68, 3) := by decide +kernel
theorem dX3_numberOf_131 : decode cX3_numberOf 131 = .ok (.lreturn, 1) := by decide +kernel
theorem dX3_numberOf_132 : decode cX3_numberOf 132 = .ok (.aload_n 0, 1) := by decide +kernel
theorem dX3_numberOf_133 : decode cX3_numberOf 133 = .ok (.invokevirtual 56, 3) := by decide +kernel
theorem dX3_numberOf_136 : decode cX3_numberOf 136 = .ok (.lload 4, 2) := by decide +kernel
theorem dX3_numberOf_138 : decode cX3_numberOf 138 = .ok (.invokestatic 68, 3) := by decide +kernel
theorem dX3_numberOf_141 : decode cX3_numberOf 141 = .ok (.lreturn, 1) := by decide +kernel
theorem dX3_numberOf_142 : decode cX3_numberOf 142 = .ok (.aload_n 0, 1) := by decide +kernel
theorem dX3_numberOf_143 : decode cX3_numberOf 143 = .ok (.invokevirtual 56, 3) := by decide +kernel
theorem dX3_numberOf_146 : decode cX3_numberOf 146 = .ok (.lload 4, 2) := by decide +kernel
theorem dX3_numberOf_148 : decode cX3_numberOf 148 = .ok (.ladd, 1) := by decide +kernel
theorem dX3_numberOf_149 : decode cX3_numberOf 149 = .ok (.lreturn, 1) := by decide +kernel
theorem dX3_numberOf_150 : decode cX3_numberOf 150 = .ok (.aload_n 0, 1) := by decide +kernel
theorem dX3_numberOf_151 : decode cX3_numberOf 151 = .ok (.invokevirtual 56, 3) := by decide +kernel
theorem dX3_numberOf_154 : decode cX3_numberOf 154 = .ok (.lload 4, 2) := by decide +kernel
theorem dX3_numberOf_156 : decode cX3_numberOf 156 = .ok (.lsub, 1) := by decide +kernel
theorem dX3_numberOf_157 : decode cX3_numberOf 157 = .ok (.lreturn, 1) := by decide +kernel
theorem dX3_product_0 : decode cX3_product 0 = .ok (.lload_n 0, 1) := by decide +kernel
theorem dX3_product_1 : decode cX3_product 1 = .ok (.lconst 0, 1) := by decide +kernel
theorem dX3_product_2 : decode cX3_product 2 = .ok (.lcmp, 1) := by decide +kernel
theorem dX3_product_3 : decode cX3_product 3 = .ok (.ifCond .le 19, 3) := by decide +kernel
theorem dX3_product_6 : decode cX3_product 6 = .ok (.lload_n 2, 1) := by decide +kernel
theorem dX3_product_7 : decode cX3_product 7 = .ok (.ldc2_w 38, 3) := by decide +kernel
theorem dX3_product_10 : decode cX3_product 10 = .ok (.lload_n 0, 1) := by decide +kernel
theorem dX3_product_11 : decode cX3_product 11 = .ok (.ldiv, 1) := by decide +kernel
theorem dX3_product_12 : decode cX3_product 12 = .ok (.lcmp, 1) := by decide +kernel
theorem dX3_product_13 : decode cX3_product 13 = .ok (.ifCond .le 9, 3) := by decide +kernel
theorem dX3_product_16 : decode cX3_product 16 = .ok (.ldc2_w 72, 3) := by decide +kernel
theorem dX3_product_19 : decode cX3_product 19 = .ok (.goto 6, 3) := by decide +kernel
theorem dX3_product_22 : decode cX3_product 22 = .ok (.lload_n 0, 1) := by decide +kernel
theorem dX3_product_23 : decode cX3_product 23 = .ok (.lload_n 2, 1) := by decide +kernel
theorem dX3_product_24 : decode cX3_product 24 = .ok (.lmul, 1) := by decide +kernel
theorem dX3_product_25 : decode cX3_product 25 = .ok (.lreturn, 1) := by decide +kernel
theorem dX3_result_0 : decode cX3_result 0 = .ok (.aload_n 0, 1) := by decide +kernel
theorem dX3_result_1 : decode cX3_result 1 = .ok (.aload_n 0, 1) := by decide +kernel
theorem dX3_result_2 : decode cX3_result 2 = .ok (.getfield 22, 3) := by decide +kernel
theorem dX3_result_5 : decode cX3_result 5 = .ok (.iconst 1, 1) := by decide +kernel
theorem dX3_result_6 : decode cX3_result 6 = .ok (.isub, 1) := by decide +kernel
theorem dX3_result_7 : decode cX3_result 7 = .ok (.invokevirtual 74, 3) := by decide +kernel
theorem dX3_result_10 : decode cX3_result 10 = .ok (.lreturn, 1) := by decide +kernel
theorem dX3_valueOf_0 : decode cX3_valueOf 0 = .ok (.iload_n 1, 1) := by decide +kernel
theorem dX3_valueOf_1 : decode cX3_valueOf 1 = .ok (.ifCond .lt 21, 3) := by decide +kernel
theorem dX3_valueOf_4 : decode cX3_valueOf 4 = .ok (.iload_n 1, 1) := by decide +kernel
theorem dX3_valueOf_5 : decode cX3_valueOf 5 = .ok (.aload_n 0, 1) := by decide +kernel
theorem dX3_valueOf_6 : decode cX3_valueOf 6 = .ok (.getfield 9, 3) := by decide +kernel
theorem dX3_valueOf_9 : decode cX3_valueOf 9 = .ok (.arraylength, 1) := by decide +kernel
theorem dX3_valueOf_10 : decode cX3_valueOf 10 = .ok (.if_icmp .ge 12, 3) := by decide +kernel
theorem dX3_valueOf_13 : decode cX3_valueOf 13 = .ok (.aload_n 0, 1) := by decide +kernel
theorem dX3_valueOf_14 : decode cX3_valueOf 14 = .ok (.getfield 9, 3) := by decide +kernel
theorem dX3_valueOf_17 : decode cX3_valueOf 17 = .ok (.iload_n 1, 1) := by decide +kernel
theorem dX3_valueOf_18 : decode cX3_valueOf 18 = .ok (.laload, 1) := by decide +kernel
theorem dX3_valueOf_19 : decode cX3_valueOf 19 = .ok (.goto 4, 3) := by decide +kernel
theorem dX3_valueOf_22 : decode cX3_valueOf 22 = .ok (.lconst 0, 1) := by decide +kernel
theorem dX3_valueOf_23 : decode cX3_valueOf 23 = .ok (.lreturn, 1) := by decide +kernel
theorem dX3_push_0 : decode cX3_push 0 = .ok (.aload_n 0, 1) := by decide +kernel
theorem dX3_push_1 : decode cX3_push 1 = .ok (.getfield 18, 3) := by decide +kernel
theorem dX3_push_4 : decode cX3_push 4 = .ok (.ifCond .lt 35, 3) := by decide +kernel
theorem dX3_push_7 : decode cX3_push 7 = .ok (.aload_n 0, 1) := by decide +kernel
theorem dX3_push_8 : decode cX3_push 8 = .ok (.getfield 18, 3) := by decide +kernel
theorem dX3_push_11 : decode cX3_push 11 = .ok (.aload_n 0, 1) := by decide +kernel
theorem dX3_push_12 : decode cX3_push 12 = .ok (.getfield 15, 3) := by decide +kernel
theorem dX3_push_15 : decode cX3_push 15 = .ok (.arraylength, 1) := by decide +kernel
theorem dX3_push_16 : decode cX3_push 16 = .ok (.if_icmp .ge 23, 3) := by decide +kernel
theorem dX3_push_19 : decode cX3_push 19 = .ok (.aload_n 0, 1) := by decide +kernel
theorem dX3_push_20 : decode cX3_push 20 = .ok (.getfield 15, 3) := by decide +kernel
theorem dX3_push_23 : decode cX3_push 23 = .ok (.aload_n 0, 1) := by decide +kernel
theorem dX3_push_24 : decode cX3_push 24 = .ok (.getfield 18, 3) := by decide +kernel
theorem dX3_push_27 : decode cX3_push 27 = .ok (.lload_n 1, 1) := by decide +kernel
theorem dX3_push_28 : decode cX3_push 28 = .ok (.lastore, 1) := by decide +kernel
theorem dX3_push_29 : decode cX3_push 29 = .ok (.aload_n 0, 1) := by decide +kernel
theorem dX3_push_30 : decode cX3_push 30 = .ok (.dup, 1) := by decide +kernel
theorem dX3_push_31 : decode cX3_push 31 = .ok (.getfield 18, 3) := by decide +kernel
theorem dX3_push_34 : decode cX3_push 34 = .ok (.iconst 1, 1) := by decide +kernel
theorem dX3_push_35 : decode cX3_push 35 = .ok (.iadd, 1) := by decide +kernel
theorem dX3_push_36 : decode cX3_push 36 = .ok (.putfield 18, 3) := by decide +kernel
theorem dX3_push_39 : decode cX3_push 39 = .ok (.return_, 1) := by decide +kernel
theorem dX3_pop_0 : decode cX3_pop 0 = .ok (.aload_n 0, 1) := by decide +kernel
theorem dX3_pop_1 : decode cX3_pop 1 = .ok (.getfield 18, 3) := by decide +kernel
theorem dX3_pop_4 : decode cX3_pop 4 = .ok (.iconst 1, 1) := by decide +kernel
theorem dX3_pop_5 : decode cX3_pop 5 = .ok (.if_icmp .lt 15, 3) := by decide +kernel
theorem dX3_pop_8 : decode cX3_pop 8 = .ok (.aload_n 0, 1) := by decide +kernel
theorem dX3_pop_9 : decode cX3_pop 9 = .ok (.getfield 18, 3) := by decide +kernel
theorem dX3_pop_12 : decode cX3_pop 12 = .ok (.aload_n 0, 1) := by decide +kernel
theorem dX3_pop_13 : decode cX3_pop 13 = .ok (.getfield 15, 3) := by decide +kernel
theorem dX3_pop_16 : decode cX3_pop 16 = .ok (.arraylength, 1) := by decide +kernel
theorem dX3_pop_17 : decode cX3_pop 17 = .ok (.if_icmp .le 5, 3) := by decide +kernel
theorem dX3_pop_20 : decode cX3_pop 20 = .ok (.lconst 0, 1) := by decide +kernel
theorem dX3_pop_21 : decode cX3_pop 21 = .ok (.lreturn, 1) := by decide +kernel
theorem dX3_pop_22 : decode cX3_pop 22 = .ok (.aload_n 0, 1) := by decide +kernel
theorem dX3_pop_23 : decode cX3_pop 23 = .ok (.dup, 1) := by decide +kernel
theorem dX3_pop_24 : decode cX3_pop 24 = .ok (.getfield 18, 3) := by decide +kernel
theorem dX3_pop_27 : decode cX3_pop 27 = .ok (.iconst 1, 1) := by decide +kernel
theorem dX3_pop_28 : decode cX3_pop 28 = .ok (.isub, 1) := by decide +kernel
theorem dX3_pop_29 : decode cX3_pop 29 = .ok (.putfield 18, 3) := by decide +kernel
theorem dX3_pop_32 : decode cX3_pop 32 = .ok (.aload_n 0, 1) := by decide +kernel
theorem dX3_pop_33 : decode cX3_pop 33 = .ok (.getfield 15, 3) := by decide +kernel
theorem dX3_pop_36 : decode cX3_pop 36 = .ok (.aload_n 0, 1) := by decide +kernel
theorem dX3_pop_37 : decode cX3_pop 37 = .ok (.getfield 18, 3) := by decide +kernel
theorem dX3_pop_40 : decode cX3_pop 40 = .ok (.laload, 1) := by decide +kernel
theorem dX3_pop_41 : decode cX3_pop 41 = .ok (.lreturn, 1) := by decide +kernel
theorem dX4_init_0 : decode cX4_init 0 = .ok (.aload_n 0, 1) := by decide +kernel
theorem dX4_init_1 : decode cX4_init 1 = .ok (.invokespecial 3, 3) := by decide +kernel
theorem dX4_init_4 : decode cX4_init 4 = .ok (.aload_n 0, 1) := by decide +kernel
theorem dX4_init_5 : decode cX4_init 5 = .ok (.iconst 2, 1) := by decide +kernel
theorem dX4_init_6 : decode cX4_init 6 = .ok (.newarray .int, 2) := by decide +kernel
theorem dX4_init_8 : decode cX4_init 8 = .ok (.dup, 1) := by decide +kernel
theorem dX4_init_9 : decode cX4_init 9 = .ok (.iconst 0, 1) := by decide +kernel
theorem dX4_init_10 : decode cX4_init 10 = .ok (.iconst 0, 1) := by decide +kernel
theorem dX4_init_11 : decode cX4_init 11 = .ok (.iastore, 1) := by decide +kernel
theorem dX4_init_12 : decode cX4_init 12 = .ok (.dup, 1) := by decide +kernel
theorem dX4_init_13 : decode cX4_init 13 = .ok (.iconst 1, 1) := by decide +kernel
theorem dX4_init_14 : decode cX4_init 14 = .ok (.iconst 3, 1) := by decide +kernel
theorem dX4_init_15 : decode cX4_init 15 = .ok (.iastore, 1) := by decide +kernel
theorem dX4_init_16 : decode cX4_init 16 = .ok (.putfield 9, 3) := by decide +kernel
theorem dX4_init_19 : decode cX4_init 19 = .ok (.aload_n 0, 1) := by decide +kernel
theorem dX4_init_20 : decode cX4_init 20 = .ok (.bipush 8, 2) := by decide +kernel
theorem dX4_init_22 : decode cX4_init 22 = .ok (.newarray .long, 2) := by decide +kernel
theorem dX4_init_24 : decode cX4_init 24 = .ok (.putfield 15, 3) := by decide +kernel
theorem dX4_init_27 : decode cX4_init 27 = .ok (.aload_n 0, 1) := by decide +kernel
theorem dX4_init_28 : decode cX4_init 28 = .ok (.bipush 6, 2) := by decide +kernel
theorem dX4_init_30 : decode cX4_init 30 = .ok (.anewarray 19, 3) := by decide +kernel
theorem dX4_init_33 : decode cX4_init 33 = .ok (.putfield 21, 3) := by decide +kernel
theorem dX4_init_36 : decode cX4_init 36 = .ok (.return_, 1) := by decide +kernel
theorem dX4_become_0 : decode cX4_become 0 = .ok (.aload_n 1, 1) := by decide +kernel
theorem dX4_become_1 : decode cX4_become 1 = .ok (.ifnonnull 4, 3) := by decide +kernel
theorem dX4_become_4 : decode cX4_become 4 = .ok (.return_, 1) := by decide +kernel
theorem dX4_become_5 : decode cX4_become 5 = .ok (.iconst 0, 1) := by decide +kernel
theorem dX4_become_6 : decode cX4_become 6 = .ok (.istore_n 2, 1) := by decide +kernel
theorem dX4_become_7 : decode cX4_become 7 = .ok (.iload_n 2, 1) := by decide +kernel
theorem dX4_become_8 : decode cX4_become 8 = .ok (.aload_n 0, 1) := by decide +kernel
theorem dX4_become_9 : decode cX4_become 9 = .ok (.getfield 9, 3) := by decide +kernel
theorem dX4_become_12 : decode cX4_become 12 = .ok (.arraylength, 1) := by decide +kernel
theorem dX4_become_13 : decode cX4_become 13 = .ok (.if_icmp .ge 20, 3) := by decide +kernel
theorem dX4_become_16 : decode cX4_become 16 = .ok (.aload_n 0, 1) := by decide +kernel
theorem dX4_become_17 : decode cX4_become 17 = .ok (.getfield 9, 3) := by decide +kernel
theorem dX4_become_20 : decode cX4_become 20 = .ok (.iload_n 2, 1) := by decide +kernel
theorem dX4_become_21 : decode cX4_become 21 = .ok (.aload_n 1, 1) := by decide +kernel
theorem dX4_become_22 : decode cX4_become 22 = .ok (.iload_n 2, 1) := by decide +kernel
theorem dX4_become_23 : decode cX4_become 23 = .ok (.invokevirtual 25, 3) := by decide +kernel
theorem dX4_become_26 : decode cX4_become 26 = .ok (.iastore, 1) := by decide +kernel
theorem dX4_become_27 : decode cX4_become 27 = .ok (.iinc 2 1, 3) := by decide +kernel
theorem dX4_become_30 : decode cX4_become 30 = .ok (.goto (-23), 3) := by decide +kernel
theorem dX4_become_33 : decode cX4_become 33 = .ok (.iconst 0, 1) := by decide +kernel
theorem dX4_become_34 : decode cX4_become 34 = .ok (.istore_n 2, 1) := by decide +kernel
theorem dX4_become_35 : decode cX4_become 35 = .ok (.iload_n 2, 1) := by decide +kernel
theorem dX4_become_36 : decode cX4_become 36 = .ok (.aload_n 0, 1) := by decide +kernel
theorem dX4_become_37 : decode cX4_become 37 = .ok (.getfield 15, 3) := by decide +kernel
theorem dX4_become_40 : decode cX4_become 40 = .ok (.arraylength, 1) := by decide +kernel
theorem dX4_become_41 : decode cX4_become 41 = .ok (.if_icmp .ge 20, 3) := by decide +kernel
theorem dX4_become_44 : decode cX4_become 44 = .ok (.aload_n 0, 1) := by decide +kernel
theorem dX4_become_45 : decode cX4_become 45 = .ok (.getfield 15, 3) := by decide +kernel
theorem dX4_become_48 : decode cX4_become 48 = .ok (.iload_n 2, 1) := by decide +kernel
theorem dX4_become_49 : decode cX4_become 49 = .ok (.aload_n 1, 1) := by decide +kernel
theorem dX4_become_50 : decode cX4_become 50 = .ok (.iload_n 2, 1) := by decide +kernel
theorem dX4_become_51 : decode cX4_become 51 = .ok (.invokevirtual 29, 3) := by decide +kernel
theorem dX4_become_54 : decode cX4_become 54 = .ok (.lastore, 1) := by decide +kernel
theorem dX4_become_55 : decode cX4_become 55 = .ok (.iinc 2 1, 3) := by decide +kernel
theorem dX4_become_58 : decode cX4_become 58 = .ok (.goto (-23), 3) := by decide +kernel
theorem dX4_become_61 : decode cX4_become 61 = .ok (.iconst 0, 1) := by decide +kernel
theorem dX4_become_62 : decode cX4_become 62 = .ok (.istore_n 2, 1) := by decide +kernel
theorem dX4_become_63 : decode cX4_become 63 = .ok (.iload_n 2, 1) := by decide +kernel
theorem dX4_become_64 : decode cX4_become 64 = .ok (.aload_n 0, 1) := by decide +kernel
theorem dX4_become_65 : decode cX4_become 65 = .ok (.getfield 21, 3) := by decide +kernel
theorem dX4_become_68 : decode cX4_become 68 = .ok (.arraylength, 1) := by decide +kernel
theorem dX4_become_69 : decode cX4_become 69 = .ok (.if_icmp .ge 20, 3) := by decide +kernel
theorem dX4_become_72 : decode cX4_become 72 = .ok (.aload_n 0, 1) := by decide +kernel
theorem dX4_become_73 : decode cX4_become 73 = .ok (.getfield 21, 3) := by decide +kernel
theorem dX4_become_76 : decode cX4_become 76 = .ok (.iload_n 2, 1) := by decide +kernel
theorem dX4_become_77 : decode cX4_become 77 = .ok (.aload_n 1, 1) := by decide +kernel
theorem dX4_become_78 : decode cX4_become 78 = .ok (.iload_n 2, 1) := by decide +kernel
theorem dX4_become_79 : decode cX4_become 79 = .ok (.invokevirtual 33, 3) := by decide +kernel
theorem dX4_become_82 : decode cX4_become 82 = .ok (.aastore, 1) := by decide +kernel
theorem dX4_become_83 : decode cX4_become 83 = .ok (.iinc 2 1, 3) := by decide +kernel
theorem dX4_become_86 : decode cX4_become 86 = .ok (.goto (-23), 3) := by decide +kernel
theorem dX4_become_89 : decode cX4_become 89 = .ok (.return_, 1) := by decide +kernel
theorem dX4_setting_0 : decode cX4_setting 0 = .ok (.iload_n 1, 1) := by decide +kernel
theorem dX4_setting_1 : decode cX4_setting 1 = .ok (.ifCond .lt 21, 3) := by decide +kernel
theorem dX4_setting_4 : decode cX4_setting 4 = .ok (.iload_n 1, 1) := by decide +kernel
theorem dX4_setting_5 : decode cX4_setting 5 = .ok (.aload_n 0, 1) := by decide +kernel
theorem dX4_setting_6 : decode cX4_setting 6 = .ok (.getfield 9, 3) := by decide +kernel
theorem dX4_setting_9 : decode cX4_setting 9 = .ok (.arraylength, 1) := by decide +kernel
theorem dX4_setting_10 : decode cX4_setting 10 = .ok (.if_icmp .ge 12, 3) := by decide +kernel
theorem dX4_setting_13 : decode cX4_setting 13 = .ok (.aload_n 0, 1) := by decide +kernel
theorem dX4_setting_14 : decode cX4_setting 14 = .ok (.getfield 9, 3) := by decide +kernel
theorem dX4_setting_17 : decode cX4_setting 17 = .ok (.iload_n 1, 1) := by decide +kernel
theorem dX4_setting_18 : decode cX4_setting 18 = .ok (.iaload, 1) := by decide +kernel
theorem dX4_setting_19 : decode cX4_setting 19 = .ok (.goto 4, 3) := by decide +kernel
theorem dX4_setting_22 : decode cX4_setting 22 = .ok (.iconst 0, 1) := by decide +kernel
theorem dX4_setting_23 : decode cX4_setting 23 = .ok (.ireturn, 1) := by decide +kernel
theorem dX4_changeSetting_0 : decode cX4_changeSetting 0 = .ok (.iload_n 1, 1) := by decide +kernel
theorem dX4_changeSetting_1 : decode cX4_changeSetting 1 = .ok (.ifCond .lt 19, 3) := by decide +kernel
theorem dX4_changeSetting_4 : decode cX4_changeSetting 4 = .ok (.iload_n 1, 1) := by decide +kernel
theorem dX4_changeSetting_5 : decode cX4_changeSetting 5 = .ok (.aload_n 0, 1) := by decide +kernel
theorem dX4_changeSetting_6 : decode cX4_changeSetting 6 = .ok (.getfield 9, 3) := by decide +kernel
theorem dX4_changeSetting_9 : decode cX4_changeSetting 9 = .ok (.arraylength, 1) := by decide +kernel
theorem dX4_changeSetting_10 : decode cX4_changeSetting 10 = .ok (.if_icmp .ge 10, 3) := by decide +kernel
theorem dX4_changeSetting_13 : decode cX4_changeSetting 13 = .ok (.aload_n 0, 1) := by decide +kernel
theorem dX4_changeSetting_14 : decode cX4_changeSetting 14 = .ok (.getfield 9, 3) := by decide +kernel
theorem dX4_changeSetting_17 : decode cX4_changeSetting 17 = .ok (.iload_n 1, 1) := by decide +kernel
theorem dX4_changeSetting_18 : decode cX4_changeSetting 18 = .ok (.iload_n 2, 1) := by decide +kernel
theorem dX4_changeSetting_19 : decode cX4_changeSetting 19 = .ok (.iastore, 1) := by decide +kernel
theorem dX4_changeSetting_20 : decode cX4_changeSetting 20 = .ok (.return_, 1) := by decide +kernel
theorem dX4_cellValue_0 : decode cX4_cellValue 0 = .ok (.iload_n 1, 1) := by decide +kernel
theorem dX4_cellValue_1 : decode cX4_cellValue 1 = .ok (.ifCond .lt 21, 3) := by decide +kernel
theorem dX4_cellValue_4 : decode cX4_cellValue 4 = .ok (.iload_n 1, 1) := by decide +kernel
theorem dX4_cellValue_5 : decode cX4_cellValue 5 = .ok (.aload_n 0, 1) := by decide +kernel
theorem dX4_cellValue_6 : decode cX4_cellValue 6 = .ok (.getfield 15, 3) := by decide +kernel
theorem dX4_cellValue_9 : decode cX4_cellValue 9 = .ok (.arraylength, 1) := by decide +kernel
theorem dX4_cellValue_10 : decode cX4_cellValue 10 = .ok (.if_icmp .ge 12, 3) := by decide +kernel
theorem dX4_cellValue_13 : decode cX4_cellValue 13 = .ok (.aload_n 0, 1) := by decide +kernel
theorem dX4_cellValue_14 : decode cX4_cellValue 14 = .ok (.getfield 15, 3) := by decide +kernel
theorem dX4_cellValue_17 : decode cX4_cellValue 17 = .ok (.iload_n 1, 1) := by decide +kernel
theorem dX4_cellValue_18 : decode cX4_cellValue 18 = .ok (.laload, 1) := by decide +kernel
theorem dX4_cellValue_19 : decode cX4_cellValue 19 = .ok (.goto 4, 3) := by decide +kernel
theorem dX4_cellValue_22 : decode cX4_cellValue 22 = .ok (.lconst 0, 1) := by decide +kernel
theorem dX4_cellValue_23 : decode cX4_cellValue 23 = .ok (.lreturn, 1) := by decide +kernel
theorem dX4_changeCell_0 : decode cX4_changeCell 0 = .ok (.iload_n 1, 1) := by decide +kernel
theorem dX4_changeCell_1 : decode cX4_changeCell 1 = .ok (.ifCond .lt 19, 3) := by decide +kernel
theorem dX4_changeCell_4 : decode cX4_changeCell 4 = .ok (.iload_n 1, 1) := by decide +kernel
theorem dX4_changeCell_5 : decode cX4_changeCell 5 = .ok (.aload_n 0, 1) := by decide +kernel
theorem dX4_changeCell_6 : decode cX4_changeCell 6 = .ok (.getfield 15, 3) := by decide +kernel
theorem dX4_changeCell_9 : decode cX4_changeCell 9 = .ok (.arraylength, 1) := by decide +kernel
theorem dX4_changeCell_10 : decode cX4_changeCell 10 = .ok (.if_icmp .ge 10, 3) := by decide +kernel
theorem dX4_changeCell_13 : decode cX4_changeCell 13 = .ok (.aload_n 0, 1) := by decide +kernel
theorem dX4_changeCell_14 : decode cX4_changeCell 14 = .ok (.getfield 15, 3) := by decide +kernel
theorem dX4_changeCell_17 : decode cX4_changeCell 17 = .ok (.iload_n 1, 1) := by decide +kernel
theorem dX4_changeCell_18 : decode cX4_changeCell 18 = .ok (.lload_n 2, 1) := by decide +kernel
theorem dX4_changeCell_19 : decode cX4_changeCell 19 = .ok (.lastore, 1) := by decide +kernel
theorem dX4_changeCell_20 : decode cX4_changeCell 20 = .ok (.return_, 1) := by decide +kernel
theorem dX4_formula_0 : decode cX4_formula 0 = .ok (.iload_n 1, 1) := by decide +kernel
theorem dX4_formula_1 : decode cX4_formula 1 = .ok (.ifCond .lt 21, 3) := by decide +kernel
theorem dX4_formula_4 : decode cX4_formula 4 = .ok (.iload_n 1, 1) := by decide +kernel
theorem dX4_formula_5 : decode cX4_formula 5 = .ok (.aload_n 0, 1) := by decide +kernel
theorem dX4_formula_6 : decode cX4_formula 6 = .ok (.getfield 21, 3) := by decide +kernel
theorem dX4_formula_9 : decode cX4_formula 9 = .ok (.arraylength, 1) := by decide +kernel
theorem dX4_formula_10 : decode cX4_formula 10 = .ok (.if_icmp .ge 12, 3) := by decide +kernel
theorem dX4_formula_13 : decode cX4_formula 13 = .ok (.aload_n 0, 1) := by decide +kernel
theorem dX4_formula_14 : decode cX4_formula 14 = .ok (.getfield 21, 3) := by decide +kernel
theorem dX4_formula_17 : decode cX4_formula 17 = .ok (.iload_n 1, 1) := by decide +kernel
theorem dX4_formula_18 : decode cX4_formula 18 = .ok (.aaload, 1) := by decide +kernel
theorem dX4_formula_19 : decode cX4_formula 19 = .ok (.goto 4, 3) := by decide +kernel
theorem dX4_formula_22 : decode cX4_formula 22 = .ok (.aconst_null, 1) := by decide +kernel
theorem dX4_formula_23 : decode cX4_formula 23 = .ok (.areturn, 1) := by decide +kernel
theorem dX4_changeFormula_0 : decode cX4_changeFormula 0 = .ok (.iload_n 1, 1) := by decide +kernel
theorem dX4_changeFormula_1 : decode cX4_changeFormula 1 = .ok (.ifCond .lt 19, 3) := by decide +kernel
theorem dX4_changeFormula_4 : decode cX4_changeFormula 4 = .ok (.iload_n 1, 1) := by decide +kernel
theorem dX4_changeFormula_5 : decode cX4_changeFormula 5 = .ok (.aload_n 0, 1) := by decide +kernel
theorem dX4_changeFormula_6 : decode cX4_changeFormula 6 = .ok (.getfield 21, 3) := by decide +kernel
theorem dX4_changeFormula_9 : decode cX4_changeFormula 9 = .ok (.arraylength, 1) := by decide +kernel
theorem dX4_changeFormula_10 : decode cX4_changeFormula 10 = .ok (.if_icmp .ge 10, 3) := by decide +kernel
theorem dX4_changeFormula_13 : decode cX4_changeFormula 13 = .ok (.aload_n 0, 1) := by decide +kernel
theorem dX4_changeFormula_14 : decode cX4_changeFormula 14 = .ok (.getfield 21, 3) := by decide +kernel
theorem dX4_changeFormula_17 : decode cX4_changeFormula 17 = .ok (.iload_n 1, 1) := by decide +kernel
theorem dX4_changeFormula_18 : decode cX4_changeFormula 18 = .ok (.aload_n 2, 1) := by decide +kernel
theorem dX4_changeFormula_19 : decode cX4_changeFormula 19 = .ok (.aastore, 1) := by decide +kernel
theorem dX4_changeFormula_20 : decode cX4_changeFormula 20 = .ok (.return_, 1) := by decide +kernel
theorem dX4_formulasThere_0 : decode cX4_formulasThere 0 = .ok (.iconst 0, 1) := by decide +kernel
theorem dX4_formulasThere_1 : decode cX4_formulasThere 1 = .ok (.istore_n 1, 1) := by decide +kernel
theorem dX4_formulasThere_2 : decode cX4_formulasThere 2 = .ok (.iconst 0, 1) := by decide +kernel
theorem dX4_formulasThere_3 : decode cX4_formulasThere 3 = .ok (.istore_n 2, 1) := by decide +kernel
theorem dX4_formulasThere_4 : decode cX4_formulasThere 4 = .ok (.iload_n 2, 1) := by decide +kernel
theorem dX4_formulasThere_5 : decode cX4_formulasThere 5 = .ok (.aload_n 0, 1) := by decide +kernel
theorem dX4_formulasThere_6 : decode cX4_formulasThere 6 = .ok (.getfield 21, 3) := by decide +kernel
theorem dX4_formulasThere_9 : decode cX4_formulasThere 9 = .ok (.arraylength, 1) := by decide +kernel
theorem dX4_formulasThere_10 : decode cX4_formulasThere 10 = .ok (.if_icmp .ge 24, 3) := by decide +kernel
theorem dX4_formulasThere_13 : decode cX4_formulasThere 13 = .ok (.aload_n 0, 1) := by decide +kernel
theorem dX4_formulasThere_14 : decode cX4_formulasThere 14 = .ok (.getfield 21, 3) := by decide +kernel
theorem dX4_formulasThere_17 : decode cX4_formulasThere 17 = .ok (.iload_n 2, 1) := by decide +kernel
theorem dX4_formulasThere_18 : decode cX4_formulasThere 18 = .ok (.aaload, 1) := by decide +kernel
theorem dX4_formulasThere_19 : decode cX4_formulasThere 19 = .ok (.ifnull 9, 3) := by decide +kernel
theorem dX4_formulasThere_22 : decode cX4_formulasThere 22 = .ok (.iload_n 1, 1) := by decide +kernel
theorem dX4_formulasThere_23 : decode cX4_formulasThere 23 = .ok (.iconst 1, 1) := by decide +kernel
theorem dX4_formulasThere_24 : decode cX4_formulasThere 24 = .ok (.iload_n 2, 1) := by decide +kernel
theorem dX4_formulasThere_25 : decode cX4_formulasThere 25 = .ok (.ishl, 1) := by decide +kernel
theorem dX4_formulasThere_26 : decode cX4_formulasThere 26 = .ok (.ior, 1) := by decide +kernel
theorem dX4_formulasThere_27 : decode cX4_formulasThere 27 = .ok (.istore_n 1, 1) := by decide +kernel
theorem dX4_formulasThere_28 : decode cX4_formulasThere 28 = .ok (.iinc 2 1, 3) := by decide +kernel
theorem dX4_formulasThere_31 : decode cX4_formulasThere 31 = .ok (.goto (-27), 3) := by decide +kernel
theorem dX4_formulasThere_34 : decode cX4_formulasThere 34 = .ok (.iload_n 1, 1) := by decide +kernel
theorem dX4_formulasThere_35 : decode cX4_formulasThere 35 = .ok (.ireturn, 1) := by decide +kernel
theorem dX4_cellsNotZero_0 : decode cX4_cellsNotZero 0 = .ok (.iconst 0, 1) := by decide +kernel
theorem dX4_cellsNotZero_1 : decode cX4_cellsNotZero 1 = .ok (.istore_n 1, 1) := by decide +kernel
theorem dX4_cellsNotZero_2 : decode cX4_cellsNotZero 2 = .ok (.iconst 0, 1) := by decide +kernel
theorem dX4_cellsNotZero_3 : decode cX4_cellsNotZero 3 = .ok (.istore_n 2, 1) := by decide +kernel
theorem dX4_cellsNotZero_4 : decode cX4_cellsNotZero 4 = .ok (.iload_n 2, 1) := by decide +kernel
theorem dX4_cellsNotZero_5 : decode cX4_cellsNotZero 5 = .ok (.aload_n 0, 1) := by decide +kernel
theorem dX4_cellsNotZero_6 : decode cX4_cellsNotZero 6 = .ok (.getfield 15, 3) := by decide +kernel
theorem dX4_cellsNotZero_9 : decode cX4_cellsNotZero 9 = .ok (.arraylength, 1) := by decide +kernel
theorem dX4_cellsNotZero_10 : decode cX4_cellsNotZero 10 = .ok (.if_icmp .ge 23, 3) := by decide +kernel
theorem dX4_cellsNotZero_13 : decode cX4_cellsNotZero 13 = .ok (.aload_n 0, 1) := by decide +kernel
theorem dX4_cellsNotZero_14 : decode cX4_cellsNotZero 14 = .ok (.getfield 15, 3) := by decide +kernel
theorem dX4_cellsNotZero_17 : decode cX4_cellsNotZero 17 = .ok (.iload_n 2, 1) := by decide +kernel
theorem dX4_cellsNotZero_18 : decode cX4_cellsNotZero 18 = .ok (.laload, 1) := by decide +kernel
theorem dX4_cellsNotZero_19 : decode cX4_cellsNotZero 19 = .ok (.lconst 0, 1) := by decide +kernel
theorem dX4_cellsNotZero_20 : decode cX4_cellsNotZero 20 = .ok (.lcmp, 1) := by decide +kernel
theorem dX4_cellsNotZero_21 : decode cX4_cellsNotZero 21 = .ok (.ifCond .eq 6, 3) := by decide +kernel
theorem dX4_cellsNotZero_24 : decode cX4_cellsNotZero 24 = .ok (.iinc 1 1, 3) := by decide +kernel
theorem dX4_cellsNotZero_27 : decode cX4_cellsNotZero 27 = .ok (.iinc 2 1, 3) := by decide +kernel
theorem dX4_cellsNotZero_30 : decode cX4_cellsNotZero 30 = .ok (.goto (-26), 3) := by decide +kernel
theorem dX4_cellsNotZero_33 : decode cX4_cellsNotZero 33 = .ok (.iload_n 1, 1) := by decide +kernel
theorem dX4_cellsNotZero_34 : decode cX4_cellsNotZero 34 = .ok (.ireturn, 1) := by decide +kernel
end
section
theorem dX5_init_0 : decode cX5_init 0 = .ok (.aload_n 0, 1) := by decide +kernel
theorem dX5_init_1 : decode cX5_init 1 = .ok (.invokespecial 1, 3) := by decide +kernel
theorem dX5_init_4 : decode cX5_init 4 = .ok (.aload_n 0, 1) := by decide +kernel
theorem dX5_init_5 : decode cX5_init 5 = .ok (.new 7, 3) := by decide +kernel
theorem dX5_init_8 : decode cX5_init 8 = .ok (.dup, 1) := by decide +kernel
theorem dX5_init_9 : decode cX5_init 9 = .ok (.invokespecial 9, 3) := by decide +kernel
theorem dX5_init_12 : decode cX5_init 12 = .ok (.putfield 10, 3) := by decide +kernel
theorem dX5_init_15 : decode cX5_init 15 = .ok (.aload_n 0, 1) := by decide +kernel
theorem dX5_init_16 : decode cX5_init 16 = .ok (.bipush 6, 2) := by decide +kernel
theorem dX5_init_18 : decode cX5_init 18 = .ok (.anewarray 7, 3) := by decide +kernel
theorem dX5_init_21 : decode cX5_init 21 = .ok (.putfield 16, 3) := by decide +kernel
theorem dX5_init_24 : decode cX5_init 24 = .ok (.aload_n 0, 1) := by decide +kernel
theorem dX5_init_25 : decode cX5_init 25 = .ok (.iconst 2, 1) := by decide +kernel
theorem dX5_init_26 : decode cX5_init 26 = .ok (.anewarray 7, 3) := by decide +kernel
theorem dX5_init_29 : decode cX5_init 29 = .ok (.putfield 20, 3) := by decide +kernel
theorem dX5_init_32 : decode cX5_init 32 = .ok (.aload_n 0, 1) := by decide +kernel
theorem dX5_init_33 : decode cX5_init 33 = .ok (.bipush 60, 2) := by decide +kernel
theorem dX5_init_35 : decode cX5_init 35 = .ok (.newarray .char, 2) := by decide +kernel
theorem dX5_init_37 : decode cX5_init 37 = .ok (.putfield 23, 3) := by decide +kernel
theorem dX5_init_40 : decode cX5_init 40 = .ok (.aload_n 0, 1) := by decide +kernel
theorem dX5_init_41 : decode cX5_init 41 = .ok (.new 27, 3) := by decide +kernel
theorem dX5_init_44 : decode cX5_init 44 = .ok (.dup, 1) := by decide +kernel
theorem dX5_init_45 : decode cX5_init 45 = .ok (.invokespecial 29, 3) := by decide +kernel
theorem dX5_init_48 : decode cX5_init 48 = .ok (.putfield 30, 3) := by decide +kernel
theorem dX5_init_51 : decode cX5_init 51 = .ok (.aload_n 0, 1) := by decide +kernel
theorem dX5_init_52 : decode cX5_init 52 = .ok (.new 34, 3) := by decide +kernel
theorem dX5_init_55 : decode cX5_init 55 = .ok (.dup, 1) := by decide +kernel
theorem dX5_init_56 : decode cX5_init 56 = .ok (.invokespecial 36, 3) := by decide +kernel
theorem dX5_init_59 : decode cX5_init 59 = .ok (.putfield 37, 3) := by decide +kernel
theorem dX5_init_62 : decode cX5_init 62 = .ok (.aload_n 0, 1) := by decide +kernel
theorem dX5_init_63 : decode cX5_init 63 = .ok (.new 41, 3) := by decide +kernel
theorem dX5_init_66 : decode cX5_init 66 = .ok (.dup, 1) := by decide +kernel
theorem dX5_init_67 : decode cX5_init 67 = .ok (.invokespecial 43, 3) := by decide +kernel
theorem dX5_init_70 : decode cX5_init 70 = .ok (.putfield 44, 3) := by decide +kernel
theorem dX5_init_73 : decode cX5_init 73 = .ok (.iconst 0, 1) := by decide +kernel
theorem dX5_init_74 : decode cX5_init 74 = .ok (.istore_n 1, 1) := by decide +kernel
theorem dX5_init_75 : decode cX5_init 75 = .ok (.iload_n 1, 1) := by decide +kernel
theorem dX5_init_76 : decode cX5_init 76 = .ok (.aload_n 0, 1) := by decide +kernel
theorem dX5_init_77 : decode cX5_init 77 = .ok (.getfield 16, 3) := by decide +kernel
theorem dX5_init_80 : decode cX5_init 80 = .ok (.arraylength, 1) := by decide +kernel
theorem dX5_init_81 : decode cX5_init 81 = .ok (.if_icmp .ge 22, 3) := by decide +kernel
theorem dX5_init_84 : decode cX5_init 84 = .ok (.aload_n 0, 1) := by decide +kernel
theorem dX5_init_85 : decode cX5_init 85 = .ok (.getfield 16, 3) := by decide +kernel
theorem dX5_init_88 : decode cX5_init 88 = .ok (.iload_n 1, 1) := by decide +kernel
theorem dX5_init_89 : decode cX5_init 89 = .ok (.new 7, 3) := by decide +kernel
theorem dX5_init_92 : decode cX5_init 92 = .ok (.dup, 1) := by decide +kernel
theorem dX5_init_93 : decode cX5_init 93 = .ok (.invokespecial 9, 3) := by decide +kernel
theorem dX5_init_96 : decode cX5_init 96 = .ok (.aastore, 1) := by decide +kernel
theorem dX5_init_97 : decode cX5_init 97 = .ok (.iinc 1 1, 3) := by decide +kernel
theorem dX5_init_100 : decode cX5_init 100 = .ok (.goto (-25), 3) := by decide +kernel
theorem dX5_init_103 : decode cX5_init 103 = .ok (.return_, 1) := by decide +kernel
theorem dX5_set_0 : decode cX5_set 0 = .ok (.iload_n 1, 1) := by decide +kernel
theorem dX5_set_1 : decode cX5_set 1 = .ok (.i2l, 1) := by decide +kernel
theorem dX5_set_2 : decode cX5_set 2 = .ok (.lconst 0, 1) := by decide +kernel
theorem dX5_set_3 : decode cX5_set 3 = .ok (.lconst 1, 1) := by decide +kernel
theorem dX5_set_4 : decode cX5_set 4 = .ok (.invokestatic 48, 3) := by decide +kernel
theorem dX5_set_7 : decode cX5_set 7 = .ok (.ifCond .eq 25, 3) := by decide +kernel
theorem dX5_set_10 : decode cX5_set 10 = .ok (.iload_n 2, 1) := by decide +kernel
theorem dX5_set_11 : decode cX5_set 11 = .ok (.i2l, 1) := by decide +kernel
theorem dX5_set_12 : decode cX5_set 12 = .ok (.lconst 0, 1) := by decide +kernel
theorem dX5_set_13 : decode cX5_set 13 = .ok (.iload_n 1, 1) := by decide +kernel
theorem dX5_set_14 : decode cX5_set 14 = .ok (.ifCond .ne 9, 3) := by decide +kernel
theorem dX5_set_17 : decode cX5_set 17 = .ok (.ldc2_w 52, 3) := by decide +kernel
theorem dX5_set_20 : decode cX5_set 20 = .ok (.goto 6, 3) := by decide +kernel
theorem dX5_set_23 : decode cX5_set 23 = .ok (.ldc2_w 54, 3) := by decide +kernel
theorem dX5_set_26 : decode cX5_set 26 = .ok (.invokestatic 48, 3) := by decide +kernel
theorem dX5_set_29 : decode cX5_set 29 = .ok (.ifCond .ne 6, 3) := by decide +kernel
theorem dX5_set_32 : decode cX5_set 32 = .ok (.bipush (-2), 2) := by decide +kernel
theorem dX5_set_34 : decode cX5_set 34 = .ok (.ireturn, 1) := by decide +kernel
theorem dX5_set_35 : decode cX5_set 35 = .ok (.aload_n 0, 1) := by decide +kernel
theorem dX5_set_36 : decode cX5_set 36 = .ok (.invokevirtual 56, 3) := by decide +kernel
theorem dX5_set_39 : decode cX5_set 39 = .ok (.aload_n 0, 1) := by decide +kernel
theorem dX5_set_40 : decode cX5_set 40 = .ok (.getfield 10, 3) := by decide +kernel
theorem dX5_set_43 : decode cX5_set 43 = .ok (.iload_n 1, 1) := by decide +kernel
theorem dX5_set_44 : decode cX5_set 44 = .ok (.invokevirtual 59, 3) := by decide +kernel
theorem dX5_set_47 : decode cX5_set 47 = .ok (.istore_n 3, 1) := by decide +kernel
theorem dX5_set_48 : decode cX5_set 48 = .ok (.aload_n 0, 1) := by decide +kernel
theorem dX5_set_49 : decode cX5_set 49 = .ok (.getfield 10, 3) := by decide +kernel
theorem dX5_set_52 : decode cX5_set 52 = .ok (.iload_n 1, 1) := by decide +kernel
theorem dX5_set_53 : decode cX5_set 53 = .ok (.iload_n 2, 1) := by decide +kernel
theorem dX5_set_54 : decode cX5_set 54 = .ok (.invokevirtual 63, 3) := by decide +kernel
theorem dX5_set_57 : decode cX5_set 57 = .ok (.iload_n 3, 1) := by decide +kernel
theorem dX5_set_58 : decode cX5_set 58 = .ok (.ireturn, 1) := by decide +kernel
theorem dX5_setCell_0 : decode cX5_setCell 0 = .ok (.iload_n 1, 1) := by decide +kernel
theorem dX5_setCell_1 : decode cX5_setCell 1 = .ok (.i2l, 1) := by decide +kernel
theorem dX5_setCell_2 : decode cX5_setCell 2 = .ok (.lconst 0, 1) := by decide +kernel
theorem dX5_setCell_3 : decode cX5_setCell 3 = .ok (.ldc2_w 67, 3) := by decide +kernel
theorem dX5_setCell_6 : decode cX5_setCell 6 = .ok (.invokestatic 48, 3) := by decide +kernel
theorem dX5_setCell_9 : decode cX5_setCell 9 = .ok (.ifCond .ne 7, 3) := by decide +kernel
theorem dX5_setCell_12 : decode cX5_setCell 12 = .ok (.ldc2_w 69, 3) := by decide +kernel
theorem dX5_setCell_15 : decode cX5_setCell 15 = .ok (.lreturn, 1) := by decide +kernel
theorem dX5_setCell_16 : decode cX5_setCell 16 = .ok (.lload_n 2, 1) := by decide +kernel
theorem dX5_setCell_17 : decode cX5_setCell 17 = .ok (.lconst 0, 1) := by decide +kernel
theorem dX5_setCell_18 : decode cX5_setCell 18 = .ok (.ldc2_w 71, 3) := by decide +kernel
theorem dX5_setCell_21 : decode cX5_setCell 21 = .ok (.invokestatic 48, 3) := by decide +kernel
theorem dX5_setCell_24 : decode cX5_setCell 24 = .ok (.ifCond .ne 7, 3) := by decide +kernel
theorem dX5_setCell_27 : decode cX5_setCell 27 = .ok (.ldc2_w 73, 3) := by decide +kernel
theorem dX5_setCell_30 : decode cX5_setCell 30 = .ok (.lreturn, 1) := by decide +kernel
theorem dX5_setCell_31 : decode cX5_setCell 31 = .ok (.aload_n 0, 1) := by decide +kernel
theorem dX5_setCell_32 : decode cX5_setCell 32 = .ok (.invokevirtual 56, 3) := by decide +kernel
theorem dX5_setCell_35 : decode cX5_setCell 35 = .ok (.aload_n 0, 1) := by decide +kernel
theorem dX5_setCell_36 : decode cX5_setCell 36 = .ok (.getfield 10, 3) := by decide +kernel
theorem dX5_setCell_39 : decode cX5_setCell 39 = .ok (.iload_n 1, 1) := by decide +kernel
theorem dX5_setCell_40 : decode cX5_setCell 40 = .ok (.invokevirtual 75, 3) := by decide +kernel
theorem dX5_setCell_43 : decode cX5_setCell 43 = .ok (.lstore 4, 2) := by decide +kernel
theorem dX5_setCell_45 : decode cX5_setCell 45 = .ok (.aload_n 0, 1) := by decide +kernel
theorem dX5_setCell_46 : decode cX5_setCell 46 = .ok (.getfield 10, 3) := by decide +kernel
theorem dX5_setCell_49 : decode cX5_setCell 49 = .ok (.iload_n 1, 1) := by decide +kernel
theorem dX5_setCell_50 : decode cX5_setCell 50 = .ok (.lload_n 2, 1) := by decide +kernel
theorem dX5_setCell_51 : decode cX5_setCell 51 = .ok (.invokevirtual 79, 3) := by decide +kernel
theorem dX5_setCell_54 : decode cX5_setCell 54 = .ok (.lload 4, 2) := by decide +kernel
theorem dX5_setCell_56 : decode cX5_setCell 56 = .ok (.lreturn, 1) := by decide +kernel
theorem dX5_cell_0 : decode cX5_cell 0 = .ok (.iload_n 1, 1) := by decide +kernel
theorem dX5_cell_1 : decode cX5_cell 1 = .ok (.i2l, 1) := by decide +kernel
theorem dX5_cell_2 : decode cX5_cell 2 = .ok (.lconst 0, 1) := by decide +kernel
theorem dX5_cell_3 : decode cX5_cell 3 = .ok (.ldc2_w 67, 3) := by decide +kernel
theorem dX5_cell_6 : decode cX5_cell 6 = .ok (.invokestatic 48, 3) := by decide +kernel
theorem dX5_cell_9 : decode cX5_cell 9 = .ok (.ifCond .eq 14, 3) := by decide +kernel
theorem dX5_cell_12 : decode cX5_cell 12 = .ok (.aload_n 0, 1) := by decide +kernel
theorem dX5_cell_13 : decode cX5_cell 13 = .ok (.getfield 10, 3) := by decide +kernel
theorem dX5_cell_16 : decode cX5_cell 16 = .ok (.iload_n 1, 1) := by decide +kernel
theorem dX5_cell_17 : decode cX5_cell 17 = .ok (.invokevirtual 75, 3) := by decide +kernel
theorem dX5_cell_20 : decode cX5_cell 20 = .ok (.goto 6, 3) := by decide +kernel
theorem dX5_cell_23 : decode cX5_cell 23 = .ok (.ldc2_w 69, 3) := by decide +kernel
theorem dX5_cell_26 : decode cX5_cell 26 = .ok (.lreturn, 1) := by decide +kernel
theorem dX5_put_0 : decode cX5_put 0 = .ok (.lload_n 1, 1) := by decide +kernel
theorem dX5_put_1 : decode cX5_put 1 = .ok (.invokestatic 83, 3) := by decide +kernel
theorem dX5_put_4 : decode cX5_put 4 = .ok (.istore_n 3, 1) := by decide +kernel
theorem dX5_put_5 : decode cX5_put 5 = .ok (.iload_n 3, 1) := by decide +kernel
theorem dX5_put_6 : decode cX5_put 6 = .ok (.ifCond .ne 6, 3) := by decide +kernel
theorem dX5_put_9 : decode cX5_put 9 = .ok (.bipush (-2), 2) := by decide +kernel
theorem dX5_put_11 : decode cX5_put 11 = .ok (.ireturn, 1) := by decide +kernel
theorem dX5_put_12 : decode cX5_put 12 = .ok (.aload_n 0, 1) := by decide +kernel
theorem dX5_put_13 : decode cX5_put 13 = .ok (.getfield 87, 3) := by decide +kernel
theorem dX5_put_16 : decode cX5_put 16 = .ok (.iload_n 3, 1) := by decide +kernel
theorem dX5_put_17 : decode cX5_put 17 = .ok (.iadd, 1) := by decide +kernel
theorem dX5_put_18 : decode cX5_put 18 = .ok (.bipush 60, 2) := by decide +kernel
theorem dX5_put_20 : decode cX5_put 20 = .ok (.if_icmp .le 6, 3) := by decide +kernel
theorem dX5_put_23 : decode cX5_put 23 = .ok (.bipush (-4), 2) := by decide +kernel
theorem dX5_put_25 : decode cX5_put 25 = .ok (.ireturn, 1) := by decide +kernel
theorem dX5_put_26 : decode cX5_put 26 = .ok (.iload_n 3, 1) := by decide +kernel
theorem dX5_put_27 : decode cX5_put 27 = .ok (.iconst 1, 1) := by decide +kernel
theorem dX5_put_28 : decode cX5_put 28 = .ok (.isub, 1) := by decide +kernel
theorem dX5_put_29 : decode cX5_put 29 = .ok (.istore 4, 2) := by decide +kernel
theorem dX5_put_31 : decode cX5_put 31 = .ok (.iload 4, 2) := by decide +kernel
theorem dX5_put_33 : decode cX5_put 33 = .ok (.ifCond .lt 26, 3) := by decide +kernel
theorem dX5_put_36 : decode cX5_put 36 = .ok (.aload_n 0, 1) := by decide +kernel
theorem dX5_put_37 : decode cX5_put 37 = .ok (.lload_n 1, 1) := by decide +kernel
theorem dX5_put_38 : decode cX5_put 38 = .ok (.bipush 8, 2) := by decide +kernel
theorem dX5_put_40 : decode cX5_put 40 = .ok (.iload 4, 2) := by decide +kernel
theorem dX5_put_42 : decode cX5_put 42 = .ok (.imul, 1) := by decide +kernel
theorem dX5_put_43 : decode cX5_put 43 = .ok (.lushr, 1) := by decide +kernel
theorem dX5_put_44 : decode cX5_put 44 = .ok (.ldc2_w 91, 3) := by decide +kernel
theorem dX5_put_47 : decode cX5_put 47 = .ok (.land, 1) := by decide +kernel
theorem dX5_put_48 : decode cX5_put 48 = .ok (.l2i, 1) := by decide +kernel
theorem dX5_put_49 : decode cX5_put 49 = .ok (.i2c, 1) := by decide +kernel
theorem dX5_put_50 : decode cX5_put 50 = .ok (.invokevirtual 93, 3) := by decide +kernel
theorem dX5_put_53 : decode cX5_put 53 = .ok (.iinc 4 (-1), 3) := by decide +kernel
theorem dX5_put_56 : decode cX5_put 56 = .ok (.goto (-25), 3) := by decide +kernel
theorem dX5_put_59 : decode cX5_put 59 = .ok (.aload_n 0, 1) := by decide +kernel
theorem dX5_put_60 : decode cX5_put 60 = .ok (.getfield 87, 3) := by decide +kernel
theorem dX5_put_63 : decode cX5_put 63 = .ok (.ireturn, 1) := by decide +kernel
theorem dX5_wipe_0 : decode cX5_wipe 0 = .ok (.aload_n 0, 1) := by decide +kernel
theorem dX5_wipe_1 : decode cX5_wipe 1 = .ok (.getfield 87, 3) := by decide +kernel
theorem dX5_wipe_4 : decode cX5_wipe 4 = .ok (.istore_n 1, 1) := by decide +kernel
theorem dX5_wipe_5 : decode cX5_wipe 5 = .ok (.aload_n 0, 1) := by decide +kernel
theorem dX5_wipe_6 : decode cX5_wipe 6 = .ok (.iconst 0, 1) := by decide +kernel
theorem dX5_wipe_7 : decode cX5_wipe 7 = .ok (.putfield 87, 3) := by decide +kernel
theorem dX5_wipe_10 : decode cX5_wipe 10 = .ok (.iload_n 1, 1) := by decide +kernel
theorem dX5_wipe_11 : decode cX5_wipe 11 = .ok (.ireturn, 1) := by decide +kernel
theorem dX5_fault_0 : decode cX5_fault 0 = .ok (.aload_n 0, 1) := by decide +kernel
theorem dX5_fault_1 : decode cX5_fault 1 = .ok (.getfield 30, 3) := by decide +kernel
theorem dX5_fault_4 : decode cX5_fault 4 = .ok (.aload_n 0, 1) := by decide +kernel
theorem dX5_fault_5 : decode cX5_fault 5 = .ok (.getfield 23, 3) := by decide +kernel
theorem dX5_fault_8 : decode cX5_fault 8 = .ok (.aload_n 0, 1) := by decide +kernel
theorem dX5_fault_9 : decode cX5_fault 9 = .ok (.getfield 87, 3) := by decide +kernel
theorem dX5_fault_12 : decode cX5_fault 12 = .ok (.invokevirtual 97, 3) := by decide +kernel
theorem dX5_fault_15 : decode cX5_fault 15 = .ok (.ireturn, 1) := by decide +kernel
theorem dX5_load_0 : decode cX5_load 0 = .ok (.iload_n 1, 1) := by decide +kernel
theorem dX5_load_1 : decode cX5_load 1 = .ok (.i2l, 1) := by decide +kernel
theorem dX5_load_2 : decode cX5_load 2 = .ok (.lconst 0, 1) := by decide +kernel
theorem dX5_load_3 : decode cX5_load 3 = .ok (.ldc2_w 101, 3) := by decide +kernel
theorem dX5_load_6 : decode cX5_load 6 = .ok (.invokestatic 48, 3) := by decide +kernel
theorem dX5_load_9 : decode cX5_load 9 = .ok (.ifCond .ne 5, 3) := by decide +kernel
theorem dX5_load_12 : decode cX5_load 12 = .ok (.iconst (-1), 1) := by decide +kernel
theorem dX5_load_13 : decode cX5_load 13 = .ok (.ireturn, 1) := by decide +kernel
theorem dX5_load_14 : decode cX5_load 14 = .ok (.aload_n 0, 1) := by decide +kernel
theorem dX5_load_15 : decode cX5_load 15 = .ok (.getfield 30, 3) := by decide +kernel
theorem dX5_load_18 : decode cX5_load 18 = .ok (.aload_n 0, 1) := by decide +kernel
theorem dX5_load_19 : decode cX5_load 19 = .ok (.getfield 23, 3) := by decide +kernel
theorem dX5_load_22 : decode cX5_load 22 = .ok (.aload_n 0, 1) := by decide +kernel
theorem dX5_load_23 : decode cX5_load 23 = .ok (.getfield 87, 3) := by decide +kernel
theorem dX5_load_26 : decode cX5_load 26 = .ok (.invokevirtual 97, 3) := by decide +kernel
theorem dX5_load_29 : decode cX5_load 29 = .ok (.bipush (-6), 2) := by decide +kernel
theorem dX5_load_31 : decode cX5_load 31 = .ok (.if_icmp .eq 6, 3) := by decide +kernel
theorem dX5_load_34 : decode cX5_load 34 = .ok (.bipush (-3), 2) := by decide +kernel
theorem dX5_load_36 : decode cX5_load 36 = .ok (.ireturn, 1) := by decide +kernel
theorem dX5_load_37 : decode cX5_load 37 = .ok (.aload_n 0, 1) := by decide +kernel
theorem dX5_load_38 : decode cX5_load 38 = .ok (.invokevirtual 56, 3) := by decide +kernel
theorem dX5_load_41 : decode cX5_load 41 = .ok (.new 103, 3) := by decide +kernel
theorem dX5_load_44 : decode cX5_load 44 = .ok (.dup, 1) := by decide +kernel
theorem dX5_load_45 : decode cX5_load 45 = .ok (.aload_n 0, 1) := by decide +kernel
theorem dX5_load_46 : decode cX5_load 46 = .ok (.getfield 30, 3) := by decide +kernel
theorem dX5_load_49 : decode cX5_load 49 = .ok (.getfield 105, 3) := by decide +kernel
theorem dX5_load_52 : decode cX5_load 52 = .ok (.aload_n 0, 1) := by decide +kernel
theorem dX5_load_53 : decode cX5_load 53 = .ok (.getfield 30, 3) := by decide +kernel
theorem dX5_load_56 : decode cX5_load 56 = .ok (.getfield 109, 3) := by decide +kernel
theorem dX5_load_59 : decode cX5_load 59 = .ok (.invokespecial 112, 3) := by decide +kernel
theorem dX5_load_62 : decode cX5_load 62 = .ok (.astore_n 2, 1) := by decide +kernel
theorem dX5_load_63 : decode cX5_load 63 = .ok (.aload_n 0, 1) := by decide +kernel
theorem dX5_load_64 : decode cX5_load 64 = .ok (.getfield 10, 3) := by decide +kernel
theorem dX5_load_67 : decode cX5_load 67 = .ok (.iload_n 1, 1) := by decide +kernel
theorem dX5_load_68 : decode cX5_load 68 = .ok (.aload_n 2, 1) := by decide +kernel
theorem dX5_load_69 : decode cX5_load 69 = .ok (.invokevirtual 115, 3) := by decide +kernel
theorem dX5_load_72 : decode cX5_load 72 = .ok (.aload_n 0, 1) := by decide +kernel
theorem dX5_load_73 : decode cX5_load 73 = .ok (.iconst 0, 1) := by decide +kernel
theorem dX5_load_74 : decode cX5_load 74 = .ok (.putfield 87, 3) := by decide +kernel
theorem dX5_load_77 : decode cX5_load 77 = .ok (.aload_n 2, 1) := by decide +kernel
theorem dX5_load_78 : decode cX5_load 78 = .ok (.getfield 119, 3) := by decide +kernel
theorem dX5_load_81 : decode cX5_load 81 = .ok (.arraylength, 1) := by decide +kernel
theorem dX5_load_82 : decode cX5_load 82 = .ok (.ireturn, 1) := by decide +kernel
theorem dX5_assign_0 : decode cX5_assign 0 = .ok (.aload_n 0, 1) := by decide +kernel
theorem dX5_assign_1 : decode cX5_assign 1 = .ok (.getfield 10, 3) := by decide +kernel
theorem dX5_assign_4 : decode cX5_assign 4 = .ok (.iload_n 2, 1) := by decide +kernel
theorem dX5_assign_5 : decode cX5_assign 5 = .ok (.invokevirtual 120, 3) := by decide +kernel
theorem dX5_assign_8 : decode cX5_assign 8 = .ok (.astore_n 3, 1) := by decide +kernel
theorem dX5_assign_9 : decode cX5_assign 9 = .ok (.iload_n 1, 1) := by decide +kernel
theorem dX5_assign_10 : decode cX5_assign 10 = .ok (.i2l, 1) := by decide +kernel
theorem dX5_assign_11 : decode cX5_assign 11 = .ok (.lconst 0, 1) := by decide +kernel
theorem dX5_assign_12 : decode cX5_assign 12 = .ok (.ldc2_w 67, 3) := by decide +kernel
theorem dX5_assign_15 : decode cX5_assign 15 = .ok (.invokestatic 48, 3) := by decide +kernel
theorem dX5_assign_18 : decode cX5_assign 18 = .ok (.ifCond .eq 7, 3) := by decide +kernel
theorem dX5_assign_21 : decode cX5_assign 21 = .ok (.aload_n 3, 1) := by decide +kernel
theorem dX5_assign_22 : decode cX5_assign 22 = .ok (.ifnonnull 7, 3) := by decide +kernel
theorem dX5_assign_25 : decode cX5_assign 25 = .ok (.ldc2_w 69, 3) := by decide +kernel
theorem dX5_assign_28 : decode cX5_assign 28 = .ok (.lreturn, 1) := by decide +kernel
theorem dX5_assign_29 : decode cX5_assign 29 = .ok (.aload_n 0, 1) := by decide +kernel
theorem dX5_assign_30 : decode cX5_assign 30 = .ok (.getfield 37, 3) := by decide +kernel
theorem dX5_assign_33 : decode cX5_assign 33 = .ok (.aload_n 3, 1) := by decide +kernel
theorem dX5_assign_34 : decode cX5_assign 34 = .ok (.aload_n 0, 1) := by decide +kernel
theorem dX5_assign_35 : decode cX5_assign 35 = .ok (.getfield 10, 3) := by decide +kernel
theorem dX5_assign_38 : decode cX5_assign 38 = .ok (.invokevirtual 124, 3) := by decide +kernel
theorem dX5_assign_41 : decode cX5_assign 41 = .ok (.aload_n 0, 1) := by decide +kernel
theorem dX5_assign_42 : decode cX5_assign 42 = .ok (.getfield 37, 3) := by decide +kernel
theorem dX5_assign_45 : decode cX5_assign 45 = .ok (.getfield 128, 3) := by decide +kernel
theorem dX5_assign_48 : decode cX5_assign 48 = .ok (.ifCond .eq 7, 3) := by decide +kernel
theorem dX5_assign_51 : decode cX5_assign 51 = .ok (.ldc2_w 131, 3) := by decide +kernel
theorem dX5_assign_54 : decode cX5_assign 54 = .ok (.lreturn, 1) := by decide +kernel
theorem dX5_assign_55 : decode cX5_assign 55 = .ok (.aload_n 0, 1) := by decide +kernel
theorem dX5_assign_56 : decode cX5_assign 56 = .ok (.invokevirtual 56, 3) := by decide +kernel
theorem dX5_assign_59 : decode cX5_assign 59 = .ok (.aload_n 0, 1) := by decide +kernel
theorem dX5_assign_60 : decode cX5_assign 60 = .ok (.getfield 10, 3) := by decide +kernel
theorem dX5_assign_63 : decode cX5_assign 63 = .ok (.iload_n 1, 1) := by decide +kernel
theorem dX5_assign_64 : decode cX5_assign 64 = .ok (.aload_n 0, 1) := by decide +kernel
theorem dX5_assign_65 : decode cX5_assign 65 = .ok (.getfield 37, 3) := by decide +kernel
theorem dX5_assign_68 : decode cX5_assign 68 = .ok (.invokevirtual 133, 3) := by decide +kernel
theorem dX5_assign_71 : decode cX5_assign 71 = .ok (.invokevirtual 79, 3) := by decide +kernel
theorem dX5_assign_74 : decode cX5_assign 74 = .ok (.aload_n 0, 1) := by decide +kernel
theorem dX5_assign_75 : decode cX5_assign 75 = .ok (.getfield 37, 3) := by decide +kernel
theorem dX5_assign_78 : decode cX5_assign 78 = .ok (.invokevirtual 133, 3) := by decide +kernel
theorem dX5_assign_81 : decode cX5_assign 81 = .ok (.lreturn, 1) := by decide +kernel
theorem dX5_settle_0 : decode cX5_settle 0 = .ok (.aload_n 0, 1) := by decide +kernel
theorem dX5_settle_1 : decode cX5_settle 1 = .ok (.getfield 10, 3) := by decide +kernel
theorem dX5_settle_4 : decode cX5_settle 4 = .ok (.iload_n 2, 1) := by decide +kernel
theorem dX5_settle_5 : decode cX5_settle 5 = .ok (.invokevirtual 120, 3) := by decide +kernel
theorem dX5_settle_8 : decode cX5_settle 8 = .ok (.astore 4, 2) := by decide +kernel
theorem dX5_settle_10 : decode cX5_settle 10 = .ok (.iload_n 1, 1) := by decide +kernel
theorem dX5_settle_11 : decode cX5_settle 11 = .ok (.i2l, 1) := by decide +kernel
theorem dX5_settle_12 : decode cX5_settle 12 = .ok (.lconst 0, 1) := by decide +kernel
theorem dX5_settle_13 : decode cX5_settle 13 = .ok (.ldc2_w 67, 3) := by decide +kernel
theorem dX5_settle_16 : decode cX5_settle 16 = .ok (.invokestatic 48, 3) := by decide +kernel
theorem dX5_settle_19 : decode cX5_settle 19 = .ok (.ifCond .eq 8, 3) := by decide +kernel
theorem dX5_settle_22 : decode cX5_settle 22 = .ok (.aload 4, 2) := by decide +kernel
theorem dX5_settle_24 : decode cX5_settle 24 = .ok (.ifnonnull 5, 3) := by decide +kernel
theorem dX5_settle_27 : decode cX5_settle 27 = .ok (.iconst (-1), 1) := by decide +kernel
theorem dX5_settle_28 : decode cX5_settle 28 = .ok (.ireturn, 1) := by decide +kernel
theorem dX5_settle_29 : decode cX5_settle 29 = .ok (.iload_n 3, 1) := by decide +kernel
theorem dX5_settle_30 : decode cX5_settle 30 = .ok (.i2l, 1) := by decide +kernel
theorem dX5_settle_31 : decode cX5_settle 31 = .ok (.lconst 1, 1) := by decide +kernel
theorem dX5_settle_32 : decode cX5_settle 32 = .ok (.ldc2_w 137, 3) := by decide +kernel
theorem dX5_settle_35 : decode cX5_settle 35 = .ok (.invokestatic 48, 3) := by decide +kernel
theorem dX5_settle_38 : decode cX5_settle 38 = .ok (.ifCond .ne 6, 3) := by decide +kernel
theorem dX5_settle_41 : decode cX5_settle 41 = .ok (.bipush (-2), 2) := by decide +kernel
theorem dX5_settle_43 : decode cX5_settle 43 = .ok (.ireturn, 1) := by decide +kernel
theorem dX5_settle_44 : decode cX5_settle 44 = .ok (.aload_n 0, 1) := by decide +kernel
theorem dX5_settle_45 : decode cX5_settle 45 = .ok (.invokevirtual 56, 3) := by decide +kernel
theorem dX5_settle_48 : decode cX5_settle 48 = .ok (.iconst 0, 1) := by decide +kernel
theorem dX5_settle_49 : decode cX5_settle 49 = .ok (.istore 5, 2) := by decide +kernel
theorem dX5_settle_51 : decode cX5_settle 51 = .ok (.iload 5, 2) := by decide +kernel
theorem dX5_settle_53 : decode cX5_settle 53 = .ok (.iload_n 3, 1) := by decide +kernel
theorem dX5_settle_54 : decode cX5_settle 54 = .ok (.if_icmp .ge 74, 3) := by decide +kernel
theorem dX5_settle_57 : decode cX5_settle 57 = .ok (.aload_n 0, 1) := by decide +kernel
theorem dX5_settle_58 : decode cX5_settle 58 = .ok (.getfield 37, 3) := by decide +kernel
theorem dX5_settle_61 : decode cX5_settle 61 = .ok (.aload 4, 2) := by decide +kernel
theorem dX5_settle_63 : decode cX5_settle 63 = .ok (.aload_n 0, 1) := by decide +kernel
theorem dX5_settle_64 : decode cX5_settle 64 = .ok (.getfield 10, 3) := by decide +kernel
theorem dX5_settle_67 : decode cX5_settle 67 = .ok (.invokevirtual 124, 3) := by decide +kernel
theorem dX5_settle_70 : decode cX5_settle 70 = .ok (.aload_n 0, 1) := by decide +kernel
theorem dX5_settle_71 : decode cX5_settle 71 = .ok (.getfield 37, 3) := by decide +kernel
theorem dX5_settle_74 : decode cX5_settle 74 = .ok (.getfield 128, 3) := by decide +kernel
theorem dX5_settle_77 : decode cX5_settle 77 = .ok (.ifCond .eq 6, 3) := by decide +kernel
theorem dX5_settle_80 : decode cX5_settle 80 = .ok (.iload 5, 2) := by decide +kernel
theorem dX5_settle_82 : decode cX5_settle 82 = .ok (.ireturn, 1) := by decide +kernel
theorem dX5_settle_83 : decode cX5_settle 83 = .ok (.aload_n 0, 1) := by decide +kernel
theorem dX5_settle_84 : decode cX5_settle 84 = .ok (.getfield 37, 3) := by decide +kernel
theorem dX5_settle_87 : decode cX5_settle 87 = .ok (.invokevirtual 133, 3) := by decide +kernel
theorem dX5_settle_90 : decode cX5_settle 90 = .ok (.aload_n 0, 1) := by decide +kernel
theorem dX5_settle_91 : decode cX5_settle 91 = .ok (.getfield 10, 3) := by decide +kernel
theorem dX5_settle_94 : decode cX5_settle 94 = .ok (.iload_n 1, 1) := by decide +kernel
theorem dX5_settle_95 : decode cX5_settle 95 = .ok (.invokevirtual 75, 3) := by decide +kernel
theorem dX5_settle_98 : decode cX5_settle 98 = .ok (.lcmp, 1) := by decide +kernel
theorem dX5_settle_99 : decode cX5_settle 99 = .ok (.ifCond .ne 8, 3) := by decide +kernel
theorem dX5_settle_102 : decode cX5_settle 102 = .ok (.iload 5, 2) := by decide +kernel
theorem dX5_settle_104 : decode cX5_settle 104 = .ok (.iconst 1, 1) := by decide +kernel
theorem dX5_settle_105 : decode cX5_settle 105 = .ok (.iadd, 1) := by decide +kernel
theorem dX5_settle_106 : decode cX5_settle 106 = .ok (.ireturn, 1) := by decide +kernel
theorem dX5_settle_107 : decode cX5_settle 107 = .ok (.aload_n 0, 1) := by decide +kernel
theorem dX5_settle_108 : decode cX5_settle 108 = .ok (.getfield 10, 3) := by decide +kernel
theorem dX5_settle_111 : decode cX5_settle 111 = .ok (.iload_n 1, 1) := by decide +kernel
theorem dX5_settle_112 : decode cX5_settle 112 = .ok (.aload_n 0, 1) := by decide +kernel
theorem dX5_settle_113 : decode cX5_settle 113 = .ok (.getfield 37, 3) := by decide +kernel
theorem dX5_settle_116 : decode cX5_settle 116 = .ok (.invokevirtual 133, 3) := by decide +kernel
theorem dX5_settle_119 : decode cX5_settle 119 = .ok (.invokevirtual 79, 3) := by decide +kernel
theorem dX5_settle_122 : decode cX5_settle 122 = .ok (.iinc 5 1, 3) := by decide +kernel
theorem dX5_settle_125 : decode cX5_settle 125 = .ok (.goto (-74), 3) := by decide +kernel
theorem dX5_settle_128 : decode cX5_settle 128 = .ok (.iload_n 3, 1) := by decide +kernel
theorem dX5_settle_129 : decode cX5_settle 129 = .ok (.ireturn, 1) := by decide +kernel
theorem dX5_value_0 : decode cX5_value 0 = .ok (.aload_n 0, 1) := by decide +kernel
theorem dX5_value_1 : decode cX5_value 1 = .ok (.getfield 10, 3) := by decide +kernel
theorem dX5_value_4 : decode cX5_value 4 = .ok (.iload_n 1, 1) := by decide +kernel
theorem dX5_value_5 : decode cX5_value 5 = .ok (.invokevirtual 120, 3) := by decide +kernel
theorem dX5_value_8 : decode cX5_value 8 = .ok (.astore_n 2, 1) := by decide +kernel
theorem dX5_value_9 : decode cX5_value 9 = .ok (.aload_n 2, 1) := by decide +kernel
theorem dX5_value_10 : decode cX5_value 10 = .ok (.ifnonnull 7, 3) := by decide +kernel
theorem dX5_value_13 : decode cX5_value 13 = .ok (.ldc2_w 69, 3) := by decide +kernel
theorem dX5_value_16 : decode cX5_value 16 = .ok (.lreturn, 1) := by decide +kernel
theorem dX5_value_17 : decode cX5_value 17 = .ok (.aload_n 0, 1) := by decide +kernel
theorem dX5_value_18 : decode cX5_value 18 = .ok (.getfield 37, 3) := by decide +kernel
theorem dX5_value_21 : decode cX5_value 21 = .ok (.aload_n 2, 1) := by decide +kernel
theorem dX5_value_22 : decode cX5_value 22 = .ok (.aload_n 0, 1) := by decide +kernel
theorem dX5_value_23 : decode cX5_value 23 = .ok (.getfield 10, 3) := by decide +kernel
theorem dX5_value_26 : decode cX5_value 26 = .ok (.invokevirtual 124, 3) := by decide +kernel
theorem dX5_value_29 : decode cX5_value 29 = .ok (.aload_n 0, 1) := by decide +kernel
theorem dX5_value_30 : decode cX5_value 30 = .ok (.getfield 37, 3) := by decide +kernel
theorem dX5_value_33 : decode cX5_value 33 = .ok (.getfield 128, 3) := by decide +kernel
theorem dX5_value_36 : decode cX5_value 36 = .ok (.ifCond .ne 13, 3) := by decide +kernel
theorem dX5_value_39 : decode cX5_value 39 = .ok (.aload_n 0, 1) := by decide +kernel
theorem dX5_value_40 : decode cX5_value 40 = .ok (.getfield 37, 3) := by decide +kernel
theorem dX5_value_43 : decode cX5_value 43 = .ok (.invokevirtual 133, 3) := by decide +kernel
theorem dX5_value_46 : decode cX5_value 46 = .ok (.goto 6, 3) := by decide +kernel
theorem dX5_value_49 : decode cX5_value 49 = .ok (.ldc2_w 131, 3) := by decide +kernel
theorem dX5_value_52 : decode cX5_value 52 = .ok (.lreturn, 1) := by decide +kernel
theorem dX5_ofFormula_0 : decode cX5_ofFormula 0 = .ok (.aload_n 0, 1) := by decide +kernel
theorem dX5_ofFormula_1 : decode cX5_ofFormula 1 = .ok (.getfield 10, 3) := by decide +kernel
theorem dX5_ofFormula_4 : decode cX5_ofFormula 4 = .ok (.iload_n 1, 1) := by decide +kernel
theorem dX5_ofFormula_5 : decode cX5_ofFormula 5 = .ok (.invokevirtual 120, 3) := by decide +kernel
theorem dX5_ofFormula_8 : decode cX5_ofFormula 8 = .ok (.astore_n 3, 1) := by decide +kernel
theorem dX5_ofFormula_9 : decode cX5_ofFormula 9 = .ok (.aload_n 3, 1) := by decide +kernel
theorem dX5_ofFormula_10 : decode cX5_ofFormula 10 = .ok (.ifnonnull 5, 3) := by decide +kernel
theorem dX5_ofFormula_13 : decode cX5_ofFormula 13 = .ok (.iconst (-1), 1) := by decide +kernel
theorem dX5_ofFormula_14 : decode cX5_ofFormula 14 = .ok (.ireturn, 1) := by decide +kernel
theorem dX5_ofFormula_15 : decode cX5_ofFormula 15 = .ok (.aload_n 0, 1) := by decide +kernel
theorem dX5_ofFormula_16 : decode cX5_ofFormula 16 = .ok (.getfield 37, 3) := by decide +kernel
theorem dX5_ofFormula_19 : decode cX5_ofFormula 19 = .ok (.aload_n 3, 1) := by decide +kernel
theorem dX5_ofFormula_20 : decode cX5_ofFormula 20 = .ok (.aload_n 0, 1) := by decide +kernel
theorem dX5_ofFormula_21 : decode cX5_ofFormula 21 = .ok (.getfield 10, 3) := by decide +kernel
theorem dX5_ofFormula_24 : decode cX5_ofFormula 24 = .ok (.invokevirtual 124, 3) := by decide +kernel
theorem dX5_ofFormula_27 : decode cX5_ofFormula 27 = .ok (.iload_n 2, 1) := by decide +kernel
theorem dX5_ofFormula_28 : decode cX5_ofFormula 28 = .ok (.tableswitch 83 0 4 #[36, 42, 47, 55, 78], 36) := by decide +kernel
theorem dX5_ofFormula_64 : decode cX5_ofFormula 64 = .ok (.aload_n 3, 1) := by decide +kernel
theorem dX5_ofFormula_65 : decode cX5_ofFormula 65 = .ok (.getfield 119, 3) := by decide +kernel
theorem dX5_ofFormula_68 : decode cX5_ofFormula 68 = .ok (.arraylength, 1) := by decide +kernel
theorem dX5_ofFormula_69 : decode cX5_ofFormula 69 = .ok (.ireturn, 1) := by decide +kernel
theorem dX5_ofFormula_70 : decode cX5_ofFormula 70 = .ok (.aload_n 3, 1) := by decide +kernel
theorem dX5_ofFormula_71 : decode cX5_ofFormula 71 = .ok (.invokevirtual 139, 3) := by decide +kernel
theorem dX5_ofFormula_74 : decode cX5_ofFormula 74 = .ok (.ireturn, 1) := by decide +kernel
theorem dX5_ofFormula_75 : decode cX5_ofFormula 75 = .ok (.aload_n 0, 1) := by decide +kernel
theorem dX5_ofFormula_76 : decode cX5_ofFormula 76 = .ok (.getfield 37, 3) := by decide +kernel
theorem dX5_ofFormula_79 : decode cX5_ofFormula 79 = .ok (.getfield 128, 3) := by decide +kernel
theorem dX5_ofFormula_82 : decode cX5_ofFormula 82 = .ok (.ireturn, 1) := by decide +kernel
theorem dX5_ofFormula_83 : decode cX5_ofFormula 83 = .ok (.aload_n 0, 1) := by decide +kernel
theorem dX5_ofFormula_84 : decode cX5_ofFormula 84 = .ok (.getfield 37, 3) := by decide +kernel
theorem dX5_ofFormula_87 : decode cX5_ofFormula 87 = .ok (.getfield 128, 3) := by decide +kernel
theorem dX5_ofFormula_90 : decode cX5_ofFormula 90 = .ok (.ifCond .ne 8, 3) := by decide +kernel
theorem dX5_ofFormula_93 : decode cX5_ofFormula 93 = .ok (.bipush (-6), 2) := by decide +kernel
theorem dX5_ofFormula_95 : decode cX5_ofFormula 95 = .ok (.goto 10, 3) := by decide +kernel
theorem dX5_ofFormula_98 : decode cX5_ofFormula 98 = .ok (.aload_n 0, 1) := by decide +kernel
theorem dX5_ofFormula_99 : decode cX5_ofFormula 99 = .ok (.getfield 37, 3) := by decide +kernel
theorem dX5_ofFormula_102 : decode cX5_ofFormula 102 = .ok (.getfield 143, 3) := by decide +kernel
theorem dX5_ofFormula_105 : decode cX5_ofFormula 105 = .ok (.ireturn, 1) := by decide +kernel
theorem dX5_ofFormula_106 : decode cX5_ofFormula 106 = .ok (.aload_n 3, 1) := by decide +kernel
theorem dX5_ofFormula_107 : decode cX5_ofFormula 107 = .ok (.invokevirtual 146, 3) := by decide +kernel
theorem dX5_ofFormula_110 : decode cX5_ofFormula 110 = .ok (.ireturn, 1) := by decide +kernel
theorem dX5_ofFormula_111 : decode cX5_ofFormula 111 = .ok (.bipush (-2), 2) := by decide +kernel
theorem dX5_ofFormula_113 : decode cX5_ofFormula 113 = .ok (.ireturn, 1) := by decide +kernel
theorem dX5_stepValue_0 : decode cX5_stepValue 0 = .ok (.aload_n 0, 1) := by decide +kernel
theorem dX5_stepValue_1 : decode cX5_stepValue 1 = .ok (.getfield 10, 3) := by decide +kernel
theorem dX5_stepValue_4 : decode cX5_stepValue 4 = .ok (.iload_n 1, 1) := by decide +kernel
theorem dX5_stepValue_5 : decode cX5_stepValue 5 = .ok (.invokevirtual 120, 3) := by decide +kernel
theorem dX5_stepValue_8 : decode cX5_stepValue 8 = .ok (.astore_n 3, 1) := by decide +kernel
theorem dX5_stepValue_9 : decode cX5_stepValue 9 = .ok (.aload_n 3, 1) := by decide +kernel
theorem dX5_stepValue_10 : decode cX5_stepValue 10 = .ok (.ifnull 20, 3) := by decide +kernel
theorem dX5_stepValue_13 : decode cX5_stepValue 13 = .ok (.iload_n 2, 1) := by decide +kernel
theorem dX5_stepValue_14 : decode cX5_stepValue 14 = .ok (.i2l, 1) := by decide +kernel
theorem dX5_stepValue_15 : decode cX5_stepValue 15 = .ok (.lconst 0, 1) := by decide +kernel
theorem dX5_stepValue_16 : decode cX5_stepValue 16 = .ok (.aload_n 3, 1) := by decide +kernel
theorem dX5_stepValue_17 : decode cX5_stepValue 17 = .ok (.getfield 119, 3) := by decide +kernel
theorem dX5_stepValue_20 : decode cX5_stepValue 20 = .ok (.arraylength, 1) := by decide +kernel
theorem dX5_stepValue_21 : decode cX5_stepValue 21 = .ok (.iconst 1, 1) := by decide +kernel
theorem dX5_stepValue_22 : decode cX5_stepValue 22 = .ok (.isub, 1) := by decide +kernel
theorem dX5_stepValue_23 : decode cX5_stepValue 23 = .ok (.i2l, 1) := by decide +kernel
theorem dX5_stepValue_24 : decode cX5_stepValue 24 = .ok (.invokestatic 48, 3) := by decide +kernel
theorem dX5_stepValue_27 : decode cX5_stepValue 27 = .ok (.ifCond .ne 7, 3) := by decide +kernel
theorem dX5_stepValue_30 : decode cX5_stepValue 30 = .ok (.ldc2_w 69, 3) := by decide +kernel
theorem dX5_stepValue_33 : decode cX5_stepValue 33 = .ok (.lreturn, 1) := by decide +kernel
theorem dX5_stepValue_34 : decode cX5_stepValue 34 = .ok (.aload_n 0, 1) := by decide +kernel
theorem dX5_stepValue_35 : decode cX5_stepValue 35 = .ok (.getfield 37, 3) := by decide +kernel
theorem dX5_stepValue_38 : decode cX5_stepValue 38 = .ok (.aload_n 3, 1) := by decide +kernel
theorem dX5_stepValue_39 : decode cX5_stepValue 39 = .ok (.aload_n 0, 1) := by decide +kernel
theorem dX5_stepValue_40 : decode cX5_stepValue 40 = .ok (.getfield 10, 3) := by decide +kernel
theorem dX5_stepValue_43 : decode cX5_stepValue 43 = .ok (.invokevirtual 124, 3) := by decide +kernel
theorem dX5_stepValue_46 : decode cX5_stepValue 46 = .ok (.iload_n 2, 1) := by decide +kernel
theorem dX5_stepValue_47 : decode cX5_stepValue 47 = .ok (.aload_n 0, 1) := by decide +kernel
theorem dX5_stepValue_48 : decode cX5_stepValue 48 = .ok (.getfield 37, 3) := by decide +kernel
theorem dX5_stepValue_51 : decode cX5_stepValue 51 = .ok (.getfield 143, 3) := by decide +kernel
theorem dX5_stepValue_54 : decode cX5_stepValue 54 = .ok (.if_icmp .ge 14, 3) := by decide +kernel
theorem dX5_stepValue_57 : decode cX5_stepValue 57 = .ok (.aload_n 0, 1) := by decide +kernel
theorem dX5_stepValue_58 : decode cX5_stepValue 58 = .ok (.getfield 37, 3) := by decide +kernel
theorem dX5_stepValue_61 : decode cX5_stepValue 61 = .ok (.iload_n 2, 1) := by decide +kernel
theorem dX5_stepValue_62 : decode cX5_stepValue 62 = .ok (.invokevirtual 149, 3) := by decide +kernel
theorem dX5_stepValue_65 : decode cX5_stepValue 65 = .ok (.goto 6, 3) := by decide +kernel
theorem dX5_stepValue_68 : decode cX5_stepValue 68 = .ok (.ldc2_w 131, 3) := by decide +kernel
theorem dX5_stepValue_71 : decode cX5_stepValue 71 = .ok (.lreturn, 1) := by decide +kernel
theorem dX5_count_0 : decode cX5_count 0 = .ok (.iload_n 1, 1) := by decide +kernel
theorem dX5_count_1 : decode cX5_count 1 = .ok (.tableswitch 83 0 5 #[39, 47, 52, 57, 66, 75], 39) := by decide +kernel
theorem dX5_count_40 : decode cX5_count 40 = .ok (.aload_n 0, 1) := by decide +kernel
theorem dX5_count_41 : decode cX5_count 41 = .ok (.getfield 10, 3) := by decide +kernel
theorem dX5_count_44 : decode cX5_count 44 = .ok (.invokevirtual 152, 3) := by decide +kernel
theorem dX5_count_47 : decode cX5_count 47 = .ok (.ireturn, 1) := by decide +kernel
theorem dX5_count_48 : decode cX5_count 48 = .ok (.aload_n 0, 1) := by decide +kernel
theorem dX5_count_49 : decode cX5_count 49 = .ok (.getfield 87, 3) := by decide +kernel
theorem dX5_count_52 : decode cX5_count 52 = .ok (.ireturn, 1) := by decide +kernel
theorem dX5_count_53 : decode cX5_count 53 = .ok (.aload_n 0, 1) := by decide +kernel
theorem dX5_count_54 : decode cX5_count 54 = .ok (.getfield 155, 3) := by decide +kernel
theorem dX5_count_57 : decode cX5_count 57 = .ok (.ireturn, 1) := by decide +kernel
theorem dX5_count_58 : decode cX5_count 58 = .ok (.aload_n 0, 1) := by decide +kernel
theorem dX5_count_59 : decode cX5_count 59 = .ok (.getfield 10, 3) := by decide +kernel
theorem dX5_count_62 : decode cX5_count 62 = .ok (.iconst 0, 1) := by decide +kernel
theorem dX5_count_63 : decode cX5_count 63 = .ok (.invokevirtual 59, 3) := by decide +kernel
theorem dX5_count_66 : decode cX5_count 66 = .ok (.ireturn, 1) := by decide +kernel
theorem dX5_count_67 : decode cX5_count 67 = .ok (.aload_n 0, 1) := by decide +kernel
theorem dX5_count_68 : decode cX5_count 68 = .ok (.getfield 10, 3) := by decide +kernel
theorem dX5_count_71 : decode cX5_count 71 = .ok (.iconst 1, 1) := by decide +kernel
theorem dX5_count_72 : decode cX5_count 72 = .ok (.invokevirtual 59, 3) := by decide +kernel
theorem dX5_count_75 : decode cX5_count 75 = .ok (.ireturn, 1) := by decide +kernel
theorem dX5_count_76 : decode cX5_count 76 = .ok (.aload_n 0, 1) := by decide +kernel
theorem dX5_count_77 : decode cX5_count 77 = .ok (.getfield 10, 3) := by decide +kernel
theorem dX5_count_80 : decode cX5_count 80 = .ok (.invokevirtual 158, 3) := by decide +kernel
theorem dX5_count_83 : decode cX5_count 83 = .ok (.ireturn, 1) := by decide +kernel
theorem dX5_count_84 : decode cX5_count 84 = .ok (.bipush (-2), 2) := by decide +kernel
theorem dX5_count_86 : decode cX5_count 86 = .ok (.ireturn, 1) := by decide +kernel
theorem dX5_root_0 : decode cX5_root 0 = .ok (.lload_n 1, 1) := by decide +kernel
theorem dX5_root_1 : decode cX5_root 1 = .ok (.lconst 0, 1) := by decide +kernel
theorem dX5_root_2 : decode cX5_root 2 = .ok (.ldc2_w 71, 3) := by decide +kernel
theorem dX5_root_5 : decode cX5_root 5 = .ok (.invokestatic 48, 3) := by decide +kernel
theorem dX5_root_8 : decode cX5_root 8 = .ok (.ifCond .eq 17, 3) := by decide +kernel
theorem dX5_root_11 : decode cX5_root 11 = .ok (.iload_n 3, 1) := by decide +kernel
theorem dX5_root_12 : decode cX5_root 12 = .ok (.i2l, 1) := by decide +kernel
theorem dX5_root_13 : decode cX5_root 13 = .ok (.ldc2_w 52, 3) := by decide +kernel
theorem dX5_root_16 : decode cX5_root 16 = .ok (.ldc2_w 161, 3) := by decide +kernel
theorem dX5_root_19 : decode cX5_root 19 = .ok (.invokestatic 48, 3) := by decide +kernel
theorem dX5_root_22 : decode cX5_root 22 = .ok (.ifCond .ne 6, 3) := by decide +kernel
theorem dX5_root_25 : decode cX5_root 25 = .ok (.bipush (-2), 2) := by decide +kernel
theorem dX5_root_27 : decode cX5_root 27 = .ok (.ireturn, 1) := by decide +kernel
theorem dX5_root_28 : decode cX5_root 28 = .ok (.lload_n 1, 1) := by decide +kernel
theorem dX5_root_29 : decode cX5_root 29 = .ok (.iload_n 3, 1) := by decide +kernel
theorem dX5_root_30 : decode cX5_root 30 = .ok (.aload_n 0, 1) := by decide +kernel
theorem dX5_root_31 : decode cX5_root 31 = .ok (.getfield 10, 3) := by decide +kernel
theorem dX5_root_34 : decode cX5_root 34 = .ok (.iconst 0, 1) := by decide +kernel
theorem dX5_root_35 : decode cX5_root 35 = .ok (.invokevirtual 59, 3) := by decide +kernel
theorem dX5_root_38 : decode cX5_root 38 = .ok (.invokestatic 163, 3) := by decide +kernel
theorem dX5_root_41 : decode cX5_root 41 = .ok (.l2i, 1) := by decide +kernel
theorem dX5_root_42 : decode cX5_root 42 = .ok (.ireturn, 1) := by decide +kernel
theorem dX5_remainder_0 : decode cX5_remainder 0 = .ok (.lload_n 1, 1) := by decide +kernel
theorem dX5_remainder_1 : decode cX5_remainder 1 = .ok (.lconst 0, 1) := by decide +kernel
theorem dX5_remainder_2 : decode cX5_remainder 2 = .ok (.ldc2_w 71, 3) := by decide +kernel
theorem dX5_remainder_5 : decode cX5_remainder 5 = .ok (.invokestatic 48, 3) := by decide +kernel
theorem dX5_remainder_8 : decode cX5_remainder 8 = .ok (.ifCond .eq 17, 3) := by decide +kernel
theorem dX5_remainder_11 : decode cX5_remainder 11 = .ok (.iload_n 3, 1) := by decide +kernel
theorem dX5_remainder_12 : decode cX5_remainder 12 = .ok (.i2l, 1) := by decide +kernel
theorem dX5_remainder_13 : decode cX5_remainder 13 = .ok (.ldc2_w 52, 3) := by decide +kernel
theorem dX5_remainder_16 : decode cX5_remainder 16 = .ok (.ldc2_w 161, 3) := by decide +kernel
theorem dX5_remainder_19 : decode cX5_remainder 19 = .ok (.invokestatic 48, 3) := by decide +kernel
theorem dX5_remainder_22 : decode cX5_remainder 22 = .ok (.ifCond .ne 7, 3) := by decide +kernel
theorem dX5_remainder_25 : decode cX5_remainder 25 = .ok (.ldc2_w 73, 3) := by decide +kernel
theorem dX5_remainder_28 : decode cX5_remainder 28 = .ok (.lreturn, 1) := by decide +kernel
theorem dX5_remainder_29 : decode cX5_remainder 29 = .ok (.lload_n 1, 1) := by decide +kernel
theorem dX5_remainder_30 : decode cX5_remainder 30 = .ok (.lload_n 1, 1) := by decide +kernel
theorem dX5_remainder_31 : decode cX5_remainder 31 = .ok (.iload_n 3, 1) := by decide +kernel
theorem dX5_remainder_32 : decode cX5_remainder 32 = .ok (.invokestatic 167, 3) := by decide +kernel
theorem dX5_remainder_35 : decode cX5_remainder 35 = .ok (.iload_n 3, 1) := by decide +kernel
theorem dX5_remainder_36 : decode cX5_remainder 36 = .ok (.invokestatic 171, 3) := by decide +kernel
theorem dX5_remainder_39 : decode cX5_remainder 39 = .ok (.lsub, 1) := by decide +kernel
theorem dX5_remainder_40 : decode cX5_remainder 40 = .ok (.lreturn, 1) := by decide +kernel
theorem dX5_bit_0 : decode cX5_bit 0 = .ok (.lload_n 1, 1) := by decide +kernel
theorem dX5_bit_1 : decode cX5_bit 1 = .ok (.lconst 0, 1) := by decide +kernel
theorem dX5_bit_2 : decode cX5_bit 2 = .ok (.ldc2_w 71, 3) := by decide +kernel
theorem dX5_bit_5 : decode cX5_bit 5 = .ok (.invokestatic 48, 3) := by decide +kernel
theorem dX5_bit_8 : decode cX5_bit 8 = .ok (.ifCond .eq 36, 3) := by decide +kernel
theorem dX5_bit_11 : decode cX5_bit 11 = .ok (.iload_n 3, 1) := by decide +kernel
theorem dX5_bit_12 : decode cX5_bit 12 = .ok (.i2l, 1) := by decide +kernel
theorem dX5_bit_13 : decode cX5_bit 13 = .ok (.ldc2_w 52, 3) := by decide +kernel
theorem dX5_bit_16 : decode cX5_bit 16 = .ok (.ldc2_w 161, 3) := by decide +kernel
theorem dX5_bit_19 : decode cX5_bit 19 = .ok (.invokestatic 48, 3) := by decide +kernel
theorem dX5_bit_22 : decode cX5_bit 22 = .ok (.ifCond .eq 22, 3) := by decide +kernel
theorem dX5_bit_25 : decode cX5_bit 25 = .ok (.iload 5, 2) := by decide +kernel
theorem dX5_bit_27 : decode cX5_bit 27 = .ok (.i2l, 1) := by decide +kernel
theorem dX5_bit_28 : decode cX5_bit 28 = .ok (.lconst 0, 1) := by decide +kernel
theorem dX5_bit_29 : decode cX5_bit 29 = .ok (.ldc2_w 161, 3) := by decide +kernel
theorem dX5_bit_32 : decode cX5_bit 32 = .ok (.invokestatic 48, 3) := by decide +kernel
theorem dX5_bit_35 : decode cX5_bit 35 = .ok (.ifCond .eq 9, 3) := by decide +kernel
theorem dX5_bit_38 : decode cX5_bit 38 = .ok (.iload 4, 2) := by decide +kernel
theorem dX5_bit_40 : decode cX5_bit 40 = .ok (.iconst (-1), 1) := by decide +kernel
theorem dX5_bit_41 : decode cX5_bit 41 = .ok (.if_icmp .ge 7, 3) := by decide +kernel
theorem dX5_bit_44 : decode cX5_bit 44 = .ok (.ldc2_w 73, 3) := by decide +kernel
theorem dX5_bit_47 : decode cX5_bit 47 = .ok (.lreturn, 1) := by decide +kernel
theorem dX5_bit_48 : decode cX5_bit 48 = .ok (.iload 4, 2) := by decide +kernel
theorem dX5_bit_50 : decode cX5_bit 50 = .ok (.iconst (-1), 1) := by decide +kernel
theorem dX5_bit_51 : decode cX5_bit 51 = .ok (.if_icmp .ne 12, 3) := by decide +kernel
theorem dX5_bit_54 : decode cX5_bit 54 = .ok (.lload_n 1, 1) := by decide +kernel
theorem dX5_bit_55 : decode cX5_bit 55 = .ok (.iload_n 3, 1) := by decide +kernel
theorem dX5_bit_56 : decode cX5_bit 56 = .ok (.invokestatic 174, 3) := by decide +kernel
theorem dX5_bit_59 : decode cX5_bit 59 = .ok (.i2l, 1) := by decide +kernel
theorem dX5_bit_60 : decode cX5_bit 60 = .ok (.goto 12, 3) := by decide +kernel
theorem dX5_bit_63 : decode cX5_bit 63 = .ok (.lload_n 1, 1) := by decide +kernel
theorem dX5_bit_64 : decode cX5_bit 64 = .ok (.iload_n 3, 1) := by decide +kernel
theorem dX5_bit_65 : decode cX5_bit 65 = .ok (.iload 4, 2) := by decide +kernel
theorem dX5_bit_67 : decode cX5_bit 67 = .ok (.iload 5, 2) := by decide +kernel
theorem dX5_bit_69 : decode cX5_bit 69 = .ok (.invokestatic 178, 3) := by decide +kernel
theorem dX5_bit_72 : decode cX5_bit 72 = .ok (.lreturn, 1) := by decide +kernel
theorem dX5_digits_0 : decode cX5_digits 0 = .ok (.iload_n 1, 1) := by decide +kernel
theorem dX5_digits_1 : decode cX5_digits 1 = .ok (.i2l, 1) := by decide +kernel
theorem dX5_digits_2 : decode cX5_digits 2 = .ok (.lconst 0, 1) := by decide +kernel
theorem dX5_digits_3 : decode cX5_digits 3 = .ok (.ldc2_w 182, 3) := by decide +kernel
theorem dX5_digits_6 : decode cX5_digits 6 = .ok (.invokestatic 48, 3) := by decide +kernel
theorem dX5_digits_9 : decode cX5_digits 9 = .ok (.ifCond .ne 6, 3) := by decide +kernel
theorem dX5_digits_12 : decode cX5_digits 12 = .ok (.bipush (-2), 2) := by decide +kernel
theorem dX5_digits_14 : decode cX5_digits 14 = .ok (.ireturn, 1) := by decide +kernel
theorem dX5_digits_15 : decode cX5_digits 15 = .ok (.iload_n 1, 1) := by decide +kernel
theorem dX5_digits_16 : decode cX5_digits 16 = .ok (.i2l, 1) := by decide +kernel
theorem dX5_digits_17 : decode cX5_digits 17 = .ok (.lstore_n 2, 1) := by decide +kernel
theorem dX5_digits_18 : decode cX5_digits 18 = .ok (.iconst 0, 1) := by decide +kernel
theorem dX5_digits_19 : decode cX5_digits 19 = .ok (.istore 4, 2) := by decide +kernel
theorem dX5_digits_21 : decode cX5_digits 21 = .ok (.iload 4, 2) := by decide +kernel
theorem dX5_digits_23 : decode cX5_digits 23 = .ok (.aload_n 0, 1) := by decide +kernel
theorem dX5_digits_24 : decode cX5_digits 24 = .ok (.getfield 10, 3) := by decide +kernel
theorem dX5_digits_27 : decode cX5_digits 27 = .ok (.iconst 1, 1) := by decide +kernel
theorem dX5_digits_28 : decode cX5_digits 28 = .ok (.invokevirtual 59, 3) := by decide +kernel
theorem dX5_digits_31 : decode cX5_digits 31 = .ok (.if_icmp .ge 15, 3) := by decide +kernel
theorem dX5_digits_34 : decode cX5_digits 34 = .ok (.lload_n 2, 1) := by decide +kernel
theorem dX5_digits_35 : decode cX5_digits 35 = .ok (.ldc2_w 137, 3) := by decide +kernel
theorem dX5_digits_38 : decode cX5_digits 38 = .ok (.lmul, 1) := by decide +kernel
theorem dX5_digits_39 : decode cX5_digits 39 = .ok (.lstore_n 2, 1) := by decide +kernel
theorem dX5_digits_40 : decode cX5_digits 40 = .ok (.iinc 4 1, 3) := by decide +kernel
theorem dX5_digits_43 : decode cX5_digits 43 = .ok (.goto (-22), 3) := by decide +kernel
theorem dX5_digits_46 : decode cX5_digits 46 = .ok (.lload_n 2, 1) := by decide +kernel
theorem dX5_digits_47 : decode cX5_digits 47 = .ok (.iconst 2, 1) := by decide +kernel
theorem dX5_digits_48 : decode cX5_digits 48 = .ok (.aload_n 0, 1) := by decide +kernel
theorem dX5_digits_49 : decode cX5_digits 49 = .ok (.getfield 10, 3) := by decide +kernel
theorem dX5_digits_52 : decode cX5_digits 52 = .ok (.iconst 0, 1) := by decide +kernel
theorem dX5_digits_53 : decode cX5_digits 53 = .ok (.invokevirtual 59, 3) := by decide +kernel
theorem dX5_digits_56 : decode cX5_digits 56 = .ok (.invokestatic 163, 3) := by decide +kernel
theorem dX5_digits_59 : decode cX5_digits 59 = .ok (.l2i, 1) := by decide +kernel
theorem dX5_digits_60 : decode cX5_digits 60 = .ok (.ireturn, 1) := by decide +kernel
theorem dX5_compare_0 : decode cX5_compare 0 = .ok (.iload_n 1, 1) := by decide +kernel
theorem dX5_compare_1 : decode cX5_compare 1 = .ok (.invokestatic 184, 3) := by decide +kernel
theorem dX5_compare_4 : decode cX5_compare 4 = .ok (.ifCond .eq 25, 3) := by decide +kernel
theorem dX5_compare_7 : decode cX5_compare 7 = .ok (.iload_n 2, 1) := by decide +kernel
theorem dX5_compare_8 : decode cX5_compare 8 = .ok (.invokestatic 184, 3) := by decide +kernel
theorem dX5_compare_11 : decode cX5_compare 11 = .ok (.ifCond .eq 18, 3) := by decide +kernel
theorem dX5_compare_14 : decode cX5_compare 14 = .ok (.iload_n 3, 1) := by decide +kernel
theorem dX5_compare_15 : decode cX5_compare 15 = .ok (.invokestatic 184, 3) := by decide +kernel
theorem dX5_compare_18 : decode cX5_compare 18 = .ok (.ifCond .eq 11, 3) := by decide +kernel
theorem dX5_compare_21 : decode cX5_compare 21 = .ok (.iload 4, 2) := by decide +kernel
theorem dX5_compare_23 : decode cX5_compare 23 = .ok (.invokestatic 184, 3) := by decide +kernel
theorem dX5_compare_26 : decode cX5_compare 26 = .ok (.ifCond .ne 6, 3) := by decide +kernel
theorem dX5_compare_29 : decode cX5_compare 29 = .ok (.bipush (-2), 2) := by decide +kernel
theorem dX5_compare_31 : decode cX5_compare 31 = .ok (.ireturn, 1) := by decide +kernel
theorem dX5_compare_32 : decode cX5_compare 32 = .ok (.ldc2_w 188, 3) := by decide +kernel
theorem dX5_compare_35 : decode cX5_compare 35 = .ok (.iload_n 1, 1) := by decide +kernel
theorem dX5_compare_36 : decode cX5_compare 36 = .ok (.i2l, 1) := by decide +kernel
theorem dX5_compare_37 : decode cX5_compare 37 = .ok (.lmul, 1) := by decide +kernel
theorem dX5_compare_38 : decode cX5_compare 38 = .ok (.iload_n 2, 1) := by decide +kernel
theorem dX5_compare_39 : decode cX5_compare 39 = .ok (.i2l, 1) := by decide +kernel
theorem dX5_compare_40 : decode cX5_compare 40 = .ok (.lmul, 1) := by decide +kernel
theorem dX5_compare_41 : decode cX5_compare 41 = .ok (.ldc2_w 188, 3) := by decide +kernel
theorem dX5_compare_44 : decode cX5_compare 44 = .ok (.iload_n 3, 1) := by decide +kernel
theorem dX5_compare_45 : decode cX5_compare 45 = .ok (.i2l, 1) := by decide +kernel
theorem dX5_compare_46 : decode cX5_compare 46 = .ok (.lmul, 1) := by decide +kernel
theorem dX5_compare_47 : decode cX5_compare 47 = .ok (.iload 4, 2) := by decide +kernel
theorem dX5_compare_49 : decode cX5_compare 49 = .ok (.i2l, 1) := by decide +kernel
theorem dX5_compare_50 : decode cX5_compare 50 = .ok (.lmul, 1) := by decide +kernel
theorem dX5_compare_51 : decode cX5_compare 51 = .ok (.iload_n 3, 1) := by decide +kernel
theorem dX5_compare_52 : decode cX5_compare 52 = .ok (.i2l, 1) := by decide +kernel
theorem dX5_compare_53 : decode cX5_compare 53 = .ok (.iload 4, 2) := by decide +kernel
theorem dX5_compare_55 : decode cX5_compare 55 = .ok (.i2l, 1) := by decide +kernel
theorem dX5_compare_56 : decode cX5_compare 56 = .ok (.ladd, 1) := by decide +kernel
theorem dX5_compare_57 : decode cX5_compare 57 = .ok (.iload_n 1, 1) := by decide +kernel
theorem dX5_compare_58 : decode cX5_compare 58 = .ok (.i2l, 1) := by decide +kernel
theorem dX5_compare_59 : decode cX5_compare 59 = .ok (.lsub, 1) := by decide +kernel
theorem dX5_compare_60 : decode cX5_compare 60 = .ok (.iload_n 2, 1) := by decide +kernel
theorem dX5_compare_61 : decode cX5_compare 61 = .ok (.i2l, 1) := by decide +kernel
theorem dX5_compare_62 : decode cX5_compare 62 = .ok (.lsub, 1) := by decide +kernel
theorem dX5_compare_63 : decode cX5_compare 63 = .ok (.invokestatic 190, 3) := by decide +kernel
theorem dX5_compare_66 : decode cX5_compare 66 = .ok (.istore 5, 2) := by decide +kernel
theorem dX5_compare_68 : decode cX5_compare 68 = .ok (.iload 5, 2) := by decide +kernel
theorem dX5_compare_70 : decode cX5_compare 70 = .ok (.ifCond .ge 7, 3) := by decide +kernel
theorem dX5_compare_73 : decode cX5_compare 73 = .ok (.iconst 2, 1) := by decide +kernel
theorem dX5_compare_74 : decode cX5_compare 74 = .ok (.goto 5, 3) := by decide +kernel
theorem dX5_compare_77 : decode cX5_compare 77 = .ok (.iload 5, 2) := by decide +kernel
theorem dX5_compare_79 : decode cX5_compare 79 = .ok (.ireturn, 1) := by decide +kernel
theorem dX5_period_0 : decode cX5_period 0 = .ok (.iload_n 1, 1) := by decide +kernel
theorem dX5_period_1 : decode cX5_period 1 = .ok (.i2l, 1) := by decide +kernel
theorem dX5_period_2 : decode cX5_period 2 = .ok (.lconst 0, 1) := by decide +kernel
theorem dX5_period_3 : decode cX5_period 3 = .ok (.ldc2_w 194, 3) := by decide +kernel
theorem dX5_period_6 : decode cX5_period 6 = .ok (.invokestatic 48, 3) := by decide +kernel
theorem dX5_period_9 : decode cX5_period 9 = .ok (.ifCond .ne 6, 3) := by decide +kernel
theorem dX5_period_12 : decode cX5_period 12 = .ok (.bipush (-2), 2) := by decide +kernel
theorem dX5_period_14 : decode cX5_period 14 = .ok (.ireturn, 1) := by decide +kernel
theorem dX5_period_15 : decode cX5_period 15 = .ok (.aload_n 0, 1) := by decide +kernel
theorem dX5_period_16 : decode cX5_period 16 = .ok (.getfield 44, 3) := by decide +kernel
theorem dX5_period_19 : decode cX5_period 19 = .ok (.iload_n 1, 1) := by decide +kernel
theorem dX5_period_20 : decode cX5_period 20 = .ok (.invokevirtual 196, 3) := by decide +kernel
theorem dX5_period_23 : decode cX5_period 23 = .ok (.iconst 1, 1) := by decide +kernel
theorem dX5_period_24 : decode cX5_period 24 = .ok (.istore_n 2, 1) := by decide +kernel
theorem dX5_period_25 : decode cX5_period 25 = .ok (.iload_n 2, 1) := by decide +kernel
theorem dX5_period_26 : decode cX5_period 26 = .ok (.ldc 200, 2) := by decide +kernel
theorem dX5_period_28 : decode cX5_period 28 = .ok (.if_icmp .gt 35, 3) := by decide +kernel
theorem dX5_period_31 : decode cX5_period 31 = .ok (.aload_n 0, 1) := by decide +kernel
theorem dX5_period_32 : decode cX5_period 32 = .ok (.getfield 44, 3) := by decide +kernel
theorem dX5_period_35 : decode cX5_period 35 = .ok (.invokevirtual 201, 3) := by decide +kernel
theorem dX5_period_38 : decode cX5_period 38 = .ok (.ifCond .ne 6, 3) := by decide +kernel
theorem dX5_period_41 : decode cX5_period 41 = .ok (.bipush (-6), 2) := by decide +kernel
theorem dX5_period_43 : decode cX5_period 43 = .ok (.ireturn, 1) := by decide +kernel
theorem dX5_period_44 : decode cX5_period 44 = .ok (.aload_n 0, 1) := by decide +kernel
theorem dX5_period_45 : decode cX5_period 45 = .ok (.getfield 44, 3) := by decide +kernel
theorem dX5_period_48 : decode cX5_period 48 = .ok (.getfield 205, 3) := by decide +kernel
theorem dX5_period_51 : decode cX5_period 51 = .ok (.iconst 1, 1) := by decide +kernel
theorem dX5_period_52 : decode cX5_period 52 = .ok (.if_icmp .ne 5, 3) := by decide +kernel
theorem dX5_period_55 : decode cX5_period 55 = .ok (.iload_n 2, 1) := by decide +kernel
theorem dX5_period_56 : decode cX5_period 56 = .ok (.ireturn, 1) := by decide +kernel
theorem dX5_period_57 : decode cX5_period 57 = .ok (.iinc 2 1, 3) := by decide +kernel
theorem dX5_period_60 : decode cX5_period 60 = .ok (.goto (-35), 3) := by decide +kernel
theorem dX5_period_63 : decode cX5_period 63 = .ok (.bipush (-6), 2) := by decide +kernel
theorem dX5_period_65 : decode cX5_period 65 = .ok (.ireturn, 1) := by decide +kernel
theorem dX5_term_0 : decode cX5_term 0 = .ok (.iload_n 1, 1) := by decide +kernel
theorem dX5_term_1 : decode cX5_term 1 = .ok (.i2l, 1) := by decide +kernel
theorem dX5_term_2 : decode cX5_term 2 = .ok (.lconst 0, 1) := by decide +kernel
theorem dX5_term_3 : decode cX5_term 3 = .ok (.ldc2_w 194, 3) := by decide +kernel
theorem dX5_term_6 : decode cX5_term 6 = .ok (.invokestatic 48, 3) := by decide +kernel
theorem dX5_term_9 : decode cX5_term 9 = .ok (.ifCond .eq 15, 3) := by decide +kernel
theorem dX5_term_12 : decode cX5_term 12 = .ok (.iload_n 2, 1) := by decide +kernel
theorem dX5_term_13 : decode cX5_term 13 = .ok (.i2l, 1) := by decide +kernel
theorem dX5_term_14 : decode cX5_term 14 = .ok (.lconst 0, 1) := by decide +kernel
theorem dX5_term_15 : decode cX5_term 15 = .ok (.ldc2_w 208, 3) := by decide +kernel
theorem dX5_term_18 : decode cX5_term 18 = .ok (.invokestatic 48, 3) := by decide +kernel
theorem dX5_term_21 : decode cX5_term 21 = .ok (.ifCond .ne 6, 3) := by decide +kernel
theorem dX5_term_24 : decode cX5_term 24 = .ok (.bipush (-2), 2) := by decide +kernel
theorem dX5_term_26 : decode cX5_term 26 = .ok (.ireturn, 1) := by decide +kernel
theorem dX5_term_27 : decode cX5_term 27 = .ok (.aload_n 0, 1) := by decide +kernel
theorem dX5_term_28 : decode cX5_term 28 = .ok (.getfield 44, 3) := by decide +kernel
theorem dX5_term_31 : decode cX5_term 31 = .ok (.iload_n 1, 1) := by decide +kernel
theorem dX5_term_32 : decode cX5_term 32 = .ok (.invokevirtual 196, 3) := by decide +kernel
theorem dX5_term_35 : decode cX5_term 35 = .ok (.iconst 0, 1) := by decide +kernel
theorem dX5_term_36 : decode cX5_term 36 = .ok (.istore_n 3, 1) := by decide +kernel
theorem dX5_term_37 : decode cX5_term 37 = .ok (.iload_n 3, 1) := by decide +kernel
theorem dX5_term_38 : decode cX5_term 38 = .ok (.iload_n 2, 1) := by decide +kernel
theorem dX5_term_39 : decode cX5_term 39 = .ok (.if_icmp .ge 22, 3) := by decide +kernel
theorem dX5_term_42 : decode cX5_term 42 = .ok (.aload_n 0, 1) := by decide +kernel
theorem dX5_term_43 : decode cX5_term 43 = .ok (.getfield 44, 3) := by decide +kernel
theorem dX5_term_46 : decode cX5_term 46 = .ok (.invokevirtual 201, 3) := by decide +kernel
theorem dX5_term_49 : decode cX5_term 49 = .ok (.ifCond .ne 6, 3) := by decide +kernel
theorem dX5_term_52 : decode cX5_term 52 = .ok (.bipush (-6), 2) := by decide +kernel
theorem dX5_term_54 : decode cX5_term 54 = .ok (.ireturn, 1) := by decide +kernel
theorem dX5_term_55 : decode cX5_term 55 = .ok (.iinc 3 1, 3) := by decide +kernel
theorem dX5_term_58 : decode cX5_term 58 = .ok (.goto (-21), 3) := by decide +kernel
theorem dX5_term_61 : decode cX5_term 61 = .ok (.aload_n 0, 1) := by decide +kernel
theorem dX5_term_62 : decode cX5_term 62 = .ok (.getfield 44, 3) := by decide +kernel
theorem dX5_term_65 : decode cX5_term 65 = .ok (.getfield 210, 3) := by decide +kernel
theorem dX5_term_68 : decode cX5_term 68 = .ok (.ireturn, 1) := by decide +kernel
theorem dX5_convergent_0 : decode cX5_convergent 0 = .ok (.iload_n 1, 1) := by decide +kernel
theorem dX5_convergent_1 : decode cX5_convergent 1 = .ok (.i2l, 1) := by decide +kernel
theorem dX5_convergent_2 : decode cX5_convergent 2 = .ok (.lconst 0, 1) := by decide +kernel
theorem dX5_convergent_3 : decode cX5_convergent 3 = .ok (.ldc2_w 194, 3) := by decide +kernel
theorem dX5_convergent_6 : decode cX5_convergent 6 = .ok (.invokestatic 48, 3) := by decide +kernel
theorem dX5_convergent_9 : decode cX5_convergent 9 = .ok (.ifCond .eq 25, 3) := by decide +kernel
theorem dX5_convergent_12 : decode cX5_convergent 12 = .ok (.iload_n 2, 1) := by decide +kernel
theorem dX5_convergent_13 : decode cX5_convergent 13 = .ok (.i2l, 1) := by decide +kernel
theorem dX5_convergent_14 : decode cX5_convergent 14 = .ok (.lconst 0, 1) := by decide +kernel
theorem dX5_convergent_15 : decode cX5_convergent 15 = .ok (.ldc2_w 208, 3) := by decide +kernel
theorem dX5_convergent_18 : decode cX5_convergent 18 = .ok (.invokestatic 48, 3) := by decide +kernel
theorem dX5_convergent_21 : decode cX5_convergent 21 = .ok (.ifCond .eq 13, 3) := by decide +kernel
theorem dX5_convergent_24 : decode cX5_convergent 24 = .ok (.iload_n 3, 1) := by decide +kernel
theorem dX5_convergent_25 : decode cX5_convergent 25 = .ok (.i2l, 1) := by decide +kernel
theorem dX5_convergent_26 : decode cX5_convergent 26 = .ok (.lconst 0, 1) := by decide +kernel
theorem dX5_convergent_27 : decode cX5_convergent 27 = .ok (.lconst 1, 1) := by decide +kernel
theorem dX5_convergent_28 : decode cX5_convergent 28 = .ok (.invokestatic 48, 3) := by decide +kernel
theorem dX5_convergent_31 : decode cX5_convergent 31 = .ok (.ifCond .ne 7, 3) := by decide +kernel
theorem dX5_convergent_34 : decode cX5_convergent 34 = .ok (.ldc2_w 73, 3) := by decide +kernel
theorem dX5_convergent_37 : decode cX5_convergent 37 = .ok (.lreturn, 1) := by decide +kernel
theorem dX5_convergent_38 : decode cX5_convergent 38 = .ok (.aload_n 0, 1) := by decide +kernel
theorem dX5_convergent_39 : decode cX5_convergent 39 = .ok (.getfield 44, 3) := by decide +kernel
theorem dX5_convergent_42 : decode cX5_convergent 42 = .ok (.iload_n 1, 1) := by decide +kernel
theorem dX5_convergent_43 : decode cX5_convergent 43 = .ok (.invokevirtual 196, 3) := by decide +kernel
theorem dX5_convergent_46 : decode cX5_convergent 46 = .ok (.iconst 0, 1) := by decide +kernel
theorem dX5_convergent_47 : decode cX5_convergent 47 = .ok (.istore 4, 2) := by decide +kernel
theorem dX5_convergent_49 : decode cX5_convergent 49 = .ok (.iload 4, 2) := by decide +kernel
theorem dX5_convergent_51 : decode cX5_convergent 51 = .ok (.iload_n 2, 1) := by decide +kernel
theorem dX5_convergent_52 : decode cX5_convergent 52 = .ok (.if_icmp .ge 62, 3) := by decide +kernel
theorem dX5_convergent_55 : decode cX5_convergent 55 = .ok (.aload_n 0, 1) := by decide +kernel
theorem dX5_convergent_56 : decode cX5_convergent 56 = .ok (.getfield 44, 3) := by decide +kernel
theorem dX5_convergent_59 : decode cX5_convergent 59 = .ok (.invokevirtual 201, 3) := by decide +kernel
theorem dX5_convergent_62 : decode cX5_convergent 62 = .ok (.ifCond .ne 7, 3) := by decide +kernel
theorem dX5_convergent_65 : decode cX5_convergent 65 = .ok (.ldc2_w 213, 3) := by decide +kernel
theorem dX5_convergent_68 : decode cX5_convergent 68 = .ok (.lreturn, 1) := by decide +kernel
theorem dX5_convergent_69 : decode cX5_convergent 69 = .ok (.aload_n 0, 1) := by decide +kernel
theorem dX5_convergent_70 : decode cX5_convergent 70 = .ok (.getfield 44, 3) := by decide +kernel
theorem dX5_convergent_73 : decode cX5_convergent 73 = .ok (.invokevirtual 215, 3) := by decide +kernel
theorem dX5_convergent_76 : decode cX5_convergent 76 = .ok (.aload_n 0, 1) := by decide +kernel
theorem dX5_convergent_77 : decode cX5_convergent 77 = .ok (.getfield 44, 3) := by decide +kernel
theorem dX5_convergent_80 : decode cX5_convergent 80 = .ok (.getfield 218, 3) := by decide +kernel
theorem dX5_convergent_83 : decode cX5_convergent 83 = .ok (.ldc2_w 71, 3) := by decide +kernel
theorem dX5_convergent_86 : decode cX5_convergent 86 = .ok (.lcmp, 1) := by decide +kernel
theorem dX5_convergent_87 : decode cX5_convergent 87 = .ok (.ifCond .gt 17, 3) := by decide +kernel
theorem dX5_convergent_90 : decode cX5_convergent 90 = .ok (.aload_n 0, 1) := by decide +kernel
theorem dX5_convergent_91 : decode cX5_convergent 91 = .ok (.getfield 44, 3) := by decide +kernel
theorem dX5_convergent_94 : decode cX5_convergent 94 = .ok (.getfield 222, 3) := by decide +kernel
theorem dX5_convergent_97 : decode cX5_convergent 97 = .ok (.ldc2_w 71, 3) := by decide +kernel
theorem dX5_convergent_100 : decode cX5_convergent 100 = .ok (.lcmp, 1) := by decide +kernel
theorem dX5_convergent_101 : decode cX5_convergent 101 = .ok (.ifCond .le 7, 3) := by decide +kernel
theorem dX5_convergent_104 : decode cX5_convergent 104 = .ok (.ldc2_w 213, 3) := by decide +kernel
theorem dX5_convergent_107 : decode cX5_convergent 107 = .ok (.lreturn, 1) := by decide +kernel
theorem dX5_convergent_108 : decode cX5_convergent 108 = .ok (.iinc 4 1, 3) := by decide +kernel
theorem dX5_convergent_111 : decode cX5_convergent 111 = .ok (.goto (-62), 3) := by decide +kernel
theorem dX5_convergent_114 : decode cX5_convergent 114 = .ok (.iload_n 3, 1) := by decide +kernel
theorem dX5_convergent_115 : decode cX5_convergent 115 = .ok (.ifCond .ne 13, 3) := by decide +kernel
theorem dX5_convergent_118 : decode cX5_convergent 118 = .ok (.aload_n 0, 1) := by decide +kernel
theorem dX5_convergent_119 : decode cX5_convergent 119 = .ok (.getfield 44, 3) := by decide +kernel
theorem dX5_convergent_122 : decode cX5_convergent 122 = .ok (.getfield 218, 3) := by decide +kernel
theorem dX5_convergent_125 : decode cX5_convergent 125 = .ok (.goto 10, 3) := by decide +kernel
theorem dX5_convergent_128 : decode cX5_convergent 128 = .ok (.aload_n 0, 1) := by decide +kernel
theorem dX5_convergent_129 : decode cX5_convergent 129 = .ok (.getfield 44, 3) := by decide +kernel
theorem dX5_convergent_132 : decode cX5_convergent 132 = .ok (.getfield 222, 3) := by decide +kernel
theorem dX5_convergent_135 : decode cX5_convergent 135 = .ok (.lreturn, 1) := by decide +kernel
theorem dX5_twoSquares_0 : decode cX5_twoSquares 0 = .ok (.iload_n 1, 1) := by decide +kernel
theorem dX5_twoSquares_1 : decode cX5_twoSquares 1 = .ok (.i2l, 1) := by decide +kernel
theorem dX5_twoSquares_2 : decode cX5_twoSquares 2 = .ok (.lconst 0, 1) := by decide +kernel
theorem dX5_twoSquares_3 : decode cX5_twoSquares 3 = .ok (.ldc2_w 182, 3) := by decide +kernel
theorem dX5_twoSquares_6 : decode cX5_twoSquares 6 = .ok (.invokestatic 48, 3) := by decide +kernel
theorem dX5_twoSquares_9 : decode cX5_twoSquares 9 = .ok (.ifCond .eq 15, 3) := by decide +kernel
theorem dX5_twoSquares_12 : decode cX5_twoSquares 12 = .ok (.iload_n 2, 1) := by decide +kernel
theorem dX5_twoSquares_13 : decode cX5_twoSquares 13 = .ok (.i2l, 1) := by decide +kernel
theorem dX5_twoSquares_14 : decode cX5_twoSquares 14 = .ok (.lconst 0, 1) := by decide +kernel
theorem dX5_twoSquares_15 : decode cX5_twoSquares 15 = .ok (.ldc2_w 52, 3) := by decide +kernel
theorem dX5_twoSquares_18 : decode cX5_twoSquares 18 = .ok (.invokestatic 48, 3) := by decide +kernel
theorem dX5_twoSquares_21 : decode cX5_twoSquares 21 = .ok (.ifCond .ne 6, 3) := by decide +kernel
theorem dX5_twoSquares_24 : decode cX5_twoSquares 24 = .ok (.bipush (-2), 2) := by decide +kernel
theorem dX5_twoSquares_26 : decode cX5_twoSquares 26 = .ok (.ireturn, 1) := by decide +kernel
theorem dX5_twoSquares_27 : decode cX5_twoSquares 27 = .ok (.iconst 0, 1) := by decide +kernel
theorem dX5_twoSquares_28 : decode cX5_twoSquares 28 = .ok (.istore_n 3, 1) := by decide +kernel
theorem dX5_twoSquares_29 : decode cX5_twoSquares 29 = .ok (.iload_n 1, 1) := by decide +kernel
theorem dX5_twoSquares_30 : decode cX5_twoSquares 30 = .ok (.i2l, 1) := by decide +kernel
theorem dX5_twoSquares_31 : decode cX5_twoSquares 31 = .ok (.iconst 2, 1) := by decide +kernel
theorem dX5_twoSquares_32 : decode cX5_twoSquares 32 = .ok (.invokestatic 167, 3) := by decide +kernel
theorem dX5_twoSquares_35 : decode cX5_twoSquares 35 = .ok (.l2i, 1) := by decide +kernel
theorem dX5_twoSquares_36 : decode cX5_twoSquares 36 = .ok (.istore 4, 2) := by decide +kernel
theorem dX5_twoSquares_38 : decode cX5_twoSquares 38 = .ok (.iconst 0, 1) := by decide +kernel
theorem dX5_twoSquares_39 : decode cX5_twoSquares 39 = .ok (.istore 5, 2) := by decide +kernel
theorem dX5_twoSquares_41 : decode cX5_twoSquares 41 = .ok (.iload 5, 2) := by decide +kernel
theorem dX5_twoSquares_43 : decode cX5_twoSquares 43 = .ok (.iload 4, 2) := by decide +kernel
theorem dX5_twoSquares_45 : decode cX5_twoSquares 45 = .ok (.if_icmp .gt 72, 3) := by decide +kernel
theorem dX5_twoSquares_48 : decode cX5_twoSquares 48 = .ok (.iload 4, 2) := by decide +kernel
theorem dX5_twoSquares_50 : decode cX5_twoSquares 50 = .ok (.iload 5, 2) := by decide +kernel
theorem dX5_twoSquares_52 : decode cX5_twoSquares 52 = .ok (.if_icmp .le 24, 3) := by decide +kernel
theorem dX5_twoSquares_55 : decode cX5_twoSquares 55 = .ok (.iload 5, 2) := by decide +kernel
theorem dX5_twoSquares_57 : decode cX5_twoSquares 57 = .ok (.iload 5, 2) := by decide +kernel
theorem dX5_twoSquares_59 : decode cX5_twoSquares 59 = .ok (.imul, 1) := by decide +kernel
theorem dX5_twoSquares_60 : decode cX5_twoSquares 60 = .ok (.iload 4, 2) := by decide +kernel
theorem dX5_twoSquares_62 : decode cX5_twoSquares 62 = .ok (.iload 4, 2) := by decide +kernel
theorem dX5_twoSquares_64 : decode cX5_twoSquares 64 = .ok (.imul, 1) := by decide +kernel
theorem dX5_twoSquares_65 : decode cX5_twoSquares 65 = .ok (.iadd, 1) := by decide +kernel
theorem dX5_twoSquares_66 : decode cX5_twoSquares 66 = .ok (.iload_n 1, 1) := by decide +kernel
theorem dX5_twoSquares_67 : decode cX5_twoSquares 67 = .ok (.if_icmp .le 9, 3) := by decide +kernel
theorem dX5_twoSquares_70 : decode cX5_twoSquares 70 = .ok (.iinc 4 (-1), 3) := by decide +kernel
theorem dX5_twoSquares_73 : decode cX5_twoSquares 73 = .ok (.goto (-25), 3) := by decide +kernel
theorem dX5_twoSquares_76 : decode cX5_twoSquares 76 = .ok (.iload 5, 2) := by decide +kernel
theorem dX5_twoSquares_78 : decode cX5_twoSquares 78 = .ok (.iload 5, 2) := by decide +kernel
theorem dX5_twoSquares_80 : decode cX5_twoSquares 80 = .ok (.imul, 1) := by decide +kernel
theorem dX5_twoSquares_81 : decode cX5_twoSquares 81 = .ok (.iload 4, 2) := by decide +kernel
theorem dX5_twoSquares_83 : decode cX5_twoSquares 83 = .ok (.iload 4, 2) := by decide +kernel
theorem dX5_twoSquares_85 : decode cX5_twoSquares 85 = .ok (.imul, 1) := by decide +kernel
theorem dX5_twoSquares_86 : decode cX5_twoSquares 86 = .ok (.iadd, 1) := by decide +kernel
theorem dX5_twoSquares_87 : decode cX5_twoSquares 87 = .ok (.iload_n 1, 1) := by decide +kernel
theorem dX5_twoSquares_88 : decode cX5_twoSquares 88 = .ok (.if_icmp .ne 23, 3) := by decide +kernel
theorem dX5_twoSquares_91 : decode cX5_twoSquares 91 = .ok (.iload_n 2, 1) := by decide +kernel
theorem dX5_twoSquares_92 : decode cX5_twoSquares 92 = .ok (.ifCond .eq 16, 3) := by decide +kernel
theorem dX5_twoSquares_95 : decode cX5_twoSquares 95 = .ok (.iload_n 2, 1) := by decide +kernel
theorem dX5_twoSquares_96 : decode cX5_twoSquares 96 = .ok (.iconst 1, 1) := by decide +kernel
theorem dX5_twoSquares_97 : decode cX5_twoSquares 97 = .ok (.if_icmp .ne 8, 3) := by decide +kernel
theorem dX5_twoSquares_100 : decode cX5_twoSquares 100 = .ok (.iload 5, 2) := by decide +kernel
theorem dX5_twoSquares_102 : decode cX5_twoSquares 102 = .ok (.goto 5, 3) := by decide +kernel
theorem dX5_twoSquares_105 : decode cX5_twoSquares 105 = .ok (.iload 4, 2) := by decide +kernel
theorem dX5_twoSquares_107 : decode cX5_twoSquares 107 = .ok (.ireturn, 1) := by decide +kernel
theorem dX5_twoSquares_108 : decode cX5_twoSquares 108 = .ok (.iinc 3 1, 3) := by decide +kernel
theorem dX5_twoSquares_111 : decode cX5_twoSquares 111 = .ok (.iinc 5 1, 3) := by decide +kernel
theorem dX5_twoSquares_114 : decode cX5_twoSquares 114 = .ok (.goto (-73), 3) := by decide +kernel
theorem dX5_twoSquares_117 : decode cX5_twoSquares 117 = .ok (.iload_n 2, 1) := by decide +kernel
theorem dX5_twoSquares_118 : decode cX5_twoSquares 118 = .ok (.ifCond .ne 7, 3) := by decide +kernel
theorem dX5_twoSquares_121 : decode cX5_twoSquares 121 = .ok (.iload_n 3, 1) := by decide +kernel
theorem dX5_twoSquares_122 : decode cX5_twoSquares 122 = .ok (.goto 5, 3) := by decide +kernel
theorem dX5_twoSquares_125 : decode cX5_twoSquares 125 = .ok (.bipush (-6), 2) := by decide +kernel
theorem dX5_twoSquares_127 : decode cX5_twoSquares 127 = .ok (.ireturn, 1) := by decide +kernel
theorem dX5_powers_0 : decode cX5_powers 0 = .ok (.lload_n 1, 1) := by decide +kernel
theorem dX5_powers_1 : decode cX5_powers 1 = .ok (.lconst 0, 1) := by decide +kernel
theorem dX5_powers_2 : decode cX5_powers 2 = .ok (.ldc2_w 71, 3) := by decide +kernel
theorem dX5_powers_5 : decode cX5_powers 5 = .ok (.invokestatic 48, 3) := by decide +kernel
theorem dX5_powers_8 : decode cX5_powers 8 = .ok (.ifCond .eq 14, 3) := by decide +kernel
theorem dX5_powers_11 : decode cX5_powers 11 = .ok (.lload_n 3, 1) := by decide +kernel
theorem dX5_powers_12 : decode cX5_powers 12 = .ok (.lload_n 1, 1) := by decide +kernel
theorem dX5_powers_13 : decode cX5_powers 13 = .ok (.ldc2_w 71, 3) := by decide +kernel
theorem dX5_powers_16 : decode cX5_powers 16 = .ok (.invokestatic 48, 3) := by decide +kernel
theorem dX5_powers_19 : decode cX5_powers 19 = .ok (.ifCond .ne 6, 3) := by decide +kernel
theorem dX5_powers_22 : decode cX5_powers 22 = .ok (.bipush (-2), 2) := by decide +kernel
theorem dX5_powers_24 : decode cX5_powers 24 = .ok (.ireturn, 1) := by decide +kernel
theorem dX5_powers_25 : decode cX5_powers 25 = .ok (.lload_n 3, 1) := by decide +kernel
theorem dX5_powers_26 : decode cX5_powers 26 = .ok (.lconst 1, 1) := by decide +kernel
theorem dX5_powers_27 : decode cX5_powers 27 = .ok (.ladd, 1) := by decide +kernel
theorem dX5_powers_28 : decode cX5_powers 28 = .ok (.invokestatic 225, 3) := by decide +kernel
theorem dX5_powers_31 : decode cX5_powers 31 = .ok (.lload_n 1, 1) := by decide +kernel
theorem dX5_powers_32 : decode cX5_powers 32 = .ok (.invokestatic 225, 3) := by decide +kernel
theorem dX5_powers_35 : decode cX5_powers 35 = .ok (.lsub, 1) := by decide +kernel
theorem dX5_powers_36 : decode cX5_powers 36 = .ok (.l2i, 1) := by decide +kernel
theorem dX5_powers_37 : decode cX5_powers 37 = .ok (.ireturn, 1) := by decide +kernel
theorem dX5_rootSum_0 : decode cX5_rootSum 0 = .ok (.iload_n 1, 1) := by decide +kernel
theorem dX5_rootSum_1 : decode cX5_rootSum 1 = .ok (.i2l, 1) := by decide +kernel
theorem dX5_rootSum_2 : decode cX5_rootSum 2 = .ok (.lconst 0, 1) := by decide +kernel
theorem dX5_rootSum_3 : decode cX5_rootSum 3 = .ok (.ldc2_w 229, 3) := by decide +kernel
theorem dX5_rootSum_6 : decode cX5_rootSum 6 = .ok (.invokestatic 48, 3) := by decide +kernel
theorem dX5_rootSum_9 : decode cX5_rootSum 9 = .ok (.ifCond .ne 7, 3) := by decide +kernel
theorem dX5_rootSum_12 : decode cX5_rootSum 12 = .ok (.ldc2_w 73, 3) := by decide +kernel
theorem dX5_rootSum_15 : decode cX5_rootSum 15 = .ok (.lreturn, 1) := by decide +kernel
theorem dX5_rootSum_16 : decode cX5_rootSum 16 = .ok (.iload_n 1, 1) := by decide +kernel
theorem dX5_rootSum_17 : decode cX5_rootSum 17 = .ok (.i2l, 1) := by decide +kernel
theorem dX5_rootSum_18 : decode cX5_rootSum 18 = .ok (.iconst 2, 1) := by decide +kernel
theorem dX5_rootSum_19 : decode cX5_rootSum 19 = .ok (.invokestatic 167, 3) := by decide +kernel
theorem dX5_rootSum_22 : decode cX5_rootSum 22 = .ok (.lstore_n 2, 1) := by decide +kernel
theorem dX5_rootSum_23 : decode cX5_rootSum 23 = .ok (.lload_n 2, 1) := by decide +kernel
theorem dX5_rootSum_24 : decode cX5_rootSum 24 = .ok (.lconst 1, 1) := by decide +kernel
theorem dX5_rootSum_25 : decode cX5_rootSum 25 = .ok (.lsub, 1) := by decide +kernel
theorem dX5_rootSum_26 : decode cX5_rootSum 26 = .ok (.lload_n 2, 1) := by decide +kernel
theorem dX5_rootSum_27 : decode cX5_rootSum 27 = .ok (.lmul, 1) := by decide +kernel
theorem dX5_rootSum_28 : decode cX5_rootSum 28 = .ok (.ldc2_w 52, 3) := by decide +kernel
theorem dX5_rootSum_31 : decode cX5_rootSum 31 = .ok (.lload_n 2, 1) := by decide +kernel
theorem dX5_rootSum_32 : decode cX5_rootSum 32 = .ok (.lmul, 1) := by decide +kernel
theorem dX5_rootSum_33 : decode cX5_rootSum 33 = .ok (.lconst 1, 1) := by decide +kernel
theorem dX5_rootSum_34 : decode cX5_rootSum 34 = .ok (.lsub, 1) := by decide +kernel
theorem dX5_rootSum_35 : decode cX5_rootSum 35 = .ok (.lmul, 1) := by decide +kernel
theorem dX5_rootSum_36 : decode cX5_rootSum 36 = .ok (.ldc2_w 161, 3) := by decide +kernel
theorem dX5_rootSum_39 : decode cX5_rootSum 39 = .ok (.ldiv, 1) := by decide +kernel
theorem dX5_rootSum_40 : decode cX5_rootSum 40 = .ok (.lload_n 2, 1) := by decide +kernel
theorem dX5_rootSum_41 : decode cX5_rootSum 41 = .ok (.lconst 1, 1) := by decide +kernel
theorem dX5_rootSum_42 : decode cX5_rootSum 42 = .ok (.lsub, 1) := by decide +kernel
theorem dX5_rootSum_43 : decode cX5_rootSum 43 = .ok (.lload_n 2, 1) := by decide +kernel
theorem dX5_rootSum_44 : decode cX5_rootSum 44 = .ok (.lmul, 1) := by decide +kernel
theorem dX5_rootSum_45 : decode cX5_rootSum 45 = .ok (.ldc2_w 52, 3) := by decide +kernel
theorem dX5_rootSum_48 : decode cX5_rootSum 48 = .ok (.ldiv, 1) := by decide +kernel
theorem dX5_rootSum_49 : decode cX5_rootSum 49 = .ok (.ladd, 1) := by decide +kernel
theorem dX5_rootSum_50 : decode cX5_rootSum 50 = .ok (.lstore 4, 2) := by decide +kernel
theorem dX5_rootSum_52 : decode cX5_rootSum 52 = .ok (.lload 4, 2) := by decide +kernel
theorem dX5_rootSum_54 : decode cX5_rootSum 54 = .ok (.lload_n 2, 1) := by decide +kernel
theorem dX5_rootSum_55 : decode cX5_rootSum 55 = .ok (.iload_n 1, 1) := by decide +kernel
theorem dX5_rootSum_56 : decode cX5_rootSum 56 = .ok (.i2l, 1) := by decide +kernel
theorem dX5_rootSum_57 : decode cX5_rootSum 57 = .ok (.lload_n 2, 1) := by decide +kernel
theorem dX5_rootSum_58 : decode cX5_rootSum 58 = .ok (.lload_n 2, 1) := by decide +kernel
theorem dX5_rootSum_59 : decode cX5_rootSum 59 = .ok (.lmul, 1) := by decide +kernel
theorem dX5_rootSum_60 : decode cX5_rootSum 60 = .ok (.lsub, 1) := by decide +kernel
theorem dX5_rootSum_61 : decode cX5_rootSum 61 = .ok (.lconst 1, 1) := by decide +kernel
theorem dX5_rootSum_62 : decode cX5_rootSum 62 = .ok (.ladd, 1) := by decide +kernel
theorem dX5_rootSum_63 : decode cX5_rootSum 63 = .ok (.lmul, 1) := by decide +kernel
theorem dX5_rootSum_64 : decode cX5_rootSum 64 = .ok (.ladd, 1) := by decide +kernel
theorem dX5_rootSum_65 : decode cX5_rootSum 65 = .ok (.lreturn, 1) := by decide +kernel
theorem dX5_undo_0 : decode cX5_undo 0 = .ok (.aload_n 0, 1) := by decide +kernel
theorem dX5_undo_1 : decode cX5_undo 1 = .ok (.getfield 155, 3) := by decide +kernel
theorem dX5_undo_4 : decode cX5_undo 4 = .ok (.ifCond .ne 6, 3) := by decide +kernel
theorem dX5_undo_7 : decode cX5_undo 7 = .ok (.bipush (-5), 2) := by decide +kernel
theorem dX5_undo_9 : decode cX5_undo 9 = .ok (.ireturn, 1) := by decide +kernel
theorem dX5_undo_10 : decode cX5_undo 10 = .ok (.aload_n 0, 1) := by decide +kernel
theorem dX5_undo_11 : decode cX5_undo 11 = .ok (.dup, 1) := by decide +kernel
theorem dX5_undo_12 : decode cX5_undo 12 = .ok (.getfield 155, 3) := by decide +kernel
theorem dX5_undo_15 : decode cX5_undo 15 = .ok (.iconst 1, 1) := by decide +kernel
theorem dX5_undo_16 : decode cX5_undo 16 = .ok (.isub, 1) := by decide +kernel
theorem dX5_undo_17 : decode cX5_undo 17 = .ok (.putfield 155, 3) := by decide +kernel
theorem dX5_undo_20 : decode cX5_undo 20 = .ok (.aload_n 0, 1) := by decide +kernel
theorem dX5_undo_21 : decode cX5_undo 21 = .ok (.getfield 10, 3) := by decide +kernel
theorem dX5_undo_24 : decode cX5_undo 24 = .ok (.aload_n 0, 1) := by decide +kernel
theorem dX5_undo_25 : decode cX5_undo 25 = .ok (.getfield 16, 3) := by decide +kernel
theorem dX5_undo_28 : decode cX5_undo 28 = .ok (.aload_n 0, 1) := by decide +kernel
theorem dX5_undo_29 : decode cX5_undo 29 = .ok (.getfield 231, 3) := by decide +kernel
theorem dX5_undo_32 : decode cX5_undo 32 = .ok (.aload_n 0, 1) := by decide +kernel
theorem dX5_undo_33 : decode cX5_undo 33 = .ok (.getfield 155, 3) := by decide +kernel
theorem dX5_undo_36 : decode cX5_undo 36 = .ok (.iadd, 1) := by decide +kernel
theorem dX5_undo_37 : decode cX5_undo 37 = .ok (.bipush 6, 2) := by decide +kernel
theorem dX5_undo_39 : decode cX5_undo 39 = .ok (.irem, 1) := by decide +kernel
theorem dX5_undo_40 : decode cX5_undo 40 = .ok (.invokestatic 234, 3) := by decide +kernel
theorem dX5_undo_43 : decode cX5_undo 43 = .ok (.invokevirtual 238, 3) := by decide +kernel
theorem dX5_undo_46 : decode cX5_undo 46 = .ok (.aload_n 0, 1) := by decide +kernel
theorem dX5_undo_47 : decode cX5_undo 47 = .ok (.getfield 155, 3) := by decide +kernel
theorem dX5_undo_50 : decode cX5_undo 50 = .ok (.ireturn, 1) := by decide +kernel
theorem dX5_save_0 : decode cX5_save 0 = .ok (.iload_n 1, 1) := by decide +kernel
theorem dX5_save_1 : decode cX5_save 1 = .ok (.i2l, 1) := by decide +kernel
theorem dX5_save_2 : decode cX5_save 2 = .ok (.lconst 0, 1) := by decide +kernel
theorem dX5_save_3 : decode cX5_save 3 = .ok (.aload_n 0, 1) := by decide +kernel
theorem dX5_save_4 : decode cX5_save 4 = .ok (.getfield 20, 3) := by decide +kernel
theorem dX5_save_7 : decode cX5_save 7 = .ok (.arraylength, 1) := by decide +kernel
theorem dX5_save_8 : decode cX5_save 8 = .ok (.iconst 1, 1) := by decide +kernel
theorem dX5_save_9 : decode cX5_save 9 = .ok (.isub, 1) := by decide +kernel
theorem dX5_save_10 : decode cX5_save 10 = .ok (.i2l, 1) := by decide +kernel
theorem dX5_save_11 : decode cX5_save 11 = .ok (.invokestatic 48, 3) := by decide +kernel
theorem dX5_save_14 : decode cX5_save 14 = .ok (.ifCond .ne 6, 3) := by decide +kernel
theorem dX5_save_17 : decode cX5_save 17 = .ok (.bipush (-2), 2) := by decide +kernel
theorem dX5_save_19 : decode cX5_save 19 = .ok (.ireturn, 1) := by decide +kernel
theorem dX5_save_20 : decode cX5_save 20 = .ok (.aload_n 0, 1) := by decide +kernel
theorem dX5_save_21 : decode cX5_save 21 = .ok (.getfield 20, 3) := by decide +kernel
theorem dX5_save_24 : decode cX5_save 24 = .ok (.iload_n 1, 1) := by decide +kernel
theorem dX5_save_25 : decode cX5_save 25 = .ok (.aaload, 1) := by decide +kernel
theorem dX5_save_26 : decode cX5_save 26 = .ok (.ifnonnull 16, 3) := by decide +kernel
theorem dX5_save_29 : decode cX5_save 29 = .ok (.aload_n 0, 1) := by decide +kernel
theorem dX5_save_30 : decode cX5_save 30 = .ok (.getfield 20, 3) := by decide +kernel
theorem dX5_save_33 : decode cX5_save 33 = .ok (.iload_n 1, 1) := by decide +kernel
theorem dX5_save_34 : decode cX5_save 34 = .ok (.new 7, 3) := by decide +kernel
theorem dX5_save_37 : decode cX5_save 37 = .ok (.dup, 1) := by decide +kernel
theorem dX5_save_38 : decode cX5_save 38 = .ok (.invokespecial 9, 3) := by decide +kernel
theorem dX5_save_41 : decode cX5_save 41 = .ok (.aastore, 1) := by decide +kernel
theorem dX5_save_42 : decode cX5_save 42 = .ok (.aload_n 0, 1) := by decide +kernel
theorem dX5_save_43 : decode cX5_save 43 = .ok (.getfield 20, 3) := by decide +kernel
theorem dX5_save_46 : decode cX5_save 46 = .ok (.iload_n 1, 1) := by decide +kernel
theorem dX5_save_47 : decode cX5_save 47 = .ok (.aaload, 1) := by decide +kernel
theorem dX5_save_48 : decode cX5_save 48 = .ok (.aload_n 0, 1) := by decide +kernel
theorem dX5_save_49 : decode cX5_save 49 = .ok (.getfield 10, 3) := by decide +kernel
theorem dX5_save_52 : decode cX5_save 52 = .ok (.invokevirtual 238, 3) := by decide +kernel
theorem dX5_save_55 : decode cX5_save 55 = .ok (.aload_n 0, 1) := by decide +kernel
theorem dX5_save_56 : decode cX5_save 56 = .ok (.getfield 10, 3) := by decide +kernel
theorem dX5_save_59 : decode cX5_save 59 = .ok (.invokevirtual 152, 3) := by decide +kernel
theorem dX5_save_62 : decode cX5_save 62 = .ok (.ireturn, 1) := by decide +kernel
theorem dX5_restore_0 : decode cX5_restore 0 = .ok (.iload_n 1, 1) := by decide +kernel
theorem dX5_restore_1 : decode cX5_restore 1 = .ok (.i2l, 1) := by decide +kernel
theorem dX5_restore_2 : decode cX5_restore 2 = .ok (.lconst 0, 1) := by decide +kernel
theorem dX5_restore_3 : decode cX5_restore 3 = .ok (.aload_n 0, 1) := by decide +kernel
theorem dX5_restore_4 : decode cX5_restore 4 = .ok (.getfield 20, 3) := by decide +kernel
theorem dX5_restore_7 : decode cX5_restore 7 = .ok (.arraylength, 1) := by decide +kernel
theorem dX5_restore_8 : decode cX5_restore 8 = .ok (.iconst 1, 1) := by decide +kernel
theorem dX5_restore_9 : decode cX5_restore 9 = .ok (.isub, 1) := by decide +kernel
theorem dX5_restore_10 : decode cX5_restore 10 = .ok (.i2l, 1) := by decide +kernel
theorem dX5_restore_11 : decode cX5_restore 11 = .ok (.invokestatic 48, 3) := by decide +kernel
theorem dX5_restore_14 : decode cX5_restore 14 = .ok (.ifCond .ne 6, 3) := by decide +kernel
theorem dX5_restore_17 : decode cX5_restore 17 = .ok (.bipush (-2), 2) := by decide +kernel
theorem dX5_restore_19 : decode cX5_restore 19 = .ok (.ireturn, 1) := by decide +kernel
theorem dX5_restore_20 : decode cX5_restore 20 = .ok (.aload_n 0, 1) := by decide +kernel
theorem dX5_restore_21 : decode cX5_restore 21 = .ok (.getfield 20, 3) := by decide +kernel
theorem dX5_restore_24 : decode cX5_restore 24 = .ok (.iload_n 1, 1) := by decide +kernel
theorem dX5_restore_25 : decode cX5_restore 25 = .ok (.aaload, 1) := by decide +kernel
theorem dX5_restore_26 : decode cX5_restore 26 = .ok (.astore_n 2, 1) := by decide +kernel
theorem dX5_restore_27 : decode cX5_restore 27 = .ok (.aload_n 2, 1) := by decide +kernel
theorem dX5_restore_28 : decode cX5_restore 28 = .ok (.ifnonnull 6, 3) := by decide +kernel
theorem dX5_restore_31 : decode cX5_restore 31 = .ok (.bipush (-5), 2) := by decide +kernel
theorem dX5_restore_33 : decode cX5_restore 33 = .ok (.ireturn, 1) := by decide +kernel
theorem dX5_restore_34 : decode cX5_restore 34 = .ok (.aload_n 0, 1) := by decide +kernel
theorem dX5_restore_35 : decode cX5_restore 35 = .ok (.invokevirtual 56, 3) := by decide +kernel
theorem dX5_restore_38 : decode cX5_restore 38 = .ok (.aload_n 0, 1) := by decide +kernel
theorem dX5_restore_39 : decode cX5_restore 39 = .ok (.getfield 10, 3) := by decide +kernel
theorem dX5_restore_42 : decode cX5_restore 42 = .ok (.aload_n 2, 1) := by decide +kernel
theorem dX5_restore_43 : decode cX5_restore 43 = .ok (.invokevirtual 238, 3) := by decide +kernel
theorem dX5_restore_46 : decode cX5_restore 46 = .ok (.aload_n 0, 1) := by decide +kernel
theorem dX5_restore_47 : decode cX5_restore 47 = .ok (.getfield 10, 3) := by decide +kernel
theorem dX5_restore_50 : decode cX5_restore 50 = .ok (.invokevirtual 152, 3) := by decide +kernel
theorem dX5_restore_53 : decode cX5_restore 53 = .ok (.ireturn, 1) := by decide +kernel
theorem dX5_keepState_0 : decode cX5_keepState 0 = .ok (.aload_n 0, 1) := by decide +kernel
theorem dX5_keepState_1 : decode cX5_keepState 1 = .ok (.getfield 155, 3) := by decide +kernel
theorem dX5_keepState_4 : decode cX5_keepState 4 = .ok (.bipush 6, 2) := by decide +kernel
theorem dX5_keepState_6 : decode cX5_keepState 6 = .ok (.if_icmp .ne 26, 3) := by decide +kernel
theorem dX5_keepState_9 : decode cX5_keepState 9 = .ok (.aload_n 0, 1) := by decide +kernel
theorem dX5_keepState_10 : decode cX5_keepState 10 = .ok (.aload_n 0, 1) := by decide +kernel
theorem dX5_keepState_11 : decode cX5_keepState 11 = .ok (.getfield 231, 3) := by decide +kernel
theorem dX5_keepState_14 : decode cX5_keepState 14 = .ok (.iconst 1, 1) := by decide +kernel
theorem dX5_keepState_15 : decode cX5_keepState 15 = .ok (.iadd, 1) := by decide +kernel
theorem dX5_keepState_16 : decode cX5_keepState 16 = .ok (.bipush 6, 2) := by decide +kernel
theorem dX5_keepState_18 : decode cX5_keepState 18 = .ok (.irem, 1) := by decide +kernel
theorem dX5_keepState_19 : decode cX5_keepState 19 = .ok (.putfield 231, 3) := by decide +kernel
theorem dX5_keepState_22 : decode cX5_keepState 22 = .ok (.aload_n 0, 1) := by decide +kernel
theorem dX5_keepState_23 : decode cX5_keepState 23 = .ok (.dup, 1) := by decide +kernel
theorem dX5_keepState_24 : decode cX5_keepState 24 = .ok (.getfield 155, 3) := by decide +kernel
theorem dX5_keepState_27 : decode cX5_keepState 27 = .ok (.iconst 1, 1) := by decide +kernel
theorem dX5_keepState_28 : decode cX5_keepState 28 = .ok (.isub, 1) := by decide +kernel
theorem dX5_keepState_29 : decode cX5_keepState 29 = .ok (.putfield 155, 3) := by decide +kernel
theorem dX5_keepState_32 : decode cX5_keepState 32 = .ok (.aload_n 0, 1) := by decide +kernel
theorem dX5_keepState_33 : decode cX5_keepState 33 = .ok (.getfield 16, 3) := by decide +kernel
theorem dX5_keepState_36 : decode cX5_keepState 36 = .ok (.aload_n 0, 1) := by decide +kernel
theorem dX5_keepState_37 : decode cX5_keepState 37 = .ok (.getfield 231, 3) := by decide +kernel
theorem dX5_keepState_40 : decode cX5_keepState 40 = .ok (.aload_n 0, 1) := by decide +kernel
theorem dX5_keepState_41 : decode cX5_keepState 41 = .ok (.getfield 155, 3) := by decide +kernel
theorem dX5_keepState_44 : decode cX5_keepState 44 = .ok (.iadd, 1) := by decide +kernel
theorem dX5_keepState_45 : decode cX5_keepState 45 = .ok (.bipush 6, 2) := by decide +kernel
theorem dX5_keepState_47 : decode cX5_keepState 47 = .ok (.irem, 1) := by decide +kernel
theorem dX5_keepState_48 : decode cX5_keepState 48 = .ok (.invokestatic 234, 3) := by decide +kernel
theorem dX5_keepState_51 : decode cX5_keepState 51 = .ok (.astore_n 1, 1) := by decide +kernel
theorem dX5_keepState_52 : decode cX5_keepState 52 = .ok (.aload_n 1, 1) := by decide +kernel
theorem dX5_keepState_53 : decode cX5_keepState 53 = .ok (.ifnull 21, 3) := by decide +kernel
theorem dX5_keepState_56 : decode cX5_keepState 56 = .ok (.aload_n 1, 1) := by decide +kernel
theorem dX5_keepState_57 : decode cX5_keepState 57 = .ok (.aload_n 0, 1) := by decide +kernel
theorem dX5_keepState_58 : decode cX5_keepState 58 = .ok (.getfield 10, 3) := by decide +kernel
theorem dX5_keepState_61 : decode cX5_keepState 61 = .ok (.invokevirtual 238, 3) := by decide +kernel
theorem dX5_keepState_64 : decode cX5_keepState 64 = .ok (.aload_n 0, 1) := by decide +kernel
theorem dX5_keepState_65 : decode cX5_keepState 65 = .ok (.dup, 1) := by decide +kernel
theorem dX5_keepState_66 : decode cX5_keepState 66 = .ok (.getfield 155, 3) := by decide +kernel
theorem dX5_keepState_69 : decode cX5_keepState 69 = .ok (.iconst 1, 1) := by decide +kernel
theorem dX5_keepState_70 : decode cX5_keepState 70 = .ok (.iadd, 1) := by decide +kernel
theorem dX5_keepState_71 : decode cX5_keepState 71 = .ok (.putfield 155, 3) := by decide +kernel
theorem dX5_keepState_74 : decode cX5_keepState 74 = .ok (.return_, 1) := by decide +kernel
theorem dX5_stateIn_0 : decode cX5_stateIn 0 = .ok (.iload_n 1, 1) := by decide +kernel
theorem dX5_stateIn_1 : decode cX5_stateIn 1 = .ok (.ifCond .lt 15, 3) := by decide +kernel
theorem dX5_stateIn_4 : decode cX5_stateIn 4 = .ok (.iload_n 1, 1) := by decide +kernel
theorem dX5_stateIn_5 : decode cX5_stateIn 5 = .ok (.aload_n 0, 1) := by decide +kernel
theorem dX5_stateIn_6 : decode cX5_stateIn 6 = .ok (.arraylength, 1) := by decide +kernel
theorem dX5_stateIn_7 : decode cX5_stateIn 7 = .ok (.if_icmp .ge 9, 3) := by decide +kernel
theorem dX5_stateIn_10 : decode cX5_stateIn 10 = .ok (.aload_n 0, 1) := by decide +kernel
theorem dX5_stateIn_11 : decode cX5_stateIn 11 = .ok (.iload_n 1, 1) := by decide +kernel
theorem dX5_stateIn_12 : decode cX5_stateIn 12 = .ok (.aaload, 1) := by decide +kernel
theorem dX5_stateIn_13 : decode cX5_stateIn 13 = .ok (.goto 4, 3) := by decide +kernel
theorem dX5_stateIn_16 : decode cX5_stateIn 16 = .ok (.aconst_null, 1) := by decide +kernel
theorem dX5_stateIn_17 : decode cX5_stateIn 17 = .ok (.areturn, 1) := by decide +kernel
theorem dX5_sizeOf_0 : decode cX5_sizeOf 0 = .ok (.lload_n 0, 1) := by decide +kernel
theorem dX5_sizeOf_1 : decode cX5_sizeOf 1 = .ok (.lstore_n 2, 1) := by decide +kernel
theorem dX5_sizeOf_2 : decode cX5_sizeOf 2 = .ok (.iconst 0, 1) := by decide +kernel
theorem dX5_sizeOf_3 : decode cX5_sizeOf 3 = .ok (.istore 4, 2) := by decide +kernel
theorem dX5_sizeOf_5 : decode cX5_sizeOf 5 = .ok (.lload_n 2, 1) := by decide +kernel
theorem dX5_sizeOf_6 : decode cX5_sizeOf 6 = .ok (.lconst 0, 1) := by decide +kernel
theorem dX5_sizeOf_7 : decode cX5_sizeOf 7 = .ok (.lcmp, 1) := by decide +kernel
theorem dX5_sizeOf_8 : decode cX5_sizeOf 8 = .ok (.ifCond .eq 40, 3) := by decide +kernel
theorem dX5_sizeOf_11 : decode cX5_sizeOf 11 = .ok (.iload 4, 2) := by decide +kernel
theorem dX5_sizeOf_13 : decode cX5_sizeOf 13 = .ok (.bipush 8, 2) := by decide +kernel
theorem dX5_sizeOf_15 : decode cX5_sizeOf 15 = .ok (.if_icmp .ge 33, 3) := by decide +kernel
theorem dX5_sizeOf_18 : decode cX5_sizeOf 18 = .ok (.lload_n 2, 1) := by decide +kernel
theorem dX5_sizeOf_19 : decode cX5_sizeOf 19 = .ok (.ldc2_w 91, 3) := by decide +kernel
theorem dX5_sizeOf_22 : decode cX5_sizeOf 22 = .ok (.land, 1) := by decide +kernel
theorem dX5_sizeOf_23 : decode cX5_sizeOf 23 = .ok (.ldc2_w 242, 3) := by decide +kernel
theorem dX5_sizeOf_26 : decode cX5_sizeOf 26 = .ok (.ldc2_w 244, 3) := by decide +kernel
theorem dX5_sizeOf_29 : decode cX5_sizeOf 29 = .ok (.invokestatic 48, 3) := by decide +kernel
theorem dX5_sizeOf_32 : decode cX5_sizeOf 32 = .ok (.ifCond .ne 5, 3) := by decide +kernel
theorem dX5_sizeOf_35 : decode cX5_sizeOf 35 = .ok (.iconst 0, 1) := by decide +kernel
theorem dX5_sizeOf_36 : decode cX5_sizeOf 36 = .ok (.ireturn, 1) := by decide +kernel
theorem dX5_sizeOf_37 : decode cX5_sizeOf 37 = .ok (.lload_n 2, 1) := by decide +kernel
theorem dX5_sizeOf_38 : decode cX5_sizeOf 38 = .ok (.bipush 8, 2) := by decide +kernel
theorem dX5_sizeOf_40 : decode cX5_sizeOf 40 = .ok (.lushr, 1) := by decide +kernel
theorem dX5_sizeOf_41 : decode cX5_sizeOf 41 = .ok (.lstore_n 2, 1) := by decide +kernel
theorem dX5_sizeOf_42 : decode cX5_sizeOf 42 = .ok (.iinc 4 1, 3) := by decide +kernel
theorem dX5_sizeOf_45 : decode cX5_sizeOf 45 = .ok (.goto (-40), 3) := by decide +kernel
theorem dX5_sizeOf_48 : decode cX5_sizeOf 48 = .ok (.iload 4, 2) := by decide +kernel
theorem dX5_sizeOf_50 : decode cX5_sizeOf 50 = .ok (.ireturn, 1) := by decide +kernel
theorem dX5_addToPad_0 : decode cX5_addToPad 0 = .ok (.aload_n 0, 1) := by decide +kernel
theorem dX5_addToPad_1 : decode cX5_addToPad 1 = .ok (.getfield 87, 3) := by decide +kernel
theorem dX5_addToPad_4 : decode cX5_addToPad 4 = .ok (.ifCond .lt 35, 3) := by decide +kernel
theorem dX5_addToPad_7 : decode cX5_addToPad 7 = .ok (.aload_n 0, 1) := by decide +kernel
theorem dX5_addToPad_8 : decode cX5_addToPad 8 = .ok (.getfield 87, 3) := by decide +kernel
theorem dX5_addToPad_11 : decode cX5_addToPad 11 = .ok (.aload_n 0, 1) := by decide +kernel
theorem dX5_addToPad_12 : decode cX5_addToPad 12 = .ok (.getfield 23, 3) := by decide +kernel
theorem dX5_addToPad_15 : decode cX5_addToPad 15 = .ok (.arraylength, 1) := by decide +kernel
theorem dX5_addToPad_16 : decode cX5_addToPad 16 = .ok (.if_icmp .ge 23, 3) := by decide +kernel
theorem dX5_addToPad_19 : decode cX5_addToPad 19 = .ok (.aload_n 0, 1) := by decide +kernel
theorem dX5_addToPad_20 : decode cX5_addToPad 20 = .ok (.getfield 23, 3) := by decide +kernel
theorem dX5_addToPad_23 : decode cX5_addToPad 23 = .ok (.aload_n 0, 1) := by decide +kernel
theorem dX5_addToPad_24 : decode cX5_addToPad 24 = .ok (.getfield 87, 3) := by decide +kernel
theorem dX5_addToPad_27 : decode cX5_addToPad 27 = .ok (.iload_n 1, 1) := by decide +kernel
theorem dX5_addToPad_28 : decode cX5_addToPad 28 = .ok (.castore, 1) := by decide +kernel
theorem dX5_addToPad_29 : decode cX5_addToPad 29 = .ok (.aload_n 0, 1) := by decide +kernel
theorem dX5_addToPad_30 : decode cX5_addToPad 30 = .ok (.dup, 1) := by decide +kernel
theorem dX5_addToPad_31 : decode cX5_addToPad 31 = .ok (.getfield 87, 3) := by decide +kernel
theorem dX5_addToPad_34 : decode cX5_addToPad 34 = .ok (.iconst 1, 1) := by decide +kernel
theorem dX5_addToPad_35 : decode cX5_addToPad 35 = .ok (.iadd, 1) := by decide +kernel
theorem dX5_addToPad_36 : decode cX5_addToPad 36 = .ok (.putfield 87, 3) := by decide +kernel
theorem dX5_addToPad_39 : decode cX5_addToPad 39 = .ok (.return_, 1) := by decide +kernel
theorem dX5_within_0 : decode cX5_within 0 = .ok (.lload_n 0, 1) := by decide +kernel
theorem dX5_within_1 : decode cX5_within 1 = .ok (.lload_n 2, 1) := by decide +kernel
theorem dX5_within_2 : decode cX5_within 2 = .ok (.lcmp, 1) := by decide +kernel
theorem dX5_within_3 : decode cX5_within 3 = .ok (.ifCond .lt 14, 3) := by decide +kernel
theorem dX5_within_6 : decode cX5_within 6 = .ok (.lload_n 0, 1) := by decide +kernel
theorem dX5_within_7 : decode cX5_within 7 = .ok (.lload 4, 2) := by decide +kernel
theorem dX5_within_9 : decode cX5_within 9 = .ok (.lcmp, 1) := by decide +kernel
theorem dX5_within_10 : decode cX5_within 10 = .ok (.ifCond .gt 7, 3) := by decide +kernel
theorem dX5_within_13 : decode cX5_within 13 = .ok (.iconst 1, 1) := by decide +kernel
theorem dX5_within_14 : decode cX5_within 14 = .ok (.goto 4, 3) := by decide +kernel
theorem dX5_within_17 : decode cX5_within 17 = .ok (.iconst 0, 1) := by decide +kernel
theorem dX5_within_18 : decode cX5_within 18 = .ok (.ireturn, 1) := by decide +kernel
theorem dX5_comparable_0 : decode cX5_comparable 0 = .ok (.iload_n 0, 1) := by decide +kernel
theorem dX5_comparable_1 : decode cX5_comparable 1 = .ok (.i2l, 1) := by decide +kernel
theorem dX5_comparable_2 : decode cX5_comparable 2 = .ok (.lconst 0, 1) := by decide +kernel
theorem dX5_comparable_3 : decode cX5_comparable 3 = .ok (.ldc2_w 246, 3) := by decide +kernel
theorem dX5_comparable_6 : decode cX5_comparable 6 = .ok (.invokestatic 48, 3) := by decide +kernel
theorem dX5_comparable_9 : decode cX5_comparable 9 = .ok (.ireturn, 1) := by decide +kernel
theorem dX5_power_0 : decode cX5_power 0 = .ok (.iload_n 2, 1) := by decide +kernel
theorem dX5_power_1 : decode cX5_power 1 = .ok (.iconst 3, 1) := by decide +kernel
theorem dX5_power_2 : decode cX5_power 2 = .ok (.if_icmp .ne 11, 3) := by decide +kernel
theorem dX5_power_5 : decode cX5_power 5 = .ok (.lload_n 0, 1) := by decide +kernel
theorem dX5_power_6 : decode cX5_power 6 = .ok (.lload_n 0, 1) := by decide +kernel
theorem dX5_power_7 : decode cX5_power 7 = .ok (.lmul, 1) := by decide +kernel
theorem dX5_power_8 : decode cX5_power 8 = .ok (.lload_n 0, 1) := by decide +kernel
theorem dX5_power_9 : decode cX5_power 9 = .ok (.lmul, 1) := by decide +kernel
theorem dX5_power_10 : decode cX5_power 10 = .ok (.goto 6, 3) := by decide +kernel
theorem dX5_power_13 : decode cX5_power 13 = .ok (.lload_n 0, 1) := by decide +kernel
theorem dX5_power_14 : decode cX5_power 14 = .ok (.lload_n 0, 1) := by decide +kernel
theorem dX5_power_15 : decode cX5_power 15 = .ok (.lmul, 1) := by decide +kernel
theorem dX5_power_16 : decode cX5_power 16 = .ok (.lreturn, 1) := by decide +kernel
theorem dX5_firstBit_0 : decode cX5_firstBit 0 = .ok (.lload_n 0, 1) := by decide +kernel
theorem dX5_firstBit_1 : decode cX5_firstBit 1 = .ok (.lconst 1, 1) := by decide +kernel
theorem dX5_firstBit_2 : decode cX5_firstBit 2 = .ok (.lcmp, 1) := by decide +kernel
theorem dX5_firstBit_3 : decode cX5_firstBit 3 = .ok (.ifCond .ge 5, 3) := by decide +kernel
theorem dX5_firstBit_6 : decode cX5_firstBit 6 = .ok (.lconst 0, 1) := by decide +kernel
theorem dX5_firstBit_7 : decode cX5_firstBit 7 = .ok (.lreturn, 1) := by decide +kernel
theorem dX5_firstBit_8 : decode cX5_firstBit 8 = .ok (.lconst 1, 1) := by decide +kernel
theorem dX5_firstBit_9 : decode cX5_firstBit 9 = .ok (.lstore_n 3, 1) := by decide +kernel
theorem dX5_firstBit_10 : decode cX5_firstBit 10 = .ok (.lload_n 3, 1) := by decide +kernel
theorem dX5_firstBit_11 : decode cX5_firstBit 11 = .ok (.ldc2_w 248, 3) := by decide +kernel
theorem dX5_firstBit_14 : decode cX5_firstBit 14 = .ok (.lcmp, 1) := by decide +kernel
theorem dX5_firstBit_15 : decode cX5_firstBit 15 = .ok (.ifCond .ge 26, 3) := by decide +kernel
theorem dX5_firstBit_18 : decode cX5_firstBit 18 = .ok (.ldc2_w 52, 3) := by decide +kernel
theorem dX5_firstBit_21 : decode cX5_firstBit 21 = .ok (.lload_n 3, 1) := by decide +kernel
theorem dX5_firstBit_22 : decode cX5_firstBit 22 = .ok (.lmul, 1) := by decide +kernel
theorem dX5_firstBit_23 : decode cX5_firstBit 23 = .ok (.iload_n 2, 1) := by decide +kernel
theorem dX5_firstBit_24 : decode cX5_firstBit 24 = .ok (.invokestatic 171, 3) := by decide +kernel
theorem dX5_firstBit_27 : decode cX5_firstBit 27 = .ok (.lload_n 0, 1) := by decide +kernel
theorem dX5_firstBit_28 : decode cX5_firstBit 28 = .ok (.lcmp, 1) := by decide +kernel
theorem dX5_firstBit_29 : decode cX5_firstBit 29 = .ok (.ifCond .gt 12, 3) := by decide +kernel
theorem dX5_firstBit_32 : decode cX5_firstBit 32 = .ok (.lload_n 3, 1) := by decide +kernel
theorem dX5_firstBit_33 : decode cX5_firstBit 33 = .ok (.ldc2_w 52, 3) := by decide +kernel
theorem dX5_firstBit_36 : decode cX5_firstBit 36 = .ok (.lmul, 1) := by decide +kernel
theorem dX5_firstBit_37 : decode cX5_firstBit 37 = .ok (.lstore_n 3, 1) := by decide +kernel
theorem dX5_firstBit_38 : decode cX5_firstBit 38 = .ok (.goto (-28), 3) := by decide +kernel
theorem dX5_firstBit_41 : decode cX5_firstBit 41 = .ok (.lload_n 3, 1) := by decide +kernel
theorem dX5_firstBit_42 : decode cX5_firstBit 42 = .ok (.lreturn, 1) := by decide +kernel
theorem dX5_rootDown_0 : decode cX5_rootDown 0 = .ok (.lconst 0, 1) := by decide +kernel
theorem dX5_rootDown_1 : decode cX5_rootDown 1 = .ok (.lstore_n 3, 1) := by decide +kernel
theorem dX5_rootDown_2 : decode cX5_rootDown 2 = .ok (.lload_n 0, 1) := by decide +kernel
theorem dX5_rootDown_3 : decode cX5_rootDown 3 = .ok (.iload_n 2, 1) := by decide +kernel
theorem dX5_rootDown_4 : decode cX5_rootDown 4 = .ok (.invokestatic 250, 3) := by decide +kernel
theorem dX5_rootDown_7 : decode cX5_rootDown 7 = .ok (.lstore 5, 2) := by decide +kernel
theorem dX5_rootDown_9 : decode cX5_rootDown 9 = .ok (.lload 5, 2) := by decide +kernel
theorem dX5_rootDown_11 : decode cX5_rootDown 11 = .ok (.lconst 0, 1) := by decide +kernel
theorem dX5_rootDown_12 : decode cX5_rootDown 12 = .ok (.lcmp, 1) := by decide +kernel
theorem dX5_rootDown_13 : decode cX5_rootDown 13 = .ok (.ifCond .le 32, 3) := by decide +kernel
theorem dX5_rootDown_16 : decode cX5_rootDown 16 = .ok (.lload_n 3, 1) := by decide +kernel
theorem dX5_rootDown_17 : decode cX5_rootDown 17 = .ok (.lload 5, 2) := by decide +kernel
theorem dX5_rootDown_19 : decode cX5_rootDown 19 = .ok (.ladd, 1) := by decide +kernel
theorem dX5_rootDown_20 : decode cX5_rootDown 20 = .ok (.iload_n 2, 1) := by decide +kernel
theorem dX5_rootDown_21 : decode cX5_rootDown 21 = .ok (.invokestatic 171, 3) := by decide +kernel
theorem dX5_rootDown_24 : decode cX5_rootDown 24 = .ok (.lload_n 0, 1) := by decide +kernel
theorem dX5_rootDown_25 : decode cX5_rootDown 25 = .ok (.lcmp, 1) := by decide +kernel
theorem dX5_rootDown_26 : decode cX5_rootDown 26 = .ok (.ifCond .gt 8, 3) := by decide +kernel
theorem dX5_rootDown_29 : decode cX5_rootDown 29 = .ok (.lload_n 3, 1) := by decide +kernel
theorem dX5_rootDown_30 : decode cX5_rootDown 30 = .ok (.lload 5, 2) := by decide +kernel
theorem dX5_rootDown_32 : decode cX5_rootDown 32 = .ok (.ladd, 1) := by decide +kernel
theorem dX5_rootDown_33 : decode cX5_rootDown 33 = .ok (.lstore_n 3, 1) := by decide +kernel
theorem dX5_rootDown_34 : decode cX5_rootDown 34 = .ok (.lload 5, 2) := by decide +kernel
theorem dX5_rootDown_36 : decode cX5_rootDown 36 = .ok (.ldc2_w 52, 3) := by decide +kernel
theorem dX5_rootDown_39 : decode cX5_rootDown 39 = .ok (.ldiv, 1) := by decide +kernel
theorem dX5_rootDown_40 : decode cX5_rootDown 40 = .ok (.lstore 5, 2) := by decide +kernel
theorem dX5_rootDown_42 : decode cX5_rootDown 42 = .ok (.goto (-33), 3) := by decide +kernel
theorem dX5_rootDown_45 : decode cX5_rootDown 45 = .ok (.lload_n 3, 1) := by decide +kernel
theorem dX5_rootDown_46 : decode cX5_rootDown 46 = .ok (.lreturn, 1) := by decide +kernel
theorem dX5_rootRounded_0 : decode cX5_rootRounded 0 = .ok (.lload_n 0, 1) := by decide +kernel
theorem dX5_rootRounded_1 : decode cX5_rootRounded 1 = .ok (.iload_n 2, 1) := by decide +kernel
theorem dX5_rootRounded_2 : decode cX5_rootRounded 2 = .ok (.invokestatic 167, 3) := by decide +kernel
theorem dX5_rootRounded_5 : decode cX5_rootRounded 5 = .ok (.lstore 4, 2) := by decide +kernel
theorem dX5_rootRounded_7 : decode cX5_rootRounded 7 = .ok (.lload_n 0, 1) := by decide +kernel
theorem dX5_rootRounded_8 : decode cX5_rootRounded 8 = .ok (.lload 4, 2) := by decide +kernel
theorem dX5_rootRounded_10 : decode cX5_rootRounded 10 = .ok (.iload_n 2, 1) := by decide +kernel
theorem dX5_rootRounded_11 : decode cX5_rootRounded 11 = .ok (.invokestatic 171, 3) := by decide +kernel
theorem dX5_rootRounded_14 : decode cX5_rootRounded 14 = .ok (.lsub, 1) := by decide +kernel
theorem dX5_rootRounded_15 : decode cX5_rootRounded 15 = .ok (.lstore 6, 2) := by decide +kernel
theorem dX5_rootRounded_17 : decode cX5_rootRounded 17 = .ok (.iload_n 3, 1) := by decide +kernel
theorem dX5_rootRounded_18 : decode cX5_rootRounded 18 = .ok (.iconst 2, 1) := by decide +kernel
theorem dX5_rootRounded_19 : decode cX5_rootRounded 19 = .ok (.if_icmp .ne 20, 3) := by decide +kernel
theorem dX5_rootRounded_22 : decode cX5_rootRounded 22 = .ok (.lload 6, 2) := by decide +kernel
theorem dX5_rootRounded_24 : decode cX5_rootRounded 24 = .ok (.lconst 0, 1) := by decide +kernel
theorem dX5_rootRounded_25 : decode cX5_rootRounded 25 = .ok (.lcmp, 1) := by decide +kernel
theorem dX5_rootRounded_26 : decode cX5_rootRounded 26 = .ok (.ifCond .le 10, 3) := by decide +kernel
theorem dX5_rootRounded_29 : decode cX5_rootRounded 29 = .ok (.lload 4, 2) := by decide +kernel
theorem dX5_rootRounded_31 : decode cX5_rootRounded 31 = .ok (.lconst 1, 1) := by decide +kernel
theorem dX5_rootRounded_32 : decode cX5_rootRounded 32 = .ok (.ladd, 1) := by decide +kernel
theorem dX5_rootRounded_33 : decode cX5_rootRounded 33 = .ok (.goto 5, 3) := by decide +kernel
theorem dX5_rootRounded_36 : decode cX5_rootRounded 36 = .ok (.lload 4, 2) := by decide +kernel
theorem dX5_rootRounded_38 : decode cX5_rootRounded 38 = .ok (.lreturn, 1) := by decide +kernel
theorem dX5_rootRounded_39 : decode cX5_rootRounded 39 = .ok (.iload_n 3, 1) := by decide +kernel
theorem dX5_rootRounded_40 : decode cX5_rootRounded 40 = .ok (.iconst 1, 1) := by decide +kernel
theorem dX5_rootRounded_41 : decode cX5_rootRounded 41 = .ok (.if_icmp .ne 67, 3) := by decide +kernel
theorem dX5_rootRounded_44 : decode cX5_rootRounded 44 = .ok (.iload_n 2, 1) := by decide +kernel
theorem dX5_rootRounded_45 : decode cX5_rootRounded 45 = .ok (.iconst 3, 1) := by decide +kernel
theorem dX5_rootRounded_46 : decode cX5_rootRounded 46 = .ok (.if_icmp .ne 32, 3) := by decide +kernel
theorem dX5_rootRounded_49 : decode cX5_rootRounded 49 = .ok (.ldc2_w 253, 3) := by decide +kernel
theorem dX5_rootRounded_52 : decode cX5_rootRounded 52 = .ok (.lload_n 0, 1) := by decide +kernel
theorem dX5_rootRounded_53 : decode cX5_rootRounded 53 = .ok (.lmul, 1) := by decide +kernel
theorem dX5_rootRounded_54 : decode cX5_rootRounded 54 = .ok (.ldc2_w 52, 3) := by decide +kernel
theorem dX5_rootRounded_57 : decode cX5_rootRounded 57 = .ok (.lload 4, 2) := by decide +kernel
theorem dX5_rootRounded_59 : decode cX5_rootRounded 59 = .ok (.lmul, 1) := by decide +kernel
theorem dX5_rootRounded_60 : decode cX5_rootRounded 60 = .ok (.lconst 1, 1) := by decide +kernel
theorem dX5_rootRounded_61 : decode cX5_rootRounded 61 = .ok (.ladd, 1) := by decide +kernel
theorem dX5_rootRounded_62 : decode cX5_rootRounded 62 = .ok (.iconst 3, 1) := by decide +kernel
theorem dX5_rootRounded_63 : decode cX5_rootRounded 63 = .ok (.invokestatic 171, 3) := by decide +kernel
theorem dX5_rootRounded_66 : decode cX5_rootRounded 66 = .ok (.lcmp, 1) := by decide +kernel
theorem dX5_rootRounded_67 : decode cX5_rootRounded 67 = .ok (.ifCond .le 7, 3) := by decide +kernel
theorem dX5_rootRounded_70 : decode cX5_rootRounded 70 = .ok (.iconst 1, 1) := by decide +kernel
theorem dX5_rootRounded_71 : decode cX5_rootRounded 71 = .ok (.goto 20, 3) := by decide +kernel
theorem dX5_rootRounded_74 : decode cX5_rootRounded 74 = .ok (.iconst 0, 1) := by decide +kernel
theorem dX5_rootRounded_75 : decode cX5_rootRounded 75 = .ok (.goto 16, 3) := by decide +kernel
theorem dX5_rootRounded_78 : decode cX5_rootRounded 78 = .ok (.lload 6, 2) := by decide +kernel
theorem dX5_rootRounded_80 : decode cX5_rootRounded 80 = .ok (.lload 4, 2) := by decide +kernel
theorem dX5_rootRounded_82 : decode cX5_rootRounded 82 = .ok (.lcmp, 1) := by decide +kernel
theorem dX5_rootRounded_83 : decode cX5_rootRounded 83 = .ok (.ifCond .le 7, 3) := by decide +kernel
theorem dX5_rootRounded_86 : decode cX5_rootRounded 86 = .ok (.iconst 1, 1) := by decide +kernel
theorem dX5_rootRounded_87 : decode cX5_rootRounded 87 = .ok (.goto 4, 3) := by decide +kernel
theorem dX5_rootRounded_90 : decode cX5_rootRounded 90 = .ok (.iconst 0, 1) := by decide +kernel
theorem dX5_rootRounded_91 : decode cX5_rootRounded 91 = .ok (.istore 8, 2) := by decide +kernel
theorem dX5_rootRounded_93 : decode cX5_rootRounded 93 = .ok (.iload 8, 2) := by decide +kernel
theorem dX5_rootRounded_95 : decode cX5_rootRounded 95 = .ok (.ifCond .eq 10, 3) := by decide +kernel
theorem dX5_rootRounded_98 : decode cX5_rootRounded 98 = .ok (.lload 4, 2) := by decide +kernel
theorem dX5_rootRounded_100 : decode cX5_rootRounded 100 = .ok (.lconst 1, 1) := by decide +kernel
theorem dX5_rootRounded_101 : decode cX5_rootRounded 101 = .ok (.ladd, 1) := by decide +kernel
theorem dX5_rootRounded_102 : decode cX5_rootRounded 102 = .ok (.goto 5, 3) := by decide +kernel
theorem dX5_rootRounded_105 : decode cX5_rootRounded 105 = .ok (.lload 4, 2) := by decide +kernel
theorem dX5_rootRounded_107 : decode cX5_rootRounded 107 = .ok (.lreturn, 1) := by decide +kernel
theorem dX5_rootRounded_108 : decode cX5_rootRounded 108 = .ok (.lload 4, 2) := by decide +kernel
theorem dX5_rootRounded_110 : decode cX5_rootRounded 110 = .ok (.lreturn, 1) := by decide +kernel
theorem dX5_bitsOfRoot_0 : decode cX5_bitsOfRoot 0 = .ok (.iconst 0, 1) := by decide +kernel
theorem dX5_bitsOfRoot_1 : decode cX5_bitsOfRoot 1 = .ok (.istore_n 3, 1) := by decide +kernel
theorem dX5_bitsOfRoot_2 : decode cX5_bitsOfRoot 2 = .ok (.lload_n 0, 1) := by decide +kernel
theorem dX5_bitsOfRoot_3 : decode cX5_bitsOfRoot 3 = .ok (.iload_n 2, 1) := by decide +kernel
theorem dX5_bitsOfRoot_4 : decode cX5_bitsOfRoot 4 = .ok (.invokestatic 250, 3) := by decide +kernel
theorem dX5_bitsOfRoot_7 : decode cX5_bitsOfRoot 7 = .ok (.lstore 4, 2) := by decide +kernel
theorem dX5_bitsOfRoot_9 : decode cX5_bitsOfRoot 9 = .ok (.lload 4, 2) := by decide +kernel
theorem dX5_bitsOfRoot_11 : decode cX5_bitsOfRoot 11 = .ok (.lconst 0, 1) := by decide +kernel
theorem dX5_bitsOfRoot_12 : decode cX5_bitsOfRoot 12 = .ok (.lcmp, 1) := by decide +kernel
theorem dX5_bitsOfRoot_13 : decode cX5_bitsOfRoot 13 = .ok (.ifCond .le 17, 3) := by decide +kernel
theorem dX5_bitsOfRoot_16 : decode cX5_bitsOfRoot 16 = .ok (.iinc 3 1, 3) := by decide +kernel
theorem dX5_bitsOfRoot_19 : decode cX5_bitsOfRoot 19 = .ok (.lload 4, 2) := by decide +kernel
theorem dX5_bitsOfRoot_21 : decode cX5_bitsOfRoot 21 = .ok (.ldc2_w 52, 3) := by decide +kernel
theorem dX5_bitsOfRoot_24 : decode cX5_bitsOfRoot 24 = .ok (.ldiv, 1) := by decide +kernel
theorem dX5_bitsOfRoot_25 : decode cX5_bitsOfRoot 25 = .ok (.lstore 4, 2) := by decide +kernel
theorem dX5_bitsOfRoot_27 : decode cX5_bitsOfRoot 27 = .ok (.goto (-18), 3) := by decide +kernel
theorem dX5_bitsOfRoot_30 : decode cX5_bitsOfRoot 30 = .ok (.iload_n 3, 1) := by decide +kernel
theorem dX5_bitsOfRoot_31 : decode cX5_bitsOfRoot 31 = .ok (.ireturn, 1) := by decide +kernel
theorem dX5_behindBit_0 : decode cX5_behindBit 0 = .ok (.lconst 0, 1) := by decide +kernel
theorem dX5_behindBit_1 : decode cX5_behindBit 1 = .ok (.lstore 5, 2) := by decide +kernel
theorem dX5_behindBit_3 : decode cX5_behindBit 3 = .ok (.iconst 0, 1) := by decide +kernel
theorem dX5_behindBit_4 : decode cX5_behindBit 4 = .ok (.istore 7, 2) := by decide +kernel
theorem dX5_behindBit_6 : decode cX5_behindBit 6 = .ok (.lload_n 0, 1) := by decide +kernel
theorem dX5_behindBit_7 : decode cX5_behindBit 7 = .ok (.iload_n 2, 1) := by decide +kernel
theorem dX5_behindBit_8 : decode cX5_behindBit 8 = .ok (.invokestatic 250, 3) := by decide +kernel
theorem dX5_behindBit_11 : decode cX5_behindBit 11 = .ok (.lstore 8, 2) := by decide +kernel
theorem dX5_behindBit_13 : decode cX5_behindBit 13 = .ok (.lload 8, 2) := by decide +kernel
theorem dX5_behindBit_15 : decode cX5_behindBit 15 = .ok (.lconst 0, 1) := by decide +kernel
theorem dX5_behindBit_16 : decode cX5_behindBit 16 = .ok (.lcmp, 1) := by decide +kernel
theorem dX5_behindBit_17 : decode cX5_behindBit 17 = .ok (.ifCond .le 111, 3) := by decide +kernel
theorem dX5_behindBit_20 : decode cX5_behindBit 20 = .ok (.lload 5, 2) := by decide +kernel
theorem dX5_behindBit_22 : decode cX5_behindBit 22 = .ok (.lload 8, 2) := by decide +kernel
theorem dX5_behindBit_24 : decode cX5_behindBit 24 = .ok (.ladd, 1) := by decide +kernel
theorem dX5_behindBit_25 : decode cX5_behindBit 25 = .ok (.iload_n 2, 1) := by decide +kernel
theorem dX5_behindBit_26 : decode cX5_behindBit 26 = .ok (.invokestatic 171, 3) := by decide +kernel
theorem dX5_behindBit_29 : decode cX5_behindBit 29 = .ok (.lload_n 0, 1) := by decide +kernel
theorem dX5_behindBit_30 : decode cX5_behindBit 30 = .ok (.lcmp, 1) := by decide +kernel
theorem dX5_behindBit_31 : decode cX5_behindBit 31 = .ok (.ifCond .gt 7, 3) := by decide +kernel
theorem dX5_behindBit_34 : decode cX5_behindBit 34 = .ok (.iconst 1, 1) := by decide +kernel
theorem dX5_behindBit_35 : decode cX5_behindBit 35 = .ok (.goto 4, 3) := by decide +kernel
theorem dX5_behindBit_38 : decode cX5_behindBit 38 = .ok (.iconst 0, 1) := by decide +kernel
theorem dX5_behindBit_39 : decode cX5_behindBit 39 = .ok (.istore 10, 2) := by decide +kernel
theorem dX5_behindBit_41 : decode cX5_behindBit 41 = .ok (.iload 10, 2) := by decide +kernel
theorem dX5_behindBit_43 : decode cX5_behindBit 43 = .ok (.ifCond .eq 10, 3) := by decide +kernel
theorem dX5_behindBit_46 : decode cX5_behindBit 46 = .ok (.lload 5, 2) := by decide +kernel
theorem dX5_behindBit_48 : decode cX5_behindBit 48 = .ok (.lload 8, 2) := by decide +kernel
theorem dX5_behindBit_50 : decode cX5_behindBit 50 = .ok (.ladd, 1) := by decide +kernel
theorem dX5_behindBit_51 : decode cX5_behindBit 51 = .ok (.lstore 5, 2) := by decide +kernel
theorem dX5_behindBit_53 : decode cX5_behindBit 53 = .ok (.iload 7, 2) := by decide +kernel
theorem dX5_behindBit_55 : decode cX5_behindBit 55 = .ok (.iload_n 3, 1) := by decide +kernel
theorem dX5_behindBit_56 : decode cX5_behindBit 56 = .ok (.if_icmp .ne 58, 3) := by decide +kernel
theorem dX5_behindBit_59 : decode cX5_behindBit 59 = .ok (.iload 4, 2) := by decide +kernel
theorem dX5_behindBit_61 : decode cX5_behindBit 61 = .ok (.tableswitch 44 0 2 #[27, 30, 41], 27) := by decide +kernel
theorem dX5_behindBit_88 : decode cX5_behindBit 88 = .ok (.lload 8, 2) := by decide +kernel
theorem dX5_behindBit_90 : decode cX5_behindBit 90 = .ok (.lreturn, 1) := by decide +kernel
theorem dX5_behindBit_91 : decode cX5_behindBit 91 = .ok (.iload 10, 2) := by decide +kernel
theorem dX5_behindBit_93 : decode cX5_behindBit 93 = .ok (.ifCond .eq 7, 3) := by decide +kernel
theorem dX5_behindBit_96 : decode cX5_behindBit 96 = .ok (.lconst 1, 1) := by decide +kernel
theorem dX5_behindBit_97 : decode cX5_behindBit 97 = .ok (.goto 4, 3) := by decide +kernel
theorem dX5_behindBit_100 : decode cX5_behindBit 100 = .ok (.lconst 0, 1) := by decide +kernel
theorem dX5_behindBit_101 : decode cX5_behindBit 101 = .ok (.lreturn, 1) := by decide +kernel
theorem dX5_behindBit_102 : decode cX5_behindBit 102 = .ok (.lload 5, 2) := by decide +kernel
theorem dX5_behindBit_104 : decode cX5_behindBit 104 = .ok (.lreturn, 1) := by decide +kernel
theorem dX5_behindBit_105 : decode cX5_behindBit 105 = .ok (.lload_n 0, 1) := by decide +kernel
theorem dX5_behindBit_106 : decode cX5_behindBit 106 = .ok (.lload 5, 2) := by decide +kernel
theorem dX5_behindBit_108 : decode cX5_behindBit 108 = .ok (.iload_n 2, 1) := by decide +kernel
theorem dX5_behindBit_109 : decode cX5_behindBit 109 = .ok (.invokestatic 171, 3) := by decide +kernel
theorem dX5_behindBit_112 : decode cX5_behindBit 112 = .ok (.lsub, 1) := by decide +kernel
theorem dX5_behindBit_113 : decode cX5_behindBit 113 = .ok (.lreturn, 1) := by decide +kernel
theorem dX5_behindBit_114 : decode cX5_behindBit 114 = .ok (.iinc 7 1, 3) := by decide +kernel
theorem dX5_behindBit_117 : decode cX5_behindBit 117 = .ok (.lload 8, 2) := by decide +kernel
theorem dX5_behindBit_119 : decode cX5_behindBit 119 = .ok (.ldc2_w 52, 3) := by decide +kernel
theorem dX5_behindBit_122 : decode cX5_behindBit 122 = .ok (.ldiv, 1) := by decide +kernel
theorem dX5_behindBit_123 : decode cX5_behindBit 123 = .ok (.lstore 8, 2) := by decide +kernel
theorem dX5_behindBit_125 : decode cX5_behindBit 125 = .ok (.goto (-112), 3) := by decide +kernel
theorem dX5_behindBit_128 : decode cX5_behindBit 128 = .ok (.ldc2_w 213, 3) := by decide +kernel
theorem dX5_behindBit_131 : decode cX5_behindBit 131 = .ok (.lreturn, 1) := by decide +kernel
theorem dX5_signOfRoots_0 : decode cX5_signOfRoots 0 = .ok (.lload 4, 2) := by decide +kernel
theorem dX5_signOfRoots_2 : decode cX5_signOfRoots 2 = .ok (.lconst 0, 1) := by decide +kernel
theorem dX5_signOfRoots_3 : decode cX5_signOfRoots 3 = .ok (.lcmp, 1) := by decide +kernel
theorem dX5_signOfRoots_4 : decode cX5_signOfRoots 4 = .ok (.ifCond .ge 13, 3) := by decide +kernel
theorem dX5_signOfRoots_7 : decode cX5_signOfRoots 7 = .ok (.lload_n 2, 1) := by decide +kernel
theorem dX5_signOfRoots_8 : decode cX5_signOfRoots 8 = .ok (.lload_n 0, 1) := by decide +kernel
theorem dX5_signOfRoots_9 : decode cX5_signOfRoots 9 = .ok (.lload 4, 2) := by decide +kernel
theorem dX5_signOfRoots_11 : decode cX5_signOfRoots 11 = .ok (.lneg, 1) := by decide +kernel
theorem dX5_signOfRoots_12 : decode cX5_signOfRoots 12 = .ok (.invokestatic 255, 3) := by decide +kernel
theorem dX5_signOfRoots_15 : decode cX5_signOfRoots 15 = .ok (.ineg, 1) := by decide +kernel
theorem dX5_signOfRoots_16 : decode cX5_signOfRoots 16 = .ok (.ireturn, 1) := by decide +kernel
theorem dX5_signOfRoots_17 : decode cX5_signOfRoots 17 = .ok (.lload_n 0, 1) := by decide +kernel
theorem dX5_signOfRoots_18 : decode cX5_signOfRoots 18 = .ok (.lload_n 2, 1) := by decide +kernel
theorem dX5_signOfRoots_19 : decode cX5_signOfRoots 19 = .ok (.lload 4, 2) := by decide +kernel
theorem dX5_signOfRoots_21 : decode cX5_signOfRoots 21 = .ok (.invokestatic 255, 3) := by decide +kernel
theorem dX5_signOfRoots_24 : decode cX5_signOfRoots 24 = .ok (.ireturn, 1) := by decide +kernel
theorem dX5_signOfRootsAgainst_0 : decode cX5_signOfRootsAgainst 0 = .ok (.lload_n 0, 1) := by decide +kernel
theorem dX5_signOfRootsAgainst_1 : decode cX5_signOfRootsAgainst 1 = .ok (.lload_n 2, 1) := by decide +kernel
theorem dX5_signOfRootsAgainst_2 : decode cX5_signOfRootsAgainst 2 = .ok (.lsub, 1) := by decide +kernel
theorem dX5_signOfRootsAgainst_3 : decode cX5_signOfRootsAgainst 3 = .ok (.lload 4, 2) := by decide +kernel
theorem dX5_signOfRootsAgainst_5 : decode cX5_signOfRootsAgainst 5 = .ok (.lload 4, 2) := by decide +kernel
theorem dX5_signOfRootsAgainst_7 : decode cX5_signOfRootsAgainst 7 = .ok (.lmul, 1) := by decide +kernel
theorem dX5_signOfRootsAgainst_8 : decode cX5_signOfRootsAgainst 8 = .ok (.lsub, 1) := by decide +kernel
theorem dX5_signOfRootsAgainst_9 : decode cX5_signOfRootsAgainst 9 = .ok (.lstore 6, 2) := by decide +kernel
theorem dX5_signOfRootsAgainst_11 : decode cX5_signOfRootsAgainst 11 = .ok (.lload 6, 2) := by decide +kernel
theorem dX5_signOfRootsAgainst_13 : decode cX5_signOfRootsAgainst 13 = .ok (.lconst 0, 1) := by decide +kernel
theorem dX5_signOfRootsAgainst_14 : decode cX5_signOfRootsAgainst 14 = .ok (.lcmp, 1) := by decide +kernel
theorem dX5_signOfRootsAgainst_15 : decode cX5_signOfRootsAgainst 15 = .ok (.ifCond .ge 5, 3) := by decide +kernel
theorem dX5_signOfRootsAgainst_18 : decode cX5_signOfRootsAgainst 18 = .ok (.iconst (-1), 1) := by decide +kernel
theorem dX5_signOfRootsAgainst_19 : decode cX5_signOfRootsAgainst 19 = .ok (.ireturn, 1) := by decide +kernel
theorem dX5_signOfRootsAgainst_20 : decode cX5_signOfRootsAgainst 20 = .ok (.lload 6, 2) := by decide +kernel
theorem dX5_signOfRootsAgainst_22 : decode cX5_signOfRootsAgainst 22 = .ok (.lload 6, 2) := by decide +kernel
theorem dX5_signOfRootsAgainst_24 : decode cX5_signOfRootsAgainst 24 = .ok (.lmul, 1) := by decide +kernel
theorem dX5_signOfRootsAgainst_25 : decode cX5_signOfRootsAgainst 25 = .ok (.ldc2_w 188, 3) := by decide +kernel
theorem dX5_signOfRootsAgainst_28 : decode cX5_signOfRootsAgainst 28 = .ok (.lload 4, 2) := by decide +kernel
theorem dX5_signOfRootsAgainst_30 : decode cX5_signOfRootsAgainst 30 = .ok (.lmul, 1) := by decide +kernel
theorem dX5_signOfRootsAgainst_31 : decode cX5_signOfRootsAgainst 31 = .ok (.lload 4, 2) := by decide +kernel
theorem dX5_signOfRootsAgainst_33 : decode cX5_signOfRootsAgainst 33 = .ok (.lmul, 1) := by decide +kernel
theorem dX5_signOfRootsAgainst_34 : decode cX5_signOfRootsAgainst 34 = .ok (.lload_n 2, 1) := by decide +kernel
theorem dX5_signOfRootsAgainst_35 : decode cX5_signOfRootsAgainst 35 = .ok (.lmul, 1) := by decide +kernel
theorem dX5_signOfRootsAgainst_36 : decode cX5_signOfRootsAgainst 36 = .ok (.invokestatic 258, 3) := by decide +kernel
theorem dX5_signOfRootsAgainst_39 : decode cX5_signOfRootsAgainst 39 = .ok (.ireturn, 1) := by decide +kernel
theorem dX5_powersBelow_0 : decode cX5_powersBelow 0 = .ok (.lload_n 0, 1) := by decide +kernel
theorem dX5_powersBelow_1 : decode cX5_powersBelow 1 = .ok (.lconst 1, 1) := by decide +kernel
theorem dX5_powersBelow_2 : decode cX5_powersBelow 2 = .ok (.lcmp, 1) := by decide +kernel
theorem dX5_powersBelow_3 : decode cX5_powersBelow 3 = .ok (.ifCond .ge 5, 3) := by decide +kernel
theorem dX5_powersBelow_6 : decode cX5_powersBelow 6 = .ok (.lconst 0, 1) := by decide +kernel
theorem dX5_powersBelow_7 : decode cX5_powersBelow 7 = .ok (.lreturn, 1) := by decide +kernel
theorem dX5_powersBelow_8 : decode cX5_powersBelow 8 = .ok (.lload_n 0, 1) := by decide +kernel
theorem dX5_powersBelow_9 : decode cX5_powersBelow 9 = .ok (.lconst 1, 1) := by decide +kernel
theorem dX5_powersBelow_10 : decode cX5_powersBelow 10 = .ok (.lsub, 1) := by decide +kernel
theorem dX5_powersBelow_11 : decode cX5_powersBelow 11 = .ok (.iconst 2, 1) := by decide +kernel
theorem dX5_powersBelow_12 : decode cX5_powersBelow 12 = .ok (.invokestatic 167, 3) := by decide +kernel
theorem dX5_powersBelow_15 : decode cX5_powersBelow 15 = .ok (.lstore_n 2, 1) := by decide +kernel
theorem dX5_powersBelow_16 : decode cX5_powersBelow 16 = .ok (.lload_n 2, 1) := by decide +kernel
theorem dX5_powersBelow_17 : decode cX5_powersBelow 17 = .ok (.lload_n 0, 1) := by decide +kernel
theorem dX5_powersBelow_18 : decode cX5_powersBelow 18 = .ok (.lconst 1, 1) := by decide +kernel
theorem dX5_powersBelow_19 : decode cX5_powersBelow 19 = .ok (.lsub, 1) := by decide +kernel
theorem dX5_powersBelow_20 : decode cX5_powersBelow 20 = .ok (.iconst 3, 1) := by decide +kernel
theorem dX5_powersBelow_21 : decode cX5_powersBelow 21 = .ok (.invokestatic 167, 3) := by decide +kernel
theorem dX5_powersBelow_24 : decode cX5_powersBelow 24 = .ok (.ladd, 1) := by decide +kernel
theorem dX5_powersBelow_25 : decode cX5_powersBelow 25 = .ok (.lload_n 2, 1) := by decide +kernel
theorem dX5_powersBelow_26 : decode cX5_powersBelow 26 = .ok (.iconst 3, 1) := by decide +kernel
theorem dX5_powersBelow_27 : decode cX5_powersBelow 27 = .ok (.invokestatic 167, 3) := by decide +kernel
theorem dX5_powersBelow_30 : decode cX5_powersBelow 30 = .ok (.lsub, 1) := by decide +kernel
theorem dX5_powersBelow_31 : decode cX5_powersBelow 31 = .ok (.lconst 1, 1) := by decide +kernel
theorem dX5_powersBelow_32 : decode cX5_powersBelow 32 = .ok (.ladd, 1) := by decide +kernel
theorem dX5_powersBelow_33 : decode cX5_powersBelow 33 = .ok (.lreturn, 1) := by decide +kernel
end
section
theorem dX6_init_0 : decode cX6_init 0 = .ok (.aload_n 0, 1) := by decide +kernel
theorem dX6_init_1 : decode cX6_init 1 = .ok (.invokespecial 1, 3) := by decide +kernel
theorem dX6_init_4 : decode cX6_init 4 = .ok (.aload_n 0, 1) := by decide +kernel
theorem dX6_init_5 : decode cX6_init 5 = .ok (.sipush 728, 3) := by decide +kernel
theorem dX6_init_8 : decode cX6_init 8 = .ok (.newarray .int, 2) := by decide +kernel
theorem dX6_init_10 : decode cX6_init 10 = .ok (.putfield 7, 3) := by decide +kernel
theorem dX6_init_13 : decode cX6_init 13 = .ok (.aload_n 0, 1) := by decide +kernel
theorem dX6_init_14 : decode cX6_init 14 = .ok (.bipush 8, 2) := by decide +kernel
theorem dX6_init_16 : decode cX6_init 16 = .ok (.newarray .long, 2) := by decide +kernel
theorem dX6_init_18 : decode cX6_init 18 = .ok (.putfield 13, 3) := by decide +kernel
theorem dX6_init_21 : decode cX6_init 21 = .ok (.aload_n 0, 1) := by decide +kernel
theorem dX6_init_22 : decode cX6_init 22 = .ok (.sipush 4368, 3) := by decide +kernel
theorem dX6_init_25 : decode cX6_init 25 = .ok (.newarray .int, 2) := by decide +kernel
theorem dX6_init_27 : decode cX6_init 27 = .ok (.putfield 17, 3) := by decide +kernel
theorem dX6_init_30 : decode cX6_init 30 = .ok (.aload_n 0, 1) := by decide +kernel
theorem dX6_init_31 : decode cX6_init 31 = .ok (.bipush 48, 2) := by decide +kernel
theorem dX6_init_33 : decode cX6_init 33 = .ok (.newarray .long, 2) := by decide +kernel
theorem dX6_init_35 : decode cX6_init 35 = .ok (.putfield 20, 3) := by decide +kernel
theorem dX6_init_38 : decode cX6_init 38 = .ok (.aload_n 0, 1) := by decide +kernel
theorem dX6_init_39 : decode cX6_init 39 = .ok (.sipush 1456, 3) := by decide +kernel
theorem dX6_init_42 : decode cX6_init 42 = .ok (.newarray .int, 2) := by decide +kernel
theorem dX6_init_44 : decode cX6_init 44 = .ok (.putfield 23, 3) := by decide +kernel
theorem dX6_init_47 : decode cX6_init 47 = .ok (.aload_n 0, 1) := by decide +kernel
theorem dX6_init_48 : decode cX6_init 48 = .ok (.bipush 16, 2) := by decide +kernel
theorem dX6_init_50 : decode cX6_init 50 = .ok (.newarray .long, 2) := by decide +kernel
theorem dX6_init_52 : decode cX6_init 52 = .ok (.putfield 26, 3) := by decide +kernel
theorem dX6_init_55 : decode cX6_init 55 = .ok (.aload_n 0, 1) := by decide +kernel
theorem dX6_init_56 : decode cX6_init 56 = .ok (.iconst 2, 1) := by decide +kernel
theorem dX6_init_57 : decode cX6_init 57 = .ok (.newarray .boolean, 2) := by decide +kernel
theorem dX6_init_59 : decode cX6_init 59 = .ok (.putfield 29, 3) := by decide +kernel
theorem dX6_init_62 : decode cX6_init 62 = .ok (.aload_n 0, 1) := by decide +kernel
theorem dX6_init_63 : decode cX6_init 63 = .ok (.bipush 60, 2) := by decide +kernel
theorem dX6_init_65 : decode cX6_init 65 = .ok (.newarray .int, 2) := by decide +kernel
theorem dX6_init_67 : decode cX6_init 67 = .ok (.putfield 33, 3) := by decide +kernel
theorem dX6_init_70 : decode cX6_init 70 = .ok (.aload_n 0, 1) := by decide +kernel
theorem dX6_init_71 : decode cX6_init 71 = .ok (.bipush 60, 2) := by decide +kernel
theorem dX6_init_73 : decode cX6_init 73 = .ok (.newarray .int, 2) := by decide +kernel
theorem dX6_init_75 : decode cX6_init 75 = .ok (.putfield 36, 3) := by decide +kernel
theorem dX6_init_78 : decode cX6_init 78 = .ok (.aload_n 0, 1) := by decide +kernel
theorem dX6_init_79 : decode cX6_init 79 = .ok (.bipush 60, 2) := by decide +kernel
theorem dX6_init_81 : decode cX6_init 81 = .ok (.newarray .int, 2) := by decide +kernel
theorem dX6_init_83 : decode cX6_init 83 = .ok (.putfield 39, 3) := by decide +kernel
theorem dX6_init_86 : decode cX6_init 86 = .ok (.aload_n 0, 1) := by decide +kernel
theorem dX6_init_87 : decode cX6_init 87 = .ok (.bipush 61, 2) := by decide +kernel
theorem dX6_init_89 : decode cX6_init 89 = .ok (.newarray .int, 2) := by decide +kernel
theorem dX6_init_91 : decode cX6_init 91 = .ok (.putfield 42, 3) := by decide +kernel
theorem dX6_init_94 : decode cX6_init 94 = .ok (.aload_n 0, 1) := by decide +kernel
theorem dX6_init_95 : decode cX6_init 95 = .ok (.bipush 60, 2) := by decide +kernel
theorem dX6_init_97 : decode cX6_init 97 = .ok (.newarray .long, 2) := by decide +kernel
theorem dX6_init_99 : decode cX6_init 99 = .ok (.putfield 45, 3) := by decide +kernel
theorem dX6_init_102 : decode cX6_init 102 = .ok (.aload_n 0, 1) := by decide +kernel
theorem dX6_init_103 : decode cX6_init 103 = .ok (.bipush 60, 2) := by decide +kernel
theorem dX6_init_105 : decode cX6_init 105 = .ok (.newarray .long, 2) := by decide +kernel
theorem dX6_init_107 : decode cX6_init 107 = .ok (.putfield 48, 3) := by decide +kernel
theorem dX6_init_110 : decode cX6_init 110 = .ok (.aload_n 0, 1) := by decide +kernel
theorem dX6_init_111 : decode cX6_init 111 = .ok (.getfield 7, 3) := by decide +kernel
theorem dX6_init_114 : decode cX6_init 114 = .ok (.iconst 1, 1) := by decide +kernel
theorem dX6_init_115 : decode cX6_init 115 = .ok (.iconst 3, 1) := by decide +kernel
theorem dX6_init_116 : decode cX6_init 116 = .ok (.iastore, 1) := by decide +kernel
theorem dX6_init_117 : decode cX6_init 117 = .ok (.return_, 1) := by decide +kernel
theorem dX6_in_0 : decode cX6_in 0 = .ok (.iload_n 0, 1) := by decide +kernel
theorem dX6_in_1 : decode cX6_in 1 = .ok (.iload_n 1, 1) := by decide +kernel
theorem dX6_in_2 : decode cX6_in 2 = .ok (.if_icmp .lt 12, 3) := by decide +kernel
theorem dX6_in_5 : decode cX6_in 5 = .ok (.iload_n 0, 1) := by decide +kernel
theorem dX6_in_6 : decode cX6_in 6 = .ok (.iload_n 2, 1) := by decide +kernel
theorem dX6_in_7 : decode cX6_in 7 = .ok (.if_icmp .gt 7, 3) := by decide +kernel
theorem dX6_in_10 : decode cX6_in 10 = .ok (.iconst 1, 1) := by decide +kernel
theorem dX6_in_11 : decode cX6_in 11 = .ok (.goto 4, 3) := by decide +kernel
theorem dX6_in_14 : decode cX6_in 14 = .ok (.iconst 0, 1) := by decide +kernel
theorem dX6_in_15 : decode cX6_in 15 = .ok (.ireturn, 1) := by decide +kernel
theorem dX6_isValue_0 : decode cX6_isValue 0 = .ok (.lload_n 0, 1) := by decide +kernel
theorem dX6_isValue_1 : decode cX6_isValue 1 = .ok (.lconst 0, 1) := by decide +kernel
theorem dX6_isValue_2 : decode cX6_isValue 2 = .ok (.lcmp, 1) := by decide +kernel
theorem dX6_isValue_3 : decode cX6_isValue 3 = .ok (.ifCond .lt 15, 3) := by decide +kernel
theorem dX6_isValue_6 : decode cX6_isValue 6 = .ok (.lload_n 0, 1) := by decide +kernel
theorem dX6_isValue_7 : decode cX6_isValue 7 = .ok (.ldc2_w 51, 3) := by decide +kernel
theorem dX6_isValue_10 : decode cX6_isValue 10 = .ok (.lcmp, 1) := by decide +kernel
theorem dX6_isValue_11 : decode cX6_isValue 11 = .ok (.ifCond .gt 7, 3) := by decide +kernel
theorem dX6_isValue_14 : decode cX6_isValue 14 = .ok (.iconst 1, 1) := by decide +kernel
theorem dX6_isValue_15 : decode cX6_isValue 15 = .ok (.goto 4, 3) := by decide +kernel
theorem dX6_isValue_18 : decode cX6_isValue 18 = .ok (.iconst 0, 1) := by decide +kernel
theorem dX6_isValue_19 : decode cX6_isValue 19 = .ok (.ireturn, 1) := by decide +kernel
theorem dX6_record_0 : decode cX6_record 0 = .ok (.aload_n 0, 1) := by decide +kernel
theorem dX6_record_1 : decode cX6_record 1 = .ok (.getfield 53, 3) := by decide +kernel
theorem dX6_record_4 : decode cX6_record 4 = .ok (.bipush 6, 2) := by decide +kernel
theorem dX6_record_6 : decode cX6_record 6 = .ok (.if_icmp .ne 68, 3) := by decide +kernel
theorem dX6_record_9 : decode cX6_record 9 = .ok (.iconst 0, 1) := by decide +kernel
theorem dX6_record_10 : decode cX6_record 10 = .ok (.istore_n 1, 1) := by decide +kernel
theorem dX6_record_11 : decode cX6_record 11 = .ok (.iload_n 1, 1) := by decide +kernel
theorem dX6_record_12 : decode cX6_record 12 = .ok (.sipush 3640, 3) := by decide +kernel
theorem dX6_record_15 : decode cX6_record 15 = .ok (.if_icmp .ge 25, 3) := by decide +kernel
theorem dX6_record_18 : decode cX6_record 18 = .ok (.aload_n 0, 1) := by decide +kernel
theorem dX6_record_19 : decode cX6_record 19 = .ok (.getfield 17, 3) := by decide +kernel
theorem dX6_record_22 : decode cX6_record 22 = .ok (.iload_n 1, 1) := by decide +kernel
theorem dX6_record_23 : decode cX6_record 23 = .ok (.aload_n 0, 1) := by decide +kernel
theorem dX6_record_24 : decode cX6_record 24 = .ok (.getfield 17, 3) := by decide +kernel
theorem dX6_record_27 : decode cX6_record 27 = .ok (.iload_n 1, 1) := by decide +kernel
theorem dX6_record_28 : decode cX6_record 28 = .ok (.sipush 728, 3) := by decide +kernel
theorem dX6_record_31 : decode cX6_record 31 = .ok (.iadd, 1) := by decide +kernel
theorem dX6_record_32 : decode cX6_record 32 = .ok (.iaload, 1) := by decide +kernel
theorem dX6_record_33 : decode cX6_record 33 = .ok (.iastore, 1) := by decide +kernel
theorem dX6_record_34 : decode cX6_record 34 = .ok (.iinc 1 1, 3) := by decide +kernel
theorem dX6_record_37 : decode cX6_record 37 = .ok (.goto (-26), 3) := by decide +kernel
theorem dX6_record_40 : decode cX6_record 40 = .ok (.iconst 0, 1) := by decide +kernel
theorem dX6_record_41 : decode cX6_record 41 = .ok (.istore_n 1, 1) := by decide +kernel
theorem dX6_record_42 : decode cX6_record 42 = .ok (.iload_n 1, 1) := by decide +kernel
theorem dX6_record_43 : decode cX6_record 43 = .ok (.bipush 40, 2) := by decide +kernel
theorem dX6_record_45 : decode cX6_record 45 = .ok (.if_icmp .ge 24, 3) := by decide +kernel
theorem dX6_record_48 : decode cX6_record 48 = .ok (.aload_n 0, 1) := by decide +kernel
theorem dX6_record_49 : decode cX6_record 49 = .ok (.getfield 20, 3) := by decide +kernel
theorem dX6_record_52 : decode cX6_record 52 = .ok (.iload_n 1, 1) := by decide +kernel
theorem dX6_record_53 : decode cX6_record 53 = .ok (.aload_n 0, 1) := by decide +kernel
theorem dX6_record_54 : decode cX6_record 54 = .ok (.getfield 20, 3) := by decide +kernel
theorem dX6_record_57 : decode cX6_record 57 = .ok (.iload_n 1, 1) := by decide +kernel
theorem dX6_record_58 : decode cX6_record 58 = .ok (.bipush 8, 2) := by decide +kernel
theorem dX6_record_60 : decode cX6_record 60 = .ok (.iadd, 1) := by decide +kernel
theorem dX6_record_61 : decode cX6_record 61 = .ok (.laload, 1) := by decide +kernel
theorem dX6_record_62 : decode cX6_record 62 = .ok (.lastore, 1) := by decide +kernel
theorem dX6_record_63 : decode cX6_record 63 = .ok (.iinc 1 1, 3) := by decide +kernel
theorem dX6_record_66 : decode cX6_record 66 = .ok (.goto (-24), 3) := by decide +kernel
theorem dX6_record_69 : decode cX6_record 69 = .ok (.aload_n 0, 1) := by decide +kernel
theorem dX6_record_70 : decode cX6_record 70 = .ok (.iconst 5, 1) := by decide +kernel
theorem dX6_record_71 : decode cX6_record 71 = .ok (.putfield 53, 3) := by decide +kernel
theorem dX6_record_74 : decode cX6_record 74 = .ok (.iconst 0, 1) := by decide +kernel
theorem dX6_record_75 : decode cX6_record 75 = .ok (.istore_n 1, 1) := by decide +kernel
theorem dX6_record_76 : decode cX6_record 76 = .ok (.iload_n 1, 1) := by decide +kernel
theorem dX6_record_77 : decode cX6_record 77 = .ok (.sipush 728, 3) := by decide +kernel
theorem dX6_record_80 : decode cX6_record 80 = .ok (.if_icmp .ge 30, 3) := by decide +kernel
theorem dX6_record_83 : decode cX6_record 83 = .ok (.aload_n 0, 1) := by decide +kernel
theorem dX6_record_84 : decode cX6_record 84 = .ok (.getfield 17, 3) := by decide +kernel
theorem dX6_record_87 : decode cX6_record 87 = .ok (.aload_n 0, 1) := by decide +kernel
theorem dX6_record_88 : decode cX6_record 88 = .ok (.getfield 53, 3) := by decide +kernel
theorem dX6_record_91 : decode cX6_record 91 = .ok (.sipush 728, 3) := by decide +kernel
theorem dX6_record_94 : decode cX6_record 94 = .ok (.imul, 1) := by decide +kernel
theorem dX6_record_95 : decode cX6_record 95 = .ok (.iload_n 1, 1) := by decide +kernel
theorem dX6_record_96 : decode cX6_record 96 = .ok (.iadd, 1) := by decide +kernel
theorem dX6_record_97 : decode cX6_record 97 = .ok (.aload_n 0, 1) := by decide +kernel
theorem dX6_record_98 : decode cX6_record 98 = .ok (.getfield 7, 3) := by decide +kernel
theorem dX6_record_101 : decode cX6_record 101 = .ok (.iload_n 1, 1) := by decide +kernel
theorem dX6_record_102 : decode cX6_record 102 = .ok (.iaload, 1) := by decide +kernel
theorem dX6_record_103 : decode cX6_record 103 = .ok (.iastore, 1) := by decide +kernel
theorem dX6_record_104 : decode cX6_record 104 = .ok (.iinc 1 1, 3) := by decide +kernel
theorem dX6_record_107 : decode cX6_record 107 = .ok (.goto (-31), 3) := by decide +kernel
theorem dX6_record_110 : decode cX6_record 110 = .ok (.iconst 0, 1) := by decide +kernel
theorem dX6_record_111 : decode cX6_record 111 = .ok (.istore_n 1, 1) := by decide +kernel
theorem dX6_record_112 : decode cX6_record 112 = .ok (.iload_n 1, 1) := by decide +kernel
theorem dX6_record_113 : decode cX6_record 113 = .ok (.bipush 8, 2) := by decide +kernel
theorem dX6_record_115 : decode cX6_record 115 = .ok (.if_icmp .ge 29, 3) := by decide +kernel
theorem dX6_record_118 : decode cX6_record 118 = .ok (.aload_n 0, 1) := by decide +kernel
theorem dX6_record_119 : decode cX6_record 119 = .ok (.getfield 20, 3) := by decide +kernel
theorem dX6_record_122 : decode cX6_record 122 = .ok (.aload_n 0, 1) := by decide +kernel
theorem dX6_record_123 : decode cX6_record 123 = .ok (.getfield 53, 3) := by decide +kernel
theorem dX6_record_126 : decode cX6_record 126 = .ok (.bipush 8, 2) := by decide +kernel
theorem dX6_record_128 : decode cX6_record 128 = .ok (.imul, 1) := by decide +kernel
theorem dX6_record_129 : decode cX6_record 129 = .ok (.iload_n 1, 1) := by decide +kernel
theorem dX6_record_130 : decode cX6_record 130 = .ok (.iadd, 1) := by decide +kernel
theorem dX6_record_131 : decode cX6_record 131 = .ok (.aload_n 0, 1) := by decide +kernel
theorem dX6_record_132 : decode cX6_record 132 = .ok (.getfield 13, 3) := by decide +kernel
theorem dX6_record_135 : decode cX6_record 135 = .ok (.iload_n 1, 1) := by decide +kernel
theorem dX6_record_136 : decode cX6_record 136 = .ok (.laload, 1) := by decide +kernel
theorem dX6_record_137 : decode cX6_record 137 = .ok (.lastore, 1) := by decide +kernel
theorem dX6_record_138 : decode cX6_record 138 = .ok (.iinc 1 1, 3) := by decide +kernel
theorem dX6_record_141 : decode cX6_record 141 = .ok (.goto (-29), 3) := by decide +kernel
theorem dX6_record_144 : decode cX6_record 144 = .ok (.aload_n 0, 1) := by decide +kernel
theorem dX6_record_145 : decode cX6_record 145 = .ok (.dup, 1) := by decide +kernel
theorem dX6_record_146 : decode cX6_record 146 = .ok (.getfield 53, 3) := by decide +kernel
theorem dX6_record_149 : decode cX6_record 149 = .ok (.iconst 1, 1) := by decide +kernel
theorem dX6_record_150 : decode cX6_record 150 = .ok (.iadd, 1) := by decide +kernel
theorem dX6_record_151 : decode cX6_record 151 = .ok (.putfield 53, 3) := by decide +kernel
theorem dX6_record_154 : decode cX6_record 154 = .ok (.return_, 1) := by decide +kernel
theorem dX6_set_0 : decode cX6_set 0 = .ok (.iload_n 1, 1) := by decide +kernel
theorem dX6_set_1 : decode cX6_set 1 = .ok (.iconst 0, 1) := by decide +kernel
theorem dX6_set_2 : decode cX6_set 2 = .ok (.iconst 1, 1) := by decide +kernel
theorem dX6_set_3 : decode cX6_set 3 = .ok (.invokestatic 57, 3) := by decide +kernel
theorem dX6_set_6 : decode cX6_set 6 = .ok (.ifCond .eq 21, 3) := by decide +kernel
theorem dX6_set_9 : decode cX6_set 9 = .ok (.iload_n 2, 1) := by decide +kernel
theorem dX6_set_10 : decode cX6_set 10 = .ok (.iconst 0, 1) := by decide +kernel
theorem dX6_set_11 : decode cX6_set 11 = .ok (.iload_n 1, 1) := by decide +kernel
theorem dX6_set_12 : decode cX6_set 12 = .ok (.ifCond .ne 7, 3) := by decide +kernel
theorem dX6_set_15 : decode cX6_set 15 = .ok (.iconst 2, 1) := by decide +kernel
theorem dX6_set_16 : decode cX6_set 16 = .ok (.goto 5, 3) := by decide +kernel
theorem dX6_set_19 : decode cX6_set 19 = .ok (.bipush 6, 2) := by decide +kernel
theorem dX6_set_21 : decode cX6_set 21 = .ok (.invokestatic 57, 3) := by decide +kernel
theorem dX6_set_24 : decode cX6_set 24 = .ok (.ifCond .ne 6, 3) := by decide +kernel
theorem dX6_set_27 : decode cX6_set 27 = .ok (.bipush (-2), 2) := by decide +kernel
theorem dX6_set_29 : decode cX6_set 29 = .ok (.ireturn, 1) := by decide +kernel
theorem dX6_set_30 : decode cX6_set 30 = .ok (.aload_n 0, 1) := by decide +kernel
theorem dX6_set_31 : decode cX6_set 31 = .ok (.invokevirtual 61, 3) := by decide +kernel
theorem dX6_set_34 : decode cX6_set 34 = .ok (.aload_n 0, 1) := by decide +kernel
theorem dX6_set_35 : decode cX6_set 35 = .ok (.getfield 7, 3) := by decide +kernel
theorem dX6_set_38 : decode cX6_set 38 = .ok (.iload_n 1, 1) := by decide +kernel
theorem dX6_set_39 : decode cX6_set 39 = .ok (.iaload, 1) := by decide +kernel
theorem dX6_set_40 : decode cX6_set 40 = .ok (.istore_n 3, 1) := by decide +kernel
theorem dX6_set_41 : decode cX6_set 41 = .ok (.aload_n 0, 1) := by decide +kernel
theorem dX6_set_42 : decode cX6_set 42 = .ok (.getfield 7, 3) := by decide +kernel
theorem dX6_set_45 : decode cX6_set 45 = .ok (.iload_n 1, 1) := by decide +kernel
theorem dX6_set_46 : decode cX6_set 46 = .ok (.iload_n 2, 1) := by decide +kernel
theorem dX6_set_47 : decode cX6_set 47 = .ok (.iastore, 1) := by decide +kernel
theorem dX6_set_48 : decode cX6_set 48 = .ok (.iload_n 3, 1) := by decide +kernel
theorem dX6_set_49 : decode cX6_set 49 = .ok (.ireturn, 1) := by decide +kernel
theorem dX6_setCell_0 : decode cX6_setCell 0 = .ok (.iload_n 1, 1) := by decide +kernel
theorem dX6_setCell_1 : decode cX6_setCell 1 = .ok (.iconst 0, 1) := by decide +kernel
theorem dX6_setCell_2 : decode cX6_setCell 2 = .ok (.bipush 7, 2) := by decide +kernel
theorem dX6_setCell_4 : decode cX6_setCell 4 = .ok (.invokestatic 57, 3) := by decide +kernel
theorem dX6_setCell_7 : decode cX6_setCell 7 = .ok (.ifCond .ne 7, 3) := by decide +kernel
theorem dX6_setCell_10 : decode cX6_setCell 10 = .ok (.ldc2_w 64, 3) := by decide +kernel
theorem dX6_setCell_13 : decode cX6_setCell 13 = .ok (.lreturn, 1) := by decide +kernel
theorem dX6_setCell_14 : decode cX6_setCell 14 = .ok (.lload_n 2, 1) := by decide +kernel
theorem dX6_setCell_15 : decode cX6_setCell 15 = .ok (.invokestatic 66, 3) := by decide +kernel
theorem dX6_setCell_18 : decode cX6_setCell 18 = .ok (.ifCond .ne 7, 3) := by decide +kernel
theorem dX6_setCell_21 : decode cX6_setCell 21 = .ok (.ldc2_w 70, 3) := by decide +kernel
theorem dX6_setCell_24 : decode cX6_setCell 24 = .ok (.lreturn, 1) := by decide +kernel
theorem dX6_setCell_25 : decode cX6_setCell 25 = .ok (.aload_n 0, 1) := by decide +kernel
theorem dX6_setCell_26 : decode cX6_setCell 26 = .ok (.invokevirtual 61, 3) := by decide +kernel
theorem dX6_setCell_29 : decode cX6_setCell 29 = .ok (.aload_n 0, 1) := by decide +kernel
theorem dX6_setCell_30 : decode cX6_setCell 30 = .ok (.getfield 13, 3) := by decide +kernel
theorem dX6_setCell_33 : decode cX6_setCell 33 = .ok (.iload_n 1, 1) := by decide +kernel
theorem dX6_setCell_34 : decode cX6_setCell 34 = .ok (.laload, 1) := by decide +kernel
theorem dX6_setCell_35 : decode cX6_setCell 35 = .ok (.lstore 4, 2) := by decide +kernel
theorem dX6_setCell_37 : decode cX6_setCell 37 = .ok (.aload_n 0, 1) := by decide +kernel
theorem dX6_setCell_38 : decode cX6_setCell 38 = .ok (.getfield 13, 3) := by decide +kernel
theorem dX6_setCell_41 : decode cX6_setCell 41 = .ok (.iload_n 1, 1) := by decide +kernel
theorem dX6_setCell_42 : decode cX6_setCell 42 = .ok (.lload_n 2, 1) := by decide +kernel
theorem dX6_setCell_43 : decode cX6_setCell 43 = .ok (.lastore, 1) := by decide +kernel
theorem dX6_setCell_44 : decode cX6_setCell 44 = .ok (.lload 4, 2) := by decide +kernel
theorem dX6_setCell_46 : decode cX6_setCell 46 = .ok (.lreturn, 1) := by decide +kernel
theorem dX6_cell_0 : decode cX6_cell 0 = .ok (.iload_n 1, 1) := by decide +kernel
theorem dX6_cell_1 : decode cX6_cell 1 = .ok (.iconst 0, 1) := by decide +kernel
theorem dX6_cell_2 : decode cX6_cell 2 = .ok (.bipush 7, 2) := by decide +kernel
theorem dX6_cell_4 : decode cX6_cell 4 = .ok (.invokestatic 57, 3) := by decide +kernel
theorem dX6_cell_7 : decode cX6_cell 7 = .ok (.ifCond .eq 12, 3) := by decide +kernel
theorem dX6_cell_10 : decode cX6_cell 10 = .ok (.aload_n 0, 1) := by decide +kernel
theorem dX6_cell_11 : decode cX6_cell 11 = .ok (.getfield 13, 3) := by decide +kernel
theorem dX6_cell_14 : decode cX6_cell 14 = .ok (.iload_n 1, 1) := by decide +kernel
theorem dX6_cell_15 : decode cX6_cell 15 = .ok (.laload, 1) := by decide +kernel
theorem dX6_cell_16 : decode cX6_cell 16 = .ok (.goto 6, 3) := by decide +kernel
theorem dX6_cell_19 : decode cX6_cell 19 = .ok (.ldc2_w 64, 3) := by decide +kernel
theorem dX6_cell_22 : decode cX6_cell 22 = .ok (.lreturn, 1) := by decide +kernel
theorem dX6_put_0 : decode cX6_put 0 = .ok (.iconst 0, 1) := by decide +kernel
theorem dX6_put_1 : decode cX6_put 1 = .ok (.istore_n 3, 1) := by decide +kernel
theorem dX6_put_2 : decode cX6_put 2 = .ok (.lload_n 1, 1) := by decide +kernel
theorem dX6_put_3 : decode cX6_put 3 = .ok (.lstore 4, 2) := by decide +kernel
theorem dX6_put_5 : decode cX6_put 5 = .ok (.lload 4, 2) := by decide +kernel
theorem dX6_put_7 : decode cX6_put 7 = .ok (.ldc2_w 72, 3) := by decide +kernel
theorem dX6_put_10 : decode cX6_put 10 = .ok (.land, 1) := by decide +kernel
theorem dX6_put_11 : decode cX6_put 11 = .ok (.lconst 0, 1) := by decide +kernel
theorem dX6_put_12 : decode cX6_put 12 = .ok (.lcmp, 1) := by decide +kernel
theorem dX6_put_13 : decode cX6_put 13 = .ok (.ifCond .eq 36, 3) := by decide +kernel
theorem dX6_put_16 : decode cX6_put 16 = .ok (.lload 4, 2) := by decide +kernel
theorem dX6_put_18 : decode cX6_put 18 = .ok (.ldc2_w 72, 3) := by decide +kernel
theorem dX6_put_21 : decode cX6_put 21 = .ok (.land, 1) := by decide +kernel
theorem dX6_put_22 : decode cX6_put 22 = .ok (.l2i, 1) := by decide +kernel
theorem dX6_put_23 : decode cX6_put 23 = .ok (.bipush 33, 2) := by decide +kernel
theorem dX6_put_25 : decode cX6_put 25 = .ok (.bipush 126, 2) := by decide +kernel
theorem dX6_put_27 : decode cX6_put 27 = .ok (.invokestatic 57, 3) := by decide +kernel
theorem dX6_put_30 : decode cX6_put 30 = .ok (.ifCond .ne 6, 3) := by decide +kernel
theorem dX6_put_33 : decode cX6_put 33 = .ok (.bipush (-2), 2) := by decide +kernel
theorem dX6_put_35 : decode cX6_put 35 = .ok (.ireturn, 1) := by decide +kernel
theorem dX6_put_36 : decode cX6_put 36 = .ok (.iinc 3 1, 3) := by decide +kernel
theorem dX6_put_39 : decode cX6_put 39 = .ok (.lload 4, 2) := by decide +kernel
theorem dX6_put_41 : decode cX6_put 41 = .ok (.bipush 8, 2) := by decide +kernel
theorem dX6_put_43 : decode cX6_put 43 = .ok (.lushr, 1) := by decide +kernel
theorem dX6_put_44 : decode cX6_put 44 = .ok (.lstore 4, 2) := by decide +kernel
theorem dX6_put_46 : decode cX6_put 46 = .ok (.goto (-41), 3) := by decide +kernel
theorem dX6_put_49 : decode cX6_put 49 = .ok (.lload 4, 2) := by decide +kernel
theorem dX6_put_51 : decode cX6_put 51 = .ok (.lconst 0, 1) := by decide +kernel
theorem dX6_put_52 : decode cX6_put 52 = .ok (.lcmp, 1) := by decide +kernel
theorem dX6_put_53 : decode cX6_put 53 = .ok (.ifCond .ne 7, 3) := by decide +kernel
theorem dX6_put_56 : decode cX6_put 56 = .ok (.iload_n 3, 1) := by decide +kernel
theorem dX6_put_57 : decode cX6_put 57 = .ok (.ifCond .ne 6, 3) := by decide +kernel
theorem dX6_put_60 : decode cX6_put 60 = .ok (.bipush (-2), 2) := by decide +kernel
theorem dX6_put_62 : decode cX6_put 62 = .ok (.ireturn, 1) := by decide +kernel
theorem dX6_put_63 : decode cX6_put 63 = .ok (.aload_n 0, 1) := by decide +kernel
theorem dX6_put_64 : decode cX6_put 64 = .ok (.getfield 74, 3) := by decide +kernel
theorem dX6_put_67 : decode cX6_put 67 = .ok (.iload_n 3, 1) := by decide +kernel
theorem dX6_put_68 : decode cX6_put 68 = .ok (.iadd, 1) := by decide +kernel
theorem dX6_put_69 : decode cX6_put 69 = .ok (.bipush 60, 2) := by decide +kernel
theorem dX6_put_71 : decode cX6_put 71 = .ok (.if_icmp .le 6, 3) := by decide +kernel
theorem dX6_put_74 : decode cX6_put 74 = .ok (.bipush (-4), 2) := by decide +kernel
theorem dX6_put_76 : decode cX6_put 76 = .ok (.ireturn, 1) := by decide +kernel
theorem dX6_put_77 : decode cX6_put 77 = .ok (.lload_n 1, 1) := by decide +kernel
theorem dX6_put_78 : decode cX6_put 78 = .ok (.lstore 4, 2) := by decide +kernel
theorem dX6_put_80 : decode cX6_put 80 = .ok (.iload_n 3, 1) := by decide +kernel
theorem dX6_put_81 : decode cX6_put 81 = .ok (.iconst 1, 1) := by decide +kernel
theorem dX6_put_82 : decode cX6_put 82 = .ok (.isub, 1) := by decide +kernel
theorem dX6_put_83 : decode cX6_put 83 = .ok (.istore 6, 2) := by decide +kernel
theorem dX6_put_85 : decode cX6_put 85 = .ok (.iload 6, 2) := by decide +kernel
theorem dX6_put_87 : decode cX6_put 87 = .ok (.ifCond .lt 35, 3) := by decide +kernel
theorem dX6_put_90 : decode cX6_put 90 = .ok (.aload_n 0, 1) := by decide +kernel
theorem dX6_put_91 : decode cX6_put 91 = .ok (.getfield 33, 3) := by decide +kernel
theorem dX6_put_94 : decode cX6_put 94 = .ok (.aload_n 0, 1) := by decide +kernel
theorem dX6_put_95 : decode cX6_put 95 = .ok (.getfield 74, 3) := by decide +kernel
theorem dX6_put_98 : decode cX6_put 98 = .ok (.iload 6, 2) := by decide +kernel
theorem dX6_put_100 : decode cX6_put 100 = .ok (.iadd, 1) := by decide +kernel
theorem dX6_put_101 : decode cX6_put 101 = .ok (.lload 4, 2) := by decide +kernel
theorem dX6_put_103 : decode cX6_put 103 = .ok (.ldc2_w 72, 3) := by decide +kernel
theorem dX6_put_106 : decode cX6_put 106 = .ok (.land, 1) := by decide +kernel
theorem dX6_put_107 : decode cX6_put 107 = .ok (.l2i, 1) := by decide +kernel
theorem dX6_put_108 : decode cX6_put 108 = .ok (.iastore, 1) := by decide +kernel
theorem dX6_put_109 : decode cX6_put 109 = .ok (.lload 4, 2) := by decide +kernel
theorem dX6_put_111 : decode cX6_put 111 = .ok (.bipush 8, 2) := by decide +kernel
theorem dX6_put_113 : decode cX6_put 113 = .ok (.lushr, 1) := by decide +kernel
theorem dX6_put_114 : decode cX6_put 114 = .ok (.lstore 4, 2) := by decide +kernel
theorem dX6_put_116 : decode cX6_put 116 = .ok (.iinc 6 (-1), 3) := by decide +kernel
theorem dX6_put_119 : decode cX6_put 119 = .ok (.goto (-34), 3) := by decide +kernel
theorem dX6_put_122 : decode cX6_put 122 = .ok (.aload_n 0, 1) := by decide +kernel
theorem dX6_put_123 : decode cX6_put 123 = .ok (.dup, 1) := by decide +kernel
theorem dX6_put_124 : decode cX6_put 124 = .ok (.getfield 74, 3) := by decide +kernel
theorem dX6_put_127 : decode cX6_put 127 = .ok (.iload_n 3, 1) := by decide +kernel
theorem dX6_put_128 : decode cX6_put 128 = .ok (.iadd, 1) := by decide +kernel
theorem dX6_put_129 : decode cX6_put 129 = .ok (.putfield 74, 3) := by decide +kernel
theorem dX6_put_132 : decode cX6_put 132 = .ok (.aload_n 0, 1) := by decide +kernel
theorem dX6_put_133 : decode cX6_put 133 = .ok (.getfield 74, 3) := by decide +kernel
theorem dX6_put_136 : decode cX6_put 136 = .ok (.ireturn, 1) := by decide +kernel
theorem dX6_wipe_0 : decode cX6_wipe 0 = .ok (.aload_n 0, 1) := by decide +kernel
theorem dX6_wipe_1 : decode cX6_wipe 1 = .ok (.getfield 74, 3) := by decide +kernel
theorem dX6_wipe_4 : decode cX6_wipe 4 = .ok (.istore_n 1, 1) := by decide +kernel
theorem dX6_wipe_5 : decode cX6_wipe 5 = .ok (.aload_n 0, 1) := by decide +kernel
theorem dX6_wipe_6 : decode cX6_wipe 6 = .ok (.iconst 0, 1) := by decide +kernel
theorem dX6_wipe_7 : decode cX6_wipe 7 = .ok (.putfield 74, 3) := by decide +kernel
theorem dX6_wipe_10 : decode cX6_wipe 10 = .ok (.iload_n 1, 1) := by decide +kernel
theorem dX6_wipe_11 : decode cX6_wipe 11 = .ok (.ireturn, 1) := by decide +kernel
theorem dX6_sign_0 : decode cX6_sign 0 = .ok (.aload_n 0, 1) := by decide +kernel
theorem dX6_sign_1 : decode cX6_sign 1 = .ok (.getfield 77, 3) := by decide +kernel
theorem dX6_sign_4 : decode cX6_sign 4 = .ok (.aload_n 0, 1) := by decide +kernel
theorem dX6_sign_5 : decode cX6_sign 5 = .ok (.getfield 74, 3) := by decide +kernel
theorem dX6_sign_8 : decode cX6_sign 8 = .ok (.if_icmp .ge 15, 3) := by decide +kernel
theorem dX6_sign_11 : decode cX6_sign 11 = .ok (.aload_n 0, 1) := by decide +kernel
theorem dX6_sign_12 : decode cX6_sign 12 = .ok (.getfield 33, 3) := by decide +kernel
theorem dX6_sign_15 : decode cX6_sign 15 = .ok (.aload_n 0, 1) := by decide +kernel
theorem dX6_sign_16 : decode cX6_sign 16 = .ok (.getfield 77, 3) := by decide +kernel
theorem dX6_sign_19 : decode cX6_sign 19 = .ok (.iaload, 1) := by decide +kernel
theorem dX6_sign_20 : decode cX6_sign 20 = .ok (.goto 4, 3) := by decide +kernel
theorem dX6_sign_23 : decode cX6_sign 23 = .ok (.iconst 0, 1) := by decide +kernel
theorem dX6_sign_24 : decode cX6_sign 24 = .ok (.ireturn, 1) := by decide +kernel
theorem dX6_emit_0 : decode cX6_emit 0 = .ok (.aload_n 0, 1) := by decide +kernel
theorem dX6_emit_1 : decode cX6_emit 1 = .ok (.getfield 36, 3) := by decide +kernel
theorem dX6_emit_4 : decode cX6_emit 4 = .ok (.aload_n 0, 1) := by decide +kernel
theorem dX6_emit_5 : decode cX6_emit 5 = .ok (.getfield 80, 3) := by decide +kernel
theorem dX6_emit_8 : decode cX6_emit 8 = .ok (.iload_n 1, 1) := by decide +kernel
theorem dX6_emit_9 : decode cX6_emit 9 = .ok (.iastore, 1) := by decide +kernel
theorem dX6_emit_10 : decode cX6_emit 10 = .ok (.aload_n 0, 1) := by decide +kernel
theorem dX6_emit_11 : decode cX6_emit 11 = .ok (.getfield 39, 3) := by decide +kernel
theorem dX6_emit_14 : decode cX6_emit 14 = .ok (.aload_n 0, 1) := by decide +kernel
theorem dX6_emit_15 : decode cX6_emit 15 = .ok (.getfield 80, 3) := by decide +kernel
theorem dX6_emit_18 : decode cX6_emit 18 = .ok (.iload_n 2, 1) := by decide +kernel
theorem dX6_emit_19 : decode cX6_emit 19 = .ok (.iastore, 1) := by decide +kernel
theorem dX6_emit_20 : decode cX6_emit 20 = .ok (.aload_n 0, 1) := by decide +kernel
theorem dX6_emit_21 : decode cX6_emit 21 = .ok (.dup, 1) := by decide +kernel
theorem dX6_emit_22 : decode cX6_emit 22 = .ok (.getfield 80, 3) := by decide +kernel
theorem dX6_emit_25 : decode cX6_emit 25 = .ok (.iconst 1, 1) := by decide +kernel
theorem dX6_emit_26 : decode cX6_emit 26 = .ok (.iadd, 1) := by decide +kernel
theorem dX6_emit_27 : decode cX6_emit 27 = .ok (.putfield 80, 3) := by decide +kernel
theorem dX6_emit_30 : decode cX6_emit 30 = .ok (.return_, 1) := by decide +kernel
theorem dX6_push_0 : decode cX6_push 0 = .ok (.aload_n 0, 1) := by decide +kernel
theorem dX6_push_1 : decode cX6_push 1 = .ok (.getfield 42, 3) := by decide +kernel
theorem dX6_push_4 : decode cX6_push 4 = .ok (.aload_n 0, 1) := by decide +kernel
theorem dX6_push_5 : decode cX6_push 5 = .ok (.getfield 83, 3) := by decide +kernel
theorem dX6_push_8 : decode cX6_push 8 = .ok (.iload_n 1, 1) := by decide +kernel
theorem dX6_push_9 : decode cX6_push 9 = .ok (.iastore, 1) := by decide +kernel
theorem dX6_push_10 : decode cX6_push 10 = .ok (.aload_n 0, 1) := by decide +kernel
theorem dX6_push_11 : decode cX6_push 11 = .ok (.dup, 1) := by decide +kernel
theorem dX6_push_12 : decode cX6_push 12 = .ok (.getfield 83, 3) := by decide +kernel
theorem dX6_push_15 : decode cX6_push 15 = .ok (.iconst 1, 1) := by decide +kernel
theorem dX6_push_16 : decode cX6_push 16 = .ok (.iadd, 1) := by decide +kernel
theorem dX6_push_17 : decode cX6_push 17 = .ok (.putfield 83, 3) := by decide +kernel
theorem dX6_push_20 : decode cX6_push 20 = .ok (.return_, 1) := by decide +kernel
theorem dX6_binds_0 : decode cX6_binds 0 = .ok (.aload_n 0, 1) := by decide +kernel
theorem dX6_binds_1 : decode cX6_binds 1 = .ok (.getfield 83, 3) := by decide +kernel
theorem dX6_binds_4 : decode cX6_binds 4 = .ok (.ifCond .ne 7, 3) := by decide +kernel
theorem dX6_binds_7 : decode cX6_binds 7 = .ok (.iconst 0, 1) := by decide +kernel
theorem dX6_binds_8 : decode cX6_binds 8 = .ok (.goto 14, 3) := by decide +kernel
theorem dX6_binds_11 : decode cX6_binds 11 = .ok (.aload_n 0, 1) := by decide +kernel
theorem dX6_binds_12 : decode cX6_binds 12 = .ok (.getfield 42, 3) := by decide +kernel
theorem dX6_binds_15 : decode cX6_binds 15 = .ok (.aload_n 0, 1) := by decide +kernel
theorem dX6_binds_16 : decode cX6_binds 16 = .ok (.getfield 83, 3) := by decide +kernel
theorem dX6_binds_19 : decode cX6_binds 19 = .ok (.iconst 1, 1) := by decide +kernel
theorem dX6_binds_20 : decode cX6_binds 20 = .ok (.isub, 1) := by decide +kernel
theorem dX6_binds_21 : decode cX6_binds 21 = .ok (.iaload, 1) := by decide +kernel
theorem dX6_binds_22 : decode cX6_binds 22 = .ok (.istore_n 2, 1) := by decide +kernel
theorem dX6_binds_23 : decode cX6_binds 23 = .ok (.iload_n 2, 1) := by decide +kernel
theorem dX6_binds_24 : decode cX6_binds 24 = .ok (.bipush 42, 2) := by decide +kernel
theorem dX6_binds_26 : decode cX6_binds 26 = .ok (.if_icmp .eq 21, 3) := by decide +kernel
theorem dX6_binds_29 : decode cX6_binds 29 = .ok (.iload_n 1, 1) := by decide +kernel
theorem dX6_binds_30 : decode cX6_binds 30 = .ok (.bipush 42, 2) := by decide +kernel
theorem dX6_binds_32 : decode cX6_binds 32 = .ok (.if_icmp .eq 19, 3) := by decide +kernel
theorem dX6_binds_35 : decode cX6_binds 35 = .ok (.iload_n 2, 1) := by decide +kernel
theorem dX6_binds_36 : decode cX6_binds 36 = .ok (.bipush 43, 2) := by decide +kernel
theorem dX6_binds_38 : decode cX6_binds 38 = .ok (.if_icmp .eq 9, 3) := by decide +kernel
theorem dX6_binds_41 : decode cX6_binds 41 = .ok (.iload_n 2, 1) := by decide +kernel
theorem dX6_binds_42 : decode cX6_binds 42 = .ok (.bipush 45, 2) := by decide +kernel
theorem dX6_binds_44 : decode cX6_binds 44 = .ok (.if_icmp .ne 7, 3) := by decide +kernel
theorem dX6_binds_47 : decode cX6_binds 47 = .ok (.iconst 1, 1) := by decide +kernel
theorem dX6_binds_48 : decode cX6_binds 48 = .ok (.goto 4, 3) := by decide +kernel
theorem dX6_binds_51 : decode cX6_binds 51 = .ok (.iconst 0, 1) := by decide +kernel
theorem dX6_binds_52 : decode cX6_binds 52 = .ok (.ireturn, 1) := by decide +kernel
theorem dX6_close_0 : decode cX6_close 0 = .ok (.aload_n 0, 1) := by decide +kernel
theorem dX6_close_1 : decode cX6_close 1 = .ok (.iload_n 1, 1) := by decide +kernel
theorem dX6_close_2 : decode cX6_close 2 = .ok (.invokevirtual 86, 3) := by decide +kernel
theorem dX6_close_5 : decode cX6_close 5 = .ok (.ifCond .eq 30, 3) := by decide +kernel
theorem dX6_close_8 : decode cX6_close 8 = .ok (.aload_n 0, 1) := by decide +kernel
theorem dX6_close_9 : decode cX6_close 9 = .ok (.dup, 1) := by decide +kernel
theorem dX6_close_10 : decode cX6_close 10 = .ok (.getfield 83, 3) := by decide +kernel
theorem dX6_close_13 : decode cX6_close 13 = .ok (.iconst 1, 1) := by decide +kernel
theorem dX6_close_14 : decode cX6_close 14 = .ok (.isub, 1) := by decide +kernel
theorem dX6_close_15 : decode cX6_close 15 = .ok (.putfield 83, 3) := by decide +kernel
theorem dX6_close_18 : decode cX6_close 18 = .ok (.aload_n 0, 1) := by decide +kernel
theorem dX6_close_19 : decode cX6_close 19 = .ok (.aload_n 0, 1) := by decide +kernel
theorem dX6_close_20 : decode cX6_close 20 = .ok (.getfield 42, 3) := by decide +kernel
theorem dX6_close_23 : decode cX6_close 23 = .ok (.aload_n 0, 1) := by decide +kernel
theorem dX6_close_24 : decode cX6_close 24 = .ok (.getfield 83, 3) := by decide +kernel
theorem dX6_close_27 : decode cX6_close 27 = .ok (.iaload, 1) := by decide +kernel
theorem dX6_close_28 : decode cX6_close 28 = .ok (.iconst 0, 1) := by decide +kernel
theorem dX6_close_29 : decode cX6_close 29 = .ok (.invokevirtual 90, 3) := by decide +kernel
theorem dX6_close_32 : decode cX6_close 32 = .ok (.goto (-32), 3) := by decide +kernel
theorem dX6_close_35 : decode cX6_close 35 = .ok (.return_, 1) := by decide +kernel
theorem dX6_readNumber_0 : decode cX6_readNumber 0 = .ok (.aload_n 0, 1) := by decide +kernel
theorem dX6_readNumber_1 : decode cX6_readNumber 1 = .ok (.invokevirtual 94, 3) := by decide +kernel
theorem dX6_readNumber_4 : decode cX6_readNumber 4 = .ok (.bipush 48, 2) := by decide +kernel
theorem dX6_readNumber_6 : decode cX6_readNumber 6 = .ok (.isub, 1) := by decide +kernel
theorem dX6_readNumber_7 : decode cX6_readNumber 7 = .ok (.istore_n 1, 1) := by decide +kernel
theorem dX6_readNumber_8 : decode cX6_readNumber 8 = .ok (.aload_n 0, 1) := by decide +kernel
theorem dX6_readNumber_9 : decode cX6_readNumber 9 = .ok (.dup, 1) := by decide +kernel
theorem dX6_readNumber_10 : decode cX6_readNumber 10 = .ok (.getfield 77, 3) := by decide +kernel
theorem dX6_readNumber_13 : decode cX6_readNumber 13 = .ok (.iconst 1, 1) := by decide +kernel
theorem dX6_readNumber_14 : decode cX6_readNumber 14 = .ok (.iadd, 1) := by decide +kernel
theorem dX6_readNumber_15 : decode cX6_readNumber 15 = .ok (.putfield 77, 3) := by decide +kernel
theorem dX6_readNumber_18 : decode cX6_readNumber 18 = .ok (.iload_n 1, 1) := by decide +kernel
theorem dX6_readNumber_19 : decode cX6_readNumber 19 = .ok (.ifCond .le 61, 3) := by decide +kernel
theorem dX6_readNumber_22 : decode cX6_readNumber 22 = .ok (.aload_n 0, 1) := by decide +kernel
theorem dX6_readNumber_23 : decode cX6_readNumber 23 = .ok (.invokevirtual 94, 3) := by decide +kernel
theorem dX6_readNumber_26 : decode cX6_readNumber 26 = .ok (.bipush 48, 2) := by decide +kernel
theorem dX6_readNumber_28 : decode cX6_readNumber 28 = .ok (.bipush 57, 2) := by decide +kernel
theorem dX6_readNumber_30 : decode cX6_readNumber 30 = .ok (.invokestatic 57, 3) := by decide +kernel
theorem dX6_readNumber_33 : decode cX6_readNumber 33 = .ok (.ifCond .eq 47, 3) := by decide +kernel
theorem dX6_readNumber_36 : decode cX6_readNumber 36 = .ok (.bipush 10, 2) := by decide +kernel
theorem dX6_readNumber_38 : decode cX6_readNumber 38 = .ok (.iload_n 1, 1) := by decide +kernel
theorem dX6_readNumber_39 : decode cX6_readNumber 39 = .ok (.imul, 1) := by decide +kernel
theorem dX6_readNumber_40 : decode cX6_readNumber 40 = .ok (.aload_n 0, 1) := by decide +kernel
theorem dX6_readNumber_41 : decode cX6_readNumber 41 = .ok (.invokevirtual 94, 3) := by decide +kernel
theorem dX6_readNumber_44 : decode cX6_readNumber 44 = .ok (.iadd, 1) := by decide +kernel
theorem dX6_readNumber_45 : decode cX6_readNumber 45 = .ok (.bipush 48, 2) := by decide +kernel
theorem dX6_readNumber_47 : decode cX6_readNumber 47 = .ok (.isub, 1) := by decide +kernel
theorem dX6_readNumber_48 : decode cX6_readNumber 48 = .ok (.sipush 9999, 3) := by decide +kernel
theorem dX6_readNumber_51 : decode cX6_readNumber 51 = .ok (.if_icmp .gt 29, 3) := by decide +kernel
theorem dX6_readNumber_54 : decode cX6_readNumber 54 = .ok (.bipush 10, 2) := by decide +kernel
theorem dX6_readNumber_56 : decode cX6_readNumber 56 = .ok (.iload_n 1, 1) := by decide +kernel
theorem dX6_readNumber_57 : decode cX6_readNumber 57 = .ok (.imul, 1) := by decide +kernel
theorem dX6_readNumber_58 : decode cX6_readNumber 58 = .ok (.aload_n 0, 1) := by decide +kernel
theorem dX6_readNumber_59 : decode cX6_readNumber 59 = .ok (.invokevirtual 94, 3) := by decide +kernel
theorem dX6_readNumber_62 : decode cX6_readNumber 62 = .ok (.iadd, 1) := by decide +kernel
theorem dX6_readNumber_63 : decode cX6_readNumber 63 = .ok (.bipush 48, 2) := by decide +kernel
theorem dX6_readNumber_65 : decode cX6_readNumber 65 = .ok (.isub, 1) := by decide +kernel
theorem dX6_readNumber_66 : decode cX6_readNumber 66 = .ok (.istore_n 1, 1) := by decide +kernel
theorem dX6_readNumber_67 : decode cX6_readNumber 67 = .ok (.aload_n 0, 1) := by decide +kernel
theorem dX6_readNumber_68 : decode cX6_readNumber 68 = .ok (.dup, 1) := by decide +kernel
theorem dX6_readNumber_69 : decode cX6_readNumber 69 = .ok (.getfield 77, 3) := by decide +kernel
theorem dX6_readNumber_72 : decode cX6_readNumber 72 = .ok (.iconst 1, 1) := by decide +kernel
theorem dX6_readNumber_73 : decode cX6_readNumber 73 = .ok (.iadd, 1) := by decide +kernel
theorem dX6_readNumber_74 : decode cX6_readNumber 74 = .ok (.putfield 77, 3) := by decide +kernel
theorem dX6_readNumber_77 : decode cX6_readNumber 77 = .ok (.goto (-59), 3) := by decide +kernel
theorem dX6_readNumber_80 : decode cX6_readNumber 80 = .ok (.aload_n 0, 1) := by decide +kernel
theorem dX6_readNumber_81 : decode cX6_readNumber 81 = .ok (.iconst 0, 1) := by decide +kernel
theorem dX6_readNumber_82 : decode cX6_readNumber 82 = .ok (.iload_n 1, 1) := by decide +kernel
theorem dX6_readNumber_83 : decode cX6_readNumber 83 = .ok (.invokevirtual 90, 3) := by decide +kernel
theorem dX6_readNumber_86 : decode cX6_readNumber 86 = .ok (.return_, 1) := by decide +kernel
theorem dX6_readOperand_0 : decode cX6_readOperand 0 = .ok (.aload_n 0, 1) := by decide +kernel
theorem dX6_readOperand_1 : decode cX6_readOperand 1 = .ok (.invokevirtual 94, 3) := by decide +kernel
theorem dX6_readOperand_4 : decode cX6_readOperand 4 = .ok (.istore_n 1, 1) := by decide +kernel
theorem dX6_readOperand_5 : decode cX6_readOperand 5 = .ok (.iload_n 1, 1) := by decide +kernel
theorem dX6_readOperand_6 : decode cX6_readOperand 6 = .ok (.bipush 48, 2) := by decide +kernel
theorem dX6_readOperand_8 : decode cX6_readOperand 8 = .ok (.bipush 57, 2) := by decide +kernel
theorem dX6_readOperand_10 : decode cX6_readOperand 10 = .ok (.invokestatic 57, 3) := by decide +kernel
theorem dX6_readOperand_13 : decode cX6_readOperand 13 = .ok (.ifCond .eq 9, 3) := by decide +kernel
theorem dX6_readOperand_16 : decode cX6_readOperand 16 = .ok (.aload_n 0, 1) := by decide +kernel
theorem dX6_readOperand_17 : decode cX6_readOperand 17 = .ok (.invokevirtual 98, 3) := by decide +kernel
theorem dX6_readOperand_20 : decode cX6_readOperand 20 = .ok (.iconst 1, 1) := by decide +kernel
theorem dX6_readOperand_21 : decode cX6_readOperand 21 = .ok (.ireturn, 1) := by decide +kernel
theorem dX6_readOperand_22 : decode cX6_readOperand 22 = .ok (.iload_n 1, 1) := by decide +kernel
theorem dX6_readOperand_23 : decode cX6_readOperand 23 = .ok (.bipush 65, 2) := by decide +kernel
theorem dX6_readOperand_25 : decode cX6_readOperand 25 = .ok (.bipush 72, 2) := by decide +kernel
theorem dX6_readOperand_27 : decode cX6_readOperand 27 = .ok (.invokestatic 57, 3) := by decide +kernel
theorem dX6_readOperand_30 : decode cX6_readOperand 30 = .ok (.ifCond .eq 24, 3) := by decide +kernel
theorem dX6_readOperand_33 : decode cX6_readOperand 33 = .ok (.aload_n 0, 1) := by decide +kernel
theorem dX6_readOperand_34 : decode cX6_readOperand 34 = .ok (.iconst 1, 1) := by decide +kernel
theorem dX6_readOperand_35 : decode cX6_readOperand 35 = .ok (.iload_n 1, 1) := by decide +kernel
theorem dX6_readOperand_36 : decode cX6_readOperand 36 = .ok (.bipush 65, 2) := by decide +kernel
theorem dX6_readOperand_38 : decode cX6_readOperand 38 = .ok (.isub, 1) := by decide +kernel
theorem dX6_readOperand_39 : decode cX6_readOperand 39 = .ok (.invokevirtual 90, 3) := by decide +kernel
theorem dX6_readOperand_42 : decode cX6_readOperand 42 = .ok (.aload_n 0, 1) := by decide +kernel
theorem dX6_readOperand_43 : decode cX6_readOperand 43 = .ok (.dup, 1) := by decide +kernel
theorem dX6_readOperand_44 : decode cX6_readOperand 44 = .ok (.getfield 77, 3) := by decide +kernel
theorem dX6_readOperand_47 : decode cX6_readOperand 47 = .ok (.iconst 1, 1) := by decide +kernel
theorem dX6_readOperand_48 : decode cX6_readOperand 48 = .ok (.iadd, 1) := by decide +kernel
theorem dX6_readOperand_49 : decode cX6_readOperand 49 = .ok (.putfield 77, 3) := by decide +kernel
theorem dX6_readOperand_52 : decode cX6_readOperand 52 = .ok (.iconst 1, 1) := by decide +kernel
theorem dX6_readOperand_53 : decode cX6_readOperand 53 = .ok (.ireturn, 1) := by decide +kernel
theorem dX6_readOperand_54 : decode cX6_readOperand 54 = .ok (.iconst 0, 1) := by decide +kernel
theorem dX6_readOperand_55 : decode cX6_readOperand 55 = .ok (.ireturn, 1) := by decide +kernel
theorem dX6_readOpening_0 : decode cX6_readOpening 0 = .ok (.aload_n 0, 1) := by decide +kernel
theorem dX6_readOpening_1 : decode cX6_readOpening 1 = .ok (.invokevirtual 94, 3) := by decide +kernel
theorem dX6_readOpening_4 : decode cX6_readOpening 4 = .ok (.istore_n 1, 1) := by decide +kernel
theorem dX6_readOpening_5 : decode cX6_readOpening 5 = .ok (.iload_n 1, 1) := by decide +kernel
theorem dX6_readOpening_6 : decode cX6_readOpening 6 = .ok (.bipush 40, 2) := by decide +kernel
theorem dX6_readOpening_8 : decode cX6_readOpening 8 = .ok (.if_icmp .eq 23, 3) := by decide +kernel
theorem dX6_readOpening_11 : decode cX6_readOpening 11 = .ok (.iload_n 1, 1) := by decide +kernel
theorem dX6_readOpening_12 : decode cX6_readOpening 12 = .ok (.bipush 113, 2) := by decide +kernel
theorem dX6_readOpening_14 : decode cX6_readOpening 14 = .ok (.if_icmp .eq 17, 3) := by decide +kernel
theorem dX6_readOpening_17 : decode cX6_readOpening 17 = .ok (.iload_n 1, 1) := by decide +kernel
theorem dX6_readOpening_18 : decode cX6_readOpening 18 = .ok (.bipush 107, 2) := by decide +kernel
theorem dX6_readOpening_20 : decode cX6_readOpening 20 = .ok (.if_icmp .eq 11, 3) := by decide +kernel
theorem dX6_readOpening_23 : decode cX6_readOpening 23 = .ok (.iload_n 1, 1) := by decide +kernel
theorem dX6_readOpening_24 : decode cX6_readOpening 24 = .ok (.bipush 115, 2) := by decide +kernel
theorem dX6_readOpening_26 : decode cX6_readOpening 26 = .ok (.if_icmp .eq 5, 3) := by decide +kernel
theorem dX6_readOpening_29 : decode cX6_readOpening 29 = .ok (.iconst 0, 1) := by decide +kernel
theorem dX6_readOpening_30 : decode cX6_readOpening 30 = .ok (.ireturn, 1) := by decide +kernel
theorem dX6_readOpening_31 : decode cX6_readOpening 31 = .ok (.iload_n 1, 1) := by decide +kernel
theorem dX6_readOpening_32 : decode cX6_readOpening 32 = .ok (.bipush 40, 2) := by decide +kernel
theorem dX6_readOpening_34 : decode cX6_readOpening 34 = .ok (.if_icmp .eq 24, 3) := by decide +kernel
theorem dX6_readOpening_37 : decode cX6_readOpening 37 = .ok (.aload_n 0, 1) := by decide +kernel
theorem dX6_readOpening_38 : decode cX6_readOpening 38 = .ok (.dup, 1) := by decide +kernel
theorem dX6_readOpening_39 : decode cX6_readOpening 39 = .ok (.getfield 77, 3) := by decide +kernel
theorem dX6_readOpening_42 : decode cX6_readOpening 42 = .ok (.iconst 1, 1) := by decide +kernel
theorem dX6_readOpening_43 : decode cX6_readOpening 43 = .ok (.iadd, 1) := by decide +kernel
theorem dX6_readOpening_44 : decode cX6_readOpening 44 = .ok (.putfield 77, 3) := by decide +kernel
theorem dX6_readOpening_47 : decode cX6_readOpening 47 = .ok (.aload_n 0, 1) := by decide +kernel
theorem dX6_readOpening_48 : decode cX6_readOpening 48 = .ok (.invokevirtual 94, 3) := by decide +kernel
theorem dX6_readOpening_51 : decode cX6_readOpening 51 = .ok (.bipush 40, 2) := by decide +kernel
theorem dX6_readOpening_53 : decode cX6_readOpening 53 = .ok (.if_icmp .eq 5, 3) := by decide +kernel
theorem dX6_readOpening_56 : decode cX6_readOpening 56 = .ok (.iconst 0, 1) := by decide +kernel
theorem dX6_readOpening_57 : decode cX6_readOpening 57 = .ok (.ireturn, 1) := by decide +kernel
theorem dX6_readOpening_58 : decode cX6_readOpening 58 = .ok (.aload_n 0, 1) := by decide +kernel
theorem dX6_readOpening_59 : decode cX6_readOpening 59 = .ok (.dup, 1) := by decide +kernel
theorem dX6_readOpening_60 : decode cX6_readOpening 60 = .ok (.getfield 77, 3) := by decide +kernel
theorem dX6_readOpening_63 : decode cX6_readOpening 63 = .ok (.iconst 1, 1) := by decide +kernel
theorem dX6_readOpening_64 : decode cX6_readOpening 64 = .ok (.iadd, 1) := by decide +kernel
theorem dX6_readOpening_65 : decode cX6_readOpening 65 = .ok (.putfield 77, 3) := by decide +kernel
theorem dX6_readOpening_68 : decode cX6_readOpening 68 = .ok (.aload_n 0, 1) := by decide +kernel
theorem dX6_readOpening_69 : decode cX6_readOpening 69 = .ok (.iload_n 1, 1) := by decide +kernel
theorem dX6_readOpening_70 : decode cX6_readOpening 70 = .ok (.invokevirtual 101, 3) := by decide +kernel
theorem dX6_readOpening_73 : decode cX6_readOpening 73 = .ok (.aload_n 0, 1) := by decide +kernel
theorem dX6_readOpening_74 : decode cX6_readOpening 74 = .ok (.dup, 1) := by decide +kernel
theorem dX6_readOpening_75 : decode cX6_readOpening 75 = .ok (.getfield 105, 3) := by decide +kernel
theorem dX6_readOpening_78 : decode cX6_readOpening 78 = .ok (.iconst 1, 1) := by decide +kernel
theorem dX6_readOpening_79 : decode cX6_readOpening 79 = .ok (.iadd, 1) := by decide +kernel
theorem dX6_readOpening_80 : decode cX6_readOpening 80 = .ok (.putfield 105, 3) := by decide +kernel
theorem dX6_readOpening_83 : decode cX6_readOpening 83 = .ok (.iconst 1, 1) := by decide +kernel
theorem dX6_readOpening_84 : decode cX6_readOpening 84 = .ok (.ireturn, 1) := by decide +kernel
theorem dX6_readBehind_0 : decode cX6_readBehind 0 = .ok (.aload_n 0, 1) := by decide +kernel
theorem dX6_readBehind_1 : decode cX6_readBehind 1 = .ok (.invokevirtual 94, 3) := by decide +kernel
theorem dX6_readBehind_4 : decode cX6_readBehind 4 = .ok (.istore_n 1, 1) := by decide +kernel
theorem dX6_readBehind_5 : decode cX6_readBehind 5 = .ok (.iload_n 1, 1) := by decide +kernel
theorem dX6_readBehind_6 : decode cX6_readBehind 6 = .ok (.bipush 43, 2) := by decide +kernel
theorem dX6_readBehind_8 : decode cX6_readBehind 8 = .ok (.if_icmp .eq 15, 3) := by decide +kernel
theorem dX6_readBehind_11 : decode cX6_readBehind 11 = .ok (.iload_n 1, 1) := by decide +kernel
theorem dX6_readBehind_12 : decode cX6_readBehind 12 = .ok (.bipush 45, 2) := by decide +kernel
theorem dX6_readBehind_14 : decode cX6_readBehind 14 = .ok (.if_icmp .eq 9, 3) := by decide +kernel
theorem dX6_readBehind_17 : decode cX6_readBehind 17 = .ok (.iload_n 1, 1) := by decide +kernel
theorem dX6_readBehind_18 : decode cX6_readBehind 18 = .ok (.bipush 42, 2) := by decide +kernel
theorem dX6_readBehind_20 : decode cX6_readBehind 20 = .ok (.if_icmp .ne 25, 3) := by decide +kernel
theorem dX6_readBehind_23 : decode cX6_readBehind 23 = .ok (.aload_n 0, 1) := by decide +kernel
theorem dX6_readBehind_24 : decode cX6_readBehind 24 = .ok (.iload_n 1, 1) := by decide +kernel
theorem dX6_readBehind_25 : decode cX6_readBehind 25 = .ok (.invokevirtual 108, 3) := by decide +kernel
theorem dX6_readBehind_28 : decode cX6_readBehind 28 = .ok (.aload_n 0, 1) := by decide +kernel
theorem dX6_readBehind_29 : decode cX6_readBehind 29 = .ok (.iload_n 1, 1) := by decide +kernel
theorem dX6_readBehind_30 : decode cX6_readBehind 30 = .ok (.invokevirtual 101, 3) := by decide +kernel
theorem dX6_readBehind_33 : decode cX6_readBehind 33 = .ok (.aload_n 0, 1) := by decide +kernel
theorem dX6_readBehind_34 : decode cX6_readBehind 34 = .ok (.dup, 1) := by decide +kernel
theorem dX6_readBehind_35 : decode cX6_readBehind 35 = .ok (.getfield 77, 3) := by decide +kernel
theorem dX6_readBehind_38 : decode cX6_readBehind 38 = .ok (.iconst 1, 1) := by decide +kernel
theorem dX6_readBehind_39 : decode cX6_readBehind 39 = .ok (.iadd, 1) := by decide +kernel
theorem dX6_readBehind_40 : decode cX6_readBehind 40 = .ok (.putfield 77, 3) := by decide +kernel
theorem dX6_readBehind_43 : decode cX6_readBehind 43 = .ok (.iconst 1, 1) := by decide +kernel
theorem dX6_readBehind_44 : decode cX6_readBehind 44 = .ok (.ireturn, 1) := by decide +kernel
theorem dX6_readBehind_45 : decode cX6_readBehind 45 = .ok (.iload_n 1, 1) := by decide +kernel
theorem dX6_readBehind_46 : decode cX6_readBehind 46 = .ok (.bipush 41, 2) := by decide +kernel
theorem dX6_readBehind_48 : decode cX6_readBehind 48 = .ok (.if_icmp .ne 76, 3) := by decide +kernel
theorem dX6_readBehind_51 : decode cX6_readBehind 51 = .ok (.aload_n 0, 1) := by decide +kernel
theorem dX6_readBehind_52 : decode cX6_readBehind 52 = .ok (.getfield 105, 3) := by decide +kernel
theorem dX6_readBehind_55 : decode cX6_readBehind 55 = .ok (.ifCond .le 69, 3) := by decide +kernel
theorem dX6_readBehind_58 : decode cX6_readBehind 58 = .ok (.aload_n 0, 1) := by decide +kernel
theorem dX6_readBehind_59 : decode cX6_readBehind 59 = .ok (.bipush 43, 2) := by decide +kernel
theorem dX6_readBehind_61 : decode cX6_readBehind 61 = .ok (.invokevirtual 108, 3) := by decide +kernel
theorem dX6_readBehind_64 : decode cX6_readBehind 64 = .ok (.aload_n 0, 1) := by decide +kernel
theorem dX6_readBehind_65 : decode cX6_readBehind 65 = .ok (.dup, 1) := by decide +kernel
theorem dX6_readBehind_66 : decode cX6_readBehind 66 = .ok (.getfield 83, 3) := by decide +kernel
theorem dX6_readBehind_69 : decode cX6_readBehind 69 = .ok (.iconst 1, 1) := by decide +kernel
theorem dX6_readBehind_70 : decode cX6_readBehind 70 = .ok (.isub, 1) := by decide +kernel
theorem dX6_readBehind_71 : decode cX6_readBehind 71 = .ok (.putfield 83, 3) := by decide +kernel
theorem dX6_readBehind_74 : decode cX6_readBehind 74 = .ok (.aload_n 0, 1) := by decide +kernel
theorem dX6_readBehind_75 : decode cX6_readBehind 75 = .ok (.getfield 42, 3) := by decide +kernel
theorem dX6_readBehind_78 : decode cX6_readBehind 78 = .ok (.aload_n 0, 1) := by decide +kernel
theorem dX6_readBehind_79 : decode cX6_readBehind 79 = .ok (.getfield 83, 3) := by decide +kernel
theorem dX6_readBehind_82 : decode cX6_readBehind 82 = .ok (.iaload, 1) := by decide +kernel
theorem dX6_readBehind_83 : decode cX6_readBehind 83 = .ok (.bipush 40, 2) := by decide +kernel
theorem dX6_readBehind_85 : decode cX6_readBehind 85 = .ok (.if_icmp .eq 17, 3) := by decide +kernel
theorem dX6_readBehind_88 : decode cX6_readBehind 88 = .ok (.aload_n 0, 1) := by decide +kernel
theorem dX6_readBehind_89 : decode cX6_readBehind 89 = .ok (.aload_n 0, 1) := by decide +kernel
theorem dX6_readBehind_90 : decode cX6_readBehind 90 = .ok (.getfield 42, 3) := by decide +kernel
theorem dX6_readBehind_93 : decode cX6_readBehind 93 = .ok (.aload_n 0, 1) := by decide +kernel
theorem dX6_readBehind_94 : decode cX6_readBehind 94 = .ok (.getfield 83, 3) := by decide +kernel
theorem dX6_readBehind_97 : decode cX6_readBehind 97 = .ok (.iaload, 1) := by decide +kernel
theorem dX6_readBehind_98 : decode cX6_readBehind 98 = .ok (.iconst 0, 1) := by decide +kernel
theorem dX6_readBehind_99 : decode cX6_readBehind 99 = .ok (.invokevirtual 90, 3) := by decide +kernel
theorem dX6_readBehind_102 : decode cX6_readBehind 102 = .ok (.aload_n 0, 1) := by decide +kernel
theorem dX6_readBehind_103 : decode cX6_readBehind 103 = .ok (.dup, 1) := by decide +kernel
theorem dX6_readBehind_104 : decode cX6_readBehind 104 = .ok (.getfield 105, 3) := by decide +kernel
theorem dX6_readBehind_107 : decode cX6_readBehind 107 = .ok (.iconst 1, 1) := by decide +kernel
theorem dX6_readBehind_108 : decode cX6_readBehind 108 = .ok (.isub, 1) := by decide +kernel
theorem dX6_readBehind_109 : decode cX6_readBehind 109 = .ok (.putfield 105, 3) := by decide +kernel
theorem dX6_readBehind_112 : decode cX6_readBehind 112 = .ok (.aload_n 0, 1) := by decide +kernel
theorem dX6_readBehind_113 : decode cX6_readBehind 113 = .ok (.dup, 1) := by decide +kernel
theorem dX6_readBehind_114 : decode cX6_readBehind 114 = .ok (.getfield 77, 3) := by decide +kernel
theorem dX6_readBehind_117 : decode cX6_readBehind 117 = .ok (.iconst 1, 1) := by decide +kernel
theorem dX6_readBehind_118 : decode cX6_readBehind 118 = .ok (.iadd, 1) := by decide +kernel
theorem dX6_readBehind_119 : decode cX6_readBehind 119 = .ok (.putfield 77, 3) := by decide +kernel
theorem dX6_readBehind_122 : decode cX6_readBehind 122 = .ok (.iconst 1, 1) := by decide +kernel
theorem dX6_readBehind_123 : decode cX6_readBehind 123 = .ok (.ireturn, 1) := by decide +kernel
theorem dX6_readBehind_124 : decode cX6_readBehind 124 = .ok (.iconst 0, 1) := by decide +kernel
theorem dX6_readBehind_125 : decode cX6_readBehind 125 = .ok (.ireturn, 1) := by decide +kernel
theorem dX6_readPad_0 : decode cX6_readPad 0 = .ok (.aload_n 0, 1) := by decide +kernel
theorem dX6_readPad_1 : decode cX6_readPad 1 = .ok (.iconst 0, 1) := by decide +kernel
theorem dX6_readPad_2 : decode cX6_readPad 2 = .ok (.putfield 80, 3) := by decide +kernel
theorem dX6_readPad_5 : decode cX6_readPad 5 = .ok (.aload_n 0, 1) := by decide +kernel
theorem dX6_readPad_6 : decode cX6_readPad 6 = .ok (.iconst 0, 1) := by decide +kernel
theorem dX6_readPad_7 : decode cX6_readPad 7 = .ok (.putfield 83, 3) := by decide +kernel
theorem dX6_readPad_10 : decode cX6_readPad 10 = .ok (.aload_n 0, 1) := by decide +kernel
theorem dX6_readPad_11 : decode cX6_readPad 11 = .ok (.iconst 0, 1) := by decide +kernel
theorem dX6_readPad_12 : decode cX6_readPad 12 = .ok (.putfield 105, 3) := by decide +kernel
theorem dX6_readPad_15 : decode cX6_readPad 15 = .ok (.aload_n 0, 1) := by decide +kernel
theorem dX6_readPad_16 : decode cX6_readPad 16 = .ok (.iconst 0, 1) := by decide +kernel
theorem dX6_readPad_17 : decode cX6_readPad 17 = .ok (.putfield 77, 3) := by decide +kernel
theorem dX6_readPad_20 : decode cX6_readPad 20 = .ok (.iconst 1, 1) := by decide +kernel
theorem dX6_readPad_21 : decode cX6_readPad 21 = .ok (.istore_n 1, 1) := by decide +kernel
theorem dX6_readPad_22 : decode cX6_readPad 22 = .ok (.iconst 1, 1) := by decide +kernel
theorem dX6_readPad_23 : decode cX6_readPad 23 = .ok (.istore_n 2, 1) := by decide +kernel
theorem dX6_readPad_24 : decode cX6_readPad 24 = .ok (.iload_n 2, 1) := by decide +kernel
theorem dX6_readPad_25 : decode cX6_readPad 25 = .ok (.ifCond .eq 78, 3) := by decide +kernel
theorem dX6_readPad_28 : decode cX6_readPad 28 = .ok (.aload_n 0, 1) := by decide +kernel
theorem dX6_readPad_29 : decode cX6_readPad 29 = .ok (.getfield 77, 3) := by decide +kernel
theorem dX6_readPad_32 : decode cX6_readPad 32 = .ok (.aload_n 0, 1) := by decide +kernel
theorem dX6_readPad_33 : decode cX6_readPad 33 = .ok (.getfield 74, 3) := by decide +kernel
theorem dX6_readPad_36 : decode cX6_readPad 36 = .ok (.if_icmp .ge 67, 3) := by decide +kernel
theorem dX6_readPad_39 : decode cX6_readPad 39 = .ok (.iload_n 1, 1) := by decide +kernel
theorem dX6_readPad_40 : decode cX6_readPad 40 = .ok (.ifCond .eq 38, 3) := by decide +kernel
theorem dX6_readPad_43 : decode cX6_readPad 43 = .ok (.aload_n 0, 1) := by decide +kernel
theorem dX6_readPad_44 : decode cX6_readPad 44 = .ok (.invokevirtual 111, 3) := by decide +kernel
theorem dX6_readPad_47 : decode cX6_readPad 47 = .ok (.istore_n 3, 1) := by decide +kernel
theorem dX6_readPad_48 : decode cX6_readPad 48 = .ok (.iload_n 3, 1) := by decide +kernel
theorem dX6_readPad_49 : decode cX6_readPad 49 = .ok (.ifCond .ne 10, 3) := by decide +kernel
theorem dX6_readPad_52 : decode cX6_readPad 52 = .ok (.aload_n 0, 1) := by decide +kernel
theorem dX6_readPad_53 : decode cX6_readPad 53 = .ok (.invokevirtual 115, 3) := by decide +kernel
theorem dX6_readPad_56 : decode cX6_readPad 56 = .ok (.ifCond .eq 7, 3) := by decide +kernel
theorem dX6_readPad_59 : decode cX6_readPad 59 = .ok (.iconst 1, 1) := by decide +kernel
theorem dX6_readPad_60 : decode cX6_readPad 60 = .ok (.goto 4, 3) := by decide +kernel
theorem dX6_readPad_63 : decode cX6_readPad 63 = .ok (.iconst 0, 1) := by decide +kernel
theorem dX6_readPad_64 : decode cX6_readPad 64 = .ok (.istore_n 2, 1) := by decide +kernel
theorem dX6_readPad_65 : decode cX6_readPad 65 = .ok (.iload_n 3, 1) := by decide +kernel
theorem dX6_readPad_66 : decode cX6_readPad 66 = .ok (.ifCond .ne 7, 3) := by decide +kernel
theorem dX6_readPad_69 : decode cX6_readPad 69 = .ok (.iconst 1, 1) := by decide +kernel
theorem dX6_readPad_70 : decode cX6_readPad 70 = .ok (.goto 4, 3) := by decide +kernel
theorem dX6_readPad_73 : decode cX6_readPad 73 = .ok (.iconst 0, 1) := by decide +kernel
theorem dX6_readPad_74 : decode cX6_readPad 74 = .ok (.istore_n 1, 1) := by decide +kernel
theorem dX6_readPad_75 : decode cX6_readPad 75 = .ok (.goto (-51), 3) := by decide +kernel
theorem dX6_readPad_78 : decode cX6_readPad 78 = .ok (.aload_n 0, 1) := by decide +kernel
theorem dX6_readPad_79 : decode cX6_readPad 79 = .ok (.invokevirtual 94, 3) := by decide +kernel
theorem dX6_readPad_82 : decode cX6_readPad 82 = .ok (.istore_n 3, 1) := by decide +kernel
theorem dX6_readPad_83 : decode cX6_readPad 83 = .ok (.aload_n 0, 1) := by decide +kernel
theorem dX6_readPad_84 : decode cX6_readPad 84 = .ok (.invokevirtual 118, 3) := by decide +kernel
theorem dX6_readPad_87 : decode cX6_readPad 87 = .ok (.istore_n 2, 1) := by decide +kernel
theorem dX6_readPad_88 : decode cX6_readPad 88 = .ok (.iload_n 3, 1) := by decide +kernel
theorem dX6_readPad_89 : decode cX6_readPad 89 = .ok (.bipush 41, 2) := by decide +kernel
theorem dX6_readPad_91 : decode cX6_readPad 91 = .ok (.if_icmp .eq 7, 3) := by decide +kernel
theorem dX6_readPad_94 : decode cX6_readPad 94 = .ok (.iconst 1, 1) := by decide +kernel
theorem dX6_readPad_95 : decode cX6_readPad 95 = .ok (.goto 4, 3) := by decide +kernel
theorem dX6_readPad_98 : decode cX6_readPad 98 = .ok (.iconst 0, 1) := by decide +kernel
theorem dX6_readPad_99 : decode cX6_readPad 99 = .ok (.istore_n 1, 1) := by decide +kernel
theorem dX6_readPad_100 : decode cX6_readPad 100 = .ok (.goto (-76), 3) := by decide +kernel
theorem dX6_readPad_103 : decode cX6_readPad 103 = .ok (.iload_n 2, 1) := by decide +kernel
theorem dX6_readPad_104 : decode cX6_readPad 104 = .ok (.ifCond .eq 14, 3) := by decide +kernel
theorem dX6_readPad_107 : decode cX6_readPad 107 = .ok (.iload_n 1, 1) := by decide +kernel
theorem dX6_readPad_108 : decode cX6_readPad 108 = .ok (.ifCond .ne 10, 3) := by decide +kernel
theorem dX6_readPad_111 : decode cX6_readPad 111 = .ok (.aload_n 0, 1) := by decide +kernel
theorem dX6_readPad_112 : decode cX6_readPad 112 = .ok (.getfield 105, 3) := by decide +kernel
theorem dX6_readPad_115 : decode cX6_readPad 115 = .ok (.ifCond .le 8, 3) := by decide +kernel
theorem dX6_readPad_118 : decode cX6_readPad 118 = .ok (.aload_n 0, 1) := by decide +kernel
theorem dX6_readPad_119 : decode cX6_readPad 119 = .ok (.getfield 77, 3) := by decide +kernel
theorem dX6_readPad_122 : decode cX6_readPad 122 = .ok (.ireturn, 1) := by decide +kernel
theorem dX6_readPad_123 : decode cX6_readPad 123 = .ok (.aload_n 0, 1) := by decide +kernel
theorem dX6_readPad_124 : decode cX6_readPad 124 = .ok (.bipush 43, 2) := by decide +kernel
theorem dX6_readPad_126 : decode cX6_readPad 126 = .ok (.invokevirtual 108, 3) := by decide +kernel
theorem dX6_readPad_129 : decode cX6_readPad 129 = .ok (.bipush (-6), 2) := by decide +kernel
theorem dX6_readPad_131 : decode cX6_readPad 131 = .ok (.ireturn, 1) := by decide +kernel
theorem dX6_fault_0 : decode cX6_fault 0 = .ok (.aload_n 0, 1) := by decide +kernel
theorem dX6_fault_1 : decode cX6_fault 1 = .ok (.invokevirtual 121, 3) := by decide +kernel
theorem dX6_fault_4 : decode cX6_fault 4 = .ok (.ireturn, 1) := by decide +kernel
theorem dX6_isFormula_0 : decode cX6_isFormula 0 = .ok (.iload_n 1, 1) := by decide +kernel
theorem dX6_isFormula_1 : decode cX6_isFormula 1 = .ok (.iconst 0, 1) := by decide +kernel
theorem dX6_isFormula_2 : decode cX6_isFormula 2 = .ok (.iconst 5, 1) := by decide +kernel
theorem dX6_isFormula_3 : decode cX6_isFormula 3 = .ok (.invokestatic 57, 3) := by decide +kernel
theorem dX6_isFormula_6 : decode cX6_isFormula 6 = .ok (.ifCond .eq 18, 3) := by decide +kernel
theorem dX6_isFormula_9 : decode cX6_isFormula 9 = .ok (.aload_n 0, 1) := by decide +kernel
theorem dX6_isFormula_10 : decode cX6_isFormula 10 = .ok (.getfield 7, 3) := by decide +kernel
theorem dX6_isFormula_13 : decode cX6_isFormula 13 = .ok (.iconst 2, 1) := by decide +kernel
theorem dX6_isFormula_14 : decode cX6_isFormula 14 = .ok (.iload_n 1, 1) := by decide +kernel
theorem dX6_isFormula_15 : decode cX6_isFormula 15 = .ok (.iadd, 1) := by decide +kernel
theorem dX6_isFormula_16 : decode cX6_isFormula 16 = .ok (.iaload, 1) := by decide +kernel
theorem dX6_isFormula_17 : decode cX6_isFormula 17 = .ok (.ifCond .le 7, 3) := by decide +kernel
theorem dX6_isFormula_20 : decode cX6_isFormula 20 = .ok (.iconst 1, 1) := by decide +kernel
theorem dX6_isFormula_21 : decode cX6_isFormula 21 = .ok (.goto 4, 3) := by decide +kernel
theorem dX6_isFormula_24 : decode cX6_isFormula 24 = .ok (.iconst 0, 1) := by decide +kernel
theorem dX6_isFormula_25 : decode cX6_isFormula 25 = .ok (.ireturn, 1) := by decide +kernel
theorem dX6_load_0 : decode cX6_load 0 = .ok (.iload_n 1, 1) := by decide +kernel
theorem dX6_load_1 : decode cX6_load 1 = .ok (.iconst 0, 1) := by decide +kernel
theorem dX6_load_2 : decode cX6_load 2 = .ok (.iconst 5, 1) := by decide +kernel
theorem dX6_load_3 : decode cX6_load 3 = .ok (.invokestatic 57, 3) := by decide +kernel
theorem dX6_load_6 : decode cX6_load 6 = .ok (.ifCond .ne 5, 3) := by decide +kernel
theorem dX6_load_9 : decode cX6_load 9 = .ok (.iconst (-1), 1) := by decide +kernel
theorem dX6_load_10 : decode cX6_load 10 = .ok (.ireturn, 1) := by decide +kernel
theorem dX6_load_11 : decode cX6_load 11 = .ok (.aload_n 0, 1) := by decide +kernel
theorem dX6_load_12 : decode cX6_load 12 = .ok (.invokevirtual 121, 3) := by decide +kernel
theorem dX6_load_15 : decode cX6_load 15 = .ok (.bipush (-6), 2) := by decide +kernel
theorem dX6_load_17 : decode cX6_load 17 = .ok (.if_icmp .eq 6, 3) := by decide +kernel
theorem dX6_load_20 : decode cX6_load 20 = .ok (.bipush (-3), 2) := by decide +kernel
theorem dX6_load_22 : decode cX6_load 22 = .ok (.ireturn, 1) := by decide +kernel
theorem dX6_load_23 : decode cX6_load 23 = .ok (.aload_n 0, 1) := by decide +kernel
theorem dX6_load_24 : decode cX6_load 24 = .ok (.invokevirtual 61, 3) := by decide +kernel
theorem dX6_load_27 : decode cX6_load 27 = .ok (.aload_n 0, 1) := by decide +kernel
theorem dX6_load_28 : decode cX6_load 28 = .ok (.getfield 7, 3) := by decide +kernel
theorem dX6_load_31 : decode cX6_load 31 = .ok (.iconst 2, 1) := by decide +kernel
theorem dX6_load_32 : decode cX6_load 32 = .ok (.iload_n 1, 1) := by decide +kernel
theorem dX6_load_33 : decode cX6_load 33 = .ok (.iadd, 1) := by decide +kernel
theorem dX6_load_34 : decode cX6_load 34 = .ok (.aload_n 0, 1) := by decide +kernel
theorem dX6_load_35 : decode cX6_load 35 = .ok (.getfield 80, 3) := by decide +kernel
theorem dX6_load_38 : decode cX6_load 38 = .ok (.iastore, 1) := by decide +kernel
theorem dX6_load_39 : decode cX6_load 39 = .ok (.iconst 0, 1) := by decide +kernel
theorem dX6_load_40 : decode cX6_load 40 = .ok (.istore_n 2, 1) := by decide +kernel
theorem dX6_load_41 : decode cX6_load 41 = .ok (.iload_n 2, 1) := by decide +kernel
theorem dX6_load_42 : decode cX6_load 42 = .ok (.aload_n 0, 1) := by decide +kernel
theorem dX6_load_43 : decode cX6_load 43 = .ok (.getfield 80, 3) := by decide +kernel
theorem dX6_load_46 : decode cX6_load 46 = .ok (.if_icmp .ge 55, 3) := by decide +kernel
theorem dX6_load_49 : decode cX6_load 49 = .ok (.aload_n 0, 1) := by decide +kernel
theorem dX6_load_50 : decode cX6_load 50 = .ok (.getfield 7, 3) := by decide +kernel
theorem dX6_load_53 : decode cX6_load 53 = .ok (.bipush 8, 2) := by decide +kernel
theorem dX6_load_55 : decode cX6_load 55 = .ok (.bipush 120, 2) := by decide +kernel
theorem dX6_load_57 : decode cX6_load 57 = .ok (.iload_n 1, 1) := by decide +kernel
theorem dX6_load_58 : decode cX6_load 58 = .ok (.imul, 1) := by decide +kernel
theorem dX6_load_59 : decode cX6_load 59 = .ok (.iadd, 1) := by decide +kernel
theorem dX6_load_60 : decode cX6_load 60 = .ok (.iconst 2, 1) := by decide +kernel
theorem dX6_load_61 : decode cX6_load 61 = .ok (.iload_n 2, 1) := by decide +kernel
theorem dX6_load_62 : decode cX6_load 62 = .ok (.imul, 1) := by decide +kernel
theorem dX6_load_63 : decode cX6_load 63 = .ok (.iadd, 1) := by decide +kernel
theorem dX6_load_64 : decode cX6_load 64 = .ok (.aload_n 0, 1) := by decide +kernel
theorem dX6_load_65 : decode cX6_load 65 = .ok (.getfield 36, 3) := by decide +kernel
theorem dX6_load_68 : decode cX6_load 68 = .ok (.iload_n 2, 1) := by decide +kernel
theorem dX6_load_69 : decode cX6_load 69 = .ok (.iaload, 1) := by decide +kernel
theorem dX6_load_70 : decode cX6_load 70 = .ok (.iastore, 1) := by decide +kernel
theorem dX6_load_71 : decode cX6_load 71 = .ok (.aload_n 0, 1) := by decide +kernel
theorem dX6_load_72 : decode cX6_load 72 = .ok (.getfield 7, 3) := by decide +kernel
theorem dX6_load_75 : decode cX6_load 75 = .ok (.bipush 8, 2) := by decide +kernel
theorem dX6_load_77 : decode cX6_load 77 = .ok (.bipush 120, 2) := by decide +kernel
theorem dX6_load_79 : decode cX6_load 79 = .ok (.iload_n 1, 1) := by decide +kernel
theorem dX6_load_80 : decode cX6_load 80 = .ok (.imul, 1) := by decide +kernel
theorem dX6_load_81 : decode cX6_load 81 = .ok (.iadd, 1) := by decide +kernel
theorem dX6_load_82 : decode cX6_load 82 = .ok (.iconst 2, 1) := by decide +kernel
theorem dX6_load_83 : decode cX6_load 83 = .ok (.iload_n 2, 1) := by decide +kernel
theorem dX6_load_84 : decode cX6_load 84 = .ok (.imul, 1) := by decide +kernel
theorem dX6_load_85 : decode cX6_load 85 = .ok (.iadd, 1) := by decide +kernel
theorem dX6_load_86 : decode cX6_load 86 = .ok (.iconst 1, 1) := by decide +kernel
theorem dX6_load_87 : decode cX6_load 87 = .ok (.iadd, 1) := by decide +kernel
theorem dX6_load_88 : decode cX6_load 88 = .ok (.aload_n 0, 1) := by decide +kernel
theorem dX6_load_89 : decode cX6_load 89 = .ok (.getfield 39, 3) := by decide +kernel
theorem dX6_load_92 : decode cX6_load 92 = .ok (.iload_n 2, 1) := by decide +kernel
theorem dX6_load_93 : decode cX6_load 93 = .ok (.iaload, 1) := by decide +kernel
theorem dX6_load_94 : decode cX6_load 94 = .ok (.iastore, 1) := by decide +kernel
theorem dX6_load_95 : decode cX6_load 95 = .ok (.iinc 2 1, 3) := by decide +kernel
theorem dX6_load_98 : decode cX6_load 98 = .ok (.goto (-57), 3) := by decide +kernel
theorem dX6_load_101 : decode cX6_load 101 = .ok (.aload_n 0, 1) := by decide +kernel
theorem dX6_load_102 : decode cX6_load 102 = .ok (.iconst 0, 1) := by decide +kernel
theorem dX6_load_103 : decode cX6_load 103 = .ok (.putfield 74, 3) := by decide +kernel
theorem dX6_load_106 : decode cX6_load 106 = .ok (.aload_n 0, 1) := by decide +kernel
theorem dX6_load_107 : decode cX6_load 107 = .ok (.getfield 80, 3) := by decide +kernel
theorem dX6_load_110 : decode cX6_load 110 = .ok (.ireturn, 1) := by decide +kernel
theorem dX6_power_0 : decode cX6_power 0 = .ok (.iload_n 2, 1) := by decide +kernel
theorem dX6_power_1 : decode cX6_power 1 = .ok (.iconst 2, 1) := by decide +kernel
theorem dX6_power_2 : decode cX6_power 2 = .ok (.if_icmp .ne 9, 3) := by decide +kernel
theorem dX6_power_5 : decode cX6_power 5 = .ok (.lload_n 0, 1) := by decide +kernel
theorem dX6_power_6 : decode cX6_power 6 = .ok (.lload_n 0, 1) := by decide +kernel
theorem dX6_power_7 : decode cX6_power 7 = .ok (.lmul, 1) := by decide +kernel
theorem dX6_power_8 : decode cX6_power 8 = .ok (.goto 8, 3) := by decide +kernel
theorem dX6_power_11 : decode cX6_power 11 = .ok (.lload_n 0, 1) := by decide +kernel
theorem dX6_power_12 : decode cX6_power 12 = .ok (.lload_n 0, 1) := by decide +kernel
theorem dX6_power_13 : decode cX6_power 13 = .ok (.lmul, 1) := by decide +kernel
theorem dX6_power_14 : decode cX6_power 14 = .ok (.lload_n 0, 1) := by decide +kernel
theorem dX6_power_15 : decode cX6_power 15 = .ok (.lmul, 1) := by decide +kernel
theorem dX6_power_16 : decode cX6_power 16 = .ok (.lreturn, 1) := by decide +kernel
theorem dX6_firstBit_0 : decode cX6_firstBit 0 = .ok (.lconst 1, 1) := by decide +kernel
theorem dX6_firstBit_1 : decode cX6_firstBit 1 = .ok (.lstore_n 3, 1) := by decide +kernel
theorem dX6_firstBit_2 : decode cX6_firstBit 2 = .ok (.ldc2_w 124, 3) := by decide +kernel
theorem dX6_firstBit_5 : decode cX6_firstBit 5 = .ok (.lload_n 3, 1) := by decide +kernel
theorem dX6_firstBit_6 : decode cX6_firstBit 6 = .ok (.lmul, 1) := by decide +kernel
theorem dX6_firstBit_7 : decode cX6_firstBit 7 = .ok (.iload_n 2, 1) := by decide +kernel
theorem dX6_firstBit_8 : decode cX6_firstBit 8 = .ok (.invokestatic 126, 3) := by decide +kernel
theorem dX6_firstBit_11 : decode cX6_firstBit 11 = .ok (.lload_n 0, 1) := by decide +kernel
theorem dX6_firstBit_12 : decode cX6_firstBit 12 = .ok (.lcmp, 1) := by decide +kernel
theorem dX6_firstBit_13 : decode cX6_firstBit 13 = .ok (.ifCond .gt 12, 3) := by decide +kernel
theorem dX6_firstBit_16 : decode cX6_firstBit 16 = .ok (.lload_n 3, 1) := by decide +kernel
theorem dX6_firstBit_17 : decode cX6_firstBit 17 = .ok (.ldc2_w 124, 3) := by decide +kernel
theorem dX6_firstBit_20 : decode cX6_firstBit 20 = .ok (.lmul, 1) := by decide +kernel
theorem dX6_firstBit_21 : decode cX6_firstBit 21 = .ok (.lstore_n 3, 1) := by decide +kernel
theorem dX6_firstBit_22 : decode cX6_firstBit 22 = .ok (.goto (-20), 3) := by decide +kernel
theorem dX6_firstBit_25 : decode cX6_firstBit 25 = .ok (.lload_n 0, 1) := by decide +kernel
theorem dX6_firstBit_26 : decode cX6_firstBit 26 = .ok (.lconst 0, 1) := by decide +kernel
theorem dX6_firstBit_27 : decode cX6_firstBit 27 = .ok (.lcmp, 1) := by decide +kernel
theorem dX6_firstBit_28 : decode cX6_firstBit 28 = .ok (.ifCond .ne 7, 3) := by decide +kernel
theorem dX6_firstBit_31 : decode cX6_firstBit 31 = .ok (.lconst 0, 1) := by decide +kernel
theorem dX6_firstBit_32 : decode cX6_firstBit 32 = .ok (.goto 4, 3) := by decide +kernel
theorem dX6_firstBit_35 : decode cX6_firstBit 35 = .ok (.lload_n 3, 1) := by decide +kernel
theorem dX6_firstBit_36 : decode cX6_firstBit 36 = .ok (.lreturn, 1) := by decide +kernel
theorem dX6_floorRoot_0 : decode cX6_floorRoot 0 = .ok (.lconst 0, 1) := by decide +kernel
theorem dX6_floorRoot_1 : decode cX6_floorRoot 1 = .ok (.lstore_n 3, 1) := by decide +kernel
theorem dX6_floorRoot_2 : decode cX6_floorRoot 2 = .ok (.lload_n 0, 1) := by decide +kernel
theorem dX6_floorRoot_3 : decode cX6_floorRoot 3 = .ok (.iload_n 2, 1) := by decide +kernel
theorem dX6_floorRoot_4 : decode cX6_floorRoot 4 = .ok (.invokestatic 130, 3) := by decide +kernel
theorem dX6_floorRoot_7 : decode cX6_floorRoot 7 = .ok (.lstore 5, 2) := by decide +kernel
theorem dX6_floorRoot_9 : decode cX6_floorRoot 9 = .ok (.lload 5, 2) := by decide +kernel
theorem dX6_floorRoot_11 : decode cX6_floorRoot 11 = .ok (.lconst 0, 1) := by decide +kernel
theorem dX6_floorRoot_12 : decode cX6_floorRoot 12 = .ok (.lcmp, 1) := by decide +kernel
theorem dX6_floorRoot_13 : decode cX6_floorRoot 13 = .ok (.ifCond .le 36, 3) := by decide +kernel
theorem dX6_floorRoot_16 : decode cX6_floorRoot 16 = .ok (.lload_n 3, 1) := by decide +kernel
theorem dX6_floorRoot_17 : decode cX6_floorRoot 17 = .ok (.lload_n 3, 1) := by decide +kernel
theorem dX6_floorRoot_18 : decode cX6_floorRoot 18 = .ok (.lload 5, 2) := by decide +kernel
theorem dX6_floorRoot_20 : decode cX6_floorRoot 20 = .ok (.ladd, 1) := by decide +kernel
theorem dX6_floorRoot_21 : decode cX6_floorRoot 21 = .ok (.iload_n 2, 1) := by decide +kernel
theorem dX6_floorRoot_22 : decode cX6_floorRoot 22 = .ok (.invokestatic 126, 3) := by decide +kernel
theorem dX6_floorRoot_25 : decode cX6_floorRoot 25 = .ok (.lload_n 0, 1) := by decide +kernel
theorem dX6_floorRoot_26 : decode cX6_floorRoot 26 = .ok (.lcmp, 1) := by decide +kernel
theorem dX6_floorRoot_27 : decode cX6_floorRoot 27 = .ok (.ifCond .gt 8, 3) := by decide +kernel
theorem dX6_floorRoot_30 : decode cX6_floorRoot 30 = .ok (.lload 5, 2) := by decide +kernel
theorem dX6_floorRoot_32 : decode cX6_floorRoot 32 = .ok (.goto 4, 3) := by decide +kernel
theorem dX6_floorRoot_35 : decode cX6_floorRoot 35 = .ok (.lconst 0, 1) := by decide +kernel
theorem dX6_floorRoot_36 : decode cX6_floorRoot 36 = .ok (.ladd, 1) := by decide +kernel
theorem dX6_floorRoot_37 : decode cX6_floorRoot 37 = .ok (.lstore_n 3, 1) := by decide +kernel
theorem dX6_floorRoot_38 : decode cX6_floorRoot 38 = .ok (.lload 5, 2) := by decide +kernel
theorem dX6_floorRoot_40 : decode cX6_floorRoot 40 = .ok (.ldc2_w 124, 3) := by decide +kernel
theorem dX6_floorRoot_43 : decode cX6_floorRoot 43 = .ok (.ldiv, 1) := by decide +kernel
theorem dX6_floorRoot_44 : decode cX6_floorRoot 44 = .ok (.lstore 5, 2) := by decide +kernel
theorem dX6_floorRoot_46 : decode cX6_floorRoot 46 = .ok (.goto (-37), 3) := by decide +kernel
theorem dX6_floorRoot_49 : decode cX6_floorRoot 49 = .ok (.lload_n 3, 1) := by decide +kernel
theorem dX6_floorRoot_50 : decode cX6_floorRoot 50 = .ok (.lreturn, 1) := by decide +kernel
theorem dX6_rounded_0 : decode cX6_rounded 0 = .ok (.lload_n 1, 1) := by decide +kernel
theorem dX6_rounded_1 : decode cX6_rounded 1 = .ok (.iload_n 3, 1) := by decide +kernel
theorem dX6_rounded_2 : decode cX6_rounded 2 = .ok (.invokestatic 133, 3) := by decide +kernel
theorem dX6_rounded_5 : decode cX6_rounded 5 = .ok (.lstore 4, 2) := by decide +kernel
theorem dX6_rounded_7 : decode cX6_rounded 7 = .ok (.lload_n 1, 1) := by decide +kernel
theorem dX6_rounded_8 : decode cX6_rounded 8 = .ok (.lload 4, 2) := by decide +kernel
theorem dX6_rounded_10 : decode cX6_rounded 10 = .ok (.iload_n 3, 1) := by decide +kernel
theorem dX6_rounded_11 : decode cX6_rounded 11 = .ok (.invokestatic 126, 3) := by decide +kernel
theorem dX6_rounded_14 : decode cX6_rounded 14 = .ok (.lsub, 1) := by decide +kernel
theorem dX6_rounded_15 : decode cX6_rounded 15 = .ok (.lstore 6, 2) := by decide +kernel
theorem dX6_rounded_17 : decode cX6_rounded 17 = .ok (.iload_n 3, 1) := by decide +kernel
theorem dX6_rounded_18 : decode cX6_rounded 18 = .ok (.iconst 2, 1) := by decide +kernel
theorem dX6_rounded_19 : decode cX6_rounded 19 = .ok (.if_icmp .ne 19, 3) := by decide +kernel
theorem dX6_rounded_22 : decode cX6_rounded 22 = .ok (.lload 6, 2) := by decide +kernel
theorem dX6_rounded_24 : decode cX6_rounded 24 = .ok (.lload 4, 2) := by decide +kernel
theorem dX6_rounded_26 : decode cX6_rounded 26 = .ok (.lcmp, 1) := by decide +kernel
theorem dX6_rounded_27 : decode cX6_rounded 27 = .ok (.ifCond .le 7, 3) := by decide +kernel
theorem dX6_rounded_30 : decode cX6_rounded 30 = .ok (.iconst 1, 1) := by decide +kernel
theorem dX6_rounded_31 : decode cX6_rounded 31 = .ok (.goto 33, 3) := by decide +kernel
theorem dX6_rounded_34 : decode cX6_rounded 34 = .ok (.iconst 0, 1) := by decide +kernel
theorem dX6_rounded_35 : decode cX6_rounded 35 = .ok (.goto 29, 3) := by decide +kernel
theorem dX6_rounded_38 : decode cX6_rounded 38 = .ok (.ldc2_w 136, 3) := by decide +kernel
theorem dX6_rounded_41 : decode cX6_rounded 41 = .ok (.lload_n 1, 1) := by decide +kernel
theorem dX6_rounded_42 : decode cX6_rounded 42 = .ok (.lmul, 1) := by decide +kernel
theorem dX6_rounded_43 : decode cX6_rounded 43 = .ok (.ldc2_w 124, 3) := by decide +kernel
theorem dX6_rounded_46 : decode cX6_rounded 46 = .ok (.lload 4, 2) := by decide +kernel
theorem dX6_rounded_48 : decode cX6_rounded 48 = .ok (.lmul, 1) := by decide +kernel
theorem dX6_rounded_49 : decode cX6_rounded 49 = .ok (.lconst 1, 1) := by decide +kernel
theorem dX6_rounded_50 : decode cX6_rounded 50 = .ok (.ladd, 1) := by decide +kernel
theorem dX6_rounded_51 : decode cX6_rounded 51 = .ok (.iconst 3, 1) := by decide +kernel
theorem dX6_rounded_52 : decode cX6_rounded 52 = .ok (.invokestatic 126, 3) := by decide +kernel
theorem dX6_rounded_55 : decode cX6_rounded 55 = .ok (.lcmp, 1) := by decide +kernel
theorem dX6_rounded_56 : decode cX6_rounded 56 = .ok (.ifCond .le 7, 3) := by decide +kernel
theorem dX6_rounded_59 : decode cX6_rounded 59 = .ok (.iconst 1, 1) := by decide +kernel
theorem dX6_rounded_60 : decode cX6_rounded 60 = .ok (.goto 4, 3) := by decide +kernel
theorem dX6_rounded_63 : decode cX6_rounded 63 = .ok (.iconst 0, 1) := by decide +kernel
theorem dX6_rounded_64 : decode cX6_rounded 64 = .ok (.istore 8, 2) := by decide +kernel
theorem dX6_rounded_66 : decode cX6_rounded 66 = .ok (.aload_n 0, 1) := by decide +kernel
theorem dX6_rounded_67 : decode cX6_rounded 67 = .ok (.getfield 7, 3) := by decide +kernel
theorem dX6_rounded_70 : decode cX6_rounded 70 = .ok (.iconst 0, 1) := by decide +kernel
theorem dX6_rounded_71 : decode cX6_rounded 71 = .ok (.iaload, 1) := by decide +kernel
theorem dX6_rounded_72 : decode cX6_rounded 72 = .ok (.iconst 2, 1) := by decide +kernel
theorem dX6_rounded_73 : decode cX6_rounded 73 = .ok (.if_icmp .ne 18, 3) := by decide +kernel
theorem dX6_rounded_76 : decode cX6_rounded 76 = .ok (.lload 6, 2) := by decide +kernel
theorem dX6_rounded_78 : decode cX6_rounded 78 = .ok (.lconst 0, 1) := by decide +kernel
theorem dX6_rounded_79 : decode cX6_rounded 79 = .ok (.lcmp, 1) := by decide +kernel
theorem dX6_rounded_80 : decode cX6_rounded 80 = .ok (.ifCond .eq 7, 3) := by decide +kernel
theorem dX6_rounded_83 : decode cX6_rounded 83 = .ok (.iconst 1, 1) := by decide +kernel
theorem dX6_rounded_84 : decode cX6_rounded 84 = .ok (.goto 27, 3) := by decide +kernel
theorem dX6_rounded_87 : decode cX6_rounded 87 = .ok (.iconst 0, 1) := by decide +kernel
theorem dX6_rounded_88 : decode cX6_rounded 88 = .ok (.goto 23, 3) := by decide +kernel
theorem dX6_rounded_91 : decode cX6_rounded 91 = .ok (.aload_n 0, 1) := by decide +kernel
theorem dX6_rounded_92 : decode cX6_rounded 92 = .ok (.getfield 7, 3) := by decide +kernel
theorem dX6_rounded_95 : decode cX6_rounded 95 = .ok (.iconst 0, 1) := by decide +kernel
theorem dX6_rounded_96 : decode cX6_rounded 96 = .ok (.iaload, 1) := by decide +kernel
theorem dX6_rounded_97 : decode cX6_rounded 97 = .ok (.iconst 1, 1) := by decide +kernel
theorem dX6_rounded_98 : decode cX6_rounded 98 = .ok (.if_icmp .ne 12, 3) := by decide +kernel
theorem dX6_rounded_101 : decode cX6_rounded 101 = .ok (.iload 8, 2) := by decide +kernel
theorem dX6_rounded_103 : decode cX6_rounded 103 = .ok (.ifCond .eq 7, 3) := by decide +kernel
theorem dX6_rounded_106 : decode cX6_rounded 106 = .ok (.iconst 1, 1) := by decide +kernel
theorem dX6_rounded_107 : decode cX6_rounded 107 = .ok (.goto 4, 3) := by decide +kernel
theorem dX6_rounded_110 : decode cX6_rounded 110 = .ok (.iconst 0, 1) := by decide +kernel
theorem dX6_rounded_111 : decode cX6_rounded 111 = .ok (.istore 9, 2) := by decide +kernel
theorem dX6_rounded_113 : decode cX6_rounded 113 = .ok (.iload 9, 2) := by decide +kernel
theorem dX6_rounded_115 : decode cX6_rounded 115 = .ok (.ifCond .eq 10, 3) := by decide +kernel
theorem dX6_rounded_118 : decode cX6_rounded 118 = .ok (.lload 4, 2) := by decide +kernel
theorem dX6_rounded_120 : decode cX6_rounded 120 = .ok (.lconst 1, 1) := by decide +kernel
theorem dX6_rounded_121 : decode cX6_rounded 121 = .ok (.ladd, 1) := by decide +kernel
theorem dX6_rounded_122 : decode cX6_rounded 122 = .ok (.goto 5, 3) := by decide +kernel
theorem dX6_rounded_125 : decode cX6_rounded 125 = .ok (.lload 4, 2) := by decide +kernel
theorem dX6_rounded_127 : decode cX6_rounded 127 = .ok (.lreturn, 1) := by decide +kernel
theorem dX6_times_0 : decode cX6_times 0 = .ok (.lload_n 0, 1) := by decide +kernel
theorem dX6_times_1 : decode cX6_times 1 = .ok (.lconst 0, 1) := by decide +kernel
theorem dX6_times_2 : decode cX6_times 2 = .ok (.lcmp, 1) := by decide +kernel
theorem dX6_times_3 : decode cX6_times 3 = .ok (.ifCond .eq 19, 3) := by decide +kernel
theorem dX6_times_6 : decode cX6_times 6 = .ok (.lload_n 2, 1) := by decide +kernel
theorem dX6_times_7 : decode cX6_times 7 = .ok (.ldc2_w 51, 3) := by decide +kernel
theorem dX6_times_10 : decode cX6_times 10 = .ok (.lload_n 0, 1) := by decide +kernel
theorem dX6_times_11 : decode cX6_times 11 = .ok (.ldiv, 1) := by decide +kernel
theorem dX6_times_12 : decode cX6_times 12 = .ok (.lcmp, 1) := by decide +kernel
theorem dX6_times_13 : decode cX6_times 13 = .ok (.ifCond .le 9, 3) := by decide +kernel
theorem dX6_times_16 : decode cX6_times 16 = .ok (.ldc2_w 138, 3) := by decide +kernel
theorem dX6_times_19 : decode cX6_times 19 = .ok (.goto 6, 3) := by decide +kernel
theorem dX6_times_22 : decode cX6_times 22 = .ok (.lload_n 0, 1) := by decide +kernel
theorem dX6_times_23 : decode cX6_times 23 = .ok (.lload_n 2, 1) := by decide +kernel
theorem dX6_times_24 : decode cX6_times 24 = .ok (.lmul, 1) := by decide +kernel
theorem dX6_times_25 : decode cX6_times 25 = .ok (.lreturn, 1) := by decide +kernel
theorem dX6_reckon_0 : decode cX6_reckon 0 = .ok (.iconst 0, 1) := by decide +kernel
theorem dX6_reckon_1 : decode cX6_reckon 1 = .ok (.istore_n 2, 1) := by decide +kernel
theorem dX6_reckon_2 : decode cX6_reckon 2 = .ok (.aload_n 0, 1) := by decide +kernel
theorem dX6_reckon_3 : decode cX6_reckon 3 = .ok (.bipush (-6), 2) := by decide +kernel
theorem dX6_reckon_5 : decode cX6_reckon 5 = .ok (.putfield 140, 3) := by decide +kernel
theorem dX6_reckon_8 : decode cX6_reckon 8 = .ok (.aload_n 0, 1) := by decide +kernel
theorem dX6_reckon_9 : decode cX6_reckon 9 = .ok (.iconst 0, 1) := by decide +kernel
theorem dX6_reckon_10 : decode cX6_reckon 10 = .ok (.putfield 143, 3) := by decide +kernel
theorem dX6_reckon_13 : decode cX6_reckon 13 = .ok (.iconst 0, 1) := by decide +kernel
theorem dX6_reckon_14 : decode cX6_reckon 14 = .ok (.istore_n 3, 1) := by decide +kernel
theorem dX6_reckon_15 : decode cX6_reckon 15 = .ok (.iload_n 3, 1) := by decide +kernel
theorem dX6_reckon_16 : decode cX6_reckon 16 = .ok (.aload_n 0, 1) := by decide +kernel
theorem dX6_reckon_17 : decode cX6_reckon 17 = .ok (.getfield 7, 3) := by decide +kernel
theorem dX6_reckon_20 : decode cX6_reckon 20 = .ok (.iconst 2, 1) := by decide +kernel
theorem dX6_reckon_21 : decode cX6_reckon 21 = .ok (.iload_n 1, 1) := by decide +kernel
theorem dX6_reckon_22 : decode cX6_reckon 22 = .ok (.iadd, 1) := by decide +kernel
theorem dX6_reckon_23 : decode cX6_reckon 23 = .ok (.iaload, 1) := by decide +kernel
theorem dX6_reckon_24 : decode cX6_reckon 24 = .ok (.if_icmp .ge 258, 3) := by decide +kernel
theorem dX6_reckon_27 : decode cX6_reckon 27 = .ok (.aload_n 0, 1) := by decide +kernel
theorem dX6_reckon_28 : decode cX6_reckon 28 = .ok (.getfield 7, 3) := by decide +kernel
theorem dX6_reckon_31 : decode cX6_reckon 31 = .ok (.bipush 8, 2) := by decide +kernel
theorem dX6_reckon_33 : decode cX6_reckon 33 = .ok (.bipush 120, 2) := by decide +kernel
theorem dX6_reckon_35 : decode cX6_reckon 35 = .ok (.iload_n 1, 1) := by decide +kernel
theorem dX6_reckon_36 : decode cX6_reckon 36 = .ok (.imul, 1) := by decide +kernel
theorem dX6_reckon_37 : decode cX6_reckon 37 = .ok (.iadd, 1) := by decide +kernel
theorem dX6_reckon_38 : decode cX6_reckon 38 = .ok (.iconst 2, 1) := by decide +kernel
theorem dX6_reckon_39 : decode cX6_reckon 39 = .ok (.iload_n 3, 1) := by decide +kernel
theorem dX6_reckon_40 : decode cX6_reckon 40 = .ok (.imul, 1) := by decide +kernel
theorem dX6_reckon_41 : decode cX6_reckon 41 = .ok (.iadd, 1) := by decide +kernel
theorem dX6_reckon_42 : decode cX6_reckon 42 = .ok (.iaload, 1) := by decide +kernel
theorem dX6_reckon_43 : decode cX6_reckon 43 = .ok (.istore 4, 2) := by decide +kernel
theorem dX6_reckon_45 : decode cX6_reckon 45 = .ok (.aload_n 0, 1) := by decide +kernel
theorem dX6_reckon_46 : decode cX6_reckon 46 = .ok (.getfield 7, 3) := by decide +kernel
theorem dX6_reckon_49 : decode cX6_reckon 49 = .ok (.bipush 8, 2) := by decide +kernel
theorem dX6_reckon_51 : decode cX6_reckon 51 = .ok (.bipush 120, 2) := by decide +kernel
theorem dX6_reckon_53 : decode cX6_reckon 53 = .ok (.iload_n 1, 1) := by decide +kernel
theorem dX6_reckon_54 : decode cX6_reckon 54 = .ok (.imul, 1) := by decide +kernel
theorem dX6_reckon_55 : decode cX6_reckon 55 = .ok (.iadd, 1) := by decide +kernel
theorem dX6_reckon_56 : decode cX6_reckon 56 = .ok (.iconst 2, 1) := by decide +kernel
theorem dX6_reckon_57 : decode cX6_reckon 57 = .ok (.iload_n 3, 1) := by decide +kernel
theorem dX6_reckon_58 : decode cX6_reckon 58 = .ok (.imul, 1) := by decide +kernel
theorem dX6_reckon_59 : decode cX6_reckon 59 = .ok (.iadd, 1) := by decide +kernel
theorem dX6_reckon_60 : decode cX6_reckon 60 = .ok (.iconst 1, 1) := by decide +kernel
theorem dX6_reckon_61 : decode cX6_reckon 61 = .ok (.iadd, 1) := by decide +kernel
theorem dX6_reckon_62 : decode cX6_reckon 62 = .ok (.iaload, 1) := by decide +kernel
theorem dX6_reckon_63 : decode cX6_reckon 63 = .ok (.istore 5, 2) := by decide +kernel
theorem dX6_reckon_65 : decode cX6_reckon 65 = .ok (.iload 4, 2) := by decide +kernel
theorem dX6_reckon_67 : decode cX6_reckon 67 = .ok (.iconst 2, 1) := by decide +kernel
theorem dX6_reckon_68 : decode cX6_reckon 68 = .ok (.if_icmp .ge 26, 3) := by decide +kernel
theorem dX6_reckon_71 : decode cX6_reckon 71 = .ok (.iload 4, 2) := by decide +kernel
theorem dX6_reckon_73 : decode cX6_reckon 73 = .ok (.ifCond .ne 9, 3) := by decide +kernel
theorem dX6_reckon_76 : decode cX6_reckon 76 = .ok (.iload 5, 2) := by decide +kernel
theorem dX6_reckon_78 : decode cX6_reckon 78 = .ok (.i2l, 1) := by decide +kernel
theorem dX6_reckon_79 : decode cX6_reckon 79 = .ok (.goto 10, 3) := by decide +kernel
theorem dX6_reckon_82 : decode cX6_reckon 82 = .ok (.aload_n 0, 1) := by decide +kernel
theorem dX6_reckon_83 : decode cX6_reckon 83 = .ok (.getfield 13, 3) := by decide +kernel
theorem dX6_reckon_86 : decode cX6_reckon 86 = .ok (.iload 5, 2) := by decide +kernel
theorem dX6_reckon_88 : decode cX6_reckon 88 = .ok (.laload, 1) := by decide +kernel
theorem dX6_reckon_89 : decode cX6_reckon 89 = .ok (.lstore 6, 2) := by decide +kernel
theorem dX6_reckon_91 : decode cX6_reckon 91 = .ok (.goto 135, 3) := by decide +kernel
theorem dX6_reckon_94 : decode cX6_reckon 94 = .ok (.iload 4, 2) := by decide +kernel
theorem dX6_reckon_96 : decode cX6_reckon 96 = .ok (.bipush 43, 2) := by decide +kernel
theorem dX6_reckon_98 : decode cX6_reckon 98 = .ok (.if_icmp .eq 17, 3) := by decide +kernel
theorem dX6_reckon_101 : decode cX6_reckon 101 = .ok (.iload 4, 2) := by decide +kernel
theorem dX6_reckon_103 : decode cX6_reckon 103 = .ok (.bipush 45, 2) := by decide +kernel
theorem dX6_reckon_105 : decode cX6_reckon 105 = .ok (.if_icmp .eq 10, 3) := by decide +kernel
theorem dX6_reckon_108 : decode cX6_reckon 108 = .ok (.iload 4, 2) := by decide +kernel
theorem dX6_reckon_110 : decode cX6_reckon 110 = .ok (.bipush 42, 2) := by decide +kernel
theorem dX6_reckon_112 : decode cX6_reckon 112 = .ok (.if_icmp .ne 66, 3) := by decide +kernel
theorem dX6_reckon_115 : decode cX6_reckon 115 = .ok (.iinc 2 (-2), 3) := by decide +kernel
theorem dX6_reckon_118 : decode cX6_reckon 118 = .ok (.aload_n 0, 1) := by decide +kernel
theorem dX6_reckon_119 : decode cX6_reckon 119 = .ok (.getfield 48, 3) := by decide +kernel
theorem dX6_reckon_122 : decode cX6_reckon 122 = .ok (.iload_n 2, 1) := by decide +kernel
theorem dX6_reckon_123 : decode cX6_reckon 123 = .ok (.laload, 1) := by decide +kernel
theorem dX6_reckon_124 : decode cX6_reckon 124 = .ok (.lstore 8, 2) := by decide +kernel
theorem dX6_reckon_126 : decode cX6_reckon 126 = .ok (.aload_n 0, 1) := by decide +kernel
theorem dX6_reckon_127 : decode cX6_reckon 127 = .ok (.getfield 48, 3) := by decide +kernel
theorem dX6_reckon_130 : decode cX6_reckon 130 = .ok (.iload_n 2, 1) := by decide +kernel
theorem dX6_reckon_131 : decode cX6_reckon 131 = .ok (.iconst 1, 1) := by decide +kernel
theorem dX6_reckon_132 : decode cX6_reckon 132 = .ok (.iadd, 1) := by decide +kernel
theorem dX6_reckon_133 : decode cX6_reckon 133 = .ok (.laload, 1) := by decide +kernel
theorem dX6_reckon_134 : decode cX6_reckon 134 = .ok (.lstore 10, 2) := by decide +kernel
theorem dX6_reckon_136 : decode cX6_reckon 136 = .ok (.iload 4, 2) := by decide +kernel
theorem dX6_reckon_138 : decode cX6_reckon 138 = .ok (.bipush 43, 2) := by decide +kernel
theorem dX6_reckon_140 : decode cX6_reckon 140 = .ok (.if_icmp .ne 11, 3) := by decide +kernel
theorem dX6_reckon_143 : decode cX6_reckon 143 = .ok (.lload 8, 2) := by decide +kernel
theorem dX6_reckon_145 : decode cX6_reckon 145 = .ok (.lload 10, 2) := by decide +kernel
theorem dX6_reckon_147 : decode cX6_reckon 147 = .ok (.ladd, 1) := by decide +kernel
theorem dX6_reckon_148 : decode cX6_reckon 148 = .ok (.goto 25, 3) := by decide +kernel
theorem dX6_reckon_151 : decode cX6_reckon 151 = .ok (.iload 4, 2) := by decide +kernel
theorem dX6_reckon_153 : decode cX6_reckon 153 = .ok (.bipush 45, 2) := by decide +kernel
theorem dX6_reckon_155 : decode cX6_reckon 155 = .ok (.if_icmp .ne 11, 3) := by decide +kernel
theorem dX6_reckon_158 : decode cX6_reckon 158 = .ok (.lload 8, 2) := by decide +kernel
theorem dX6_reckon_160 : decode cX6_reckon 160 = .ok (.lload 10, 2) := by decide +kernel
theorem dX6_reckon_162 : decode cX6_reckon 162 = .ok (.lsub, 1) := by decide +kernel
theorem dX6_reckon_163 : decode cX6_reckon 163 = .ok (.goto 10, 3) := by decide +kernel
theorem dX6_reckon_166 : decode cX6_reckon 166 = .ok (.lload 8, 2) := by decide +kernel
theorem dX6_reckon_168 : decode cX6_reckon 168 = .ok (.lload 10, 2) := by decide +kernel
theorem dX6_reckon_170 : decode cX6_reckon 170 = .ok (.invokestatic 146, 3) := by decide +kernel
theorem dX6_reckon_173 : decode cX6_reckon 173 = .ok (.lstore 6, 2) := by decide +kernel
theorem dX6_reckon_175 : decode cX6_reckon 175 = .ok (.goto 51, 3) := by decide +kernel
theorem dX6_reckon_178 : decode cX6_reckon 178 = .ok (.iinc 2 (-1), 3) := by decide +kernel
theorem dX6_reckon_181 : decode cX6_reckon 181 = .ok (.aload_n 0, 1) := by decide +kernel
theorem dX6_reckon_182 : decode cX6_reckon 182 = .ok (.getfield 48, 3) := by decide +kernel
theorem dX6_reckon_185 : decode cX6_reckon 185 = .ok (.iload_n 2, 1) := by decide +kernel
theorem dX6_reckon_186 : decode cX6_reckon 186 = .ok (.laload, 1) := by decide +kernel
theorem dX6_reckon_187 : decode cX6_reckon 187 = .ok (.lstore 8, 2) := by decide +kernel
theorem dX6_reckon_189 : decode cX6_reckon 189 = .ok (.iload 4, 2) := by decide +kernel
theorem dX6_reckon_191 : decode cX6_reckon 191 = .ok (.bipush 115, 2) := by decide +kernel
theorem dX6_reckon_193 : decode cX6_reckon 193 = .ok (.if_icmp .ne 13, 3) := by decide +kernel
theorem dX6_reckon_196 : decode cX6_reckon 196 = .ok (.lload 8, 2) := by decide +kernel
theorem dX6_reckon_198 : decode cX6_reckon 198 = .ok (.lload 8, 2) := by decide +kernel
theorem dX6_reckon_200 : decode cX6_reckon 200 = .ok (.invokestatic 146, 3) := by decide +kernel
theorem dX6_reckon_203 : decode cX6_reckon 203 = .ok (.goto 21, 3) := by decide +kernel
theorem dX6_reckon_206 : decode cX6_reckon 206 = .ok (.aload_n 0, 1) := by decide +kernel
theorem dX6_reckon_207 : decode cX6_reckon 207 = .ok (.lload 8, 2) := by decide +kernel
theorem dX6_reckon_209 : decode cX6_reckon 209 = .ok (.iload 4, 2) := by decide +kernel
theorem dX6_reckon_211 : decode cX6_reckon 211 = .ok (.bipush 113, 2) := by decide +kernel
theorem dX6_reckon_213 : decode cX6_reckon 213 = .ok (.if_icmp .ne 7, 3) := by decide +kernel
theorem dX6_reckon_216 : decode cX6_reckon 216 = .ok (.iconst 2, 1) := by decide +kernel
theorem dX6_reckon_217 : decode cX6_reckon 217 = .ok (.goto 4, 3) := by decide +kernel
theorem dX6_reckon_220 : decode cX6_reckon 220 = .ok (.iconst 3, 1) := by decide +kernel
theorem dX6_reckon_221 : decode cX6_reckon 221 = .ok (.invokevirtual 150, 3) := by decide +kernel
theorem dX6_reckon_224 : decode cX6_reckon 224 = .ok (.lstore 6, 2) := by decide +kernel
theorem dX6_reckon_226 : decode cX6_reckon 226 = .ok (.lload 6, 2) := by decide +kernel
theorem dX6_reckon_228 : decode cX6_reckon 228 = .ok (.invokestatic 66, 3) := by decide +kernel
theorem dX6_reckon_231 : decode cX6_reckon 231 = .ok (.ifCond .ne 26, 3) := by decide +kernel
theorem dX6_reckon_234 : decode cX6_reckon 234 = .ok (.aload_n 0, 1) := by decide +kernel
theorem dX6_reckon_235 : decode cX6_reckon 235 = .ok (.iload_n 3, 1) := by decide +kernel
theorem dX6_reckon_236 : decode cX6_reckon 236 = .ok (.putfield 140, 3) := by decide +kernel
theorem dX6_reckon_239 : decode cX6_reckon 239 = .ok (.aload_n 0, 1) := by decide +kernel
theorem dX6_reckon_240 : decode cX6_reckon 240 = .ok (.lload 6, 2) := by decide +kernel
theorem dX6_reckon_242 : decode cX6_reckon 242 = .ok (.lconst 0, 1) := by decide +kernel
theorem dX6_reckon_243 : decode cX6_reckon 243 = .ok (.lcmp, 1) := by decide +kernel
theorem dX6_reckon_244 : decode cX6_reckon 244 = .ok (.ifCond .ge 7, 3) := by decide +kernel
theorem dX6_reckon_247 : decode cX6_reckon 247 = .ok (.iconst 2, 1) := by decide +kernel
theorem dX6_reckon_248 : decode cX6_reckon 248 = .ok (.goto 4, 3) := by decide +kernel
theorem dX6_reckon_251 : decode cX6_reckon 251 = .ok (.iconst 1, 1) := by decide +kernel
theorem dX6_reckon_252 : decode cX6_reckon 252 = .ok (.putfield 143, 3) := by decide +kernel
theorem dX6_reckon_255 : decode cX6_reckon 255 = .ok (.iconst 0, 1) := by decide +kernel
theorem dX6_reckon_256 : decode cX6_reckon 256 = .ok (.ireturn, 1) := by decide +kernel
theorem dX6_reckon_257 : decode cX6_reckon 257 = .ok (.aload_n 0, 1) := by decide +kernel
theorem dX6_reckon_258 : decode cX6_reckon 258 = .ok (.getfield 45, 3) := by decide +kernel
theorem dX6_reckon_261 : decode cX6_reckon 261 = .ok (.iload_n 3, 1) := by decide +kernel
theorem dX6_reckon_262 : decode cX6_reckon 262 = .ok (.lload 6, 2) := by decide +kernel
theorem dX6_reckon_264 : decode cX6_reckon 264 = .ok (.lastore, 1) := by decide +kernel
theorem dX6_reckon_265 : decode cX6_reckon 265 = .ok (.aload_n 0, 1) := by decide +kernel
theorem dX6_reckon_266 : decode cX6_reckon 266 = .ok (.getfield 48, 3) := by decide +kernel
theorem dX6_reckon_269 : decode cX6_reckon 269 = .ok (.iload_n 2, 1) := by decide +kernel
theorem dX6_reckon_270 : decode cX6_reckon 270 = .ok (.lload 6, 2) := by decide +kernel
theorem dX6_reckon_272 : decode cX6_reckon 272 = .ok (.lastore, 1) := by decide +kernel
theorem dX6_reckon_273 : decode cX6_reckon 273 = .ok (.iinc 2 1, 3) := by decide +kernel
theorem dX6_reckon_276 : decode cX6_reckon 276 = .ok (.iinc 3 1, 3) := by decide +kernel
theorem dX6_reckon_279 : decode cX6_reckon 279 = .ok (.goto (-264), 3) := by decide +kernel
theorem dX6_reckon_282 : decode cX6_reckon 282 = .ok (.iconst 1, 1) := by decide +kernel
theorem dX6_reckon_283 : decode cX6_reckon 283 = .ok (.ireturn, 1) := by decide +kernel
theorem dX6_assign_0 : decode cX6_assign 0 = .ok (.iload_n 1, 1) := by decide +kernel
theorem dX6_assign_1 : decode cX6_assign 1 = .ok (.iconst 0, 1) := by decide +kernel
theorem dX6_assign_2 : decode cX6_assign 2 = .ok (.bipush 7, 2) := by decide +kernel
theorem dX6_assign_4 : decode cX6_assign 4 = .ok (.invokestatic 57, 3) := by decide +kernel
theorem dX6_assign_7 : decode cX6_assign 7 = .ok (.ifCond .eq 11, 3) := by decide +kernel
theorem dX6_assign_10 : decode cX6_assign 10 = .ok (.aload_n 0, 1) := by decide +kernel
theorem dX6_assign_11 : decode cX6_assign 11 = .ok (.iload_n 2, 1) := by decide +kernel
theorem dX6_assign_12 : decode cX6_assign 12 = .ok (.invokevirtual 153, 3) := by decide +kernel
theorem dX6_assign_15 : decode cX6_assign 15 = .ok (.ifCond .ne 7, 3) := by decide +kernel
theorem dX6_assign_18 : decode cX6_assign 18 = .ok (.ldc2_w 64, 3) := by decide +kernel
theorem dX6_assign_21 : decode cX6_assign 21 = .ok (.lreturn, 1) := by decide +kernel
theorem dX6_assign_22 : decode cX6_assign 22 = .ok (.aload_n 0, 1) := by decide +kernel
theorem dX6_assign_23 : decode cX6_assign 23 = .ok (.iload_n 2, 1) := by decide +kernel
theorem dX6_assign_24 : decode cX6_assign 24 = .ok (.invokevirtual 156, 3) := by decide +kernel
theorem dX6_assign_27 : decode cX6_assign 27 = .ok (.ifCond .ne 7, 3) := by decide +kernel
theorem dX6_assign_30 : decode cX6_assign 30 = .ok (.ldc2_w 159, 3) := by decide +kernel
theorem dX6_assign_33 : decode cX6_assign 33 = .ok (.lreturn, 1) := by decide +kernel
theorem dX6_assign_34 : decode cX6_assign 34 = .ok (.aload_n 0, 1) := by decide +kernel
theorem dX6_assign_35 : decode cX6_assign 35 = .ok (.invokevirtual 61, 3) := by decide +kernel
theorem dX6_assign_38 : decode cX6_assign 38 = .ok (.aload_n 0, 1) := by decide +kernel
theorem dX6_assign_39 : decode cX6_assign 39 = .ok (.getfield 13, 3) := by decide +kernel
theorem dX6_assign_42 : decode cX6_assign 42 = .ok (.iload_n 1, 1) := by decide +kernel
theorem dX6_assign_43 : decode cX6_assign 43 = .ok (.aload_n 0, 1) := by decide +kernel
theorem dX6_assign_44 : decode cX6_assign 44 = .ok (.getfield 48, 3) := by decide +kernel
theorem dX6_assign_47 : decode cX6_assign 47 = .ok (.iconst 0, 1) := by decide +kernel
theorem dX6_assign_48 : decode cX6_assign 48 = .ok (.laload, 1) := by decide +kernel
theorem dX6_assign_49 : decode cX6_assign 49 = .ok (.lastore, 1) := by decide +kernel
theorem dX6_assign_50 : decode cX6_assign 50 = .ok (.aload_n 0, 1) := by decide +kernel
theorem dX6_assign_51 : decode cX6_assign 51 = .ok (.getfield 13, 3) := by decide +kernel
theorem dX6_assign_54 : decode cX6_assign 54 = .ok (.iload_n 1, 1) := by decide +kernel
theorem dX6_assign_55 : decode cX6_assign 55 = .ok (.laload, 1) := by decide +kernel
theorem dX6_assign_56 : decode cX6_assign 56 = .ok (.lreturn, 1) := by decide +kernel
theorem dX6_settle_0 : decode cX6_settle 0 = .ok (.iload_n 1, 1) := by decide +kernel
theorem dX6_settle_1 : decode cX6_settle 1 = .ok (.iconst 0, 1) := by decide +kernel
theorem dX6_settle_2 : decode cX6_settle 2 = .ok (.bipush 7, 2) := by decide +kernel
theorem dX6_settle_4 : decode cX6_settle 4 = .ok (.invokestatic 57, 3) := by decide +kernel
theorem dX6_settle_7 : decode cX6_settle 7 = .ok (.ifCond .eq 11, 3) := by decide +kernel
theorem dX6_settle_10 : decode cX6_settle 10 = .ok (.aload_n 0, 1) := by decide +kernel
theorem dX6_settle_11 : decode cX6_settle 11 = .ok (.iload_n 2, 1) := by decide +kernel
theorem dX6_settle_12 : decode cX6_settle 12 = .ok (.invokevirtual 153, 3) := by decide +kernel
theorem dX6_settle_15 : decode cX6_settle 15 = .ok (.ifCond .ne 5, 3) := by decide +kernel
theorem dX6_settle_18 : decode cX6_settle 18 = .ok (.iconst (-1), 1) := by decide +kernel
theorem dX6_settle_19 : decode cX6_settle 19 = .ok (.ireturn, 1) := by decide +kernel
theorem dX6_settle_20 : decode cX6_settle 20 = .ok (.iload_n 3, 1) := by decide +kernel
theorem dX6_settle_21 : decode cX6_settle 21 = .ok (.iconst 1, 1) := by decide +kernel
theorem dX6_settle_22 : decode cX6_settle 22 = .ok (.bipush 100, 2) := by decide +kernel
theorem dX6_settle_24 : decode cX6_settle 24 = .ok (.invokestatic 57, 3) := by decide +kernel
theorem dX6_settle_27 : decode cX6_settle 27 = .ok (.ifCond .ne 6, 3) := by decide +kernel
theorem dX6_settle_30 : decode cX6_settle 30 = .ok (.bipush (-2), 2) := by decide +kernel
theorem dX6_settle_32 : decode cX6_settle 32 = .ok (.ireturn, 1) := by decide +kernel
theorem dX6_settle_33 : decode cX6_settle 33 = .ok (.aload_n 0, 1) := by decide +kernel
theorem dX6_settle_34 : decode cX6_settle 34 = .ok (.invokevirtual 61, 3) := by decide +kernel
theorem dX6_settle_37 : decode cX6_settle 37 = .ok (.iconst 0, 1) := by decide +kernel
theorem dX6_settle_38 : decode cX6_settle 38 = .ok (.istore 4, 2) := by decide +kernel
theorem dX6_settle_40 : decode cX6_settle 40 = .ok (.iconst 1, 1) := by decide +kernel
theorem dX6_settle_41 : decode cX6_settle 41 = .ok (.istore 5, 2) := by decide +kernel
theorem dX6_settle_43 : decode cX6_settle 43 = .ok (.iload 5, 2) := by decide +kernel
theorem dX6_settle_45 : decode cX6_settle 45 = .ok (.ifCond .eq 58, 3) := by decide +kernel
theorem dX6_settle_48 : decode cX6_settle 48 = .ok (.iload 4, 2) := by decide +kernel
theorem dX6_settle_50 : decode cX6_settle 50 = .ok (.iload_n 3, 1) := by decide +kernel
theorem dX6_settle_51 : decode cX6_settle 51 = .ok (.if_icmp .ge 52, 3) := by decide +kernel
theorem dX6_settle_54 : decode cX6_settle 54 = .ok (.aload_n 0, 1) := by decide +kernel
theorem dX6_settle_55 : decode cX6_settle 55 = .ok (.iload_n 2, 1) := by decide +kernel
theorem dX6_settle_56 : decode cX6_settle 56 = .ok (.invokevirtual 156, 3) := by decide +kernel
theorem dX6_settle_59 : decode cX6_settle 59 = .ok (.ifCond .eq 44, 3) := by decide +kernel
theorem dX6_settle_62 : decode cX6_settle 62 = .ok (.aload_n 0, 1) := by decide +kernel
theorem dX6_settle_63 : decode cX6_settle 63 = .ok (.getfield 13, 3) := by decide +kernel
theorem dX6_settle_66 : decode cX6_settle 66 = .ok (.iload_n 1, 1) := by decide +kernel
theorem dX6_settle_67 : decode cX6_settle 67 = .ok (.laload, 1) := by decide +kernel
theorem dX6_settle_68 : decode cX6_settle 68 = .ok (.aload_n 0, 1) := by decide +kernel
theorem dX6_settle_69 : decode cX6_settle 69 = .ok (.getfield 48, 3) := by decide +kernel
theorem dX6_settle_72 : decode cX6_settle 72 = .ok (.iconst 0, 1) := by decide +kernel
theorem dX6_settle_73 : decode cX6_settle 73 = .ok (.laload, 1) := by decide +kernel
theorem dX6_settle_74 : decode cX6_settle 74 = .ok (.lcmp, 1) := by decide +kernel
theorem dX6_settle_75 : decode cX6_settle 75 = .ok (.ifCond .eq 7, 3) := by decide +kernel
theorem dX6_settle_78 : decode cX6_settle 78 = .ok (.iconst 1, 1) := by decide +kernel
theorem dX6_settle_79 : decode cX6_settle 79 = .ok (.goto 4, 3) := by decide +kernel
theorem dX6_settle_82 : decode cX6_settle 82 = .ok (.iconst 0, 1) := by decide +kernel
theorem dX6_settle_83 : decode cX6_settle 83 = .ok (.istore 5, 2) := by decide +kernel
theorem dX6_settle_85 : decode cX6_settle 85 = .ok (.aload_n 0, 1) := by decide +kernel
theorem dX6_settle_86 : decode cX6_settle 86 = .ok (.getfield 13, 3) := by decide +kernel
theorem dX6_settle_89 : decode cX6_settle 89 = .ok (.iload_n 1, 1) := by decide +kernel
theorem dX6_settle_90 : decode cX6_settle 90 = .ok (.aload_n 0, 1) := by decide +kernel
theorem dX6_settle_91 : decode cX6_settle 91 = .ok (.getfield 48, 3) := by decide +kernel
theorem dX6_settle_94 : decode cX6_settle 94 = .ok (.iconst 0, 1) := by decide +kernel
theorem dX6_settle_95 : decode cX6_settle 95 = .ok (.laload, 1) := by decide +kernel
theorem dX6_settle_96 : decode cX6_settle 96 = .ok (.lastore, 1) := by decide +kernel
theorem dX6_settle_97 : decode cX6_settle 97 = .ok (.iinc 4 1, 3) := by decide +kernel
theorem dX6_settle_100 : decode cX6_settle 100 = .ok (.goto (-57), 3) := by decide +kernel
theorem dX6_settle_103 : decode cX6_settle 103 = .ok (.iload 4, 2) := by decide +kernel
theorem dX6_settle_105 : decode cX6_settle 105 = .ok (.ireturn, 1) := by decide +kernel
theorem dX6_value_0 : decode cX6_value 0 = .ok (.aload_n 0, 1) := by decide +kernel
theorem dX6_value_1 : decode cX6_value 1 = .ok (.iload_n 1, 1) := by decide +kernel
theorem dX6_value_2 : decode cX6_value 2 = .ok (.invokevirtual 153, 3) := by decide +kernel
theorem dX6_value_5 : decode cX6_value 5 = .ok (.ifCond .ne 7, 3) := by decide +kernel
theorem dX6_value_8 : decode cX6_value 8 = .ok (.ldc2_w 64, 3) := by decide +kernel
theorem dX6_value_11 : decode cX6_value 11 = .ok (.lreturn, 1) := by decide +kernel
theorem dX6_value_12 : decode cX6_value 12 = .ok (.aload_n 0, 1) := by decide +kernel
theorem dX6_value_13 : decode cX6_value 13 = .ok (.iload_n 1, 1) := by decide +kernel
theorem dX6_value_14 : decode cX6_value 14 = .ok (.invokevirtual 156, 3) := by decide +kernel
theorem dX6_value_17 : decode cX6_value 17 = .ok (.ifCond .eq 12, 3) := by decide +kernel
theorem dX6_value_20 : decode cX6_value 20 = .ok (.aload_n 0, 1) := by decide +kernel
theorem dX6_value_21 : decode cX6_value 21 = .ok (.getfield 48, 3) := by decide +kernel
theorem dX6_value_24 : decode cX6_value 24 = .ok (.iconst 0, 1) := by decide +kernel
theorem dX6_value_25 : decode cX6_value 25 = .ok (.laload, 1) := by decide +kernel
theorem dX6_value_26 : decode cX6_value 26 = .ok (.goto 6, 3) := by decide +kernel
theorem dX6_value_29 : decode cX6_value 29 = .ok (.ldc2_w 159, 3) := by decide +kernel
theorem dX6_value_32 : decode cX6_value 32 = .ok (.lreturn, 1) := by decide +kernel
theorem dX6_cellsOf_0 : decode cX6_cellsOf 0 = .ok (.iconst 0, 1) := by decide +kernel
theorem dX6_cellsOf_1 : decode cX6_cellsOf 1 = .ok (.istore_n 2, 1) := by decide +kernel
theorem dX6_cellsOf_2 : decode cX6_cellsOf 2 = .ok (.iconst 0, 1) := by decide +kernel
theorem dX6_cellsOf_3 : decode cX6_cellsOf 3 = .ok (.istore_n 3, 1) := by decide +kernel
theorem dX6_cellsOf_4 : decode cX6_cellsOf 4 = .ok (.iload_n 3, 1) := by decide +kernel
theorem dX6_cellsOf_5 : decode cX6_cellsOf 5 = .ok (.aload_n 0, 1) := by decide +kernel
theorem dX6_cellsOf_6 : decode cX6_cellsOf 6 = .ok (.getfield 7, 3) := by decide +kernel
theorem dX6_cellsOf_9 : decode cX6_cellsOf 9 = .ok (.iconst 2, 1) := by decide +kernel
theorem dX6_cellsOf_10 : decode cX6_cellsOf 10 = .ok (.iload_n 1, 1) := by decide +kernel
theorem dX6_cellsOf_11 : decode cX6_cellsOf 11 = .ok (.iadd, 1) := by decide +kernel
theorem dX6_cellsOf_12 : decode cX6_cellsOf 12 = .ok (.iaload, 1) := by decide +kernel
theorem dX6_cellsOf_13 : decode cX6_cellsOf 13 = .ok (.if_icmp .ge 51, 3) := by decide +kernel
theorem dX6_cellsOf_16 : decode cX6_cellsOf 16 = .ok (.bipush 8, 2) := by decide +kernel
theorem dX6_cellsOf_18 : decode cX6_cellsOf 18 = .ok (.bipush 120, 2) := by decide +kernel
theorem dX6_cellsOf_20 : decode cX6_cellsOf 20 = .ok (.iload_n 1, 1) := by decide +kernel
theorem dX6_cellsOf_21 : decode cX6_cellsOf 21 = .ok (.imul, 1) := by decide +kernel
theorem dX6_cellsOf_22 : decode cX6_cellsOf 22 = .ok (.iadd, 1) := by decide +kernel
theorem dX6_cellsOf_23 : decode cX6_cellsOf 23 = .ok (.iconst 2, 1) := by decide +kernel
theorem dX6_cellsOf_24 : decode cX6_cellsOf 24 = .ok (.iload_n 3, 1) := by decide +kernel
theorem dX6_cellsOf_25 : decode cX6_cellsOf 25 = .ok (.imul, 1) := by decide +kernel
theorem dX6_cellsOf_26 : decode cX6_cellsOf 26 = .ok (.iadd, 1) := by decide +kernel
theorem dX6_cellsOf_27 : decode cX6_cellsOf 27 = .ok (.istore 4, 2) := by decide +kernel
theorem dX6_cellsOf_29 : decode cX6_cellsOf 29 = .ok (.iload_n 2, 1) := by decide +kernel
theorem dX6_cellsOf_30 : decode cX6_cellsOf 30 = .ok (.aload_n 0, 1) := by decide +kernel
theorem dX6_cellsOf_31 : decode cX6_cellsOf 31 = .ok (.getfield 7, 3) := by decide +kernel
theorem dX6_cellsOf_34 : decode cX6_cellsOf 34 = .ok (.iload 4, 2) := by decide +kernel
theorem dX6_cellsOf_36 : decode cX6_cellsOf 36 = .ok (.iaload, 1) := by decide +kernel
theorem dX6_cellsOf_37 : decode cX6_cellsOf 37 = .ok (.iconst 1, 1) := by decide +kernel
theorem dX6_cellsOf_38 : decode cX6_cellsOf 38 = .ok (.if_icmp .ne 17, 3) := by decide +kernel
theorem dX6_cellsOf_41 : decode cX6_cellsOf 41 = .ok (.iconst 1, 1) := by decide +kernel
theorem dX6_cellsOf_42 : decode cX6_cellsOf 42 = .ok (.aload_n 0, 1) := by decide +kernel
theorem dX6_cellsOf_43 : decode cX6_cellsOf 43 = .ok (.getfield 7, 3) := by decide +kernel
theorem dX6_cellsOf_46 : decode cX6_cellsOf 46 = .ok (.iload 4, 2) := by decide +kernel
theorem dX6_cellsOf_48 : decode cX6_cellsOf 48 = .ok (.iconst 1, 1) := by decide +kernel
theorem dX6_cellsOf_49 : decode cX6_cellsOf 49 = .ok (.iadd, 1) := by decide +kernel
theorem dX6_cellsOf_50 : decode cX6_cellsOf 50 = .ok (.iaload, 1) := by decide +kernel
theorem dX6_cellsOf_51 : decode cX6_cellsOf 51 = .ok (.ishl, 1) := by decide +kernel
theorem dX6_cellsOf_52 : decode cX6_cellsOf 52 = .ok (.goto 4, 3) := by decide +kernel
theorem dX6_cellsOf_55 : decode cX6_cellsOf 55 = .ok (.iconst 0, 1) := by decide +kernel
theorem dX6_cellsOf_56 : decode cX6_cellsOf 56 = .ok (.ior, 1) := by decide +kernel
theorem dX6_cellsOf_57 : decode cX6_cellsOf 57 = .ok (.istore_n 2, 1) := by decide +kernel
theorem dX6_cellsOf_58 : decode cX6_cellsOf 58 = .ok (.iinc 3 1, 3) := by decide +kernel
theorem dX6_cellsOf_61 : decode cX6_cellsOf 61 = .ok (.goto (-57), 3) := by decide +kernel
theorem dX6_cellsOf_64 : decode cX6_cellsOf 64 = .ok (.iload_n 2, 1) := by decide +kernel
theorem dX6_cellsOf_65 : decode cX6_cellsOf 65 = .ok (.ireturn, 1) := by decide +kernel
theorem dX6_rootsOf_0 : decode cX6_rootsOf 0 = .ok (.iconst 0, 1) := by decide +kernel
theorem dX6_rootsOf_1 : decode cX6_rootsOf 1 = .ok (.istore_n 2, 1) := by decide +kernel
theorem dX6_rootsOf_2 : decode cX6_rootsOf 2 = .ok (.iconst 0, 1) := by decide +kernel
theorem dX6_rootsOf_3 : decode cX6_rootsOf 3 = .ok (.istore_n 3, 1) := by decide +kernel
theorem dX6_rootsOf_4 : decode cX6_rootsOf 4 = .ok (.iload_n 3, 1) := by decide +kernel
theorem dX6_rootsOf_5 : decode cX6_rootsOf 5 = .ok (.aload_n 0, 1) := by decide +kernel
theorem dX6_rootsOf_6 : decode cX6_rootsOf 6 = .ok (.getfield 7, 3) := by decide +kernel
theorem dX6_rootsOf_9 : decode cX6_rootsOf 9 = .ok (.iconst 2, 1) := by decide +kernel
theorem dX6_rootsOf_10 : decode cX6_rootsOf 10 = .ok (.iload_n 1, 1) := by decide +kernel
theorem dX6_rootsOf_11 : decode cX6_rootsOf 11 = .ok (.iadd, 1) := by decide +kernel
theorem dX6_rootsOf_12 : decode cX6_rootsOf 12 = .ok (.iaload, 1) := by decide +kernel
theorem dX6_rootsOf_13 : decode cX6_rootsOf 13 = .ok (.if_icmp .ge 49, 3) := by decide +kernel
theorem dX6_rootsOf_16 : decode cX6_rootsOf 16 = .ok (.aload_n 0, 1) := by decide +kernel
theorem dX6_rootsOf_17 : decode cX6_rootsOf 17 = .ok (.getfield 7, 3) := by decide +kernel
theorem dX6_rootsOf_20 : decode cX6_rootsOf 20 = .ok (.bipush 8, 2) := by decide +kernel
theorem dX6_rootsOf_22 : decode cX6_rootsOf 22 = .ok (.bipush 120, 2) := by decide +kernel
theorem dX6_rootsOf_24 : decode cX6_rootsOf 24 = .ok (.iload_n 1, 1) := by decide +kernel
theorem dX6_rootsOf_25 : decode cX6_rootsOf 25 = .ok (.imul, 1) := by decide +kernel
theorem dX6_rootsOf_26 : decode cX6_rootsOf 26 = .ok (.iadd, 1) := by decide +kernel
theorem dX6_rootsOf_27 : decode cX6_rootsOf 27 = .ok (.iconst 2, 1) := by decide +kernel
theorem dX6_rootsOf_28 : decode cX6_rootsOf 28 = .ok (.iload_n 3, 1) := by decide +kernel
theorem dX6_rootsOf_29 : decode cX6_rootsOf 29 = .ok (.imul, 1) := by decide +kernel
theorem dX6_rootsOf_30 : decode cX6_rootsOf 30 = .ok (.iadd, 1) := by decide +kernel
theorem dX6_rootsOf_31 : decode cX6_rootsOf 31 = .ok (.iaload, 1) := by decide +kernel
theorem dX6_rootsOf_32 : decode cX6_rootsOf 32 = .ok (.istore 4, 2) := by decide +kernel
theorem dX6_rootsOf_34 : decode cX6_rootsOf 34 = .ok (.iload_n 2, 1) := by decide +kernel
theorem dX6_rootsOf_35 : decode cX6_rootsOf 35 = .ok (.iload 4, 2) := by decide +kernel
theorem dX6_rootsOf_37 : decode cX6_rootsOf 37 = .ok (.bipush 113, 2) := by decide +kernel
theorem dX6_rootsOf_39 : decode cX6_rootsOf 39 = .ok (.if_icmp .eq 10, 3) := by decide +kernel
theorem dX6_rootsOf_42 : decode cX6_rootsOf 42 = .ok (.iload 4, 2) := by decide +kernel
theorem dX6_rootsOf_44 : decode cX6_rootsOf 44 = .ok (.bipush 107, 2) := by decide +kernel
theorem dX6_rootsOf_46 : decode cX6_rootsOf 46 = .ok (.if_icmp .ne 7, 3) := by decide +kernel
theorem dX6_rootsOf_49 : decode cX6_rootsOf 49 = .ok (.iconst 1, 1) := by decide +kernel
theorem dX6_rootsOf_50 : decode cX6_rootsOf 50 = .ok (.goto 4, 3) := by decide +kernel
theorem dX6_rootsOf_53 : decode cX6_rootsOf 53 = .ok (.iconst 0, 1) := by decide +kernel
theorem dX6_rootsOf_54 : decode cX6_rootsOf 54 = .ok (.iadd, 1) := by decide +kernel
theorem dX6_rootsOf_55 : decode cX6_rootsOf 55 = .ok (.istore_n 2, 1) := by decide +kernel
theorem dX6_rootsOf_56 : decode cX6_rootsOf 56 = .ok (.iinc 3 1, 3) := by decide +kernel
theorem dX6_rootsOf_59 : decode cX6_rootsOf 59 = .ok (.goto (-55), 3) := by decide +kernel
theorem dX6_rootsOf_62 : decode cX6_rootsOf 62 = .ok (.iload_n 2, 1) := by decide +kernel
theorem dX6_rootsOf_63 : decode cX6_rootsOf 63 = .ok (.ireturn, 1) := by decide +kernel
theorem dX6_ofFormula_0 : decode cX6_ofFormula 0 = .ok (.aload_n 0, 1) := by decide +kernel
theorem dX6_ofFormula_1 : decode cX6_ofFormula 1 = .ok (.iload_n 1, 1) := by decide +kernel
theorem dX6_ofFormula_2 : decode cX6_ofFormula 2 = .ok (.invokevirtual 153, 3) := by decide +kernel
theorem dX6_ofFormula_5 : decode cX6_ofFormula 5 = .ok (.ifCond .ne 5, 3) := by decide +kernel
theorem dX6_ofFormula_8 : decode cX6_ofFormula 8 = .ok (.iconst (-1), 1) := by decide +kernel
theorem dX6_ofFormula_9 : decode cX6_ofFormula 9 = .ok (.ireturn, 1) := by decide +kernel
theorem dX6_ofFormula_10 : decode cX6_ofFormula 10 = .ok (.iload_n 2, 1) := by decide +kernel
theorem dX6_ofFormula_11 : decode cX6_ofFormula 11 = .ok (.tableswitch 79 0 3 #[29, 38, 44, 61], 29) := by decide +kernel
theorem dX6_ofFormula_40 : decode cX6_ofFormula 40 = .ok (.aload_n 0, 1) := by decide +kernel
theorem dX6_ofFormula_41 : decode cX6_ofFormula 41 = .ok (.getfield 7, 3) := by decide +kernel
theorem dX6_ofFormula_44 : decode cX6_ofFormula 44 = .ok (.iconst 2, 1) := by decide +kernel
theorem dX6_ofFormula_45 : decode cX6_ofFormula 45 = .ok (.iload_n 1, 1) := by decide +kernel
theorem dX6_ofFormula_46 : decode cX6_ofFormula 46 = .ok (.iadd, 1) := by decide +kernel
theorem dX6_ofFormula_47 : decode cX6_ofFormula 47 = .ok (.iaload, 1) := by decide +kernel
theorem dX6_ofFormula_48 : decode cX6_ofFormula 48 = .ok (.ireturn, 1) := by decide +kernel
theorem dX6_ofFormula_49 : decode cX6_ofFormula 49 = .ok (.aload_n 0, 1) := by decide +kernel
theorem dX6_ofFormula_50 : decode cX6_ofFormula 50 = .ok (.iload_n 1, 1) := by decide +kernel
theorem dX6_ofFormula_51 : decode cX6_ofFormula 51 = .ok (.invokevirtual 161, 3) := by decide +kernel
theorem dX6_ofFormula_54 : decode cX6_ofFormula 54 = .ok (.ireturn, 1) := by decide +kernel
theorem dX6_ofFormula_55 : decode cX6_ofFormula 55 = .ok (.aload_n 0, 1) := by decide +kernel
theorem dX6_ofFormula_56 : decode cX6_ofFormula 56 = .ok (.iload_n 1, 1) := by decide +kernel
theorem dX6_ofFormula_57 : decode cX6_ofFormula 57 = .ok (.invokevirtual 156, 3) := by decide +kernel
theorem dX6_ofFormula_60 : decode cX6_ofFormula 60 = .ok (.ifCond .eq 7, 3) := by decide +kernel
theorem dX6_ofFormula_63 : decode cX6_ofFormula 63 = .ok (.iconst 0, 1) := by decide +kernel
theorem dX6_ofFormula_64 : decode cX6_ofFormula 64 = .ok (.goto 7, 3) := by decide +kernel
theorem dX6_ofFormula_67 : decode cX6_ofFormula 67 = .ok (.aload_n 0, 1) := by decide +kernel
theorem dX6_ofFormula_68 : decode cX6_ofFormula 68 = .ok (.getfield 143, 3) := by decide +kernel
theorem dX6_ofFormula_71 : decode cX6_ofFormula 71 = .ok (.ireturn, 1) := by decide +kernel
theorem dX6_ofFormula_72 : decode cX6_ofFormula 72 = .ok (.aload_n 0, 1) := by decide +kernel
theorem dX6_ofFormula_73 : decode cX6_ofFormula 73 = .ok (.iload_n 1, 1) := by decide +kernel
theorem dX6_ofFormula_74 : decode cX6_ofFormula 74 = .ok (.invokevirtual 156, 3) := by decide +kernel
theorem dX6_ofFormula_77 : decode cX6_ofFormula 77 = .ok (.ifCond .eq 8, 3) := by decide +kernel
theorem dX6_ofFormula_80 : decode cX6_ofFormula 80 = .ok (.bipush (-6), 2) := by decide +kernel
theorem dX6_ofFormula_82 : decode cX6_ofFormula 82 = .ok (.goto 7, 3) := by decide +kernel
theorem dX6_ofFormula_85 : decode cX6_ofFormula 85 = .ok (.aload_n 0, 1) := by decide +kernel
theorem dX6_ofFormula_86 : decode cX6_ofFormula 86 = .ok (.getfield 140, 3) := by decide +kernel
theorem dX6_ofFormula_89 : decode cX6_ofFormula 89 = .ok (.ireturn, 1) := by decide +kernel
theorem dX6_ofFormula_90 : decode cX6_ofFormula 90 = .ok (.iload_n 2, 1) := by decide +kernel
theorem dX6_ofFormula_91 : decode cX6_ofFormula 91 = .ok (.iconst 4, 1) := by decide +kernel
theorem dX6_ofFormula_92 : decode cX6_ofFormula 92 = .ok (.if_icmp .ne 11, 3) := by decide +kernel
theorem dX6_ofFormula_95 : decode cX6_ofFormula 95 = .ok (.aload_n 0, 1) := by decide +kernel
theorem dX6_ofFormula_96 : decode cX6_ofFormula 96 = .ok (.iload_n 1, 1) := by decide +kernel
theorem dX6_ofFormula_97 : decode cX6_ofFormula 97 = .ok (.invokevirtual 165, 3) := by decide +kernel
theorem dX6_ofFormula_100 : decode cX6_ofFormula 100 = .ok (.goto 5, 3) := by decide +kernel
theorem dX6_ofFormula_103 : decode cX6_ofFormula 103 = .ok (.bipush (-2), 2) := by decide +kernel
theorem dX6_ofFormula_105 : decode cX6_ofFormula 105 = .ok (.ireturn, 1) := by decide +kernel
theorem dX6_stepValue_0 : decode cX6_stepValue 0 = .ok (.aload_n 0, 1) := by decide +kernel
theorem dX6_stepValue_1 : decode cX6_stepValue 1 = .ok (.iload_n 1, 1) := by decide +kernel
theorem dX6_stepValue_2 : decode cX6_stepValue 2 = .ok (.invokevirtual 153, 3) := by decide +kernel
theorem dX6_stepValue_5 : decode cX6_stepValue 5 = .ok (.ifCond .eq 21, 3) := by decide +kernel
theorem dX6_stepValue_8 : decode cX6_stepValue 8 = .ok (.iload_n 2, 1) := by decide +kernel
theorem dX6_stepValue_9 : decode cX6_stepValue 9 = .ok (.iconst 0, 1) := by decide +kernel
theorem dX6_stepValue_10 : decode cX6_stepValue 10 = .ok (.aload_n 0, 1) := by decide +kernel
theorem dX6_stepValue_11 : decode cX6_stepValue 11 = .ok (.getfield 7, 3) := by decide +kernel
theorem dX6_stepValue_14 : decode cX6_stepValue 14 = .ok (.iconst 2, 1) := by decide +kernel
theorem dX6_stepValue_15 : decode cX6_stepValue 15 = .ok (.iload_n 1, 1) := by decide +kernel
theorem dX6_stepValue_16 : decode cX6_stepValue 16 = .ok (.iadd, 1) := by decide +kernel
theorem dX6_stepValue_17 : decode cX6_stepValue 17 = .ok (.iaload, 1) := by decide +kernel
theorem dX6_stepValue_18 : decode cX6_stepValue 18 = .ok (.iconst 1, 1) := by decide +kernel
theorem dX6_stepValue_19 : decode cX6_stepValue 19 = .ok (.isub, 1) := by decide +kernel
theorem dX6_stepValue_20 : decode cX6_stepValue 20 = .ok (.invokestatic 57, 3) := by decide +kernel
theorem dX6_stepValue_23 : decode cX6_stepValue 23 = .ok (.ifCond .ne 7, 3) := by decide +kernel
theorem dX6_stepValue_26 : decode cX6_stepValue 26 = .ok (.ldc2_w 64, 3) := by decide +kernel
theorem dX6_stepValue_29 : decode cX6_stepValue 29 = .ok (.lreturn, 1) := by decide +kernel
theorem dX6_stepValue_30 : decode cX6_stepValue 30 = .ok (.aload_n 0, 1) := by decide +kernel
theorem dX6_stepValue_31 : decode cX6_stepValue 31 = .ok (.iload_n 1, 1) := by decide +kernel
theorem dX6_stepValue_32 : decode cX6_stepValue 32 = .ok (.invokevirtual 156, 3) := by decide +kernel
theorem dX6_stepValue_35 : decode cX6_stepValue 35 = .ok (.ifCond .ne 11, 3) := by decide +kernel
theorem dX6_stepValue_38 : decode cX6_stepValue 38 = .ok (.iload_n 2, 1) := by decide +kernel
theorem dX6_stepValue_39 : decode cX6_stepValue 39 = .ok (.aload_n 0, 1) := by decide +kernel
theorem dX6_stepValue_40 : decode cX6_stepValue 40 = .ok (.getfield 140, 3) := by decide +kernel
theorem dX6_stepValue_43 : decode cX6_stepValue 43 = .ok (.if_icmp .ge 12, 3) := by decide +kernel
theorem dX6_stepValue_46 : decode cX6_stepValue 46 = .ok (.aload_n 0, 1) := by decide +kernel
theorem dX6_stepValue_47 : decode cX6_stepValue 47 = .ok (.getfield 45, 3) := by decide +kernel
theorem dX6_stepValue_50 : decode cX6_stepValue 50 = .ok (.iload_n 2, 1) := by decide +kernel
theorem dX6_stepValue_51 : decode cX6_stepValue 51 = .ok (.laload, 1) := by decide +kernel
theorem dX6_stepValue_52 : decode cX6_stepValue 52 = .ok (.goto 6, 3) := by decide +kernel
theorem dX6_stepValue_55 : decode cX6_stepValue 55 = .ok (.ldc2_w 159, 3) := by decide +kernel
theorem dX6_stepValue_58 : decode cX6_stepValue 58 = .ok (.lreturn, 1) := by decide +kernel
theorem dX6_formulas_0 : decode cX6_formulas 0 = .ok (.iconst 0, 1) := by decide +kernel
theorem dX6_formulas_1 : decode cX6_formulas 1 = .ok (.istore_n 1, 1) := by decide +kernel
theorem dX6_formulas_2 : decode cX6_formulas 2 = .ok (.iconst 0, 1) := by decide +kernel
theorem dX6_formulas_3 : decode cX6_formulas 3 = .ok (.istore_n 2, 1) := by decide +kernel
theorem dX6_formulas_4 : decode cX6_formulas 4 = .ok (.iload_n 2, 1) := by decide +kernel
theorem dX6_formulas_5 : decode cX6_formulas 5 = .ok (.bipush 6, 2) := by decide +kernel
theorem dX6_formulas_7 : decode cX6_formulas 7 = .ok (.if_icmp .ge 30, 3) := by decide +kernel
theorem dX6_formulas_10 : decode cX6_formulas 10 = .ok (.iload_n 1, 1) := by decide +kernel
theorem dX6_formulas_11 : decode cX6_formulas 11 = .ok (.aload_n 0, 1) := by decide +kernel
theorem dX6_formulas_12 : decode cX6_formulas 12 = .ok (.getfield 7, 3) := by decide +kernel
theorem dX6_formulas_15 : decode cX6_formulas 15 = .ok (.iconst 2, 1) := by decide +kernel
theorem dX6_formulas_16 : decode cX6_formulas 16 = .ok (.iload_n 2, 1) := by decide +kernel
theorem dX6_formulas_17 : decode cX6_formulas 17 = .ok (.iadd, 1) := by decide +kernel
theorem dX6_formulas_18 : decode cX6_formulas 18 = .ok (.iaload, 1) := by decide +kernel
theorem dX6_formulas_19 : decode cX6_formulas 19 = .ok (.ifCond .le 9, 3) := by decide +kernel
theorem dX6_formulas_22 : decode cX6_formulas 22 = .ok (.iconst 1, 1) := by decide +kernel
theorem dX6_formulas_23 : decode cX6_formulas 23 = .ok (.iload_n 2, 1) := by decide +kernel
theorem dX6_formulas_24 : decode cX6_formulas 24 = .ok (.ishl, 1) := by decide +kernel
theorem dX6_formulas_25 : decode cX6_formulas 25 = .ok (.goto 4, 3) := by decide +kernel
theorem dX6_formulas_28 : decode cX6_formulas 28 = .ok (.iconst 0, 1) := by decide +kernel
theorem dX6_formulas_29 : decode cX6_formulas 29 = .ok (.ior, 1) := by decide +kernel
theorem dX6_formulas_30 : decode cX6_formulas 30 = .ok (.istore_n 1, 1) := by decide +kernel
theorem dX6_formulas_31 : decode cX6_formulas 31 = .ok (.iinc 2 1, 3) := by decide +kernel
theorem dX6_formulas_34 : decode cX6_formulas 34 = .ok (.goto (-30), 3) := by decide +kernel
theorem dX6_formulas_37 : decode cX6_formulas 37 = .ok (.iload_n 1, 1) := by decide +kernel
theorem dX6_formulas_38 : decode cX6_formulas 38 = .ok (.ireturn, 1) := by decide +kernel
theorem dX6_count_0 : decode cX6_count 0 = .ok (.iconst 0, 1) := by decide +kernel
theorem dX6_count_1 : decode cX6_count 1 = .ok (.istore_n 2, 1) := by decide +kernel
theorem dX6_count_2 : decode cX6_count 2 = .ok (.iconst 0, 1) := by decide +kernel
theorem dX6_count_3 : decode cX6_count 3 = .ok (.istore_n 3, 1) := by decide +kernel
theorem dX6_count_4 : decode cX6_count 4 = .ok (.iload_n 3, 1) := by decide +kernel
theorem dX6_count_5 : decode cX6_count 5 = .ok (.bipush 8, 2) := by decide +kernel
theorem dX6_count_7 : decode cX6_count 7 = .ok (.if_icmp .ge 28, 3) := by decide +kernel
theorem dX6_count_10 : decode cX6_count 10 = .ok (.iload_n 2, 1) := by decide +kernel
theorem dX6_count_11 : decode cX6_count 11 = .ok (.aload_n 0, 1) := by decide +kernel
theorem dX6_count_12 : decode cX6_count 12 = .ok (.getfield 13, 3) := by decide +kernel
theorem dX6_count_15 : decode cX6_count 15 = .ok (.iload_n 3, 1) := by decide +kernel
theorem dX6_count_16 : decode cX6_count 16 = .ok (.laload, 1) := by decide +kernel
theorem dX6_count_17 : decode cX6_count 17 = .ok (.lconst 0, 1) := by decide +kernel
theorem dX6_count_18 : decode cX6_count 18 = .ok (.lcmp, 1) := by decide +kernel
theorem dX6_count_19 : decode cX6_count 19 = .ok (.ifCond .eq 7, 3) := by decide +kernel
theorem dX6_count_22 : decode cX6_count 22 = .ok (.iconst 1, 1) := by decide +kernel
theorem dX6_count_23 : decode cX6_count 23 = .ok (.goto 4, 3) := by decide +kernel
theorem dX6_count_26 : decode cX6_count 26 = .ok (.iconst 0, 1) := by decide +kernel
theorem dX6_count_27 : decode cX6_count 27 = .ok (.iadd, 1) := by decide +kernel
theorem dX6_count_28 : decode cX6_count 28 = .ok (.istore_n 2, 1) := by decide +kernel
theorem dX6_count_29 : decode cX6_count 29 = .ok (.iinc 3 1, 3) := by decide +kernel
theorem dX6_count_32 : decode cX6_count 32 = .ok (.goto (-28), 3) := by decide +kernel
theorem dX6_count_35 : decode cX6_count 35 = .ok (.iload_n 1, 1) := by decide +kernel
theorem dX6_count_36 : decode cX6_count 36 = .ok (.tableswitch 60 0 4 #[36, 41, 46, 51, 51], 36) := by decide +kernel
theorem dX6_count_72 : decode cX6_count 72 = .ok (.aload_n 0, 1) := by decide +kernel
theorem dX6_count_73 : decode cX6_count 73 = .ok (.invokevirtual 168, 3) := by decide +kernel
theorem dX6_count_76 : decode cX6_count 76 = .ok (.ireturn, 1) := by decide +kernel
theorem dX6_count_77 : decode cX6_count 77 = .ok (.aload_n 0, 1) := by decide +kernel
theorem dX6_count_78 : decode cX6_count 78 = .ok (.getfield 74, 3) := by decide +kernel
theorem dX6_count_81 : decode cX6_count 81 = .ok (.ireturn, 1) := by decide +kernel
theorem dX6_count_82 : decode cX6_count 82 = .ok (.aload_n 0, 1) := by decide +kernel
theorem dX6_count_83 : decode cX6_count 83 = .ok (.getfield 53, 3) := by decide +kernel
theorem dX6_count_86 : decode cX6_count 86 = .ok (.ireturn, 1) := by decide +kernel
theorem dX6_count_87 : decode cX6_count 87 = .ok (.aload_n 0, 1) := by decide +kernel
theorem dX6_count_88 : decode cX6_count 88 = .ok (.getfield 7, 3) := by decide +kernel
theorem dX6_count_91 : decode cX6_count 91 = .ok (.iload_n 1, 1) := by decide +kernel
theorem dX6_count_92 : decode cX6_count 92 = .ok (.iconst 3, 1) := by decide +kernel
theorem dX6_count_93 : decode cX6_count 93 = .ok (.isub, 1) := by decide +kernel
theorem dX6_count_94 : decode cX6_count 94 = .ok (.iaload, 1) := by decide +kernel
theorem dX6_count_95 : decode cX6_count 95 = .ok (.ireturn, 1) := by decide +kernel
theorem dX6_count_96 : decode cX6_count 96 = .ok (.iload_n 1, 1) := by decide +kernel
theorem dX6_count_97 : decode cX6_count 97 = .ok (.iconst 5, 1) := by decide +kernel
theorem dX6_count_98 : decode cX6_count 98 = .ok (.if_icmp .ne 7, 3) := by decide +kernel
theorem dX6_count_101 : decode cX6_count 101 = .ok (.iload_n 2, 1) := by decide +kernel
theorem dX6_count_102 : decode cX6_count 102 = .ok (.goto 5, 3) := by decide +kernel
theorem dX6_count_105 : decode cX6_count 105 = .ok (.bipush (-2), 2) := by decide +kernel
theorem dX6_count_107 : decode cX6_count 107 = .ok (.ireturn, 1) := by decide +kernel
theorem dX6_isAsked_0 : decode cX6_isAsked 0 = .ok (.lload_n 0, 1) := by decide +kernel
theorem dX6_isAsked_1 : decode cX6_isAsked 1 = .ok (.invokestatic 66, 3) := by decide +kernel
theorem dX6_isAsked_4 : decode cX6_isAsked 4 = .ok (.ifCond .eq 16, 3) := by decide +kernel
theorem dX6_isAsked_7 : decode cX6_isAsked 7 = .ok (.iload_n 2, 1) := by decide +kernel
theorem dX6_isAsked_8 : decode cX6_isAsked 8 = .ok (.iconst 2, 1) := by decide +kernel
theorem dX6_isAsked_9 : decode cX6_isAsked 9 = .ok (.iconst 3, 1) := by decide +kernel
theorem dX6_isAsked_10 : decode cX6_isAsked 10 = .ok (.invokestatic 57, 3) := by decide +kernel
theorem dX6_isAsked_13 : decode cX6_isAsked 13 = .ok (.ifCond .eq 7, 3) := by decide +kernel
theorem dX6_isAsked_16 : decode cX6_isAsked 16 = .ok (.iconst 1, 1) := by decide +kernel
theorem dX6_isAsked_17 : decode cX6_isAsked 17 = .ok (.goto 4, 3) := by decide +kernel
theorem dX6_isAsked_20 : decode cX6_isAsked 20 = .ok (.iconst 0, 1) := by decide +kernel
theorem dX6_isAsked_21 : decode cX6_isAsked 21 = .ok (.ireturn, 1) := by decide +kernel
theorem dX6_root_0 : decode cX6_root 0 = .ok (.lload_n 1, 1) := by decide +kernel
theorem dX6_root_1 : decode cX6_root 1 = .ok (.iload_n 3, 1) := by decide +kernel
theorem dX6_root_2 : decode cX6_root 2 = .ok (.invokestatic 171, 3) := by decide +kernel
theorem dX6_root_5 : decode cX6_root 5 = .ok (.ifCond .eq 13, 3) := by decide +kernel
theorem dX6_root_8 : decode cX6_root 8 = .ok (.aload_n 0, 1) := by decide +kernel
theorem dX6_root_9 : decode cX6_root 9 = .ok (.lload_n 1, 1) := by decide +kernel
theorem dX6_root_10 : decode cX6_root 10 = .ok (.iload_n 3, 1) := by decide +kernel
theorem dX6_root_11 : decode cX6_root 11 = .ok (.invokevirtual 150, 3) := by decide +kernel
theorem dX6_root_14 : decode cX6_root 14 = .ok (.l2i, 1) := by decide +kernel
theorem dX6_root_15 : decode cX6_root 15 = .ok (.goto 5, 3) := by decide +kernel
theorem dX6_root_18 : decode cX6_root 18 = .ok (.bipush (-2), 2) := by decide +kernel
theorem dX6_root_20 : decode cX6_root 20 = .ok (.ireturn, 1) := by decide +kernel
theorem dX6_remainder_0 : decode cX6_remainder 0 = .ok (.lload_n 1, 1) := by decide +kernel
theorem dX6_remainder_1 : decode cX6_remainder 1 = .ok (.iload_n 3, 1) := by decide +kernel
theorem dX6_remainder_2 : decode cX6_remainder 2 = .ok (.invokestatic 171, 3) := by decide +kernel
theorem dX6_remainder_5 : decode cX6_remainder 5 = .ok (.ifCond .eq 17, 3) := by decide +kernel
theorem dX6_remainder_8 : decode cX6_remainder 8 = .ok (.lload_n 1, 1) := by decide +kernel
theorem dX6_remainder_9 : decode cX6_remainder 9 = .ok (.lload_n 1, 1) := by decide +kernel
theorem dX6_remainder_10 : decode cX6_remainder 10 = .ok (.iload_n 3, 1) := by decide +kernel
theorem dX6_remainder_11 : decode cX6_remainder 11 = .ok (.invokestatic 133, 3) := by decide +kernel
theorem dX6_remainder_14 : decode cX6_remainder 14 = .ok (.iload_n 3, 1) := by decide +kernel
theorem dX6_remainder_15 : decode cX6_remainder 15 = .ok (.invokestatic 126, 3) := by decide +kernel
theorem dX6_remainder_18 : decode cX6_remainder 18 = .ok (.lsub, 1) := by decide +kernel
theorem dX6_remainder_19 : decode cX6_remainder 19 = .ok (.goto 6, 3) := by decide +kernel
theorem dX6_remainder_22 : decode cX6_remainder 22 = .ok (.ldc2_w 70, 3) := by decide +kernel
theorem dX6_remainder_25 : decode cX6_remainder 25 = .ok (.lreturn, 1) := by decide +kernel
theorem dX6_bit_0 : decode cX6_bit 0 = .ok (.lload_n 1, 1) := by decide +kernel
theorem dX6_bit_1 : decode cX6_bit 1 = .ok (.iload_n 3, 1) := by decide +kernel
theorem dX6_bit_2 : decode cX6_bit 2 = .ok (.invokestatic 171, 3) := by decide +kernel
theorem dX6_bit_5 : decode cX6_bit 5 = .ok (.ifCond .eq 19, 3) := by decide +kernel
theorem dX6_bit_8 : decode cX6_bit 8 = .ok (.iload 4, 2) := by decide +kernel
theorem dX6_bit_10 : decode cX6_bit 10 = .ok (.iconst (-1), 1) := by decide +kernel
theorem dX6_bit_11 : decode cX6_bit 11 = .ok (.if_icmp .lt 13, 3) := by decide +kernel
theorem dX6_bit_14 : decode cX6_bit 14 = .ok (.iload 5, 2) := by decide +kernel
theorem dX6_bit_16 : decode cX6_bit 16 = .ok (.iconst 0, 1) := by decide +kernel
theorem dX6_bit_17 : decode cX6_bit 17 = .ok (.iconst 3, 1) := by decide +kernel
theorem dX6_bit_18 : decode cX6_bit 18 = .ok (.invokestatic 57, 3) := by decide +kernel
theorem dX6_bit_21 : decode cX6_bit 21 = .ok (.ifCond .ne 7, 3) := by decide +kernel
theorem dX6_bit_24 : decode cX6_bit 24 = .ok (.ldc2_w 70, 3) := by decide +kernel
theorem dX6_bit_27 : decode cX6_bit 27 = .ok (.lreturn, 1) := by decide +kernel
theorem dX6_bit_28 : decode cX6_bit 28 = .ok (.lconst 0, 1) := by decide +kernel
theorem dX6_bit_29 : decode cX6_bit 29 = .ok (.lstore 6, 2) := by decide +kernel
theorem dX6_bit_31 : decode cX6_bit 31 = .ok (.iconst 0, 1) := by decide +kernel
theorem dX6_bit_32 : decode cX6_bit 32 = .ok (.istore 8, 2) := by decide +kernel
theorem dX6_bit_34 : decode cX6_bit 34 = .ok (.lload_n 1, 1) := by decide +kernel
theorem dX6_bit_35 : decode cX6_bit 35 = .ok (.iload_n 3, 1) := by decide +kernel
theorem dX6_bit_36 : decode cX6_bit 36 = .ok (.invokestatic 130, 3) := by decide +kernel
theorem dX6_bit_39 : decode cX6_bit 39 = .ok (.lstore 9, 2) := by decide +kernel
theorem dX6_bit_41 : decode cX6_bit 41 = .ok (.lload 9, 2) := by decide +kernel
theorem dX6_bit_43 : decode cX6_bit 43 = .ok (.lconst 0, 1) := by decide +kernel
theorem dX6_bit_44 : decode cX6_bit 44 = .ok (.lcmp, 1) := by decide +kernel
theorem dX6_bit_45 : decode cX6_bit 45 = .ok (.ifCond .le 110, 3) := by decide +kernel
theorem dX6_bit_48 : decode cX6_bit 48 = .ok (.lload 6, 2) := by decide +kernel
theorem dX6_bit_50 : decode cX6_bit 50 = .ok (.lload 9, 2) := by decide +kernel
theorem dX6_bit_52 : decode cX6_bit 52 = .ok (.ladd, 1) := by decide +kernel
theorem dX6_bit_53 : decode cX6_bit 53 = .ok (.iload_n 3, 1) := by decide +kernel
theorem dX6_bit_54 : decode cX6_bit 54 = .ok (.invokestatic 126, 3) := by decide +kernel
theorem dX6_bit_57 : decode cX6_bit 57 = .ok (.lload_n 1, 1) := by decide +kernel
theorem dX6_bit_58 : decode cX6_bit 58 = .ok (.lcmp, 1) := by decide +kernel
theorem dX6_bit_59 : decode cX6_bit 59 = .ok (.ifCond .gt 7, 3) := by decide +kernel
theorem dX6_bit_62 : decode cX6_bit 62 = .ok (.iconst 1, 1) := by decide +kernel
theorem dX6_bit_63 : decode cX6_bit 63 = .ok (.goto 4, 3) := by decide +kernel
theorem dX6_bit_66 : decode cX6_bit 66 = .ok (.iconst 0, 1) := by decide +kernel
theorem dX6_bit_67 : decode cX6_bit 67 = .ok (.istore 11, 2) := by decide +kernel
theorem dX6_bit_69 : decode cX6_bit 69 = .ok (.lload 6, 2) := by decide +kernel
theorem dX6_bit_71 : decode cX6_bit 71 = .ok (.iload 11, 2) := by decide +kernel
theorem dX6_bit_73 : decode cX6_bit 73 = .ok (.ifCond .eq 8, 3) := by decide +kernel
theorem dX6_bit_76 : decode cX6_bit 76 = .ok (.lload 9, 2) := by decide +kernel
theorem dX6_bit_78 : decode cX6_bit 78 = .ok (.goto 4, 3) := by decide +kernel
theorem dX6_bit_81 : decode cX6_bit 81 = .ok (.lconst 0, 1) := by decide +kernel
theorem dX6_bit_82 : decode cX6_bit 82 = .ok (.ladd, 1) := by decide +kernel
theorem dX6_bit_83 : decode cX6_bit 83 = .ok (.lstore 6, 2) := by decide +kernel
theorem dX6_bit_85 : decode cX6_bit 85 = .ok (.iload 8, 2) := by decide +kernel
theorem dX6_bit_87 : decode cX6_bit 87 = .ok (.iload 4, 2) := by decide +kernel
theorem dX6_bit_89 : decode cX6_bit 89 = .ok (.if_icmp .ne 52, 3) := by decide +kernel
theorem dX6_bit_92 : decode cX6_bit 92 = .ok (.iload 5, 2) := by decide +kernel
theorem dX6_bit_94 : decode cX6_bit 94 = .ok (.ifCond .ne 8, 3) := by decide +kernel
theorem dX6_bit_97 : decode cX6_bit 97 = .ok (.lload 9, 2) := by decide +kernel
theorem dX6_bit_99 : decode cX6_bit 99 = .ok (.goto 41, 3) := by decide +kernel
theorem dX6_bit_102 : decode cX6_bit 102 = .ok (.iload 5, 2) := by decide +kernel
theorem dX6_bit_104 : decode cX6_bit 104 = .ok (.iconst 1, 1) := by decide +kernel
theorem dX6_bit_105 : decode cX6_bit 105 = .ok (.if_icmp .ne 16, 3) := by decide +kernel
theorem dX6_bit_108 : decode cX6_bit 108 = .ok (.iload 11, 2) := by decide +kernel
theorem dX6_bit_110 : decode cX6_bit 110 = .ok (.ifCond .eq 7, 3) := by decide +kernel
theorem dX6_bit_113 : decode cX6_bit 113 = .ok (.lconst 1, 1) := by decide +kernel
theorem dX6_bit_114 : decode cX6_bit 114 = .ok (.goto 26, 3) := by decide +kernel
theorem dX6_bit_117 : decode cX6_bit 117 = .ok (.lconst 0, 1) := by decide +kernel
theorem dX6_bit_118 : decode cX6_bit 118 = .ok (.goto 22, 3) := by decide +kernel
theorem dX6_bit_121 : decode cX6_bit 121 = .ok (.iload 5, 2) := by decide +kernel
theorem dX6_bit_123 : decode cX6_bit 123 = .ok (.iconst 2, 1) := by decide +kernel
theorem dX6_bit_124 : decode cX6_bit 124 = .ok (.if_icmp .ne 8, 3) := by decide +kernel
theorem dX6_bit_127 : decode cX6_bit 127 = .ok (.lload 6, 2) := by decide +kernel
theorem dX6_bit_129 : decode cX6_bit 129 = .ok (.goto 11, 3) := by decide +kernel
theorem dX6_bit_132 : decode cX6_bit 132 = .ok (.lload_n 1, 1) := by decide +kernel
theorem dX6_bit_133 : decode cX6_bit 133 = .ok (.lload 6, 2) := by decide +kernel
theorem dX6_bit_135 : decode cX6_bit 135 = .ok (.iload_n 3, 1) := by decide +kernel
theorem dX6_bit_136 : decode cX6_bit 136 = .ok (.invokestatic 126, 3) := by decide +kernel
theorem dX6_bit_139 : decode cX6_bit 139 = .ok (.lsub, 1) := by decide +kernel
theorem dX6_bit_140 : decode cX6_bit 140 = .ok (.lreturn, 1) := by decide +kernel
theorem dX6_bit_141 : decode cX6_bit 141 = .ok (.iinc 8 1, 3) := by decide +kernel
theorem dX6_bit_144 : decode cX6_bit 144 = .ok (.lload 9, 2) := by decide +kernel
theorem dX6_bit_146 : decode cX6_bit 146 = .ok (.ldc2_w 124, 3) := by decide +kernel
theorem dX6_bit_149 : decode cX6_bit 149 = .ok (.ldiv, 1) := by decide +kernel
theorem dX6_bit_150 : decode cX6_bit 150 = .ok (.lstore 9, 2) := by decide +kernel
theorem dX6_bit_152 : decode cX6_bit 152 = .ok (.goto (-111), 3) := by decide +kernel
theorem dX6_bit_155 : decode cX6_bit 155 = .ok (.iload 4, 2) := by decide +kernel
theorem dX6_bit_157 : decode cX6_bit 157 = .ok (.ifCond .ge 9, 3) := by decide +kernel
theorem dX6_bit_160 : decode cX6_bit 160 = .ok (.iload 8, 2) := by decide +kernel
theorem dX6_bit_162 : decode cX6_bit 162 = .ok (.i2l, 1) := by decide +kernel
theorem dX6_bit_163 : decode cX6_bit 163 = .ok (.goto 6, 3) := by decide +kernel
theorem dX6_bit_166 : decode cX6_bit 166 = .ok (.ldc2_w 175, 3) := by decide +kernel
theorem dX6_bit_169 : decode cX6_bit 169 = .ok (.lreturn, 1) := by decide +kernel
theorem dX6_digits_0 : decode cX6_digits 0 = .ok (.iload_n 1, 1) := by decide +kernel
theorem dX6_digits_1 : decode cX6_digits 1 = .ok (.iconst 0, 1) := by decide +kernel
theorem dX6_digits_2 : decode cX6_digits 2 = .ok (.ldc 177, 2) := by decide +kernel
theorem dX6_digits_4 : decode cX6_digits 4 = .ok (.invokestatic 57, 3) := by decide +kernel
theorem dX6_digits_7 : decode cX6_digits 7 = .ok (.ifCond .ne 6, 3) := by decide +kernel
theorem dX6_digits_10 : decode cX6_digits 10 = .ok (.bipush (-2), 2) := by decide +kernel
theorem dX6_digits_12 : decode cX6_digits 12 = .ok (.ireturn, 1) := by decide +kernel
theorem dX6_digits_13 : decode cX6_digits 13 = .ok (.iload_n 1, 1) := by decide +kernel
theorem dX6_digits_14 : decode cX6_digits 14 = .ok (.i2l, 1) := by decide +kernel
theorem dX6_digits_15 : decode cX6_digits 15 = .ok (.lstore_n 2, 1) := by decide +kernel
theorem dX6_digits_16 : decode cX6_digits 16 = .ok (.iconst 0, 1) := by decide +kernel
theorem dX6_digits_17 : decode cX6_digits 17 = .ok (.istore 4, 2) := by decide +kernel
theorem dX6_digits_19 : decode cX6_digits 19 = .ok (.iload 4, 2) := by decide +kernel
theorem dX6_digits_21 : decode cX6_digits 21 = .ok (.aload_n 0, 1) := by decide +kernel
theorem dX6_digits_22 : decode cX6_digits 22 = .ok (.getfield 7, 3) := by decide +kernel
theorem dX6_digits_25 : decode cX6_digits 25 = .ok (.iconst 1, 1) := by decide +kernel
theorem dX6_digits_26 : decode cX6_digits 26 = .ok (.iaload, 1) := by decide +kernel
theorem dX6_digits_27 : decode cX6_digits 27 = .ok (.if_icmp .ge 15, 3) := by decide +kernel
theorem dX6_digits_30 : decode cX6_digits 30 = .ok (.lload_n 2, 1) := by decide +kernel
theorem dX6_digits_31 : decode cX6_digits 31 = .ok (.ldc2_w 178, 3) := by decide +kernel
theorem dX6_digits_34 : decode cX6_digits 34 = .ok (.lmul, 1) := by decide +kernel
theorem dX6_digits_35 : decode cX6_digits 35 = .ok (.lstore_n 2, 1) := by decide +kernel
theorem dX6_digits_36 : decode cX6_digits 36 = .ok (.iinc 4 1, 3) := by decide +kernel
theorem dX6_digits_39 : decode cX6_digits 39 = .ok (.goto (-20), 3) := by decide +kernel
theorem dX6_digits_42 : decode cX6_digits 42 = .ok (.aload_n 0, 1) := by decide +kernel
theorem dX6_digits_43 : decode cX6_digits 43 = .ok (.lload_n 2, 1) := by decide +kernel
theorem dX6_digits_44 : decode cX6_digits 44 = .ok (.iconst 2, 1) := by decide +kernel
theorem dX6_digits_45 : decode cX6_digits 45 = .ok (.invokevirtual 150, 3) := by decide +kernel
theorem dX6_digits_48 : decode cX6_digits 48 = .ok (.l2i, 1) := by decide +kernel
theorem dX6_digits_49 : decode cX6_digits 49 = .ok (.ireturn, 1) := by decide +kernel
theorem dX6_side_0 : decode cX6_side 0 = .ok (.ldc2_w 180, 3) := by decide +kernel
theorem dX6_side_3 : decode cX6_side 3 = .ok (.lload 4, 2) := by decide +kernel
theorem dX6_side_5 : decode cX6_side 5 = .ok (.lmul, 1) := by decide +kernel
theorem dX6_side_6 : decode cX6_side 6 = .ok (.ldc2_w 180, 3) := by decide +kernel
theorem dX6_side_9 : decode cX6_side 9 = .ok (.lload_n 2, 1) := by decide +kernel
theorem dX6_side_10 : decode cX6_side 10 = .ok (.lmul, 1) := by decide +kernel
theorem dX6_side_11 : decode cX6_side 11 = .ok (.lsub, 1) := by decide +kernel
theorem dX6_side_12 : decode cX6_side 12 = .ok (.lload_n 0, 1) := by decide +kernel
theorem dX6_side_13 : decode cX6_side 13 = .ok (.lload_n 0, 1) := by decide +kernel
theorem dX6_side_14 : decode cX6_side 14 = .ok (.lmul, 1) := by decide +kernel
theorem dX6_side_15 : decode cX6_side 15 = .ok (.lsub, 1) := by decide +kernel
theorem dX6_side_16 : decode cX6_side 16 = .ok (.lstore 6, 2) := by decide +kernel
theorem dX6_side_18 : decode cX6_side 18 = .ok (.lload 6, 2) := by decide +kernel
theorem dX6_side_20 : decode cX6_side 20 = .ok (.lconst 0, 1) := by decide +kernel
theorem dX6_side_21 : decode cX6_side 21 = .ok (.lcmp, 1) := by decide +kernel
theorem dX6_side_22 : decode cX6_side 22 = .ok (.ifCond .ge 5, 3) := by decide +kernel
theorem dX6_side_25 : decode cX6_side 25 = .ok (.iconst 1, 1) := by decide +kernel
theorem dX6_side_26 : decode cX6_side 26 = .ok (.ireturn, 1) := by decide +kernel
theorem dX6_side_27 : decode cX6_side 27 = .ok (.ldc2_w 182, 3) := by decide +kernel
theorem dX6_side_30 : decode cX6_side 30 = .ok (.lload_n 0, 1) := by decide +kernel
theorem dX6_side_31 : decode cX6_side 31 = .ok (.lmul, 1) := by decide +kernel
theorem dX6_side_32 : decode cX6_side 32 = .ok (.lload_n 0, 1) := by decide +kernel
theorem dX6_side_33 : decode cX6_side 33 = .ok (.lmul, 1) := by decide +kernel
theorem dX6_side_34 : decode cX6_side 34 = .ok (.lload_n 2, 1) := by decide +kernel
theorem dX6_side_35 : decode cX6_side 35 = .ok (.lmul, 1) := by decide +kernel
theorem dX6_side_36 : decode cX6_side 36 = .ok (.lstore 8, 2) := by decide +kernel
theorem dX6_side_38 : decode cX6_side 38 = .ok (.lload 6, 2) := by decide +kernel
theorem dX6_side_40 : decode cX6_side 40 = .ok (.lload 6, 2) := by decide +kernel
theorem dX6_side_42 : decode cX6_side 42 = .ok (.lmul, 1) := by decide +kernel
theorem dX6_side_43 : decode cX6_side 43 = .ok (.lstore 10, 2) := by decide +kernel
theorem dX6_side_45 : decode cX6_side 45 = .ok (.lload 8, 2) := by decide +kernel
theorem dX6_side_47 : decode cX6_side 47 = .ok (.lload 10, 2) := by decide +kernel
theorem dX6_side_49 : decode cX6_side 49 = .ok (.lcmp, 1) := by decide +kernel
theorem dX6_side_50 : decode cX6_side 50 = .ok (.ifCond .le 7, 3) := by decide +kernel
theorem dX6_side_53 : decode cX6_side 53 = .ok (.iconst 1, 1) := by decide +kernel
theorem dX6_side_54 : decode cX6_side 54 = .ok (.goto 16, 3) := by decide +kernel
theorem dX6_side_57 : decode cX6_side 57 = .ok (.lload 8, 2) := by decide +kernel
theorem dX6_side_59 : decode cX6_side 59 = .ok (.lload 10, 2) := by decide +kernel
theorem dX6_side_61 : decode cX6_side 61 = .ok (.lcmp, 1) := by decide +kernel
theorem dX6_side_62 : decode cX6_side 62 = .ok (.ifCond .ge 7, 3) := by decide +kernel
theorem dX6_side_65 : decode cX6_side 65 = .ok (.iconst (-1), 1) := by decide +kernel
theorem dX6_side_66 : decode cX6_side 66 = .ok (.goto 4, 3) := by decide +kernel
theorem dX6_side_69 : decode cX6_side 69 = .ok (.iconst 0, 1) := by decide +kernel
theorem dX6_side_70 : decode cX6_side 70 = .ok (.ireturn, 1) := by decide +kernel
theorem dX6_compare_0 : decode cX6_compare 0 = .ok (.iload_n 1, 1) := by decide +kernel
theorem dX6_compare_1 : decode cX6_compare 1 = .ok (.iconst 0, 1) := by decide +kernel
theorem dX6_compare_2 : decode cX6_compare 2 = .ok (.sipush 10000, 3) := by decide +kernel
theorem dX6_compare_5 : decode cX6_compare 5 = .ok (.invokestatic 57, 3) := by decide +kernel
theorem dX6_compare_8 : decode cX6_compare 8 = .ok (.ifCond .eq 37, 3) := by decide +kernel
theorem dX6_compare_11 : decode cX6_compare 11 = .ok (.iload_n 2, 1) := by decide +kernel
theorem dX6_compare_12 : decode cX6_compare 12 = .ok (.iconst 0, 1) := by decide +kernel
theorem dX6_compare_13 : decode cX6_compare 13 = .ok (.sipush 10000, 3) := by decide +kernel
theorem dX6_compare_16 : decode cX6_compare 16 = .ok (.invokestatic 57, 3) := by decide +kernel
theorem dX6_compare_19 : decode cX6_compare 19 = .ok (.ifCond .eq 26, 3) := by decide +kernel
theorem dX6_compare_22 : decode cX6_compare 22 = .ok (.iload_n 3, 1) := by decide +kernel
theorem dX6_compare_23 : decode cX6_compare 23 = .ok (.iconst 0, 1) := by decide +kernel
theorem dX6_compare_24 : decode cX6_compare 24 = .ok (.sipush 10000, 3) := by decide +kernel
theorem dX6_compare_27 : decode cX6_compare 27 = .ok (.invokestatic 57, 3) := by decide +kernel
theorem dX6_compare_30 : decode cX6_compare 30 = .ok (.ifCond .eq 15, 3) := by decide +kernel
theorem dX6_compare_33 : decode cX6_compare 33 = .ok (.iload 4, 2) := by decide +kernel
theorem dX6_compare_35 : decode cX6_compare 35 = .ok (.iconst 0, 1) := by decide +kernel
theorem dX6_compare_36 : decode cX6_compare 36 = .ok (.sipush 10000, 3) := by decide +kernel
theorem dX6_compare_39 : decode cX6_compare 39 = .ok (.invokestatic 57, 3) := by decide +kernel
theorem dX6_compare_42 : decode cX6_compare 42 = .ok (.ifCond .ne 6, 3) := by decide +kernel
theorem dX6_compare_45 : decode cX6_compare 45 = .ok (.bipush (-2), 2) := by decide +kernel
theorem dX6_compare_47 : decode cX6_compare 47 = .ok (.ireturn, 1) := by decide +kernel
theorem dX6_compare_48 : decode cX6_compare 48 = .ok (.iload_n 1, 1) := by decide +kernel
theorem dX6_compare_49 : decode cX6_compare 49 = .ok (.iload_n 2, 1) := by decide +kernel
theorem dX6_compare_50 : decode cX6_compare 50 = .ok (.iadd, 1) := by decide +kernel
theorem dX6_compare_51 : decode cX6_compare 51 = .ok (.iload_n 3, 1) := by decide +kernel
theorem dX6_compare_52 : decode cX6_compare 52 = .ok (.isub, 1) := by decide +kernel
theorem dX6_compare_53 : decode cX6_compare 53 = .ok (.iload 4, 2) := by decide +kernel
theorem dX6_compare_55 : decode cX6_compare 55 = .ok (.isub, 1) := by decide +kernel
theorem dX6_compare_56 : decode cX6_compare 56 = .ok (.i2l, 1) := by decide +kernel
theorem dX6_compare_57 : decode cX6_compare 57 = .ok (.lstore 5, 2) := by decide +kernel
theorem dX6_compare_59 : decode cX6_compare 59 = .ok (.iload_n 1, 1) := by decide +kernel
theorem dX6_compare_60 : decode cX6_compare 60 = .ok (.i2l, 1) := by decide +kernel
theorem dX6_compare_61 : decode cX6_compare 61 = .ok (.iload_n 2, 1) := by decide +kernel
theorem dX6_compare_62 : decode cX6_compare 62 = .ok (.i2l, 1) := by decide +kernel
theorem dX6_compare_63 : decode cX6_compare 63 = .ok (.lmul, 1) := by decide +kernel
theorem dX6_compare_64 : decode cX6_compare 64 = .ok (.lstore 7, 2) := by decide +kernel
theorem dX6_compare_66 : decode cX6_compare 66 = .ok (.iload_n 3, 1) := by decide +kernel
theorem dX6_compare_67 : decode cX6_compare 67 = .ok (.i2l, 1) := by decide +kernel
theorem dX6_compare_68 : decode cX6_compare 68 = .ok (.iload 4, 2) := by decide +kernel
theorem dX6_compare_70 : decode cX6_compare 70 = .ok (.i2l, 1) := by decide +kernel
theorem dX6_compare_71 : decode cX6_compare 71 = .ok (.lmul, 1) := by decide +kernel
theorem dX6_compare_72 : decode cX6_compare 72 = .ok (.lstore 9, 2) := by decide +kernel
theorem dX6_compare_74 : decode cX6_compare 74 = .ok (.lload 5, 2) := by decide +kernel
theorem dX6_compare_76 : decode cX6_compare 76 = .ok (.lconst 0, 1) := by decide +kernel
theorem dX6_compare_77 : decode cX6_compare 77 = .ok (.lcmp, 1) := by decide +kernel
theorem dX6_compare_78 : decode cX6_compare 78 = .ok (.ifCond .le 25, 3) := by decide +kernel
theorem dX6_compare_81 : decode cX6_compare 81 = .ok (.lload 7, 2) := by decide +kernel
theorem dX6_compare_83 : decode cX6_compare 83 = .ok (.lload 9, 2) := by decide +kernel
theorem dX6_compare_85 : decode cX6_compare 85 = .ok (.lcmp, 1) := by decide +kernel
theorem dX6_compare_86 : decode cX6_compare 86 = .ok (.ifCond .ge 17, 3) := by decide +kernel
theorem dX6_compare_89 : decode cX6_compare 89 = .ok (.lload 5, 2) := by decide +kernel
theorem dX6_compare_91 : decode cX6_compare 91 = .ok (.lload 7, 2) := by decide +kernel
theorem dX6_compare_93 : decode cX6_compare 93 = .ok (.lload 9, 2) := by decide +kernel
theorem dX6_compare_95 : decode cX6_compare 95 = .ok (.invokestatic 184, 3) := by decide +kernel
theorem dX6_compare_98 : decode cX6_compare 98 = .ok (.istore 11, 2) := by decide +kernel
theorem dX6_compare_100 : decode cX6_compare 100 = .ok (.goto 75, 3) := by decide +kernel
theorem dX6_compare_103 : decode cX6_compare 103 = .ok (.lload 5, 2) := by decide +kernel
theorem dX6_compare_105 : decode cX6_compare 105 = .ok (.lconst 0, 1) := by decide +kernel
theorem dX6_compare_106 : decode cX6_compare 106 = .ok (.lcmp, 1) := by decide +kernel
theorem dX6_compare_107 : decode cX6_compare 107 = .ok (.ifCond .ge 27, 3) := by decide +kernel
theorem dX6_compare_110 : decode cX6_compare 110 = .ok (.lload 7, 2) := by decide +kernel
theorem dX6_compare_112 : decode cX6_compare 112 = .ok (.lload 9, 2) := by decide +kernel
theorem dX6_compare_114 : decode cX6_compare 114 = .ok (.lcmp, 1) := by decide +kernel
theorem dX6_compare_115 : decode cX6_compare 115 = .ok (.ifCond .le 19, 3) := by decide +kernel
theorem dX6_compare_118 : decode cX6_compare 118 = .ok (.lload 5, 2) := by decide +kernel
theorem dX6_compare_120 : decode cX6_compare 120 = .ok (.lneg, 1) := by decide +kernel
theorem dX6_compare_121 : decode cX6_compare 121 = .ok (.lload 9, 2) := by decide +kernel
theorem dX6_compare_123 : decode cX6_compare 123 = .ok (.lload 7, 2) := by decide +kernel
theorem dX6_compare_125 : decode cX6_compare 125 = .ok (.invokestatic 184, 3) := by decide +kernel
theorem dX6_compare_128 : decode cX6_compare 128 = .ok (.ineg, 1) := by decide +kernel
theorem dX6_compare_129 : decode cX6_compare 129 = .ok (.istore 11, 2) := by decide +kernel
theorem dX6_compare_131 : decode cX6_compare 131 = .ok (.goto 44, 3) := by decide +kernel
theorem dX6_compare_134 : decode cX6_compare 134 = .ok (.lload 5, 2) := by decide +kernel
theorem dX6_compare_136 : decode cX6_compare 136 = .ok (.lconst 0, 1) := by decide +kernel
theorem dX6_compare_137 : decode cX6_compare 137 = .ok (.lcmp, 1) := by decide +kernel
theorem dX6_compare_138 : decode cX6_compare 138 = .ok (.ifCond .gt 11, 3) := by decide +kernel
theorem dX6_compare_141 : decode cX6_compare 141 = .ok (.lload 7, 2) := by decide +kernel
theorem dX6_compare_143 : decode cX6_compare 143 = .ok (.lload 9, 2) := by decide +kernel
theorem dX6_compare_145 : decode cX6_compare 145 = .ok (.lcmp, 1) := by decide +kernel
theorem dX6_compare_146 : decode cX6_compare 146 = .ok (.ifCond .le 7, 3) := by decide +kernel
theorem dX6_compare_149 : decode cX6_compare 149 = .ok (.iconst 1, 1) := by decide +kernel
theorem dX6_compare_150 : decode cX6_compare 150 = .ok (.goto 23, 3) := by decide +kernel
theorem dX6_compare_153 : decode cX6_compare 153 = .ok (.lload 5, 2) := by decide +kernel
theorem dX6_compare_155 : decode cX6_compare 155 = .ok (.lconst 0, 1) := by decide +kernel
theorem dX6_compare_156 : decode cX6_compare 156 = .ok (.lcmp, 1) := by decide +kernel
theorem dX6_compare_157 : decode cX6_compare 157 = .ok (.ifCond .lt 11, 3) := by decide +kernel
theorem dX6_compare_160 : decode cX6_compare 160 = .ok (.lload 7, 2) := by decide +kernel
theorem dX6_compare_162 : decode cX6_compare 162 = .ok (.lload 9, 2) := by decide +kernel
theorem dX6_compare_164 : decode cX6_compare 164 = .ok (.lcmp, 1) := by decide +kernel
theorem dX6_compare_165 : decode cX6_compare 165 = .ok (.ifCond .ge 7, 3) := by decide +kernel
theorem dX6_compare_168 : decode cX6_compare 168 = .ok (.iconst (-1), 1) := by decide +kernel
theorem dX6_compare_169 : decode cX6_compare 169 = .ok (.goto 4, 3) := by decide +kernel
theorem dX6_compare_172 : decode cX6_compare 172 = .ok (.iconst 0, 1) := by decide +kernel
theorem dX6_compare_173 : decode cX6_compare 173 = .ok (.istore 11, 2) := by decide +kernel
theorem dX6_compare_175 : decode cX6_compare 175 = .ok (.iload 11, 2) := by decide +kernel
theorem dX6_compare_177 : decode cX6_compare 177 = .ok (.ifCond .ge 7, 3) := by decide +kernel
theorem dX6_compare_180 : decode cX6_compare 180 = .ok (.iconst 2, 1) := by decide +kernel
theorem dX6_compare_181 : decode cX6_compare 181 = .ok (.goto 5, 3) := by decide +kernel
theorem dX6_compare_184 : decode cX6_compare 184 = .ok (.iload 11, 2) := by decide +kernel
theorem dX6_compare_186 : decode cX6_compare 186 = .ok (.ireturn, 1) := by decide +kernel
theorem dX6_beginFraction_0 : decode cX6_beginFraction 0 = .ok (.aload_n 0, 1) := by decide +kernel
theorem dX6_beginFraction_1 : decode cX6_beginFraction 1 = .ok (.iload_n 1, 1) := by decide +kernel
theorem dX6_beginFraction_2 : decode cX6_beginFraction 2 = .ok (.i2l, 1) := by decide +kernel
theorem dX6_beginFraction_3 : decode cX6_beginFraction 3 = .ok (.iconst 2, 1) := by decide +kernel
theorem dX6_beginFraction_4 : decode cX6_beginFraction 4 = .ok (.invokestatic 133, 3) := by decide +kernel
theorem dX6_beginFraction_7 : decode cX6_beginFraction 7 = .ok (.l2i, 1) := by decide +kernel
theorem dX6_beginFraction_8 : decode cX6_beginFraction 8 = .ok (.putfield 188, 3) := by decide +kernel
theorem dX6_beginFraction_11 : decode cX6_beginFraction 11 = .ok (.aload_n 0, 1) := by decide +kernel
theorem dX6_beginFraction_12 : decode cX6_beginFraction 12 = .ok (.aload_n 0, 1) := by decide +kernel
theorem dX6_beginFraction_13 : decode cX6_beginFraction 13 = .ok (.getfield 188, 3) := by decide +kernel
theorem dX6_beginFraction_16 : decode cX6_beginFraction 16 = .ok (.putfield 191, 3) := by decide +kernel
theorem dX6_beginFraction_19 : decode cX6_beginFraction 19 = .ok (.aload_n 0, 1) := by decide +kernel
theorem dX6_beginFraction_20 : decode cX6_beginFraction 20 = .ok (.iconst 0, 1) := by decide +kernel
theorem dX6_beginFraction_21 : decode cX6_beginFraction 21 = .ok (.putfield 194, 3) := by decide +kernel
theorem dX6_beginFraction_24 : decode cX6_beginFraction 24 = .ok (.aload_n 0, 1) := by decide +kernel
theorem dX6_beginFraction_25 : decode cX6_beginFraction 25 = .ok (.iconst 1, 1) := by decide +kernel
theorem dX6_beginFraction_26 : decode cX6_beginFraction 26 = .ok (.putfield 197, 3) := by decide +kernel
theorem dX6_beginFraction_29 : decode cX6_beginFraction 29 = .ok (.return_, 1) := by decide +kernel
theorem dX6_nextTerm_0 : decode cX6_nextTerm 0 = .ok (.aload_n 0, 1) := by decide +kernel
theorem dX6_nextTerm_1 : decode cX6_nextTerm 1 = .ok (.aload_n 0, 1) := by decide +kernel
theorem dX6_nextTerm_2 : decode cX6_nextTerm 2 = .ok (.getfield 197, 3) := by decide +kernel
theorem dX6_nextTerm_5 : decode cX6_nextTerm 5 = .ok (.aload_n 0, 1) := by decide +kernel
theorem dX6_nextTerm_6 : decode cX6_nextTerm 6 = .ok (.getfield 191, 3) := by decide +kernel
theorem dX6_nextTerm_9 : decode cX6_nextTerm 9 = .ok (.imul, 1) := by decide +kernel
theorem dX6_nextTerm_10 : decode cX6_nextTerm 10 = .ok (.aload_n 0, 1) := by decide +kernel
theorem dX6_nextTerm_11 : decode cX6_nextTerm 11 = .ok (.getfield 194, 3) := by decide +kernel
theorem dX6_nextTerm_14 : decode cX6_nextTerm 14 = .ok (.isub, 1) := by decide +kernel
theorem dX6_nextTerm_15 : decode cX6_nextTerm 15 = .ok (.putfield 194, 3) := by decide +kernel
theorem dX6_nextTerm_18 : decode cX6_nextTerm 18 = .ok (.aload_n 0, 1) := by decide +kernel
theorem dX6_nextTerm_19 : decode cX6_nextTerm 19 = .ok (.iload_n 1, 1) := by decide +kernel
theorem dX6_nextTerm_20 : decode cX6_nextTerm 20 = .ok (.aload_n 0, 1) := by decide +kernel
theorem dX6_nextTerm_21 : decode cX6_nextTerm 21 = .ok (.getfield 194, 3) := by decide +kernel
theorem dX6_nextTerm_24 : decode cX6_nextTerm 24 = .ok (.aload_n 0, 1) := by decide +kernel
theorem dX6_nextTerm_25 : decode cX6_nextTerm 25 = .ok (.getfield 194, 3) := by decide +kernel
theorem dX6_nextTerm_28 : decode cX6_nextTerm 28 = .ok (.imul, 1) := by decide +kernel
theorem dX6_nextTerm_29 : decode cX6_nextTerm 29 = .ok (.isub, 1) := by decide +kernel
theorem dX6_nextTerm_30 : decode cX6_nextTerm 30 = .ok (.aload_n 0, 1) := by decide +kernel
theorem dX6_nextTerm_31 : decode cX6_nextTerm 31 = .ok (.getfield 197, 3) := by decide +kernel
theorem dX6_nextTerm_34 : decode cX6_nextTerm 34 = .ok (.idiv, 1) := by decide +kernel
theorem dX6_nextTerm_35 : decode cX6_nextTerm 35 = .ok (.putfield 197, 3) := by decide +kernel
theorem dX6_nextTerm_38 : decode cX6_nextTerm 38 = .ok (.aload_n 0, 1) := by decide +kernel
theorem dX6_nextTerm_39 : decode cX6_nextTerm 39 = .ok (.aload_n 0, 1) := by decide +kernel
theorem dX6_nextTerm_40 : decode cX6_nextTerm 40 = .ok (.getfield 188, 3) := by decide +kernel
theorem dX6_nextTerm_43 : decode cX6_nextTerm 43 = .ok (.aload_n 0, 1) := by decide +kernel
theorem dX6_nextTerm_44 : decode cX6_nextTerm 44 = .ok (.getfield 194, 3) := by decide +kernel
theorem dX6_nextTerm_47 : decode cX6_nextTerm 47 = .ok (.iadd, 1) := by decide +kernel
theorem dX6_nextTerm_48 : decode cX6_nextTerm 48 = .ok (.aload_n 0, 1) := by decide +kernel
theorem dX6_nextTerm_49 : decode cX6_nextTerm 49 = .ok (.getfield 197, 3) := by decide +kernel
theorem dX6_nextTerm_52 : decode cX6_nextTerm 52 = .ok (.idiv, 1) := by decide +kernel
theorem dX6_nextTerm_53 : decode cX6_nextTerm 53 = .ok (.putfield 191, 3) := by decide +kernel
theorem dX6_nextTerm_56 : decode cX6_nextTerm 56 = .ok (.return_, 1) := by decide +kernel
theorem dX6_period_0 : decode cX6_period 0 = .ok (.iload_n 1, 1) := by decide +kernel
theorem dX6_period_1 : decode cX6_period 1 = .ok (.iconst 0, 1) := by decide +kernel
theorem dX6_period_2 : decode cX6_period 2 = .ok (.ldc 200, 2) := by decide +kernel
theorem dX6_period_4 : decode cX6_period 4 = .ok (.invokestatic 57, 3) := by decide +kernel
theorem dX6_period_7 : decode cX6_period 7 = .ok (.ifCond .ne 6, 3) := by decide +kernel
theorem dX6_period_10 : decode cX6_period 10 = .ok (.bipush (-2), 2) := by decide +kernel
theorem dX6_period_12 : decode cX6_period 12 = .ok (.ireturn, 1) := by decide +kernel
theorem dX6_period_13 : decode cX6_period 13 = .ok (.aload_n 0, 1) := by decide +kernel
theorem dX6_period_14 : decode cX6_period 14 = .ok (.iload_n 1, 1) := by decide +kernel
theorem dX6_period_15 : decode cX6_period 15 = .ok (.invokevirtual 201, 3) := by decide +kernel
theorem dX6_period_18 : decode cX6_period 18 = .ok (.aload_n 0, 1) := by decide +kernel
theorem dX6_period_19 : decode cX6_period 19 = .ok (.getfield 188, 3) := by decide +kernel
theorem dX6_period_22 : decode cX6_period 22 = .ok (.aload_n 0, 1) := by decide +kernel
theorem dX6_period_23 : decode cX6_period 23 = .ok (.getfield 188, 3) := by decide +kernel
theorem dX6_period_26 : decode cX6_period 26 = .ok (.imul, 1) := by decide +kernel
theorem dX6_period_27 : decode cX6_period 27 = .ok (.iload_n 1, 1) := by decide +kernel
theorem dX6_period_28 : decode cX6_period 28 = .ok (.if_icmp .ne 6, 3) := by decide +kernel
theorem dX6_period_31 : decode cX6_period 31 = .ok (.bipush (-6), 2) := by decide +kernel
theorem dX6_period_33 : decode cX6_period 33 = .ok (.ireturn, 1) := by decide +kernel
theorem dX6_period_34 : decode cX6_period 34 = .ok (.iconst 0, 1) := by decide +kernel
theorem dX6_period_35 : decode cX6_period 35 = .ok (.istore_n 2, 1) := by decide +kernel
theorem dX6_period_36 : decode cX6_period 36 = .ok (.iconst 1, 1) := by decide +kernel
theorem dX6_period_37 : decode cX6_period 37 = .ok (.istore_n 3, 1) := by decide +kernel
theorem dX6_period_38 : decode cX6_period 38 = .ok (.iload_n 3, 1) := by decide +kernel
theorem dX6_period_39 : decode cX6_period 39 = .ok (.ifCond .eq 33, 3) := by decide +kernel
theorem dX6_period_42 : decode cX6_period 42 = .ok (.aload_n 0, 1) := by decide +kernel
theorem dX6_period_43 : decode cX6_period 43 = .ok (.iload_n 1, 1) := by decide +kernel
theorem dX6_period_44 : decode cX6_period 44 = .ok (.invokevirtual 204, 3) := by decide +kernel
theorem dX6_period_47 : decode cX6_period 47 = .ok (.iinc 2 1, 3) := by decide +kernel
theorem dX6_period_50 : decode cX6_period 50 = .ok (.aload_n 0, 1) := by decide +kernel
theorem dX6_period_51 : decode cX6_period 51 = .ok (.getfield 191, 3) := by decide +kernel
theorem dX6_period_54 : decode cX6_period 54 = .ok (.iconst 2, 1) := by decide +kernel
theorem dX6_period_55 : decode cX6_period 55 = .ok (.aload_n 0, 1) := by decide +kernel
theorem dX6_period_56 : decode cX6_period 56 = .ok (.getfield 188, 3) := by decide +kernel
theorem dX6_period_59 : decode cX6_period 59 = .ok (.imul, 1) := by decide +kernel
theorem dX6_period_60 : decode cX6_period 60 = .ok (.if_icmp .eq 7, 3) := by decide +kernel
theorem dX6_period_63 : decode cX6_period 63 = .ok (.iconst 1, 1) := by decide +kernel
theorem dX6_period_64 : decode cX6_period 64 = .ok (.goto 4, 3) := by decide +kernel
theorem dX6_period_67 : decode cX6_period 67 = .ok (.iconst 0, 1) := by decide +kernel
theorem dX6_period_68 : decode cX6_period 68 = .ok (.istore_n 3, 1) := by decide +kernel
theorem dX6_period_69 : decode cX6_period 69 = .ok (.goto (-31), 3) := by decide +kernel
theorem dX6_period_72 : decode cX6_period 72 = .ok (.iload_n 2, 1) := by decide +kernel
theorem dX6_period_73 : decode cX6_period 73 = .ok (.ireturn, 1) := by decide +kernel
theorem dX6_term_0 : decode cX6_term 0 = .ok (.iload_n 1, 1) := by decide +kernel
theorem dX6_term_1 : decode cX6_term 1 = .ok (.iconst 0, 1) := by decide +kernel
theorem dX6_term_2 : decode cX6_term 2 = .ok (.ldc 200, 2) := by decide +kernel
theorem dX6_term_4 : decode cX6_term 4 = .ok (.invokestatic 57, 3) := by decide +kernel
theorem dX6_term_7 : decode cX6_term 7 = .ok (.ifCond .eq 14, 3) := by decide +kernel
theorem dX6_term_10 : decode cX6_term 10 = .ok (.iload_n 2, 1) := by decide +kernel
theorem dX6_term_11 : decode cX6_term 11 = .ok (.iconst 0, 1) := by decide +kernel
theorem dX6_term_12 : decode cX6_term 12 = .ok (.sipush 500, 3) := by decide +kernel
theorem dX6_term_15 : decode cX6_term 15 = .ok (.invokestatic 57, 3) := by decide +kernel
theorem dX6_term_18 : decode cX6_term 18 = .ok (.ifCond .ne 6, 3) := by decide +kernel
theorem dX6_term_21 : decode cX6_term 21 = .ok (.bipush (-2), 2) := by decide +kernel
theorem dX6_term_23 : decode cX6_term 23 = .ok (.ireturn, 1) := by decide +kernel
theorem dX6_term_24 : decode cX6_term 24 = .ok (.aload_n 0, 1) := by decide +kernel
theorem dX6_term_25 : decode cX6_term 25 = .ok (.iload_n 1, 1) := by decide +kernel
theorem dX6_term_26 : decode cX6_term 26 = .ok (.invokevirtual 201, 3) := by decide +kernel
theorem dX6_term_29 : decode cX6_term 29 = .ok (.iload_n 2, 1) := by decide +kernel
theorem dX6_term_30 : decode cX6_term 30 = .ok (.ifCond .le 19, 3) := by decide +kernel
theorem dX6_term_33 : decode cX6_term 33 = .ok (.aload_n 0, 1) := by decide +kernel
theorem dX6_term_34 : decode cX6_term 34 = .ok (.getfield 188, 3) := by decide +kernel
theorem dX6_term_37 : decode cX6_term 37 = .ok (.aload_n 0, 1) := by decide +kernel
theorem dX6_term_38 : decode cX6_term 38 = .ok (.getfield 188, 3) := by decide +kernel
theorem dX6_term_41 : decode cX6_term 41 = .ok (.imul, 1) := by decide +kernel
theorem dX6_term_42 : decode cX6_term 42 = .ok (.iload_n 1, 1) := by decide +kernel
theorem dX6_term_43 : decode cX6_term 43 = .ok (.if_icmp .ne 6, 3) := by decide +kernel
theorem dX6_term_46 : decode cX6_term 46 = .ok (.bipush (-6), 2) := by decide +kernel
theorem dX6_term_48 : decode cX6_term 48 = .ok (.ireturn, 1) := by decide +kernel
theorem dX6_term_49 : decode cX6_term 49 = .ok (.iconst 0, 1) := by decide +kernel
theorem dX6_term_50 : decode cX6_term 50 = .ok (.istore_n 3, 1) := by decide +kernel
theorem dX6_term_51 : decode cX6_term 51 = .ok (.iload_n 3, 1) := by decide +kernel
theorem dX6_term_52 : decode cX6_term 52 = .ok (.iload_n 2, 1) := by decide +kernel
theorem dX6_term_53 : decode cX6_term 53 = .ok (.if_icmp .ge 14, 3) := by decide +kernel
theorem dX6_term_56 : decode cX6_term 56 = .ok (.aload_n 0, 1) := by decide +kernel
theorem dX6_term_57 : decode cX6_term 57 = .ok (.iload_n 1, 1) := by decide +kernel
theorem dX6_term_58 : decode cX6_term 58 = .ok (.invokevirtual 204, 3) := by decide +kernel
theorem dX6_term_61 : decode cX6_term 61 = .ok (.iinc 3 1, 3) := by decide +kernel
theorem dX6_term_64 : decode cX6_term 64 = .ok (.goto (-13), 3) := by decide +kernel
theorem dX6_term_67 : decode cX6_term 67 = .ok (.aload_n 0, 1) := by decide +kernel
theorem dX6_term_68 : decode cX6_term 68 = .ok (.getfield 191, 3) := by decide +kernel
theorem dX6_term_71 : decode cX6_term 71 = .ok (.ireturn, 1) := by decide +kernel
theorem dX6_convergent_0 : decode cX6_convergent 0 = .ok (.iload_n 1, 1) := by decide +kernel
theorem dX6_convergent_1 : decode cX6_convergent 1 = .ok (.iconst 0, 1) := by decide +kernel
theorem dX6_convergent_2 : decode cX6_convergent 2 = .ok (.ldc 200, 2) := by decide +kernel
theorem dX6_convergent_4 : decode cX6_convergent 4 = .ok (.invokestatic 57, 3) := by decide +kernel
theorem dX6_convergent_7 : decode cX6_convergent 7 = .ok (.ifCond .eq 23, 3) := by decide +kernel
theorem dX6_convergent_10 : decode cX6_convergent 10 = .ok (.iload_n 2, 1) := by decide +kernel
theorem dX6_convergent_11 : decode cX6_convergent 11 = .ok (.iconst 0, 1) := by decide +kernel
theorem dX6_convergent_12 : decode cX6_convergent 12 = .ok (.sipush 500, 3) := by decide +kernel
theorem dX6_convergent_15 : decode cX6_convergent 15 = .ok (.invokestatic 57, 3) := by decide +kernel
theorem dX6_convergent_18 : decode cX6_convergent 18 = .ok (.ifCond .eq 12, 3) := by decide +kernel
theorem dX6_convergent_21 : decode cX6_convergent 21 = .ok (.iload_n 3, 1) := by decide +kernel
theorem dX6_convergent_22 : decode cX6_convergent 22 = .ok (.iconst 0, 1) := by decide +kernel
theorem dX6_convergent_23 : decode cX6_convergent 23 = .ok (.iconst 1, 1) := by decide +kernel
theorem dX6_convergent_24 : decode cX6_convergent 24 = .ok (.invokestatic 57, 3) := by decide +kernel
theorem dX6_convergent_27 : decode cX6_convergent 27 = .ok (.ifCond .ne 7, 3) := by decide +kernel
theorem dX6_convergent_30 : decode cX6_convergent 30 = .ok (.ldc2_w 70, 3) := by decide +kernel
theorem dX6_convergent_33 : decode cX6_convergent 33 = .ok (.lreturn, 1) := by decide +kernel
theorem dX6_convergent_34 : decode cX6_convergent 34 = .ok (.aload_n 0, 1) := by decide +kernel
theorem dX6_convergent_35 : decode cX6_convergent 35 = .ok (.iload_n 1, 1) := by decide +kernel
theorem dX6_convergent_36 : decode cX6_convergent 36 = .ok (.invokevirtual 201, 3) := by decide +kernel
theorem dX6_convergent_39 : decode cX6_convergent 39 = .ok (.iload_n 2, 1) := by decide +kernel
theorem dX6_convergent_40 : decode cX6_convergent 40 = .ok (.ifCond .le 20, 3) := by decide +kernel
theorem dX6_convergent_43 : decode cX6_convergent 43 = .ok (.aload_n 0, 1) := by decide +kernel
theorem dX6_convergent_44 : decode cX6_convergent 44 = .ok (.getfield 188, 3) := by decide +kernel
theorem dX6_convergent_47 : decode cX6_convergent 47 = .ok (.aload_n 0, 1) := by decide +kernel
theorem dX6_convergent_48 : decode cX6_convergent 48 = .ok (.getfield 188, 3) := by decide +kernel
theorem dX6_convergent_51 : decode cX6_convergent 51 = .ok (.imul, 1) := by decide +kernel
theorem dX6_convergent_52 : decode cX6_convergent 52 = .ok (.iload_n 1, 1) := by decide +kernel
theorem dX6_convergent_53 : decode cX6_convergent 53 = .ok (.if_icmp .ne 7, 3) := by decide +kernel
theorem dX6_convergent_56 : decode cX6_convergent 56 = .ok (.ldc2_w 175, 3) := by decide +kernel
theorem dX6_convergent_59 : decode cX6_convergent 59 = .ok (.lreturn, 1) := by decide +kernel
theorem dX6_convergent_60 : decode cX6_convergent 60 = .ok (.aload_n 0, 1) := by decide +kernel
theorem dX6_convergent_61 : decode cX6_convergent 61 = .ok (.getfield 188, 3) := by decide +kernel
theorem dX6_convergent_64 : decode cX6_convergent 64 = .ok (.i2l, 1) := by decide +kernel
theorem dX6_convergent_65 : decode cX6_convergent 65 = .ok (.lstore 4, 2) := by decide +kernel
theorem dX6_convergent_67 : decode cX6_convergent 67 = .ok (.lconst 1, 1) := by decide +kernel
theorem dX6_convergent_68 : decode cX6_convergent 68 = .ok (.lstore 6, 2) := by decide +kernel
theorem dX6_convergent_70 : decode cX6_convergent 70 = .ok (.lconst 1, 1) := by decide +kernel
theorem dX6_convergent_71 : decode cX6_convergent 71 = .ok (.lstore 8, 2) := by decide +kernel
theorem dX6_convergent_73 : decode cX6_convergent 73 = .ok (.lconst 0, 1) := by decide +kernel
theorem dX6_convergent_74 : decode cX6_convergent 74 = .ok (.lstore 10, 2) := by decide +kernel
theorem dX6_convergent_76 : decode cX6_convergent 76 = .ok (.iconst 0, 1) := by decide +kernel
theorem dX6_convergent_77 : decode cX6_convergent 77 = .ok (.istore 12, 2) := by decide +kernel
theorem dX6_convergent_79 : decode cX6_convergent 79 = .ok (.iload 12, 2) := by decide +kernel
theorem dX6_convergent_81 : decode cX6_convergent 81 = .ok (.iload_n 2, 1) := by decide +kernel
theorem dX6_convergent_82 : decode cX6_convergent 82 = .ok (.if_icmp .ge 78, 3) := by decide +kernel
theorem dX6_convergent_85 : decode cX6_convergent 85 = .ok (.aload_n 0, 1) := by decide +kernel
theorem dX6_convergent_86 : decode cX6_convergent 86 = .ok (.iload_n 1, 1) := by decide +kernel
theorem dX6_convergent_87 : decode cX6_convergent 87 = .ok (.invokevirtual 204, 3) := by decide +kernel
theorem dX6_convergent_90 : decode cX6_convergent 90 = .ok (.aload_n 0, 1) := by decide +kernel
theorem dX6_convergent_91 : decode cX6_convergent 91 = .ok (.getfield 191, 3) := by decide +kernel
theorem dX6_convergent_94 : decode cX6_convergent 94 = .ok (.i2l, 1) := by decide +kernel
theorem dX6_convergent_95 : decode cX6_convergent 95 = .ok (.lload 4, 2) := by decide +kernel
theorem dX6_convergent_97 : decode cX6_convergent 97 = .ok (.lmul, 1) := by decide +kernel
theorem dX6_convergent_98 : decode cX6_convergent 98 = .ok (.lload 8, 2) := by decide +kernel
theorem dX6_convergent_100 : decode cX6_convergent 100 = .ok (.ladd, 1) := by decide +kernel
theorem dX6_convergent_101 : decode cX6_convergent 101 = .ok (.lstore 13, 2) := by decide +kernel
theorem dX6_convergent_103 : decode cX6_convergent 103 = .ok (.aload_n 0, 1) := by decide +kernel
theorem dX6_convergent_104 : decode cX6_convergent 104 = .ok (.getfield 191, 3) := by decide +kernel
theorem dX6_convergent_107 : decode cX6_convergent 107 = .ok (.i2l, 1) := by decide +kernel
theorem dX6_convergent_108 : decode cX6_convergent 108 = .ok (.lload 6, 2) := by decide +kernel
theorem dX6_convergent_110 : decode cX6_convergent 110 = .ok (.lmul, 1) := by decide +kernel
theorem dX6_convergent_111 : decode cX6_convergent 111 = .ok (.lload 10, 2) := by decide +kernel
theorem dX6_convergent_113 : decode cX6_convergent 113 = .ok (.ladd, 1) := by decide +kernel
theorem dX6_convergent_114 : decode cX6_convergent 114 = .ok (.lstore 15, 2) := by decide +kernel
theorem dX6_convergent_116 : decode cX6_convergent 116 = .ok (.lload 4, 2) := by decide +kernel
theorem dX6_convergent_118 : decode cX6_convergent 118 = .ok (.lstore 8, 2) := by decide +kernel
theorem dX6_convergent_120 : decode cX6_convergent 120 = .ok (.lload 6, 2) := by decide +kernel
theorem dX6_convergent_122 : decode cX6_convergent 122 = .ok (.lstore 10, 2) := by decide +kernel
theorem dX6_convergent_124 : decode cX6_convergent 124 = .ok (.lload 13, 2) := by decide +kernel
theorem dX6_convergent_126 : decode cX6_convergent 126 = .ok (.lstore 4, 2) := by decide +kernel
theorem dX6_convergent_128 : decode cX6_convergent 128 = .ok (.lload 15, 2) := by decide +kernel
theorem dX6_convergent_130 : decode cX6_convergent 130 = .ok (.lstore 6, 2) := by decide +kernel
theorem dX6_convergent_132 : decode cX6_convergent 132 = .ok (.lload 4, 2) := by decide +kernel
theorem dX6_convergent_134 : decode cX6_convergent 134 = .ok (.ldc2_w 51, 3) := by decide +kernel
theorem dX6_convergent_137 : decode cX6_convergent 137 = .ok (.lcmp, 1) := by decide +kernel
theorem dX6_convergent_138 : decode cX6_convergent 138 = .ok (.ifCond .gt 12, 3) := by decide +kernel
theorem dX6_convergent_141 : decode cX6_convergent 141 = .ok (.lload 6, 2) := by decide +kernel
theorem dX6_convergent_143 : decode cX6_convergent 143 = .ok (.ldc2_w 51, 3) := by decide +kernel
theorem dX6_convergent_146 : decode cX6_convergent 146 = .ok (.lcmp, 1) := by decide +kernel
theorem dX6_convergent_147 : decode cX6_convergent 147 = .ok (.ifCond .le 7, 3) := by decide +kernel
theorem dX6_convergent_150 : decode cX6_convergent 150 = .ok (.ldc2_w 175, 3) := by decide +kernel
theorem dX6_convergent_153 : decode cX6_convergent 153 = .ok (.lreturn, 1) := by decide +kernel
theorem dX6_convergent_154 : decode cX6_convergent 154 = .ok (.iinc 12 1, 3) := by decide +kernel
theorem dX6_convergent_157 : decode cX6_convergent 157 = .ok (.goto (-78), 3) := by decide +kernel
theorem dX6_convergent_160 : decode cX6_convergent 160 = .ok (.iload_n 3, 1) := by decide +kernel
theorem dX6_convergent_161 : decode cX6_convergent 161 = .ok (.ifCond .ne 8, 3) := by decide +kernel
theorem dX6_convergent_164 : decode cX6_convergent 164 = .ok (.lload 4, 2) := by decide +kernel
theorem dX6_convergent_166 : decode cX6_convergent 166 = .ok (.goto 5, 3) := by decide +kernel
theorem dX6_convergent_169 : decode cX6_convergent 169 = .ok (.lload 6, 2) := by decide +kernel
theorem dX6_convergent_171 : decode cX6_convergent 171 = .ok (.lreturn, 1) := by decide +kernel
theorem dX6_twoSquares_0 : decode cX6_twoSquares 0 = .ok (.iload_n 1, 1) := by decide +kernel
theorem dX6_twoSquares_1 : decode cX6_twoSquares 1 = .ok (.iconst 0, 1) := by decide +kernel
theorem dX6_twoSquares_2 : decode cX6_twoSquares 2 = .ok (.ldc 177, 2) := by decide +kernel
theorem dX6_twoSquares_4 : decode cX6_twoSquares 4 = .ok (.invokestatic 57, 3) := by decide +kernel
theorem dX6_twoSquares_7 : decode cX6_twoSquares 7 = .ok (.ifCond .eq 12, 3) := by decide +kernel
theorem dX6_twoSquares_10 : decode cX6_twoSquares 10 = .ok (.iload_n 2, 1) := by decide +kernel
theorem dX6_twoSquares_11 : decode cX6_twoSquares 11 = .ok (.iconst 0, 1) := by decide +kernel
theorem dX6_twoSquares_12 : decode cX6_twoSquares 12 = .ok (.iconst 2, 1) := by decide +kernel
theorem dX6_twoSquares_13 : decode cX6_twoSquares 13 = .ok (.invokestatic 57, 3) := by decide +kernel
theorem dX6_twoSquares_16 : decode cX6_twoSquares 16 = .ok (.ifCond .ne 6, 3) := by decide +kernel
theorem dX6_twoSquares_19 : decode cX6_twoSquares 19 = .ok (.bipush (-2), 2) := by decide +kernel
theorem dX6_twoSquares_21 : decode cX6_twoSquares 21 = .ok (.ireturn, 1) := by decide +kernel
theorem dX6_twoSquares_22 : decode cX6_twoSquares 22 = .ok (.iconst 0, 1) := by decide +kernel
theorem dX6_twoSquares_23 : decode cX6_twoSquares 23 = .ok (.istore_n 3, 1) := by decide +kernel
theorem dX6_twoSquares_24 : decode cX6_twoSquares 24 = .ok (.bipush (-6), 2) := by decide +kernel
theorem dX6_twoSquares_26 : decode cX6_twoSquares 26 = .ok (.istore 4, 2) := by decide +kernel
theorem dX6_twoSquares_28 : decode cX6_twoSquares 28 = .ok (.bipush (-6), 2) := by decide +kernel
theorem dX6_twoSquares_30 : decode cX6_twoSquares 30 = .ok (.istore 5, 2) := by decide +kernel
theorem dX6_twoSquares_32 : decode cX6_twoSquares 32 = .ok (.iconst 0, 1) := by decide +kernel
theorem dX6_twoSquares_33 : decode cX6_twoSquares 33 = .ok (.istore 6, 2) := by decide +kernel
theorem dX6_twoSquares_35 : decode cX6_twoSquares 35 = .ok (.iconst 2, 1) := by decide +kernel
theorem dX6_twoSquares_36 : decode cX6_twoSquares 36 = .ok (.iload 6, 2) := by decide +kernel
theorem dX6_twoSquares_38 : decode cX6_twoSquares 38 = .ok (.imul, 1) := by decide +kernel
theorem dX6_twoSquares_39 : decode cX6_twoSquares 39 = .ok (.iload 6, 2) := by decide +kernel
theorem dX6_twoSquares_41 : decode cX6_twoSquares 41 = .ok (.imul, 1) := by decide +kernel
theorem dX6_twoSquares_42 : decode cX6_twoSquares 42 = .ok (.iload_n 1, 1) := by decide +kernel
theorem dX6_twoSquares_43 : decode cX6_twoSquares 43 = .ok (.if_icmp .gt 68, 3) := by decide +kernel
theorem dX6_twoSquares_46 : decode cX6_twoSquares 46 = .ok (.iload_n 1, 1) := by decide +kernel
theorem dX6_twoSquares_47 : decode cX6_twoSquares 47 = .ok (.iload 6, 2) := by decide +kernel
theorem dX6_twoSquares_49 : decode cX6_twoSquares 49 = .ok (.iload 6, 2) := by decide +kernel
theorem dX6_twoSquares_51 : decode cX6_twoSquares 51 = .ok (.imul, 1) := by decide +kernel
theorem dX6_twoSquares_52 : decode cX6_twoSquares 52 = .ok (.isub, 1) := by decide +kernel
theorem dX6_twoSquares_53 : decode cX6_twoSquares 53 = .ok (.i2l, 1) := by decide +kernel
theorem dX6_twoSquares_54 : decode cX6_twoSquares 54 = .ok (.iconst 2, 1) := by decide +kernel
theorem dX6_twoSquares_55 : decode cX6_twoSquares 55 = .ok (.invokestatic 133, 3) := by decide +kernel
theorem dX6_twoSquares_58 : decode cX6_twoSquares 58 = .ok (.l2i, 1) := by decide +kernel
theorem dX6_twoSquares_59 : decode cX6_twoSquares 59 = .ok (.istore 7, 2) := by decide +kernel
theorem dX6_twoSquares_61 : decode cX6_twoSquares 61 = .ok (.iload 6, 2) := by decide +kernel
theorem dX6_twoSquares_63 : decode cX6_twoSquares 63 = .ok (.iload 6, 2) := by decide +kernel
theorem dX6_twoSquares_65 : decode cX6_twoSquares 65 = .ok (.imul, 1) := by decide +kernel
theorem dX6_twoSquares_66 : decode cX6_twoSquares 66 = .ok (.iload 7, 2) := by decide +kernel
theorem dX6_twoSquares_68 : decode cX6_twoSquares 68 = .ok (.iload 7, 2) := by decide +kernel
theorem dX6_twoSquares_70 : decode cX6_twoSquares 70 = .ok (.imul, 1) := by decide +kernel
theorem dX6_twoSquares_71 : decode cX6_twoSquares 71 = .ok (.iadd, 1) := by decide +kernel
theorem dX6_twoSquares_72 : decode cX6_twoSquares 72 = .ok (.iload_n 1, 1) := by decide +kernel
theorem dX6_twoSquares_73 : decode cX6_twoSquares 73 = .ok (.if_icmp .ne 32, 3) := by decide +kernel
theorem dX6_twoSquares_76 : decode cX6_twoSquares 76 = .ok (.iload_n 3, 1) := by decide +kernel
theorem dX6_twoSquares_77 : decode cX6_twoSquares 77 = .ok (.ifCond .ne 8, 3) := by decide +kernel
theorem dX6_twoSquares_80 : decode cX6_twoSquares 80 = .ok (.iload 6, 2) := by decide +kernel
theorem dX6_twoSquares_82 : decode cX6_twoSquares 82 = .ok (.goto 5, 3) := by decide +kernel
theorem dX6_twoSquares_85 : decode cX6_twoSquares 85 = .ok (.iload 4, 2) := by decide +kernel
theorem dX6_twoSquares_87 : decode cX6_twoSquares 87 = .ok (.istore 4, 2) := by decide +kernel
theorem dX6_twoSquares_89 : decode cX6_twoSquares 89 = .ok (.iload_n 3, 1) := by decide +kernel
theorem dX6_twoSquares_90 : decode cX6_twoSquares 90 = .ok (.ifCond .ne 8, 3) := by decide +kernel
theorem dX6_twoSquares_93 : decode cX6_twoSquares 93 = .ok (.iload 7, 2) := by decide +kernel
theorem dX6_twoSquares_95 : decode cX6_twoSquares 95 = .ok (.goto 5, 3) := by decide +kernel
theorem dX6_twoSquares_98 : decode cX6_twoSquares 98 = .ok (.iload 5, 2) := by decide +kernel
theorem dX6_twoSquares_100 : decode cX6_twoSquares 100 = .ok (.istore 5, 2) := by decide +kernel
theorem dX6_twoSquares_102 : decode cX6_twoSquares 102 = .ok (.iinc 3 1, 3) := by decide +kernel
theorem dX6_twoSquares_105 : decode cX6_twoSquares 105 = .ok (.iinc 6 1, 3) := by decide +kernel
theorem dX6_twoSquares_108 : decode cX6_twoSquares 108 = .ok (.goto (-73), 3) := by decide +kernel
theorem dX6_twoSquares_111 : decode cX6_twoSquares 111 = .ok (.iload_n 2, 1) := by decide +kernel
theorem dX6_twoSquares_112 : decode cX6_twoSquares 112 = .ok (.ifCond .ne 7, 3) := by decide +kernel
theorem dX6_twoSquares_115 : decode cX6_twoSquares 115 = .ok (.iload_n 3, 1) := by decide +kernel
theorem dX6_twoSquares_116 : decode cX6_twoSquares 116 = .ok (.goto 15, 3) := by decide +kernel
theorem dX6_twoSquares_119 : decode cX6_twoSquares 119 = .ok (.iload_n 2, 1) := by decide +kernel
theorem dX6_twoSquares_120 : decode cX6_twoSquares 120 = .ok (.iconst 1, 1) := by decide +kernel
theorem dX6_twoSquares_121 : decode cX6_twoSquares 121 = .ok (.if_icmp .ne 8, 3) := by decide +kernel
theorem dX6_twoSquares_124 : decode cX6_twoSquares 124 = .ok (.iload 4, 2) := by decide +kernel
theorem dX6_twoSquares_126 : decode cX6_twoSquares 126 = .ok (.goto 5, 3) := by decide +kernel
theorem dX6_twoSquares_129 : decode cX6_twoSquares 129 = .ok (.iload 5, 2) := by decide +kernel
theorem dX6_twoSquares_131 : decode cX6_twoSquares 131 = .ok (.ireturn, 1) := by decide +kernel
theorem dX6_powersTo_0 : decode cX6_powersTo 0 = .ok (.lload_n 0, 1) := by decide +kernel
theorem dX6_powersTo_1 : decode cX6_powersTo 1 = .ok (.lconst 0, 1) := by decide +kernel
theorem dX6_powersTo_2 : decode cX6_powersTo 2 = .ok (.lcmp, 1) := by decide +kernel
theorem dX6_powersTo_3 : decode cX6_powersTo 3 = .ok (.ifCond .ge 7, 3) := by decide +kernel
theorem dX6_powersTo_6 : decode cX6_powersTo 6 = .ok (.lconst 0, 1) := by decide +kernel
theorem dX6_powersTo_7 : decode cX6_powersTo 7 = .ok (.goto 26, 3) := by decide +kernel
theorem dX6_powersTo_10 : decode cX6_powersTo 10 = .ok (.lload_n 0, 1) := by decide +kernel
theorem dX6_powersTo_11 : decode cX6_powersTo 11 = .ok (.iconst 2, 1) := by decide +kernel
theorem dX6_powersTo_12 : decode cX6_powersTo 12 = .ok (.invokestatic 133, 3) := by decide +kernel
theorem dX6_powersTo_15 : decode cX6_powersTo 15 = .ok (.lload_n 0, 1) := by decide +kernel
theorem dX6_powersTo_16 : decode cX6_powersTo 16 = .ok (.iconst 3, 1) := by decide +kernel
theorem dX6_powersTo_17 : decode cX6_powersTo 17 = .ok (.invokestatic 133, 3) := by decide +kernel
theorem dX6_powersTo_20 : decode cX6_powersTo 20 = .ok (.ladd, 1) := by decide +kernel
theorem dX6_powersTo_21 : decode cX6_powersTo 21 = .ok (.lload_n 0, 1) := by decide +kernel
theorem dX6_powersTo_22 : decode cX6_powersTo 22 = .ok (.iconst 2, 1) := by decide +kernel
theorem dX6_powersTo_23 : decode cX6_powersTo 23 = .ok (.invokestatic 133, 3) := by decide +kernel
theorem dX6_powersTo_26 : decode cX6_powersTo 26 = .ok (.iconst 3, 1) := by decide +kernel
theorem dX6_powersTo_27 : decode cX6_powersTo 27 = .ok (.invokestatic 133, 3) := by decide +kernel
theorem dX6_powersTo_30 : decode cX6_powersTo 30 = .ok (.lsub, 1) := by decide +kernel
theorem dX6_powersTo_31 : decode cX6_powersTo 31 = .ok (.lconst 1, 1) := by decide +kernel
theorem dX6_powersTo_32 : decode cX6_powersTo 32 = .ok (.ladd, 1) := by decide +kernel
theorem dX6_powersTo_33 : decode cX6_powersTo 33 = .ok (.lreturn, 1) := by decide +kernel
theorem dX6_powers_0 : decode cX6_powers 0 = .ok (.lload_n 1, 1) := by decide +kernel
theorem dX6_powers_1 : decode cX6_powers 1 = .ok (.invokestatic 66, 3) := by decide +kernel
theorem dX6_powers_4 : decode cX6_powers 4 = .ok (.ifCond .eq 17, 3) := by decide +kernel
theorem dX6_powers_7 : decode cX6_powers 7 = .ok (.lload_n 3, 1) := by decide +kernel
theorem dX6_powers_8 : decode cX6_powers 8 = .ok (.lload_n 1, 1) := by decide +kernel
theorem dX6_powers_9 : decode cX6_powers 9 = .ok (.lcmp, 1) := by decide +kernel
theorem dX6_powers_10 : decode cX6_powers 10 = .ok (.ifCond .lt 11, 3) := by decide +kernel
theorem dX6_powers_13 : decode cX6_powers 13 = .ok (.lload_n 3, 1) := by decide +kernel
theorem dX6_powers_14 : decode cX6_powers 14 = .ok (.ldc2_w 51, 3) := by decide +kernel
theorem dX6_powers_17 : decode cX6_powers 17 = .ok (.lcmp, 1) := by decide +kernel
theorem dX6_powers_18 : decode cX6_powers 18 = .ok (.ifCond .le 6, 3) := by decide +kernel
theorem dX6_powers_21 : decode cX6_powers 21 = .ok (.bipush (-2), 2) := by decide +kernel
theorem dX6_powers_23 : decode cX6_powers 23 = .ok (.ireturn, 1) := by decide +kernel
theorem dX6_powers_24 : decode cX6_powers 24 = .ok (.lload_n 3, 1) := by decide +kernel
theorem dX6_powers_25 : decode cX6_powers 25 = .ok (.invokestatic 207, 3) := by decide +kernel
theorem dX6_powers_28 : decode cX6_powers 28 = .ok (.lload_n 1, 1) := by decide +kernel
theorem dX6_powers_29 : decode cX6_powers 29 = .ok (.lconst 1, 1) := by decide +kernel
theorem dX6_powers_30 : decode cX6_powers 30 = .ok (.lsub, 1) := by decide +kernel
theorem dX6_powers_31 : decode cX6_powers 31 = .ok (.invokestatic 207, 3) := by decide +kernel
theorem dX6_powers_34 : decode cX6_powers 34 = .ok (.lsub, 1) := by decide +kernel
theorem dX6_powers_35 : decode cX6_powers 35 = .ok (.l2i, 1) := by decide +kernel
theorem dX6_powers_36 : decode cX6_powers 36 = .ok (.ireturn, 1) := by decide +kernel
theorem dX6_rootSum_0 : decode cX6_rootSum 0 = .ok (.iload_n 1, 1) := by decide +kernel
theorem dX6_rootSum_1 : decode cX6_rootSum 1 = .ok (.iconst 0, 1) := by decide +kernel
theorem dX6_rootSum_2 : decode cX6_rootSum 2 = .ok (.ldc 211, 2) := by decide +kernel
theorem dX6_rootSum_4 : decode cX6_rootSum 4 = .ok (.invokestatic 57, 3) := by decide +kernel
theorem dX6_rootSum_7 : decode cX6_rootSum 7 = .ok (.ifCond .ne 7, 3) := by decide +kernel
theorem dX6_rootSum_10 : decode cX6_rootSum 10 = .ok (.ldc2_w 70, 3) := by decide +kernel
theorem dX6_rootSum_13 : decode cX6_rootSum 13 = .ok (.lreturn, 1) := by decide +kernel
theorem dX6_rootSum_14 : decode cX6_rootSum 14 = .ok (.iload_n 1, 1) := by decide +kernel
theorem dX6_rootSum_15 : decode cX6_rootSum 15 = .ok (.i2l, 1) := by decide +kernel
theorem dX6_rootSum_16 : decode cX6_rootSum 16 = .ok (.iconst 2, 1) := by decide +kernel
theorem dX6_rootSum_17 : decode cX6_rootSum 17 = .ok (.invokestatic 133, 3) := by decide +kernel
theorem dX6_rootSum_20 : decode cX6_rootSum 20 = .ok (.lstore_n 2, 1) := by decide +kernel
theorem dX6_rootSum_21 : decode cX6_rootSum 21 = .ok (.lload_n 2, 1) := by decide +kernel
theorem dX6_rootSum_22 : decode cX6_rootSum 22 = .ok (.iload_n 1, 1) := by decide +kernel
theorem dX6_rootSum_23 : decode cX6_rootSum 23 = .ok (.i2l, 1) := by decide +kernel
theorem dX6_rootSum_24 : decode cX6_rootSum 24 = .ok (.lload_n 2, 1) := by decide +kernel
theorem dX6_rootSum_25 : decode cX6_rootSum 25 = .ok (.lload_n 2, 1) := by decide +kernel
theorem dX6_rootSum_26 : decode cX6_rootSum 26 = .ok (.lmul, 1) := by decide +kernel
theorem dX6_rootSum_27 : decode cX6_rootSum 27 = .ok (.lsub, 1) := by decide +kernel
theorem dX6_rootSum_28 : decode cX6_rootSum 28 = .ok (.lconst 1, 1) := by decide +kernel
theorem dX6_rootSum_29 : decode cX6_rootSum 29 = .ok (.ladd, 1) := by decide +kernel
theorem dX6_rootSum_30 : decode cX6_rootSum 30 = .ok (.lmul, 1) := by decide +kernel
theorem dX6_rootSum_31 : decode cX6_rootSum 31 = .ok (.lstore 4, 2) := by decide +kernel
theorem dX6_rootSum_33 : decode cX6_rootSum 33 = .ok (.lconst 1, 1) := by decide +kernel
theorem dX6_rootSum_34 : decode cX6_rootSum 34 = .ok (.lstore 6, 2) := by decide +kernel
theorem dX6_rootSum_36 : decode cX6_rootSum 36 = .ok (.lload 6, 2) := by decide +kernel
theorem dX6_rootSum_38 : decode cX6_rootSum 38 = .ok (.lload_n 2, 1) := by decide +kernel
theorem dX6_rootSum_39 : decode cX6_rootSum 39 = .ok (.lcmp, 1) := by decide +kernel
theorem dX6_rootSum_40 : decode cX6_rootSum 40 = .ok (.ifCond .ge 28, 3) := by decide +kernel
theorem dX6_rootSum_43 : decode cX6_rootSum 43 = .ok (.lload 4, 2) := by decide +kernel
theorem dX6_rootSum_45 : decode cX6_rootSum 45 = .ok (.lload 6, 2) := by decide +kernel
theorem dX6_rootSum_47 : decode cX6_rootSum 47 = .ok (.ldc2_w 124, 3) := by decide +kernel
theorem dX6_rootSum_50 : decode cX6_rootSum 50 = .ok (.lload 6, 2) := by decide +kernel
theorem dX6_rootSum_52 : decode cX6_rootSum 52 = .ok (.lmul, 1) := by decide +kernel
theorem dX6_rootSum_53 : decode cX6_rootSum 53 = .ok (.lconst 1, 1) := by decide +kernel
theorem dX6_rootSum_54 : decode cX6_rootSum 54 = .ok (.ladd, 1) := by decide +kernel
theorem dX6_rootSum_55 : decode cX6_rootSum 55 = .ok (.lmul, 1) := by decide +kernel
theorem dX6_rootSum_56 : decode cX6_rootSum 56 = .ok (.ladd, 1) := by decide +kernel
theorem dX6_rootSum_57 : decode cX6_rootSum 57 = .ok (.lstore 4, 2) := by decide +kernel
theorem dX6_rootSum_59 : decode cX6_rootSum 59 = .ok (.lload 6, 2) := by decide +kernel
theorem dX6_rootSum_61 : decode cX6_rootSum 61 = .ok (.lconst 1, 1) := by decide +kernel
theorem dX6_rootSum_62 : decode cX6_rootSum 62 = .ok (.ladd, 1) := by decide +kernel
theorem dX6_rootSum_63 : decode cX6_rootSum 63 = .ok (.lstore 6, 2) := by decide +kernel
theorem dX6_rootSum_65 : decode cX6_rootSum 65 = .ok (.goto (-29), 3) := by decide +kernel
theorem dX6_rootSum_68 : decode cX6_rootSum 68 = .ok (.lload 4, 2) := by decide +kernel
theorem dX6_rootSum_70 : decode cX6_rootSum 70 = .ok (.lreturn, 1) := by decide +kernel
theorem dX6_undo_0 : decode cX6_undo 0 = .ok (.aload_n 0, 1) := by decide +kernel
theorem dX6_undo_1 : decode cX6_undo 1 = .ok (.getfield 53, 3) := by decide +kernel
theorem dX6_undo_4 : decode cX6_undo 4 = .ok (.ifCond .ne 6, 3) := by decide +kernel
theorem dX6_undo_7 : decode cX6_undo 7 = .ok (.bipush (-5), 2) := by decide +kernel
theorem dX6_undo_9 : decode cX6_undo 9 = .ok (.ireturn, 1) := by decide +kernel
theorem dX6_undo_10 : decode cX6_undo 10 = .ok (.aload_n 0, 1) := by decide +kernel
theorem dX6_undo_11 : decode cX6_undo 11 = .ok (.dup, 1) := by decide +kernel
theorem dX6_undo_12 : decode cX6_undo 12 = .ok (.getfield 53, 3) := by decide +kernel
theorem dX6_undo_15 : decode cX6_undo 15 = .ok (.iconst 1, 1) := by decide +kernel
theorem dX6_undo_16 : decode cX6_undo 16 = .ok (.isub, 1) := by decide +kernel
theorem dX6_undo_17 : decode cX6_undo 17 = .ok (.putfield 53, 3) := by decide +kernel
theorem dX6_undo_20 : decode cX6_undo 20 = .ok (.iconst 0, 1) := by decide +kernel
theorem dX6_undo_21 : decode cX6_undo 21 = .ok (.istore_n 1, 1) := by decide +kernel
theorem dX6_undo_22 : decode cX6_undo 22 = .ok (.iload_n 1, 1) := by decide +kernel
theorem dX6_undo_23 : decode cX6_undo 23 = .ok (.sipush 728, 3) := by decide +kernel
theorem dX6_undo_26 : decode cX6_undo 26 = .ok (.if_icmp .ge 30, 3) := by decide +kernel
theorem dX6_undo_29 : decode cX6_undo 29 = .ok (.aload_n 0, 1) := by decide +kernel
theorem dX6_undo_30 : decode cX6_undo 30 = .ok (.getfield 7, 3) := by decide +kernel
theorem dX6_undo_33 : decode cX6_undo 33 = .ok (.iload_n 1, 1) := by decide +kernel
theorem dX6_undo_34 : decode cX6_undo 34 = .ok (.aload_n 0, 1) := by decide +kernel
theorem dX6_undo_35 : decode cX6_undo 35 = .ok (.getfield 17, 3) := by decide +kernel
theorem dX6_undo_38 : decode cX6_undo 38 = .ok (.aload_n 0, 1) := by decide +kernel
theorem dX6_undo_39 : decode cX6_undo 39 = .ok (.getfield 53, 3) := by decide +kernel
theorem dX6_undo_42 : decode cX6_undo 42 = .ok (.sipush 728, 3) := by decide +kernel
theorem dX6_undo_45 : decode cX6_undo 45 = .ok (.imul, 1) := by decide +kernel
theorem dX6_undo_46 : decode cX6_undo 46 = .ok (.iload_n 1, 1) := by decide +kernel
theorem dX6_undo_47 : decode cX6_undo 47 = .ok (.iadd, 1) := by decide +kernel
theorem dX6_undo_48 : decode cX6_undo 48 = .ok (.iaload, 1) := by decide +kernel
theorem dX6_undo_49 : decode cX6_undo 49 = .ok (.iastore, 1) := by decide +kernel
theorem dX6_undo_50 : decode cX6_undo 50 = .ok (.iinc 1 1, 3) := by decide +kernel
theorem dX6_undo_53 : decode cX6_undo 53 = .ok (.goto (-31), 3) := by decide +kernel
theorem dX6_undo_56 : decode cX6_undo 56 = .ok (.iconst 0, 1) := by decide +kernel
theorem dX6_undo_57 : decode cX6_undo 57 = .ok (.istore_n 1, 1) := by decide +kernel
theorem dX6_undo_58 : decode cX6_undo 58 = .ok (.iload_n 1, 1) := by decide +kernel
theorem dX6_undo_59 : decode cX6_undo 59 = .ok (.bipush 8, 2) := by decide +kernel
theorem dX6_undo_61 : decode cX6_undo 61 = .ok (.if_icmp .ge 29, 3) := by decide +kernel
theorem dX6_undo_64 : decode cX6_undo 64 = .ok (.aload_n 0, 1) := by decide +kernel
theorem dX6_undo_65 : decode cX6_undo 65 = .ok (.getfield 13, 3) := by decide +kernel
theorem dX6_undo_68 : decode cX6_undo 68 = .ok (.iload_n 1, 1) := by decide +kernel
theorem dX6_undo_69 : decode cX6_undo 69 = .ok (.aload_n 0, 1) := by decide +kernel
theorem dX6_undo_70 : decode cX6_undo 70 = .ok (.getfield 20, 3) := by decide +kernel
theorem dX6_undo_73 : decode cX6_undo 73 = .ok (.aload_n 0, 1) := by decide +kernel
theorem dX6_undo_74 : decode cX6_undo 74 = .ok (.getfield 53, 3) := by decide +kernel
theorem dX6_undo_77 : decode cX6_undo 77 = .ok (.bipush 8, 2) := by decide +kernel
theorem dX6_undo_79 : decode cX6_undo 79 = .ok (.imul, 1) := by decide +kernel
theorem dX6_undo_80 : decode cX6_undo 80 = .ok (.iload_n 1, 1) := by decide +kernel
theorem dX6_undo_81 : decode cX6_undo 81 = .ok (.iadd, 1) := by decide +kernel
theorem dX6_undo_82 : decode cX6_undo 82 = .ok (.laload, 1) := by decide +kernel
theorem dX6_undo_83 : decode cX6_undo 83 = .ok (.lastore, 1) := by decide +kernel
theorem dX6_undo_84 : decode cX6_undo 84 = .ok (.iinc 1 1, 3) := by decide +kernel
theorem dX6_undo_87 : decode cX6_undo 87 = .ok (.goto (-29), 3) := by decide +kernel
theorem dX6_undo_90 : decode cX6_undo 90 = .ok (.aload_n 0, 1) := by decide +kernel
theorem dX6_undo_91 : decode cX6_undo 91 = .ok (.getfield 53, 3) := by decide +kernel
theorem dX6_undo_94 : decode cX6_undo 94 = .ok (.ireturn, 1) := by decide +kernel
theorem dX6_save_0 : decode cX6_save 0 = .ok (.iload_n 1, 1) := by decide +kernel
theorem dX6_save_1 : decode cX6_save 1 = .ok (.iconst 0, 1) := by decide +kernel
theorem dX6_save_2 : decode cX6_save 2 = .ok (.iconst 1, 1) := by decide +kernel
theorem dX6_save_3 : decode cX6_save 3 = .ok (.invokestatic 57, 3) := by decide +kernel
theorem dX6_save_6 : decode cX6_save 6 = .ok (.ifCond .ne 6, 3) := by decide +kernel
theorem dX6_save_9 : decode cX6_save 9 = .ok (.bipush (-2), 2) := by decide +kernel
theorem dX6_save_11 : decode cX6_save 11 = .ok (.ireturn, 1) := by decide +kernel
theorem dX6_save_12 : decode cX6_save 12 = .ok (.iconst 0, 1) := by decide +kernel
theorem dX6_save_13 : decode cX6_save 13 = .ok (.istore_n 2, 1) := by decide +kernel
theorem dX6_save_14 : decode cX6_save 14 = .ok (.iload_n 2, 1) := by decide +kernel
theorem dX6_save_15 : decode cX6_save 15 = .ok (.sipush 728, 3) := by decide +kernel
theorem dX6_save_18 : decode cX6_save 18 = .ok (.if_icmp .ge 27, 3) := by decide +kernel
theorem dX6_save_21 : decode cX6_save 21 = .ok (.aload_n 0, 1) := by decide +kernel
theorem dX6_save_22 : decode cX6_save 22 = .ok (.getfield 23, 3) := by decide +kernel
theorem dX6_save_25 : decode cX6_save 25 = .ok (.iload_n 1, 1) := by decide +kernel
theorem dX6_save_26 : decode cX6_save 26 = .ok (.sipush 728, 3) := by decide +kernel
theorem dX6_save_29 : decode cX6_save 29 = .ok (.imul, 1) := by decide +kernel
theorem dX6_save_30 : decode cX6_save 30 = .ok (.iload_n 2, 1) := by decide +kernel
theorem dX6_save_31 : decode cX6_save 31 = .ok (.iadd, 1) := by decide +kernel
theorem dX6_save_32 : decode cX6_save 32 = .ok (.aload_n 0, 1) := by decide +kernel
theorem dX6_save_33 : decode cX6_save 33 = .ok (.getfield 7, 3) := by decide +kernel
theorem dX6_save_36 : decode cX6_save 36 = .ok (.iload_n 2, 1) := by decide +kernel
theorem dX6_save_37 : decode cX6_save 37 = .ok (.iaload, 1) := by decide +kernel
theorem dX6_save_38 : decode cX6_save 38 = .ok (.iastore, 1) := by decide +kernel
theorem dX6_save_39 : decode cX6_save 39 = .ok (.iinc 2 1, 3) := by decide +kernel
theorem dX6_save_42 : decode cX6_save 42 = .ok (.goto (-28), 3) := by decide +kernel
theorem dX6_save_45 : decode cX6_save 45 = .ok (.iconst 0, 1) := by decide +kernel
theorem dX6_save_46 : decode cX6_save 46 = .ok (.istore_n 2, 1) := by decide +kernel
theorem dX6_save_47 : decode cX6_save 47 = .ok (.iload_n 2, 1) := by decide +kernel
theorem dX6_save_48 : decode cX6_save 48 = .ok (.bipush 8, 2) := by decide +kernel
theorem dX6_save_50 : decode cX6_save 50 = .ok (.if_icmp .ge 26, 3) := by decide +kernel
theorem dX6_save_53 : decode cX6_save 53 = .ok (.aload_n 0, 1) := by decide +kernel
theorem dX6_save_54 : decode cX6_save 54 = .ok (.getfield 26, 3) := by decide +kernel
theorem dX6_save_57 : decode cX6_save 57 = .ok (.iload_n 1, 1) := by decide +kernel
theorem dX6_save_58 : decode cX6_save 58 = .ok (.bipush 8, 2) := by decide +kernel
theorem dX6_save_60 : decode cX6_save 60 = .ok (.imul, 1) := by decide +kernel
theorem dX6_save_61 : decode cX6_save 61 = .ok (.iload_n 2, 1) := by decide +kernel
theorem dX6_save_62 : decode cX6_save 62 = .ok (.iadd, 1) := by decide +kernel
theorem dX6_save_63 : decode cX6_save 63 = .ok (.aload_n 0, 1) := by decide +kernel
theorem dX6_save_64 : decode cX6_save 64 = .ok (.getfield 13, 3) := by decide +kernel
theorem dX6_save_67 : decode cX6_save 67 = .ok (.iload_n 2, 1) := by decide +kernel
theorem dX6_save_68 : decode cX6_save 68 = .ok (.laload, 1) := by decide +kernel
theorem dX6_save_69 : decode cX6_save 69 = .ok (.lastore, 1) := by decide +kernel
theorem dX6_save_70 : decode cX6_save 70 = .ok (.iinc 2 1, 3) := by decide +kernel
theorem dX6_save_73 : decode cX6_save 73 = .ok (.goto (-26), 3) := by decide +kernel
theorem dX6_save_76 : decode cX6_save 76 = .ok (.aload_n 0, 1) := by decide +kernel
theorem dX6_save_77 : decode cX6_save 77 = .ok (.getfield 29, 3) := by decide +kernel
theorem dX6_save_80 : decode cX6_save 80 = .ok (.iload_n 1, 1) := by decide +kernel
theorem dX6_save_81 : decode cX6_save 81 = .ok (.iconst 1, 1) := by decide +kernel
theorem dX6_save_82 : decode cX6_save 82 = .ok (.bastore, 1) := by decide +kernel
theorem dX6_save_83 : decode cX6_save 83 = .ok (.aload_n 0, 1) := by decide +kernel
theorem dX6_save_84 : decode cX6_save 84 = .ok (.invokevirtual 168, 3) := by decide +kernel
theorem dX6_save_87 : decode cX6_save 87 = .ok (.ireturn, 1) := by decide +kernel
theorem dX6_restore_0 : decode cX6_restore 0 = .ok (.iload_n 1, 1) := by decide +kernel
theorem dX6_restore_1 : decode cX6_restore 1 = .ok (.iconst 0, 1) := by decide +kernel
theorem dX6_restore_2 : decode cX6_restore 2 = .ok (.iconst 1, 1) := by decide +kernel
theorem dX6_restore_3 : decode cX6_restore 3 = .ok (.invokestatic 57, 3) := by decide +kernel
theorem dX6_restore_6 : decode cX6_restore 6 = .ok (.ifCond .ne 6, 3) := by decide +kernel
theorem dX6_restore_9 : decode cX6_restore 9 = .ok (.bipush (-2), 2) := by decide +kernel
theorem dX6_restore_11 : decode cX6_restore 11 = .ok (.ireturn, 1) := by decide +kernel
theorem dX6_restore_12 : decode cX6_restore 12 = .ok (.aload_n 0, 1) := by decide +kernel
theorem dX6_restore_13 : decode cX6_restore 13 = .ok (.getfield 29, 3) := by decide +kernel
theorem dX6_restore_16 : decode cX6_restore 16 = .ok (.iload_n 1, 1) := by decide +kernel
theorem dX6_restore_17 : decode cX6_restore 17 = .ok (.baload, 1) := by decide +kernel
theorem dX6_restore_18 : decode cX6_restore 18 = .ok (.ifCond .ne 6, 3) := by decide +kernel
theorem dX6_restore_21 : decode cX6_restore 21 = .ok (.bipush (-5), 2) := by decide +kernel
theorem dX6_restore_23 : decode cX6_restore 23 = .ok (.ireturn, 1) := by decide +kernel
theorem dX6_restore_24 : decode cX6_restore 24 = .ok (.aload_n 0, 1) := by decide +kernel
theorem dX6_restore_25 : decode cX6_restore 25 = .ok (.invokevirtual 61, 3) := by decide +kernel
theorem dX6_restore_28 : decode cX6_restore 28 = .ok (.iconst 0, 1) := by decide +kernel
theorem dX6_restore_29 : decode cX6_restore 29 = .ok (.istore_n 2, 1) := by decide +kernel
theorem dX6_restore_30 : decode cX6_restore 30 = .ok (.iload_n 2, 1) := by decide +kernel
theorem dX6_restore_31 : decode cX6_restore 31 = .ok (.sipush 728, 3) := by decide +kernel
theorem dX6_restore_34 : decode cX6_restore 34 = .ok (.if_icmp .ge 27, 3) := by decide +kernel
theorem dX6_restore_37 : decode cX6_restore 37 = .ok (.aload_n 0, 1) := by decide +kernel
theorem dX6_restore_38 : decode cX6_restore 38 = .ok (.getfield 7, 3) := by decide +kernel
theorem dX6_restore_41 : decode cX6_restore 41 = .ok (.iload_n 2, 1) := by decide +kernel
theorem dX6_restore_42 : decode cX6_restore 42 = .ok (.aload_n 0, 1) := by decide +kernel
theorem dX6_restore_43 : decode cX6_restore 43 = .ok (.getfield 23, 3) := by decide +kernel
theorem dX6_restore_46 : decode cX6_restore 46 = .ok (.iload_n 1, 1) := by decide +kernel
theorem dX6_restore_47 : decode cX6_restore 47 = .ok (.sipush 728, 3) := by decide +kernel
theorem dX6_restore_50 : decode cX6_restore 50 = .ok (.imul, 1) := by decide +kernel
theorem dX6_restore_51 : decode cX6_restore 51 = .ok (.iload_n 2, 1) := by decide +kernel
theorem dX6_restore_52 : decode cX6_restore 52 = .ok (.iadd, 1) := by decide +kernel
theorem dX6_restore_53 : decode cX6_restore 53 = .ok (.iaload, 1) := by decide +kernel
theorem dX6_restore_54 : decode cX6_restore 54 = .ok (.iastore, 1) := by decide +kernel
theorem dX6_restore_55 : decode cX6_restore 55 = .ok (.iinc 2 1, 3) := by decide +kernel
theorem dX6_restore_58 : decode cX6_restore 58 = .ok (.goto (-28), 3) := by decide +kernel
theorem dX6_restore_61 : decode cX6_restore 61 = .ok (.iconst 0, 1) := by decide +kernel
theorem dX6_restore_62 : decode cX6_restore 62 = .ok (.istore_n 2, 1) := by decide +kernel
theorem dX6_restore_63 : decode cX6_restore 63 = .ok (.iload_n 2, 1) := by decide +kernel
theorem dX6_restore_64 : decode cX6_restore 64 = .ok (.bipush 8, 2) := by decide +kernel
theorem dX6_restore_66 : decode cX6_restore 66 = .ok (.if_icmp .ge 26, 3) := by decide +kernel
theorem dX6_restore_69 : decode cX6_restore 69 = .ok (.aload_n 0, 1) := by decide +kernel
theorem dX6_restore_70 : decode cX6_restore 70 = .ok (.getfield 13, 3) := by decide +kernel
theorem dX6_restore_73 : decode cX6_restore 73 = .ok (.iload_n 2, 1) := by decide +kernel
theorem dX6_restore_74 : decode cX6_restore 74 = .ok (.aload_n 0, 1) := by decide +kernel
theorem dX6_restore_75 : decode cX6_restore 75 = .ok (.getfield 26, 3) := by decide +kernel
theorem dX6_restore_78 : decode cX6_restore 78 = .ok (.iload_n 1, 1) := by decide +kernel
theorem dX6_restore_79 : decode cX6_restore 79 = .ok (.bipush 8, 2) := by decide +kernel
theorem dX6_restore_81 : decode cX6_restore 81 = .ok (.imul, 1) := by decide +kernel
theorem dX6_restore_82 : decode cX6_restore 82 = .ok (.iload_n 2, 1) := by decide +kernel
theorem dX6_restore_83 : decode cX6_restore 83 = .ok (.iadd, 1) := by decide +kernel
theorem dX6_restore_84 : decode cX6_restore 84 = .ok (.laload, 1) := by decide +kernel
theorem dX6_restore_85 : decode cX6_restore 85 = .ok (.lastore, 1) := by decide +kernel
theorem dX6_restore_86 : decode cX6_restore 86 = .ok (.iinc 2 1, 3) := by decide +kernel
theorem dX6_restore_89 : decode cX6_restore 89 = .ok (.goto (-26), 3) := by decide +kernel
theorem dX6_restore_92 : decode cX6_restore 92 = .ok (.aload_n 0, 1) := by decide +kernel
theorem dX6_restore_93 : decode cX6_restore 93 = .ok (.invokevirtual 168, 3) := by decide +kernel
theorem dX6_restore_96 : decode cX6_restore 96 = .ok (.ireturn, 1) := by decide +kernel
end
section
theorem dL_law_0 : decode cL_law 0 = .ok (.new 7, 3) := by decide +kernel
theorem dL_law_3 : decode cL_law 3 = .ok (.dup, 1) := by decide +kernel
theorem dL_law_4 : decode cL_law 4 = .ok (.invokespecial 9, 3) := by decide +kernel
theorem dL_law_7 : decode cL_law 7 = .ok (.astore_n 1, 1) := by decide +kernel
theorem dL_law_8 : decode cL_law 8 = .ok (.new 10, 3) := by decide +kernel
theorem dL_law_11 : decode cL_law 11 = .ok (.dup, 1) := by decide +kernel
theorem dL_law_12 : decode cL_law 12 = .ok (.invokespecial 12, 3) := by decide +kernel
theorem dL_law_15 : decode cL_law 15 = .ok (.astore_n 2, 1) := by decide +kernel
theorem dL_law_16 : decode cL_law 16 = .ok (.iconst 0, 1) := by decide +kernel
theorem dL_law_17 : decode cL_law 17 = .ok (.istore_n 3, 1) := by decide +kernel
theorem dL_law_18 : decode cL_law 18 = .ok (.iload_n 3, 1) := by decide +kernel
theorem dL_law_19 : decode cL_law 19 = .ok (.aload_n 0, 1) := by decide +kernel
theorem dL_law_20 : decode cL_law 20 = .ok (.arraylength, 1) := by decide +kernel
theorem dL_law_21 : decode cL_law 21 = .ok (.bipush 6, 2) := by decide +kernel
theorem dL_law_23 : decode cL_law 23 = .ok (.isub, 1) := by decide +kernel
theorem dL_law_24 : decode cL_law 24 = .ok (.if_icmp .gt 1148, 3) := by decide +kernel
theorem dL_law_27 : decode cL_law 27 = .ok (.aload_n 0, 1) := by decide +kernel
theorem dL_law_28 : decode cL_law 28 = .ok (.iload_n 3, 1) := by decide +kernel
theorem dL_law_29 : decode cL_law 29 = .ok (.iaload, 1) := by decide +kernel
theorem dL_law_30 : decode cL_law 30 = .ok (.bipush 31, 2) := by decide +kernel
theorem dL_law_32 : decode cL_law 32 = .ok (.iand, 1) := by decide +kernel
theorem dL_law_33 : decode cL_law 33 = .ok (.tableswitch 1133 0 26 #[123, 156, 220, 244, 297, 310, 323, 346, 380, 423, 447, 480, 514, 537, 600, 664, 748, 771, 824, 847, 880, 924, 957, 1050, 1074, 1087, 1110], 123) := by decide +kernel
theorem dL_law_156 : decode cL_law 156 = .ok (.aload_n 1, 1) := by decide +kernel
theorem dL_law_157 : decode cL_law 157 = .ok (.aload_n 0, 1) := by decide +kernel
theorem dL_law_158 : decode cL_law 158 = .ok (.iload_n 3, 1) := by decide +kernel
theorem dL_law_159 : decode cL_law 159 = .ok (.iconst 1, 1) := by decide +kernel
theorem dL_law_160 : decode cL_law 160 = .ok (.iadd, 1) := by decide +kernel
theorem dL_law_161 : decode cL_law 161 = .ok (.iaload, 1) := by decide +kernel
theorem dL_law_162 : decode cL_law 162 = .ok (.aload_n 0, 1) := by decide +kernel
theorem dL_law_163 : decode cL_law 163 = .ok (.iload_n 3, 1) := by decide +kernel
theorem dL_law_164 : decode cL_law 164 = .ok (.iconst 2, 1) := by decide +kernel
theorem dL_law_165 : decode cL_law 165 = .ok (.iadd, 1) := by decide +kernel
theorem dL_law_166 : decode cL_law 166 = .ok (.iaload, 1) := by decide +kernel
theorem dL_law_167 : decode cL_law 167 = .ok (.invokevirtual 13, 3) := by decide +kernel
theorem dL_law_170 : decode cL_law 170 = .ok (.aload_n 2, 1) := by decide +kernel
theorem dL_law_171 : decode cL_law 171 = .ok (.aload_n 0, 1) := by decide +kernel
theorem dL_law_172 : decode cL_law 172 = .ok (.iload_n 3, 1) := by decide +kernel
theorem dL_law_173 : decode cL_law 173 = .ok (.iconst 1, 1) := by decide +kernel
theorem dL_law_174 : decode cL_law 174 = .ok (.iadd, 1) := by decide +kernel
theorem dL_law_175 : decode cL_law 175 = .ok (.iaload, 1) := by decide +kernel
theorem dL_law_176 : decode cL_law 176 = .ok (.aload_n 0, 1) := by decide +kernel
theorem dL_law_177 : decode cL_law 177 = .ok (.iload_n 3, 1) := by decide +kernel
theorem dL_law_178 : decode cL_law 178 = .ok (.iconst 2, 1) := by decide +kernel
theorem dL_law_179 : decode cL_law 179 = .ok (.iadd, 1) := by decide +kernel
theorem dL_law_180 : decode cL_law 180 = .ok (.iaload, 1) := by decide +kernel
theorem dL_law_181 : decode cL_law 181 = .ok (.invokevirtual 17, 3) := by decide +kernel
theorem dL_law_184 : decode cL_law 184 = .ok (.if_icmp .eq 982, 3) := by decide +kernel
theorem dL_law_187 : decode cL_law 187 = .ok (.iconst 0, 1) := by decide +kernel
theorem dL_law_188 : decode cL_law 188 = .ok (.ireturn, 1) := by decide +kernel
theorem dL_law_189 : decode cL_law 189 = .ok (.aload_n 1, 1) := by decide +kernel
theorem dL_law_190 : decode cL_law 190 = .ok (.aload_n 0, 1) := by decide +kernel
theorem dL_law_191 : decode cL_law 191 = .ok (.iload_n 3, 1) := by decide +kernel
theorem dL_law_192 : decode cL_law 192 = .ok (.iconst 1, 1) := by decide +kernel
theorem dL_law_193 : decode cL_law 193 = .ok (.iadd, 1) := by decide +kernel
theorem dL_law_194 : decode cL_law 194 = .ok (.iaload, 1) := by decide +kernel
theorem dL_law_195 : decode cL_law 195 = .ok (.aload_n 0, 1) := by decide +kernel
theorem dL_law_196 : decode cL_law 196 = .ok (.iload_n 3, 1) := by decide +kernel
theorem dL_law_197 : decode cL_law 197 = .ok (.iconst 2, 1) := by decide +kernel
theorem dL_law_198 : decode cL_law 198 = .ok (.iadd, 1) := by decide +kernel
theorem dL_law_199 : decode cL_law 199 = .ok (.iaload, 1) := by decide +kernel
theorem dL_law_200 : decode cL_law 200 = .ok (.i2l, 1) := by decide +kernel
theorem dL_law_201 : decode cL_law 201 = .ok (.bipush 32, 2) := by decide +kernel
theorem dL_law_203 : decode cL_law 203 = .ok (.lshl, 1) := by decide +kernel
theorem dL_law_204 : decode cL_law 204 = .ok (.aload_n 0, 1) := by decide +kernel
theorem dL_law_205 : decode cL_law 205 = .ok (.iload_n 3, 1) := by decide +kernel
theorem dL_law_206 : decode cL_law 206 = .ok (.iconst 3, 1) := by decide +kernel
theorem dL_law_207 : decode cL_law 207 = .ok (.iadd, 1) := by decide +kernel
theorem dL_law_208 : decode cL_law 208 = .ok (.iaload, 1) := by decide +kernel
theorem dL_law_209 : decode cL_law 209 = .ok (.i2l, 1) := by decide +kernel
theorem dL_law_210 : decode cL_law 210 = .ok (.ldc2_w 18, 3) := by decide +kernel
theorem dL_law_213 : decode cL_law 213 = .ok (.land, 1) := by decide +kernel
theorem dL_law_214 : decode cL_law 214 = .ok (.lor, 1) := by decide +kernel
theorem dL_law_215 : decode cL_law 215 = .ok (.invokevirtual 20, 3) := by decide +kernel
theorem dL_law_218 : decode cL_law 218 = .ok (.aload_n 2, 1) := by decide +kernel
theorem dL_law_219 : decode cL_law 219 = .ok (.aload_n 0, 1) := by decide +kernel
theorem dL_law_220 : decode cL_law 220 = .ok (.iload_n 3, 1) := by decide +kernel
theorem dL_law_221 : decode cL_law 221 = .ok (.iconst 1, 1) := by decide +kernel
theorem dL_law_222 : decode cL_law 222 = .ok (.iadd, 1) := by decide +kernel
theorem dL_law_223 : decode cL_law 223 = .ok (.iaload, 1) := by decide +kernel
theorem dL_law_224 : decode cL_law 224 = .ok (.aload_n 0, 1) := by decide +kernel
theorem dL_law_225 : decode cL_law 225 = .ok (.iload_n 3, 1) := by decide +kernel
theorem dL_law_226 : decode cL_law 226 = .ok (.iconst 2, 1) := by decide +kernel
theorem dL_law_227 : decode cL_law 227 = .ok (.iadd, 1) := by decide +kernel
theorem dL_law_228 : decode cL_law 228 = .ok (.iaload, 1) := by decide +kernel
theorem dL_law_229 : decode cL_law 229 = .ok (.i2l, 1) := by decide +kernel
theorem dL_law_230 : decode cL_law 230 = .ok (.bipush 32, 2) := by decide +kernel
theorem dL_law_232 : decode cL_law 232 = .ok (.lshl, 1) := by decide +kernel
theorem dL_law_233 : decode cL_law 233 = .ok (.aload_n 0, 1) := by decide +kernel
theorem dL_law_234 : decode cL_law 234 = .ok (.iload_n 3, 1) := by decide +kernel
theorem dL_law_235 : decode cL_law 235 = .ok (.iconst 3, 1) := by decide +kernel
theorem dL_law_236 : decode cL_law 236 = .ok (.iadd, 1) := by decide +kernel
theorem dL_law_237 : decode cL_law 237 = .ok (.iaload, 1) := by decide +kernel
theorem dL_law_238 : decode cL_law 238 = .ok (.i2l, 1) := by decide +kernel
theorem dL_law_239 : decode cL_law 239 = .ok (.ldc2_w 18, 3) := by decide +kernel
theorem dL_law_242 : decode cL_law 242 = .ok (.land, 1) := by decide +kernel
theorem dL_law_243 : decode cL_law 243 = .ok (.lor, 1) := by decide +kernel
theorem dL_law_244 : decode cL_law 244 = .ok (.invokevirtual 24, 3) := by decide +kernel
theorem dL_law_247 : decode cL_law 247 = .ok (.lcmp, 1) := by decide +kernel
theorem dL_law_248 : decode cL_law 248 = .ok (.ifCond .eq 918, 3) := by decide +kernel
theorem dL_law_251 : decode cL_law 251 = .ok (.iconst 0, 1) := by decide +kernel
theorem dL_law_252 : decode cL_law 252 = .ok (.ireturn, 1) := by decide +kernel
theorem dL_law_253 : decode cL_law 253 = .ok (.aload_n 1, 1) := by decide +kernel
theorem dL_law_254 : decode cL_law 254 = .ok (.aload_n 0, 1) := by decide +kernel
theorem dL_law_255 : decode cL_law 255 = .ok (.iload_n 3, 1) := by decide +kernel
theorem dL_law_256 : decode cL_law 256 = .ok (.iconst 1, 1) := by decide +kernel
theorem dL_law_257 : decode cL_law 257 = .ok (.iadd, 1) := by decide +kernel
theorem dL_law_258 : decode cL_law 258 = .ok (.iaload, 1) := by decide +kernel
theorem dL_law_259 : decode cL_law 259 = .ok (.invokevirtual 25, 3) := by decide +kernel
theorem dL_law_262 : decode cL_law 262 = .ok (.aload_n 2, 1) := by decide +kernel
theorem dL_law_263 : decode cL_law 263 = .ok (.aload_n 0, 1) := by decide +kernel
theorem dL_law_264 : decode cL_law 264 = .ok (.iload_n 3, 1) := by decide +kernel
theorem dL_law_265 : decode cL_law 265 = .ok (.iconst 1, 1) := by decide +kernel
theorem dL_law_266 : decode cL_law 266 = .ok (.iadd, 1) := by decide +kernel
theorem dL_law_267 : decode cL_law 267 = .ok (.iaload, 1) := by decide +kernel
theorem dL_law_268 : decode cL_law 268 = .ok (.invokevirtual 29, 3) := by decide +kernel
theorem dL_law_271 : decode cL_law 271 = .ok (.lcmp, 1) := by decide +kernel
theorem dL_law_272 : decode cL_law 272 = .ok (.ifCond .eq 894, 3) := by decide +kernel
theorem dL_law_275 : decode cL_law 275 = .ok (.iconst 0, 1) := by decide +kernel
theorem dL_law_276 : decode cL_law 276 = .ok (.ireturn, 1) := by decide +kernel
theorem dL_law_277 : decode cL_law 277 = .ok (.aload_n 1, 1) := by decide +kernel
theorem dL_law_278 : decode cL_law 278 = .ok (.aload_n 0, 1) := by decide +kernel
theorem dL_law_279 : decode cL_law 279 = .ok (.iload_n 3, 1) := by decide +kernel
theorem dL_law_280 : decode cL_law 280 = .ok (.iconst 1, 1) := by decide +kernel
theorem dL_law_281 : decode cL_law 281 = .ok (.iadd, 1) := by decide +kernel
theorem dL_law_282 : decode cL_law 282 = .ok (.iaload, 1) := by decide +kernel
theorem dL_law_283 : decode cL_law 283 = .ok (.i2l, 1) := by decide +kernel
theorem dL_law_284 : decode cL_law 284 = .ok (.bipush 32, 2) := by decide +kernel
theorem dL_law_286 : decode cL_law 286 = .ok (.lshl, 1) := by decide +kernel
theorem dL_law_287 : decode cL_law 287 = .ok (.aload_n 0, 1) := by decide +kernel
theorem dL_law_288 : decode cL_law 288 = .ok (.iload_n 3, 1) := by decide +kernel
theorem dL_law_289 : decode cL_law 289 = .ok (.iconst 2, 1) := by decide +kernel
theorem dL_law_290 : decode cL_law 290 = .ok (.iadd, 1) := by decide +kernel
theorem dL_law_291 : decode cL_law 291 = .ok (.iaload, 1) := by decide +kernel
theorem dL_law_292 : decode cL_law 292 = .ok (.i2l, 1) := by decide +kernel
theorem dL_law_293 : decode cL_law 293 = .ok (.ldc2_w 18, 3) := by decide +kernel
theorem dL_law_296 : decode cL_law 296 = .ok (.land, 1) := by decide +kernel
theorem dL_law_297 : decode cL_law 297 = .ok (.lor, 1) := by decide +kernel
theorem dL_law_298 : decode cL_law 298 = .ok (.invokevirtual 30, 3) := by decide +kernel
theorem dL_law_301 : decode cL_law 301 = .ok (.aload_n 2, 1) := by decide +kernel
theorem dL_law_302 : decode cL_law 302 = .ok (.aload_n 0, 1) := by decide +kernel
theorem dL_law_303 : decode cL_law 303 = .ok (.iload_n 3, 1) := by decide +kernel
theorem dL_law_304 : decode cL_law 304 = .ok (.iconst 1, 1) := by decide +kernel
theorem dL_law_305 : decode cL_law 305 = .ok (.iadd, 1) := by decide +kernel
theorem dL_law_306 : decode cL_law 306 = .ok (.iaload, 1) := by decide +kernel
theorem dL_law_307 : decode cL_law 307 = .ok (.i2l, 1) := by decide +kernel
theorem dL_law_308 : decode cL_law 308 = .ok (.bipush 32, 2) := by decide +kernel
theorem dL_law_310 : decode cL_law 310 = .ok (.lshl, 1) := by decide +kernel
theorem dL_law_311 : decode cL_law 311 = .ok (.aload_n 0, 1) := by decide +kernel
theorem dL_law_312 : decode cL_law 312 = .ok (.iload_n 3, 1) := by decide +kernel
theorem dL_law_313 : decode cL_law 313 = .ok (.iconst 2, 1) := by decide +kernel
theorem dL_law_314 : decode cL_law 314 = .ok (.iadd, 1) := by decide +kernel
theorem dL_law_315 : decode cL_law 315 = .ok (.iaload, 1) := by decide +kernel
theorem dL_law_316 : decode cL_law 316 = .ok (.i2l, 1) := by decide +kernel
theorem dL_law_317 : decode cL_law 317 = .ok (.ldc2_w 18, 3) := by decide +kernel
theorem dL_law_320 : decode cL_law 320 = .ok (.land, 1) := by decide +kernel
theorem dL_law_321 : decode cL_law 321 = .ok (.lor, 1) := by decide +kernel
theorem dL_law_322 : decode cL_law 322 = .ok (.invokevirtual 34, 3) := by decide +kernel
theorem dL_law_325 : decode cL_law 325 = .ok (.if_icmp .eq 841, 3) := by decide +kernel
theorem dL_law_328 : decode cL_law 328 = .ok (.iconst 0, 1) := by decide +kernel
theorem dL_law_329 : decode cL_law 329 = .ok (.ireturn, 1) := by decide +kernel
theorem dL_law_330 : decode cL_law 330 = .ok (.aload_n 1, 1) := by decide +kernel
theorem dL_law_331 : decode cL_law 331 = .ok (.invokevirtual 35, 3) := by decide +kernel
theorem dL_law_334 : decode cL_law 334 = .ok (.aload_n 2, 1) := by decide +kernel
theorem dL_law_335 : decode cL_law 335 = .ok (.invokevirtual 39, 3) := by decide +kernel
theorem dL_law_338 : decode cL_law 338 = .ok (.if_icmp .eq 828, 3) := by decide +kernel
theorem dL_law_341 : decode cL_law 341 = .ok (.iconst 0, 1) := by decide +kernel
theorem dL_law_342 : decode cL_law 342 = .ok (.ireturn, 1) := by decide +kernel
theorem dL_law_343 : decode cL_law 343 = .ok (.aload_n 1, 1) := by decide +kernel
theorem dL_law_344 : decode cL_law 344 = .ok (.invokevirtual 40, 3) := by decide +kernel
theorem dL_law_347 : decode cL_law 347 = .ok (.aload_n 2, 1) := by decide +kernel
theorem dL_law_348 : decode cL_law 348 = .ok (.invokevirtual 43, 3) := by decide +kernel
theorem dL_law_351 : decode cL_law 351 = .ok (.if_icmp .eq 815, 3) := by decide +kernel
theorem dL_law_354 : decode cL_law 354 = .ok (.iconst 0, 1) := by decide +kernel
theorem dL_law_355 : decode cL_law 355 = .ok (.ireturn, 1) := by decide +kernel
theorem dL_law_356 : decode cL_law 356 = .ok (.aload_n 1, 1) := by decide +kernel
theorem dL_law_357 : decode cL_law 357 = .ok (.aload_n 0, 1) := by decide +kernel
theorem dL_law_358 : decode cL_law 358 = .ok (.iload_n 3, 1) := by decide +kernel
theorem dL_law_359 : decode cL_law 359 = .ok (.iconst 1, 1) := by decide +kernel
theorem dL_law_360 : decode cL_law 360 = .ok (.iadd, 1) := by decide +kernel
theorem dL_law_361 : decode cL_law 361 = .ok (.iaload, 1) := by decide +kernel
theorem dL_law_362 : decode cL_law 362 = .ok (.invokevirtual 44, 3) := by decide +kernel
theorem dL_law_365 : decode cL_law 365 = .ok (.aload_n 2, 1) := by decide +kernel
theorem dL_law_366 : decode cL_law 366 = .ok (.aload_n 0, 1) := by decide +kernel
theorem dL_law_367 : decode cL_law 367 = .ok (.iload_n 3, 1) := by decide +kernel
theorem dL_law_368 : decode cL_law 368 = .ok (.iconst 1, 1) := by decide +kernel
theorem dL_law_369 : decode cL_law 369 = .ok (.iadd, 1) := by decide +kernel
theorem dL_law_370 : decode cL_law 370 = .ok (.iaload, 1) := by decide +kernel
theorem dL_law_371 : decode cL_law 371 = .ok (.invokevirtual 48, 3) := by decide +kernel
theorem dL_law_374 : decode cL_law 374 = .ok (.if_icmp .eq 792, 3) := by decide +kernel
theorem dL_law_377 : decode cL_law 377 = .ok (.iconst 0, 1) := by decide +kernel
theorem dL_law_378 : decode cL_law 378 = .ok (.ireturn, 1) := by decide +kernel
theorem dL_law_379 : decode cL_law 379 = .ok (.aload_n 1, 1) := by decide +kernel
theorem dL_law_380 : decode cL_law 380 = .ok (.aload_n 0, 1) := by decide +kernel
theorem dL_law_381 : decode cL_law 381 = .ok (.iload_n 3, 1) := by decide +kernel
theorem dL_law_382 : decode cL_law 382 = .ok (.iconst 1, 1) := by decide +kernel
theorem dL_law_383 : decode cL_law 383 = .ok (.iadd, 1) := by decide +kernel
theorem dL_law_384 : decode cL_law 384 = .ok (.iaload, 1) := by decide +kernel
theorem dL_law_385 : decode cL_law 385 = .ok (.aload_n 0, 1) := by decide +kernel
theorem dL_law_386 : decode cL_law 386 = .ok (.iload_n 3, 1) := by decide +kernel
theorem dL_law_387 : decode cL_law 387 = .ok (.iconst 2, 1) := by decide +kernel
theorem dL_law_388 : decode cL_law 388 = .ok (.iadd, 1) := by decide +kernel
theorem dL_law_389 : decode cL_law 389 = .ok (.iaload, 1) := by decide +kernel
theorem dL_law_390 : decode cL_law 390 = .ok (.invokevirtual 49, 3) := by decide +kernel
theorem dL_law_393 : decode cL_law 393 = .ok (.aload_n 2, 1) := by decide +kernel
theorem dL_law_394 : decode cL_law 394 = .ok (.aload_n 0, 1) := by decide +kernel
theorem dL_law_395 : decode cL_law 395 = .ok (.iload_n 3, 1) := by decide +kernel
theorem dL_law_396 : decode cL_law 396 = .ok (.iconst 1, 1) := by decide +kernel
theorem dL_law_397 : decode cL_law 397 = .ok (.iadd, 1) := by decide +kernel
theorem dL_law_398 : decode cL_law 398 = .ok (.iaload, 1) := by decide +kernel
theorem dL_law_399 : decode cL_law 399 = .ok (.aload_n 0, 1) := by decide +kernel
theorem dL_law_400 : decode cL_law 400 = .ok (.iload_n 3, 1) := by decide +kernel
theorem dL_law_401 : decode cL_law 401 = .ok (.iconst 2, 1) := by decide +kernel
theorem dL_law_402 : decode cL_law 402 = .ok (.iadd, 1) := by decide +kernel
theorem dL_law_403 : decode cL_law 403 = .ok (.iaload, 1) := by decide +kernel
theorem dL_law_404 : decode cL_law 404 = .ok (.invokevirtual 53, 3) := by decide +kernel
theorem dL_law_407 : decode cL_law 407 = .ok (.lcmp, 1) := by decide +kernel
theorem dL_law_408 : decode cL_law 408 = .ok (.ifCond .eq 758, 3) := by decide +kernel
theorem dL_law_411 : decode cL_law 411 = .ok (.iconst 0, 1) := by decide +kernel
theorem dL_law_412 : decode cL_law 412 = .ok (.ireturn, 1) := by decide +kernel
theorem dL_law_413 : decode cL_law 413 = .ok (.aload_n 1, 1) := by decide +kernel
theorem dL_law_414 : decode cL_law 414 = .ok (.aload_n 0, 1) := by decide +kernel
theorem dL_law_415 : decode cL_law 415 = .ok (.iload_n 3, 1) := by decide +kernel
theorem dL_law_416 : decode cL_law 416 = .ok (.iconst 1, 1) := by decide +kernel
theorem dL_law_417 : decode cL_law 417 = .ok (.iadd, 1) := by decide +kernel
theorem dL_law_418 : decode cL_law 418 = .ok (.iaload, 1) := by decide +kernel
theorem dL_law_419 : decode cL_law 419 = .ok (.aload_n 0, 1) := by decide +kernel
theorem dL_law_420 : decode cL_law 420 = .ok (.iload_n 3, 1) := by decide +kernel
theorem dL_law_421 : decode cL_law 421 = .ok (.iconst 2, 1) := by decide +kernel
theorem dL_law_422 : decode cL_law 422 = .ok (.iadd, 1) := by decide +kernel
theorem dL_law_423 : decode cL_law 423 = .ok (.iaload, 1) := by decide +kernel
theorem dL_law_424 : decode cL_law 424 = .ok (.aload_n 0, 1) := by decide +kernel
theorem dL_law_425 : decode cL_law 425 = .ok (.iload_n 3, 1) := by decide +kernel
theorem dL_law_426 : decode cL_law 426 = .ok (.iconst 3, 1) := by decide +kernel
theorem dL_law_427 : decode cL_law 427 = .ok (.iadd, 1) := by decide +kernel
theorem dL_law_428 : decode cL_law 428 = .ok (.iaload, 1) := by decide +kernel
theorem dL_law_429 : decode cL_law 429 = .ok (.invokevirtual 54, 3) := by decide +kernel
theorem dL_law_432 : decode cL_law 432 = .ok (.aload_n 2, 1) := by decide +kernel
theorem dL_law_433 : decode cL_law 433 = .ok (.aload_n 0, 1) := by decide +kernel
theorem dL_law_434 : decode cL_law 434 = .ok (.iload_n 3, 1) := by decide +kernel
theorem dL_law_435 : decode cL_law 435 = .ok (.iconst 1, 1) := by decide +kernel
theorem dL_law_436 : decode cL_law 436 = .ok (.iadd, 1) := by decide +kernel
theorem dL_law_437 : decode cL_law 437 = .ok (.iaload, 1) := by decide +kernel
theorem dL_law_438 : decode cL_law 438 = .ok (.aload_n 0, 1) := by decide +kernel
theorem dL_law_439 : decode cL_law 439 = .ok (.iload_n 3, 1) := by decide +kernel
theorem dL_law_440 : decode cL_law 440 = .ok (.iconst 2, 1) := by decide +kernel
theorem dL_law_441 : decode cL_law 441 = .ok (.iadd, 1) := by decide +kernel
theorem dL_law_442 : decode cL_law 442 = .ok (.iaload, 1) := by decide +kernel
theorem dL_law_443 : decode cL_law 443 = .ok (.aload_n 0, 1) := by decide +kernel
theorem dL_law_444 : decode cL_law 444 = .ok (.iload_n 3, 1) := by decide +kernel
theorem dL_law_445 : decode cL_law 445 = .ok (.iconst 3, 1) := by decide +kernel
theorem dL_law_446 : decode cL_law 446 = .ok (.iadd, 1) := by decide +kernel
theorem dL_law_447 : decode cL_law 447 = .ok (.iaload, 1) := by decide +kernel
theorem dL_law_448 : decode cL_law 448 = .ok (.invokevirtual 58, 3) := by decide +kernel
theorem dL_law_451 : decode cL_law 451 = .ok (.if_icmp .eq 715, 3) := by decide +kernel
theorem dL_law_454 : decode cL_law 454 = .ok (.iconst 0, 1) := by decide +kernel
theorem dL_law_455 : decode cL_law 455 = .ok (.ireturn, 1) := by decide +kernel
theorem dL_law_456 : decode cL_law 456 = .ok (.aload_n 1, 1) := by decide +kernel
theorem dL_law_457 : decode cL_law 457 = .ok (.aload_n 0, 1) := by decide +kernel
theorem dL_law_458 : decode cL_law 458 = .ok (.iload_n 3, 1) := by decide +kernel
theorem dL_law_459 : decode cL_law 459 = .ok (.iconst 1, 1) := by decide +kernel
theorem dL_law_460 : decode cL_law 460 = .ok (.iadd, 1) := by decide +kernel
theorem dL_law_461 : decode cL_law 461 = .ok (.iaload, 1) := by decide +kernel
theorem dL_law_462 : decode cL_law 462 = .ok (.invokevirtual 59, 3) := by decide +kernel
theorem dL_law_465 : decode cL_law 465 = .ok (.aload_n 2, 1) := by decide +kernel
theorem dL_law_466 : decode cL_law 466 = .ok (.aload_n 0, 1) := by decide +kernel
theorem dL_law_467 : decode cL_law 467 = .ok (.iload_n 3, 1) := by decide +kernel
theorem dL_law_468 : decode cL_law 468 = .ok (.iconst 1, 1) := by decide +kernel
theorem dL_law_469 : decode cL_law 469 = .ok (.iadd, 1) := by decide +kernel
theorem dL_law_470 : decode cL_law 470 = .ok (.iaload, 1) := by decide +kernel
theorem dL_law_471 : decode cL_law 471 = .ok (.invokevirtual 62, 3) := by decide +kernel
theorem dL_law_474 : decode cL_law 474 = .ok (.lcmp, 1) := by decide +kernel
theorem dL_law_475 : decode cL_law 475 = .ok (.ifCond .eq 691, 3) := by decide +kernel
theorem dL_law_478 : decode cL_law 478 = .ok (.iconst 0, 1) := by decide +kernel
theorem dL_law_479 : decode cL_law 479 = .ok (.ireturn, 1) := by decide +kernel
theorem dL_law_480 : decode cL_law 480 = .ok (.aload_n 1, 1) := by decide +kernel
theorem dL_law_481 : decode cL_law 481 = .ok (.aload_n 0, 1) := by decide +kernel
theorem dL_law_482 : decode cL_law 482 = .ok (.iload_n 3, 1) := by decide +kernel
theorem dL_law_483 : decode cL_law 483 = .ok (.iconst 1, 1) := by decide +kernel
theorem dL_law_484 : decode cL_law 484 = .ok (.iadd, 1) := by decide +kernel
theorem dL_law_485 : decode cL_law 485 = .ok (.iaload, 1) := by decide +kernel
theorem dL_law_486 : decode cL_law 486 = .ok (.aload_n 0, 1) := by decide +kernel
theorem dL_law_487 : decode cL_law 487 = .ok (.iload_n 3, 1) := by decide +kernel
theorem dL_law_488 : decode cL_law 488 = .ok (.iconst 2, 1) := by decide +kernel
theorem dL_law_489 : decode cL_law 489 = .ok (.iadd, 1) := by decide +kernel
theorem dL_law_490 : decode cL_law 490 = .ok (.iaload, 1) := by decide +kernel
theorem dL_law_491 : decode cL_law 491 = .ok (.invokevirtual 63, 3) := by decide +kernel
theorem dL_law_494 : decode cL_law 494 = .ok (.aload_n 2, 1) := by decide +kernel
theorem dL_law_495 : decode cL_law 495 = .ok (.aload_n 0, 1) := by decide +kernel
theorem dL_law_496 : decode cL_law 496 = .ok (.iload_n 3, 1) := by decide +kernel
theorem dL_law_497 : decode cL_law 497 = .ok (.iconst 1, 1) := by decide +kernel
theorem dL_law_498 : decode cL_law 498 = .ok (.iadd, 1) := by decide +kernel
theorem dL_law_499 : decode cL_law 499 = .ok (.iaload, 1) := by decide +kernel
theorem dL_law_500 : decode cL_law 500 = .ok (.aload_n 0, 1) := by decide +kernel
theorem dL_law_501 : decode cL_law 501 = .ok (.iload_n 3, 1) := by decide +kernel
theorem dL_law_502 : decode cL_law 502 = .ok (.iconst 2, 1) := by decide +kernel
theorem dL_law_503 : decode cL_law 503 = .ok (.iadd, 1) := by decide +kernel
theorem dL_law_504 : decode cL_law 504 = .ok (.iaload, 1) := by decide +kernel
theorem dL_law_505 : decode cL_law 505 = .ok (.invokevirtual 66, 3) := by decide +kernel
theorem dL_law_508 : decode cL_law 508 = .ok (.if_icmp .eq 658, 3) := by decide +kernel
theorem dL_law_511 : decode cL_law 511 = .ok (.iconst 0, 1) := by decide +kernel
theorem dL_law_512 : decode cL_law 512 = .ok (.ireturn, 1) := by decide +kernel
theorem dL_law_513 : decode cL_law 513 = .ok (.aload_n 1, 1) := by decide +kernel
theorem dL_law_514 : decode cL_law 514 = .ok (.aload_n 0, 1) := by decide +kernel
theorem dL_law_515 : decode cL_law 515 = .ok (.iload_n 3, 1) := by decide +kernel
theorem dL_law_516 : decode cL_law 516 = .ok (.iconst 1, 1) := by decide +kernel
theorem dL_law_517 : decode cL_law 517 = .ok (.iadd, 1) := by decide +kernel
theorem dL_law_518 : decode cL_law 518 = .ok (.iaload, 1) := by decide +kernel
theorem dL_law_519 : decode cL_law 519 = .ok (.aload_n 0, 1) := by decide +kernel
theorem dL_law_520 : decode cL_law 520 = .ok (.iload_n 3, 1) := by decide +kernel
theorem dL_law_521 : decode cL_law 521 = .ok (.iconst 2, 1) := by decide +kernel
theorem dL_law_522 : decode cL_law 522 = .ok (.iadd, 1) := by decide +kernel
theorem dL_law_523 : decode cL_law 523 = .ok (.iaload, 1) := by decide +kernel
theorem dL_law_524 : decode cL_law 524 = .ok (.invokevirtual 67, 3) := by decide +kernel
theorem dL_law_527 : decode cL_law 527 = .ok (.aload_n 2, 1) := by decide +kernel
theorem dL_law_528 : decode cL_law 528 = .ok (.aload_n 0, 1) := by decide +kernel
theorem dL_law_529 : decode cL_law 529 = .ok (.iload_n 3, 1) := by decide +kernel
theorem dL_law_530 : decode cL_law 530 = .ok (.iconst 1, 1) := by decide +kernel
theorem dL_law_531 : decode cL_law 531 = .ok (.iadd, 1) := by decide +kernel
theorem dL_law_532 : decode cL_law 532 = .ok (.iaload, 1) := by decide +kernel
theorem dL_law_533 : decode cL_law 533 = .ok (.aload_n 0, 1) := by decide +kernel
theorem dL_law_534 : decode cL_law 534 = .ok (.iload_n 3, 1) := by decide +kernel
theorem dL_law_535 : decode cL_law 535 = .ok (.iconst 2, 1) := by decide +kernel
theorem dL_law_536 : decode cL_law 536 = .ok (.iadd, 1) := by decide +kernel
theorem dL_law_537 : decode cL_law 537 = .ok (.iaload, 1) := by decide +kernel
theorem dL_law_538 : decode cL_law 538 = .ok (.invokevirtual 70, 3) := by decide +kernel
theorem dL_law_541 : decode cL_law 541 = .ok (.lcmp, 1) := by decide +kernel
theorem dL_law_542 : decode cL_law 542 = .ok (.ifCond .eq 624, 3) := by decide +kernel
theorem dL_law_545 : decode cL_law 545 = .ok (.iconst 0, 1) := by decide +kernel
theorem dL_law_546 : decode cL_law 546 = .ok (.ireturn, 1) := by decide +kernel
theorem dL_law_547 : decode cL_law 547 = .ok (.aload_n 1, 1) := by decide +kernel
theorem dL_law_548 : decode cL_law 548 = .ok (.aload_n 0, 1) := by decide +kernel
theorem dL_law_549 : decode cL_law 549 = .ok (.iload_n 3, 1) := by decide +kernel
theorem dL_law_550 : decode cL_law 550 = .ok (.iconst 1, 1) := by decide +kernel
theorem dL_law_551 : decode cL_law 551 = .ok (.iadd, 1) := by decide +kernel
theorem dL_law_552 : decode cL_law 552 = .ok (.iaload, 1) := by decide +kernel
theorem dL_law_553 : decode cL_law 553 = .ok (.invokevirtual 71, 3) := by decide +kernel
theorem dL_law_556 : decode cL_law 556 = .ok (.aload_n 2, 1) := by decide +kernel
theorem dL_law_557 : decode cL_law 557 = .ok (.aload_n 0, 1) := by decide +kernel
theorem dL_law_558 : decode cL_law 558 = .ok (.iload_n 3, 1) := by decide +kernel
theorem dL_law_559 : decode cL_law 559 = .ok (.iconst 1, 1) := by decide +kernel
theorem dL_law_560 : decode cL_law 560 = .ok (.iadd, 1) := by decide +kernel
theorem dL_law_561 : decode cL_law 561 = .ok (.iaload, 1) := by decide +kernel
theorem dL_law_562 : decode cL_law 562 = .ok (.invokevirtual 74, 3) := by decide +kernel
theorem dL_law_565 : decode cL_law 565 = .ok (.if_icmp .eq 601, 3) := by decide +kernel
theorem dL_law_568 : decode cL_law 568 = .ok (.iconst 0, 1) := by decide +kernel
theorem dL_law_569 : decode cL_law 569 = .ok (.ireturn, 1) := by decide +kernel
theorem dL_law_570 : decode cL_law 570 = .ok (.aload_n 1, 1) := by decide +kernel
theorem dL_law_571 : decode cL_law 571 = .ok (.aload_n 0, 1) := by decide +kernel
theorem dL_law_572 : decode cL_law 572 = .ok (.iload_n 3, 1) := by decide +kernel
theorem dL_law_573 : decode cL_law 573 = .ok (.iconst 1, 1) := by decide +kernel
theorem dL_law_574 : decode cL_law 574 = .ok (.iadd, 1) := by decide +kernel
theorem dL_law_575 : decode cL_law 575 = .ok (.iaload, 1) := by decide +kernel
theorem dL_law_576 : decode cL_law 576 = .ok (.i2l, 1) := by decide +kernel
theorem dL_law_577 : decode cL_law 577 = .ok (.bipush 32, 2) := by decide +kernel
theorem dL_law_579 : decode cL_law 579 = .ok (.lshl, 1) := by decide +kernel
theorem dL_law_580 : decode cL_law 580 = .ok (.aload_n 0, 1) := by decide +kernel
theorem dL_law_581 : decode cL_law 581 = .ok (.iload_n 3, 1) := by decide +kernel
theorem dL_law_582 : decode cL_law 582 = .ok (.iconst 2, 1) := by decide +kernel
theorem dL_law_583 : decode cL_law 583 = .ok (.iadd, 1) := by decide +kernel
theorem dL_law_584 : decode cL_law 584 = .ok (.iaload, 1) := by decide +kernel
theorem dL_law_585 : decode cL_law 585 = .ok (.i2l, 1) := by decide +kernel
theorem dL_law_586 : decode cL_law 586 = .ok (.ldc2_w 18, 3) := by decide +kernel
theorem dL_law_589 : decode cL_law 589 = .ok (.land, 1) := by decide +kernel
theorem dL_law_590 : decode cL_law 590 = .ok (.lor, 1) := by decide +kernel
theorem dL_law_591 : decode cL_law 591 = .ok (.aload_n 0, 1) := by decide +kernel
theorem dL_law_592 : decode cL_law 592 = .ok (.iload_n 3, 1) := by decide +kernel
theorem dL_law_593 : decode cL_law 593 = .ok (.iconst 3, 1) := by decide +kernel
theorem dL_law_594 : decode cL_law 594 = .ok (.iadd, 1) := by decide +kernel
theorem dL_law_595 : decode cL_law 595 = .ok (.iaload, 1) := by decide +kernel
theorem dL_law_596 : decode cL_law 596 = .ok (.invokevirtual 75, 3) := by decide +kernel
theorem dL_law_599 : decode cL_law 599 = .ok (.aload_n 2, 1) := by decide +kernel
theorem dL_law_600 : decode cL_law 600 = .ok (.aload_n 0, 1) := by decide +kernel
theorem dL_law_601 : decode cL_law 601 = .ok (.iload_n 3, 1) := by decide +kernel
theorem dL_law_602 : decode cL_law 602 = .ok (.iconst 1, 1) := by decide +kernel
theorem dL_law_603 : decode cL_law 603 = .ok (.iadd, 1) := by decide +kernel
theorem dL_law_604 : decode cL_law 604 = .ok (.iaload, 1) := by decide +kernel
theorem dL_law_605 : decode cL_law 605 = .ok (.i2l, 1) := by decide +kernel
theorem dL_law_606 : decode cL_law 606 = .ok (.bipush 32, 2) := by decide +kernel
theorem dL_law_608 : decode cL_law 608 = .ok (.lshl, 1) := by decide +kernel
theorem dL_law_609 : decode cL_law 609 = .ok (.aload_n 0, 1) := by decide +kernel
theorem dL_law_610 : decode cL_law 610 = .ok (.iload_n 3, 1) := by decide +kernel
theorem dL_law_611 : decode cL_law 611 = .ok (.iconst 2, 1) := by decide +kernel
theorem dL_law_612 : decode cL_law 612 = .ok (.iadd, 1) := by decide +kernel
theorem dL_law_613 : decode cL_law 613 = .ok (.iaload, 1) := by decide +kernel
theorem dL_law_614 : decode cL_law 614 = .ok (.i2l, 1) := by decide +kernel
theorem dL_law_615 : decode cL_law 615 = .ok (.ldc2_w 18, 3) := by decide +kernel
theorem dL_law_618 : decode cL_law 618 = .ok (.land, 1) := by decide +kernel
theorem dL_law_619 : decode cL_law 619 = .ok (.lor, 1) := by decide +kernel
theorem dL_law_620 : decode cL_law 620 = .ok (.aload_n 0, 1) := by decide +kernel
theorem dL_law_621 : decode cL_law 621 = .ok (.iload_n 3, 1) := by decide +kernel
theorem dL_law_622 : decode cL_law 622 = .ok (.iconst 3, 1) := by decide +kernel
theorem dL_law_623 : decode cL_law 623 = .ok (.iadd, 1) := by decide +kernel
theorem dL_law_624 : decode cL_law 624 = .ok (.iaload, 1) := by decide +kernel
theorem dL_law_625 : decode cL_law 625 = .ok (.invokevirtual 79, 3) := by decide +kernel
theorem dL_law_628 : decode cL_law 628 = .ok (.if_icmp .eq 538, 3) := by decide +kernel
theorem dL_law_631 : decode cL_law 631 = .ok (.iconst 0, 1) := by decide +kernel
theorem dL_law_632 : decode cL_law 632 = .ok (.ireturn, 1) := by decide +kernel
theorem dL_law_633 : decode cL_law 633 = .ok (.aload_n 1, 1) := by decide +kernel
theorem dL_law_634 : decode cL_law 634 = .ok (.aload_n 0, 1) := by decide +kernel
theorem dL_law_635 : decode cL_law 635 = .ok (.iload_n 3, 1) := by decide +kernel
theorem dL_law_636 : decode cL_law 636 = .ok (.iconst 1, 1) := by decide +kernel
theorem dL_law_637 : decode cL_law 637 = .ok (.iadd, 1) := by decide +kernel
theorem dL_law_638 : decode cL_law 638 = .ok (.iaload, 1) := by decide +kernel
theorem dL_law_639 : decode cL_law 639 = .ok (.i2l, 1) := by decide +kernel
theorem dL_law_640 : decode cL_law 640 = .ok (.bipush 32, 2) := by decide +kernel
theorem dL_law_642 : decode cL_law 642 = .ok (.lshl, 1) := by decide +kernel
theorem dL_law_643 : decode cL_law 643 = .ok (.aload_n 0, 1) := by decide +kernel
theorem dL_law_644 : decode cL_law 644 = .ok (.iload_n 3, 1) := by decide +kernel
theorem dL_law_645 : decode cL_law 645 = .ok (.iconst 2, 1) := by decide +kernel
theorem dL_law_646 : decode cL_law 646 = .ok (.iadd, 1) := by decide +kernel
theorem dL_law_647 : decode cL_law 647 = .ok (.iaload, 1) := by decide +kernel
theorem dL_law_648 : decode cL_law 648 = .ok (.i2l, 1) := by decide +kernel
theorem dL_law_649 : decode cL_law 649 = .ok (.ldc2_w 18, 3) := by decide +kernel
theorem dL_law_652 : decode cL_law 652 = .ok (.land, 1) := by decide +kernel
theorem dL_law_653 : decode cL_law 653 = .ok (.lor, 1) := by decide +kernel
theorem dL_law_654 : decode cL_law 654 = .ok (.aload_n 0, 1) := by decide +kernel
theorem dL_law_655 : decode cL_law 655 = .ok (.iload_n 3, 1) := by decide +kernel
theorem dL_law_656 : decode cL_law 656 = .ok (.iconst 3, 1) := by decide +kernel
theorem dL_law_657 : decode cL_law 657 = .ok (.iadd, 1) := by decide +kernel
theorem dL_law_658 : decode cL_law 658 = .ok (.iaload, 1) := by decide +kernel
theorem dL_law_659 : decode cL_law 659 = .ok (.invokevirtual 80, 3) := by decide +kernel
theorem dL_law_662 : decode cL_law 662 = .ok (.aload_n 2, 1) := by decide +kernel
theorem dL_law_663 : decode cL_law 663 = .ok (.aload_n 0, 1) := by decide +kernel
theorem dL_law_664 : decode cL_law 664 = .ok (.iload_n 3, 1) := by decide +kernel
theorem dL_law_665 : decode cL_law 665 = .ok (.iconst 1, 1) := by decide +kernel
theorem dL_law_666 : decode cL_law 666 = .ok (.iadd, 1) := by decide +kernel
theorem dL_law_667 : decode cL_law 667 = .ok (.iaload, 1) := by decide +kernel
theorem dL_law_668 : decode cL_law 668 = .ok (.i2l, 1) := by decide +kernel
theorem dL_law_669 : decode cL_law 669 = .ok (.bipush 32, 2) := by decide +kernel
theorem dL_law_671 : decode cL_law 671 = .ok (.lshl, 1) := by decide +kernel
theorem dL_law_672 : decode cL_law 672 = .ok (.aload_n 0, 1) := by decide +kernel
theorem dL_law_673 : decode cL_law 673 = .ok (.iload_n 3, 1) := by decide +kernel
theorem dL_law_674 : decode cL_law 674 = .ok (.iconst 2, 1) := by decide +kernel
theorem dL_law_675 : decode cL_law 675 = .ok (.iadd, 1) := by decide +kernel
theorem dL_law_676 : decode cL_law 676 = .ok (.iaload, 1) := by decide +kernel
theorem dL_law_677 : decode cL_law 677 = .ok (.i2l, 1) := by decide +kernel
theorem dL_law_678 : decode cL_law 678 = .ok (.ldc2_w 18, 3) := by decide +kernel
theorem dL_law_681 : decode cL_law 681 = .ok (.land, 1) := by decide +kernel
theorem dL_law_682 : decode cL_law 682 = .ok (.lor, 1) := by decide +kernel
theorem dL_law_683 : decode cL_law 683 = .ok (.aload_n 0, 1) := by decide +kernel
theorem dL_law_684 : decode cL_law 684 = .ok (.iload_n 3, 1) := by decide +kernel
theorem dL_law_685 : decode cL_law 685 = .ok (.iconst 3, 1) := by decide +kernel
theorem dL_law_686 : decode cL_law 686 = .ok (.iadd, 1) := by decide +kernel
theorem dL_law_687 : decode cL_law 687 = .ok (.iaload, 1) := by decide +kernel
theorem dL_law_688 : decode cL_law 688 = .ok (.invokevirtual 84, 3) := by decide +kernel
theorem dL_law_691 : decode cL_law 691 = .ok (.lcmp, 1) := by decide +kernel
theorem dL_law_692 : decode cL_law 692 = .ok (.ifCond .eq 474, 3) := by decide +kernel
theorem dL_law_695 : decode cL_law 695 = .ok (.iconst 0, 1) := by decide +kernel
theorem dL_law_696 : decode cL_law 696 = .ok (.ireturn, 1) := by decide +kernel
theorem dL_law_697 : decode cL_law 697 = .ok (.aload_n 1, 1) := by decide +kernel
theorem dL_law_698 : decode cL_law 698 = .ok (.aload_n 0, 1) := by decide +kernel
theorem dL_law_699 : decode cL_law 699 = .ok (.iload_n 3, 1) := by decide +kernel
theorem dL_law_700 : decode cL_law 700 = .ok (.iconst 1, 1) := by decide +kernel
theorem dL_law_701 : decode cL_law 701 = .ok (.iadd, 1) := by decide +kernel
theorem dL_law_702 : decode cL_law 702 = .ok (.iaload, 1) := by decide +kernel
theorem dL_law_703 : decode cL_law 703 = .ok (.i2l, 1) := by decide +kernel
theorem dL_law_704 : decode cL_law 704 = .ok (.bipush 32, 2) := by decide +kernel
theorem dL_law_706 : decode cL_law 706 = .ok (.lshl, 1) := by decide +kernel
theorem dL_law_707 : decode cL_law 707 = .ok (.aload_n 0, 1) := by decide +kernel
theorem dL_law_708 : decode cL_law 708 = .ok (.iload_n 3, 1) := by decide +kernel
theorem dL_law_709 : decode cL_law 709 = .ok (.iconst 2, 1) := by decide +kernel
theorem dL_law_710 : decode cL_law 710 = .ok (.iadd, 1) := by decide +kernel
theorem dL_law_711 : decode cL_law 711 = .ok (.iaload, 1) := by decide +kernel
theorem dL_law_712 : decode cL_law 712 = .ok (.i2l, 1) := by decide +kernel
theorem dL_law_713 : decode cL_law 713 = .ok (.ldc2_w 18, 3) := by decide +kernel
theorem dL_law_716 : decode cL_law 716 = .ok (.land, 1) := by decide +kernel
theorem dL_law_717 : decode cL_law 717 = .ok (.lor, 1) := by decide +kernel
theorem dL_law_718 : decode cL_law 718 = .ok (.aload_n 0, 1) := by decide +kernel
theorem dL_law_719 : decode cL_law 719 = .ok (.iload_n 3, 1) := by decide +kernel
theorem dL_law_720 : decode cL_law 720 = .ok (.iconst 3, 1) := by decide +kernel
theorem dL_law_721 : decode cL_law 721 = .ok (.iadd, 1) := by decide +kernel
theorem dL_law_722 : decode cL_law 722 = .ok (.iaload, 1) := by decide +kernel
theorem dL_law_723 : decode cL_law 723 = .ok (.aload_n 0, 1) := by decide +kernel
theorem dL_law_724 : decode cL_law 724 = .ok (.iload_n 3, 1) := by decide +kernel
theorem dL_law_725 : decode cL_law 725 = .ok (.iconst 4, 1) := by decide +kernel
theorem dL_law_726 : decode cL_law 726 = .ok (.iadd, 1) := by decide +kernel
theorem dL_law_727 : decode cL_law 727 = .ok (.iaload, 1) := by decide +kernel
theorem dL_law_728 : decode cL_law 728 = .ok (.aload_n 0, 1) := by decide +kernel
theorem dL_law_729 : decode cL_law 729 = .ok (.iload_n 3, 1) := by decide +kernel
theorem dL_law_730 : decode cL_law 730 = .ok (.iconst 5, 1) := by decide +kernel
theorem dL_law_731 : decode cL_law 731 = .ok (.iadd, 1) := by decide +kernel
theorem dL_law_732 : decode cL_law 732 = .ok (.iaload, 1) := by decide +kernel
theorem dL_law_733 : decode cL_law 733 = .ok (.invokevirtual 85, 3) := by decide +kernel
theorem dL_law_736 : decode cL_law 736 = .ok (.aload_n 2, 1) := by decide +kernel
theorem dL_law_737 : decode cL_law 737 = .ok (.aload_n 0, 1) := by decide +kernel
theorem dL_law_738 : decode cL_law 738 = .ok (.iload_n 3, 1) := by decide +kernel
theorem dL_law_739 : decode cL_law 739 = .ok (.iconst 1, 1) := by decide +kernel
theorem dL_law_740 : decode cL_law 740 = .ok (.iadd, 1) := by decide +kernel
theorem dL_law_741 : decode cL_law 741 = .ok (.iaload, 1) := by decide +kernel
theorem dL_law_742 : decode cL_law 742 = .ok (.i2l, 1) := by decide +kernel
theorem dL_law_743 : decode cL_law 743 = .ok (.bipush 32, 2) := by decide +kernel
theorem dL_law_745 : decode cL_law 745 = .ok (.lshl, 1) := by decide +kernel
theorem dL_law_746 : decode cL_law 746 = .ok (.aload_n 0, 1) := by decide +kernel
theorem dL_law_747 : decode cL_law 747 = .ok (.iload_n 3, 1) := by decide +kernel
theorem dL_law_748 : decode cL_law 748 = .ok (.iconst 2, 1) := by decide +kernel
theorem dL_law_749 : decode cL_law 749 = .ok (.iadd, 1) := by decide +kernel
theorem dL_law_750 : decode cL_law 750 = .ok (.iaload, 1) := by decide +kernel
theorem dL_law_751 : decode cL_law 751 = .ok (.i2l, 1) := by decide +kernel
theorem dL_law_752 : decode cL_law 752 = .ok (.ldc2_w 18, 3) := by decide +kernel
theorem dL_law_755 : decode cL_law 755 = .ok (.land, 1) := by decide +kernel
theorem dL_law_756 : decode cL_law 756 = .ok (.lor, 1) := by decide +kernel
theorem dL_law_757 : decode cL_law 757 = .ok (.aload_n 0, 1) := by decide +kernel
theorem dL_law_758 : decode cL_law 758 = .ok (.iload_n 3, 1) := by decide +kernel
theorem dL_law_759 : decode cL_law 759 = .ok (.iconst 3, 1) := by decide +kernel
theorem dL_law_760 : decode cL_law 760 = .ok (.iadd, 1) := by decide +kernel
theorem dL_law_761 : decode cL_law 761 = .ok (.iaload, 1) := by decide +kernel
theorem dL_law_762 : decode cL_law 762 = .ok (.aload_n 0, 1) := by decide +kernel
theorem dL_law_763 : decode cL_law 763 = .ok (.iload_n 3, 1) := by decide +kernel
theorem dL_law_764 : decode cL_law 764 = .ok (.iconst 4, 1) := by decide +kernel
theorem dL_law_765 : decode cL_law 765 = .ok (.iadd, 1) := by decide +kernel
theorem dL_law_766 : decode cL_law 766 = .ok (.iaload, 1) := by decide +kernel
theorem dL_law_767 : decode cL_law 767 = .ok (.aload_n 0, 1) := by decide +kernel
theorem dL_law_768 : decode cL_law 768 = .ok (.iload_n 3, 1) := by decide +kernel
theorem dL_law_769 : decode cL_law 769 = .ok (.iconst 5, 1) := by decide +kernel
theorem dL_law_770 : decode cL_law 770 = .ok (.iadd, 1) := by decide +kernel
theorem dL_law_771 : decode cL_law 771 = .ok (.iaload, 1) := by decide +kernel
theorem dL_law_772 : decode cL_law 772 = .ok (.invokevirtual 89, 3) := by decide +kernel
theorem dL_law_775 : decode cL_law 775 = .ok (.lcmp, 1) := by decide +kernel
theorem dL_law_776 : decode cL_law 776 = .ok (.ifCond .eq 390, 3) := by decide +kernel
theorem dL_law_779 : decode cL_law 779 = .ok (.iconst 0, 1) := by decide +kernel
theorem dL_law_780 : decode cL_law 780 = .ok (.ireturn, 1) := by decide +kernel
theorem dL_law_781 : decode cL_law 781 = .ok (.aload_n 1, 1) := by decide +kernel
theorem dL_law_782 : decode cL_law 782 = .ok (.aload_n 0, 1) := by decide +kernel
theorem dL_law_783 : decode cL_law 783 = .ok (.iload_n 3, 1) := by decide +kernel
theorem dL_law_784 : decode cL_law 784 = .ok (.iconst 1, 1) := by decide +kernel
theorem dL_law_785 : decode cL_law 785 = .ok (.iadd, 1) := by decide +kernel
theorem dL_law_786 : decode cL_law 786 = .ok (.iaload, 1) := by decide +kernel
theorem dL_law_787 : decode cL_law 787 = .ok (.invokevirtual 90, 3) := by decide +kernel
theorem dL_law_790 : decode cL_law 790 = .ok (.aload_n 2, 1) := by decide +kernel
theorem dL_law_791 : decode cL_law 791 = .ok (.aload_n 0, 1) := by decide +kernel
theorem dL_law_792 : decode cL_law 792 = .ok (.iload_n 3, 1) := by decide +kernel
theorem dL_law_793 : decode cL_law 793 = .ok (.iconst 1, 1) := by decide +kernel
theorem dL_law_794 : decode cL_law 794 = .ok (.iadd, 1) := by decide +kernel
theorem dL_law_795 : decode cL_law 795 = .ok (.iaload, 1) := by decide +kernel
theorem dL_law_796 : decode cL_law 796 = .ok (.invokevirtual 93, 3) := by decide +kernel
theorem dL_law_799 : decode cL_law 799 = .ok (.if_icmp .eq 367, 3) := by decide +kernel
theorem dL_law_802 : decode cL_law 802 = .ok (.iconst 0, 1) := by decide +kernel
theorem dL_law_803 : decode cL_law 803 = .ok (.ireturn, 1) := by decide +kernel
theorem dL_law_804 : decode cL_law 804 = .ok (.aload_n 1, 1) := by decide +kernel
theorem dL_law_805 : decode cL_law 805 = .ok (.aload_n 0, 1) := by decide +kernel
theorem dL_law_806 : decode cL_law 806 = .ok (.iload_n 3, 1) := by decide +kernel
theorem dL_law_807 : decode cL_law 807 = .ok (.iconst 1, 1) := by decide +kernel
theorem dL_law_808 : decode cL_law 808 = .ok (.iadd, 1) := by decide +kernel
theorem dL_law_809 : decode cL_law 809 = .ok (.iaload, 1) := by decide +kernel
theorem dL_law_810 : decode cL_law 810 = .ok (.aload_n 0, 1) := by decide +kernel
theorem dL_law_811 : decode cL_law 811 = .ok (.iload_n 3, 1) := by decide +kernel
theorem dL_law_812 : decode cL_law 812 = .ok (.iconst 2, 1) := by decide +kernel
theorem dL_law_813 : decode cL_law 813 = .ok (.iadd, 1) := by decide +kernel
theorem dL_law_814 : decode cL_law 814 = .ok (.iaload, 1) := by decide +kernel
theorem dL_law_815 : decode cL_law 815 = .ok (.aload_n 0, 1) := by decide +kernel
theorem dL_law_816 : decode cL_law 816 = .ok (.iload_n 3, 1) := by decide +kernel
theorem dL_law_817 : decode cL_law 817 = .ok (.iconst 3, 1) := by decide +kernel
theorem dL_law_818 : decode cL_law 818 = .ok (.iadd, 1) := by decide +kernel
theorem dL_law_819 : decode cL_law 819 = .ok (.iaload, 1) := by decide +kernel
theorem dL_law_820 : decode cL_law 820 = .ok (.aload_n 0, 1) := by decide +kernel
theorem dL_law_821 : decode cL_law 821 = .ok (.iload_n 3, 1) := by decide +kernel
theorem dL_law_822 : decode cL_law 822 = .ok (.iconst 4, 1) := by decide +kernel
theorem dL_law_823 : decode cL_law 823 = .ok (.iadd, 1) := by decide +kernel
theorem dL_law_824 : decode cL_law 824 = .ok (.iaload, 1) := by decide +kernel
theorem dL_law_825 : decode cL_law 825 = .ok (.invokevirtual 94, 3) := by decide +kernel
theorem dL_law_828 : decode cL_law 828 = .ok (.aload_n 2, 1) := by decide +kernel
theorem dL_law_829 : decode cL_law 829 = .ok (.aload_n 0, 1) := by decide +kernel
theorem dL_law_830 : decode cL_law 830 = .ok (.iload_n 3, 1) := by decide +kernel
theorem dL_law_831 : decode cL_law 831 = .ok (.iconst 1, 1) := by decide +kernel
theorem dL_law_832 : decode cL_law 832 = .ok (.iadd, 1) := by decide +kernel
theorem dL_law_833 : decode cL_law 833 = .ok (.iaload, 1) := by decide +kernel
theorem dL_law_834 : decode cL_law 834 = .ok (.aload_n 0, 1) := by decide +kernel
theorem dL_law_835 : decode cL_law 835 = .ok (.iload_n 3, 1) := by decide +kernel
theorem dL_law_836 : decode cL_law 836 = .ok (.iconst 2, 1) := by decide +kernel
theorem dL_law_837 : decode cL_law 837 = .ok (.iadd, 1) := by decide +kernel
theorem dL_law_838 : decode cL_law 838 = .ok (.iaload, 1) := by decide +kernel
theorem dL_law_839 : decode cL_law 839 = .ok (.aload_n 0, 1) := by decide +kernel
theorem dL_law_840 : decode cL_law 840 = .ok (.iload_n 3, 1) := by decide +kernel
theorem dL_law_841 : decode cL_law 841 = .ok (.iconst 3, 1) := by decide +kernel
theorem dL_law_842 : decode cL_law 842 = .ok (.iadd, 1) := by decide +kernel
theorem dL_law_843 : decode cL_law 843 = .ok (.iaload, 1) := by decide +kernel
theorem dL_law_844 : decode cL_law 844 = .ok (.aload_n 0, 1) := by decide +kernel
theorem dL_law_845 : decode cL_law 845 = .ok (.iload_n 3, 1) := by decide +kernel
theorem dL_law_846 : decode cL_law 846 = .ok (.iconst 4, 1) := by decide +kernel
theorem dL_law_847 : decode cL_law 847 = .ok (.iadd, 1) := by decide +kernel
theorem dL_law_848 : decode cL_law 848 = .ok (.iaload, 1) := by decide +kernel
theorem dL_law_849 : decode cL_law 849 = .ok (.invokevirtual 98, 3) := by decide +kernel
theorem dL_law_852 : decode cL_law 852 = .ok (.if_icmp .eq 314, 3) := by decide +kernel
theorem dL_law_855 : decode cL_law 855 = .ok (.iconst 0, 1) := by decide +kernel
theorem dL_law_856 : decode cL_law 856 = .ok (.ireturn, 1) := by decide +kernel
theorem dL_law_857 : decode cL_law 857 = .ok (.aload_n 1, 1) := by decide +kernel
theorem dL_law_858 : decode cL_law 858 = .ok (.aload_n 0, 1) := by decide +kernel
theorem dL_law_859 : decode cL_law 859 = .ok (.iload_n 3, 1) := by decide +kernel
theorem dL_law_860 : decode cL_law 860 = .ok (.iconst 1, 1) := by decide +kernel
theorem dL_law_861 : decode cL_law 861 = .ok (.iadd, 1) := by decide +kernel
theorem dL_law_862 : decode cL_law 862 = .ok (.iaload, 1) := by decide +kernel
theorem dL_law_863 : decode cL_law 863 = .ok (.invokevirtual 99, 3) := by decide +kernel
theorem dL_law_866 : decode cL_law 866 = .ok (.aload_n 2, 1) := by decide +kernel
theorem dL_law_867 : decode cL_law 867 = .ok (.aload_n 0, 1) := by decide +kernel
theorem dL_law_868 : decode cL_law 868 = .ok (.iload_n 3, 1) := by decide +kernel
theorem dL_law_869 : decode cL_law 869 = .ok (.iconst 1, 1) := by decide +kernel
theorem dL_law_870 : decode cL_law 870 = .ok (.iadd, 1) := by decide +kernel
theorem dL_law_871 : decode cL_law 871 = .ok (.iaload, 1) := by decide +kernel
theorem dL_law_872 : decode cL_law 872 = .ok (.invokevirtual 102, 3) := by decide +kernel
theorem dL_law_875 : decode cL_law 875 = .ok (.if_icmp .eq 291, 3) := by decide +kernel
theorem dL_law_878 : decode cL_law 878 = .ok (.iconst 0, 1) := by decide +kernel
theorem dL_law_879 : decode cL_law 879 = .ok (.ireturn, 1) := by decide +kernel
theorem dL_law_880 : decode cL_law 880 = .ok (.aload_n 1, 1) := by decide +kernel
theorem dL_law_881 : decode cL_law 881 = .ok (.aload_n 0, 1) := by decide +kernel
theorem dL_law_882 : decode cL_law 882 = .ok (.iload_n 3, 1) := by decide +kernel
theorem dL_law_883 : decode cL_law 883 = .ok (.iconst 1, 1) := by decide +kernel
theorem dL_law_884 : decode cL_law 884 = .ok (.iadd, 1) := by decide +kernel
theorem dL_law_885 : decode cL_law 885 = .ok (.iaload, 1) := by decide +kernel
theorem dL_law_886 : decode cL_law 886 = .ok (.aload_n 0, 1) := by decide +kernel
theorem dL_law_887 : decode cL_law 887 = .ok (.iload_n 3, 1) := by decide +kernel
theorem dL_law_888 : decode cL_law 888 = .ok (.iconst 2, 1) := by decide +kernel
theorem dL_law_889 : decode cL_law 889 = .ok (.iadd, 1) := by decide +kernel
theorem dL_law_890 : decode cL_law 890 = .ok (.iaload, 1) := by decide +kernel
theorem dL_law_891 : decode cL_law 891 = .ok (.invokevirtual 103, 3) := by decide +kernel
theorem dL_law_894 : decode cL_law 894 = .ok (.aload_n 2, 1) := by decide +kernel
theorem dL_law_895 : decode cL_law 895 = .ok (.aload_n 0, 1) := by decide +kernel
theorem dL_law_896 : decode cL_law 896 = .ok (.iload_n 3, 1) := by decide +kernel
theorem dL_law_897 : decode cL_law 897 = .ok (.iconst 1, 1) := by decide +kernel
theorem dL_law_898 : decode cL_law 898 = .ok (.iadd, 1) := by decide +kernel
theorem dL_law_899 : decode cL_law 899 = .ok (.iaload, 1) := by decide +kernel
theorem dL_law_900 : decode cL_law 900 = .ok (.aload_n 0, 1) := by decide +kernel
theorem dL_law_901 : decode cL_law 901 = .ok (.iload_n 3, 1) := by decide +kernel
theorem dL_law_902 : decode cL_law 902 = .ok (.iconst 2, 1) := by decide +kernel
theorem dL_law_903 : decode cL_law 903 = .ok (.iadd, 1) := by decide +kernel
theorem dL_law_904 : decode cL_law 904 = .ok (.iaload, 1) := by decide +kernel
theorem dL_law_905 : decode cL_law 905 = .ok (.invokevirtual 106, 3) := by decide +kernel
theorem dL_law_908 : decode cL_law 908 = .ok (.if_icmp .eq 258, 3) := by decide +kernel
theorem dL_law_911 : decode cL_law 911 = .ok (.iconst 0, 1) := by decide +kernel
theorem dL_law_912 : decode cL_law 912 = .ok (.ireturn, 1) := by decide +kernel
theorem dL_law_913 : decode cL_law 913 = .ok (.aload_n 1, 1) := by decide +kernel
theorem dL_law_914 : decode cL_law 914 = .ok (.aload_n 0, 1) := by decide +kernel
theorem dL_law_915 : decode cL_law 915 = .ok (.iload_n 3, 1) := by decide +kernel
theorem dL_law_916 : decode cL_law 916 = .ok (.iconst 1, 1) := by decide +kernel
theorem dL_law_917 : decode cL_law 917 = .ok (.iadd, 1) := by decide +kernel
theorem dL_law_918 : decode cL_law 918 = .ok (.iaload, 1) := by decide +kernel
theorem dL_law_919 : decode cL_law 919 = .ok (.aload_n 0, 1) := by decide +kernel
theorem dL_law_920 : decode cL_law 920 = .ok (.iload_n 3, 1) := by decide +kernel
theorem dL_law_921 : decode cL_law 921 = .ok (.iconst 2, 1) := by decide +kernel
theorem dL_law_922 : decode cL_law 922 = .ok (.iadd, 1) := by decide +kernel
theorem dL_law_923 : decode cL_law 923 = .ok (.iaload, 1) := by decide +kernel
theorem dL_law_924 : decode cL_law 924 = .ok (.aload_n 0, 1) := by decide +kernel
theorem dL_law_925 : decode cL_law 925 = .ok (.iload_n 3, 1) := by decide +kernel
theorem dL_law_926 : decode cL_law 926 = .ok (.iconst 3, 1) := by decide +kernel
theorem dL_law_927 : decode cL_law 927 = .ok (.iadd, 1) := by decide +kernel
theorem dL_law_928 : decode cL_law 928 = .ok (.iaload, 1) := by decide +kernel
theorem dL_law_929 : decode cL_law 929 = .ok (.invokevirtual 107, 3) := by decide +kernel
theorem dL_law_932 : decode cL_law 932 = .ok (.aload_n 2, 1) := by decide +kernel
theorem dL_law_933 : decode cL_law 933 = .ok (.aload_n 0, 1) := by decide +kernel
theorem dL_law_934 : decode cL_law 934 = .ok (.iload_n 3, 1) := by decide +kernel
theorem dL_law_935 : decode cL_law 935 = .ok (.iconst 1, 1) := by decide +kernel
theorem dL_law_936 : decode cL_law 936 = .ok (.iadd, 1) := by decide +kernel
theorem dL_law_937 : decode cL_law 937 = .ok (.iaload, 1) := by decide +kernel
theorem dL_law_938 : decode cL_law 938 = .ok (.aload_n 0, 1) := by decide +kernel
theorem dL_law_939 : decode cL_law 939 = .ok (.iload_n 3, 1) := by decide +kernel
theorem dL_law_940 : decode cL_law 940 = .ok (.iconst 2, 1) := by decide +kernel
theorem dL_law_941 : decode cL_law 941 = .ok (.iadd, 1) := by decide +kernel
theorem dL_law_942 : decode cL_law 942 = .ok (.iaload, 1) := by decide +kernel
theorem dL_law_943 : decode cL_law 943 = .ok (.aload_n 0, 1) := by decide +kernel
theorem dL_law_944 : decode cL_law 944 = .ok (.iload_n 3, 1) := by decide +kernel
theorem dL_law_945 : decode cL_law 945 = .ok (.iconst 3, 1) := by decide +kernel
theorem dL_law_946 : decode cL_law 946 = .ok (.iadd, 1) := by decide +kernel
theorem dL_law_947 : decode cL_law 947 = .ok (.iaload, 1) := by decide +kernel
theorem dL_law_948 : decode cL_law 948 = .ok (.invokevirtual 111, 3) := by decide +kernel
theorem dL_law_951 : decode cL_law 951 = .ok (.lcmp, 1) := by decide +kernel
theorem dL_law_952 : decode cL_law 952 = .ok (.ifCond .eq 214, 3) := by decide +kernel
theorem dL_law_955 : decode cL_law 955 = .ok (.iconst 0, 1) := by decide +kernel
theorem dL_law_956 : decode cL_law 956 = .ok (.ireturn, 1) := by decide +kernel
theorem dL_law_957 : decode cL_law 957 = .ok (.aload_n 1, 1) := by decide +kernel
theorem dL_law_958 : decode cL_law 958 = .ok (.aload_n 0, 1) := by decide +kernel
theorem dL_law_959 : decode cL_law 959 = .ok (.iload_n 3, 1) := by decide +kernel
theorem dL_law_960 : decode cL_law 960 = .ok (.iconst 1, 1) := by decide +kernel
theorem dL_law_961 : decode cL_law 961 = .ok (.iadd, 1) := by decide +kernel
theorem dL_law_962 : decode cL_law 962 = .ok (.iaload, 1) := by decide +kernel
theorem dL_law_963 : decode cL_law 963 = .ok (.aload_n 0, 1) := by decide +kernel
theorem dL_law_964 : decode cL_law 964 = .ok (.iload_n 3, 1) := by decide +kernel
theorem dL_law_965 : decode cL_law 965 = .ok (.iconst 2, 1) := by decide +kernel
theorem dL_law_966 : decode cL_law 966 = .ok (.iadd, 1) := by decide +kernel
theorem dL_law_967 : decode cL_law 967 = .ok (.iaload, 1) := by decide +kernel
theorem dL_law_968 : decode cL_law 968 = .ok (.invokevirtual 112, 3) := by decide +kernel
theorem dL_law_971 : decode cL_law 971 = .ok (.aload_n 2, 1) := by decide +kernel
theorem dL_law_972 : decode cL_law 972 = .ok (.aload_n 0, 1) := by decide +kernel
theorem dL_law_973 : decode cL_law 973 = .ok (.iload_n 3, 1) := by decide +kernel
theorem dL_law_974 : decode cL_law 974 = .ok (.iconst 1, 1) := by decide +kernel
theorem dL_law_975 : decode cL_law 975 = .ok (.iadd, 1) := by decide +kernel
theorem dL_law_976 : decode cL_law 976 = .ok (.iaload, 1) := by decide +kernel
theorem dL_law_977 : decode cL_law 977 = .ok (.aload_n 0, 1) := by decide +kernel
theorem dL_law_978 : decode cL_law 978 = .ok (.iload_n 3, 1) := by decide +kernel
theorem dL_law_979 : decode cL_law 979 = .ok (.iconst 2, 1) := by decide +kernel
theorem dL_law_980 : decode cL_law 980 = .ok (.iadd, 1) := by decide +kernel
theorem dL_law_981 : decode cL_law 981 = .ok (.iaload, 1) := by decide +kernel
theorem dL_law_982 : decode cL_law 982 = .ok (.invokevirtual 115, 3) := by decide +kernel
theorem dL_law_985 : decode cL_law 985 = .ok (.if_icmp .eq 181, 3) := by decide +kernel
theorem dL_law_988 : decode cL_law 988 = .ok (.iconst 0, 1) := by decide +kernel
theorem dL_law_989 : decode cL_law 989 = .ok (.ireturn, 1) := by decide +kernel
theorem dL_law_990 : decode cL_law 990 = .ok (.aload_n 1, 1) := by decide +kernel
theorem dL_law_991 : decode cL_law 991 = .ok (.aload_n 0, 1) := by decide +kernel
theorem dL_law_992 : decode cL_law 992 = .ok (.iload_n 3, 1) := by decide +kernel
theorem dL_law_993 : decode cL_law 993 = .ok (.iconst 1, 1) := by decide +kernel
theorem dL_law_994 : decode cL_law 994 = .ok (.iadd, 1) := by decide +kernel
theorem dL_law_995 : decode cL_law 995 = .ok (.iaload, 1) := by decide +kernel
theorem dL_law_996 : decode cL_law 996 = .ok (.i2l, 1) := by decide +kernel
theorem dL_law_997 : decode cL_law 997 = .ok (.bipush 32, 2) := by decide +kernel
theorem dL_law_999 : decode cL_law 999 = .ok (.lshl, 1) := by decide +kernel
theorem dL_law_1000 : decode cL_law 1000 = .ok (.aload_n 0, 1) := by decide +kernel
theorem dL_law_1001 : decode cL_law 1001 = .ok (.iload_n 3, 1) := by decide +kernel
theorem dL_law_1002 : decode cL_law 1002 = .ok (.iconst 2, 1) := by decide +kernel
theorem dL_law_1003 : decode cL_law 1003 = .ok (.iadd, 1) := by decide +kernel
theorem dL_law_1004 : decode cL_law 1004 = .ok (.iaload, 1) := by decide +kernel
theorem dL_law_1005 : decode cL_law 1005 = .ok (.i2l, 1) := by decide +kernel
theorem dL_law_1006 : decode cL_law 1006 = .ok (.ldc2_w 18, 3) := by decide +kernel
theorem dL_law_1009 : decode cL_law 1009 = .ok (.land, 1) := by decide +kernel
theorem dL_law_1010 : decode cL_law 1010 = .ok (.lor, 1) := by decide +kernel
theorem dL_law_1011 : decode cL_law 1011 = .ok (.aload_n 0, 1) := by decide +kernel
theorem dL_law_1012 : decode cL_law 1012 = .ok (.iload_n 3, 1) := by decide +kernel
theorem dL_law_1013 : decode cL_law 1013 = .ok (.iconst 3, 1) := by decide +kernel
theorem dL_law_1014 : decode cL_law 1014 = .ok (.iadd, 1) := by decide +kernel
theorem dL_law_1015 : decode cL_law 1015 = .ok (.iaload, 1) := by decide +kernel
theorem dL_law_1016 : decode cL_law 1016 = .ok (.i2l, 1) := by decide +kernel
theorem dL_law_1017 : decode cL_law 1017 = .ok (.bipush 32, 2) := by decide +kernel
theorem dL_law_1019 : decode cL_law 1019 = .ok (.lshl, 1) := by decide +kernel
theorem dL_law_1020 : decode cL_law 1020 = .ok (.aload_n 0, 1) := by decide +kernel
theorem dL_law_1021 : decode cL_law 1021 = .ok (.iload_n 3, 1) := by decide +kernel
theorem dL_law_1022 : decode cL_law 1022 = .ok (.iconst 4, 1) := by decide +kernel
theorem dL_law_1023 : decode cL_law 1023 = .ok (.iadd, 1) := by decide +kernel
theorem dL_law_1024 : decode cL_law 1024 = .ok (.iaload, 1) := by decide +kernel
theorem dL_law_1025 : decode cL_law 1025 = .ok (.i2l, 1) := by decide +kernel
theorem dL_law_1026 : decode cL_law 1026 = .ok (.ldc2_w 18, 3) := by decide +kernel
theorem dL_law_1029 : decode cL_law 1029 = .ok (.land, 1) := by decide +kernel
theorem dL_law_1030 : decode cL_law 1030 = .ok (.lor, 1) := by decide +kernel
theorem dL_law_1031 : decode cL_law 1031 = .ok (.invokevirtual 116, 3) := by decide +kernel
theorem dL_law_1034 : decode cL_law 1034 = .ok (.aload_n 2, 1) := by decide +kernel
theorem dL_law_1035 : decode cL_law 1035 = .ok (.aload_n 0, 1) := by decide +kernel
theorem dL_law_1036 : decode cL_law 1036 = .ok (.iload_n 3, 1) := by decide +kernel
theorem dL_law_1037 : decode cL_law 1037 = .ok (.iconst 1, 1) := by decide +kernel
theorem dL_law_1038 : decode cL_law 1038 = .ok (.iadd, 1) := by decide +kernel
theorem dL_law_1039 : decode cL_law 1039 = .ok (.iaload, 1) := by decide +kernel
theorem dL_law_1040 : decode cL_law 1040 = .ok (.i2l, 1) := by decide +kernel
theorem dL_law_1041 : decode cL_law 1041 = .ok (.bipush 32, 2) := by decide +kernel
theorem dL_law_1043 : decode cL_law 1043 = .ok (.lshl, 1) := by decide +kernel
theorem dL_law_1044 : decode cL_law 1044 = .ok (.aload_n 0, 1) := by decide +kernel
theorem dL_law_1045 : decode cL_law 1045 = .ok (.iload_n 3, 1) := by decide +kernel
theorem dL_law_1046 : decode cL_law 1046 = .ok (.iconst 2, 1) := by decide +kernel
theorem dL_law_1047 : decode cL_law 1047 = .ok (.iadd, 1) := by decide +kernel
theorem dL_law_1048 : decode cL_law 1048 = .ok (.iaload, 1) := by decide +kernel
theorem dL_law_1049 : decode cL_law 1049 = .ok (.i2l, 1) := by decide +kernel
theorem dL_law_1050 : decode cL_law 1050 = .ok (.ldc2_w 18, 3) := by decide +kernel
theorem dL_law_1053 : decode cL_law 1053 = .ok (.land, 1) := by decide +kernel
theorem dL_law_1054 : decode cL_law 1054 = .ok (.lor, 1) := by decide +kernel
theorem dL_law_1055 : decode cL_law 1055 = .ok (.aload_n 0, 1) := by decide +kernel
theorem dL_law_1056 : decode cL_law 1056 = .ok (.iload_n 3, 1) := by decide +kernel
theorem dL_law_1057 : decode cL_law 1057 = .ok (.iconst 3, 1) := by decide +kernel
theorem dL_law_1058 : decode cL_law 1058 = .ok (.iadd, 1) := by decide +kernel
theorem dL_law_1059 : decode cL_law 1059 = .ok (.iaload, 1) := by decide +kernel
theorem dL_law_1060 : decode cL_law 1060 = .ok (.i2l, 1) := by decide +kernel
theorem dL_law_1061 : decode cL_law 1061 = .ok (.bipush 32, 2) := by decide +kernel
theorem dL_law_1063 : decode cL_law 1063 = .ok (.lshl, 1) := by decide +kernel
theorem dL_law_1064 : decode cL_law 1064 = .ok (.aload_n 0, 1) := by decide +kernel
theorem dL_law_1065 : decode cL_law 1065 = .ok (.iload_n 3, 1) := by decide +kernel
theorem dL_law_1066 : decode cL_law 1066 = .ok (.iconst 4, 1) := by decide +kernel
theorem dL_law_1067 : decode cL_law 1067 = .ok (.iadd, 1) := by decide +kernel
theorem dL_law_1068 : decode cL_law 1068 = .ok (.iaload, 1) := by decide +kernel
theorem dL_law_1069 : decode cL_law 1069 = .ok (.i2l, 1) := by decide +kernel
theorem dL_law_1070 : decode cL_law 1070 = .ok (.ldc2_w 18, 3) := by decide +kernel
theorem dL_law_1073 : decode cL_law 1073 = .ok (.land, 1) := by decide +kernel
theorem dL_law_1074 : decode cL_law 1074 = .ok (.lor, 1) := by decide +kernel
theorem dL_law_1075 : decode cL_law 1075 = .ok (.invokevirtual 120, 3) := by decide +kernel
theorem dL_law_1078 : decode cL_law 1078 = .ok (.if_icmp .eq 88, 3) := by decide +kernel
theorem dL_law_1081 : decode cL_law 1081 = .ok (.iconst 0, 1) := by decide +kernel
theorem dL_law_1082 : decode cL_law 1082 = .ok (.ireturn, 1) := by decide +kernel
theorem dL_law_1083 : decode cL_law 1083 = .ok (.aload_n 1, 1) := by decide +kernel
theorem dL_law_1084 : decode cL_law 1084 = .ok (.aload_n 0, 1) := by decide +kernel
theorem dL_law_1085 : decode cL_law 1085 = .ok (.iload_n 3, 1) := by decide +kernel
theorem dL_law_1086 : decode cL_law 1086 = .ok (.iconst 1, 1) := by decide +kernel
theorem dL_law_1087 : decode cL_law 1087 = .ok (.iadd, 1) := by decide +kernel
theorem dL_law_1088 : decode cL_law 1088 = .ok (.iaload, 1) := by decide +kernel
theorem dL_law_1089 : decode cL_law 1089 = .ok (.invokevirtual 121, 3) := by decide +kernel
theorem dL_law_1092 : decode cL_law 1092 = .ok (.aload_n 2, 1) := by decide +kernel
theorem dL_law_1093 : decode cL_law 1093 = .ok (.aload_n 0, 1) := by decide +kernel
theorem dL_law_1094 : decode cL_law 1094 = .ok (.iload_n 3, 1) := by decide +kernel
theorem dL_law_1095 : decode cL_law 1095 = .ok (.iconst 1, 1) := by decide +kernel
theorem dL_law_1096 : decode cL_law 1096 = .ok (.iadd, 1) := by decide +kernel
theorem dL_law_1097 : decode cL_law 1097 = .ok (.iaload, 1) := by decide +kernel
theorem dL_law_1098 : decode cL_law 1098 = .ok (.invokevirtual 124, 3) := by decide +kernel
theorem dL_law_1101 : decode cL_law 1101 = .ok (.lcmp, 1) := by decide +kernel
theorem dL_law_1102 : decode cL_law 1102 = .ok (.ifCond .eq 64, 3) := by decide +kernel
theorem dL_law_1105 : decode cL_law 1105 = .ok (.iconst 0, 1) := by decide +kernel
theorem dL_law_1106 : decode cL_law 1106 = .ok (.ireturn, 1) := by decide +kernel
theorem dL_law_1107 : decode cL_law 1107 = .ok (.aload_n 1, 1) := by decide +kernel
theorem dL_law_1108 : decode cL_law 1108 = .ok (.invokevirtual 125, 3) := by decide +kernel
theorem dL_law_1111 : decode cL_law 1111 = .ok (.aload_n 2, 1) := by decide +kernel
theorem dL_law_1112 : decode cL_law 1112 = .ok (.invokevirtual 128, 3) := by decide +kernel
theorem dL_law_1115 : decode cL_law 1115 = .ok (.if_icmp .eq 51, 3) := by decide +kernel
theorem dL_law_1118 : decode cL_law 1118 = .ok (.iconst 0, 1) := by decide +kernel
theorem dL_law_1119 : decode cL_law 1119 = .ok (.ireturn, 1) := by decide +kernel
theorem dL_law_1120 : decode cL_law 1120 = .ok (.aload_n 1, 1) := by decide +kernel
theorem dL_law_1121 : decode cL_law 1121 = .ok (.aload_n 0, 1) := by decide +kernel
theorem dL_law_1122 : decode cL_law 1122 = .ok (.iload_n 3, 1) := by decide +kernel
theorem dL_law_1123 : decode cL_law 1123 = .ok (.iconst 1, 1) := by decide +kernel
theorem dL_law_1124 : decode cL_law 1124 = .ok (.iadd, 1) := by decide +kernel
theorem dL_law_1125 : decode cL_law 1125 = .ok (.iaload, 1) := by decide +kernel
theorem dL_law_1126 : decode cL_law 1126 = .ok (.invokevirtual 129, 3) := by decide +kernel
theorem dL_law_1129 : decode cL_law 1129 = .ok (.aload_n 2, 1) := by decide +kernel
theorem dL_law_1130 : decode cL_law 1130 = .ok (.aload_n 0, 1) := by decide +kernel
theorem dL_law_1131 : decode cL_law 1131 = .ok (.iload_n 3, 1) := by decide +kernel
theorem dL_law_1132 : decode cL_law 1132 = .ok (.iconst 1, 1) := by decide +kernel
theorem dL_law_1133 : decode cL_law 1133 = .ok (.iadd, 1) := by decide +kernel
theorem dL_law_1134 : decode cL_law 1134 = .ok (.iaload, 1) := by decide +kernel
theorem dL_law_1135 : decode cL_law 1135 = .ok (.invokevirtual 132, 3) := by decide +kernel
theorem dL_law_1138 : decode cL_law 1138 = .ok (.if_icmp .eq 28, 3) := by decide +kernel
theorem dL_law_1141 : decode cL_law 1141 = .ok (.iconst 0, 1) := by decide +kernel
theorem dL_law_1142 : decode cL_law 1142 = .ok (.ireturn, 1) := by decide +kernel
theorem dL_law_1143 : decode cL_law 1143 = .ok (.aload_n 1, 1) := by decide +kernel
theorem dL_law_1144 : decode cL_law 1144 = .ok (.aload_n 0, 1) := by decide +kernel
theorem dL_law_1145 : decode cL_law 1145 = .ok (.iload_n 3, 1) := by decide +kernel
theorem dL_law_1146 : decode cL_law 1146 = .ok (.iconst 1, 1) := by decide +kernel
theorem dL_law_1147 : decode cL_law 1147 = .ok (.iadd, 1) := by decide +kernel
theorem dL_law_1148 : decode cL_law 1148 = .ok (.iaload, 1) := by decide +kernel
theorem dL_law_1149 : decode cL_law 1149 = .ok (.invokevirtual 133, 3) := by decide +kernel
theorem dL_law_1152 : decode cL_law 1152 = .ok (.aload_n 2, 1) := by decide +kernel
theorem dL_law_1153 : decode cL_law 1153 = .ok (.aload_n 0, 1) := by decide +kernel
theorem dL_law_1154 : decode cL_law 1154 = .ok (.iload_n 3, 1) := by decide +kernel
theorem dL_law_1155 : decode cL_law 1155 = .ok (.iconst 1, 1) := by decide +kernel
theorem dL_law_1156 : decode cL_law 1156 = .ok (.iadd, 1) := by decide +kernel
theorem dL_law_1157 : decode cL_law 1157 = .ok (.iaload, 1) := by decide +kernel
theorem dL_law_1158 : decode cL_law 1158 = .ok (.invokevirtual 136, 3) := by decide +kernel
theorem dL_law_1161 : decode cL_law 1161 = .ok (.if_icmp .eq 5, 3) := by decide +kernel
theorem dL_law_1164 : decode cL_law 1164 = .ok (.iconst 0, 1) := by decide +kernel
theorem dL_law_1165 : decode cL_law 1165 = .ok (.ireturn, 1) := by decide +kernel
theorem dL_law_1166 : decode cL_law 1166 = .ok (.iinc 3 6, 3) := by decide +kernel
theorem dL_law_1169 : decode cL_law 1169 = .ok (.goto (-1151), 3) := by decide +kernel
theorem dL_law_1172 : decode cL_law 1172 = .ok (.iconst 1, 1) := by decide +kernel
theorem dL_law_1173 : decode cL_law 1173 = .ok (.ireturn, 1) := by decide +kernel
end
