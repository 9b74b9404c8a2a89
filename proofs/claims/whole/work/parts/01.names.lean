-- ===== PART A: goes FIRST, ahead of the names: the tables' words, and 'selects' of the private methods out of them =====
/-- a private method of a class that the tables say can be made, by its rows of tables_1 -/
def lw_okq (q : MethodName × Nat) : Prop := (q.1.cls ≠ "java/lang/invoke/MethodHandle" ∧ q.1.cls ≠ "java/lang/invoke/VarHandle") ∧ Cond.instantiable q.1.cls q.2 ∈ tables_1 ∧ Cond.privateMethod q.1 ∈ tables_1 ∧ Cond.instanceMethod q.1 ∈ tables_1
theorem lw_p0 : lw_okq (⟨"HeatShelves$State", "copyFrom", "(LHeatShelves$State;)V"⟩, 10) := ⟨⟨by decide +kernel, by decide +kernel⟩, List.mem_of_getElem? (i := 18) (by decide +kernel), List.mem_of_getElem? (i := 176) (by decide +kernel), List.mem_of_getElem? (i := 177) (by decide +kernel)⟩
theorem lw_p1 : lw_okq (⟨"HeatShelves$State", "addBlock", "(I)I"⟩, 10) := ⟨⟨by decide +kernel, by decide +kernel⟩, List.mem_of_getElem? (i := 18) (by decide +kernel), List.mem_of_getElem? (i := 180) (by decide +kernel), List.mem_of_getElem? (i := 181) (by decide +kernel)⟩
theorem lw_p2 : lw_okq (⟨"HeatShelves$State", "fastestWithRoom", "(I)I"⟩, 10) := ⟨⟨by decide +kernel, by decide +kernel⟩, List.mem_of_getElem? (i := 18) (by decide +kernel), List.mem_of_getElem? (i := 184) (by decide +kernel), List.mem_of_getElem? (i := 185) (by decide +kernel)⟩
theorem lw_p3 : lw_okq (⟨"HeatShelves$State", "hasRoom", "(II)Z"⟩, 10) := ⟨⟨by decide +kernel, by decide +kernel⟩, List.mem_of_getElem? (i := 18) (by decide +kernel), List.mem_of_getElem? (i := 188) (by decide +kernel), List.mem_of_getElem? (i := 189) (by decide +kernel)⟩
theorem lw_p4 : lw_okq (⟨"HeatShelves$State", "countBlocks", "()I"⟩, 10) := ⟨⟨by decide +kernel, by decide +kernel⟩, List.mem_of_getElem? (i := 18) (by decide +kernel), List.mem_of_getElem? (i := 192) (by decide +kernel), List.mem_of_getElem? (i := 193) (by decide +kernel)⟩
theorem lw_p5 : lw_okq (⟨"HeatShelves", "settle", "(I)I"⟩, 7) := ⟨⟨by decide +kernel, by decide +kernel⟩, List.mem_of_getElem? (i := 10) (by decide +kernel), List.mem_of_getElem? (i := 205) (by decide +kernel), List.mem_of_getElem? (i := 206) (by decide +kernel)⟩
theorem lw_p6 : lw_okq (⟨"HeatShelves$History", "record", "(LHeatShelves$State;)V"⟩, 3) := ⟨⟨by decide +kernel, by decide +kernel⟩, List.mem_of_getElem? (i := 83) (by decide +kernel), List.mem_of_getElem? (i := 209) (by decide +kernel), List.mem_of_getElem? (i := 210) (by decide +kernel)⟩
theorem lw_p7 : lw_okq (⟨"HeatShelves$History", "stateAt", "(I)LHeatShelves$State;"⟩, 3) := ⟨⟨by decide +kernel, by decide +kernel⟩, List.mem_of_getElem? (i := 83) (by decide +kernel), List.mem_of_getElem? (i := 213) (by decide +kernel), List.mem_of_getElem? (i := 214) (by decide +kernel)⟩
theorem lw_p8 : lw_okq (⟨"HeatShelves$State", "dropBlock", "(I)I"⟩, 10) := ⟨⟨by decide +kernel, by decide +kernel⟩, List.mem_of_getElem? (i := 18) (by decide +kernel), List.mem_of_getElem? (i := 222) (by decide +kernel), List.mem_of_getElem? (i := 223) (by decide +kernel)⟩
theorem lw_p9 : lw_okq (⟨"HeatShelves$State", "find", "(I)I"⟩, 10) := ⟨⟨by decide +kernel, by decide +kernel⟩, List.mem_of_getElem? (i := 18) (by decide +kernel), List.mem_of_getElem? (i := 226) (by decide +kernel), List.mem_of_getElem? (i := 227) (by decide +kernel)⟩
theorem lw_p10 : lw_okq (⟨"HeatShelves$State", "readBlock", "(II)I"⟩, 10) := ⟨⟨by decide +kernel, by decide +kernel⟩, List.mem_of_getElem? (i := 18) (by decide +kernel), List.mem_of_getElem? (i := 240) (by decide +kernel), List.mem_of_getElem? (i := 241) (by decide +kernel)⟩
theorem lw_p11 : lw_okq (⟨"HeatShelves$State", "readOnce", "(I)I"⟩, 10) := ⟨⟨by decide +kernel, by decide +kernel⟩, List.mem_of_getElem? (i := 18) (by decide +kernel), List.mem_of_getElem? (i := 244) (by decide +kernel), List.mem_of_getElem? (i := 245) (by decide +kernel)⟩
theorem lw_p12 : lw_okq (⟨"HeatShelves$State", "askBack", "(I)I"⟩, 10) := ⟨⟨by decide +kernel, by decide +kernel⟩, List.mem_of_getElem? (i := 18) (by decide +kernel), List.mem_of_getElem? (i := 250) (by decide +kernel), List.mem_of_getElem? (i := 251) (by decide +kernel)⟩
theorem lw_p13 : lw_okq (⟨"HeatShelves$State", "moveTo", "(II)V"⟩, 10) := ⟨⟨by decide +kernel, by decide +kernel⟩, List.mem_of_getElem? (i := 18) (by decide +kernel), List.mem_of_getElem? (i := 254) (by decide +kernel), List.mem_of_getElem? (i := 255) (by decide +kernel)⟩
theorem lw_p14 : lw_okq (⟨"HeatShelves$State", "turnPin", "(IZ)I"⟩, 10) := ⟨⟨by decide +kernel, by decide +kernel⟩, List.mem_of_getElem? (i := 18) (by decide +kernel), List.mem_of_getElem? (i := 262) (by decide +kernel), List.mem_of_getElem? (i := 263) (by decide +kernel)⟩
theorem lw_p15 : lw_okq (⟨"HeatShelves$State", "countPinned", "()I"⟩, 10) := ⟨⟨by decide +kernel, by decide +kernel⟩, List.mem_of_getElem? (i := 18) (by decide +kernel), List.mem_of_getElem? (i := 266) (by decide +kernel), List.mem_of_getElem? (i := 267) (by decide +kernel)⟩
def lw_privs_1 : List (MethodName × Nat) := [(⟨"HeatShelves$State", "copyFrom", "(LHeatShelves$State;)V"⟩, 10), (⟨"HeatShelves$State", "addBlock", "(I)I"⟩, 10), (⟨"HeatShelves$State", "fastestWithRoom", "(I)I"⟩, 10), (⟨"HeatShelves$State", "hasRoom", "(II)Z"⟩, 10), (⟨"HeatShelves$State", "countBlocks", "()I"⟩, 10), (⟨"HeatShelves", "settle", "(I)I"⟩, 7), (⟨"HeatShelves$History", "record", "(LHeatShelves$State;)V"⟩, 3), (⟨"HeatShelves$History", "stateAt", "(I)LHeatShelves$State;"⟩, 3), (⟨"HeatShelves$State", "dropBlock", "(I)I"⟩, 10), (⟨"HeatShelves$State", "find", "(I)I"⟩, 10), (⟨"HeatShelves$State", "readBlock", "(II)I"⟩, 10), (⟨"HeatShelves$State", "readOnce", "(I)I"⟩, 10), (⟨"HeatShelves$State", "askBack", "(I)I"⟩, 10), (⟨"HeatShelves$State", "moveTo", "(II)V"⟩, 10), (⟨"HeatShelves$State", "turnPin", "(IZ)I"⟩, 10), (⟨"HeatShelves$State", "countPinned", "()I"⟩, 10)]
theorem lw_r1 : ∀ q ∈ lw_privs_1, lw_okq q := List.forall_mem_cons.mpr ⟨lw_p0, List.forall_mem_cons.mpr ⟨lw_p1, List.forall_mem_cons.mpr ⟨lw_p2, List.forall_mem_cons.mpr ⟨lw_p3, List.forall_mem_cons.mpr ⟨lw_p4, List.forall_mem_cons.mpr ⟨lw_p5, List.forall_mem_cons.mpr ⟨lw_p6, List.forall_mem_cons.mpr ⟨lw_p7, List.forall_mem_cons.mpr ⟨lw_p8, List.forall_mem_cons.mpr ⟨lw_p9, List.forall_mem_cons.mpr ⟨lw_p10, List.forall_mem_cons.mpr ⟨lw_p11, List.forall_mem_cons.mpr ⟨lw_p12, List.forall_mem_cons.mpr ⟨lw_p13, List.forall_mem_cons.mpr ⟨lw_p14, List.forall_mem_cons.mpr ⟨lw_p15, fun _ h => absurd h List.not_mem_nil⟩⟩⟩⟩⟩⟩⟩⟩⟩⟩⟩⟩⟩⟩⟩⟩
theorem lw_p16 : lw_okq (⟨"HeatShelves", "passInWork", "(I)I"⟩, 7) := ⟨⟨by decide +kernel, by decide +kernel⟩, List.mem_of_getElem? (i := 10) (by decide +kernel), List.mem_of_getElem? (i := 274) (by decide +kernel), List.mem_of_getElem? (i := 275) (by decide +kernel)⟩
theorem lw_p17 : lw_okq (⟨"HeatShelves$Night", "letPass", "(LHeatShelves$State;I)I"⟩, 2) := ⟨⟨by decide +kernel, by decide +kernel⟩, List.mem_of_getElem? (i := 103) (by decide +kernel), List.mem_of_getElem? (i := 279) (by decide +kernel), List.mem_of_getElem? (i := 280) (by decide +kernel)⟩
theorem lw_p18 : lw_okq (⟨"HeatShelves$State", "payNight", "()V"⟩, 10) := ⟨⟨by decide +kernel, by decide +kernel⟩, List.mem_of_getElem? (i := 18) (by decide +kernel), List.mem_of_getElem? (i := 284) (by decide +kernel), List.mem_of_getElem? (i := 285) (by decide +kernel)⟩
theorem lw_p19 : lw_okq (⟨"HeatShelves$State", "nightPriceOfShelf", "(I)I"⟩, 10) := ⟨⟨by decide +kernel, by decide +kernel⟩, List.mem_of_getElem? (i := 18) (by decide +kernel), List.mem_of_getElem? (i := 288) (by decide +kernel), List.mem_of_getElem? (i := 289) (by decide +kernel)⟩
theorem lw_p20 : lw_okq (⟨"HeatShelves$State", "fade", "()V"⟩, 10) := ⟨⟨by decide +kernel, by decide +kernel⟩, List.mem_of_getElem? (i := 18) (by decide +kernel), List.mem_of_getElem? (i := 292) (by decide +kernel), List.mem_of_getElem? (i := 293) (by decide +kernel)⟩
theorem lw_p21 : lw_okq (⟨"HeatShelves$Night", "findWhoMayMove", "(LHeatShelves$State;)V"⟩, 2) := ⟨⟨by decide +kernel, by decide +kernel⟩, List.mem_of_getElem? (i := 103) (by decide +kernel), List.mem_of_getElem? (i := 297) (by decide +kernel), List.mem_of_getElem? (i := 298) (by decide +kernel)⟩
theorem lw_p22 : lw_okq (⟨"HeatShelves$State", "wantedShelf", "(I)I"⟩, 10) := ⟨⟨by decide +kernel, by decide +kernel⟩, List.mem_of_getElem? (i := 18) (by decide +kernel), List.mem_of_getElem? (i := 302) (by decide +kernel), List.mem_of_getElem? (i := 303) (by decide +kernel)⟩
theorem lw_p23 : lw_okq (⟨"HeatShelves$Night", "moveInTurn", "(LHeatShelves$State;ZI)I"⟩, 2) := ⟨⟨by decide +kernel, by decide +kernel⟩, List.mem_of_getElem? (i := 103) (by decide +kernel), List.mem_of_getElem? (i := 307) (by decide +kernel), List.mem_of_getElem? (i := 308) (by decide +kernel)⟩
theorem lw_p24 : lw_okq (⟨"HeatShelves$Night", "nextInTurn", "(LHeatShelves$State;Z)I"⟩, 2) := ⟨⟨by decide +kernel, by decide +kernel⟩, List.mem_of_getElem? (i := 103) (by decide +kernel), List.mem_of_getElem? (i := 311) (by decide +kernel), List.mem_of_getElem? (i := 312) (by decide +kernel)⟩
theorem lw_p25 : lw_okq (⟨"HeatShelves$Night", "shelfToMoveTo", "(LHeatShelves$State;I)I"⟩, 2) := ⟨⟨by decide +kernel, by decide +kernel⟩, List.mem_of_getElem? (i := 103) (by decide +kernel), List.mem_of_getElem? (i := 315) (by decide +kernel), List.mem_of_getElem? (i := 316) (by decide +kernel)⟩
theorem lw_p26 : lw_okq (⟨"HeatShelves$Night", "promiseIfDeep", "(LHeatShelves$State;I)V"⟩, 2) := ⟨⟨by decide +kernel, by decide +kernel⟩, List.mem_of_getElem? (i := 103) (by decide +kernel), List.mem_of_getElem? (i := 324) (by decide +kernel), List.mem_of_getElem? (i := 325) (by decide +kernel)⟩
theorem lw_p27 : lw_okq (⟨"HeatShelves$State", "changeSetting", "(II)I"⟩, 10) := ⟨⟨by decide +kernel, by decide +kernel⟩, List.mem_of_getElem? (i := 18) (by decide +kernel), List.mem_of_getElem? (i := 333) (by decide +kernel), List.mem_of_getElem? (i := 334) (by decide +kernel)⟩
theorem lw_p28 : lw_okq (⟨"HeatShelves$State", "allowsSetting", "(II)Z"⟩, 10) := ⟨⟨by decide +kernel, by decide +kernel⟩, List.mem_of_getElem? (i := 18) (by decide +kernel), List.mem_of_getElem? (i := 339) (by decide +kernel), List.mem_of_getElem? (i := 340) (by decide +kernel)⟩
theorem lw_p29 : lw_okq (⟨"HeatShelves$Orders", "append", "(C)I"⟩, 7) := ⟨⟨by decide +kernel, by decide +kernel⟩, List.mem_of_getElem? (i := 117) (by decide +kernel), List.mem_of_getElem? (i := 347) (by decide +kernel), List.mem_of_getElem? (i := 348) (by decide +kernel)⟩
theorem lw_p30 : lw_okq (⟨"HeatShelves$Orders", "empty", "()I"⟩, 7) := ⟨⟨by decide +kernel, by decide +kernel⟩, List.mem_of_getElem? (i := 117) (by decide +kernel), List.mem_of_getElem? (i := 356) (by decide +kernel), List.mem_of_getElem? (i := 357) (by decide +kernel)⟩
theorem lw_p31 : lw_okq (⟨"HeatShelves$Orders", "readAll", "()I"⟩, 7) := ⟨⟨by decide +kernel, by decide +kernel⟩, List.mem_of_getElem? (i := 117) (by decide +kernel), List.mem_of_getElem? (i := 364) (by decide +kernel), List.mem_of_getElem? (i := 365) (by decide +kernel)⟩
def lw_privs_2 : List (MethodName × Nat) := [(⟨"HeatShelves", "passInWork", "(I)I"⟩, 7), (⟨"HeatShelves$Night", "letPass", "(LHeatShelves$State;I)I"⟩, 2), (⟨"HeatShelves$State", "payNight", "()V"⟩, 10), (⟨"HeatShelves$State", "nightPriceOfShelf", "(I)I"⟩, 10), (⟨"HeatShelves$State", "fade", "()V"⟩, 10), (⟨"HeatShelves$Night", "findWhoMayMove", "(LHeatShelves$State;)V"⟩, 2), (⟨"HeatShelves$State", "wantedShelf", "(I)I"⟩, 10), (⟨"HeatShelves$Night", "moveInTurn", "(LHeatShelves$State;ZI)I"⟩, 2), (⟨"HeatShelves$Night", "nextInTurn", "(LHeatShelves$State;Z)I"⟩, 2), (⟨"HeatShelves$Night", "shelfToMoveTo", "(LHeatShelves$State;I)I"⟩, 2), (⟨"HeatShelves$Night", "promiseIfDeep", "(LHeatShelves$State;I)V"⟩, 2), (⟨"HeatShelves$State", "changeSetting", "(II)I"⟩, 10), (⟨"HeatShelves$State", "allowsSetting", "(II)Z"⟩, 10), (⟨"HeatShelves$Orders", "append", "(C)I"⟩, 7), (⟨"HeatShelves$Orders", "empty", "()I"⟩, 7), (⟨"HeatShelves$Orders", "readAll", "()I"⟩, 7)]
theorem lw_r2 : ∀ q ∈ lw_privs_2, lw_okq q := List.forall_mem_cons.mpr ⟨lw_p16, List.forall_mem_cons.mpr ⟨lw_p17, List.forall_mem_cons.mpr ⟨lw_p18, List.forall_mem_cons.mpr ⟨lw_p19, List.forall_mem_cons.mpr ⟨lw_p20, List.forall_mem_cons.mpr ⟨lw_p21, List.forall_mem_cons.mpr ⟨lw_p22, List.forall_mem_cons.mpr ⟨lw_p23, List.forall_mem_cons.mpr ⟨lw_p24, List.forall_mem_cons.mpr ⟨lw_p25, List.forall_mem_cons.mpr ⟨lw_p26, List.forall_mem_cons.mpr ⟨lw_p27, List.forall_mem_cons.mpr ⟨lw_p28, List.forall_mem_cons.mpr ⟨lw_p29, List.forall_mem_cons.mpr ⟨lw_p30, List.forall_mem_cons.mpr ⟨lw_p31, fun _ h => absurd h List.not_mem_nil⟩⟩⟩⟩⟩⟩⟩⟩⟩⟩⟩⟩⟩⟩⟩⟩
theorem lw_p32 : lw_okq (⟨"HeatShelves$Orders", "readOrder", "()Z"⟩, 7) := ⟨⟨by decide +kernel, by decide +kernel⟩, List.mem_of_getElem? (i := 117) (by decide +kernel), List.mem_of_getElem? (i := 368) (by decide +kernel), List.mem_of_getElem? (i := 369) (by decide +kernel)⟩
theorem lw_p33 : lw_okq (⟨"HeatShelves$Orders", "signHere", "()I"⟩, 7) := ⟨⟨by decide +kernel, by decide +kernel⟩, List.mem_of_getElem? (i := 117) (by decide +kernel), List.mem_of_getElem? (i := 372) (by decide +kernel), List.mem_of_getElem? (i := 373) (by decide +kernel)⟩
theorem lw_p34 : lw_okq (⟨"HeatShelves$Orders", "isKind", "(I)Z"⟩, 7) := ⟨⟨by decide +kernel, by decide +kernel⟩, List.mem_of_getElem? (i := 117) (by decide +kernel), List.mem_of_getElem? (i := 377) (by decide +kernel), List.mem_of_getElem? (i := 378) (by decide +kernel)⟩
theorem lw_p35 : lw_okq (⟨"HeatShelves$Orders", "leastOf", "(I)I"⟩, 7) := ⟨⟨by decide +kernel, by decide +kernel⟩, List.mem_of_getElem? (i := 117) (by decide +kernel), List.mem_of_getElem? (i := 381) (by decide +kernel), List.mem_of_getElem? (i := 382) (by decide +kernel)⟩
theorem lw_p36 : lw_okq (⟨"HeatShelves$Orders", "greatestOf", "(I)I"⟩, 7) := ⟨⟨by decide +kernel, by decide +kernel⟩, List.mem_of_getElem? (i := 117) (by decide +kernel), List.mem_of_getElem? (i := 385) (by decide +kernel), List.mem_of_getElem? (i := 386) (by decide +kernel)⟩
theorem lw_p37 : lw_okq (⟨"HeatShelves$Orders", "readNumber", "(II)I"⟩, 7) := ⟨⟨by decide +kernel, by decide +kernel⟩, List.mem_of_getElem? (i := 117) (by decide +kernel), List.mem_of_getElem? (i := 389) (by decide +kernel), List.mem_of_getElem? (i := 390) (by decide +kernel)⟩
theorem lw_p38 : lw_okq (⟨"HeatShelves$Orders", "digitHere", "()I"⟩, 7) := ⟨⟨by decide +kernel, by decide +kernel⟩, List.mem_of_getElem? (i := 117) (by decide +kernel), List.mem_of_getElem? (i := 393) (by decide +kernel), List.mem_of_getElem? (i := 394) (by decide +kernel)⟩
theorem lw_p39 : lw_okq (⟨"HeatShelves", "performInWork", "(I)I"⟩, 7) := ⟨⟨by decide +kernel, by decide +kernel⟩, List.mem_of_getElem? (i := 10) (by decide +kernel), List.mem_of_getElem? (i := 397) (by decide +kernel), List.mem_of_getElem? (i := 398) (by decide +kernel)⟩
theorem lw_p40 : lw_okq (⟨"HeatShelves$State", "flipPin", "(I)I"⟩, 10) := ⟨⟨by decide +kernel, by decide +kernel⟩, List.mem_of_getElem? (i := 18) (by decide +kernel), List.mem_of_getElem? (i := 401) (by decide +kernel), List.mem_of_getElem? (i := 402) (by decide +kernel)⟩
theorem lw_p41 : lw_okq (⟨"HeatShelves$History", "takeLatest", "(LHeatShelves$State;)Z"⟩, 3) := ⟨⟨by decide +kernel, by decide +kernel⟩, List.mem_of_getElem? (i := 83) (by decide +kernel), List.mem_of_getElem? (i := 410) (by decide +kernel), List.mem_of_getElem? (i := 411) (by decide +kernel)⟩
theorem lw_p42 : lw_okq (⟨"HeatShelves$State", "placeOfRank", "(I)I"⟩, 10) := ⟨⟨by decide +kernel, by decide +kernel⟩, List.mem_of_getElem? (i := 18) (by decide +kernel), List.mem_of_getElem? (i := 427) (by decide +kernel), List.mem_of_getElem? (i := 428) (by decide +kernel)⟩
theorem lw_p43 : lw_okq (⟨"HeatShelves$State", "countHotter", "(I)I"⟩, 10) := ⟨⟨by decide +kernel, by decide +kernel⟩, List.mem_of_getElem? (i := 18) (by decide +kernel), List.mem_of_getElem? (i := 431) (by decide +kernel), List.mem_of_getElem? (i := 432) (by decide +kernel)⟩
theorem lw_p44 : lw_okq (⟨"HeatShelves", "whyItStays", "(I)I"⟩, 7) := ⟨⟨by decide +kernel, by decide +kernel⟩, List.mem_of_getElem? (i := 10) (by decide +kernel), List.mem_of_getElem? (i := 441) (by decide +kernel), List.mem_of_getElem? (i := 442) (by decide +kernel)⟩
theorem lw_p45 : lw_okq (⟨"HeatShelves$State", "countOnShelf", "(I)I"⟩, 10) := ⟨⟨by decide +kernel, by decide +kernel⟩, List.mem_of_getElem? (i := 18) (by decide +kernel), List.mem_of_getElem? (i := 449) (by decide +kernel), List.mem_of_getElem? (i := 450) (by decide +kernel)⟩
theorem lw_p46 : lw_okq (⟨"HeatShelves$State", "heatOnShelf", "(I)I"⟩, 10) := ⟨⟨by decide +kernel, by decide +kernel⟩, List.mem_of_getElem? (i := 18) (by decide +kernel), List.mem_of_getElem? (i := 453) (by decide +kernel), List.mem_of_getElem? (i := 454) (by decide +kernel)⟩
theorem lw_p47 : lw_okq (⟨"HeatShelves$State", "heatOfAll", "()I"⟩, 10) := ⟨⟨by decide +kernel, by decide +kernel⟩, List.mem_of_getElem? (i := 18) (by decide +kernel), List.mem_of_getElem? (i := 463) (by decide +kernel), List.mem_of_getElem? (i := 464) (by decide +kernel)⟩
def lw_privs_3 : List (MethodName × Nat) := [(⟨"HeatShelves$Orders", "readOrder", "()Z"⟩, 7), (⟨"HeatShelves$Orders", "signHere", "()I"⟩, 7), (⟨"HeatShelves$Orders", "isKind", "(I)Z"⟩, 7), (⟨"HeatShelves$Orders", "leastOf", "(I)I"⟩, 7), (⟨"HeatShelves$Orders", "greatestOf", "(I)I"⟩, 7), (⟨"HeatShelves$Orders", "readNumber", "(II)I"⟩, 7), (⟨"HeatShelves$Orders", "digitHere", "()I"⟩, 7), (⟨"HeatShelves", "performInWork", "(I)I"⟩, 7), (⟨"HeatShelves$State", "flipPin", "(I)I"⟩, 10), (⟨"HeatShelves$History", "takeLatest", "(LHeatShelves$State;)Z"⟩, 3), (⟨"HeatShelves$State", "placeOfRank", "(I)I"⟩, 10), (⟨"HeatShelves$State", "countHotter", "(I)I"⟩, 10), (⟨"HeatShelves", "whyItStays", "(I)I"⟩, 7), (⟨"HeatShelves$State", "countOnShelf", "(I)I"⟩, 10), (⟨"HeatShelves$State", "heatOnShelf", "(I)I"⟩, 10), (⟨"HeatShelves$State", "heatOfAll", "()I"⟩, 10)]
theorem lw_r3 : ∀ q ∈ lw_privs_3, lw_okq q := List.forall_mem_cons.mpr ⟨lw_p32, List.forall_mem_cons.mpr ⟨lw_p33, List.forall_mem_cons.mpr ⟨lw_p34, List.forall_mem_cons.mpr ⟨lw_p35, List.forall_mem_cons.mpr ⟨lw_p36, List.forall_mem_cons.mpr ⟨lw_p37, List.forall_mem_cons.mpr ⟨lw_p38, List.forall_mem_cons.mpr ⟨lw_p39, List.forall_mem_cons.mpr ⟨lw_p40, List.forall_mem_cons.mpr ⟨lw_p41, List.forall_mem_cons.mpr ⟨lw_p42, List.forall_mem_cons.mpr ⟨lw_p43, List.forall_mem_cons.mpr ⟨lw_p44, List.forall_mem_cons.mpr ⟨lw_p45, List.forall_mem_cons.mpr ⟨lw_p46, List.forall_mem_cons.mpr ⟨lw_p47, fun _ h => absurd h List.not_mem_nil⟩⟩⟩⟩⟩⟩⟩⟩⟩⟩⟩⟩⟩⟩⟩⟩
theorem lw_p48 : lw_okq (⟨"HeatShelves", "paidForNightsInWork", "()I"⟩, 7) := ⟨⟨by decide +kernel, by decide +kernel⟩, List.mem_of_getElem? (i := 10) (by decide +kernel), List.mem_of_getElem? (i := 472) (by decide +kernel), List.mem_of_getElem? (i := 473) (by decide +kernel)⟩
theorem lw_p49 : lw_okq (⟨"HeatShelves", "paidWithHot", "(II)I"⟩, 7) := ⟨⟨by decide +kernel, by decide +kernel⟩, List.mem_of_getElem? (i := 10) (by decide +kernel), List.mem_of_getElem? (i := 485) (by decide +kernel), List.mem_of_getElem? (i := 486) (by decide +kernel)⟩
theorem lw_p50 : lw_okq (⟨"HeatShelves", "priceOfStay", "(III)I"⟩, 7) := ⟨⟨by decide +kernel, by decide +kernel⟩, List.mem_of_getElem? (i := 10) (by decide +kernel), List.mem_of_getElem? (i := 494) (by decide +kernel), List.mem_of_getElem? (i := 495) (by decide +kernel)⟩
theorem lw_p51 : lw_okq (⟨"HeatShelvesModel", "copies", "()V"⟩, 8) := ⟨⟨by decide +kernel, by decide +kernel⟩, List.mem_of_getElem? (i := 498) (by decide +kernel), List.mem_of_getElem? (i := 536) (by decide +kernel), List.mem_of_getElem? (i := 537) (by decide +kernel)⟩
theorem lw_p52 : lw_okq (⟨"HeatShelvesModel", "adds", "(I)I"⟩, 8) := ⟨⟨by decide +kernel, by decide +kernel⟩, List.mem_of_getElem? (i := 498) (by decide +kernel), List.mem_of_getElem? (i := 540) (by decide +kernel), List.mem_of_getElem? (i := 541) (by decide +kernel)⟩
theorem lw_p53 : lw_okq (⟨"HeatShelvesModel", "hasRoom", "(III)Z"⟩, 8) := ⟨⟨by decide +kernel, by decide +kernel⟩, List.mem_of_getElem? (i := 498) (by decide +kernel), List.mem_of_getElem? (i := 544) (by decide +kernel), List.mem_of_getElem? (i := 545) (by decide +kernel)⟩
theorem lw_p54 : lw_okq (⟨"HeatShelvesModel", "on", "(III)I"⟩, 8) := ⟨⟨by decide +kernel, by decide +kernel⟩, List.mem_of_getElem? (i := 498) (by decide +kernel), List.mem_of_getElem? (i := 548) (by decide +kernel), List.mem_of_getElem? (i := 549) (by decide +kernel)⟩
theorem lw_p55 : lw_okq (⟨"HeatShelvesModel", "changes", "(I)I"⟩, 8) := ⟨⟨by decide +kernel, by decide +kernel⟩, List.mem_of_getElem? (i := 498) (by decide +kernel), List.mem_of_getElem? (i := 555) (by decide +kernel), List.mem_of_getElem? (i := 556) (by decide +kernel)⟩
theorem lw_p56 : lw_okq (⟨"HeatShelvesModel", "lays", "()V"⟩, 8) := ⟨⟨by decide +kernel, by decide +kernel⟩, List.mem_of_getElem? (i := 498) (by decide +kernel), List.mem_of_getElem? (i := 559) (by decide +kernel), List.mem_of_getElem? (i := 560) (by decide +kernel)⟩
theorem lw_p57 : lw_okq (⟨"HeatShelvesModel", "remembers", "()V"⟩, 8) := ⟨⟨by decide +kernel, by decide +kernel⟩, List.mem_of_getElem? (i := 498) (by decide +kernel), List.mem_of_getElem? (i := 563) (by decide +kernel), List.mem_of_getElem? (i := 564) (by decide +kernel)⟩
theorem lw_p58 : lw_okq (⟨"HeatShelvesModel", "removes", "(I)I"⟩, 8) := ⟨⟨by decide +kernel, by decide +kernel⟩, List.mem_of_getElem? (i := 498) (by decide +kernel), List.mem_of_getElem? (i := 571) (by decide +kernel), List.mem_of_getElem? (i := 572) (by decide +kernel)⟩
theorem lw_p59 : lw_okq (⟨"HeatShelvesModel", "placeOf", "(II)I"⟩, 8) := ⟨⟨by decide +kernel, by decide +kernel⟩, List.mem_of_getElem? (i := 498) (by decide +kernel), List.mem_of_getElem? (i := 575) (by decide +kernel), List.mem_of_getElem? (i := 576) (by decide +kernel)⟩
theorem lw_p60 : lw_okq (⟨"HeatShelvesModel", "reads", "(II)I"⟩, 8) := ⟨⟨by decide +kernel, by decide +kernel⟩, List.mem_of_getElem? (i := 498) (by decide +kernel), List.mem_of_getElem? (i := 583) (by decide +kernel), List.mem_of_getElem? (i := 584) (by decide +kernel)⟩
theorem lw_p61 : lw_okq (⟨"HeatShelvesModel", "readsOne", "(I)I"⟩, 8) := ⟨⟨by decide +kernel, by decide +kernel⟩, List.mem_of_getElem? (i := 498) (by decide +kernel), List.mem_of_getElem? (i := 587) (by decide +kernel), List.mem_of_getElem? (i := 588) (by decide +kernel)⟩
theorem lw_p62 : lw_okq (⟨"HeatShelvesModel", "turnsPin", "(I)I"⟩, 8) := ⟨⟨by decide +kernel, by decide +kernel⟩, List.mem_of_getElem? (i := 498) (by decide +kernel), List.mem_of_getElem? (i := 596) (by decide +kernel), List.mem_of_getElem? (i := 597) (by decide +kernel)⟩
theorem lw_p63 : lw_okq (⟨"HeatShelvesModel", "pinned", "(I)I"⟩, 8) := ⟨⟨by decide +kernel, by decide +kernel⟩, List.mem_of_getElem? (i := 498) (by decide +kernel), List.mem_of_getElem? (i := 600) (by decide +kernel), List.mem_of_getElem? (i := 601) (by decide +kernel)⟩
def lw_privs_4 : List (MethodName × Nat) := [(⟨"HeatShelves", "paidForNightsInWork", "()I"⟩, 7), (⟨"HeatShelves", "paidWithHot", "(II)I"⟩, 7), (⟨"HeatShelves", "priceOfStay", "(III)I"⟩, 7), (⟨"HeatShelvesModel", "copies", "()V"⟩, 8), (⟨"HeatShelvesModel", "adds", "(I)I"⟩, 8), (⟨"HeatShelvesModel", "hasRoom", "(III)Z"⟩, 8), (⟨"HeatShelvesModel", "on", "(III)I"⟩, 8), (⟨"HeatShelvesModel", "changes", "(I)I"⟩, 8), (⟨"HeatShelvesModel", "lays", "()V"⟩, 8), (⟨"HeatShelvesModel", "remembers", "()V"⟩, 8), (⟨"HeatShelvesModel", "removes", "(I)I"⟩, 8), (⟨"HeatShelvesModel", "placeOf", "(II)I"⟩, 8), (⟨"HeatShelvesModel", "reads", "(II)I"⟩, 8), (⟨"HeatShelvesModel", "readsOne", "(I)I"⟩, 8), (⟨"HeatShelvesModel", "turnsPin", "(I)I"⟩, 8), (⟨"HeatShelvesModel", "pinned", "(I)I"⟩, 8)]
theorem lw_r4 : ∀ q ∈ lw_privs_4, lw_okq q := List.forall_mem_cons.mpr ⟨lw_p48, List.forall_mem_cons.mpr ⟨lw_p49, List.forall_mem_cons.mpr ⟨lw_p50, List.forall_mem_cons.mpr ⟨lw_p51, List.forall_mem_cons.mpr ⟨lw_p52, List.forall_mem_cons.mpr ⟨lw_p53, List.forall_mem_cons.mpr ⟨lw_p54, List.forall_mem_cons.mpr ⟨lw_p55, List.forall_mem_cons.mpr ⟨lw_p56, List.forall_mem_cons.mpr ⟨lw_p57, List.forall_mem_cons.mpr ⟨lw_p58, List.forall_mem_cons.mpr ⟨lw_p59, List.forall_mem_cons.mpr ⟨lw_p60, List.forall_mem_cons.mpr ⟨lw_p61, List.forall_mem_cons.mpr ⟨lw_p62, List.forall_mem_cons.mpr ⟨lw_p63, fun _ h => absurd h List.not_mem_nil⟩⟩⟩⟩⟩⟩⟩⟩⟩⟩⟩⟩⟩⟩⟩⟩
theorem lw_p64 : lw_okq (⟨"HeatShelvesModel", "passesIn", "(I)I"⟩, 8) := ⟨⟨by decide +kernel, by decide +kernel⟩, List.mem_of_getElem? (i := 498) (by decide +kernel), List.mem_of_getElem? (i := 608) (by decide +kernel), List.mem_of_getElem? (i := 609) (by decide +kernel)⟩
theorem lw_p65 : lw_okq (⟨"HeatShelvesModel", "passes", "(II)I"⟩, 8) := ⟨⟨by decide +kernel, by decide +kernel⟩, List.mem_of_getElem? (i := 498) (by decide +kernel), List.mem_of_getElem? (i := 612) (by decide +kernel), List.mem_of_getElem? (i := 613) (by decide +kernel)⟩
theorem lw_p66 : lw_okq (⟨"HeatShelvesModel", "passesOne", "(I)I"⟩, 8) := ⟨⟨by decide +kernel, by decide +kernel⟩, List.mem_of_getElem? (i := 498) (by decide +kernel), List.mem_of_getElem? (i := 616) (by decide +kernel), List.mem_of_getElem? (i := 617) (by decide +kernel)⟩
theorem lw_p67 : lw_okq (⟨"HeatShelvesModel", "costs", "(II)I"⟩, 8) := ⟨⟨by decide +kernel, by decide +kernel⟩, List.mem_of_getElem? (i := 498) (by decide +kernel), List.mem_of_getElem? (i := 620) (by decide +kernel), List.mem_of_getElem? (i := 621) (by decide +kernel)⟩
theorem lw_p68 : lw_okq (⟨"HeatShelvesModel", "wanted", "(II)I"⟩, 8) := ⟨⟨by decide +kernel, by decide +kernel⟩, List.mem_of_getElem? (i := 498) (by decide +kernel), List.mem_of_getElem? (i := 624) (by decide +kernel), List.mem_of_getElem? (i := 625) (by decide +kernel)⟩
theorem lw_p69 : lw_okq (⟨"HeatShelvesModel", "turns", "(IZI)I"⟩, 8) := ⟨⟨by decide +kernel, by decide +kernel⟩, List.mem_of_getElem? (i := 498) (by decide +kernel), List.mem_of_getElem? (i := 628) (by decide +kernel), List.mem_of_getElem? (i := 629) (by decide +kernel)⟩
theorem lw_p70 : lw_okq (⟨"HeatShelvesModel", "next", "(IZ)I"⟩, 8) := ⟨⟨by decide +kernel, by decide +kernel⟩, List.mem_of_getElem? (i := 498) (by decide +kernel), List.mem_of_getElem? (i := 632) (by decide +kernel), List.mem_of_getElem? (i := 633) (by decide +kernel)⟩
theorem lw_p71 : lw_okq (⟨"HeatShelvesModel", "target", "(II)I"⟩, 8) := ⟨⟨by decide +kernel, by decide +kernel⟩, List.mem_of_getElem? (i := 498) (by decide +kernel), List.mem_of_getElem? (i := 636) (by decide +kernel), List.mem_of_getElem? (i := 637) (by decide +kernel)⟩
theorem lw_p72 : lw_okq (⟨"HeatShelvesModel", "fault", "()I"⟩, 8) := ⟨⟨by decide +kernel, by decide +kernel⟩, List.mem_of_getElem? (i := 498) (by decide +kernel), List.mem_of_getElem? (i := 659) (by decide +kernel), List.mem_of_getElem? (i := 660) (by decide +kernel)⟩
theorem lw_p73 : lw_okq (⟨"HeatShelvesModel", "orderEnd", "(I)I"⟩, 8) := ⟨⟨by decide +kernel, by decide +kernel⟩, List.mem_of_getElem? (i := 498) (by decide +kernel), List.mem_of_getElem? (i := 663) (by decide +kernel), List.mem_of_getElem? (i := 664) (by decide +kernel)⟩
theorem lw_p74 : lw_okq (⟨"HeatShelvesModel", "sign", "(I)I"⟩, 8) := ⟨⟨by decide +kernel, by decide +kernel⟩, List.mem_of_getElem? (i := 498) (by decide +kernel), List.mem_of_getElem? (i := 667) (by decide +kernel), List.mem_of_getElem? (i := 668) (by decide +kernel)⟩
theorem lw_p75 : lw_okq (⟨"HeatShelvesModel", "numberEnd", "(III)I"⟩, 8) := ⟨⟨by decide +kernel, by decide +kernel⟩, List.mem_of_getElem? (i := 498) (by decide +kernel), List.mem_of_getElem? (i := 671) (by decide +kernel), List.mem_of_getElem? (i := 672) (by decide +kernel)⟩
theorem lw_p76 : lw_okq (⟨"HeatShelvesModel", "digit", "(I)I"⟩, 8) := ⟨⟨by decide +kernel, by decide +kernel⟩, List.mem_of_getElem? (i := 498) (by decide +kernel), List.mem_of_getElem? (i := 675) (by decide +kernel), List.mem_of_getElem? (i := 676) (by decide +kernel)⟩
theorem lw_p77 : lw_okq (⟨"HeatShelvesModel", "does", "(I)I"⟩, 8) := ⟨⟨by decide +kernel, by decide +kernel⟩, List.mem_of_getElem? (i := 498) (by decide +kernel), List.mem_of_getElem? (i := 679) (by decide +kernel), List.mem_of_getElem? (i := 680) (by decide +kernel)⟩
theorem lw_p78 : lw_okq (⟨"HeatShelvesModel", "numberAt", "(I)I"⟩, 8) := ⟨⟨by decide +kernel, by decide +kernel⟩, List.mem_of_getElem? (i := 498) (by decide +kernel), List.mem_of_getElem? (i := 683) (by decide +kernel), List.mem_of_getElem? (i := 684) (by decide +kernel)⟩
theorem lw_p79 : lw_okq (⟨"HeatShelvesModel", "whyStays", "(I)I"⟩, 8) := ⟨⟨by decide +kernel, by decide +kernel⟩, List.mem_of_getElem? (i := 498) (by decide +kernel), List.mem_of_getElem? (i := 707) (by decide +kernel), List.mem_of_getElem? (i := 708) (by decide +kernel)⟩
def lw_privs_5 : List (MethodName × Nat) := [(⟨"HeatShelvesModel", "passesIn", "(I)I"⟩, 8), (⟨"HeatShelvesModel", "passes", "(II)I"⟩, 8), (⟨"HeatShelvesModel", "passesOne", "(I)I"⟩, 8), (⟨"HeatShelvesModel", "costs", "(II)I"⟩, 8), (⟨"HeatShelvesModel", "wanted", "(II)I"⟩, 8), (⟨"HeatShelvesModel", "turns", "(IZI)I"⟩, 8), (⟨"HeatShelvesModel", "next", "(IZ)I"⟩, 8), (⟨"HeatShelvesModel", "target", "(II)I"⟩, 8), (⟨"HeatShelvesModel", "fault", "()I"⟩, 8), (⟨"HeatShelvesModel", "orderEnd", "(I)I"⟩, 8), (⟨"HeatShelvesModel", "sign", "(I)I"⟩, 8), (⟨"HeatShelvesModel", "numberEnd", "(III)I"⟩, 8), (⟨"HeatShelvesModel", "digit", "(I)I"⟩, 8), (⟨"HeatShelvesModel", "does", "(I)I"⟩, 8), (⟨"HeatShelvesModel", "numberAt", "(I)I"⟩, 8), (⟨"HeatShelvesModel", "whyStays", "(I)I"⟩, 8)]
theorem lw_r5 : ∀ q ∈ lw_privs_5, lw_okq q := List.forall_mem_cons.mpr ⟨lw_p64, List.forall_mem_cons.mpr ⟨lw_p65, List.forall_mem_cons.mpr ⟨lw_p66, List.forall_mem_cons.mpr ⟨lw_p67, List.forall_mem_cons.mpr ⟨lw_p68, List.forall_mem_cons.mpr ⟨lw_p69, List.forall_mem_cons.mpr ⟨lw_p70, List.forall_mem_cons.mpr ⟨lw_p71, List.forall_mem_cons.mpr ⟨lw_p72, List.forall_mem_cons.mpr ⟨lw_p73, List.forall_mem_cons.mpr ⟨lw_p74, List.forall_mem_cons.mpr ⟨lw_p75, List.forall_mem_cons.mpr ⟨lw_p76, List.forall_mem_cons.mpr ⟨lw_p77, List.forall_mem_cons.mpr ⟨lw_p78, List.forall_mem_cons.mpr ⟨lw_p79, fun _ h => absurd h List.not_mem_nil⟩⟩⟩⟩⟩⟩⟩⟩⟩⟩⟩⟩⟩⟩⟩⟩
theorem lw_p80 : lw_okq (⟨"HeatShelvesModel", "heat", "(I)I"⟩, 8) := ⟨⟨by decide +kernel, by decide +kernel⟩, List.mem_of_getElem? (i := 498) (by decide +kernel), List.mem_of_getElem? (i := 719) (by decide +kernel), List.mem_of_getElem? (i := 720) (by decide +kernel)⟩
def lw_privs_6 : List (MethodName × Nat) := [(⟨"HeatShelvesModel", "heat", "(I)I"⟩, 8)]
theorem lw_r6 : ∀ q ∈ lw_privs_6, lw_okq q := List.forall_mem_cons.mpr ⟨lw_p80, fun _ h => absurd h List.not_mem_nil⟩
def lw_privs : List (MethodName × Nat) := lw_privs_1 ++ (lw_privs_2 ++ (lw_privs_3 ++ (lw_privs_4 ++ (lw_privs_5 ++ (lw_privs_6)))))
def lw_tbl : List Cond := k2_sels lw_privs ++ tables_1
theorem lw_privs_ok : ∀ q ∈ lw_privs, lw_okq q := by
  show ∀ q ∈ lw_privs_1 ++ (lw_privs_2 ++ (lw_privs_3 ++ (lw_privs_4 ++ (lw_privs_5 ++ (lw_privs_6))))), lw_okq q
  exact List.forall_mem_append.mpr ⟨lw_r1, List.forall_mem_append.mpr ⟨lw_r2, List.forall_mem_append.mpr ⟨lw_r3, List.forall_mem_append.mpr ⟨lw_r4, List.forall_mem_append.mpr ⟨lw_r5, lw_r6⟩⟩⟩⟩⟩
-- ===== end of PART A; then your names; then what follows =====
/-! ===== BEGIN words of one list among another's, by their places ===== -/
theorem goodIn_r {big : List Cond} (ws : List Cond) (ps : List Nat) (hp : ws = ps.filterMap (fun i => big[i]?)) (h : ws.all goodWord = true) : GoodIn big ws := by
  intro w hw
  have h1 := List.all_eq_true.mp h w hw
  rw [hp] at hw
  obtain ⟨i, -, hi⟩ := List.mem_filterMap.mp hw
  have hm : w ∈ big := by first | exact List.mem_of_getElem? hi | exact List.getElem?_mem hi
  exact ⟨hm, good_of_word h1⟩
theorem goodIn_app {big a b : List Cond} (ha : GoodIn big a) (hb : GoodIn big b) : GoodIn big (a ++ b) := fun w h => (List.mem_append.mp h).elim (ha w) (hb w)
theorem goodIn_ca {big a b : List Cond} {c : Cond} (ha : GoodIn big (c :: a)) (hb : GoodIn big b) : GoodIn big (c :: (a ++ b)) := fun w h => (List.mem_cons.mp h).elim (fun e => ha w (List.mem_cons.mpr (Or.inl e))) (fun h => (List.mem_append.mp h).elim (fun h => ha w (List.mem_cons.mpr (Or.inr h))) (hb w))
theorem goodIn_sub {big ws : List Cond} (hm : ∀ w ∈ ws, w ∈ big) (h : ws.all goodWord = true) : GoodIn big ws := fun w hw => ⟨hm w hw, good_of_word (List.all_eq_true.mp h w hw)⟩
/-! ===== END ===== -/

/-! ===== BEGIN printed: names, fields, word lists, decode rows ===== -/
def RX0 : String := "HeatShelves$History"
def TX0 : u_T := fun k => match k with
  | 0 => ("HeatShelves$History", "states", "[LHeatShelves$State;", true)
  | 1 => ("HeatShelves$History", "first", "I", false)
  | _ => ("HeatShelves$History", "count", "I", false)
def tyX0 : Nat → FieldType := fun k => match k with
  | 0 => .array (.object "HeatShelves$State")
  | 1 => .int
  | _ => .int
abbrev wsX00 : List Cond := u_ws RX0 TX0 3
theorem nmX0 : ∀ a, a < 3 → ∀ b, b < 3 → a ≠ b → (TX0 a).2.1 ≠ (TX0 b).2.1 := by decide +kernel
theorem tyX0_ok : ∀ k, k < 3 → parseFieldDescriptor (TX0 k).2.2.1 = some (tyX0 k) := by decide +kernel
abbrev cX0_init : ByteArray := prog_2_method_1_code
def yX0_init : MethodName := ⟨RX0, "<init>", "()V"⟩
abbrev cX0_stateAt : ByteArray := prog_2_method_2_code
def yX0_stateAt : MethodName := ⟨RX0, "stateAt", "(I)LHeatShelves$State;"⟩
abbrev cX0_record : ByteArray := prog_2_method_3_code
def yX0_record : MethodName := ⟨RX0, "record", "(LHeatShelves$State;)V"⟩
abbrev cX0_takeLatest : ByteArray := prog_2_method_4_code
def yX0_takeLatest : MethodName := ⟨RX0, "takeLatest", "(LHeatShelves$State;)Z"⟩
def RX1 : String := "HeatShelves$Night"
def TX1 : u_T := fun k => match k with
  | 0 => ("HeatShelves$Night", "wanted", "[I", true)
  | _ => ("HeatShelves$Night", "reasons", "[I", true)
def tyX1 : Nat → FieldType := fun k => match k with
  | 0 => .array .int
  | _ => .array .int
abbrev wsX10 : List Cond := u_ws RX1 TX1 2
theorem nmX1 : ∀ a, a < 2 → ∀ b, b < 2 → a ≠ b → (TX1 a).2.1 ≠ (TX1 b).2.1 := by decide +kernel
theorem tyX1_ok : ∀ k, k < 2 → parseFieldDescriptor (TX1 k).2.2.1 = some (tyX1 k) := by decide +kernel
abbrev cX1_init : ByteArray := prog_3_method_1_code
def yX1_init : MethodName := ⟨RX1, "<init>", "()V"⟩
abbrev cX1_letPass : ByteArray := prog_3_method_2_code
def yX1_letPass : MethodName := ⟨RX1, "letPass", "(LHeatShelves$State;I)I"⟩
abbrev cX1_findWhoMayMove : ByteArray := prog_3_method_3_code
def yX1_findWhoMayMove : MethodName := ⟨RX1, "findWhoMayMove", "(LHeatShelves$State;)V"⟩
abbrev cX1_moveInTurn : ByteArray := prog_3_method_4_code
def yX1_moveInTurn : MethodName := ⟨RX1, "moveInTurn", "(LHeatShelves$State;ZI)I"⟩
abbrev cX1_nextInTurn : ByteArray := prog_3_method_5_code
def yX1_nextInTurn : MethodName := ⟨RX1, "nextInTurn", "(LHeatShelves$State;Z)I"⟩
abbrev cX1_shelfToMoveTo : ByteArray := prog_3_method_6_code
def yX1_shelfToMoveTo : MethodName := ⟨RX1, "shelfToMoveTo", "(LHeatShelves$State;I)I"⟩
abbrev cX1_promiseIfDeep : ByteArray := prog_3_method_7_code
def yX1_promiseIfDeep : MethodName := ⟨RX1, "promiseIfDeep", "(LHeatShelves$State;I)V"⟩
def RX2 : String := "HeatShelves$Orders"
def TX2 : u_T := fun k => match k with
  | 0 => ("HeatShelves$Orders", "signs", "[I", true)
  | 1 => ("HeatShelves$Orders", "length", "I", false)
  | 2 => ("HeatShelves$Orders", "kinds", "[I", true)
  | 3 => ("HeatShelves$Orders", "values", "[I", true)
  | 4 => ("HeatShelves$Orders", "times", "[I", true)
  | 5 => ("HeatShelves$Orders", "count", "I", false)
  | _ => ("HeatShelves$Orders", "place", "I", false)
def tyX2 : Nat → FieldType := fun k => match k with
  | 0 => .array .int
  | 1 => .int
  | 2 => .array .int
  | 3 => .array .int
  | 4 => .array .int
  | 5 => .int
  | _ => .int
abbrev wsX20 : List Cond := u_ws RX2 TX2 7
theorem nmX2 : ∀ a, a < 7 → ∀ b, b < 7 → a ≠ b → (TX2 a).2.1 ≠ (TX2 b).2.1 := by decide +kernel
theorem tyX2_ok : ∀ k, k < 7 → parseFieldDescriptor (TX2 k).2.2.1 = some (tyX2 k) := by decide +kernel
abbrev cX2_init : ByteArray := prog_4_method_1_code
def yX2_init : MethodName := ⟨RX2, "<init>", "()V"⟩
abbrev cX2_append : ByteArray := prog_4_method_2_code
def yX2_append : MethodName := ⟨RX2, "append", "(C)I"⟩
abbrev cX2_empty : ByteArray := prog_4_method_3_code
def yX2_empty : MethodName := ⟨RX2, "empty", "()I"⟩
abbrev cX2_readAll : ByteArray := prog_4_method_4_code
def yX2_readAll : MethodName := ⟨RX2, "readAll", "()I"⟩
abbrev cX2_readOrder : ByteArray := prog_4_method_5_code
def yX2_readOrder : MethodName := ⟨RX2, "readOrder", "()Z"⟩
abbrev cX2_isKind : ByteArray := prog_4_method_6_code
def yX2_isKind : MethodName := ⟨RX2, "isKind", "(I)Z"⟩
abbrev cX2_leastOf : ByteArray := prog_4_method_7_code
def yX2_leastOf : MethodName := ⟨RX2, "leastOf", "(I)I"⟩
abbrev cX2_greatestOf : ByteArray := prog_4_method_8_code
def yX2_greatestOf : MethodName := ⟨RX2, "greatestOf", "(I)I"⟩
abbrev cX2_readNumber : ByteArray := prog_4_method_9_code
def yX2_readNumber : MethodName := ⟨RX2, "readNumber", "(II)I"⟩
abbrev cX2_digitHere : ByteArray := prog_4_method_10_code
def yX2_digitHere : MethodName := ⟨RX2, "digitHere", "()I"⟩
abbrev cX2_signHere : ByteArray := prog_4_method_11_code
def yX2_signHere : MethodName := ⟨RX2, "signHere", "()I"⟩
def RX3 : String := "HeatShelves$State"
def TX3 : u_T := fun k => match k with
  | 0 => ("HeatShelves$State", "numbers", "[I", true)
  | 1 => ("HeatShelves$State", "taken", "[I", true)
  | 2 => ("HeatShelves$State", "names", "[I", true)
  | 3 => ("HeatShelves$State", "sizes", "[I", true)
  | 4 => ("HeatShelves$State", "heats", "[I", true)
  | 5 => ("HeatShelves$State", "shelves", "[I", true)
  | 6 => ("HeatShelves$State", "pins", "[I", true)
  | 7 => ("HeatShelves$State", "promises", "[I", true)
  | 8 => ("HeatShelves$State", "readings", "[I", true)
  | _ => ("HeatShelves$State", "moves", "[I", true)
def tyX3 : Nat → FieldType := fun k => match k with
  | 0 => .array .int
  | 1 => .array .int
  | 2 => .array .int
  | 3 => .array .int
  | 4 => .array .int
  | 5 => .array .int
  | 6 => .array .int
  | 7 => .array .int
  | 8 => .array .int
  | _ => .array .int
abbrev wsX30 : List Cond := u_ws RX3 TX3 10
theorem nmX3 : ∀ a, a < 10 → ∀ b, b < 10 → a ≠ b → (TX3 a).2.1 ≠ (TX3 b).2.1 := by decide +kernel
theorem tyX3_ok : ∀ k, k < 10 → parseFieldDescriptor (TX3 k).2.2.1 = some (tyX3 k) := by decide +kernel
abbrev cX3_init : ByteArray := prog_5_method_1_code
def yX3_init : MethodName := ⟨RX3, "<init>", "()V"⟩
abbrev cX3_copyFrom : ByteArray := prog_5_method_2_code
def yX3_copyFrom : MethodName := ⟨RX3, "copyFrom", "(LHeatShelves$State;)V"⟩
abbrev cX3_countBlocks : ByteArray := prog_5_method_3_code
def yX3_countBlocks : MethodName := ⟨RX3, "countBlocks", "()I"⟩
abbrev cX3_find : ByteArray := prog_5_method_4_code
def yX3_find : MethodName := ⟨RX3, "find", "(I)I"⟩
abbrev cX3_placeOfRank : ByteArray := prog_5_method_5_code
def yX3_placeOfRank : MethodName := ⟨RX3, "placeOfRank", "(I)I"⟩
abbrev cX3_countHotter : ByteArray := prog_5_method_6_code
def yX3_countHotter : MethodName := ⟨RX3, "countHotter", "(I)I"⟩
abbrev cX3_wantedShelf : ByteArray := prog_5_method_7_code
def yX3_wantedShelf : MethodName := ⟨RX3, "wantedShelf", "(I)I"⟩
abbrev cX3_hasRoom : ByteArray := prog_5_method_8_code
def yX3_hasRoom : MethodName := ⟨RX3, "hasRoom", "(II)Z"⟩
abbrev cX3_countOnShelf : ByteArray := prog_5_method_9_code
def yX3_countOnShelf : MethodName := ⟨RX3, "countOnShelf", "(I)I"⟩
abbrev cX3_heatOnShelf : ByteArray := prog_5_method_10_code
def yX3_heatOnShelf : MethodName := ⟨RX3, "heatOnShelf", "(I)I"⟩
abbrev cX3_heatOfAll : ByteArray := prog_5_method_11_code
def yX3_heatOfAll : MethodName := ⟨RX3, "heatOfAll", "()I"⟩
abbrev cX3_nightPriceOfShelf : ByteArray := prog_5_method_12_code
def yX3_nightPriceOfShelf : MethodName := ⟨RX3, "nightPriceOfShelf", "(I)I"⟩
abbrev cX3_countPinned : ByteArray := prog_5_method_13_code
def yX3_countPinned : MethodName := ⟨RX3, "countPinned", "()I"⟩
abbrev cX3_addBlock : ByteArray := prog_5_method_14_code
def yX3_addBlock : MethodName := ⟨RX3, "addBlock", "(I)I"⟩
abbrev cX3_fastestWithRoom : ByteArray := prog_5_method_15_code
def yX3_fastestWithRoom : MethodName := ⟨RX3, "fastestWithRoom", "(I)I"⟩
abbrev cX3_dropBlock : ByteArray := prog_5_method_16_code
def yX3_dropBlock : MethodName := ⟨RX3, "dropBlock", "(I)I"⟩
abbrev cX3_readBlock : ByteArray := prog_5_method_17_code
def yX3_readBlock : MethodName := ⟨RX3, "readBlock", "(II)I"⟩
abbrev cX3_readOnce : ByteArray := prog_5_method_18_code
def yX3_readOnce : MethodName := ⟨RX3, "readOnce", "(I)I"⟩
abbrev cX3_askBack : ByteArray := prog_5_method_19_code
def yX3_askBack : MethodName := ⟨RX3, "askBack", "(I)I"⟩
abbrev cX3_moveTo : ByteArray := prog_5_method_20_code
def yX3_moveTo : MethodName := ⟨RX3, "moveTo", "(II)V"⟩
abbrev cX3_payNight : ByteArray := prog_5_method_21_code
def yX3_payNight : MethodName := ⟨RX3, "payNight", "()V"⟩
abbrev cX3_fade : ByteArray := prog_5_method_22_code
def yX3_fade : MethodName := ⟨RX3, "fade", "()V"⟩
abbrev cX3_turnPin : ByteArray := prog_5_method_23_code
def yX3_turnPin : MethodName := ⟨RX3, "turnPin", "(IZ)I"⟩
abbrev cX3_flipPin : ByteArray := prog_5_method_24_code
def yX3_flipPin : MethodName := ⟨RX3, "flipPin", "(I)I"⟩
abbrev cX3_changeSetting : ByteArray := prog_5_method_25_code
def yX3_changeSetting : MethodName := ⟨RX3, "changeSetting", "(II)I"⟩
abbrev cX3_allowsSetting : ByteArray := prog_5_method_26_code
def yX3_allowsSetting : MethodName := ⟨RX3, "allowsSetting", "(II)Z"⟩
def RX4 : String := "HeatShelves"
def TX4 : u_T := fun k => match k with
  | 0 => ("HeatShelves", "state", "LHeatShelves$State;", true)
  | 1 => ("HeatShelves", "work", "LHeatShelves$State;", true)
  | 2 => ("HeatShelves", "snapshot", "LHeatShelves$State;", true)
  | 3 => ("HeatShelves", "hasSnapshot", "Z", false)
  | 4 => ("HeatShelves", "history", "LHeatShelves$History;", true)
  | 5 => ("HeatShelves", "night", "LHeatShelves$Night;", true)
  | _ => ("HeatShelves", "orders", "LHeatShelves$Orders;", true)
def tyX4 : Nat → FieldType := fun k => match k with
  | 0 => .object "HeatShelves$State"
  | 1 => .object "HeatShelves$State"
  | 2 => .object "HeatShelves$State"
  | 3 => .boolean
  | 4 => .object "HeatShelves$History"
  | 5 => .object "HeatShelves$Night"
  | _ => .object "HeatShelves$Orders"
abbrev wsX40 : List Cond := u_ws RX4 TX4 7
theorem nmX4 : ∀ a, a < 7 → ∀ b, b < 7 → a ≠ b → (TX4 a).2.1 ≠ (TX4 b).2.1 := by decide +kernel
theorem tyX4_ok : ∀ k, k < 7 → parseFieldDescriptor (TX4 k).2.2.1 = some (tyX4 k) := by decide +kernel
abbrev cX4_init : ByteArray := prog_1_method_1_code
def yX4_init : MethodName := ⟨RX4, "<init>", "()V"⟩
abbrev cX4_add : ByteArray := prog_1_method_2_code
def yX4_add : MethodName := ⟨RX4, "add", "(I)I"⟩
abbrev cX4_remove : ByteArray := prog_1_method_3_code
def yX4_remove : MethodName := ⟨RX4, "remove", "(I)I"⟩
abbrev cX4_read : ByteArray := prog_1_method_4_code
def yX4_read : MethodName := ⟨RX4, "read", "(II)I"⟩
abbrev cX4_pin : ByteArray := prog_1_method_5_code
def yX4_pin : MethodName := ⟨RX4, "pin", "(IZ)I"⟩
abbrev cX4_pass : ByteArray := prog_1_method_6_code
def yX4_pass : MethodName := ⟨RX4, "pass", "(I)I"⟩
abbrev cX4_set : ByteArray := prog_1_method_7_code
def yX4_set : MethodName := ⟨RX4, "set", "(II)I"⟩
abbrev cX4_type : ByteArray := prog_1_method_8_code
def yX4_type : MethodName := ⟨RX4, "type", "(C)I"⟩
abbrev cX4_clearText : ByteArray := prog_1_method_9_code
def yX4_clearText : MethodName := ⟨RX4, "clearText", "()I"⟩
abbrev cX4_perform : ByteArray := prog_1_method_10_code
def yX4_perform : MethodName := ⟨RX4, "perform", "()I"⟩
abbrev cX4_undo : ByteArray := prog_1_method_11_code
def yX4_undo : MethodName := ⟨RX4, "undo", "()I"⟩
abbrev cX4_keep : ByteArray := prog_1_method_12_code
def yX4_keep : MethodName := ⟨RX4, "keep", "()I"⟩
abbrev cX4_restore : ByteArray := prog_1_method_13_code
def yX4_restore : MethodName := ⟨RX4, "restore", "()I"⟩
abbrev cX4_block : ByteArray := prog_1_method_14_code
def yX4_block : MethodName := ⟨RX4, "block", "(I)I"⟩
abbrev cX4_ofBlock : ByteArray := prog_1_method_15_code
def yX4_ofBlock : MethodName := ⟨RX4, "ofBlock", "(II)I"⟩
abbrev cX4_shelf : ByteArray := prog_1_method_16_code
def yX4_shelf : MethodName := ⟨RX4, "shelf", "(II)I"⟩
abbrev cX4_total : ByteArray := prog_1_method_17_code
def yX4_total : MethodName := ⟨RX4, "total", "(I)I"⟩
abbrev cX4_ifPassed : ByteArray := prog_1_method_18_code
def yX4_ifPassed : MethodName := ⟨RX4, "ifPassed", "(II)I"⟩
abbrev cX4_nextMove : ByteArray := prog_1_method_19_code
def yX4_nextMove : MethodName := ⟨RX4, "nextMove", "()I"⟩
abbrev cX4_bestHot : ByteArray := prog_1_method_20_code
def yX4_bestHot : MethodName := ⟨RX4, "bestHot", "(II)I"⟩
abbrev cX4_cheapest : ByteArray := prog_1_method_21_code
def yX4_cheapest : MethodName := ⟨RX4, "cheapest", "(II)I"⟩
abbrev cX4_settle : ByteArray := prog_1_method_22_code
def yX4_settle : MethodName := ⟨RX4, "settle", "(I)I"⟩
abbrev cX4_passInWork : ByteArray := prog_1_method_23_code
def yX4_passInWork : MethodName := ⟨RX4, "passInWork", "(I)I"⟩
abbrev cX4_performInWork : ByteArray := prog_1_method_24_code
def yX4_performInWork : MethodName := ⟨RX4, "performInWork", "(I)I"⟩
abbrev cX4_whyItStays : ByteArray := prog_1_method_25_code
def yX4_whyItStays : MethodName := ⟨RX4, "whyItStays", "(I)I"⟩
abbrev cX4_paidForNightsInWork : ByteArray := prog_1_method_26_code
def yX4_paidForNightsInWork : MethodName := ⟨RX4, "paidForNightsInWork", "()I"⟩
abbrev cX4_paidWithHot : ByteArray := prog_1_method_27_code
def yX4_paidWithHot : MethodName := ⟨RX4, "paidWithHot", "(II)I"⟩
abbrev cX4_priceOfStay : ByteArray := prog_1_method_28_code
def yX4_priceOfStay : MethodName := ⟨RX4, "priceOfStay", "(III)I"⟩
abbrev cX4_at : ByteArray := prog_1_method_29_code
def yX4_at : MethodName := ⟨RX4, "at", "([II)I"⟩
abbrev cX4_put : ByteArray := prog_1_method_30_code
def yX4_put : MethodName := ⟨RX4, "put", "([III)V"⟩
abbrev cX4_raise : ByteArray := prog_1_method_31_code
def yX4_raise : MethodName := ⟨RX4, "raise", "([III)V"⟩
abbrev cX4_copyRow : ByteArray := prog_1_method_32_code
def yX4_copyRow : MethodName := ⟨RX4, "copyRow", "([I[I)V"⟩
abbrev cX4_closeGap : ByteArray := prog_1_method_33_code
def yX4_closeGap : MethodName := ⟨RX4, "closeGap", "([II)V"⟩
def RX5 : String := "HeatShelvesModel"
def TX5 : u_T := fun k => match k with
  | 0 => ("HeatShelvesModel", "s", "[I", true)
  | 1 => ("HeatShelvesModel", "past", "[I", true)
  | 2 => ("HeatShelvesModel", "known", "I", false)
  | 3 => ("HeatShelvesModel", "snap", "[I", true)
  | 4 => ("HeatShelvesModel", "isKept", "Z", false)
  | 5 => ("HeatShelvesModel", "text", "[I", true)
  | 6 => ("HeatShelvesModel", "length", "I", false)
  | _ => ("HeatShelvesModel", "why", "[I", true)
def tyX5 : Nat → FieldType := fun k => match k with
  | 0 => .array .int
  | 1 => .array .int
  | 2 => .int
  | 3 => .array .int
  | 4 => .boolean
  | 5 => .array .int
  | 6 => .int
  | _ => .array .int
abbrev wsX50 : List Cond := u_ws RX5 TX5 8
theorem nmX5 : ∀ a, a < 8 → ∀ b, b < 8 → a ≠ b → (TX5 a).2.1 ≠ (TX5 b).2.1 := by decide +kernel
theorem tyX5_ok : ∀ k, k < 8 → parseFieldDescriptor (TX5 k).2.2.1 = some (tyX5 k) := by decide +kernel
abbrev cX5_init : ByteArray := prog_7_method_1_code
def yX5_init : MethodName := ⟨RX5, "<init>", "()V"⟩
abbrev cX5_in : ByteArray := prog_7_method_3_code
def yX5_in : MethodName := ⟨RX5, "in", "(III)Z"⟩
abbrev cX5_copies : ByteArray := prog_7_method_4_code
def yX5_copies : MethodName := ⟨RX5, "copies", "()V"⟩
abbrev cX5_remembers : ByteArray := prog_7_method_5_code
def yX5_remembers : MethodName := ⟨RX5, "remembers", "()V"⟩
abbrev cX5_lays : ByteArray := prog_7_method_6_code
def yX5_lays : MethodName := ⟨RX5, "lays", "()V"⟩
abbrev cX5_at : ByteArray := prog_7_method_7_code
def yX5_at : MethodName := ⟨RX5, "at", "(II)I"⟩
abbrev cX5_placeOf : ByteArray := prog_7_method_8_code
def yX5_placeOf : MethodName := ⟨RX5, "placeOf", "(II)I"⟩
abbrev cX5_on : ByteArray := prog_7_method_9_code
def yX5_on : MethodName := ⟨RX5, "on", "(III)I"⟩
abbrev cX5_hasRoom : ByteArray := prog_7_method_10_code
def yX5_hasRoom : MethodName := ⟨RX5, "hasRoom", "(III)Z"⟩
abbrev cX5_wanted : ByteArray := prog_7_method_11_code
def yX5_wanted : MethodName := ⟨RX5, "wanted", "(II)I"⟩
abbrev cX5_target : ByteArray := prog_7_method_12_code
def yX5_target : MethodName := ⟨RX5, "target", "(II)I"⟩
abbrev cX5_next : ByteArray := prog_7_method_13_code
def yX5_next : MethodName := ⟨RX5, "next", "(IZ)I"⟩
abbrev cX5_turns : ByteArray := prog_7_method_14_code
def yX5_turns : MethodName := ⟨RX5, "turns", "(IZI)I"⟩
abbrev cX5_costs : ByteArray := prog_7_method_15_code
def yX5_costs : MethodName := ⟨RX5, "costs", "(II)I"⟩
abbrev cX5_passesOne : ByteArray := prog_7_method_16_code
def yX5_passesOne : MethodName := ⟨RX5, "passesOne", "(I)I"⟩
abbrev cX5_passes : ByteArray := prog_7_method_17_code
def yX5_passes : MethodName := ⟨RX5, "passes", "(II)I"⟩
abbrev cX5_adds : ByteArray := prog_7_method_18_code
def yX5_adds : MethodName := ⟨RX5, "adds", "(I)I"⟩
abbrev cX5_removes : ByteArray := prog_7_method_19_code
def yX5_removes : MethodName := ⟨RX5, "removes", "(I)I"⟩
abbrev cX5_readsOne : ByteArray := prog_7_method_20_code
def yX5_readsOne : MethodName := ⟨RX5, "readsOne", "(I)I"⟩
abbrev cX5_reads : ByteArray := prog_7_method_21_code
def yX5_reads : MethodName := ⟨RX5, "reads", "(II)I"⟩
abbrev cX5_pinned : ByteArray := prog_7_method_22_code
def yX5_pinned : MethodName := ⟨RX5, "pinned", "(I)I"⟩
abbrev cX5_turnsPin : ByteArray := prog_7_method_23_code
def yX5_turnsPin : MethodName := ⟨RX5, "turnsPin", "(I)I"⟩
abbrev cX5_passesIn : ByteArray := prog_7_method_24_code
def yX5_passesIn : MethodName := ⟨RX5, "passesIn", "(I)I"⟩
abbrev cX5_changes : ByteArray := prog_7_method_25_code
def yX5_changes : MethodName := ⟨RX5, "changes", "(I)I"⟩
abbrev cX5_add : ByteArray := prog_7_method_26_code
def yX5_add : MethodName := ⟨RX5, "add", "(I)I"⟩
abbrev cX5_remove : ByteArray := prog_7_method_27_code
def yX5_remove : MethodName := ⟨RX5, "remove", "(I)I"⟩
abbrev cX5_read : ByteArray := prog_7_method_28_code
def yX5_read : MethodName := ⟨RX5, "read", "(II)I"⟩
abbrev cX5_pin : ByteArray := prog_7_method_29_code
def yX5_pin : MethodName := ⟨RX5, "pin", "(IZ)I"⟩
abbrev cX5_pass : ByteArray := prog_7_method_30_code
def yX5_pass : MethodName := ⟨RX5, "pass", "(I)I"⟩
abbrev cX5_mostOf : ByteArray := prog_7_method_31_code
def yX5_mostOf : MethodName := ⟨RX5, "mostOf", "(I)I"⟩
abbrev cX5_set : ByteArray := prog_7_method_32_code
def yX5_set : MethodName := ⟨RX5, "set", "(II)I"⟩
abbrev cX5_type : ByteArray := prog_7_method_33_code
def yX5_type : MethodName := ⟨RX5, "type", "(C)I"⟩
abbrev cX5_clearText : ByteArray := prog_7_method_34_code
def yX5_clearText : MethodName := ⟨RX5, "clearText", "()I"⟩
abbrev cX5_sign : ByteArray := prog_7_method_35_code
def yX5_sign : MethodName := ⟨RX5, "sign", "(I)I"⟩
abbrev cX5_digit : ByteArray := prog_7_method_36_code
def yX5_digit : MethodName := ⟨RX5, "digit", "(I)I"⟩
abbrev cX5_numberEnd : ByteArray := prog_7_method_37_code
def yX5_numberEnd : MethodName := ⟨RX5, "numberEnd", "(III)I"⟩
abbrev cX5_numberAt : ByteArray := prog_7_method_38_code
def yX5_numberAt : MethodName := ⟨RX5, "numberAt", "(I)I"⟩
abbrev cX5_orderEnd : ByteArray := prog_7_method_39_code
def yX5_orderEnd : MethodName := ⟨RX5, "orderEnd", "(I)I"⟩
abbrev cX5_fault : ByteArray := prog_7_method_40_code
def yX5_fault : MethodName := ⟨RX5, "fault", "()I"⟩
abbrev cX5_does : ByteArray := prog_7_method_41_code
def yX5_does : MethodName := ⟨RX5, "does", "(I)I"⟩
abbrev cX5_perform : ByteArray := prog_7_method_42_code
def yX5_perform : MethodName := ⟨RX5, "perform", "()I"⟩
abbrev cX5_undo : ByteArray := prog_7_method_43_code
def yX5_undo : MethodName := ⟨RX5, "undo", "()I"⟩
abbrev cX5_keep : ByteArray := prog_7_method_44_code
def yX5_keep : MethodName := ⟨RX5, "keep", "()I"⟩
abbrev cX5_restore : ByteArray := prog_7_method_45_code
def yX5_restore : MethodName := ⟨RX5, "restore", "()I"⟩
abbrev cX5_block : ByteArray := prog_7_method_46_code
def yX5_block : MethodName := ⟨RX5, "block", "(I)I"⟩
abbrev cX5_whyStays : ByteArray := prog_7_method_47_code
def yX5_whyStays : MethodName := ⟨RX5, "whyStays", "(I)I"⟩
abbrev cX5_ofBlock : ByteArray := prog_7_method_48_code
def yX5_ofBlock : MethodName := ⟨RX5, "ofBlock", "(II)I"⟩
abbrev cX5_shelf : ByteArray := prog_7_method_49_code
def yX5_shelf : MethodName := ⟨RX5, "shelf", "(II)I"⟩
abbrev cX5_heat : ByteArray := prog_7_method_50_code
def yX5_heat : MethodName := ⟨RX5, "heat", "(I)I"⟩
abbrev cX5_total : ByteArray := prog_7_method_51_code
def yX5_total : MethodName := ⟨RX5, "total", "(I)I"⟩
abbrev cX5_ifPassed : ByteArray := prog_7_method_52_code
def yX5_ifPassed : MethodName := ⟨RX5, "ifPassed", "(II)I"⟩
abbrev cX5_nextMove : ByteArray := prog_7_method_53_code
def yX5_nextMove : MethodName := ⟨RX5, "nextMove", "()I"⟩
abbrev cX5_bestHot : ByteArray := prog_7_method_54_code
def yX5_bestHot : MethodName := ⟨RX5, "bestHot", "(II)I"⟩
abbrev cX5_cheapest : ByteArray := prog_7_method_55_code
def yX5_cheapest : MethodName := ⟨RX5, "cheapest", "(II)I"⟩
def RJ9 : String := "java/lang/Math"
def TJ9 : u_T := fun k => match k with
  | _ => ("", "", "", false)
def tyJ9 : Nat → FieldType := fun k => match k with
  | _ => .int
abbrev wsJ90 : List Cond := u_ws RJ9 TJ9 0
theorem nmJ9 : ∀ a, a < 0 → ∀ b, b < 0 → a ≠ b → (TJ9 a).2.1 ≠ (TJ9 b).2.1 := by decide +kernel
theorem tyJ9_ok : ∀ k, k < 0 → parseFieldDescriptor (TJ9 k).2.2.1 = some (tyJ9 k) := by decide +kernel
abbrev cJ9_abs_0f7a4 : ByteArray := prog_8_method_59_code
def yJ9_abs_0f7a4 : MethodName := ⟨RJ9, "abs", "(I)I"⟩
abbrev cJ9_max_7cf53 : ByteArray := prog_8_method_65_code
def yJ9_max_7cf53 : MethodName := ⟨RJ9, "max", "(II)I"⟩
abbrev cJ9_min_7cf53 : ByteArray := prog_8_method_69_code
def yJ9_min_7cf53 : MethodName := ⟨RJ9, "min", "(II)I"⟩
def RJ10 : String := "java/lang/System"
def TJ10 : u_T := fun k => match k with
  | _ => ("", "", "", false)
def tyJ10 : Nat → FieldType := fun k => match k with
  | _ => .int
abbrev wsJ100 : List Cond := u_ws RJ10 TJ10 0
theorem nmJ10 : ∀ a, a < 0 → ∀ b, b < 0 → a ≠ b → (TJ10 a).2.1 ≠ (TJ10 b).2.1 := by decide +kernel
theorem tyJ10_ok : ∀ k, k < 0 → parseFieldDescriptor (TJ10 k).2.2.1 = some (tyJ10 k) := by decide +kernel
def RL : String := "HeatShelvesLaw"
abbrev cL_law : ByteArray := code
def yL_law : MethodName := ⟨RL, "law", "([I)Z"⟩
def wsL_law_r1 : List Cond := [Cond.classLink RL 7 RX4, Cond.instantiable RX4 7, Cond.initialized RX4, Cond.classLink RL 10 RX5, Cond.instantiable RX5 8, Cond.initialized RX5, Cond.methodLink RL 9 yX4_init, Cond.instanceMethod yX4_init, Cond.code yX4_init cX4_init 1 none, Cond.methodLink RX4 1 objectInit, Cond.instanceMethod objectInit, Cond.code objectInit ⟨#[0xb1]⟩ 1 none, Cond.classLink RX4 7 RX3, Cond.instantiable RX3 10, Cond.initialized RX3, Cond.fieldLink RX4 10 "HeatShelves" "state" "LHeatShelves$State;", Cond.fieldLink RX4 16 "HeatShelves" "work" "LHeatShelves$State;", Cond.fieldLink RX4 19 "HeatShelves" "snapshot" "LHeatShelves$State;", Cond.fieldLink RX4 22 "HeatShelves" "hasSnapshot" "Z", Cond.classLink RX4 26 RX0, Cond.instantiable RX0 3, Cond.initialized RX0, Cond.fieldLink RX4 29 "HeatShelves" "history" "LHeatShelves$History;", Cond.classLink RX4 33 RX1]
def wsL_law_r2 : List Cond := [Cond.instantiable RX1 2, Cond.initialized RX1, Cond.fieldLink RX4 36 "HeatShelves" "night" "LHeatShelves$Night;", Cond.classLink RX4 40 RX2, Cond.instantiable RX2 7, Cond.initialized RX2, Cond.fieldLink RX4 43 "HeatShelves" "orders" "LHeatShelves$Orders;", Cond.instanceMethod yX3_init, Cond.code yX3_init cX3_init 1 none, Cond.methodLink RX3 3 objectInit, Cond.arrayClass .int, Cond.fieldLink RX3 9 "HeatShelves$State" "numbers" "[I", Cond.fieldLink RX3 15 "HeatShelves$State" "taken" "[I", Cond.fieldLink RX3 18 "HeatShelves$State" "names" "[I", Cond.fieldLink RX3 21 "HeatShelves$State" "sizes" "[I", Cond.fieldLink RX3 24 "HeatShelves$State" "heats" "[I", Cond.fieldLink RX3 27 "HeatShelves$State" "shelves" "[I", Cond.fieldLink RX3 30 "HeatShelves$State" "pins" "[I", Cond.fieldLink RX3 33 "HeatShelves$State" "promises" "[I", Cond.fieldLink RX3 36 "HeatShelves$State" "readings" "[I", Cond.fieldLink RX3 39 "HeatShelves$State" "moves" "[I", Cond.static yX4_copyRow, Cond.code yX4_copyRow cX4_copyRow 2 none, Cond.methodLink RX4 205 Lib.Math.min.name]
def wsL_law_r3 : List Cond := [Cond.static Lib.Math.min.name, Cond.initialized "java/lang/Math", Cond.code Lib.Math.min.name Lib.Math.min.code 2 (some .int), Cond.methodLink RX4 210 arraycopyName, Cond.native arraycopyName, Cond.static arraycopyName, Cond.initialized "java/lang/System", Cond.instanceMethod yX0_init, Cond.code yX0_init cX0_init 2 none, Cond.methodLink RX0 3 objectInit, Cond.classLink RX0 9 RX3, Cond.fieldLink RX0 11 "HeatShelves$History" "states" "[LHeatShelves$State;", Cond.fieldLink RX0 17 "HeatShelves$History" "first" "I", Cond.fieldLink RX0 21 "HeatShelves$History" "count" "I", Cond.instanceMethod yX1_init, Cond.code yX1_init cX1_init 1 none, Cond.methodLink RX1 3 objectInit, Cond.fieldLink RX1 9 "HeatShelves$Night" "wanted" "[I", Cond.fieldLink RX1 15 "HeatShelves$Night" "reasons" "[I", Cond.instanceMethod yX2_init, Cond.code yX2_init cX2_init 1 none, Cond.methodLink RX2 3 objectInit, Cond.fieldLink RX2 9 "HeatShelves$Orders" "signs" "[I", Cond.fieldLink RX2 15 "HeatShelves$Orders" "length" "I"]
def wsL_law_r4 : List Cond := [Cond.fieldLink RX2 19 "HeatShelves$Orders" "kinds" "[I", Cond.fieldLink RX2 22 "HeatShelves$Orders" "values" "[I", Cond.fieldLink RX2 25 "HeatShelves$Orders" "times" "[I", Cond.fieldLink RX2 28 "HeatShelves$Orders" "count" "I", Cond.fieldLink RX2 31 "HeatShelves$Orders" "place" "I", Cond.methodLink RL 12 yX5_init, Cond.instanceMethod yX5_init, Cond.code yX5_init cX5_init 1 none, Cond.methodLink RX5 1 objectInit, Cond.fieldLink RX5 7 "HeatShelvesModel" "s" "[I", Cond.fieldLink RX5 13 "HeatShelvesModel" "past" "[I", Cond.fieldLink RX5 16 "HeatShelvesModel" "snap" "[I", Cond.fieldLink RX5 19 "HeatShelvesModel" "text" "[I", Cond.fieldLink RX5 22 "HeatShelvesModel" "why" "[I", Cond.methodLink RL 13 yX4_add, Cond.instanceMethod yX4_add, Cond.selects RX4 yX4_add yX4_add, Cond.code yX4_add cX4_add 2 (some .int), Cond.instanceMethod yX3_copyFrom, Cond.selects RX3 yX3_copyFrom yX3_copyFrom, Cond.code yX3_copyFrom cX3_copyFrom 2 none, Cond.instanceMethod yX3_addBlock, Cond.selects RX3 yX3_addBlock yX3_addBlock, Cond.code yX3_addBlock cX3_addBlock 5 (some .int)]
def wsL_law_r5 : List Cond := [Cond.methodLink RX3 64 yX3_fastestWithRoom, Cond.instanceMethod yX3_fastestWithRoom, Cond.selects RX3 yX3_fastestWithRoom yX3_fastestWithRoom, Cond.code yX3_fastestWithRoom cX3_fastestWithRoom 3 (some .int), Cond.methodLink RX3 74 yX3_hasRoom, Cond.instanceMethod yX3_hasRoom, Cond.selects RX3 yX3_hasRoom yX3_hasRoom, Cond.code yX3_hasRoom cX3_hasRoom 3 (some .boolean), Cond.methodLink RX3 53 yX3_countBlocks, Cond.instanceMethod yX3_countBlocks, Cond.selects RX3 yX3_countBlocks yX3_countBlocks, Cond.code yX3_countBlocks cX3_countBlocks 1 (some .int), Cond.static yX4_at, Cond.code yX4_at cX4_at 2 (some .int), Cond.static yX4_put, Cond.code yX4_put cX4_put 3 none, Cond.static yX4_raise, Cond.code yX4_raise cX4_raise 3 none, Cond.methodLink RX4 55 yX4_settle, Cond.instanceMethod yX4_settle, Cond.selects RX4 yX4_settle yX4_settle, Cond.code yX4_settle cX4_settle 2 (some .int), Cond.instanceMethod yX0_record, Cond.selects RX0 yX0_record yX0_record]
def wsL_law_r6 : List Cond := [Cond.code yX0_record cX0_record 3 none, Cond.methodLink RX0 25 yX0_stateAt, Cond.instanceMethod yX0_stateAt, Cond.selects RX0 yX0_stateAt yX0_stateAt, Cond.code yX0_stateAt cX0_stateAt 3 (some (.object "HeatShelves$State")), Cond.methodLink RL 17 yX5_add, Cond.instanceMethod yX5_add, Cond.selects RX5 yX5_add yX5_add, Cond.code yX5_add cX5_add 2 (some .int), Cond.methodLink RX5 81 yX5_in, Cond.static yX5_in, Cond.code yX5_in cX5_in 3 (some .boolean), Cond.methodLink RX5 84 yX5_copies, Cond.instanceMethod yX5_copies, Cond.selects RX5 yX5_copies yX5_copies, Cond.code yX5_copies cX5_copies 2 none, Cond.methodLink RX5 87 yX5_adds, Cond.instanceMethod yX5_adds, Cond.selects RX5 yX5_adds yX5_adds, Cond.code yX5_adds cX5_adds 5 (some .int), Cond.methodLink RX5 43 yX5_hasRoom, Cond.instanceMethod yX5_hasRoom, Cond.selects RX5 yX5_hasRoom yX5_hasRoom, Cond.code yX5_hasRoom cX5_hasRoom 4 (some .boolean)]
def wsL_law_r7 : List Cond := [Cond.methodLink RX5 36 yX5_on, Cond.instanceMethod yX5_on, Cond.selects RX5 yX5_on yX5_on, Cond.code yX5_on cX5_on 7 (some .int), Cond.methodLink RX5 32 yX5_at, Cond.static yX5_at, Cond.code yX5_at cX5_at 2 (some .int), Cond.methodLink RX5 90 yX5_changes, Cond.instanceMethod yX5_changes, Cond.selects RX5 yX5_changes yX5_changes, Cond.code yX5_changes cX5_changes 2 (some .int), Cond.methodLink RX5 78 yX5_lays, Cond.instanceMethod yX5_lays, Cond.selects RX5 yX5_lays yX5_lays, Cond.code yX5_lays cX5_lays 2 none, Cond.methodLink RX5 29 yX5_remembers, Cond.instanceMethod yX5_remembers, Cond.selects RX5 yX5_remembers yX5_remembers, Cond.code yX5_remembers cX5_remembers 2 none, Cond.fieldLink RX5 25 "HeatShelvesModel" "known" "I", Cond.methodLink RL 18 yX4_remove, Cond.instanceMethod yX4_remove, Cond.selects RX4 yX4_remove yX4_remove, Cond.code yX4_remove cX4_remove 2 (some .int)]
def wsL_law_r8 : List Cond := [Cond.instanceMethod yX3_dropBlock, Cond.selects RX3 yX3_dropBlock yX3_dropBlock, Cond.code yX3_dropBlock cX3_dropBlock 4 (some .int), Cond.methodLink RX3 78 yX3_find, Cond.instanceMethod yX3_find, Cond.selects RX3 yX3_find yX3_find, Cond.code yX3_find cX3_find 4 (some .int), Cond.static yX4_closeGap, Cond.code yX4_closeGap cX4_closeGap 3 none, Cond.methodLink RX4 216 Lib.Math.max.name, Cond.static Lib.Math.max.name, Cond.code Lib.Math.max.name Lib.Math.max.code 2 (some .int), Cond.methodLink RL 21 yX5_remove, Cond.instanceMethod yX5_remove, Cond.selects RX5 yX5_remove yX5_remove, Cond.code yX5_remove cX5_remove 2 (some .int), Cond.methodLink RX5 93 yX5_removes, Cond.instanceMethod yX5_removes, Cond.selects RX5 yX5_removes yX5_removes, Cond.code yX5_removes cX5_removes 5 (some .int), Cond.methodLink RX5 65 yX5_placeOf, Cond.instanceMethod yX5_placeOf, Cond.selects RX5 yX5_placeOf yX5_placeOf, Cond.code yX5_placeOf cX5_placeOf 4 (some .int)]
def wsL_law_r9 : List Cond := [Cond.methodLink RL 22 yX4_read, Cond.instanceMethod yX4_read, Cond.selects RX4 yX4_read yX4_read, Cond.code yX4_read cX4_read 3 (some .int), Cond.instanceMethod yX3_readBlock, Cond.selects RX3 yX3_readBlock yX3_readBlock, Cond.code yX3_readBlock cX3_readBlock 6 (some .int), Cond.methodLink RX3 85 yX3_readOnce, Cond.instanceMethod yX3_readOnce, Cond.selects RX3 yX3_readOnce yX3_readOnce, Cond.code yX3_readOnce cX3_readOnce 4 (some .int), Cond.constant RX3 88 (99999), Cond.methodLink RX3 89 Lib.Math.min.name, Cond.methodLink RX3 95 yX3_askBack, Cond.instanceMethod yX3_askBack, Cond.selects RX3 yX3_askBack yX3_askBack, Cond.code yX3_askBack cX3_askBack 4 (some .int), Cond.methodLink RX3 98 yX3_moveTo, Cond.instanceMethod yX3_moveTo, Cond.selects RX3 yX3_moveTo yX3_moveTo, Cond.code yX3_moveTo cX3_moveTo 4 none, Cond.methodLink RL 26 yX5_read, Cond.instanceMethod yX5_read, Cond.selects RX5 yX5_read yX5_read]
def wsL_law_r10 : List Cond := [Cond.code yX5_read cX5_read 3 (some .int), Cond.methodLink RX5 96 yX5_reads, Cond.instanceMethod yX5_reads, Cond.selects RX5 yX5_reads yX5_reads, Cond.code yX5_reads cX5_reads 6 (some .int), Cond.methodLink RX5 69 yX5_readsOne, Cond.instanceMethod yX5_readsOne, Cond.selects RX5 yX5_readsOne yX5_readsOne, Cond.code yX5_readsOne cX5_readsOne 6 (some .int), Cond.constant RX5 68 (99999), Cond.methodLink RL 27 yX4_pin, Cond.instanceMethod yX4_pin, Cond.selects RX4 yX4_pin yX4_pin, Cond.code yX4_pin cX4_pin 3 (some .int), Cond.instanceMethod yX3_turnPin, Cond.selects RX3 yX3_turnPin yX3_turnPin, Cond.code yX3_turnPin cX3_turnPin 5 (some .int), Cond.methodLink RX3 108 yX3_countPinned, Cond.instanceMethod yX3_countPinned, Cond.selects RX3 yX3_countPinned yX3_countPinned, Cond.code yX3_countPinned cX3_countPinned 4 (some .int), Cond.methodLink RL 31 yX5_pin, Cond.instanceMethod yX5_pin, Cond.selects RX5 yX5_pin yX5_pin]
def wsL_law_r11 : List Cond := [Cond.code yX5_pin cX5_pin 4 (some .int), Cond.methodLink RX5 99 yX5_turnsPin, Cond.instanceMethod yX5_turnsPin, Cond.selects RX5 yX5_turnsPin yX5_turnsPin, Cond.code yX5_turnsPin cX5_turnsPin 3 (some .int), Cond.methodLink RX5 72 yX5_pinned, Cond.instanceMethod yX5_pinned, Cond.selects RX5 yX5_pinned yX5_pinned, Cond.code yX5_pinned cX5_pinned 4 (some .int), Cond.methodLink RL 32 yX4_pass, Cond.instanceMethod yX4_pass, Cond.selects RX4 yX4_pass yX4_pass, Cond.code yX4_pass cX4_pass 2 (some .int), Cond.methodLink RX4 69 yX4_passInWork, Cond.instanceMethod yX4_passInWork, Cond.selects RX4 yX4_passInWork yX4_passInWork, Cond.code yX4_passInWork cX4_passInWork 2 (some .int), Cond.methodLink RX4 108 yX4_at, Cond.instanceMethod yX1_letPass, Cond.selects RX1 yX1_letPass yX1_letPass, Cond.code yX1_letPass cX1_letPass 7 (some .int), Cond.instanceMethod yX3_payNight, Cond.selects RX3 yX3_payNight yX3_payNight, Cond.code yX3_payNight cX3_payNight 2 none]
def wsL_law_r12 : List Cond := [Cond.methodLink RX3 102 yX3_nightPriceOfShelf, Cond.instanceMethod yX3_nightPriceOfShelf, Cond.selects RX3 yX3_nightPriceOfShelf yX3_nightPriceOfShelf, Cond.code yX3_nightPriceOfShelf cX3_nightPriceOfShelf 2 (some .int), Cond.instanceMethod yX3_fade, Cond.selects RX3 yX3_fade yX3_fade, Cond.code yX3_fade cX3_fade 4 none, Cond.methodLink RX3 105 Lib.Math.max.name, Cond.methodLink RX1 33 yX1_findWhoMayMove, Cond.instanceMethod yX1_findWhoMayMove, Cond.selects RX1 yX1_findWhoMayMove yX1_findWhoMayMove, Cond.code yX1_findWhoMayMove cX1_findWhoMayMove 5 none, Cond.instanceMethod yX3_wantedShelf, Cond.selects RX3 yX3_wantedShelf yX3_wantedShelf, Cond.code yX3_wantedShelf cX3_wantedShelf 3 (some .int), Cond.methodLink RX1 37 yX1_moveInTurn, Cond.instanceMethod yX1_moveInTurn, Cond.selects RX1 yX1_moveInTurn yX1_moveInTurn, Cond.code yX1_moveInTurn cX1_moveInTurn 8 (some .int), Cond.methodLink RX1 65 yX1_nextInTurn, Cond.instanceMethod yX1_nextInTurn, Cond.selects RX1 yX1_nextInTurn yX1_nextInTurn, Cond.code yX1_nextInTurn cX1_nextInTurn 9 (some .int), Cond.methodLink RX1 69 yX1_shelfToMoveTo]
def wsL_law_r13 : List Cond := [Cond.instanceMethod yX1_shelfToMoveTo, Cond.selects RX1 yX1_shelfToMoveTo yX1_shelfToMoveTo, Cond.code yX1_shelfToMoveTo cX1_shelfToMoveTo 6 (some .int), Cond.methodLink RX1 91 Lib.Math.abs.name, Cond.static Lib.Math.abs.name, Cond.code Lib.Math.abs.name Lib.Math.abs.code 1 (some .int), Cond.methodLink RX1 77 yX1_promiseIfDeep, Cond.instanceMethod yX1_promiseIfDeep, Cond.selects RX1 yX1_promiseIfDeep yX1_promiseIfDeep, Cond.code yX1_promiseIfDeep cX1_promiseIfDeep 3 none, Cond.methodLink RL 35 yX5_pass, Cond.instanceMethod yX5_pass, Cond.selects RX5 yX5_pass yX5_pass, Cond.code yX5_pass cX5_pass 2 (some .int), Cond.methodLink RX5 102 yX5_passesIn, Cond.instanceMethod yX5_passesIn, Cond.selects RX5 yX5_passesIn yX5_passesIn, Cond.code yX5_passesIn cX5_passesIn 2 (some .int), Cond.methodLink RX5 75 yX5_passes, Cond.instanceMethod yX5_passes, Cond.selects RX5 yX5_passes yX5_passes, Cond.code yX5_passes cX5_passes 5 (some .int), Cond.methodLink RX5 61 yX5_passesOne, Cond.instanceMethod yX5_passesOne]
def wsL_law_r14 : List Cond := [Cond.selects RX5 yX5_passesOne yX5_passesOne, Cond.code yX5_passesOne cX5_passesOne 5 (some .int), Cond.methodLink RX5 54 yX5_costs, Cond.instanceMethod yX5_costs, Cond.selects RX5 yX5_costs yX5_costs, Cond.code yX5_costs cX5_costs 3 (some .int), Cond.methodLink RX5 40 yX5_wanted, Cond.instanceMethod yX5_wanted, Cond.selects RX5 yX5_wanted yX5_wanted, Cond.code yX5_wanted cX5_wanted 4 (some .int), Cond.methodLink RX5 57 yX5_turns, Cond.instanceMethod yX5_turns, Cond.selects RX5 yX5_turns yX5_turns, Cond.code yX5_turns cX5_turns 7 (some .int), Cond.methodLink RX5 47 yX5_next, Cond.instanceMethod yX5_next, Cond.selects RX5 yX5_next yX5_next, Cond.code yX5_next cX5_next 7 (some .int), Cond.methodLink RX5 51 yX5_target, Cond.instanceMethod yX5_target, Cond.selects RX5 yX5_target yX5_target, Cond.code yX5_target cX5_target 6 (some .int), Cond.methodLink RL 36 yX4_set, Cond.instanceMethod yX4_set]
def wsL_law_r15 : List Cond := [Cond.selects RX4 yX4_set yX4_set, Cond.code yX4_set cX4_set 3 (some .int), Cond.instanceMethod yX3_changeSetting, Cond.selects RX3 yX3_changeSetting yX3_changeSetting, Cond.code yX3_changeSetting cX3_changeSetting 4 (some .int), Cond.methodLink RX3 118 yX3_allowsSetting, Cond.instanceMethod yX3_allowsSetting, Cond.selects RX3 yX3_allowsSetting yX3_allowsSetting, Cond.code yX3_allowsSetting cX3_allowsSetting 3 (some .boolean), Cond.methodLink RL 39 yX5_set, Cond.instanceMethod yX5_set, Cond.selects RX5 yX5_set yX5_set, Cond.code yX5_set cX5_set 5 (some .int), Cond.methodLink RX5 105 yX5_mostOf, Cond.static yX5_mostOf, Cond.code yX5_mostOf cX5_mostOf 1 (some .int), Cond.methodLink RL 40 yX4_type, Cond.instanceMethod yX4_type, Cond.selects RX4 yX4_type yX4_type, Cond.code yX4_type cX4_type 2 (some .int), Cond.instanceMethod yX2_append, Cond.selects RX2 yX2_append yX2_append, Cond.code yX2_append cX2_append 2 (some .int), Cond.methodLink RL 44 yX5_type]
def wsL_law_r16 : List Cond := [Cond.instanceMethod yX5_type, Cond.selects RX5 yX5_type yX5_type, Cond.code yX5_type cX5_type 2 (some .int), Cond.fieldLink RX5 108 "HeatShelvesModel" "length" "I", Cond.methodLink RL 45 yX4_clearText, Cond.instanceMethod yX4_clearText, Cond.selects RX4 yX4_clearText yX4_clearText, Cond.code yX4_clearText cX4_clearText 1 (some .int), Cond.instanceMethod yX2_empty, Cond.selects RX2 yX2_empty yX2_empty, Cond.code yX2_empty cX2_empty 2 (some .int), Cond.methodLink RL 49 yX5_clearText, Cond.instanceMethod yX5_clearText, Cond.selects RX5 yX5_clearText yX5_clearText, Cond.code yX5_clearText cX5_clearText 2 (some .int), Cond.methodLink RL 50 yX4_perform, Cond.instanceMethod yX4_perform, Cond.selects RX4 yX4_perform yX4_perform, Cond.code yX4_perform cX4_perform 4 (some .int), Cond.instanceMethod yX2_readAll, Cond.selects RX2 yX2_readAll yX2_readAll, Cond.code yX2_readAll cX2_readAll 1 (some .int), Cond.methodLink RX2 38 yX2_readOrder, Cond.instanceMethod yX2_readOrder]
def wsL_law_r17 : List Cond := [Cond.selects RX2 yX2_readOrder yX2_readOrder, Cond.code yX2_readOrder cX2_readOrder 4 (some .boolean), Cond.methodLink RX2 42 yX2_signHere, Cond.instanceMethod yX2_signHere, Cond.selects RX2 yX2_signHere yX2_signHere, Cond.code yX2_signHere cX2_signHere 1 (some .int), Cond.methodLink RX2 46 yX2_isKind, Cond.instanceMethod yX2_isKind, Cond.selects RX2 yX2_isKind yX2_isKind, Cond.code yX2_isKind cX2_isKind 2 (some .boolean), Cond.methodLink RX2 50 yX2_leastOf, Cond.instanceMethod yX2_leastOf, Cond.selects RX2 yX2_leastOf yX2_leastOf, Cond.code yX2_leastOf cX2_leastOf 2 (some .int), Cond.methodLink RX2 54 yX2_greatestOf, Cond.instanceMethod yX2_greatestOf, Cond.selects RX2 yX2_greatestOf yX2_greatestOf, Cond.code yX2_greatestOf cX2_greatestOf 2 (some .int), Cond.methodLink RX2 57 yX2_readNumber, Cond.instanceMethod yX2_readNumber, Cond.selects RX2 yX2_readNumber yX2_readNumber, Cond.code yX2_readNumber cX2_readNumber 5 (some .int), Cond.methodLink RX2 61 yX2_digitHere, Cond.instanceMethod yX2_digitHere]
def wsL_law_r18 : List Cond := [Cond.selects RX2 yX2_digitHere yX2_digitHere, Cond.code yX2_digitHere cX2_digitHere 2 (some .int), Cond.methodLink RX4 90 yX4_performInWork, Cond.instanceMethod yX4_performInWork, Cond.selects RX4 yX4_performInWork yX4_performInWork, Cond.code yX4_performInWork cX4_performInWork 4 (some .int), Cond.instanceMethod yX3_flipPin, Cond.selects RX3 yX3_flipPin yX3_flipPin, Cond.code yX3_flipPin cX3_flipPin 2 (some .int), Cond.methodLink RX3 111 yX3_turnPin, Cond.methodLink RL 53 yX5_perform, Cond.instanceMethod yX5_perform, Cond.selects RX5 yX5_perform yX5_perform, Cond.code yX5_perform cX5_perform 5 (some .int), Cond.methodLink RX5 126 yX5_fault, Cond.instanceMethod yX5_fault, Cond.selects RX5 yX5_fault yX5_fault, Cond.code yX5_fault cX5_fault 4 (some .int), Cond.methodLink RX5 120 yX5_orderEnd, Cond.instanceMethod yX5_orderEnd, Cond.selects RX5 yX5_orderEnd yX5_orderEnd, Cond.code yX5_orderEnd cX5_orderEnd 3 (some .int), Cond.methodLink RX5 111 yX5_sign, Cond.instanceMethod yX5_sign]
def wsL_law_r19 : List Cond := [Cond.selects RX5 yX5_sign yX5_sign, Cond.code yX5_sign cX5_sign 2 (some .int), Cond.methodLink RX5 117 yX5_numberEnd, Cond.instanceMethod yX5_numberEnd, Cond.selects RX5 yX5_numberEnd yX5_numberEnd, Cond.code yX5_numberEnd cX5_numberEnd 6 (some .int), Cond.methodLink RX5 114 yX5_digit, Cond.instanceMethod yX5_digit, Cond.selects RX5 yX5_digit yX5_digit, Cond.code yX5_digit cX5_digit 2 (some .int), Cond.methodLink RX5 130 yX5_does, Cond.instanceMethod yX5_does, Cond.selects RX5 yX5_does yX5_does, Cond.code yX5_does cX5_does 4 (some .int), Cond.methodLink RX5 123 yX5_numberAt, Cond.instanceMethod yX5_numberAt, Cond.selects RX5 yX5_numberAt yX5_numberAt, Cond.code yX5_numberAt cX5_numberAt 4 (some .int), Cond.methodLink RL 54 yX4_undo, Cond.instanceMethod yX4_undo, Cond.selects RX4 yX4_undo yX4_undo, Cond.code yX4_undo cX4_undo 1 (some .int), Cond.instanceMethod yX0_takeLatest, Cond.selects RX0 yX0_takeLatest yX0_takeLatest]
def wsL_law_r20 : List Cond := [Cond.code yX0_takeLatest cX0_takeLatest 3 (some .boolean), Cond.methodLink RL 57 yX5_undo, Cond.instanceMethod yX5_undo, Cond.selects RX5 yX5_undo yX5_undo, Cond.code yX5_undo cX5_undo 2 (some .int), Cond.methodLink RL 58 yX4_keep, Cond.instanceMethod yX4_keep, Cond.selects RX4 yX4_keep yX4_keep, Cond.code yX4_keep cX4_keep 1 (some .int), Cond.methodLink RL 61 yX5_keep, Cond.instanceMethod yX5_keep, Cond.selects RX5 yX5_keep yX5_keep, Cond.code yX5_keep cX5_keep 2 (some .int), Cond.fieldLink RX5 133 "HeatShelvesModel" "isKept" "Z", Cond.methodLink RL 62 yX4_restore, Cond.instanceMethod yX4_restore, Cond.selects RX4 yX4_restore yX4_restore, Cond.code yX4_restore cX4_restore 1 (some .int), Cond.methodLink RL 65 yX5_restore, Cond.instanceMethod yX5_restore, Cond.selects RX5 yX5_restore yX5_restore, Cond.code yX5_restore cX5_restore 2 (some .int), Cond.methodLink RL 66 yX4_block, Cond.instanceMethod yX4_block]
def wsL_law_r21 : List Cond := [Cond.selects RX4 yX4_block yX4_block, Cond.code yX4_block cX4_block 3 (some .int), Cond.instanceMethod yX3_placeOfRank, Cond.selects RX3 yX3_placeOfRank yX3_placeOfRank, Cond.code yX3_placeOfRank cX3_placeOfRank 4 (some .int), Cond.methodLink RX3 57 yX3_countHotter, Cond.instanceMethod yX3_countHotter, Cond.selects RX3 yX3_countHotter yX3_countHotter, Cond.code yX3_countHotter cX3_countHotter 7 (some .int), Cond.methodLink RL 69 yX5_block, Cond.instanceMethod yX5_block, Cond.selects RX5 yX5_block yX5_block, Cond.code yX5_block cX5_block 6 (some .int), Cond.methodLink RL 70 yX4_ofBlock, Cond.instanceMethod yX4_ofBlock, Cond.selects RX4 yX4_ofBlock yX4_ofBlock, Cond.code yX4_ofBlock cX4_ofBlock 4 (some .int), Cond.methodLink RX4 139 yX4_whyItStays, Cond.instanceMethod yX4_whyItStays, Cond.selects RX4 yX4_whyItStays yX4_whyItStays, Cond.code yX4_whyItStays cX4_whyItStays 2 (some .int), Cond.methodLink RL 73 yX5_ofBlock, Cond.instanceMethod yX5_ofBlock, Cond.selects RX5 yX5_ofBlock yX5_ofBlock]
def wsL_law_r22 : List Cond := [Cond.code yX5_ofBlock cX5_ofBlock 4 (some .int), Cond.methodLink RX5 137 yX5_whyStays, Cond.instanceMethod yX5_whyStays, Cond.selects RX5 yX5_whyStays yX5_whyStays, Cond.code yX5_whyStays cX5_whyStays 3 (some .int), Cond.methodLink RL 74 yX4_shelf, Cond.instanceMethod yX4_shelf, Cond.selects RX4 yX4_shelf yX4_shelf, Cond.code yX4_shelf cX4_shelf 3 (some .int), Cond.instanceMethod yX3_countOnShelf, Cond.selects RX3 yX3_countOnShelf yX3_countOnShelf, Cond.code yX3_countOnShelf cX3_countOnShelf 5 (some .int), Cond.instanceMethod yX3_heatOnShelf, Cond.selects RX3 yX3_heatOnShelf yX3_heatOnShelf, Cond.code yX3_heatOnShelf cX3_heatOnShelf 5 (some .int), Cond.methodLink RL 77 yX5_shelf, Cond.instanceMethod yX5_shelf, Cond.selects RX5 yX5_shelf yX5_shelf, Cond.code yX5_shelf cX5_shelf 3 (some .int), Cond.methodLink RL 78 yX4_total, Cond.instanceMethod yX4_total, Cond.selects RX4 yX4_total yX4_total, Cond.code yX4_total cX4_total 2 (some .int), Cond.instanceMethod yX3_heatOfAll]
def wsL_law_r23 : List Cond := [Cond.selects RX3 yX3_heatOfAll yX3_heatOfAll, Cond.code yX3_heatOfAll cX3_heatOfAll 3 (some .int), Cond.methodLink RX3 61 yX3_heatOnShelf, Cond.methodLink RL 81 yX5_total, Cond.instanceMethod yX5_total, Cond.selects RX5 yX5_total yX5_total, Cond.code yX5_total cX5_total 2 (some .int), Cond.methodLink RX5 140 yX5_heat, Cond.instanceMethod yX5_heat, Cond.selects RX5 yX5_heat yX5_heat, Cond.code yX5_heat cX5_heat 2 (some .int), Cond.methodLink RL 82 yX4_ifPassed, Cond.instanceMethod yX4_ifPassed, Cond.selects RX4 yX4_ifPassed yX4_ifPassed, Cond.code yX4_ifPassed cX4_ifPassed 4 (some .int), Cond.methodLink RX4 170 yX4_paidForNightsInWork, Cond.instanceMethod yX4_paidForNightsInWork, Cond.selects RX4 yX4_paidForNightsInWork yX4_paidForNightsInWork, Cond.code yX4_paidForNightsInWork cX4_paidForNightsInWork 1 (some .int), Cond.methodLink RL 85 yX5_ifPassed, Cond.instanceMethod yX5_ifPassed, Cond.selects RX5 yX5_ifPassed yX5_ifPassed, Cond.code yX5_ifPassed cX5_ifPassed 4 (some .int), Cond.methodLink RL 86 yX4_nextMove]
def wsL_law_r24 : List Cond := [Cond.instanceMethod yX4_nextMove, Cond.selects RX4 yX4_nextMove yX4_nextMove, Cond.code yX4_nextMove cX4_nextMove 2 (some .int), Cond.methodLink RL 89 yX5_nextMove, Cond.instanceMethod yX5_nextMove, Cond.selects RX5 yX5_nextMove yX5_nextMove, Cond.code yX5_nextMove cX5_nextMove 2 (some .int), Cond.methodLink RL 90 yX4_bestHot, Cond.instanceMethod yX4_bestHot, Cond.selects RX4 yX4_bestHot yX4_bestHot, Cond.code yX4_bestHot cX4_bestHot 9 (some .int), Cond.fieldLink RX4 173 "HeatShelves" "GREATEST_VALUES" "[I", Cond.methodLink RX4 176 yX4_paidWithHot, Cond.instanceMethod yX4_paidWithHot, Cond.selects RX4 yX4_paidWithHot yX4_paidWithHot, Cond.code yX4_paidWithHot cX4_paidWithHot 3 (some .int), Cond.methodLink RX4 201 yX4_put, Cond.methodLink RL 93 yX5_bestHot, Cond.instanceMethod yX5_bestHot, Cond.selects RX5 yX5_bestHot yX5_bestHot, Cond.code yX5_bestHot cX5_bestHot 9 (some .int), Cond.methodLink RL 94 yX4_cheapest, Cond.instanceMethod yX4_cheapest, Cond.selects RX4 yX4_cheapest yX4_cheapest]
def wsL_law_r25 : List Cond := [Cond.code yX4_cheapest cX4_cheapest 6 (some .int), Cond.methodLink RX4 179 yX4_priceOfStay, Cond.instanceMethod yX4_priceOfStay, Cond.selects RX4 yX4_priceOfStay yX4_priceOfStay, Cond.code yX4_priceOfStay cX4_priceOfStay 5 (some .int), Cond.methodLink RL 97 yX5_cheapest, Cond.instanceMethod yX5_cheapest, Cond.selects RX5 yX5_cheapest yX5_cheapest, Cond.code yX5_cheapest cX5_cheapest 9 (some .int)]
def wsL_law : List Cond := (wsL_law_r1 ++ (wsL_law_r2 ++ (wsL_law_r3 ++ (wsL_law_r4 ++ (wsL_law_r5 ++ (wsL_law_r6 ++ (wsL_law_r7 ++ (wsL_law_r8 ++ (wsL_law_r9 ++ (wsL_law_r10 ++ (wsL_law_r11 ++ (wsL_law_r12 ++ (wsL_law_r13 ++ (wsL_law_r14 ++ (wsL_law_r15 ++ (wsL_law_r16 ++ (wsL_law_r17 ++ (wsL_law_r18 ++ (wsL_law_r19 ++ (wsL_law_r20 ++ (wsL_law_r21 ++ (wsL_law_r22 ++ (wsL_law_r23 ++ (wsL_law_r24 ++ wsL_law_r25)))))))))))))))))))))))) ++ wsX40 ++ wsX50 ++ wsX30 ++ wsX00 ++ wsX10 ++ wsX20 ++ ([] : List Cond)
set_option maxRecDepth 20000 in
theorem wsL_law_in : ∀ w ∈ wsL_law, w ∈ lw_tbl := fun w h => (goodIn_p wsL_law [94, 97, 102, 108, 111, 167, 187, 201, 582, 255, 259, 263, 267, 271, 275, 278, 281, 284, 288, 292, 296, 612, 615, 619, 623, 627, 631, 634, 638, 642, 646, 301, 305, 309, 312, 315, 650, 654, 658, 319, 323, 327, 333, 337, 662, 666, 670, 341, 345, 349, 675, 679, 683, 353, 357, 362, 367, 371, 375, 380, 385, 390, 394, 398, 402, 407, 687, 691, 695, 699, 703, 707, 711, 715, 719, 412, 416, 422, 723, 726, 426, 430, 730, 435, 439, 734, 443, 447, 451, 455, 460, 464, 468, 472, 476, 480, 484, 738, 742, 746, 750, 754, 758, 762, 766, 489, 493, 770, 497, 774, 502, 778, 506, 510, 514, 782, 518, 524, 786, 790, 528, 532, 536, 794, 541, 546, 798, 802, 551, 555, 806, 559, 810, 563, 568, 814, 573, 577, 818] (by decide +kernel) (by decide +kernel) w h).1
theorem inlX0 : ∀ w ∈ wsX00, w ∈ wsL_law := fun _ h => List.mem_append_left _ (List.mem_append_left _ (List.mem_append_left _ (List.mem_append_right _ h)))
theorem inX0 : ∀ w ∈ wsX00, w ∈ lw_tbl := fun w h => wsL_law_in w (inlX0 w h)
theorem inlX1 : ∀ w ∈ wsX10, w ∈ wsL_law := fun _ h => List.mem_append_left _ (List.mem_append_left _ (List.mem_append_right _ h))
theorem inX1 : ∀ w ∈ wsX10, w ∈ lw_tbl := fun w h => wsL_law_in w (inlX1 w h)
theorem inlX2 : ∀ w ∈ wsX20, w ∈ wsL_law := fun _ h => List.mem_append_left _ (List.mem_append_right _ h)
theorem inX2 : ∀ w ∈ wsX20, w ∈ lw_tbl := fun w h => wsL_law_in w (inlX2 w h)
theorem inlX3 : ∀ w ∈ wsX30, w ∈ wsL_law := fun _ h => List.mem_append_left _ (List.mem_append_left _ (List.mem_append_left _ (List.mem_append_left _ (List.mem_append_right _ h))))
theorem inX3 : ∀ w ∈ wsX30, w ∈ lw_tbl := fun w h => wsL_law_in w (inlX3 w h)
theorem inlX4 : ∀ w ∈ wsX40, w ∈ wsL_law := fun _ h => List.mem_append_left _ (List.mem_append_left _ (List.mem_append_left _ (List.mem_append_left _ (List.mem_append_left _ (List.mem_append_left _ (List.mem_append_right _ h))))))
theorem inX4 : ∀ w ∈ wsX40, w ∈ lw_tbl := fun w h => wsL_law_in w (inlX4 w h)
theorem inlX5 : ∀ w ∈ wsX50, w ∈ wsL_law := fun _ h => List.mem_append_left _ (List.mem_append_left _ (List.mem_append_left _ (List.mem_append_left _ (List.mem_append_left _ (List.mem_append_right _ h)))))
theorem inX5 : ∀ w ∈ wsX50, w ∈ lw_tbl := fun w h => wsL_law_in w (inlX5 w h)
theorem inJ9 : ∀ w ∈ wsJ90, w ∈ lw_tbl := by decide +kernel
theorem inJ10 : ∀ w ∈ wsJ100, w ∈ lw_tbl := by decide +kernel
abbrev vwCl : List vw_C := [(RX0, TX0, 3), (RX1, TX1, 2), (RX2, TX2, 7), (RX3, TX3, 10), (RX4, TX4, 7), (RX5, TX5, 8)]
