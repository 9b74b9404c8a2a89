section
-- ===== PART A: goes FIRST, ahead of the names: the tables' words, and 'selects' of the private methods out of them =====
/-- a private method of a class that the tables say can be made, by its rows of tables_1 -/
def lw_okq (q : MethodName × Nat) : Prop := (q.1.cls ≠ "java/lang/invoke/MethodHandle" ∧ q.1.cls ≠ "java/lang/invoke/VarHandle") ∧ Cond.instantiable q.1.cls q.2 ∈ tables_1 ∧ Cond.privateMethod q.1 ∈ tables_1 ∧ Cond.instanceMethod q.1 ∈ tables_1
theorem lw_p0 : lw_okq (⟨"HeatShelves$State", "copyFrom", "(LHeatShelves$State;)V"⟩, 10) := ⟨⟨by decide +kernel, by decide +kernel⟩, List.mem_of_getElem? (i := 18) (by decide +kernel), List.mem_of_getElem? (i := 176) (by decide +kernel), List.mem_of_getElem? (i := 177) (by decide +kernel)⟩
theorem lw_p1 : lw_okq (⟨"HeatShelves$State", "addBlock", "(I)I"⟩, 10) := ⟨⟨by decide +kernel, by decide +kernel⟩, List.mem_of_getElem? (i := 18) (by decide +kernel), List.mem_of_getElem? (i := 180) (by decide +kernel), List.mem_of_getElem? (i := 181) (by decide +kernel)⟩
theorem lw_p2 : lw_okq (⟨"HeatShelves$State", "fastestWithRoom", "(I)I"⟩, 10) := ⟨⟨by decide +kernel, by decide +kernel⟩, List.mem_of_getElem? (i := 18) (by decide +kernel), List.mem_of_getElem? (i := 184) (by decide +kernel), List.mem_of_getElem? (i := 185) (by decide +kernel)⟩
theorem lw_p3 : lw_okq (⟨"HeatShelves$State", "hasRoom", "(II)Z"⟩, 10) := ⟨⟨by decide +kernel, by decide +kernel⟩, List.mem_of_getElem? (i := 18) (by decide +kernel), List.mem_of_getElem? (i := 188) (by decide +kernel), List.mem_of_getElem? (i := 189) (by decide +kernel)⟩
theorem lw_p4 : lw_okq (⟨"HeatShelves$State", "countBlocks", "()I"⟩, 10) := ⟨⟨by decide +kernel, by decide +kernel⟩, List.mem_of_getElem? (i := 18) (by decide +kernel), List.mem_of_getElem? (i := 192) (by decide +kernel), List.mem_of_getElem? (i := 193) (by decide +kernel)⟩
theorem lw_p5 : lw_okq (⟨"HeatShelves", "settle", "(I)I"⟩, 7) := ⟨⟨by decide +kernel, by decide +kernel⟩, List.mem_of_getElem? (i := 10) (by decide +kernel), List.mem_of_getElem? (i := 205) (by decide +kernel), List.mem_of_getElem? (i := 206) (by decide +kernel)⟩
theorem lw_p6 : lw_okq (⟨"HeatShelves$History", "record", "(LHeatShelves$State;)V"⟩, 3) := ⟨⟨by decide +kernel, by decide +kernel⟩, List.mem_of_getElem? (i := 83) (by decide +kernel), List.mem_of_getElem? (i := 209) (by decide +kernel), List.mem_of_getElem? (i := 210) (by decide +kernel)⟩
theorem lw_p7 : lw_okq (⟨"HeatShelves$History", "stateAt", "(I)LHeatShelves$State;"⟩, 3) := ⟨⟨by decide +kernel, by decide +kernel⟩, List.mem_of_getElem? (i := 83) (by decide +kernel), List.mem_of_getElem? (i := 213) (by decide +kernel), List.mem_of_getElem? (i := 214) (by decide +kernel)⟩
theorem lw_p8 : lw_okq (⟨"HeatShelves$State", "dropBlock", "(I)I"⟩, 10) := ⟨⟨by decide +kernel, by decide +kernel⟩, List.mem_of_getElem? (i := 18) (by decide +kernel), List.mem_of_getElem? (i := 222) (by decide +kernel), List.mem_of_getElem? (i := 223) (by decide +kernel)⟩
theorem lw_p9 : lw_okq (⟨"HeatShelves$State", "find", "(I)I"⟩, 10) := ⟨⟨by decide +kernel, by decide +kernel⟩, List.mem_of_getElem? (i := 18) (by decide +kernel), List.mem_of_getElem? (i := 226) (by decide +kernel), List.mem_of_getElem? (i := 227) (by decide +kernel)⟩
theorem lw_p10 : lw_okq (⟨"HeatShelves$State", "readBlock", "(II)I"⟩, 10) := ⟨⟨by decide +kernel, by decide +kernel⟩, List.mem_of_getElem? (i := 18) (by decide +kernel), List.mem_of_getElem? (i := 240) (by decide +kernel), List.mem_of_getElem? (i := 241) (by decide +kernel)⟩
theorem lw_p11 : lw_okq (⟨"HeatShelves$State", "readOnce", "(I)I"⟩, 10) := ⟨⟨by decide +kernel, by decide +kernel⟩, List.mem_of_getElem? (i := 18) (by decide +kernel), List.mem_of_getElem? (i := 244) (by decide +kernel), List.mem_of_getElem? (i := 245) (by decide +kernel)⟩
theorem lw_p12 : lw_okq (⟨"HeatShelves$State", "askBack", "(I)I"⟩, 10) := ⟨⟨by decide +kernel, by decide +kernel⟩, List.mem_of_getElem? (i := 18) (by decide +kernel), List.mem_of_getElem? (i := 250) (by decide +kernel), List.mem_of_getElem? (i := 251) (by decide +kernel)⟩
theorem lw_p13 : lw_okq (⟨"HeatShelves$State", "moveTo", "(II)V"⟩, 10) := ⟨⟨by decide +kernel, by decide +kernel⟩, List.mem_of_getElem? (i := 18) (by decide +kernel), List.mem_of_getElem? (i := 254) (by decide +kernel), List.mem_of_getElem? (i := 255) (by decide +kernel)⟩
theorem lw_p14 : lw_okq (⟨"HeatShelves$State", "turnPin", "(IZ)I"⟩, 10) := ⟨⟨by decide +kernel, by decide +kernel⟩, List.mem_of_getElem? (i := 18) (by decide +kernel), List.mem_of_getElem? (i := 262) (by decide +kernel), List.mem_of_getElem? (i := 263) (by decide +kernel)⟩
theorem lw_p15 : lw_okq (⟨"HeatShelves$State", "countPinned", "()I"⟩, 10) := ⟨⟨by decide +kernel, by decide +kernel⟩, List.mem_of_getElem? (i := 18) (by decide +kernel), List.mem_of_getElem? (i := 266) (by decide +kernel), List.mem_of_getElem? (i := 267) (by decide +kernel)⟩
def lw_privs_1 : List (MethodName × Nat) := [(⟨"HeatShelves$State", "copyFrom", "(LHeatShelves$State;)V"⟩, 10), (⟨"HeatShelves$State", "addBlock", "(I)I"⟩, 10), (⟨"HeatShelves$State", "fastestWithRoom", "(I)I"⟩, 10), (⟨"HeatShelves$State", "hasRoom", "(II)Z"⟩, 10), (⟨"HeatShelves$State", "countBlocks", "()I"⟩, 10), (⟨"HeatShelves", "settle", "(I)I"⟩, 7), (⟨"HeatShelves$History", "record", "(LHeatShelves$State;)V"⟩, 3), (⟨"HeatShelves$History", "stateAt", "(I)LHeatShelves$State;"⟩, 3), (⟨"HeatShelves$State", "dropBlock", "(I)I"⟩, 10), (⟨"HeatShelves$State", "find", "(I)I"⟩, 10), (⟨"HeatShelves$State", "readBlock", "(II)I"⟩, 10), (⟨"HeatShelves$State", "readOnce", "(I)I"⟩, 10), (⟨"HeatShelves$State", "askBack", "(I)I"⟩, 10), (⟨"HeatShelves$State", "moveTo", "(II)V"⟩, 10), (⟨"HeatShelves$State", "turnPin", "(IZ)I"⟩, 10), (⟨"HeatShelves$State", "countPinned", "()I"⟩, 10)]
theorem lw_r1 : ∀ q ∈ lw_privs_1, lw_okq q := List.forall_mem_cons.mpr ⟨lw_p0, List.forall_mem_cons.mpr ⟨lw_p1, List.forall_mem_cons.mpr ⟨lw_p2, List.forall_mem_cons.mpr ⟨lw_p3, List.forall_mem_cons.mpr ⟨lw_p4, List.forall_mem_cons.mpr ⟨lw_p5, List.forall_mem_cons.mpr ⟨lw_p6, List.forall_mem_cons.mpr ⟨lw_p7, List.forall_mem_cons.mpr ⟨lw_p8, List.forall_mem_cons.mpr ⟨lw_p9, List.forall_mem_cons.mpr ⟨lw_p10, List.forall_mem_cons.mpr ⟨lw_p11, List.forall_mem_cons.mpr ⟨lw_p12, List.forall_mem_cons.mpr ⟨lw_p13, List.forall_mem_cons.mpr ⟨lw_p14, List.forall_mem_cons.mpr ⟨lw_p15, fun _ h => absurd h List.not_mem_nil⟩⟩⟩⟩⟩⟩⟩⟩⟩⟩⟩⟩⟩⟩⟩⟩
theorem lw_p16 : lw_okq (⟨"HeatShelves", "passInWork", "(I)I"⟩, 7) := ⟨⟨by decide +kernel, by decide +kernel⟩, List.mem_of_getElem? (i := 10) (by decide +kernel), List.mem_of_getElem? (i := 274) (by decide +kernel), List.mem_of_getElem? (i := 275) (by decide +kernel)⟩
theorem lw_p17 : lw_okq (⟨"HeatShelves$Night", "letPass", "(LHeatShelves$State;I)I"⟩, 2) := ⟨⟨by decide +kernel, by decide +kernel⟩, List.mem_of_getElem? (i := 103) (by decide +kernel), List.mem_of_getElem? (i := 279) (by decide +kernel), List.mem_of_getElem? (i := 280) (by decide +kernel)⟩
theorem lw_p18 : lw_okq (⟨"HeatShelves$State", "payNight", "()V"⟩, 10) := ⟨⟨by decide +kernel, by decide +kernel⟩, List.mem_of_getElem? (i := 18) (by decide +kernel), List.mem_of_getElem? (i := 284) (by decide +kernel), List.mem_of_getElem? (i := 285) (by decide +kernel)⟩
theorem lw_p19 : lw_okq (⟨"HeatShelves$State", "nightPriceOfShelf", "(I)I"⟩, 10) := ⟨⟨by decide +kernel, by decide +kernel⟩, List.mem_of_getElem? (i := 18) (by decide +kernel), List.mem_of_getElem? (i := 288) (by decide +kernel), List.mem_of_getElem? (i := 289) (by decide +kernel)⟩
theorem lw_p20 : lw_okq (⟨"HeatShelves$State", "fade", "()V"⟩, 10) := ⟨⟨by decide +kernel, by decide +kernel⟩, List.mem_of_getElem? (i := 18) (by decide +kernel), List.mem_of_getElem? (i := 292) (by decide +kernel), List.mem_of_getElem? (i := 293) (by decide +kernel)⟩
theorem lw_p21 : lw_okq (⟨"HeatShelves$Night", "findWhoMayMove", "(LHeatShelves$State;)V"⟩, 2) := ⟨⟨by decide +kernel, by decide +kernel⟩, List.mem_of_getElem? (i := 103) (by decide +kernel), List.mem_of_getElem? (i := 297) (by decide +kernel), List.mem_of_getElem? (i := 298) (by decide +kernel)⟩
theorem lw_p22 : lw_okq (⟨"HeatShelves$State", "wantedShelf", "(I)I"⟩, 10) := ⟨⟨by decide +kernel, by decide +kernel⟩, List.mem_of_getElem? (i := 18) (by decide +kernel), List.mem_of_getElem? (i := 302) (by decide +kernel), List.mem_of_getElem? (i := 303) (by decide +kernel)⟩
theorem lw_p23 : lw_okq (⟨"HeatShelves$Night", "moveInTurn", "(LHeatShelves$State;ZI)I"⟩, 2) := ⟨⟨by decide +kernel, by decide +kernel⟩, List.mem_of_getElem? (i := 103) (by decide +kernel), List.mem_of_getElem? (i := 307) (by decide +kernel), List.mem_of_getElem? (i := 308) (by decide +kernel)⟩
theorem lw_p24 : lw_okq (⟨"HeatShelves$Night", "nextInTurn", "(LHeatShelves$State;Z)I"⟩, 2) := ⟨⟨by decide +kernel, by decide +kernel⟩, List.mem_of_getElem? (i := 103) (by decide +kernel), List.mem_of_getElem? (i := 311) (by decide +kernel), List.mem_of_getElem? (i := 312) (by decide +kernel)⟩
theorem lw_p25 : lw_okq (⟨"HeatShelves$Night", "shelfToMoveTo", "(LHeatShelves$State;I)I"⟩, 2) := ⟨⟨by decide +kernel, by decide +kernel⟩, List.mem_of_getElem? (i := 103) (by decide +kernel), List.mem_of_getElem? (i := 315) (by decide +kernel), List.mem_of_getElem? (i := 316) (by decide +kernel)⟩
theorem lw_p26 : lw_okq (⟨"HeatShelves$Night", "promiseIfDeep", "(LHeatShelves$State;I)V"⟩, 2) := ⟨⟨by decide +kernel, by decide +kernel⟩, List.mem_of_getElem? (i := 103) (by decide +kernel), List.mem_of_getElem? (i := 324) (by decide +kernel), List.mem_of_getElem? (i := 325) (by decide +kernel)⟩
theorem lw_p27 : lw_okq (⟨"HeatShelves$State", "changeSetting", "(II)I"⟩, 10) := ⟨⟨by decide +kernel, by decide +kernel⟩, List.mem_of_getElem? (i := 18) (by decide +kernel), List.mem_of_getElem? (i := 333) (by decide +kernel), List.mem_of_getElem? (i := 334) (by decide +kernel)⟩
theorem lw_p28 : lw_okq (⟨"HeatShelves$State", "allowsSetting", "(II)Z"⟩, 10) := ⟨⟨by decide +kernel, by decide +kernel⟩, List.mem_of_getElem? (i := 18) (by decide +kernel), List.mem_of_getElem? (i := 339) (by decide +kernel), List.mem_of_getElem? (i := 340) (by decide +kernel)⟩
theorem lw_p29 : lw_okq (⟨"HeatShelves$Orders", "append", "(C)I"⟩, 7) := ⟨⟨by decide +kernel, by decide +kernel⟩, List.mem_of_getElem? (i := 117) (by decide +kernel), List.mem_of_getElem? (i := 347) (by decide +kernel), List.mem_of_getElem? (i := 348) (by decide +kernel)⟩
theorem lw_p30 : lw_okq (⟨"HeatShelves$Orders", "empty", "()I"⟩, 7) := ⟨⟨by decide +kernel, by decide +kernel⟩, List.mem_of_getElem? (i := 117) (by decide +kernel), List.mem_of_getElem? (i := 356) (by decide +kernel), List.mem_of_getElem? (i := 357) (by decide +kernel)⟩
theorem lw_p31 : lw_okq (⟨"HeatShelves$Orders", "readAll", "()I"⟩, 7) := ⟨⟨by decide +kernel, by decide +kernel⟩, List.mem_of_getElem? (i := 117) (by decide +kernel), List.mem_of_getElem? (i := 364) (by decide +kernel), List.mem_of_getElem? (i := 365) (by decide +kernel)⟩
def lw_privs_2 : List (MethodName × Nat) := [(⟨"HeatShelves", "passInWork", "(I)I"⟩, 7), (⟨"HeatShelves$Night", "letPass", "(LHeatShelves$State;I)I"⟩, 2), (⟨"HeatShelves$State", "payNight", "()V"⟩, 10), (⟨"HeatShelves$State", "nightPriceOfShelf", "(I)I"⟩, 10), (⟨"HeatShelves$State", "fade", "()V"⟩, 10), (⟨"HeatShelves$Night", "findWhoMayMove", "(LHeatShelves$State;)V"⟩, 2), (⟨"HeatShelves$State", "wantedShelf", "(I)I"⟩, 10), (⟨"HeatShelves$Night", "moveInTurn", "(LHeatShelves$State;ZI)I"⟩, 2), (⟨"HeatShelves$Night", "nextInTurn", "(LHeatShelves$State;Z)I"⟩, 2), (⟨"HeatShelves$Night", "shelfToMoveTo", "(LHeatShelves$State;I)I"⟩, 2), (⟨"HeatShelves$Night", "promiseIfDeep", "(LHeatShelves$State;I)V"⟩, 2), (⟨"HeatShelves$State", "changeSetting", "(II)I"⟩, 10), (⟨"HeatShelves$State", "allowsSetting", "(II)Z"⟩, 10), (⟨"HeatShelves$Orders", "append", "(C)I"⟩, 7), (⟨"HeatShelves$Orders", "empty", "()I"⟩, 7), (⟨"HeatShelves$Orders", "readAll", "()I"⟩, 7)]
theorem lw_r2 : ∀ q ∈ lw_privs_2, lw_okq q := List.forall_mem_cons.mpr ⟨lw_p16, List.forall_mem_cons.mpr ⟨lw_p17, List.forall_mem_cons.mpr ⟨lw_p18, List.forall_mem_cons.mpr ⟨lw_p19, List.forall_mem_cons.mpr ⟨lw_p20, List.forall_mem_cons.mpr ⟨lw_p21, List.forall_mem_cons.mpr ⟨lw_p22, List.forall_mem_cons.mpr ⟨lw_p23, List.forall_mem_cons.mpr ⟨lw_p24, List.forall_mem_cons.mpr ⟨lw_p25, List.forall_mem_cons.mpr ⟨lw_p26, List.forall_mem_cons.mpr ⟨lw_p27, List.forall_mem_cons.mpr ⟨lw_p28, List.forall_mem_cons.mpr ⟨lw_p29, List.forall_mem_cons.mpr ⟨lw_p30, List.forall_mem_cons.mpr ⟨lw_p31, fun _ h => absurd h List.not_mem_nil⟩⟩⟩⟩⟩⟩⟩⟩⟩⟩⟩⟩⟩⟩⟩⟩
theorem lw_p32 : lw_okq (⟨"HeatShelves$Orders", "readOrder", "()Z"⟩, 7) := ⟨⟨by decide +kernel, by decide +kernel⟩, List.mem_of_getElem? (i := 117) (by decide +kernel), List.mem_of_getElem? (i := 368) (by decide +kernel), List.mem_of_getElem? (i := 369) (by decide +kernel)⟩
theorem lw_p33 : lw_okq (⟨"HeatShelves$Orders", "signHere", "()I"⟩, 7) := ⟨⟨by decide +kernel, by decide +kernel⟩, List.mem_of_getElem? (i := 117) (by decide +kernel), List.mem_of_getElem? (i := 372) (by decide +kernel), List.mem_of_getElem? (i := 373) (by decide +kernel)⟩
theorem lw_p34 : lw_okq (⟨"HeatShelves$Orders", "isKind", "(I)Z"⟩, 7) := ⟨⟨by decide +kernel, by decide +kernel⟩, List.mem_of_getElem? (i := 117) (by decide +kernel), List.mem_of_getElem? (i := 377) (by decide +kernel), List.mem_of_getElem? (i := 378) (by decide +kernel)⟩
theorem lw_p35 : lw_okq (⟨"HeatShelves$Orders", "leastOf", "(I)I"⟩, 7) := ⟨⟨by decide +kernel, by decide +kernel⟩, List.mem_of_getElem? (i := 117) (by decide +kernel), List.mem_of_getElem? (i := 381) (by decide +kernel), List.mem_of_getElem? (i := 382) (by decide +kernel)⟩
theorem lw_p36 : lw_okq (⟨"HeatShelves$Orders", "greatestOf", "(I)I"⟩, 7) := ⟨⟨by decide +kernel, by decide +kernel⟩, List.mem_of_getElem? (i := 117) (by decide +kernel), List.mem_of_getElem? (i := 385) (by decide +kernel), List.mem_of_getElem? (i := 386) (by decide +kernel)⟩
theorem lw_p37 : lw_okq (⟨"HeatShelves$Orders", "readNumber", "(II)I"⟩, 7) := ⟨⟨by decide +kernel, by decide +kernel⟩, List.mem_of_getElem? (i := 117) (by decide +kernel), List.mem_of_getElem? (i := 389) (by decide +kernel), List.mem_of_getElem? (i := 390) (by decide +kernel)⟩
theorem lw_p38 : lw_okq (⟨"HeatShelves$Orders", "digitHere", "()I"⟩, 7) := ⟨⟨by decide +kernel, by decide +kernel⟩, List.mem_of_getElem? (i := 117) (by decide +kernel), List.mem_of_getElem? (i := 393) (by decide +kernel), List.mem_of_getElem? (i := 394) (by decide +kernel)⟩
theorem lw_p39 : lw_okq (⟨"HeatShelves", "performInWork", "(I)I"⟩, 7) := ⟨⟨by decide +kernel, by decide +kernel⟩, List.mem_of_getElem? (i := 10) (by decide +kernel), List.mem_of_getElem? (i := 397) (by decide +kernel), List.mem_of_getElem? (i := 398) (by decide +kernel)⟩
theorem lw_p40 : lw_okq (⟨"HeatShelves$State", "flipPin", "(I)I"⟩, 10) := ⟨⟨by decide +kernel, by decide +kernel⟩, List.mem_of_getElem? (i := 18) (by decide +kernel), List.mem_of_getElem? (i := 401) (by decide +kernel), List.mem_of_getElem? (i := 402) (by decide +kernel)⟩
theorem lw_p41 : lw_okq (⟨"HeatShelves$History", "takeLatest", "(LHeatShelves$State;)Z"⟩, 3) := ⟨⟨by decide +kernel, by decide +kernel⟩, List.mem_of_getElem? (i := 83) (by decide +kernel), List.mem_of_getElem? (i := 410) (by decide +kernel), List.mem_of_getElem? (i := 411) (by decide +kernel)⟩
theorem lw_p42 : lw_okq (⟨"HeatShelves$State", "placeOfRank", "(I)I"⟩, 10) := ⟨⟨by decide +kernel, by decide +kernel⟩, List.mem_of_getElem? (i := 18) (by decide +kernel), List.mem_of_getElem? (i := 427) (by decide +kernel), List.mem_of_getElem? (i := 428) (by decide +kernel)⟩
theorem lw_p43 : lw_okq (⟨"HeatShelves$State", "countHotter", "(I)I"⟩, 10) := ⟨⟨by decide +kernel, by decide +kernel⟩, List.mem_of_getElem? (i := 18) (by decide +kernel), List.mem_of_getElem? (i := 431) (by decide +kernel), List.mem_of_getElem? (i := 432) (by decide +kernel)⟩
theorem lw_p44 : lw_okq (⟨"HeatShelves", "whyItStays", "(I)I"⟩, 7) := ⟨⟨by decide +kernel, by decide +kernel⟩, List.mem_of_getElem? (i := 10) (by decide +kernel), List.mem_of_getElem? (i := 441) (by decide +kernel), List.mem_of_getElem? (i := 442) (by decide +kernel)⟩
theorem lw_p45 : lw_okq (⟨"HeatShelves$State", "countOnShelf", "(I)I"⟩, 10) := ⟨⟨by decide +kernel, by decide +kernel⟩, List.mem_of_getElem? (i := 18) (by decide +kernel), List.mem_of_getElem? (i := 449) (by decide +kernel), List.mem_of_getElem? (i := 450) (by decide +kernel)⟩
theorem lw_p46 : lw_okq (⟨"HeatShelves$State", "heatOnShelf", "(I)I"⟩, 10) := ⟨⟨by decide +kernel, by decide +kernel⟩, List.mem_of_getElem? (i := 18) (by decide +kernel), List.mem_of_getElem? (i := 453) (by decide +kernel), List.mem_of_getElem? (i := 454) (by decide +kernel)⟩
theorem lw_p47 : lw_okq (⟨"HeatShelves$State", "heatOfAll", "()I"⟩, 10) := ⟨⟨by decide +kernel, by decide +kernel⟩, List.mem_of_getElem? (i := 18) (by decide +kernel), List.mem_of_getElem? (i := 463) (by decide +kernel), List.mem_of_getElem? (i := 464) (by decide +kernel)⟩
def lw_privs_3 : List (MethodName × Nat) := [(⟨"HeatShelves$Orders", "readOrder", "()Z"⟩, 7), (⟨"HeatShelves$Orders", "signHere", "()I"⟩, 7), (⟨"HeatShelves$Orders", "isKind", "(I)Z"⟩, 7), (⟨"HeatShelves$Orders", "leastOf", "(I)I"⟩, 7), (⟨"HeatShelves$Orders", "greatestOf", "(I)I"⟩, 7), (⟨"HeatShelves$Orders", "readNumber", "(II)I"⟩, 7), (⟨"HeatShelves$Orders", "digitHere", "()I"⟩, 7), (⟨"HeatShelves", "performInWork", "(I)I"⟩, 7), (⟨"HeatShelves$State", "flipPin", "(I)I"⟩, 10), (⟨"HeatShelves$History", "takeLatest", "(LHeatShelves$State;)Z"⟩, 3), (⟨"HeatShelves$State", "placeOfRank", "(I)I"⟩, 10), (⟨"HeatShelves$State", "countHotter", "(I)I"⟩, 10), (⟨"HeatShelves", "whyItStays", "(I)I"⟩, 7), (⟨"HeatShelves$State", "countOnShelf", "(I)I"⟩, 10), (⟨"HeatShelves$State", "heatOnShelf", "(I)I"⟩, 10), (⟨"HeatShelves$State", "heatOfAll", "()I"⟩, 10)]
theorem lw_r3 : ∀ q ∈ lw_privs_3, lw_okq q := List.forall_mem_cons.mpr ⟨lw_p32, List.forall_mem_cons.mpr ⟨lw_p33, List.forall_mem_cons.mpr ⟨lw_p34, List.forall_mem_cons.mpr ⟨lw_p35, List.forall_mem_cons.mpr ⟨lw_p36, List.forall_mem_cons.mpr ⟨lw_p37, List.forall_mem_cons.mpr ⟨lw_p38, List.forall_mem_cons.mpr ⟨lw_p39, List.forall_mem_cons.mpr ⟨lw_p40, List.forall_mem_cons.mpr ⟨lw_p41, List.forall_mem_cons.mpr ⟨lw_p42, List.forall_mem_cons.mpr ⟨lw_p43, List.forall_mem_cons.mpr ⟨lw_p44, List.forall_mem_cons.mpr ⟨lw_p45, List.forall_mem_cons.mpr ⟨lw_p46, List.forall_mem_cons.mpr ⟨lw_p47, fun _ h => absurd h List.not_mem_nil⟩⟩⟩⟩⟩⟩⟩⟩⟩⟩⟩⟩⟩⟩⟩⟩
theorem lw_p48 : lw_okq (⟨"HeatShelves", "paidForNightsInWork", "()I"⟩, 7) := ⟨⟨by decide +kernel, by decide +kernel⟩, List.mem_of_getElem? (i := 10) (by decide +kernel), List.mem_of_getElem? (i := 472) (by decide +kernel), List.mem_of_getElem? (i := 473) (by decide +kernel)⟩
theorem lw_p49 : lw_okq (⟨"HeatShelves", "paidWithHot", "(II)I"⟩, 7) := ⟨⟨by decide +kernel, by decide +kernel⟩, List.mem_of_getElem? (i := 10) (by decide +kernel), List.mem_of_getElem? (i := 485) (by decide +kernel), List.mem_of_getElem? (i := 486) (by decide +kernel)⟩
theorem lw_p50 : lw_okq (⟨"HeatShelves", "priceOfStay", "(III)I"⟩, 7) := ⟨⟨by decide +kernel, by decide +kernel⟩, List.mem_of_getElem? (i := 10) (by decide +kernel), List.mem_of_getElem? (i := 494) (by decide +kernel), List.mem_of_getElem? (i := 495) (by decide +kernel)⟩
theorem lw_p51 : lw_okq (⟨"HeatShelvesModel", "copies", "()V"⟩, 8) := ⟨⟨by decide +kernel, by decide +kernel⟩, List.mem_of_getElem? (i := 498) (by decide +kernel), List.mem_of_getElem? (i := 536) (by decide +kernel), List.mem_of_getElem? (i := 537) (by decide +kernel)⟩
theorem lw_p52 : lw_okq (⟨"HeatShelvesModel", "adds", "(I)I"⟩, 8) := ⟨⟨by decide +kernel, by decide +kernel⟩, List.mem_of_getElem? (i := 498) (by decide +kernel), List.mem_of_getElem? (i := 540) (by decide +kernel), List.mem_of_getElem? (i := 541) (by decide +kernel)⟩
theorem lw_p53 : lw_okq (⟨"HeatShelvesModel", "hasRoom", "(III)Z"⟩, 8) := ⟨⟨by decide +kernel, by decide +kernel⟩, List.mem_of_getElem? (i := 498) (by decide +kernel), List.mem_of_getElem? (i := 544) (by decide +kernel), List.mem_of_getElem? (i := 545) (by decide +kernel)⟩
theorem lw_p54 : lw_okq (⟨"HeatShelvesModel", "on", "(III)I"⟩, 8) := ⟨⟨by decide +kernel, by decide +kernel⟩, List.mem_of_getElem? (i := 498) (by decide +kernel), List.mem_of_getElem? (i := 548) (by decide +kernel), List.mem_of_getElem? (i := 549) (by decide +kernel)⟩
theorem lw_p55 : lw_okq (⟨"HeatShelvesModel", "changes", "(I)I"⟩, 8) := ⟨⟨by decide +kernel, by decide +kernel⟩, List.mem_of_getElem? (i := 498) (by decide +kernel), List.mem_of_getElem? (i := 555) (by decide +kernel), List.mem_of_getElem? (i := 556) (by decide +kernel)⟩
theorem lw_p56 : lw_okq (⟨"HeatShelvesModel", "lays", "()V"⟩, 8) := ⟨⟨by decide +kernel, by decide +kernel⟩, List.mem_of_getElem? (i := 498) (by decide +kernel), List.mem_of_getElem? (i := 559) (by decide +kernel), List.mem_of_getElem? (i := 560) (by decide +kernel)⟩
theorem lw_p57 : lw_okq (⟨"HeatShelvesModel", "remembers", "()V"⟩, 8) := ⟨⟨by decide +kernel, by decide +kernel⟩, List.mem_of_getElem? (i := 498) (by decide +kernel), List.mem_of_getElem? (i := 563) (by decide +kernel), List.mem_of_getElem? (i := 564) (by decide +kernel)⟩
theorem lw_p58 : lw_okq (⟨"HeatShelvesModel", "removes", "(I)I"⟩, 8) := ⟨⟨by decide +kernel, by decide +kernel⟩, List.mem_of_getElem? (i := 498) (by decide +kernel), List.mem_of_getElem? (i := 571) (by decide +kernel), List.mem_of_getElem? (i := 572) (by decide +kernel)⟩
theorem lw_p59 : lw_okq (⟨"HeatShelvesModel", "placeOf", "(II)I"⟩, 8) := ⟨⟨by decide +kernel, by decide +kernel⟩, List.mem_of_getElem? (i := 498) (by decide +kernel), List.mem_of_getElem? (i := 575) (by decide +kernel), List.mem_of_getElem? (i := 576) (by decide +kernel)⟩
theorem lw_p60 : lw_okq (⟨"HeatShelvesModel", "reads", "(II)I"⟩, 8) := ⟨⟨by decide +kernel, by decide +kernel⟩, List.mem_of_getElem? (i := 498) (by decide +kernel), List.mem_of_getElem? (i := 583) (by decide +kernel), List.mem_of_getElem? (i := 584) (by decide +kernel)⟩
theorem lw_p61 : lw_okq (⟨"HeatShelvesModel", "readsOne", "(I)I"⟩, 8) := ⟨⟨by decide +kernel, by decide +kernel⟩, List.mem_of_getElem? (i := 498) (by decide +kernel), List.mem_of_getElem? (i := 587) (by decide +kernel), List.mem_of_getElem? (i := 588) (by decide +kernel)⟩
theorem lw_p62 : lw_okq (⟨"HeatShelvesModel", "turnsPin", "(I)I"⟩, 8) := ⟨⟨by decide +kernel, by decide +kernel⟩, List.mem_of_getElem? (i := 498) (by decide +kernel), List.mem_of_getElem? (i := 596) (by decide +kernel), List.mem_of_getElem? (i := 597) (by decide +kernel)⟩
theorem lw_p63 : lw_okq (⟨"HeatShelvesModel", "pinned", "(I)I"⟩, 8) := ⟨⟨by decide +kernel, by decide +kernel⟩, List.mem_of_getElem? (i := 498) (by decide +kernel), List.mem_of_getElem? (i := 600) (by decide +kernel), List.mem_of_getElem? (i := 601) (by decide +kernel)⟩
def lw_privs_4 : List (MethodName × Nat) := [(⟨"HeatShelves", "paidForNightsInWork", "()I"⟩, 7), (⟨"HeatShelves", "paidWithHot", "(II)I"⟩, 7), (⟨"HeatShelves", "priceOfStay", "(III)I"⟩, 7), (⟨"HeatShelvesModel", "copies", "()V"⟩, 8), (⟨"HeatShelvesModel", "adds", "(I)I"⟩, 8), (⟨"HeatShelvesModel", "hasRoom", "(III)Z"⟩, 8), (⟨"HeatShelvesModel", "on", "(III)I"⟩, 8), (⟨"HeatShelvesModel", "changes", "(I)I"⟩, 8), (⟨"HeatShelvesModel", "lays", "()V"⟩, 8), (⟨"HeatShelvesModel", "remembers", "()V"⟩, 8), (⟨"HeatShelvesModel", "removes", "(I)I"⟩, 8), (⟨"HeatShelvesModel", "placeOf", "(II)I"⟩, 8), (⟨"HeatShelvesModel", "reads", "(II)I"⟩, 8), (⟨"HeatShelvesModel", "readsOne", "(I)I"⟩, 8), (⟨"HeatShelvesModel", "turnsPin", "(I)I"⟩, 8), (⟨"HeatShelvesModel", "pinned", "(I)I"⟩, 8)]
theorem lw_r4 : ∀ q ∈ lw_privs_4, lw_okq q := List.forall_mem_cons.mpr ⟨lw_p48, List.forall_mem_cons.mpr ⟨lw_p49, List.forall_mem_cons.mpr ⟨lw_p50, List.forall_mem_cons.mpr ⟨lw_p51, List.forall_mem_cons.mpr ⟨lw_p52, List.forall_mem_cons.mpr ⟨lw_p53, List.forall_mem_cons.mpr ⟨lw_p54, List.forall_mem_cons.mpr ⟨lw_p55, List.forall_mem_cons.mpr ⟨lw_p56, List.forall_mem_cons.mpr ⟨lw_p57, List.forall_mem_cons.mpr ⟨lw_p58, List.forall_mem_cons.mpr ⟨lw_p59, List.forall_mem_cons.mpr ⟨lw_p60, List.forall_mem_cons.mpr ⟨lw_p61, List.forall_mem_cons.mpr ⟨lw_p62, List.forall_mem_cons.mpr ⟨lw_p63, fun _ h => absurd h List.not_mem_nil⟩⟩⟩⟩⟩⟩⟩⟩⟩⟩⟩⟩⟩⟩⟩⟩
theorem lw_p64 : lw_okq (⟨"HeatShelvesModel", "passesIn", "(I)I"⟩, 8) := ⟨⟨by decide +kernel, by decide +kernel⟩, List.mem_of_getElem? (i := 498) (by decide +kernel), List.mem_of_getElem? (i := 608) (by decide +kernel), List.mem_of_getElem? (i := 609) (by decide +kernel)⟩
theorem lw_p65 : lw_okq (⟨"HeatShelvesModel", "passes", "(II)I"⟩, 8) := ⟨⟨by decide +kernel, by decide +kernel⟩, List.mem_of_getElem? (i := 498) (by decide +kernel), List.mem_of_getElem? (i := 612) (by decide +kernel), List.mem_of_getElem? (i := 613) (by decide +kernel)⟩
theorem lw_p66 : lw_okq (⟨"HeatShelvesModel", "passesOne", "(I)I"⟩, 8) := ⟨⟨by decide +kernel, by decide +kernel⟩, List.mem_of_getElem? (i := 498) (by decide +kernel), List.mem_of_getElem? (i := 616) (by decide +kernel), List.mem_of_getElem? (i := 617) (by decide +kernel)⟩
theorem lw_p67 : lw_okq (⟨"HeatShelvesModel", "costs", "(II)I"⟩, 8) := ⟨⟨by decide +kernel, by decide +kernel⟩, List.mem_of_getElem? (i := 498) (by decide +kernel), List.mem_of_getElem? (i := 620) (by decide +kernel), List.mem_of_getElem? (i := 621) (by decide +kernel)⟩
theorem lw_p68 : lw_okq (⟨"HeatShelvesModel", "wanted", "(II)I"⟩, 8) := ⟨⟨by decide +kernel, by decide +kernel⟩, List.mem_of_getElem? (i := 498) (by decide +kernel), List.mem_of_getElem? (i := 624) (by decide +kernel), List.mem_of_getElem? (i := 625) (by decide +kernel)⟩
theorem lw_p69 : lw_okq (⟨"HeatShelvesModel", "turns", "(IZI)I"⟩, 8) := ⟨⟨by decide +kernel, by decide +kernel⟩, List.mem_of_getElem? (i := 498) (by decide +kernel), List.mem_of_getElem? (i := 628) (by decide +kernel), List.mem_of_getElem? (i := 629) (by decide +kernel)⟩
theorem lw_p70 : lw_okq (⟨"HeatShelvesModel", "next", "(IZ)I"⟩, 8) := ⟨⟨by decide +kernel, by decide +kernel⟩, List.mem_of_getElem? (i := 498) (by decide +kernel), List.mem_of_getElem? (i := 632) (by decide +kernel), List.mem_of_getElem? (i := 633) (by decide +kernel)⟩
theorem lw_p71 : lw_okq (⟨"HeatShelvesModel", "target", "(II)I"⟩, 8) := ⟨⟨by decide +kernel, by decide +kernel⟩, List.mem_of_getElem? (i := 498) (by decide +kernel), List.mem_of_getElem? (i := 636) (by decide +kernel), List.mem_of_getElem? (i := 637) (by decide +kernel)⟩
theorem lw_p72 : lw_okq (⟨"HeatShelvesModel", "fault", "()I"⟩, 8) := ⟨⟨by decide +kernel, by decide +kernel⟩, List.mem_of_getElem? (i := 498) (by decide +kernel), List.mem_of_getElem? (i := 659) (by decide +kernel), List.mem_of_getElem? (i := 660) (by decide +kernel)⟩
theorem lw_p73 : lw_okq (⟨"HeatShelvesModel", "orderEnd", "(I)I"⟩, 8) := ⟨⟨by decide +kernel, by decide +kernel⟩, List.mem_of_getElem? (i := 498) (by decide +kernel), List.mem_of_getElem? (i := 663) (by decide +kernel), List.mem_of_getElem? (i := 664) (by decide +kernel)⟩
theorem lw_p74 : lw_okq (⟨"HeatShelvesModel", "sign", "(I)I"⟩, 8) := ⟨⟨by decide +kernel, by decide +kernel⟩, List.mem_of_getElem? (i := 498) (by decide +kernel), List.mem_of_getElem? (i := 667) (by decide +kernel), List.mem_of_getElem? (i := 668) (by decide +kernel)⟩
theorem lw_p75 : lw_okq (⟨"HeatShelvesModel", "numberEnd", "(III)I"⟩, 8) := ⟨⟨by decide +kernel, by decide +kernel⟩, List.mem_of_getElem? (i := 498) (by decide +kernel), List.mem_of_getElem? (i := 671) (by decide +kernel), List.mem_of_getElem? (i := 672) (by decide +kernel)⟩
theorem lw_p76 : lw_okq (⟨"HeatShelvesModel", "digit", "(I)I"⟩, 8) := ⟨⟨by decide +kernel, by decide +kernel⟩, List.mem_of_getElem? (i := 498) (by decide +kernel), List.mem_of_getElem? (i := 675) (by decide +kernel), List.mem_of_getElem? (i := 676) (by decide +kernel)⟩
theorem lw_p77 : lw_okq (⟨"HeatShelvesModel", "does", "(I)I"⟩, 8) := ⟨⟨by decide +kernel, by decide +kernel⟩, List.mem_of_getElem? (i := 498) (by decide +kernel), List.mem_of_getElem? (i := 679) (by decide +kernel), List.mem_of_getElem? (i := 680) (by decide +kernel)⟩
theorem lw_p78 : lw_okq (⟨"HeatShelvesModel", "numberAt", "(I)I"⟩, 8) := ⟨⟨by decide +kernel, by decide +kernel⟩, List.mem_of_getElem? (i := 498) (by decide +kernel), List.mem_of_getElem? (i := 683) (by decide +kernel), List.mem_of_getElem? (i := 684) (by decide +kernel)⟩
theorem lw_p79 : lw_okq (⟨"HeatShelvesModel", "whyStays", "(I)I"⟩, 8) := ⟨⟨by decide +kernel, by decide +kernel⟩, List.mem_of_getElem? (i := 498) (by decide +kernel), List.mem_of_getElem? (i := 707) (by decide +kernel), List.mem_of_getElem? (i := 708) (by decide +kernel)⟩
def lw_privs_5 : List (MethodName × Nat) := [(⟨"HeatShelvesModel", "passesIn", "(I)I"⟩, 8), (⟨"HeatShelvesModel", "passes", "(II)I"⟩, 8), (⟨"HeatShelvesModel", "passesOne", "(I)I"⟩, 8), (⟨"HeatShelvesModel", "costs", "(II)I"⟩, 8), (⟨"HeatShelvesModel", "wanted", "(II)I"⟩, 8), (⟨"HeatShelvesModel", "turns", "(IZI)I"⟩, 8), (⟨"HeatShelvesModel", "next", "(IZ)I"⟩, 8), (⟨"HeatShelvesModel", "target", "(II)I"⟩, 8), (⟨"HeatShelvesModel", "fault", "()I"⟩, 8), (⟨"HeatShelvesModel", "orderEnd", "(I)I"⟩, 8), (⟨"HeatShelvesModel", "sign", "(I)I"⟩, 8), (⟨"HeatShelvesModel", "numberEnd", "(III)I"⟩, 8), (⟨"HeatShelvesModel", "digit", "(I)I"⟩, 8), (⟨"HeatShelvesModel", "does", "(I)I"⟩, 8), (⟨"HeatShelvesModel", "numberAt", "(I)I"⟩, 8), (⟨"HeatShelvesModel", "whyStays", "(I)I"⟩, 8)]
theorem lw_r5 : ∀ q ∈ lw_privs_5, lw_okq q := List.forall_mem_cons.mpr ⟨lw_p64, List.forall_mem_cons.mpr ⟨lw_p65, List.forall_mem_cons.mpr ⟨lw_p66, List.forall_mem_cons.mpr ⟨lw_p67, List.forall_mem_cons.mpr ⟨lw_p68, List.forall_mem_cons.mpr ⟨lw_p69, List.forall_mem_cons.mpr ⟨lw_p70, List.forall_mem_cons.mpr ⟨lw_p71, List.forall_mem_cons.mpr ⟨lw_p72, List.forall_mem_cons.mpr ⟨lw_p73, List.forall_mem_cons.mpr ⟨lw_p74, List.forall_mem_cons.mpr ⟨lw_p75, List.forall_mem_cons.mpr ⟨lw_p76, List.forall_mem_cons.mpr ⟨lw_p77, List.forall_mem_cons.mpr ⟨lw_p78, List.forall_mem_cons.mpr ⟨lw_p79, fun _ h => absurd h List.not_mem_nil⟩⟩⟩⟩⟩⟩⟩⟩⟩⟩⟩⟩⟩⟩⟩⟩
theorem lw_p80 : lw_okq (⟨"HeatShelvesModel", "heat", "(I)I"⟩, 8) := ⟨⟨by decide +kernel, by decide +kernel⟩, List.mem_of_getElem? (i := 498) (by decide +kernel), List.mem_of_getElem? (i := 719) (by decide +kernel), List.mem_of_getElem? (i := 720) (by decide +kernel)⟩
def lw_privs_6 : List (MethodName × Nat) := [(⟨"HeatShelvesModel", "heat", "(I)I"⟩, 8)]
theorem lw_r6 : ∀ q ∈ lw_privs_6, lw_okq q := List.forall_mem_cons.mpr ⟨lw_p80, fun _ h => absurd h List.not_mem_nil⟩
def lw_privs : List (MethodName × Nat) := lw_privs_1 ++ (lw_privs_2 ++ (lw_privs_3 ++ (lw_privs_4 ++ (lw_privs_5 ++ (lw_privs_6)))))
def lw_tbl : List Cond := k2_sels lw_privs ++ tables_1
theorem lw_privs_ok : ∀ q ∈ lw_privs, lw_okq q := by
  show ∀ q ∈ lw_privs_1 ++ (lw_privs_2 ++ (lw_privs_3 ++ (lw_privs_4 ++ (lw_privs_5 ++ (lw_privs_6))))), lw_okq q
  exact List.forall_mem_append.mpr ⟨lw_r1, List.forall_mem_append.mpr ⟨lw_r2, List.forall_mem_append.mpr ⟨lw_r3, List.forall_mem_append.mpr ⟨lw_r4, List.forall_mem_append.mpr ⟨lw_r5, lw_r6⟩⟩⟩⟩⟩
-- ===== end of PART A; then your names; then what follows =====
/-! ===== BEGIN words of one list among another's, by their places ===== -/
theorem goodIn_r {big : List Cond} (ws : List Cond) (ps : List Nat) (hp : ws = ps.filterMap (fun i => big[i]?)) (h : ws.all goodWord = true) : GoodIn big ws := by
  intro w hw
  have h1 := List.all_eq_true.mp h w hw
  rw [hp] at hw
  obtain ⟨i, -, hi⟩ := List.mem_filterMap.mp hw
  have hm : w ∈ big := by first | exact List.mem_of_getElem? hi | exact List.getElem?_mem hi
  exact ⟨hm, good_of_word h1⟩
theorem goodIn_app {big a b : List Cond} (ha : GoodIn big a) (hb : GoodIn big b) : GoodIn big (a ++ b) := fun w h => (List.mem_append.mp h).elim (ha w) (hb w)
theorem goodIn_ca {big a b : List Cond} {c : Cond} (ha : GoodIn big (c :: a)) (hb : GoodIn big b) : GoodIn big (c :: (a ++ b)) := fun w h => (List.mem_cons.mp h).elim (fun e => ha w (List.mem_cons.mpr (Or.inl e))) (fun h => (List.mem_append.mp h).elim (fun h => ha w (List.mem_cons.mpr (Or.inr h))) (hb w))
theorem goodIn_sub {big ws : List Cond} (hm : ∀ w ∈ ws, w ∈ big) (h : ws.all goodWord = true) : GoodIn big ws := fun w hw => ⟨hm w hw, good_of_word (List.all_eq_true.mp h w hw)⟩
/-! ===== END ===== -/

/-! ===== BEGIN printed: names, fields, word lists, decode rows ===== -/
def RX0 : String := "HeatShelves$History"
def TX0 : u_T := fun k => match k with
  | 0 => ("HeatShelves$History", "states", "[LHeatShelves$State;", true)
  | 1 => ("HeatShelves$History", "first", "I", false)
  | _ => ("HeatShelves$History", "count", "I", false)
def tyX0 : Nat → FieldType := fun k => match k with
  | 0 => .array (.object "HeatShelves$State")
  | 1 => .int
  | _ => .int
abbrev wsX00 : List Cond := u_ws RX0 TX0 3
theorem nmX0 : ∀ a, a < 3 → ∀ b, b < 3 → a ≠ b → (TX0 a).2.1 ≠ (TX0 b).2.1 := by decide +kernel
theorem tyX0_ok : ∀ k, k < 3 → parseFieldDescriptor (TX0 k).2.2.1 = some (tyX0 k) := by decide +kernel
abbrev cX0_init : ByteArray := prog_2_method_1_code
def yX0_init : MethodName := ⟨RX0, "<init>", "()V"⟩
abbrev cX0_stateAt : ByteArray := prog_2_method_2_code
def yX0_stateAt : MethodName := ⟨RX0, "stateAt", "(I)LHeatShelves$State;"⟩
abbrev cX0_record : ByteArray := prog_2_method_3_code
def yX0_record : MethodName := ⟨RX0, "record", "(LHeatShelves$State;)V"⟩
abbrev cX0_takeLatest : ByteArray := prog_2_method_4_code
def yX0_takeLatest : MethodName := ⟨RX0, "takeLatest", "(LHeatShelves$State;)Z"⟩
def RX1 : String := "HeatShelves$Night"
def TX1 : u_T := fun k => match k with
  | 0 => ("HeatShelves$Night", "wanted", "[I", true)
  | _ => ("HeatShelves$Night", "reasons", "[I", true)
def tyX1 : Nat → FieldType := fun k => match k with
  | 0 => .array .int
  | _ => .array .int
abbrev wsX10 : List Cond := u_ws RX1 TX1 2
theorem nmX1 : ∀ a, a < 2 → ∀ b, b < 2 → a ≠ b → (TX1 a).2.1 ≠ (TX1 b).2.1 := by decide +kernel
theorem tyX1_ok : ∀ k, k < 2 → parseFieldDescriptor (TX1 k).2.2.1 = some (tyX1 k) := by decide +kernel
abbrev cX1_init : ByteArray := prog_3_method_1_code
def yX1_init : MethodName := ⟨RX1, "<init>", "()V"⟩
abbrev cX1_letPass : ByteArray := prog_3_method_2_code
def yX1_letPass : MethodName := ⟨RX1, "letPass", "(LHeatShelves$State;I)I"⟩
abbrev cX1_findWhoMayMove : ByteArray := prog_3_method_3_code
def yX1_findWhoMayMove : MethodName := ⟨RX1, "findWhoMayMove", "(LHeatShelves$State;)V"⟩
abbrev cX1_moveInTurn : ByteArray := prog_3_method_4_code
def yX1_moveInTurn : MethodName := ⟨RX1, "moveInTurn", "(LHeatShelves$State;ZI)I"⟩
abbrev cX1_nextInTurn : ByteArray := prog_3_method_5_code
def yX1_nextInTurn : MethodName := ⟨RX1, "nextInTurn", "(LHeatShelves$State;Z)I"⟩
abbrev cX1_shelfToMoveTo : ByteArray := prog_3_method_6_code
def yX1_shelfToMoveTo : MethodName := ⟨RX1, "shelfToMoveTo", "(LHeatShelves$State;I)I"⟩
abbrev cX1_promiseIfDeep : ByteArray := prog_3_method_7_code
def yX1_promiseIfDeep : MethodName := ⟨RX1, "promiseIfDeep", "(LHeatShelves$State;I)V"⟩
def RX2 : String := "HeatShelves$Orders"
def TX2 : u_T := fun k => match k with
  | 0 => ("HeatShelves$Orders", "signs", "[I", true)
  | 1 => ("HeatShelves$Orders", "length", "I", false)
  | 2 => ("HeatShelves$Orders", "kinds", "[I", true)
  | 3 => ("HeatShelves$Orders", "values", "[I", true)
  | 4 => ("HeatShelves$Orders", "times", "[I", true)
  | 5 => ("HeatShelves$Orders", "count", "I", false)
  | _ => ("HeatShelves$Orders", "place", "I", false)
def tyX2 : Nat → FieldType := fun k => match k with
  | 0 => .array .int
  | 1 => .int
  | 2 => .array .int
  | 3 => .array .int
  | 4 => .array .int
  | 5 => .int
  | _ => .int
abbrev wsX20 : List Cond := u_ws RX2 TX2 7
theorem nmX2 : ∀ a, a < 7 → ∀ b, b < 7 → a ≠ b → (TX2 a).2.1 ≠ (TX2 b).2.1 := by decide +kernel
theorem tyX2_ok : ∀ k, k < 7 → parseFieldDescriptor (TX2 k).2.2.1 = some (tyX2 k) := by decide +kernel
abbrev cX2_init : ByteArray := prog_4_method_1_code
def yX2_init : MethodName := ⟨RX2, "<init>", "()V"⟩
abbrev cX2_append : ByteArray := prog_4_method_2_code
def yX2_append : MethodName := ⟨RX2, "append", "(C)I"⟩
abbrev cX2_empty : ByteArray := prog_4_method_3_code
def yX2_empty : MethodName := ⟨RX2, "empty", "()I"⟩
abbrev cX2_readAll : ByteArray := prog_4_method_4_code
def yX2_readAll : MethodName := ⟨RX2, "readAll", "()I"⟩
abbrev cX2_readOrder : ByteArray := prog_4_method_5_code
def yX2_readOrder : MethodName := ⟨RX2, "readOrder", "()Z"⟩
abbrev cX2_isKind : ByteArray := prog_4_method_6_code
def yX2_isKind : MethodName := ⟨RX2, "isKind", "(I)Z"⟩
abbrev cX2_leastOf : ByteArray := prog_4_method_7_code
def yX2_leastOf : MethodName := ⟨RX2, "leastOf", "(I)I"⟩
abbrev cX2_greatestOf : ByteArray := prog_4_method_8_code
def yX2_greatestOf : MethodName := ⟨RX2, "greatestOf", "(I)I"⟩
abbrev cX2_readNumber : ByteArray := prog_4_method_9_code
def yX2_readNumber : MethodName := ⟨RX2, "readNumber", "(II)I"⟩
abbrev cX2_digitHere : ByteArray := prog_4_method_10_code
def yX2_digitHere : MethodName := ⟨RX2, "digitHere", "()I"⟩
abbrev cX2_signHere : ByteArray := prog_4_method_11_code
def yX2_signHere : MethodName := ⟨RX2, "signHere", "()I"⟩
def RX3 : String := "HeatShelves$State"
def TX3 : u_T := fun k => match k with
  | 0 => ("HeatShelves$State", "numbers", "[I", true)
  | 1 => ("HeatShelves$State", "taken", "[I", true)
  | 2 => ("HeatShelves$State", "names", "[I", true)
  | 3 => ("HeatShelves$State", "sizes", "[I", true)
  | 4 => ("HeatShelves$State", "heats", "[I", true)
  | 5 => ("HeatShelves$State", "shelves", "[I", true)
  | 6 => ("HeatShelves$State", "pins", "[I", true)
  | 7 => ("HeatShelves$State", "promises", "[I", true)
  | 8 => ("HeatShelves$State", "readings", "[I", true)
  | _ => ("HeatShelves$State", "moves", "[I", true)
def tyX3 : Nat → FieldType := fun k => match k with
  | 0 => .array .int
  | 1 => .array .int
  | 2 => .array .int
  | 3 => .array .int
  | 4 => .array .int
  | 5 => .array .int
  | 6 => .array .int
  | 7 => .array .int
  | 8 => .array .int
  | _ => .array .int
abbrev wsX30 : List Cond := u_ws RX3 TX3 10
theorem nmX3 : ∀ a, a < 10 → ∀ b, b < 10 → a ≠ b → (TX3 a).2.1 ≠ (TX3 b).2.1 := by decide +kernel
theorem tyX3_ok : ∀ k, k < 10 → parseFieldDescriptor (TX3 k).2.2.1 = some (tyX3 k) := by decide +kernel
abbrev cX3_init : ByteArray := prog_5_method_1_code
def yX3_init : MethodName := ⟨RX3, "<init>", "()V"⟩
abbrev cX3_copyFrom : ByteArray := prog_5_method_2_code
def yX3_copyFrom : MethodName := ⟨RX3, "copyFrom", "(LHeatShelves$State;)V"⟩
abbrev cX3_countBlocks : ByteArray := prog_5_method_3_code
def yX3_countBlocks : MethodName := ⟨RX3, "countBlocks", "()I"⟩
abbrev cX3_find : ByteArray := prog_5_method_4_code
def yX3_find : MethodName := ⟨RX3, "find", "(I)I"⟩
abbrev cX3_placeOfRank : ByteArray := prog_5_method_5_code
def yX3_placeOfRank : MethodName := ⟨RX3, "placeOfRank", "(I)I"⟩
abbrev cX3_countHotter : ByteArray := prog_5_method_6_code
def yX3_countHotter : MethodName := ⟨RX3, "countHotter", "(I)I"⟩
abbrev cX3_wantedShelf : ByteArray := prog_5_method_7_code
def yX3_wantedShelf : MethodName := ⟨RX3, "wantedShelf", "(I)I"⟩
abbrev cX3_hasRoom : ByteArray := prog_5_method_8_code
def yX3_hasRoom : MethodName := ⟨RX3, "hasRoom", "(II)Z"⟩
abbrev cX3_countOnShelf : ByteArray := prog_5_method_9_code
def yX3_countOnShelf : MethodName := ⟨RX3, "countOnShelf", "(I)I"⟩
abbrev cX3_heatOnShelf : ByteArray := prog_5_method_10_code
def yX3_heatOnShelf : MethodName := ⟨RX3, "heatOnShelf", "(I)I"⟩
abbrev cX3_heatOfAll : ByteArray := prog_5_method_11_code
def yX3_heatOfAll : MethodName := ⟨RX3, "heatOfAll", "()I"⟩
abbrev cX3_nightPriceOfShelf : ByteArray := prog_5_method_12_code
def yX3_nightPriceOfShelf : MethodName := ⟨RX3, "nightPriceOfShelf", "(I)I"⟩
abbrev cX3_countPinned : ByteArray := prog_5_method_13_code
def yX3_countPinned : MethodName := ⟨RX3, "countPinned", "()I"⟩
abbrev cX3_addBlock : ByteArray := prog_5_method_14_code
def yX3_addBlock : MethodName := ⟨RX3, "addBlock", "(I)I"⟩
abbrev cX3_fastestWithRoom : ByteArray := prog_5_method_15_code
def yX3_fastestWithRoom : MethodName := ⟨RX3, "fastestWithRoom", "(I)I"⟩
abbrev cX3_dropBlock : ByteArray := prog_5_method_16_code
def yX3_dropBlock : MethodName := ⟨RX3, "dropBlock", "(I)I"⟩
abbrev cX3_readBlock : ByteArray := prog_5_method_17_code
def yX3_readBlock : MethodName := ⟨RX3, "readBlock", "(II)I"⟩
abbrev cX3_readOnce : ByteArray := prog_5_method_18_code
def yX3_readOnce : MethodName := ⟨RX3, "readOnce", "(I)I"⟩
abbrev cX3_askBack : ByteArray := prog_5_method_19_code
def yX3_askBack : MethodName := ⟨RX3, "askBack", "(I)I"⟩
abbrev cX3_moveTo : ByteArray := prog_5_method_20_code
def yX3_moveTo : MethodName := ⟨RX3, "moveTo", "(II)V"⟩
abbrev cX3_payNight : ByteArray := prog_5_method_21_code
def yX3_payNight : MethodName := ⟨RX3, "payNight", "()V"⟩
abbrev cX3_fade : ByteArray := prog_5_method_22_code
def yX3_fade : MethodName := ⟨RX3, "fade", "()V"⟩
abbrev cX3_turnPin : ByteArray := prog_5_method_23_code
def yX3_turnPin : MethodName := ⟨RX3, "turnPin", "(IZ)I"⟩
abbrev cX3_flipPin : ByteArray := prog_5_method_24_code
def yX3_flipPin : MethodName := ⟨RX3, "flipPin", "(I)I"⟩
abbrev cX3_changeSetting : ByteArray := prog_5_method_25_code
def yX3_changeSetting : MethodName := ⟨RX3, "changeSetting", "(II)I"⟩
abbrev cX3_allowsSetting : ByteArray := prog_5_method_26_code
def yX3_allowsSetting : MethodName := ⟨RX3, "allowsSetting", "(II)Z"⟩
def RX4 : String := "HeatShelves"
def TX4 : u_T := fun k => match k with
  | 0 => ("HeatShelves", "state", "LHeatShelves$State;", true)
  | 1 => ("HeatShelves", "work", "LHeatShelves$State;", true)
  | 2 => ("HeatShelves", "snapshot", "LHeatShelves$State;", true)
  | 3 => ("HeatShelves", "hasSnapshot", "Z", false)
  | 4 => ("HeatShelves", "history", "LHeatShelves$History;", true)
  | 5 => ("HeatShelves", "night", "LHeatShelves$Night;", true)
  | _ => ("HeatShelves", "orders", "LHeatShelves$Orders;", true)
def tyX4 : Nat → FieldType := fun k => match k with
  | 0 => .object "HeatShelves$State"
  | 1 => .object "HeatShelves$State"
  | 2 => .object "HeatShelves$State"
  | 3 => .boolean
  | 4 => .object "HeatShelves$History"
  | 5 => .object "HeatShelves$Night"
  | _ => .object "HeatShelves$Orders"
abbrev wsX40 : List Cond := u_ws RX4 TX4 7
theorem nmX4 : ∀ a, a < 7 → ∀ b, b < 7 → a ≠ b → (TX4 a).2.1 ≠ (TX4 b).2.1 := by decide +kernel
theorem tyX4_ok : ∀ k, k < 7 → parseFieldDescriptor (TX4 k).2.2.1 = some (tyX4 k) := by decide +kernel
abbrev cX4_init : ByteArray := prog_1_method_1_code
def yX4_init : MethodName := ⟨RX4, "<init>", "()V"⟩
abbrev cX4_add : ByteArray := prog_1_method_2_code
def yX4_add : MethodName := ⟨RX4, "add", "(I)I"⟩
abbrev cX4_remove : ByteArray := prog_1_method_3_code
def yX4_remove : MethodName := ⟨RX4, "remove", "(I)I"⟩
abbrev cX4_read : ByteArray := prog_1_method_4_code
def yX4_read : MethodName := ⟨RX4, "read", "(II)I"⟩
abbrev cX4_pin : ByteArray := prog_1_method_5_code
def yX4_pin : MethodName := ⟨RX4, "pin", "(IZ)I"⟩
abbrev cX4_pass : ByteArray := prog_1_method_6_code
def yX4_pass : MethodName := ⟨RX4, "pass", "(I)I"⟩
abbrev cX4_set : ByteArray := prog_1_method_7_code
def yX4_set : MethodName := ⟨RX4, "set", "(II)I"⟩
abbrev cX4_type : ByteArray := prog_1_method_8_code
def yX4_type : MethodName := ⟨RX4, "type", "(C)I"⟩
abbrev cX4_clearText : ByteArray := prog_1_method_9_code
def yX4_clearText : MethodName := ⟨RX4, "clearText", "()I"⟩
abbrev cX4_perform : ByteArray := prog_1_method_10_code
def yX4_perform : MethodName := ⟨RX4, "perform", "()I"⟩
abbrev cX4_undo : ByteArray := prog_1_method_11_code
def yX4_undo : MethodName := ⟨RX4, "undo", "()I"⟩
abbrev cX4_keep : ByteArray := prog_1_method_12_code
def yX4_keep : MethodName := ⟨RX4, "keep", "()I"⟩
abbrev cX4_restore : ByteArray := prog_1_method_13_code
def yX4_restore : MethodName := ⟨RX4, "restore", "()I"⟩
abbrev cX4_block : ByteArray := prog_1_method_14_code
def yX4_block : MethodName := ⟨RX4, "block", "(I)I"⟩
abbrev cX4_ofBlock : ByteArray := prog_1_method_15_code
def yX4_ofBlock : MethodName := ⟨RX4, "ofBlock", "(II)I"⟩
abbrev cX4_shelf : ByteArray := prog_1_method_16_code
def yX4_shelf : MethodName := ⟨RX4, "shelf", "(II)I"⟩
abbrev cX4_total : ByteArray := prog_1_method_17_code
def yX4_total : MethodName := ⟨RX4, "total", "(I)I"⟩
abbrev cX4_ifPassed : ByteArray := prog_1_method_18_code
def yX4_ifPassed : MethodName := ⟨RX4, "ifPassed", "(II)I"⟩
abbrev cX4_nextMove : ByteArray := prog_1_method_19_code
def yX4_nextMove : MethodName := ⟨RX4, "nextMove", "()I"⟩
abbrev cX4_bestHot : ByteArray := prog_1_method_20_code
def yX4_bestHot : MethodName := ⟨RX4, "bestHot", "(II)I"⟩
abbrev cX4_cheapest : ByteArray := prog_1_method_21_code
def yX4_cheapest : MethodName := ⟨RX4, "cheapest", "(II)I"⟩
abbrev cX4_settle : ByteArray := prog_1_method_22_code
def yX4_settle : MethodName := ⟨RX4, "settle", "(I)I"⟩
abbrev cX4_passInWork : ByteArray := prog_1_method_23_code
def yX4_passInWork : MethodName := ⟨RX4, "passInWork", "(I)I"⟩
abbrev cX4_performInWork : ByteArray := prog_1_method_24_code
def yX4_performInWork : MethodName := ⟨RX4, "performInWork", "(I)I"⟩
abbrev cX4_whyItStays : ByteArray := prog_1_method_25_code
def yX4_whyItStays : MethodName := ⟨RX4, "whyItStays", "(I)I"⟩
abbrev cX4_paidForNightsInWork : ByteArray := prog_1_method_26_code
def yX4_paidForNightsInWork : MethodName := ⟨RX4, "paidForNightsInWork", "()I"⟩
abbrev cX4_paidWithHot : ByteArray := prog_1_method_27_code
def yX4_paidWithHot : MethodName := ⟨RX4, "paidWithHot", "(II)I"⟩
abbrev cX4_priceOfStay : ByteArray := prog_1_method_28_code
def yX4_priceOfStay : MethodName := ⟨RX4, "priceOfStay", "(III)I"⟩
abbrev cX4_at : ByteArray := prog_1_method_29_code
def yX4_at : MethodName := ⟨RX4, "at", "([II)I"⟩
abbrev cX4_put : ByteArray := prog_1_method_30_code
def yX4_put : MethodName := ⟨RX4, "put", "([III)V"⟩
abbrev cX4_raise : ByteArray := prog_1_method_31_code
def yX4_raise : MethodName := ⟨RX4, "raise", "([III)V"⟩
abbrev cX4_copyRow : ByteArray := prog_1_method_32_code
def yX4_copyRow : MethodName := ⟨RX4, "copyRow", "([I[I)V"⟩
abbrev cX4_closeGap : ByteArray := prog_1_method_33_code
def yX4_closeGap : MethodName := ⟨RX4, "closeGap", "([II)V"⟩
def RX5 : String := "HeatShelvesModel"
def TX5 : u_T := fun k => match k with
  | 0 => ("HeatShelvesModel", "s", "[I", true)
  | 1 => ("HeatShelvesModel", "past", "[I", true)
  | 2 => ("HeatShelvesModel", "known", "I", false)
  | 3 => ("HeatShelvesModel", "snap", "[I", true)
  | 4 => ("HeatShelvesModel", "isKept", "Z", false)
  | 5 => ("HeatShelvesModel", "text", "[I", true)
  | 6 => ("HeatShelvesModel", "length", "I", false)
  | _ => ("HeatShelvesModel", "why", "[I", true)
def tyX5 : Nat → FieldType := fun k => match k with
  | 0 => .array .int
  | 1 => .array .int
  | 2 => .int
  | 3 => .array .int
  | 4 => .boolean
  | 5 => .array .int
  | 6 => .int
  | _ => .array .int
abbrev wsX50 : List Cond := u_ws RX5 TX5 8
theorem nmX5 : ∀ a, a < 8 → ∀ b, b < 8 → a ≠ b → (TX5 a).2.1 ≠ (TX5 b).2.1 := by decide +kernel
theorem tyX5_ok : ∀ k, k < 8 → parseFieldDescriptor (TX5 k).2.2.1 = some (tyX5 k) := by decide +kernel
abbrev cX5_init : ByteArray := prog_7_method_1_code
def yX5_init : MethodName := ⟨RX5, "<init>", "()V"⟩
abbrev cX5_in : ByteArray := prog_7_method_3_code
def yX5_in : MethodName := ⟨RX5, "in", "(III)Z"⟩
abbrev cX5_copies : ByteArray := prog_7_method_4_code
def yX5_copies : MethodName := ⟨RX5, "copies", "()V"⟩
abbrev cX5_remembers : ByteArray := prog_7_method_5_code
def yX5_remembers : MethodName := ⟨RX5, "remembers", "()V"⟩
abbrev cX5_lays : ByteArray := prog_7_method_6_code
def yX5_lays : MethodName := ⟨RX5, "lays", "()V"⟩
abbrev cX5_at : ByteArray := prog_7_method_7_code
def yX5_at : MethodName := ⟨RX5, "at", "(II)I"⟩
abbrev cX5_placeOf : ByteArray := prog_7_method_8_code
def yX5_placeOf : MethodName := ⟨RX5, "placeOf", "(II)I"⟩
abbrev cX5_on : ByteArray := prog_7_method_9_code
def yX5_on : MethodName := ⟨RX5, "on", "(III)I"⟩
abbrev cX5_hasRoom : ByteArray := prog_7_method_10_code
def yX5_hasRoom : MethodName := ⟨RX5, "hasRoom", "(III)Z"⟩
abbrev cX5_wanted : ByteArray := prog_7_method_11_code
def yX5_wanted : MethodName := ⟨RX5, "wanted", "(II)I"⟩
abbrev cX5_target : ByteArray := prog_7_method_12_code
def yX5_target : MethodName := ⟨RX5, "target", "(II)I"⟩
abbrev cX5_next : ByteArray := prog_7_method_13_code
def yX5_next : MethodName := ⟨RX5, "next", "(IZ)I"⟩
abbrev cX5_turns : ByteArray := prog_7_method_14_code
def yX5_turns : MethodName := ⟨RX5, "turns", "(IZI)I"⟩
abbrev cX5_costs : ByteArray := prog_7_method_15_code
def yX5_costs : MethodName := ⟨RX5, "costs", "(II)I"⟩
abbrev cX5_passesOne : ByteArray := prog_7_method_16_code
def yX5_passesOne : MethodName := ⟨RX5, "passesOne", "(I)I"⟩
abbrev cX5_passes : ByteArray := prog_7_method_17_code
def yX5_passes : MethodName := ⟨RX5, "passes", "(II)I"⟩
abbrev cX5_adds : ByteArray := prog_7_method_18_code
def yX5_adds : MethodName := ⟨RX5, "adds", "(I)I"⟩
abbrev cX5_removes : ByteArray := prog_7_method_19_code
def yX5_removes : MethodName := ⟨RX5, "removes", "(I)I"⟩
abbrev cX5_readsOne : ByteArray := prog_7_method_20_code
def yX5_readsOne : MethodName := ⟨RX5, "readsOne", "(I)I"⟩
abbrev cX5_reads : ByteArray := prog_7_method_21_code
def yX5_reads : MethodName := ⟨RX5, "reads", "(II)I"⟩
abbrev cX5_pinned : ByteArray := prog_7_method_22_code
def yX5_pinned : MethodName := ⟨RX5, "pinned", "(I)I"⟩
abbrev cX5_turnsPin : ByteArray := prog_7_method_23_code
def yX5_turnsPin : MethodName := ⟨RX5, "turnsPin", "(I)I"⟩
abbrev cX5_passesIn : ByteArray := prog_7_method_24_code
def yX5_passesIn : MethodName := ⟨RX5, "passesIn", "(I)I"⟩
abbrev cX5_changes : ByteArray := prog_7_method_25_code
def yX5_changes : MethodName := ⟨RX5, "changes", "(I)I"⟩
abbrev cX5_add : ByteArray := prog_7_method_26_code
def yX5_add : MethodName := ⟨RX5, "add", "(I)I"⟩
abbrev cX5_remove : ByteArray := prog_7_method_27_code
def yX5_remove : MethodName := ⟨RX5, "remove", "(I)I"⟩
abbrev cX5_read : ByteArray := prog_7_method_28_code
def yX5_read : MethodName := ⟨RX5, "read", "(II)I"⟩
abbrev cX5_pin : ByteArray := prog_7_method_29_code
def yX5_pin : MethodName := ⟨RX5, "pin", "(IZ)I"⟩
abbrev cX5_pass : ByteArray := prog_7_method_30_code
def yX5_pass : MethodName := ⟨RX5, "pass", "(I)I"⟩
abbrev cX5_mostOf : ByteArray := prog_7_method_31_code
def yX5_mostOf : MethodName := ⟨RX5, "mostOf", "(I)I"⟩
abbrev cX5_set : ByteArray := prog_7_method_32_code
def yX5_set : MethodName := ⟨RX5, "set", "(II)I"⟩
abbrev cX5_type : ByteArray := prog_7_method_33_code
def yX5_type : MethodName := ⟨RX5, "type", "(C)I"⟩
abbrev cX5_clearText : ByteArray := prog_7_method_34_code
def yX5_clearText : MethodName := ⟨RX5, "clearText", "()I"⟩
abbrev cX5_sign : ByteArray := prog_7_method_35_code
def yX5_sign : MethodName := ⟨RX5, "sign", "(I)I"⟩
abbrev cX5_digit : ByteArray := prog_7_method_36_code
def yX5_digit : MethodName := ⟨RX5, "digit", "(I)I"⟩
abbrev cX5_numberEnd : ByteArray := prog_7_method_37_code
def yX5_numberEnd : MethodName := ⟨RX5, "numberEnd", "(III)I"⟩
abbrev cX5_numberAt : ByteArray := prog_7_method_38_code
def yX5_numberAt : MethodName := ⟨RX5, "numberAt", "(I)I"⟩
abbrev cX5_orderEnd : ByteArray := prog_7_method_39_code
def yX5_orderEnd : MethodName := ⟨RX5, "orderEnd", "(I)I"⟩
abbrev cX5_fault : ByteArray := prog_7_method_40_code
def yX5_fault : MethodName := ⟨RX5, "fault", "()I"⟩
abbrev cX5_does : ByteArray := prog_7_method_41_code
def yX5_does : MethodName := ⟨RX5, "does", "(I)I"⟩
abbrev cX5_perform : ByteArray := prog_7_method_42_code
def yX5_perform : MethodName := ⟨RX5, "perform", "()I"⟩
abbrev cX5_undo : ByteArray := prog_7_method_43_code
def yX5_undo : MethodName := ⟨RX5, "undo", "()I"⟩
abbrev cX5_keep : ByteArray := prog_7_method_44_code
def yX5_keep : MethodName := ⟨RX5, "keep", "()I"⟩
abbrev cX5_restore : ByteArray := prog_7_method_45_code
def yX5_restore : MethodName := ⟨RX5, "restore", "()I"⟩
abbrev cX5_block : ByteArray := prog_7_method_46_code
def yX5_block : MethodName := ⟨RX5, "block", "(I)I"⟩
abbrev cX5_whyStays : ByteArray := prog_7_method_47_code
def yX5_whyStays : MethodName := ⟨RX5, "whyStays", "(I)I"⟩
abbrev cX5_ofBlock : ByteArray := prog_7_method_48_code
def yX5_ofBlock : MethodName := ⟨RX5, "ofBlock", "(II)I"⟩
abbrev cX5_shelf : ByteArray := prog_7_method_49_code
def yX5_shelf : MethodName := ⟨RX5, "shelf", "(II)I"⟩
abbrev cX5_heat : ByteArray := prog_7_method_50_code
def yX5_heat : MethodName := ⟨RX5, "heat", "(I)I"⟩
abbrev cX5_total : ByteArray := prog_7_method_51_code
def yX5_total : MethodName := ⟨RX5, "total", "(I)I"⟩
abbrev cX5_ifPassed : ByteArray := prog_7_method_52_code
def yX5_ifPassed : MethodName := ⟨RX5, "ifPassed", "(II)I"⟩
abbrev cX5_nextMove : ByteArray := prog_7_method_53_code
def yX5_nextMove : MethodName := ⟨RX5, "nextMove", "()I"⟩
abbrev cX5_bestHot : ByteArray := prog_7_method_54_code
def yX5_bestHot : MethodName := ⟨RX5, "bestHot", "(II)I"⟩
abbrev cX5_cheapest : ByteArray := prog_7_method_55_code
def yX5_cheapest : MethodName := ⟨RX5, "cheapest", "(II)I"⟩
def RJ9 : String := "java/lang/Math"
def TJ9 : u_T := fun k => match k with
  | _ => ("", "", "", false)
def tyJ9 : Nat → FieldType := fun k => match k with
  | _ => .int
abbrev wsJ90 : List Cond := u_ws RJ9 TJ9 0
theorem nmJ9 : ∀ a, a < 0 → ∀ b, b < 0 → a ≠ b → (TJ9 a).2.1 ≠ (TJ9 b).2.1 := by decide +kernel
theorem tyJ9_ok : ∀ k, k < 0 → parseFieldDescriptor (TJ9 k).2.2.1 = some (tyJ9 k) := by decide +kernel
abbrev cJ9_abs_0f7a4 : ByteArray := prog_8_method_59_code
def yJ9_abs_0f7a4 : MethodName := ⟨RJ9, "abs", "(I)I"⟩
abbrev cJ9_max_7cf53 : ByteArray := prog_8_method_65_code
def yJ9_max_7cf53 : MethodName := ⟨RJ9, "max", "(II)I"⟩
abbrev cJ9_min_7cf53 : ByteArray := prog_8_method_69_code
def yJ9_min_7cf53 : MethodName := ⟨RJ9, "min", "(II)I"⟩
def RJ10 : String := "java/lang/System"
def TJ10 : u_T := fun k => match k with
  | _ => ("", "", "", false)
def tyJ10 : Nat → FieldType := fun k => match k with
  | _ => .int
abbrev wsJ100 : List Cond := u_ws RJ10 TJ10 0
theorem nmJ10 : ∀ a, a < 0 → ∀ b, b < 0 → a ≠ b → (TJ10 a).2.1 ≠ (TJ10 b).2.1 := by decide +kernel
theorem tyJ10_ok : ∀ k, k < 0 → parseFieldDescriptor (TJ10 k).2.2.1 = some (tyJ10 k) := by decide +kernel
def RL : String := "HeatShelvesLaw"
abbrev cL_law : ByteArray := code
def yL_law : MethodName := ⟨RL, "law", "([I)Z"⟩
abbrev vwCl : List vw_C := [(RX0, TX0, 3), (RX1, TX1, 2), (RX2, TX2, 7), (RX3, TX3, 10), (RX4, TX4, 7), (RX5, TX5, 8)]
end
section
theorem dX0_init_0 : decode cX0_init 0 = .ok (.aload_n 0, 1) := by decide +kernel
theorem dX0_init_1 : decode cX0_init 1 = .ok (.invokespecial 3, 3) := by decide +kernel
theorem dX0_init_4 : decode cX0_init 4 = .ok (.aload_n 0, 1) := by decide +kernel
theorem dX0_init_5 : decode cX0_init 5 = .ok (.iconst 4, 1) := by decide +kernel
theorem dX0_init_6 : decode cX0_init 6 = .ok (.anewarray 9, 3) := by decide +kernel
theorem dX0_init_9 : decode cX0_init 9 = .ok (.putfield 11, 3) := by decide +kernel
theorem dX0_init_12 : decode cX0_init 12 = .ok (.aload_n 0, 1) := by decide +kernel
theorem dX0_init_13 : decode cX0_init 13 = .ok (.iconst 0, 1) := by decide +kernel
theorem dX0_init_14 : decode cX0_init 14 = .ok (.putfield 17, 3) := by decide +kernel
theorem dX0_init_17 : decode cX0_init 17 = .ok (.aload_n 0, 1) := by decide +kernel
theorem dX0_init_18 : decode cX0_init 18 = .ok (.iconst 0, 1) := by decide +kernel
theorem dX0_init_19 : decode cX0_init 19 = .ok (.putfield 21, 3) := by decide +kernel
theorem dX0_init_22 : decode cX0_init 22 = .ok (.iconst 0, 1) := by decide +kernel
theorem dX0_init_23 : decode cX0_init 23 = .ok (.istore_n 1, 1) := by decide +kernel
theorem dX0_init_24 : decode cX0_init 24 = .ok (.iload_n 1, 1) := by decide +kernel
theorem dX0_init_25 : decode cX0_init 25 = .ok (.aload_n 0, 1) := by decide +kernel
theorem dX0_init_26 : decode cX0_init 26 = .ok (.getfield 11, 3) := by decide +kernel
theorem dX0_init_29 : decode cX0_init 29 = .ok (.arraylength, 1) := by decide +kernel
theorem dX0_init_30 : decode cX0_init 30 = .ok (.if_icmp .ge 22, 3) := by decide +kernel
theorem dX0_init_33 : decode cX0_init 33 = .ok (.aload_n 0, 1) := by decide +kernel
theorem dX0_init_34 : decode cX0_init 34 = .ok (.getfield 11, 3) := by decide +kernel
theorem dX0_init_37 : decode cX0_init 37 = .ok (.iload_n 1, 1) := by decide +kernel
theorem dX0_init_38 : decode cX0_init 38 = .ok (.new 9, 3) := by decide +kernel
theorem dX0_init_41 : decode cX0_init 41 = .ok (.dup, 1) := by decide +kernel
theorem dX0_init_42 : decode cX0_init 42 = .ok (.invokespecial 24, 3) := by decide +kernel
theorem dX0_init_45 : decode cX0_init 45 = .ok (.aastore, 1) := by decide +kernel
theorem dX0_init_46 : decode cX0_init 46 = .ok (.iinc 1 1, 3) := by decide +kernel
theorem dX0_init_49 : decode cX0_init 49 = .ok (.goto (-25), 3) := by decide +kernel
theorem dX0_init_52 : decode cX0_init 52 = .ok (.return_, 1) := by decide +kernel
theorem dX0_stateAt_0 : decode cX0_stateAt 0 = .ok (.aload_n 0, 1) := by decide +kernel
theorem dX0_stateAt_1 : decode cX0_stateAt 1 = .ok (.getfield 17, 3) := by decide +kernel
theorem dX0_stateAt_4 : decode cX0_stateAt 4 = .ok (.iload_n 1, 1) := by decide +kernel
theorem dX0_stateAt_5 : decode cX0_stateAt 5 = .ok (.iadd, 1) := by decide +kernel
theorem dX0_stateAt_6 : decode cX0_stateAt 6 = .ok (.iconst 4, 1) := by decide +kernel
theorem dX0_stateAt_7 : decode cX0_stateAt 7 = .ok (.irem, 1) := by decide +kernel
theorem dX0_stateAt_8 : decode cX0_stateAt 8 = .ok (.istore_n 2, 1) := by decide +kernel
theorem dX0_stateAt_9 : decode cX0_stateAt 9 = .ok (.iload_n 2, 1) := by decide +kernel
theorem dX0_stateAt_10 : decode cX0_stateAt 10 = .ok (.ifCond .lt 21, 3) := by decide +kernel
theorem dX0_stateAt_13 : decode cX0_stateAt 13 = .ok (.iload_n 2, 1) := by decide +kernel
theorem dX0_stateAt_14 : decode cX0_stateAt 14 = .ok (.aload_n 0, 1) := by decide +kernel
theorem dX0_stateAt_15 : decode cX0_stateAt 15 = .ok (.getfield 11, 3) := by decide +kernel
theorem dX0_stateAt_18 : decode cX0_stateAt 18 = .ok (.arraylength, 1) := by decide +kernel
theorem dX0_stateAt_19 : decode cX0_stateAt 19 = .ok (.if_icmp .ge 12, 3) := by decide +kernel
theorem dX0_stateAt_22 : decode cX0_stateAt 22 = .ok (.aload_n 0, 1) := by decide +kernel
theorem dX0_stateAt_23 : decode cX0_stateAt 23 = .ok (.getfield 11, 3) := by decide +kernel
theorem dX0_stateAt_26 : decode cX0_stateAt 26 = .ok (.iload_n 2, 1) := by decide +kernel
theorem dX0_stateAt_27 : decode cX0_stateAt 27 = .ok (.aaload, 1) := by decide +kernel
theorem dX0_stateAt_28 : decode cX0_stateAt 28 = .ok (.goto 4, 3) := by decide +kernel
theorem dX0_stateAt_31 : decode cX0_stateAt 31 = .ok (.aconst_null, 1) := by decide +kernel
theorem dX0_stateAt_32 : decode cX0_stateAt 32 = .ok (.areturn, 1) := by decide +kernel
theorem dX0_record_0 : decode cX0_record 0 = .ok (.aload_n 0, 1) := by decide +kernel
theorem dX0_record_1 : decode cX0_record 1 = .ok (.getfield 21, 3) := by decide +kernel
theorem dX0_record_4 : decode cX0_record 4 = .ok (.iconst 4, 1) := by decide +kernel
theorem dX0_record_5 : decode cX0_record 5 = .ok (.if_icmp .lt 25, 3) := by decide +kernel
theorem dX0_record_8 : decode cX0_record 8 = .ok (.aload_n 0, 1) := by decide +kernel
theorem dX0_record_9 : decode cX0_record 9 = .ok (.aload_n 0, 1) := by decide +kernel
theorem dX0_record_10 : decode cX0_record 10 = .ok (.getfield 17, 3) := by decide +kernel
theorem dX0_record_13 : decode cX0_record 13 = .ok (.iconst 1, 1) := by decide +kernel
theorem dX0_record_14 : decode cX0_record 14 = .ok (.iadd, 1) := by decide +kernel
theorem dX0_record_15 : decode cX0_record 15 = .ok (.iconst 4, 1) := by decide +kernel
theorem dX0_record_16 : decode cX0_record 16 = .ok (.irem, 1) := by decide +kernel
theorem dX0_record_17 : decode cX0_record 17 = .ok (.putfield 17, 3) := by decide +kernel
theorem dX0_record_20 : decode cX0_record 20 = .ok (.aload_n 0, 1) := by decide +kernel
theorem dX0_record_21 : decode cX0_record 21 = .ok (.dup, 1) := by decide +kernel
theorem dX0_record_22 : decode cX0_record 22 = .ok (.getfield 21, 3) := by decide +kernel
theorem dX0_record_25 : decode cX0_record 25 = .ok (.iconst 1, 1) := by decide +kernel
theorem dX0_record_26 : decode cX0_record 26 = .ok (.isub, 1) := by decide +kernel
theorem dX0_record_27 : decode cX0_record 27 = .ok (.putfield 21, 3) := by decide +kernel
theorem dX0_record_30 : decode cX0_record 30 = .ok (.aload_n 0, 1) := by decide +kernel
theorem dX0_record_31 : decode cX0_record 31 = .ok (.aload_n 0, 1) := by decide +kernel
theorem dX0_record_32 : decode cX0_record 32 = .ok (.getfield 21, 3) := by decide +kernel
theorem dX0_record_35 : decode cX0_record 35 = .ok (.invokevirtual 25, 3) := by decide +kernel
theorem dX0_record_38 : decode cX0_record 38 = .ok (.astore_n 2, 1) := by decide +kernel
theorem dX0_record_39 : decode cX0_record 39 = .ok (.aload_n 2, 1) := by decide +kernel
theorem dX0_record_40 : decode cX0_record 40 = .ok (.ifnull 18, 3) := by decide +kernel
theorem dX0_record_43 : decode cX0_record 43 = .ok (.aload_n 2, 1) := by decide +kernel
theorem dX0_record_44 : decode cX0_record 44 = .ok (.aload_n 1, 1) := by decide +kernel
theorem dX0_record_45 : decode cX0_record 45 = .ok (.invokevirtual 29, 3) := by decide +kernel
theorem dX0_record_48 : decode cX0_record 48 = .ok (.aload_n 0, 1) := by decide +kernel
theorem dX0_record_49 : decode cX0_record 49 = .ok (.dup, 1) := by decide +kernel
theorem dX0_record_50 : decode cX0_record 50 = .ok (.getfield 21, 3) := by decide +kernel
theorem dX0_record_53 : decode cX0_record 53 = .ok (.iconst 1, 1) := by decide +kernel
theorem dX0_record_54 : decode cX0_record 54 = .ok (.iadd, 1) := by decide +kernel
theorem dX0_record_55 : decode cX0_record 55 = .ok (.putfield 21, 3) := by decide +kernel
theorem dX0_record_58 : decode cX0_record 58 = .ok (.return_, 1) := by decide +kernel
theorem dX0_takeLatest_0 : decode cX0_takeLatest 0 = .ok (.aload_n 0, 1) := by decide +kernel
theorem dX0_takeLatest_1 : decode cX0_takeLatest 1 = .ok (.getfield 21, 3) := by decide +kernel
theorem dX0_takeLatest_4 : decode cX0_takeLatest 4 = .ok (.ifCond .gt 5, 3) := by decide +kernel
theorem dX0_takeLatest_7 : decode cX0_takeLatest 7 = .ok (.iconst 0, 1) := by decide +kernel
theorem dX0_takeLatest_8 : decode cX0_takeLatest 8 = .ok (.ireturn, 1) := by decide +kernel
theorem dX0_takeLatest_9 : decode cX0_takeLatest 9 = .ok (.aload_n 0, 1) := by decide +kernel
theorem dX0_takeLatest_10 : decode cX0_takeLatest 10 = .ok (.aload_n 0, 1) := by decide +kernel
theorem dX0_takeLatest_11 : decode cX0_takeLatest 11 = .ok (.getfield 21, 3) := by decide +kernel
theorem dX0_takeLatest_14 : decode cX0_takeLatest 14 = .ok (.iconst 1, 1) := by decide +kernel
theorem dX0_takeLatest_15 : decode cX0_takeLatest 15 = .ok (.isub, 1) := by decide +kernel
theorem dX0_takeLatest_16 : decode cX0_takeLatest 16 = .ok (.invokevirtual 25, 3) := by decide +kernel
theorem dX0_takeLatest_19 : decode cX0_takeLatest 19 = .ok (.astore_n 2, 1) := by decide +kernel
theorem dX0_takeLatest_20 : decode cX0_takeLatest 20 = .ok (.aload_n 2, 1) := by decide +kernel
theorem dX0_takeLatest_21 : decode cX0_takeLatest 21 = .ok (.ifnonnull 5, 3) := by decide +kernel
theorem dX0_takeLatest_24 : decode cX0_takeLatest 24 = .ok (.iconst 0, 1) := by decide +kernel
theorem dX0_takeLatest_25 : decode cX0_takeLatest 25 = .ok (.ireturn, 1) := by decide +kernel
theorem dX0_takeLatest_26 : decode cX0_takeLatest 26 = .ok (.aload_n 1, 1) := by decide +kernel
theorem dX0_takeLatest_27 : decode cX0_takeLatest 27 = .ok (.aload_n 2, 1) := by decide +kernel
theorem dX0_takeLatest_28 : decode cX0_takeLatest 28 = .ok (.invokevirtual 29, 3) := by decide +kernel
theorem dX0_takeLatest_31 : decode cX0_takeLatest 31 = .ok (.aload_n 0, 1) := by decide +kernel
theorem dX0_takeLatest_32 : decode cX0_takeLatest 32 = .ok (.dup, 1) := by decide +kernel
theorem dX0_takeLatest_33 : decode cX0_takeLatest 33 = .ok (.getfield 21, 3) := by decide +kernel
theorem dX0_takeLatest_36 : decode cX0_takeLatest 36 = .ok (.iconst 1, 1) := by decide +kernel
theorem dX0_takeLatest_37 : decode cX0_takeLatest 37 = .ok (.isub, 1) := by decide +kernel
theorem dX0_takeLatest_38 : decode cX0_takeLatest 38 = .ok (.putfield 21, 3) := by decide +kernel
theorem dX0_takeLatest_41 : decode cX0_takeLatest 41 = .ok (.iconst 1, 1) := by decide +kernel
theorem dX0_takeLatest_42 : decode cX0_takeLatest 42 = .ok (.ireturn, 1) := by decide +kernel
theorem dX1_init_0 : decode cX1_init 0 = .ok (.aload_n 0, 1) := by decide +kernel
theorem dX1_init_1 : decode cX1_init 1 = .ok (.invokespecial 3, 3) := by decide +kernel
theorem dX1_init_4 : decode cX1_init 4 = .ok (.aload_n 0, 1) := by decide +kernel
theorem dX1_init_5 : decode cX1_init 5 = .ok (.bipush 24, 2) := by decide +kernel
theorem dX1_init_7 : decode cX1_init 7 = .ok (.newarray .int, 2) := by decide +kernel
theorem dX1_init_9 : decode cX1_init 9 = .ok (.putfield 9, 3) := by decide +kernel
theorem dX1_init_12 : decode cX1_init 12 = .ok (.aload_n 0, 1) := by decide +kernel
theorem dX1_init_13 : decode cX1_init 13 = .ok (.bipush 24, 2) := by decide +kernel
theorem dX1_init_15 : decode cX1_init 15 = .ok (.newarray .int, 2) := by decide +kernel
theorem dX1_init_17 : decode cX1_init 17 = .ok (.putfield 15, 3) := by decide +kernel
theorem dX1_init_20 : decode cX1_init 20 = .ok (.return_, 1) := by decide +kernel
theorem dX1_letPass_0 : decode cX1_letPass 0 = .ok (.aload_n 1, 1) := by decide +kernel
theorem dX1_letPass_1 : decode cX1_letPass 1 = .ok (.getfield 18, 3) := by decide +kernel
theorem dX1_letPass_4 : decode cX1_letPass 4 = .ok (.iconst 3, 1) := by decide +kernel
theorem dX1_letPass_5 : decode cX1_letPass 5 = .ok (.invokestatic 23, 3) := by decide +kernel
theorem dX1_letPass_8 : decode cX1_letPass 8 = .ok (.istore_n 3, 1) := by decide +kernel
theorem dX1_letPass_9 : decode cX1_letPass 9 = .ok (.iconst 0, 1) := by decide +kernel
theorem dX1_letPass_10 : decode cX1_letPass 10 = .ok (.istore 4, 2) := by decide +kernel
theorem dX1_letPass_12 : decode cX1_letPass 12 = .ok (.iconst 0, 1) := by decide +kernel
theorem dX1_letPass_13 : decode cX1_letPass 13 = .ok (.istore 5, 2) := by decide +kernel
theorem dX1_letPass_15 : decode cX1_letPass 15 = .ok (.iload 5, 2) := by decide +kernel
theorem dX1_letPass_17 : decode cX1_letPass 17 = .ok (.iload_n 2, 1) := by decide +kernel
theorem dX1_letPass_18 : decode cX1_letPass 18 = .ok (.if_icmp .ge 49, 3) := by decide +kernel
theorem dX1_letPass_21 : decode cX1_letPass 21 = .ok (.aload_n 1, 1) := by decide +kernel
theorem dX1_letPass_22 : decode cX1_letPass 22 = .ok (.invokevirtual 27, 3) := by decide +kernel
theorem dX1_letPass_25 : decode cX1_letPass 25 = .ok (.aload_n 1, 1) := by decide +kernel
theorem dX1_letPass_26 : decode cX1_letPass 26 = .ok (.invokevirtual 30, 3) := by decide +kernel
theorem dX1_letPass_29 : decode cX1_letPass 29 = .ok (.aload_n 0, 1) := by decide +kernel
theorem dX1_letPass_30 : decode cX1_letPass 30 = .ok (.aload_n 1, 1) := by decide +kernel
theorem dX1_letPass_31 : decode cX1_letPass 31 = .ok (.invokevirtual 33, 3) := by decide +kernel
theorem dX1_letPass_34 : decode cX1_letPass 34 = .ok (.aload_n 0, 1) := by decide +kernel
theorem dX1_letPass_35 : decode cX1_letPass 35 = .ok (.aload_n 1, 1) := by decide +kernel
theorem dX1_letPass_36 : decode cX1_letPass 36 = .ok (.iconst 1, 1) := by decide +kernel
theorem dX1_letPass_37 : decode cX1_letPass 37 = .ok (.iload_n 3, 1) := by decide +kernel
theorem dX1_letPass_38 : decode cX1_letPass 38 = .ok (.invokevirtual 37, 3) := by decide +kernel
theorem dX1_letPass_41 : decode cX1_letPass 41 = .ok (.istore 6, 2) := by decide +kernel
theorem dX1_letPass_43 : decode cX1_letPass 43 = .ok (.iload 4, 2) := by decide +kernel
theorem dX1_letPass_45 : decode cX1_letPass 45 = .ok (.iload 6, 2) := by decide +kernel
theorem dX1_letPass_47 : decode cX1_letPass 47 = .ok (.aload_n 0, 1) := by decide +kernel
theorem dX1_letPass_48 : decode cX1_letPass 48 = .ok (.aload_n 1, 1) := by decide +kernel
theorem dX1_letPass_49 : decode cX1_letPass 49 = .ok (.iconst 0, 1) := by decide +kernel
theorem dX1_letPass_50 : decode cX1_letPass 50 = .ok (.iload_n 3, 1) := by decide +kernel
theorem dX1_letPass_51 : decode cX1_letPass 51 = .ok (.iload 6, 2) := by decide +kernel
theorem dX1_letPass_53 : decode cX1_letPass 53 = .ok (.isub, 1) := by decide +kernel
theorem dX1_letPass_54 : decode cX1_letPass 54 = .ok (.invokevirtual 37, 3) := by decide +kernel
theorem dX1_letPass_57 : decode cX1_letPass 57 = .ok (.iadd, 1) := by decide +kernel
theorem dX1_letPass_58 : decode cX1_letPass 58 = .ok (.iadd, 1) := by decide +kernel
theorem dX1_letPass_59 : decode cX1_letPass 59 = .ok (.istore 4, 2) := by decide +kernel
theorem dX1_letPass_61 : decode cX1_letPass 61 = .ok (.iinc 5 1, 3) := by decide +kernel
theorem dX1_letPass_64 : decode cX1_letPass 64 = .ok (.goto (-49), 3) := by decide +kernel
theorem dX1_letPass_67 : decode cX1_letPass 67 = .ok (.aload_n 1, 1) := by decide +kernel
theorem dX1_letPass_68 : decode cX1_letPass 68 = .ok (.getfield 18, 3) := by decide +kernel
theorem dX1_letPass_71 : decode cX1_letPass 71 = .ok (.bipush 21, 2) := by decide +kernel
theorem dX1_letPass_73 : decode cX1_letPass 73 = .ok (.iload 4, 2) := by decide +kernel
theorem dX1_letPass_75 : decode cX1_letPass 75 = .ok (.invokestatic 41, 3) := by decide +kernel
theorem dX1_letPass_78 : decode cX1_letPass 78 = .ok (.iload 4, 2) := by decide +kernel
theorem dX1_letPass_80 : decode cX1_letPass 80 = .ok (.ireturn, 1) := by decide +kernel
theorem dX1_findWhoMayMove_0 : decode cX1_findWhoMayMove 0 = .ok (.aload_n 1, 1) := by decide +kernel
theorem dX1_findWhoMayMove_1 : decode cX1_findWhoMayMove 1 = .ok (.invokevirtual 45, 3) := by decide +kernel
theorem dX1_findWhoMayMove_4 : decode cX1_findWhoMayMove 4 = .ok (.istore_n 2, 1) := by decide +kernel
theorem dX1_findWhoMayMove_5 : decode cX1_findWhoMayMove 5 = .ok (.iconst 0, 1) := by decide +kernel
theorem dX1_findWhoMayMove_6 : decode cX1_findWhoMayMove 6 = .ok (.istore_n 3, 1) := by decide +kernel
theorem dX1_findWhoMayMove_7 : decode cX1_findWhoMayMove 7 = .ok (.iload_n 3, 1) := by decide +kernel
theorem dX1_findWhoMayMove_8 : decode cX1_findWhoMayMove 8 = .ok (.iload_n 2, 1) := by decide +kernel
theorem dX1_findWhoMayMove_9 : decode cX1_findWhoMayMove 9 = .ok (.if_icmp .ge 91, 3) := by decide +kernel
theorem dX1_findWhoMayMove_12 : decode cX1_findWhoMayMove 12 = .ok (.iconst 4, 1) := by decide +kernel
theorem dX1_findWhoMayMove_13 : decode cX1_findWhoMayMove 13 = .ok (.istore 4, 2) := by decide +kernel
theorem dX1_findWhoMayMove_15 : decode cX1_findWhoMayMove 15 = .ok (.aload_n 0, 1) := by decide +kernel
theorem dX1_findWhoMayMove_16 : decode cX1_findWhoMayMove 16 = .ok (.getfield 9, 3) := by decide +kernel
theorem dX1_findWhoMayMove_19 : decode cX1_findWhoMayMove 19 = .ok (.iload_n 3, 1) := by decide +kernel
theorem dX1_findWhoMayMove_20 : decode cX1_findWhoMayMove 20 = .ok (.aload_n 1, 1) := by decide +kernel
theorem dX1_findWhoMayMove_21 : decode cX1_findWhoMayMove 21 = .ok (.iload_n 3, 1) := by decide +kernel
theorem dX1_findWhoMayMove_22 : decode cX1_findWhoMayMove 22 = .ok (.invokevirtual 49, 3) := by decide +kernel
theorem dX1_findWhoMayMove_25 : decode cX1_findWhoMayMove 25 = .ok (.invokestatic 53, 3) := by decide +kernel
theorem dX1_findWhoMayMove_28 : decode cX1_findWhoMayMove 28 = .ok (.aload_n 1, 1) := by decide +kernel
theorem dX1_findWhoMayMove_29 : decode cX1_findWhoMayMove 29 = .ok (.getfield 56, 3) := by decide +kernel
theorem dX1_findWhoMayMove_32 : decode cX1_findWhoMayMove 32 = .ok (.iload_n 3, 1) := by decide +kernel
theorem dX1_findWhoMayMove_33 : decode cX1_findWhoMayMove 33 = .ok (.invokestatic 23, 3) := by decide +kernel
theorem dX1_findWhoMayMove_36 : decode cX1_findWhoMayMove 36 = .ok (.ifCond .eq 9, 3) := by decide +kernel
theorem dX1_findWhoMayMove_39 : decode cX1_findWhoMayMove 39 = .ok (.iconst 1, 1) := by decide +kernel
theorem dX1_findWhoMayMove_40 : decode cX1_findWhoMayMove 40 = .ok (.istore 4, 2) := by decide +kernel
theorem dX1_findWhoMayMove_42 : decode cX1_findWhoMayMove 42 = .ok (.goto 42, 3) := by decide +kernel
theorem dX1_findWhoMayMove_45 : decode cX1_findWhoMayMove 45 = .ok (.aload_n 1, 1) := by decide +kernel
theorem dX1_findWhoMayMove_46 : decode cX1_findWhoMayMove 46 = .ok (.getfield 59, 3) := by decide +kernel
theorem dX1_findWhoMayMove_49 : decode cX1_findWhoMayMove 49 = .ok (.iload_n 3, 1) := by decide +kernel
theorem dX1_findWhoMayMove_50 : decode cX1_findWhoMayMove 50 = .ok (.invokestatic 23, 3) := by decide +kernel
theorem dX1_findWhoMayMove_53 : decode cX1_findWhoMayMove 53 = .ok (.ifCond .le 9, 3) := by decide +kernel
theorem dX1_findWhoMayMove_56 : decode cX1_findWhoMayMove 56 = .ok (.iconst 2, 1) := by decide +kernel
theorem dX1_findWhoMayMove_57 : decode cX1_findWhoMayMove 57 = .ok (.istore 4, 2) := by decide +kernel
theorem dX1_findWhoMayMove_59 : decode cX1_findWhoMayMove 59 = .ok (.goto 25, 3) := by decide +kernel
theorem dX1_findWhoMayMove_62 : decode cX1_findWhoMayMove 62 = .ok (.aload_n 0, 1) := by decide +kernel
theorem dX1_findWhoMayMove_63 : decode cX1_findWhoMayMove 63 = .ok (.getfield 9, 3) := by decide +kernel
theorem dX1_findWhoMayMove_66 : decode cX1_findWhoMayMove 66 = .ok (.iload_n 3, 1) := by decide +kernel
theorem dX1_findWhoMayMove_67 : decode cX1_findWhoMayMove 67 = .ok (.invokestatic 23, 3) := by decide +kernel
theorem dX1_findWhoMayMove_70 : decode cX1_findWhoMayMove 70 = .ok (.aload_n 1, 1) := by decide +kernel
theorem dX1_findWhoMayMove_71 : decode cX1_findWhoMayMove 71 = .ok (.getfield 62, 3) := by decide +kernel
theorem dX1_findWhoMayMove_74 : decode cX1_findWhoMayMove 74 = .ok (.iload_n 3, 1) := by decide +kernel
theorem dX1_findWhoMayMove_75 : decode cX1_findWhoMayMove 75 = .ok (.invokestatic 23, 3) := by decide +kernel
theorem dX1_findWhoMayMove_78 : decode cX1_findWhoMayMove 78 = .ok (.if_icmp .ne 6, 3) := by decide +kernel
theorem dX1_findWhoMayMove_81 : decode cX1_findWhoMayMove 81 = .ok (.iconst 3, 1) := by decide +kernel
theorem dX1_findWhoMayMove_82 : decode cX1_findWhoMayMove 82 = .ok (.istore 4, 2) := by decide +kernel
theorem dX1_findWhoMayMove_84 : decode cX1_findWhoMayMove 84 = .ok (.aload_n 0, 1) := by decide +kernel
theorem dX1_findWhoMayMove_85 : decode cX1_findWhoMayMove 85 = .ok (.getfield 15, 3) := by decide +kernel
theorem dX1_findWhoMayMove_88 : decode cX1_findWhoMayMove 88 = .ok (.iload_n 3, 1) := by decide +kernel
theorem dX1_findWhoMayMove_89 : decode cX1_findWhoMayMove 89 = .ok (.iload 4, 2) := by decide +kernel
theorem dX1_findWhoMayMove_91 : decode cX1_findWhoMayMove 91 = .ok (.invokestatic 53, 3) := by decide +kernel
theorem dX1_findWhoMayMove_94 : decode cX1_findWhoMayMove 94 = .ok (.iinc 3 1, 3) := by decide +kernel
theorem dX1_findWhoMayMove_97 : decode cX1_findWhoMayMove 97 = .ok (.goto (-90), 3) := by decide +kernel
theorem dX1_findWhoMayMove_100 : decode cX1_findWhoMayMove 100 = .ok (.return_, 1) := by decide +kernel
theorem dX1_moveInTurn_0 : decode cX1_moveInTurn 0 = .ok (.iconst 0, 1) := by decide +kernel
theorem dX1_moveInTurn_1 : decode cX1_moveInTurn 1 = .ok (.istore 4, 2) := by decide +kernel
theorem dX1_moveInTurn_3 : decode cX1_moveInTurn 3 = .ok (.iconst 0, 1) := by decide +kernel
theorem dX1_moveInTurn_4 : decode cX1_moveInTurn 4 = .ok (.istore 5, 2) := by decide +kernel
theorem dX1_moveInTurn_6 : decode cX1_moveInTurn 6 = .ok (.iload 5, 2) := by decide +kernel
theorem dX1_moveInTurn_8 : decode cX1_moveInTurn 8 = .ok (.bipush 24, 2) := by decide +kernel
theorem dX1_moveInTurn_10 : decode cX1_moveInTurn 10 = .ok (.if_icmp .ge 88, 3) := by decide +kernel
theorem dX1_moveInTurn_13 : decode cX1_moveInTurn 13 = .ok (.iload 4, 2) := by decide +kernel
theorem dX1_moveInTurn_15 : decode cX1_moveInTurn 15 = .ok (.iload_n 3, 1) := by decide +kernel
theorem dX1_moveInTurn_16 : decode cX1_moveInTurn 16 = .ok (.if_icmp .ge 82, 3) := by decide +kernel
theorem dX1_moveInTurn_19 : decode cX1_moveInTurn 19 = .ok (.aload_n 0, 1) := by decide +kernel
theorem dX1_moveInTurn_20 : decode cX1_moveInTurn 20 = .ok (.aload_n 1, 1) := by decide +kernel
theorem dX1_moveInTurn_21 : decode cX1_moveInTurn 21 = .ok (.iload_n 2, 1) := by decide +kernel
theorem dX1_moveInTurn_22 : decode cX1_moveInTurn 22 = .ok (.invokevirtual 65, 3) := by decide +kernel
theorem dX1_moveInTurn_25 : decode cX1_moveInTurn 25 = .ok (.istore 6, 2) := by decide +kernel
theorem dX1_moveInTurn_27 : decode cX1_moveInTurn 27 = .ok (.iload 6, 2) := by decide +kernel
theorem dX1_moveInTurn_29 : decode cX1_moveInTurn 29 = .ok (.iconst (-1), 1) := by decide +kernel
theorem dX1_moveInTurn_30 : decode cX1_moveInTurn 30 = .ok (.if_icmp .ne 6, 3) := by decide +kernel
theorem dX1_moveInTurn_33 : decode cX1_moveInTurn 33 = .ok (.iload 4, 2) := by decide +kernel
theorem dX1_moveInTurn_35 : decode cX1_moveInTurn 35 = .ok (.ireturn, 1) := by decide +kernel
theorem dX1_moveInTurn_36 : decode cX1_moveInTurn 36 = .ok (.aload_n 0, 1) := by decide +kernel
theorem dX1_moveInTurn_37 : decode cX1_moveInTurn 37 = .ok (.aload_n 1, 1) := by decide +kernel
theorem dX1_moveInTurn_38 : decode cX1_moveInTurn 38 = .ok (.iload 6, 2) := by decide +kernel
theorem dX1_moveInTurn_40 : decode cX1_moveInTurn 40 = .ok (.invokevirtual 69, 3) := by decide +kernel
theorem dX1_moveInTurn_43 : decode cX1_moveInTurn 43 = .ok (.istore 7, 2) := by decide +kernel
theorem dX1_moveInTurn_45 : decode cX1_moveInTurn 45 = .ok (.iload 7, 2) := by decide +kernel
theorem dX1_moveInTurn_47 : decode cX1_moveInTurn 47 = .ok (.iconst (-1), 1) := by decide +kernel
theorem dX1_moveInTurn_48 : decode cX1_moveInTurn 48 = .ok (.if_icmp .ne 16, 3) := by decide +kernel
theorem dX1_moveInTurn_51 : decode cX1_moveInTurn 51 = .ok (.aload_n 0, 1) := by decide +kernel
theorem dX1_moveInTurn_52 : decode cX1_moveInTurn 52 = .ok (.getfield 15, 3) := by decide +kernel
theorem dX1_moveInTurn_55 : decode cX1_moveInTurn 55 = .ok (.iload 6, 2) := by decide +kernel
theorem dX1_moveInTurn_57 : decode cX1_moveInTurn 57 = .ok (.iconst 5, 1) := by decide +kernel
theorem dX1_moveInTurn_58 : decode cX1_moveInTurn 58 = .ok (.invokestatic 53, 3) := by decide +kernel
theorem dX1_moveInTurn_61 : decode cX1_moveInTurn 61 = .ok (.goto 31, 3) := by decide +kernel
theorem dX1_moveInTurn_64 : decode cX1_moveInTurn 64 = .ok (.aload_n 0, 1) := by decide +kernel
theorem dX1_moveInTurn_65 : decode cX1_moveInTurn 65 = .ok (.getfield 15, 3) := by decide +kernel
theorem dX1_moveInTurn_68 : decode cX1_moveInTurn 68 = .ok (.iload 6, 2) := by decide +kernel
theorem dX1_moveInTurn_70 : decode cX1_moveInTurn 70 = .ok (.iconst 0, 1) := by decide +kernel
theorem dX1_moveInTurn_71 : decode cX1_moveInTurn 71 = .ok (.invokestatic 53, 3) := by decide +kernel
theorem dX1_moveInTurn_74 : decode cX1_moveInTurn 74 = .ok (.aload_n 1, 1) := by decide +kernel
theorem dX1_moveInTurn_75 : decode cX1_moveInTurn 75 = .ok (.iload 6, 2) := by decide +kernel
theorem dX1_moveInTurn_77 : decode cX1_moveInTurn 77 = .ok (.iload 7, 2) := by decide +kernel
theorem dX1_moveInTurn_79 : decode cX1_moveInTurn 79 = .ok (.invokevirtual 73, 3) := by decide +kernel
theorem dX1_moveInTurn_82 : decode cX1_moveInTurn 82 = .ok (.aload_n 0, 1) := by decide +kernel
theorem dX1_moveInTurn_83 : decode cX1_moveInTurn 83 = .ok (.aload_n 1, 1) := by decide +kernel
theorem dX1_moveInTurn_84 : decode cX1_moveInTurn 84 = .ok (.iload 6, 2) := by decide +kernel
theorem dX1_moveInTurn_86 : decode cX1_moveInTurn 86 = .ok (.invokevirtual 77, 3) := by decide +kernel
theorem dX1_moveInTurn_89 : decode cX1_moveInTurn 89 = .ok (.iinc 4 1, 3) := by decide +kernel
theorem dX1_moveInTurn_92 : decode cX1_moveInTurn 92 = .ok (.iinc 5 1, 3) := by decide +kernel
theorem dX1_moveInTurn_95 : decode cX1_moveInTurn 95 = .ok (.goto (-89), 3) := by decide +kernel
theorem dX1_moveInTurn_98 : decode cX1_moveInTurn 98 = .ok (.iload 4, 2) := by decide +kernel
theorem dX1_moveInTurn_100 : decode cX1_moveInTurn 100 = .ok (.ireturn, 1) := by decide +kernel
theorem dX1_nextInTurn_0 : decode cX1_nextInTurn 0 = .ok (.aload_n 1, 1) := by decide +kernel
theorem dX1_nextInTurn_1 : decode cX1_nextInTurn 1 = .ok (.getfield 18, 3) := by decide +kernel
theorem dX1_nextInTurn_4 : decode cX1_nextInTurn 4 = .ok (.bipush 15, 2) := by decide +kernel
theorem dX1_nextInTurn_6 : decode cX1_nextInTurn 6 = .ok (.invokestatic 23, 3) := by decide +kernel
theorem dX1_nextInTurn_9 : decode cX1_nextInTurn 9 = .ok (.istore_n 3, 1) := by decide +kernel
theorem dX1_nextInTurn_10 : decode cX1_nextInTurn 10 = .ok (.iconst (-1), 1) := by decide +kernel
theorem dX1_nextInTurn_11 : decode cX1_nextInTurn 11 = .ok (.istore 4, 2) := by decide +kernel
theorem dX1_nextInTurn_13 : decode cX1_nextInTurn 13 = .ok (.iconst 0, 1) := by decide +kernel
theorem dX1_nextInTurn_14 : decode cX1_nextInTurn 14 = .ok (.istore 5, 2) := by decide +kernel
theorem dX1_nextInTurn_16 : decode cX1_nextInTurn 16 = .ok (.iconst 0, 1) := by decide +kernel
theorem dX1_nextInTurn_17 : decode cX1_nextInTurn 17 = .ok (.istore 6, 2) := by decide +kernel
theorem dX1_nextInTurn_19 : decode cX1_nextInTurn 19 = .ok (.iload 6, 2) := by decide +kernel
theorem dX1_nextInTurn_21 : decode cX1_nextInTurn 21 = .ok (.iload_n 3, 1) := by decide +kernel
theorem dX1_nextInTurn_22 : decode cX1_nextInTurn 22 = .ok (.if_icmp .ge 105, 3) := by decide +kernel
theorem dX1_nextInTurn_25 : decode cX1_nextInTurn 25 = .ok (.aload_n 0, 1) := by decide +kernel
theorem dX1_nextInTurn_26 : decode cX1_nextInTurn 26 = .ok (.getfield 9, 3) := by decide +kernel
theorem dX1_nextInTurn_29 : decode cX1_nextInTurn 29 = .ok (.iload 6, 2) := by decide +kernel
theorem dX1_nextInTurn_31 : decode cX1_nextInTurn 31 = .ok (.invokestatic 23, 3) := by decide +kernel
theorem dX1_nextInTurn_34 : decode cX1_nextInTurn 34 = .ok (.aload_n 1, 1) := by decide +kernel
theorem dX1_nextInTurn_35 : decode cX1_nextInTurn 35 = .ok (.getfield 62, 3) := by decide +kernel
theorem dX1_nextInTurn_38 : decode cX1_nextInTurn 38 = .ok (.iload 6, 2) := by decide +kernel
theorem dX1_nextInTurn_40 : decode cX1_nextInTurn 40 = .ok (.invokestatic 23, 3) := by decide +kernel
theorem dX1_nextInTurn_43 : decode cX1_nextInTurn 43 = .ok (.if_icmp .le 7, 3) := by decide +kernel
theorem dX1_nextInTurn_46 : decode cX1_nextInTurn 46 = .ok (.iconst 1, 1) := by decide +kernel
theorem dX1_nextInTurn_47 : decode cX1_nextInTurn 47 = .ok (.goto 4, 3) := by decide +kernel
theorem dX1_nextInTurn_50 : decode cX1_nextInTurn 50 = .ok (.iconst 0, 1) := by decide +kernel
theorem dX1_nextInTurn_51 : decode cX1_nextInTurn 51 = .ok (.istore 7, 2) := by decide +kernel
theorem dX1_nextInTurn_53 : decode cX1_nextInTurn 53 = .ok (.aload_n 0, 1) := by decide +kernel
theorem dX1_nextInTurn_54 : decode cX1_nextInTurn 54 = .ok (.getfield 15, 3) := by decide +kernel
theorem dX1_nextInTurn_57 : decode cX1_nextInTurn 57 = .ok (.iload 6, 2) := by decide +kernel
theorem dX1_nextInTurn_59 : decode cX1_nextInTurn 59 = .ok (.invokestatic 23, 3) := by decide +kernel
theorem dX1_nextInTurn_62 : decode cX1_nextInTurn 62 = .ok (.iconst 4, 1) := by decide +kernel
theorem dX1_nextInTurn_63 : decode cX1_nextInTurn 63 = .ok (.if_icmp .ne 58, 3) := by decide +kernel
theorem dX1_nextInTurn_66 : decode cX1_nextInTurn 66 = .ok (.iload 7, 2) := by decide +kernel
theorem dX1_nextInTurn_68 : decode cX1_nextInTurn 68 = .ok (.iload_n 2, 1) := by decide +kernel
theorem dX1_nextInTurn_69 : decode cX1_nextInTurn 69 = .ok (.if_icmp .ne 52, 3) := by decide +kernel
theorem dX1_nextInTurn_72 : decode cX1_nextInTurn 72 = .ok (.iload_n 2, 1) := by decide +kernel
theorem dX1_nextInTurn_73 : decode cX1_nextInTurn 73 = .ok (.ifCond .eq 15, 3) := by decide +kernel
theorem dX1_nextInTurn_76 : decode cX1_nextInTurn 76 = .ok (.aload_n 1, 1) := by decide +kernel
theorem dX1_nextInTurn_77 : decode cX1_nextInTurn 77 = .ok (.getfield 81, 3) := by decide +kernel
theorem dX1_nextInTurn_80 : decode cX1_nextInTurn 80 = .ok (.iload 6, 2) := by decide +kernel
theorem dX1_nextInTurn_82 : decode cX1_nextInTurn 82 = .ok (.invokestatic 23, 3) := by decide +kernel
theorem dX1_nextInTurn_85 : decode cX1_nextInTurn 85 = .ok (.goto 13, 3) := by decide +kernel
theorem dX1_nextInTurn_88 : decode cX1_nextInTurn 88 = .ok (.aload_n 1, 1) := by decide +kernel
theorem dX1_nextInTurn_89 : decode cX1_nextInTurn 89 = .ok (.getfield 81, 3) := by decide +kernel
theorem dX1_nextInTurn_92 : decode cX1_nextInTurn 92 = .ok (.iload 6, 2) := by decide +kernel
theorem dX1_nextInTurn_94 : decode cX1_nextInTurn 94 = .ok (.invokestatic 23, 3) := by decide +kernel
theorem dX1_nextInTurn_97 : decode cX1_nextInTurn 97 = .ok (.ineg, 1) := by decide +kernel
theorem dX1_nextInTurn_98 : decode cX1_nextInTurn 98 = .ok (.istore 8, 2) := by decide +kernel
theorem dX1_nextInTurn_100 : decode cX1_nextInTurn 100 = .ok (.iload 4, 2) := by decide +kernel
theorem dX1_nextInTurn_102 : decode cX1_nextInTurn 102 = .ok (.iconst (-1), 1) := by decide +kernel
theorem dX1_nextInTurn_103 : decode cX1_nextInTurn 103 = .ok (.if_icmp .eq 10, 3) := by decide +kernel
theorem dX1_nextInTurn_106 : decode cX1_nextInTurn 106 = .ok (.iload 8, 2) := by decide +kernel
theorem dX1_nextInTurn_108 : decode cX1_nextInTurn 108 = .ok (.iload 5, 2) := by decide +kernel
theorem dX1_nextInTurn_110 : decode cX1_nextInTurn 110 = .ok (.if_icmp .ge 11, 3) := by decide +kernel
theorem dX1_nextInTurn_113 : decode cX1_nextInTurn 113 = .ok (.iload 6, 2) := by decide +kernel
theorem dX1_nextInTurn_115 : decode cX1_nextInTurn 115 = .ok (.istore 4, 2) := by decide +kernel
theorem dX1_nextInTurn_117 : decode cX1_nextInTurn 117 = .ok (.iload 8, 2) := by decide +kernel
theorem dX1_nextInTurn_119 : decode cX1_nextInTurn 119 = .ok (.istore 5, 2) := by decide +kernel
theorem dX1_nextInTurn_121 : decode cX1_nextInTurn 121 = .ok (.iinc 6 1, 3) := by decide +kernel
theorem dX1_nextInTurn_124 : decode cX1_nextInTurn 124 = .ok (.goto (-105), 3) := by decide +kernel
theorem dX1_nextInTurn_127 : decode cX1_nextInTurn 127 = .ok (.iload 4, 2) := by decide +kernel
theorem dX1_nextInTurn_129 : decode cX1_nextInTurn 129 = .ok (.ireturn, 1) := by decide +kernel
theorem dX1_shelfToMoveTo_0 : decode cX1_shelfToMoveTo 0 = .ok (.aload_n 1, 1) := by decide +kernel
theorem dX1_shelfToMoveTo_1 : decode cX1_shelfToMoveTo 1 = .ok (.getfield 84, 3) := by decide +kernel
theorem dX1_shelfToMoveTo_4 : decode cX1_shelfToMoveTo 4 = .ok (.iload_n 2, 1) := by decide +kernel
theorem dX1_shelfToMoveTo_5 : decode cX1_shelfToMoveTo 5 = .ok (.invokestatic 23, 3) := by decide +kernel
theorem dX1_shelfToMoveTo_8 : decode cX1_shelfToMoveTo 8 = .ok (.istore_n 3, 1) := by decide +kernel
theorem dX1_shelfToMoveTo_9 : decode cX1_shelfToMoveTo 9 = .ok (.aload_n 0, 1) := by decide +kernel
theorem dX1_shelfToMoveTo_10 : decode cX1_shelfToMoveTo 10 = .ok (.getfield 9, 3) := by decide +kernel
theorem dX1_shelfToMoveTo_13 : decode cX1_shelfToMoveTo 13 = .ok (.iload_n 2, 1) := by decide +kernel
theorem dX1_shelfToMoveTo_14 : decode cX1_shelfToMoveTo 14 = .ok (.invokestatic 23, 3) := by decide +kernel
theorem dX1_shelfToMoveTo_17 : decode cX1_shelfToMoveTo 17 = .ok (.istore 4, 2) := by decide +kernel
theorem dX1_shelfToMoveTo_19 : decode cX1_shelfToMoveTo 19 = .ok (.aload_n 1, 1) := by decide +kernel
theorem dX1_shelfToMoveTo_20 : decode cX1_shelfToMoveTo 20 = .ok (.iload 4, 2) := by decide +kernel
theorem dX1_shelfToMoveTo_22 : decode cX1_shelfToMoveTo 22 = .ok (.iload_n 3, 1) := by decide +kernel
theorem dX1_shelfToMoveTo_23 : decode cX1_shelfToMoveTo 23 = .ok (.invokevirtual 87, 3) := by decide +kernel
theorem dX1_shelfToMoveTo_26 : decode cX1_shelfToMoveTo 26 = .ok (.ifCond .eq 6, 3) := by decide +kernel
theorem dX1_shelfToMoveTo_29 : decode cX1_shelfToMoveTo 29 = .ok (.iload 4, 2) := by decide +kernel
theorem dX1_shelfToMoveTo_31 : decode cX1_shelfToMoveTo 31 = .ok (.ireturn, 1) := by decide +kernel
theorem dX1_shelfToMoveTo_32 : decode cX1_shelfToMoveTo 32 = .ok (.iload 4, 2) := by decide +kernel
theorem dX1_shelfToMoveTo_34 : decode cX1_shelfToMoveTo 34 = .ok (.aload_n 1, 1) := by decide +kernel
theorem dX1_shelfToMoveTo_35 : decode cX1_shelfToMoveTo 35 = .ok (.getfield 62, 3) := by decide +kernel
theorem dX1_shelfToMoveTo_38 : decode cX1_shelfToMoveTo 38 = .ok (.iload_n 2, 1) := by decide +kernel
theorem dX1_shelfToMoveTo_39 : decode cX1_shelfToMoveTo 39 = .ok (.invokestatic 23, 3) := by decide +kernel
theorem dX1_shelfToMoveTo_42 : decode cX1_shelfToMoveTo 42 = .ok (.isub, 1) := by decide +kernel
theorem dX1_shelfToMoveTo_43 : decode cX1_shelfToMoveTo 43 = .ok (.invokestatic 91, 3) := by decide +kernel
theorem dX1_shelfToMoveTo_46 : decode cX1_shelfToMoveTo 46 = .ok (.iconst 2, 1) := by decide +kernel
theorem dX1_shelfToMoveTo_47 : decode cX1_shelfToMoveTo 47 = .ok (.if_icmp .ne 7, 3) := by decide +kernel
theorem dX1_shelfToMoveTo_50 : decode cX1_shelfToMoveTo 50 = .ok (.iconst 1, 1) := by decide +kernel
theorem dX1_shelfToMoveTo_51 : decode cX1_shelfToMoveTo 51 = .ok (.goto 4, 3) := by decide +kernel
theorem dX1_shelfToMoveTo_54 : decode cX1_shelfToMoveTo 54 = .ok (.iconst 0, 1) := by decide +kernel
theorem dX1_shelfToMoveTo_55 : decode cX1_shelfToMoveTo 55 = .ok (.istore 5, 2) := by decide +kernel
theorem dX1_shelfToMoveTo_57 : decode cX1_shelfToMoveTo 57 = .ok (.iload 5, 2) := by decide +kernel
theorem dX1_shelfToMoveTo_59 : decode cX1_shelfToMoveTo 59 = .ok (.ifCond .eq 16, 3) := by decide +kernel
theorem dX1_shelfToMoveTo_62 : decode cX1_shelfToMoveTo 62 = .ok (.aload_n 1, 1) := by decide +kernel
theorem dX1_shelfToMoveTo_63 : decode cX1_shelfToMoveTo 63 = .ok (.iconst 1, 1) := by decide +kernel
theorem dX1_shelfToMoveTo_64 : decode cX1_shelfToMoveTo 64 = .ok (.iload_n 3, 1) := by decide +kernel
theorem dX1_shelfToMoveTo_65 : decode cX1_shelfToMoveTo 65 = .ok (.invokevirtual 87, 3) := by decide +kernel
theorem dX1_shelfToMoveTo_68 : decode cX1_shelfToMoveTo 68 = .ok (.ifCond .eq 7, 3) := by decide +kernel
theorem dX1_shelfToMoveTo_71 : decode cX1_shelfToMoveTo 71 = .ok (.iconst 1, 1) := by decide +kernel
theorem dX1_shelfToMoveTo_72 : decode cX1_shelfToMoveTo 72 = .ok (.goto 4, 3) := by decide +kernel
theorem dX1_shelfToMoveTo_75 : decode cX1_shelfToMoveTo 75 = .ok (.iconst (-1), 1) := by decide +kernel
theorem dX1_shelfToMoveTo_76 : decode cX1_shelfToMoveTo 76 = .ok (.ireturn, 1) := by decide +kernel
theorem dX1_promiseIfDeep_0 : decode cX1_promiseIfDeep 0 = .ok (.aload_n 1, 1) := by decide +kernel
theorem dX1_promiseIfDeep_1 : decode cX1_promiseIfDeep 1 = .ok (.getfield 62, 3) := by decide +kernel
theorem dX1_promiseIfDeep_4 : decode cX1_promiseIfDeep 4 = .ok (.iload_n 2, 1) := by decide +kernel
theorem dX1_promiseIfDeep_5 : decode cX1_promiseIfDeep 5 = .ok (.invokestatic 23, 3) := by decide +kernel
theorem dX1_promiseIfDeep_8 : decode cX1_promiseIfDeep 8 = .ok (.iconst 2, 1) := by decide +kernel
theorem dX1_promiseIfDeep_9 : decode cX1_promiseIfDeep 9 = .ok (.if_icmp .ne 19, 3) := by decide +kernel
theorem dX1_promiseIfDeep_12 : decode cX1_promiseIfDeep 12 = .ok (.aload_n 1, 1) := by decide +kernel
theorem dX1_promiseIfDeep_13 : decode cX1_promiseIfDeep 13 = .ok (.getfield 59, 3) := by decide +kernel
theorem dX1_promiseIfDeep_16 : decode cX1_promiseIfDeep 16 = .ok (.iload_n 2, 1) := by decide +kernel
theorem dX1_promiseIfDeep_17 : decode cX1_promiseIfDeep 17 = .ok (.aload_n 1, 1) := by decide +kernel
theorem dX1_promiseIfDeep_18 : decode cX1_promiseIfDeep 18 = .ok (.getfield 18, 3) := by decide +kernel
theorem dX1_promiseIfDeep_21 : decode cX1_promiseIfDeep 21 = .ok (.iconst 4, 1) := by decide +kernel
theorem dX1_promiseIfDeep_22 : decode cX1_promiseIfDeep 22 = .ok (.invokestatic 23, 3) := by decide +kernel
theorem dX1_promiseIfDeep_25 : decode cX1_promiseIfDeep 25 = .ok (.invokestatic 53, 3) := by decide +kernel
theorem dX1_promiseIfDeep_28 : decode cX1_promiseIfDeep 28 = .ok (.return_, 1) := by decide +kernel
theorem dX2_init_0 : decode cX2_init 0 = .ok (.aload_n 0, 1) := by decide +kernel
theorem dX2_init_1 : decode cX2_init 1 = .ok (.invokespecial 3, 3) := by decide +kernel
theorem dX2_init_4 : decode cX2_init 4 = .ok (.aload_n 0, 1) := by decide +kernel
theorem dX2_init_5 : decode cX2_init 5 = .ok (.bipush 60, 2) := by decide +kernel
theorem dX2_init_7 : decode cX2_init 7 = .ok (.newarray .int, 2) := by decide +kernel
theorem dX2_init_9 : decode cX2_init 9 = .ok (.putfield 9, 3) := by decide +kernel
theorem dX2_init_12 : decode cX2_init 12 = .ok (.aload_n 0, 1) := by decide +kernel
theorem dX2_init_13 : decode cX2_init 13 = .ok (.iconst 0, 1) := by decide +kernel
theorem dX2_init_14 : decode cX2_init 14 = .ok (.putfield 15, 3) := by decide +kernel
theorem dX2_init_17 : decode cX2_init 17 = .ok (.aload_n 0, 1) := by decide +kernel
theorem dX2_init_18 : decode cX2_init 18 = .ok (.bipush 30, 2) := by decide +kernel
theorem dX2_init_20 : decode cX2_init 20 = .ok (.newarray .int, 2) := by decide +kernel
theorem dX2_init_22 : decode cX2_init 22 = .ok (.putfield 19, 3) := by decide +kernel
theorem dX2_init_25 : decode cX2_init 25 = .ok (.aload_n 0, 1) := by decide +kernel
theorem dX2_init_26 : decode cX2_init 26 = .ok (.bipush 30, 2) := by decide +kernel
theorem dX2_init_28 : decode cX2_init 28 = .ok (.newarray .int, 2) := by decide +kernel
theorem dX2_init_30 : decode cX2_init 30 = .ok (.putfield 22, 3) := by decide +kernel
theorem dX2_init_33 : decode cX2_init 33 = .ok (.aload_n 0, 1) := by decide +kernel
theorem dX2_init_34 : decode cX2_init 34 = .ok (.bipush 30, 2) := by decide +kernel
theorem dX2_init_36 : decode cX2_init 36 = .ok (.newarray .int, 2) := by decide +kernel
theorem dX2_init_38 : decode cX2_init 38 = .ok (.putfield 25, 3) := by decide +kernel
theorem dX2_init_41 : decode cX2_init 41 = .ok (.aload_n 0, 1) := by decide +kernel
theorem dX2_init_42 : decode cX2_init 42 = .ok (.iconst 0, 1) := by decide +kernel
theorem dX2_init_43 : decode cX2_init 43 = .ok (.putfield 28, 3) := by decide +kernel
theorem dX2_init_46 : decode cX2_init 46 = .ok (.aload_n 0, 1) := by decide +kernel
theorem dX2_init_47 : decode cX2_init 47 = .ok (.iconst 0, 1) := by decide +kernel
theorem dX2_init_48 : decode cX2_init 48 = .ok (.putfield 31, 3) := by decide +kernel
theorem dX2_init_51 : decode cX2_init 51 = .ok (.return_, 1) := by decide +kernel
theorem dX2_append_0 : decode cX2_append 0 = .ok (.aload_n 0, 1) := by decide +kernel
theorem dX2_append_1 : decode cX2_append 1 = .ok (.getfield 15, 3) := by decide +kernel
theorem dX2_append_4 : decode cX2_append 4 = .ok (.bipush 60, 2) := by decide +kernel
theorem dX2_append_6 : decode cX2_append 6 = .ok (.if_icmp .lt 6, 3) := by decide +kernel
theorem dX2_append_9 : decode cX2_append 9 = .ok (.bipush (-3), 2) := by decide +kernel
theorem dX2_append_11 : decode cX2_append 11 = .ok (.ireturn, 1) := by decide +kernel
theorem dX2_append_12 : decode cX2_append 12 = .ok (.aload_n 0, 1) := by decide +kernel
theorem dX2_append_13 : decode cX2_append 13 = .ok (.getfield 9, 3) := by decide +kernel
theorem dX2_append_16 : decode cX2_append 16 = .ok (.aload_n 0, 1) := by decide +kernel
theorem dX2_append_17 : decode cX2_append 17 = .ok (.getfield 15, 3) := by decide +kernel
theorem dX2_append_20 : decode cX2_append 20 = .ok (.iload_n 1, 1) := by decide +kernel
theorem dX2_append_21 : decode cX2_append 21 = .ok (.invokestatic 34, 3) := by decide +kernel
theorem dX2_append_24 : decode cX2_append 24 = .ok (.aload_n 0, 1) := by decide +kernel
theorem dX2_append_25 : decode cX2_append 25 = .ok (.dup, 1) := by decide +kernel
theorem dX2_append_26 : decode cX2_append 26 = .ok (.getfield 15, 3) := by decide +kernel
theorem dX2_append_29 : decode cX2_append 29 = .ok (.iconst 1, 1) := by decide +kernel
theorem dX2_append_30 : decode cX2_append 30 = .ok (.iadd, 1) := by decide +kernel
theorem dX2_append_31 : decode cX2_append 31 = .ok (.putfield 15, 3) := by decide +kernel
theorem dX2_append_34 : decode cX2_append 34 = .ok (.aload_n 0, 1) := by decide +kernel
theorem dX2_append_35 : decode cX2_append 35 = .ok (.getfield 15, 3) := by decide +kernel
theorem dX2_append_38 : decode cX2_append 38 = .ok (.ireturn, 1) := by decide +kernel
theorem dX2_empty_0 : decode cX2_empty 0 = .ok (.aload_n 0, 1) := by decide +kernel
theorem dX2_empty_1 : decode cX2_empty 1 = .ok (.getfield 15, 3) := by decide +kernel
theorem dX2_empty_4 : decode cX2_empty 4 = .ok (.istore_n 1, 1) := by decide +kernel
theorem dX2_empty_5 : decode cX2_empty 5 = .ok (.aload_n 0, 1) := by decide +kernel
theorem dX2_empty_6 : decode cX2_empty 6 = .ok (.iconst 0, 1) := by decide +kernel
theorem dX2_empty_7 : decode cX2_empty 7 = .ok (.putfield 15, 3) := by decide +kernel
theorem dX2_empty_10 : decode cX2_empty 10 = .ok (.iload_n 1, 1) := by decide +kernel
theorem dX2_empty_11 : decode cX2_empty 11 = .ok (.ireturn, 1) := by decide +kernel
theorem dX2_readAll_0 : decode cX2_readAll 0 = .ok (.aload_n 0, 1) := by decide +kernel
theorem dX2_readAll_1 : decode cX2_readAll 1 = .ok (.iconst 0, 1) := by decide +kernel
theorem dX2_readAll_2 : decode cX2_readAll 2 = .ok (.putfield 28, 3) := by decide +kernel
theorem dX2_readAll_5 : decode cX2_readAll 5 = .ok (.aload_n 0, 1) := by decide +kernel
theorem dX2_readAll_6 : decode cX2_readAll 6 = .ok (.iconst 0, 1) := by decide +kernel
theorem dX2_readAll_7 : decode cX2_readAll 7 = .ok (.putfield 31, 3) := by decide +kernel
theorem dX2_readAll_10 : decode cX2_readAll 10 = .ok (.aload_n 0, 1) := by decide +kernel
theorem dX2_readAll_11 : decode cX2_readAll 11 = .ok (.getfield 28, 3) := by decide +kernel
theorem dX2_readAll_14 : decode cX2_readAll 14 = .ok (.bipush 30, 2) := by decide +kernel
theorem dX2_readAll_16 : decode cX2_readAll 16 = .ok (.if_icmp .ge 55, 3) := by decide +kernel
theorem dX2_readAll_19 : decode cX2_readAll 19 = .ok (.aload_n 0, 1) := by decide +kernel
theorem dX2_readAll_20 : decode cX2_readAll 20 = .ok (.invokevirtual 38, 3) := by decide +kernel
theorem dX2_readAll_23 : decode cX2_readAll 23 = .ok (.ifCond .ne 8, 3) := by decide +kernel
theorem dX2_readAll_26 : decode cX2_readAll 26 = .ok (.aload_n 0, 1) := by decide +kernel
theorem dX2_readAll_27 : decode cX2_readAll 27 = .ok (.getfield 31, 3) := by decide +kernel
theorem dX2_readAll_30 : decode cX2_readAll 30 = .ok (.ireturn, 1) := by decide +kernel
theorem dX2_readAll_31 : decode cX2_readAll 31 = .ok (.aload_n 0, 1) := by decide +kernel
theorem dX2_readAll_32 : decode cX2_readAll 32 = .ok (.getfield 31, 3) := by decide +kernel
theorem dX2_readAll_35 : decode cX2_readAll 35 = .ok (.aload_n 0, 1) := by decide +kernel
theorem dX2_readAll_36 : decode cX2_readAll 36 = .ok (.getfield 15, 3) := by decide +kernel
theorem dX2_readAll_39 : decode cX2_readAll 39 = .ok (.if_icmp .lt 5, 3) := by decide +kernel
theorem dX2_readAll_42 : decode cX2_readAll 42 = .ok (.iconst (-1), 1) := by decide +kernel
theorem dX2_readAll_43 : decode cX2_readAll 43 = .ok (.ireturn, 1) := by decide +kernel
theorem dX2_readAll_44 : decode cX2_readAll 44 = .ok (.aload_n 0, 1) := by decide +kernel
theorem dX2_readAll_45 : decode cX2_readAll 45 = .ok (.invokevirtual 42, 3) := by decide +kernel
theorem dX2_readAll_48 : decode cX2_readAll 48 = .ok (.bipush 44, 2) := by decide +kernel
theorem dX2_readAll_50 : decode cX2_readAll 50 = .ok (.if_icmp .eq 8, 3) := by decide +kernel
theorem dX2_readAll_53 : decode cX2_readAll 53 = .ok (.aload_n 0, 1) := by decide +kernel
theorem dX2_readAll_54 : decode cX2_readAll 54 = .ok (.getfield 31, 3) := by decide +kernel
theorem dX2_readAll_57 : decode cX2_readAll 57 = .ok (.ireturn, 1) := by decide +kernel
theorem dX2_readAll_58 : decode cX2_readAll 58 = .ok (.aload_n 0, 1) := by decide +kernel
theorem dX2_readAll_59 : decode cX2_readAll 59 = .ok (.dup, 1) := by decide +kernel
theorem dX2_readAll_60 : decode cX2_readAll 60 = .ok (.getfield 31, 3) := by decide +kernel
theorem dX2_readAll_63 : decode cX2_readAll 63 = .ok (.iconst 1, 1) := by decide +kernel
theorem dX2_readAll_64 : decode cX2_readAll 64 = .ok (.iadd, 1) := by decide +kernel
theorem dX2_readAll_65 : decode cX2_readAll 65 = .ok (.putfield 31, 3) := by decide +kernel
theorem dX2_readAll_68 : decode cX2_readAll 68 = .ok (.goto (-58), 3) := by decide +kernel
theorem dX2_readAll_71 : decode cX2_readAll 71 = .ok (.aload_n 0, 1) := by decide +kernel
theorem dX2_readAll_72 : decode cX2_readAll 72 = .ok (.getfield 31, 3) := by decide +kernel
theorem dX2_readAll_75 : decode cX2_readAll 75 = .ok (.ireturn, 1) := by decide +kernel
theorem dX2_readOrder_0 : decode cX2_readOrder 0 = .ok (.aload_n 0, 1) := by decide +kernel
theorem dX2_readOrder_1 : decode cX2_readOrder 1 = .ok (.invokevirtual 42, 3) := by decide +kernel
theorem dX2_readOrder_4 : decode cX2_readOrder 4 = .ok (.istore_n 1, 1) := by decide +kernel
theorem dX2_readOrder_5 : decode cX2_readOrder 5 = .ok (.aload_n 0, 1) := by decide +kernel
theorem dX2_readOrder_6 : decode cX2_readOrder 6 = .ok (.iload_n 1, 1) := by decide +kernel
theorem dX2_readOrder_7 : decode cX2_readOrder 7 = .ok (.invokevirtual 46, 3) := by decide +kernel
theorem dX2_readOrder_10 : decode cX2_readOrder 10 = .ok (.ifCond .ne 5, 3) := by decide +kernel
theorem dX2_readOrder_13 : decode cX2_readOrder 13 = .ok (.iconst 0, 1) := by decide +kernel
theorem dX2_readOrder_14 : decode cX2_readOrder 14 = .ok (.ireturn, 1) := by decide +kernel
theorem dX2_readOrder_15 : decode cX2_readOrder 15 = .ok (.aload_n 0, 1) := by decide +kernel
theorem dX2_readOrder_16 : decode cX2_readOrder 16 = .ok (.dup, 1) := by decide +kernel
theorem dX2_readOrder_17 : decode cX2_readOrder 17 = .ok (.getfield 31, 3) := by decide +kernel
theorem dX2_readOrder_20 : decode cX2_readOrder 20 = .ok (.iconst 1, 1) := by decide +kernel
theorem dX2_readOrder_21 : decode cX2_readOrder 21 = .ok (.iadd, 1) := by decide +kernel
theorem dX2_readOrder_22 : decode cX2_readOrder 22 = .ok (.putfield 31, 3) := by decide +kernel
theorem dX2_readOrder_25 : decode cX2_readOrder 25 = .ok (.aload_n 0, 1) := by decide +kernel
theorem dX2_readOrder_26 : decode cX2_readOrder 26 = .ok (.aload_n 0, 1) := by decide +kernel
theorem dX2_readOrder_27 : decode cX2_readOrder 27 = .ok (.iload_n 1, 1) := by decide +kernel
theorem dX2_readOrder_28 : decode cX2_readOrder 28 = .ok (.invokevirtual 50, 3) := by decide +kernel
theorem dX2_readOrder_31 : decode cX2_readOrder 31 = .ok (.aload_n 0, 1) := by decide +kernel
theorem dX2_readOrder_32 : decode cX2_readOrder 32 = .ok (.iload_n 1, 1) := by decide +kernel
theorem dX2_readOrder_33 : decode cX2_readOrder 33 = .ok (.invokevirtual 54, 3) := by decide +kernel
theorem dX2_readOrder_36 : decode cX2_readOrder 36 = .ok (.invokevirtual 57, 3) := by decide +kernel
theorem dX2_readOrder_39 : decode cX2_readOrder 39 = .ok (.istore_n 2, 1) := by decide +kernel
theorem dX2_readOrder_40 : decode cX2_readOrder 40 = .ok (.iload_n 2, 1) := by decide +kernel
theorem dX2_readOrder_41 : decode cX2_readOrder 41 = .ok (.ifCond .ge 5, 3) := by decide +kernel
theorem dX2_readOrder_44 : decode cX2_readOrder 44 = .ok (.iconst 0, 1) := by decide +kernel
theorem dX2_readOrder_45 : decode cX2_readOrder 45 = .ok (.ireturn, 1) := by decide +kernel
theorem dX2_readOrder_46 : decode cX2_readOrder 46 = .ok (.iconst 1, 1) := by decide +kernel
theorem dX2_readOrder_47 : decode cX2_readOrder 47 = .ok (.istore_n 3, 1) := by decide +kernel
theorem dX2_readOrder_48 : decode cX2_readOrder 48 = .ok (.iload_n 1, 1) := by decide +kernel
theorem dX2_readOrder_49 : decode cX2_readOrder 49 = .ok (.bipush 114, 2) := by decide +kernel
theorem dX2_readOrder_51 : decode cX2_readOrder 51 = .ok (.if_icmp .ne 36, 3) := by decide +kernel
theorem dX2_readOrder_54 : decode cX2_readOrder 54 = .ok (.aload_n 0, 1) := by decide +kernel
theorem dX2_readOrder_55 : decode cX2_readOrder 55 = .ok (.invokevirtual 42, 3) := by decide +kernel
theorem dX2_readOrder_58 : decode cX2_readOrder 58 = .ok (.bipush 42, 2) := by decide +kernel
theorem dX2_readOrder_60 : decode cX2_readOrder 60 = .ok (.if_icmp .ne 27, 3) := by decide +kernel
theorem dX2_readOrder_63 : decode cX2_readOrder 63 = .ok (.aload_n 0, 1) := by decide +kernel
theorem dX2_readOrder_64 : decode cX2_readOrder 64 = .ok (.dup, 1) := by decide +kernel
theorem dX2_readOrder_65 : decode cX2_readOrder 65 = .ok (.getfield 31, 3) := by decide +kernel
theorem dX2_readOrder_68 : decode cX2_readOrder 68 = .ok (.iconst 1, 1) := by decide +kernel
theorem dX2_readOrder_69 : decode cX2_readOrder 69 = .ok (.iadd, 1) := by decide +kernel
theorem dX2_readOrder_70 : decode cX2_readOrder 70 = .ok (.putfield 31, 3) := by decide +kernel
theorem dX2_readOrder_73 : decode cX2_readOrder 73 = .ok (.aload_n 0, 1) := by decide +kernel
theorem dX2_readOrder_74 : decode cX2_readOrder 74 = .ok (.iconst 1, 1) := by decide +kernel
theorem dX2_readOrder_75 : decode cX2_readOrder 75 = .ok (.bipush 99, 2) := by decide +kernel
theorem dX2_readOrder_77 : decode cX2_readOrder 77 = .ok (.invokevirtual 57, 3) := by decide +kernel
theorem dX2_readOrder_80 : decode cX2_readOrder 80 = .ok (.istore_n 3, 1) := by decide +kernel
theorem dX2_readOrder_81 : decode cX2_readOrder 81 = .ok (.iload_n 3, 1) := by decide +kernel
theorem dX2_readOrder_82 : decode cX2_readOrder 82 = .ok (.ifCond .ge 5, 3) := by decide +kernel
theorem dX2_readOrder_85 : decode cX2_readOrder 85 = .ok (.iconst 0, 1) := by decide +kernel
theorem dX2_readOrder_86 : decode cX2_readOrder 86 = .ok (.ireturn, 1) := by decide +kernel
theorem dX2_readOrder_87 : decode cX2_readOrder 87 = .ok (.aload_n 0, 1) := by decide +kernel
theorem dX2_readOrder_88 : decode cX2_readOrder 88 = .ok (.getfield 19, 3) := by decide +kernel
theorem dX2_readOrder_91 : decode cX2_readOrder 91 = .ok (.aload_n 0, 1) := by decide +kernel
theorem dX2_readOrder_92 : decode cX2_readOrder 92 = .ok (.getfield 28, 3) := by decide +kernel
theorem dX2_readOrder_95 : decode cX2_readOrder 95 = .ok (.iload_n 1, 1) := by decide +kernel
theorem dX2_readOrder_96 : decode cX2_readOrder 96 = .ok (.invokestatic 34, 3) := by decide +kernel
theorem dX2_readOrder_99 : decode cX2_readOrder 99 = .ok (.aload_n 0, 1) := by decide +kernel
theorem dX2_readOrder_100 : decode cX2_readOrder 100 = .ok (.getfield 22, 3) := by decide +kernel
theorem dX2_readOrder_103 : decode cX2_readOrder 103 = .ok (.aload_n 0, 1) := by decide +kernel
theorem dX2_readOrder_104 : decode cX2_readOrder 104 = .ok (.getfield 28, 3) := by decide +kernel
theorem dX2_readOrder_107 : decode cX2_readOrder 107 = .ok (.iload_n 2, 1) := by decide +kernel
theorem dX2_readOrder_108 : decode cX2_readOrder 108 = .ok (.invokestatic 34, 3) := by decide +kernel
theorem dX2_readOrder_111 : decode cX2_readOrder 111 = .ok (.aload_n 0, 1) := by decide +kernel
theorem dX2_readOrder_112 : decode cX2_readOrder 112 = .ok (.getfield 25, 3) := by decide +kernel
theorem dX2_readOrder_115 : decode cX2_readOrder 115 = .ok (.aload_n 0, 1) := by decide +kernel
theorem dX2_readOrder_116 : decode cX2_readOrder 116 = .ok (.getfield 28, 3) := by decide +kernel
theorem dX2_readOrder_119 : decode cX2_readOrder 119 = .ok (.iload_n 3, 1) := by decide +kernel
theorem dX2_readOrder_120 : decode cX2_readOrder 120 = .ok (.invokestatic 34, 3) := by decide +kernel
theorem dX2_readOrder_123 : decode cX2_readOrder 123 = .ok (.aload_n 0, 1) := by decide +kernel
theorem dX2_readOrder_124 : decode cX2_readOrder 124 = .ok (.dup, 1) := by decide +kernel
theorem dX2_readOrder_125 : decode cX2_readOrder 125 = .ok (.getfield 28, 3) := by decide +kernel
theorem dX2_readOrder_128 : decode cX2_readOrder 128 = .ok (.iconst 1, 1) := by decide +kernel
theorem dX2_readOrder_129 : decode cX2_readOrder 129 = .ok (.iadd, 1) := by decide +kernel
theorem dX2_readOrder_130 : decode cX2_readOrder 130 = .ok (.putfield 28, 3) := by decide +kernel
theorem dX2_readOrder_133 : decode cX2_readOrder 133 = .ok (.iconst 1, 1) := by decide +kernel
theorem dX2_readOrder_134 : decode cX2_readOrder 134 = .ok (.ireturn, 1) := by decide +kernel
theorem dX2_isKind_0 : decode cX2_isKind 0 = .ok (.iload_n 1, 1) := by decide +kernel
theorem dX2_isKind_1 : decode cX2_isKind 1 = .ok (.bipush 43, 2) := by decide +kernel
theorem dX2_isKind_3 : decode cX2_isKind 3 = .ok (.if_icmp .eq 27, 3) := by decide +kernel
theorem dX2_isKind_6 : decode cX2_isKind 6 = .ok (.iload_n 1, 1) := by decide +kernel
theorem dX2_isKind_7 : decode cX2_isKind 7 = .ok (.bipush 45, 2) := by decide +kernel
theorem dX2_isKind_9 : decode cX2_isKind 9 = .ok (.if_icmp .eq 21, 3) := by decide +kernel
theorem dX2_isKind_12 : decode cX2_isKind 12 = .ok (.iload_n 1, 1) := by decide +kernel
theorem dX2_isKind_13 : decode cX2_isKind 13 = .ok (.bipush 114, 2) := by decide +kernel
theorem dX2_isKind_15 : decode cX2_isKind 15 = .ok (.if_icmp .eq 15, 3) := by decide +kernel
theorem dX2_isKind_18 : decode cX2_isKind 18 = .ok (.iload_n 1, 1) := by decide +kernel
theorem dX2_isKind_19 : decode cX2_isKind 19 = .ok (.bipush 112, 2) := by decide +kernel
theorem dX2_isKind_21 : decode cX2_isKind 21 = .ok (.if_icmp .eq 9, 3) := by decide +kernel
theorem dX2_isKind_24 : decode cX2_isKind 24 = .ok (.iload_n 1, 1) := by decide +kernel
theorem dX2_isKind_25 : decode cX2_isKind 25 = .ok (.bipush 110, 2) := by decide +kernel
theorem dX2_isKind_27 : decode cX2_isKind 27 = .ok (.if_icmp .ne 7, 3) := by decide +kernel
theorem dX2_isKind_30 : decode cX2_isKind 30 = .ok (.iconst 1, 1) := by decide +kernel
theorem dX2_isKind_31 : decode cX2_isKind 31 = .ok (.goto 4, 3) := by decide +kernel
theorem dX2_isKind_34 : decode cX2_isKind 34 = .ok (.iconst 0, 1) := by decide +kernel
theorem dX2_isKind_35 : decode cX2_isKind 35 = .ok (.ireturn, 1) := by decide +kernel
theorem dX2_leastOf_0 : decode cX2_leastOf 0 = .ok (.iload_n 1, 1) := by decide +kernel
theorem dX2_leastOf_1 : decode cX2_leastOf 1 = .ok (.bipush 43, 2) := by decide +kernel
theorem dX2_leastOf_3 : decode cX2_leastOf 3 = .ok (.if_icmp .eq 9, 3) := by decide +kernel
theorem dX2_leastOf_6 : decode cX2_leastOf 6 = .ok (.iload_n 1, 1) := by decide +kernel
theorem dX2_leastOf_7 : decode cX2_leastOf 7 = .ok (.bipush 110, 2) := by decide +kernel
theorem dX2_leastOf_9 : decode cX2_leastOf 9 = .ok (.if_icmp .ne 7, 3) := by decide +kernel
theorem dX2_leastOf_12 : decode cX2_leastOf 12 = .ok (.iconst 1, 1) := by decide +kernel
theorem dX2_leastOf_13 : decode cX2_leastOf 13 = .ok (.goto 4, 3) := by decide +kernel
theorem dX2_leastOf_16 : decode cX2_leastOf 16 = .ok (.iconst 0, 1) := by decide +kernel
theorem dX2_leastOf_17 : decode cX2_leastOf 17 = .ok (.ireturn, 1) := by decide +kernel
theorem dX2_greatestOf_0 : decode cX2_greatestOf 0 = .ok (.iload_n 1, 1) := by decide +kernel
theorem dX2_greatestOf_1 : decode cX2_greatestOf 1 = .ok (.bipush 43, 2) := by decide +kernel
theorem dX2_greatestOf_3 : decode cX2_greatestOf 3 = .ok (.if_icmp .ne 6, 3) := by decide +kernel
theorem dX2_greatestOf_6 : decode cX2_greatestOf 6 = .ok (.bipush 9, 2) := by decide +kernel
theorem dX2_greatestOf_8 : decode cX2_greatestOf 8 = .ok (.ireturn, 1) := by decide +kernel
theorem dX2_greatestOf_9 : decode cX2_greatestOf 9 = .ok (.iload_n 1, 1) := by decide +kernel
theorem dX2_greatestOf_10 : decode cX2_greatestOf 10 = .ok (.bipush 110, 2) := by decide +kernel
theorem dX2_greatestOf_12 : decode cX2_greatestOf 12 = .ok (.if_icmp .ne 8, 3) := by decide +kernel
theorem dX2_greatestOf_15 : decode cX2_greatestOf 15 = .ok (.bipush 99, 2) := by decide +kernel
theorem dX2_greatestOf_17 : decode cX2_greatestOf 17 = .ok (.goto 6, 3) := by decide +kernel
theorem dX2_greatestOf_20 : decode cX2_greatestOf 20 = .ok (.sipush 999, 3) := by decide +kernel
theorem dX2_greatestOf_23 : decode cX2_greatestOf 23 = .ok (.ireturn, 1) := by decide +kernel
theorem dX2_readNumber_0 : decode cX2_readNumber 0 = .ok (.aload_n 0, 1) := by decide +kernel
theorem dX2_readNumber_1 : decode cX2_readNumber 1 = .ok (.invokevirtual 61, 3) := by decide +kernel
theorem dX2_readNumber_4 : decode cX2_readNumber 4 = .ok (.istore_n 3, 1) := by decide +kernel
theorem dX2_readNumber_5 : decode cX2_readNumber 5 = .ok (.iload_n 3, 1) := by decide +kernel
theorem dX2_readNumber_6 : decode cX2_readNumber 6 = .ok (.iload_n 1, 1) := by decide +kernel
theorem dX2_readNumber_7 : decode cX2_readNumber 7 = .ok (.if_icmp .ge 5, 3) := by decide +kernel
theorem dX2_readNumber_10 : decode cX2_readNumber 10 = .ok (.iconst (-1), 1) := by decide +kernel
theorem dX2_readNumber_11 : decode cX2_readNumber 11 = .ok (.ireturn, 1) := by decide +kernel
theorem dX2_readNumber_12 : decode cX2_readNumber 12 = .ok (.aload_n 0, 1) := by decide +kernel
theorem dX2_readNumber_13 : decode cX2_readNumber 13 = .ok (.dup, 1) := by decide +kernel
theorem dX2_readNumber_14 : decode cX2_readNumber 14 = .ok (.getfield 31, 3) := by decide +kernel
theorem dX2_readNumber_17 : decode cX2_readNumber 17 = .ok (.iconst 1, 1) := by decide +kernel
theorem dX2_readNumber_18 : decode cX2_readNumber 18 = .ok (.iadd, 1) := by decide +kernel
theorem dX2_readNumber_19 : decode cX2_readNumber 19 = .ok (.putfield 31, 3) := by decide +kernel
theorem dX2_readNumber_22 : decode cX2_readNumber 22 = .ok (.iload_n 3, 1) := by decide +kernel
theorem dX2_readNumber_23 : decode cX2_readNumber 23 = .ok (.ifCond .le 59, 3) := by decide +kernel
theorem dX2_readNumber_26 : decode cX2_readNumber 26 = .ok (.aload_n 0, 1) := by decide +kernel
theorem dX2_readNumber_27 : decode cX2_readNumber 27 = .ok (.getfield 31, 3) := by decide +kernel
theorem dX2_readNumber_30 : decode cX2_readNumber 30 = .ok (.aload_n 0, 1) := by decide +kernel
theorem dX2_readNumber_31 : decode cX2_readNumber 31 = .ok (.getfield 15, 3) := by decide +kernel
theorem dX2_readNumber_34 : decode cX2_readNumber 34 = .ok (.if_icmp .ge 48, 3) := by decide +kernel
theorem dX2_readNumber_37 : decode cX2_readNumber 37 = .ok (.aload_n 0, 1) := by decide +kernel
theorem dX2_readNumber_38 : decode cX2_readNumber 38 = .ok (.invokevirtual 61, 3) := by decide +kernel
theorem dX2_readNumber_41 : decode cX2_readNumber 41 = .ok (.istore 4, 2) := by decide +kernel
theorem dX2_readNumber_43 : decode cX2_readNumber 43 = .ok (.iload 4, 2) := by decide +kernel
theorem dX2_readNumber_45 : decode cX2_readNumber 45 = .ok (.ifCond .lt 14, 3) := by decide +kernel
theorem dX2_readNumber_48 : decode cX2_readNumber 48 = .ok (.iload_n 3, 1) := by decide +kernel
theorem dX2_readNumber_49 : decode cX2_readNumber 49 = .ok (.bipush 10, 2) := by decide +kernel
theorem dX2_readNumber_51 : decode cX2_readNumber 51 = .ok (.imul, 1) := by decide +kernel
theorem dX2_readNumber_52 : decode cX2_readNumber 52 = .ok (.iload 4, 2) := by decide +kernel
theorem dX2_readNumber_54 : decode cX2_readNumber 54 = .ok (.iadd, 1) := by decide +kernel
theorem dX2_readNumber_55 : decode cX2_readNumber 55 = .ok (.iload_n 2, 1) := by decide +kernel
theorem dX2_readNumber_56 : decode cX2_readNumber 56 = .ok (.if_icmp .le 5, 3) := by decide +kernel
theorem dX2_readNumber_59 : decode cX2_readNumber 59 = .ok (.iload_n 3, 1) := by decide +kernel
theorem dX2_readNumber_60 : decode cX2_readNumber 60 = .ok (.ireturn, 1) := by decide +kernel
theorem dX2_readNumber_61 : decode cX2_readNumber 61 = .ok (.iload_n 3, 1) := by decide +kernel
theorem dX2_readNumber_62 : decode cX2_readNumber 62 = .ok (.bipush 10, 2) := by decide +kernel
theorem dX2_readNumber_64 : decode cX2_readNumber 64 = .ok (.imul, 1) := by decide +kernel
theorem dX2_readNumber_65 : decode cX2_readNumber 65 = .ok (.iload 4, 2) := by decide +kernel
theorem dX2_readNumber_67 : decode cX2_readNumber 67 = .ok (.iadd, 1) := by decide +kernel
theorem dX2_readNumber_68 : decode cX2_readNumber 68 = .ok (.istore_n 3, 1) := by decide +kernel
theorem dX2_readNumber_69 : decode cX2_readNumber 69 = .ok (.aload_n 0, 1) := by decide +kernel
theorem dX2_readNumber_70 : decode cX2_readNumber 70 = .ok (.dup, 1) := by decide +kernel
theorem dX2_readNumber_71 : decode cX2_readNumber 71 = .ok (.getfield 31, 3) := by decide +kernel
theorem dX2_readNumber_74 : decode cX2_readNumber 74 = .ok (.iconst 1, 1) := by decide +kernel
theorem dX2_readNumber_75 : decode cX2_readNumber 75 = .ok (.iadd, 1) := by decide +kernel
theorem dX2_readNumber_76 : decode cX2_readNumber 76 = .ok (.putfield 31, 3) := by decide +kernel
theorem dX2_readNumber_79 : decode cX2_readNumber 79 = .ok (.goto (-57), 3) := by decide +kernel
theorem dX2_readNumber_82 : decode cX2_readNumber 82 = .ok (.iload_n 3, 1) := by decide +kernel
theorem dX2_readNumber_83 : decode cX2_readNumber 83 = .ok (.ireturn, 1) := by decide +kernel
theorem dX2_digitHere_0 : decode cX2_digitHere 0 = .ok (.aload_n 0, 1) := by decide +kernel
theorem dX2_digitHere_1 : decode cX2_digitHere 1 = .ok (.invokevirtual 42, 3) := by decide +kernel
theorem dX2_digitHere_4 : decode cX2_digitHere 4 = .ok (.istore_n 1, 1) := by decide +kernel
theorem dX2_digitHere_5 : decode cX2_digitHere 5 = .ok (.iload_n 1, 1) := by decide +kernel
theorem dX2_digitHere_6 : decode cX2_digitHere 6 = .ok (.bipush 48, 2) := by decide +kernel
theorem dX2_digitHere_8 : decode cX2_digitHere 8 = .ok (.if_icmp .lt 16, 3) := by decide +kernel
theorem dX2_digitHere_11 : decode cX2_digitHere 11 = .ok (.iload_n 1, 1) := by decide +kernel
theorem dX2_digitHere_12 : decode cX2_digitHere 12 = .ok (.bipush 57, 2) := by decide +kernel
theorem dX2_digitHere_14 : decode cX2_digitHere 14 = .ok (.if_icmp .gt 10, 3) := by decide +kernel
theorem dX2_digitHere_17 : decode cX2_digitHere 17 = .ok (.iload_n 1, 1) := by decide +kernel
theorem dX2_digitHere_18 : decode cX2_digitHere 18 = .ok (.bipush 48, 2) := by decide +kernel
theorem dX2_digitHere_20 : decode cX2_digitHere 20 = .ok (.isub, 1) := by decide +kernel
theorem dX2_digitHere_21 : decode cX2_digitHere 21 = .ok (.goto 4, 3) := by decide +kernel
theorem dX2_digitHere_24 : decode cX2_digitHere 24 = .ok (.iconst (-1), 1) := by decide +kernel
theorem dX2_digitHere_25 : decode cX2_digitHere 25 = .ok (.ireturn, 1) := by decide +kernel
theorem dX2_signHere_0 : decode cX2_signHere 0 = .ok (.aload_n 0, 1) := by decide +kernel
theorem dX2_signHere_1 : decode cX2_signHere 1 = .ok (.getfield 31, 3) := by decide +kernel
theorem dX2_signHere_4 : decode cX2_signHere 4 = .ok (.aload_n 0, 1) := by decide +kernel
theorem dX2_signHere_5 : decode cX2_signHere 5 = .ok (.getfield 15, 3) := by decide +kernel
theorem dX2_signHere_8 : decode cX2_signHere 8 = .ok (.if_icmp .ge 17, 3) := by decide +kernel
theorem dX2_signHere_11 : decode cX2_signHere 11 = .ok (.aload_n 0, 1) := by decide +kernel
theorem dX2_signHere_12 : decode cX2_signHere 12 = .ok (.getfield 9, 3) := by decide +kernel
theorem dX2_signHere_15 : decode cX2_signHere 15 = .ok (.aload_n 0, 1) := by decide +kernel
theorem dX2_signHere_16 : decode cX2_signHere 16 = .ok (.getfield 31, 3) := by decide +kernel
theorem dX2_signHere_19 : decode cX2_signHere 19 = .ok (.invokestatic 64, 3) := by decide +kernel
theorem dX2_signHere_22 : decode cX2_signHere 22 = .ok (.goto 4, 3) := by decide +kernel
theorem dX2_signHere_25 : decode cX2_signHere 25 = .ok (.iconst (-1), 1) := by decide +kernel
theorem dX2_signHere_26 : decode cX2_signHere 26 = .ok (.ireturn, 1) := by decide +kernel
theorem dX3_init_0 : decode cX3_init 0 = .ok (.aload_n 0, 1) := by decide +kernel
theorem dX3_init_1 : decode cX3_init 1 = .ok (.invokespecial 3, 3) := by decide +kernel
theorem dX3_init_4 : decode cX3_init 4 = .ok (.aload_n 0, 1) := by decide +kernel
theorem dX3_init_5 : decode cX3_init 5 = .ok (.bipush 23, 2) := by decide +kernel
theorem dX3_init_7 : decode cX3_init 7 = .ok (.newarray .int, 2) := by decide +kernel
theorem dX3_init_9 : decode cX3_init 9 = .ok (.putfield 9, 3) := by decide +kernel
theorem dX3_init_12 : decode cX3_init 12 = .ok (.aload_n 0, 1) := by decide +kernel
theorem dX3_init_13 : decode cX3_init 13 = .ok (.iconst 3, 1) := by decide +kernel
theorem dX3_init_14 : decode cX3_init 14 = .ok (.newarray .int, 2) := by decide +kernel
theorem dX3_init_16 : decode cX3_init 16 = .ok (.putfield 15, 3) := by decide +kernel
theorem dX3_init_19 : decode cX3_init 19 = .ok (.aload_n 0, 1) := by decide +kernel
theorem dX3_init_20 : decode cX3_init 20 = .ok (.bipush 24, 2) := by decide +kernel
theorem dX3_init_22 : decode cX3_init 22 = .ok (.newarray .int, 2) := by decide +kernel
theorem dX3_init_24 : decode cX3_init 24 = .ok (.putfield 18, 3) := by decide +kernel
theorem dX3_init_27 : decode cX3_init 27 = .ok (.aload_n 0, 1) := by decide +kernel
theorem dX3_init_28 : decode cX3_init 28 = .ok (.bipush 24, 2) := by decide +kernel
theorem dX3_init_30 : decode cX3_init 30 = .ok (.newarray .int, 2) := by decide +kernel
theorem dX3_init_32 : decode cX3_init 32 = .ok (.putfield 21, 3) := by decide +kernel
theorem dX3_init_35 : decode cX3_init 35 = .ok (.aload_n 0, 1) := by decide +kernel
theorem dX3_init_36 : decode cX3_init 36 = .ok (.bipush 24, 2) := by decide +kernel
theorem dX3_init_38 : decode cX3_init 38 = .ok (.newarray .int, 2) := by decide +kernel
theorem dX3_init_40 : decode cX3_init 40 = .ok (.putfield 24, 3) := by decide +kernel
theorem dX3_init_43 : decode cX3_init 43 = .ok (.aload_n 0, 1) := by decide +kernel
theorem dX3_init_44 : decode cX3_init 44 = .ok (.bipush 24, 2) := by decide +kernel
theorem dX3_init_46 : decode cX3_init 46 = .ok (.newarray .int, 2) := by decide +kernel
theorem dX3_init_48 : decode cX3_init 48 = .ok (.putfield 27, 3) := by decide +kernel
theorem dX3_init_51 : decode cX3_init 51 = .ok (.aload_n 0, 1) := by decide +kernel
theorem dX3_init_52 : decode cX3_init 52 = .ok (.bipush 24, 2) := by decide +kernel
theorem dX3_init_54 : decode cX3_init 54 = .ok (.newarray .int, 2) := by decide +kernel
theorem dX3_init_56 : decode cX3_init 56 = .ok (.putfield 30, 3) := by decide +kernel
theorem dX3_init_59 : decode cX3_init 59 = .ok (.aload_n 0, 1) := by decide +kernel
theorem dX3_init_60 : decode cX3_init 60 = .ok (.bipush 24, 2) := by decide +kernel
theorem dX3_init_62 : decode cX3_init 62 = .ok (.newarray .int, 2) := by decide +kernel
theorem dX3_init_64 : decode cX3_init 64 = .ok (.putfield 33, 3) := by decide +kernel
theorem dX3_init_67 : decode cX3_init 67 = .ok (.aload_n 0, 1) := by decide +kernel
theorem dX3_init_68 : decode cX3_init 68 = .ok (.bipush 24, 2) := by decide +kernel
theorem dX3_init_70 : decode cX3_init 70 = .ok (.newarray .int, 2) := by decide +kernel
theorem dX3_init_72 : decode cX3_init 72 = .ok (.putfield 36, 3) := by decide +kernel
theorem dX3_init_75 : decode cX3_init 75 = .ok (.aload_n 0, 1) := by decide +kernel
theorem dX3_init_76 : decode cX3_init 76 = .ok (.bipush 24, 2) := by decide +kernel
theorem dX3_init_78 : decode cX3_init 78 = .ok (.newarray .int, 2) := by decide +kernel
theorem dX3_init_80 : decode cX3_init 80 = .ok (.putfield 39, 3) := by decide +kernel
theorem dX3_init_83 : decode cX3_init 83 = .ok (.getstatic 42, 3) := by decide +kernel
theorem dX3_init_86 : decode cX3_init 86 = .ok (.aload_n 0, 1) := by decide +kernel
theorem dX3_init_87 : decode cX3_init 87 = .ok (.getfield 9, 3) := by decide +kernel
theorem dX3_init_90 : decode cX3_init 90 = .ok (.invokestatic 45, 3) := by decide +kernel
theorem dX3_init_93 : decode cX3_init 93 = .ok (.return_, 1) := by decide +kernel
theorem dX3_copyFrom_0 : decode cX3_copyFrom 0 = .ok (.aload_n 1, 1) := by decide +kernel
theorem dX3_copyFrom_1 : decode cX3_copyFrom 1 = .ok (.getfield 9, 3) := by decide +kernel
theorem dX3_copyFrom_4 : decode cX3_copyFrom 4 = .ok (.aload_n 0, 1) := by decide +kernel
theorem dX3_copyFrom_5 : decode cX3_copyFrom 5 = .ok (.getfield 9, 3) := by decide +kernel
theorem dX3_copyFrom_8 : decode cX3_copyFrom 8 = .ok (.invokestatic 45, 3) := by decide +kernel
theorem dX3_copyFrom_11 : decode cX3_copyFrom 11 = .ok (.aload_n 1, 1) := by decide +kernel
theorem dX3_copyFrom_12 : decode cX3_copyFrom 12 = .ok (.getfield 15, 3) := by decide +kernel
theorem dX3_copyFrom_15 : decode cX3_copyFrom 15 = .ok (.aload_n 0, 1) := by decide +kernel
theorem dX3_copyFrom_16 : decode cX3_copyFrom 16 = .ok (.getfield 15, 3) := by decide +kernel
theorem dX3_copyFrom_19 : decode cX3_copyFrom 19 = .ok (.invokestatic 45, 3) := by decide +kernel
theorem dX3_copyFrom_22 : decode cX3_copyFrom 22 = .ok (.aload_n 1, 1) := by decide +kernel
theorem dX3_copyFrom_23 : decode cX3_copyFrom 23 = .ok (.getfield 18, 3) := by decide +kernel
theorem dX3_copyFrom_26 : decode cX3_copyFrom 26 = .ok (.aload_n 0, 1) := by decide +kernel
theorem dX3_copyFrom_27 : decode cX3_copyFrom 27 = .ok (.getfield 18, 3) := by decide +kernel
theorem dX3_copyFrom_30 : decode cX3_copyFrom 30 = .ok (.invokestatic 45, 3) := by decide +kernel
theorem dX3_copyFrom_33 : decode cX3_copyFrom 33 = .ok (.aload_n 1, 1) := by decide +kernel
theorem dX3_copyFrom_34 : decode cX3_copyFrom 34 = .ok (.getfield 21, 3) := by decide +kernel
theorem dX3_copyFrom_37 : decode cX3_copyFrom 37 = .ok (.aload_n 0, 1) := by decide +kernel
theorem dX3_copyFrom_38 : decode cX3_copyFrom 38 = .ok (.getfield 21, 3) := by decide +kernel
theorem dX3_copyFrom_41 : decode cX3_copyFrom 41 = .ok (.invokestatic 45, 3) := by decide +kernel
theorem dX3_copyFrom_44 : decode cX3_copyFrom 44 = .ok (.aload_n 1, 1) := by decide +kernel
theorem dX3_copyFrom_45 : decode cX3_copyFrom 45 = .ok (.getfield 24, 3) := by decide +kernel
theorem dX3_copyFrom_48 : decode cX3_copyFrom 48 = .ok (.aload_n 0, 1) := by decide +kernel
theorem dX3_copyFrom_49 : decode cX3_copyFrom 49 = .ok (.getfield 24, 3) := by decide +kernel
theorem dX3_copyFrom_52 : decode cX3_copyFrom 52 = .ok (.invokestatic 45, 3) := by decide +kernel
theorem dX3_copyFrom_55 : decode cX3_copyFrom 55 = .ok (.aload_n 1, 1) := by decide +kernel
theorem dX3_copyFrom_56 : decode cX3_copyFrom 56 = .ok (.getfield 27, 3) := by decide +kernel
theorem dX3_copyFrom_59 : decode cX3_copyFrom 59 = .ok (.aload_n 0, 1) := by decide +kernel
theorem dX3_copyFrom_60 : decode cX3_copyFrom 60 = .ok (.getfield 27, 3) := by decide +kernel
theorem dX3_copyFrom_63 : decode cX3_copyFrom 63 = .ok (.invokestatic 45, 3) := by decide +kernel
theorem dX3_copyFrom_66 : decode cX3_copyFrom 66 = .ok (.aload_n 1, 1) := by decide +kernel
theorem dX3_copyFrom_67 : decode cX3_copyFrom 67 = .ok (.getfield 30, 3) := by decide +kernel
theorem dX3_copyFrom_70 : decode cX3_copyFrom 70 = .ok (.aload_n 0, 1) := by decide +kernel
theorem dX3_copyFrom_71 : decode cX3_copyFrom 71 = .ok (.getfield 30, 3) := by decide +kernel
theorem dX3_copyFrom_74 : decode cX3_copyFrom 74 = .ok (.invokestatic 45, 3) := by decide +kernel
theorem dX3_copyFrom_77 : decode cX3_copyFrom 77 = .ok (.aload_n 1, 1) := by decide +kernel
theorem dX3_copyFrom_78 : decode cX3_copyFrom 78 = .ok (.getfield 33, 3) := by decide +kernel
theorem dX3_copyFrom_81 : decode cX3_copyFrom 81 = .ok (.aload_n 0, 1) := by decide +kernel
theorem dX3_copyFrom_82 : decode cX3_copyFrom 82 = .ok (.getfield 33, 3) := by decide +kernel
theorem dX3_copyFrom_85 : decode cX3_copyFrom 85 = .ok (.invokestatic 45, 3) := by decide +kernel
theorem dX3_copyFrom_88 : decode cX3_copyFrom 88 = .ok (.aload_n 1, 1) := by decide +kernel
theorem dX3_copyFrom_89 : decode cX3_copyFrom 89 = .ok (.getfield 36, 3) := by decide +kernel
theorem dX3_copyFrom_92 : decode cX3_copyFrom 92 = .ok (.aload_n 0, 1) := by decide +kernel
theorem dX3_copyFrom_93 : decode cX3_copyFrom 93 = .ok (.getfield 36, 3) := by decide +kernel
theorem dX3_copyFrom_96 : decode cX3_copyFrom 96 = .ok (.invokestatic 45, 3) := by decide +kernel
theorem dX3_copyFrom_99 : decode cX3_copyFrom 99 = .ok (.aload_n 1, 1) := by decide +kernel
theorem dX3_copyFrom_100 : decode cX3_copyFrom 100 = .ok (.getfield 39, 3) := by decide +kernel
theorem dX3_copyFrom_103 : decode cX3_copyFrom 103 = .ok (.aload_n 0, 1) := by decide +kernel
theorem dX3_copyFrom_104 : decode cX3_copyFrom 104 = .ok (.getfield 39, 3) := by decide +kernel
theorem dX3_copyFrom_107 : decode cX3_copyFrom 107 = .ok (.invokestatic 45, 3) := by decide +kernel
theorem dX3_copyFrom_110 : decode cX3_copyFrom 110 = .ok (.return_, 1) := by decide +kernel
theorem dX3_countBlocks_0 : decode cX3_countBlocks 0 = .ok (.aload_n 0, 1) := by decide +kernel
theorem dX3_countBlocks_1 : decode cX3_countBlocks 1 = .ok (.getfield 9, 3) := by decide +kernel
theorem dX3_countBlocks_4 : decode cX3_countBlocks 4 = .ok (.bipush 15, 2) := by decide +kernel
theorem dX3_countBlocks_6 : decode cX3_countBlocks 6 = .ok (.invokestatic 49, 3) := by decide +kernel
theorem dX3_countBlocks_9 : decode cX3_countBlocks 9 = .ok (.ireturn, 1) := by decide +kernel
theorem dX3_find_0 : decode cX3_find 0 = .ok (.aload_n 0, 1) := by decide +kernel
theorem dX3_find_1 : decode cX3_find 1 = .ok (.invokevirtual 53, 3) := by decide +kernel
theorem dX3_find_4 : decode cX3_find 4 = .ok (.istore_n 2, 1) := by decide +kernel
theorem dX3_find_5 : decode cX3_find 5 = .ok (.iconst 0, 1) := by decide +kernel
theorem dX3_find_6 : decode cX3_find 6 = .ok (.istore_n 3, 1) := by decide +kernel
theorem dX3_find_7 : decode cX3_find 7 = .ok (.iload_n 3, 1) := by decide +kernel
theorem dX3_find_8 : decode cX3_find 8 = .ok (.iload_n 2, 1) := by decide +kernel
theorem dX3_find_9 : decode cX3_find 9 = .ok (.if_icmp .ge 23, 3) := by decide +kernel
theorem dX3_find_12 : decode cX3_find 12 = .ok (.aload_n 0, 1) := by decide +kernel
theorem dX3_find_13 : decode cX3_find 13 = .ok (.getfield 18, 3) := by decide +kernel
theorem dX3_find_16 : decode cX3_find 16 = .ok (.iload_n 3, 1) := by decide +kernel
theorem dX3_find_17 : decode cX3_find 17 = .ok (.invokestatic 49, 3) := by decide +kernel
theorem dX3_find_20 : decode cX3_find 20 = .ok (.iload_n 1, 1) := by decide +kernel
theorem dX3_find_21 : decode cX3_find 21 = .ok (.if_icmp .ne 5, 3) := by decide +kernel
theorem dX3_find_24 : decode cX3_find 24 = .ok (.iload_n 3, 1) := by decide +kernel
theorem dX3_find_25 : decode cX3_find 25 = .ok (.ireturn, 1) := by decide +kernel
theorem dX3_find_26 : decode cX3_find 26 = .ok (.iinc 3 1, 3) := by decide +kernel
theorem dX3_find_29 : decode cX3_find 29 = .ok (.goto (-22), 3) := by decide +kernel
theorem dX3_find_32 : decode cX3_find 32 = .ok (.iconst (-1), 1) := by decide +kernel
theorem dX3_find_33 : decode cX3_find 33 = .ok (.ireturn, 1) := by decide +kernel
theorem dX3_placeOfRank_0 : decode cX3_placeOfRank 0 = .ok (.aload_n 0, 1) := by decide +kernel
theorem dX3_placeOfRank_1 : decode cX3_placeOfRank 1 = .ok (.invokevirtual 53, 3) := by decide +kernel
theorem dX3_placeOfRank_4 : decode cX3_placeOfRank 4 = .ok (.istore_n 2, 1) := by decide +kernel
theorem dX3_placeOfRank_5 : decode cX3_placeOfRank 5 = .ok (.iconst 0, 1) := by decide +kernel
theorem dX3_placeOfRank_6 : decode cX3_placeOfRank 6 = .ok (.istore_n 3, 1) := by decide +kernel
theorem dX3_placeOfRank_7 : decode cX3_placeOfRank 7 = .ok (.iload_n 3, 1) := by decide +kernel
theorem dX3_placeOfRank_8 : decode cX3_placeOfRank 8 = .ok (.iload_n 2, 1) := by decide +kernel
theorem dX3_placeOfRank_9 : decode cX3_placeOfRank 9 = .ok (.if_icmp .ge 20, 3) := by decide +kernel
theorem dX3_placeOfRank_12 : decode cX3_placeOfRank 12 = .ok (.aload_n 0, 1) := by decide +kernel
theorem dX3_placeOfRank_13 : decode cX3_placeOfRank 13 = .ok (.iload_n 3, 1) := by decide +kernel
theorem dX3_placeOfRank_14 : decode cX3_placeOfRank 14 = .ok (.invokevirtual 57, 3) := by decide +kernel
theorem dX3_placeOfRank_17 : decode cX3_placeOfRank 17 = .ok (.iload_n 1, 1) := by decide +kernel
theorem dX3_placeOfRank_18 : decode cX3_placeOfRank 18 = .ok (.if_icmp .ne 5, 3) := by decide +kernel
theorem dX3_placeOfRank_21 : decode cX3_placeOfRank 21 = .ok (.iload_n 3, 1) := by decide +kernel
theorem dX3_placeOfRank_22 : decode cX3_placeOfRank 22 = .ok (.ireturn, 1) := by decide +kernel
theorem dX3_placeOfRank_23 : decode cX3_placeOfRank 23 = .ok (.iinc 3 1, 3) := by decide +kernel
theorem dX3_placeOfRank_26 : decode cX3_placeOfRank 26 = .ok (.goto (-19), 3) := by decide +kernel
theorem dX3_placeOfRank_29 : decode cX3_placeOfRank 29 = .ok (.iconst (-1), 1) := by decide +kernel
theorem dX3_placeOfRank_30 : decode cX3_placeOfRank 30 = .ok (.ireturn, 1) := by decide +kernel
theorem dX3_countHotter_0 : decode cX3_countHotter 0 = .ok (.aload_n 0, 1) := by decide +kernel
theorem dX3_countHotter_1 : decode cX3_countHotter 1 = .ok (.invokevirtual 53, 3) := by decide +kernel
theorem dX3_countHotter_4 : decode cX3_countHotter 4 = .ok (.istore_n 2, 1) := by decide +kernel
theorem dX3_countHotter_5 : decode cX3_countHotter 5 = .ok (.aload_n 0, 1) := by decide +kernel
theorem dX3_countHotter_6 : decode cX3_countHotter 6 = .ok (.getfield 24, 3) := by decide +kernel
theorem dX3_countHotter_9 : decode cX3_countHotter 9 = .ok (.iload_n 1, 1) := by decide +kernel
theorem dX3_countHotter_10 : decode cX3_countHotter 10 = .ok (.invokestatic 49, 3) := by decide +kernel
theorem dX3_countHotter_13 : decode cX3_countHotter 13 = .ok (.istore_n 3, 1) := by decide +kernel
theorem dX3_countHotter_14 : decode cX3_countHotter 14 = .ok (.iconst 0, 1) := by decide +kernel
theorem dX3_countHotter_15 : decode cX3_countHotter 15 = .ok (.istore 4, 2) := by decide +kernel
theorem dX3_countHotter_17 : decode cX3_countHotter 17 = .ok (.iconst 0, 1) := by decide +kernel
theorem dX3_countHotter_18 : decode cX3_countHotter 18 = .ok (.istore 5, 2) := by decide +kernel
theorem dX3_countHotter_20 : decode cX3_countHotter 20 = .ok (.iload 5, 2) := by decide +kernel
theorem dX3_countHotter_22 : decode cX3_countHotter 22 = .ok (.iload_n 2, 1) := by decide +kernel
theorem dX3_countHotter_23 : decode cX3_countHotter 23 = .ok (.if_icmp .ge 41, 3) := by decide +kernel
theorem dX3_countHotter_26 : decode cX3_countHotter 26 = .ok (.aload_n 0, 1) := by decide +kernel
theorem dX3_countHotter_27 : decode cX3_countHotter 27 = .ok (.getfield 24, 3) := by decide +kernel
theorem dX3_countHotter_30 : decode cX3_countHotter 30 = .ok (.iload 5, 2) := by decide +kernel
theorem dX3_countHotter_32 : decode cX3_countHotter 32 = .ok (.invokestatic 49, 3) := by decide +kernel
theorem dX3_countHotter_35 : decode cX3_countHotter 35 = .ok (.istore 6, 2) := by decide +kernel
theorem dX3_countHotter_37 : decode cX3_countHotter 37 = .ok (.iload 6, 2) := by decide +kernel
theorem dX3_countHotter_39 : decode cX3_countHotter 39 = .ok (.iload_n 3, 1) := by decide +kernel
theorem dX3_countHotter_40 : decode cX3_countHotter 40 = .ok (.if_icmp .gt 15, 3) := by decide +kernel
theorem dX3_countHotter_43 : decode cX3_countHotter 43 = .ok (.iload 6, 2) := by decide +kernel
theorem dX3_countHotter_45 : decode cX3_countHotter 45 = .ok (.iload_n 3, 1) := by decide +kernel
theorem dX3_countHotter_46 : decode cX3_countHotter 46 = .ok (.if_icmp .ne 12, 3) := by decide +kernel
theorem dX3_countHotter_49 : decode cX3_countHotter 49 = .ok (.iload 5, 2) := by decide +kernel
theorem dX3_countHotter_51 : decode cX3_countHotter 51 = .ok (.iload_n 1, 1) := by decide +kernel
theorem dX3_countHotter_52 : decode cX3_countHotter 52 = .ok (.if_icmp .ge 6, 3) := by decide +kernel
theorem dX3_countHotter_55 : decode cX3_countHotter 55 = .ok (.iinc 4 1, 3) := by decide +kernel
theorem dX3_countHotter_58 : decode cX3_countHotter 58 = .ok (.iinc 5 1, 3) := by decide +kernel
theorem dX3_countHotter_61 : decode cX3_countHotter 61 = .ok (.goto (-41), 3) := by decide +kernel
theorem dX3_countHotter_64 : decode cX3_countHotter 64 = .ok (.iload 4, 2) := by decide +kernel
theorem dX3_countHotter_66 : decode cX3_countHotter 66 = .ok (.ireturn, 1) := by decide +kernel
theorem dX3_wantedShelf_0 : decode cX3_wantedShelf 0 = .ok (.aload_n 0, 1) := by decide +kernel
theorem dX3_wantedShelf_1 : decode cX3_wantedShelf 1 = .ok (.getfield 24, 3) := by decide +kernel
theorem dX3_wantedShelf_4 : decode cX3_wantedShelf 4 = .ok (.iload_n 1, 1) := by decide +kernel
theorem dX3_wantedShelf_5 : decode cX3_wantedShelf 5 = .ok (.invokestatic 49, 3) := by decide +kernel
theorem dX3_wantedShelf_8 : decode cX3_wantedShelf 8 = .ok (.istore_n 2, 1) := by decide +kernel
theorem dX3_wantedShelf_9 : decode cX3_wantedShelf 9 = .ok (.iload_n 2, 1) := by decide +kernel
theorem dX3_wantedShelf_10 : decode cX3_wantedShelf 10 = .ok (.aload_n 0, 1) := by decide +kernel
theorem dX3_wantedShelf_11 : decode cX3_wantedShelf 11 = .ok (.getfield 9, 3) := by decide +kernel
theorem dX3_wantedShelf_14 : decode cX3_wantedShelf 14 = .ok (.iconst 1, 1) := by decide +kernel
theorem dX3_wantedShelf_15 : decode cX3_wantedShelf 15 = .ok (.invokestatic 49, 3) := by decide +kernel
theorem dX3_wantedShelf_18 : decode cX3_wantedShelf 18 = .ok (.if_icmp .lt 5, 3) := by decide +kernel
theorem dX3_wantedShelf_21 : decode cX3_wantedShelf 21 = .ok (.iconst 0, 1) := by decide +kernel
theorem dX3_wantedShelf_22 : decode cX3_wantedShelf 22 = .ok (.ireturn, 1) := by decide +kernel
theorem dX3_wantedShelf_23 : decode cX3_wantedShelf 23 = .ok (.iload_n 2, 1) := by decide +kernel
theorem dX3_wantedShelf_24 : decode cX3_wantedShelf 24 = .ok (.aload_n 0, 1) := by decide +kernel
theorem dX3_wantedShelf_25 : decode cX3_wantedShelf 25 = .ok (.getfield 9, 3) := by decide +kernel
theorem dX3_wantedShelf_28 : decode cX3_wantedShelf 28 = .ok (.iconst 2, 1) := by decide +kernel
theorem dX3_wantedShelf_29 : decode cX3_wantedShelf 29 = .ok (.invokestatic 49, 3) := by decide +kernel
theorem dX3_wantedShelf_32 : decode cX3_wantedShelf 32 = .ok (.if_icmp .lt 7, 3) := by decide +kernel
theorem dX3_wantedShelf_35 : decode cX3_wantedShelf 35 = .ok (.iconst 1, 1) := by decide +kernel
theorem dX3_wantedShelf_36 : decode cX3_wantedShelf 36 = .ok (.goto 4, 3) := by decide +kernel
theorem dX3_wantedShelf_39 : decode cX3_wantedShelf 39 = .ok (.iconst 2, 1) := by decide +kernel
theorem dX3_wantedShelf_40 : decode cX3_wantedShelf 40 = .ok (.ireturn, 1) := by decide +kernel
theorem dX3_hasRoom_0 : decode cX3_hasRoom 0 = .ok (.iload_n 1, 1) := by decide +kernel
theorem dX3_hasRoom_1 : decode cX3_hasRoom 1 = .ok (.ifCond .lt 32, 3) := by decide +kernel
theorem dX3_hasRoom_4 : decode cX3_hasRoom 4 = .ok (.iload_n 1, 1) := by decide +kernel
theorem dX3_hasRoom_5 : decode cX3_hasRoom 5 = .ok (.iconst 3, 1) := by decide +kernel
theorem dX3_hasRoom_6 : decode cX3_hasRoom 6 = .ok (.if_icmp .ge 27, 3) := by decide +kernel
theorem dX3_hasRoom_9 : decode cX3_hasRoom 9 = .ok (.aload_n 0, 1) := by decide +kernel
theorem dX3_hasRoom_10 : decode cX3_hasRoom 10 = .ok (.getfield 15, 3) := by decide +kernel
theorem dX3_hasRoom_13 : decode cX3_hasRoom 13 = .ok (.iload_n 1, 1) := by decide +kernel
theorem dX3_hasRoom_14 : decode cX3_hasRoom 14 = .ok (.iaload, 1) := by decide +kernel
theorem dX3_hasRoom_15 : decode cX3_hasRoom 15 = .ok (.iload_n 2, 1) := by decide +kernel
theorem dX3_hasRoom_16 : decode cX3_hasRoom 16 = .ok (.iadd, 1) := by decide +kernel
theorem dX3_hasRoom_17 : decode cX3_hasRoom 17 = .ok (.aload_n 0, 1) := by decide +kernel
theorem dX3_hasRoom_18 : decode cX3_hasRoom 18 = .ok (.getfield 9, 3) := by decide +kernel
theorem dX3_hasRoom_21 : decode cX3_hasRoom 21 = .ok (.bipush 6, 2) := by decide +kernel
theorem dX3_hasRoom_23 : decode cX3_hasRoom 23 = .ok (.iload_n 1, 1) := by decide +kernel
theorem dX3_hasRoom_24 : decode cX3_hasRoom 24 = .ok (.iadd, 1) := by decide +kernel
theorem dX3_hasRoom_25 : decode cX3_hasRoom 25 = .ok (.iaload, 1) := by decide +kernel
theorem dX3_hasRoom_26 : decode cX3_hasRoom 26 = .ok (.if_icmp .gt 7, 3) := by decide +kernel
theorem dX3_hasRoom_29 : decode cX3_hasRoom 29 = .ok (.iconst 1, 1) := by decide +kernel
theorem dX3_hasRoom_30 : decode cX3_hasRoom 30 = .ok (.goto 4, 3) := by decide +kernel
theorem dX3_hasRoom_33 : decode cX3_hasRoom 33 = .ok (.iconst 0, 1) := by decide +kernel
theorem dX3_hasRoom_34 : decode cX3_hasRoom 34 = .ok (.ireturn, 1) := by decide +kernel
theorem dX3_countOnShelf_0 : decode cX3_countOnShelf 0 = .ok (.aload_n 0, 1) := by decide +kernel
theorem dX3_countOnShelf_1 : decode cX3_countOnShelf 1 = .ok (.invokevirtual 53, 3) := by decide +kernel
theorem dX3_countOnShelf_4 : decode cX3_countOnShelf 4 = .ok (.istore_n 2, 1) := by decide +kernel
theorem dX3_countOnShelf_5 : decode cX3_countOnShelf 5 = .ok (.iconst 0, 1) := by decide +kernel
theorem dX3_countOnShelf_6 : decode cX3_countOnShelf 6 = .ok (.istore_n 3, 1) := by decide +kernel
theorem dX3_countOnShelf_7 : decode cX3_countOnShelf 7 = .ok (.iconst 0, 1) := by decide +kernel
theorem dX3_countOnShelf_8 : decode cX3_countOnShelf 8 = .ok (.istore 4, 2) := by decide +kernel
theorem dX3_countOnShelf_10 : decode cX3_countOnShelf 10 = .ok (.iload 4, 2) := by decide +kernel
theorem dX3_countOnShelf_12 : decode cX3_countOnShelf 12 = .ok (.iload_n 2, 1) := by decide +kernel
theorem dX3_countOnShelf_13 : decode cX3_countOnShelf 13 = .ok (.if_icmp .ge 25, 3) := by decide +kernel
theorem dX3_countOnShelf_16 : decode cX3_countOnShelf 16 = .ok (.aload_n 0, 1) := by decide +kernel
theorem dX3_countOnShelf_17 : decode cX3_countOnShelf 17 = .ok (.getfield 27, 3) := by decide +kernel
theorem dX3_countOnShelf_20 : decode cX3_countOnShelf 20 = .ok (.iload 4, 2) := by decide +kernel
theorem dX3_countOnShelf_22 : decode cX3_countOnShelf 22 = .ok (.invokestatic 49, 3) := by decide +kernel
theorem dX3_countOnShelf_25 : decode cX3_countOnShelf 25 = .ok (.iload_n 1, 1) := by decide +kernel
theorem dX3_countOnShelf_26 : decode cX3_countOnShelf 26 = .ok (.if_icmp .ne 6, 3) := by decide +kernel
theorem dX3_countOnShelf_29 : decode cX3_countOnShelf 29 = .ok (.iinc 3 1, 3) := by decide +kernel
theorem dX3_countOnShelf_32 : decode cX3_countOnShelf 32 = .ok (.iinc 4 1, 3) := by decide +kernel
theorem dX3_countOnShelf_35 : decode cX3_countOnShelf 35 = .ok (.goto (-25), 3) := by decide +kernel
theorem dX3_countOnShelf_38 : decode cX3_countOnShelf 38 = .ok (.iload_n 3, 1) := by decide +kernel
theorem dX3_countOnShelf_39 : decode cX3_countOnShelf 39 = .ok (.ireturn, 1) := by decide +kernel
theorem dX3_heatOnShelf_0 : decode cX3_heatOnShelf 0 = .ok (.aload_n 0, 1) := by decide +kernel
theorem dX3_heatOnShelf_1 : decode cX3_heatOnShelf 1 = .ok (.invokevirtual 53, 3) := by decide +kernel
theorem dX3_heatOnShelf_4 : decode cX3_heatOnShelf 4 = .ok (.istore_n 2, 1) := by decide +kernel
theorem dX3_heatOnShelf_5 : decode cX3_heatOnShelf 5 = .ok (.iconst 0, 1) := by decide +kernel
theorem dX3_heatOnShelf_6 : decode cX3_heatOnShelf 6 = .ok (.istore_n 3, 1) := by decide +kernel
theorem dX3_heatOnShelf_7 : decode cX3_heatOnShelf 7 = .ok (.iconst 0, 1) := by decide +kernel
theorem dX3_heatOnShelf_8 : decode cX3_heatOnShelf 8 = .ok (.istore 4, 2) := by decide +kernel
theorem dX3_heatOnShelf_10 : decode cX3_heatOnShelf 10 = .ok (.iload 4, 2) := by decide +kernel
theorem dX3_heatOnShelf_12 : decode cX3_heatOnShelf 12 = .ok (.iload_n 2, 1) := by decide +kernel
theorem dX3_heatOnShelf_13 : decode cX3_heatOnShelf 13 = .ok (.if_icmp .ge 34, 3) := by decide +kernel
theorem dX3_heatOnShelf_16 : decode cX3_heatOnShelf 16 = .ok (.aload_n 0, 1) := by decide +kernel
theorem dX3_heatOnShelf_17 : decode cX3_heatOnShelf 17 = .ok (.getfield 27, 3) := by decide +kernel
theorem dX3_heatOnShelf_20 : decode cX3_heatOnShelf 20 = .ok (.iload 4, 2) := by decide +kernel
theorem dX3_heatOnShelf_22 : decode cX3_heatOnShelf 22 = .ok (.invokestatic 49, 3) := by decide +kernel
theorem dX3_heatOnShelf_25 : decode cX3_heatOnShelf 25 = .ok (.iload_n 1, 1) := by decide +kernel
theorem dX3_heatOnShelf_26 : decode cX3_heatOnShelf 26 = .ok (.if_icmp .ne 15, 3) := by decide +kernel
theorem dX3_heatOnShelf_29 : decode cX3_heatOnShelf 29 = .ok (.iload_n 3, 1) := by decide +kernel
theorem dX3_heatOnShelf_30 : decode cX3_heatOnShelf 30 = .ok (.aload_n 0, 1) := by decide +kernel
theorem dX3_heatOnShelf_31 : decode cX3_heatOnShelf 31 = .ok (.getfield 24, 3) := by decide +kernel
theorem dX3_heatOnShelf_34 : decode cX3_heatOnShelf 34 = .ok (.iload 4, 2) := by decide +kernel
theorem dX3_heatOnShelf_36 : decode cX3_heatOnShelf 36 = .ok (.invokestatic 49, 3) := by decide +kernel
theorem dX3_heatOnShelf_39 : decode cX3_heatOnShelf 39 = .ok (.iadd, 1) := by decide +kernel
theorem dX3_heatOnShelf_40 : decode cX3_heatOnShelf 40 = .ok (.istore_n 3, 1) := by decide +kernel
theorem dX3_heatOnShelf_41 : decode cX3_heatOnShelf 41 = .ok (.iinc 4 1, 3) := by decide +kernel
theorem dX3_heatOnShelf_44 : decode cX3_heatOnShelf 44 = .ok (.goto (-34), 3) := by decide +kernel
theorem dX3_heatOnShelf_47 : decode cX3_heatOnShelf 47 = .ok (.iload_n 3, 1) := by decide +kernel
theorem dX3_heatOnShelf_48 : decode cX3_heatOnShelf 48 = .ok (.ireturn, 1) := by decide +kernel
theorem dX3_heatOfAll_0 : decode cX3_heatOfAll 0 = .ok (.iconst 0, 1) := by decide +kernel
theorem dX3_heatOfAll_1 : decode cX3_heatOfAll 1 = .ok (.istore_n 1, 1) := by decide +kernel
theorem dX3_heatOfAll_2 : decode cX3_heatOfAll 2 = .ok (.iconst 0, 1) := by decide +kernel
theorem dX3_heatOfAll_3 : decode cX3_heatOfAll 3 = .ok (.istore_n 2, 1) := by decide +kernel
theorem dX3_heatOfAll_4 : decode cX3_heatOfAll 4 = .ok (.iload_n 2, 1) := by decide +kernel
theorem dX3_heatOfAll_5 : decode cX3_heatOfAll 5 = .ok (.iconst 3, 1) := by decide +kernel
theorem dX3_heatOfAll_6 : decode cX3_heatOfAll 6 = .ok (.if_icmp .ge 17, 3) := by decide +kernel
theorem dX3_heatOfAll_9 : decode cX3_heatOfAll 9 = .ok (.iload_n 1, 1) := by decide +kernel
theorem dX3_heatOfAll_10 : decode cX3_heatOfAll 10 = .ok (.aload_n 0, 1) := by decide +kernel
theorem dX3_heatOfAll_11 : decode cX3_heatOfAll 11 = .ok (.iload_n 2, 1) := by decide +kernel
theorem dX3_heatOfAll_12 : decode cX3_heatOfAll 12 = .ok (.invokevirtual 61, 3) := by decide +kernel
theorem dX3_heatOfAll_15 : decode cX3_heatOfAll 15 = .ok (.iadd, 1) := by decide +kernel
theorem dX3_heatOfAll_16 : decode cX3_heatOfAll 16 = .ok (.istore_n 1, 1) := by decide +kernel
theorem dX3_heatOfAll_17 : decode cX3_heatOfAll 17 = .ok (.iinc 2 1, 3) := by decide +kernel
theorem dX3_heatOfAll_20 : decode cX3_heatOfAll 20 = .ok (.goto (-16), 3) := by decide +kernel
theorem dX3_heatOfAll_23 : decode cX3_heatOfAll 23 = .ok (.iload_n 1, 1) := by decide +kernel
theorem dX3_heatOfAll_24 : decode cX3_heatOfAll 24 = .ok (.ireturn, 1) := by decide +kernel
theorem dX3_nightPriceOfShelf_0 : decode cX3_nightPriceOfShelf 0 = .ok (.aload_n 0, 1) := by decide +kernel
theorem dX3_nightPriceOfShelf_1 : decode cX3_nightPriceOfShelf 1 = .ok (.getfield 15, 3) := by decide +kernel
theorem dX3_nightPriceOfShelf_4 : decode cX3_nightPriceOfShelf 4 = .ok (.iload_n 1, 1) := by decide +kernel
theorem dX3_nightPriceOfShelf_5 : decode cX3_nightPriceOfShelf 5 = .ok (.invokestatic 49, 3) := by decide +kernel
theorem dX3_nightPriceOfShelf_8 : decode cX3_nightPriceOfShelf 8 = .ok (.aload_n 0, 1) := by decide +kernel
theorem dX3_nightPriceOfShelf_9 : decode cX3_nightPriceOfShelf 9 = .ok (.getfield 9, 3) := by decide +kernel
theorem dX3_nightPriceOfShelf_12 : decode cX3_nightPriceOfShelf 12 = .ok (.bipush 9, 2) := by decide +kernel
theorem dX3_nightPriceOfShelf_14 : decode cX3_nightPriceOfShelf 14 = .ok (.iload_n 1, 1) := by decide +kernel
theorem dX3_nightPriceOfShelf_15 : decode cX3_nightPriceOfShelf 15 = .ok (.iadd, 1) := by decide +kernel
theorem dX3_nightPriceOfShelf_16 : decode cX3_nightPriceOfShelf 16 = .ok (.invokestatic 49, 3) := by decide +kernel
theorem dX3_nightPriceOfShelf_19 : decode cX3_nightPriceOfShelf 19 = .ok (.imul, 1) := by decide +kernel
theorem dX3_nightPriceOfShelf_20 : decode cX3_nightPriceOfShelf 20 = .ok (.ireturn, 1) := by decide +kernel
theorem dX3_countPinned_0 : decode cX3_countPinned 0 = .ok (.aload_n 0, 1) := by decide +kernel
theorem dX3_countPinned_1 : decode cX3_countPinned 1 = .ok (.invokevirtual 53, 3) := by decide +kernel
theorem dX3_countPinned_4 : decode cX3_countPinned 4 = .ok (.istore_n 1, 1) := by decide +kernel
theorem dX3_countPinned_5 : decode cX3_countPinned 5 = .ok (.iconst 0, 1) := by decide +kernel
theorem dX3_countPinned_6 : decode cX3_countPinned 6 = .ok (.istore_n 2, 1) := by decide +kernel
theorem dX3_countPinned_7 : decode cX3_countPinned 7 = .ok (.iconst 0, 1) := by decide +kernel
theorem dX3_countPinned_8 : decode cX3_countPinned 8 = .ok (.istore_n 3, 1) := by decide +kernel
theorem dX3_countPinned_9 : decode cX3_countPinned 9 = .ok (.iload_n 3, 1) := by decide +kernel
theorem dX3_countPinned_10 : decode cX3_countPinned 10 = .ok (.iload_n 1, 1) := by decide +kernel
theorem dX3_countPinned_11 : decode cX3_countPinned 11 = .ok (.if_icmp .ge 20, 3) := by decide +kernel
theorem dX3_countPinned_14 : decode cX3_countPinned 14 = .ok (.iload_n 2, 1) := by decide +kernel
theorem dX3_countPinned_15 : decode cX3_countPinned 15 = .ok (.aload_n 0, 1) := by decide +kernel
theorem dX3_countPinned_16 : decode cX3_countPinned 16 = .ok (.getfield 30, 3) := by decide +kernel
theorem dX3_countPinned_19 : decode cX3_countPinned 19 = .ok (.iload_n 3, 1) := by decide +kernel
theorem dX3_countPinned_20 : decode cX3_countPinned 20 = .ok (.invokestatic 49, 3) := by decide +kernel
theorem dX3_countPinned_23 : decode cX3_countPinned 23 = .ok (.iadd, 1) := by decide +kernel
theorem dX3_countPinned_24 : decode cX3_countPinned 24 = .ok (.istore_n 2, 1) := by decide +kernel
theorem dX3_countPinned_25 : decode cX3_countPinned 25 = .ok (.iinc 3 1, 3) := by decide +kernel
theorem dX3_countPinned_28 : decode cX3_countPinned 28 = .ok (.goto (-19), 3) := by decide +kernel
theorem dX3_countPinned_31 : decode cX3_countPinned 31 = .ok (.iload_n 2, 1) := by decide +kernel
theorem dX3_countPinned_32 : decode cX3_countPinned 32 = .ok (.ireturn, 1) := by decide +kernel
theorem dX3_addBlock_0 : decode cX3_addBlock 0 = .ok (.iload_n 1, 1) := by decide +kernel
theorem dX3_addBlock_1 : decode cX3_addBlock 1 = .ok (.iconst 1, 1) := by decide +kernel
theorem dX3_addBlock_2 : decode cX3_addBlock 2 = .ok (.if_icmp .lt 9, 3) := by decide +kernel
theorem dX3_addBlock_5 : decode cX3_addBlock 5 = .ok (.iload_n 1, 1) := by decide +kernel
theorem dX3_addBlock_6 : decode cX3_addBlock 6 = .ok (.bipush 9, 2) := by decide +kernel
theorem dX3_addBlock_8 : decode cX3_addBlock 8 = .ok (.if_icmp .le 6, 3) := by decide +kernel
theorem dX3_addBlock_11 : decode cX3_addBlock 11 = .ok (.bipush (-2), 2) := by decide +kernel
theorem dX3_addBlock_13 : decode cX3_addBlock 13 = .ok (.ireturn, 1) := by decide +kernel
theorem dX3_addBlock_14 : decode cX3_addBlock 14 = .ok (.aload_n 0, 1) := by decide +kernel
theorem dX3_addBlock_15 : decode cX3_addBlock 15 = .ok (.iload_n 1, 1) := by decide +kernel
theorem dX3_addBlock_16 : decode cX3_addBlock 16 = .ok (.invokevirtual 64, 3) := by decide +kernel
theorem dX3_addBlock_19 : decode cX3_addBlock 19 = .ok (.istore_n 2, 1) := by decide +kernel
theorem dX3_addBlock_20 : decode cX3_addBlock 20 = .ok (.aload_n 0, 1) := by decide +kernel
theorem dX3_addBlock_21 : decode cX3_addBlock 21 = .ok (.invokevirtual 53, 3) := by decide +kernel
theorem dX3_addBlock_24 : decode cX3_addBlock 24 = .ok (.istore_n 3, 1) := by decide +kernel
theorem dX3_addBlock_25 : decode cX3_addBlock 25 = .ok (.aload_n 0, 1) := by decide +kernel
theorem dX3_addBlock_26 : decode cX3_addBlock 26 = .ok (.getfield 9, 3) := by decide +kernel
theorem dX3_addBlock_29 : decode cX3_addBlock 29 = .ok (.bipush 16, 2) := by decide +kernel
theorem dX3_addBlock_31 : decode cX3_addBlock 31 = .ok (.invokestatic 49, 3) := by decide +kernel
theorem dX3_addBlock_34 : decode cX3_addBlock 34 = .ok (.istore 4, 2) := by decide +kernel
theorem dX3_addBlock_36 : decode cX3_addBlock 36 = .ok (.iload_n 3, 1) := by decide +kernel
theorem dX3_addBlock_37 : decode cX3_addBlock 37 = .ok (.bipush 24, 2) := by decide +kernel
theorem dX3_addBlock_39 : decode cX3_addBlock 39 = .ok (.if_icmp .ge 16, 3) := by decide +kernel
theorem dX3_addBlock_42 : decode cX3_addBlock 42 = .ok (.iload_n 2, 1) := by decide +kernel
theorem dX3_addBlock_43 : decode cX3_addBlock 43 = .ok (.iconst (-1), 1) := by decide +kernel
theorem dX3_addBlock_44 : decode cX3_addBlock 44 = .ok (.if_icmp .eq 11, 3) := by decide +kernel
theorem dX3_addBlock_47 : decode cX3_addBlock 47 = .ok (.iload 4, 2) := by decide +kernel
theorem dX3_addBlock_49 : decode cX3_addBlock 49 = .ok (.sipush 999, 3) := by decide +kernel
theorem dX3_addBlock_52 : decode cX3_addBlock 52 = .ok (.if_icmp .le 6, 3) := by decide +kernel
theorem dX3_addBlock_55 : decode cX3_addBlock 55 = .ok (.bipush (-3), 2) := by decide +kernel
theorem dX3_addBlock_57 : decode cX3_addBlock 57 = .ok (.ireturn, 1) := by decide +kernel
theorem dX3_addBlock_58 : decode cX3_addBlock 58 = .ok (.aload_n 0, 1) := by decide +kernel
theorem dX3_addBlock_59 : decode cX3_addBlock 59 = .ok (.getfield 18, 3) := by decide +kernel
theorem dX3_addBlock_62 : decode cX3_addBlock 62 = .ok (.iload_n 3, 1) := by decide +kernel
theorem dX3_addBlock_63 : decode cX3_addBlock 63 = .ok (.iload 4, 2) := by decide +kernel
theorem dX3_addBlock_65 : decode cX3_addBlock 65 = .ok (.invokestatic 67, 3) := by decide +kernel
theorem dX3_addBlock_68 : decode cX3_addBlock 68 = .ok (.aload_n 0, 1) := by decide +kernel
theorem dX3_addBlock_69 : decode cX3_addBlock 69 = .ok (.getfield 21, 3) := by decide +kernel
theorem dX3_addBlock_72 : decode cX3_addBlock 72 = .ok (.iload_n 3, 1) := by decide +kernel
theorem dX3_addBlock_73 : decode cX3_addBlock 73 = .ok (.iload_n 1, 1) := by decide +kernel
theorem dX3_addBlock_74 : decode cX3_addBlock 74 = .ok (.invokestatic 67, 3) := by decide +kernel
theorem dX3_addBlock_77 : decode cX3_addBlock 77 = .ok (.aload_n 0, 1) := by decide +kernel
theorem dX3_addBlock_78 : decode cX3_addBlock 78 = .ok (.getfield 24, 3) := by decide +kernel
theorem dX3_addBlock_81 : decode cX3_addBlock 81 = .ok (.iload_n 3, 1) := by decide +kernel
theorem dX3_addBlock_82 : decode cX3_addBlock 82 = .ok (.sipush 1000, 3) := by decide +kernel
theorem dX3_addBlock_85 : decode cX3_addBlock 85 = .ok (.invokestatic 67, 3) := by decide +kernel
theorem dX3_addBlock_88 : decode cX3_addBlock 88 = .ok (.aload_n 0, 1) := by decide +kernel
theorem dX3_addBlock_89 : decode cX3_addBlock 89 = .ok (.getfield 27, 3) := by decide +kernel
theorem dX3_addBlock_92 : decode cX3_addBlock 92 = .ok (.iload_n 3, 1) := by decide +kernel
theorem dX3_addBlock_93 : decode cX3_addBlock 93 = .ok (.iload_n 2, 1) := by decide +kernel
theorem dX3_addBlock_94 : decode cX3_addBlock 94 = .ok (.invokestatic 67, 3) := by decide +kernel
theorem dX3_addBlock_97 : decode cX3_addBlock 97 = .ok (.aload_n 0, 1) := by decide +kernel
theorem dX3_addBlock_98 : decode cX3_addBlock 98 = .ok (.getfield 30, 3) := by decide +kernel
theorem dX3_addBlock_101 : decode cX3_addBlock 101 = .ok (.iload_n 3, 1) := by decide +kernel
theorem dX3_addBlock_102 : decode cX3_addBlock 102 = .ok (.iconst 0, 1) := by decide +kernel
theorem dX3_addBlock_103 : decode cX3_addBlock 103 = .ok (.invokestatic 67, 3) := by decide +kernel
theorem dX3_addBlock_106 : decode cX3_addBlock 106 = .ok (.aload_n 0, 1) := by decide +kernel
theorem dX3_addBlock_107 : decode cX3_addBlock 107 = .ok (.getfield 33, 3) := by decide +kernel
theorem dX3_addBlock_110 : decode cX3_addBlock 110 = .ok (.iload_n 3, 1) := by decide +kernel
theorem dX3_addBlock_111 : decode cX3_addBlock 111 = .ok (.iconst 0, 1) := by decide +kernel
theorem dX3_addBlock_112 : decode cX3_addBlock 112 = .ok (.invokestatic 67, 3) := by decide +kernel
theorem dX3_addBlock_115 : decode cX3_addBlock 115 = .ok (.aload_n 0, 1) := by decide +kernel
theorem dX3_addBlock_116 : decode cX3_addBlock 116 = .ok (.getfield 36, 3) := by decide +kernel
theorem dX3_addBlock_119 : decode cX3_addBlock 119 = .ok (.iload_n 3, 1) := by decide +kernel
theorem dX3_addBlock_120 : decode cX3_addBlock 120 = .ok (.iconst 0, 1) := by decide +kernel
theorem dX3_addBlock_121 : decode cX3_addBlock 121 = .ok (.invokestatic 67, 3) := by decide +kernel
theorem dX3_addBlock_124 : decode cX3_addBlock 124 = .ok (.aload_n 0, 1) := by decide +kernel
theorem dX3_addBlock_125 : decode cX3_addBlock 125 = .ok (.getfield 39, 3) := by decide +kernel
theorem dX3_addBlock_128 : decode cX3_addBlock 128 = .ok (.iload_n 3, 1) := by decide +kernel
theorem dX3_addBlock_129 : decode cX3_addBlock 129 = .ok (.iconst 0, 1) := by decide +kernel
theorem dX3_addBlock_130 : decode cX3_addBlock 130 = .ok (.invokestatic 67, 3) := by decide +kernel
theorem dX3_addBlock_133 : decode cX3_addBlock 133 = .ok (.aload_n 0, 1) := by decide +kernel
theorem dX3_addBlock_134 : decode cX3_addBlock 134 = .ok (.getfield 15, 3) := by decide +kernel
theorem dX3_addBlock_137 : decode cX3_addBlock 137 = .ok (.iload_n 2, 1) := by decide +kernel
theorem dX3_addBlock_138 : decode cX3_addBlock 138 = .ok (.iload_n 1, 1) := by decide +kernel
theorem dX3_addBlock_139 : decode cX3_addBlock 139 = .ok (.invokestatic 71, 3) := by decide +kernel
theorem dX3_addBlock_142 : decode cX3_addBlock 142 = .ok (.aload_n 0, 1) := by decide +kernel
theorem dX3_addBlock_143 : decode cX3_addBlock 143 = .ok (.getfield 9, 3) := by decide +kernel
theorem dX3_addBlock_146 : decode cX3_addBlock 146 = .ok (.bipush 15, 2) := by decide +kernel
theorem dX3_addBlock_148 : decode cX3_addBlock 148 = .ok (.iconst 1, 1) := by decide +kernel
theorem dX3_addBlock_149 : decode cX3_addBlock 149 = .ok (.invokestatic 71, 3) := by decide +kernel
theorem dX3_addBlock_152 : decode cX3_addBlock 152 = .ok (.aload_n 0, 1) := by decide +kernel
theorem dX3_addBlock_153 : decode cX3_addBlock 153 = .ok (.getfield 9, 3) := by decide +kernel
theorem dX3_addBlock_156 : decode cX3_addBlock 156 = .ok (.bipush 16, 2) := by decide +kernel
theorem dX3_addBlock_158 : decode cX3_addBlock 158 = .ok (.iconst 1, 1) := by decide +kernel
theorem dX3_addBlock_159 : decode cX3_addBlock 159 = .ok (.invokestatic 71, 3) := by decide +kernel
theorem dX3_addBlock_162 : decode cX3_addBlock 162 = .ok (.iload 4, 2) := by decide +kernel
theorem dX3_addBlock_164 : decode cX3_addBlock 164 = .ok (.ireturn, 1) := by decide +kernel
theorem dX3_fastestWithRoom_0 : decode cX3_fastestWithRoom 0 = .ok (.iconst 0, 1) := by decide +kernel
theorem dX3_fastestWithRoom_1 : decode cX3_fastestWithRoom 1 = .ok (.istore_n 2, 1) := by decide +kernel
theorem dX3_fastestWithRoom_2 : decode cX3_fastestWithRoom 2 = .ok (.iload_n 2, 1) := by decide +kernel
theorem dX3_fastestWithRoom_3 : decode cX3_fastestWithRoom 3 = .ok (.iconst 3, 1) := by decide +kernel
theorem dX3_fastestWithRoom_4 : decode cX3_fastestWithRoom 4 = .ok (.if_icmp .ge 20, 3) := by decide +kernel
theorem dX3_fastestWithRoom_7 : decode cX3_fastestWithRoom 7 = .ok (.aload_n 0, 1) := by decide +kernel
theorem dX3_fastestWithRoom_8 : decode cX3_fastestWithRoom 8 = .ok (.iload_n 2, 1) := by decide +kernel
theorem dX3_fastestWithRoom_9 : decode cX3_fastestWithRoom 9 = .ok (.iload_n 1, 1) := by decide +kernel
theorem dX3_fastestWithRoom_10 : decode cX3_fastestWithRoom 10 = .ok (.invokevirtual 74, 3) := by decide +kernel
theorem dX3_fastestWithRoom_13 : decode cX3_fastestWithRoom 13 = .ok (.ifCond .eq 5, 3) := by decide +kernel
theorem dX3_fastestWithRoom_16 : decode cX3_fastestWithRoom 16 = .ok (.iload_n 2, 1) := by decide +kernel
theorem dX3_fastestWithRoom_17 : decode cX3_fastestWithRoom 17 = .ok (.ireturn, 1) := by decide +kernel
theorem dX3_fastestWithRoom_18 : decode cX3_fastestWithRoom 18 = .ok (.iinc 2 1, 3) := by decide +kernel
theorem dX3_fastestWithRoom_21 : decode cX3_fastestWithRoom 21 = .ok (.goto (-19), 3) := by decide +kernel
theorem dX3_fastestWithRoom_24 : decode cX3_fastestWithRoom 24 = .ok (.iconst (-1), 1) := by decide +kernel
theorem dX3_fastestWithRoom_25 : decode cX3_fastestWithRoom 25 = .ok (.ireturn, 1) := by decide +kernel
theorem dX3_dropBlock_0 : decode cX3_dropBlock 0 = .ok (.aload_n 0, 1) := by decide +kernel
theorem dX3_dropBlock_1 : decode cX3_dropBlock 1 = .ok (.iload_n 1, 1) := by decide +kernel
theorem dX3_dropBlock_2 : decode cX3_dropBlock 2 = .ok (.invokevirtual 78, 3) := by decide +kernel
theorem dX3_dropBlock_5 : decode cX3_dropBlock 5 = .ok (.istore_n 2, 1) := by decide +kernel
theorem dX3_dropBlock_6 : decode cX3_dropBlock 6 = .ok (.iload_n 2, 1) := by decide +kernel
theorem dX3_dropBlock_7 : decode cX3_dropBlock 7 = .ok (.iconst (-1), 1) := by decide +kernel
theorem dX3_dropBlock_8 : decode cX3_dropBlock 8 = .ok (.if_icmp .ne 5, 3) := by decide +kernel
theorem dX3_dropBlock_11 : decode cX3_dropBlock 11 = .ok (.iconst (-1), 1) := by decide +kernel
theorem dX3_dropBlock_12 : decode cX3_dropBlock 12 = .ok (.ireturn, 1) := by decide +kernel
theorem dX3_dropBlock_13 : decode cX3_dropBlock 13 = .ok (.aload_n 0, 1) := by decide +kernel
theorem dX3_dropBlock_14 : decode cX3_dropBlock 14 = .ok (.getfield 27, 3) := by decide +kernel
theorem dX3_dropBlock_17 : decode cX3_dropBlock 17 = .ok (.iload_n 2, 1) := by decide +kernel
theorem dX3_dropBlock_18 : decode cX3_dropBlock 18 = .ok (.invokestatic 49, 3) := by decide +kernel
theorem dX3_dropBlock_21 : decode cX3_dropBlock 21 = .ok (.istore_n 3, 1) := by decide +kernel
theorem dX3_dropBlock_22 : decode cX3_dropBlock 22 = .ok (.aload_n 0, 1) := by decide +kernel
theorem dX3_dropBlock_23 : decode cX3_dropBlock 23 = .ok (.getfield 15, 3) := by decide +kernel
theorem dX3_dropBlock_26 : decode cX3_dropBlock 26 = .ok (.iload_n 3, 1) := by decide +kernel
theorem dX3_dropBlock_27 : decode cX3_dropBlock 27 = .ok (.aload_n 0, 1) := by decide +kernel
theorem dX3_dropBlock_28 : decode cX3_dropBlock 28 = .ok (.getfield 21, 3) := by decide +kernel
theorem dX3_dropBlock_31 : decode cX3_dropBlock 31 = .ok (.iload_n 2, 1) := by decide +kernel
theorem dX3_dropBlock_32 : decode cX3_dropBlock 32 = .ok (.invokestatic 49, 3) := by decide +kernel
theorem dX3_dropBlock_35 : decode cX3_dropBlock 35 = .ok (.ineg, 1) := by decide +kernel
theorem dX3_dropBlock_36 : decode cX3_dropBlock 36 = .ok (.invokestatic 71, 3) := by decide +kernel
theorem dX3_dropBlock_39 : decode cX3_dropBlock 39 = .ok (.aload_n 0, 1) := by decide +kernel
theorem dX3_dropBlock_40 : decode cX3_dropBlock 40 = .ok (.getfield 9, 3) := by decide +kernel
theorem dX3_dropBlock_43 : decode cX3_dropBlock 43 = .ok (.bipush 15, 2) := by decide +kernel
theorem dX3_dropBlock_45 : decode cX3_dropBlock 45 = .ok (.iconst (-1), 1) := by decide +kernel
theorem dX3_dropBlock_46 : decode cX3_dropBlock 46 = .ok (.invokestatic 71, 3) := by decide +kernel
theorem dX3_dropBlock_49 : decode cX3_dropBlock 49 = .ok (.aload_n 0, 1) := by decide +kernel
theorem dX3_dropBlock_50 : decode cX3_dropBlock 50 = .ok (.getfield 18, 3) := by decide +kernel
theorem dX3_dropBlock_53 : decode cX3_dropBlock 53 = .ok (.iload_n 2, 1) := by decide +kernel
theorem dX3_dropBlock_54 : decode cX3_dropBlock 54 = .ok (.invokestatic 81, 3) := by decide +kernel
theorem dX3_dropBlock_57 : decode cX3_dropBlock 57 = .ok (.aload_n 0, 1) := by decide +kernel
theorem dX3_dropBlock_58 : decode cX3_dropBlock 58 = .ok (.getfield 21, 3) := by decide +kernel
theorem dX3_dropBlock_61 : decode cX3_dropBlock 61 = .ok (.iload_n 2, 1) := by decide +kernel
theorem dX3_dropBlock_62 : decode cX3_dropBlock 62 = .ok (.invokestatic 81, 3) := by decide +kernel
theorem dX3_dropBlock_65 : decode cX3_dropBlock 65 = .ok (.aload_n 0, 1) := by decide +kernel
theorem dX3_dropBlock_66 : decode cX3_dropBlock 66 = .ok (.getfield 24, 3) := by decide +kernel
theorem dX3_dropBlock_69 : decode cX3_dropBlock 69 = .ok (.iload_n 2, 1) := by decide +kernel
theorem dX3_dropBlock_70 : decode cX3_dropBlock 70 = .ok (.invokestatic 81, 3) := by decide +kernel
theorem dX3_dropBlock_73 : decode cX3_dropBlock 73 = .ok (.aload_n 0, 1) := by decide +kernel
theorem dX3_dropBlock_74 : decode cX3_dropBlock 74 = .ok (.getfield 27, 3) := by decide +kernel
theorem dX3_dropBlock_77 : decode cX3_dropBlock 77 = .ok (.iload_n 2, 1) := by decide +kernel
theorem dX3_dropBlock_78 : decode cX3_dropBlock 78 = .ok (.invokestatic 81, 3) := by decide +kernel
theorem dX3_dropBlock_81 : decode cX3_dropBlock 81 = .ok (.aload_n 0, 1) := by decide +kernel
theorem dX3_dropBlock_82 : decode cX3_dropBlock 82 = .ok (.getfield 30, 3) := by decide +kernel
theorem dX3_dropBlock_85 : decode cX3_dropBlock 85 = .ok (.iload_n 2, 1) := by decide +kernel
theorem dX3_dropBlock_86 : decode cX3_dropBlock 86 = .ok (.invokestatic 81, 3) := by decide +kernel
theorem dX3_dropBlock_89 : decode cX3_dropBlock 89 = .ok (.aload_n 0, 1) := by decide +kernel
theorem dX3_dropBlock_90 : decode cX3_dropBlock 90 = .ok (.getfield 33, 3) := by decide +kernel
theorem dX3_dropBlock_93 : decode cX3_dropBlock 93 = .ok (.iload_n 2, 1) := by decide +kernel
theorem dX3_dropBlock_94 : decode cX3_dropBlock 94 = .ok (.invokestatic 81, 3) := by decide +kernel
theorem dX3_dropBlock_97 : decode cX3_dropBlock 97 = .ok (.aload_n 0, 1) := by decide +kernel
theorem dX3_dropBlock_98 : decode cX3_dropBlock 98 = .ok (.getfield 36, 3) := by decide +kernel
theorem dX3_dropBlock_101 : decode cX3_dropBlock 101 = .ok (.iload_n 2, 1) := by decide +kernel
theorem dX3_dropBlock_102 : decode cX3_dropBlock 102 = .ok (.invokestatic 81, 3) := by decide +kernel
theorem dX3_dropBlock_105 : decode cX3_dropBlock 105 = .ok (.aload_n 0, 1) := by decide +kernel
theorem dX3_dropBlock_106 : decode cX3_dropBlock 106 = .ok (.getfield 39, 3) := by decide +kernel
theorem dX3_dropBlock_109 : decode cX3_dropBlock 109 = .ok (.iload_n 2, 1) := by decide +kernel
theorem dX3_dropBlock_110 : decode cX3_dropBlock 110 = .ok (.invokestatic 81, 3) := by decide +kernel
theorem dX3_dropBlock_113 : decode cX3_dropBlock 113 = .ok (.iload_n 3, 1) := by decide +kernel
theorem dX3_dropBlock_114 : decode cX3_dropBlock 114 = .ok (.ireturn, 1) := by decide +kernel
theorem dX3_readBlock_0 : decode cX3_readBlock 0 = .ok (.aload_n 0, 1) := by decide +kernel
theorem dX3_readBlock_1 : decode cX3_readBlock 1 = .ok (.iload_n 1, 1) := by decide +kernel
theorem dX3_readBlock_2 : decode cX3_readBlock 2 = .ok (.invokevirtual 78, 3) := by decide +kernel
theorem dX3_readBlock_5 : decode cX3_readBlock 5 = .ok (.istore_n 3, 1) := by decide +kernel
theorem dX3_readBlock_6 : decode cX3_readBlock 6 = .ok (.iload_n 3, 1) := by decide +kernel
theorem dX3_readBlock_7 : decode cX3_readBlock 7 = .ok (.iconst (-1), 1) := by decide +kernel
theorem dX3_readBlock_8 : decode cX3_readBlock 8 = .ok (.if_icmp .ne 5, 3) := by decide +kernel
theorem dX3_readBlock_11 : decode cX3_readBlock 11 = .ok (.iconst (-1), 1) := by decide +kernel
theorem dX3_readBlock_12 : decode cX3_readBlock 12 = .ok (.ireturn, 1) := by decide +kernel
theorem dX3_readBlock_13 : decode cX3_readBlock 13 = .ok (.iload_n 2, 1) := by decide +kernel
theorem dX3_readBlock_14 : decode cX3_readBlock 14 = .ok (.iconst 1, 1) := by decide +kernel
theorem dX3_readBlock_15 : decode cX3_readBlock 15 = .ok (.if_icmp .lt 9, 3) := by decide +kernel
theorem dX3_readBlock_18 : decode cX3_readBlock 18 = .ok (.iload_n 2, 1) := by decide +kernel
theorem dX3_readBlock_19 : decode cX3_readBlock 19 = .ok (.bipush 99, 2) := by decide +kernel
theorem dX3_readBlock_21 : decode cX3_readBlock 21 = .ok (.if_icmp .le 6, 3) := by decide +kernel
theorem dX3_readBlock_24 : decode cX3_readBlock 24 = .ok (.bipush (-2), 2) := by decide +kernel
theorem dX3_readBlock_26 : decode cX3_readBlock 26 = .ok (.ireturn, 1) := by decide +kernel
theorem dX3_readBlock_27 : decode cX3_readBlock 27 = .ok (.iconst 0, 1) := by decide +kernel
theorem dX3_readBlock_28 : decode cX3_readBlock 28 = .ok (.istore 4, 2) := by decide +kernel
theorem dX3_readBlock_30 : decode cX3_readBlock 30 = .ok (.iconst 0, 1) := by decide +kernel
theorem dX3_readBlock_31 : decode cX3_readBlock 31 = .ok (.istore 5, 2) := by decide +kernel
theorem dX3_readBlock_33 : decode cX3_readBlock 33 = .ok (.iload 5, 2) := by decide +kernel
theorem dX3_readBlock_35 : decode cX3_readBlock 35 = .ok (.iload_n 2, 1) := by decide +kernel
theorem dX3_readBlock_36 : decode cX3_readBlock 36 = .ok (.if_icmp .ge 19, 3) := by decide +kernel
theorem dX3_readBlock_39 : decode cX3_readBlock 39 = .ok (.iload 4, 2) := by decide +kernel
theorem dX3_readBlock_41 : decode cX3_readBlock 41 = .ok (.aload_n 0, 1) := by decide +kernel
theorem dX3_readBlock_42 : decode cX3_readBlock 42 = .ok (.iload_n 3, 1) := by decide +kernel
theorem dX3_readBlock_43 : decode cX3_readBlock 43 = .ok (.invokevirtual 85, 3) := by decide +kernel
theorem dX3_readBlock_46 : decode cX3_readBlock 46 = .ok (.iadd, 1) := by decide +kernel
theorem dX3_readBlock_47 : decode cX3_readBlock 47 = .ok (.istore 4, 2) := by decide +kernel
theorem dX3_readBlock_49 : decode cX3_readBlock 49 = .ok (.iinc 5 1, 3) := by decide +kernel
theorem dX3_readBlock_52 : decode cX3_readBlock 52 = .ok (.goto (-19), 3) := by decide +kernel
theorem dX3_readBlock_55 : decode cX3_readBlock 55 = .ok (.iload 4, 2) := by decide +kernel
theorem dX3_readBlock_57 : decode cX3_readBlock 57 = .ok (.ireturn, 1) := by decide +kernel
theorem dX3_readOnce_0 : decode cX3_readOnce 0 = .ok (.aload_n 0, 1) := by decide +kernel
theorem dX3_readOnce_1 : decode cX3_readOnce 1 = .ok (.getfield 27, 3) := by decide +kernel
theorem dX3_readOnce_4 : decode cX3_readOnce 4 = .ok (.iload_n 1, 1) := by decide +kernel
theorem dX3_readOnce_5 : decode cX3_readOnce 5 = .ok (.invokestatic 49, 3) := by decide +kernel
theorem dX3_readOnce_8 : decode cX3_readOnce 8 = .ok (.istore_n 2, 1) := by decide +kernel
theorem dX3_readOnce_9 : decode cX3_readOnce 9 = .ok (.aload_n 0, 1) := by decide +kernel
theorem dX3_readOnce_10 : decode cX3_readOnce 10 = .ok (.getfield 21, 3) := by decide +kernel
theorem dX3_readOnce_13 : decode cX3_readOnce 13 = .ok (.iload_n 1, 1) := by decide +kernel
theorem dX3_readOnce_14 : decode cX3_readOnce 14 = .ok (.invokestatic 49, 3) := by decide +kernel
theorem dX3_readOnce_17 : decode cX3_readOnce 17 = .ok (.aload_n 0, 1) := by decide +kernel
theorem dX3_readOnce_18 : decode cX3_readOnce 18 = .ok (.getfield 9, 3) := by decide +kernel
theorem dX3_readOnce_21 : decode cX3_readOnce 21 = .ok (.bipush 12, 2) := by decide +kernel
theorem dX3_readOnce_23 : decode cX3_readOnce 23 = .ok (.iload_n 2, 1) := by decide +kernel
theorem dX3_readOnce_24 : decode cX3_readOnce 24 = .ok (.iadd, 1) := by decide +kernel
theorem dX3_readOnce_25 : decode cX3_readOnce 25 = .ok (.invokestatic 49, 3) := by decide +kernel
theorem dX3_readOnce_28 : decode cX3_readOnce 28 = .ok (.imul, 1) := by decide +kernel
theorem dX3_readOnce_29 : decode cX3_readOnce 29 = .ok (.istore_n 3, 1) := by decide +kernel
theorem dX3_readOnce_30 : decode cX3_readOnce 30 = .ok (.aload_n 0, 1) := by decide +kernel
theorem dX3_readOnce_31 : decode cX3_readOnce 31 = .ok (.getfield 9, 3) := by decide +kernel
theorem dX3_readOnce_34 : decode cX3_readOnce 34 = .ok (.bipush 19, 2) := by decide +kernel
theorem dX3_readOnce_36 : decode cX3_readOnce 36 = .ok (.iload_n 3, 1) := by decide +kernel
theorem dX3_readOnce_37 : decode cX3_readOnce 37 = .ok (.invokestatic 71, 3) := by decide +kernel
theorem dX3_readOnce_40 : decode cX3_readOnce 40 = .ok (.aload_n 0, 1) := by decide +kernel
theorem dX3_readOnce_41 : decode cX3_readOnce 41 = .ok (.getfield 36, 3) := by decide +kernel
theorem dX3_readOnce_44 : decode cX3_readOnce 44 = .ok (.iload_n 1, 1) := by decide +kernel
theorem dX3_readOnce_45 : decode cX3_readOnce 45 = .ok (.iconst 1, 1) := by decide +kernel
theorem dX3_readOnce_46 : decode cX3_readOnce 46 = .ok (.invokestatic 71, 3) := by decide +kernel
theorem dX3_readOnce_49 : decode cX3_readOnce 49 = .ok (.aload_n 0, 1) := by decide +kernel
theorem dX3_readOnce_50 : decode cX3_readOnce 50 = .ok (.getfield 24, 3) := by decide +kernel
theorem dX3_readOnce_53 : decode cX3_readOnce 53 = .ok (.iload_n 1, 1) := by decide +kernel
theorem dX3_readOnce_54 : decode cX3_readOnce 54 = .ok (.aload_n 0, 1) := by decide +kernel
theorem dX3_readOnce_55 : decode cX3_readOnce 55 = .ok (.getfield 24, 3) := by decide +kernel
theorem dX3_readOnce_58 : decode cX3_readOnce 58 = .ok (.iload_n 1, 1) := by decide +kernel
theorem dX3_readOnce_59 : decode cX3_readOnce 59 = .ok (.invokestatic 49, 3) := by decide +kernel
theorem dX3_readOnce_62 : decode cX3_readOnce 62 = .ok (.sipush 1000, 3) := by decide +kernel
theorem dX3_readOnce_65 : decode cX3_readOnce 65 = .ok (.iadd, 1) := by decide +kernel
theorem dX3_readOnce_66 : decode cX3_readOnce 66 = .ok (.ldc 88, 2) := by decide +kernel
theorem dX3_readOnce_68 : decode cX3_readOnce 68 = .ok (.invokestatic 89, 3) := by decide +kernel
theorem dX3_readOnce_71 : decode cX3_readOnce 71 = .ok (.invokestatic 67, 3) := by decide +kernel
theorem dX3_readOnce_74 : decode cX3_readOnce 74 = .ok (.iload_n 2, 1) := by decide +kernel
theorem dX3_readOnce_75 : decode cX3_readOnce 75 = .ok (.iconst 2, 1) := by decide +kernel
theorem dX3_readOnce_76 : decode cX3_readOnce 76 = .ok (.if_icmp .ne 13, 3) := by decide +kernel
theorem dX3_readOnce_79 : decode cX3_readOnce 79 = .ok (.iload_n 3, 1) := by decide +kernel
theorem dX3_readOnce_80 : decode cX3_readOnce 80 = .ok (.aload_n 0, 1) := by decide +kernel
theorem dX3_readOnce_81 : decode cX3_readOnce 81 = .ok (.iload_n 1, 1) := by decide +kernel
theorem dX3_readOnce_82 : decode cX3_readOnce 82 = .ok (.invokevirtual 95, 3) := by decide +kernel
theorem dX3_readOnce_85 : decode cX3_readOnce 85 = .ok (.iadd, 1) := by decide +kernel
theorem dX3_readOnce_86 : decode cX3_readOnce 86 = .ok (.goto 4, 3) := by decide +kernel
theorem dX3_readOnce_89 : decode cX3_readOnce 89 = .ok (.iload_n 3, 1) := by decide +kernel
theorem dX3_readOnce_90 : decode cX3_readOnce 90 = .ok (.ireturn, 1) := by decide +kernel
theorem dX3_askBack_0 : decode cX3_askBack 0 = .ok (.aload_n 0, 1) := by decide +kernel
theorem dX3_askBack_1 : decode cX3_askBack 1 = .ok (.getfield 21, 3) := by decide +kernel
theorem dX3_askBack_4 : decode cX3_askBack 4 = .ok (.iload_n 1, 1) := by decide +kernel
theorem dX3_askBack_5 : decode cX3_askBack 5 = .ok (.invokestatic 49, 3) := by decide +kernel
theorem dX3_askBack_8 : decode cX3_askBack 8 = .ok (.istore_n 2, 1) := by decide +kernel
theorem dX3_askBack_9 : decode cX3_askBack 9 = .ok (.iload_n 2, 1) := by decide +kernel
theorem dX3_askBack_10 : decode cX3_askBack 10 = .ok (.aload_n 0, 1) := by decide +kernel
theorem dX3_askBack_11 : decode cX3_askBack 11 = .ok (.getfield 9, 3) := by decide +kernel
theorem dX3_askBack_14 : decode cX3_askBack 14 = .ok (.iconst 5, 1) := by decide +kernel
theorem dX3_askBack_15 : decode cX3_askBack 15 = .ok (.invokestatic 49, 3) := by decide +kernel
theorem dX3_askBack_18 : decode cX3_askBack 18 = .ok (.imul, 1) := by decide +kernel
theorem dX3_askBack_19 : decode cX3_askBack 19 = .ok (.aload_n 0, 1) := by decide +kernel
theorem dX3_askBack_20 : decode cX3_askBack 20 = .ok (.getfield 33, 3) := by decide +kernel
theorem dX3_askBack_23 : decode cX3_askBack 23 = .ok (.iload_n 1, 1) := by decide +kernel
theorem dX3_askBack_24 : decode cX3_askBack 24 = .ok (.invokestatic 49, 3) := by decide +kernel
theorem dX3_askBack_27 : decode cX3_askBack 27 = .ok (.imul, 1) := by decide +kernel
theorem dX3_askBack_28 : decode cX3_askBack 28 = .ok (.istore_n 3, 1) := by decide +kernel
theorem dX3_askBack_29 : decode cX3_askBack 29 = .ok (.aload_n 0, 1) := by decide +kernel
theorem dX3_askBack_30 : decode cX3_askBack 30 = .ok (.getfield 9, 3) := by decide +kernel
theorem dX3_askBack_33 : decode cX3_askBack 33 = .ok (.bipush 20, 2) := by decide +kernel
theorem dX3_askBack_35 : decode cX3_askBack 35 = .ok (.iload_n 3, 1) := by decide +kernel
theorem dX3_askBack_36 : decode cX3_askBack 36 = .ok (.invokestatic 71, 3) := by decide +kernel
theorem dX3_askBack_39 : decode cX3_askBack 39 = .ok (.aload_n 0, 1) := by decide +kernel
theorem dX3_askBack_40 : decode cX3_askBack 40 = .ok (.getfield 9, 3) := by decide +kernel
theorem dX3_askBack_43 : decode cX3_askBack 43 = .ok (.bipush 22, 2) := by decide +kernel
theorem dX3_askBack_45 : decode cX3_askBack 45 = .ok (.iconst 1, 1) := by decide +kernel
theorem dX3_askBack_46 : decode cX3_askBack 46 = .ok (.invokestatic 71, 3) := by decide +kernel
theorem dX3_askBack_49 : decode cX3_askBack 49 = .ok (.aload_n 0, 1) := by decide +kernel
theorem dX3_askBack_50 : decode cX3_askBack 50 = .ok (.getfield 33, 3) := by decide +kernel
theorem dX3_askBack_53 : decode cX3_askBack 53 = .ok (.iload_n 1, 1) := by decide +kernel
theorem dX3_askBack_54 : decode cX3_askBack 54 = .ok (.iconst 0, 1) := by decide +kernel
theorem dX3_askBack_55 : decode cX3_askBack 55 = .ok (.invokestatic 67, 3) := by decide +kernel
theorem dX3_askBack_58 : decode cX3_askBack 58 = .ok (.aload_n 0, 1) := by decide +kernel
theorem dX3_askBack_59 : decode cX3_askBack 59 = .ok (.iconst 0, 1) := by decide +kernel
theorem dX3_askBack_60 : decode cX3_askBack 60 = .ok (.iload_n 2, 1) := by decide +kernel
theorem dX3_askBack_61 : decode cX3_askBack 61 = .ok (.invokevirtual 74, 3) := by decide +kernel
theorem dX3_askBack_64 : decode cX3_askBack 64 = .ok (.ifCond .eq 12, 3) := by decide +kernel
theorem dX3_askBack_67 : decode cX3_askBack 67 = .ok (.aload_n 0, 1) := by decide +kernel
theorem dX3_askBack_68 : decode cX3_askBack 68 = .ok (.iload_n 1, 1) := by decide +kernel
theorem dX3_askBack_69 : decode cX3_askBack 69 = .ok (.iconst 0, 1) := by decide +kernel
theorem dX3_askBack_70 : decode cX3_askBack 70 = .ok (.invokevirtual 98, 3) := by decide +kernel
theorem dX3_askBack_73 : decode cX3_askBack 73 = .ok (.goto 18, 3) := by decide +kernel
theorem dX3_askBack_76 : decode cX3_askBack 76 = .ok (.aload_n 0, 1) := by decide +kernel
theorem dX3_askBack_77 : decode cX3_askBack 77 = .ok (.iconst 1, 1) := by decide +kernel
theorem dX3_askBack_78 : decode cX3_askBack 78 = .ok (.iload_n 2, 1) := by decide +kernel
theorem dX3_askBack_79 : decode cX3_askBack 79 = .ok (.invokevirtual 74, 3) := by decide +kernel
theorem dX3_askBack_82 : decode cX3_askBack 82 = .ok (.ifCond .eq 9, 3) := by decide +kernel
theorem dX3_askBack_85 : decode cX3_askBack 85 = .ok (.aload_n 0, 1) := by decide +kernel
theorem dX3_askBack_86 : decode cX3_askBack 86 = .ok (.iload_n 1, 1) := by decide +kernel
theorem dX3_askBack_87 : decode cX3_askBack 87 = .ok (.iconst 1, 1) := by decide +kernel
theorem dX3_askBack_88 : decode cX3_askBack 88 = .ok (.invokevirtual 98, 3) := by decide +kernel
theorem dX3_askBack_91 : decode cX3_askBack 91 = .ok (.iload_n 3, 1) := by decide +kernel
theorem dX3_askBack_92 : decode cX3_askBack 92 = .ok (.ireturn, 1) := by decide +kernel
theorem dX3_moveTo_0 : decode cX3_moveTo 0 = .ok (.aload_n 0, 1) := by decide +kernel
theorem dX3_moveTo_1 : decode cX3_moveTo 1 = .ok (.getfield 21, 3) := by decide +kernel
theorem dX3_moveTo_4 : decode cX3_moveTo 4 = .ok (.iload_n 1, 1) := by decide +kernel
theorem dX3_moveTo_5 : decode cX3_moveTo 5 = .ok (.invokestatic 49, 3) := by decide +kernel
theorem dX3_moveTo_8 : decode cX3_moveTo 8 = .ok (.istore_n 3, 1) := by decide +kernel
theorem dX3_moveTo_9 : decode cX3_moveTo 9 = .ok (.aload_n 0, 1) := by decide +kernel
theorem dX3_moveTo_10 : decode cX3_moveTo 10 = .ok (.getfield 15, 3) := by decide +kernel
theorem dX3_moveTo_13 : decode cX3_moveTo 13 = .ok (.aload_n 0, 1) := by decide +kernel
theorem dX3_moveTo_14 : decode cX3_moveTo 14 = .ok (.getfield 27, 3) := by decide +kernel
theorem dX3_moveTo_17 : decode cX3_moveTo 17 = .ok (.iload_n 1, 1) := by decide +kernel
theorem dX3_moveTo_18 : decode cX3_moveTo 18 = .ok (.invokestatic 49, 3) := by decide +kernel
theorem dX3_moveTo_21 : decode cX3_moveTo 21 = .ok (.iload_n 3, 1) := by decide +kernel
theorem dX3_moveTo_22 : decode cX3_moveTo 22 = .ok (.ineg, 1) := by decide +kernel
theorem dX3_moveTo_23 : decode cX3_moveTo 23 = .ok (.invokestatic 71, 3) := by decide +kernel
theorem dX3_moveTo_26 : decode cX3_moveTo 26 = .ok (.aload_n 0, 1) := by decide +kernel
theorem dX3_moveTo_27 : decode cX3_moveTo 27 = .ok (.getfield 15, 3) := by decide +kernel
theorem dX3_moveTo_30 : decode cX3_moveTo 30 = .ok (.iload_n 2, 1) := by decide +kernel
theorem dX3_moveTo_31 : decode cX3_moveTo 31 = .ok (.iload_n 3, 1) := by decide +kernel
theorem dX3_moveTo_32 : decode cX3_moveTo 32 = .ok (.invokestatic 71, 3) := by decide +kernel
theorem dX3_moveTo_35 : decode cX3_moveTo 35 = .ok (.aload_n 0, 1) := by decide +kernel
theorem dX3_moveTo_36 : decode cX3_moveTo 36 = .ok (.getfield 27, 3) := by decide +kernel
theorem dX3_moveTo_39 : decode cX3_moveTo 39 = .ok (.iload_n 1, 1) := by decide +kernel
theorem dX3_moveTo_40 : decode cX3_moveTo 40 = .ok (.iload_n 2, 1) := by decide +kernel
theorem dX3_moveTo_41 : decode cX3_moveTo 41 = .ok (.invokestatic 67, 3) := by decide +kernel
theorem dX3_moveTo_44 : decode cX3_moveTo 44 = .ok (.aload_n 0, 1) := by decide +kernel
theorem dX3_moveTo_45 : decode cX3_moveTo 45 = .ok (.getfield 39, 3) := by decide +kernel
theorem dX3_moveTo_48 : decode cX3_moveTo 48 = .ok (.iload_n 1, 1) := by decide +kernel
theorem dX3_moveTo_49 : decode cX3_moveTo 49 = .ok (.iconst 1, 1) := by decide +kernel
theorem dX3_moveTo_50 : decode cX3_moveTo 50 = .ok (.invokestatic 71, 3) := by decide +kernel
theorem dX3_moveTo_53 : decode cX3_moveTo 53 = .ok (.return_, 1) := by decide +kernel
theorem dX3_payNight_0 : decode cX3_payNight 0 = .ok (.aload_n 0, 1) := by decide +kernel
theorem dX3_payNight_1 : decode cX3_payNight 1 = .ok (.getfield 9, 3) := by decide +kernel
theorem dX3_payNight_4 : decode cX3_payNight 4 = .ok (.bipush 17, 2) := by decide +kernel
theorem dX3_payNight_6 : decode cX3_payNight 6 = .ok (.iconst 1, 1) := by decide +kernel
theorem dX3_payNight_7 : decode cX3_payNight 7 = .ok (.invokestatic 71, 3) := by decide +kernel
theorem dX3_payNight_10 : decode cX3_payNight 10 = .ok (.iconst 0, 1) := by decide +kernel
theorem dX3_payNight_11 : decode cX3_payNight 11 = .ok (.istore_n 1, 1) := by decide +kernel
theorem dX3_payNight_12 : decode cX3_payNight 12 = .ok (.iload_n 1, 1) := by decide +kernel
theorem dX3_payNight_13 : decode cX3_payNight 13 = .ok (.iconst 3, 1) := by decide +kernel
theorem dX3_payNight_14 : decode cX3_payNight 14 = .ok (.if_icmp .ge 23, 3) := by decide +kernel
theorem dX3_payNight_17 : decode cX3_payNight 17 = .ok (.aload_n 0, 1) := by decide +kernel
theorem dX3_payNight_18 : decode cX3_payNight 18 = .ok (.getfield 9, 3) := by decide +kernel
theorem dX3_payNight_21 : decode cX3_payNight 21 = .ok (.bipush 18, 2) := by decide +kernel
theorem dX3_payNight_23 : decode cX3_payNight 23 = .ok (.aload_n 0, 1) := by decide +kernel
theorem dX3_payNight_24 : decode cX3_payNight 24 = .ok (.iload_n 1, 1) := by decide +kernel
theorem dX3_payNight_25 : decode cX3_payNight 25 = .ok (.invokevirtual 102, 3) := by decide +kernel
theorem dX3_payNight_28 : decode cX3_payNight 28 = .ok (.invokestatic 71, 3) := by decide +kernel
theorem dX3_payNight_31 : decode cX3_payNight 31 = .ok (.iinc 1 1, 3) := by decide +kernel
theorem dX3_payNight_34 : decode cX3_payNight 34 = .ok (.goto (-22), 3) := by decide +kernel
theorem dX3_payNight_37 : decode cX3_payNight 37 = .ok (.return_, 1) := by decide +kernel
theorem dX3_fade_0 : decode cX3_fade 0 = .ok (.aload_n 0, 1) := by decide +kernel
theorem dX3_fade_1 : decode cX3_fade 1 = .ok (.invokevirtual 53, 3) := by decide +kernel
theorem dX3_fade_4 : decode cX3_fade 4 = .ok (.istore_n 1, 1) := by decide +kernel
theorem dX3_fade_5 : decode cX3_fade 5 = .ok (.aload_n 0, 1) := by decide +kernel
theorem dX3_fade_6 : decode cX3_fade 6 = .ok (.getfield 9, 3) := by decide +kernel
theorem dX3_fade_9 : decode cX3_fade 9 = .ok (.iconst 0, 1) := by decide +kernel
theorem dX3_fade_10 : decode cX3_fade 10 = .ok (.invokestatic 49, 3) := by decide +kernel
theorem dX3_fade_13 : decode cX3_fade 13 = .ok (.istore_n 2, 1) := by decide +kernel
theorem dX3_fade_14 : decode cX3_fade 14 = .ok (.iconst 0, 1) := by decide +kernel
theorem dX3_fade_15 : decode cX3_fade 15 = .ok (.istore_n 3, 1) := by decide +kernel
theorem dX3_fade_16 : decode cX3_fade 16 = .ok (.iload_n 3, 1) := by decide +kernel
theorem dX3_fade_17 : decode cX3_fade 17 = .ok (.iload_n 1, 1) := by decide +kernel
theorem dX3_fade_18 : decode cX3_fade 18 = .ok (.if_icmp .ge 52, 3) := by decide +kernel
theorem dX3_fade_21 : decode cX3_fade 21 = .ok (.aload_n 0, 1) := by decide +kernel
theorem dX3_fade_22 : decode cX3_fade 22 = .ok (.getfield 24, 3) := by decide +kernel
theorem dX3_fade_25 : decode cX3_fade 25 = .ok (.iload_n 3, 1) := by decide +kernel
theorem dX3_fade_26 : decode cX3_fade 26 = .ok (.aload_n 0, 1) := by decide +kernel
theorem dX3_fade_27 : decode cX3_fade 27 = .ok (.getfield 24, 3) := by decide +kernel
theorem dX3_fade_30 : decode cX3_fade 30 = .ok (.iload_n 3, 1) := by decide +kernel
theorem dX3_fade_31 : decode cX3_fade 31 = .ok (.invokestatic 49, 3) := by decide +kernel
theorem dX3_fade_34 : decode cX3_fade 34 = .ok (.iload_n 2, 1) := by decide +kernel
theorem dX3_fade_35 : decode cX3_fade 35 = .ok (.imul, 1) := by decide +kernel
theorem dX3_fade_36 : decode cX3_fade 36 = .ok (.bipush 100, 2) := by decide +kernel
theorem dX3_fade_38 : decode cX3_fade 38 = .ok (.idiv, 1) := by decide +kernel
theorem dX3_fade_39 : decode cX3_fade 39 = .ok (.invokestatic 67, 3) := by decide +kernel
theorem dX3_fade_42 : decode cX3_fade 42 = .ok (.aload_n 0, 1) := by decide +kernel
theorem dX3_fade_43 : decode cX3_fade 43 = .ok (.getfield 33, 3) := by decide +kernel
theorem dX3_fade_46 : decode cX3_fade 46 = .ok (.iload_n 3, 1) := by decide +kernel
theorem dX3_fade_47 : decode cX3_fade 47 = .ok (.aload_n 0, 1) := by decide +kernel
theorem dX3_fade_48 : decode cX3_fade 48 = .ok (.getfield 33, 3) := by decide +kernel
theorem dX3_fade_51 : decode cX3_fade 51 = .ok (.iload_n 3, 1) := by decide +kernel
theorem dX3_fade_52 : decode cX3_fade 52 = .ok (.invokestatic 49, 3) := by decide +kernel
theorem dX3_fade_55 : decode cX3_fade 55 = .ok (.iconst 1, 1) := by decide +kernel
theorem dX3_fade_56 : decode cX3_fade 56 = .ok (.isub, 1) := by decide +kernel
theorem dX3_fade_57 : decode cX3_fade 57 = .ok (.iconst 0, 1) := by decide +kernel
theorem dX3_fade_58 : decode cX3_fade 58 = .ok (.invokestatic 105, 3) := by decide +kernel
theorem dX3_fade_61 : decode cX3_fade 61 = .ok (.invokestatic 67, 3) := by decide +kernel
theorem dX3_fade_64 : decode cX3_fade 64 = .ok (.iinc 3 1, 3) := by decide +kernel
theorem dX3_fade_67 : decode cX3_fade 67 = .ok (.goto (-51), 3) := by decide +kernel
theorem dX3_fade_70 : decode cX3_fade 70 = .ok (.return_, 1) := by decide +kernel
theorem dX3_turnPin_0 : decode cX3_turnPin 0 = .ok (.aload_n 0, 1) := by decide +kernel
theorem dX3_turnPin_1 : decode cX3_turnPin 1 = .ok (.iload_n 1, 1) := by decide +kernel
theorem dX3_turnPin_2 : decode cX3_turnPin 2 = .ok (.invokevirtual 78, 3) := by decide +kernel
theorem dX3_turnPin_5 : decode cX3_turnPin 5 = .ok (.istore_n 3, 1) := by decide +kernel
theorem dX3_turnPin_6 : decode cX3_turnPin 6 = .ok (.iload_n 3, 1) := by decide +kernel
theorem dX3_turnPin_7 : decode cX3_turnPin 7 = .ok (.iconst (-1), 1) := by decide +kernel
theorem dX3_turnPin_8 : decode cX3_turnPin 8 = .ok (.if_icmp .ne 5, 3) := by decide +kernel
theorem dX3_turnPin_11 : decode cX3_turnPin 11 = .ok (.iconst (-1), 1) := by decide +kernel
theorem dX3_turnPin_12 : decode cX3_turnPin 12 = .ok (.ireturn, 1) := by decide +kernel
theorem dX3_turnPin_13 : decode cX3_turnPin 13 = .ok (.iload_n 2, 1) := by decide +kernel
theorem dX3_turnPin_14 : decode cX3_turnPin 14 = .ok (.ifCond .eq 7, 3) := by decide +kernel
theorem dX3_turnPin_17 : decode cX3_turnPin 17 = .ok (.iconst 1, 1) := by decide +kernel
theorem dX3_turnPin_18 : decode cX3_turnPin 18 = .ok (.goto 4, 3) := by decide +kernel
theorem dX3_turnPin_21 : decode cX3_turnPin 21 = .ok (.iconst 0, 1) := by decide +kernel
theorem dX3_turnPin_22 : decode cX3_turnPin 22 = .ok (.istore 4, 2) := by decide +kernel
theorem dX3_turnPin_24 : decode cX3_turnPin 24 = .ok (.aload_n 0, 1) := by decide +kernel
theorem dX3_turnPin_25 : decode cX3_turnPin 25 = .ok (.getfield 30, 3) := by decide +kernel
theorem dX3_turnPin_28 : decode cX3_turnPin 28 = .ok (.iload_n 3, 1) := by decide +kernel
theorem dX3_turnPin_29 : decode cX3_turnPin 29 = .ok (.invokestatic 49, 3) := by decide +kernel
theorem dX3_turnPin_32 : decode cX3_turnPin 32 = .ok (.iload 4, 2) := by decide +kernel
theorem dX3_turnPin_34 : decode cX3_turnPin 34 = .ok (.if_icmp .ne 6, 3) := by decide +kernel
theorem dX3_turnPin_37 : decode cX3_turnPin 37 = .ok (.bipush (-5), 2) := by decide +kernel
theorem dX3_turnPin_39 : decode cX3_turnPin 39 = .ok (.ireturn, 1) := by decide +kernel
theorem dX3_turnPin_40 : decode cX3_turnPin 40 = .ok (.aload_n 0, 1) := by decide +kernel
theorem dX3_turnPin_41 : decode cX3_turnPin 41 = .ok (.getfield 30, 3) := by decide +kernel
theorem dX3_turnPin_44 : decode cX3_turnPin 44 = .ok (.iload_n 3, 1) := by decide +kernel
theorem dX3_turnPin_45 : decode cX3_turnPin 45 = .ok (.iload 4, 2) := by decide +kernel
theorem dX3_turnPin_47 : decode cX3_turnPin 47 = .ok (.invokestatic 67, 3) := by decide +kernel
theorem dX3_turnPin_50 : decode cX3_turnPin 50 = .ok (.aload_n 0, 1) := by decide +kernel
theorem dX3_turnPin_51 : decode cX3_turnPin 51 = .ok (.invokevirtual 108, 3) := by decide +kernel
theorem dX3_turnPin_54 : decode cX3_turnPin 54 = .ok (.ireturn, 1) := by decide +kernel
theorem dX3_flipPin_0 : decode cX3_flipPin 0 = .ok (.aload_n 0, 1) := by decide +kernel
theorem dX3_flipPin_1 : decode cX3_flipPin 1 = .ok (.iload_n 1, 1) := by decide +kernel
theorem dX3_flipPin_2 : decode cX3_flipPin 2 = .ok (.aload_n 0, 1) := by decide +kernel
theorem dX3_flipPin_3 : decode cX3_flipPin 3 = .ok (.getfield 30, 3) := by decide +kernel
theorem dX3_flipPin_6 : decode cX3_flipPin 6 = .ok (.aload_n 0, 1) := by decide +kernel
theorem dX3_flipPin_7 : decode cX3_flipPin 7 = .ok (.iload_n 1, 1) := by decide +kernel
theorem dX3_flipPin_8 : decode cX3_flipPin 8 = .ok (.invokevirtual 78, 3) := by decide +kernel
theorem dX3_flipPin_11 : decode cX3_flipPin 11 = .ok (.invokestatic 49, 3) := by decide +kernel
theorem dX3_flipPin_14 : decode cX3_flipPin 14 = .ok (.ifCond .ne 7, 3) := by decide +kernel
theorem dX3_flipPin_17 : decode cX3_flipPin 17 = .ok (.iconst 1, 1) := by decide +kernel
theorem dX3_flipPin_18 : decode cX3_flipPin 18 = .ok (.goto 4, 3) := by decide +kernel
theorem dX3_flipPin_21 : decode cX3_flipPin 21 = .ok (.iconst 0, 1) := by decide +kernel
theorem dX3_flipPin_22 : decode cX3_flipPin 22 = .ok (.invokevirtual 111, 3) := by decide +kernel
theorem dX3_flipPin_25 : decode cX3_flipPin 25 = .ok (.ireturn, 1) := by decide +kernel
theorem dX3_changeSetting_0 : decode cX3_changeSetting 0 = .ok (.iload_n 1, 1) := by decide +kernel
theorem dX3_changeSetting_1 : decode cX3_changeSetting 1 = .ok (.ifCond .lt 9, 3) := by decide +kernel
theorem dX3_changeSetting_4 : decode cX3_changeSetting 4 = .ok (.iload_n 1, 1) := by decide +kernel
theorem dX3_changeSetting_5 : decode cX3_changeSetting 5 = .ok (.bipush 15, 2) := by decide +kernel
theorem dX3_changeSetting_7 : decode cX3_changeSetting 7 = .ok (.if_icmp .lt 5, 3) := by decide +kernel
theorem dX3_changeSetting_10 : decode cX3_changeSetting 10 = .ok (.iconst (-1), 1) := by decide +kernel
theorem dX3_changeSetting_11 : decode cX3_changeSetting 11 = .ok (.ireturn, 1) := by decide +kernel
theorem dX3_changeSetting_12 : decode cX3_changeSetting 12 = .ok (.iload_n 2, 1) := by decide +kernel
theorem dX3_changeSetting_13 : decode cX3_changeSetting 13 = .ok (.ifCond .lt 14, 3) := by decide +kernel
theorem dX3_changeSetting_16 : decode cX3_changeSetting 16 = .ok (.iload_n 2, 1) := by decide +kernel
theorem dX3_changeSetting_17 : decode cX3_changeSetting 17 = .ok (.getstatic 115, 3) := by decide +kernel
theorem dX3_changeSetting_20 : decode cX3_changeSetting 20 = .ok (.iload_n 1, 1) := by decide +kernel
theorem dX3_changeSetting_21 : decode cX3_changeSetting 21 = .ok (.invokestatic 49, 3) := by decide +kernel
theorem dX3_changeSetting_24 : decode cX3_changeSetting 24 = .ok (.if_icmp .le 6, 3) := by decide +kernel
theorem dX3_changeSetting_27 : decode cX3_changeSetting 27 = .ok (.bipush (-2), 2) := by decide +kernel
theorem dX3_changeSetting_29 : decode cX3_changeSetting 29 = .ok (.ireturn, 1) := by decide +kernel
theorem dX3_changeSetting_30 : decode cX3_changeSetting 30 = .ok (.aload_n 0, 1) := by decide +kernel
theorem dX3_changeSetting_31 : decode cX3_changeSetting 31 = .ok (.iload_n 1, 1) := by decide +kernel
theorem dX3_changeSetting_32 : decode cX3_changeSetting 32 = .ok (.iload_n 2, 1) := by decide +kernel
theorem dX3_changeSetting_33 : decode cX3_changeSetting 33 = .ok (.invokevirtual 118, 3) := by decide +kernel
theorem dX3_changeSetting_36 : decode cX3_changeSetting 36 = .ok (.ifCond .ne 6, 3) := by decide +kernel
theorem dX3_changeSetting_39 : decode cX3_changeSetting 39 = .ok (.bipush (-4), 2) := by decide +kernel
theorem dX3_changeSetting_41 : decode cX3_changeSetting 41 = .ok (.ireturn, 1) := by decide +kernel
theorem dX3_changeSetting_42 : decode cX3_changeSetting 42 = .ok (.aload_n 0, 1) := by decide +kernel
theorem dX3_changeSetting_43 : decode cX3_changeSetting 43 = .ok (.getfield 9, 3) := by decide +kernel
theorem dX3_changeSetting_46 : decode cX3_changeSetting 46 = .ok (.iload_n 1, 1) := by decide +kernel
theorem dX3_changeSetting_47 : decode cX3_changeSetting 47 = .ok (.invokestatic 49, 3) := by decide +kernel
theorem dX3_changeSetting_50 : decode cX3_changeSetting 50 = .ok (.istore_n 3, 1) := by decide +kernel
theorem dX3_changeSetting_51 : decode cX3_changeSetting 51 = .ok (.iload_n 3, 1) := by decide +kernel
theorem dX3_changeSetting_52 : decode cX3_changeSetting 52 = .ok (.iload_n 2, 1) := by decide +kernel
theorem dX3_changeSetting_53 : decode cX3_changeSetting 53 = .ok (.if_icmp .ne 6, 3) := by decide +kernel
theorem dX3_changeSetting_56 : decode cX3_changeSetting 56 = .ok (.bipush (-5), 2) := by decide +kernel
theorem dX3_changeSetting_58 : decode cX3_changeSetting 58 = .ok (.ireturn, 1) := by decide +kernel
theorem dX3_changeSetting_59 : decode cX3_changeSetting 59 = .ok (.aload_n 0, 1) := by decide +kernel
theorem dX3_changeSetting_60 : decode cX3_changeSetting 60 = .ok (.getfield 9, 3) := by decide +kernel
theorem dX3_changeSetting_63 : decode cX3_changeSetting 63 = .ok (.iload_n 1, 1) := by decide +kernel
theorem dX3_changeSetting_64 : decode cX3_changeSetting 64 = .ok (.iload_n 2, 1) := by decide +kernel
theorem dX3_changeSetting_65 : decode cX3_changeSetting 65 = .ok (.invokestatic 67, 3) := by decide +kernel
theorem dX3_changeSetting_68 : decode cX3_changeSetting 68 = .ok (.iload_n 3, 1) := by decide +kernel
theorem dX3_changeSetting_69 : decode cX3_changeSetting 69 = .ok (.ireturn, 1) := by decide +kernel
theorem dX3_allowsSetting_0 : decode cX3_allowsSetting 0 = .ok (.iload_n 1, 1) := by decide +kernel
theorem dX3_allowsSetting_1 : decode cX3_allowsSetting 1 = .ok (.iconst 1, 1) := by decide +kernel
theorem dX3_allowsSetting_2 : decode cX3_allowsSetting 2 = .ok (.if_icmp .ne 21, 3) := by decide +kernel
theorem dX3_allowsSetting_5 : decode cX3_allowsSetting 5 = .ok (.aload_n 0, 1) := by decide +kernel
theorem dX3_allowsSetting_6 : decode cX3_allowsSetting 6 = .ok (.getfield 9, 3) := by decide +kernel
theorem dX3_allowsSetting_9 : decode cX3_allowsSetting 9 = .ok (.iconst 2, 1) := by decide +kernel
theorem dX3_allowsSetting_10 : decode cX3_allowsSetting 10 = .ok (.invokestatic 49, 3) := by decide +kernel
theorem dX3_allowsSetting_13 : decode cX3_allowsSetting 13 = .ok (.iload_n 2, 1) := by decide +kernel
theorem dX3_allowsSetting_14 : decode cX3_allowsSetting 14 = .ok (.if_icmp .gt 7, 3) := by decide +kernel
theorem dX3_allowsSetting_17 : decode cX3_allowsSetting 17 = .ok (.iconst 1, 1) := by decide +kernel
theorem dX3_allowsSetting_18 : decode cX3_allowsSetting 18 = .ok (.goto 4, 3) := by decide +kernel
theorem dX3_allowsSetting_21 : decode cX3_allowsSetting 21 = .ok (.iconst 0, 1) := by decide +kernel
theorem dX3_allowsSetting_22 : decode cX3_allowsSetting 22 = .ok (.ireturn, 1) := by decide +kernel
theorem dX3_allowsSetting_23 : decode cX3_allowsSetting 23 = .ok (.iload_n 1, 1) := by decide +kernel
theorem dX3_allowsSetting_24 : decode cX3_allowsSetting 24 = .ok (.iconst 2, 1) := by decide +kernel
theorem dX3_allowsSetting_25 : decode cX3_allowsSetting 25 = .ok (.if_icmp .ne 21, 3) := by decide +kernel
theorem dX3_allowsSetting_28 : decode cX3_allowsSetting 28 = .ok (.iload_n 2, 1) := by decide +kernel
theorem dX3_allowsSetting_29 : decode cX3_allowsSetting 29 = .ok (.aload_n 0, 1) := by decide +kernel
theorem dX3_allowsSetting_30 : decode cX3_allowsSetting 30 = .ok (.getfield 9, 3) := by decide +kernel
theorem dX3_allowsSetting_33 : decode cX3_allowsSetting 33 = .ok (.iconst 1, 1) := by decide +kernel
theorem dX3_allowsSetting_34 : decode cX3_allowsSetting 34 = .ok (.invokestatic 49, 3) := by decide +kernel
theorem dX3_allowsSetting_37 : decode cX3_allowsSetting 37 = .ok (.if_icmp .gt 7, 3) := by decide +kernel
theorem dX3_allowsSetting_40 : decode cX3_allowsSetting 40 = .ok (.iconst 1, 1) := by decide +kernel
theorem dX3_allowsSetting_41 : decode cX3_allowsSetting 41 = .ok (.goto 4, 3) := by decide +kernel
theorem dX3_allowsSetting_44 : decode cX3_allowsSetting 44 = .ok (.iconst 0, 1) := by decide +kernel
theorem dX3_allowsSetting_45 : decode cX3_allowsSetting 45 = .ok (.ireturn, 1) := by decide +kernel
theorem dX3_allowsSetting_46 : decode cX3_allowsSetting 46 = .ok (.iload_n 1, 1) := by decide +kernel
theorem dX3_allowsSetting_47 : decode cX3_allowsSetting 47 = .ok (.bipush 6, 2) := by decide +kernel
theorem dX3_allowsSetting_49 : decode cX3_allowsSetting 49 = .ok (.if_icmp .lt 30, 3) := by decide +kernel
theorem dX3_allowsSetting_52 : decode cX3_allowsSetting 52 = .ok (.iload_n 1, 1) := by decide +kernel
theorem dX3_allowsSetting_53 : decode cX3_allowsSetting 53 = .ok (.bipush 9, 2) := by decide +kernel
theorem dX3_allowsSetting_55 : decode cX3_allowsSetting 55 = .ok (.if_icmp .ge 24, 3) := by decide +kernel
theorem dX3_allowsSetting_58 : decode cX3_allowsSetting 58 = .ok (.aload_n 0, 1) := by decide +kernel
theorem dX3_allowsSetting_59 : decode cX3_allowsSetting 59 = .ok (.getfield 15, 3) := by decide +kernel
theorem dX3_allowsSetting_62 : decode cX3_allowsSetting 62 = .ok (.iload_n 1, 1) := by decide +kernel
theorem dX3_allowsSetting_63 : decode cX3_allowsSetting 63 = .ok (.bipush 6, 2) := by decide +kernel
theorem dX3_allowsSetting_65 : decode cX3_allowsSetting 65 = .ok (.isub, 1) := by decide +kernel
theorem dX3_allowsSetting_66 : decode cX3_allowsSetting 66 = .ok (.invokestatic 49, 3) := by decide +kernel
theorem dX3_allowsSetting_69 : decode cX3_allowsSetting 69 = .ok (.iload_n 2, 1) := by decide +kernel
theorem dX3_allowsSetting_70 : decode cX3_allowsSetting 70 = .ok (.if_icmp .gt 7, 3) := by decide +kernel
theorem dX3_allowsSetting_73 : decode cX3_allowsSetting 73 = .ok (.iconst 1, 1) := by decide +kernel
theorem dX3_allowsSetting_74 : decode cX3_allowsSetting 74 = .ok (.goto 4, 3) := by decide +kernel
theorem dX3_allowsSetting_77 : decode cX3_allowsSetting 77 = .ok (.iconst 0, 1) := by decide +kernel
theorem dX3_allowsSetting_78 : decode cX3_allowsSetting 78 = .ok (.ireturn, 1) := by decide +kernel
theorem dX3_allowsSetting_79 : decode cX3_allowsSetting 79 = .ok (.iconst 1, 1) := by decide +kernel
theorem dX3_allowsSetting_80 : decode cX3_allowsSetting 80 = .ok (.ireturn, 1) := by decide +kernel
theorem dJ9_abs_0f7a4_0 : decode cJ9_abs_0f7a4 0 = .ok (.iload_n 0, 1) := by decide +kernel
theorem dJ9_abs_0f7a4_1 : decode cJ9_abs_0f7a4 1 = .ok (.ifCond .ge 8, 3) := by decide +kernel
theorem dJ9_abs_0f7a4_4 : decode cJ9_abs_0f7a4 4 = .ok (.iload_n 0, 1) := by decide +kernel
theorem dJ9_abs_0f7a4_5 : decode cJ9_abs_0f7a4 5 = .ok (.ineg, 1) := by decide +kernel
theorem dJ9_abs_0f7a4_6 : decode cJ9_abs_0f7a4 6 = .ok (.goto 4, 3) := by decide +kernel
theorem dJ9_abs_0f7a4_9 : decode cJ9_abs_0f7a4 9 = .ok (.iload_n 0, 1) := by decide +kernel
theorem dJ9_abs_0f7a4_10 : decode cJ9_abs_0f7a4 10 = .ok (.ireturn, 1) := by decide +kernel
theorem dJ9_max_7cf53_0 : decode cJ9_max_7cf53 0 = .ok (.iload_n 0, 1) := by decide +kernel
theorem dJ9_max_7cf53_1 : decode cJ9_max_7cf53 1 = .ok (.iload_n 1, 1) := by decide +kernel
theorem dJ9_max_7cf53_2 : decode cJ9_max_7cf53 2 = .ok (.if_icmp .lt 7, 3) := by decide +kernel
theorem dJ9_max_7cf53_5 : decode cJ9_max_7cf53 5 = .ok (.iload_n 0, 1) := by decide +kernel
theorem dJ9_max_7cf53_6 : decode cJ9_max_7cf53 6 = .ok (.goto 4, 3) := by decide +kernel
theorem dJ9_max_7cf53_9 : decode cJ9_max_7cf53 9 = .ok (.iload_n 1, 1) := by decide +kernel
theorem dJ9_max_7cf53_10 : decode cJ9_max_7cf53 10 = .ok (.ireturn, 1) := by decide +kernel
theorem dJ9_min_7cf53_0 : decode cJ9_min_7cf53 0 = .ok (.iload_n 0, 1) := by decide +kernel
theorem dJ9_min_7cf53_1 : decode cJ9_min_7cf53 1 = .ok (.iload_n 1, 1) := by decide +kernel
theorem dJ9_min_7cf53_2 : decode cJ9_min_7cf53 2 = .ok (.if_icmp .gt 7, 3) := by decide +kernel
theorem dJ9_min_7cf53_5 : decode cJ9_min_7cf53 5 = .ok (.iload_n 0, 1) := by decide +kernel
theorem dJ9_min_7cf53_6 : decode cJ9_min_7cf53 6 = .ok (.goto 4, 3) := by decide +kernel
theorem dJ9_min_7cf53_9 : decode cJ9_min_7cf53 9 = .ok (.iload_n 1, 1) := by decide +kernel
theorem dJ9_min_7cf53_10 : decode cJ9_min_7cf53 10 = .ok (.ireturn, 1) := by decide +kernel
end
section
theorem dX4_init_0 : decode cX4_init 0 = .ok (.aload_n 0, 1) := by decide +kernel
theorem dX4_init_1 : decode cX4_init 1 = .ok (.invokespecial 1, 3) := by decide +kernel
theorem dX4_init_4 : decode cX4_init 4 = .ok (.aload_n 0, 1) := by decide +kernel
theorem dX4_init_5 : decode cX4_init 5 = .ok (.new 7, 3) := by decide +kernel
theorem dX4_init_8 : decode cX4_init 8 = .ok (.dup, 1) := by decide +kernel
theorem dX4_init_9 : decode cX4_init 9 = .ok (.invokespecial 9, 3) := by decide +kernel
theorem dX4_init_12 : decode cX4_init 12 = .ok (.putfield 10, 3) := by decide +kernel
theorem dX4_init_15 : decode cX4_init 15 = .ok (.aload_n 0, 1) := by decide +kernel
theorem dX4_init_16 : decode cX4_init 16 = .ok (.new 7, 3) := by decide +kernel
theorem dX4_init_19 : decode cX4_init 19 = .ok (.dup, 1) := by decide +kernel
theorem dX4_init_20 : decode cX4_init 20 = .ok (.invokespecial 9, 3) := by decide +kernel
theorem dX4_init_23 : decode cX4_init 23 = .ok (.putfield 16, 3) := by decide +kernel
theorem dX4_init_26 : decode cX4_init 26 = .ok (.aload_n 0, 1) := by decide +kernel
theorem dX4_init_27 : decode cX4_init 27 = .ok (.new 7, 3) := by decide +kernel
theorem dX4_init_30 : decode cX4_init 30 = .ok (.dup, 1) := by decide +kernel
theorem dX4_init_31 : decode cX4_init 31 = .ok (.invokespecial 9, 3) := by decide +kernel
theorem dX4_init_34 : decode cX4_init 34 = .ok (.putfield 19, 3) := by decide +kernel
theorem dX4_init_37 : decode cX4_init 37 = .ok (.aload_n 0, 1) := by decide +kernel
theorem dX4_init_38 : decode cX4_init 38 = .ok (.iconst 0, 1) := by decide +kernel
theorem dX4_init_39 : decode cX4_init 39 = .ok (.putfield 22, 3) := by decide +kernel
theorem dX4_init_42 : decode cX4_init 42 = .ok (.aload_n 0, 1) := by decide +kernel
theorem dX4_init_43 : decode cX4_init 43 = .ok (.new 26, 3) := by decide +kernel
theorem dX4_init_46 : decode cX4_init 46 = .ok (.dup, 1) := by decide +kernel
theorem dX4_init_47 : decode cX4_init 47 = .ok (.invokespecial 28, 3) := by decide +kernel
theorem dX4_init_50 : decode cX4_init 50 = .ok (.putfield 29, 3) := by decide +kernel
theorem dX4_init_53 : decode cX4_init 53 = .ok (.aload_n 0, 1) := by decide +kernel
theorem dX4_init_54 : decode cX4_init 54 = .ok (.new 33, 3) := by decide +kernel
theorem dX4_init_57 : decode cX4_init 57 = .ok (.dup, 1) := by decide +kernel
theorem dX4_init_58 : decode cX4_init 58 = .ok (.invokespecial 35, 3) := by decide +kernel
theorem dX4_init_61 : decode cX4_init 61 = .ok (.putfield 36, 3) := by decide +kernel
theorem dX4_init_64 : decode cX4_init 64 = .ok (.aload_n 0, 1) := by decide +kernel
theorem dX4_init_65 : decode cX4_init 65 = .ok (.new 40, 3) := by decide +kernel
theorem dX4_init_68 : decode cX4_init 68 = .ok (.dup, 1) := by decide +kernel
theorem dX4_init_69 : decode cX4_init 69 = .ok (.invokespecial 42, 3) := by decide +kernel
theorem dX4_init_72 : decode cX4_init 72 = .ok (.putfield 43, 3) := by decide +kernel
theorem dX4_init_75 : decode cX4_init 75 = .ok (.return_, 1) := by decide +kernel
theorem dX4_add_0 : decode cX4_add 0 = .ok (.aload_n 0, 1) := by decide +kernel
theorem dX4_add_1 : decode cX4_add 1 = .ok (.getfield 16, 3) := by decide +kernel
theorem dX4_add_4 : decode cX4_add 4 = .ok (.aload_n 0, 1) := by decide +kernel
theorem dX4_add_5 : decode cX4_add 5 = .ok (.getfield 10, 3) := by decide +kernel
theorem dX4_add_8 : decode cX4_add 8 = .ok (.invokevirtual 47, 3) := by decide +kernel
theorem dX4_add_11 : decode cX4_add 11 = .ok (.aload_n 0, 1) := by decide +kernel
theorem dX4_add_12 : decode cX4_add 12 = .ok (.aload_n 0, 1) := by decide +kernel
theorem dX4_add_13 : decode cX4_add 13 = .ok (.getfield 16, 3) := by decide +kernel
theorem dX4_add_16 : decode cX4_add 16 = .ok (.iload_n 1, 1) := by decide +kernel
theorem dX4_add_17 : decode cX4_add 17 = .ok (.invokevirtual 51, 3) := by decide +kernel
theorem dX4_add_20 : decode cX4_add 20 = .ok (.invokevirtual 55, 3) := by decide +kernel
theorem dX4_add_23 : decode cX4_add 23 = .ok (.ireturn, 1) := by decide +kernel
theorem dX4_remove_0 : decode cX4_remove 0 = .ok (.aload_n 0, 1) := by decide +kernel
theorem dX4_remove_1 : decode cX4_remove 1 = .ok (.getfield 16, 3) := by decide +kernel
theorem dX4_remove_4 : decode cX4_remove 4 = .ok (.aload_n 0, 1) := by decide +kernel
theorem dX4_remove_5 : decode cX4_remove 5 = .ok (.getfield 10, 3) := by decide +kernel
theorem dX4_remove_8 : decode cX4_remove 8 = .ok (.invokevirtual 47, 3) := by decide +kernel
theorem dX4_remove_11 : decode cX4_remove 11 = .ok (.aload_n 0, 1) := by decide +kernel
theorem dX4_remove_12 : decode cX4_remove 12 = .ok (.aload_n 0, 1) := by decide +kernel
theorem dX4_remove_13 : decode cX4_remove 13 = .ok (.getfield 16, 3) := by decide +kernel
theorem dX4_remove_16 : decode cX4_remove 16 = .ok (.iload_n 1, 1) := by decide +kernel
theorem dX4_remove_17 : decode cX4_remove 17 = .ok (.invokevirtual 58, 3) := by decide +kernel
theorem dX4_remove_20 : decode cX4_remove 20 = .ok (.invokevirtual 55, 3) := by decide +kernel
theorem dX4_remove_23 : decode cX4_remove 23 = .ok (.ireturn, 1) := by decide +kernel
theorem dX4_read_0 : decode cX4_read 0 = .ok (.aload_n 0, 1) := by decide +kernel
theorem dX4_read_1 : decode cX4_read 1 = .ok (.getfield 16, 3) := by decide +kernel
theorem dX4_read_4 : decode cX4_read 4 = .ok (.aload_n 0, 1) := by decide +kernel
theorem dX4_read_5 : decode cX4_read 5 = .ok (.getfield 10, 3) := by decide +kernel
theorem dX4_read_8 : decode cX4_read 8 = .ok (.invokevirtual 47, 3) := by decide +kernel
theorem dX4_read_11 : decode cX4_read 11 = .ok (.aload_n 0, 1) := by decide +kernel
theorem dX4_read_12 : decode cX4_read 12 = .ok (.aload_n 0, 1) := by decide +kernel
theorem dX4_read_13 : decode cX4_read 13 = .ok (.getfield 16, 3) := by decide +kernel
theorem dX4_read_16 : decode cX4_read 16 = .ok (.iload_n 1, 1) := by decide +kernel
theorem dX4_read_17 : decode cX4_read 17 = .ok (.iload_n 2, 1) := by decide +kernel
theorem dX4_read_18 : decode cX4_read 18 = .ok (.invokevirtual 61, 3) := by decide +kernel
theorem dX4_read_21 : decode cX4_read 21 = .ok (.invokevirtual 55, 3) := by decide +kernel
theorem dX4_read_24 : decode cX4_read 24 = .ok (.ireturn, 1) := by decide +kernel
theorem dX4_pin_0 : decode cX4_pin 0 = .ok (.aload_n 0, 1) := by decide +kernel
theorem dX4_pin_1 : decode cX4_pin 1 = .ok (.getfield 16, 3) := by decide +kernel
theorem dX4_pin_4 : decode cX4_pin 4 = .ok (.aload_n 0, 1) := by decide +kernel
theorem dX4_pin_5 : decode cX4_pin 5 = .ok (.getfield 10, 3) := by decide +kernel
theorem dX4_pin_8 : decode cX4_pin 8 = .ok (.invokevirtual 47, 3) := by decide +kernel
theorem dX4_pin_11 : decode cX4_pin 11 = .ok (.aload_n 0, 1) := by decide +kernel
theorem dX4_pin_12 : decode cX4_pin 12 = .ok (.aload_n 0, 1) := by decide +kernel
theorem dX4_pin_13 : decode cX4_pin 13 = .ok (.getfield 16, 3) := by decide +kernel
theorem dX4_pin_16 : decode cX4_pin 16 = .ok (.iload_n 1, 1) := by decide +kernel
theorem dX4_pin_17 : decode cX4_pin 17 = .ok (.iload_n 2, 1) := by decide +kernel
theorem dX4_pin_18 : decode cX4_pin 18 = .ok (.invokevirtual 65, 3) := by decide +kernel
theorem dX4_pin_21 : decode cX4_pin 21 = .ok (.invokevirtual 55, 3) := by decide +kernel
theorem dX4_pin_24 : decode cX4_pin 24 = .ok (.ireturn, 1) := by decide +kernel
theorem dX4_pass_0 : decode cX4_pass 0 = .ok (.aload_n 0, 1) := by decide +kernel
theorem dX4_pass_1 : decode cX4_pass 1 = .ok (.getfield 16, 3) := by decide +kernel
theorem dX4_pass_4 : decode cX4_pass 4 = .ok (.aload_n 0, 1) := by decide +kernel
theorem dX4_pass_5 : decode cX4_pass 5 = .ok (.getfield 10, 3) := by decide +kernel
theorem dX4_pass_8 : decode cX4_pass 8 = .ok (.invokevirtual 47, 3) := by decide +kernel
theorem dX4_pass_11 : decode cX4_pass 11 = .ok (.aload_n 0, 1) := by decide +kernel
theorem dX4_pass_12 : decode cX4_pass 12 = .ok (.aload_n 0, 1) := by decide +kernel
theorem dX4_pass_13 : decode cX4_pass 13 = .ok (.iload_n 1, 1) := by decide +kernel
theorem dX4_pass_14 : decode cX4_pass 14 = .ok (.invokevirtual 69, 3) := by decide +kernel
theorem dX4_pass_17 : decode cX4_pass 17 = .ok (.invokevirtual 55, 3) := by decide +kernel
theorem dX4_pass_20 : decode cX4_pass 20 = .ok (.ireturn, 1) := by decide +kernel
theorem dX4_set_0 : decode cX4_set 0 = .ok (.aload_n 0, 1) := by decide +kernel
theorem dX4_set_1 : decode cX4_set 1 = .ok (.getfield 16, 3) := by decide +kernel
theorem dX4_set_4 : decode cX4_set 4 = .ok (.aload_n 0, 1) := by decide +kernel
theorem dX4_set_5 : decode cX4_set 5 = .ok (.getfield 10, 3) := by decide +kernel
theorem dX4_set_8 : decode cX4_set 8 = .ok (.invokevirtual 47, 3) := by decide +kernel
theorem dX4_set_11 : decode cX4_set 11 = .ok (.aload_n 0, 1) := by decide +kernel
theorem dX4_set_12 : decode cX4_set 12 = .ok (.aload_n 0, 1) := by decide +kernel
theorem dX4_set_13 : decode cX4_set 13 = .ok (.getfield 16, 3) := by decide +kernel
theorem dX4_set_16 : decode cX4_set 16 = .ok (.iload_n 1, 1) := by decide +kernel
theorem dX4_set_17 : decode cX4_set 17 = .ok (.iload_n 2, 1) := by decide +kernel
theorem dX4_set_18 : decode cX4_set 18 = .ok (.invokevirtual 72, 3) := by decide +kernel
theorem dX4_set_21 : decode cX4_set 21 = .ok (.invokevirtual 55, 3) := by decide +kernel
theorem dX4_set_24 : decode cX4_set 24 = .ok (.ireturn, 1) := by decide +kernel
theorem dX4_type_0 : decode cX4_type 0 = .ok (.aload_n 0, 1) := by decide +kernel
theorem dX4_type_1 : decode cX4_type 1 = .ok (.getfield 43, 3) := by decide +kernel
theorem dX4_type_4 : decode cX4_type 4 = .ok (.iload_n 1, 1) := by decide +kernel
theorem dX4_type_5 : decode cX4_type 5 = .ok (.invokevirtual 75, 3) := by decide +kernel
theorem dX4_type_8 : decode cX4_type 8 = .ok (.ireturn, 1) := by decide +kernel
theorem dX4_clearText_0 : decode cX4_clearText 0 = .ok (.aload_n 0, 1) := by decide +kernel
theorem dX4_clearText_1 : decode cX4_clearText 1 = .ok (.getfield 43, 3) := by decide +kernel
theorem dX4_clearText_4 : decode cX4_clearText 4 = .ok (.invokevirtual 79, 3) := by decide +kernel
theorem dX4_clearText_7 : decode cX4_clearText 7 = .ok (.ireturn, 1) := by decide +kernel
theorem dX4_perform_0 : decode cX4_perform 0 = .ok (.aload_n 0, 1) := by decide +kernel
theorem dX4_perform_1 : decode cX4_perform 1 = .ok (.getfield 43, 3) := by decide +kernel
theorem dX4_perform_4 : decode cX4_perform 4 = .ok (.invokevirtual 83, 3) := by decide +kernel
theorem dX4_perform_7 : decode cX4_perform 7 = .ok (.istore_n 1, 1) := by decide +kernel
theorem dX4_perform_8 : decode cX4_perform 8 = .ok (.iload_n 1, 1) := by decide +kernel
theorem dX4_perform_9 : decode cX4_perform 9 = .ok (.iconst (-1), 1) := by decide +kernel
theorem dX4_perform_10 : decode cX4_perform 10 = .ok (.if_icmp .eq 8, 3) := by decide +kernel
theorem dX4_perform_13 : decode cX4_perform 13 = .ok (.bipush (-100), 2) := by decide +kernel
theorem dX4_perform_15 : decode cX4_perform 15 = .ok (.iload_n 1, 1) := by decide +kernel
theorem dX4_perform_16 : decode cX4_perform 16 = .ok (.isub, 1) := by decide +kernel
theorem dX4_perform_17 : decode cX4_perform 17 = .ok (.ireturn, 1) := by decide +kernel
theorem dX4_perform_18 : decode cX4_perform 18 = .ok (.aload_n 0, 1) := by decide +kernel
theorem dX4_perform_19 : decode cX4_perform 19 = .ok (.getfield 16, 3) := by decide +kernel
theorem dX4_perform_22 : decode cX4_perform 22 = .ok (.aload_n 0, 1) := by decide +kernel
theorem dX4_perform_23 : decode cX4_perform 23 = .ok (.getfield 10, 3) := by decide +kernel
theorem dX4_perform_26 : decode cX4_perform 26 = .ok (.invokevirtual 47, 3) := by decide +kernel
theorem dX4_perform_29 : decode cX4_perform 29 = .ok (.iconst 0, 1) := by decide +kernel
theorem dX4_perform_30 : decode cX4_perform 30 = .ok (.istore_n 2, 1) := by decide +kernel
theorem dX4_perform_31 : decode cX4_perform 31 = .ok (.iload_n 2, 1) := by decide +kernel
theorem dX4_perform_32 : decode cX4_perform 32 = .ok (.aload_n 0, 1) := by decide +kernel
theorem dX4_perform_33 : decode cX4_perform 33 = .ok (.getfield 43, 3) := by decide +kernel
theorem dX4_perform_36 : decode cX4_perform 36 = .ok (.getfield 86, 3) := by decide +kernel
theorem dX4_perform_39 : decode cX4_perform 39 = .ok (.if_icmp .ge 21, 3) := by decide +kernel
theorem dX4_perform_42 : decode cX4_perform 42 = .ok (.aload_n 0, 1) := by decide +kernel
theorem dX4_perform_43 : decode cX4_perform 43 = .ok (.iload_n 2, 1) := by decide +kernel
theorem dX4_perform_44 : decode cX4_perform 44 = .ok (.invokevirtual 90, 3) := by decide +kernel
theorem dX4_perform_47 : decode cX4_perform 47 = .ok (.istore_n 3, 1) := by decide +kernel
theorem dX4_perform_48 : decode cX4_perform 48 = .ok (.iload_n 3, 1) := by decide +kernel
theorem dX4_perform_49 : decode cX4_perform 49 = .ok (.ifCond .ge 5, 3) := by decide +kernel
theorem dX4_perform_52 : decode cX4_perform 52 = .ok (.iload_n 3, 1) := by decide +kernel
theorem dX4_perform_53 : decode cX4_perform 53 = .ok (.ireturn, 1) := by decide +kernel
theorem dX4_perform_54 : decode cX4_perform 54 = .ok (.iinc 2 1, 3) := by decide +kernel
theorem dX4_perform_57 : decode cX4_perform 57 = .ok (.goto (-26), 3) := by decide +kernel
theorem dX4_perform_60 : decode cX4_perform 60 = .ok (.aload_n 0, 1) := by decide +kernel
theorem dX4_perform_61 : decode cX4_perform 61 = .ok (.aload_n 0, 1) := by decide +kernel
theorem dX4_perform_62 : decode cX4_perform 62 = .ok (.getfield 43, 3) := by decide +kernel
theorem dX4_perform_65 : decode cX4_perform 65 = .ok (.getfield 86, 3) := by decide +kernel
theorem dX4_perform_68 : decode cX4_perform 68 = .ok (.invokevirtual 55, 3) := by decide +kernel
theorem dX4_perform_71 : decode cX4_perform 71 = .ok (.ireturn, 1) := by decide +kernel
theorem dX4_undo_0 : decode cX4_undo 0 = .ok (.aload_n 0, 1) := by decide +kernel
theorem dX4_undo_1 : decode cX4_undo 1 = .ok (.getfield 29, 3) := by decide +kernel
theorem dX4_undo_4 : decode cX4_undo 4 = .ok (.aload_n 0, 1) := by decide +kernel
theorem dX4_undo_5 : decode cX4_undo 5 = .ok (.getfield 10, 3) := by decide +kernel
theorem dX4_undo_8 : decode cX4_undo 8 = .ok (.invokevirtual 93, 3) := by decide +kernel
theorem dX4_undo_11 : decode cX4_undo 11 = .ok (.ifCond .ne 6, 3) := by decide +kernel
theorem dX4_undo_14 : decode cX4_undo 14 = .ok (.bipush (-5), 2) := by decide +kernel
theorem dX4_undo_16 : decode cX4_undo 16 = .ok (.ireturn, 1) := by decide +kernel
theorem dX4_undo_17 : decode cX4_undo 17 = .ok (.aload_n 0, 1) := by decide +kernel
theorem dX4_undo_18 : decode cX4_undo 18 = .ok (.getfield 29, 3) := by decide +kernel
theorem dX4_undo_21 : decode cX4_undo 21 = .ok (.getfield 97, 3) := by decide +kernel
theorem dX4_undo_24 : decode cX4_undo 24 = .ok (.ireturn, 1) := by decide +kernel
theorem dX4_keep_0 : decode cX4_keep 0 = .ok (.aload_n 0, 1) := by decide +kernel
theorem dX4_keep_1 : decode cX4_keep 1 = .ok (.getfield 19, 3) := by decide +kernel
theorem dX4_keep_4 : decode cX4_keep 4 = .ok (.aload_n 0, 1) := by decide +kernel
theorem dX4_keep_5 : decode cX4_keep 5 = .ok (.getfield 10, 3) := by decide +kernel
theorem dX4_keep_8 : decode cX4_keep 8 = .ok (.invokevirtual 47, 3) := by decide +kernel
theorem dX4_keep_11 : decode cX4_keep 11 = .ok (.aload_n 0, 1) := by decide +kernel
theorem dX4_keep_12 : decode cX4_keep 12 = .ok (.iconst 1, 1) := by decide +kernel
theorem dX4_keep_13 : decode cX4_keep 13 = .ok (.putfield 22, 3) := by decide +kernel
theorem dX4_keep_16 : decode cX4_keep 16 = .ok (.aload_n 0, 1) := by decide +kernel
theorem dX4_keep_17 : decode cX4_keep 17 = .ok (.getfield 10, 3) := by decide +kernel
theorem dX4_keep_20 : decode cX4_keep 20 = .ok (.invokevirtual 98, 3) := by decide +kernel
theorem dX4_keep_23 : decode cX4_keep 23 = .ok (.ireturn, 1) := by decide +kernel
theorem dX4_restore_0 : decode cX4_restore 0 = .ok (.aload_n 0, 1) := by decide +kernel
theorem dX4_restore_1 : decode cX4_restore 1 = .ok (.getfield 22, 3) := by decide +kernel
theorem dX4_restore_4 : decode cX4_restore 4 = .ok (.ifCond .ne 6, 3) := by decide +kernel
theorem dX4_restore_7 : decode cX4_restore 7 = .ok (.bipush (-5), 2) := by decide +kernel
theorem dX4_restore_9 : decode cX4_restore 9 = .ok (.ireturn, 1) := by decide +kernel
theorem dX4_restore_10 : decode cX4_restore 10 = .ok (.aload_n 0, 1) := by decide +kernel
theorem dX4_restore_11 : decode cX4_restore 11 = .ok (.getfield 16, 3) := by decide +kernel
theorem dX4_restore_14 : decode cX4_restore 14 = .ok (.aload_n 0, 1) := by decide +kernel
theorem dX4_restore_15 : decode cX4_restore 15 = .ok (.getfield 19, 3) := by decide +kernel
theorem dX4_restore_18 : decode cX4_restore 18 = .ok (.invokevirtual 47, 3) := by decide +kernel
theorem dX4_restore_21 : decode cX4_restore 21 = .ok (.aload_n 0, 1) := by decide +kernel
theorem dX4_restore_22 : decode cX4_restore 22 = .ok (.aload_n 0, 1) := by decide +kernel
theorem dX4_restore_23 : decode cX4_restore 23 = .ok (.getfield 19, 3) := by decide +kernel
theorem dX4_restore_26 : decode cX4_restore 26 = .ok (.invokevirtual 98, 3) := by decide +kernel
theorem dX4_restore_29 : decode cX4_restore 29 = .ok (.invokevirtual 55, 3) := by decide +kernel
theorem dX4_restore_32 : decode cX4_restore 32 = .ok (.ireturn, 1) := by decide +kernel
theorem dX4_block_0 : decode cX4_block 0 = .ok (.iload_n 1, 1) := by decide +kernel
theorem dX4_block_1 : decode cX4_block 1 = .ok (.ifCond .ge 6, 3) := by decide +kernel
theorem dX4_block_4 : decode cX4_block 4 = .ok (.bipush (-2), 2) := by decide +kernel
theorem dX4_block_6 : decode cX4_block 6 = .ok (.ireturn, 1) := by decide +kernel
theorem dX4_block_7 : decode cX4_block 7 = .ok (.aload_n 0, 1) := by decide +kernel
theorem dX4_block_8 : decode cX4_block 8 = .ok (.getfield 10, 3) := by decide +kernel
theorem dX4_block_11 : decode cX4_block 11 = .ok (.iload_n 1, 1) := by decide +kernel
theorem dX4_block_12 : decode cX4_block 12 = .ok (.invokevirtual 101, 3) := by decide +kernel
theorem dX4_block_15 : decode cX4_block 15 = .ok (.istore_n 2, 1) := by decide +kernel
theorem dX4_block_16 : decode cX4_block 16 = .ok (.iload_n 2, 1) := by decide +kernel
theorem dX4_block_17 : decode cX4_block 17 = .ok (.iconst (-1), 1) := by decide +kernel
theorem dX4_block_18 : decode cX4_block 18 = .ok (.if_icmp .ne 8, 3) := by decide +kernel
theorem dX4_block_21 : decode cX4_block 21 = .ok (.bipush (-5), 2) := by decide +kernel
theorem dX4_block_23 : decode cX4_block 23 = .ok (.goto 14, 3) := by decide +kernel
theorem dX4_block_26 : decode cX4_block 26 = .ok (.aload_n 0, 1) := by decide +kernel
theorem dX4_block_27 : decode cX4_block 27 = .ok (.getfield 10, 3) := by decide +kernel
theorem dX4_block_30 : decode cX4_block 30 = .ok (.getfield 104, 3) := by decide +kernel
theorem dX4_block_33 : decode cX4_block 33 = .ok (.iload_n 2, 1) := by decide +kernel
theorem dX4_block_34 : decode cX4_block 34 = .ok (.invokestatic 108, 3) := by decide +kernel
theorem dX4_block_37 : decode cX4_block 37 = .ok (.ireturn, 1) := by decide +kernel
theorem dX4_ofBlock_0 : decode cX4_ofBlock 0 = .ok (.aload_n 0, 1) := by decide +kernel
theorem dX4_ofBlock_1 : decode cX4_ofBlock 1 = .ok (.getfield 10, 3) := by decide +kernel
theorem dX4_ofBlock_4 : decode cX4_ofBlock 4 = .ok (.iload_n 1, 1) := by decide +kernel
theorem dX4_ofBlock_5 : decode cX4_ofBlock 5 = .ok (.invokevirtual 112, 3) := by decide +kernel
theorem dX4_ofBlock_8 : decode cX4_ofBlock 8 = .ok (.istore_n 3, 1) := by decide +kernel
theorem dX4_ofBlock_9 : decode cX4_ofBlock 9 = .ok (.iload_n 3, 1) := by decide +kernel
theorem dX4_ofBlock_10 : decode cX4_ofBlock 10 = .ok (.iconst (-1), 1) := by decide +kernel
theorem dX4_ofBlock_11 : decode cX4_ofBlock 11 = .ok (.if_icmp .ne 5, 3) := by decide +kernel
theorem dX4_ofBlock_14 : decode cX4_ofBlock 14 = .ok (.iconst (-1), 1) := by decide +kernel
theorem dX4_ofBlock_15 : decode cX4_ofBlock 15 = .ok (.ireturn, 1) := by decide +kernel
theorem dX4_ofBlock_16 : decode cX4_ofBlock 16 = .ok (.iload_n 2, 1) := by decide +kernel
theorem dX4_ofBlock_17 : decode cX4_ofBlock 17 = .ok (.tableswitch 150 0 8 #[51, 63, 75, 87, 96, 108, 120, 132, 144], 51) := by decide +kernel
theorem dX4_ofBlock_68 : decode cX4_ofBlock 68 = .ok (.aload_n 0, 1) := by decide +kernel
theorem dX4_ofBlock_69 : decode cX4_ofBlock 69 = .ok (.getfield 10, 3) := by decide +kernel
theorem dX4_ofBlock_72 : decode cX4_ofBlock 72 = .ok (.getfield 115, 3) := by decide +kernel
theorem dX4_ofBlock_75 : decode cX4_ofBlock 75 = .ok (.iload_n 3, 1) := by decide +kernel
theorem dX4_ofBlock_76 : decode cX4_ofBlock 76 = .ok (.invokestatic 108, 3) := by decide +kernel
theorem dX4_ofBlock_79 : decode cX4_ofBlock 79 = .ok (.ireturn, 1) := by decide +kernel
theorem dX4_ofBlock_80 : decode cX4_ofBlock 80 = .ok (.aload_n 0, 1) := by decide +kernel
theorem dX4_ofBlock_81 : decode cX4_ofBlock 81 = .ok (.getfield 10, 3) := by decide +kernel
theorem dX4_ofBlock_84 : decode cX4_ofBlock 84 = .ok (.getfield 118, 3) := by decide +kernel
theorem dX4_ofBlock_87 : decode cX4_ofBlock 87 = .ok (.iload_n 3, 1) := by decide +kernel
theorem dX4_ofBlock_88 : decode cX4_ofBlock 88 = .ok (.invokestatic 108, 3) := by decide +kernel
theorem dX4_ofBlock_91 : decode cX4_ofBlock 91 = .ok (.ireturn, 1) := by decide +kernel
theorem dX4_ofBlock_92 : decode cX4_ofBlock 92 = .ok (.aload_n 0, 1) := by decide +kernel
theorem dX4_ofBlock_93 : decode cX4_ofBlock 93 = .ok (.getfield 10, 3) := by decide +kernel
theorem dX4_ofBlock_96 : decode cX4_ofBlock 96 = .ok (.getfield 121, 3) := by decide +kernel
theorem dX4_ofBlock_99 : decode cX4_ofBlock 99 = .ok (.iload_n 3, 1) := by decide +kernel
theorem dX4_ofBlock_100 : decode cX4_ofBlock 100 = .ok (.invokestatic 108, 3) := by decide +kernel
theorem dX4_ofBlock_103 : decode cX4_ofBlock 103 = .ok (.ireturn, 1) := by decide +kernel
theorem dX4_ofBlock_104 : decode cX4_ofBlock 104 = .ok (.aload_n 0, 1) := by decide +kernel
theorem dX4_ofBlock_105 : decode cX4_ofBlock 105 = .ok (.getfield 10, 3) := by decide +kernel
theorem dX4_ofBlock_108 : decode cX4_ofBlock 108 = .ok (.iload_n 3, 1) := by decide +kernel
theorem dX4_ofBlock_109 : decode cX4_ofBlock 109 = .ok (.invokevirtual 124, 3) := by decide +kernel
theorem dX4_ofBlock_112 : decode cX4_ofBlock 112 = .ok (.ireturn, 1) := by decide +kernel
theorem dX4_ofBlock_113 : decode cX4_ofBlock 113 = .ok (.aload_n 0, 1) := by decide +kernel
theorem dX4_ofBlock_114 : decode cX4_ofBlock 114 = .ok (.getfield 10, 3) := by decide +kernel
theorem dX4_ofBlock_117 : decode cX4_ofBlock 117 = .ok (.getfield 127, 3) := by decide +kernel
theorem dX4_ofBlock_120 : decode cX4_ofBlock 120 = .ok (.iload_n 3, 1) := by decide +kernel
theorem dX4_ofBlock_121 : decode cX4_ofBlock 121 = .ok (.invokestatic 108, 3) := by decide +kernel
theorem dX4_ofBlock_124 : decode cX4_ofBlock 124 = .ok (.ireturn, 1) := by decide +kernel
theorem dX4_ofBlock_125 : decode cX4_ofBlock 125 = .ok (.aload_n 0, 1) := by decide +kernel
theorem dX4_ofBlock_126 : decode cX4_ofBlock 126 = .ok (.getfield 10, 3) := by decide +kernel
theorem dX4_ofBlock_129 : decode cX4_ofBlock 129 = .ok (.getfield 130, 3) := by decide +kernel
theorem dX4_ofBlock_132 : decode cX4_ofBlock 132 = .ok (.iload_n 3, 1) := by decide +kernel
theorem dX4_ofBlock_133 : decode cX4_ofBlock 133 = .ok (.invokestatic 108, 3) := by decide +kernel
theorem dX4_ofBlock_136 : decode cX4_ofBlock 136 = .ok (.ireturn, 1) := by decide +kernel
theorem dX4_ofBlock_137 : decode cX4_ofBlock 137 = .ok (.aload_n 0, 1) := by decide +kernel
theorem dX4_ofBlock_138 : decode cX4_ofBlock 138 = .ok (.getfield 10, 3) := by decide +kernel
theorem dX4_ofBlock_141 : decode cX4_ofBlock 141 = .ok (.getfield 133, 3) := by decide +kernel
theorem dX4_ofBlock_144 : decode cX4_ofBlock 144 = .ok (.iload_n 3, 1) := by decide +kernel
theorem dX4_ofBlock_145 : decode cX4_ofBlock 145 = .ok (.invokestatic 108, 3) := by decide +kernel
theorem dX4_ofBlock_148 : decode cX4_ofBlock 148 = .ok (.ireturn, 1) := by decide +kernel
theorem dX4_ofBlock_149 : decode cX4_ofBlock 149 = .ok (.aload_n 0, 1) := by decide +kernel
theorem dX4_ofBlock_150 : decode cX4_ofBlock 150 = .ok (.getfield 10, 3) := by decide +kernel
theorem dX4_ofBlock_153 : decode cX4_ofBlock 153 = .ok (.getfield 136, 3) := by decide +kernel
theorem dX4_ofBlock_156 : decode cX4_ofBlock 156 = .ok (.iload_n 3, 1) := by decide +kernel
theorem dX4_ofBlock_157 : decode cX4_ofBlock 157 = .ok (.invokestatic 108, 3) := by decide +kernel
theorem dX4_ofBlock_160 : decode cX4_ofBlock 160 = .ok (.ireturn, 1) := by decide +kernel
theorem dX4_ofBlock_161 : decode cX4_ofBlock 161 = .ok (.aload_n 0, 1) := by decide +kernel
theorem dX4_ofBlock_162 : decode cX4_ofBlock 162 = .ok (.iload_n 3, 1) := by decide +kernel
theorem dX4_ofBlock_163 : decode cX4_ofBlock 163 = .ok (.invokevirtual 139, 3) := by decide +kernel
theorem dX4_ofBlock_166 : decode cX4_ofBlock 166 = .ok (.ireturn, 1) := by decide +kernel
theorem dX4_ofBlock_167 : decode cX4_ofBlock 167 = .ok (.bipush (-2), 2) := by decide +kernel
theorem dX4_ofBlock_169 : decode cX4_ofBlock 169 = .ok (.ireturn, 1) := by decide +kernel
theorem dX4_shelf_0 : decode cX4_shelf 0 = .ok (.iload_n 1, 1) := by decide +kernel
theorem dX4_shelf_1 : decode cX4_shelf 1 = .ok (.ifCond .lt 8, 3) := by decide +kernel
theorem dX4_shelf_4 : decode cX4_shelf 4 = .ok (.iload_n 1, 1) := by decide +kernel
theorem dX4_shelf_5 : decode cX4_shelf 5 = .ok (.iconst 3, 1) := by decide +kernel
theorem dX4_shelf_6 : decode cX4_shelf 6 = .ok (.if_icmp .lt 5, 3) := by decide +kernel
theorem dX4_shelf_9 : decode cX4_shelf 9 = .ok (.iconst (-1), 1) := by decide +kernel
theorem dX4_shelf_10 : decode cX4_shelf 10 = .ok (.ireturn, 1) := by decide +kernel
theorem dX4_shelf_11 : decode cX4_shelf 11 = .ok (.iload_n 2, 1) := by decide +kernel
theorem dX4_shelf_12 : decode cX4_shelf 12 = .ok (.tableswitch 90 0 4 #[36, 51, 63, 72, 81], 36) := by decide +kernel
theorem dX4_shelf_48 : decode cX4_shelf 48 = .ok (.aload_n 0, 1) := by decide +kernel
theorem dX4_shelf_49 : decode cX4_shelf 49 = .ok (.getfield 10, 3) := by decide +kernel
theorem dX4_shelf_52 : decode cX4_shelf 52 = .ok (.getfield 142, 3) := by decide +kernel
theorem dX4_shelf_55 : decode cX4_shelf 55 = .ok (.bipush 6, 2) := by decide +kernel
theorem dX4_shelf_57 : decode cX4_shelf 57 = .ok (.iload_n 1, 1) := by decide +kernel
theorem dX4_shelf_58 : decode cX4_shelf 58 = .ok (.iadd, 1) := by decide +kernel
theorem dX4_shelf_59 : decode cX4_shelf 59 = .ok (.invokestatic 108, 3) := by decide +kernel
theorem dX4_shelf_62 : decode cX4_shelf 62 = .ok (.ireturn, 1) := by decide +kernel
theorem dX4_shelf_63 : decode cX4_shelf 63 = .ok (.aload_n 0, 1) := by decide +kernel
theorem dX4_shelf_64 : decode cX4_shelf 64 = .ok (.getfield 10, 3) := by decide +kernel
theorem dX4_shelf_67 : decode cX4_shelf 67 = .ok (.getfield 145, 3) := by decide +kernel
theorem dX4_shelf_70 : decode cX4_shelf 70 = .ok (.iload_n 1, 1) := by decide +kernel
theorem dX4_shelf_71 : decode cX4_shelf 71 = .ok (.invokestatic 108, 3) := by decide +kernel
theorem dX4_shelf_74 : decode cX4_shelf 74 = .ok (.ireturn, 1) := by decide +kernel
theorem dX4_shelf_75 : decode cX4_shelf 75 = .ok (.aload_n 0, 1) := by decide +kernel
theorem dX4_shelf_76 : decode cX4_shelf 76 = .ok (.getfield 10, 3) := by decide +kernel
theorem dX4_shelf_79 : decode cX4_shelf 79 = .ok (.iload_n 1, 1) := by decide +kernel
theorem dX4_shelf_80 : decode cX4_shelf 80 = .ok (.invokevirtual 148, 3) := by decide +kernel
theorem dX4_shelf_83 : decode cX4_shelf 83 = .ok (.ireturn, 1) := by decide +kernel
theorem dX4_shelf_84 : decode cX4_shelf 84 = .ok (.aload_n 0, 1) := by decide +kernel
theorem dX4_shelf_85 : decode cX4_shelf 85 = .ok (.getfield 10, 3) := by decide +kernel
theorem dX4_shelf_88 : decode cX4_shelf 88 = .ok (.iload_n 1, 1) := by decide +kernel
theorem dX4_shelf_89 : decode cX4_shelf 89 = .ok (.invokevirtual 151, 3) := by decide +kernel
theorem dX4_shelf_92 : decode cX4_shelf 92 = .ok (.ireturn, 1) := by decide +kernel
theorem dX4_shelf_93 : decode cX4_shelf 93 = .ok (.aload_n 0, 1) := by decide +kernel
theorem dX4_shelf_94 : decode cX4_shelf 94 = .ok (.getfield 10, 3) := by decide +kernel
theorem dX4_shelf_97 : decode cX4_shelf 97 = .ok (.iload_n 1, 1) := by decide +kernel
theorem dX4_shelf_98 : decode cX4_shelf 98 = .ok (.invokevirtual 154, 3) := by decide +kernel
theorem dX4_shelf_101 : decode cX4_shelf 101 = .ok (.ireturn, 1) := by decide +kernel
theorem dX4_shelf_102 : decode cX4_shelf 102 = .ok (.bipush (-2), 2) := by decide +kernel
theorem dX4_shelf_104 : decode cX4_shelf 104 = .ok (.ireturn, 1) := by decide +kernel
theorem dX4_total_0 : decode cX4_total 0 = .ok (.iload_n 1, 1) := by decide +kernel
theorem dX4_total_1 : decode cX4_total 1 = .ok (.ifCond .lt 21, 3) := by decide +kernel
theorem dX4_total_4 : decode cX4_total 4 = .ok (.iload_n 1, 1) := by decide +kernel
theorem dX4_total_5 : decode cX4_total 5 = .ok (.bipush 23, 2) := by decide +kernel
theorem dX4_total_7 : decode cX4_total 7 = .ok (.if_icmp .ge 15, 3) := by decide +kernel
theorem dX4_total_10 : decode cX4_total 10 = .ok (.aload_n 0, 1) := by decide +kernel
theorem dX4_total_11 : decode cX4_total 11 = .ok (.getfield 10, 3) := by decide +kernel
theorem dX4_total_14 : decode cX4_total 14 = .ok (.getfield 142, 3) := by decide +kernel
theorem dX4_total_17 : decode cX4_total 17 = .ok (.iload_n 1, 1) := by decide +kernel
theorem dX4_total_18 : decode cX4_total 18 = .ok (.invokestatic 108, 3) := by decide +kernel
theorem dX4_total_21 : decode cX4_total 21 = .ok (.ireturn, 1) := by decide +kernel
theorem dX4_total_22 : decode cX4_total 22 = .ok (.iload_n 1, 1) := by decide +kernel
theorem dX4_total_23 : decode cX4_total 23 = .ok (.tableswitch 61 23 26 #[29, 37, 45, 53], 29) := by decide +kernel
theorem dX4_total_52 : decode cX4_total 52 = .ok (.aload_n 0, 1) := by decide +kernel
theorem dX4_total_53 : decode cX4_total 53 = .ok (.getfield 10, 3) := by decide +kernel
theorem dX4_total_56 : decode cX4_total 56 = .ok (.invokevirtual 157, 3) := by decide +kernel
theorem dX4_total_59 : decode cX4_total 59 = .ok (.ireturn, 1) := by decide +kernel
theorem dX4_total_60 : decode cX4_total 60 = .ok (.aload_n 0, 1) := by decide +kernel
theorem dX4_total_61 : decode cX4_total 61 = .ok (.getfield 10, 3) := by decide +kernel
theorem dX4_total_64 : decode cX4_total 64 = .ok (.invokevirtual 160, 3) := by decide +kernel
theorem dX4_total_67 : decode cX4_total 67 = .ok (.ireturn, 1) := by decide +kernel
theorem dX4_total_68 : decode cX4_total 68 = .ok (.aload_n 0, 1) := by decide +kernel
theorem dX4_total_69 : decode cX4_total 69 = .ok (.getfield 29, 3) := by decide +kernel
theorem dX4_total_72 : decode cX4_total 72 = .ok (.getfield 97, 3) := by decide +kernel
theorem dX4_total_75 : decode cX4_total 75 = .ok (.ireturn, 1) := by decide +kernel
theorem dX4_total_76 : decode cX4_total 76 = .ok (.aload_n 0, 1) := by decide +kernel
theorem dX4_total_77 : decode cX4_total 77 = .ok (.getfield 43, 3) := by decide +kernel
theorem dX4_total_80 : decode cX4_total 80 = .ok (.getfield 163, 3) := by decide +kernel
theorem dX4_total_83 : decode cX4_total 83 = .ok (.ireturn, 1) := by decide +kernel
theorem dX4_total_84 : decode cX4_total 84 = .ok (.bipush (-2), 2) := by decide +kernel
theorem dX4_total_86 : decode cX4_total 86 = .ok (.ireturn, 1) := by decide +kernel
theorem dX4_ifPassed_0 : decode cX4_ifPassed 0 = .ok (.iload_n 1, 1) := by decide +kernel
theorem dX4_ifPassed_1 : decode cX4_ifPassed 1 = .ok (.iconst 1, 1) := by decide +kernel
theorem dX4_ifPassed_2 : decode cX4_ifPassed 2 = .ok (.if_icmp .lt 18, 3) := by decide +kernel
theorem dX4_ifPassed_5 : decode cX4_ifPassed 5 = .ok (.iload_n 1, 1) := by decide +kernel
theorem dX4_ifPassed_6 : decode cX4_ifPassed 6 = .ok (.bipush 99, 2) := by decide +kernel
theorem dX4_ifPassed_8 : decode cX4_ifPassed 8 = .ok (.if_icmp .gt 12, 3) := by decide +kernel
theorem dX4_ifPassed_11 : decode cX4_ifPassed 11 = .ok (.iload_n 2, 1) := by decide +kernel
theorem dX4_ifPassed_12 : decode cX4_ifPassed 12 = .ok (.ifCond .lt 8, 3) := by decide +kernel
theorem dX4_ifPassed_15 : decode cX4_ifPassed 15 = .ok (.iload_n 2, 1) := by decide +kernel
theorem dX4_ifPassed_16 : decode cX4_ifPassed 16 = .ok (.iconst 5, 1) := by decide +kernel
theorem dX4_ifPassed_17 : decode cX4_ifPassed 17 = .ok (.if_icmp .le 6, 3) := by decide +kernel
theorem dX4_ifPassed_20 : decode cX4_ifPassed 20 = .ok (.bipush (-2), 2) := by decide +kernel
theorem dX4_ifPassed_22 : decode cX4_ifPassed 22 = .ok (.ireturn, 1) := by decide +kernel
theorem dX4_ifPassed_23 : decode cX4_ifPassed 23 = .ok (.aload_n 0, 1) := by decide +kernel
theorem dX4_ifPassed_24 : decode cX4_ifPassed 24 = .ok (.getfield 16, 3) := by decide +kernel
theorem dX4_ifPassed_27 : decode cX4_ifPassed 27 = .ok (.aload_n 0, 1) := by decide +kernel
theorem dX4_ifPassed_28 : decode cX4_ifPassed 28 = .ok (.getfield 10, 3) := by decide +kernel
theorem dX4_ifPassed_31 : decode cX4_ifPassed 31 = .ok (.invokevirtual 47, 3) := by decide +kernel
theorem dX4_ifPassed_34 : decode cX4_ifPassed 34 = .ok (.aload_n 0, 1) := by decide +kernel
theorem dX4_ifPassed_35 : decode cX4_ifPassed 35 = .ok (.getfield 36, 3) := by decide +kernel
theorem dX4_ifPassed_38 : decode cX4_ifPassed 38 = .ok (.aload_n 0, 1) := by decide +kernel
theorem dX4_ifPassed_39 : decode cX4_ifPassed 39 = .ok (.getfield 16, 3) := by decide +kernel
theorem dX4_ifPassed_42 : decode cX4_ifPassed 42 = .ok (.iload_n 1, 1) := by decide +kernel
theorem dX4_ifPassed_43 : decode cX4_ifPassed 43 = .ok (.invokevirtual 166, 3) := by decide +kernel
theorem dX4_ifPassed_46 : decode cX4_ifPassed 46 = .ok (.istore_n 3, 1) := by decide +kernel
theorem dX4_ifPassed_47 : decode cX4_ifPassed 47 = .ok (.iload_n 2, 1) := by decide +kernel
theorem dX4_ifPassed_48 : decode cX4_ifPassed 48 = .ok (.tableswitch 43 0 2 #[28, 33, 35], 28) := by decide +kernel
theorem dX4_ifPassed_76 : decode cX4_ifPassed 76 = .ok (.aload_n 0, 1) := by decide +kernel
theorem dX4_ifPassed_77 : decode cX4_ifPassed 77 = .ok (.invokevirtual 170, 3) := by decide +kernel
theorem dX4_ifPassed_80 : decode cX4_ifPassed 80 = .ok (.ireturn, 1) := by decide +kernel
theorem dX4_ifPassed_81 : decode cX4_ifPassed 81 = .ok (.iload_n 3, 1) := by decide +kernel
theorem dX4_ifPassed_82 : decode cX4_ifPassed 82 = .ok (.ireturn, 1) := by decide +kernel
theorem dX4_ifPassed_83 : decode cX4_ifPassed 83 = .ok (.aload_n 0, 1) := by decide +kernel
theorem dX4_ifPassed_84 : decode cX4_ifPassed 84 = .ok (.getfield 16, 3) := by decide +kernel
theorem dX4_ifPassed_87 : decode cX4_ifPassed 87 = .ok (.invokevirtual 160, 3) := by decide +kernel
theorem dX4_ifPassed_90 : decode cX4_ifPassed 90 = .ok (.ireturn, 1) := by decide +kernel
theorem dX4_ifPassed_91 : decode cX4_ifPassed 91 = .ok (.aload_n 0, 1) := by decide +kernel
theorem dX4_ifPassed_92 : decode cX4_ifPassed 92 = .ok (.getfield 16, 3) := by decide +kernel
theorem dX4_ifPassed_95 : decode cX4_ifPassed 95 = .ok (.getfield 145, 3) := by decide +kernel
theorem dX4_ifPassed_98 : decode cX4_ifPassed 98 = .ok (.iload_n 2, 1) := by decide +kernel
theorem dX4_ifPassed_99 : decode cX4_ifPassed 99 = .ok (.iconst 3, 1) := by decide +kernel
theorem dX4_ifPassed_100 : decode cX4_ifPassed 100 = .ok (.isub, 1) := by decide +kernel
theorem dX4_ifPassed_101 : decode cX4_ifPassed 101 = .ok (.invokestatic 108, 3) := by decide +kernel
theorem dX4_ifPassed_104 : decode cX4_ifPassed 104 = .ok (.ireturn, 1) := by decide +kernel
theorem dX4_nextMove_0 : decode cX4_nextMove 0 = .ok (.aload_n 0, 1) := by decide +kernel
theorem dX4_nextMove_1 : decode cX4_nextMove 1 = .ok (.getfield 16, 3) := by decide +kernel
theorem dX4_nextMove_4 : decode cX4_nextMove 4 = .ok (.aload_n 0, 1) := by decide +kernel
theorem dX4_nextMove_5 : decode cX4_nextMove 5 = .ok (.getfield 10, 3) := by decide +kernel
theorem dX4_nextMove_8 : decode cX4_nextMove 8 = .ok (.invokevirtual 47, 3) := by decide +kernel
theorem dX4_nextMove_11 : decode cX4_nextMove 11 = .ok (.iconst 1, 1) := by decide +kernel
theorem dX4_nextMove_12 : decode cX4_nextMove 12 = .ok (.istore_n 1, 1) := by decide +kernel
theorem dX4_nextMove_13 : decode cX4_nextMove 13 = .ok (.iload_n 1, 1) := by decide +kernel
theorem dX4_nextMove_14 : decode cX4_nextMove 14 = .ok (.bipush 99, 2) := by decide +kernel
theorem dX4_nextMove_16 : decode cX4_nextMove 16 = .ok (.if_icmp .gt 26, 3) := by decide +kernel
theorem dX4_nextMove_19 : decode cX4_nextMove 19 = .ok (.aload_n 0, 1) := by decide +kernel
theorem dX4_nextMove_20 : decode cX4_nextMove 20 = .ok (.getfield 36, 3) := by decide +kernel
theorem dX4_nextMove_23 : decode cX4_nextMove 23 = .ok (.aload_n 0, 1) := by decide +kernel
theorem dX4_nextMove_24 : decode cX4_nextMove 24 = .ok (.getfield 16, 3) := by decide +kernel
theorem dX4_nextMove_27 : decode cX4_nextMove 27 = .ok (.iconst 1, 1) := by decide +kernel
theorem dX4_nextMove_28 : decode cX4_nextMove 28 = .ok (.invokevirtual 166, 3) := by decide +kernel
theorem dX4_nextMove_31 : decode cX4_nextMove 31 = .ok (.ifCond .le 5, 3) := by decide +kernel
theorem dX4_nextMove_34 : decode cX4_nextMove 34 = .ok (.iload_n 1, 1) := by decide +kernel
theorem dX4_nextMove_35 : decode cX4_nextMove 35 = .ok (.ireturn, 1) := by decide +kernel
theorem dX4_nextMove_36 : decode cX4_nextMove 36 = .ok (.iinc 1 1, 3) := by decide +kernel
theorem dX4_nextMove_39 : decode cX4_nextMove 39 = .ok (.goto (-26), 3) := by decide +kernel
theorem dX4_nextMove_42 : decode cX4_nextMove 42 = .ok (.bipush (-5), 2) := by decide +kernel
theorem dX4_nextMove_44 : decode cX4_nextMove 44 = .ok (.ireturn, 1) := by decide +kernel
theorem dX4_bestHot_0 : decode cX4_bestHot 0 = .ok (.iload_n 1, 1) := by decide +kernel
theorem dX4_bestHot_1 : decode cX4_bestHot 1 = .ok (.iconst 1, 1) := by decide +kernel
theorem dX4_bestHot_2 : decode cX4_bestHot 2 = .ok (.if_icmp .lt 18, 3) := by decide +kernel
theorem dX4_bestHot_5 : decode cX4_bestHot 5 = .ok (.iload_n 1, 1) := by decide +kernel
theorem dX4_bestHot_6 : decode cX4_bestHot 6 = .ok (.bipush 20, 2) := by decide +kernel
theorem dX4_bestHot_8 : decode cX4_bestHot 8 = .ok (.if_icmp .gt 12, 3) := by decide +kernel
theorem dX4_bestHot_11 : decode cX4_bestHot 11 = .ok (.iload_n 2, 1) := by decide +kernel
theorem dX4_bestHot_12 : decode cX4_bestHot 12 = .ok (.ifCond .lt 8, 3) := by decide +kernel
theorem dX4_bestHot_15 : decode cX4_bestHot 15 = .ok (.iload_n 2, 1) := by decide +kernel
theorem dX4_bestHot_16 : decode cX4_bestHot 16 = .ok (.iconst 1, 1) := by decide +kernel
theorem dX4_bestHot_17 : decode cX4_bestHot 17 = .ok (.if_icmp .le 6, 3) := by decide +kernel
theorem dX4_bestHot_20 : decode cX4_bestHot 20 = .ok (.bipush (-2), 2) := by decide +kernel
theorem dX4_bestHot_22 : decode cX4_bestHot 22 = .ok (.ireturn, 1) := by decide +kernel
theorem dX4_bestHot_23 : decode cX4_bestHot 23 = .ok (.aload_n 0, 1) := by decide +kernel
theorem dX4_bestHot_24 : decode cX4_bestHot 24 = .ok (.getfield 10, 3) := by decide +kernel
theorem dX4_bestHot_27 : decode cX4_bestHot 27 = .ok (.getfield 142, 3) := by decide +kernel
theorem dX4_bestHot_30 : decode cX4_bestHot 30 = .ok (.iconst 2, 1) := by decide +kernel
theorem dX4_bestHot_31 : decode cX4_bestHot 31 = .ok (.invokestatic 108, 3) := by decide +kernel
theorem dX4_bestHot_34 : decode cX4_bestHot 34 = .ok (.istore_n 3, 1) := by decide +kernel
theorem dX4_bestHot_35 : decode cX4_bestHot 35 = .ok (.getstatic 173, 3) := by decide +kernel
theorem dX4_bestHot_38 : decode cX4_bestHot 38 = .ok (.iconst 1, 1) := by decide +kernel
theorem dX4_bestHot_39 : decode cX4_bestHot 39 = .ok (.invokestatic 108, 3) := by decide +kernel
theorem dX4_bestHot_42 : decode cX4_bestHot 42 = .ok (.istore 4, 2) := by decide +kernel
theorem dX4_bestHot_44 : decode cX4_bestHot 44 = .ok (.iconst (-1), 1) := by decide +kernel
theorem dX4_bestHot_45 : decode cX4_bestHot 45 = .ok (.istore 5, 2) := by decide +kernel
theorem dX4_bestHot_47 : decode cX4_bestHot 47 = .ok (.iconst 0, 1) := by decide +kernel
theorem dX4_bestHot_48 : decode cX4_bestHot 48 = .ok (.istore 6, 2) := by decide +kernel
theorem dX4_bestHot_50 : decode cX4_bestHot 50 = .ok (.iconst 0, 1) := by decide +kernel
theorem dX4_bestHot_51 : decode cX4_bestHot 51 = .ok (.istore 7, 2) := by decide +kernel
theorem dX4_bestHot_53 : decode cX4_bestHot 53 = .ok (.iload 7, 2) := by decide +kernel
theorem dX4_bestHot_55 : decode cX4_bestHot 55 = .ok (.iload 4, 2) := by decide +kernel
theorem dX4_bestHot_57 : decode cX4_bestHot 57 = .ok (.if_icmp .gt 48, 3) := by decide +kernel
theorem dX4_bestHot_60 : decode cX4_bestHot 60 = .ok (.iload 7, 2) := by decide +kernel
theorem dX4_bestHot_62 : decode cX4_bestHot 62 = .ok (.iload_n 3, 1) := by decide +kernel
theorem dX4_bestHot_63 : decode cX4_bestHot 63 = .ok (.if_icmp .lt 33, 3) := by decide +kernel
theorem dX4_bestHot_66 : decode cX4_bestHot 66 = .ok (.aload_n 0, 1) := by decide +kernel
theorem dX4_bestHot_67 : decode cX4_bestHot 67 = .ok (.iload 7, 2) := by decide +kernel
theorem dX4_bestHot_69 : decode cX4_bestHot 69 = .ok (.iload_n 1, 1) := by decide +kernel
theorem dX4_bestHot_70 : decode cX4_bestHot 70 = .ok (.invokevirtual 176, 3) := by decide +kernel
theorem dX4_bestHot_73 : decode cX4_bestHot 73 = .ok (.istore 8, 2) := by decide +kernel
theorem dX4_bestHot_75 : decode cX4_bestHot 75 = .ok (.iload 5, 2) := by decide +kernel
theorem dX4_bestHot_77 : decode cX4_bestHot 77 = .ok (.iconst (-1), 1) := by decide +kernel
theorem dX4_bestHot_78 : decode cX4_bestHot 78 = .ok (.if_icmp .eq 10, 3) := by decide +kernel
theorem dX4_bestHot_81 : decode cX4_bestHot 81 = .ok (.iload 8, 2) := by decide +kernel
theorem dX4_bestHot_83 : decode cX4_bestHot 83 = .ok (.iload 6, 2) := by decide +kernel
theorem dX4_bestHot_85 : decode cX4_bestHot 85 = .ok (.if_icmp .ge 11, 3) := by decide +kernel
theorem dX4_bestHot_88 : decode cX4_bestHot 88 = .ok (.iload 7, 2) := by decide +kernel
theorem dX4_bestHot_90 : decode cX4_bestHot 90 = .ok (.istore 5, 2) := by decide +kernel
theorem dX4_bestHot_92 : decode cX4_bestHot 92 = .ok (.iload 8, 2) := by decide +kernel
theorem dX4_bestHot_94 : decode cX4_bestHot 94 = .ok (.istore 6, 2) := by decide +kernel
theorem dX4_bestHot_96 : decode cX4_bestHot 96 = .ok (.iinc 7 500, 6) := by decide +kernel
theorem dX4_bestHot_102 : decode cX4_bestHot 102 = .ok (.goto (-49), 3) := by decide +kernel
theorem dX4_bestHot_105 : decode cX4_bestHot 105 = .ok (.iload_n 2, 1) := by decide +kernel
theorem dX4_bestHot_106 : decode cX4_bestHot 106 = .ok (.ifCond .ne 8, 3) := by decide +kernel
theorem dX4_bestHot_109 : decode cX4_bestHot 109 = .ok (.iload 5, 2) := by decide +kernel
theorem dX4_bestHot_111 : decode cX4_bestHot 111 = .ok (.goto 5, 3) := by decide +kernel
theorem dX4_bestHot_114 : decode cX4_bestHot 114 = .ok (.iload 6, 2) := by decide +kernel
theorem dX4_bestHot_116 : decode cX4_bestHot 116 = .ok (.ireturn, 1) := by decide +kernel
theorem dX4_cheapest_0 : decode cX4_cheapest 0 = .ok (.aload_n 0, 1) := by decide +kernel
theorem dX4_cheapest_1 : decode cX4_cheapest 1 = .ok (.getfield 10, 3) := by decide +kernel
theorem dX4_cheapest_4 : decode cX4_cheapest 4 = .ok (.iload_n 1, 1) := by decide +kernel
theorem dX4_cheapest_5 : decode cX4_cheapest 5 = .ok (.invokevirtual 112, 3) := by decide +kernel
theorem dX4_cheapest_8 : decode cX4_cheapest 8 = .ok (.istore_n 3, 1) := by decide +kernel
theorem dX4_cheapest_9 : decode cX4_cheapest 9 = .ok (.iload_n 3, 1) := by decide +kernel
theorem dX4_cheapest_10 : decode cX4_cheapest 10 = .ok (.iconst (-1), 1) := by decide +kernel
theorem dX4_cheapest_11 : decode cX4_cheapest 11 = .ok (.if_icmp .ne 5, 3) := by decide +kernel
theorem dX4_cheapest_14 : decode cX4_cheapest 14 = .ok (.iconst (-1), 1) := by decide +kernel
theorem dX4_cheapest_15 : decode cX4_cheapest 15 = .ok (.ireturn, 1) := by decide +kernel
theorem dX4_cheapest_16 : decode cX4_cheapest 16 = .ok (.iload_n 2, 1) := by decide +kernel
theorem dX4_cheapest_17 : decode cX4_cheapest 17 = .ok (.ifCond .lt 10, 3) := by decide +kernel
theorem dX4_cheapest_20 : decode cX4_cheapest 20 = .ok (.iload_n 2, 1) := by decide +kernel
theorem dX4_cheapest_21 : decode cX4_cheapest 21 = .ok (.sipush 999, 3) := by decide +kernel
theorem dX4_cheapest_24 : decode cX4_cheapest 24 = .ok (.if_icmp .le 6, 3) := by decide +kernel
theorem dX4_cheapest_27 : decode cX4_cheapest 27 = .ok (.bipush (-2), 2) := by decide +kernel
theorem dX4_cheapest_29 : decode cX4_cheapest 29 = .ok (.ireturn, 1) := by decide +kernel
theorem dX4_cheapest_30 : decode cX4_cheapest 30 = .ok (.iconst 0, 1) := by decide +kernel
theorem dX4_cheapest_31 : decode cX4_cheapest 31 = .ok (.istore 4, 2) := by decide +kernel
theorem dX4_cheapest_33 : decode cX4_cheapest 33 = .ok (.iconst 1, 1) := by decide +kernel
theorem dX4_cheapest_34 : decode cX4_cheapest 34 = .ok (.istore 5, 2) := by decide +kernel
theorem dX4_cheapest_36 : decode cX4_cheapest 36 = .ok (.iload 5, 2) := by decide +kernel
theorem dX4_cheapest_38 : decode cX4_cheapest 38 = .ok (.iconst 3, 1) := by decide +kernel
theorem dX4_cheapest_39 : decode cX4_cheapest 39 = .ok (.if_icmp .ge 32, 3) := by decide +kernel
theorem dX4_cheapest_42 : decode cX4_cheapest 42 = .ok (.aload_n 0, 1) := by decide +kernel
theorem dX4_cheapest_43 : decode cX4_cheapest 43 = .ok (.iload_n 3, 1) := by decide +kernel
theorem dX4_cheapest_44 : decode cX4_cheapest 44 = .ok (.iload 5, 2) := by decide +kernel
theorem dX4_cheapest_46 : decode cX4_cheapest 46 = .ok (.iload_n 2, 1) := by decide +kernel
theorem dX4_cheapest_47 : decode cX4_cheapest 47 = .ok (.invokevirtual 179, 3) := by decide +kernel
theorem dX4_cheapest_50 : decode cX4_cheapest 50 = .ok (.aload_n 0, 1) := by decide +kernel
theorem dX4_cheapest_51 : decode cX4_cheapest 51 = .ok (.iload_n 3, 1) := by decide +kernel
theorem dX4_cheapest_52 : decode cX4_cheapest 52 = .ok (.iload 4, 2) := by decide +kernel
theorem dX4_cheapest_54 : decode cX4_cheapest 54 = .ok (.iload_n 2, 1) := by decide +kernel
theorem dX4_cheapest_55 : decode cX4_cheapest 55 = .ok (.invokevirtual 179, 3) := by decide +kernel
theorem dX4_cheapest_58 : decode cX4_cheapest 58 = .ok (.if_icmp .ge 7, 3) := by decide +kernel
theorem dX4_cheapest_61 : decode cX4_cheapest 61 = .ok (.iload 5, 2) := by decide +kernel
theorem dX4_cheapest_63 : decode cX4_cheapest 63 = .ok (.istore 4, 2) := by decide +kernel
theorem dX4_cheapest_65 : decode cX4_cheapest 65 = .ok (.iinc 5 1, 3) := by decide +kernel
theorem dX4_cheapest_68 : decode cX4_cheapest 68 = .ok (.goto (-32), 3) := by decide +kernel
theorem dX4_cheapest_71 : decode cX4_cheapest 71 = .ok (.iload 4, 2) := by decide +kernel
theorem dX4_cheapest_73 : decode cX4_cheapest 73 = .ok (.ireturn, 1) := by decide +kernel
theorem dX4_settle_0 : decode cX4_settle 0 = .ok (.iload_n 1, 1) := by decide +kernel
theorem dX4_settle_1 : decode cX4_settle 1 = .ok (.ifCond .lt 25, 3) := by decide +kernel
theorem dX4_settle_4 : decode cX4_settle 4 = .ok (.aload_n 0, 1) := by decide +kernel
theorem dX4_settle_5 : decode cX4_settle 5 = .ok (.getfield 29, 3) := by decide +kernel
theorem dX4_settle_8 : decode cX4_settle 8 = .ok (.aload_n 0, 1) := by decide +kernel
theorem dX4_settle_9 : decode cX4_settle 9 = .ok (.getfield 10, 3) := by decide +kernel
theorem dX4_settle_12 : decode cX4_settle 12 = .ok (.invokevirtual 183, 3) := by decide +kernel
theorem dX4_settle_15 : decode cX4_settle 15 = .ok (.aload_n 0, 1) := by decide +kernel
theorem dX4_settle_16 : decode cX4_settle 16 = .ok (.getfield 10, 3) := by decide +kernel
theorem dX4_settle_19 : decode cX4_settle 19 = .ok (.aload_n 0, 1) := by decide +kernel
theorem dX4_settle_20 : decode cX4_settle 20 = .ok (.getfield 16, 3) := by decide +kernel
theorem dX4_settle_23 : decode cX4_settle 23 = .ok (.invokevirtual 47, 3) := by decide +kernel
theorem dX4_settle_26 : decode cX4_settle 26 = .ok (.iload_n 1, 1) := by decide +kernel
theorem dX4_settle_27 : decode cX4_settle 27 = .ok (.ireturn, 1) := by decide +kernel
theorem dX4_passInWork_0 : decode cX4_passInWork 0 = .ok (.iload_n 1, 1) := by decide +kernel
theorem dX4_passInWork_1 : decode cX4_passInWork 1 = .ok (.iconst 1, 1) := by decide +kernel
theorem dX4_passInWork_2 : decode cX4_passInWork 2 = .ok (.if_icmp .lt 9, 3) := by decide +kernel
theorem dX4_passInWork_5 : decode cX4_passInWork 5 = .ok (.iload_n 1, 1) := by decide +kernel
theorem dX4_passInWork_6 : decode cX4_passInWork 6 = .ok (.bipush 99, 2) := by decide +kernel
theorem dX4_passInWork_8 : decode cX4_passInWork 8 = .ok (.if_icmp .le 6, 3) := by decide +kernel
theorem dX4_passInWork_11 : decode cX4_passInWork 11 = .ok (.bipush (-2), 2) := by decide +kernel
theorem dX4_passInWork_13 : decode cX4_passInWork 13 = .ok (.ireturn, 1) := by decide +kernel
theorem dX4_passInWork_14 : decode cX4_passInWork 14 = .ok (.aload_n 0, 1) := by decide +kernel
theorem dX4_passInWork_15 : decode cX4_passInWork 15 = .ok (.getfield 16, 3) := by decide +kernel
theorem dX4_passInWork_18 : decode cX4_passInWork 18 = .ok (.getfield 142, 3) := by decide +kernel
theorem dX4_passInWork_21 : decode cX4_passInWork 21 = .ok (.bipush 17, 2) := by decide +kernel
theorem dX4_passInWork_23 : decode cX4_passInWork 23 = .ok (.invokestatic 108, 3) := by decide +kernel
theorem dX4_passInWork_26 : decode cX4_passInWork 26 = .ok (.iload_n 1, 1) := by decide +kernel
theorem dX4_passInWork_27 : decode cX4_passInWork 27 = .ok (.iadd, 1) := by decide +kernel
theorem dX4_passInWork_28 : decode cX4_passInWork 28 = .ok (.sipush 5000, 3) := by decide +kernel
theorem dX4_passInWork_31 : decode cX4_passInWork 31 = .ok (.if_icmp .le 6, 3) := by decide +kernel
theorem dX4_passInWork_34 : decode cX4_passInWork 34 = .ok (.bipush (-3), 2) := by decide +kernel
theorem dX4_passInWork_36 : decode cX4_passInWork 36 = .ok (.ireturn, 1) := by decide +kernel
theorem dX4_passInWork_37 : decode cX4_passInWork 37 = .ok (.aload_n 0, 1) := by decide +kernel
theorem dX4_passInWork_38 : decode cX4_passInWork 38 = .ok (.getfield 36, 3) := by decide +kernel
theorem dX4_passInWork_41 : decode cX4_passInWork 41 = .ok (.aload_n 0, 1) := by decide +kernel
theorem dX4_passInWork_42 : decode cX4_passInWork 42 = .ok (.getfield 16, 3) := by decide +kernel
theorem dX4_passInWork_45 : decode cX4_passInWork 45 = .ok (.iload_n 1, 1) := by decide +kernel
theorem dX4_passInWork_46 : decode cX4_passInWork 46 = .ok (.invokevirtual 166, 3) := by decide +kernel
theorem dX4_passInWork_49 : decode cX4_passInWork 49 = .ok (.ireturn, 1) := by decide +kernel
theorem dX4_performInWork_0 : decode cX4_performInWork 0 = .ok (.aload_n 0, 1) := by decide +kernel
theorem dX4_performInWork_1 : decode cX4_performInWork 1 = .ok (.getfield 43, 3) := by decide +kernel
theorem dX4_performInWork_4 : decode cX4_performInWork 4 = .ok (.getfield 186, 3) := by decide +kernel
theorem dX4_performInWork_7 : decode cX4_performInWork 7 = .ok (.iload_n 1, 1) := by decide +kernel
theorem dX4_performInWork_8 : decode cX4_performInWork 8 = .ok (.invokestatic 108, 3) := by decide +kernel
theorem dX4_performInWork_11 : decode cX4_performInWork 11 = .ok (.istore_n 2, 1) := by decide +kernel
theorem dX4_performInWork_12 : decode cX4_performInWork 12 = .ok (.aload_n 0, 1) := by decide +kernel
theorem dX4_performInWork_13 : decode cX4_performInWork 13 = .ok (.getfield 43, 3) := by decide +kernel
theorem dX4_performInWork_16 : decode cX4_performInWork 16 = .ok (.getfield 189, 3) := by decide +kernel
theorem dX4_performInWork_19 : decode cX4_performInWork 19 = .ok (.iload_n 1, 1) := by decide +kernel
theorem dX4_performInWork_20 : decode cX4_performInWork 20 = .ok (.invokestatic 108, 3) := by decide +kernel
theorem dX4_performInWork_23 : decode cX4_performInWork 23 = .ok (.istore_n 3, 1) := by decide +kernel
theorem dX4_performInWork_24 : decode cX4_performInWork 24 = .ok (.iload_n 2, 1) := by decide +kernel
theorem dX4_performInWork_25 : decode cX4_performInWork 25 = .ok (.bipush 43, 2) := by decide +kernel
theorem dX4_performInWork_27 : decode cX4_performInWork 27 = .ok (.if_icmp .ne 12, 3) := by decide +kernel
theorem dX4_performInWork_30 : decode cX4_performInWork 30 = .ok (.aload_n 0, 1) := by decide +kernel
theorem dX4_performInWork_31 : decode cX4_performInWork 31 = .ok (.getfield 16, 3) := by decide +kernel
theorem dX4_performInWork_34 : decode cX4_performInWork 34 = .ok (.iload_n 3, 1) := by decide +kernel
theorem dX4_performInWork_35 : decode cX4_performInWork 35 = .ok (.invokevirtual 51, 3) := by decide +kernel
theorem dX4_performInWork_38 : decode cX4_performInWork 38 = .ok (.ireturn, 1) := by decide +kernel
theorem dX4_performInWork_39 : decode cX4_performInWork 39 = .ok (.iload_n 2, 1) := by decide +kernel
theorem dX4_performInWork_40 : decode cX4_performInWork 40 = .ok (.bipush 45, 2) := by decide +kernel
theorem dX4_performInWork_42 : decode cX4_performInWork 42 = .ok (.if_icmp .ne 12, 3) := by decide +kernel
theorem dX4_performInWork_45 : decode cX4_performInWork 45 = .ok (.aload_n 0, 1) := by decide +kernel
theorem dX4_performInWork_46 : decode cX4_performInWork 46 = .ok (.getfield 16, 3) := by decide +kernel
theorem dX4_performInWork_49 : decode cX4_performInWork 49 = .ok (.iload_n 3, 1) := by decide +kernel
theorem dX4_performInWork_50 : decode cX4_performInWork 50 = .ok (.invokevirtual 58, 3) := by decide +kernel
theorem dX4_performInWork_53 : decode cX4_performInWork 53 = .ok (.ireturn, 1) := by decide +kernel
theorem dX4_performInWork_54 : decode cX4_performInWork 54 = .ok (.iload_n 2, 1) := by decide +kernel
theorem dX4_performInWork_55 : decode cX4_performInWork 55 = .ok (.bipush 114, 2) := by decide +kernel
theorem dX4_performInWork_57 : decode cX4_performInWork 57 = .ok (.if_icmp .ne 23, 3) := by decide +kernel
theorem dX4_performInWork_60 : decode cX4_performInWork 60 = .ok (.aload_n 0, 1) := by decide +kernel
theorem dX4_performInWork_61 : decode cX4_performInWork 61 = .ok (.getfield 16, 3) := by decide +kernel
theorem dX4_performInWork_64 : decode cX4_performInWork 64 = .ok (.iload_n 3, 1) := by decide +kernel
theorem dX4_performInWork_65 : decode cX4_performInWork 65 = .ok (.aload_n 0, 1) := by decide +kernel
theorem dX4_performInWork_66 : decode cX4_performInWork 66 = .ok (.getfield 43, 3) := by decide +kernel
theorem dX4_performInWork_69 : decode cX4_performInWork 69 = .ok (.getfield 192, 3) := by decide +kernel
theorem dX4_performInWork_72 : decode cX4_performInWork 72 = .ok (.iload_n 1, 1) := by decide +kernel
theorem dX4_performInWork_73 : decode cX4_performInWork 73 = .ok (.invokestatic 108, 3) := by decide +kernel
theorem dX4_performInWork_76 : decode cX4_performInWork 76 = .ok (.invokevirtual 61, 3) := by decide +kernel
theorem dX4_performInWork_79 : decode cX4_performInWork 79 = .ok (.ireturn, 1) := by decide +kernel
theorem dX4_performInWork_80 : decode cX4_performInWork 80 = .ok (.iload_n 2, 1) := by decide +kernel
theorem dX4_performInWork_81 : decode cX4_performInWork 81 = .ok (.bipush 112, 2) := by decide +kernel
theorem dX4_performInWork_83 : decode cX4_performInWork 83 = .ok (.if_icmp .ne 12, 3) := by decide +kernel
theorem dX4_performInWork_86 : decode cX4_performInWork 86 = .ok (.aload_n 0, 1) := by decide +kernel
theorem dX4_performInWork_87 : decode cX4_performInWork 87 = .ok (.getfield 16, 3) := by decide +kernel
theorem dX4_performInWork_90 : decode cX4_performInWork 90 = .ok (.iload_n 3, 1) := by decide +kernel
theorem dX4_performInWork_91 : decode cX4_performInWork 91 = .ok (.invokevirtual 195, 3) := by decide +kernel
theorem dX4_performInWork_94 : decode cX4_performInWork 94 = .ok (.ireturn, 1) := by decide +kernel
theorem dX4_performInWork_95 : decode cX4_performInWork 95 = .ok (.aload_n 0, 1) := by decide +kernel
theorem dX4_performInWork_96 : decode cX4_performInWork 96 = .ok (.iload_n 3, 1) := by decide +kernel
theorem dX4_performInWork_97 : decode cX4_performInWork 97 = .ok (.invokevirtual 69, 3) := by decide +kernel
theorem dX4_performInWork_100 : decode cX4_performInWork 100 = .ok (.ireturn, 1) := by decide +kernel
theorem dX4_whyItStays_0 : decode cX4_whyItStays 0 = .ok (.aload_n 0, 1) := by decide +kernel
theorem dX4_whyItStays_1 : decode cX4_whyItStays 1 = .ok (.getfield 16, 3) := by decide +kernel
theorem dX4_whyItStays_4 : decode cX4_whyItStays 4 = .ok (.aload_n 0, 1) := by decide +kernel
theorem dX4_whyItStays_5 : decode cX4_whyItStays 5 = .ok (.getfield 10, 3) := by decide +kernel
theorem dX4_whyItStays_8 : decode cX4_whyItStays 8 = .ok (.invokevirtual 47, 3) := by decide +kernel
theorem dX4_whyItStays_11 : decode cX4_whyItStays 11 = .ok (.aload_n 0, 1) := by decide +kernel
theorem dX4_whyItStays_12 : decode cX4_whyItStays 12 = .ok (.getfield 36, 3) := by decide +kernel
theorem dX4_whyItStays_15 : decode cX4_whyItStays 15 = .ok (.aload_n 0, 1) := by decide +kernel
theorem dX4_whyItStays_16 : decode cX4_whyItStays 16 = .ok (.getfield 16, 3) := by decide +kernel
theorem dX4_whyItStays_19 : decode cX4_whyItStays 19 = .ok (.iconst 1, 1) := by decide +kernel
theorem dX4_whyItStays_20 : decode cX4_whyItStays 20 = .ok (.invokevirtual 166, 3) := by decide +kernel
theorem dX4_whyItStays_23 : decode cX4_whyItStays 23 = .ok (.pop, 1) := by decide +kernel
theorem dX4_whyItStays_24 : decode cX4_whyItStays 24 = .ok (.aload_n 0, 1) := by decide +kernel
theorem dX4_whyItStays_25 : decode cX4_whyItStays 25 = .ok (.getfield 36, 3) := by decide +kernel
theorem dX4_whyItStays_28 : decode cX4_whyItStays 28 = .ok (.getfield 198, 3) := by decide +kernel
theorem dX4_whyItStays_31 : decode cX4_whyItStays 31 = .ok (.iload_n 1, 1) := by decide +kernel
theorem dX4_whyItStays_32 : decode cX4_whyItStays 32 = .ok (.invokestatic 108, 3) := by decide +kernel
theorem dX4_whyItStays_35 : decode cX4_whyItStays 35 = .ok (.ireturn, 1) := by decide +kernel
theorem dX4_paidForNightsInWork_0 : decode cX4_paidForNightsInWork 0 = .ok (.aload_n 0, 1) := by decide +kernel
theorem dX4_paidForNightsInWork_1 : decode cX4_paidForNightsInWork 1 = .ok (.getfield 16, 3) := by decide +kernel
theorem dX4_paidForNightsInWork_4 : decode cX4_paidForNightsInWork 4 = .ok (.getfield 142, 3) := by decide +kernel
theorem dX4_paidForNightsInWork_7 : decode cX4_paidForNightsInWork 7 = .ok (.bipush 18, 2) := by decide +kernel
theorem dX4_paidForNightsInWork_9 : decode cX4_paidForNightsInWork 9 = .ok (.invokestatic 108, 3) := by decide +kernel
theorem dX4_paidForNightsInWork_12 : decode cX4_paidForNightsInWork 12 = .ok (.aload_n 0, 1) := by decide +kernel
theorem dX4_paidForNightsInWork_13 : decode cX4_paidForNightsInWork 13 = .ok (.getfield 10, 3) := by decide +kernel
theorem dX4_paidForNightsInWork_16 : decode cX4_paidForNightsInWork 16 = .ok (.getfield 142, 3) := by decide +kernel
theorem dX4_paidForNightsInWork_19 : decode cX4_paidForNightsInWork 19 = .ok (.bipush 18, 2) := by decide +kernel
theorem dX4_paidForNightsInWork_21 : decode cX4_paidForNightsInWork 21 = .ok (.invokestatic 108, 3) := by decide +kernel
theorem dX4_paidForNightsInWork_24 : decode cX4_paidForNightsInWork 24 = .ok (.isub, 1) := by decide +kernel
theorem dX4_paidForNightsInWork_25 : decode cX4_paidForNightsInWork 25 = .ok (.ireturn, 1) := by decide +kernel
theorem dX4_paidWithHot_0 : decode cX4_paidWithHot 0 = .ok (.aload_n 0, 1) := by decide +kernel
theorem dX4_paidWithHot_1 : decode cX4_paidWithHot 1 = .ok (.getfield 16, 3) := by decide +kernel
theorem dX4_paidWithHot_4 : decode cX4_paidWithHot 4 = .ok (.aload_n 0, 1) := by decide +kernel
theorem dX4_paidWithHot_5 : decode cX4_paidWithHot 5 = .ok (.getfield 10, 3) := by decide +kernel
theorem dX4_paidWithHot_8 : decode cX4_paidWithHot 8 = .ok (.invokevirtual 47, 3) := by decide +kernel
theorem dX4_paidWithHot_11 : decode cX4_paidWithHot 11 = .ok (.aload_n 0, 1) := by decide +kernel
theorem dX4_paidWithHot_12 : decode cX4_paidWithHot 12 = .ok (.getfield 16, 3) := by decide +kernel
theorem dX4_paidWithHot_15 : decode cX4_paidWithHot 15 = .ok (.getfield 142, 3) := by decide +kernel
theorem dX4_paidWithHot_18 : decode cX4_paidWithHot 18 = .ok (.iconst 1, 1) := by decide +kernel
theorem dX4_paidWithHot_19 : decode cX4_paidWithHot 19 = .ok (.iload_n 1, 1) := by decide +kernel
theorem dX4_paidWithHot_20 : decode cX4_paidWithHot 20 = .ok (.invokestatic 201, 3) := by decide +kernel
theorem dX4_paidWithHot_23 : decode cX4_paidWithHot 23 = .ok (.aload_n 0, 1) := by decide +kernel
theorem dX4_paidWithHot_24 : decode cX4_paidWithHot 24 = .ok (.getfield 36, 3) := by decide +kernel
theorem dX4_paidWithHot_27 : decode cX4_paidWithHot 27 = .ok (.aload_n 0, 1) := by decide +kernel
theorem dX4_paidWithHot_28 : decode cX4_paidWithHot 28 = .ok (.getfield 16, 3) := by decide +kernel
theorem dX4_paidWithHot_31 : decode cX4_paidWithHot 31 = .ok (.iload_n 2, 1) := by decide +kernel
theorem dX4_paidWithHot_32 : decode cX4_paidWithHot 32 = .ok (.invokevirtual 166, 3) := by decide +kernel
theorem dX4_paidWithHot_35 : decode cX4_paidWithHot 35 = .ok (.pop, 1) := by decide +kernel
theorem dX4_paidWithHot_36 : decode cX4_paidWithHot 36 = .ok (.aload_n 0, 1) := by decide +kernel
theorem dX4_paidWithHot_37 : decode cX4_paidWithHot 37 = .ok (.invokevirtual 170, 3) := by decide +kernel
theorem dX4_paidWithHot_40 : decode cX4_paidWithHot 40 = .ok (.ireturn, 1) := by decide +kernel
theorem dX4_priceOfStay_0 : decode cX4_priceOfStay 0 = .ok (.bipush 10, 2) := by decide +kernel
theorem dX4_priceOfStay_2 : decode cX4_priceOfStay 2 = .ok (.aload_n 0, 1) := by decide +kernel
theorem dX4_priceOfStay_3 : decode cX4_priceOfStay 3 = .ok (.getfield 10, 3) := by decide +kernel
theorem dX4_priceOfStay_6 : decode cX4_priceOfStay 6 = .ok (.getfield 142, 3) := by decide +kernel
theorem dX4_priceOfStay_9 : decode cX4_priceOfStay 9 = .ok (.bipush 9, 2) := by decide +kernel
theorem dX4_priceOfStay_11 : decode cX4_priceOfStay 11 = .ok (.iload_n 2, 1) := by decide +kernel
theorem dX4_priceOfStay_12 : decode cX4_priceOfStay 12 = .ok (.iadd, 1) := by decide +kernel
theorem dX4_priceOfStay_13 : decode cX4_priceOfStay 13 = .ok (.invokestatic 108, 3) := by decide +kernel
theorem dX4_priceOfStay_16 : decode cX4_priceOfStay 16 = .ok (.imul, 1) := by decide +kernel
theorem dX4_priceOfStay_17 : decode cX4_priceOfStay 17 = .ok (.iload_n 3, 1) := by decide +kernel
theorem dX4_priceOfStay_18 : decode cX4_priceOfStay 18 = .ok (.aload_n 0, 1) := by decide +kernel
theorem dX4_priceOfStay_19 : decode cX4_priceOfStay 19 = .ok (.getfield 10, 3) := by decide +kernel
theorem dX4_priceOfStay_22 : decode cX4_priceOfStay 22 = .ok (.getfield 142, 3) := by decide +kernel
theorem dX4_priceOfStay_25 : decode cX4_priceOfStay 25 = .ok (.bipush 12, 2) := by decide +kernel
theorem dX4_priceOfStay_27 : decode cX4_priceOfStay 27 = .ok (.iload_n 2, 1) := by decide +kernel
theorem dX4_priceOfStay_28 : decode cX4_priceOfStay 28 = .ok (.iadd, 1) := by decide +kernel
theorem dX4_priceOfStay_29 : decode cX4_priceOfStay 29 = .ok (.invokestatic 108, 3) := by decide +kernel
theorem dX4_priceOfStay_32 : decode cX4_priceOfStay 32 = .ok (.imul, 1) := by decide +kernel
theorem dX4_priceOfStay_33 : decode cX4_priceOfStay 33 = .ok (.iadd, 1) := by decide +kernel
theorem dX4_priceOfStay_34 : decode cX4_priceOfStay 34 = .ok (.istore 4, 2) := by decide +kernel
theorem dX4_priceOfStay_36 : decode cX4_priceOfStay 36 = .ok (.aload_n 0, 1) := by decide +kernel
theorem dX4_priceOfStay_37 : decode cX4_priceOfStay 37 = .ok (.getfield 10, 3) := by decide +kernel
theorem dX4_priceOfStay_40 : decode cX4_priceOfStay 40 = .ok (.getfield 115, 3) := by decide +kernel
theorem dX4_priceOfStay_43 : decode cX4_priceOfStay 43 = .ok (.iload_n 1, 1) := by decide +kernel
theorem dX4_priceOfStay_44 : decode cX4_priceOfStay 44 = .ok (.invokestatic 108, 3) := by decide +kernel
theorem dX4_priceOfStay_47 : decode cX4_priceOfStay 47 = .ok (.iload 4, 2) := by decide +kernel
theorem dX4_priceOfStay_49 : decode cX4_priceOfStay 49 = .ok (.imul, 1) := by decide +kernel
theorem dX4_priceOfStay_50 : decode cX4_priceOfStay 50 = .ok (.ireturn, 1) := by decide +kernel
theorem dX4_at_0 : decode cX4_at 0 = .ok (.iload_n 1, 1) := by decide +kernel
theorem dX4_at_1 : decode cX4_at 1 = .ok (.ifCond .lt 15, 3) := by decide +kernel
theorem dX4_at_4 : decode cX4_at 4 = .ok (.iload_n 1, 1) := by decide +kernel
theorem dX4_at_5 : decode cX4_at 5 = .ok (.aload_n 0, 1) := by decide +kernel
theorem dX4_at_6 : decode cX4_at 6 = .ok (.arraylength, 1) := by decide +kernel
theorem dX4_at_7 : decode cX4_at 7 = .ok (.if_icmp .ge 9, 3) := by decide +kernel
theorem dX4_at_10 : decode cX4_at 10 = .ok (.aload_n 0, 1) := by decide +kernel
theorem dX4_at_11 : decode cX4_at 11 = .ok (.iload_n 1, 1) := by decide +kernel
theorem dX4_at_12 : decode cX4_at 12 = .ok (.iaload, 1) := by decide +kernel
theorem dX4_at_13 : decode cX4_at 13 = .ok (.goto 4, 3) := by decide +kernel
theorem dX4_at_16 : decode cX4_at 16 = .ok (.iconst 0, 1) := by decide +kernel
theorem dX4_at_17 : decode cX4_at 17 = .ok (.ireturn, 1) := by decide +kernel
theorem dX4_put_0 : decode cX4_put 0 = .ok (.iload_n 1, 1) := by decide +kernel
theorem dX4_put_1 : decode cX4_put 1 = .ok (.ifCond .lt 13, 3) := by decide +kernel
theorem dX4_put_4 : decode cX4_put 4 = .ok (.iload_n 1, 1) := by decide +kernel
theorem dX4_put_5 : decode cX4_put 5 = .ok (.aload_n 0, 1) := by decide +kernel
theorem dX4_put_6 : decode cX4_put 6 = .ok (.arraylength, 1) := by decide +kernel
theorem dX4_put_7 : decode cX4_put 7 = .ok (.if_icmp .ge 7, 3) := by decide +kernel
theorem dX4_put_10 : decode cX4_put 10 = .ok (.aload_n 0, 1) := by decide +kernel
theorem dX4_put_11 : decode cX4_put 11 = .ok (.iload_n 1, 1) := by decide +kernel
theorem dX4_put_12 : decode cX4_put 12 = .ok (.iload_n 2, 1) := by decide +kernel
theorem dX4_put_13 : decode cX4_put 13 = .ok (.iastore, 1) := by decide +kernel
theorem dX4_put_14 : decode cX4_put 14 = .ok (.return_, 1) := by decide +kernel
theorem dX4_raise_0 : decode cX4_raise 0 = .ok (.iload_n 1, 1) := by decide +kernel
theorem dX4_raise_1 : decode cX4_raise 1 = .ok (.ifCond .lt 16, 3) := by decide +kernel
theorem dX4_raise_4 : decode cX4_raise 4 = .ok (.iload_n 1, 1) := by decide +kernel
theorem dX4_raise_5 : decode cX4_raise 5 = .ok (.aload_n 0, 1) := by decide +kernel
theorem dX4_raise_6 : decode cX4_raise 6 = .ok (.arraylength, 1) := by decide +kernel
theorem dX4_raise_7 : decode cX4_raise 7 = .ok (.if_icmp .ge 10, 3) := by decide +kernel
theorem dX4_raise_10 : decode cX4_raise 10 = .ok (.aload_n 0, 1) := by decide +kernel
theorem dX4_raise_11 : decode cX4_raise 11 = .ok (.iload_n 1, 1) := by decide +kernel
theorem dX4_raise_12 : decode cX4_raise 12 = .ok (.dup2, 1) := by decide +kernel
theorem dX4_raise_13 : decode cX4_raise 13 = .ok (.iaload, 1) := by decide +kernel
theorem dX4_raise_14 : decode cX4_raise 14 = .ok (.iload_n 2, 1) := by decide +kernel
theorem dX4_raise_15 : decode cX4_raise 15 = .ok (.iadd, 1) := by decide +kernel
theorem dX4_raise_16 : decode cX4_raise 16 = .ok (.iastore, 1) := by decide +kernel
theorem dX4_raise_17 : decode cX4_raise 17 = .ok (.return_, 1) := by decide +kernel
theorem dX4_copyRow_0 : decode cX4_copyRow 0 = .ok (.aload_n 0, 1) := by decide +kernel
theorem dX4_copyRow_1 : decode cX4_copyRow 1 = .ok (.iconst 0, 1) := by decide +kernel
theorem dX4_copyRow_2 : decode cX4_copyRow 2 = .ok (.aload_n 1, 1) := by decide +kernel
theorem dX4_copyRow_3 : decode cX4_copyRow 3 = .ok (.iconst 0, 1) := by decide +kernel
theorem dX4_copyRow_4 : decode cX4_copyRow 4 = .ok (.aload_n 0, 1) := by decide +kernel
theorem dX4_copyRow_5 : decode cX4_copyRow 5 = .ok (.arraylength, 1) := by decide +kernel
theorem dX4_copyRow_6 : decode cX4_copyRow 6 = .ok (.aload_n 1, 1) := by decide +kernel
theorem dX4_copyRow_7 : decode cX4_copyRow 7 = .ok (.arraylength, 1) := by decide +kernel
theorem dX4_copyRow_8 : decode cX4_copyRow 8 = .ok (.invokestatic 205, 3) := by decide +kernel
theorem dX4_copyRow_11 : decode cX4_copyRow 11 = .ok (.invokestatic 210, 3) := by decide +kernel
theorem dX4_copyRow_14 : decode cX4_copyRow 14 = .ok (.return_, 1) := by decide +kernel
theorem dX4_closeGap_0 : decode cX4_closeGap 0 = .ok (.iload_n 1, 1) := by decide +kernel
theorem dX4_closeGap_1 : decode cX4_closeGap 1 = .ok (.iconst 0, 1) := by decide +kernel
theorem dX4_closeGap_2 : decode cX4_closeGap 2 = .ok (.invokestatic 216, 3) := by decide +kernel
theorem dX4_closeGap_5 : decode cX4_closeGap 5 = .ok (.istore_n 2, 1) := by decide +kernel
theorem dX4_closeGap_6 : decode cX4_closeGap 6 = .ok (.iload_n 2, 1) := by decide +kernel
theorem dX4_closeGap_7 : decode cX4_closeGap 7 = .ok (.iconst 1, 1) := by decide +kernel
theorem dX4_closeGap_8 : decode cX4_closeGap 8 = .ok (.iadd, 1) := by decide +kernel
theorem dX4_closeGap_9 : decode cX4_closeGap 9 = .ok (.aload_n 0, 1) := by decide +kernel
theorem dX4_closeGap_10 : decode cX4_closeGap 10 = .ok (.arraylength, 1) := by decide +kernel
theorem dX4_closeGap_11 : decode cX4_closeGap 11 = .ok (.if_icmp .ge 17, 3) := by decide +kernel
theorem dX4_closeGap_14 : decode cX4_closeGap 14 = .ok (.aload_n 0, 1) := by decide +kernel
theorem dX4_closeGap_15 : decode cX4_closeGap 15 = .ok (.iload_n 2, 1) := by decide +kernel
theorem dX4_closeGap_16 : decode cX4_closeGap 16 = .ok (.aload_n 0, 1) := by decide +kernel
theorem dX4_closeGap_17 : decode cX4_closeGap 17 = .ok (.iload_n 2, 1) := by decide +kernel
theorem dX4_closeGap_18 : decode cX4_closeGap 18 = .ok (.iconst 1, 1) := by decide +kernel
theorem dX4_closeGap_19 : decode cX4_closeGap 19 = .ok (.iadd, 1) := by decide +kernel
theorem dX4_closeGap_20 : decode cX4_closeGap 20 = .ok (.iaload, 1) := by decide +kernel
theorem dX4_closeGap_21 : decode cX4_closeGap 21 = .ok (.iastore, 1) := by decide +kernel
theorem dX4_closeGap_22 : decode cX4_closeGap 22 = .ok (.iinc 2 1, 3) := by decide +kernel
theorem dX4_closeGap_25 : decode cX4_closeGap 25 = .ok (.goto (-19), 3) := by decide +kernel
theorem dX4_closeGap_28 : decode cX4_closeGap 28 = .ok (.return_, 1) := by decide +kernel
end
section
theorem dX5_init_0 : decode cX5_init 0 = .ok (.aload_n 0, 1) := by decide +kernel
theorem dX5_init_1 : decode cX5_init 1 = .ok (.invokespecial 1, 3) := by decide +kernel
theorem dX5_init_4 : decode cX5_init 4 = .ok (.aload_n 0, 1) := by decide +kernel
theorem dX5_init_5 : decode cX5_init 5 = .ok (.sipush 430, 3) := by decide +kernel
theorem dX5_init_8 : decode cX5_init 8 = .ok (.newarray .int, 2) := by decide +kernel
theorem dX5_init_10 : decode cX5_init 10 = .ok (.putfield 7, 3) := by decide +kernel
theorem dX5_init_13 : decode cX5_init 13 = .ok (.aload_n 0, 1) := by decide +kernel
theorem dX5_init_14 : decode cX5_init 14 = .ok (.sipush 860, 3) := by decide +kernel
theorem dX5_init_17 : decode cX5_init 17 = .ok (.newarray .int, 2) := by decide +kernel
theorem dX5_init_19 : decode cX5_init 19 = .ok (.putfield 13, 3) := by decide +kernel
theorem dX5_init_22 : decode cX5_init 22 = .ok (.aload_n 0, 1) := by decide +kernel
theorem dX5_init_23 : decode cX5_init 23 = .ok (.sipush 215, 3) := by decide +kernel
theorem dX5_init_26 : decode cX5_init 26 = .ok (.newarray .int, 2) := by decide +kernel
theorem dX5_init_28 : decode cX5_init 28 = .ok (.putfield 16, 3) := by decide +kernel
theorem dX5_init_31 : decode cX5_init 31 = .ok (.aload_n 0, 1) := by decide +kernel
theorem dX5_init_32 : decode cX5_init 32 = .ok (.bipush 60, 2) := by decide +kernel
theorem dX5_init_34 : decode cX5_init 34 = .ok (.newarray .int, 2) := by decide +kernel
theorem dX5_init_36 : decode cX5_init 36 = .ok (.putfield 19, 3) := by decide +kernel
theorem dX5_init_39 : decode cX5_init 39 = .ok (.aload_n 0, 1) := by decide +kernel
theorem dX5_init_40 : decode cX5_init 40 = .ok (.bipush 24, 2) := by decide +kernel
theorem dX5_init_42 : decode cX5_init 42 = .ok (.newarray .int, 2) := by decide +kernel
theorem dX5_init_44 : decode cX5_init 44 = .ok (.putfield 22, 3) := by decide +kernel
theorem dX5_init_47 : decode cX5_init 47 = .ok (.aload_n 0, 1) := by decide +kernel
theorem dX5_init_48 : decode cX5_init 48 = .ok (.getfield 7, 3) := by decide +kernel
theorem dX5_init_51 : decode cX5_init 51 = .ok (.iconst 0, 1) := by decide +kernel
theorem dX5_init_52 : decode cX5_init 52 = .ok (.bipush 80, 2) := by decide +kernel
theorem dX5_init_54 : decode cX5_init 54 = .ok (.iastore, 1) := by decide +kernel
theorem dX5_init_55 : decode cX5_init 55 = .ok (.aload_n 0, 1) := by decide +kernel
theorem dX5_init_56 : decode cX5_init 56 = .ok (.getfield 7, 3) := by decide +kernel
theorem dX5_init_59 : decode cX5_init 59 = .ok (.iconst 1, 1) := by decide +kernel
theorem dX5_init_60 : decode cX5_init 60 = .ok (.sipush 3000, 3) := by decide +kernel
theorem dX5_init_63 : decode cX5_init 63 = .ok (.iastore, 1) := by decide +kernel
theorem dX5_init_64 : decode cX5_init 64 = .ok (.aload_n 0, 1) := by decide +kernel
theorem dX5_init_65 : decode cX5_init 65 = .ok (.getfield 7, 3) := by decide +kernel
theorem dX5_init_68 : decode cX5_init 68 = .ok (.iconst 2, 1) := by decide +kernel
theorem dX5_init_69 : decode cX5_init 69 = .ok (.sipush 500, 3) := by decide +kernel
theorem dX5_init_72 : decode cX5_init 72 = .ok (.iastore, 1) := by decide +kernel
theorem dX5_init_73 : decode cX5_init 73 = .ok (.aload_n 0, 1) := by decide +kernel
theorem dX5_init_74 : decode cX5_init 74 = .ok (.getfield 7, 3) := by decide +kernel
theorem dX5_init_77 : decode cX5_init 77 = .ok (.iconst 3, 1) := by decide +kernel
theorem dX5_init_78 : decode cX5_init 78 = .ok (.iconst 4, 1) := by decide +kernel
theorem dX5_init_79 : decode cX5_init 79 = .ok (.iastore, 1) := by decide +kernel
theorem dX5_init_80 : decode cX5_init 80 = .ok (.aload_n 0, 1) := by decide +kernel
theorem dX5_init_81 : decode cX5_init 81 = .ok (.getfield 7, 3) := by decide +kernel
theorem dX5_init_84 : decode cX5_init 84 = .ok (.iconst 4, 1) := by decide +kernel
theorem dX5_init_85 : decode cX5_init 85 = .ok (.iconst 5, 1) := by decide +kernel
theorem dX5_init_86 : decode cX5_init 86 = .ok (.iastore, 1) := by decide +kernel
theorem dX5_init_87 : decode cX5_init 87 = .ok (.aload_n 0, 1) := by decide +kernel
theorem dX5_init_88 : decode cX5_init 88 = .ok (.getfield 7, 3) := by decide +kernel
theorem dX5_init_91 : decode cX5_init 91 = .ok (.iconst 5, 1) := by decide +kernel
theorem dX5_init_92 : decode cX5_init 92 = .ok (.iconst 2, 1) := by decide +kernel
theorem dX5_init_93 : decode cX5_init 93 = .ok (.iastore, 1) := by decide +kernel
theorem dX5_init_94 : decode cX5_init 94 = .ok (.aload_n 0, 1) := by decide +kernel
theorem dX5_init_95 : decode cX5_init 95 = .ok (.getfield 7, 3) := by decide +kernel
theorem dX5_init_98 : decode cX5_init 98 = .ok (.bipush 6, 2) := by decide +kernel
theorem dX5_init_100 : decode cX5_init 100 = .ok (.bipush 20, 2) := by decide +kernel
theorem dX5_init_102 : decode cX5_init 102 = .ok (.iastore, 1) := by decide +kernel
theorem dX5_init_103 : decode cX5_init 103 = .ok (.aload_n 0, 1) := by decide +kernel
theorem dX5_init_104 : decode cX5_init 104 = .ok (.getfield 7, 3) := by decide +kernel
theorem dX5_init_107 : decode cX5_init 107 = .ok (.bipush 7, 2) := by decide +kernel
theorem dX5_init_109 : decode cX5_init 109 = .ok (.bipush 40, 2) := by decide +kernel
theorem dX5_init_111 : decode cX5_init 111 = .ok (.iastore, 1) := by decide +kernel
theorem dX5_init_112 : decode cX5_init 112 = .ok (.aload_n 0, 1) := by decide +kernel
theorem dX5_init_113 : decode cX5_init 113 = .ok (.getfield 7, 3) := by decide +kernel
theorem dX5_init_116 : decode cX5_init 116 = .ok (.bipush 8, 2) := by decide +kernel
theorem dX5_init_118 : decode cX5_init 118 = .ok (.sipush 200, 3) := by decide +kernel
theorem dX5_init_121 : decode cX5_init 121 = .ok (.iastore, 1) := by decide +kernel
theorem dX5_init_122 : decode cX5_init 122 = .ok (.aload_n 0, 1) := by decide +kernel
theorem dX5_init_123 : decode cX5_init 123 = .ok (.getfield 7, 3) := by decide +kernel
theorem dX5_init_126 : decode cX5_init 126 = .ok (.bipush 9, 2) := by decide +kernel
theorem dX5_init_128 : decode cX5_init 128 = .ok (.bipush 10, 2) := by decide +kernel
theorem dX5_init_130 : decode cX5_init 130 = .ok (.iastore, 1) := by decide +kernel
theorem dX5_init_131 : decode cX5_init 131 = .ok (.aload_n 0, 1) := by decide +kernel
theorem dX5_init_132 : decode cX5_init 132 = .ok (.getfield 7, 3) := by decide +kernel
theorem dX5_init_135 : decode cX5_init 135 = .ok (.bipush 10, 2) := by decide +kernel
theorem dX5_init_137 : decode cX5_init 137 = .ok (.iconst 4, 1) := by decide +kernel
theorem dX5_init_138 : decode cX5_init 138 = .ok (.iastore, 1) := by decide +kernel
theorem dX5_init_139 : decode cX5_init 139 = .ok (.aload_n 0, 1) := by decide +kernel
theorem dX5_init_140 : decode cX5_init 140 = .ok (.getfield 7, 3) := by decide +kernel
theorem dX5_init_143 : decode cX5_init 143 = .ok (.bipush 11, 2) := by decide +kernel
theorem dX5_init_145 : decode cX5_init 145 = .ok (.iconst 1, 1) := by decide +kernel
theorem dX5_init_146 : decode cX5_init 146 = .ok (.iastore, 1) := by decide +kernel
theorem dX5_init_147 : decode cX5_init 147 = .ok (.aload_n 0, 1) := by decide +kernel
theorem dX5_init_148 : decode cX5_init 148 = .ok (.getfield 7, 3) := by decide +kernel
theorem dX5_init_151 : decode cX5_init 151 = .ok (.bipush 13, 2) := by decide +kernel
theorem dX5_init_153 : decode cX5_init 153 = .ok (.iconst 2, 1) := by decide +kernel
theorem dX5_init_154 : decode cX5_init 154 = .ok (.iastore, 1) := by decide +kernel
theorem dX5_init_155 : decode cX5_init 155 = .ok (.aload_n 0, 1) := by decide +kernel
theorem dX5_init_156 : decode cX5_init 156 = .ok (.getfield 7, 3) := by decide +kernel
theorem dX5_init_159 : decode cX5_init 159 = .ok (.bipush 14, 2) := by decide +kernel
theorem dX5_init_161 : decode cX5_init 161 = .ok (.bipush 9, 2) := by decide +kernel
theorem dX5_init_163 : decode cX5_init 163 = .ok (.iastore, 1) := by decide +kernel
theorem dX5_init_164 : decode cX5_init 164 = .ok (.return_, 1) := by decide +kernel
theorem dX5_in_0 : decode cX5_in 0 = .ok (.iload_n 0, 1) := by decide +kernel
theorem dX5_in_1 : decode cX5_in 1 = .ok (.iload_n 1, 1) := by decide +kernel
theorem dX5_in_2 : decode cX5_in 2 = .ok (.if_icmp .lt 12, 3) := by decide +kernel
theorem dX5_in_5 : decode cX5_in 5 = .ok (.iload_n 0, 1) := by decide +kernel
theorem dX5_in_6 : decode cX5_in 6 = .ok (.iload_n 2, 1) := by decide +kernel
theorem dX5_in_7 : decode cX5_in 7 = .ok (.if_icmp .gt 7, 3) := by decide +kernel
theorem dX5_in_10 : decode cX5_in 10 = .ok (.iconst 1, 1) := by decide +kernel
theorem dX5_in_11 : decode cX5_in 11 = .ok (.goto 4, 3) := by decide +kernel
theorem dX5_in_14 : decode cX5_in 14 = .ok (.iconst 0, 1) := by decide +kernel
theorem dX5_in_15 : decode cX5_in 15 = .ok (.ireturn, 1) := by decide +kernel
theorem dX5_copies_0 : decode cX5_copies 0 = .ok (.iconst 0, 1) := by decide +kernel
theorem dX5_copies_1 : decode cX5_copies 1 = .ok (.istore_n 1, 1) := by decide +kernel
theorem dX5_copies_2 : decode cX5_copies 2 = .ok (.iload_n 1, 1) := by decide +kernel
theorem dX5_copies_3 : decode cX5_copies 3 = .ok (.sipush 215, 3) := by decide +kernel
theorem dX5_copies_6 : decode cX5_copies 6 = .ok (.if_icmp .ge 25, 3) := by decide +kernel
theorem dX5_copies_9 : decode cX5_copies 9 = .ok (.aload_n 0, 1) := by decide +kernel
theorem dX5_copies_10 : decode cX5_copies 10 = .ok (.getfield 7, 3) := by decide +kernel
theorem dX5_copies_13 : decode cX5_copies 13 = .ok (.sipush 215, 3) := by decide +kernel
theorem dX5_copies_16 : decode cX5_copies 16 = .ok (.iload_n 1, 1) := by decide +kernel
theorem dX5_copies_17 : decode cX5_copies 17 = .ok (.iadd, 1) := by decide +kernel
theorem dX5_copies_18 : decode cX5_copies 18 = .ok (.aload_n 0, 1) := by decide +kernel
theorem dX5_copies_19 : decode cX5_copies 19 = .ok (.getfield 7, 3) := by decide +kernel
theorem dX5_copies_22 : decode cX5_copies 22 = .ok (.iload_n 1, 1) := by decide +kernel
theorem dX5_copies_23 : decode cX5_copies 23 = .ok (.iaload, 1) := by decide +kernel
theorem dX5_copies_24 : decode cX5_copies 24 = .ok (.iastore, 1) := by decide +kernel
theorem dX5_copies_25 : decode cX5_copies 25 = .ok (.iinc 1 1, 3) := by decide +kernel
theorem dX5_copies_28 : decode cX5_copies 28 = .ok (.goto (-26), 3) := by decide +kernel
theorem dX5_copies_31 : decode cX5_copies 31 = .ok (.return_, 1) := by decide +kernel
theorem dX5_remembers_0 : decode cX5_remembers 0 = .ok (.aload_n 0, 1) := by decide +kernel
theorem dX5_remembers_1 : decode cX5_remembers 1 = .ok (.getfield 25, 3) := by decide +kernel
theorem dX5_remembers_4 : decode cX5_remembers 4 = .ok (.iconst 4, 1) := by decide +kernel
theorem dX5_remembers_5 : decode cX5_remembers 5 = .ok (.if_icmp .ne 44, 3) := by decide +kernel
theorem dX5_remembers_8 : decode cX5_remembers 8 = .ok (.iconst 0, 1) := by decide +kernel
theorem dX5_remembers_9 : decode cX5_remembers 9 = .ok (.istore_n 1, 1) := by decide +kernel
theorem dX5_remembers_10 : decode cX5_remembers 10 = .ok (.iload_n 1, 1) := by decide +kernel
theorem dX5_remembers_11 : decode cX5_remembers 11 = .ok (.sipush 645, 3) := by decide +kernel
theorem dX5_remembers_14 : decode cX5_remembers 14 = .ok (.if_icmp .ge 25, 3) := by decide +kernel
theorem dX5_remembers_17 : decode cX5_remembers 17 = .ok (.aload_n 0, 1) := by decide +kernel
theorem dX5_remembers_18 : decode cX5_remembers 18 = .ok (.getfield 13, 3) := by decide +kernel
theorem dX5_remembers_21 : decode cX5_remembers 21 = .ok (.iload_n 1, 1) := by decide +kernel
theorem dX5_remembers_22 : decode cX5_remembers 22 = .ok (.aload_n 0, 1) := by decide +kernel
theorem dX5_remembers_23 : decode cX5_remembers 23 = .ok (.getfield 13, 3) := by decide +kernel
theorem dX5_remembers_26 : decode cX5_remembers 26 = .ok (.sipush 215, 3) := by decide +kernel
theorem dX5_remembers_29 : decode cX5_remembers 29 = .ok (.iload_n 1, 1) := by decide +kernel
theorem dX5_remembers_30 : decode cX5_remembers 30 = .ok (.iadd, 1) := by decide +kernel
theorem dX5_remembers_31 : decode cX5_remembers 31 = .ok (.iaload, 1) := by decide +kernel
theorem dX5_remembers_32 : decode cX5_remembers 32 = .ok (.iastore, 1) := by decide +kernel
theorem dX5_remembers_33 : decode cX5_remembers 33 = .ok (.iinc 1 1, 3) := by decide +kernel
theorem dX5_remembers_36 : decode cX5_remembers 36 = .ok (.goto (-26), 3) := by decide +kernel
theorem dX5_remembers_39 : decode cX5_remembers 39 = .ok (.aload_n 0, 1) := by decide +kernel
theorem dX5_remembers_40 : decode cX5_remembers 40 = .ok (.dup, 1) := by decide +kernel
theorem dX5_remembers_41 : decode cX5_remembers 41 = .ok (.getfield 25, 3) := by decide +kernel
theorem dX5_remembers_44 : decode cX5_remembers 44 = .ok (.iconst 1, 1) := by decide +kernel
theorem dX5_remembers_45 : decode cX5_remembers 45 = .ok (.isub, 1) := by decide +kernel
theorem dX5_remembers_46 : decode cX5_remembers 46 = .ok (.putfield 25, 3) := by decide +kernel
theorem dX5_remembers_49 : decode cX5_remembers 49 = .ok (.iconst 0, 1) := by decide +kernel
theorem dX5_remembers_50 : decode cX5_remembers 50 = .ok (.istore_n 1, 1) := by decide +kernel
theorem dX5_remembers_51 : decode cX5_remembers 51 = .ok (.iload_n 1, 1) := by decide +kernel
theorem dX5_remembers_52 : decode cX5_remembers 52 = .ok (.sipush 215, 3) := by decide +kernel
theorem dX5_remembers_55 : decode cX5_remembers 55 = .ok (.if_icmp .ge 30, 3) := by decide +kernel
theorem dX5_remembers_58 : decode cX5_remembers 58 = .ok (.aload_n 0, 1) := by decide +kernel
theorem dX5_remembers_59 : decode cX5_remembers 59 = .ok (.getfield 13, 3) := by decide +kernel
theorem dX5_remembers_62 : decode cX5_remembers 62 = .ok (.sipush 215, 3) := by decide +kernel
theorem dX5_remembers_65 : decode cX5_remembers 65 = .ok (.aload_n 0, 1) := by decide +kernel
theorem dX5_remembers_66 : decode cX5_remembers 66 = .ok (.getfield 25, 3) := by decide +kernel
theorem dX5_remembers_69 : decode cX5_remembers 69 = .ok (.imul, 1) := by decide +kernel
theorem dX5_remembers_70 : decode cX5_remembers 70 = .ok (.iload_n 1, 1) := by decide +kernel
theorem dX5_remembers_71 : decode cX5_remembers 71 = .ok (.iadd, 1) := by decide +kernel
theorem dX5_remembers_72 : decode cX5_remembers 72 = .ok (.aload_n 0, 1) := by decide +kernel
theorem dX5_remembers_73 : decode cX5_remembers 73 = .ok (.getfield 7, 3) := by decide +kernel
theorem dX5_remembers_76 : decode cX5_remembers 76 = .ok (.iload_n 1, 1) := by decide +kernel
theorem dX5_remembers_77 : decode cX5_remembers 77 = .ok (.iaload, 1) := by decide +kernel
theorem dX5_remembers_78 : decode cX5_remembers 78 = .ok (.iastore, 1) := by decide +kernel
theorem dX5_remembers_79 : decode cX5_remembers 79 = .ok (.iinc 1 1, 3) := by decide +kernel
theorem dX5_remembers_82 : decode cX5_remembers 82 = .ok (.goto (-31), 3) := by decide +kernel
theorem dX5_remembers_85 : decode cX5_remembers 85 = .ok (.aload_n 0, 1) := by decide +kernel
theorem dX5_remembers_86 : decode cX5_remembers 86 = .ok (.dup, 1) := by decide +kernel
theorem dX5_remembers_87 : decode cX5_remembers 87 = .ok (.getfield 25, 3) := by decide +kernel
theorem dX5_remembers_90 : decode cX5_remembers 90 = .ok (.iconst 1, 1) := by decide +kernel
theorem dX5_remembers_91 : decode cX5_remembers 91 = .ok (.iadd, 1) := by decide +kernel
theorem dX5_remembers_92 : decode cX5_remembers 92 = .ok (.putfield 25, 3) := by decide +kernel
theorem dX5_remembers_95 : decode cX5_remembers 95 = .ok (.return_, 1) := by decide +kernel
theorem dX5_lays_0 : decode cX5_lays 0 = .ok (.aload_n 0, 1) := by decide +kernel
theorem dX5_lays_1 : decode cX5_lays 1 = .ok (.invokevirtual 29, 3) := by decide +kernel
theorem dX5_lays_4 : decode cX5_lays 4 = .ok (.iconst 0, 1) := by decide +kernel
theorem dX5_lays_5 : decode cX5_lays 5 = .ok (.istore_n 1, 1) := by decide +kernel
theorem dX5_lays_6 : decode cX5_lays 6 = .ok (.iload_n 1, 1) := by decide +kernel
theorem dX5_lays_7 : decode cX5_lays 7 = .ok (.sipush 215, 3) := by decide +kernel
theorem dX5_lays_10 : decode cX5_lays 10 = .ok (.if_icmp .ge 25, 3) := by decide +kernel
theorem dX5_lays_13 : decode cX5_lays 13 = .ok (.aload_n 0, 1) := by decide +kernel
theorem dX5_lays_14 : decode cX5_lays 14 = .ok (.getfield 7, 3) := by decide +kernel
theorem dX5_lays_17 : decode cX5_lays 17 = .ok (.iload_n 1, 1) := by decide +kernel
theorem dX5_lays_18 : decode cX5_lays 18 = .ok (.aload_n 0, 1) := by decide +kernel
theorem dX5_lays_19 : decode cX5_lays 19 = .ok (.getfield 7, 3) := by decide +kernel
theorem dX5_lays_22 : decode cX5_lays 22 = .ok (.sipush 215, 3) := by decide +kernel
theorem dX5_lays_25 : decode cX5_lays 25 = .ok (.iload_n 1, 1) := by decide +kernel
theorem dX5_lays_26 : decode cX5_lays 26 = .ok (.iadd, 1) := by decide +kernel
theorem dX5_lays_27 : decode cX5_lays 27 = .ok (.iaload, 1) := by decide +kernel
theorem dX5_lays_28 : decode cX5_lays 28 = .ok (.iastore, 1) := by decide +kernel
theorem dX5_lays_29 : decode cX5_lays 29 = .ok (.iinc 1 1, 3) := by decide +kernel
theorem dX5_lays_32 : decode cX5_lays 32 = .ok (.goto (-26), 3) := by decide +kernel
theorem dX5_lays_35 : decode cX5_lays 35 = .ok (.return_, 1) := by decide +kernel
theorem dX5_at_0 : decode cX5_at 0 = .ok (.iload_n 0, 1) := by decide +kernel
theorem dX5_at_1 : decode cX5_at 1 = .ok (.bipush 23, 2) := by decide +kernel
theorem dX5_at_3 : decode cX5_at 3 = .ok (.iadd, 1) := by decide +kernel
theorem dX5_at_4 : decode cX5_at 4 = .ok (.bipush 8, 2) := by decide +kernel
theorem dX5_at_6 : decode cX5_at 6 = .ok (.iload_n 1, 1) := by decide +kernel
theorem dX5_at_7 : decode cX5_at 7 = .ok (.imul, 1) := by decide +kernel
theorem dX5_at_8 : decode cX5_at 8 = .ok (.iadd, 1) := by decide +kernel
theorem dX5_at_9 : decode cX5_at 9 = .ok (.ireturn, 1) := by decide +kernel
theorem dX5_placeOf_0 : decode cX5_placeOf 0 = .ok (.iconst 0, 1) := by decide +kernel
theorem dX5_placeOf_1 : decode cX5_placeOf 1 = .ok (.istore_n 3, 1) := by decide +kernel
theorem dX5_placeOf_2 : decode cX5_placeOf 2 = .ok (.iload_n 3, 1) := by decide +kernel
theorem dX5_placeOf_3 : decode cX5_placeOf 3 = .ok (.aload_n 0, 1) := by decide +kernel
theorem dX5_placeOf_4 : decode cX5_placeOf 4 = .ok (.getfield 7, 3) := by decide +kernel
theorem dX5_placeOf_7 : decode cX5_placeOf 7 = .ok (.iload_n 1, 1) := by decide +kernel
theorem dX5_placeOf_8 : decode cX5_placeOf 8 = .ok (.bipush 15, 2) := by decide +kernel
theorem dX5_placeOf_10 : decode cX5_placeOf 10 = .ok (.iadd, 1) := by decide +kernel
theorem dX5_placeOf_11 : decode cX5_placeOf 11 = .ok (.iaload, 1) := by decide +kernel
theorem dX5_placeOf_12 : decode cX5_placeOf 12 = .ok (.if_icmp .ge 25, 3) := by decide +kernel
theorem dX5_placeOf_15 : decode cX5_placeOf 15 = .ok (.aload_n 0, 1) := by decide +kernel
theorem dX5_placeOf_16 : decode cX5_placeOf 16 = .ok (.getfield 7, 3) := by decide +kernel
theorem dX5_placeOf_19 : decode cX5_placeOf 19 = .ok (.iload_n 1, 1) := by decide +kernel
theorem dX5_placeOf_20 : decode cX5_placeOf 20 = .ok (.iload_n 3, 1) := by decide +kernel
theorem dX5_placeOf_21 : decode cX5_placeOf 21 = .ok (.invokestatic 32, 3) := by decide +kernel
theorem dX5_placeOf_24 : decode cX5_placeOf 24 = .ok (.iaload, 1) := by decide +kernel
theorem dX5_placeOf_25 : decode cX5_placeOf 25 = .ok (.iload_n 2, 1) := by decide +kernel
theorem dX5_placeOf_26 : decode cX5_placeOf 26 = .ok (.if_icmp .ne 5, 3) := by decide +kernel
theorem dX5_placeOf_29 : decode cX5_placeOf 29 = .ok (.iload_n 3, 1) := by decide +kernel
theorem dX5_placeOf_30 : decode cX5_placeOf 30 = .ok (.ireturn, 1) := by decide +kernel
theorem dX5_placeOf_31 : decode cX5_placeOf 31 = .ok (.iinc 3 1, 3) := by decide +kernel
theorem dX5_placeOf_34 : decode cX5_placeOf 34 = .ok (.goto (-32), 3) := by decide +kernel
theorem dX5_placeOf_37 : decode cX5_placeOf 37 = .ok (.bipush (-5), 2) := by decide +kernel
theorem dX5_placeOf_39 : decode cX5_placeOf 39 = .ok (.ireturn, 1) := by decide +kernel
theorem dX5_on_0 : decode cX5_on 0 = .ok (.iconst 0, 1) := by decide +kernel
theorem dX5_on_1 : decode cX5_on 1 = .ok (.istore 4, 2) := by decide +kernel
theorem dX5_on_3 : decode cX5_on 3 = .ok (.iconst 0, 1) := by decide +kernel
theorem dX5_on_4 : decode cX5_on 4 = .ok (.istore 5, 2) := by decide +kernel
theorem dX5_on_6 : decode cX5_on 6 = .ok (.iload 5, 2) := by decide +kernel
theorem dX5_on_8 : decode cX5_on 8 = .ok (.aload_n 0, 1) := by decide +kernel
theorem dX5_on_9 : decode cX5_on 9 = .ok (.getfield 7, 3) := by decide +kernel
theorem dX5_on_12 : decode cX5_on 12 = .ok (.iload_n 1, 1) := by decide +kernel
theorem dX5_on_13 : decode cX5_on 13 = .ok (.bipush 15, 2) := by decide +kernel
theorem dX5_on_15 : decode cX5_on 15 = .ok (.iadd, 1) := by decide +kernel
theorem dX5_on_16 : decode cX5_on 16 = .ok (.iaload, 1) := by decide +kernel
theorem dX5_on_17 : decode cX5_on 17 = .ok (.if_icmp .ge 60, 3) := by decide +kernel
theorem dX5_on_20 : decode cX5_on 20 = .ok (.iload_n 3, 1) := by decide +kernel
theorem dX5_on_21 : decode cX5_on 21 = .ok (.ifCond .ne 7, 3) := by decide +kernel
theorem dX5_on_24 : decode cX5_on 24 = .ok (.iconst 1, 1) := by decide +kernel
theorem dX5_on_25 : decode cX5_on 25 = .ok (.goto 16, 3) := by decide +kernel
theorem dX5_on_28 : decode cX5_on 28 = .ok (.aload_n 0, 1) := by decide +kernel
theorem dX5_on_29 : decode cX5_on 29 = .ok (.getfield 7, 3) := by decide +kernel
theorem dX5_on_32 : decode cX5_on 32 = .ok (.iload_n 1, 1) := by decide +kernel
theorem dX5_on_33 : decode cX5_on 33 = .ok (.iload 5, 2) := by decide +kernel
theorem dX5_on_35 : decode cX5_on 35 = .ok (.invokestatic 32, 3) := by decide +kernel
theorem dX5_on_38 : decode cX5_on 38 = .ok (.iload_n 3, 1) := by decide +kernel
theorem dX5_on_39 : decode cX5_on 39 = .ok (.iadd, 1) := by decide +kernel
theorem dX5_on_40 : decode cX5_on 40 = .ok (.iaload, 1) := by decide +kernel
theorem dX5_on_41 : decode cX5_on 41 = .ok (.istore 6, 2) := by decide +kernel
theorem dX5_on_43 : decode cX5_on 43 = .ok (.iload 4, 2) := by decide +kernel
theorem dX5_on_45 : decode cX5_on 45 = .ok (.aload_n 0, 1) := by decide +kernel
theorem dX5_on_46 : decode cX5_on 46 = .ok (.getfield 7, 3) := by decide +kernel
theorem dX5_on_49 : decode cX5_on 49 = .ok (.iload_n 1, 1) := by decide +kernel
theorem dX5_on_50 : decode cX5_on 50 = .ok (.iload 5, 2) := by decide +kernel
theorem dX5_on_52 : decode cX5_on 52 = .ok (.invokestatic 32, 3) := by decide +kernel
theorem dX5_on_55 : decode cX5_on 55 = .ok (.iconst 3, 1) := by decide +kernel
theorem dX5_on_56 : decode cX5_on 56 = .ok (.iadd, 1) := by decide +kernel
theorem dX5_on_57 : decode cX5_on 57 = .ok (.iaload, 1) := by decide +kernel
theorem dX5_on_58 : decode cX5_on 58 = .ok (.iload_n 2, 1) := by decide +kernel
theorem dX5_on_59 : decode cX5_on 59 = .ok (.if_icmp .ne 8, 3) := by decide +kernel
theorem dX5_on_62 : decode cX5_on 62 = .ok (.iload 6, 2) := by decide +kernel
theorem dX5_on_64 : decode cX5_on 64 = .ok (.goto 4, 3) := by decide +kernel
theorem dX5_on_67 : decode cX5_on 67 = .ok (.iconst 0, 1) := by decide +kernel
theorem dX5_on_68 : decode cX5_on 68 = .ok (.iadd, 1) := by decide +kernel
theorem dX5_on_69 : decode cX5_on 69 = .ok (.istore 4, 2) := by decide +kernel
theorem dX5_on_71 : decode cX5_on 71 = .ok (.iinc 5 1, 3) := by decide +kernel
theorem dX5_on_74 : decode cX5_on 74 = .ok (.goto (-68), 3) := by decide +kernel
theorem dX5_on_77 : decode cX5_on 77 = .ok (.iload 4, 2) := by decide +kernel
theorem dX5_on_79 : decode cX5_on 79 = .ok (.ireturn, 1) := by decide +kernel
theorem dX5_hasRoom_0 : decode cX5_hasRoom 0 = .ok (.aload_n 0, 1) := by decide +kernel
theorem dX5_hasRoom_1 : decode cX5_hasRoom 1 = .ok (.iload_n 1, 1) := by decide +kernel
theorem dX5_hasRoom_2 : decode cX5_hasRoom 2 = .ok (.iload_n 2, 1) := by decide +kernel
theorem dX5_hasRoom_3 : decode cX5_hasRoom 3 = .ok (.iconst 1, 1) := by decide +kernel
theorem dX5_hasRoom_4 : decode cX5_hasRoom 4 = .ok (.invokevirtual 36, 3) := by decide +kernel
theorem dX5_hasRoom_7 : decode cX5_hasRoom 7 = .ok (.iload_n 3, 1) := by decide +kernel
theorem dX5_hasRoom_8 : decode cX5_hasRoom 8 = .ok (.iadd, 1) := by decide +kernel
theorem dX5_hasRoom_9 : decode cX5_hasRoom 9 = .ok (.aload_n 0, 1) := by decide +kernel
theorem dX5_hasRoom_10 : decode cX5_hasRoom 10 = .ok (.getfield 7, 3) := by decide +kernel
theorem dX5_hasRoom_13 : decode cX5_hasRoom 13 = .ok (.iload_n 1, 1) := by decide +kernel
theorem dX5_hasRoom_14 : decode cX5_hasRoom 14 = .ok (.bipush 6, 2) := by decide +kernel
theorem dX5_hasRoom_16 : decode cX5_hasRoom 16 = .ok (.iadd, 1) := by decide +kernel
theorem dX5_hasRoom_17 : decode cX5_hasRoom 17 = .ok (.iload_n 2, 1) := by decide +kernel
theorem dX5_hasRoom_18 : decode cX5_hasRoom 18 = .ok (.iadd, 1) := by decide +kernel
theorem dX5_hasRoom_19 : decode cX5_hasRoom 19 = .ok (.iaload, 1) := by decide +kernel
theorem dX5_hasRoom_20 : decode cX5_hasRoom 20 = .ok (.if_icmp .gt 7, 3) := by decide +kernel
theorem dX5_hasRoom_23 : decode cX5_hasRoom 23 = .ok (.iconst 1, 1) := by decide +kernel
theorem dX5_hasRoom_24 : decode cX5_hasRoom 24 = .ok (.goto 4, 3) := by decide +kernel
theorem dX5_hasRoom_27 : decode cX5_hasRoom 27 = .ok (.iconst 0, 1) := by decide +kernel
theorem dX5_hasRoom_28 : decode cX5_hasRoom 28 = .ok (.ireturn, 1) := by decide +kernel
theorem dX5_wanted_0 : decode cX5_wanted 0 = .ok (.aload_n 0, 1) := by decide +kernel
theorem dX5_wanted_1 : decode cX5_wanted 1 = .ok (.getfield 7, 3) := by decide +kernel
theorem dX5_wanted_4 : decode cX5_wanted 4 = .ok (.iload_n 1, 1) := by decide +kernel
theorem dX5_wanted_5 : decode cX5_wanted 5 = .ok (.iload_n 2, 1) := by decide +kernel
theorem dX5_wanted_6 : decode cX5_wanted 6 = .ok (.invokestatic 32, 3) := by decide +kernel
theorem dX5_wanted_9 : decode cX5_wanted 9 = .ok (.iconst 2, 1) := by decide +kernel
theorem dX5_wanted_10 : decode cX5_wanted 10 = .ok (.iadd, 1) := by decide +kernel
theorem dX5_wanted_11 : decode cX5_wanted 11 = .ok (.iaload, 1) := by decide +kernel
theorem dX5_wanted_12 : decode cX5_wanted 12 = .ok (.istore_n 3, 1) := by decide +kernel
theorem dX5_wanted_13 : decode cX5_wanted 13 = .ok (.iload_n 3, 1) := by decide +kernel
theorem dX5_wanted_14 : decode cX5_wanted 14 = .ok (.aload_n 0, 1) := by decide +kernel
theorem dX5_wanted_15 : decode cX5_wanted 15 = .ok (.getfield 7, 3) := by decide +kernel
theorem dX5_wanted_18 : decode cX5_wanted 18 = .ok (.iload_n 1, 1) := by decide +kernel
theorem dX5_wanted_19 : decode cX5_wanted 19 = .ok (.iconst 1, 1) := by decide +kernel
theorem dX5_wanted_20 : decode cX5_wanted 20 = .ok (.iadd, 1) := by decide +kernel
theorem dX5_wanted_21 : decode cX5_wanted 21 = .ok (.iaload, 1) := by decide +kernel
theorem dX5_wanted_22 : decode cX5_wanted 22 = .ok (.if_icmp .lt 7, 3) := by decide +kernel
theorem dX5_wanted_25 : decode cX5_wanted 25 = .ok (.iconst 0, 1) := by decide +kernel
theorem dX5_wanted_26 : decode cX5_wanted 26 = .ok (.goto 20, 3) := by decide +kernel
theorem dX5_wanted_29 : decode cX5_wanted 29 = .ok (.iload_n 3, 1) := by decide +kernel
theorem dX5_wanted_30 : decode cX5_wanted 30 = .ok (.aload_n 0, 1) := by decide +kernel
theorem dX5_wanted_31 : decode cX5_wanted 31 = .ok (.getfield 7, 3) := by decide +kernel
theorem dX5_wanted_34 : decode cX5_wanted 34 = .ok (.iload_n 1, 1) := by decide +kernel
theorem dX5_wanted_35 : decode cX5_wanted 35 = .ok (.iconst 2, 1) := by decide +kernel
theorem dX5_wanted_36 : decode cX5_wanted 36 = .ok (.iadd, 1) := by decide +kernel
theorem dX5_wanted_37 : decode cX5_wanted 37 = .ok (.iaload, 1) := by decide +kernel
theorem dX5_wanted_38 : decode cX5_wanted 38 = .ok (.if_icmp .lt 7, 3) := by decide +kernel
theorem dX5_wanted_41 : decode cX5_wanted 41 = .ok (.iconst 1, 1) := by decide +kernel
theorem dX5_wanted_42 : decode cX5_wanted 42 = .ok (.goto 4, 3) := by decide +kernel
theorem dX5_wanted_45 : decode cX5_wanted 45 = .ok (.iconst 2, 1) := by decide +kernel
theorem dX5_wanted_46 : decode cX5_wanted 46 = .ok (.ireturn, 1) := by decide +kernel
theorem dX5_target_0 : decode cX5_target 0 = .ok (.aload_n 0, 1) := by decide +kernel
theorem dX5_target_1 : decode cX5_target 1 = .ok (.getfield 7, 3) := by decide +kernel
theorem dX5_target_4 : decode cX5_target 4 = .ok (.iload_n 1, 1) := by decide +kernel
theorem dX5_target_5 : decode cX5_target 5 = .ok (.iload_n 2, 1) := by decide +kernel
theorem dX5_target_6 : decode cX5_target 6 = .ok (.invokestatic 32, 3) := by decide +kernel
theorem dX5_target_9 : decode cX5_target 9 = .ok (.iconst 1, 1) := by decide +kernel
theorem dX5_target_10 : decode cX5_target 10 = .ok (.iadd, 1) := by decide +kernel
theorem dX5_target_11 : decode cX5_target 11 = .ok (.iaload, 1) := by decide +kernel
theorem dX5_target_12 : decode cX5_target 12 = .ok (.istore_n 3, 1) := by decide +kernel
theorem dX5_target_13 : decode cX5_target 13 = .ok (.aload_n 0, 1) := by decide +kernel
theorem dX5_target_14 : decode cX5_target 14 = .ok (.iload_n 1, 1) := by decide +kernel
theorem dX5_target_15 : decode cX5_target 15 = .ok (.iload_n 2, 1) := by decide +kernel
theorem dX5_target_16 : decode cX5_target 16 = .ok (.invokevirtual 40, 3) := by decide +kernel
theorem dX5_target_19 : decode cX5_target 19 = .ok (.istore 4, 2) := by decide +kernel
theorem dX5_target_21 : decode cX5_target 21 = .ok (.aload_n 0, 1) := by decide +kernel
theorem dX5_target_22 : decode cX5_target 22 = .ok (.iload_n 1, 1) := by decide +kernel
theorem dX5_target_23 : decode cX5_target 23 = .ok (.iload 4, 2) := by decide +kernel
theorem dX5_target_25 : decode cX5_target 25 = .ok (.iload_n 3, 1) := by decide +kernel
theorem dX5_target_26 : decode cX5_target 26 = .ok (.invokevirtual 43, 3) := by decide +kernel
theorem dX5_target_29 : decode cX5_target 29 = .ok (.ifCond .eq 6, 3) := by decide +kernel
theorem dX5_target_32 : decode cX5_target 32 = .ok (.iload 4, 2) := by decide +kernel
theorem dX5_target_34 : decode cX5_target 34 = .ok (.ireturn, 1) := by decide +kernel
theorem dX5_target_35 : decode cX5_target 35 = .ok (.iload 4, 2) := by decide +kernel
theorem dX5_target_37 : decode cX5_target 37 = .ok (.aload_n 0, 1) := by decide +kernel
theorem dX5_target_38 : decode cX5_target 38 = .ok (.getfield 7, 3) := by decide +kernel
theorem dX5_target_41 : decode cX5_target 41 = .ok (.iload_n 1, 1) := by decide +kernel
theorem dX5_target_42 : decode cX5_target 42 = .ok (.iload_n 2, 1) := by decide +kernel
theorem dX5_target_43 : decode cX5_target 43 = .ok (.invokestatic 32, 3) := by decide +kernel
theorem dX5_target_46 : decode cX5_target 46 = .ok (.iconst 3, 1) := by decide +kernel
theorem dX5_target_47 : decode cX5_target 47 = .ok (.iadd, 1) := by decide +kernel
theorem dX5_target_48 : decode cX5_target 48 = .ok (.iaload, 1) := by decide +kernel
theorem dX5_target_49 : decode cX5_target 49 = .ok (.isub, 1) := by decide +kernel
theorem dX5_target_50 : decode cX5_target 50 = .ok (.iconst 2, 1) := by decide +kernel
theorem dX5_target_51 : decode cX5_target 51 = .ok (.if_icmp .eq 22, 3) := by decide +kernel
theorem dX5_target_54 : decode cX5_target 54 = .ok (.aload_n 0, 1) := by decide +kernel
theorem dX5_target_55 : decode cX5_target 55 = .ok (.getfield 7, 3) := by decide +kernel
theorem dX5_target_58 : decode cX5_target 58 = .ok (.iload_n 1, 1) := by decide +kernel
theorem dX5_target_59 : decode cX5_target 59 = .ok (.iload_n 2, 1) := by decide +kernel
theorem dX5_target_60 : decode cX5_target 60 = .ok (.invokestatic 32, 3) := by decide +kernel
theorem dX5_target_63 : decode cX5_target 63 = .ok (.iconst 3, 1) := by decide +kernel
theorem dX5_target_64 : decode cX5_target 64 = .ok (.iadd, 1) := by decide +kernel
theorem dX5_target_65 : decode cX5_target 65 = .ok (.iaload, 1) := by decide +kernel
theorem dX5_target_66 : decode cX5_target 66 = .ok (.iload 4, 2) := by decide +kernel
theorem dX5_target_68 : decode cX5_target 68 = .ok (.isub, 1) := by decide +kernel
theorem dX5_target_69 : decode cX5_target 69 = .ok (.iconst 2, 1) := by decide +kernel
theorem dX5_target_70 : decode cX5_target 70 = .ok (.if_icmp .ne 7, 3) := by decide +kernel
theorem dX5_target_73 : decode cX5_target 73 = .ok (.iconst 1, 1) := by decide +kernel
theorem dX5_target_74 : decode cX5_target 74 = .ok (.goto 4, 3) := by decide +kernel
theorem dX5_target_77 : decode cX5_target 77 = .ok (.iconst 0, 1) := by decide +kernel
theorem dX5_target_78 : decode cX5_target 78 = .ok (.istore 5, 2) := by decide +kernel
theorem dX5_target_80 : decode cX5_target 80 = .ok (.iload 5, 2) := by decide +kernel
theorem dX5_target_82 : decode cX5_target 82 = .ok (.ifCond .eq 17, 3) := by decide +kernel
theorem dX5_target_85 : decode cX5_target 85 = .ok (.aload_n 0, 1) := by decide +kernel
theorem dX5_target_86 : decode cX5_target 86 = .ok (.iload_n 1, 1) := by decide +kernel
theorem dX5_target_87 : decode cX5_target 87 = .ok (.iconst 1, 1) := by decide +kernel
theorem dX5_target_88 : decode cX5_target 88 = .ok (.iload_n 3, 1) := by decide +kernel
theorem dX5_target_89 : decode cX5_target 89 = .ok (.invokevirtual 43, 3) := by decide +kernel
theorem dX5_target_92 : decode cX5_target 92 = .ok (.ifCond .eq 7, 3) := by decide +kernel
theorem dX5_target_95 : decode cX5_target 95 = .ok (.iconst 1, 1) := by decide +kernel
theorem dX5_target_96 : decode cX5_target 96 = .ok (.goto 5, 3) := by decide +kernel
theorem dX5_target_99 : decode cX5_target 99 = .ok (.bipush (-5), 2) := by decide +kernel
theorem dX5_target_101 : decode cX5_target 101 = .ok (.ireturn, 1) := by decide +kernel
theorem dX5_next_0 : decode cX5_next 0 = .ok (.bipush (-5), 2) := by decide +kernel
theorem dX5_next_2 : decode cX5_next 2 = .ok (.istore_n 3, 1) := by decide +kernel
theorem dX5_next_3 : decode cX5_next 3 = .ok (.iconst 0, 1) := by decide +kernel
theorem dX5_next_4 : decode cX5_next 4 = .ok (.istore 4, 2) := by decide +kernel
theorem dX5_next_6 : decode cX5_next 6 = .ok (.iload 4, 2) := by decide +kernel
theorem dX5_next_8 : decode cX5_next 8 = .ok (.aload_n 0, 1) := by decide +kernel
theorem dX5_next_9 : decode cX5_next 9 = .ok (.getfield 7, 3) := by decide +kernel
theorem dX5_next_12 : decode cX5_next 12 = .ok (.iload_n 1, 1) := by decide +kernel
theorem dX5_next_13 : decode cX5_next 13 = .ok (.bipush 15, 2) := by decide +kernel
theorem dX5_next_15 : decode cX5_next 15 = .ok (.iadd, 1) := by decide +kernel
theorem dX5_next_16 : decode cX5_next 16 = .ok (.iaload, 1) := by decide +kernel
theorem dX5_next_17 : decode cX5_next 17 = .ok (.if_icmp .ge 132, 3) := by decide +kernel
theorem dX5_next_20 : decode cX5_next 20 = .ok (.aload_n 0, 1) := by decide +kernel
theorem dX5_next_21 : decode cX5_next 21 = .ok (.getfield 22, 3) := by decide +kernel
theorem dX5_next_24 : decode cX5_next 24 = .ok (.iload 4, 2) := by decide +kernel
theorem dX5_next_26 : decode cX5_next 26 = .ok (.iaload, 1) := by decide +kernel
theorem dX5_next_27 : decode cX5_next 27 = .ok (.iconst (-1), 1) := by decide +kernel
theorem dX5_next_28 : decode cX5_next 28 = .ok (.if_icmp .ne 39, 3) := by decide +kernel
theorem dX5_next_31 : decode cX5_next 31 = .ok (.aload_n 0, 1) := by decide +kernel
theorem dX5_next_32 : decode cX5_next 32 = .ok (.iload_n 1, 1) := by decide +kernel
theorem dX5_next_33 : decode cX5_next 33 = .ok (.iload 4, 2) := by decide +kernel
theorem dX5_next_35 : decode cX5_next 35 = .ok (.invokevirtual 40, 3) := by decide +kernel
theorem dX5_next_38 : decode cX5_next 38 = .ok (.aload_n 0, 1) := by decide +kernel
theorem dX5_next_39 : decode cX5_next 39 = .ok (.getfield 7, 3) := by decide +kernel
theorem dX5_next_42 : decode cX5_next 42 = .ok (.iload_n 1, 1) := by decide +kernel
theorem dX5_next_43 : decode cX5_next 43 = .ok (.iload 4, 2) := by decide +kernel
theorem dX5_next_45 : decode cX5_next 45 = .ok (.invokestatic 32, 3) := by decide +kernel
theorem dX5_next_48 : decode cX5_next 48 = .ok (.iconst 3, 1) := by decide +kernel
theorem dX5_next_49 : decode cX5_next 49 = .ok (.iadd, 1) := by decide +kernel
theorem dX5_next_50 : decode cX5_next 50 = .ok (.iaload, 1) := by decide +kernel
theorem dX5_next_51 : decode cX5_next 51 = .ok (.if_icmp .le 7, 3) := by decide +kernel
theorem dX5_next_54 : decode cX5_next 54 = .ok (.iconst 1, 1) := by decide +kernel
theorem dX5_next_55 : decode cX5_next 55 = .ok (.goto 4, 3) := by decide +kernel
theorem dX5_next_58 : decode cX5_next 58 = .ok (.iconst 0, 1) := by decide +kernel
theorem dX5_next_59 : decode cX5_next 59 = .ok (.iload_n 2, 1) := by decide +kernel
theorem dX5_next_60 : decode cX5_next 60 = .ok (.if_icmp .ne 7, 3) := by decide +kernel
theorem dX5_next_63 : decode cX5_next 63 = .ok (.iconst 1, 1) := by decide +kernel
theorem dX5_next_64 : decode cX5_next 64 = .ok (.goto 4, 3) := by decide +kernel
theorem dX5_next_67 : decode cX5_next 67 = .ok (.iconst 0, 1) := by decide +kernel
theorem dX5_next_68 : decode cX5_next 68 = .ok (.istore 5, 2) := by decide +kernel
theorem dX5_next_70 : decode cX5_next 70 = .ok (.iload_n 3, 1) := by decide +kernel
theorem dX5_next_71 : decode cX5_next 71 = .ok (.bipush (-5), 2) := by decide +kernel
theorem dX5_next_73 : decode cX5_next 73 = .ok (.if_icmp .ne 7, 3) := by decide +kernel
theorem dX5_next_76 : decode cX5_next 76 = .ok (.iconst 0, 1) := by decide +kernel
theorem dX5_next_77 : decode cX5_next 77 = .ok (.goto 29, 3) := by decide +kernel
theorem dX5_next_80 : decode cX5_next 80 = .ok (.aload_n 0, 1) := by decide +kernel
theorem dX5_next_81 : decode cX5_next 81 = .ok (.getfield 7, 3) := by decide +kernel
theorem dX5_next_84 : decode cX5_next 84 = .ok (.iload_n 1, 1) := by decide +kernel
theorem dX5_next_85 : decode cX5_next 85 = .ok (.iload 4, 2) := by decide +kernel
theorem dX5_next_87 : decode cX5_next 87 = .ok (.invokestatic 32, 3) := by decide +kernel
theorem dX5_next_90 : decode cX5_next 90 = .ok (.iconst 2, 1) := by decide +kernel
theorem dX5_next_91 : decode cX5_next 91 = .ok (.iadd, 1) := by decide +kernel
theorem dX5_next_92 : decode cX5_next 92 = .ok (.iaload, 1) := by decide +kernel
theorem dX5_next_93 : decode cX5_next 93 = .ok (.aload_n 0, 1) := by decide +kernel
theorem dX5_next_94 : decode cX5_next 94 = .ok (.getfield 7, 3) := by decide +kernel
theorem dX5_next_97 : decode cX5_next 97 = .ok (.iload_n 1, 1) := by decide +kernel
theorem dX5_next_98 : decode cX5_next 98 = .ok (.iload_n 3, 1) := by decide +kernel
theorem dX5_next_99 : decode cX5_next 99 = .ok (.invokestatic 32, 3) := by decide +kernel
theorem dX5_next_102 : decode cX5_next 102 = .ok (.iconst 2, 1) := by decide +kernel
theorem dX5_next_103 : decode cX5_next 103 = .ok (.iadd, 1) := by decide +kernel
theorem dX5_next_104 : decode cX5_next 104 = .ok (.iaload, 1) := by decide +kernel
theorem dX5_next_105 : decode cX5_next 105 = .ok (.isub, 1) := by decide +kernel
theorem dX5_next_106 : decode cX5_next 106 = .ok (.istore 6, 2) := by decide +kernel
theorem dX5_next_108 : decode cX5_next 108 = .ok (.iload 5, 2) := by decide +kernel
theorem dX5_next_110 : decode cX5_next 110 = .ok (.ifCond .eq 31, 3) := by decide +kernel
theorem dX5_next_113 : decode cX5_next 113 = .ok (.iload_n 3, 1) := by decide +kernel
theorem dX5_next_114 : decode cX5_next 114 = .ok (.bipush (-5), 2) := by decide +kernel
theorem dX5_next_116 : decode cX5_next 116 = .ok (.if_icmp .eq 20, 3) := by decide +kernel
theorem dX5_next_119 : decode cX5_next 119 = .ok (.iload_n 2, 1) := by decide +kernel
theorem dX5_next_120 : decode cX5_next 120 = .ok (.ifCond .eq 11, 3) := by decide +kernel
theorem dX5_next_123 : decode cX5_next 123 = .ok (.iload 6, 2) := by decide +kernel
theorem dX5_next_125 : decode cX5_next 125 = .ok (.ifCond .ge 16, 3) := by decide +kernel
theorem dX5_next_128 : decode cX5_next 128 = .ok (.goto 8, 3) := by decide +kernel
theorem dX5_next_131 : decode cX5_next 131 = .ok (.iload 6, 2) := by decide +kernel
theorem dX5_next_133 : decode cX5_next 133 = .ok (.ifCond .le 8, 3) := by decide +kernel
theorem dX5_next_136 : decode cX5_next 136 = .ok (.iload 4, 2) := by decide +kernel
theorem dX5_next_138 : decode cX5_next 138 = .ok (.goto 4, 3) := by decide +kernel
theorem dX5_next_141 : decode cX5_next 141 = .ok (.iload_n 3, 1) := by decide +kernel
theorem dX5_next_142 : decode cX5_next 142 = .ok (.istore_n 3, 1) := by decide +kernel
theorem dX5_next_143 : decode cX5_next 143 = .ok (.iinc 4 1, 3) := by decide +kernel
theorem dX5_next_146 : decode cX5_next 146 = .ok (.goto (-140), 3) := by decide +kernel
theorem dX5_next_149 : decode cX5_next 149 = .ok (.iload_n 3, 1) := by decide +kernel
theorem dX5_next_150 : decode cX5_next 150 = .ok (.ireturn, 1) := by decide +kernel
theorem dX5_turns_0 : decode cX5_turns 0 = .ok (.iload_n 3, 1) := by decide +kernel
theorem dX5_turns_1 : decode cX5_turns 1 = .ok (.istore 4, 2) := by decide +kernel
theorem dX5_turns_3 : decode cX5_turns 3 = .ok (.aload_n 0, 1) := by decide +kernel
theorem dX5_turns_4 : decode cX5_turns 4 = .ok (.iload_n 1, 1) := by decide +kernel
theorem dX5_turns_5 : decode cX5_turns 5 = .ok (.iload_n 2, 1) := by decide +kernel
theorem dX5_turns_6 : decode cX5_turns 6 = .ok (.invokevirtual 47, 3) := by decide +kernel
theorem dX5_turns_9 : decode cX5_turns 9 = .ok (.istore 5, 2) := by decide +kernel
theorem dX5_turns_11 : decode cX5_turns 11 = .ok (.iload 5, 2) := by decide +kernel
theorem dX5_turns_13 : decode cX5_turns 13 = .ok (.bipush (-5), 2) := by decide +kernel
theorem dX5_turns_15 : decode cX5_turns 15 = .ok (.if_icmp .eq 151, 3) := by decide +kernel
theorem dX5_turns_18 : decode cX5_turns 18 = .ok (.iload 4, 2) := by decide +kernel
theorem dX5_turns_20 : decode cX5_turns 20 = .ok (.aload_n 0, 1) := by decide +kernel
theorem dX5_turns_21 : decode cX5_turns 21 = .ok (.getfield 7, 3) := by decide +kernel
theorem dX5_turns_24 : decode cX5_turns 24 = .ok (.iload_n 1, 1) := by decide +kernel
theorem dX5_turns_25 : decode cX5_turns 25 = .ok (.iconst 3, 1) := by decide +kernel
theorem dX5_turns_26 : decode cX5_turns 26 = .ok (.iadd, 1) := by decide +kernel
theorem dX5_turns_27 : decode cX5_turns 27 = .ok (.iaload, 1) := by decide +kernel
theorem dX5_turns_28 : decode cX5_turns 28 = .ok (.if_icmp .ge 13, 3) := by decide +kernel
theorem dX5_turns_31 : decode cX5_turns 31 = .ok (.aload_n 0, 1) := by decide +kernel
theorem dX5_turns_32 : decode cX5_turns 32 = .ok (.iload_n 1, 1) := by decide +kernel
theorem dX5_turns_33 : decode cX5_turns 33 = .ok (.iload 5, 2) := by decide +kernel
theorem dX5_turns_35 : decode cX5_turns 35 = .ok (.invokevirtual 51, 3) := by decide +kernel
theorem dX5_turns_38 : decode cX5_turns 38 = .ok (.goto 5, 3) := by decide +kernel
theorem dX5_turns_41 : decode cX5_turns 41 = .ok (.bipush (-5), 2) := by decide +kernel
theorem dX5_turns_43 : decode cX5_turns 43 = .ok (.istore 6, 2) := by decide +kernel
theorem dX5_turns_45 : decode cX5_turns 45 = .ok (.aload_n 0, 1) := by decide +kernel
theorem dX5_turns_46 : decode cX5_turns 46 = .ok (.getfield 22, 3) := by decide +kernel
theorem dX5_turns_49 : decode cX5_turns 49 = .ok (.iload 5, 2) := by decide +kernel
theorem dX5_turns_51 : decode cX5_turns 51 = .ok (.iload 4, 2) := by decide +kernel
theorem dX5_turns_53 : decode cX5_turns 53 = .ok (.aload_n 0, 1) := by decide +kernel
theorem dX5_turns_54 : decode cX5_turns 54 = .ok (.getfield 7, 3) := by decide +kernel
theorem dX5_turns_57 : decode cX5_turns 57 = .ok (.iload_n 1, 1) := by decide +kernel
theorem dX5_turns_58 : decode cX5_turns 58 = .ok (.iconst 3, 1) := by decide +kernel
theorem dX5_turns_59 : decode cX5_turns 59 = .ok (.iadd, 1) := by decide +kernel
theorem dX5_turns_60 : decode cX5_turns 60 = .ok (.iaload, 1) := by decide +kernel
theorem dX5_turns_61 : decode cX5_turns 61 = .ok (.if_icmp .ne 7, 3) := by decide +kernel
theorem dX5_turns_64 : decode cX5_turns 64 = .ok (.iconst 4, 1) := by decide +kernel
theorem dX5_turns_65 : decode cX5_turns 65 = .ok (.goto 15, 3) := by decide +kernel
theorem dX5_turns_68 : decode cX5_turns 68 = .ok (.iload 6, 2) := by decide +kernel
theorem dX5_turns_70 : decode cX5_turns 70 = .ok (.bipush (-5), 2) := by decide +kernel
theorem dX5_turns_72 : decode cX5_turns 72 = .ok (.if_icmp .ne 7, 3) := by decide +kernel
theorem dX5_turns_75 : decode cX5_turns 75 = .ok (.iconst 5, 1) := by decide +kernel
theorem dX5_turns_76 : decode cX5_turns 76 = .ok (.goto 4, 3) := by decide +kernel
theorem dX5_turns_79 : decode cX5_turns 79 = .ok (.iconst 0, 1) := by decide +kernel
theorem dX5_turns_80 : decode cX5_turns 80 = .ok (.iastore, 1) := by decide +kernel
theorem dX5_turns_81 : decode cX5_turns 81 = .ok (.iload 6, 2) := by decide +kernel
theorem dX5_turns_83 : decode cX5_turns 83 = .ok (.bipush (-5), 2) := by decide +kernel
theorem dX5_turns_85 : decode cX5_turns 85 = .ok (.if_icmp .eq 70, 3) := by decide +kernel
theorem dX5_turns_88 : decode cX5_turns 88 = .ok (.aload_n 0, 1) := by decide +kernel
theorem dX5_turns_89 : decode cX5_turns 89 = .ok (.getfield 7, 3) := by decide +kernel
theorem dX5_turns_92 : decode cX5_turns 92 = .ok (.iload_n 1, 1) := by decide +kernel
theorem dX5_turns_93 : decode cX5_turns 93 = .ok (.iload 5, 2) := by decide +kernel
theorem dX5_turns_95 : decode cX5_turns 95 = .ok (.invokestatic 32, 3) := by decide +kernel
theorem dX5_turns_98 : decode cX5_turns 98 = .ok (.iconst 3, 1) := by decide +kernel
theorem dX5_turns_99 : decode cX5_turns 99 = .ok (.iadd, 1) := by decide +kernel
theorem dX5_turns_100 : decode cX5_turns 100 = .ok (.iload 6, 2) := by decide +kernel
theorem dX5_turns_102 : decode cX5_turns 102 = .ok (.iastore, 1) := by decide +kernel
theorem dX5_turns_103 : decode cX5_turns 103 = .ok (.aload_n 0, 1) := by decide +kernel
theorem dX5_turns_104 : decode cX5_turns 104 = .ok (.getfield 7, 3) := by decide +kernel
theorem dX5_turns_107 : decode cX5_turns 107 = .ok (.iload_n 1, 1) := by decide +kernel
theorem dX5_turns_108 : decode cX5_turns 108 = .ok (.iload 5, 2) := by decide +kernel
theorem dX5_turns_110 : decode cX5_turns 110 = .ok (.invokestatic 32, 3) := by decide +kernel
theorem dX5_turns_113 : decode cX5_turns 113 = .ok (.iconst 5, 1) := by decide +kernel
theorem dX5_turns_114 : decode cX5_turns 114 = .ok (.iadd, 1) := by decide +kernel
theorem dX5_turns_115 : decode cX5_turns 115 = .ok (.iload 6, 2) := by decide +kernel
theorem dX5_turns_117 : decode cX5_turns 117 = .ok (.iconst 2, 1) := by decide +kernel
theorem dX5_turns_118 : decode cX5_turns 118 = .ok (.if_icmp .ne 14, 3) := by decide +kernel
theorem dX5_turns_121 : decode cX5_turns 121 = .ok (.aload_n 0, 1) := by decide +kernel
theorem dX5_turns_122 : decode cX5_turns 122 = .ok (.getfield 7, 3) := by decide +kernel
theorem dX5_turns_125 : decode cX5_turns 125 = .ok (.iload_n 1, 1) := by decide +kernel
theorem dX5_turns_126 : decode cX5_turns 126 = .ok (.iconst 4, 1) := by decide +kernel
theorem dX5_turns_127 : decode cX5_turns 127 = .ok (.iadd, 1) := by decide +kernel
theorem dX5_turns_128 : decode cX5_turns 128 = .ok (.iaload, 1) := by decide +kernel
theorem dX5_turns_129 : decode cX5_turns 129 = .ok (.goto 4, 3) := by decide +kernel
theorem dX5_turns_132 : decode cX5_turns 132 = .ok (.iconst 0, 1) := by decide +kernel
theorem dX5_turns_133 : decode cX5_turns 133 = .ok (.iastore, 1) := by decide +kernel
theorem dX5_turns_134 : decode cX5_turns 134 = .ok (.aload_n 0, 1) := by decide +kernel
theorem dX5_turns_135 : decode cX5_turns 135 = .ok (.getfield 7, 3) := by decide +kernel
theorem dX5_turns_138 : decode cX5_turns 138 = .ok (.iload_n 1, 1) := by decide +kernel
theorem dX5_turns_139 : decode cX5_turns 139 = .ok (.iload 5, 2) := by decide +kernel
theorem dX5_turns_141 : decode cX5_turns 141 = .ok (.invokestatic 32, 3) := by decide +kernel
theorem dX5_turns_144 : decode cX5_turns 144 = .ok (.bipush 7, 2) := by decide +kernel
theorem dX5_turns_146 : decode cX5_turns 146 = .ok (.iadd, 1) := by decide +kernel
theorem dX5_turns_147 : decode cX5_turns 147 = .ok (.dup2, 1) := by decide +kernel
theorem dX5_turns_148 : decode cX5_turns 148 = .ok (.iaload, 1) := by decide +kernel
theorem dX5_turns_149 : decode cX5_turns 149 = .ok (.iconst 1, 1) := by decide +kernel
theorem dX5_turns_150 : decode cX5_turns 150 = .ok (.iadd, 1) := by decide +kernel
theorem dX5_turns_151 : decode cX5_turns 151 = .ok (.iastore, 1) := by decide +kernel
theorem dX5_turns_152 : decode cX5_turns 152 = .ok (.iinc 4 1, 3) := by decide +kernel
theorem dX5_turns_155 : decode cX5_turns 155 = .ok (.aload_n 0, 1) := by decide +kernel
theorem dX5_turns_156 : decode cX5_turns 156 = .ok (.iload_n 1, 1) := by decide +kernel
theorem dX5_turns_157 : decode cX5_turns 157 = .ok (.iload_n 2, 1) := by decide +kernel
theorem dX5_turns_158 : decode cX5_turns 158 = .ok (.invokevirtual 47, 3) := by decide +kernel
theorem dX5_turns_161 : decode cX5_turns 161 = .ok (.istore 5, 2) := by decide +kernel
theorem dX5_turns_163 : decode cX5_turns 163 = .ok (.goto (-152), 3) := by decide +kernel
theorem dX5_turns_166 : decode cX5_turns 166 = .ok (.iload 4, 2) := by decide +kernel
theorem dX5_turns_168 : decode cX5_turns 168 = .ok (.ireturn, 1) := by decide +kernel
theorem dX5_costs_0 : decode cX5_costs 0 = .ok (.aload_n 0, 1) := by decide +kernel
theorem dX5_costs_1 : decode cX5_costs 1 = .ok (.iload_n 1, 1) := by decide +kernel
theorem dX5_costs_2 : decode cX5_costs 2 = .ok (.iload_n 2, 1) := by decide +kernel
theorem dX5_costs_3 : decode cX5_costs 3 = .ok (.iconst 1, 1) := by decide +kernel
theorem dX5_costs_4 : decode cX5_costs 4 = .ok (.invokevirtual 36, 3) := by decide +kernel
theorem dX5_costs_7 : decode cX5_costs 7 = .ok (.aload_n 0, 1) := by decide +kernel
theorem dX5_costs_8 : decode cX5_costs 8 = .ok (.getfield 7, 3) := by decide +kernel
theorem dX5_costs_11 : decode cX5_costs 11 = .ok (.iload_n 1, 1) := by decide +kernel
theorem dX5_costs_12 : decode cX5_costs 12 = .ok (.bipush 9, 2) := by decide +kernel
theorem dX5_costs_14 : decode cX5_costs 14 = .ok (.iadd, 1) := by decide +kernel
theorem dX5_costs_15 : decode cX5_costs 15 = .ok (.iload_n 2, 1) := by decide +kernel
theorem dX5_costs_16 : decode cX5_costs 16 = .ok (.iadd, 1) := by decide +kernel
theorem dX5_costs_17 : decode cX5_costs 17 = .ok (.iaload, 1) := by decide +kernel
theorem dX5_costs_18 : decode cX5_costs 18 = .ok (.imul, 1) := by decide +kernel
theorem dX5_costs_19 : decode cX5_costs 19 = .ok (.ireturn, 1) := by decide +kernel
theorem dX5_passesOne_0 : decode cX5_passesOne 0 = .ok (.aload_n 0, 1) := by decide +kernel
theorem dX5_passesOne_1 : decode cX5_passesOne 1 = .ok (.getfield 7, 3) := by decide +kernel
theorem dX5_passesOne_4 : decode cX5_passesOne 4 = .ok (.iload_n 1, 1) := by decide +kernel
theorem dX5_passesOne_5 : decode cX5_passesOne 5 = .ok (.bipush 18, 2) := by decide +kernel
theorem dX5_passesOne_7 : decode cX5_passesOne 7 = .ok (.iadd, 1) := by decide +kernel
theorem dX5_passesOne_8 : decode cX5_passesOne 8 = .ok (.dup2, 1) := by decide +kernel
theorem dX5_passesOne_9 : decode cX5_passesOne 9 = .ok (.iaload, 1) := by decide +kernel
theorem dX5_passesOne_10 : decode cX5_passesOne 10 = .ok (.aload_n 0, 1) := by decide +kernel
theorem dX5_passesOne_11 : decode cX5_passesOne 11 = .ok (.iload_n 1, 1) := by decide +kernel
theorem dX5_passesOne_12 : decode cX5_passesOne 12 = .ok (.iconst 0, 1) := by decide +kernel
theorem dX5_passesOne_13 : decode cX5_passesOne 13 = .ok (.invokevirtual 54, 3) := by decide +kernel
theorem dX5_passesOne_16 : decode cX5_passesOne 16 = .ok (.aload_n 0, 1) := by decide +kernel
theorem dX5_passesOne_17 : decode cX5_passesOne 17 = .ok (.iload_n 1, 1) := by decide +kernel
theorem dX5_passesOne_18 : decode cX5_passesOne 18 = .ok (.iconst 1, 1) := by decide +kernel
theorem dX5_passesOne_19 : decode cX5_passesOne 19 = .ok (.invokevirtual 54, 3) := by decide +kernel
theorem dX5_passesOne_22 : decode cX5_passesOne 22 = .ok (.iadd, 1) := by decide +kernel
theorem dX5_passesOne_23 : decode cX5_passesOne 23 = .ok (.aload_n 0, 1) := by decide +kernel
theorem dX5_passesOne_24 : decode cX5_passesOne 24 = .ok (.iload_n 1, 1) := by decide +kernel
theorem dX5_passesOne_25 : decode cX5_passesOne 25 = .ok (.iconst 2, 1) := by decide +kernel
theorem dX5_passesOne_26 : decode cX5_passesOne 26 = .ok (.invokevirtual 54, 3) := by decide +kernel
theorem dX5_passesOne_29 : decode cX5_passesOne 29 = .ok (.iadd, 1) := by decide +kernel
theorem dX5_passesOne_30 : decode cX5_passesOne 30 = .ok (.iadd, 1) := by decide +kernel
theorem dX5_passesOne_31 : decode cX5_passesOne 31 = .ok (.iastore, 1) := by decide +kernel
theorem dX5_passesOne_32 : decode cX5_passesOne 32 = .ok (.iconst 0, 1) := by decide +kernel
theorem dX5_passesOne_33 : decode cX5_passesOne 33 = .ok (.istore_n 2, 1) := by decide +kernel
theorem dX5_passesOne_34 : decode cX5_passesOne 34 = .ok (.iload_n 2, 1) := by decide +kernel
theorem dX5_passesOne_35 : decode cX5_passesOne 35 = .ok (.aload_n 0, 1) := by decide +kernel
theorem dX5_passesOne_36 : decode cX5_passesOne 36 = .ok (.getfield 7, 3) := by decide +kernel
theorem dX5_passesOne_39 : decode cX5_passesOne 39 = .ok (.iload_n 1, 1) := by decide +kernel
theorem dX5_passesOne_40 : decode cX5_passesOne 40 = .ok (.bipush 15, 2) := by decide +kernel
theorem dX5_passesOne_42 : decode cX5_passesOne 42 = .ok (.iadd, 1) := by decide +kernel
theorem dX5_passesOne_43 : decode cX5_passesOne 43 = .ok (.iaload, 1) := by decide +kernel
theorem dX5_passesOne_44 : decode cX5_passesOne 44 = .ok (.if_icmp .ge 141, 3) := by decide +kernel
theorem dX5_passesOne_47 : decode cX5_passesOne 47 = .ok (.iload_n 1, 1) := by decide +kernel
theorem dX5_passesOne_48 : decode cX5_passesOne 48 = .ok (.iload_n 2, 1) := by decide +kernel
theorem dX5_passesOne_49 : decode cX5_passesOne 49 = .ok (.invokestatic 32, 3) := by decide +kernel
theorem dX5_passesOne_52 : decode cX5_passesOne 52 = .ok (.istore_n 3, 1) := by decide +kernel
theorem dX5_passesOne_53 : decode cX5_passesOne 53 = .ok (.aload_n 0, 1) := by decide +kernel
theorem dX5_passesOne_54 : decode cX5_passesOne 54 = .ok (.getfield 7, 3) := by decide +kernel
theorem dX5_passesOne_57 : decode cX5_passesOne 57 = .ok (.iload_n 3, 1) := by decide +kernel
theorem dX5_passesOne_58 : decode cX5_passesOne 58 = .ok (.iconst 2, 1) := by decide +kernel
theorem dX5_passesOne_59 : decode cX5_passesOne 59 = .ok (.iadd, 1) := by decide +kernel
theorem dX5_passesOne_60 : decode cX5_passesOne 60 = .ok (.aload_n 0, 1) := by decide +kernel
theorem dX5_passesOne_61 : decode cX5_passesOne 61 = .ok (.getfield 7, 3) := by decide +kernel
theorem dX5_passesOne_64 : decode cX5_passesOne 64 = .ok (.iload_n 3, 1) := by decide +kernel
theorem dX5_passesOne_65 : decode cX5_passesOne 65 = .ok (.iconst 2, 1) := by decide +kernel
theorem dX5_passesOne_66 : decode cX5_passesOne 66 = .ok (.iadd, 1) := by decide +kernel
theorem dX5_passesOne_67 : decode cX5_passesOne 67 = .ok (.iaload, 1) := by decide +kernel
theorem dX5_passesOne_68 : decode cX5_passesOne 68 = .ok (.aload_n 0, 1) := by decide +kernel
theorem dX5_passesOne_69 : decode cX5_passesOne 69 = .ok (.getfield 7, 3) := by decide +kernel
theorem dX5_passesOne_72 : decode cX5_passesOne 72 = .ok (.iload_n 1, 1) := by decide +kernel
theorem dX5_passesOne_73 : decode cX5_passesOne 73 = .ok (.iconst 0, 1) := by decide +kernel
theorem dX5_passesOne_74 : decode cX5_passesOne 74 = .ok (.iadd, 1) := by decide +kernel
theorem dX5_passesOne_75 : decode cX5_passesOne 75 = .ok (.iaload, 1) := by decide +kernel
theorem dX5_passesOne_76 : decode cX5_passesOne 76 = .ok (.imul, 1) := by decide +kernel
theorem dX5_passesOne_77 : decode cX5_passesOne 77 = .ok (.bipush 100, 2) := by decide +kernel
theorem dX5_passesOne_79 : decode cX5_passesOne 79 = .ok (.idiv, 1) := by decide +kernel
theorem dX5_passesOne_80 : decode cX5_passesOne 80 = .ok (.iastore, 1) := by decide +kernel
theorem dX5_passesOne_81 : decode cX5_passesOne 81 = .ok (.aload_n 0, 1) := by decide +kernel
theorem dX5_passesOne_82 : decode cX5_passesOne 82 = .ok (.getfield 7, 3) := by decide +kernel
theorem dX5_passesOne_85 : decode cX5_passesOne 85 = .ok (.iload_n 3, 1) := by decide +kernel
theorem dX5_passesOne_86 : decode cX5_passesOne 86 = .ok (.iconst 5, 1) := by decide +kernel
theorem dX5_passesOne_87 : decode cX5_passesOne 87 = .ok (.iadd, 1) := by decide +kernel
theorem dX5_passesOne_88 : decode cX5_passesOne 88 = .ok (.dup2, 1) := by decide +kernel
theorem dX5_passesOne_89 : decode cX5_passesOne 89 = .ok (.iaload, 1) := by decide +kernel
theorem dX5_passesOne_90 : decode cX5_passesOne 90 = .ok (.aload_n 0, 1) := by decide +kernel
theorem dX5_passesOne_91 : decode cX5_passesOne 91 = .ok (.getfield 7, 3) := by decide +kernel
theorem dX5_passesOne_94 : decode cX5_passesOne 94 = .ok (.iload_n 3, 1) := by decide +kernel
theorem dX5_passesOne_95 : decode cX5_passesOne 95 = .ok (.iconst 5, 1) := by decide +kernel
theorem dX5_passesOne_96 : decode cX5_passesOne 96 = .ok (.iadd, 1) := by decide +kernel
theorem dX5_passesOne_97 : decode cX5_passesOne 97 = .ok (.iaload, 1) := by decide +kernel
theorem dX5_passesOne_98 : decode cX5_passesOne 98 = .ok (.ifCond .le 7, 3) := by decide +kernel
theorem dX5_passesOne_101 : decode cX5_passesOne 101 = .ok (.iconst 1, 1) := by decide +kernel
theorem dX5_passesOne_102 : decode cX5_passesOne 102 = .ok (.goto 4, 3) := by decide +kernel
theorem dX5_passesOne_105 : decode cX5_passesOne 105 = .ok (.iconst 0, 1) := by decide +kernel
theorem dX5_passesOne_106 : decode cX5_passesOne 106 = .ok (.isub, 1) := by decide +kernel
theorem dX5_passesOne_107 : decode cX5_passesOne 107 = .ok (.iastore, 1) := by decide +kernel
theorem dX5_passesOne_108 : decode cX5_passesOne 108 = .ok (.aload_n 0, 1) := by decide +kernel
theorem dX5_passesOne_109 : decode cX5_passesOne 109 = .ok (.iload_n 1, 1) := by decide +kernel
theorem dX5_passesOne_110 : decode cX5_passesOne 110 = .ok (.iload_n 2, 1) := by decide +kernel
theorem dX5_passesOne_111 : decode cX5_passesOne 111 = .ok (.invokevirtual 40, 3) := by decide +kernel
theorem dX5_passesOne_114 : decode cX5_passesOne 114 = .ok (.aload_n 0, 1) := by decide +kernel
theorem dX5_passesOne_115 : decode cX5_passesOne 115 = .ok (.getfield 7, 3) := by decide +kernel
theorem dX5_passesOne_118 : decode cX5_passesOne 118 = .ok (.iload_n 3, 1) := by decide +kernel
theorem dX5_passesOne_119 : decode cX5_passesOne 119 = .ok (.iconst 3, 1) := by decide +kernel
theorem dX5_passesOne_120 : decode cX5_passesOne 120 = .ok (.iadd, 1) := by decide +kernel
theorem dX5_passesOne_121 : decode cX5_passesOne 121 = .ok (.iaload, 1) := by decide +kernel
theorem dX5_passesOne_122 : decode cX5_passesOne 122 = .ok (.if_icmp .ne 7, 3) := by decide +kernel
theorem dX5_passesOne_125 : decode cX5_passesOne 125 = .ok (.iconst 1, 1) := by decide +kernel
theorem dX5_passesOne_126 : decode cX5_passesOne 126 = .ok (.goto 4, 3) := by decide +kernel
theorem dX5_passesOne_129 : decode cX5_passesOne 129 = .ok (.iconst 0, 1) := by decide +kernel
theorem dX5_passesOne_130 : decode cX5_passesOne 130 = .ok (.istore 4, 2) := by decide +kernel
theorem dX5_passesOne_132 : decode cX5_passesOne 132 = .ok (.aload_n 0, 1) := by decide +kernel
theorem dX5_passesOne_133 : decode cX5_passesOne 133 = .ok (.getfield 22, 3) := by decide +kernel
theorem dX5_passesOne_136 : decode cX5_passesOne 136 = .ok (.iload_n 2, 1) := by decide +kernel
theorem dX5_passesOne_137 : decode cX5_passesOne 137 = .ok (.aload_n 0, 1) := by decide +kernel
theorem dX5_passesOne_138 : decode cX5_passesOne 138 = .ok (.getfield 7, 3) := by decide +kernel
theorem dX5_passesOne_141 : decode cX5_passesOne 141 = .ok (.iload_n 3, 1) := by decide +kernel
theorem dX5_passesOne_142 : decode cX5_passesOne 142 = .ok (.iconst 4, 1) := by decide +kernel
theorem dX5_passesOne_143 : decode cX5_passesOne 143 = .ok (.iadd, 1) := by decide +kernel
theorem dX5_passesOne_144 : decode cX5_passesOne 144 = .ok (.iaload, 1) := by decide +kernel
theorem dX5_passesOne_145 : decode cX5_passesOne 145 = .ok (.iconst 1, 1) := by decide +kernel
theorem dX5_passesOne_146 : decode cX5_passesOne 146 = .ok (.if_icmp .ne 7, 3) := by decide +kernel
theorem dX5_passesOne_149 : decode cX5_passesOne 149 = .ok (.iconst 1, 1) := by decide +kernel
theorem dX5_passesOne_150 : decode cX5_passesOne 150 = .ok (.goto 28, 3) := by decide +kernel
theorem dX5_passesOne_153 : decode cX5_passesOne 153 = .ok (.aload_n 0, 1) := by decide +kernel
theorem dX5_passesOne_154 : decode cX5_passesOne 154 = .ok (.getfield 7, 3) := by decide +kernel
theorem dX5_passesOne_157 : decode cX5_passesOne 157 = .ok (.iload_n 3, 1) := by decide +kernel
theorem dX5_passesOne_158 : decode cX5_passesOne 158 = .ok (.iconst 5, 1) := by decide +kernel
theorem dX5_passesOne_159 : decode cX5_passesOne 159 = .ok (.iadd, 1) := by decide +kernel
theorem dX5_passesOne_160 : decode cX5_passesOne 160 = .ok (.iaload, 1) := by decide +kernel
theorem dX5_passesOne_161 : decode cX5_passesOne 161 = .ok (.ifCond .le 7, 3) := by decide +kernel
theorem dX5_passesOne_164 : decode cX5_passesOne 164 = .ok (.iconst 2, 1) := by decide +kernel
theorem dX5_passesOne_165 : decode cX5_passesOne 165 = .ok (.goto 13, 3) := by decide +kernel
theorem dX5_passesOne_168 : decode cX5_passesOne 168 = .ok (.iload 4, 2) := by decide +kernel
theorem dX5_passesOne_170 : decode cX5_passesOne 170 = .ok (.ifCond .eq 7, 3) := by decide +kernel
theorem dX5_passesOne_173 : decode cX5_passesOne 173 = .ok (.iconst 3, 1) := by decide +kernel
theorem dX5_passesOne_174 : decode cX5_passesOne 174 = .ok (.goto 4, 3) := by decide +kernel
theorem dX5_passesOne_177 : decode cX5_passesOne 177 = .ok (.iconst (-1), 1) := by decide +kernel
theorem dX5_passesOne_178 : decode cX5_passesOne 178 = .ok (.iastore, 1) := by decide +kernel
theorem dX5_passesOne_179 : decode cX5_passesOne 179 = .ok (.iinc 2 1, 3) := by decide +kernel
theorem dX5_passesOne_182 : decode cX5_passesOne 182 = .ok (.goto (-148), 3) := by decide +kernel
theorem dX5_passesOne_185 : decode cX5_passesOne 185 = .ok (.aload_n 0, 1) := by decide +kernel
theorem dX5_passesOne_186 : decode cX5_passesOne 186 = .ok (.iload_n 1, 1) := by decide +kernel
theorem dX5_passesOne_187 : decode cX5_passesOne 187 = .ok (.iconst 1, 1) := by decide +kernel
theorem dX5_passesOne_188 : decode cX5_passesOne 188 = .ok (.iconst 0, 1) := by decide +kernel
theorem dX5_passesOne_189 : decode cX5_passesOne 189 = .ok (.invokevirtual 57, 3) := by decide +kernel
theorem dX5_passesOne_192 : decode cX5_passesOne 192 = .ok (.istore_n 2, 1) := by decide +kernel
theorem dX5_passesOne_193 : decode cX5_passesOne 193 = .ok (.aload_n 0, 1) := by decide +kernel
theorem dX5_passesOne_194 : decode cX5_passesOne 194 = .ok (.iload_n 1, 1) := by decide +kernel
theorem dX5_passesOne_195 : decode cX5_passesOne 195 = .ok (.iconst 0, 1) := by decide +kernel
theorem dX5_passesOne_196 : decode cX5_passesOne 196 = .ok (.iload_n 2, 1) := by decide +kernel
theorem dX5_passesOne_197 : decode cX5_passesOne 197 = .ok (.invokevirtual 57, 3) := by decide +kernel
theorem dX5_passesOne_200 : decode cX5_passesOne 200 = .ok (.istore_n 2, 1) := by decide +kernel
theorem dX5_passesOne_201 : decode cX5_passesOne 201 = .ok (.aload_n 0, 1) := by decide +kernel
theorem dX5_passesOne_202 : decode cX5_passesOne 202 = .ok (.getfield 7, 3) := by decide +kernel
theorem dX5_passesOne_205 : decode cX5_passesOne 205 = .ok (.iload_n 1, 1) := by decide +kernel
theorem dX5_passesOne_206 : decode cX5_passesOne 206 = .ok (.bipush 21, 2) := by decide +kernel
theorem dX5_passesOne_208 : decode cX5_passesOne 208 = .ok (.iadd, 1) := by decide +kernel
theorem dX5_passesOne_209 : decode cX5_passesOne 209 = .ok (.dup2, 1) := by decide +kernel
theorem dX5_passesOne_210 : decode cX5_passesOne 210 = .ok (.iaload, 1) := by decide +kernel
theorem dX5_passesOne_211 : decode cX5_passesOne 211 = .ok (.iload_n 2, 1) := by decide +kernel
theorem dX5_passesOne_212 : decode cX5_passesOne 212 = .ok (.iadd, 1) := by decide +kernel
theorem dX5_passesOne_213 : decode cX5_passesOne 213 = .ok (.iastore, 1) := by decide +kernel
theorem dX5_passesOne_214 : decode cX5_passesOne 214 = .ok (.aload_n 0, 1) := by decide +kernel
theorem dX5_passesOne_215 : decode cX5_passesOne 215 = .ok (.getfield 7, 3) := by decide +kernel
theorem dX5_passesOne_218 : decode cX5_passesOne 218 = .ok (.iload_n 1, 1) := by decide +kernel
theorem dX5_passesOne_219 : decode cX5_passesOne 219 = .ok (.bipush 17, 2) := by decide +kernel
theorem dX5_passesOne_221 : decode cX5_passesOne 221 = .ok (.iadd, 1) := by decide +kernel
theorem dX5_passesOne_222 : decode cX5_passesOne 222 = .ok (.dup2, 1) := by decide +kernel
theorem dX5_passesOne_223 : decode cX5_passesOne 223 = .ok (.iaload, 1) := by decide +kernel
theorem dX5_passesOne_224 : decode cX5_passesOne 224 = .ok (.iconst 1, 1) := by decide +kernel
theorem dX5_passesOne_225 : decode cX5_passesOne 225 = .ok (.iadd, 1) := by decide +kernel
theorem dX5_passesOne_226 : decode cX5_passesOne 226 = .ok (.iastore, 1) := by decide +kernel
theorem dX5_passesOne_227 : decode cX5_passesOne 227 = .ok (.iload_n 2, 1) := by decide +kernel
theorem dX5_passesOne_228 : decode cX5_passesOne 228 = .ok (.ireturn, 1) := by decide +kernel
theorem dX5_passes_0 : decode cX5_passes 0 = .ok (.iconst 0, 1) := by decide +kernel
theorem dX5_passes_1 : decode cX5_passes 1 = .ok (.istore_n 3, 1) := by decide +kernel
theorem dX5_passes_2 : decode cX5_passes 2 = .ok (.iconst 0, 1) := by decide +kernel
theorem dX5_passes_3 : decode cX5_passes 3 = .ok (.istore 4, 2) := by decide +kernel
theorem dX5_passes_5 : decode cX5_passes 5 = .ok (.iload 4, 2) := by decide +kernel
theorem dX5_passes_7 : decode cX5_passes 7 = .ok (.iload_n 2, 1) := by decide +kernel
theorem dX5_passes_8 : decode cX5_passes 8 = .ok (.if_icmp .ge 17, 3) := by decide +kernel
theorem dX5_passes_11 : decode cX5_passes 11 = .ok (.iload_n 3, 1) := by decide +kernel
theorem dX5_passes_12 : decode cX5_passes 12 = .ok (.aload_n 0, 1) := by decide +kernel
theorem dX5_passes_13 : decode cX5_passes 13 = .ok (.iload_n 1, 1) := by decide +kernel
theorem dX5_passes_14 : decode cX5_passes 14 = .ok (.invokevirtual 61, 3) := by decide +kernel
theorem dX5_passes_17 : decode cX5_passes 17 = .ok (.iadd, 1) := by decide +kernel
theorem dX5_passes_18 : decode cX5_passes 18 = .ok (.istore_n 3, 1) := by decide +kernel
theorem dX5_passes_19 : decode cX5_passes 19 = .ok (.iinc 4 1, 3) := by decide +kernel
theorem dX5_passes_22 : decode cX5_passes 22 = .ok (.goto (-17), 3) := by decide +kernel
theorem dX5_passes_25 : decode cX5_passes 25 = .ok (.iload_n 3, 1) := by decide +kernel
theorem dX5_passes_26 : decode cX5_passes 26 = .ok (.ireturn, 1) := by decide +kernel
theorem dX5_adds_0 : decode cX5_adds 0 = .ok (.iconst 0, 1) := by decide +kernel
theorem dX5_adds_1 : decode cX5_adds 1 = .ok (.istore_n 2, 1) := by decide +kernel
theorem dX5_adds_2 : decode cX5_adds 2 = .ok (.iload_n 2, 1) := by decide +kernel
theorem dX5_adds_3 : decode cX5_adds 3 = .ok (.iconst 3, 1) := by decide +kernel
theorem dX5_adds_4 : decode cX5_adds 4 = .ok (.if_icmp .ge 21, 3) := by decide +kernel
theorem dX5_adds_7 : decode cX5_adds 7 = .ok (.aload_n 0, 1) := by decide +kernel
theorem dX5_adds_8 : decode cX5_adds 8 = .ok (.sipush 215, 3) := by decide +kernel
theorem dX5_adds_11 : decode cX5_adds 11 = .ok (.iload_n 2, 1) := by decide +kernel
theorem dX5_adds_12 : decode cX5_adds 12 = .ok (.iload_n 1, 1) := by decide +kernel
theorem dX5_adds_13 : decode cX5_adds 13 = .ok (.invokevirtual 43, 3) := by decide +kernel
theorem dX5_adds_16 : decode cX5_adds 16 = .ok (.ifCond .ne 9, 3) := by decide +kernel
theorem dX5_adds_19 : decode cX5_adds 19 = .ok (.iinc 2 1, 3) := by decide +kernel
theorem dX5_adds_22 : decode cX5_adds 22 = .ok (.goto (-20), 3) := by decide +kernel
theorem dX5_adds_25 : decode cX5_adds 25 = .ok (.aload_n 0, 1) := by decide +kernel
theorem dX5_adds_26 : decode cX5_adds 26 = .ok (.getfield 7, 3) := by decide +kernel
theorem dX5_adds_29 : decode cX5_adds 29 = .ok (.sipush 230, 3) := by decide +kernel
theorem dX5_adds_32 : decode cX5_adds 32 = .ok (.iaload, 1) := by decide +kernel
theorem dX5_adds_33 : decode cX5_adds 33 = .ok (.bipush 24, 2) := by decide +kernel
theorem dX5_adds_35 : decode cX5_adds 35 = .ok (.if_icmp .eq 22, 3) := by decide +kernel
theorem dX5_adds_38 : decode cX5_adds 38 = .ok (.iload_n 2, 1) := by decide +kernel
theorem dX5_adds_39 : decode cX5_adds 39 = .ok (.iconst 3, 1) := by decide +kernel
theorem dX5_adds_40 : decode cX5_adds 40 = .ok (.if_icmp .eq 17, 3) := by decide +kernel
theorem dX5_adds_43 : decode cX5_adds 43 = .ok (.aload_n 0, 1) := by decide +kernel
theorem dX5_adds_44 : decode cX5_adds 44 = .ok (.getfield 7, 3) := by decide +kernel
theorem dX5_adds_47 : decode cX5_adds 47 = .ok (.sipush 231, 3) := by decide +kernel
theorem dX5_adds_50 : decode cX5_adds 50 = .ok (.iaload, 1) := by decide +kernel
theorem dX5_adds_51 : decode cX5_adds 51 = .ok (.sipush 999, 3) := by decide +kernel
theorem dX5_adds_54 : decode cX5_adds 54 = .ok (.if_icmp .le 6, 3) := by decide +kernel
theorem dX5_adds_57 : decode cX5_adds 57 = .ok (.bipush (-3), 2) := by decide +kernel
theorem dX5_adds_59 : decode cX5_adds 59 = .ok (.ireturn, 1) := by decide +kernel
theorem dX5_adds_60 : decode cX5_adds 60 = .ok (.sipush 215, 3) := by decide +kernel
theorem dX5_adds_63 : decode cX5_adds 63 = .ok (.aload_n 0, 1) := by decide +kernel
theorem dX5_adds_64 : decode cX5_adds 64 = .ok (.getfield 7, 3) := by decide +kernel
theorem dX5_adds_67 : decode cX5_adds 67 = .ok (.sipush 230, 3) := by decide +kernel
theorem dX5_adds_70 : decode cX5_adds 70 = .ok (.iaload, 1) := by decide +kernel
theorem dX5_adds_71 : decode cX5_adds 71 = .ok (.invokestatic 32, 3) := by decide +kernel
theorem dX5_adds_74 : decode cX5_adds 74 = .ok (.istore_n 3, 1) := by decide +kernel
theorem dX5_adds_75 : decode cX5_adds 75 = .ok (.iconst 0, 1) := by decide +kernel
theorem dX5_adds_76 : decode cX5_adds 76 = .ok (.istore 4, 2) := by decide +kernel
theorem dX5_adds_78 : decode cX5_adds 78 = .ok (.iload 4, 2) := by decide +kernel
theorem dX5_adds_80 : decode cX5_adds 80 = .ok (.bipush 8, 2) := by decide +kernel
theorem dX5_adds_82 : decode cX5_adds 82 = .ok (.if_icmp .ge 19, 3) := by decide +kernel
theorem dX5_adds_85 : decode cX5_adds 85 = .ok (.aload_n 0, 1) := by decide +kernel
theorem dX5_adds_86 : decode cX5_adds 86 = .ok (.getfield 7, 3) := by decide +kernel
theorem dX5_adds_89 : decode cX5_adds 89 = .ok (.iload_n 3, 1) := by decide +kernel
theorem dX5_adds_90 : decode cX5_adds 90 = .ok (.iload 4, 2) := by decide +kernel
theorem dX5_adds_92 : decode cX5_adds 92 = .ok (.iadd, 1) := by decide +kernel
theorem dX5_adds_93 : decode cX5_adds 93 = .ok (.iconst 0, 1) := by decide +kernel
theorem dX5_adds_94 : decode cX5_adds 94 = .ok (.iastore, 1) := by decide +kernel
theorem dX5_adds_95 : decode cX5_adds 95 = .ok (.iinc 4 1, 3) := by decide +kernel
theorem dX5_adds_98 : decode cX5_adds 98 = .ok (.goto (-20), 3) := by decide +kernel
theorem dX5_adds_101 : decode cX5_adds 101 = .ok (.aload_n 0, 1) := by decide +kernel
theorem dX5_adds_102 : decode cX5_adds 102 = .ok (.getfield 7, 3) := by decide +kernel
theorem dX5_adds_105 : decode cX5_adds 105 = .ok (.iload_n 3, 1) := by decide +kernel
theorem dX5_adds_106 : decode cX5_adds 106 = .ok (.aload_n 0, 1) := by decide +kernel
theorem dX5_adds_107 : decode cX5_adds 107 = .ok (.getfield 7, 3) := by decide +kernel
theorem dX5_adds_110 : decode cX5_adds 110 = .ok (.sipush 231, 3) := by decide +kernel
theorem dX5_adds_113 : decode cX5_adds 113 = .ok (.iaload, 1) := by decide +kernel
theorem dX5_adds_114 : decode cX5_adds 114 = .ok (.iastore, 1) := by decide +kernel
theorem dX5_adds_115 : decode cX5_adds 115 = .ok (.aload_n 0, 1) := by decide +kernel
theorem dX5_adds_116 : decode cX5_adds 116 = .ok (.getfield 7, 3) := by decide +kernel
theorem dX5_adds_119 : decode cX5_adds 119 = .ok (.iload_n 3, 1) := by decide +kernel
theorem dX5_adds_120 : decode cX5_adds 120 = .ok (.iconst 1, 1) := by decide +kernel
theorem dX5_adds_121 : decode cX5_adds 121 = .ok (.iadd, 1) := by decide +kernel
theorem dX5_adds_122 : decode cX5_adds 122 = .ok (.iload_n 1, 1) := by decide +kernel
theorem dX5_adds_123 : decode cX5_adds 123 = .ok (.iastore, 1) := by decide +kernel
theorem dX5_adds_124 : decode cX5_adds 124 = .ok (.aload_n 0, 1) := by decide +kernel
theorem dX5_adds_125 : decode cX5_adds 125 = .ok (.getfield 7, 3) := by decide +kernel
theorem dX5_adds_128 : decode cX5_adds 128 = .ok (.iload_n 3, 1) := by decide +kernel
theorem dX5_adds_129 : decode cX5_adds 129 = .ok (.iconst 2, 1) := by decide +kernel
theorem dX5_adds_130 : decode cX5_adds 130 = .ok (.iadd, 1) := by decide +kernel
theorem dX5_adds_131 : decode cX5_adds 131 = .ok (.sipush 1000, 3) := by decide +kernel
theorem dX5_adds_134 : decode cX5_adds 134 = .ok (.iastore, 1) := by decide +kernel
theorem dX5_adds_135 : decode cX5_adds 135 = .ok (.aload_n 0, 1) := by decide +kernel
theorem dX5_adds_136 : decode cX5_adds 136 = .ok (.getfield 7, 3) := by decide +kernel
theorem dX5_adds_139 : decode cX5_adds 139 = .ok (.iload_n 3, 1) := by decide +kernel
theorem dX5_adds_140 : decode cX5_adds 140 = .ok (.iconst 3, 1) := by decide +kernel
theorem dX5_adds_141 : decode cX5_adds 141 = .ok (.iadd, 1) := by decide +kernel
theorem dX5_adds_142 : decode cX5_adds 142 = .ok (.iload_n 2, 1) := by decide +kernel
theorem dX5_adds_143 : decode cX5_adds 143 = .ok (.iastore, 1) := by decide +kernel
theorem dX5_adds_144 : decode cX5_adds 144 = .ok (.aload_n 0, 1) := by decide +kernel
theorem dX5_adds_145 : decode cX5_adds 145 = .ok (.getfield 7, 3) := by decide +kernel
theorem dX5_adds_148 : decode cX5_adds 148 = .ok (.sipush 230, 3) := by decide +kernel
theorem dX5_adds_151 : decode cX5_adds 151 = .ok (.dup2, 1) := by decide +kernel
theorem dX5_adds_152 : decode cX5_adds 152 = .ok (.iaload, 1) := by decide +kernel
theorem dX5_adds_153 : decode cX5_adds 153 = .ok (.iconst 1, 1) := by decide +kernel
theorem dX5_adds_154 : decode cX5_adds 154 = .ok (.iadd, 1) := by decide +kernel
theorem dX5_adds_155 : decode cX5_adds 155 = .ok (.iastore, 1) := by decide +kernel
theorem dX5_adds_156 : decode cX5_adds 156 = .ok (.aload_n 0, 1) := by decide +kernel
theorem dX5_adds_157 : decode cX5_adds 157 = .ok (.getfield 7, 3) := by decide +kernel
theorem dX5_adds_160 : decode cX5_adds 160 = .ok (.sipush 231, 3) := by decide +kernel
theorem dX5_adds_163 : decode cX5_adds 163 = .ok (.dup2, 1) := by decide +kernel
theorem dX5_adds_164 : decode cX5_adds 164 = .ok (.iaload, 1) := by decide +kernel
theorem dX5_adds_165 : decode cX5_adds 165 = .ok (.iconst 1, 1) := by decide +kernel
theorem dX5_adds_166 : decode cX5_adds 166 = .ok (.iadd, 1) := by decide +kernel
theorem dX5_adds_167 : decode cX5_adds 167 = .ok (.iastore, 1) := by decide +kernel
theorem dX5_adds_168 : decode cX5_adds 168 = .ok (.aload_n 0, 1) := by decide +kernel
theorem dX5_adds_169 : decode cX5_adds 169 = .ok (.getfield 7, 3) := by decide +kernel
theorem dX5_adds_172 : decode cX5_adds 172 = .ok (.iload_n 3, 1) := by decide +kernel
theorem dX5_adds_173 : decode cX5_adds 173 = .ok (.iaload, 1) := by decide +kernel
theorem dX5_adds_174 : decode cX5_adds 174 = .ok (.ireturn, 1) := by decide +kernel
theorem dX5_removes_0 : decode cX5_removes 0 = .ok (.aload_n 0, 1) := by decide +kernel
theorem dX5_removes_1 : decode cX5_removes 1 = .ok (.sipush 215, 3) := by decide +kernel
theorem dX5_removes_4 : decode cX5_removes 4 = .ok (.iload_n 1, 1) := by decide +kernel
theorem dX5_removes_5 : decode cX5_removes 5 = .ok (.invokevirtual 65, 3) := by decide +kernel
theorem dX5_removes_8 : decode cX5_removes 8 = .ok (.istore_n 2, 1) := by decide +kernel
theorem dX5_removes_9 : decode cX5_removes 9 = .ok (.iload_n 2, 1) := by decide +kernel
theorem dX5_removes_10 : decode cX5_removes 10 = .ok (.bipush (-5), 2) := by decide +kernel
theorem dX5_removes_12 : decode cX5_removes 12 = .ok (.if_icmp .ne 5, 3) := by decide +kernel
theorem dX5_removes_15 : decode cX5_removes 15 = .ok (.iconst (-1), 1) := by decide +kernel
theorem dX5_removes_16 : decode cX5_removes 16 = .ok (.ireturn, 1) := by decide +kernel
theorem dX5_removes_17 : decode cX5_removes 17 = .ok (.aload_n 0, 1) := by decide +kernel
theorem dX5_removes_18 : decode cX5_removes 18 = .ok (.getfield 7, 3) := by decide +kernel
theorem dX5_removes_21 : decode cX5_removes 21 = .ok (.sipush 215, 3) := by decide +kernel
theorem dX5_removes_24 : decode cX5_removes 24 = .ok (.iload_n 2, 1) := by decide +kernel
theorem dX5_removes_25 : decode cX5_removes 25 = .ok (.invokestatic 32, 3) := by decide +kernel
theorem dX5_removes_28 : decode cX5_removes 28 = .ok (.iconst 3, 1) := by decide +kernel
theorem dX5_removes_29 : decode cX5_removes 29 = .ok (.iadd, 1) := by decide +kernel
theorem dX5_removes_30 : decode cX5_removes 30 = .ok (.iaload, 1) := by decide +kernel
theorem dX5_removes_31 : decode cX5_removes 31 = .ok (.istore_n 3, 1) := by decide +kernel
theorem dX5_removes_32 : decode cX5_removes 32 = .ok (.aload_n 0, 1) := by decide +kernel
theorem dX5_removes_33 : decode cX5_removes 33 = .ok (.getfield 7, 3) := by decide +kernel
theorem dX5_removes_36 : decode cX5_removes 36 = .ok (.sipush 230, 3) := by decide +kernel
theorem dX5_removes_39 : decode cX5_removes 39 = .ok (.dup2, 1) := by decide +kernel
theorem dX5_removes_40 : decode cX5_removes 40 = .ok (.iaload, 1) := by decide +kernel
theorem dX5_removes_41 : decode cX5_removes 41 = .ok (.iconst 1, 1) := by decide +kernel
theorem dX5_removes_42 : decode cX5_removes 42 = .ok (.isub, 1) := by decide +kernel
theorem dX5_removes_43 : decode cX5_removes 43 = .ok (.iastore, 1) := by decide +kernel
theorem dX5_removes_44 : decode cX5_removes 44 = .ok (.sipush 215, 3) := by decide +kernel
theorem dX5_removes_47 : decode cX5_removes 47 = .ok (.iload_n 2, 1) := by decide +kernel
theorem dX5_removes_48 : decode cX5_removes 48 = .ok (.invokestatic 32, 3) := by decide +kernel
theorem dX5_removes_51 : decode cX5_removes 51 = .ok (.istore 4, 2) := by decide +kernel
theorem dX5_removes_53 : decode cX5_removes 53 = .ok (.iload 4, 2) := by decide +kernel
theorem dX5_removes_55 : decode cX5_removes 55 = .ok (.sipush 215, 3) := by decide +kernel
theorem dX5_removes_58 : decode cX5_removes 58 = .ok (.aload_n 0, 1) := by decide +kernel
theorem dX5_removes_59 : decode cX5_removes 59 = .ok (.getfield 7, 3) := by decide +kernel
theorem dX5_removes_62 : decode cX5_removes 62 = .ok (.sipush 230, 3) := by decide +kernel
theorem dX5_removes_65 : decode cX5_removes 65 = .ok (.iaload, 1) := by decide +kernel
theorem dX5_removes_66 : decode cX5_removes 66 = .ok (.invokestatic 32, 3) := by decide +kernel
theorem dX5_removes_69 : decode cX5_removes 69 = .ok (.if_icmp .ge 26, 3) := by decide +kernel
theorem dX5_removes_72 : decode cX5_removes 72 = .ok (.aload_n 0, 1) := by decide +kernel
theorem dX5_removes_73 : decode cX5_removes 73 = .ok (.getfield 7, 3) := by decide +kernel
theorem dX5_removes_76 : decode cX5_removes 76 = .ok (.iload 4, 2) := by decide +kernel
theorem dX5_removes_78 : decode cX5_removes 78 = .ok (.aload_n 0, 1) := by decide +kernel
theorem dX5_removes_79 : decode cX5_removes 79 = .ok (.getfield 7, 3) := by decide +kernel
theorem dX5_removes_82 : decode cX5_removes 82 = .ok (.iload 4, 2) := by decide +kernel
theorem dX5_removes_84 : decode cX5_removes 84 = .ok (.bipush 8, 2) := by decide +kernel
theorem dX5_removes_86 : decode cX5_removes 86 = .ok (.iadd, 1) := by decide +kernel
theorem dX5_removes_87 : decode cX5_removes 87 = .ok (.iaload, 1) := by decide +kernel
theorem dX5_removes_88 : decode cX5_removes 88 = .ok (.iastore, 1) := by decide +kernel
theorem dX5_removes_89 : decode cX5_removes 89 = .ok (.iinc 4 1, 3) := by decide +kernel
theorem dX5_removes_92 : decode cX5_removes 92 = .ok (.goto (-39), 3) := by decide +kernel
theorem dX5_removes_95 : decode cX5_removes 95 = .ok (.iload_n 3, 1) := by decide +kernel
theorem dX5_removes_96 : decode cX5_removes 96 = .ok (.ireturn, 1) := by decide +kernel
theorem dX5_readsOne_0 : decode cX5_readsOne 0 = .ok (.aload_n 0, 1) := by decide +kernel
theorem dX5_readsOne_1 : decode cX5_readsOne 1 = .ok (.getfield 7, 3) := by decide +kernel
theorem dX5_readsOne_4 : decode cX5_readsOne 4 = .ok (.iload_n 1, 1) := by decide +kernel
theorem dX5_readsOne_5 : decode cX5_readsOne 5 = .ok (.iconst 1, 1) := by decide +kernel
theorem dX5_readsOne_6 : decode cX5_readsOne 6 = .ok (.iadd, 1) := by decide +kernel
theorem dX5_readsOne_7 : decode cX5_readsOne 7 = .ok (.iaload, 1) := by decide +kernel
theorem dX5_readsOne_8 : decode cX5_readsOne 8 = .ok (.istore_n 2, 1) := by decide +kernel
theorem dX5_readsOne_9 : decode cX5_readsOne 9 = .ok (.iload_n 2, 1) := by decide +kernel
theorem dX5_readsOne_10 : decode cX5_readsOne 10 = .ok (.aload_n 0, 1) := by decide +kernel
theorem dX5_readsOne_11 : decode cX5_readsOne 11 = .ok (.getfield 7, 3) := by decide +kernel
theorem dX5_readsOne_14 : decode cX5_readsOne 14 = .ok (.sipush 227, 3) := by decide +kernel
theorem dX5_readsOne_17 : decode cX5_readsOne 17 = .ok (.aload_n 0, 1) := by decide +kernel
theorem dX5_readsOne_18 : decode cX5_readsOne 18 = .ok (.getfield 7, 3) := by decide +kernel
theorem dX5_readsOne_21 : decode cX5_readsOne 21 = .ok (.iload_n 1, 1) := by decide +kernel
theorem dX5_readsOne_22 : decode cX5_readsOne 22 = .ok (.iconst 3, 1) := by decide +kernel
theorem dX5_readsOne_23 : decode cX5_readsOne 23 = .ok (.iadd, 1) := by decide +kernel
theorem dX5_readsOne_24 : decode cX5_readsOne 24 = .ok (.iaload, 1) := by decide +kernel
theorem dX5_readsOne_25 : decode cX5_readsOne 25 = .ok (.iadd, 1) := by decide +kernel
theorem dX5_readsOne_26 : decode cX5_readsOne 26 = .ok (.iaload, 1) := by decide +kernel
theorem dX5_readsOne_27 : decode cX5_readsOne 27 = .ok (.imul, 1) := by decide +kernel
theorem dX5_readsOne_28 : decode cX5_readsOne 28 = .ok (.istore_n 3, 1) := by decide +kernel
theorem dX5_readsOne_29 : decode cX5_readsOne 29 = .ok (.iconst 0, 1) := by decide +kernel
theorem dX5_readsOne_30 : decode cX5_readsOne 30 = .ok (.istore 4, 2) := by decide +kernel
theorem dX5_readsOne_32 : decode cX5_readsOne 32 = .ok (.aload_n 0, 1) := by decide +kernel
theorem dX5_readsOne_33 : decode cX5_readsOne 33 = .ok (.getfield 7, 3) := by decide +kernel
theorem dX5_readsOne_36 : decode cX5_readsOne 36 = .ok (.iload_n 1, 1) := by decide +kernel
theorem dX5_readsOne_37 : decode cX5_readsOne 37 = .ok (.iconst 2, 1) := by decide +kernel
theorem dX5_readsOne_38 : decode cX5_readsOne 38 = .ok (.iadd, 1) := by decide +kernel
theorem dX5_readsOne_39 : decode cX5_readsOne 39 = .ok (.aload_n 0, 1) := by decide +kernel
theorem dX5_readsOne_40 : decode cX5_readsOne 40 = .ok (.getfield 7, 3) := by decide +kernel
theorem dX5_readsOne_43 : decode cX5_readsOne 43 = .ok (.iload_n 1, 1) := by decide +kernel
theorem dX5_readsOne_44 : decode cX5_readsOne 44 = .ok (.iconst 2, 1) := by decide +kernel
theorem dX5_readsOne_45 : decode cX5_readsOne 45 = .ok (.iadd, 1) := by decide +kernel
theorem dX5_readsOne_46 : decode cX5_readsOne 46 = .ok (.iaload, 1) := by decide +kernel
theorem dX5_readsOne_47 : decode cX5_readsOne 47 = .ok (.sipush 1000, 3) := by decide +kernel
theorem dX5_readsOne_50 : decode cX5_readsOne 50 = .ok (.iadd, 1) := by decide +kernel
theorem dX5_readsOne_51 : decode cX5_readsOne 51 = .ok (.ldc 68, 2) := by decide +kernel
theorem dX5_readsOne_53 : decode cX5_readsOne 53 = .ok (.if_icmp .le 8, 3) := by decide +kernel
theorem dX5_readsOne_56 : decode cX5_readsOne 56 = .ok (.ldc 68, 2) := by decide +kernel
theorem dX5_readsOne_58 : decode cX5_readsOne 58 = .ok (.goto 15, 3) := by decide +kernel
theorem dX5_readsOne_61 : decode cX5_readsOne 61 = .ok (.aload_n 0, 1) := by decide +kernel
theorem dX5_readsOne_62 : decode cX5_readsOne 62 = .ok (.getfield 7, 3) := by decide +kernel
theorem dX5_readsOne_65 : decode cX5_readsOne 65 = .ok (.iload_n 1, 1) := by decide +kernel
theorem dX5_readsOne_66 : decode cX5_readsOne 66 = .ok (.iconst 2, 1) := by decide +kernel
theorem dX5_readsOne_67 : decode cX5_readsOne 67 = .ok (.iadd, 1) := by decide +kernel
theorem dX5_readsOne_68 : decode cX5_readsOne 68 = .ok (.iaload, 1) := by decide +kernel
theorem dX5_readsOne_69 : decode cX5_readsOne 69 = .ok (.sipush 1000, 3) := by decide +kernel
theorem dX5_readsOne_72 : decode cX5_readsOne 72 = .ok (.iadd, 1) := by decide +kernel
theorem dX5_readsOne_73 : decode cX5_readsOne 73 = .ok (.iastore, 1) := by decide +kernel
theorem dX5_readsOne_74 : decode cX5_readsOne 74 = .ok (.aload_n 0, 1) := by decide +kernel
theorem dX5_readsOne_75 : decode cX5_readsOne 75 = .ok (.getfield 7, 3) := by decide +kernel
theorem dX5_readsOne_78 : decode cX5_readsOne 78 = .ok (.iload_n 1, 1) := by decide +kernel
theorem dX5_readsOne_79 : decode cX5_readsOne 79 = .ok (.bipush 6, 2) := by decide +kernel
theorem dX5_readsOne_81 : decode cX5_readsOne 81 = .ok (.iadd, 1) := by decide +kernel
theorem dX5_readsOne_82 : decode cX5_readsOne 82 = .ok (.dup2, 1) := by decide +kernel
theorem dX5_readsOne_83 : decode cX5_readsOne 83 = .ok (.iaload, 1) := by decide +kernel
theorem dX5_readsOne_84 : decode cX5_readsOne 84 = .ok (.iconst 1, 1) := by decide +kernel
theorem dX5_readsOne_85 : decode cX5_readsOne 85 = .ok (.iadd, 1) := by decide +kernel
theorem dX5_readsOne_86 : decode cX5_readsOne 86 = .ok (.iastore, 1) := by decide +kernel
theorem dX5_readsOne_87 : decode cX5_readsOne 87 = .ok (.aload_n 0, 1) := by decide +kernel
theorem dX5_readsOne_88 : decode cX5_readsOne 88 = .ok (.getfield 7, 3) := by decide +kernel
theorem dX5_readsOne_91 : decode cX5_readsOne 91 = .ok (.iload_n 1, 1) := by decide +kernel
theorem dX5_readsOne_92 : decode cX5_readsOne 92 = .ok (.iconst 3, 1) := by decide +kernel
theorem dX5_readsOne_93 : decode cX5_readsOne 93 = .ok (.iadd, 1) := by decide +kernel
theorem dX5_readsOne_94 : decode cX5_readsOne 94 = .ok (.iaload, 1) := by decide +kernel
theorem dX5_readsOne_95 : decode cX5_readsOne 95 = .ok (.iconst 2, 1) := by decide +kernel
theorem dX5_readsOne_96 : decode cX5_readsOne 96 = .ok (.if_icmp .ne 113, 3) := by decide +kernel
theorem dX5_readsOne_99 : decode cX5_readsOne 99 = .ok (.iload_n 2, 1) := by decide +kernel
theorem dX5_readsOne_100 : decode cX5_readsOne 100 = .ok (.aload_n 0, 1) := by decide +kernel
theorem dX5_readsOne_101 : decode cX5_readsOne 101 = .ok (.getfield 7, 3) := by decide +kernel
theorem dX5_readsOne_104 : decode cX5_readsOne 104 = .ok (.sipush 220, 3) := by decide +kernel
theorem dX5_readsOne_107 : decode cX5_readsOne 107 = .ok (.iaload, 1) := by decide +kernel
theorem dX5_readsOne_108 : decode cX5_readsOne 108 = .ok (.imul, 1) := by decide +kernel
theorem dX5_readsOne_109 : decode cX5_readsOne 109 = .ok (.aload_n 0, 1) := by decide +kernel
theorem dX5_readsOne_110 : decode cX5_readsOne 110 = .ok (.getfield 7, 3) := by decide +kernel
theorem dX5_readsOne_113 : decode cX5_readsOne 113 = .ok (.iload_n 1, 1) := by decide +kernel
theorem dX5_readsOne_114 : decode cX5_readsOne 114 = .ok (.iconst 5, 1) := by decide +kernel
theorem dX5_readsOne_115 : decode cX5_readsOne 115 = .ok (.iadd, 1) := by decide +kernel
theorem dX5_readsOne_116 : decode cX5_readsOne 116 = .ok (.iaload, 1) := by decide +kernel
theorem dX5_readsOne_117 : decode cX5_readsOne 117 = .ok (.imul, 1) := by decide +kernel
theorem dX5_readsOne_118 : decode cX5_readsOne 118 = .ok (.istore 4, 2) := by decide +kernel
theorem dX5_readsOne_120 : decode cX5_readsOne 120 = .ok (.aload_n 0, 1) := by decide +kernel
theorem dX5_readsOne_121 : decode cX5_readsOne 121 = .ok (.getfield 7, 3) := by decide +kernel
theorem dX5_readsOne_124 : decode cX5_readsOne 124 = .ok (.iload_n 1, 1) := by decide +kernel
theorem dX5_readsOne_125 : decode cX5_readsOne 125 = .ok (.iconst 5, 1) := by decide +kernel
theorem dX5_readsOne_126 : decode cX5_readsOne 126 = .ok (.iadd, 1) := by decide +kernel
theorem dX5_readsOne_127 : decode cX5_readsOne 127 = .ok (.iconst 0, 1) := by decide +kernel
theorem dX5_readsOne_128 : decode cX5_readsOne 128 = .ok (.iastore, 1) := by decide +kernel
theorem dX5_readsOne_129 : decode cX5_readsOne 129 = .ok (.aload_n 0, 1) := by decide +kernel
theorem dX5_readsOne_130 : decode cX5_readsOne 130 = .ok (.getfield 7, 3) := by decide +kernel
theorem dX5_readsOne_133 : decode cX5_readsOne 133 = .ok (.sipush 237, 3) := by decide +kernel
theorem dX5_readsOne_136 : decode cX5_readsOne 136 = .ok (.dup2, 1) := by decide +kernel
theorem dX5_readsOne_137 : decode cX5_readsOne 137 = .ok (.iaload, 1) := by decide +kernel
theorem dX5_readsOne_138 : decode cX5_readsOne 138 = .ok (.iconst 1, 1) := by decide +kernel
theorem dX5_readsOne_139 : decode cX5_readsOne 139 = .ok (.iadd, 1) := by decide +kernel
theorem dX5_readsOne_140 : decode cX5_readsOne 140 = .ok (.iastore, 1) := by decide +kernel
theorem dX5_readsOne_141 : decode cX5_readsOne 141 = .ok (.aload_n 0, 1) := by decide +kernel
theorem dX5_readsOne_142 : decode cX5_readsOne 142 = .ok (.sipush 215, 3) := by decide +kernel
theorem dX5_readsOne_145 : decode cX5_readsOne 145 = .ok (.iconst 0, 1) := by decide +kernel
theorem dX5_readsOne_146 : decode cX5_readsOne 146 = .ok (.iload_n 2, 1) := by decide +kernel
theorem dX5_readsOne_147 : decode cX5_readsOne 147 = .ok (.invokevirtual 43, 3) := by decide +kernel
theorem dX5_readsOne_150 : decode cX5_readsOne 150 = .ok (.ifCond .eq 7, 3) := by decide +kernel
theorem dX5_readsOne_153 : decode cX5_readsOne 153 = .ok (.iconst 0, 1) := by decide +kernel
theorem dX5_readsOne_154 : decode cX5_readsOne 154 = .ok (.goto 20, 3) := by decide +kernel
theorem dX5_readsOne_157 : decode cX5_readsOne 157 = .ok (.aload_n 0, 1) := by decide +kernel
theorem dX5_readsOne_158 : decode cX5_readsOne 158 = .ok (.sipush 215, 3) := by decide +kernel
theorem dX5_readsOne_161 : decode cX5_readsOne 161 = .ok (.iconst 1, 1) := by decide +kernel
theorem dX5_readsOne_162 : decode cX5_readsOne 162 = .ok (.iload_n 2, 1) := by decide +kernel
theorem dX5_readsOne_163 : decode cX5_readsOne 163 = .ok (.invokevirtual 43, 3) := by decide +kernel
theorem dX5_readsOne_166 : decode cX5_readsOne 166 = .ok (.ifCond .eq 7, 3) := by decide +kernel
theorem dX5_readsOne_169 : decode cX5_readsOne 169 = .ok (.iconst 1, 1) := by decide +kernel
theorem dX5_readsOne_170 : decode cX5_readsOne 170 = .ok (.goto 4, 3) := by decide +kernel
theorem dX5_readsOne_173 : decode cX5_readsOne 173 = .ok (.iconst 2, 1) := by decide +kernel
theorem dX5_readsOne_174 : decode cX5_readsOne 174 = .ok (.istore 5, 2) := by decide +kernel
theorem dX5_readsOne_176 : decode cX5_readsOne 176 = .ok (.aload_n 0, 1) := by decide +kernel
theorem dX5_readsOne_177 : decode cX5_readsOne 177 = .ok (.getfield 7, 3) := by decide +kernel
theorem dX5_readsOne_180 : decode cX5_readsOne 180 = .ok (.iload_n 1, 1) := by decide +kernel
theorem dX5_readsOne_181 : decode cX5_readsOne 181 = .ok (.bipush 7, 2) := by decide +kernel
theorem dX5_readsOne_183 : decode cX5_readsOne 183 = .ok (.iadd, 1) := by decide +kernel
theorem dX5_readsOne_184 : decode cX5_readsOne 184 = .ok (.dup2, 1) := by decide +kernel
theorem dX5_readsOne_185 : decode cX5_readsOne 185 = .ok (.iaload, 1) := by decide +kernel
theorem dX5_readsOne_186 : decode cX5_readsOne 186 = .ok (.iload 5, 2) := by decide +kernel
theorem dX5_readsOne_188 : decode cX5_readsOne 188 = .ok (.iconst 2, 1) := by decide +kernel
theorem dX5_readsOne_189 : decode cX5_readsOne 189 = .ok (.if_icmp .ge 7, 3) := by decide +kernel
theorem dX5_readsOne_192 : decode cX5_readsOne 192 = .ok (.iconst 1, 1) := by decide +kernel
theorem dX5_readsOne_193 : decode cX5_readsOne 193 = .ok (.goto 4, 3) := by decide +kernel
theorem dX5_readsOne_196 : decode cX5_readsOne 196 = .ok (.iconst 0, 1) := by decide +kernel
theorem dX5_readsOne_197 : decode cX5_readsOne 197 = .ok (.iadd, 1) := by decide +kernel
theorem dX5_readsOne_198 : decode cX5_readsOne 198 = .ok (.iastore, 1) := by decide +kernel
theorem dX5_readsOne_199 : decode cX5_readsOne 199 = .ok (.aload_n 0, 1) := by decide +kernel
theorem dX5_readsOne_200 : decode cX5_readsOne 200 = .ok (.getfield 7, 3) := by decide +kernel
theorem dX5_readsOne_203 : decode cX5_readsOne 203 = .ok (.iload_n 1, 1) := by decide +kernel
theorem dX5_readsOne_204 : decode cX5_readsOne 204 = .ok (.iconst 3, 1) := by decide +kernel
theorem dX5_readsOne_205 : decode cX5_readsOne 205 = .ok (.iadd, 1) := by decide +kernel
theorem dX5_readsOne_206 : decode cX5_readsOne 206 = .ok (.iload 5, 2) := by decide +kernel
theorem dX5_readsOne_208 : decode cX5_readsOne 208 = .ok (.iastore, 1) := by decide +kernel
theorem dX5_readsOne_209 : decode cX5_readsOne 209 = .ok (.aload_n 0, 1) := by decide +kernel
theorem dX5_readsOne_210 : decode cX5_readsOne 210 = .ok (.getfield 7, 3) := by decide +kernel
theorem dX5_readsOne_213 : decode cX5_readsOne 213 = .ok (.sipush 234, 3) := by decide +kernel
theorem dX5_readsOne_216 : decode cX5_readsOne 216 = .ok (.dup2, 1) := by decide +kernel
theorem dX5_readsOne_217 : decode cX5_readsOne 217 = .ok (.iaload, 1) := by decide +kernel
theorem dX5_readsOne_218 : decode cX5_readsOne 218 = .ok (.iload_n 3, 1) := by decide +kernel
theorem dX5_readsOne_219 : decode cX5_readsOne 219 = .ok (.iadd, 1) := by decide +kernel
theorem dX5_readsOne_220 : decode cX5_readsOne 220 = .ok (.iastore, 1) := by decide +kernel
theorem dX5_readsOne_221 : decode cX5_readsOne 221 = .ok (.aload_n 0, 1) := by decide +kernel
theorem dX5_readsOne_222 : decode cX5_readsOne 222 = .ok (.getfield 7, 3) := by decide +kernel
theorem dX5_readsOne_225 : decode cX5_readsOne 225 = .ok (.sipush 235, 3) := by decide +kernel
theorem dX5_readsOne_228 : decode cX5_readsOne 228 = .ok (.dup2, 1) := by decide +kernel
theorem dX5_readsOne_229 : decode cX5_readsOne 229 = .ok (.iaload, 1) := by decide +kernel
theorem dX5_readsOne_230 : decode cX5_readsOne 230 = .ok (.iload 4, 2) := by decide +kernel
theorem dX5_readsOne_232 : decode cX5_readsOne 232 = .ok (.iadd, 1) := by decide +kernel
theorem dX5_readsOne_233 : decode cX5_readsOne 233 = .ok (.iastore, 1) := by decide +kernel
theorem dX5_readsOne_234 : decode cX5_readsOne 234 = .ok (.iload_n 3, 1) := by decide +kernel
theorem dX5_readsOne_235 : decode cX5_readsOne 235 = .ok (.iload 4, 2) := by decide +kernel
theorem dX5_readsOne_237 : decode cX5_readsOne 237 = .ok (.iadd, 1) := by decide +kernel
theorem dX5_readsOne_238 : decode cX5_readsOne 238 = .ok (.ireturn, 1) := by decide +kernel
theorem dX5_reads_0 : decode cX5_reads 0 = .ok (.aload_n 0, 1) := by decide +kernel
theorem dX5_reads_1 : decode cX5_reads 1 = .ok (.sipush 215, 3) := by decide +kernel
theorem dX5_reads_4 : decode cX5_reads 4 = .ok (.iload_n 1, 1) := by decide +kernel
theorem dX5_reads_5 : decode cX5_reads 5 = .ok (.invokevirtual 65, 3) := by decide +kernel
theorem dX5_reads_8 : decode cX5_reads 8 = .ok (.istore_n 3, 1) := by decide +kernel
theorem dX5_reads_9 : decode cX5_reads 9 = .ok (.iconst 0, 1) := by decide +kernel
theorem dX5_reads_10 : decode cX5_reads 10 = .ok (.istore 4, 2) := by decide +kernel
theorem dX5_reads_12 : decode cX5_reads 12 = .ok (.iconst 0, 1) := by decide +kernel
theorem dX5_reads_13 : decode cX5_reads 13 = .ok (.istore 5, 2) := by decide +kernel
theorem dX5_reads_15 : decode cX5_reads 15 = .ok (.iload 5, 2) := by decide +kernel
theorem dX5_reads_17 : decode cX5_reads 17 = .ok (.iload_n 2, 1) := by decide +kernel
theorem dX5_reads_18 : decode cX5_reads 18 = .ok (.if_icmp .ge 31, 3) := by decide +kernel
theorem dX5_reads_21 : decode cX5_reads 21 = .ok (.iload_n 3, 1) := by decide +kernel
theorem dX5_reads_22 : decode cX5_reads 22 = .ok (.bipush (-5), 2) := by decide +kernel
theorem dX5_reads_24 : decode cX5_reads 24 = .ok (.if_icmp .eq 25, 3) := by decide +kernel
theorem dX5_reads_27 : decode cX5_reads 27 = .ok (.iload 4, 2) := by decide +kernel
theorem dX5_reads_29 : decode cX5_reads 29 = .ok (.aload_n 0, 1) := by decide +kernel
theorem dX5_reads_30 : decode cX5_reads 30 = .ok (.sipush 215, 3) := by decide +kernel
theorem dX5_reads_33 : decode cX5_reads 33 = .ok (.iload_n 3, 1) := by decide +kernel
theorem dX5_reads_34 : decode cX5_reads 34 = .ok (.invokestatic 32, 3) := by decide +kernel
theorem dX5_reads_37 : decode cX5_reads 37 = .ok (.invokevirtual 69, 3) := by decide +kernel
theorem dX5_reads_40 : decode cX5_reads 40 = .ok (.iadd, 1) := by decide +kernel
theorem dX5_reads_41 : decode cX5_reads 41 = .ok (.istore 4, 2) := by decide +kernel
theorem dX5_reads_43 : decode cX5_reads 43 = .ok (.iinc 5 1, 3) := by decide +kernel
end
section
theorem dX5_reads_46 : decode cX5_reads 46 = .ok (.goto (-31), 3) := by decide +kernel
theorem dX5_reads_49 : decode cX5_reads 49 = .ok (.iload_n 3, 1) := by decide +kernel
theorem dX5_reads_50 : decode cX5_reads 50 = .ok (.bipush (-5), 2) := by decide +kernel
theorem dX5_reads_52 : decode cX5_reads 52 = .ok (.if_icmp .ne 7, 3) := by decide +kernel
theorem dX5_reads_55 : decode cX5_reads 55 = .ok (.iconst (-1), 1) := by decide +kernel
theorem dX5_reads_56 : decode cX5_reads 56 = .ok (.goto 5, 3) := by decide +kernel
theorem dX5_reads_59 : decode cX5_reads 59 = .ok (.iload 4, 2) := by decide +kernel
theorem dX5_reads_61 : decode cX5_reads 61 = .ok (.ireturn, 1) := by decide +kernel
theorem dX5_pinned_0 : decode cX5_pinned 0 = .ok (.iconst 0, 1) := by decide +kernel
theorem dX5_pinned_1 : decode cX5_pinned 1 = .ok (.istore_n 2, 1) := by decide +kernel
theorem dX5_pinned_2 : decode cX5_pinned 2 = .ok (.iconst 0, 1) := by decide +kernel
theorem dX5_pinned_3 : decode cX5_pinned 3 = .ok (.istore_n 3, 1) := by decide +kernel
theorem dX5_pinned_4 : decode cX5_pinned 4 = .ok (.iload_n 3, 1) := by decide +kernel
theorem dX5_pinned_5 : decode cX5_pinned 5 = .ok (.aload_n 0, 1) := by decide +kernel
theorem dX5_pinned_6 : decode cX5_pinned 6 = .ok (.getfield 7, 3) := by decide +kernel
theorem dX5_pinned_9 : decode cX5_pinned 9 = .ok (.iload_n 1, 1) := by decide +kernel
theorem dX5_pinned_10 : decode cX5_pinned 10 = .ok (.bipush 15, 2) := by decide +kernel
theorem dX5_pinned_12 : decode cX5_pinned 12 = .ok (.iadd, 1) := by decide +kernel
theorem dX5_pinned_13 : decode cX5_pinned 13 = .ok (.iaload, 1) := by decide +kernel
theorem dX5_pinned_14 : decode cX5_pinned 14 = .ok (.if_icmp .ge 24, 3) := by decide +kernel
theorem dX5_pinned_17 : decode cX5_pinned 17 = .ok (.iload_n 2, 1) := by decide +kernel
theorem dX5_pinned_18 : decode cX5_pinned 18 = .ok (.aload_n 0, 1) := by decide +kernel
theorem dX5_pinned_19 : decode cX5_pinned 19 = .ok (.getfield 7, 3) := by decide +kernel
theorem dX5_pinned_22 : decode cX5_pinned 22 = .ok (.iload_n 1, 1) := by decide +kernel
theorem dX5_pinned_23 : decode cX5_pinned 23 = .ok (.iload_n 3, 1) := by decide +kernel
theorem dX5_pinned_24 : decode cX5_pinned 24 = .ok (.invokestatic 32, 3) := by decide +kernel
theorem dX5_pinned_27 : decode cX5_pinned 27 = .ok (.iconst 4, 1) := by decide +kernel
theorem dX5_pinned_28 : decode cX5_pinned 28 = .ok (.iadd, 1) := by decide +kernel
theorem dX5_pinned_29 : decode cX5_pinned 29 = .ok (.iaload, 1) := by decide +kernel
theorem dX5_pinned_30 : decode cX5_pinned 30 = .ok (.iadd, 1) := by decide +kernel
theorem dX5_pinned_31 : decode cX5_pinned 31 = .ok (.istore_n 2, 1) := by decide +kernel
theorem dX5_pinned_32 : decode cX5_pinned 32 = .ok (.iinc 3 1, 3) := by decide +kernel
theorem dX5_pinned_35 : decode cX5_pinned 35 = .ok (.goto (-31), 3) := by decide +kernel
theorem dX5_pinned_38 : decode cX5_pinned 38 = .ok (.iload_n 2, 1) := by decide +kernel
theorem dX5_pinned_39 : decode cX5_pinned 39 = .ok (.ireturn, 1) := by decide +kernel
theorem dX5_turnsPin_0 : decode cX5_turnsPin 0 = .ok (.aload_n 0, 1) := by decide +kernel
theorem dX5_turnsPin_1 : decode cX5_turnsPin 1 = .ok (.sipush 215, 3) := by decide +kernel
theorem dX5_turnsPin_4 : decode cX5_turnsPin 4 = .ok (.iload_n 1, 1) := by decide +kernel
theorem dX5_turnsPin_5 : decode cX5_turnsPin 5 = .ok (.invokevirtual 65, 3) := by decide +kernel
theorem dX5_turnsPin_8 : decode cX5_turnsPin 8 = .ok (.istore_n 2, 1) := by decide +kernel
theorem dX5_turnsPin_9 : decode cX5_turnsPin 9 = .ok (.iload_n 2, 1) := by decide +kernel
theorem dX5_turnsPin_10 : decode cX5_turnsPin 10 = .ok (.bipush (-5), 2) := by decide +kernel
theorem dX5_turnsPin_12 : decode cX5_turnsPin 12 = .ok (.if_icmp .ne 5, 3) := by decide +kernel
theorem dX5_turnsPin_15 : decode cX5_turnsPin 15 = .ok (.iconst (-1), 1) := by decide +kernel
theorem dX5_turnsPin_16 : decode cX5_turnsPin 16 = .ok (.ireturn, 1) := by decide +kernel
theorem dX5_turnsPin_17 : decode cX5_turnsPin 17 = .ok (.aload_n 0, 1) := by decide +kernel
theorem dX5_turnsPin_18 : decode cX5_turnsPin 18 = .ok (.getfield 7, 3) := by decide +kernel
theorem dX5_turnsPin_21 : decode cX5_turnsPin 21 = .ok (.sipush 215, 3) := by decide +kernel
theorem dX5_turnsPin_24 : decode cX5_turnsPin 24 = .ok (.iload_n 2, 1) := by decide +kernel
theorem dX5_turnsPin_25 : decode cX5_turnsPin 25 = .ok (.invokestatic 32, 3) := by decide +kernel
theorem dX5_turnsPin_28 : decode cX5_turnsPin 28 = .ok (.iconst 4, 1) := by decide +kernel
theorem dX5_turnsPin_29 : decode cX5_turnsPin 29 = .ok (.iadd, 1) := by decide +kernel
theorem dX5_turnsPin_30 : decode cX5_turnsPin 30 = .ok (.iconst 1, 1) := by decide +kernel
theorem dX5_turnsPin_31 : decode cX5_turnsPin 31 = .ok (.aload_n 0, 1) := by decide +kernel
theorem dX5_turnsPin_32 : decode cX5_turnsPin 32 = .ok (.getfield 7, 3) := by decide +kernel
theorem dX5_turnsPin_35 : decode cX5_turnsPin 35 = .ok (.sipush 215, 3) := by decide +kernel
theorem dX5_turnsPin_38 : decode cX5_turnsPin 38 = .ok (.iload_n 2, 1) := by decide +kernel
theorem dX5_turnsPin_39 : decode cX5_turnsPin 39 = .ok (.invokestatic 32, 3) := by decide +kernel
theorem dX5_turnsPin_42 : decode cX5_turnsPin 42 = .ok (.iconst 4, 1) := by decide +kernel
theorem dX5_turnsPin_43 : decode cX5_turnsPin 43 = .ok (.iadd, 1) := by decide +kernel
theorem dX5_turnsPin_44 : decode cX5_turnsPin 44 = .ok (.iaload, 1) := by decide +kernel
theorem dX5_turnsPin_45 : decode cX5_turnsPin 45 = .ok (.isub, 1) := by decide +kernel
theorem dX5_turnsPin_46 : decode cX5_turnsPin 46 = .ok (.iastore, 1) := by decide +kernel
theorem dX5_turnsPin_47 : decode cX5_turnsPin 47 = .ok (.aload_n 0, 1) := by decide +kernel
theorem dX5_turnsPin_48 : decode cX5_turnsPin 48 = .ok (.sipush 215, 3) := by decide +kernel
theorem dX5_turnsPin_51 : decode cX5_turnsPin 51 = .ok (.invokevirtual 72, 3) := by decide +kernel
theorem dX5_turnsPin_54 : decode cX5_turnsPin 54 = .ok (.ireturn, 1) := by decide +kernel
theorem dX5_passesIn_0 : decode cX5_passesIn 0 = .ok (.aload_n 0, 1) := by decide +kernel
theorem dX5_passesIn_1 : decode cX5_passesIn 1 = .ok (.getfield 7, 3) := by decide +kernel
theorem dX5_passesIn_4 : decode cX5_passesIn 4 = .ok (.sipush 232, 3) := by decide +kernel
theorem dX5_passesIn_7 : decode cX5_passesIn 7 = .ok (.iaload, 1) := by decide +kernel
theorem dX5_passesIn_8 : decode cX5_passesIn 8 = .ok (.iload_n 1, 1) := by decide +kernel
theorem dX5_passesIn_9 : decode cX5_passesIn 9 = .ok (.iadd, 1) := by decide +kernel
theorem dX5_passesIn_10 : decode cX5_passesIn 10 = .ok (.sipush 5000, 3) := by decide +kernel
theorem dX5_passesIn_13 : decode cX5_passesIn 13 = .ok (.if_icmp .le 8, 3) := by decide +kernel
theorem dX5_passesIn_16 : decode cX5_passesIn 16 = .ok (.bipush (-3), 2) := by decide +kernel
theorem dX5_passesIn_18 : decode cX5_passesIn 18 = .ok (.goto 11, 3) := by decide +kernel
theorem dX5_passesIn_21 : decode cX5_passesIn 21 = .ok (.aload_n 0, 1) := by decide +kernel
theorem dX5_passesIn_22 : decode cX5_passesIn 22 = .ok (.sipush 215, 3) := by decide +kernel
theorem dX5_passesIn_25 : decode cX5_passesIn 25 = .ok (.iload_n 1, 1) := by decide +kernel
theorem dX5_passesIn_26 : decode cX5_passesIn 26 = .ok (.invokevirtual 75, 3) := by decide +kernel
theorem dX5_passesIn_29 : decode cX5_passesIn 29 = .ok (.ireturn, 1) := by decide +kernel
theorem dX5_changes_0 : decode cX5_changes 0 = .ok (.iload_n 1, 1) := by decide +kernel
theorem dX5_changes_1 : decode cX5_changes 1 = .ok (.ifCond .lt 7, 3) := by decide +kernel
theorem dX5_changes_4 : decode cX5_changes 4 = .ok (.aload_n 0, 1) := by decide +kernel
theorem dX5_changes_5 : decode cX5_changes 5 = .ok (.invokevirtual 78, 3) := by decide +kernel
theorem dX5_changes_8 : decode cX5_changes 8 = .ok (.iload_n 1, 1) := by decide +kernel
theorem dX5_changes_9 : decode cX5_changes 9 = .ok (.ireturn, 1) := by decide +kernel
theorem dX5_add_0 : decode cX5_add 0 = .ok (.iload_n 1, 1) := by decide +kernel
theorem dX5_add_1 : decode cX5_add 1 = .ok (.iconst 1, 1) := by decide +kernel
theorem dX5_add_2 : decode cX5_add 2 = .ok (.bipush 9, 2) := by decide +kernel
theorem dX5_add_4 : decode cX5_add 4 = .ok (.invokestatic 81, 3) := by decide +kernel
theorem dX5_add_7 : decode cX5_add 7 = .ok (.ifCond .ne 6, 3) := by decide +kernel
theorem dX5_add_10 : decode cX5_add 10 = .ok (.bipush (-2), 2) := by decide +kernel
theorem dX5_add_12 : decode cX5_add 12 = .ok (.ireturn, 1) := by decide +kernel
theorem dX5_add_13 : decode cX5_add 13 = .ok (.aload_n 0, 1) := by decide +kernel
theorem dX5_add_14 : decode cX5_add 14 = .ok (.invokevirtual 84, 3) := by decide +kernel
theorem dX5_add_17 : decode cX5_add 17 = .ok (.aload_n 0, 1) := by decide +kernel
theorem dX5_add_18 : decode cX5_add 18 = .ok (.aload_n 0, 1) := by decide +kernel
theorem dX5_add_19 : decode cX5_add 19 = .ok (.iload_n 1, 1) := by decide +kernel
theorem dX5_add_20 : decode cX5_add 20 = .ok (.invokevirtual 87, 3) := by decide +kernel
theorem dX5_add_23 : decode cX5_add 23 = .ok (.invokevirtual 90, 3) := by decide +kernel
theorem dX5_add_26 : decode cX5_add 26 = .ok (.ireturn, 1) := by decide +kernel
theorem dX5_remove_0 : decode cX5_remove 0 = .ok (.aload_n 0, 1) := by decide +kernel
theorem dX5_remove_1 : decode cX5_remove 1 = .ok (.invokevirtual 84, 3) := by decide +kernel
theorem dX5_remove_4 : decode cX5_remove 4 = .ok (.aload_n 0, 1) := by decide +kernel
theorem dX5_remove_5 : decode cX5_remove 5 = .ok (.aload_n 0, 1) := by decide +kernel
theorem dX5_remove_6 : decode cX5_remove 6 = .ok (.iload_n 1, 1) := by decide +kernel
theorem dX5_remove_7 : decode cX5_remove 7 = .ok (.invokevirtual 93, 3) := by decide +kernel
theorem dX5_remove_10 : decode cX5_remove 10 = .ok (.invokevirtual 90, 3) := by decide +kernel
theorem dX5_remove_13 : decode cX5_remove 13 = .ok (.ireturn, 1) := by decide +kernel
theorem dX5_read_0 : decode cX5_read 0 = .ok (.aload_n 0, 1) := by decide +kernel
theorem dX5_read_1 : decode cX5_read 1 = .ok (.iconst 0, 1) := by decide +kernel
theorem dX5_read_2 : decode cX5_read 2 = .ok (.iload_n 1, 1) := by decide +kernel
theorem dX5_read_3 : decode cX5_read 3 = .ok (.invokevirtual 65, 3) := by decide +kernel
theorem dX5_read_6 : decode cX5_read 6 = .ok (.bipush (-5), 2) := by decide +kernel
theorem dX5_read_8 : decode cX5_read 8 = .ok (.if_icmp .ne 5, 3) := by decide +kernel
theorem dX5_read_11 : decode cX5_read 11 = .ok (.iconst (-1), 1) := by decide +kernel
theorem dX5_read_12 : decode cX5_read 12 = .ok (.ireturn, 1) := by decide +kernel
theorem dX5_read_13 : decode cX5_read 13 = .ok (.iload_n 2, 1) := by decide +kernel
theorem dX5_read_14 : decode cX5_read 14 = .ok (.iconst 1, 1) := by decide +kernel
theorem dX5_read_15 : decode cX5_read 15 = .ok (.bipush 99, 2) := by decide +kernel
theorem dX5_read_17 : decode cX5_read 17 = .ok (.invokestatic 81, 3) := by decide +kernel
theorem dX5_read_20 : decode cX5_read 20 = .ok (.ifCond .ne 6, 3) := by decide +kernel
theorem dX5_read_23 : decode cX5_read 23 = .ok (.bipush (-2), 2) := by decide +kernel
theorem dX5_read_25 : decode cX5_read 25 = .ok (.ireturn, 1) := by decide +kernel
theorem dX5_read_26 : decode cX5_read 26 = .ok (.aload_n 0, 1) := by decide +kernel
theorem dX5_read_27 : decode cX5_read 27 = .ok (.invokevirtual 84, 3) := by decide +kernel
theorem dX5_read_30 : decode cX5_read 30 = .ok (.aload_n 0, 1) := by decide +kernel
theorem dX5_read_31 : decode cX5_read 31 = .ok (.aload_n 0, 1) := by decide +kernel
theorem dX5_read_32 : decode cX5_read 32 = .ok (.iload_n 1, 1) := by decide +kernel
theorem dX5_read_33 : decode cX5_read 33 = .ok (.iload_n 2, 1) := by decide +kernel
theorem dX5_read_34 : decode cX5_read 34 = .ok (.invokevirtual 96, 3) := by decide +kernel
theorem dX5_read_37 : decode cX5_read 37 = .ok (.invokevirtual 90, 3) := by decide +kernel
theorem dX5_read_40 : decode cX5_read 40 = .ok (.ireturn, 1) := by decide +kernel
theorem dX5_pin_0 : decode cX5_pin 0 = .ok (.aload_n 0, 1) := by decide +kernel
theorem dX5_pin_1 : decode cX5_pin 1 = .ok (.iconst 0, 1) := by decide +kernel
theorem dX5_pin_2 : decode cX5_pin 2 = .ok (.iload_n 1, 1) := by decide +kernel
theorem dX5_pin_3 : decode cX5_pin 3 = .ok (.invokevirtual 65, 3) := by decide +kernel
theorem dX5_pin_6 : decode cX5_pin 6 = .ok (.istore_n 3, 1) := by decide +kernel
theorem dX5_pin_7 : decode cX5_pin 7 = .ok (.iload_n 3, 1) := by decide +kernel
theorem dX5_pin_8 : decode cX5_pin 8 = .ok (.bipush (-5), 2) := by decide +kernel
theorem dX5_pin_10 : decode cX5_pin 10 = .ok (.if_icmp .ne 5, 3) := by decide +kernel
theorem dX5_pin_13 : decode cX5_pin 13 = .ok (.iconst (-1), 1) := by decide +kernel
theorem dX5_pin_14 : decode cX5_pin 14 = .ok (.ireturn, 1) := by decide +kernel
theorem dX5_pin_15 : decode cX5_pin 15 = .ok (.aload_n 0, 1) := by decide +kernel
theorem dX5_pin_16 : decode cX5_pin 16 = .ok (.getfield 7, 3) := by decide +kernel
theorem dX5_pin_19 : decode cX5_pin 19 = .ok (.iconst 0, 1) := by decide +kernel
theorem dX5_pin_20 : decode cX5_pin 20 = .ok (.iload_n 3, 1) := by decide +kernel
theorem dX5_pin_21 : decode cX5_pin 21 = .ok (.invokestatic 32, 3) := by decide +kernel
theorem dX5_pin_24 : decode cX5_pin 24 = .ok (.iconst 4, 1) := by decide +kernel
theorem dX5_pin_25 : decode cX5_pin 25 = .ok (.iadd, 1) := by decide +kernel
theorem dX5_pin_26 : decode cX5_pin 26 = .ok (.iaload, 1) := by decide +kernel
theorem dX5_pin_27 : decode cX5_pin 27 = .ok (.iload_n 2, 1) := by decide +kernel
theorem dX5_pin_28 : decode cX5_pin 28 = .ok (.ifCond .eq 7, 3) := by decide +kernel
theorem dX5_pin_31 : decode cX5_pin 31 = .ok (.iconst 1, 1) := by decide +kernel
theorem dX5_pin_32 : decode cX5_pin 32 = .ok (.goto 4, 3) := by decide +kernel
theorem dX5_pin_35 : decode cX5_pin 35 = .ok (.iconst 0, 1) := by decide +kernel
theorem dX5_pin_36 : decode cX5_pin 36 = .ok (.if_icmp .ne 6, 3) := by decide +kernel
theorem dX5_pin_39 : decode cX5_pin 39 = .ok (.bipush (-5), 2) := by decide +kernel
theorem dX5_pin_41 : decode cX5_pin 41 = .ok (.ireturn, 1) := by decide +kernel
theorem dX5_pin_42 : decode cX5_pin 42 = .ok (.aload_n 0, 1) := by decide +kernel
theorem dX5_pin_43 : decode cX5_pin 43 = .ok (.invokevirtual 84, 3) := by decide +kernel
theorem dX5_pin_46 : decode cX5_pin 46 = .ok (.aload_n 0, 1) := by decide +kernel
theorem dX5_pin_47 : decode cX5_pin 47 = .ok (.aload_n 0, 1) := by decide +kernel
theorem dX5_pin_48 : decode cX5_pin 48 = .ok (.iload_n 1, 1) := by decide +kernel
theorem dX5_pin_49 : decode cX5_pin 49 = .ok (.invokevirtual 99, 3) := by decide +kernel
theorem dX5_pin_52 : decode cX5_pin 52 = .ok (.invokevirtual 90, 3) := by decide +kernel
theorem dX5_pin_55 : decode cX5_pin 55 = .ok (.ireturn, 1) := by decide +kernel
theorem dX5_pass_0 : decode cX5_pass 0 = .ok (.iload_n 1, 1) := by decide +kernel
theorem dX5_pass_1 : decode cX5_pass 1 = .ok (.iconst 1, 1) := by decide +kernel
theorem dX5_pass_2 : decode cX5_pass 2 = .ok (.bipush 99, 2) := by decide +kernel
theorem dX5_pass_4 : decode cX5_pass 4 = .ok (.invokestatic 81, 3) := by decide +kernel
theorem dX5_pass_7 : decode cX5_pass 7 = .ok (.ifCond .ne 6, 3) := by decide +kernel
theorem dX5_pass_10 : decode cX5_pass 10 = .ok (.bipush (-2), 2) := by decide +kernel
theorem dX5_pass_12 : decode cX5_pass 12 = .ok (.ireturn, 1) := by decide +kernel
theorem dX5_pass_13 : decode cX5_pass 13 = .ok (.aload_n 0, 1) := by decide +kernel
theorem dX5_pass_14 : decode cX5_pass 14 = .ok (.invokevirtual 84, 3) := by decide +kernel
theorem dX5_pass_17 : decode cX5_pass 17 = .ok (.aload_n 0, 1) := by decide +kernel
theorem dX5_pass_18 : decode cX5_pass 18 = .ok (.aload_n 0, 1) := by decide +kernel
theorem dX5_pass_19 : decode cX5_pass 19 = .ok (.iload_n 1, 1) := by decide +kernel
theorem dX5_pass_20 : decode cX5_pass 20 = .ok (.invokevirtual 102, 3) := by decide +kernel
theorem dX5_pass_23 : decode cX5_pass 23 = .ok (.invokevirtual 90, 3) := by decide +kernel
theorem dX5_pass_26 : decode cX5_pass 26 = .ok (.ireturn, 1) := by decide +kernel
theorem dX5_mostOf_0 : decode cX5_mostOf 0 = .ok (.iload_n 0, 1) := by decide +kernel
theorem dX5_mostOf_1 : decode cX5_mostOf 1 = .ok (.tableswitch 68 0 8 #[51, 54, 54, 58, 61, 68, 64, 64, 64], 51) := by decide +kernel
theorem dX5_mostOf_52 : decode cX5_mostOf 52 = .ok (.bipush 100, 2) := by decide +kernel
theorem dX5_mostOf_54 : decode cX5_mostOf 54 = .ok (.ireturn, 1) := by decide +kernel
theorem dX5_mostOf_55 : decode cX5_mostOf 55 = .ok (.sipush 20000, 3) := by decide +kernel
theorem dX5_mostOf_58 : decode cX5_mostOf 58 = .ok (.ireturn, 1) := by decide +kernel
theorem dX5_mostOf_59 : decode cX5_mostOf 59 = .ok (.bipush 24, 2) := by decide +kernel
theorem dX5_mostOf_61 : decode cX5_mostOf 61 = .ok (.ireturn, 1) := by decide +kernel
theorem dX5_mostOf_62 : decode cX5_mostOf 62 = .ok (.bipush 30, 2) := by decide +kernel
theorem dX5_mostOf_64 : decode cX5_mostOf 64 = .ok (.ireturn, 1) := by decide +kernel
theorem dX5_mostOf_65 : decode cX5_mostOf 65 = .ok (.sipush 200, 3) := by decide +kernel
theorem dX5_mostOf_68 : decode cX5_mostOf 68 = .ok (.ireturn, 1) := by decide +kernel
theorem dX5_mostOf_69 : decode cX5_mostOf 69 = .ok (.bipush 50, 2) := by decide +kernel
theorem dX5_mostOf_71 : decode cX5_mostOf 71 = .ok (.ireturn, 1) := by decide +kernel
theorem dX5_set_0 : decode cX5_set 0 = .ok (.iload_n 1, 1) := by decide +kernel
theorem dX5_set_1 : decode cX5_set 1 = .ok (.iconst 0, 1) := by decide +kernel
theorem dX5_set_2 : decode cX5_set 2 = .ok (.bipush 14, 2) := by decide +kernel
theorem dX5_set_4 : decode cX5_set 4 = .ok (.invokestatic 81, 3) := by decide +kernel
theorem dX5_set_7 : decode cX5_set 7 = .ok (.ifCond .ne 5, 3) := by decide +kernel
theorem dX5_set_10 : decode cX5_set 10 = .ok (.iconst (-1), 1) := by decide +kernel
theorem dX5_set_11 : decode cX5_set 11 = .ok (.ireturn, 1) := by decide +kernel
theorem dX5_set_12 : decode cX5_set 12 = .ok (.iload_n 2, 1) := by decide +kernel
theorem dX5_set_13 : decode cX5_set 13 = .ok (.iconst 0, 1) := by decide +kernel
theorem dX5_set_14 : decode cX5_set 14 = .ok (.iload_n 1, 1) := by decide +kernel
theorem dX5_set_15 : decode cX5_set 15 = .ok (.invokestatic 105, 3) := by decide +kernel
theorem dX5_set_18 : decode cX5_set 18 = .ok (.invokestatic 81, 3) := by decide +kernel
theorem dX5_set_21 : decode cX5_set 21 = .ok (.ifCond .ne 6, 3) := by decide +kernel
theorem dX5_set_24 : decode cX5_set 24 = .ok (.bipush (-2), 2) := by decide +kernel
theorem dX5_set_26 : decode cX5_set 26 = .ok (.ireturn, 1) := by decide +kernel
theorem dX5_set_27 : decode cX5_set 27 = .ok (.iload_n 1, 1) := by decide +kernel
theorem dX5_set_28 : decode cX5_set 28 = .ok (.iconst 1, 1) := by decide +kernel
theorem dX5_set_29 : decode cX5_set 29 = .ok (.if_icmp .ne 13, 3) := by decide +kernel
theorem dX5_set_32 : decode cX5_set 32 = .ok (.iload_n 2, 1) := by decide +kernel
theorem dX5_set_33 : decode cX5_set 33 = .ok (.aload_n 0, 1) := by decide +kernel
theorem dX5_set_34 : decode cX5_set 34 = .ok (.getfield 7, 3) := by decide +kernel
theorem dX5_set_37 : decode cX5_set 37 = .ok (.iconst 2, 1) := by decide +kernel
theorem dX5_set_38 : decode cX5_set 38 = .ok (.iaload, 1) := by decide +kernel
theorem dX5_set_39 : decode cX5_set 39 = .ok (.if_icmp .lt 18, 3) := by decide +kernel
theorem dX5_set_42 : decode cX5_set 42 = .ok (.iload_n 1, 1) := by decide +kernel
theorem dX5_set_43 : decode cX5_set 43 = .ok (.iconst 2, 1) := by decide +kernel
theorem dX5_set_44 : decode cX5_set 44 = .ok (.if_icmp .ne 17, 3) := by decide +kernel
theorem dX5_set_47 : decode cX5_set 47 = .ok (.iload_n 2, 1) := by decide +kernel
theorem dX5_set_48 : decode cX5_set 48 = .ok (.aload_n 0, 1) := by decide +kernel
theorem dX5_set_49 : decode cX5_set 49 = .ok (.getfield 7, 3) := by decide +kernel
theorem dX5_set_52 : decode cX5_set 52 = .ok (.iconst 1, 1) := by decide +kernel
theorem dX5_set_53 : decode cX5_set 53 = .ok (.iaload, 1) := by decide +kernel
theorem dX5_set_54 : decode cX5_set 54 = .ok (.if_icmp .le 7, 3) := by decide +kernel
theorem dX5_set_57 : decode cX5_set 57 = .ok (.iconst 1, 1) := by decide +kernel
theorem dX5_set_58 : decode cX5_set 58 = .ok (.goto 4, 3) := by decide +kernel
theorem dX5_set_61 : decode cX5_set 61 = .ok (.iconst 0, 1) := by decide +kernel
theorem dX5_set_62 : decode cX5_set 62 = .ok (.istore_n 3, 1) := by decide +kernel
theorem dX5_set_63 : decode cX5_set 63 = .ok (.iload_n 3, 1) := by decide +kernel
theorem dX5_set_64 : decode cX5_set 64 = .ok (.ifCond .ne 28, 3) := by decide +kernel
theorem dX5_set_67 : decode cX5_set 67 = .ok (.iload_n 1, 1) := by decide +kernel
theorem dX5_set_68 : decode cX5_set 68 = .ok (.bipush 6, 2) := by decide +kernel
theorem dX5_set_70 : decode cX5_set 70 = .ok (.bipush 8, 2) := by decide +kernel
theorem dX5_set_72 : decode cX5_set 72 = .ok (.invokestatic 81, 3) := by decide +kernel
theorem dX5_set_75 : decode cX5_set 75 = .ok (.ifCond .eq 20, 3) := by decide +kernel
theorem dX5_set_78 : decode cX5_set 78 = .ok (.aload_n 0, 1) := by decide +kernel
theorem dX5_set_79 : decode cX5_set 79 = .ok (.iconst 0, 1) := by decide +kernel
theorem dX5_set_80 : decode cX5_set 80 = .ok (.iload_n 1, 1) := by decide +kernel
theorem dX5_set_81 : decode cX5_set 81 = .ok (.bipush 6, 2) := by decide +kernel
theorem dX5_set_83 : decode cX5_set 83 = .ok (.isub, 1) := by decide +kernel
theorem dX5_set_84 : decode cX5_set 84 = .ok (.iconst 1, 1) := by decide +kernel
theorem dX5_set_85 : decode cX5_set 85 = .ok (.invokevirtual 36, 3) := by decide +kernel
theorem dX5_set_88 : decode cX5_set 88 = .ok (.iload_n 2, 1) := by decide +kernel
theorem dX5_set_89 : decode cX5_set 89 = .ok (.if_icmp .le 6, 3) := by decide +kernel
theorem dX5_set_92 : decode cX5_set 92 = .ok (.bipush (-4), 2) := by decide +kernel
theorem dX5_set_94 : decode cX5_set 94 = .ok (.ireturn, 1) := by decide +kernel
theorem dX5_set_95 : decode cX5_set 95 = .ok (.aload_n 0, 1) := by decide +kernel
theorem dX5_set_96 : decode cX5_set 96 = .ok (.getfield 7, 3) := by decide +kernel
theorem dX5_set_99 : decode cX5_set 99 = .ok (.iload_n 1, 1) := by decide +kernel
theorem dX5_set_100 : decode cX5_set 100 = .ok (.iaload, 1) := by decide +kernel
theorem dX5_set_101 : decode cX5_set 101 = .ok (.istore 4, 2) := by decide +kernel
theorem dX5_set_103 : decode cX5_set 103 = .ok (.iload 4, 2) := by decide +kernel
theorem dX5_set_105 : decode cX5_set 105 = .ok (.iload_n 2, 1) := by decide +kernel
theorem dX5_set_106 : decode cX5_set 106 = .ok (.if_icmp .ne 6, 3) := by decide +kernel
theorem dX5_set_109 : decode cX5_set 109 = .ok (.bipush (-5), 2) := by decide +kernel
theorem dX5_set_111 : decode cX5_set 111 = .ok (.ireturn, 1) := by decide +kernel
theorem dX5_set_112 : decode cX5_set 112 = .ok (.aload_n 0, 1) := by decide +kernel
theorem dX5_set_113 : decode cX5_set 113 = .ok (.invokevirtual 29, 3) := by decide +kernel
theorem dX5_set_116 : decode cX5_set 116 = .ok (.aload_n 0, 1) := by decide +kernel
theorem dX5_set_117 : decode cX5_set 117 = .ok (.getfield 7, 3) := by decide +kernel
theorem dX5_set_120 : decode cX5_set 120 = .ok (.iload_n 1, 1) := by decide +kernel
theorem dX5_set_121 : decode cX5_set 121 = .ok (.iload_n 2, 1) := by decide +kernel
theorem dX5_set_122 : decode cX5_set 122 = .ok (.iastore, 1) := by decide +kernel
theorem dX5_set_123 : decode cX5_set 123 = .ok (.iload 4, 2) := by decide +kernel
theorem dX5_set_125 : decode cX5_set 125 = .ok (.ireturn, 1) := by decide +kernel
theorem dX5_type_0 : decode cX5_type 0 = .ok (.aload_n 0, 1) := by decide +kernel
theorem dX5_type_1 : decode cX5_type 1 = .ok (.getfield 108, 3) := by decide +kernel
theorem dX5_type_4 : decode cX5_type 4 = .ok (.bipush 60, 2) := by decide +kernel
theorem dX5_type_6 : decode cX5_type 6 = .ok (.if_icmp .ne 6, 3) := by decide +kernel
theorem dX5_type_9 : decode cX5_type 9 = .ok (.bipush (-3), 2) := by decide +kernel
theorem dX5_type_11 : decode cX5_type 11 = .ok (.ireturn, 1) := by decide +kernel
theorem dX5_type_12 : decode cX5_type 12 = .ok (.aload_n 0, 1) := by decide +kernel
theorem dX5_type_13 : decode cX5_type 13 = .ok (.getfield 19, 3) := by decide +kernel
theorem dX5_type_16 : decode cX5_type 16 = .ok (.aload_n 0, 1) := by decide +kernel
theorem dX5_type_17 : decode cX5_type 17 = .ok (.getfield 108, 3) := by decide +kernel
theorem dX5_type_20 : decode cX5_type 20 = .ok (.iload_n 1, 1) := by decide +kernel
theorem dX5_type_21 : decode cX5_type 21 = .ok (.iastore, 1) := by decide +kernel
theorem dX5_type_22 : decode cX5_type 22 = .ok (.aload_n 0, 1) := by decide +kernel
theorem dX5_type_23 : decode cX5_type 23 = .ok (.dup, 1) := by decide +kernel
theorem dX5_type_24 : decode cX5_type 24 = .ok (.getfield 108, 3) := by decide +kernel
theorem dX5_type_27 : decode cX5_type 27 = .ok (.iconst 1, 1) := by decide +kernel
theorem dX5_type_28 : decode cX5_type 28 = .ok (.iadd, 1) := by decide +kernel
theorem dX5_type_29 : decode cX5_type 29 = .ok (.putfield 108, 3) := by decide +kernel
theorem dX5_type_32 : decode cX5_type 32 = .ok (.aload_n 0, 1) := by decide +kernel
theorem dX5_type_33 : decode cX5_type 33 = .ok (.getfield 108, 3) := by decide +kernel
theorem dX5_type_36 : decode cX5_type 36 = .ok (.ireturn, 1) := by decide +kernel
theorem dX5_clearText_0 : decode cX5_clearText 0 = .ok (.aload_n 0, 1) := by decide +kernel
theorem dX5_clearText_1 : decode cX5_clearText 1 = .ok (.getfield 108, 3) := by decide +kernel
theorem dX5_clearText_4 : decode cX5_clearText 4 = .ok (.istore_n 1, 1) := by decide +kernel
theorem dX5_clearText_5 : decode cX5_clearText 5 = .ok (.aload_n 0, 1) := by decide +kernel
theorem dX5_clearText_6 : decode cX5_clearText 6 = .ok (.iconst 0, 1) := by decide +kernel
theorem dX5_clearText_7 : decode cX5_clearText 7 = .ok (.putfield 108, 3) := by decide +kernel
theorem dX5_clearText_10 : decode cX5_clearText 10 = .ok (.iload_n 1, 1) := by decide +kernel
theorem dX5_clearText_11 : decode cX5_clearText 11 = .ok (.ireturn, 1) := by decide +kernel
theorem dX5_sign_0 : decode cX5_sign 0 = .ok (.iload_n 1, 1) := by decide +kernel
theorem dX5_sign_1 : decode cX5_sign 1 = .ok (.aload_n 0, 1) := by decide +kernel
theorem dX5_sign_2 : decode cX5_sign 2 = .ok (.getfield 108, 3) := by decide +kernel
theorem dX5_sign_5 : decode cX5_sign 5 = .ok (.if_icmp .ge 12, 3) := by decide +kernel
theorem dX5_sign_8 : decode cX5_sign 8 = .ok (.aload_n 0, 1) := by decide +kernel
theorem dX5_sign_9 : decode cX5_sign 9 = .ok (.getfield 19, 3) := by decide +kernel
theorem dX5_sign_12 : decode cX5_sign 12 = .ok (.iload_n 1, 1) := by decide +kernel
theorem dX5_sign_13 : decode cX5_sign 13 = .ok (.iaload, 1) := by decide +kernel
theorem dX5_sign_14 : decode cX5_sign 14 = .ok (.goto 4, 3) := by decide +kernel
theorem dX5_sign_17 : decode cX5_sign 17 = .ok (.iconst (-1), 1) := by decide +kernel
theorem dX5_sign_18 : decode cX5_sign 18 = .ok (.ireturn, 1) := by decide +kernel
theorem dX5_digit_0 : decode cX5_digit 0 = .ok (.aload_n 0, 1) := by decide +kernel
theorem dX5_digit_1 : decode cX5_digit 1 = .ok (.iload_n 1, 1) := by decide +kernel
theorem dX5_digit_2 : decode cX5_digit 2 = .ok (.invokevirtual 111, 3) := by decide +kernel
theorem dX5_digit_5 : decode cX5_digit 5 = .ok (.bipush 48, 2) := by decide +kernel
theorem dX5_digit_7 : decode cX5_digit 7 = .ok (.bipush 57, 2) := by decide +kernel
theorem dX5_digit_9 : decode cX5_digit 9 = .ok (.invokestatic 81, 3) := by decide +kernel
theorem dX5_digit_12 : decode cX5_digit 12 = .ok (.ifCond .eq 14, 3) := by decide +kernel
theorem dX5_digit_15 : decode cX5_digit 15 = .ok (.aload_n 0, 1) := by decide +kernel
theorem dX5_digit_16 : decode cX5_digit 16 = .ok (.iload_n 1, 1) := by decide +kernel
theorem dX5_digit_17 : decode cX5_digit 17 = .ok (.invokevirtual 111, 3) := by decide +kernel
theorem dX5_digit_20 : decode cX5_digit 20 = .ok (.bipush 48, 2) := by decide +kernel
theorem dX5_digit_22 : decode cX5_digit 22 = .ok (.isub, 1) := by decide +kernel
theorem dX5_digit_23 : decode cX5_digit 23 = .ok (.goto 4, 3) := by decide +kernel
theorem dX5_digit_26 : decode cX5_digit 26 = .ok (.iconst (-1), 1) := by decide +kernel
theorem dX5_digit_27 : decode cX5_digit 27 = .ok (.ireturn, 1) := by decide +kernel
theorem dX5_numberEnd_0 : decode cX5_numberEnd 0 = .ok (.aload_n 0, 1) := by decide +kernel
theorem dX5_numberEnd_1 : decode cX5_numberEnd 1 = .ok (.iload_n 1, 1) := by decide +kernel
theorem dX5_numberEnd_2 : decode cX5_numberEnd 2 = .ok (.invokevirtual 114, 3) := by decide +kernel
theorem dX5_numberEnd_5 : decode cX5_numberEnd 5 = .ok (.istore 4, 2) := by decide +kernel
theorem dX5_numberEnd_7 : decode cX5_numberEnd 7 = .ok (.iload 4, 2) := by decide +kernel
theorem dX5_numberEnd_9 : decode cX5_numberEnd 9 = .ok (.iload_n 2, 1) := by decide +kernel
theorem dX5_numberEnd_10 : decode cX5_numberEnd 10 = .ok (.if_icmp .ge 7, 3) := by decide +kernel
theorem dX5_numberEnd_13 : decode cX5_numberEnd 13 = .ok (.iconst (-1), 1) := by decide +kernel
theorem dX5_numberEnd_14 : decode cX5_numberEnd 14 = .ok (.iload_n 1, 1) := by decide +kernel
theorem dX5_numberEnd_15 : decode cX5_numberEnd 15 = .ok (.isub, 1) := by decide +kernel
theorem dX5_numberEnd_16 : decode cX5_numberEnd 16 = .ok (.ireturn, 1) := by decide +kernel
theorem dX5_numberEnd_17 : decode cX5_numberEnd 17 = .ok (.iload_n 1, 1) := by decide +kernel
theorem dX5_numberEnd_18 : decode cX5_numberEnd 18 = .ok (.iconst 1, 1) := by decide +kernel
theorem dX5_numberEnd_19 : decode cX5_numberEnd 19 = .ok (.iadd, 1) := by decide +kernel
theorem dX5_numberEnd_20 : decode cX5_numberEnd 20 = .ok (.istore 5, 2) := by decide +kernel
theorem dX5_numberEnd_22 : decode cX5_numberEnd 22 = .ok (.iload 4, 2) := by decide +kernel
theorem dX5_numberEnd_24 : decode cX5_numberEnd 24 = .ok (.ifCond .le 48, 3) := by decide +kernel
theorem dX5_numberEnd_27 : decode cX5_numberEnd 27 = .ok (.aload_n 0, 1) := by decide +kernel
theorem dX5_numberEnd_28 : decode cX5_numberEnd 28 = .ok (.iload 5, 2) := by decide +kernel
theorem dX5_numberEnd_30 : decode cX5_numberEnd 30 = .ok (.invokevirtual 114, 3) := by decide +kernel
theorem dX5_numberEnd_33 : decode cX5_numberEnd 33 = .ok (.ifCond .lt 39, 3) := by decide +kernel
theorem dX5_numberEnd_36 : decode cX5_numberEnd 36 = .ok (.bipush 10, 2) := by decide +kernel
theorem dX5_numberEnd_38 : decode cX5_numberEnd 38 = .ok (.iload 4, 2) := by decide +kernel
theorem dX5_numberEnd_40 : decode cX5_numberEnd 40 = .ok (.imul, 1) := by decide +kernel
theorem dX5_numberEnd_41 : decode cX5_numberEnd 41 = .ok (.aload_n 0, 1) := by decide +kernel
theorem dX5_numberEnd_42 : decode cX5_numberEnd 42 = .ok (.iload 5, 2) := by decide +kernel
theorem dX5_numberEnd_44 : decode cX5_numberEnd 44 = .ok (.invokevirtual 114, 3) := by decide +kernel
theorem dX5_numberEnd_47 : decode cX5_numberEnd 47 = .ok (.iadd, 1) := by decide +kernel
theorem dX5_numberEnd_48 : decode cX5_numberEnd 48 = .ok (.iload_n 3, 1) := by decide +kernel
theorem dX5_numberEnd_49 : decode cX5_numberEnd 49 = .ok (.if_icmp .gt 23, 3) := by decide +kernel
theorem dX5_numberEnd_52 : decode cX5_numberEnd 52 = .ok (.bipush 10, 2) := by decide +kernel
theorem dX5_numberEnd_54 : decode cX5_numberEnd 54 = .ok (.iload 4, 2) := by decide +kernel
theorem dX5_numberEnd_56 : decode cX5_numberEnd 56 = .ok (.imul, 1) := by decide +kernel
theorem dX5_numberEnd_57 : decode cX5_numberEnd 57 = .ok (.aload_n 0, 1) := by decide +kernel
theorem dX5_numberEnd_58 : decode cX5_numberEnd 58 = .ok (.iload 5, 2) := by decide +kernel
theorem dX5_numberEnd_60 : decode cX5_numberEnd 60 = .ok (.invokevirtual 114, 3) := by decide +kernel
theorem dX5_numberEnd_63 : decode cX5_numberEnd 63 = .ok (.iadd, 1) := by decide +kernel
theorem dX5_numberEnd_64 : decode cX5_numberEnd 64 = .ok (.istore 4, 2) := by decide +kernel
theorem dX5_numberEnd_66 : decode cX5_numberEnd 66 = .ok (.iinc 5 1, 3) := by decide +kernel
theorem dX5_numberEnd_69 : decode cX5_numberEnd 69 = .ok (.goto (-47), 3) := by decide +kernel
theorem dX5_numberEnd_72 : decode cX5_numberEnd 72 = .ok (.iload 5, 2) := by decide +kernel
theorem dX5_numberEnd_74 : decode cX5_numberEnd 74 = .ok (.ireturn, 1) := by decide +kernel
theorem dX5_numberAt_0 : decode cX5_numberAt 0 = .ok (.iconst 0, 1) := by decide +kernel
theorem dX5_numberAt_1 : decode cX5_numberAt 1 = .ok (.istore_n 2, 1) := by decide +kernel
theorem dX5_numberAt_2 : decode cX5_numberAt 2 = .ok (.iload_n 1, 1) := by decide +kernel
theorem dX5_numberAt_3 : decode cX5_numberAt 3 = .ok (.istore_n 3, 1) := by decide +kernel
theorem dX5_numberAt_4 : decode cX5_numberAt 4 = .ok (.aload_n 0, 1) := by decide +kernel
theorem dX5_numberAt_5 : decode cX5_numberAt 5 = .ok (.iload_n 3, 1) := by decide +kernel
theorem dX5_numberAt_6 : decode cX5_numberAt 6 = .ok (.invokevirtual 114, 3) := by decide +kernel
theorem dX5_numberAt_9 : decode cX5_numberAt 9 = .ok (.ifCond .lt 20, 3) := by decide +kernel
theorem dX5_numberAt_12 : decode cX5_numberAt 12 = .ok (.bipush 10, 2) := by decide +kernel
theorem dX5_numberAt_14 : decode cX5_numberAt 14 = .ok (.iload_n 2, 1) := by decide +kernel
theorem dX5_numberAt_15 : decode cX5_numberAt 15 = .ok (.imul, 1) := by decide +kernel
theorem dX5_numberAt_16 : decode cX5_numberAt 16 = .ok (.aload_n 0, 1) := by decide +kernel
theorem dX5_numberAt_17 : decode cX5_numberAt 17 = .ok (.iload_n 3, 1) := by decide +kernel
theorem dX5_numberAt_18 : decode cX5_numberAt 18 = .ok (.invokevirtual 114, 3) := by decide +kernel
theorem dX5_numberAt_21 : decode cX5_numberAt 21 = .ok (.iadd, 1) := by decide +kernel
theorem dX5_numberAt_22 : decode cX5_numberAt 22 = .ok (.istore_n 2, 1) := by decide +kernel
theorem dX5_numberAt_23 : decode cX5_numberAt 23 = .ok (.iinc 3 1, 3) := by decide +kernel
theorem dX5_numberAt_26 : decode cX5_numberAt 26 = .ok (.goto (-22), 3) := by decide +kernel
theorem dX5_numberAt_29 : decode cX5_numberAt 29 = .ok (.iload_n 2, 1) := by decide +kernel
theorem dX5_numberAt_30 : decode cX5_numberAt 30 = .ok (.ireturn, 1) := by decide +kernel
theorem dX5_orderEnd_0 : decode cX5_orderEnd 0 = .ok (.aload_n 0, 1) := by decide +kernel
theorem dX5_orderEnd_1 : decode cX5_orderEnd 1 = .ok (.iload_n 1, 1) := by decide +kernel
theorem dX5_orderEnd_2 : decode cX5_orderEnd 2 = .ok (.invokevirtual 111, 3) := by decide +kernel
theorem dX5_orderEnd_5 : decode cX5_orderEnd 5 = .ok (.lookupswitch 126 #[(43, 51), (45, 62), (110, 115), (112, 62), (114, 74)], 51) := by decide +kernel
theorem dX5_orderEnd_56 : decode cX5_orderEnd 56 = .ok (.aload_n 0, 1) := by decide +kernel
theorem dX5_orderEnd_57 : decode cX5_orderEnd 57 = .ok (.iload_n 1, 1) := by decide +kernel
theorem dX5_orderEnd_58 : decode cX5_orderEnd 58 = .ok (.iconst 1, 1) := by decide +kernel
theorem dX5_orderEnd_59 : decode cX5_orderEnd 59 = .ok (.iadd, 1) := by decide +kernel
theorem dX5_orderEnd_60 : decode cX5_orderEnd 60 = .ok (.iconst 1, 1) := by decide +kernel
theorem dX5_orderEnd_61 : decode cX5_orderEnd 61 = .ok (.bipush 9, 2) := by decide +kernel
theorem dX5_orderEnd_63 : decode cX5_orderEnd 63 = .ok (.invokevirtual 117, 3) := by decide +kernel
theorem dX5_orderEnd_66 : decode cX5_orderEnd 66 = .ok (.ireturn, 1) := by decide +kernel
theorem dX5_orderEnd_67 : decode cX5_orderEnd 67 = .ok (.aload_n 0, 1) := by decide +kernel
theorem dX5_orderEnd_68 : decode cX5_orderEnd 68 = .ok (.iload_n 1, 1) := by decide +kernel
theorem dX5_orderEnd_69 : decode cX5_orderEnd 69 = .ok (.iconst 1, 1) := by decide +kernel
theorem dX5_orderEnd_70 : decode cX5_orderEnd 70 = .ok (.iadd, 1) := by decide +kernel
theorem dX5_orderEnd_71 : decode cX5_orderEnd 71 = .ok (.iconst 0, 1) := by decide +kernel
theorem dX5_orderEnd_72 : decode cX5_orderEnd 72 = .ok (.sipush 999, 3) := by decide +kernel
theorem dX5_orderEnd_75 : decode cX5_orderEnd 75 = .ok (.invokevirtual 117, 3) := by decide +kernel
theorem dX5_orderEnd_78 : decode cX5_orderEnd 78 = .ok (.ireturn, 1) := by decide +kernel
theorem dX5_orderEnd_79 : decode cX5_orderEnd 79 = .ok (.aload_n 0, 1) := by decide +kernel
theorem dX5_orderEnd_80 : decode cX5_orderEnd 80 = .ok (.iload_n 1, 1) := by decide +kernel
theorem dX5_orderEnd_81 : decode cX5_orderEnd 81 = .ok (.iconst 1, 1) := by decide +kernel
theorem dX5_orderEnd_82 : decode cX5_orderEnd 82 = .ok (.iadd, 1) := by decide +kernel
theorem dX5_orderEnd_83 : decode cX5_orderEnd 83 = .ok (.iconst 0, 1) := by decide +kernel
theorem dX5_orderEnd_84 : decode cX5_orderEnd 84 = .ok (.sipush 999, 3) := by decide +kernel
theorem dX5_orderEnd_87 : decode cX5_orderEnd 87 = .ok (.invokevirtual 117, 3) := by decide +kernel
theorem dX5_orderEnd_90 : decode cX5_orderEnd 90 = .ok (.istore_n 2, 1) := by decide +kernel
theorem dX5_orderEnd_91 : decode cX5_orderEnd 91 = .ok (.iload_n 2, 1) := by decide +kernel
theorem dX5_orderEnd_92 : decode cX5_orderEnd 92 = .ok (.ifCond .le 26, 3) := by decide +kernel
theorem dX5_orderEnd_95 : decode cX5_orderEnd 95 = .ok (.aload_n 0, 1) := by decide +kernel
theorem dX5_orderEnd_96 : decode cX5_orderEnd 96 = .ok (.iload_n 2, 1) := by decide +kernel
theorem dX5_orderEnd_97 : decode cX5_orderEnd 97 = .ok (.invokevirtual 111, 3) := by decide +kernel
theorem dX5_orderEnd_100 : decode cX5_orderEnd 100 = .ok (.bipush 42, 2) := by decide +kernel
theorem dX5_orderEnd_102 : decode cX5_orderEnd 102 = .ok (.if_icmp .ne 16, 3) := by decide +kernel
theorem dX5_orderEnd_105 : decode cX5_orderEnd 105 = .ok (.aload_n 0, 1) := by decide +kernel
theorem dX5_orderEnd_106 : decode cX5_orderEnd 106 = .ok (.iload_n 2, 1) := by decide +kernel
theorem dX5_orderEnd_107 : decode cX5_orderEnd 107 = .ok (.iconst 1, 1) := by decide +kernel
theorem dX5_orderEnd_108 : decode cX5_orderEnd 108 = .ok (.iadd, 1) := by decide +kernel
theorem dX5_orderEnd_109 : decode cX5_orderEnd 109 = .ok (.iconst 1, 1) := by decide +kernel
theorem dX5_orderEnd_110 : decode cX5_orderEnd 110 = .ok (.bipush 99, 2) := by decide +kernel
theorem dX5_orderEnd_112 : decode cX5_orderEnd 112 = .ok (.invokevirtual 117, 3) := by decide +kernel
theorem dX5_orderEnd_115 : decode cX5_orderEnd 115 = .ok (.goto 4, 3) := by decide +kernel
theorem dX5_orderEnd_118 : decode cX5_orderEnd 118 = .ok (.iload_n 2, 1) := by decide +kernel
theorem dX5_orderEnd_119 : decode cX5_orderEnd 119 = .ok (.ireturn, 1) := by decide +kernel
theorem dX5_orderEnd_120 : decode cX5_orderEnd 120 = .ok (.aload_n 0, 1) := by decide +kernel
theorem dX5_orderEnd_121 : decode cX5_orderEnd 121 = .ok (.iload_n 1, 1) := by decide +kernel
theorem dX5_orderEnd_122 : decode cX5_orderEnd 122 = .ok (.iconst 1, 1) := by decide +kernel
theorem dX5_orderEnd_123 : decode cX5_orderEnd 123 = .ok (.iadd, 1) := by decide +kernel
theorem dX5_orderEnd_124 : decode cX5_orderEnd 124 = .ok (.iconst 1, 1) := by decide +kernel
theorem dX5_orderEnd_125 : decode cX5_orderEnd 125 = .ok (.bipush 99, 2) := by decide +kernel
theorem dX5_orderEnd_127 : decode cX5_orderEnd 127 = .ok (.invokevirtual 117, 3) := by decide +kernel
theorem dX5_orderEnd_130 : decode cX5_orderEnd 130 = .ok (.ireturn, 1) := by decide +kernel
theorem dX5_orderEnd_131 : decode cX5_orderEnd 131 = .ok (.iconst (-1), 1) := by decide +kernel
theorem dX5_orderEnd_132 : decode cX5_orderEnd 132 = .ok (.iload_n 1, 1) := by decide +kernel
theorem dX5_orderEnd_133 : decode cX5_orderEnd 133 = .ok (.isub, 1) := by decide +kernel
theorem dX5_orderEnd_134 : decode cX5_orderEnd 134 = .ok (.ireturn, 1) := by decide +kernel
theorem dX5_fault_0 : decode cX5_fault 0 = .ok (.iconst 0, 1) := by decide +kernel
theorem dX5_fault_1 : decode cX5_fault 1 = .ok (.istore_n 1, 1) := by decide +kernel
theorem dX5_fault_2 : decode cX5_fault 2 = .ok (.iconst 0, 1) := by decide +kernel
theorem dX5_fault_3 : decode cX5_fault 3 = .ok (.istore_n 2, 1) := by decide +kernel
theorem dX5_fault_4 : decode cX5_fault 4 = .ok (.iload_n 2, 1) := by decide +kernel
theorem dX5_fault_5 : decode cX5_fault 5 = .ok (.bipush 60, 2) := by decide +kernel
theorem dX5_fault_7 : decode cX5_fault 7 = .ok (.if_icmp .ge 50, 3) := by decide +kernel
theorem dX5_fault_10 : decode cX5_fault 10 = .ok (.aload_n 0, 1) := by decide +kernel
theorem dX5_fault_11 : decode cX5_fault 11 = .ok (.iload_n 1, 1) := by decide +kernel
theorem dX5_fault_12 : decode cX5_fault 12 = .ok (.invokevirtual 120, 3) := by decide +kernel
theorem dX5_fault_15 : decode cX5_fault 15 = .ok (.istore_n 3, 1) := by decide +kernel
theorem dX5_fault_16 : decode cX5_fault 16 = .ok (.iload_n 3, 1) := by decide +kernel
theorem dX5_fault_17 : decode cX5_fault 17 = .ok (.ifCond .ge 7, 3) := by decide +kernel
theorem dX5_fault_20 : decode cX5_fault 20 = .ok (.iconst (-1), 1) := by decide +kernel
theorem dX5_fault_21 : decode cX5_fault 21 = .ok (.iload_n 3, 1) := by decide +kernel
theorem dX5_fault_22 : decode cX5_fault 22 = .ok (.isub, 1) := by decide +kernel
theorem dX5_fault_23 : decode cX5_fault 23 = .ok (.ireturn, 1) := by decide +kernel
theorem dX5_fault_24 : decode cX5_fault 24 = .ok (.iload_n 3, 1) := by decide +kernel
theorem dX5_fault_25 : decode cX5_fault 25 = .ok (.aload_n 0, 1) := by decide +kernel
theorem dX5_fault_26 : decode cX5_fault 26 = .ok (.getfield 108, 3) := by decide +kernel
theorem dX5_fault_29 : decode cX5_fault 29 = .ok (.if_icmp .ne 6, 3) := by decide +kernel
theorem dX5_fault_32 : decode cX5_fault 32 = .ok (.bipush (-5), 2) := by decide +kernel
theorem dX5_fault_34 : decode cX5_fault 34 = .ok (.ireturn, 1) := by decide +kernel
theorem dX5_fault_35 : decode cX5_fault 35 = .ok (.aload_n 0, 1) := by decide +kernel
theorem dX5_fault_36 : decode cX5_fault 36 = .ok (.iload_n 3, 1) := by decide +kernel
theorem dX5_fault_37 : decode cX5_fault 37 = .ok (.invokevirtual 111, 3) := by decide +kernel
theorem dX5_fault_40 : decode cX5_fault 40 = .ok (.bipush 44, 2) := by decide +kernel
theorem dX5_fault_42 : decode cX5_fault 42 = .ok (.if_icmp .eq 5, 3) := by decide +kernel
theorem dX5_fault_45 : decode cX5_fault 45 = .ok (.iload_n 3, 1) := by decide +kernel
theorem dX5_fault_46 : decode cX5_fault 46 = .ok (.ireturn, 1) := by decide +kernel
theorem dX5_fault_47 : decode cX5_fault 47 = .ok (.iload_n 3, 1) := by decide +kernel
theorem dX5_fault_48 : decode cX5_fault 48 = .ok (.iconst 1, 1) := by decide +kernel
theorem dX5_fault_49 : decode cX5_fault 49 = .ok (.iadd, 1) := by decide +kernel
theorem dX5_fault_50 : decode cX5_fault 50 = .ok (.istore_n 1, 1) := by decide +kernel
theorem dX5_fault_51 : decode cX5_fault 51 = .ok (.iinc 2 1, 3) := by decide +kernel
theorem dX5_fault_54 : decode cX5_fault 54 = .ok (.goto (-50), 3) := by decide +kernel
theorem dX5_fault_57 : decode cX5_fault 57 = .ok (.bipush (-5), 2) := by decide +kernel
theorem dX5_fault_59 : decode cX5_fault 59 = .ok (.ireturn, 1) := by decide +kernel
theorem dX5_does_0 : decode cX5_does 0 = .ok (.aload_n 0, 1) := by decide +kernel
theorem dX5_does_1 : decode cX5_does 1 = .ok (.iload_n 1, 1) := by decide +kernel
theorem dX5_does_2 : decode cX5_does 2 = .ok (.iconst 1, 1) := by decide +kernel
theorem dX5_does_3 : decode cX5_does 3 = .ok (.iadd, 1) := by decide +kernel
theorem dX5_does_4 : decode cX5_does 4 = .ok (.invokevirtual 123, 3) := by decide +kernel
theorem dX5_does_7 : decode cX5_does 7 = .ok (.istore_n 2, 1) := by decide +kernel
theorem dX5_does_8 : decode cX5_does 8 = .ok (.aload_n 0, 1) := by decide +kernel
theorem dX5_does_9 : decode cX5_does 9 = .ok (.iload_n 1, 1) := by decide +kernel
theorem dX5_does_10 : decode cX5_does 10 = .ok (.invokevirtual 111, 3) := by decide +kernel
theorem dX5_does_13 : decode cX5_does 13 = .ok (.lookupswitch 100 #[(43, 43), (45, 49), (112, 94), (114, 55)], 43) := by decide +kernel
theorem dX5_does_56 : decode cX5_does 56 = .ok (.aload_n 0, 1) := by decide +kernel
theorem dX5_does_57 : decode cX5_does 57 = .ok (.iload_n 2, 1) := by decide +kernel
theorem dX5_does_58 : decode cX5_does 58 = .ok (.invokevirtual 87, 3) := by decide +kernel
theorem dX5_does_61 : decode cX5_does 61 = .ok (.ireturn, 1) := by decide +kernel
theorem dX5_does_62 : decode cX5_does 62 = .ok (.aload_n 0, 1) := by decide +kernel
theorem dX5_does_63 : decode cX5_does 63 = .ok (.iload_n 2, 1) := by decide +kernel
theorem dX5_does_64 : decode cX5_does 64 = .ok (.invokevirtual 93, 3) := by decide +kernel
theorem dX5_does_67 : decode cX5_does 67 = .ok (.ireturn, 1) := by decide +kernel
theorem dX5_does_68 : decode cX5_does 68 = .ok (.aload_n 0, 1) := by decide +kernel
theorem dX5_does_69 : decode cX5_does 69 = .ok (.iload_n 1, 1) := by decide +kernel
theorem dX5_does_70 : decode cX5_does 70 = .ok (.iconst 1, 1) := by decide +kernel
theorem dX5_does_71 : decode cX5_does 71 = .ok (.iadd, 1) := by decide +kernel
theorem dX5_does_72 : decode cX5_does 72 = .ok (.iconst 0, 1) := by decide +kernel
theorem dX5_does_73 : decode cX5_does 73 = .ok (.sipush 999, 3) := by decide +kernel
theorem dX5_does_76 : decode cX5_does 76 = .ok (.invokevirtual 117, 3) := by decide +kernel
theorem dX5_does_79 : decode cX5_does 79 = .ok (.istore_n 3, 1) := by decide +kernel
theorem dX5_does_80 : decode cX5_does 80 = .ok (.aload_n 0, 1) := by decide +kernel
theorem dX5_does_81 : decode cX5_does 81 = .ok (.iload_n 2, 1) := by decide +kernel
theorem dX5_does_82 : decode cX5_does 82 = .ok (.aload_n 0, 1) := by decide +kernel
theorem dX5_does_83 : decode cX5_does 83 = .ok (.iload_n 3, 1) := by decide +kernel
theorem dX5_does_84 : decode cX5_does 84 = .ok (.invokevirtual 111, 3) := by decide +kernel
theorem dX5_does_87 : decode cX5_does 87 = .ok (.bipush 42, 2) := by decide +kernel
theorem dX5_does_89 : decode cX5_does 89 = .ok (.if_icmp .ne 13, 3) := by decide +kernel
theorem dX5_does_92 : decode cX5_does 92 = .ok (.aload_n 0, 1) := by decide +kernel
theorem dX5_does_93 : decode cX5_does 93 = .ok (.iload_n 3, 1) := by decide +kernel
theorem dX5_does_94 : decode cX5_does 94 = .ok (.iconst 1, 1) := by decide +kernel
theorem dX5_does_95 : decode cX5_does 95 = .ok (.iadd, 1) := by decide +kernel
theorem dX5_does_96 : decode cX5_does 96 = .ok (.invokevirtual 123, 3) := by decide +kernel
theorem dX5_does_99 : decode cX5_does 99 = .ok (.goto 4, 3) := by decide +kernel
theorem dX5_does_102 : decode cX5_does 102 = .ok (.iconst 1, 1) := by decide +kernel
theorem dX5_does_103 : decode cX5_does 103 = .ok (.invokevirtual 96, 3) := by decide +kernel
theorem dX5_does_106 : decode cX5_does 106 = .ok (.ireturn, 1) := by decide +kernel
theorem dX5_does_107 : decode cX5_does 107 = .ok (.aload_n 0, 1) := by decide +kernel
theorem dX5_does_108 : decode cX5_does 108 = .ok (.iload_n 2, 1) := by decide +kernel
theorem dX5_does_109 : decode cX5_does 109 = .ok (.invokevirtual 99, 3) := by decide +kernel
theorem dX5_does_112 : decode cX5_does 112 = .ok (.ireturn, 1) := by decide +kernel
theorem dX5_does_113 : decode cX5_does 113 = .ok (.aload_n 0, 1) := by decide +kernel
theorem dX5_does_114 : decode cX5_does 114 = .ok (.iload_n 2, 1) := by decide +kernel
theorem dX5_does_115 : decode cX5_does 115 = .ok (.invokevirtual 102, 3) := by decide +kernel
theorem dX5_does_118 : decode cX5_does 118 = .ok (.ireturn, 1) := by decide +kernel
theorem dX5_perform_0 : decode cX5_perform 0 = .ok (.aload_n 0, 1) := by decide +kernel
theorem dX5_perform_1 : decode cX5_perform 1 = .ok (.invokevirtual 126, 3) := by decide +kernel
theorem dX5_perform_4 : decode cX5_perform 4 = .ok (.istore_n 1, 1) := by decide +kernel
theorem dX5_perform_5 : decode cX5_perform 5 = .ok (.iload_n 1, 1) := by decide +kernel
theorem dX5_perform_6 : decode cX5_perform 6 = .ok (.bipush (-5), 2) := by decide +kernel
theorem dX5_perform_8 : decode cX5_perform 8 = .ok (.if_icmp .eq 8, 3) := by decide +kernel
theorem dX5_perform_11 : decode cX5_perform 11 = .ok (.bipush (-100), 2) := by decide +kernel
theorem dX5_perform_13 : decode cX5_perform 13 = .ok (.iload_n 1, 1) := by decide +kernel
theorem dX5_perform_14 : decode cX5_perform 14 = .ok (.isub, 1) := by decide +kernel
theorem dX5_perform_15 : decode cX5_perform 15 = .ok (.ireturn, 1) := by decide +kernel
theorem dX5_perform_16 : decode cX5_perform 16 = .ok (.aload_n 0, 1) := by decide +kernel
theorem dX5_perform_17 : decode cX5_perform 17 = .ok (.invokevirtual 84, 3) := by decide +kernel
theorem dX5_perform_20 : decode cX5_perform 20 = .ok (.iconst 0, 1) := by decide +kernel
theorem dX5_perform_21 : decode cX5_perform 21 = .ok (.istore_n 2, 1) := by decide +kernel
theorem dX5_perform_22 : decode cX5_perform 22 = .ok (.iconst 0, 1) := by decide +kernel
theorem dX5_perform_23 : decode cX5_perform 23 = .ok (.istore_n 3, 1) := by decide +kernel
theorem dX5_perform_24 : decode cX5_perform 24 = .ok (.iload_n 3, 1) := by decide +kernel
theorem dX5_perform_25 : decode cX5_perform 25 = .ok (.aload_n 0, 1) := by decide +kernel
theorem dX5_perform_26 : decode cX5_perform 26 = .ok (.getfield 108, 3) := by decide +kernel
theorem dX5_perform_29 : decode cX5_perform 29 = .ok (.if_icmp .ge 32, 3) := by decide +kernel
theorem dX5_perform_32 : decode cX5_perform 32 = .ok (.aload_n 0, 1) := by decide +kernel
theorem dX5_perform_33 : decode cX5_perform 33 = .ok (.iload_n 3, 1) := by decide +kernel
theorem dX5_perform_34 : decode cX5_perform 34 = .ok (.invokevirtual 130, 3) := by decide +kernel
theorem dX5_perform_37 : decode cX5_perform 37 = .ok (.istore 4, 2) := by decide +kernel
theorem dX5_perform_39 : decode cX5_perform 39 = .ok (.iload 4, 2) := by decide +kernel
theorem dX5_perform_41 : decode cX5_perform 41 = .ok (.ifCond .ge 6, 3) := by decide +kernel
theorem dX5_perform_44 : decode cX5_perform 44 = .ok (.iload 4, 2) := by decide +kernel
theorem dX5_perform_46 : decode cX5_perform 46 = .ok (.ireturn, 1) := by decide +kernel
theorem dX5_perform_47 : decode cX5_perform 47 = .ok (.iinc 2 1, 3) := by decide +kernel
theorem dX5_perform_50 : decode cX5_perform 50 = .ok (.aload_n 0, 1) := by decide +kernel
theorem dX5_perform_51 : decode cX5_perform 51 = .ok (.iload_n 3, 1) := by decide +kernel
theorem dX5_perform_52 : decode cX5_perform 52 = .ok (.invokevirtual 120, 3) := by decide +kernel
theorem dX5_perform_55 : decode cX5_perform 55 = .ok (.iconst 1, 1) := by decide +kernel
theorem dX5_perform_56 : decode cX5_perform 56 = .ok (.iadd, 1) := by decide +kernel
theorem dX5_perform_57 : decode cX5_perform 57 = .ok (.istore_n 3, 1) := by decide +kernel
theorem dX5_perform_58 : decode cX5_perform 58 = .ok (.goto (-34), 3) := by decide +kernel
theorem dX5_perform_61 : decode cX5_perform 61 = .ok (.aload_n 0, 1) := by decide +kernel
theorem dX5_perform_62 : decode cX5_perform 62 = .ok (.invokevirtual 78, 3) := by decide +kernel
theorem dX5_perform_65 : decode cX5_perform 65 = .ok (.iload_n 2, 1) := by decide +kernel
theorem dX5_perform_66 : decode cX5_perform 66 = .ok (.ireturn, 1) := by decide +kernel
theorem dX5_undo_0 : decode cX5_undo 0 = .ok (.aload_n 0, 1) := by decide +kernel
theorem dX5_undo_1 : decode cX5_undo 1 = .ok (.getfield 25, 3) := by decide +kernel
theorem dX5_undo_4 : decode cX5_undo 4 = .ok (.ifCond .ne 6, 3) := by decide +kernel
theorem dX5_undo_7 : decode cX5_undo 7 = .ok (.bipush (-5), 2) := by decide +kernel
theorem dX5_undo_9 : decode cX5_undo 9 = .ok (.ireturn, 1) := by decide +kernel
theorem dX5_undo_10 : decode cX5_undo 10 = .ok (.aload_n 0, 1) := by decide +kernel
theorem dX5_undo_11 : decode cX5_undo 11 = .ok (.dup, 1) := by decide +kernel
theorem dX5_undo_12 : decode cX5_undo 12 = .ok (.getfield 25, 3) := by decide +kernel
theorem dX5_undo_15 : decode cX5_undo 15 = .ok (.iconst 1, 1) := by decide +kernel
theorem dX5_undo_16 : decode cX5_undo 16 = .ok (.isub, 1) := by decide +kernel
theorem dX5_undo_17 : decode cX5_undo 17 = .ok (.putfield 25, 3) := by decide +kernel
theorem dX5_undo_20 : decode cX5_undo 20 = .ok (.iconst 0, 1) := by decide +kernel
theorem dX5_undo_21 : decode cX5_undo 21 = .ok (.istore_n 1, 1) := by decide +kernel
theorem dX5_undo_22 : decode cX5_undo 22 = .ok (.iload_n 1, 1) := by decide +kernel
theorem dX5_undo_23 : decode cX5_undo 23 = .ok (.sipush 215, 3) := by decide +kernel
theorem dX5_undo_26 : decode cX5_undo 26 = .ok (.if_icmp .ge 30, 3) := by decide +kernel
theorem dX5_undo_29 : decode cX5_undo 29 = .ok (.aload_n 0, 1) := by decide +kernel
theorem dX5_undo_30 : decode cX5_undo 30 = .ok (.getfield 7, 3) := by decide +kernel
theorem dX5_undo_33 : decode cX5_undo 33 = .ok (.iload_n 1, 1) := by decide +kernel
theorem dX5_undo_34 : decode cX5_undo 34 = .ok (.aload_n 0, 1) := by decide +kernel
theorem dX5_undo_35 : decode cX5_undo 35 = .ok (.getfield 13, 3) := by decide +kernel
theorem dX5_undo_38 : decode cX5_undo 38 = .ok (.sipush 215, 3) := by decide +kernel
theorem dX5_undo_41 : decode cX5_undo 41 = .ok (.aload_n 0, 1) := by decide +kernel
theorem dX5_undo_42 : decode cX5_undo 42 = .ok (.getfield 25, 3) := by decide +kernel
theorem dX5_undo_45 : decode cX5_undo 45 = .ok (.imul, 1) := by decide +kernel
theorem dX5_undo_46 : decode cX5_undo 46 = .ok (.iload_n 1, 1) := by decide +kernel
theorem dX5_undo_47 : decode cX5_undo 47 = .ok (.iadd, 1) := by decide +kernel
theorem dX5_undo_48 : decode cX5_undo 48 = .ok (.iaload, 1) := by decide +kernel
theorem dX5_undo_49 : decode cX5_undo 49 = .ok (.iastore, 1) := by decide +kernel
theorem dX5_undo_50 : decode cX5_undo 50 = .ok (.iinc 1 1, 3) := by decide +kernel
theorem dX5_undo_53 : decode cX5_undo 53 = .ok (.goto (-31), 3) := by decide +kernel
theorem dX5_undo_56 : decode cX5_undo 56 = .ok (.aload_n 0, 1) := by decide +kernel
theorem dX5_undo_57 : decode cX5_undo 57 = .ok (.getfield 25, 3) := by decide +kernel
theorem dX5_undo_60 : decode cX5_undo 60 = .ok (.ireturn, 1) := by decide +kernel
theorem dX5_keep_0 : decode cX5_keep 0 = .ok (.iconst 0, 1) := by decide +kernel
theorem dX5_keep_1 : decode cX5_keep 1 = .ok (.istore_n 1, 1) := by decide +kernel
theorem dX5_keep_2 : decode cX5_keep 2 = .ok (.iload_n 1, 1) := by decide +kernel
theorem dX5_keep_3 : decode cX5_keep 3 = .ok (.sipush 215, 3) := by decide +kernel
theorem dX5_keep_6 : decode cX5_keep 6 = .ok (.if_icmp .ge 21, 3) := by decide +kernel
theorem dX5_keep_9 : decode cX5_keep 9 = .ok (.aload_n 0, 1) := by decide +kernel
theorem dX5_keep_10 : decode cX5_keep 10 = .ok (.getfield 16, 3) := by decide +kernel
theorem dX5_keep_13 : decode cX5_keep 13 = .ok (.iload_n 1, 1) := by decide +kernel
theorem dX5_keep_14 : decode cX5_keep 14 = .ok (.aload_n 0, 1) := by decide +kernel
theorem dX5_keep_15 : decode cX5_keep 15 = .ok (.getfield 7, 3) := by decide +kernel
theorem dX5_keep_18 : decode cX5_keep 18 = .ok (.iload_n 1, 1) := by decide +kernel
theorem dX5_keep_19 : decode cX5_keep 19 = .ok (.iaload, 1) := by decide +kernel
theorem dX5_keep_20 : decode cX5_keep 20 = .ok (.iastore, 1) := by decide +kernel
theorem dX5_keep_21 : decode cX5_keep 21 = .ok (.iinc 1 1, 3) := by decide +kernel
theorem dX5_keep_24 : decode cX5_keep 24 = .ok (.goto (-22), 3) := by decide +kernel
theorem dX5_keep_27 : decode cX5_keep 27 = .ok (.aload_n 0, 1) := by decide +kernel
theorem dX5_keep_28 : decode cX5_keep 28 = .ok (.iconst 1, 1) := by decide +kernel
theorem dX5_keep_29 : decode cX5_keep 29 = .ok (.putfield 133, 3) := by decide +kernel
theorem dX5_keep_32 : decode cX5_keep 32 = .ok (.aload_n 0, 1) := by decide +kernel
theorem dX5_keep_33 : decode cX5_keep 33 = .ok (.getfield 7, 3) := by decide +kernel
theorem dX5_keep_36 : decode cX5_keep 36 = .ok (.bipush 15, 2) := by decide +kernel
theorem dX5_keep_38 : decode cX5_keep 38 = .ok (.iaload, 1) := by decide +kernel
theorem dX5_keep_39 : decode cX5_keep 39 = .ok (.ireturn, 1) := by decide +kernel
theorem dX5_restore_0 : decode cX5_restore 0 = .ok (.aload_n 0, 1) := by decide +kernel
theorem dX5_restore_1 : decode cX5_restore 1 = .ok (.getfield 133, 3) := by decide +kernel
theorem dX5_restore_4 : decode cX5_restore 4 = .ok (.ifCond .ne 6, 3) := by decide +kernel
theorem dX5_restore_7 : decode cX5_restore 7 = .ok (.bipush (-5), 2) := by decide +kernel
theorem dX5_restore_9 : decode cX5_restore 9 = .ok (.ireturn, 1) := by decide +kernel
theorem dX5_restore_10 : decode cX5_restore 10 = .ok (.aload_n 0, 1) := by decide +kernel
theorem dX5_restore_11 : decode cX5_restore 11 = .ok (.invokevirtual 29, 3) := by decide +kernel
theorem dX5_restore_14 : decode cX5_restore 14 = .ok (.iconst 0, 1) := by decide +kernel
theorem dX5_restore_15 : decode cX5_restore 15 = .ok (.istore_n 1, 1) := by decide +kernel
theorem dX5_restore_16 : decode cX5_restore 16 = .ok (.iload_n 1, 1) := by decide +kernel
theorem dX5_restore_17 : decode cX5_restore 17 = .ok (.sipush 215, 3) := by decide +kernel
theorem dX5_restore_20 : decode cX5_restore 20 = .ok (.if_icmp .ge 21, 3) := by decide +kernel
theorem dX5_restore_23 : decode cX5_restore 23 = .ok (.aload_n 0, 1) := by decide +kernel
theorem dX5_restore_24 : decode cX5_restore 24 = .ok (.getfield 7, 3) := by decide +kernel
theorem dX5_restore_27 : decode cX5_restore 27 = .ok (.iload_n 1, 1) := by decide +kernel
theorem dX5_restore_28 : decode cX5_restore 28 = .ok (.aload_n 0, 1) := by decide +kernel
theorem dX5_restore_29 : decode cX5_restore 29 = .ok (.getfield 16, 3) := by decide +kernel
theorem dX5_restore_32 : decode cX5_restore 32 = .ok (.iload_n 1, 1) := by decide +kernel
theorem dX5_restore_33 : decode cX5_restore 33 = .ok (.iaload, 1) := by decide +kernel
theorem dX5_restore_34 : decode cX5_restore 34 = .ok (.iastore, 1) := by decide +kernel
theorem dX5_restore_35 : decode cX5_restore 35 = .ok (.iinc 1 1, 3) := by decide +kernel
theorem dX5_restore_38 : decode cX5_restore 38 = .ok (.goto (-22), 3) := by decide +kernel
theorem dX5_restore_41 : decode cX5_restore 41 = .ok (.aload_n 0, 1) := by decide +kernel
theorem dX5_restore_42 : decode cX5_restore 42 = .ok (.getfield 7, 3) := by decide +kernel
theorem dX5_restore_45 : decode cX5_restore 45 = .ok (.bipush 15, 2) := by decide +kernel
theorem dX5_restore_47 : decode cX5_restore 47 = .ok (.iaload, 1) := by decide +kernel
theorem dX5_restore_48 : decode cX5_restore 48 = .ok (.ireturn, 1) := by decide +kernel
theorem dX5_block_0 : decode cX5_block 0 = .ok (.iload_n 1, 1) := by decide +kernel
theorem dX5_block_1 : decode cX5_block 1 = .ok (.ifCond .ge 6, 3) := by decide +kernel
theorem dX5_block_4 : decode cX5_block 4 = .ok (.bipush (-2), 2) := by decide +kernel
theorem dX5_block_6 : decode cX5_block 6 = .ok (.ireturn, 1) := by decide +kernel
theorem dX5_block_7 : decode cX5_block 7 = .ok (.iconst 0, 1) := by decide +kernel
theorem dX5_block_8 : decode cX5_block 8 = .ok (.istore_n 2, 1) := by decide +kernel
theorem dX5_block_9 : decode cX5_block 9 = .ok (.iload_n 2, 1) := by decide +kernel
theorem dX5_block_10 : decode cX5_block 10 = .ok (.aload_n 0, 1) := by decide +kernel
theorem dX5_block_11 : decode cX5_block 11 = .ok (.getfield 7, 3) := by decide +kernel
theorem dX5_block_14 : decode cX5_block 14 = .ok (.bipush 15, 2) := by decide +kernel
theorem dX5_block_16 : decode cX5_block 16 = .ok (.iaload, 1) := by decide +kernel
theorem dX5_block_17 : decode cX5_block 17 = .ok (.if_icmp .ge 100, 3) := by decide +kernel
theorem dX5_block_20 : decode cX5_block 20 = .ok (.iconst 0, 1) := by decide +kernel
theorem dX5_block_21 : decode cX5_block 21 = .ok (.istore_n 3, 1) := by decide +kernel
theorem dX5_block_22 : decode cX5_block 22 = .ok (.iconst 0, 1) := by decide +kernel
theorem dX5_block_23 : decode cX5_block 23 = .ok (.istore 4, 2) := by decide +kernel
theorem dX5_block_25 : decode cX5_block 25 = .ok (.iload 4, 2) := by decide +kernel
theorem dX5_block_27 : decode cX5_block 27 = .ok (.aload_n 0, 1) := by decide +kernel
theorem dX5_block_28 : decode cX5_block 28 = .ok (.getfield 7, 3) := by decide +kernel
theorem dX5_block_31 : decode cX5_block 31 = .ok (.bipush 15, 2) := by decide +kernel
theorem dX5_block_33 : decode cX5_block 33 = .ok (.iaload, 1) := by decide +kernel
theorem dX5_block_34 : decode cX5_block 34 = .ok (.if_icmp .ge 61, 3) := by decide +kernel
theorem dX5_block_37 : decode cX5_block 37 = .ok (.aload_n 0, 1) := by decide +kernel
theorem dX5_block_38 : decode cX5_block 38 = .ok (.getfield 7, 3) := by decide +kernel
theorem dX5_block_41 : decode cX5_block 41 = .ok (.iconst 0, 1) := by decide +kernel
theorem dX5_block_42 : decode cX5_block 42 = .ok (.iload 4, 2) := by decide +kernel
theorem dX5_block_44 : decode cX5_block 44 = .ok (.invokestatic 32, 3) := by decide +kernel
theorem dX5_block_47 : decode cX5_block 47 = .ok (.iconst 2, 1) := by decide +kernel
theorem dX5_block_48 : decode cX5_block 48 = .ok (.iadd, 1) := by decide +kernel
theorem dX5_block_49 : decode cX5_block 49 = .ok (.iaload, 1) := by decide +kernel
theorem dX5_block_50 : decode cX5_block 50 = .ok (.aload_n 0, 1) := by decide +kernel
theorem dX5_block_51 : decode cX5_block 51 = .ok (.getfield 7, 3) := by decide +kernel
theorem dX5_block_54 : decode cX5_block 54 = .ok (.iconst 0, 1) := by decide +kernel
theorem dX5_block_55 : decode cX5_block 55 = .ok (.iload_n 2, 1) := by decide +kernel
theorem dX5_block_56 : decode cX5_block 56 = .ok (.invokestatic 32, 3) := by decide +kernel
theorem dX5_block_59 : decode cX5_block 59 = .ok (.iconst 2, 1) := by decide +kernel
theorem dX5_block_60 : decode cX5_block 60 = .ok (.iadd, 1) := by decide +kernel
theorem dX5_block_61 : decode cX5_block 61 = .ok (.iaload, 1) := by decide +kernel
theorem dX5_block_62 : decode cX5_block 62 = .ok (.isub, 1) := by decide +kernel
theorem dX5_block_63 : decode cX5_block 63 = .ok (.istore 5, 2) := by decide +kernel
theorem dX5_block_65 : decode cX5_block 65 = .ok (.iload_n 3, 1) := by decide +kernel
theorem dX5_block_66 : decode cX5_block 66 = .ok (.iload 5, 2) := by decide +kernel
theorem dX5_block_68 : decode cX5_block 68 = .ok (.ifCond .gt 14, 3) := by decide +kernel
theorem dX5_block_71 : decode cX5_block 71 = .ok (.iload 5, 2) := by decide +kernel
theorem dX5_block_73 : decode cX5_block 73 = .ok (.ifCond .ne 13, 3) := by decide +kernel
theorem dX5_block_76 : decode cX5_block 76 = .ok (.iload 4, 2) := by decide +kernel
theorem dX5_block_78 : decode cX5_block 78 = .ok (.iload_n 2, 1) := by decide +kernel
theorem dX5_block_79 : decode cX5_block 79 = .ok (.if_icmp .ge 7, 3) := by decide +kernel
theorem dX5_block_82 : decode cX5_block 82 = .ok (.iconst 1, 1) := by decide +kernel
theorem dX5_block_83 : decode cX5_block 83 = .ok (.goto 4, 3) := by decide +kernel
theorem dX5_block_86 : decode cX5_block 86 = .ok (.iconst 0, 1) := by decide +kernel
theorem dX5_block_87 : decode cX5_block 87 = .ok (.iadd, 1) := by decide +kernel
theorem dX5_block_88 : decode cX5_block 88 = .ok (.istore_n 3, 1) := by decide +kernel
theorem dX5_block_89 : decode cX5_block 89 = .ok (.iinc 4 1, 3) := by decide +kernel
theorem dX5_block_92 : decode cX5_block 92 = .ok (.goto (-67), 3) := by decide +kernel
theorem dX5_block_95 : decode cX5_block 95 = .ok (.iload_n 3, 1) := by decide +kernel
theorem dX5_block_96 : decode cX5_block 96 = .ok (.iload_n 1, 1) := by decide +kernel
theorem dX5_block_97 : decode cX5_block 97 = .ok (.if_icmp .ne 14, 3) := by decide +kernel
theorem dX5_block_100 : decode cX5_block 100 = .ok (.aload_n 0, 1) := by decide +kernel
theorem dX5_block_101 : decode cX5_block 101 = .ok (.getfield 7, 3) := by decide +kernel
theorem dX5_block_104 : decode cX5_block 104 = .ok (.iconst 0, 1) := by decide +kernel
theorem dX5_block_105 : decode cX5_block 105 = .ok (.iload_n 2, 1) := by decide +kernel
theorem dX5_block_106 : decode cX5_block 106 = .ok (.invokestatic 32, 3) := by decide +kernel
theorem dX5_block_109 : decode cX5_block 109 = .ok (.iaload, 1) := by decide +kernel
theorem dX5_block_110 : decode cX5_block 110 = .ok (.ireturn, 1) := by decide +kernel
theorem dX5_block_111 : decode cX5_block 111 = .ok (.iinc 2 1, 3) := by decide +kernel
theorem dX5_block_114 : decode cX5_block 114 = .ok (.goto (-105), 3) := by decide +kernel
theorem dX5_block_117 : decode cX5_block 117 = .ok (.bipush (-5), 2) := by decide +kernel
theorem dX5_block_119 : decode cX5_block 119 = .ok (.ireturn, 1) := by decide +kernel
theorem dX5_whyStays_0 : decode cX5_whyStays 0 = .ok (.aload_n 0, 1) := by decide +kernel
theorem dX5_whyStays_1 : decode cX5_whyStays 1 = .ok (.invokevirtual 84, 3) := by decide +kernel
theorem dX5_whyStays_4 : decode cX5_whyStays 4 = .ok (.aload_n 0, 1) := by decide +kernel
theorem dX5_whyStays_5 : decode cX5_whyStays 5 = .ok (.sipush 215, 3) := by decide +kernel
theorem dX5_whyStays_8 : decode cX5_whyStays 8 = .ok (.invokevirtual 61, 3) := by decide +kernel
theorem dX5_whyStays_11 : decode cX5_whyStays 11 = .ok (.istore_n 2, 1) := by decide +kernel
theorem dX5_whyStays_12 : decode cX5_whyStays 12 = .ok (.aload_n 0, 1) := by decide +kernel
theorem dX5_whyStays_13 : decode cX5_whyStays 13 = .ok (.getfield 22, 3) := by decide +kernel
theorem dX5_whyStays_16 : decode cX5_whyStays 16 = .ok (.iload_n 1, 1) := by decide +kernel
theorem dX5_whyStays_17 : decode cX5_whyStays 17 = .ok (.iaload, 1) := by decide +kernel
theorem dX5_whyStays_18 : decode cX5_whyStays 18 = .ok (.ireturn, 1) := by decide +kernel
theorem dX5_ofBlock_0 : decode cX5_ofBlock 0 = .ok (.aload_n 0, 1) := by decide +kernel
theorem dX5_ofBlock_1 : decode cX5_ofBlock 1 = .ok (.iconst 0, 1) := by decide +kernel
theorem dX5_ofBlock_2 : decode cX5_ofBlock 2 = .ok (.iload_n 1, 1) := by decide +kernel
theorem dX5_ofBlock_3 : decode cX5_ofBlock 3 = .ok (.invokevirtual 65, 3) := by decide +kernel
theorem dX5_ofBlock_6 : decode cX5_ofBlock 6 = .ok (.istore_n 3, 1) := by decide +kernel
theorem dX5_ofBlock_7 : decode cX5_ofBlock 7 = .ok (.iload_n 3, 1) := by decide +kernel
theorem dX5_ofBlock_8 : decode cX5_ofBlock 8 = .ok (.bipush (-5), 2) := by decide +kernel
theorem dX5_ofBlock_10 : decode cX5_ofBlock 10 = .ok (.if_icmp .ne 5, 3) := by decide +kernel
theorem dX5_ofBlock_13 : decode cX5_ofBlock 13 = .ok (.iconst (-1), 1) := by decide +kernel
theorem dX5_ofBlock_14 : decode cX5_ofBlock 14 = .ok (.ireturn, 1) := by decide +kernel
theorem dX5_ofBlock_15 : decode cX5_ofBlock 15 = .ok (.iload_n 2, 1) := by decide +kernel
theorem dX5_ofBlock_16 : decode cX5_ofBlock 16 = .ok (.tableswitch 93 0 8 #[52, 52, 52, 67, 74, 74, 74, 74, 87], 52) := by decide +kernel
theorem dX5_ofBlock_68 : decode cX5_ofBlock 68 = .ok (.aload_n 0, 1) := by decide +kernel
theorem dX5_ofBlock_69 : decode cX5_ofBlock 69 = .ok (.getfield 7, 3) := by decide +kernel
theorem dX5_ofBlock_72 : decode cX5_ofBlock 72 = .ok (.iconst 0, 1) := by decide +kernel
theorem dX5_ofBlock_73 : decode cX5_ofBlock 73 = .ok (.iload_n 3, 1) := by decide +kernel
theorem dX5_ofBlock_74 : decode cX5_ofBlock 74 = .ok (.invokestatic 32, 3) := by decide +kernel
theorem dX5_ofBlock_77 : decode cX5_ofBlock 77 = .ok (.iconst 1, 1) := by decide +kernel
theorem dX5_ofBlock_78 : decode cX5_ofBlock 78 = .ok (.iadd, 1) := by decide +kernel
theorem dX5_ofBlock_79 : decode cX5_ofBlock 79 = .ok (.iload_n 2, 1) := by decide +kernel
theorem dX5_ofBlock_80 : decode cX5_ofBlock 80 = .ok (.iadd, 1) := by decide +kernel
theorem dX5_ofBlock_81 : decode cX5_ofBlock 81 = .ok (.iaload, 1) := by decide +kernel
theorem dX5_ofBlock_82 : decode cX5_ofBlock 82 = .ok (.ireturn, 1) := by decide +kernel
theorem dX5_ofBlock_83 : decode cX5_ofBlock 83 = .ok (.aload_n 0, 1) := by decide +kernel
theorem dX5_ofBlock_84 : decode cX5_ofBlock 84 = .ok (.iconst 0, 1) := by decide +kernel
theorem dX5_ofBlock_85 : decode cX5_ofBlock 85 = .ok (.iload_n 3, 1) := by decide +kernel
theorem dX5_ofBlock_86 : decode cX5_ofBlock 86 = .ok (.invokevirtual 40, 3) := by decide +kernel
theorem dX5_ofBlock_89 : decode cX5_ofBlock 89 = .ok (.ireturn, 1) := by decide +kernel
theorem dX5_ofBlock_90 : decode cX5_ofBlock 90 = .ok (.aload_n 0, 1) := by decide +kernel
theorem dX5_ofBlock_91 : decode cX5_ofBlock 91 = .ok (.getfield 7, 3) := by decide +kernel
theorem dX5_ofBlock_94 : decode cX5_ofBlock 94 = .ok (.iconst 0, 1) := by decide +kernel
theorem dX5_ofBlock_95 : decode cX5_ofBlock 95 = .ok (.iload_n 3, 1) := by decide +kernel
theorem dX5_ofBlock_96 : decode cX5_ofBlock 96 = .ok (.invokestatic 32, 3) := by decide +kernel
theorem dX5_ofBlock_99 : decode cX5_ofBlock 99 = .ok (.iload_n 2, 1) := by decide +kernel
theorem dX5_ofBlock_100 : decode cX5_ofBlock 100 = .ok (.iadd, 1) := by decide +kernel
theorem dX5_ofBlock_101 : decode cX5_ofBlock 101 = .ok (.iaload, 1) := by decide +kernel
theorem dX5_ofBlock_102 : decode cX5_ofBlock 102 = .ok (.ireturn, 1) := by decide +kernel
theorem dX5_ofBlock_103 : decode cX5_ofBlock 103 = .ok (.aload_n 0, 1) := by decide +kernel
theorem dX5_ofBlock_104 : decode cX5_ofBlock 104 = .ok (.iload_n 3, 1) := by decide +kernel
theorem dX5_ofBlock_105 : decode cX5_ofBlock 105 = .ok (.invokevirtual 137, 3) := by decide +kernel
theorem dX5_ofBlock_108 : decode cX5_ofBlock 108 = .ok (.ireturn, 1) := by decide +kernel
theorem dX5_ofBlock_109 : decode cX5_ofBlock 109 = .ok (.bipush (-2), 2) := by decide +kernel
theorem dX5_ofBlock_111 : decode cX5_ofBlock 111 = .ok (.ireturn, 1) := by decide +kernel
theorem dX5_shelf_0 : decode cX5_shelf 0 = .ok (.iload_n 1, 1) := by decide +kernel
theorem dX5_shelf_1 : decode cX5_shelf 1 = .ok (.iconst 0, 1) := by decide +kernel
theorem dX5_shelf_2 : decode cX5_shelf 2 = .ok (.iconst 2, 1) := by decide +kernel
theorem dX5_shelf_3 : decode cX5_shelf 3 = .ok (.invokestatic 81, 3) := by decide +kernel
theorem dX5_shelf_6 : decode cX5_shelf 6 = .ok (.ifCond .ne 5, 3) := by decide +kernel
theorem dX5_shelf_9 : decode cX5_shelf 9 = .ok (.iconst (-1), 1) := by decide +kernel
theorem dX5_shelf_10 : decode cX5_shelf 10 = .ok (.ireturn, 1) := by decide +kernel
theorem dX5_shelf_11 : decode cX5_shelf 11 = .ok (.iload_n 2, 1) := by decide +kernel
theorem dX5_shelf_12 : decode cX5_shelf 12 = .ok (.tableswitch 77 0 4 #[36, 46, 54, 62, 70], 36) := by decide +kernel
theorem dX5_shelf_48 : decode cX5_shelf 48 = .ok (.aload_n 0, 1) := by decide +kernel
theorem dX5_shelf_49 : decode cX5_shelf 49 = .ok (.getfield 7, 3) := by decide +kernel
theorem dX5_shelf_52 : decode cX5_shelf 52 = .ok (.bipush 6, 2) := by decide +kernel
theorem dX5_shelf_54 : decode cX5_shelf 54 = .ok (.iload_n 1, 1) := by decide +kernel
theorem dX5_shelf_55 : decode cX5_shelf 55 = .ok (.iadd, 1) := by decide +kernel
theorem dX5_shelf_56 : decode cX5_shelf 56 = .ok (.iaload, 1) := by decide +kernel
theorem dX5_shelf_57 : decode cX5_shelf 57 = .ok (.ireturn, 1) := by decide +kernel
theorem dX5_shelf_58 : decode cX5_shelf 58 = .ok (.aload_n 0, 1) := by decide +kernel
theorem dX5_shelf_59 : decode cX5_shelf 59 = .ok (.iconst 0, 1) := by decide +kernel
theorem dX5_shelf_60 : decode cX5_shelf 60 = .ok (.iload_n 1, 1) := by decide +kernel
theorem dX5_shelf_61 : decode cX5_shelf 61 = .ok (.iconst 1, 1) := by decide +kernel
theorem dX5_shelf_62 : decode cX5_shelf 62 = .ok (.invokevirtual 36, 3) := by decide +kernel
theorem dX5_shelf_65 : decode cX5_shelf 65 = .ok (.ireturn, 1) := by decide +kernel
theorem dX5_shelf_66 : decode cX5_shelf 66 = .ok (.aload_n 0, 1) := by decide +kernel
theorem dX5_shelf_67 : decode cX5_shelf 67 = .ok (.iconst 0, 1) := by decide +kernel
theorem dX5_shelf_68 : decode cX5_shelf 68 = .ok (.iload_n 1, 1) := by decide +kernel
theorem dX5_shelf_69 : decode cX5_shelf 69 = .ok (.iconst 0, 1) := by decide +kernel
theorem dX5_shelf_70 : decode cX5_shelf 70 = .ok (.invokevirtual 36, 3) := by decide +kernel
theorem dX5_shelf_73 : decode cX5_shelf 73 = .ok (.ireturn, 1) := by decide +kernel
theorem dX5_shelf_74 : decode cX5_shelf 74 = .ok (.aload_n 0, 1) := by decide +kernel
theorem dX5_shelf_75 : decode cX5_shelf 75 = .ok (.iconst 0, 1) := by decide +kernel
theorem dX5_shelf_76 : decode cX5_shelf 76 = .ok (.iload_n 1, 1) := by decide +kernel
theorem dX5_shelf_77 : decode cX5_shelf 77 = .ok (.iconst 2, 1) := by decide +kernel
theorem dX5_shelf_78 : decode cX5_shelf 78 = .ok (.invokevirtual 36, 3) := by decide +kernel
theorem dX5_shelf_81 : decode cX5_shelf 81 = .ok (.ireturn, 1) := by decide +kernel
theorem dX5_shelf_82 : decode cX5_shelf 82 = .ok (.aload_n 0, 1) := by decide +kernel
theorem dX5_shelf_83 : decode cX5_shelf 83 = .ok (.iconst 0, 1) := by decide +kernel
theorem dX5_shelf_84 : decode cX5_shelf 84 = .ok (.iload_n 1, 1) := by decide +kernel
theorem dX5_shelf_85 : decode cX5_shelf 85 = .ok (.invokevirtual 54, 3) := by decide +kernel
theorem dX5_shelf_88 : decode cX5_shelf 88 = .ok (.ireturn, 1) := by decide +kernel
theorem dX5_shelf_89 : decode cX5_shelf 89 = .ok (.bipush (-2), 2) := by decide +kernel
theorem dX5_shelf_91 : decode cX5_shelf 91 = .ok (.ireturn, 1) := by decide +kernel
theorem dX5_heat_0 : decode cX5_heat 0 = .ok (.aload_n 0, 1) := by decide +kernel
theorem dX5_heat_1 : decode cX5_heat 1 = .ok (.iload_n 1, 1) := by decide +kernel
theorem dX5_heat_2 : decode cX5_heat 2 = .ok (.iconst 0, 1) := by decide +kernel
theorem dX5_heat_3 : decode cX5_heat 3 = .ok (.iconst 2, 1) := by decide +kernel
theorem dX5_heat_4 : decode cX5_heat 4 = .ok (.invokevirtual 36, 3) := by decide +kernel
theorem dX5_heat_7 : decode cX5_heat 7 = .ok (.aload_n 0, 1) := by decide +kernel
theorem dX5_heat_8 : decode cX5_heat 8 = .ok (.iload_n 1, 1) := by decide +kernel
theorem dX5_heat_9 : decode cX5_heat 9 = .ok (.iconst 1, 1) := by decide +kernel
theorem dX5_heat_10 : decode cX5_heat 10 = .ok (.iconst 2, 1) := by decide +kernel
theorem dX5_heat_11 : decode cX5_heat 11 = .ok (.invokevirtual 36, 3) := by decide +kernel
theorem dX5_heat_14 : decode cX5_heat 14 = .ok (.iadd, 1) := by decide +kernel
theorem dX5_heat_15 : decode cX5_heat 15 = .ok (.aload_n 0, 1) := by decide +kernel
theorem dX5_heat_16 : decode cX5_heat 16 = .ok (.iload_n 1, 1) := by decide +kernel
theorem dX5_heat_17 : decode cX5_heat 17 = .ok (.iconst 2, 1) := by decide +kernel
theorem dX5_heat_18 : decode cX5_heat 18 = .ok (.iconst 2, 1) := by decide +kernel
theorem dX5_heat_19 : decode cX5_heat 19 = .ok (.invokevirtual 36, 3) := by decide +kernel
theorem dX5_heat_22 : decode cX5_heat 22 = .ok (.iadd, 1) := by decide +kernel
theorem dX5_heat_23 : decode cX5_heat 23 = .ok (.ireturn, 1) := by decide +kernel
theorem dX5_total_0 : decode cX5_total 0 = .ok (.iload_n 1, 1) := by decide +kernel
theorem dX5_total_1 : decode cX5_total 1 = .ok (.tableswitch 53 23 26 #[31, 37, 43, 48], 31) := by decide +kernel
theorem dX5_total_32 : decode cX5_total 32 = .ok (.aload_n 0, 1) := by decide +kernel
theorem dX5_total_33 : decode cX5_total 33 = .ok (.iconst 0, 1) := by decide +kernel
theorem dX5_total_34 : decode cX5_total 34 = .ok (.invokevirtual 72, 3) := by decide +kernel
theorem dX5_total_37 : decode cX5_total 37 = .ok (.ireturn, 1) := by decide +kernel
theorem dX5_total_38 : decode cX5_total 38 = .ok (.aload_n 0, 1) := by decide +kernel
theorem dX5_total_39 : decode cX5_total 39 = .ok (.iconst 0, 1) := by decide +kernel
theorem dX5_total_40 : decode cX5_total 40 = .ok (.invokevirtual 140, 3) := by decide +kernel
theorem dX5_total_43 : decode cX5_total 43 = .ok (.ireturn, 1) := by decide +kernel
theorem dX5_total_44 : decode cX5_total 44 = .ok (.aload_n 0, 1) := by decide +kernel
theorem dX5_total_45 : decode cX5_total 45 = .ok (.getfield 25, 3) := by decide +kernel
theorem dX5_total_48 : decode cX5_total 48 = .ok (.ireturn, 1) := by decide +kernel
theorem dX5_total_49 : decode cX5_total 49 = .ok (.aload_n 0, 1) := by decide +kernel
theorem dX5_total_50 : decode cX5_total 50 = .ok (.getfield 108, 3) := by decide +kernel
theorem dX5_total_53 : decode cX5_total 53 = .ok (.ireturn, 1) := by decide +kernel
theorem dX5_total_54 : decode cX5_total 54 = .ok (.iload_n 1, 1) := by decide +kernel
theorem dX5_total_55 : decode cX5_total 55 = .ok (.iconst 0, 1) := by decide +kernel
theorem dX5_total_56 : decode cX5_total 56 = .ok (.bipush 22, 2) := by decide +kernel
theorem dX5_total_58 : decode cX5_total 58 = .ok (.invokestatic 81, 3) := by decide +kernel
theorem dX5_total_61 : decode cX5_total 61 = .ok (.ifCond .eq 12, 3) := by decide +kernel
theorem dX5_total_64 : decode cX5_total 64 = .ok (.aload_n 0, 1) := by decide +kernel
theorem dX5_total_65 : decode cX5_total 65 = .ok (.getfield 7, 3) := by decide +kernel
theorem dX5_total_68 : decode cX5_total 68 = .ok (.iload_n 1, 1) := by decide +kernel
theorem dX5_total_69 : decode cX5_total 69 = .ok (.iaload, 1) := by decide +kernel
theorem dX5_total_70 : decode cX5_total 70 = .ok (.goto 5, 3) := by decide +kernel
theorem dX5_total_73 : decode cX5_total 73 = .ok (.bipush (-2), 2) := by decide +kernel
theorem dX5_total_75 : decode cX5_total 75 = .ok (.ireturn, 1) := by decide +kernel
theorem dX5_ifPassed_0 : decode cX5_ifPassed 0 = .ok (.iload_n 1, 1) := by decide +kernel
theorem dX5_ifPassed_1 : decode cX5_ifPassed 1 = .ok (.iconst 1, 1) := by decide +kernel
theorem dX5_ifPassed_2 : decode cX5_ifPassed 2 = .ok (.bipush 99, 2) := by decide +kernel
theorem dX5_ifPassed_4 : decode cX5_ifPassed 4 = .ok (.invokestatic 81, 3) := by decide +kernel
theorem dX5_ifPassed_7 : decode cX5_ifPassed 7 = .ok (.ifCond .eq 12, 3) := by decide +kernel
theorem dX5_ifPassed_10 : decode cX5_ifPassed 10 = .ok (.iload_n 2, 1) := by decide +kernel
theorem dX5_ifPassed_11 : decode cX5_ifPassed 11 = .ok (.iconst 0, 1) := by decide +kernel
theorem dX5_ifPassed_12 : decode cX5_ifPassed 12 = .ok (.iconst 5, 1) := by decide +kernel
theorem dX5_ifPassed_13 : decode cX5_ifPassed 13 = .ok (.invokestatic 81, 3) := by decide +kernel
theorem dX5_ifPassed_16 : decode cX5_ifPassed 16 = .ok (.ifCond .ne 6, 3) := by decide +kernel
theorem dX5_ifPassed_19 : decode cX5_ifPassed 19 = .ok (.bipush (-2), 2) := by decide +kernel
theorem dX5_ifPassed_21 : decode cX5_ifPassed 21 = .ok (.ireturn, 1) := by decide +kernel
theorem dX5_ifPassed_22 : decode cX5_ifPassed 22 = .ok (.aload_n 0, 1) := by decide +kernel
theorem dX5_ifPassed_23 : decode cX5_ifPassed 23 = .ok (.invokevirtual 84, 3) := by decide +kernel
theorem dX5_ifPassed_26 : decode cX5_ifPassed 26 = .ok (.aload_n 0, 1) := by decide +kernel
theorem dX5_ifPassed_27 : decode cX5_ifPassed 27 = .ok (.sipush 215, 3) := by decide +kernel
theorem dX5_ifPassed_30 : decode cX5_ifPassed 30 = .ok (.iload_n 1, 1) := by decide +kernel
theorem dX5_ifPassed_31 : decode cX5_ifPassed 31 = .ok (.invokevirtual 75, 3) := by decide +kernel
theorem dX5_ifPassed_34 : decode cX5_ifPassed 34 = .ok (.istore_n 3, 1) := by decide +kernel
theorem dX5_ifPassed_35 : decode cX5_ifPassed 35 = .ok (.iload_n 2, 1) := by decide +kernel
theorem dX5_ifPassed_36 : decode cX5_ifPassed 36 = .ok (.tableswitch 55 0 2 #[28, 45, 47], 28) := by decide +kernel
theorem dX5_ifPassed_64 : decode cX5_ifPassed 64 = .ok (.aload_n 0, 1) := by decide +kernel
theorem dX5_ifPassed_65 : decode cX5_ifPassed 65 = .ok (.getfield 7, 3) := by decide +kernel
theorem dX5_ifPassed_68 : decode cX5_ifPassed 68 = .ok (.sipush 233, 3) := by decide +kernel
theorem dX5_ifPassed_71 : decode cX5_ifPassed 71 = .ok (.iaload, 1) := by decide +kernel
theorem dX5_ifPassed_72 : decode cX5_ifPassed 72 = .ok (.aload_n 0, 1) := by decide +kernel
theorem dX5_ifPassed_73 : decode cX5_ifPassed 73 = .ok (.getfield 7, 3) := by decide +kernel
theorem dX5_ifPassed_76 : decode cX5_ifPassed 76 = .ok (.bipush 18, 2) := by decide +kernel
theorem dX5_ifPassed_78 : decode cX5_ifPassed 78 = .ok (.iaload, 1) := by decide +kernel
theorem dX5_ifPassed_79 : decode cX5_ifPassed 79 = .ok (.isub, 1) := by decide +kernel
theorem dX5_ifPassed_80 : decode cX5_ifPassed 80 = .ok (.ireturn, 1) := by decide +kernel
theorem dX5_ifPassed_81 : decode cX5_ifPassed 81 = .ok (.iload_n 3, 1) := by decide +kernel
theorem dX5_ifPassed_82 : decode cX5_ifPassed 82 = .ok (.ireturn, 1) := by decide +kernel
theorem dX5_ifPassed_83 : decode cX5_ifPassed 83 = .ok (.aload_n 0, 1) := by decide +kernel
theorem dX5_ifPassed_84 : decode cX5_ifPassed 84 = .ok (.sipush 215, 3) := by decide +kernel
theorem dX5_ifPassed_87 : decode cX5_ifPassed 87 = .ok (.invokevirtual 140, 3) := by decide +kernel
theorem dX5_ifPassed_90 : decode cX5_ifPassed 90 = .ok (.ireturn, 1) := by decide +kernel
theorem dX5_ifPassed_91 : decode cX5_ifPassed 91 = .ok (.aload_n 0, 1) := by decide +kernel
theorem dX5_ifPassed_92 : decode cX5_ifPassed 92 = .ok (.sipush 215, 3) := by decide +kernel
theorem dX5_ifPassed_95 : decode cX5_ifPassed 95 = .ok (.iload_n 2, 1) := by decide +kernel
theorem dX5_ifPassed_96 : decode cX5_ifPassed 96 = .ok (.iconst 3, 1) := by decide +kernel
theorem dX5_ifPassed_97 : decode cX5_ifPassed 97 = .ok (.isub, 1) := by decide +kernel
theorem dX5_ifPassed_98 : decode cX5_ifPassed 98 = .ok (.iconst 1, 1) := by decide +kernel
theorem dX5_ifPassed_99 : decode cX5_ifPassed 99 = .ok (.invokevirtual 36, 3) := by decide +kernel
theorem dX5_ifPassed_102 : decode cX5_ifPassed 102 = .ok (.ireturn, 1) := by decide +kernel
theorem dX5_nextMove_0 : decode cX5_nextMove 0 = .ok (.aload_n 0, 1) := by decide +kernel
theorem dX5_nextMove_1 : decode cX5_nextMove 1 = .ok (.invokevirtual 84, 3) := by decide +kernel
theorem dX5_nextMove_4 : decode cX5_nextMove 4 = .ok (.iconst 1, 1) := by decide +kernel
theorem dX5_nextMove_5 : decode cX5_nextMove 5 = .ok (.istore_n 1, 1) := by decide +kernel
theorem dX5_nextMove_6 : decode cX5_nextMove 6 = .ok (.iload_n 1, 1) := by decide +kernel
theorem dX5_nextMove_7 : decode cX5_nextMove 7 = .ok (.bipush 99, 2) := by decide +kernel
theorem dX5_nextMove_9 : decode cX5_nextMove 9 = .ok (.if_icmp .gt 21, 3) := by decide +kernel
theorem dX5_nextMove_12 : decode cX5_nextMove 12 = .ok (.aload_n 0, 1) := by decide +kernel
theorem dX5_nextMove_13 : decode cX5_nextMove 13 = .ok (.sipush 215, 3) := by decide +kernel
theorem dX5_nextMove_16 : decode cX5_nextMove 16 = .ok (.invokevirtual 61, 3) := by decide +kernel
theorem dX5_nextMove_19 : decode cX5_nextMove 19 = .ok (.ifCond .le 5, 3) := by decide +kernel
theorem dX5_nextMove_22 : decode cX5_nextMove 22 = .ok (.iload_n 1, 1) := by decide +kernel
theorem dX5_nextMove_23 : decode cX5_nextMove 23 = .ok (.ireturn, 1) := by decide +kernel
theorem dX5_nextMove_24 : decode cX5_nextMove 24 = .ok (.iinc 1 1, 3) := by decide +kernel
theorem dX5_nextMove_27 : decode cX5_nextMove 27 = .ok (.goto (-21), 3) := by decide +kernel
theorem dX5_nextMove_30 : decode cX5_nextMove 30 = .ok (.bipush (-5), 2) := by decide +kernel
theorem dX5_nextMove_32 : decode cX5_nextMove 32 = .ok (.ireturn, 1) := by decide +kernel
theorem dX5_bestHot_0 : decode cX5_bestHot 0 = .ok (.iload_n 1, 1) := by decide +kernel
theorem dX5_bestHot_1 : decode cX5_bestHot 1 = .ok (.iconst 1, 1) := by decide +kernel
theorem dX5_bestHot_2 : decode cX5_bestHot 2 = .ok (.bipush 20, 2) := by decide +kernel
theorem dX5_bestHot_4 : decode cX5_bestHot 4 = .ok (.invokestatic 81, 3) := by decide +kernel
theorem dX5_bestHot_7 : decode cX5_bestHot 7 = .ok (.ifCond .eq 12, 3) := by decide +kernel
theorem dX5_bestHot_10 : decode cX5_bestHot 10 = .ok (.iload_n 2, 1) := by decide +kernel
theorem dX5_bestHot_11 : decode cX5_bestHot 11 = .ok (.iconst 0, 1) := by decide +kernel
theorem dX5_bestHot_12 : decode cX5_bestHot 12 = .ok (.iconst 1, 1) := by decide +kernel
theorem dX5_bestHot_13 : decode cX5_bestHot 13 = .ok (.invokestatic 81, 3) := by decide +kernel
theorem dX5_bestHot_16 : decode cX5_bestHot 16 = .ok (.ifCond .ne 6, 3) := by decide +kernel
theorem dX5_bestHot_19 : decode cX5_bestHot 19 = .ok (.bipush (-2), 2) := by decide +kernel
theorem dX5_bestHot_21 : decode cX5_bestHot 21 = .ok (.ireturn, 1) := by decide +kernel
theorem dX5_bestHot_22 : decode cX5_bestHot 22 = .ok (.bipush (-5), 2) := by decide +kernel
theorem dX5_bestHot_24 : decode cX5_bestHot 24 = .ok (.istore_n 3, 1) := by decide +kernel
theorem dX5_bestHot_25 : decode cX5_bestHot 25 = .ok (.iconst 0, 1) := by decide +kernel
theorem dX5_bestHot_26 : decode cX5_bestHot 26 = .ok (.istore 4, 2) := by decide +kernel
theorem dX5_bestHot_28 : decode cX5_bestHot 28 = .ok (.iconst 0, 1) := by decide +kernel
theorem dX5_bestHot_29 : decode cX5_bestHot 29 = .ok (.istore 5, 2) := by decide +kernel
theorem dX5_bestHot_31 : decode cX5_bestHot 31 = .ok (.iload 5, 2) := by decide +kernel
theorem dX5_bestHot_33 : decode cX5_bestHot 33 = .ok (.sipush 20000, 3) := by decide +kernel
theorem dX5_bestHot_36 : decode cX5_bestHot 36 = .ok (.if_icmp .gt 111, 3) := by decide +kernel
theorem dX5_bestHot_39 : decode cX5_bestHot 39 = .ok (.iload 5, 2) := by decide +kernel
theorem dX5_bestHot_41 : decode cX5_bestHot 41 = .ok (.aload_n 0, 1) := by decide +kernel
theorem dX5_bestHot_42 : decode cX5_bestHot 42 = .ok (.getfield 7, 3) := by decide +kernel
theorem dX5_bestHot_45 : decode cX5_bestHot 45 = .ok (.iconst 2, 1) := by decide +kernel
theorem dX5_bestHot_46 : decode cX5_bestHot 46 = .ok (.iaload, 1) := by decide +kernel
theorem dX5_bestHot_47 : decode cX5_bestHot 47 = .ok (.if_icmp .lt 91, 3) := by decide +kernel
theorem dX5_bestHot_50 : decode cX5_bestHot 50 = .ok (.aload_n 0, 1) := by decide +kernel
theorem dX5_bestHot_51 : decode cX5_bestHot 51 = .ok (.invokevirtual 84, 3) := by decide +kernel
theorem dX5_bestHot_54 : decode cX5_bestHot 54 = .ok (.aload_n 0, 1) := by decide +kernel
theorem dX5_bestHot_55 : decode cX5_bestHot 55 = .ok (.getfield 7, 3) := by decide +kernel
theorem dX5_bestHot_58 : decode cX5_bestHot 58 = .ok (.sipush 216, 3) := by decide +kernel
theorem dX5_bestHot_61 : decode cX5_bestHot 61 = .ok (.iload 5, 2) := by decide +kernel
theorem dX5_bestHot_63 : decode cX5_bestHot 63 = .ok (.iastore, 1) := by decide +kernel
theorem dX5_bestHot_64 : decode cX5_bestHot 64 = .ok (.aload_n 0, 1) := by decide +kernel
theorem dX5_bestHot_65 : decode cX5_bestHot 65 = .ok (.sipush 215, 3) := by decide +kernel
theorem dX5_bestHot_68 : decode cX5_bestHot 68 = .ok (.iload_n 1, 1) := by decide +kernel
theorem dX5_bestHot_69 : decode cX5_bestHot 69 = .ok (.invokevirtual 75, 3) := by decide +kernel
theorem dX5_bestHot_72 : decode cX5_bestHot 72 = .ok (.istore 6, 2) := by decide +kernel
theorem dX5_bestHot_74 : decode cX5_bestHot 74 = .ok (.aload_n 0, 1) := by decide +kernel
theorem dX5_bestHot_75 : decode cX5_bestHot 75 = .ok (.getfield 7, 3) := by decide +kernel
theorem dX5_bestHot_78 : decode cX5_bestHot 78 = .ok (.sipush 233, 3) := by decide +kernel
theorem dX5_bestHot_81 : decode cX5_bestHot 81 = .ok (.iaload, 1) := by decide +kernel
theorem dX5_bestHot_82 : decode cX5_bestHot 82 = .ok (.aload_n 0, 1) := by decide +kernel
theorem dX5_bestHot_83 : decode cX5_bestHot 83 = .ok (.getfield 7, 3) := by decide +kernel
theorem dX5_bestHot_86 : decode cX5_bestHot 86 = .ok (.bipush 18, 2) := by decide +kernel
theorem dX5_bestHot_88 : decode cX5_bestHot 88 = .ok (.iaload, 1) := by decide +kernel
theorem dX5_bestHot_89 : decode cX5_bestHot 89 = .ok (.isub, 1) := by decide +kernel
theorem dX5_bestHot_90 : decode cX5_bestHot 90 = .ok (.istore 7, 2) := by decide +kernel
theorem dX5_bestHot_92 : decode cX5_bestHot 92 = .ok (.iload_n 3, 1) := by decide +kernel
theorem dX5_bestHot_93 : decode cX5_bestHot 93 = .ok (.bipush (-5), 2) := by decide +kernel
theorem dX5_bestHot_95 : decode cX5_bestHot 95 = .ok (.if_icmp .eq 10, 3) := by decide +kernel
theorem dX5_bestHot_98 : decode cX5_bestHot 98 = .ok (.iload 7, 2) := by decide +kernel
theorem dX5_bestHot_100 : decode cX5_bestHot 100 = .ok (.iload 4, 2) := by decide +kernel
theorem dX5_bestHot_102 : decode cX5_bestHot 102 = .ok (.if_icmp .ge 7, 3) := by decide +kernel
theorem dX5_bestHot_105 : decode cX5_bestHot 105 = .ok (.iconst 1, 1) := by decide +kernel
theorem dX5_bestHot_106 : decode cX5_bestHot 106 = .ok (.goto 4, 3) := by decide +kernel
theorem dX5_bestHot_109 : decode cX5_bestHot 109 = .ok (.iconst 0, 1) := by decide +kernel
theorem dX5_bestHot_110 : decode cX5_bestHot 110 = .ok (.istore 8, 2) := by decide +kernel
theorem dX5_bestHot_112 : decode cX5_bestHot 112 = .ok (.iload 8, 2) := by decide +kernel
theorem dX5_bestHot_114 : decode cX5_bestHot 114 = .ok (.ifCond .eq 8, 3) := by decide +kernel
theorem dX5_bestHot_117 : decode cX5_bestHot 117 = .ok (.iload 5, 2) := by decide +kernel
theorem dX5_bestHot_119 : decode cX5_bestHot 119 = .ok (.goto 4, 3) := by decide +kernel
theorem dX5_bestHot_122 : decode cX5_bestHot 122 = .ok (.iload_n 3, 1) := by decide +kernel
theorem dX5_bestHot_123 : decode cX5_bestHot 123 = .ok (.istore_n 3, 1) := by decide +kernel
theorem dX5_bestHot_124 : decode cX5_bestHot 124 = .ok (.iload 8, 2) := by decide +kernel
theorem dX5_bestHot_126 : decode cX5_bestHot 126 = .ok (.ifCond .eq 8, 3) := by decide +kernel
theorem dX5_bestHot_129 : decode cX5_bestHot 129 = .ok (.iload 7, 2) := by decide +kernel
theorem dX5_bestHot_131 : decode cX5_bestHot 131 = .ok (.goto 5, 3) := by decide +kernel
theorem dX5_bestHot_134 : decode cX5_bestHot 134 = .ok (.iload 4, 2) := by decide +kernel
theorem dX5_bestHot_136 : decode cX5_bestHot 136 = .ok (.istore 4, 2) := by decide +kernel
theorem dX5_bestHot_138 : decode cX5_bestHot 138 = .ok (.iinc 5 500, 6) := by decide +kernel
theorem dX5_bestHot_144 : decode cX5_bestHot 144 = .ok (.goto (-113), 3) := by decide +kernel
theorem dX5_bestHot_147 : decode cX5_bestHot 147 = .ok (.iload_n 2, 1) := by decide +kernel
theorem dX5_bestHot_148 : decode cX5_bestHot 148 = .ok (.ifCond .ne 7, 3) := by decide +kernel
theorem dX5_bestHot_151 : decode cX5_bestHot 151 = .ok (.iload_n 3, 1) := by decide +kernel
theorem dX5_bestHot_152 : decode cX5_bestHot 152 = .ok (.goto 5, 3) := by decide +kernel
theorem dX5_bestHot_155 : decode cX5_bestHot 155 = .ok (.iload 4, 2) := by decide +kernel
theorem dX5_bestHot_157 : decode cX5_bestHot 157 = .ok (.ireturn, 1) := by decide +kernel
theorem dX5_cheapest_0 : decode cX5_cheapest 0 = .ok (.aload_n 0, 1) := by decide +kernel
theorem dX5_cheapest_1 : decode cX5_cheapest 1 = .ok (.iconst 0, 1) := by decide +kernel
theorem dX5_cheapest_2 : decode cX5_cheapest 2 = .ok (.iload_n 1, 1) := by decide +kernel
theorem dX5_cheapest_3 : decode cX5_cheapest 3 = .ok (.invokevirtual 65, 3) := by decide +kernel
theorem dX5_cheapest_6 : decode cX5_cheapest 6 = .ok (.istore_n 3, 1) := by decide +kernel
theorem dX5_cheapest_7 : decode cX5_cheapest 7 = .ok (.iload_n 3, 1) := by decide +kernel
theorem dX5_cheapest_8 : decode cX5_cheapest 8 = .ok (.bipush (-5), 2) := by decide +kernel
theorem dX5_cheapest_10 : decode cX5_cheapest 10 = .ok (.if_icmp .ne 5, 3) := by decide +kernel
theorem dX5_cheapest_13 : decode cX5_cheapest 13 = .ok (.iconst (-1), 1) := by decide +kernel
theorem dX5_cheapest_14 : decode cX5_cheapest 14 = .ok (.ireturn, 1) := by decide +kernel
theorem dX5_cheapest_15 : decode cX5_cheapest 15 = .ok (.iload_n 2, 1) := by decide +kernel
theorem dX5_cheapest_16 : decode cX5_cheapest 16 = .ok (.iconst 0, 1) := by decide +kernel
theorem dX5_cheapest_17 : decode cX5_cheapest 17 = .ok (.sipush 999, 3) := by decide +kernel
theorem dX5_cheapest_20 : decode cX5_cheapest 20 = .ok (.invokestatic 81, 3) := by decide +kernel
theorem dX5_cheapest_23 : decode cX5_cheapest 23 = .ok (.ifCond .ne 6, 3) := by decide +kernel
theorem dX5_cheapest_26 : decode cX5_cheapest 26 = .ok (.bipush (-2), 2) := by decide +kernel
theorem dX5_cheapest_28 : decode cX5_cheapest 28 = .ok (.ireturn, 1) := by decide +kernel
theorem dX5_cheapest_29 : decode cX5_cheapest 29 = .ok (.iconst 0, 1) := by decide +kernel
theorem dX5_cheapest_30 : decode cX5_cheapest 30 = .ok (.istore 4, 2) := by decide +kernel
theorem dX5_cheapest_32 : decode cX5_cheapest 32 = .ok (.iconst 0, 1) := by decide +kernel
theorem dX5_cheapest_33 : decode cX5_cheapest 33 = .ok (.istore 5, 2) := by decide +kernel
theorem dX5_cheapest_35 : decode cX5_cheapest 35 = .ok (.iconst 0, 1) := by decide +kernel
theorem dX5_cheapest_36 : decode cX5_cheapest 36 = .ok (.istore 6, 2) := by decide +kernel
theorem dX5_cheapest_38 : decode cX5_cheapest 38 = .ok (.iload 6, 2) := by decide +kernel
theorem dX5_cheapest_40 : decode cX5_cheapest 40 = .ok (.iconst 3, 1) := by decide +kernel
theorem dX5_cheapest_41 : decode cX5_cheapest 41 = .ok (.if_icmp .ge 97, 3) := by decide +kernel
theorem dX5_cheapest_44 : decode cX5_cheapest 44 = .ok (.aload_n 0, 1) := by decide +kernel
theorem dX5_cheapest_45 : decode cX5_cheapest 45 = .ok (.getfield 7, 3) := by decide +kernel
theorem dX5_cheapest_48 : decode cX5_cheapest 48 = .ok (.iconst 0, 1) := by decide +kernel
theorem dX5_cheapest_49 : decode cX5_cheapest 49 = .ok (.iload_n 3, 1) := by decide +kernel
theorem dX5_cheapest_50 : decode cX5_cheapest 50 = .ok (.invokestatic 32, 3) := by decide +kernel
theorem dX5_cheapest_53 : decode cX5_cheapest 53 = .ok (.iconst 1, 1) := by decide +kernel
theorem dX5_cheapest_54 : decode cX5_cheapest 54 = .ok (.iadd, 1) := by decide +kernel
theorem dX5_cheapest_55 : decode cX5_cheapest 55 = .ok (.iaload, 1) := by decide +kernel
theorem dX5_cheapest_56 : decode cX5_cheapest 56 = .ok (.bipush 10, 2) := by decide +kernel
theorem dX5_cheapest_58 : decode cX5_cheapest 58 = .ok (.aload_n 0, 1) := by decide +kernel
theorem dX5_cheapest_59 : decode cX5_cheapest 59 = .ok (.getfield 7, 3) := by decide +kernel
theorem dX5_cheapest_62 : decode cX5_cheapest 62 = .ok (.bipush 9, 2) := by decide +kernel
theorem dX5_cheapest_64 : decode cX5_cheapest 64 = .ok (.iload 6, 2) := by decide +kernel
theorem dX5_cheapest_66 : decode cX5_cheapest 66 = .ok (.iadd, 1) := by decide +kernel
theorem dX5_cheapest_67 : decode cX5_cheapest 67 = .ok (.iaload, 1) := by decide +kernel
theorem dX5_cheapest_68 : decode cX5_cheapest 68 = .ok (.imul, 1) := by decide +kernel
theorem dX5_cheapest_69 : decode cX5_cheapest 69 = .ok (.iload_n 2, 1) := by decide +kernel
theorem dX5_cheapest_70 : decode cX5_cheapest 70 = .ok (.aload_n 0, 1) := by decide +kernel
theorem dX5_cheapest_71 : decode cX5_cheapest 71 = .ok (.getfield 7, 3) := by decide +kernel
theorem dX5_cheapest_74 : decode cX5_cheapest 74 = .ok (.bipush 12, 2) := by decide +kernel
theorem dX5_cheapest_76 : decode cX5_cheapest 76 = .ok (.iload 6, 2) := by decide +kernel
theorem dX5_cheapest_78 : decode cX5_cheapest 78 = .ok (.iadd, 1) := by decide +kernel
theorem dX5_cheapest_79 : decode cX5_cheapest 79 = .ok (.iaload, 1) := by decide +kernel
theorem dX5_cheapest_80 : decode cX5_cheapest 80 = .ok (.imul, 1) := by decide +kernel
theorem dX5_cheapest_81 : decode cX5_cheapest 81 = .ok (.iadd, 1) := by decide +kernel
theorem dX5_cheapest_82 : decode cX5_cheapest 82 = .ok (.imul, 1) := by decide +kernel
theorem dX5_cheapest_83 : decode cX5_cheapest 83 = .ok (.istore 7, 2) := by decide +kernel
theorem dX5_cheapest_85 : decode cX5_cheapest 85 = .ok (.iload 6, 2) := by decide +kernel
theorem dX5_cheapest_87 : decode cX5_cheapest 87 = .ok (.ifCond .eq 10, 3) := by decide +kernel
theorem dX5_cheapest_90 : decode cX5_cheapest 90 = .ok (.iload 7, 2) := by decide +kernel
theorem dX5_cheapest_92 : decode cX5_cheapest 92 = .ok (.iload 5, 2) := by decide +kernel
theorem dX5_cheapest_94 : decode cX5_cheapest 94 = .ok (.if_icmp .ge 7, 3) := by decide +kernel
theorem dX5_cheapest_97 : decode cX5_cheapest 97 = .ok (.iconst 1, 1) := by decide +kernel
theorem dX5_cheapest_98 : decode cX5_cheapest 98 = .ok (.goto 4, 3) := by decide +kernel
theorem dX5_cheapest_101 : decode cX5_cheapest 101 = .ok (.iconst 0, 1) := by decide +kernel
theorem dX5_cheapest_102 : decode cX5_cheapest 102 = .ok (.istore 8, 2) := by decide +kernel
theorem dX5_cheapest_104 : decode cX5_cheapest 104 = .ok (.iload 8, 2) := by decide +kernel
theorem dX5_cheapest_106 : decode cX5_cheapest 106 = .ok (.ifCond .eq 8, 3) := by decide +kernel
theorem dX5_cheapest_109 : decode cX5_cheapest 109 = .ok (.iload 6, 2) := by decide +kernel
theorem dX5_cheapest_111 : decode cX5_cheapest 111 = .ok (.goto 5, 3) := by decide +kernel
theorem dX5_cheapest_114 : decode cX5_cheapest 114 = .ok (.iload 4, 2) := by decide +kernel
theorem dX5_cheapest_116 : decode cX5_cheapest 116 = .ok (.istore 4, 2) := by decide +kernel
theorem dX5_cheapest_118 : decode cX5_cheapest 118 = .ok (.iload 8, 2) := by decide +kernel
theorem dX5_cheapest_120 : decode cX5_cheapest 120 = .ok (.ifCond .eq 8, 3) := by decide +kernel
theorem dX5_cheapest_123 : decode cX5_cheapest 123 = .ok (.iload 7, 2) := by decide +kernel
theorem dX5_cheapest_125 : decode cX5_cheapest 125 = .ok (.goto 5, 3) := by decide +kernel
theorem dX5_cheapest_128 : decode cX5_cheapest 128 = .ok (.iload 5, 2) := by decide +kernel
theorem dX5_cheapest_130 : decode cX5_cheapest 130 = .ok (.istore 5, 2) := by decide +kernel
theorem dX5_cheapest_132 : decode cX5_cheapest 132 = .ok (.iinc 6 1, 3) := by decide +kernel
theorem dX5_cheapest_135 : decode cX5_cheapest 135 = .ok (.goto (-97), 3) := by decide +kernel
theorem dX5_cheapest_138 : decode cX5_cheapest 138 = .ok (.iload 4, 2) := by decide +kernel
theorem dX5_cheapest_140 : decode cX5_cheapest 140 = .ok (.ireturn, 1) := by decide +kernel
end
section
theorem dL_law_0 : decode cL_law 0 = .ok (.new 7, 3) := by decide +kernel
theorem dL_law_3 : decode cL_law 3 = .ok (.dup, 1) := by decide +kernel
theorem dL_law_4 : decode cL_law 4 = .ok (.invokespecial 9, 3) := by decide +kernel
theorem dL_law_7 : decode cL_law 7 = .ok (.astore_n 1, 1) := by decide +kernel
theorem dL_law_8 : decode cL_law 8 = .ok (.new 10, 3) := by decide +kernel
theorem dL_law_11 : decode cL_law 11 = .ok (.dup, 1) := by decide +kernel
theorem dL_law_12 : decode cL_law 12 = .ok (.invokespecial 12, 3) := by decide +kernel
theorem dL_law_15 : decode cL_law 15 = .ok (.astore_n 2, 1) := by decide +kernel
theorem dL_law_16 : decode cL_law 16 = .ok (.iconst 0, 1) := by decide +kernel
theorem dL_law_17 : decode cL_law 17 = .ok (.istore_n 3, 1) := by decide +kernel
theorem dL_law_18 : decode cL_law 18 = .ok (.iload_n 3, 1) := by decide +kernel
theorem dL_law_19 : decode cL_law 19 = .ok (.aload_n 0, 1) := by decide +kernel
theorem dL_law_20 : decode cL_law 20 = .ok (.arraylength, 1) := by decide +kernel
theorem dL_law_21 : decode cL_law 21 = .ok (.iconst 3, 1) := by decide +kernel
theorem dL_law_22 : decode cL_law 22 = .ok (.isub, 1) := by decide +kernel
theorem dL_law_23 : decode cL_law 23 = .ok (.if_icmp .gt 609, 3) := by decide +kernel
theorem dL_law_26 : decode cL_law 26 = .ok (.aload_n 0, 1) := by decide +kernel
theorem dL_law_27 : decode cL_law 27 = .ok (.iload_n 3, 1) := by decide +kernel
theorem dL_law_28 : decode cL_law 28 = .ok (.iaload, 1) := by decide +kernel
theorem dL_law_29 : decode cL_law 29 = .ok (.bipush 31, 2) := by decide +kernel
theorem dL_law_31 : decode cL_law 31 = .ok (.iand, 1) := by decide +kernel
theorem dL_law_32 : decode cL_law 32 = .ok (.tableswitch 594 0 19 #[96, 119, 142, 175, 224, 247, 280, 305, 318, 331, 344, 357, 370, 393, 426, 459, 482, 515, 528, 561], 96) := by decide +kernel
theorem dL_law_128 : decode cL_law 128 = .ok (.aload_n 1, 1) := by decide +kernel
theorem dL_law_129 : decode cL_law 129 = .ok (.aload_n 0, 1) := by decide +kernel
theorem dL_law_130 : decode cL_law 130 = .ok (.iload_n 3, 1) := by decide +kernel
theorem dL_law_131 : decode cL_law 131 = .ok (.iconst 1, 1) := by decide +kernel
theorem dL_law_132 : decode cL_law 132 = .ok (.iadd, 1) := by decide +kernel
theorem dL_law_133 : decode cL_law 133 = .ok (.iaload, 1) := by decide +kernel
theorem dL_law_134 : decode cL_law 134 = .ok (.invokevirtual 13, 3) := by decide +kernel
theorem dL_law_137 : decode cL_law 137 = .ok (.aload_n 2, 1) := by decide +kernel
theorem dL_law_138 : decode cL_law 138 = .ok (.aload_n 0, 1) := by decide +kernel
theorem dL_law_139 : decode cL_law 139 = .ok (.iload_n 3, 1) := by decide +kernel
theorem dL_law_140 : decode cL_law 140 = .ok (.iconst 1, 1) := by decide +kernel
theorem dL_law_141 : decode cL_law 141 = .ok (.iadd, 1) := by decide +kernel
theorem dL_law_142 : decode cL_law 142 = .ok (.iaload, 1) := by decide +kernel
theorem dL_law_143 : decode cL_law 143 = .ok (.invokevirtual 17, 3) := by decide +kernel
theorem dL_law_146 : decode cL_law 146 = .ok (.if_icmp .eq 480, 3) := by decide +kernel
theorem dL_law_149 : decode cL_law 149 = .ok (.iconst 0, 1) := by decide +kernel
theorem dL_law_150 : decode cL_law 150 = .ok (.ireturn, 1) := by decide +kernel
theorem dL_law_151 : decode cL_law 151 = .ok (.aload_n 1, 1) := by decide +kernel
theorem dL_law_152 : decode cL_law 152 = .ok (.aload_n 0, 1) := by decide +kernel
theorem dL_law_153 : decode cL_law 153 = .ok (.iload_n 3, 1) := by decide +kernel
theorem dL_law_154 : decode cL_law 154 = .ok (.iconst 1, 1) := by decide +kernel
theorem dL_law_155 : decode cL_law 155 = .ok (.iadd, 1) := by decide +kernel
theorem dL_law_156 : decode cL_law 156 = .ok (.iaload, 1) := by decide +kernel
theorem dL_law_157 : decode cL_law 157 = .ok (.invokevirtual 18, 3) := by decide +kernel
theorem dL_law_160 : decode cL_law 160 = .ok (.aload_n 2, 1) := by decide +kernel
theorem dL_law_161 : decode cL_law 161 = .ok (.aload_n 0, 1) := by decide +kernel
theorem dL_law_162 : decode cL_law 162 = .ok (.iload_n 3, 1) := by decide +kernel
theorem dL_law_163 : decode cL_law 163 = .ok (.iconst 1, 1) := by decide +kernel
theorem dL_law_164 : decode cL_law 164 = .ok (.iadd, 1) := by decide +kernel
theorem dL_law_165 : decode cL_law 165 = .ok (.iaload, 1) := by decide +kernel
theorem dL_law_166 : decode cL_law 166 = .ok (.invokevirtual 21, 3) := by decide +kernel
theorem dL_law_169 : decode cL_law 169 = .ok (.if_icmp .eq 457, 3) := by decide +kernel
theorem dL_law_172 : decode cL_law 172 = .ok (.iconst 0, 1) := by decide +kernel
theorem dL_law_173 : decode cL_law 173 = .ok (.ireturn, 1) := by decide +kernel
theorem dL_law_174 : decode cL_law 174 = .ok (.aload_n 1, 1) := by decide +kernel
theorem dL_law_175 : decode cL_law 175 = .ok (.aload_n 0, 1) := by decide +kernel
theorem dL_law_176 : decode cL_law 176 = .ok (.iload_n 3, 1) := by decide +kernel
theorem dL_law_177 : decode cL_law 177 = .ok (.iconst 1, 1) := by decide +kernel
theorem dL_law_178 : decode cL_law 178 = .ok (.iadd, 1) := by decide +kernel
theorem dL_law_179 : decode cL_law 179 = .ok (.iaload, 1) := by decide +kernel
theorem dL_law_180 : decode cL_law 180 = .ok (.aload_n 0, 1) := by decide +kernel
theorem dL_law_181 : decode cL_law 181 = .ok (.iload_n 3, 1) := by decide +kernel
theorem dL_law_182 : decode cL_law 182 = .ok (.iconst 2, 1) := by decide +kernel
theorem dL_law_183 : decode cL_law 183 = .ok (.iadd, 1) := by decide +kernel
theorem dL_law_184 : decode cL_law 184 = .ok (.iaload, 1) := by decide +kernel
theorem dL_law_185 : decode cL_law 185 = .ok (.invokevirtual 22, 3) := by decide +kernel
theorem dL_law_188 : decode cL_law 188 = .ok (.aload_n 2, 1) := by decide +kernel
theorem dL_law_189 : decode cL_law 189 = .ok (.aload_n 0, 1) := by decide +kernel
theorem dL_law_190 : decode cL_law 190 = .ok (.iload_n 3, 1) := by decide +kernel
theorem dL_law_191 : decode cL_law 191 = .ok (.iconst 1, 1) := by decide +kernel
theorem dL_law_192 : decode cL_law 192 = .ok (.iadd, 1) := by decide +kernel
theorem dL_law_193 : decode cL_law 193 = .ok (.iaload, 1) := by decide +kernel
theorem dL_law_194 : decode cL_law 194 = .ok (.aload_n 0, 1) := by decide +kernel
theorem dL_law_195 : decode cL_law 195 = .ok (.iload_n 3, 1) := by decide +kernel
theorem dL_law_196 : decode cL_law 196 = .ok (.iconst 2, 1) := by decide +kernel
theorem dL_law_197 : decode cL_law 197 = .ok (.iadd, 1) := by decide +kernel
theorem dL_law_198 : decode cL_law 198 = .ok (.iaload, 1) := by decide +kernel
theorem dL_law_199 : decode cL_law 199 = .ok (.invokevirtual 26, 3) := by decide +kernel
theorem dL_law_202 : decode cL_law 202 = .ok (.if_icmp .eq 424, 3) := by decide +kernel
theorem dL_law_205 : decode cL_law 205 = .ok (.iconst 0, 1) := by decide +kernel
theorem dL_law_206 : decode cL_law 206 = .ok (.ireturn, 1) := by decide +kernel
theorem dL_law_207 : decode cL_law 207 = .ok (.aload_n 1, 1) := by decide +kernel
theorem dL_law_208 : decode cL_law 208 = .ok (.aload_n 0, 1) := by decide +kernel
theorem dL_law_209 : decode cL_law 209 = .ok (.iload_n 3, 1) := by decide +kernel
theorem dL_law_210 : decode cL_law 210 = .ok (.iconst 1, 1) := by decide +kernel
theorem dL_law_211 : decode cL_law 211 = .ok (.iadd, 1) := by decide +kernel
theorem dL_law_212 : decode cL_law 212 = .ok (.iaload, 1) := by decide +kernel
theorem dL_law_213 : decode cL_law 213 = .ok (.aload_n 0, 1) := by decide +kernel
theorem dL_law_214 : decode cL_law 214 = .ok (.iload_n 3, 1) := by decide +kernel
theorem dL_law_215 : decode cL_law 215 = .ok (.iconst 2, 1) := by decide +kernel
theorem dL_law_216 : decode cL_law 216 = .ok (.iadd, 1) := by decide +kernel
theorem dL_law_217 : decode cL_law 217 = .ok (.iaload, 1) := by decide +kernel
theorem dL_law_218 : decode cL_law 218 = .ok (.ifCond .eq 7, 3) := by decide +kernel
theorem dL_law_221 : decode cL_law 221 = .ok (.iconst 1, 1) := by decide +kernel
theorem dL_law_222 : decode cL_law 222 = .ok (.goto 4, 3) := by decide +kernel
theorem dL_law_225 : decode cL_law 225 = .ok (.iconst 0, 1) := by decide +kernel
theorem dL_law_226 : decode cL_law 226 = .ok (.invokevirtual 27, 3) := by decide +kernel
theorem dL_law_229 : decode cL_law 229 = .ok (.aload_n 2, 1) := by decide +kernel
theorem dL_law_230 : decode cL_law 230 = .ok (.aload_n 0, 1) := by decide +kernel
theorem dL_law_231 : decode cL_law 231 = .ok (.iload_n 3, 1) := by decide +kernel
theorem dL_law_232 : decode cL_law 232 = .ok (.iconst 1, 1) := by decide +kernel
theorem dL_law_233 : decode cL_law 233 = .ok (.iadd, 1) := by decide +kernel
theorem dL_law_234 : decode cL_law 234 = .ok (.iaload, 1) := by decide +kernel
theorem dL_law_235 : decode cL_law 235 = .ok (.aload_n 0, 1) := by decide +kernel
theorem dL_law_236 : decode cL_law 236 = .ok (.iload_n 3, 1) := by decide +kernel
theorem dL_law_237 : decode cL_law 237 = .ok (.iconst 2, 1) := by decide +kernel
theorem dL_law_238 : decode cL_law 238 = .ok (.iadd, 1) := by decide +kernel
theorem dL_law_239 : decode cL_law 239 = .ok (.iaload, 1) := by decide +kernel
theorem dL_law_240 : decode cL_law 240 = .ok (.ifCond .eq 7, 3) := by decide +kernel
theorem dL_law_243 : decode cL_law 243 = .ok (.iconst 1, 1) := by decide +kernel
theorem dL_law_244 : decode cL_law 244 = .ok (.goto 4, 3) := by decide +kernel
theorem dL_law_247 : decode cL_law 247 = .ok (.iconst 0, 1) := by decide +kernel
theorem dL_law_248 : decode cL_law 248 = .ok (.invokevirtual 31, 3) := by decide +kernel
theorem dL_law_251 : decode cL_law 251 = .ok (.if_icmp .eq 375, 3) := by decide +kernel
theorem dL_law_254 : decode cL_law 254 = .ok (.iconst 0, 1) := by decide +kernel
theorem dL_law_255 : decode cL_law 255 = .ok (.ireturn, 1) := by decide +kernel
theorem dL_law_256 : decode cL_law 256 = .ok (.aload_n 1, 1) := by decide +kernel
theorem dL_law_257 : decode cL_law 257 = .ok (.aload_n 0, 1) := by decide +kernel
theorem dL_law_258 : decode cL_law 258 = .ok (.iload_n 3, 1) := by decide +kernel
theorem dL_law_259 : decode cL_law 259 = .ok (.iconst 1, 1) := by decide +kernel
theorem dL_law_260 : decode cL_law 260 = .ok (.iadd, 1) := by decide +kernel
theorem dL_law_261 : decode cL_law 261 = .ok (.iaload, 1) := by decide +kernel
theorem dL_law_262 : decode cL_law 262 = .ok (.invokevirtual 32, 3) := by decide +kernel
theorem dL_law_265 : decode cL_law 265 = .ok (.aload_n 2, 1) := by decide +kernel
theorem dL_law_266 : decode cL_law 266 = .ok (.aload_n 0, 1) := by decide +kernel
theorem dL_law_267 : decode cL_law 267 = .ok (.iload_n 3, 1) := by decide +kernel
theorem dL_law_268 : decode cL_law 268 = .ok (.iconst 1, 1) := by decide +kernel
theorem dL_law_269 : decode cL_law 269 = .ok (.iadd, 1) := by decide +kernel
theorem dL_law_270 : decode cL_law 270 = .ok (.iaload, 1) := by decide +kernel
theorem dL_law_271 : decode cL_law 271 = .ok (.invokevirtual 35, 3) := by decide +kernel
theorem dL_law_274 : decode cL_law 274 = .ok (.if_icmp .eq 352, 3) := by decide +kernel
theorem dL_law_277 : decode cL_law 277 = .ok (.iconst 0, 1) := by decide +kernel
theorem dL_law_278 : decode cL_law 278 = .ok (.ireturn, 1) := by decide +kernel
theorem dL_law_279 : decode cL_law 279 = .ok (.aload_n 1, 1) := by decide +kernel
theorem dL_law_280 : decode cL_law 280 = .ok (.aload_n 0, 1) := by decide +kernel
theorem dL_law_281 : decode cL_law 281 = .ok (.iload_n 3, 1) := by decide +kernel
theorem dL_law_282 : decode cL_law 282 = .ok (.iconst 1, 1) := by decide +kernel
theorem dL_law_283 : decode cL_law 283 = .ok (.iadd, 1) := by decide +kernel
theorem dL_law_284 : decode cL_law 284 = .ok (.iaload, 1) := by decide +kernel
theorem dL_law_285 : decode cL_law 285 = .ok (.aload_n 0, 1) := by decide +kernel
theorem dL_law_286 : decode cL_law 286 = .ok (.iload_n 3, 1) := by decide +kernel
theorem dL_law_287 : decode cL_law 287 = .ok (.iconst 2, 1) := by decide +kernel
theorem dL_law_288 : decode cL_law 288 = .ok (.iadd, 1) := by decide +kernel
theorem dL_law_289 : decode cL_law 289 = .ok (.iaload, 1) := by decide +kernel
theorem dL_law_290 : decode cL_law 290 = .ok (.invokevirtual 36, 3) := by decide +kernel
theorem dL_law_293 : decode cL_law 293 = .ok (.aload_n 2, 1) := by decide +kernel
theorem dL_law_294 : decode cL_law 294 = .ok (.aload_n 0, 1) := by decide +kernel
theorem dL_law_295 : decode cL_law 295 = .ok (.iload_n 3, 1) := by decide +kernel
theorem dL_law_296 : decode cL_law 296 = .ok (.iconst 1, 1) := by decide +kernel
theorem dL_law_297 : decode cL_law 297 = .ok (.iadd, 1) := by decide +kernel
theorem dL_law_298 : decode cL_law 298 = .ok (.iaload, 1) := by decide +kernel
theorem dL_law_299 : decode cL_law 299 = .ok (.aload_n 0, 1) := by decide +kernel
theorem dL_law_300 : decode cL_law 300 = .ok (.iload_n 3, 1) := by decide +kernel
theorem dL_law_301 : decode cL_law 301 = .ok (.iconst 2, 1) := by decide +kernel
theorem dL_law_302 : decode cL_law 302 = .ok (.iadd, 1) := by decide +kernel
theorem dL_law_303 : decode cL_law 303 = .ok (.iaload, 1) := by decide +kernel
theorem dL_law_304 : decode cL_law 304 = .ok (.invokevirtual 39, 3) := by decide +kernel
theorem dL_law_307 : decode cL_law 307 = .ok (.if_icmp .eq 319, 3) := by decide +kernel
theorem dL_law_310 : decode cL_law 310 = .ok (.iconst 0, 1) := by decide +kernel
theorem dL_law_311 : decode cL_law 311 = .ok (.ireturn, 1) := by decide +kernel
theorem dL_law_312 : decode cL_law 312 = .ok (.aload_n 1, 1) := by decide +kernel
theorem dL_law_313 : decode cL_law 313 = .ok (.aload_n 0, 1) := by decide +kernel
theorem dL_law_314 : decode cL_law 314 = .ok (.iload_n 3, 1) := by decide +kernel
theorem dL_law_315 : decode cL_law 315 = .ok (.iconst 1, 1) := by decide +kernel
theorem dL_law_316 : decode cL_law 316 = .ok (.iadd, 1) := by decide +kernel
theorem dL_law_317 : decode cL_law 317 = .ok (.iaload, 1) := by decide +kernel
theorem dL_law_318 : decode cL_law 318 = .ok (.i2c, 1) := by decide +kernel
theorem dL_law_319 : decode cL_law 319 = .ok (.invokevirtual 40, 3) := by decide +kernel
theorem dL_law_322 : decode cL_law 322 = .ok (.aload_n 2, 1) := by decide +kernel
theorem dL_law_323 : decode cL_law 323 = .ok (.aload_n 0, 1) := by decide +kernel
theorem dL_law_324 : decode cL_law 324 = .ok (.iload_n 3, 1) := by decide +kernel
theorem dL_law_325 : decode cL_law 325 = .ok (.iconst 1, 1) := by decide +kernel
theorem dL_law_326 : decode cL_law 326 = .ok (.iadd, 1) := by decide +kernel
theorem dL_law_327 : decode cL_law 327 = .ok (.iaload, 1) := by decide +kernel
theorem dL_law_328 : decode cL_law 328 = .ok (.i2c, 1) := by decide +kernel
theorem dL_law_329 : decode cL_law 329 = .ok (.invokevirtual 44, 3) := by decide +kernel
theorem dL_law_332 : decode cL_law 332 = .ok (.if_icmp .eq 294, 3) := by decide +kernel
theorem dL_law_335 : decode cL_law 335 = .ok (.iconst 0, 1) := by decide +kernel
theorem dL_law_336 : decode cL_law 336 = .ok (.ireturn, 1) := by decide +kernel
theorem dL_law_337 : decode cL_law 337 = .ok (.aload_n 1, 1) := by decide +kernel
theorem dL_law_338 : decode cL_law 338 = .ok (.invokevirtual 45, 3) := by decide +kernel
theorem dL_law_341 : decode cL_law 341 = .ok (.aload_n 2, 1) := by decide +kernel
theorem dL_law_342 : decode cL_law 342 = .ok (.invokevirtual 49, 3) := by decide +kernel
theorem dL_law_345 : decode cL_law 345 = .ok (.if_icmp .eq 281, 3) := by decide +kernel
theorem dL_law_348 : decode cL_law 348 = .ok (.iconst 0, 1) := by decide +kernel
theorem dL_law_349 : decode cL_law 349 = .ok (.ireturn, 1) := by decide +kernel
theorem dL_law_350 : decode cL_law 350 = .ok (.aload_n 1, 1) := by decide +kernel
theorem dL_law_351 : decode cL_law 351 = .ok (.invokevirtual 50, 3) := by decide +kernel
theorem dL_law_354 : decode cL_law 354 = .ok (.aload_n 2, 1) := by decide +kernel
theorem dL_law_355 : decode cL_law 355 = .ok (.invokevirtual 53, 3) := by decide +kernel
theorem dL_law_358 : decode cL_law 358 = .ok (.if_icmp .eq 268, 3) := by decide +kernel
theorem dL_law_361 : decode cL_law 361 = .ok (.iconst 0, 1) := by decide +kernel
theorem dL_law_362 : decode cL_law 362 = .ok (.ireturn, 1) := by decide +kernel
theorem dL_law_363 : decode cL_law 363 = .ok (.aload_n 1, 1) := by decide +kernel
theorem dL_law_364 : decode cL_law 364 = .ok (.invokevirtual 54, 3) := by decide +kernel
theorem dL_law_367 : decode cL_law 367 = .ok (.aload_n 2, 1) := by decide +kernel
theorem dL_law_368 : decode cL_law 368 = .ok (.invokevirtual 57, 3) := by decide +kernel
theorem dL_law_371 : decode cL_law 371 = .ok (.if_icmp .eq 255, 3) := by decide +kernel
theorem dL_law_374 : decode cL_law 374 = .ok (.iconst 0, 1) := by decide +kernel
theorem dL_law_375 : decode cL_law 375 = .ok (.ireturn, 1) := by decide +kernel
theorem dL_law_376 : decode cL_law 376 = .ok (.aload_n 1, 1) := by decide +kernel
theorem dL_law_377 : decode cL_law 377 = .ok (.invokevirtual 58, 3) := by decide +kernel
theorem dL_law_380 : decode cL_law 380 = .ok (.aload_n 2, 1) := by decide +kernel
theorem dL_law_381 : decode cL_law 381 = .ok (.invokevirtual 61, 3) := by decide +kernel
theorem dL_law_384 : decode cL_law 384 = .ok (.if_icmp .eq 242, 3) := by decide +kernel
theorem dL_law_387 : decode cL_law 387 = .ok (.iconst 0, 1) := by decide +kernel
theorem dL_law_388 : decode cL_law 388 = .ok (.ireturn, 1) := by decide +kernel
theorem dL_law_389 : decode cL_law 389 = .ok (.aload_n 1, 1) := by decide +kernel
theorem dL_law_390 : decode cL_law 390 = .ok (.invokevirtual 62, 3) := by decide +kernel
theorem dL_law_393 : decode cL_law 393 = .ok (.aload_n 2, 1) := by decide +kernel
theorem dL_law_394 : decode cL_law 394 = .ok (.invokevirtual 65, 3) := by decide +kernel
theorem dL_law_397 : decode cL_law 397 = .ok (.if_icmp .eq 229, 3) := by decide +kernel
theorem dL_law_400 : decode cL_law 400 = .ok (.iconst 0, 1) := by decide +kernel
theorem dL_law_401 : decode cL_law 401 = .ok (.ireturn, 1) := by decide +kernel
theorem dL_law_402 : decode cL_law 402 = .ok (.aload_n 1, 1) := by decide +kernel
theorem dL_law_403 : decode cL_law 403 = .ok (.aload_n 0, 1) := by decide +kernel
theorem dL_law_404 : decode cL_law 404 = .ok (.iload_n 3, 1) := by decide +kernel
theorem dL_law_405 : decode cL_law 405 = .ok (.iconst 1, 1) := by decide +kernel
theorem dL_law_406 : decode cL_law 406 = .ok (.iadd, 1) := by decide +kernel
theorem dL_law_407 : decode cL_law 407 = .ok (.iaload, 1) := by decide +kernel
theorem dL_law_408 : decode cL_law 408 = .ok (.invokevirtual 66, 3) := by decide +kernel
theorem dL_law_411 : decode cL_law 411 = .ok (.aload_n 2, 1) := by decide +kernel
theorem dL_law_412 : decode cL_law 412 = .ok (.aload_n 0, 1) := by decide +kernel
theorem dL_law_413 : decode cL_law 413 = .ok (.iload_n 3, 1) := by decide +kernel
theorem dL_law_414 : decode cL_law 414 = .ok (.iconst 1, 1) := by decide +kernel
theorem dL_law_415 : decode cL_law 415 = .ok (.iadd, 1) := by decide +kernel
theorem dL_law_416 : decode cL_law 416 = .ok (.iaload, 1) := by decide +kernel
theorem dL_law_417 : decode cL_law 417 = .ok (.invokevirtual 69, 3) := by decide +kernel
theorem dL_law_420 : decode cL_law 420 = .ok (.if_icmp .eq 206, 3) := by decide +kernel
theorem dL_law_423 : decode cL_law 423 = .ok (.iconst 0, 1) := by decide +kernel
theorem dL_law_424 : decode cL_law 424 = .ok (.ireturn, 1) := by decide +kernel
theorem dL_law_425 : decode cL_law 425 = .ok (.aload_n 1, 1) := by decide +kernel
theorem dL_law_426 : decode cL_law 426 = .ok (.aload_n 0, 1) := by decide +kernel
theorem dL_law_427 : decode cL_law 427 = .ok (.iload_n 3, 1) := by decide +kernel
theorem dL_law_428 : decode cL_law 428 = .ok (.iconst 1, 1) := by decide +kernel
theorem dL_law_429 : decode cL_law 429 = .ok (.iadd, 1) := by decide +kernel
theorem dL_law_430 : decode cL_law 430 = .ok (.iaload, 1) := by decide +kernel
theorem dL_law_431 : decode cL_law 431 = .ok (.aload_n 0, 1) := by decide +kernel
theorem dL_law_432 : decode cL_law 432 = .ok (.iload_n 3, 1) := by decide +kernel
theorem dL_law_433 : decode cL_law 433 = .ok (.iconst 2, 1) := by decide +kernel
theorem dL_law_434 : decode cL_law 434 = .ok (.iadd, 1) := by decide +kernel
theorem dL_law_435 : decode cL_law 435 = .ok (.iaload, 1) := by decide +kernel
theorem dL_law_436 : decode cL_law 436 = .ok (.invokevirtual 70, 3) := by decide +kernel
theorem dL_law_439 : decode cL_law 439 = .ok (.aload_n 2, 1) := by decide +kernel
theorem dL_law_440 : decode cL_law 440 = .ok (.aload_n 0, 1) := by decide +kernel
theorem dL_law_441 : decode cL_law 441 = .ok (.iload_n 3, 1) := by decide +kernel
theorem dL_law_442 : decode cL_law 442 = .ok (.iconst 1, 1) := by decide +kernel
theorem dL_law_443 : decode cL_law 443 = .ok (.iadd, 1) := by decide +kernel
theorem dL_law_444 : decode cL_law 444 = .ok (.iaload, 1) := by decide +kernel
theorem dL_law_445 : decode cL_law 445 = .ok (.aload_n 0, 1) := by decide +kernel
theorem dL_law_446 : decode cL_law 446 = .ok (.iload_n 3, 1) := by decide +kernel
theorem dL_law_447 : decode cL_law 447 = .ok (.iconst 2, 1) := by decide +kernel
theorem dL_law_448 : decode cL_law 448 = .ok (.iadd, 1) := by decide +kernel
theorem dL_law_449 : decode cL_law 449 = .ok (.iaload, 1) := by decide +kernel
theorem dL_law_450 : decode cL_law 450 = .ok (.invokevirtual 73, 3) := by decide +kernel
theorem dL_law_453 : decode cL_law 453 = .ok (.if_icmp .eq 173, 3) := by decide +kernel
theorem dL_law_456 : decode cL_law 456 = .ok (.iconst 0, 1) := by decide +kernel
theorem dL_law_457 : decode cL_law 457 = .ok (.ireturn, 1) := by decide +kernel
theorem dL_law_458 : decode cL_law 458 = .ok (.aload_n 1, 1) := by decide +kernel
theorem dL_law_459 : decode cL_law 459 = .ok (.aload_n 0, 1) := by decide +kernel
theorem dL_law_460 : decode cL_law 460 = .ok (.iload_n 3, 1) := by decide +kernel
theorem dL_law_461 : decode cL_law 461 = .ok (.iconst 1, 1) := by decide +kernel
theorem dL_law_462 : decode cL_law 462 = .ok (.iadd, 1) := by decide +kernel
theorem dL_law_463 : decode cL_law 463 = .ok (.iaload, 1) := by decide +kernel
theorem dL_law_464 : decode cL_law 464 = .ok (.aload_n 0, 1) := by decide +kernel
theorem dL_law_465 : decode cL_law 465 = .ok (.iload_n 3, 1) := by decide +kernel
theorem dL_law_466 : decode cL_law 466 = .ok (.iconst 2, 1) := by decide +kernel
theorem dL_law_467 : decode cL_law 467 = .ok (.iadd, 1) := by decide +kernel
theorem dL_law_468 : decode cL_law 468 = .ok (.iaload, 1) := by decide +kernel
theorem dL_law_469 : decode cL_law 469 = .ok (.invokevirtual 74, 3) := by decide +kernel
theorem dL_law_472 : decode cL_law 472 = .ok (.aload_n 2, 1) := by decide +kernel
theorem dL_law_473 : decode cL_law 473 = .ok (.aload_n 0, 1) := by decide +kernel
theorem dL_law_474 : decode cL_law 474 = .ok (.iload_n 3, 1) := by decide +kernel
theorem dL_law_475 : decode cL_law 475 = .ok (.iconst 1, 1) := by decide +kernel
theorem dL_law_476 : decode cL_law 476 = .ok (.iadd, 1) := by decide +kernel
theorem dL_law_477 : decode cL_law 477 = .ok (.iaload, 1) := by decide +kernel
theorem dL_law_478 : decode cL_law 478 = .ok (.aload_n 0, 1) := by decide +kernel
theorem dL_law_479 : decode cL_law 479 = .ok (.iload_n 3, 1) := by decide +kernel
theorem dL_law_480 : decode cL_law 480 = .ok (.iconst 2, 1) := by decide +kernel
theorem dL_law_481 : decode cL_law 481 = .ok (.iadd, 1) := by decide +kernel
theorem dL_law_482 : decode cL_law 482 = .ok (.iaload, 1) := by decide +kernel
theorem dL_law_483 : decode cL_law 483 = .ok (.invokevirtual 77, 3) := by decide +kernel
theorem dL_law_486 : decode cL_law 486 = .ok (.if_icmp .eq 140, 3) := by decide +kernel
theorem dL_law_489 : decode cL_law 489 = .ok (.iconst 0, 1) := by decide +kernel
theorem dL_law_490 : decode cL_law 490 = .ok (.ireturn, 1) := by decide +kernel
theorem dL_law_491 : decode cL_law 491 = .ok (.aload_n 1, 1) := by decide +kernel
theorem dL_law_492 : decode cL_law 492 = .ok (.aload_n 0, 1) := by decide +kernel
theorem dL_law_493 : decode cL_law 493 = .ok (.iload_n 3, 1) := by decide +kernel
theorem dL_law_494 : decode cL_law 494 = .ok (.iconst 1, 1) := by decide +kernel
theorem dL_law_495 : decode cL_law 495 = .ok (.iadd, 1) := by decide +kernel
theorem dL_law_496 : decode cL_law 496 = .ok (.iaload, 1) := by decide +kernel
theorem dL_law_497 : decode cL_law 497 = .ok (.invokevirtual 78, 3) := by decide +kernel
theorem dL_law_500 : decode cL_law 500 = .ok (.aload_n 2, 1) := by decide +kernel
theorem dL_law_501 : decode cL_law 501 = .ok (.aload_n 0, 1) := by decide +kernel
theorem dL_law_502 : decode cL_law 502 = .ok (.iload_n 3, 1) := by decide +kernel
theorem dL_law_503 : decode cL_law 503 = .ok (.iconst 1, 1) := by decide +kernel
theorem dL_law_504 : decode cL_law 504 = .ok (.iadd, 1) := by decide +kernel
theorem dL_law_505 : decode cL_law 505 = .ok (.iaload, 1) := by decide +kernel
theorem dL_law_506 : decode cL_law 506 = .ok (.invokevirtual 81, 3) := by decide +kernel
theorem dL_law_509 : decode cL_law 509 = .ok (.if_icmp .eq 117, 3) := by decide +kernel
theorem dL_law_512 : decode cL_law 512 = .ok (.iconst 0, 1) := by decide +kernel
theorem dL_law_513 : decode cL_law 513 = .ok (.ireturn, 1) := by decide +kernel
theorem dL_law_514 : decode cL_law 514 = .ok (.aload_n 1, 1) := by decide +kernel
theorem dL_law_515 : decode cL_law 515 = .ok (.aload_n 0, 1) := by decide +kernel
theorem dL_law_516 : decode cL_law 516 = .ok (.iload_n 3, 1) := by decide +kernel
theorem dL_law_517 : decode cL_law 517 = .ok (.iconst 1, 1) := by decide +kernel
theorem dL_law_518 : decode cL_law 518 = .ok (.iadd, 1) := by decide +kernel
theorem dL_law_519 : decode cL_law 519 = .ok (.iaload, 1) := by decide +kernel
theorem dL_law_520 : decode cL_law 520 = .ok (.aload_n 0, 1) := by decide +kernel
theorem dL_law_521 : decode cL_law 521 = .ok (.iload_n 3, 1) := by decide +kernel
theorem dL_law_522 : decode cL_law 522 = .ok (.iconst 2, 1) := by decide +kernel
theorem dL_law_523 : decode cL_law 523 = .ok (.iadd, 1) := by decide +kernel
theorem dL_law_524 : decode cL_law 524 = .ok (.iaload, 1) := by decide +kernel
theorem dL_law_525 : decode cL_law 525 = .ok (.invokevirtual 82, 3) := by decide +kernel
theorem dL_law_528 : decode cL_law 528 = .ok (.aload_n 2, 1) := by decide +kernel
theorem dL_law_529 : decode cL_law 529 = .ok (.aload_n 0, 1) := by decide +kernel
theorem dL_law_530 : decode cL_law 530 = .ok (.iload_n 3, 1) := by decide +kernel
theorem dL_law_531 : decode cL_law 531 = .ok (.iconst 1, 1) := by decide +kernel
theorem dL_law_532 : decode cL_law 532 = .ok (.iadd, 1) := by decide +kernel
theorem dL_law_533 : decode cL_law 533 = .ok (.iaload, 1) := by decide +kernel
theorem dL_law_534 : decode cL_law 534 = .ok (.aload_n 0, 1) := by decide +kernel
theorem dL_law_535 : decode cL_law 535 = .ok (.iload_n 3, 1) := by decide +kernel
theorem dL_law_536 : decode cL_law 536 = .ok (.iconst 2, 1) := by decide +kernel
theorem dL_law_537 : decode cL_law 537 = .ok (.iadd, 1) := by decide +kernel
theorem dL_law_538 : decode cL_law 538 = .ok (.iaload, 1) := by decide +kernel
theorem dL_law_539 : decode cL_law 539 = .ok (.invokevirtual 85, 3) := by decide +kernel
theorem dL_law_542 : decode cL_law 542 = .ok (.if_icmp .eq 84, 3) := by decide +kernel
theorem dL_law_545 : decode cL_law 545 = .ok (.iconst 0, 1) := by decide +kernel
theorem dL_law_546 : decode cL_law 546 = .ok (.ireturn, 1) := by decide +kernel
theorem dL_law_547 : decode cL_law 547 = .ok (.aload_n 1, 1) := by decide +kernel
theorem dL_law_548 : decode cL_law 548 = .ok (.invokevirtual 86, 3) := by decide +kernel
theorem dL_law_551 : decode cL_law 551 = .ok (.aload_n 2, 1) := by decide +kernel
theorem dL_law_552 : decode cL_law 552 = .ok (.invokevirtual 89, 3) := by decide +kernel
theorem dL_law_555 : decode cL_law 555 = .ok (.if_icmp .eq 71, 3) := by decide +kernel
theorem dL_law_558 : decode cL_law 558 = .ok (.iconst 0, 1) := by decide +kernel
theorem dL_law_559 : decode cL_law 559 = .ok (.ireturn, 1) := by decide +kernel
theorem dL_law_560 : decode cL_law 560 = .ok (.aload_n 1, 1) := by decide +kernel
theorem dL_law_561 : decode cL_law 561 = .ok (.aload_n 0, 1) := by decide +kernel
theorem dL_law_562 : decode cL_law 562 = .ok (.iload_n 3, 1) := by decide +kernel
theorem dL_law_563 : decode cL_law 563 = .ok (.iconst 1, 1) := by decide +kernel
theorem dL_law_564 : decode cL_law 564 = .ok (.iadd, 1) := by decide +kernel
theorem dL_law_565 : decode cL_law 565 = .ok (.iaload, 1) := by decide +kernel
theorem dL_law_566 : decode cL_law 566 = .ok (.aload_n 0, 1) := by decide +kernel
theorem dL_law_567 : decode cL_law 567 = .ok (.iload_n 3, 1) := by decide +kernel
theorem dL_law_568 : decode cL_law 568 = .ok (.iconst 2, 1) := by decide +kernel
theorem dL_law_569 : decode cL_law 569 = .ok (.iadd, 1) := by decide +kernel
theorem dL_law_570 : decode cL_law 570 = .ok (.iaload, 1) := by decide +kernel
theorem dL_law_571 : decode cL_law 571 = .ok (.invokevirtual 90, 3) := by decide +kernel
theorem dL_law_574 : decode cL_law 574 = .ok (.aload_n 2, 1) := by decide +kernel
theorem dL_law_575 : decode cL_law 575 = .ok (.aload_n 0, 1) := by decide +kernel
theorem dL_law_576 : decode cL_law 576 = .ok (.iload_n 3, 1) := by decide +kernel
theorem dL_law_577 : decode cL_law 577 = .ok (.iconst 1, 1) := by decide +kernel
theorem dL_law_578 : decode cL_law 578 = .ok (.iadd, 1) := by decide +kernel
theorem dL_law_579 : decode cL_law 579 = .ok (.iaload, 1) := by decide +kernel
theorem dL_law_580 : decode cL_law 580 = .ok (.aload_n 0, 1) := by decide +kernel
theorem dL_law_581 : decode cL_law 581 = .ok (.iload_n 3, 1) := by decide +kernel
theorem dL_law_582 : decode cL_law 582 = .ok (.iconst 2, 1) := by decide +kernel
theorem dL_law_583 : decode cL_law 583 = .ok (.iadd, 1) := by decide +kernel
theorem dL_law_584 : decode cL_law 584 = .ok (.iaload, 1) := by decide +kernel
theorem dL_law_585 : decode cL_law 585 = .ok (.invokevirtual 93, 3) := by decide +kernel
theorem dL_law_588 : decode cL_law 588 = .ok (.if_icmp .eq 38, 3) := by decide +kernel
theorem dL_law_591 : decode cL_law 591 = .ok (.iconst 0, 1) := by decide +kernel
theorem dL_law_592 : decode cL_law 592 = .ok (.ireturn, 1) := by decide +kernel
theorem dL_law_593 : decode cL_law 593 = .ok (.aload_n 1, 1) := by decide +kernel
theorem dL_law_594 : decode cL_law 594 = .ok (.aload_n 0, 1) := by decide +kernel
theorem dL_law_595 : decode cL_law 595 = .ok (.iload_n 3, 1) := by decide +kernel
theorem dL_law_596 : decode cL_law 596 = .ok (.iconst 1, 1) := by decide +kernel
theorem dL_law_597 : decode cL_law 597 = .ok (.iadd, 1) := by decide +kernel
theorem dL_law_598 : decode cL_law 598 = .ok (.iaload, 1) := by decide +kernel
theorem dL_law_599 : decode cL_law 599 = .ok (.aload_n 0, 1) := by decide +kernel
theorem dL_law_600 : decode cL_law 600 = .ok (.iload_n 3, 1) := by decide +kernel
theorem dL_law_601 : decode cL_law 601 = .ok (.iconst 2, 1) := by decide +kernel
theorem dL_law_602 : decode cL_law 602 = .ok (.iadd, 1) := by decide +kernel
theorem dL_law_603 : decode cL_law 603 = .ok (.iaload, 1) := by decide +kernel
theorem dL_law_604 : decode cL_law 604 = .ok (.invokevirtual 94, 3) := by decide +kernel
theorem dL_law_607 : decode cL_law 607 = .ok (.aload_n 2, 1) := by decide +kernel
theorem dL_law_608 : decode cL_law 608 = .ok (.aload_n 0, 1) := by decide +kernel
theorem dL_law_609 : decode cL_law 609 = .ok (.iload_n 3, 1) := by decide +kernel
theorem dL_law_610 : decode cL_law 610 = .ok (.iconst 1, 1) := by decide +kernel
theorem dL_law_611 : decode cL_law 611 = .ok (.iadd, 1) := by decide +kernel
theorem dL_law_612 : decode cL_law 612 = .ok (.iaload, 1) := by decide +kernel
theorem dL_law_613 : decode cL_law 613 = .ok (.aload_n 0, 1) := by decide +kernel
theorem dL_law_614 : decode cL_law 614 = .ok (.iload_n 3, 1) := by decide +kernel
theorem dL_law_615 : decode cL_law 615 = .ok (.iconst 2, 1) := by decide +kernel
theorem dL_law_616 : decode cL_law 616 = .ok (.iadd, 1) := by decide +kernel
theorem dL_law_617 : decode cL_law 617 = .ok (.iaload, 1) := by decide +kernel
theorem dL_law_618 : decode cL_law 618 = .ok (.invokevirtual 97, 3) := by decide +kernel
theorem dL_law_621 : decode cL_law 621 = .ok (.if_icmp .eq 5, 3) := by decide +kernel
theorem dL_law_624 : decode cL_law 624 = .ok (.iconst 0, 1) := by decide +kernel
theorem dL_law_625 : decode cL_law 625 = .ok (.ireturn, 1) := by decide +kernel
theorem dL_law_626 : decode cL_law 626 = .ok (.iinc 3 3, 3) := by decide +kernel
theorem dL_law_629 : decode cL_law 629 = .ok (.goto (-611), 3) := by decide +kernel
theorem dL_law_632 : decode cL_law 632 = .ok (.iconst 1, 1) := by decide +kernel
theorem dL_law_633 : decode cL_law 633 = .ok (.ireturn, 1) := by decide +kernel
end
section
/-- the words that every method here may use: those of the law's tables that stay -/
def xT : List Cond := lw_tbl.filter goodWord
theorem xT_of {w : Cond} (h : w ∈ lw_tbl) (hg : goodWord w = true) : w ∈ xT := List.mem_filter.mpr ⟨h, hg⟩
theorem xT_in {w : Cond} (h : w ∈ xT) : w ∈ lw_tbl := (List.mem_filter.mp h).1
theorem xT_good {w : Cond} (h : w ∈ xT) : (w.onTables && w.keeps) = true ∨ ∃ ty, w = .arrayClass ty := good_of_word (List.mem_filter.mp h).2
/-! A layer over the kit's rows: memory is two functions of cell number and place (whole numbers, references), values on the stack and in the locals are whole numbers or cell numbers; addresses and the machine's state are hidden in the judgement 'X'. -/
abbrev xAV : Type := Int ⊕ Option Nat
abbrev ii (z : Int) : xAV := Sum.inl z
abbrev rr (c : Nat) : xAV := Sum.inr (some c)
abbrev xG : Type := Nat × (Nat → ClassId) × (Nat → Nat → Nat) × Nat × Nat
abbrev xK : Type := MethodName × ByteArray × Nat × Option FieldType
abbrev xI : Type := Nat → Nat → Int
abbrev xR : Type := Nat → Nat → Option Nat
abbrev xQ : Type := Option xAV → Nat → xI → xR → Prop
def x_ad (G : xG) (c : Nat) : Nat := if c = 100 then G.2.2.2.1 else if c = 101 then G.2.2.2.2 else G.1 + c
def x_v (G : xG) : xAV → Value
  | .inl z => .int (Int32.ofInt z)
  | .inr o => va_rf (o.map (x_ad G))
theorem x_cat (G : xG) (v : xAV) : (x_v G v).category = 1 := by
  rcases v with z | o
  · rfl
  · cases o <;> rfl
/-- the shape: which cell is what: (0, n) a row of n numbers, (1, n) a row of n references, (2, k) an object of kind k -/
def x_shL : List (Nat × Nat) := [(2, 4), (2, 3), (0, 23), (0, 3), (0, 24), (0, 24), (0, 24), (0, 24), (0, 24), (0, 24), (0, 24), (0, 24), (2, 3), (0, 23), (0, 3), (0, 24), (0, 24), (0, 24), (0, 24), (0, 24), (0, 24), (0, 24), (0, 24), (2, 3), (0, 23), (0, 3), (0, 24), (0, 24), (0, 24), (0, 24), (0, 24), (0, 24), (0, 24), (0, 24), (2, 0), (1, 4), (2, 3), (0, 23), (0, 3), (0, 24), (0, 24), (0, 24), (0, 24), (0, 24), (0, 24), (0, 24), (0, 24), (2, 3), (0, 23), (0, 3), (0, 24), (0, 24), (0, 24), (0, 24), (0, 24), (0, 24), (0, 24), (0, 24), (2, 3), (0, 23), (0, 3), (0, 24), (0, 24), (0, 24), (0, 24), (0, 24), (0, 24), (0, 24), (0, 24), (2, 3), (0, 23), (0, 3), (0, 24), (0, 24), (0, 24), (0, 24), (0, 24), (0, 24), (0, 24), (0, 24), (2, 1), (0, 24), (0, 24), (2, 2), (0, 60), (0, 30), (0, 30), (0, 30), (2, 5), (0, 430), (0, 860), (0, 215), (0, 60), (0, 24)]
def x_sh (c : Nat) : Nat × Nat := if c = 100 ∨ c = 101 then (0, 15) else x_shL.getD c (9, 0)
def x_ir (ci k : Nat) : Bool := match ci, k with
  | 0, 0 => true
  | 1, _ => true
  | 2, 0 => true
  | 2, 2 => true
  | 2, 3 => true
  | 2, 4 => true
  | 3, _ => true
  | 4, 3 => false
  | 4, _ => true
  | 5, 0 => true
  | 5, 1 => true
  | 5, 3 => true
  | 5, 5 => true
  | 5, 7 => true
  | _, _ => false
def x_nf (ci : Nat) : Nat := match ci with
  | 0 => 3
  | 1 => 2
  | 2 => 7
  | 3 => 10
  | 4 => 7
  | 5 => 8
  | _ => 0
def x_fv (G : xG) (I : xI) (Rf : xR) (c ci k : Nat) : Value := if x_ir ci k = true then va_rf ((Rf c k).map (x_ad G)) else .int (Int32.ofInt (I c k))
def x_cell (G : xG) (I : xI) (Rf : xR) (U : State) (H : Heap) (c : Nat) : Prop :=
  ((x_sh c).1 = 0 → va_X (x_ad G c) (x_sh c).2 (fun j => Int32.ofInt (I c j)) U H) ∧
  ((x_sh c).1 = 1 → ∃ cS : ClassId, H[x_ad G c]? = some (arrV cS (x_sh c).2 (fun j => va_rf ((Rf c j).map (x_ad G)))) ∧ ArrOfT U cS (.object "HeatShelves$State") ∧ va_RA U cS (.object "HeatShelves$State")) ∧
  ((x_sh c).1 = 2 → t_OB (x_ad G c) (G.2.1 (x_sh c).2) (x_nf (x_sh c).2) (G.2.2.1 (x_sh c).2) H (x_fv G I Rf c (x_sh c).2))
def x_live (N c : Nat) : Prop := c < N ∨ c = 100 ∨ c = 101
def x_P (G : xG) (N : Nat) (I : xI) (Rf : xR) (U : State) (H : Heap) : Prop := N ≤ 94 ∧ H.size = G.1 + N ∧ G.2.2.2.1 < G.1 ∧ G.2.2.2.2 < G.1 ∧ ∀ c, x_live N c → x_cell G I Rf U H c
def x_A (G : xG) : Nat → Prop := fun q => G.1 ≤ q
def x_NTf : List (String × Nat × String × String × String × String) := [("HeatShelves$State", 42, "HeatShelves", "FIRST_VALUES", "[I", "HeatShelves"), ("HeatShelves$Night", 18, "HeatShelves$State", "numbers", "[I", "HeatShelves"), ("HeatShelves", 142, "HeatShelves$State", "numbers", "[I", "HeatShelves"), ("HeatShelves", 145, "HeatShelves$State", "taken", "[I", "HeatShelves"), ("HeatShelves", 104, "HeatShelves$State", "names", "[I", "HeatShelves"), ("HeatShelves$Night", 84, "HeatShelves$State", "sizes", "[I", "HeatShelves"), ("HeatShelves", 115, "HeatShelves$State", "sizes", "[I", "HeatShelves"), ("HeatShelves$Night", 81, "HeatShelves$State", "heats", "[I", "HeatShelves"), ("HeatShelves", 118, "HeatShelves$State", "heats", "[I", "HeatShelves"), ("HeatShelves$Night", 62, "HeatShelves$State", "shelves", "[I", "HeatShelves"), ("HeatShelves", 121, "HeatShelves$State", "shelves", "[I", "HeatShelves"), ("HeatShelves$Night", 56, "HeatShelves$State", "pins", "[I", "HeatShelves"), ("HeatShelves", 127, "HeatShelves$State", "pins", "[I", "HeatShelves"), ("HeatShelves$Night", 59, "HeatShelves$State", "promises", "[I", "HeatShelves"), ("HeatShelves", 130, "HeatShelves$State", "promises", "[I", "HeatShelves"), ("HeatShelves", 133, "HeatShelves$State", "readings", "[I", "HeatShelves"), ("HeatShelves", 136, "HeatShelves$State", "moves", "[I", "HeatShelves"), ("HeatShelves", 97, "HeatShelves$History", "count", "I", "HeatShelves"), ("HeatShelves", 198, "HeatShelves$Night", "reasons", "[I", "HeatShelves"), ("HeatShelves", 163, "HeatShelves$Orders", "length", "I", "HeatShelves"), ("HeatShelves", 186, "HeatShelves$Orders", "kinds", "[I", "HeatShelves"), ("HeatShelves", 189, "HeatShelves$Orders", "values", "[I", "HeatShelves"), ("HeatShelves", 192, "HeatShelves$Orders", "times", "[I", "HeatShelves"), ("HeatShelves", 86, "HeatShelves$Orders", "count", "I", "HeatShelves"), ("HeatShelves$State", 115, "HeatShelves", "GREATEST_VALUES", "[I", "HeatShelves")]
def x_NTm : List (String × Nat × MethodName × String) := [("HeatShelves", 9, ⟨"HeatShelves$State", "<init>", "()V"⟩, "HeatShelves"), ("HeatShelves$State", 45, ⟨"HeatShelves", "copyRow", "([I[I)V"⟩, "HeatShelves"), ("HeatShelves", 28, ⟨"HeatShelves$History", "<init>", "()V"⟩, "HeatShelves"), ("HeatShelves$History", 24, ⟨"HeatShelves$State", "<init>", "()V"⟩, "HeatShelves"), ("HeatShelves", 35, ⟨"HeatShelves$Night", "<init>", "()V"⟩, "HeatShelves"), ("HeatShelves", 42, ⟨"HeatShelves$Orders", "<init>", "()V"⟩, "HeatShelves"), ("HeatShelves", 47, ⟨"HeatShelves$State", "copyFrom", "(LHeatShelves$State;)V"⟩, "HeatShelves"), ("HeatShelves", 51, ⟨"HeatShelves$State", "addBlock", "(I)I"⟩, "HeatShelves"), ("HeatShelves$State", 49, ⟨"HeatShelves", "at", "([II)I"⟩, "HeatShelves"), ("HeatShelves$State", 67, ⟨"HeatShelves", "put", "([III)V"⟩, "HeatShelves"), ("HeatShelves$State", 71, ⟨"HeatShelves", "raise", "([III)V"⟩, "HeatShelves"), ("HeatShelves", 183, ⟨"HeatShelves$History", "record", "(LHeatShelves$State;)V"⟩, "HeatShelves"), ("HeatShelves$History", 29, ⟨"HeatShelves$State", "copyFrom", "(LHeatShelves$State;)V"⟩, "HeatShelves"), ("HeatShelves", 58, ⟨"HeatShelves$State", "dropBlock", "(I)I"⟩, "HeatShelves"), ("HeatShelves$State", 81, ⟨"HeatShelves", "closeGap", "([II)V"⟩, "HeatShelves"), ("HeatShelves", 61, ⟨"HeatShelves$State", "readBlock", "(II)I"⟩, "HeatShelves"), ("HeatShelves", 65, ⟨"HeatShelves$State", "turnPin", "(IZ)I"⟩, "HeatShelves"), ("HeatShelves", 166, ⟨"HeatShelves$Night", "letPass", "(LHeatShelves$State;I)I"⟩, "HeatShelves"), ("HeatShelves$Night", 23, ⟨"HeatShelves", "at", "([II)I"⟩, "HeatShelves"), ("HeatShelves$Night", 27, ⟨"HeatShelves$State", "payNight", "()V"⟩, "HeatShelves"), ("HeatShelves$Night", 30, ⟨"HeatShelves$State", "fade", "()V"⟩, "HeatShelves"), ("HeatShelves$Night", 45, ⟨"HeatShelves$State", "countBlocks", "()I"⟩, "HeatShelves"), ("HeatShelves$Night", 49, ⟨"HeatShelves$State", "wantedShelf", "(I)I"⟩, "HeatShelves"), ("HeatShelves$Night", 53, ⟨"HeatShelves", "put", "([III)V"⟩, "HeatShelves"), ("HeatShelves$Night", 87, ⟨"HeatShelves$State", "hasRoom", "(II)Z"⟩, "HeatShelves"), ("HeatShelves$Night", 73, ⟨"HeatShelves$State", "moveTo", "(II)V"⟩, "HeatShelves"), ("HeatShelves$Night", 41, ⟨"HeatShelves", "raise", "([III)V"⟩, "HeatShelves"), ("HeatShelves", 72, ⟨"HeatShelves$State", "changeSetting", "(II)I"⟩, "HeatShelves"), ("HeatShelves", 75, ⟨"HeatShelves$Orders", "append", "(C)I"⟩, "HeatShelves"), ("HeatShelves$Orders", 34, ⟨"HeatShelves", "put", "([III)V"⟩, "HeatShelves"), ("HeatShelves", 79, ⟨"HeatShelves$Orders", "empty", "()I"⟩, "HeatShelves"), ("HeatShelves", 83, ⟨"HeatShelves$Orders", "readAll", "()I"⟩, "HeatShelves"), ("HeatShelves$Orders", 64, ⟨"HeatShelves", "at", "([II)I"⟩, "HeatShelves"), ("HeatShelves", 195, ⟨"HeatShelves$State", "flipPin", "(I)I"⟩, "HeatShelves"), ("HeatShelves", 93, ⟨"HeatShelves$History", "takeLatest", "(LHeatShelves$State;)Z"⟩, "HeatShelves"), ("HeatShelves", 98, ⟨"HeatShelves$State", "countBlocks", "()I"⟩, "HeatShelves"), ("HeatShelves", 101, ⟨"HeatShelves$State", "placeOfRank", "(I)I"⟩, "HeatShelves"), ("HeatShelves", 112, ⟨"HeatShelves$State", "find", "(I)I"⟩, "HeatShelves"), ("HeatShelves", 124, ⟨"HeatShelves$State", "wantedShelf", "(I)I"⟩, "HeatShelves"), ("HeatShelves", 148, ⟨"HeatShelves$State", "countOnShelf", "(I)I"⟩, "HeatShelves"), ("HeatShelves", 151, ⟨"HeatShelves$State", "heatOnShelf", "(I)I"⟩, "HeatShelves"), ("HeatShelves", 154, ⟨"HeatShelves$State", "nightPriceOfShelf", "(I)I"⟩, "HeatShelves"), ("HeatShelves", 157, ⟨"HeatShelves$State", "countPinned", "()I"⟩, "HeatShelves"), ("HeatShelves", 160, ⟨"HeatShelves$State", "heatOfAll", "()I"⟩, "HeatShelves")]
def x_KF (G : xG) (U : State) : Prop := (∀ (ci : Nat) (q : vw_C), vwCl[ci]? = some q → u_Kn U q.1 q.2.1 q.2.2 (G.2.1 ci) (G.2.2.1 ci)) ∧ (∀ w ∈ x_NTf, va_Nw (.fieldLinkNest w.1 w.2.1 w.2.2.1 w.2.2.2.1 w.2.2.2.2.1 w.2.2.2.2.2) U) ∧ (∀ w ∈ x_NTm, va_Nw (.methodLinkNest w.1 w.2.1 w.2.2.1 w.2.2.2) U) ∧ va_Z "HeatShelves" "FIRST_VALUES" "[I" (.ref G.2.2.2.1) (x_A G) U U.heap ∧ va_Z "HeatShelves" "GREATEST_VALUES" "[I" (.ref G.2.2.2.2) (x_A G) U U.heap ∧ va_AO "HeatShelves$State" U
theorem x_live_lt {N c : Nat} {G : xG} {I : xI} {Rf : xR} {U : State} {H : Heap} (h : x_P G N I Rf U H) (hc : x_live N c) : x_ad G c < H.size := by
  obtain ⟨h1, h2, h3, h4, -⟩ := h
  unfold x_ad
  rcases hc with hc | hc | hc
  · rw [if_neg (by omega), if_neg (by omega)]; omega
  · subst hc; simp; omega
  · subst hc; simp; omega
theorem x_ad_lt {N c : Nat} {G : xG} (hN : N ≤ 94) (hc : c < N) : x_ad G c = G.1 + c := by
  unfold x_ad
  rw [if_neg (by omega), if_neg (by omega)]
theorem x_ad_ne {N c c' : Nat} {G : xG} {I : xI} {Rf : xR} {U : State} {H : Heap} (h : x_P G N I Rf U H) (hc : c < N) (hc' : x_live N c') (hne : c' ≠ c) : x_ad G c' ≠ x_ad G c := by
  obtain ⟨h1, h2, h3, h4, -⟩ := h
  rw [x_ad_lt h1 hc]
  rcases hc' with q | q | q
  · rw [x_ad_lt h1 q]; omega
  · subst q; show (if (100 : Nat) = 100 then _ else _) ≠ _; rw [if_pos rfl]; omega
  · subst q; show (if (101 : Nat) = 100 then _ else if (101 : Nat) = 101 then _ else _) ≠ _; rw [if_neg (by decide), if_pos rfl]; omega
theorem x_cell.kept {G : xG} {I I' : xI} {Rf Rf' : xR} {U : State} {H H' : Heap} {c : Nat} (h : x_cell G I Rf U H c) (hq : H'[x_ad G c]? = H[x_ad G c]?) (hI : I' c = I c) (hR : Rf' c = Rf c) : x_cell G I' Rf' U H' c := by
  obtain ⟨h1, h2, h3⟩ := h
  refine ⟨fun k => ?_, fun k => ?_, fun k => ?_⟩
  · rw [hI]; exact (h1 k).kept hq
  · obtain ⟨cS, a, b⟩ := h2 k
    exact ⟨cS, by rw [hq, hR]; exact a, b⟩
  · have e : x_fv G I' Rf' c (x_sh c).2 = x_fv G I Rf c (x_sh c).2 := by funext j; unfold x_fv; rw [hI, hR]
    rw [e]
    exact (h3 k).kept hq
theorem x_cell.moved {G : xG} {I : xI} {Rf : xR} {u U : State} {H : Heap} {c : Nat} (hvm : u.vm.Alike U.vm) (h : x_cell G I Rf u H c) : x_cell G I Rf U H c := by
  obtain ⟨h1, h2, h3⟩ := h
  refine ⟨fun k => (h1 k).moved hvm, fun k => ?_, h3⟩
  obtain ⟨cS, a, b, d⟩ := h2 k
  exact ⟨cS, a, arrOfT_moved hvm b, d.moved hvm⟩
theorem x_P.moved {G : xG} {N : Nat} {I : xI} {Rf : xR} {u U : State} {H : Heap} (hvm : u.vm.Alike U.vm) (h : x_P G N I Rf u H) : x_P G N I Rf U H := ⟨h.1, h.2.1, h.2.2.1, h.2.2.2.1, fun c hc => (h.2.2.2.2 c hc).moved hvm⟩
theorem x_P.set {G : xG} {N : Nat} {I I' : xI} {Rf Rf' : xR} {U : State} {H H' : Heap} {c : Nat} (h : x_P G N I Rf U H) (hc : c < N) (hI : ∀ c', c' ≠ c → I' c' = I c') (hR : ∀ c', c' ≠ c → Rf' c' = Rf c') (hcell : x_cell G I' Rf' U H' c) (hz : H'.size = H.size) (oq : ∀ q, q ≠ x_ad G c → H'[q]? = H[q]?) : x_P G N I' Rf' U H' := by
  refine ⟨h.1, by rw [hz]; exact h.2.1, h.2.2.1, h.2.2.2.1, fun c' hc' => ?_⟩
  by_cases e : c' = c
  · subst e; exact hcell
  · exact (h.2.2.2.2 c' hc').kept (oq _ (x_ad_ne h hc hc' e)) (hI c' e) (hR c' e)
theorem x_P.push {G : xG} {N : Nat} {I I' : xI} {Rf Rf' : xR} {U : State} {H H' : Heap} (h : x_P G N I Rf U H) (hN : N < 94) (hI : ∀ c', c' ≠ N → I' c' = I c') (hR : ∀ c', c' ≠ N → Rf' c' = Rf c') (hcell : x_cell G I' Rf' U H' N) (hz : H'.size = H.size + 1) (oq : ∀ q, q < H.size → H'[q]? = H[q]?) : x_P G (N + 1) I' Rf' U H' := by
  refine ⟨by omega, by rw [hz, h.2.1]; omega, h.2.2.1, h.2.2.2.1, fun c' hc' => ?_⟩
  by_cases e : c' = N
  · subst e; exact hcell
  · have hl : x_live N c' := by
      rcases hc' with q | q
      · exact Or.inl (by omega)
      · exact Or.inr q
    exact (h.2.2.2.2 c' hl).kept (oq _ (x_live_lt h hl)) (hI c' e) (hR c' e)
def x_up (I : xI) (c j : Nat) (z : Int) : xI := fun c' j' => if c' = c ∧ j' = j then z else I c' j'
def x_upR (R : xR) (c j : Nat) (z : Option Nat) : xR := fun c' j' => if c' = c ∧ j' = j then z else R c' j'
theorem x_up_ne {I : xI} {c j : Nat} {z : Int} {c' : Nat} (h : c' ≠ c) : x_up I c j z c' = I c' := by funext j'; simp [x_up, h]
theorem x_upR_ne {I : xR} {c j : Nat} {z : Option Nat} {c' : Nat} (h : c' ≠ c) : x_upR I c j z c' = I c' := by funext j'; simp [x_upR, h]
/-- the locals: those that hold something known -/
def x_L (G : xG) (nL : Nat) (ls : Array Slot) (L : List (Option xAV)) : Prop := ls.size = nL ∧ lv_wf ls ∧ L.length = nL ∧ ∀ (i : Nat) (a : xAV), L[i]? = some (some a) → ls[i]? = some (.val (x_v G a))
def x_as (G : xG) (L : List (Option xAV)) : List (Nat × Value) := (List.range L.length).filterMap (fun i => match L[i]? with
  | some (some a) => some (i, x_v G a)
  | _ => none)
theorem x_as_mem {G : xG} {L : List (Option xAV)} {i : Nat} {v : Value} : (i, v) ∈ x_as G L ↔ ∃ a, L[i]? = some (some a) ∧ v = x_v G a := by
  unfold x_as
  rw [List.mem_filterMap]
  constructor
  · rintro ⟨j, -, h⟩
    split at h
    · rename_i a e
      cases h
      exact ⟨a, e, rfl⟩
    · cases h
  · rintro ⟨a, e, rfl⟩
    refine ⟨i, List.mem_range.mpr (List.getElem?_eq_some_iff.mp e).1, ?_⟩
    rw [e]
theorem x_L.has {G : xG} {nL : Nat} {ls : Array Slot} {L : List (Option xAV)} (h : x_L G nL ls L) : lv_has ls nL (x_as G L) := by
  refine ⟨h.1, h.2.1, fun q hq => ?_⟩
  obtain ⟨a, e, hv⟩ := x_as_mem.mp (show (q.1, q.2) ∈ x_as G L from hq)
  rw [hv]
  exact h.2.2.2 _ _ e
theorem x_L.stored {G : xG} {nL : Nat} {ls ls' : Array Slot} {L : List (Option xAV)} {i : Nat} {a : xAV} (h : x_L G nL ls L) (hi : i < nL) (h' : lv_has ls' nL ((i, x_v G a) :: (x_as G L).filter (fun q => !(q.1 == i) && !(q.1 + 1 == i && q.2.category == 2)))) : x_L G nL ls' (L.set i (some a)) := by
  refine ⟨h'.1, h'.2.1, by rw [List.length_set]; exact h.2.2.1, fun j b hb => ?_⟩
  by_cases e : j = i
  · subst e
    rw [List.getElem?_set_self (by rw [h.2.2.1]; exact hi)] at hb
    cases hb
    exact h'.2.2 (j, x_v G a) List.mem_cons_self
  · rw [List.getElem?_set_ne (Ne.symm e)] at hb
    refine h'.2.2 (j, x_v G b) (List.mem_cons_of_mem _ (List.mem_filter.mpr ⟨x_as_mem.mpr ⟨b, hb, rfl⟩, ?_⟩))
    simp [e, x_cat]
def x_C (κ : xK) (G : xG) (p : Program) (s : State) (m : MethodId) (args : Array Value) (meth : Method) (c : Code) : Prop :=
  p.tables.exec = Jvm.exec ∧ c.code = κ.2.1 ∧ c.maxLocals = κ.2.2.1 ∧ s.vm.findClass κ.1.cls = some m.cls ∧ (∀ w ∈ xT, w.before args s = true) ∧ x_KF G s ∧ meth.name = κ.1.name ∧ G.1 ≤ s.heap.size
/-- an end of the method: which answer leaves by which instruction -/
def x_ret (κ : xK) (pc : Nat) (ro : Option xAV) (st : List xAV) : Prop :=
  (∃ z : Int, ro = some (ii z) ∧ st = [ii z] ∧ decode κ.2.1 pc = .ok (.ireturn, 1) ∧ (κ.2.2.2 = some .int ∨ (κ.2.2.2 = some .boolean ∧ (z = 0 ∨ z = 1)))) ∨
  (ro = none ∧ st = [] ∧ decode κ.2.1 pc = .ok (.return_, 1) ∧ κ.2.2.2 = none) ∨
  (∃ o : Option Nat, ro = some (.inr o) ∧ st = [.inr o] ∧ decode κ.2.1 pc = .ok (.areturn, 1) ∧ κ.2.2.2 = some (.object "HeatShelves$State"))
def x_end (κ : xK) (G : xG) (p : Program) (l : Launch) (e : Env) (Rm : Room) (s : State) (m : MethodId) (args : Array Value) (below : List Frame) (meth : Method) (c : Code) (mc ms : Nat) (Z : State → Prop) (Q : xQ) : Prop :=
  ∀ (ro : Option xAV) (N : Nat) (I : xI) (Rf : xR) (H : Heap) (locs : List Loc) (cells slots pc : Nat) (ls : Array Slot) (st : List xAV), Q ro N I Rf → x_P G N I Rf s H → va_S (x_A G) s.heap H locs → cells ≤ mc → slots ≤ ms → x_ret κ pc ro st →
    W p l e Rm s m args below meth c H locs cells slots Z (F0 m pc ls (st.map (x_v G)))
/-- the judgement: from here (method κ at pc, locals L, stack st, N cells made, memory I and Rf; d frames and bc cells with bs places left) the method comes to an end with Q -/
def X (κ : xK) (d bc bs pc : Nat) (L : List (Option xAV)) (st : List xAV) (N : Nat) (I : xI) (Rf : xR) (Q : xQ) : Prop :=
  ∀ ⦃G : xG⦄ ⦃p : Program⦄ ⦃l : Launch⦄ ⦃e : Env⦄ ⦃Rm : Room⦄ ⦃s : State⦄ ⦃m : MethodId⦄ ⦃args : Array Value⦄ ⦃below : List Frame⦄ ⦃meth : Method⦄ ⦃c : Code⦄ ⦃H : Heap⦄ ⦃locs : List Loc⦄ ⦃cells slots mc ms : Nat⦄ ⦃ls : Array Slot⦄ ⦃Z : State → Prop⦄,
    x_C κ G p s m args meth c → d ≤ Rm.frames → 39 * d ≤ Rm.locals → mc ≤ Rm.cells → ms ≤ Rm.slots → x_end κ G p l e Rm s m args below meth c mc ms Z Q → x_P G N I Rf s H → va_S (x_A G) s.heap H locs → cells + bc ≤ mc → slots + bs ≤ ms → x_L G κ.2.2.1 ls L →
    W p l e Rm s m args below meth c H locs cells slots Z (F0 m pc ls (st.map (x_v G)))
def x_room (d mc ms : Nat) : Room := { frames := d, cells := mc, slots := ms, locals := 39 * d }
def x_pre (G : xG) (as : List xAV) (N : Nat) (I : xI) (Rf : xR) : Array Value → State → Prop := fun v U => v = (as.map (x_v G)).toArray ∧ x_P G N I Rf U U.heap ∧ x_KF G U ∧ G.1 ≤ U.heap.size
def x_post (G : xG) (Q : xQ) : Array Value → State → Outcome → State → Prop := fun _ st o t => (∃ (ro : Option xAV) (N : Nat) (I : xI) (Rf : xR), o = .returned (ro.map (x_v G)) ∧ Q ro N I Rf ∧ x_P G N I Rf t t.heap) ∧ va_F (x_A G) st t
def x_ws (κ : xK) : List Cond := .code κ.1 κ.2.1 κ.2.2.1 κ.2.2.2 :: xT
/-- a method's contract: called with 'as' in memory (N, I, Rf) it returns, and Q holds of the answer and the memory -/
def Sp (κ : xK) (d mc ms : Nat) (as : List xAV) (N : Nat) (I : xI) (Rf : xR) (Q : xQ) : Prop :=
  ∀ (G : xG) (l : Launch), Met l κ.1 (x_ws κ) (x_room d mc ms) (x_pre G as N I Rf) (x_post G Q) mc ms (x_A G)
end
section
theorem x_sh_lt (c : Nat) : (x_sh c).2 < 1000 := by
  unfold x_sh
  split
  · decide
  · rw [List.getD_eq_getElem?_getD]
    cases h : x_shL[c]? with
    | none => decide
    | some q =>
      have hm := List.mem_of_getElem? h
      have ha : ∀ q ∈ x_shL, q.2 < 1000 := by decide
      exact ha q hm
/-- what a getfield, putfield, getstatic, a call needs of the tables -/
def x_GF (own : String) (idx ci k : Nat) : Prop := ∃ (C : String) (T : u_T) (Nf : Nat), vwCl[ci]? = some (C, T, Nf) ∧ x_nf ci = Nf ∧ k < Nf ∧ (∀ w ∈ u_ws C T Nf, w ∈ xT) ∧ (Cond.fieldLink own idx (T k).1 (T k).2.1 (T k).2.2.1 ∈ xT ∨ ∃ host, (own, idx, (T k).1, (T k).2.1, (T k).2.2.1, host) ∈ x_NTf)
def x_PF (own : String) (idx ci k : Nat) (ty : FieldType) (fin : Bool) : Prop := ∃ (C : String) (T : u_T) (Nf : Nat) (ty0 : Nat → FieldType), vwCl[ci]? = some (C, T, Nf) ∧ x_nf ci = Nf ∧ k < Nf ∧ (∀ w ∈ u_ws C T Nf, w ∈ xT) ∧ Cond.fieldLink own idx (T k).1 (T k).2.1 (T k).2.2.1 ∈ xT ∧ (∀ j, j < Nf → parseFieldDescriptor (T j).2.2.1 = some (ty0 j)) ∧ (∀ a, a < Nf → ∀ b, b < Nf → a ≠ b → (T a).2.1 ≠ (T b).2.1) ∧ (T k).2.2.2 = fin ∧ ty0 k = ty ∧ (T k).1 = own
def x_GS (own : String) (idx : Nat) (nm : String) : Prop := Cond.fieldLink own idx "HeatShelves" nm "[I" ∈ xT ∨ ∃ host, (own, idx, "HeatShelves", nm, "[I", host) ∈ x_NTf
def x_lnk (own : String) (idx : Nat) (κ : xK) : Prop := Cond.methodLink own idx κ.1 ∈ xT ∨ ∃ host, (own, idx, κ.1, host) ∈ x_NTm
def x_cal (κ : xK) (n : Nat) : Prop := Cond.code κ.1 κ.2.1 κ.2.2.1 κ.2.2.2 ∈ xT ∧ Cond.initialized κ.1.cls ∈ xT ∧ (κ.1.cls ≠ "java/lang/invoke/MethodHandle" ∧ κ.1.cls ≠ "java/lang/invoke/VarHandle" ∧ (parseMethodDescriptor κ.1.desc).map (fun d => d.parameters.length) = some n) ∧ κ.2.2.1 ≤ 20
def x_CV (own : String) (idx : Nat) (κ : xK) (n ci : Nat) : Prop := x_lnk own idx κ ∧ x_cal κ n ∧ Cond.instanceMethod κ.1 ∈ xT ∧ Cond.selects κ.1.cls κ.1 κ.1 ∈ xT ∧ ∃ T Nf, vwCl[ci]? = some (κ.1.cls, T, Nf)
def x_CS (own : String) (idx : Nat) (κ : xK) (n : Nat) : Prop := x_lnk own idx κ ∧ x_cal κ n ∧ Cond.static κ.1 ∈ xT
def x_CC (own : String) (idx : Nat) (κ : xK) (n : Nat) : Prop := x_lnk own idx κ ∧ x_cal κ n ∧ Cond.instanceMethod κ.1 ∈ xT ∧ κ.1.name = "<init>" ∧ κ.2.2.2 = none
def x_cp (I : xI) (c0 c1 n : Nat) : xI := fun c j => if c = c1 ∧ j < n then I c0 j else I c j
def x_z (I : xI) (N : Nat) : xI := fun c j => if c = N then 0 else I c j
def x_zR (Rf : xR) (N : Nat) : xR := fun c j => if c = N then none else Rf c j
theorem xw_min_static : Cond.static Lib.Math.min.name ∈ xT := xT_of (List.mem_append_right _ (List.mem_of_getElem? (i := 29) rfl)) rfl
theorem xw_min_code : Cond.code Lib.Math.min.name Lib.Math.min.code 2 (some .int) ∈ xT := xT_of (List.mem_append_right _ (List.mem_of_getElem? (i := 30) rfl)) rfl
theorem xw_max_static : Cond.static Lib.Math.max.name ∈ xT := xT_of (List.mem_append_right _ (List.mem_of_getElem? (i := 233) rfl)) rfl
theorem xw_max_code : Cond.code Lib.Math.max.name Lib.Math.max.code 2 (some .int) ∈ xT := xT_of (List.mem_append_right _ (List.mem_of_getElem? (i := 234) rfl)) rfl
theorem xw_abs_static : Cond.static Lib.Math.abs.name ∈ xT := xT_of (List.mem_append_right _ (List.mem_of_getElem? (i := 320) rfl)) rfl
theorem xw_abs_code : Cond.code Lib.Math.abs.name Lib.Math.abs.code 1 (some .int) ∈ xT := xT_of (List.mem_append_right _ (List.mem_of_getElem? (i := 321) rfl)) rfl
theorem xw_math_init : Cond.initialized "java/lang/Math" ∈ xT := xT_of (List.mem_append_right _ (List.mem_of_getElem? (i := 3) rfl)) rfl
theorem xw_sys_init : Cond.initialized "java/lang/System" ∈ xT := xT_of (List.mem_append_right _ (List.mem_of_getElem? (i := 4) rfl)) rfl
theorem xw_acp_native : Cond.native arraycopyName ∈ xT := xT_of (List.mem_append_right _ (List.mem_of_getElem? (i := 33) rfl)) rfl
theorem xw_acp_static : Cond.static arraycopyName ∈ xT := xT_of (List.mem_append_right _ (List.mem_of_getElem? (i := 32) rfl)) rfl
theorem xw_obj_inst : Cond.instanceMethod Lib.objectInit ∈ xT := xT_of (List.mem_append_right _ (List.mem_of_getElem? (i := 15) rfl)) rfl
theorem xw_obj_code : Cond.code Lib.objectInit ⟨#[0xb1]⟩ 1 none ∈ xT := xT_of (List.mem_append_right _ (List.mem_of_getElem? (i := 16) rfl)) rfl
theorem xw_arr_int : Cond.arrayClass (newarray.typeOf .int) ∈ xT := xT_of (List.mem_append_right _ (List.mem_of_getElem? (i := 81) rfl)) rfl
/-! numbers -/
theorem x_ti {z : Int} (h : -2147483648 ≤ z ∧ z ≤ 2147483647) : (Int32.ofInt z).toInt = z := Int32.toInt_ofInt_of_le (by omega) (by omega)
theorem x_lt {a b : Int} (ha : -2147483648 ≤ a ∧ a ≤ 2147483647) (hb : -2147483648 ≤ b ∧ b ≤ 2147483647) : Int32.ofInt a < Int32.ofInt b ↔ a < b := by rw [Int32.lt_iff_toInt_lt, x_ti ha, x_ti hb]
theorem x_le {a b : Int} (ha : -2147483648 ≤ a ∧ a ≤ 2147483647) (hb : -2147483648 ≤ b ∧ b ≤ 2147483647) : Int32.ofInt a ≤ Int32.ofInt b ↔ a ≤ b := by rw [Int32.le_iff_toInt_le, x_ti ha, x_ti hb]
theorem x_eq {a b : Int} (ha : -2147483648 ≤ a ∧ a ≤ 2147483647) (hb : -2147483648 ≤ b ∧ b ≤ 2147483647) : Int32.ofInt a = Int32.ofInt b ↔ a = b := by rw [← Int32.toInt_inj, x_ti ha, x_ti hb]
theorem x_zero : (0 : Int32) = Int32.ofInt 0 := rfl
theorem x_in {i : Int} {n : Nat} (h : 0 ≤ i ∧ i < n) (hn : n < 2147483648) : vp_in (Int32.ofInt i) n := by
  rw [vp_in_iff, x_ti (by omega)]
  exact h
theorem x_cl {i : Int} (h : 0 ≤ i ∧ i ≤ 2147483647) : (Int32.ofInt i).toNatClampNeg = i.toNat := Int32.toNatClampNeg_ofInt_of_le (by omega) (by omega)
theorem x_bi {n : Int} (h : -128 ≤ n ∧ n ≤ 127) : (Int8.ofInt n).toInt32 = Int32.ofInt n := by
  rw [← Int32.toInt_inj, Int8.toInt_toInt32, Int8.toInt_ofInt_of_le (by omega) (by omega), x_ti (by omega)]
theorem x_si {n : Int} (h : -32768 ≤ n ∧ n ≤ 32767) : (Int16.ofInt n).toInt32 = Int32.ofInt n := by
  rw [← Int32.toInt_inj, Int16.toInt_toInt32, Int16.toInt_ofInt_of_le (by omega) (by omega), x_ti (by omega)]
theorem x_nI (n : Nat) : nI n = Int32.ofInt (n : Int) := (Int32.ofInt_eq_ofNat).symm
theorem x_div {a b : Int} (ha : 0 ≤ a ∧ a ≤ 2147483647) (hb : 0 < b ∧ b ≤ 2147483647) : Int32.ofInt a / Int32.ofInt b = Int32.ofInt (a / b) := by
  obtain ⟨n, rfl⟩ := Int.eq_ofNat_of_zero_le ha.1
  obtain ⟨k, rfl⟩ := Int.eq_ofNat_of_zero_le (by omega : 0 ≤ b)
  have h := pk_div (a := n) (d := k) (by omega) (by omega) (by omega)
  rw [x_nI, x_nI, x_nI] at h
  rw [h]
  rfl
theorem x_rem {a b : Int} (ha : 0 ≤ a ∧ a ≤ 2147483647) (hb : 0 < b ∧ b ≤ 2147483647) : Int32.ofInt a - Int32.ofInt a / Int32.ofInt b * Int32.ofInt b = Int32.ofInt (a % b) := by
  obtain ⟨n, rfl⟩ := Int.eq_ofNat_of_zero_le ha.1
  obtain ⟨k, rfl⟩ := Int.eq_ofNat_of_zero_le (by omega : 0 ≤ b)
  have h := pk_rem (a := n) (d := k) (by omega) (by omega) (by omega)
  rw [x_nI, x_nI, x_nI] at h
  rw [h]
  rfl
theorem x_bits (z : Int) : ((Int32.ofInt z).toBitVec.toNat : Int) = z % 4294967296 := by
  have h : (Int32.ofInt z).toBitVec = BitVec.ofInt 32 z := rfl
  rw [h, BitVec.toNat_ofInt]
  omega
theorem x_char (z : Int) : ((Int32.ofInt z).toUInt32 % 65536).toInt32 = Int32.ofInt (z % 65536) := by
  rw [pk_char, x_nI]
  have h := x_bits z
  congr 1
  omega
theorem x_and31 (z : Int) : Int32.ofInt z &&& 31 = Int32.ofInt (z % 32) := by
  rw [pk_and (Int32.ofInt z) 5 (by decide), x_nI]
  have h := x_bits z
  congr 1
  omega
/-! the rules: one an instruction -/
section XR
variable {κ : xK} {d bc bs pc : Nat} {L : List (Option xAV)} {st : List xAV} {N : Nat} {I : xI} {Rf : xR} {Q : xQ}
theorem X_iconst {n : Int} (hd : decode κ.2.1 pc = .ok (.iconst n, 1)) (kk : X κ d bc bs (pc + 1) L (ii n :: st) N I Rf Q) : X κ d bc bs pc L st N I Rf Q := by
  intro G p l e Rm s m args below meth c H locs cells slots mc ms ls Z hC h1 h2 h3 h4 hE hP hS h5 h6 hL
  exact lv_iconst (v := Int32.ofInt n) hC.1 hC.2.1 hd rfl (kk hC h1 h2 h3 h4 hE hP hS h5 h6 hL)
theorem X_bipush {n : Int} (hd : decode κ.2.1 pc = .ok (.bipush n, 2)) (hn : -128 ≤ n ∧ n ≤ 127) (kk : X κ d bc bs (pc + 2) L (ii n :: st) N I Rf Q) : X κ d bc bs pc L st N I Rf Q := by
  intro G p l e Rm s m args below meth c H locs cells slots mc ms ls Z hC h1 h2 h3 h4 hE hP hS h5 h6 hL
  exact lv_bipush (v := Int32.ofInt n) hC.1 hC.2.1 hd (x_bi hn) (kk hC h1 h2 h3 h4 hE hP hS h5 h6 hL)
theorem X_sipush {n : Int} (hd : decode κ.2.1 pc = .ok (.sipush n, 3)) (hn : -32768 ≤ n ∧ n ≤ 32767) (kk : X κ d bc bs (pc + 3) L (ii n :: st) N I Rf Q) : X κ d bc bs pc L st N I Rf Q := by
  intro G p l e Rm s m args below meth c H locs cells slots mc ms ls Z hC h1 h2 h3 h4 hE hP hS h5 h6 hL
  exact lv_sipush (v := Int32.ofInt n) hC.1 hC.2.1 hd (x_si hn) (kk hC h1 h2 h3 h4 hE hP hS h5 h6 hL)
theorem X_ldc {own : String} {index : Nat} {v : Int32} {z : Int} (hd : decode κ.2.1 pc = .ok (.ldc index, 2)) (ho : κ.1.cls = own) (hw : Cond.constant own index v ∈ xT) (hv : v = Int32.ofInt z) (kk : X κ d bc bs (pc + 2) L (ii z :: st) N I Rf Q) : X κ d bc bs pc L st N I Rf Q := by
  intro G p l e Rm s m args below meth c H locs cells slots mc ms ls Z hC h1 h2 h3 h4 hE hP hS h5 h6 hL
  subst hv; subst ho
  exact lv_ldc (v := Int32.ofInt z) hC.1 hC.2.1 hC.2.2.2.1 (hC.2.2.2.2.1 _ hw) hd (kk hC h1 h2 h3 h4 hE hP hS h5 h6 hL)
theorem X_iload {k : Fin 4} {z : Int} (hd : decode κ.2.1 pc = .ok (.iload_n k, 1)) (hl : L[(k : Nat)]? = some (some (ii z))) (kk : X κ d bc bs (pc + 1) L (ii z :: st) N I Rf Q) : X κ d bc bs pc L st N I Rf Q := by
  intro G p l e Rm s m args below meth c H locs cells slots mc ms ls Z hC h1 h2 h3 h4 hE hP hS h5 h6 hL
  exact lv_iload_n (x := Int32.ofInt z) hC.1 hC.2.1 hd rfl (hL.2.2.2 _ _ hl) (kk hC h1 h2 h3 h4 hE hP hS h5 h6 hL)
theorem X_iloadW {k : Nat} {z : Int} (hd : decode κ.2.1 pc = .ok (.iload k, 2)) (hl : L[k]? = some (some (ii z))) (kk : X κ d bc bs (pc + 2) L (ii z :: st) N I Rf Q) : X κ d bc bs pc L st N I Rf Q := by
  intro G p l e Rm s m args below meth c H locs cells slots mc ms ls Z hC h1 h2 h3 h4 hE hP hS h5 h6 hL
  exact lv_iload (x := Int32.ofInt z) hC.1 hC.2.1 hd (hL.2.2.2 _ _ hl) (kk hC h1 h2 h3 h4 hE hP hS h5 h6 hL)
theorem X_aload {k : Fin 4} {z : Nat} (hd : decode κ.2.1 pc = .ok (.aload_n k, 1)) (hl : L[(k : Nat)]? = some (some (rr z))) (kk : X κ d bc bs (pc + 1) L (rr z :: st) N I Rf Q) : X κ d bc bs pc L st N I Rf Q := by
  intro G p l e Rm s m args below meth c H locs cells slots mc ms ls Z hC h1 h2 h3 h4 hE hP hS h5 h6 hL
  exact lv_aload_n (x := x_ad G z) hC.1 hC.2.1 hd rfl (hL.2.2.2 _ _ hl) (kk hC h1 h2 h3 h4 hE hP hS h5 h6 hL)
theorem X_istore {k : Fin 4} {z : Int} (hd : decode κ.2.1 pc = .ok (.istore_n k, 1)) (hk : (k : Nat) < κ.2.2.1) (kk : X κ d bc bs (pc + 1) (L.set (k : Nat) (some (ii z))) st N I Rf Q) : X κ d bc bs pc L (ii z :: st) N I Rf Q := by
  intro G p l e Rm s m args below meth c H locs cells slots mc ms ls Z hC h1 h2 h3 h4 hE hP hS h5 h6 hL
  exact lv_istore_n (x := Int32.ofInt z) hC.1 hC.2.1 hd rfl hL.has hk rfl (fun ls' h' => kk hC h1 h2 h3 h4 hE hP hS h5 h6 (hL.stored (a := ii z) hk h'))
theorem X_istoreW {k : Nat} {z : Int} (hd : decode κ.2.1 pc = .ok (.istore k, 2)) (hk : k < κ.2.2.1) (kk : X κ d bc bs (pc + 2) (L.set k (some (ii z))) st N I Rf Q) : X κ d bc bs pc L (ii z :: st) N I Rf Q := by
  intro G p l e Rm s m args below meth c H locs cells slots mc ms ls Z hC h1 h2 h3 h4 hE hP hS h5 h6 hL
  exact lv_istore (x := Int32.ofInt z) hC.1 hC.2.1 hd hL.has hk rfl (fun ls' h' => kk hC h1 h2 h3 h4 hE hP hS h5 h6 (hL.stored (a := ii z) hk h'))
theorem X_astore {k : Fin 4} {z : Nat} (hd : decode κ.2.1 pc = .ok (.astore_n k, 1)) (hk : (k : Nat) < κ.2.2.1) (kk : X κ d bc bs (pc + 1) (L.set (k : Nat) (some (rr z))) st N I Rf Q) : X κ d bc bs pc L (rr z :: st) N I Rf Q := by
  intro G p l e Rm s m args below meth c H locs cells slots mc ms ls Z hC h1 h2 h3 h4 hE hP hS h5 h6 hL
  exact lv_astore_n (x := x_ad G z) hC.1 hC.2.1 hd rfl hL.has hk rfl (fun ls' h' => kk hC h1 h2 h3 h4 hE hP hS h5 h6 (hL.stored (a := rr z) hk h'))
theorem X_iinc {k : Nat} {n z : Int} (hd : decode κ.2.1 pc = .ok (.iinc k n, 3)) (hl : L[k]? = some (some (ii z))) (kk : X κ d bc bs (pc + 3) (L.set k (some (ii (z + n)))) st N I Rf Q) : X κ d bc bs pc L st N I Rf Q := by
  intro G p l e Rm s m args below meth c H locs cells slots mc ms ls Z hC h1 h2 h3 h4 hE hP hS h5 h6 hL
  have hk : k < κ.2.2.1 := by rw [← hL.2.2.1]; exact (List.getElem?_eq_some_iff.mp hl).1
  obtain ⟨j, hj⟩ := List.getElem?_of_mem (x_as_mem (G := G).mpr ⟨_, hl, rfl⟩)
  exact lv_iinc (x := Int32.ofInt z) (v := Int32.ofInt (z + n)) hC.1 hC.2.1 hd hL.has hj (Int32.ofInt_add z n).symm hk rfl (fun ls' h' => kk hC h1 h2 h3 h4 hE hP hS h5 h6 (hL.stored (a := ii (z + n)) hk h'))
theorem X_iincW {k : Nat} {n z : Int} (hd : decode κ.2.1 pc = .ok (.iinc k n, 6)) (hl : L[k]? = some (some (ii z))) (kk : X κ d bc bs (pc + 6) (L.set k (some (ii (z + n)))) st N I Rf Q) : X κ d bc bs pc L st N I Rf Q := by
  intro G p l e Rm s m args below meth c H locs cells slots mc ms ls Z hC h1 h2 h3 h4 hE hP hS h5 h6 hL
  have hk : k < κ.2.2.1 := by rw [← hL.2.2.1]; exact (List.getElem?_eq_some_iff.mp hl).1
  obtain ⟨j, hj⟩ := List.getElem?_of_mem (x_as_mem (G := G).mpr ⟨_, hl, rfl⟩)
  exact lv_iincW (x := Int32.ofInt z) (v := Int32.ofInt (z + n)) hC.1 hC.2.1 hd hL.has hj (Int32.ofInt_add z n).symm hk rfl (fun ls' h' => kk hC h1 h2 h3 h4 hE hP hS h5 h6 (hL.stored (a := ii (z + n)) hk h'))
theorem X_iadd {a b : Int} (hd : decode κ.2.1 pc = .ok (.iadd, 1)) (kk : X κ d bc bs (pc + 1) L (ii (a + b) :: st) N I Rf Q) : X κ d bc bs pc L (ii b :: ii a :: st) N I Rf Q := by
  intro G p l e Rm s m args below meth c H locs cells slots mc ms ls Z hC h1 h2 h3 h4 hE hP hS h5 h6 hL
  refine lv_iadd (x := Int32.ofInt a) (y := Int32.ofInt b) hC.1 hC.2.1 hd ?_
  rw [← Int32.ofInt_add]
  exact kk hC h1 h2 h3 h4 hE hP hS h5 h6 hL
theorem X_isub {a b : Int} (hd : decode κ.2.1 pc = .ok (.isub, 1)) (kk : X κ d bc bs (pc + 1) L (ii (a - b) :: st) N I Rf Q) : X κ d bc bs pc L (ii b :: ii a :: st) N I Rf Q := by
  intro G p l e Rm s m args below meth c H locs cells slots mc ms ls Z hC h1 h2 h3 h4 hE hP hS h5 h6 hL
  refine lv_isub (x := Int32.ofInt a) (y := Int32.ofInt b) hC.1 hC.2.1 hd ?_
  rw [← Int32.ofInt_sub]
  exact kk hC h1 h2 h3 h4 hE hP hS h5 h6 hL
theorem X_imul {a b : Int} (hd : decode κ.2.1 pc = .ok (.imul, 1)) (kk : X κ d bc bs (pc + 1) L (ii (a * b) :: st) N I Rf Q) : X κ d bc bs pc L (ii b :: ii a :: st) N I Rf Q := by
  intro G p l e Rm s m args below meth c H locs cells slots mc ms ls Z hC h1 h2 h3 h4 hE hP hS h5 h6 hL
  refine lv_imul (x := Int32.ofInt a) (y := Int32.ofInt b) hC.1 hC.2.1 hd ?_
  rw [← Int32.ofInt_mul]
  exact kk hC h1 h2 h3 h4 hE hP hS h5 h6 hL
theorem X_ineg {a : Int} (hd : decode κ.2.1 pc = .ok (.ineg, 1)) (kk : X κ d bc bs (pc + 1) L (ii (-a) :: st) N I Rf Q) : X κ d bc bs pc L (ii a :: st) N I Rf Q := by
  intro G p l e Rm s m args below meth c H locs cells slots mc ms ls Z hC h1 h2 h3 h4 hE hP hS h5 h6 hL
  refine lv_ineg (x := Int32.ofInt a) hC.1 hC.2.1 hd ?_
  rw [← Int32.ofInt_neg]
  exact kk hC h1 h2 h3 h4 hE hP hS h5 h6 hL
theorem X_iand31 {a : Int} (hd : decode κ.2.1 pc = .ok (.iand, 1)) (kk : X κ d bc bs (pc + 1) L (ii (a % 32) :: st) N I Rf Q) : X κ d bc bs pc L (ii 31 :: ii a :: st) N I Rf Q := by
  intro G p l e Rm s m args below meth c H locs cells slots mc ms ls Z hC h1 h2 h3 h4 hE hP hS h5 h6 hL
  refine lv_iand (x := Int32.ofInt a) (y := Int32.ofInt 31) hC.1 hC.2.1 hd ?_
  rw [show Int32.ofInt a &&& Int32.ofInt 31 = Int32.ofInt (a % 32) from x_and31 a]
  exact kk hC h1 h2 h3 h4 hE hP hS h5 h6 hL
theorem X_idiv {a b : Int} (hd : decode κ.2.1 pc = .ok (.idiv, 1)) (ha : 0 ≤ a ∧ a ≤ 2147483647) (hb : 0 < b ∧ b ≤ 2147483647) (kk : X κ d bc bs (pc + 1) L (ii (a / b) :: st) N I Rf Q) : X κ d bc bs pc L (ii b :: ii a :: st) N I Rf Q := by
  intro G p l e Rm s m args below meth c H locs cells slots mc ms ls Z hC h1 h2 h3 h4 hE hP hS h5 h6 hL
  refine lv_idiv (x := Int32.ofInt a) (y := Int32.ofInt b) hC.1 hC.2.1 hd (by rw [x_zero, x_eq (by omega) (by omega)]; omega) ?_
  rw [x_div ha hb]
  exact kk hC h1 h2 h3 h4 hE hP hS h5 h6 hL
theorem X_irem {a b : Int} (hd : decode κ.2.1 pc = .ok (.irem, 1)) (ha : 0 ≤ a ∧ a ≤ 2147483647) (hb : 0 < b ∧ b ≤ 2147483647) (kk : X κ d bc bs (pc + 1) L (ii (a % b) :: st) N I Rf Q) : X κ d bc bs pc L (ii b :: ii a :: st) N I Rf Q := by
  intro G p l e Rm s m args below meth c H locs cells slots mc ms ls Z hC h1 h2 h3 h4 hE hP hS h5 h6 hL
  refine lv_irem (x := Int32.ofInt a) (y := Int32.ofInt b) hC.1 hC.2.1 hd (by rw [x_zero, x_eq (by omega) (by omega)]; omega) ?_
  rw [x_rem ha hb]
  exact kk hC h1 h2 h3 h4 hE hP hS h5 h6 hL
theorem X_i2c {a : Int} (hd : decode κ.2.1 pc = .ok (.i2c, 1)) (kk : X κ d bc bs (pc + 1) L (ii (a % 65536) :: st) N I Rf Q) : X κ d bc bs pc L (ii a :: st) N I Rf Q := by
  intro G p l e Rm s m args below meth c H locs cells slots mc ms ls Z hC h1 h2 h3 h4 hE hP hS h5 h6 hL
  exact lv_i2c (x := Int32.ofInt a) (v := Int32.ofInt (a % 65536)) hC.1 hC.2.1 hd (x_char a) (kk hC h1 h2 h3 h4 hE hP hS h5 h6 hL)
theorem X_dup {a : xAV} (hd : decode κ.2.1 pc = .ok (.dup, 1)) (kk : X κ d bc bs (pc + 1) L (a :: a :: st) N I Rf Q) : X κ d bc bs pc L (a :: st) N I Rf Q := by
  intro G p l e Rm s m args below meth c H locs cells slots mc ms ls Z hC h1 h2 h3 h4 hE hP hS h5 h6 hL
  exact lv_dup (va := x_v G a) hC.1 hC.2.1 hd (x_cat G a) (kk hC h1 h2 h3 h4 hE hP hS h5 h6 hL)
theorem X_dup2 {a b : xAV} (hd : decode κ.2.1 pc = .ok (.dup2, 1)) (kk : X κ d bc bs (pc + 1) L (a :: b :: a :: b :: st) N I Rf Q) : X κ d bc bs pc L (a :: b :: st) N I Rf Q := by
  intro G p l e Rm s m args below meth c H locs cells slots mc ms ls Z hC h1 h2 h3 h4 hE hP hS h5 h6 hL
  exact lv_dup2_11 (va := x_v G a) (vb := x_v G b) hC.1 hC.2.1 hd (x_cat G a) (x_cat G b) (kk hC h1 h2 h3 h4 hE hP hS h5 h6 hL)
theorem X_pop {a : xAV} (hd : decode κ.2.1 pc = .ok (.pop, 1)) (kk : X κ d bc bs (pc + 1) L st N I Rf Q) : X κ d bc bs pc L (a :: st) N I Rf Q := by
  intro G p l e Rm s m args below meth c H locs cells slots mc ms ls Z hC h1 h2 h3 h4 hE hP hS h5 h6 hL
  exact lv_pop (va := x_v G a) hC.1 hC.2.1 hd (x_cat G a) (kk hC h1 h2 h3 h4 hE hP hS h5 h6 hL)
theorem X_goto {off : Int} {tgt : Nat} (hd : decode κ.2.1 pc = .ok (.goto off, 3)) (ht : (pc : Int) + off = (tgt : Int)) (kk : X κ d bc bs tgt L st N I Rf Q) : X κ d bc bs pc L st N I Rf Q := by
  intro G p l e Rm s m args below meth c H locs cells slots mc ms ls Z hC h1 h2 h3 h4 hE hP hS h5 h6 hL
  exact lv_goto hC.1 hC.2.1 hd ht (kk hC h1 h2 h3 h4 hE hP hS h5 h6 hL)
theorem X_null (hd : decode κ.2.1 pc = .ok (.aconst_null, 1)) (kk : X κ d bc bs (pc + 1) L (.inr none :: st) N I Rf Q) : X κ d bc bs pc L st N I Rf Q := by
  intro G p l e Rm s m args below meth c H locs cells slots mc ms ls Z hC h1 h2 h3 h4 hE hP hS h5 h6 hL
  exact lv_null hC.1 hC.2.1 hd (kk hC h1 h2 h3 h4 hE hP hS h5 h6 hL)
theorem X_ifnonnull {z : Nat} {off : Int} {tgt : Nat} (hd : decode κ.2.1 pc = .ok (.ifnonnull off, 3)) (ht : (pc : Int) + off = (tgt : Int)) (kk : X κ d bc bs tgt L st N I Rf Q) : X κ d bc bs pc L (rr z :: st) N I Rf Q := by
  intro G p l e Rm s m args below meth c H locs cells slots mc ms ls Z hC h1 h2 h3 h4 hE hP hS h5 h6 hL
  exact lv_ifnonnull (x := x_ad G z) hC.1 hC.2.1 hd ht (kk hC h1 h2 h3 h4 hE hP hS h5 h6 hL)
theorem X_ifnull {z : Nat} {off : Int} (hd : decode κ.2.1 pc = .ok (.ifnull off, 3)) (kk : X κ d bc bs (pc + 3) L st N I Rf Q) : X κ d bc bs pc L (rr z :: st) N I Rf Q := by
  intro G p l e Rm s m args below meth c H locs cells slots mc ms ls Z hC h1 h2 h3 h4 hE hP hS h5 h6 hL
  exact lv_ifnull (x := x_ad G z) hC.1 hC.2.1 hd (kk hC h1 h2 h3 h4 hE hP hS h5 h6 hL)
theorem X_icmp_eq {a b off : Int} {tgt : Nat} (hd : decode κ.2.1 pc = .ok (.if_icmp .eq off, 3)) (ht : (pc : Int) + off = (tgt : Int)) (hr : (-2147483648 ≤ a ∧ a ≤ 2147483647) ∧ (-2147483648 ≤ b ∧ b ≤ 2147483647)) (kt : a = b → X κ d bc bs tgt L st N I Rf Q) (kf : ¬ a = b → X κ d bc bs (pc + 3) L st N I Rf Q) : X κ d bc bs pc L (ii b :: ii a :: st) N I Rf Q := by
  intro G p l e Rm s m args below meth c H locs cells slots mc ms ls Z hC h1 h2 h3 h4 hE hP hS h5 h6 hL
  exact lv_icmp_eq (x := Int32.ofInt a) (y := Int32.ofInt b) hC.1 hC.2.1 hd ht (fun q => kt ((x_eq hr.1 hr.2).mp q) hC h1 h2 h3 h4 hE hP hS h5 h6 hL) (fun q => kf (fun z => q ((x_eq hr.1 hr.2).mpr z)) hC h1 h2 h3 h4 hE hP hS h5 h6 hL)
theorem X_if_eq {a off : Int} {tgt : Nat} (hd : decode κ.2.1 pc = .ok (.ifCond .eq off, 3)) (ht : (pc : Int) + off = (tgt : Int)) (ha : -2147483648 ≤ a ∧ a ≤ 2147483647) (kt : a = 0 → X κ d bc bs tgt L st N I Rf Q) (kf : ¬ a = 0 → X κ d bc bs (pc + 3) L st N I Rf Q) : X κ d bc bs pc L (ii a :: st) N I Rf Q := by
  intro G p l e Rm s m args below meth c H locs cells slots mc ms ls Z hC h1 h2 h3 h4 hE hP hS h5 h6 hL
  have hr : (-2147483648 ≤ a ∧ a ≤ 2147483647) ∧ (-2147483648 ≤ (0 : Int) ∧ (0 : Int) ≤ 2147483647) := ⟨ha, by omega⟩
  exact lv_if_eq (x := Int32.ofInt a) hC.1 hC.2.1 hd ht (fun q => kt ((x_eq hr.1 hr.2).mp q) hC h1 h2 h3 h4 hE hP hS h5 h6 hL) (fun q => kf (fun z => q ((x_eq hr.1 hr.2).mpr z)) hC h1 h2 h3 h4 hE hP hS h5 h6 hL)
theorem X_icmp_ne {a b off : Int} {tgt : Nat} (hd : decode κ.2.1 pc = .ok (.if_icmp .ne off, 3)) (ht : (pc : Int) + off = (tgt : Int)) (hr : (-2147483648 ≤ a ∧ a ≤ 2147483647) ∧ (-2147483648 ≤ b ∧ b ≤ 2147483647)) (kt : ¬ a = b → X κ d bc bs tgt L st N I Rf Q) (kf : a = b → X κ d bc bs (pc + 3) L st N I Rf Q) : X κ d bc bs pc L (ii b :: ii a :: st) N I Rf Q := by
  intro G p l e Rm s m args below meth c H locs cells slots mc ms ls Z hC h1 h2 h3 h4 hE hP hS h5 h6 hL
  exact lv_icmp_ne (x := Int32.ofInt a) (y := Int32.ofInt b) hC.1 hC.2.1 hd ht (fun q => kt (fun z => q ((x_eq hr.1 hr.2).mpr z)) hC h1 h2 h3 h4 hE hP hS h5 h6 hL) (fun q => kf ((x_eq hr.1 hr.2).mp q) hC h1 h2 h3 h4 hE hP hS h5 h6 hL)
theorem X_if_ne {a off : Int} {tgt : Nat} (hd : decode κ.2.1 pc = .ok (.ifCond .ne off, 3)) (ht : (pc : Int) + off = (tgt : Int)) (ha : -2147483648 ≤ a ∧ a ≤ 2147483647) (kt : ¬ a = 0 → X κ d bc bs tgt L st N I Rf Q) (kf : a = 0 → X κ d bc bs (pc + 3) L st N I Rf Q) : X κ d bc bs pc L (ii a :: st) N I Rf Q := by
  intro G p l e Rm s m args below meth c H locs cells slots mc ms ls Z hC h1 h2 h3 h4 hE hP hS h5 h6 hL
  have hr : (-2147483648 ≤ a ∧ a ≤ 2147483647) ∧ (-2147483648 ≤ (0 : Int) ∧ (0 : Int) ≤ 2147483647) := ⟨ha, by omega⟩
  exact lv_if_ne (x := Int32.ofInt a) hC.1 hC.2.1 hd ht (fun q => kt (fun z => q ((x_eq hr.1 hr.2).mpr z)) hC h1 h2 h3 h4 hE hP hS h5 h6 hL) (fun q => kf ((x_eq hr.1 hr.2).mp q) hC h1 h2 h3 h4 hE hP hS h5 h6 hL)
theorem X_icmp_lt {a b off : Int} {tgt : Nat} (hd : decode κ.2.1 pc = .ok (.if_icmp .lt off, 3)) (ht : (pc : Int) + off = (tgt : Int)) (hr : (-2147483648 ≤ a ∧ a ≤ 2147483647) ∧ (-2147483648 ≤ b ∧ b ≤ 2147483647)) (kt : a < b → X κ d bc bs tgt L st N I Rf Q) (kf : b ≤ a → X κ d bc bs (pc + 3) L st N I Rf Q) : X κ d bc bs pc L (ii b :: ii a :: st) N I Rf Q := by
  intro G p l e Rm s m args below meth c H locs cells slots mc ms ls Z hC h1 h2 h3 h4 hE hP hS h5 h6 hL
  exact lv_icmp_lt (x := Int32.ofInt a) (y := Int32.ofInt b) hC.1 hC.2.1 hd ht (fun q => kt ((x_lt hr.1 hr.2).mp q) hC h1 h2 h3 h4 hE hP hS h5 h6 hL) (fun q => kf (Int.not_lt.mp fun z => q ((x_lt hr.1 hr.2).mpr z)) hC h1 h2 h3 h4 hE hP hS h5 h6 hL)
theorem X_if_lt {a off : Int} {tgt : Nat} (hd : decode κ.2.1 pc = .ok (.ifCond .lt off, 3)) (ht : (pc : Int) + off = (tgt : Int)) (ha : -2147483648 ≤ a ∧ a ≤ 2147483647) (kt : a < 0 → X κ d bc bs tgt L st N I Rf Q) (kf : 0 ≤ a → X κ d bc bs (pc + 3) L st N I Rf Q) : X κ d bc bs pc L (ii a :: st) N I Rf Q := by
  intro G p l e Rm s m args below meth c H locs cells slots mc ms ls Z hC h1 h2 h3 h4 hE hP hS h5 h6 hL
  have hr : (-2147483648 ≤ a ∧ a ≤ 2147483647) ∧ (-2147483648 ≤ (0 : Int) ∧ (0 : Int) ≤ 2147483647) := ⟨ha, by omega⟩
  exact lv_if_lt (x := Int32.ofInt a) hC.1 hC.2.1 hd ht (fun q => kt ((x_lt hr.1 hr.2).mp q) hC h1 h2 h3 h4 hE hP hS h5 h6 hL) (fun q => kf (Int.not_lt.mp fun z => q ((x_lt hr.1 hr.2).mpr z)) hC h1 h2 h3 h4 hE hP hS h5 h6 hL)
theorem X_icmp_ge {a b off : Int} {tgt : Nat} (hd : decode κ.2.1 pc = .ok (.if_icmp .ge off, 3)) (ht : (pc : Int) + off = (tgt : Int)) (hr : (-2147483648 ≤ a ∧ a ≤ 2147483647) ∧ (-2147483648 ≤ b ∧ b ≤ 2147483647)) (kt : b ≤ a → X κ d bc bs tgt L st N I Rf Q) (kf : a < b → X κ d bc bs (pc + 3) L st N I Rf Q) : X κ d bc bs pc L (ii b :: ii a :: st) N I Rf Q := by
  intro G p l e Rm s m args below meth c H locs cells slots mc ms ls Z hC h1 h2 h3 h4 hE hP hS h5 h6 hL
  exact lv_icmp_ge (x := Int32.ofInt a) (y := Int32.ofInt b) hC.1 hC.2.1 hd ht (fun q => kt ((x_le hr.2 hr.1).mp q) hC h1 h2 h3 h4 hE hP hS h5 h6 hL) (fun q => kf (Int.not_le.mp fun z => q ((x_le hr.2 hr.1).mpr z)) hC h1 h2 h3 h4 hE hP hS h5 h6 hL)
theorem X_if_ge {a off : Int} {tgt : Nat} (hd : decode κ.2.1 pc = .ok (.ifCond .ge off, 3)) (ht : (pc : Int) + off = (tgt : Int)) (ha : -2147483648 ≤ a ∧ a ≤ 2147483647) (kt : 0 ≤ a → X κ d bc bs tgt L st N I Rf Q) (kf : a < 0 → X κ d bc bs (pc + 3) L st N I Rf Q) : X κ d bc bs pc L (ii a :: st) N I Rf Q := by
  intro G p l e Rm s m args below meth c H locs cells slots mc ms ls Z hC h1 h2 h3 h4 hE hP hS h5 h6 hL
  have hr : (-2147483648 ≤ a ∧ a ≤ 2147483647) ∧ (-2147483648 ≤ (0 : Int) ∧ (0 : Int) ≤ 2147483647) := ⟨ha, by omega⟩
  exact lv_if_ge (x := Int32.ofInt a) hC.1 hC.2.1 hd ht (fun q => kt ((x_le hr.2 hr.1).mp q) hC h1 h2 h3 h4 hE hP hS h5 h6 hL) (fun q => kf (Int.not_le.mp fun z => q ((x_le hr.2 hr.1).mpr z)) hC h1 h2 h3 h4 hE hP hS h5 h6 hL)
theorem X_icmp_gt {a b off : Int} {tgt : Nat} (hd : decode κ.2.1 pc = .ok (.if_icmp .gt off, 3)) (ht : (pc : Int) + off = (tgt : Int)) (hr : (-2147483648 ≤ a ∧ a ≤ 2147483647) ∧ (-2147483648 ≤ b ∧ b ≤ 2147483647)) (kt : b < a → X κ d bc bs tgt L st N I Rf Q) (kf : a ≤ b → X κ d bc bs (pc + 3) L st N I Rf Q) : X κ d bc bs pc L (ii b :: ii a :: st) N I Rf Q := by
  intro G p l e Rm s m args below meth c H locs cells slots mc ms ls Z hC h1 h2 h3 h4 hE hP hS h5 h6 hL
  exact lv_icmp_gt (x := Int32.ofInt a) (y := Int32.ofInt b) hC.1 hC.2.1 hd ht (fun q => kt ((x_lt hr.2 hr.1).mp q) hC h1 h2 h3 h4 hE hP hS h5 h6 hL) (fun q => kf (Int.not_lt.mp fun z => q ((x_lt hr.2 hr.1).mpr z)) hC h1 h2 h3 h4 hE hP hS h5 h6 hL)
theorem X_if_gt {a off : Int} {tgt : Nat} (hd : decode κ.2.1 pc = .ok (.ifCond .gt off, 3)) (ht : (pc : Int) + off = (tgt : Int)) (ha : -2147483648 ≤ a ∧ a ≤ 2147483647) (kt : 0 < a → X κ d bc bs tgt L st N I Rf Q) (kf : a ≤ 0 → X κ d bc bs (pc + 3) L st N I Rf Q) : X κ d bc bs pc L (ii a :: st) N I Rf Q := by
  intro G p l e Rm s m args below meth c H locs cells slots mc ms ls Z hC h1 h2 h3 h4 hE hP hS h5 h6 hL
  have hr : (-2147483648 ≤ a ∧ a ≤ 2147483647) ∧ (-2147483648 ≤ (0 : Int) ∧ (0 : Int) ≤ 2147483647) := ⟨ha, by omega⟩
  exact lv_if_gt (x := Int32.ofInt a) hC.1 hC.2.1 hd ht (fun q => kt ((x_lt hr.2 hr.1).mp q) hC h1 h2 h3 h4 hE hP hS h5 h6 hL) (fun q => kf (Int.not_lt.mp fun z => q ((x_lt hr.2 hr.1).mpr z)) hC h1 h2 h3 h4 hE hP hS h5 h6 hL)
theorem X_icmp_le {a b off : Int} {tgt : Nat} (hd : decode κ.2.1 pc = .ok (.if_icmp .le off, 3)) (ht : (pc : Int) + off = (tgt : Int)) (hr : (-2147483648 ≤ a ∧ a ≤ 2147483647) ∧ (-2147483648 ≤ b ∧ b ≤ 2147483647)) (kt : a ≤ b → X κ d bc bs tgt L st N I Rf Q) (kf : b < a → X κ d bc bs (pc + 3) L st N I Rf Q) : X κ d bc bs pc L (ii b :: ii a :: st) N I Rf Q := by
  intro G p l e Rm s m args below meth c H locs cells slots mc ms ls Z hC h1 h2 h3 h4 hE hP hS h5 h6 hL
  exact lv_icmp_le (x := Int32.ofInt a) (y := Int32.ofInt b) hC.1 hC.2.1 hd ht (fun q => kt ((x_le hr.1 hr.2).mp q) hC h1 h2 h3 h4 hE hP hS h5 h6 hL) (fun q => kf (Int.not_le.mp fun z => q ((x_le hr.1 hr.2).mpr z)) hC h1 h2 h3 h4 hE hP hS h5 h6 hL)
theorem X_if_le {a off : Int} {tgt : Nat} (hd : decode κ.2.1 pc = .ok (.ifCond .le off, 3)) (ht : (pc : Int) + off = (tgt : Int)) (ha : -2147483648 ≤ a ∧ a ≤ 2147483647) (kt : a ≤ 0 → X κ d bc bs tgt L st N I Rf Q) (kf : 0 < a → X κ d bc bs (pc + 3) L st N I Rf Q) : X κ d bc bs pc L (ii a :: st) N I Rf Q := by
  intro G p l e Rm s m args below meth c H locs cells slots mc ms ls Z hC h1 h2 h3 h4 hE hP hS h5 h6 hL
  have hr : (-2147483648 ≤ a ∧ a ≤ 2147483647) ∧ (-2147483648 ≤ (0 : Int) ∧ (0 : Int) ≤ 2147483647) := ⟨ha, by omega⟩
  exact lv_if_le (x := Int32.ofInt a) hC.1 hC.2.1 hd ht (fun q => kt ((x_le hr.1 hr.2).mp q) hC h1 h2 h3 h4 hE hP hS h5 h6 hL) (fun q => kf (Int.not_le.mp fun z => q ((x_le hr.1 hr.2).mpr z)) hC h1 h2 h3 h4 hE hP hS h5 h6 hL)
theorem X_tswIn {dflt lo hi : Int} {offs : Array Int} {len : Nat} {z v : Int} {off : Int} {tgt : Nat} (hd : decode κ.2.1 pc = .ok (.tableswitch dflt lo hi offs, len)) (hz : z = v) (hv : -2147483648 ≤ v ∧ v ≤ 2147483647) (h1' : ¬ v < lo) (h2' : ¬ hi < v) (ho : offs[(v - lo).toNat]? = some off) (ht : (pc : Int) + off = (tgt : Int)) (kk : X κ d bc bs tgt L st N I Rf Q) : X κ d bc bs pc L (ii z :: st) N I Rf Q := by
  intro G p l e Rm s m args below meth c H locs cells slots mc ms ls Z hC h1 h2 h3 h4 hE hP hS h5 h6 hL
  subst hz
  exact lv_tableIn (x := Int32.ofInt z) hC.1 hC.2.1 hd (by rw [x_ti hv]; exact h1') (by rw [x_ti hv]; exact h2') (by rw [x_ti hv]; exact ho) ht (kk hC h1 h2 h3 h4 hE hP hS h5 h6 hL)
theorem X_tswOut {dflt lo hi : Int} {offs : Array Int} {len : Nat} {z : Int} {tgt : Nat} (hd : decode κ.2.1 pc = .ok (.tableswitch dflt lo hi offs, len)) (hz : -2147483648 ≤ z ∧ z ≤ 2147483647) (h : z < lo ∨ hi < z) (ht : (pc : Int) + dflt = (tgt : Int)) (kk : X κ d bc bs tgt L st N I Rf Q) : X κ d bc bs pc L (ii z :: st) N I Rf Q := by
  intro G p l e Rm s m args below meth c H locs cells slots mc ms ls Z hC h1 h2 h3 h4 hE hP hS h5 h6 hL
  exact lv_tableOut (x := Int32.ofInt z) hC.1 hC.2.1 hd (by rw [x_ti hz]; exact h) ht (kk hC h1 h2 h3 h4 hE hP hS h5 h6 hL)
theorem X_lsw {dflt : Int} {ps : Array (Int × Int)} {len : Nat} {z off : Int} {tgt : Nat} (hd : decode κ.2.1 pc = .ok (.lookupswitch dflt ps, len)) (hp : (ps.toList.zip (ps.toList.drop 1)).all (fun (a, next) => a.1 < next.1) = true) (hz : -2147483648 ≤ z ∧ z ≤ 2147483647) (ho : Op.lookupswitch.offset ps.toList dflt z = off) (ht : (pc : Int) + off = (tgt : Int)) (kk : X κ d bc bs tgt L st N I Rf Q) : X κ d bc bs pc L (ii z :: st) N I Rf Q := by
  intro G p l e Rm s m args below meth c H locs cells slots mc ms ls Z hC h1 h2 h3 h4 hE hP hS h5 h6 hL
  exact lv_lookup (x := Int32.ofInt z) hC.1 hC.2.1 hd hp (by rw [x_ti hz]; exact ho) ht (kk hC h1 h2 h3 h4 hE hP hS h5 h6 hL)
/-! answers -/
theorem X_iret {z : Int} (hd : decode κ.2.1 pc = .ok (.ireturn, 1)) (hr : κ.2.2.2 = some .int ∨ (κ.2.2.2 = some .boolean ∧ (z = 0 ∨ z = 1))) (h : Q (some (ii z)) N I Rf) : X κ d bc bs pc L [ii z] N I Rf Q := by
  intro G p l e Rm s m args below meth c H locs cells slots mc ms ls Z hC h1 h2 h3 h4 hE hP hS h5 h6 hL
  exact hE _ _ _ _ _ _ _ _ _ _ _ h hP hS (by omega) (by omega) (Or.inl ⟨z, rfl, rfl, hd, hr⟩)
theorem X_vret (hd : decode κ.2.1 pc = .ok (.return_, 1)) (hr : κ.2.2.2 = none) (h : Q none N I Rf) : X κ d bc bs pc L [] N I Rf Q := by
  intro G p l e Rm s m args below meth c H locs cells slots mc ms ls Z hC h1 h2 h3 h4 hE hP hS h5 h6 hL
  exact hE _ _ _ _ _ _ _ _ _ _ _ h hP hS (by omega) (by omega) (Or.inr (Or.inl ⟨rfl, rfl, hd, hr⟩))
theorem X_aret {o : Option Nat} (hd : decode κ.2.1 pc = .ok (.areturn, 1)) (hr : κ.2.2.2 = some (.object "HeatShelves$State")) (h : Q (some (.inr o)) N I Rf) : X κ d bc bs pc L [.inr o] N I Rf Q := by
  intro G p l e Rm s m args below meth c H locs cells slots mc ms ls Z hC h1 h2 h3 h4 hE hP hS h5 h6 hL
  exact hE _ _ _ _ _ _ _ _ _ _ _ h hP hS (by omega) (by omega) (Or.inr (Or.inr ⟨o, rfl, rfl, hd, hr⟩))
/-! the memory changes only what is asked: another memory that is the same where it matters -/
theorem X_weaken {Q' : xQ} (h : X κ d bc bs pc L st N I Rf Q) (hq : ∀ ro N' I' R', Q ro N' I' R' → Q' ro N' I' R') : X κ d bc bs pc L st N I Rf Q' := by
  intro G p l e Rm s m args below meth c H locs cells slots mc ms ls Z hC h1 h2 h3 h4 hE hP hS h5 h6 hL
  exact h hC h1 h2 h3 h4 (fun ro N' I' R' H' locs' cells' slots' pc' ls' st' hQ => hE ro N' I' R' H' locs' cells' slots' pc' ls' st' (hq _ _ _ _ hQ)) hP hS h5 h6 hL
theorem X_locals {L' : List (Option xAV)} (h : X κ d bc bs pc L' st N I Rf Q) (hlen : L'.length = L.length) (hs : ∀ (i : Nat) (a : xAV), L'[i]? = some (some a) → L[i]? = some (some a)) : X κ d bc bs pc L st N I Rf Q := by
  intro G p l e Rm s m args below meth c H locs cells slots mc ms ls Z hC h1 h2 h3 h4 hE hP hS h5 h6 hL
  exact h hC h1 h2 h3 h4 hE hP hS h5 h6 ⟨hL.1, hL.2.1, hlen.trans hL.2.2.1, fun i a ha => hL.2.2.2 i a (hs i a ha)⟩
end XR
end
section
section XR
variable {κ : xK} {d bc bs pc : Nat} {L : List (Option xAV)} {st : List xAV} {N : Nat} {I : xI} {Rf : xR} {Q : xQ}
/-! fields -/
theorem X_get {own : String} {idx ci k c : Nat} (hd : decode κ.2.1 pc = .ok (.getfield idx, 3)) (ho : κ.1.cls = own) (hg : x_GF own idx ci k) (hsh : x_sh c = (2, ci)) (hN : c < N) (kk : X κ d bc bs (pc + 3) L ((if x_ir ci k = true then .inr (Rf c k) else .inl (I c k)) :: st) N I Rf Q) : X κ d bc bs pc L (rr c :: st) N I Rf Q := by
  intro G p l e Rm s m args below meth c' H locs cells slots mc ms ls Z hC h1 h2 h3 h4 hE hP hS h5 h6 hL
  subst ho
  obtain ⟨C, T, Nf, hc, hnf, hk, hin, hlk⟩ := hg
  obtain ⟨hSl, hfc, kC, hkC, hkind⟩ := hC.2.2.2.2.2.1.1 ci _ hc
  obtain ⟨cf, kf, fi, f, hfi, hsl⟩ := hSl k hk
  have hts : ∀ w ∈ xT, w.before args s = true := hC.2.2.2.2.1
  have hob := (hP.2.2.2.2 c (Or.inl hN)).2.2 (by rw [hsh])
  rw [hsh] at hob
  obtain ⟨cell, q1, q2, q3, q4⟩ := hob
  have hst := (u_facts hfc hkC (u_lays hts hin hk) hfi).1
  have hv := q4 k (by show k < x_nf ci; rw [hnf]; exact hk)
  have e : x_fv G I Rf c ci k = x_v G (if x_ir ci k = true then .inr (Rf c k) else .inl (I c k)) := by
    unfold x_fv
    split <;> rfl
  rw [show x_fv G I Rf c (2, ci).2 k = x_fv G I Rf c ci k from rfl, e] at hv
  rcases hlk with hlk | ⟨host, hlk⟩
  · exact W.getf hC.1 hC.2.1 hC.2.2.2.1 (hts _ hlk) hfi hst q1 (by rw [q3]; exact fun h => by cases h) (by rw [hsl]; exact hv) rfl rfl hd (kk hC h1 h2 h3 h4 hE hP hS h5 h6 hL)
  · exact va_Wgetf hC.1 hC.2.1 hC.2.2.2.1 (va_Nw.use rfl (hC.2.2.2.2.2.1.2.1 _ hlk)) hfi hst q1 (by rw [q3]; exact fun h => by cases h) (by rw [hsl]; exact hv) rfl rfl hd (kk hC h1 h2 h3 h4 hE hP hS h5 h6 hL)
theorem X_getI {own : String} {idx ci k c : Nat} (hd : decode κ.2.1 pc = .ok (.getfield idx, 3)) (ho : κ.1.cls = own) (hg : x_GF own idx ci k) (hsh : x_sh c = (2, ci)) (hN : c < N) (hi : x_ir ci k = false) (kk : X κ d bc bs (pc + 3) L (ii (I c k) :: st) N I Rf Q) : X κ d bc bs pc L (rr c :: st) N I Rf Q := by
  refine X_get hd ho hg hsh hN ?_
  rw [if_neg (by rw [hi]; decide)]
  exact kk
theorem X_getR {own : String} {idx ci k c c' : Nat} (hd : decode κ.2.1 pc = .ok (.getfield idx, 3)) (ho : κ.1.cls = own) (hg : x_GF own idx ci k) (hsh : x_sh c = (2, ci)) (hN : c < N) (hi : x_ir ci k = true) (hr : Rf c k = some c') (kk : X κ d bc bs (pc + 3) L (rr c' :: st) N I Rf Q) : X κ d bc bs pc L (rr c :: st) N I Rf Q := by
  refine X_get hd ho hg hsh hN ?_
  rw [if_pos hi, hr]
  exact kk
theorem x_fv_set {G : xG} {I : xI} {Rf : xR} {c ci k : Nat} {z : Int} (hi : x_ir ci k = false) (j : Nat) : updV (x_fv G I Rf c ci) k (.int (Int32.ofInt z)) j = x_fv G (x_up I c k z) Rf c ci j := by
  unfold updV x_fv x_up
  by_cases h : j = k
  · subst h; simp [hi]
  · simp [h]
theorem x_fv_setR {G : xG} {I : xI} {Rf : xR} {c ci k : Nat} {o : Option Nat} (hi : x_ir ci k = true) (j : Nat) : updV (x_fv G I Rf c ci) k (va_rf (o.map (x_ad G))) j = x_fv G I (x_upR Rf c k o) c ci j := by
  unfold updV x_fv x_upR
  by_cases h : j = k
  · subst h; simp [hi]
  · simp [h]
theorem X_putI {own : String} {idx ci k c : Nat} {ty : FieldType} {z : Int} (hd : decode κ.2.1 pc = .ok (.putfield idx, 3)) (ho : κ.1.cls = own) (hg : x_PF own idx ci k ty false) (hsh : x_sh c = (2, ci)) (hN : c < N) (hi : x_ir ci k = false) (hz : ty = .int ∨ (ty = .boolean ∧ (z = 0 ∨ z = 1))) (kk : X κ d bc bs (pc + 3) L st N (x_up I c k z) Rf Q) : X κ d bc bs pc L (ii z :: rr c :: st) N I Rf Q := by
  intro G p l e Rm s m args below meth c' H locs cells slots mc ms ls Z hC h1 h2 h3 h4 hE hP hS h5 h6 hL
  subst ho
  obtain ⟨C, T, Nf, ty0, hc, hnf, hk, hin, hlk, hty0, hnm, hfin, htk, -⟩ := hg
  have hts : ∀ w ∈ xT, w.before args s = true := hC.2.2.2.2.1
  obtain ⟨hSl, hfc, kC, hkC, hkind⟩ := hC.2.2.2.2.2.1.1 ci _ hc
  have hap : ∀ x y, x < Nf → y < Nf → x ≠ y → (G.2.2.1 ci) x ≠ (G.2.2.1 ci) y := by
    intro x y hx hy hne
    obtain ⟨_, _, _, fa, hia, ea⟩ := hSl x hx
    obtain ⟨_, _, _, fb, hib, eb⟩ := hSl y hy
    rw [← ea, ← eb]
    refine u_apart (u_lays hts hin hx) (u_lays hts hin hy) hia hib ?_
    rw [(State.fieldFound?_type hia (hty0 x hx)).1, (State.fieldFound?_type hib (hty0 y hy)).1]
    exact hnm x hx y hy hne
  obtain ⟨cf, kf, fi, f, hfi, hsl⟩ := hSl k hk
  have hob := (hP.2.2.2.2 c (Or.inl hN)).2.2 (by rw [hsh])
  rw [hsh] at hob
  have hob : t_OB (x_ad G c) (G.2.1 ci) (x_nf ci) (G.2.2.1 ci) H (x_fv G I Rf c ci) := hob
  rw [hnf] at hob
  obtain ⟨cell, q1, q2, q3, q4⟩ := hob
  have hlay := hts _ (hin _ (u_in_lay hk))
  unfold u_lay at hlay
  rw [if_neg (by rw [hfin]; decide)] at hlay
  have hst := (u_facts hfc hkC (u_lays hts hin hk) hfi).1
  have hnf2 : narrow ty (.int (Int32.ofInt z)) = .int (Int32.ofInt z) ∧ fits ty (.int (Int32.ofInt z)) = true := by
    rcases hz with rfl | ⟨rfl, rfl | rfl⟩
    · exact ⟨rfl, rfl⟩
    · exact ⟨rfl, rfl⟩
    · exact ⟨rfl, rfl⟩
  have hk6 : k2_Sd s f (G.2.1 ci) (.int (Int32.ofInt z)) := u_store hfc hkC hkind hlay hfi (by rw [hty0 k hk, htk]) hnf2.1 hnf2.2
  refine W.putK (v := .int (Int32.ofInt z)) hC.1 hC.2.1 (f := f) ⟨hC.2.2.2.1, hts _ hlk, ⟨_, _, _, hfi⟩, hst⟩ (by rw [q2]; exact hk6) q1 q3 (by rw [hsl]; exact k2_hasslot (q4 k hk)) rfl rfl hd fun H' e1 e2 e3 => ?_
  rw [hsl] at e1 ⊢
  refine kk hC h1 h2 h3 h4 hE (hP.set hN (fun c' h => x_up_ne h) (fun _ _ => rfl) ⟨fun h => ?_, fun h => ?_, fun _ => ?_⟩ e2 e3) (hS.put e2 e3 ?_) h5 h6 hL
  · rw [hsh] at h; simp at h
  · rw [hsh] at h; simp at h
  · rw [hsh]
    show t_OB (x_ad G c) (G.2.1 ci) (x_nf ci) (G.2.2.1 ci) H' (x_fv G (x_up I c k z) Rf c ci)
    rw [hnf]
    exact t_OB.to (V := updV (x_fv G I Rf c ci) k (.int (Int32.ofInt z))) ⟨_, e1, q2, q3, t_set q4 hap hk _⟩ (fun j _ => x_fv_set hi j)
  · show G.1 ≤ x_ad G c
    rw [x_ad_lt hP.1 hN]; omega
/-- a final field, in a constructor -/
theorem X_putF {own : String} {idx ci k c : Nat} {ty : FieldType} {v : xAV} {I' : xI} {Rf' : xR} (hd : decode κ.2.1 pc = .ok (.putfield idx, 3)) (ho : κ.1.cls = own) (hinit : κ.1.name = "<init>") (hg : x_PF own idx ci k ty true) (hsh : x_sh c = (2, ci)) (hN : c < N) {o : Option Nat} (hv : v = .inr o) (hi : x_ir ci k = true) (hr : refKind ty = true) (hI : I' = I) (hR : Rf' = x_upR Rf c k o) (kk : X κ d bc bs (pc + 3) L st N I' Rf' Q) : X κ d bc bs pc L (v :: rr c :: st) N I Rf Q := by
  intro G p l e Rm s m args below meth c' H locs cells slots mc ms ls Z hC h1 h2 h3 h4 hE hP hS h5 h6 hL
  subst ho; subst hv; subst hI; subst hR
  obtain ⟨C, T, Nf, ty0, hc, hnf, hk, hin, hlk, hty0, hnm, hfin, htk, hdecl⟩ := hg
  have hts : ∀ w ∈ xT, w.before args s = true := hC.2.2.2.2.1
  obtain ⟨hSl, hfc, kC, hkC, hkind⟩ := hC.2.2.2.2.2.1.1 ci _ hc
  have hap : ∀ x y, x < Nf → y < Nf → x ≠ y → (G.2.2.1 ci) x ≠ (G.2.2.1 ci) y := by
    intro x y hx hy hne
    obtain ⟨_, _, _, fa, hia, ea⟩ := hSl x hx
    obtain ⟨_, _, _, fb, hib, eb⟩ := hSl y hy
    rw [← ea, ← eb]
    refine u_apart (u_lays hts hin hx) (u_lays hts hin hy) hia hib ?_
    rw [(State.fieldFound?_type hia (hty0 x hx)).1, (State.fieldFound?_type hib (hty0 y hy)).1]
    exact hnm x hx y hy hne
  obtain ⟨cf, kf, fi, f, hfi, hsl⟩ := hSl k hk
  have hob := (hP.2.2.2.2 c (Or.inl hN)).2.2 (by rw [hsh])
  rw [hsh] at hob
  have hob : t_OB (x_ad G c) (G.2.1 ci) (x_nf ci) (G.2.2.1 ci) H (x_fv G I' Rf c ci) := hob
  rw [hnf] at hob
  obtain ⟨cell, q1, q2, q3, q4⟩ := hob
  have hlay := hts _ (hin _ (u_in_lay hk))
  unfold u_lay at hlay
  rw [if_pos hfin] at hlay
  have hst := (u_facts hfc hkC (u_lays hts hin hk) hfi).1
  have hcf : m.cls = cf := by
    obtain ⟨_, _, c', _, _, _, -, -, hf', -, -, -, hown2, -⟩ := Cond.laysFinal_spec hlay
    have e1 : c' = cf := by have := hfi.symm.trans hf'; simp at this; exact this.1.symm
    rw [hdecl] at hown2
    rw [← e1]; exact Option.some.inj (hC.2.2.2.1.symm.trans hown2)
  have hnf2 : narrow ty (va_rf (o.map (x_ad G))) = va_rf (o.map (x_ad G)) ∧ fits ty (va_rf (o.map (x_ad G))) = true := by
    cases ty <;> first | (exact absurd hr (by decide)) | (cases o <;> exact ⟨rfl, rfl⟩)
  have hk6 := u_fits hfc hkC hkind (Or.inr hlay) hfi (by rw [hty0 k hk, htk]) hnf2.1 hnf2.2
  refine W.putFinK (v := va_rf (o.map (x_ad G))) hC.1 hC.2.1 hC.2.2.2.1 (hts _ hlk) hfi hst hcf (hC.2.2.2.2.2.2.1.trans hinit) (by rw [q2]; exact hk6) q1 q3 (by rw [hsl]; exact k2_hasslot (q4 k hk)) rfl rfl hd fun H' e1 e2 e3 => ?_
  rw [hsl] at e1 ⊢
  refine kk hC h1 h2 h3 h4 hE (hP.set hN (fun _ _ => rfl) (fun c' h => x_upR_ne h) ⟨fun h => ?_, fun h => ?_, fun _ => ?_⟩ e2 e3) (hS.put e2 e3 ?_) h5 h6 hL
  · rw [hsh] at h; simp at h
  · rw [hsh] at h; simp at h
  · rw [hsh]
    show t_OB (x_ad G c) (G.2.1 ci) (x_nf ci) (G.2.2.1 ci) H' (x_fv G I' (x_upR Rf c k o) c ci)
    rw [hnf]
    exact t_OB.to (V := updV (x_fv G I' Rf c ci) k (va_rf (o.map (x_ad G)))) ⟨_, e1, q2, q3, t_set q4 hap hk _⟩ (fun j _ => x_fv_setR hi j)
  · show G.1 ≤ x_ad G c
    rw [x_ad_lt hP.1 hN]; omega
theorem X_getsF {own : String} {idx : Nat} (hd : decode κ.2.1 pc = .ok (.getstatic idx, 3)) (ho : κ.1.cls = own) (hg : x_GS own idx "FIRST_VALUES") (kk : X κ d bc bs (pc + 3) L (rr 100 :: st) N I Rf Q) : X κ d bc bs pc L st N I Rf Q := by
  intro G p l e Rm s m args below meth c' H locs cells slots mc ms ls Z hC h1 h2 h3 h4 hE hP hS h5 h6 hL
  subst ho
  have hw : x_v G (rr 100) = .ref G.2.2.2.1 := by show Value.ref (x_ad G 100) = _; unfold x_ad; rw [if_pos rfl]
  have kk2 := kk hC h1 h2 h3 h4 hE hP hS h5 h6 hL
  rw [List.map_cons, hw] at kk2
  rcases hg with hlk | ⟨host, hlk⟩
  · exact va_gets hC.1 hC.2.1 hC.2.2.2.2.2.1.2.2.2.1 hS hC.2.2.2.1 (hC.2.2.2.2.1 _ hlk) (fun _ h => h) hd kk2
  · exact va_getsN hC.1 hC.2.1 hC.2.2.2.2.2.1.2.2.2.1 hS hC.2.2.2.1 (va_Nw.use rfl (hC.2.2.2.2.2.1.2.1 _ hlk)) (fun _ h => h) hd kk2
theorem X_getsG {own : String} {idx : Nat} (hd : decode κ.2.1 pc = .ok (.getstatic idx, 3)) (ho : κ.1.cls = own) (hg : x_GS own idx "GREATEST_VALUES") (kk : X κ d bc bs (pc + 3) L (rr 101 :: st) N I Rf Q) : X κ d bc bs pc L st N I Rf Q := by
  intro G p l e Rm s m args below meth c' H locs cells slots mc ms ls Z hC h1 h2 h3 h4 hE hP hS h5 h6 hL
  subst ho
  have hw : x_v G (rr 101) = .ref G.2.2.2.2 := by show Value.ref (x_ad G 101) = _; unfold x_ad; rw [if_neg (by decide), if_pos rfl]
  have kk2 := kk hC h1 h2 h3 h4 hE hP hS h5 h6 hL
  rw [List.map_cons, hw] at kk2
  rcases hg with hlk | ⟨host, hlk⟩
  · exact va_gets hC.1 hC.2.1 hC.2.2.2.2.2.1.2.2.2.2.1 hS hC.2.2.2.1 (hC.2.2.2.2.1 _ hlk) (fun _ h => h) hd kk2
  · exact va_getsN hC.1 hC.2.1 hC.2.2.2.2.2.1.2.2.2.2.1 hS hC.2.2.2.1 (va_Nw.use rfl (hC.2.2.2.2.2.1.2.1 _ hlk)) (fun _ h => h) hd kk2
/-! rows -/
theorem X_iald {c n : Nat} {i : Int} (hd : decode κ.2.1 pc = .ok (.iaload, 1)) (hsh : x_sh c = (0, n)) (hlive : x_live N c) (hi : 0 ≤ i ∧ i < n) (kk : X κ d bc bs (pc + 1) L (ii (I c i.toNat) :: st) N I Rf Q) : X κ d bc bs pc L (ii i :: rr c :: st) N I Rf Q := by
  intro G p l e Rm s m args below meth c' H locs cells slots mc ms ls Z hC h1 h2 h3 h4 hE hP hS h5 h6 hL
  have hX := (hP.2.2.2.2 c hlive).1 (by rw [hsh])
  have hn : n < 1000 := by have := x_sh_lt c; rw [hsh] at this; exact this
  rw [hsh] at hX
  obtain ⟨scr, a1, a2, a3, a4, a5⟩ := hX
  have a4 : scr.slots.size = n := a4
  exact W.iald (v := .int (Int32.ofInt (I c i.toNat))) hC.1 hC.2.1 a1 a2 a3 (by rw [a4]; exact x_in hi (by omega)) (by rw [x_cl (by omega)]; exact a5 _ (by show i.toNat < n; omega)) rfl rfl hd (kk hC h1 h2 h3 h4 hE hP hS h5 h6 hL)
theorem X_iast {c n : Nat} {i z : Int} (hd : decode κ.2.1 pc = .ok (.iastore, 1)) (hsh : x_sh c = (0, n)) (hN : c < N) (hi : 0 ≤ i ∧ i < n) (kk : X κ d bc bs (pc + 1) L st N (x_up I c i.toNat z) Rf Q) : X κ d bc bs pc L (ii z :: ii i :: rr c :: st) N I Rf Q := by
  intro G p l e Rm s m args below meth c' H locs cells slots mc ms ls Z hC h1 h2 h3 h4 hE hP hS h5 h6 hL
  have hX := (hP.2.2.2.2 c (Or.inl hN)).1 (by rw [hsh])
  have hn : n < 1000 := by have := x_sh_lt c; rw [hsh] at this; exact this
  rw [hsh] at hX
  obtain ⟨scr, a1, a2, a3, a4, a5⟩ := hX
  have a4 : scr.slots.size = n := a4
  refine W.iast (x := Int32.ofInt z) (j := Int32.ofInt i) hC.1 hC.2.1 a1 a2 a3 (by rw [a4]; exact x_in hi (by omega)) rfl rfl hd (fun H' e1 e2 e3 => ?_)
  rw [x_cl (by omega)] at e1
  refine kk hC h1 h2 h3 h4 hE (hP.set hN (fun c' h => x_up_ne h) (fun _ _ => rfl) ⟨fun _ => ?_, fun h => ?_, fun h => ?_⟩ e2 e3) (hS.put e2 e3 ?_) h5 h6 hL
  · rw [hsh]
    refine ⟨_, e1, a2, a3, by show (scr.slots.setIfInBounds _ _).size = n; rw [Array.size_setIfInBounds]; exact a4, fun j hj => ?_⟩
    have hj : j < n := hj
    show (scr.slots.setIfInBounds _ _)[j]? = _
    by_cases h : j = i.toNat
    · subst h
      rw [Array.getElem?_setIfInBounds_self_of_lt (by rw [a4]; exact hj)]
      simp [x_up]
    · rw [Array.getElem?_setIfInBounds_ne (Ne.symm h), a5 j hj]
      simp [x_up, h]
  · rw [hsh] at h; simp at h
  · rw [hsh] at h; simp at h
  · show G.1 ≤ x_ad G c
    rw [x_ad_lt hP.1 hN]; omega
theorem X_alen {c n : Nat} (hd : decode κ.2.1 pc = .ok (.arraylength, 1)) (hsh : x_sh c = (0, n)) (hlive : x_live N c) (kk : X κ d bc bs (pc + 1) L (ii (n : Int) :: st) N I Rf Q) : X κ d bc bs pc L (rr c :: st) N I Rf Q := by
  intro G p l e Rm s m args below meth c' H locs cells slots mc ms ls Z hC h1 h2 h3 h4 hE hP hS h5 h6 hL
  have hX := (hP.2.2.2.2 c hlive).1 (by rw [hsh])
  rw [hsh] at hX
  obtain ⟨scr, a1, a2, a3, a4, a5⟩ := hX
  have a4 : scr.slots.size = n := a4
  exact W.alen (n := Int32.ofInt (n : Int)) hC.1 hC.2.1 a1 a2 (by rw [a4]; exact (Int32.ofInt_eq_ofNat).symm) rfl rfl hd (kk hC h1 h2 h3 h4 hE hP hS h5 h6 hL)
theorem X_alenR {c n : Nat} (hd : decode κ.2.1 pc = .ok (.arraylength, 1)) (hsh : x_sh c = (1, n)) (hlive : x_live N c) (kk : X κ d bc bs (pc + 1) L (ii (n : Int) :: st) N I Rf Q) : X κ d bc bs pc L (rr c :: st) N I Rf Q := by
  intro G p l e Rm s m args below meth c' H locs cells slots mc ms ls Z hC h1 h2 h3 h4 hE hP hS h5 h6 hL
  obtain ⟨cS, a1, a2, a3⟩ := (hP.2.2.2.2 c hlive).2.1 (by rw [hsh])
  rw [hsh] at a1
  exact W.alen (n := Int32.ofInt (n : Int)) hC.1 hC.2.1 a1 (a2 _ _) (by rw [arrV_size]; exact (Int32.ofInt_eq_ofNat).symm) rfl rfl hd (kk hC h1 h2 h3 h4 hE hP hS h5 h6 hL)
theorem X_aald {c n c1 : Nat} {i : Int} (hd : decode κ.2.1 pc = .ok (.aaload, 1)) (hsh : x_sh c = (1, n)) (hlive : x_live N c) (hi : 0 ≤ i ∧ i < n) (hr : Rf c i.toNat = some c1) (kk : X κ d bc bs (pc + 1) L (rr c1 :: st) N I Rf Q) : X κ d bc bs pc L (ii i :: rr c :: st) N I Rf Q := by
  intro G p l e Rm s m args below meth c' H locs cells slots mc ms ls Z hC h1 h2 h3 h4 hE hP hS h5 h6 hL
  obtain ⟨cS, a1, a2, a3⟩ := (hP.2.2.2.2 c hlive).2.1 (by rw [hsh])
  have hn : n < 1000 := by have := x_sh_lt c; rw [hsh] at this; exact this
  rw [hsh] at a1
  exact W.aald (v := .ref (x_ad G c1)) (ty := .object "HeatShelves$State") hC.1 hC.2.1 a1 (a2 _ _) rfl (fun q => by cases q) (by rw [arrV_size]; exact x_in hi (by omega)) (by rw [x_cl (by omega), arrV_read _ _ (by show i.toNat < n; omega), hr]; rfl) rfl rfl hd (kk hC h1 h2 h3 h4 hE hP hS h5 h6 hL)
theorem X_aast {c n c1 ci : Nat} {i : Int} (hd : decode κ.2.1 pc = .ok (.aastore, 1)) (hsh : x_sh c = (1, n)) (hN : c < N) (hi : 0 ≤ i ∧ i < n) (hsh1 : x_sh c1 = (2, 3)) (hN1 : c1 < N) (kk : X κ d bc bs (pc + 1) L st N I (x_upR Rf c i.toNat (some c1)) Q) : X κ d bc bs pc L (rr c1 :: ii i :: rr c :: st) N I Rf Q := by
  intro G p l e Rm s m args below meth c' H locs cells slots mc ms ls Z hC h1 h2 h3 h4 hE hP hS h5 h6 hL
  obtain ⟨cS, a1, a2, a3⟩ := (hP.2.2.2.2 c (Or.inl hN)).2.1 (by rw [hsh])
  have hn : n < 1000 := by have := x_sh_lt c; rw [hsh] at this; exact this
  rw [hsh] at a1
  have hob := (hP.2.2.2.2 c1 (Or.inl hN1)).2.2 (by rw [hsh1])
  rw [hsh1] at hob
  obtain ⟨cellV, g1, g2, g3, -⟩ := hob
  have hcls : ClassAt s "HeatShelves$State" (G.2.1 3) := (hC.2.2.2.2.2.1.1 3 _ rfl).2
  obtain ⟨kA, comp, k1, k2, k3, k4⟩ := a3
  have hcomp : comp = G.2.1 3 := Option.some.inj (k3.symm.trans hcls.1)
  subst hcomp
  obtain ⟨kC, hkC, hkk⟩ := id hcls.2
  have hi2 := x_in hi (by omega : n < 2147483648)
  refine W.aast (j := Int32.ofInt i) hC.1 hC.2.1 a1 (fun q h => by cases h) (fun h => by cases h) k1 k2 rfl hkC ⟨fun q => hi2 (Or.inl q), by rw [arrV_size]; exact Nat.not_le.mp fun q => hi2 (Or.inr q)⟩ g1 (fun q h => by rw [g3] at h; cases h) (by rw [g2]; exact hkC) (by rw [g2]; exact va_assign hcls) rfl rfl hd fun H' e1 e2 e3 => ?_
  rw [x_cl (by omega), arrV_store] at e1
  refine kk hC h1 h2 h3 h4 hE (hP.set hN (fun _ _ => rfl) (fun c' h => x_upR_ne h) ⟨fun h => ?_, fun _ => ?_, fun h => ?_⟩ e2 e3) (hS.put e2 e3 ?_) h5 h6 hL
  · rw [hsh] at h; simp at h
  · rw [hsh]
    refine ⟨cS, ?_, a2, kA, G.2.1 3, k1, k2, k3, k4⟩
    rw [e1]
    congr 2
    funext q
    unfold updV x_upR
    by_cases h : q = i.toNat
    · subst h; simp [va_rf]
    · simp [h]
  · rw [hsh] at h; simp at h
  · show G.1 ≤ x_ad G c
    rw [x_ad_lt hP.1 hN]; omega
/-! the library's own: min, max, abs, copies of rows -/
theorem x_rsum {G : xG} {rest : List xAV} (h : rest.length ≤ 8) : ((rest.map (x_v G)).map fun v => v.category).sum ≤ 8 := by
  have e : ∀ l : List xAV, ((l.map (x_v G)).map fun v => v.category).sum = l.length := by
    intro l
    induction l with
    | nil => rfl
    | cons a l ih => rw [List.map_cons, List.map_cons, List.sum_cons, ih, x_cat, List.length_cons]; omega
  rw [e]; exact h
theorem X_min {own : String} {idx : Nat} {a b : Int} (hd : decode κ.2.1 pc = .ok (.invokestatic idx, 3)) (ho : κ.1.cls = own) (hl : Cond.methodLink own idx Lib.Math.min.name ∈ xT) (ha : -2147483648 ≤ a ∧ a ≤ 2147483647) (hb : -2147483648 ≤ b ∧ b ≤ 2147483647) (hd1 : 1 ≤ d) (hr : st.length ≤ 8) (kk : X κ d bc bs (pc + 3) L (ii (min a b) :: st) N I Rf Q) : X κ d bc bs pc L (ii b :: ii a :: st) N I Rf Q := by
  intro G p l e Rm s m args below meth c' H locs cells slots mc ms ls Z hC h1 h2 h3 h4 hE hP hS h5 h6 hL
  subst ho
  refine va_mmin (x := Int32.ofInt a) (y := Int32.ofInt b) hC.1 hC.2.1 (hC.2.2.1.trans hL.1.symm) hC.2.2.2.1 (hC.2.2.2.2.1 _ hl) (hC.2.2.2.2.1 _ xw_min_static) (hC.2.2.2.2.1 _ xw_math_init) (hC.2.2.2.2.1 _ xw_min_code) (by omega) (by have := x_rsum (G := G) hr; omega) (by omega) (by omega) hd ?_
  have e : (if Int32.ofInt b < Int32.ofInt a then Int32.ofInt b else Int32.ofInt a) = Int32.ofInt (min a b) := by
    by_cases h : b < a
    · rw [if_pos ((x_lt hb ha).mpr h)]; congr 1; omega
    · rw [if_neg (fun q => h ((x_lt hb ha).mp q))]; congr 1; omega
  rw [e]
  exact kk hC h1 h2 h3 h4 hE hP hS h5 h6 hL
theorem X_max {own : String} {idx : Nat} {a b : Int} (hd : decode κ.2.1 pc = .ok (.invokestatic idx, 3)) (ho : κ.1.cls = own) (hl : Cond.methodLink own idx Lib.Math.max.name ∈ xT) (ha : -2147483648 ≤ a ∧ a ≤ 2147483647) (hb : -2147483648 ≤ b ∧ b ≤ 2147483647) (hd1 : 1 ≤ d) (hr : st.length ≤ 8) (kk : X κ d bc bs (pc + 3) L (ii (max a b) :: st) N I Rf Q) : X κ d bc bs pc L (ii b :: ii a :: st) N I Rf Q := by
  intro G p l e Rm s m args below meth c' H locs cells slots mc ms ls Z hC h1 h2 h3 h4 hE hP hS h5 h6 hL
  subst ho
  refine va_mmax (x := Int32.ofInt a) (y := Int32.ofInt b) hC.1 hC.2.1 (hC.2.2.1.trans hL.1.symm) hC.2.2.2.1 (hC.2.2.2.2.1 _ hl) (hC.2.2.2.2.1 _ xw_max_static) (hC.2.2.2.2.1 _ xw_math_init) (hC.2.2.2.2.1 _ xw_max_code) (by omega) (by have := x_rsum (G := G) hr; omega) (by omega) (by omega) hd ?_
  have e : (if Int32.ofInt a < Int32.ofInt b then Int32.ofInt b else Int32.ofInt a) = Int32.ofInt (max a b) := by
    by_cases h : a < b
    · rw [if_pos ((x_lt ha hb).mpr h)]; congr 1; omega
    · rw [if_neg (fun q => h ((x_lt ha hb).mp q))]; congr 1; omega
  rw [e]
  exact kk hC h1 h2 h3 h4 hE hP hS h5 h6 hL
theorem X_abs {own : String} {idx : Nat} {a : Int} (hd : decode κ.2.1 pc = .ok (.invokestatic idx, 3)) (ho : κ.1.cls = own) (hl : Cond.methodLink own idx Lib.Math.abs.name ∈ xT) (ha : -2147483647 ≤ a ∧ a ≤ 2147483647) (hd1 : 1 ≤ d) (hr : st.length ≤ 8) (kk : X κ d bc bs (pc + 3) L (ii (if 0 ≤ a then a else -a) :: st) N I Rf Q) : X κ d bc bs pc L (ii a :: st) N I Rf Q := by
  intro G p l e Rm s m args below meth c' H locs cells slots mc ms ls Z hC h1 h2 h3 h4 hE hP hS h5 h6 hL
  subst ho
  refine va_mabs (x := Int32.ofInt a) hC.1 hC.2.1 (hC.2.2.1.trans hL.1.symm) hC.2.2.2.1 (hC.2.2.2.2.1 _ hl) (hC.2.2.2.2.1 _ xw_abs_static) (hC.2.2.2.2.1 _ xw_math_init) (hC.2.2.2.2.1 _ xw_abs_code) (by omega) (by have := x_rsum (G := G) hr; omega) (by omega) (by omega) hd ?_
  have e : (if 0 ≤ Int32.ofInt a then Int32.ofInt a else 0 - Int32.ofInt a) = Int32.ofInt (if 0 ≤ a then a else -a) := by
    rw [x_zero]
    by_cases h : 0 ≤ a
    · rw [if_pos ((x_le (by omega) (by omega)).mpr h), if_pos h]
    · rw [if_neg (fun q => h ((x_le (by omega) (by omega)).mp q)), if_neg h, ← Int32.ofInt_sub]; congr 1; omega
  rw [e]
  exact kk hC h1 h2 h3 h4 hE hP hS h5 h6 hL
theorem X_copy {own : String} {idx c0 c1 n0 n1 : Nat} {n : Int} (hd : decode κ.2.1 pc = .ok (.invokestatic idx, 3)) (ho : κ.1.cls = own) (hl : Cond.methodLink own idx arraycopyName ∈ xT) (hsh0 : x_sh c0 = (0, n0)) (hl0 : x_live N c0) (hsh1 : x_sh c1 = (0, n1)) (hN : c1 < N) (hn : 0 ≤ n ∧ n ≤ n0 ∧ n ≤ n1) (hd1 : 1 ≤ d) (hr : st.length ≤ 8) (kk : X κ d bc bs (pc + 3) L st N (x_cp I c0 c1 n.toNat) Rf Q) : X κ d bc bs pc L (ii n :: ii 0 :: rr c1 :: ii 0 :: rr c0 :: st) N I Rf Q := by
  intro G p l e Rm s m args below meth c' H locs cells slots mc ms ls Z hC h1 h2 h3 h4 hE hP hS h5 h6 hL
  subst ho
  have hn0 : n0 < 1000 := by have := x_sh_lt c0; rw [hsh0] at this; exact this
  have hn1 : n1 < 1000 := by have := x_sh_lt c1; rw [hsh1] at this; exact this
  have hX0 := (hP.2.2.2.2 c0 hl0).1 (by rw [hsh0])
  have hX1 := (hP.2.2.2.2 c1 (Or.inl hN)).1 (by rw [hsh1])
  rw [hsh0] at hX0
  rw [hsh1] at hX1
  obtain ⟨s0, a1, a2, a3, a4, a5⟩ := hX0
  obtain ⟨s1, b1, b2, b3, b4, b5⟩ := hX1
  have a4 : s0.slots.size = n0 := a4
  have b4 : s1.slots.size = n1 := b4
  have ez : (Int32.ofInt 0).toNatClampNeg = 0 := rfl
  have en : (Int32.ofInt n).toNatClampNeg = n.toNat := x_cl (by omega)
  have hst0 : (s0.stretch 0 n.toNat).length = n.toNat := by simp [Cell.stretch]
  obtain ⟨ho1, k0, hk0, cm0, hkk0⟩ := id a2
  obtain ⟨ho2, k1, hk1, cm1, hkk1⟩ := id b2
  intro T hT Xs
  obtain ⟨vm', X', step⟩ := Xs.arraycopy hC.1 hC.2.2.2.1 (hC.2.2.2.2.1 _ hl) (hC.2.2.2.2.1 _ xw_acp_native) (hC.2.2.2.2.1 _ xw_acp_static) (hC.2.2.2.2.1 _ xw_sys_init) (src := x_ad G c0) (dst := x_ad G c1) (cs := s0) (cd := s1) (srcPos := Int32.ofInt 0) (destPos := Int32.ofInt 0) (n := Int32.ofInt n) (by rw [hT]; exact a1) (by rw [hT]; exact b1) ho1 ho2 a3 b3 hk0 hk1 hkk0 hkk1 rfl (by decide) (by decide) (fun q => by rw [x_zero, x_lt (by omega) (by omega)] at q; omega)
    (by rw [x_ti (by omega), x_ti (by omega), a4]; omega) (by rw [x_ti (by omega), x_ti (by omega), b4]; omega)
    (fun vm₁ _ i hi => by
      rw [en] at hi
      have e : s0.slots.getD ((Int32.ofInt 0).toNatClampNeg + i) .null = .int (Int32.ofInt (I c0 i)) := by
        rw [ez, Nat.zero_add, Array.getD_eq_getD_getElem?, a5 i (by show i < n0; omega)]
        rfl
      rw [e]
      exact ⟨rfl, trivial⟩)
    (g := F0 m pc ls ((ii n :: ii 0 :: rr c1 :: ii 0 :: rr c0 :: st).map (x_v G))) rfl (by rw [hC.2.2.1]; exact hL.1) (rest := st.map (x_v G)) rfl (by rw [hC.2.1]; exact hd) (by omega) (by
      have h9 := x_rsum (G := G) hr
      have h8 : nativeFrameWords "java/lang/System" "arraycopy" 5 ≤ 10 := by decide
      show 2 * 0 + _ + _ ≤ _
      omega)
  have hl1 : x_ad G c1 < H.size := (Array.getElem?_eq_some_iff.mp b1).1
  have ecop : copied s0 s1 (Int32.ofInt 0) (Int32.ofInt 0) (Int32.ofInt n) = s1.storeRun 0 (s0.stretch 0 n.toNat) := by
    show s1.storeRun (Int32.ofInt 0).toNatClampNeg (s0.stretch (Int32.ofInt 0).toNatClampNeg (Int32.ofInt n).toNatClampNeg) = _
    rw [ez, en]
  rw [ecop] at X' step
  generalize hcc : s1.storeRun 0 (s0.stretch 0 n.toNat) = s2 at X' step
  obtain ⟨f1, f2, f3, -, -⟩ := Cell.storeRun_facts s1 0 (s0.stretch 0 n.toNat)
  rw [hcc] at f1 f2 f3
  have hget : ∀ j : Nat, s2.slots[j]? = if 0 ≤ j ∧ j < 0 + (s0.stretch 0 n.toNat).length then (s0.stretch 0 n.toNat)[j - 0]? else s1.slots[j]? := fun j => by
    rw [← hcc]
    exact Cell.storeRun_get s1 0 _ j (by rw [hst0, b4]; omega)
  have hheap : ((T.setVm vm').setCell (x_ad G c1) s2).heap = H.setIfInBounds (x_ad G c1) s2 := by rw [← hT]; rfl
  have oq : ∀ q : Nat, q ≠ x_ad G c1 → (H.setIfInBounds (x_ad G c1) s2)[q]? = H[q]? := fun q hq => by simp [Array.getElem?_setIfInBounds, Ne.symm hq]
  have hAd : x_A G (x_ad G c1) := by
    show G.1 ≤ x_ad G c1
    rw [x_ad_lt hP.1 hN]; omega
  have hcell : x_cell G (x_cp I c0 c1 n.toNat) Rf s (H.setIfInBounds (x_ad G c1) s2) c1 := by
    refine ⟨fun _ => ?_, fun h => ?_, fun h => ?_⟩
    · rw [hsh1]
      refine ⟨s2, by simp [Array.getElem?_setIfInBounds, hl1], ?_, by rw [f2]; exact b3, by rw [f3]; exact b4, fun j hj => ?_⟩
      · show (∀ k, s2.vm ≠ .statics k) ∧ _
        rw [f2, f1]
        exact b2
      · have hj : j < n1 := hj
        rw [hget j, hst0]
        by_cases h : j < n.toNat
        · rw [if_pos (by omega)]
          show ((List.range n.toNat).map fun i => s0.slots.getD (0 + i) .null)[j - 0]? = _
          rw [List.getElem?_map, List.getElem?_range (by omega), Option.map_some, Array.getD_eq_getD_getElem?, Nat.zero_add, Nat.sub_zero, a5 j (by show j < n0; omega)]
          simp [x_cp, h]
        · rw [if_neg (by omega), b5 j hj]
          simp [x_cp, h]
    · rw [hsh1] at h; simp at h
    · rw [hsh1] at h; simp at h
  obtain ⟨t, t1, t2⟩ := kk hC h1 h2 h3 h4 hE (hP.set (H' := H.setIfInBounds (x_ad G c1) s2) hN (fun c' h => by funext j; simp [x_cp, h]) (fun _ _ => rfl) hcell (by simp) oq) ⟨by simp; exact hS.1, fun q g1 g2 => by
      rw [oq q (fun e => g2 (by rw [e]; exact hAd))]
      exact hS.2.1 q g1 g2, fun q hq => by
      rcases List.mem_append.mp hq with h | h
      · exact hS.2.2 q h
      · obtain ⟨z, -, hz⟩ := List.mem_map.mp h
        rw [← hz]
        exact hAd⟩ h5 h6 hL _ hheap X'
  exact ⟨t, step t t1, t2⟩
end XR
end
section
section XR
variable {κ : xK} {d bc bs pc : Nat} {L : List (Option xAV)} {st : List xAV} {N : Nat} {I : xI} {Rf : xR} {Q : xQ}
/-! calls -/
theorem x_blind (G : xG) (as : List xAV) (N : Nat) (I : xI) (Rf : xR) : FrameBlind (x_pre G as N I Rf) := by
  intro a U g mk h
  obtain ⟨h1, h2, ⟨k1, k2, k3, k4, k5, k6⟩, h4⟩ := h
  have hA : U.vm.Alike (U.calling g mk a).vm := Vm.Alike.refl U.vm
  refine ⟨h1, h2.moved hA, ⟨fun ci q hq => u_Kn_moved hA (k1 ci q hq), fun w hw => va_Nw.same rfl rfl (k2 w hw), fun w hw => va_Nw.same rfl rfl (k3 w hw), k4.moved hA, k5.moved hA, k6.moved hA⟩, h4⟩
theorem x_KF.at {G : xG} {s U : State} {H : Heap} {locs : List Loc} (hK : x_KF G s) (hS : va_S (x_A G) s.heap H locs) (hU : U.heap = H) (hW : s.WarmedH U.vm) : x_KF G U := by
  obtain ⟨k1, k2, k3, k4, k5, k6⟩ := hK
  have hq : ∀ a : Nat, a < s.heap.size → ¬ x_A G a → U.heap[a]? = s.heap[a]? := fun a h1 h2 => by rw [hU]; exact hS.2.1 a h1 h2
  exact ⟨fun ci q hq => u_Kn_moved hW.alike (k1 ci q hq), fun w hw => va_Nw.warmF hW (k2 w hw), fun w hw => va_Nw.warmM hW (k3 w hw), (k4.kept hq).moved hW.alike, (k5.kept hq).moved hW.alike, k6.moved hW.alike⟩
theorem x_good (κ : xK) (h : Cond.code κ.1 κ.2.1 κ.2.2.1 κ.2.2.2 ∈ xT) : GoodIn xT (x_ws κ) := by
  intro w hw
  rcases List.mem_cons.mp hw with rfl | hw
  · exact ⟨h, xT_good h⟩
  · exact ⟨hw, xT_good hw⟩
/-- behind a call -/
theorem x_back {rest : List xAV} {mc1 ms1 : Nat} {Q1 : xQ} {a : Array Value} {G : xG} {p : Program} {l : Launch} {e : Env} {Rm : Room} {s : State} {m : MethodId} {args : Array Value} {below : List Frame} {meth : Method} {c : Code} {H : Heap} {locs : List Loc} {cells slots : Nat} {ls : Array Slot} {Z : State → Prop} {st0 : List Value}
    (hr : va_Run p l e Rm s m args below meth c H locs cells slots mc1 ms1 (F0 m pc ls st0) (rest.map (x_v G)) (x_post G Q1 a) (x_A G)) (hS : va_S (x_A G) s.heap H locs)
    (kk : ∀ (ro : Option xAV) (N1 : Nat) (I1 : xI) (R1 : xR) (H1 : Heap) (locs1 : List Loc), Q1 ro N1 I1 R1 → x_P G N1 I1 R1 s H1 → va_S (x_A G) s.heap H1 locs1 → W p l e Rm s m args below meth c H1 locs1 (cells + mc1) (slots + ms1) Z (F0 m (pc + 3) ls ((ro.toList ++ rest).map (x_v G)))) :
    W p l e Rm s m args below meth c H locs cells slots Z (F0 m pc ls st0) := by
  intro T hT Xs
  obtain ⟨v, st₀, t, T', L1, h0, X', hL1, e1, e2, ⟨⟨ro, N1, I1, R1, hv, hq, hp⟩, hz, hk⟩, step⟩ := hr T hT Xs
  cases hv
  rw [h0] at hz hk
  have hal : t.vm.Alike s.vm := by rw [← e2]; exact X'.warmed.alike.symm
  have hS1 : va_S (x_A G) s.heap T'.heap (locs ++ L1) := ⟨Nat.le_trans hS.1 (by rw [e1]; exact hz), fun q g1 g2 => by rw [e1, hk q (Nat.lt_of_lt_of_le g1 hS.1) g2]; exact hS.2.1 q g1 g2, fun q hq => by
      rcases List.mem_append.mp hq with h | h
      · exact hS.2.2 q h
      · exact hL1 q h⟩
  have hst : (ro.map (x_v G)).toList ++ rest.map (x_v G) = (ro.toList ++ rest).map (x_v G) := by
    cases ro <;> simp
  obtain ⟨t2, a1, b1⟩ := kk ro N1 I1 R1 T'.heap (locs ++ L1) hq (by rw [e1]; exact hp.moved hal) hS1 T' rfl X'
  refine ⟨t2, step t2 ?_, b1⟩
  show Steps p.tables e below (T'.setTop { F0 m pc ls st0 with pc := pc + 3, stack := (ro.map (x_v G)).toList ++ rest.map (x_v G) }) t2
  rw [hst]
  exact a1
theorem X_callV {κ1 : xK} {own : String} {idx n ci c1 d1 mc1 ms1 : Nat} {as rest : List xAV} {Q1 : xQ} (hd : decode κ.2.1 pc = .ok (.invokevirtual idx, 3)) (ho : κ.1.cls = own) (hc : x_CV own idx κ1 n ci) (hsh : x_sh c1 = (2, ci)) (hN : c1 < N) (hsp : Sp κ1 d1 mc1 ms1 (rr c1 :: as) N I Rf Q1) (hst : st = as.reverse ++ rr c1 :: rest) (hn : as.length = n) (hdd : d1 + 1 ≤ d) (hrest : rest.length ≤ 8) (hbc : mc1 ≤ bc) (hbs : ms1 ≤ bs)
    (kk : ∀ ro N1 I1 R1, Q1 ro N1 I1 R1 → X κ d (bc - mc1) (bs - ms1) (pc + 3) L (ro.toList ++ rest) N1 I1 R1 Q) : X κ d bc bs pc L st N I Rf Q := by
  intro G p l e Rm s m args below meth c H locs cells slots mc ms ls Z hC h1 h2 h3 h4 hE hP hS h5 h6 hL
  subst ho; subst hst
  obtain ⟨hlk, ⟨hcode, hini, hdsc, hnl⟩, hinst, hsel, T, Nf, hcl⟩ := hc
  have hts : ∀ w ∈ xT, w.before args s = true := hC.2.2.2.2.1
  have hob := (hP.2.2.2.2 c1 (Or.inl hN)).2.2 (by rw [hsh])
  rw [hsh] at hob
  obtain ⟨cellB, q1, q2, q3, -⟩ := hob
  have hfc := (hC.2.2.2.2.2.1.1 ci _ hcl).2.1
  have hpre : PreV s H κ1.1.cls (x_ad G c1) (x_pre G (rr c1 :: as) N I Rf) (as.map (x_v G)) := ⟨x_blind G _ N I Rf, ⟨cellB, q1, by rw [q3]; rfl, by rw [q2]; exact hfc⟩, fun U hU hW => ⟨rfl, by rw [hU]; exact hP.moved hW.alike, hC.2.2.2.2.2.1.at hS hU hW, by rw [hU]; exact Nat.le_trans hC.2.2.2.2.2.2.2 hS.1⟩⟩
  have hroom : (x_room d1 mc1 ms1).frames + 1 ≤ Rm.frames ∧ 8 + (κ1.2.2.1 + 11) + (x_room d1 mc1 ms1).locals ≤ Rm.locals := ⟨by show d1 + 1 ≤ _; omega, by show 8 + (κ1.2.2.1 + 11) + 39 * d1 ≤ _; omega⟩
  have hrun : va_Run p l e Rm s m args below meth c H locs cells slots mc1 ms1 (F0 m pc ls ((as.reverse ++ rr c1 :: rest).map (x_v G))) (rest.map (x_v G)) (x_post G Q1 (Value.ref (x_ad G c1) :: as.map (x_v G)).toArray) (x_A G) := by
    have hw := x_rsum (G := G) hrest
    have hstk : (as.reverse ++ rr c1 :: rest).map (x_v G) = (as.map (x_v G)).reverse ++ .ref (x_ad G c1) :: rest.map (x_v G) := by rw [List.map_append, List.map_reverse, List.map_cons]; rfl
    rcases hlk with hlk | ⟨host, hlk⟩
    · exact va_runV ⟨hC.1, hC.2.1, hC.2.2.1, hC.2.2.2.1, hts⟩ (hsp G l) ⟨callB_of n hts (x_good κ1 hcode) rfl rfl rfl (hts _ hini) (hts _ hlk) hdsc hroom, hts _ hinst, hts _ hsel⟩ hpre rfl (by rw [List.length_map]; exact hn) (hL.1) hstk (by show 2 * 0 + _ ≤ 8; omega) hd ⟨by omega, by omega⟩
    · exact va_runVN ⟨hC.1, hC.2.1, hC.2.2.1, hC.2.2.2.1, hts⟩ (hsp G l) ⟨va_cnB n hts (x_good κ1 hcode) rfl rfl rfl (hC.2.2.2.2.2.1.2.2.1 _ hlk) (hts _ hini) hdsc hroom, hts _ hinst, hts _ hsel⟩ hpre rfl (by rw [List.length_map]; exact hn) (hL.1) hstk (by show 2 * 0 + _ ≤ 8; omega) hd ⟨by omega, by omega⟩
  exact x_back hrun hS (fun ro N1 I1 R1 H1 locs1 hq hp1 hS1 => kk ro N1 I1 R1 hq hC h1 h2 h3 h4 hE hp1 hS1 (by omega) (by omega) hL)
theorem X_callS {κ1 : xK} {own : String} {idx n d1 mc1 ms1 : Nat} {as rest : List xAV} {Q1 : xQ} (hd : decode κ.2.1 pc = .ok (.invokestatic idx, 3)) (ho : κ.1.cls = own) (hc : x_CS own idx κ1 n) (hsp : Sp κ1 d1 mc1 ms1 as N I Rf Q1) (hst : st = as.reverse ++ rest) (hn : as.length = n) (hdd : d1 + 1 ≤ d) (hrest : rest.length ≤ 8) (hbc : mc1 ≤ bc) (hbs : ms1 ≤ bs)
    (kk : ∀ ro N1 I1 R1, Q1 ro N1 I1 R1 → X κ d (bc - mc1) (bs - ms1) (pc + 3) L (ro.toList ++ rest) N1 I1 R1 Q) : X κ d bc bs pc L st N I Rf Q := by
  intro G p l e Rm s m args below meth c H locs cells slots mc ms ls Z hC h1 h2 h3 h4 hE hP hS h5 h6 hL
  subst ho; subst hst
  obtain ⟨hlk, ⟨hcode, hini, hdsc, hnl⟩, hstat⟩ := hc
  have hts : ∀ w ∈ xT, w.before args s = true := hC.2.2.2.2.1
  have hpre : PreS s H (x_pre G as N I Rf) (as.map (x_v G)) := ⟨x_blind G _ N I Rf, fun U hU hW => ⟨rfl, by rw [hU]; exact hP.moved hW.alike, hC.2.2.2.2.2.1.at hS hU hW, by rw [hU]; exact Nat.le_trans hC.2.2.2.2.2.2.2 hS.1⟩⟩
  have hroom : (x_room d1 mc1 ms1).frames + 1 ≤ Rm.frames ∧ 8 + (κ1.2.2.1 + 11) + (x_room d1 mc1 ms1).locals ≤ Rm.locals := ⟨by show d1 + 1 ≤ _; omega, by show 8 + (κ1.2.2.1 + 11) + 39 * d1 ≤ _; omega⟩
  have hrun : va_Run p l e Rm s m args below meth c H locs cells slots mc1 ms1 (F0 m pc ls ((as.reverse ++ rest).map (x_v G))) (rest.map (x_v G)) (x_post G Q1 (as.map (x_v G)).toArray) (x_A G) := by
    have hw := x_rsum (G := G) hrest
    have hstk : (as.reverse ++ rest).map (x_v G) = (as.map (x_v G)).reverse ++ rest.map (x_v G) := by rw [List.map_append, List.map_reverse]
    rcases hlk with hlk | ⟨host, hlk⟩
    · exact va_runS ⟨hC.1, hC.2.1, hC.2.2.1, hC.2.2.2.1, hts⟩ (hsp G l) ⟨callB_of n hts (x_good κ1 hcode) rfl rfl rfl (hts _ hini) (hts _ hlk) hdsc hroom, hts _ hstat⟩ hpre rfl (by rw [List.length_map]; exact hn) (hL.1) hstk (by show 2 * 0 + _ ≤ 8; omega) hd ⟨by omega, by omega⟩
    · exact va_runSN ⟨hC.1, hC.2.1, hC.2.2.1, hC.2.2.2.1, hts⟩ (hsp G l) ⟨va_cnB n hts (x_good κ1 hcode) rfl rfl rfl (hC.2.2.2.2.2.1.2.2.1 _ hlk) (hts _ hini) hdsc hroom, hts _ hstat, trivial⟩ hpre rfl (by rw [List.length_map]; exact hn) (hL.1) hstk (by show 2 * 0 + _ ≤ 8; omega) hd ⟨by omega, by omega⟩
  exact x_back hrun hS (fun ro N1 I1 R1 H1 locs1 hq hp1 hS1 => kk ro N1 I1 R1 hq hC h1 h2 h3 h4 hE hp1 hS1 (by omega) (by omega) hL)
/-- a constructor's call -/
theorem X_callC {y1 : MethodName} {b1 : ByteArray} {l1 : Nat} {own : String} {idx n c1 d1 mc1 ms1 : Nat} {as rest : List xAV} {Q1 : xQ} (hd : decode κ.2.1 pc = .ok (.invokespecial idx, 3)) (ho : κ.1.cls = own) (hc : x_CC own idx (y1, b1, l1, none) n) (hsp : Sp (y1, b1, l1, none) d1 mc1 ms1 (rr c1 :: as) N I Rf Q1) (hst : st = as.reverse ++ rr c1 :: rest) (hn : as.length = n) (hdd : d1 + 1 ≤ d) (hrest : rest.length ≤ 8) (hbc : mc1 ≤ bc) (hbs : ms1 ≤ bs)
    (kk : ∀ ro N1 I1 R1, Q1 ro N1 I1 R1 → X κ d (bc - mc1) (bs - ms1) (pc + 3) L (ro.toList ++ rest) N1 I1 R1 Q) : X κ d bc bs pc L st N I Rf Q := by
  intro G p l e Rm s m args below meth c H locs cells slots mc ms ls Z hC h1 h2 h3 h4 hE hP hS h5 h6 hL
  subst ho; subst hst
  obtain ⟨hlk, ⟨hcode, hini, hdsc, hnl⟩, hinst, hnm, -⟩ := hc
  have hts : ∀ w ∈ xT, w.before args s = true := hC.2.2.2.2.1
  have hpre : PreS s H (x_pre G (rr c1 :: as) N I Rf) (.ref (x_ad G c1) :: as.map (x_v G)) := ⟨x_blind G _ N I Rf, fun U hU hW => ⟨rfl, by rw [hU]; exact hP.moved hW.alike, hC.2.2.2.2.2.1.at hS hU hW, by rw [hU]; exact Nat.le_trans hC.2.2.2.2.2.2.2 hS.1⟩⟩
  have hroom : (x_room d1 mc1 ms1).frames + 1 ≤ Rm.frames ∧ 8 + (l1 + 11) + (x_room d1 mc1 ms1).locals ≤ Rm.locals := ⟨by show d1 + 1 ≤ _; omega, by
    have hnl : l1 ≤ 20 := hnl
    show 8 + (l1 + 11) + 39 * d1 ≤ _; omega⟩
  have hrun : va_Run p l e Rm s m args below meth c H locs cells slots mc1 ms1 (F0 m pc ls ((as.reverse ++ rr c1 :: rest).map (x_v G))) (rest.map (x_v G)) (x_post G Q1 (Value.ref (x_ad G c1) :: as.map (x_v G)).toArray) (x_A G) := by
    have hw := x_rsum (G := G) hrest
    have hstk : (as.reverse ++ rr c1 :: rest).map (x_v G) = (as.map (x_v G)).reverse ++ .ref (x_ad G c1) :: rest.map (x_v G) := by rw [List.map_append, List.map_reverse, List.map_cons]; rfl
    rcases hlk with hlk | ⟨host, hlk⟩
    · exact va_runI ⟨hC.1, hC.2.1, hC.2.2.1, hC.2.2.2.1, hts⟩ (hsp G l) ⟨callB_of n hts (x_good (y1, b1, l1, none) hcode) rfl rfl rfl (hts _ hini) (hts _ hlk) hdsc hroom, hnm, hts _ hinst⟩ hpre rfl (by rw [List.length_map]; exact hn) (hL.1) hstk (by show 2 * 0 + _ ≤ 8; omega) hd ⟨by omega, by omega⟩
    · exact va_runIN ⟨hC.1, hC.2.1, hC.2.2.1, hC.2.2.2.1, hts⟩ (hsp G l) ⟨va_cnB n hts (x_good (y1, b1, l1, none) hcode) rfl rfl rfl (hC.2.2.2.2.2.1.2.2.1 _ hlk) (hts _ hini) hdsc hroom, hnm, hts _ hinst⟩ hpre rfl (by rw [List.length_map]; exact hn) (hL.1) hstk (by show 2 * 0 + _ ≤ 8; omega) hd ⟨by omega, by omega⟩
  exact x_back hrun hS (fun ro N1 I1 R1 H1 locs1 hq hp1 hS1 => kk ro N1 I1 R1 hq hC h1 h2 h3 h4 hE hp1 hS1 (by omega) (by omega) hL)
theorem X_objInit {own : String} {idx : Nat} {c1 : Nat} (hd : decode κ.2.1 pc = .ok (.invokespecial idx, 3)) (ho : κ.1.cls = own) (hl : Cond.methodLink own idx Lib.objectInit ∈ xT) (hd1 : 1 ≤ d) (hr : st.length ≤ 8) (kk : X κ d bc bs (pc + 3) L st N I Rf Q) : X κ d bc bs pc L (rr c1 :: st) N I Rf Q := by
  intro G p l e Rm s m args below meth c H locs cells slots mc ms ls Z hC h1 h2 h3 h4 hE hP hS h5 h6 hL
  subst ho
  have hw := x_rsum (G := G) hr
  exact W.objInit hC.1 hC.2.1 hC.2.2.2.1 (hC.2.2.2.2.1 _ hl) (hC.2.2.2.2.1 _ xw_obj_inst) (hC.2.2.2.2.1 _ xw_obj_code) rfl (by rw [hC.2.2.1]; exact hL.1) rfl hd (by omega) (by show 2 * 0 + _ + 12 ≤ _; omega) (kk hC h1 h2 h3 h4 hE hP hS h5 h6 hL)
/-! making cells -/
theorem X_new {own : String} {idx ci : Nat} {C : String} {T : u_T} {Nf : Nat} (ty : Nat → FieldType) (hd : decode κ.2.1 pc = .ok (.new idx, 3)) (ho : κ.1.cls = own) (hc : vwCl[ci]? = some (C, T, Nf)) (hnf : x_nf ci = Nf) (hin : ∀ w ∈ u_ws C T Nf, w ∈ xT) (hty : ∀ k, k < Nf → parseFieldDescriptor (T k).2.2.1 = some (ty k)) (hcl : Cond.classLink own idx C ∈ xT) (hins : Cond.instantiable C Nf ∈ xT) (hini : Cond.initialized C ∈ xT) (hsh : x_sh N = (2, ci)) (hN : N < 94) (hfs : ∀ j, j < Nf → defaultValue (ty j) = if x_ir ci j = true then .null else .int 0) {bc' bs' : Nat} (hbc : bc = bc' + 1) (hbs : bs = bs' + Nf)
    (kk : X κ d bc' bs' (pc + 3) L (rr N :: st) (N + 1) (x_z I N) (x_zR Rf N) Q) : X κ d bc bs pc L st N I Rf Q := by
  intro G p l e Rm s m args below meth c H locs cells slots mc ms ls Z hC h1 h2 h3 h4 hE hP hS h5 h6 hL
  subst ho; subst hbc; subst hbs
  have hts : ∀ w ∈ xT, w.before args s = true := hC.2.2.2.2.1
  have hKn := hC.2.2.2.2.2.1.1 ci _ hc
  refine W.newcK hC.1 hC.2.1 hC.2.2.2.1 (hts _ hcl) (hts _ hins) (hts _ hini) rfl hd (by omega) (by omega) hKn.2.1 rfl fun H' kC hkC e1 e2 e3 => ?_
  have had : H.size = x_ad G N := by rw [x_ad_lt (N := N + 1) (by omega) (by omega)]; exact hP.2.1
  rw [had] at e1
  have hcell : x_cell G (x_z I N) (x_zR Rf N) s H' N := by
    refine ⟨fun h => ?_, fun h => ?_, fun _ => ?_⟩
    · rw [hsh] at h; simp at h
    · rw [hsh] at h; simp at h
    · rw [hsh]
      show t_OB (x_ad G N) (G.2.1 ci) (x_nf ci) (G.2.2.1 ci) H' (x_fv G (x_z I N) (x_zR Rf N) N ci)
      rw [hnf]
      refine (u_born ty hts hin hKn hkC e1 hty).to (fun j hj => ?_)
      rw [hfs j hj]
      unfold x_fv x_z x_zR
      split
      · simp [va_rf]
      · simp
  have hP' := hP.push (I' := x_z I N) (Rf' := x_zR Rf N) hN (fun c' h => by funext j; simp [x_z, h]) (fun c' h => by funext j; simp [x_zR, h]) hcell e2 e3
  have kk2 := kk hC h1 h2 h3 h4 hE hP' (H := H') (locs := locs) (cells := cells + 1) (slots := slots + Nf) ⟨Nat.le_trans hS.1 (by omega), fun q g1 g2 => (e3 q (Nat.lt_of_lt_of_le g1 hS.1)).trans (hS.2.1 q g1 g2), hS.2.2⟩ (by omega) (by omega) hL
  rw [had]
  exact kk2
theorem X_newI {n : Int} {n' : Nat} (hd : decode κ.2.1 pc = .ok (.newarray .int, 2)) (hn : n = (n' : Int)) (hsh : x_sh N = (0, n')) (hN : N < 94) {bc' bs' : Nat} (hbc : bc = bc' + 1) (hbs : bs = bs' + n')
    (kk : X κ d bc' bs' (pc + 2) L (rr N :: st) (N + 1) (x_z I N) (x_zR Rf N) Q) : X κ d bc bs pc L (ii n :: st) N I Rf Q := by
  intro G p l e Rm s m args below meth c H locs cells slots mc ms ls Z hC h1 h2 h3 h4 hE hP hS h5 h6 hL
  subst hbc; subst hbs; subst hn
  have hn0 : n' < 1000 := by have := x_sh_lt N; rw [hsh] at this; exact this
  have hts : ∀ w ∈ xT, w.before args s = true := hC.2.2.2.2.1
  have had : H.size = x_ad G N := by rw [x_ad_lt (N := N + 1) (by omega) (by omega)]; exact hP.2.1
  refine va_newaK (atype := .int) hC.1 hC.2.1 (hts _ xw_arr_int) rfl hd (n := Int32.ofInt (n' : Int)) (N := n') (rest := st.map (x_v G)) rfl (fun q => by rw [x_zero, x_lt (by omega) (by omega)] at q; omega) (by rw [x_cl (by omega)]; omega) (by show n' * 4 ≤ _; omega) (by omega) (by omega) had fun H' cA e1 e2 e3 hAr _ => ?_
  have hcell : x_cell G (x_z I N) (x_zR Rf N) s H' N := by
    refine ⟨fun _ => ?_, fun h => ?_, fun h => ?_⟩
    · rw [hsh]
      refine ⟨_, e1, hAr _ _, fun h => (by cases h), by rw [arrV_size], fun j hj => ?_⟩
      rw [arrV_read _ _ hj]
      simp [x_z]
      rfl
    · rw [hsh] at h; simp at h
    · rw [hsh] at h; simp at h
  have hP' := hP.push (I' := x_z I N) (Rf' := x_zR Rf N) hN (fun c' h => by funext j; simp [x_z, h]) (fun c' h => by funext j; simp [x_zR, h]) hcell (by rw [e2, had]) (fun q hq => e3 q (by rw [← had]; exact hq))
  exact kk hC h1 h2 h3 h4 hE hP' (H := H') (locs := locs) (cells := cells + 1) (slots := slots + n') ⟨Nat.le_trans hS.1 (by omega), fun q g1 g2 => (e3 q (by rw [← had]; exact Nat.lt_of_lt_of_le g1 hS.1)).trans (hS.2.1 q g1 g2), hS.2.2⟩ (by omega) (by omega) hL
theorem X_newR {own : String} {idx : Nat} {n : Int} {n' : Nat} (hd : decode κ.2.1 pc = .ok (.anewarray idx, 3)) (ho : κ.1.cls = own) (hcl : Cond.classLink own idx "HeatShelves$State" ∈ xT) (hn : n = (n' : Int)) (hsh : x_sh N = (1, n')) (hN : N < 94) {bc' bs' : Nat} (hbc : bc = bc' + 1) (hbs : bs = bs' + n')
    (kk : X κ d bc' bs' (pc + 3) L (rr N :: st) (N + 1) (x_z I N) (x_zR Rf N) Q) : X κ d bc bs pc L (ii n :: st) N I Rf Q := by
  intro G p l e Rm s m args below meth c H locs cells slots mc ms ls Z hC h1 h2 h3 h4 hE hP hS h5 h6 hL
  subst hbc; subst hbs; subst hn; subst ho
  have hn0 : n' < 1000 := by have := x_sh_lt N; rw [hsh] at this; exact this
  have hts : ∀ w ∈ xT, w.before args s = true := hC.2.2.2.2.1
  have had : H.size = x_ad G N := by rw [x_ad_lt (N := N + 1) (by omega) (by omega)]; exact hP.2.1
  have hcl2 : (Int32.ofInt (n' : Int)).toNatClampNeg = n' := by rw [x_cl (by omega)]; omega
  refine W.anew hC.1 hC.2.1 hC.2.2.2.1 (hts _ hcl) (va_AO.use hC.2.2.2.2.2.1.2.2.2.2.2) rfl hd (n := Int32.ofInt (n' : Int)) (rest := st.map (x_v G)) rfl (fun q => by rw [x_zero, x_lt (by omega) (by omega)] at q; omega) (by rw [hcl2]; omega) (by omega) (by rw [hcl2]; omega) fun cA kA comp f1 f2 f3 f4 => ?_
  rw [hcl2]
  generalize hH1 : H.push ({ cls := cA, slots := Array.replicate n' .null, vm := .none } : Cell) = H'
  have e2 : H'.size = H.size + 1 := by rw [← hH1, Array.size_push]
  have e1 : H'[H.size]? = some (arrV cA n' (fun _ => .null)) := by rw [← hH1, Array.getElem?_push_size, ← arrV_new]
  have e3 : ∀ q : Nat, q < H.size → H'[q]? = H[q]? := fun q hq => by rw [← hH1, Array.getElem?_push, if_neg (Nat.ne_of_lt hq)]
  have hAr : ArrOfT s cA (.object "HeatShelves$State") := fun N z => ⟨(fun k h => by cases h), kA, f2, comp, f3⟩
  have hcell : x_cell G (x_z I N) (x_zR Rf N) s H' N := by
    refine ⟨fun h => ?_, fun _ => ?_, fun h => ?_⟩
    · rw [hsh] at h; simp at h
    · rw [hsh, ← had]
      refine ⟨cA, ?_, hAr, kA, comp, f2, f3, f4, f1⟩
      rw [e1]
      congr 2
      funext q
      simp [x_zR, va_rf]
    · rw [hsh] at h; simp at h
  have hP' := hP.push (I' := x_z I N) (Rf' := x_zR Rf N) hN (fun c' h => by funext j; simp [x_z, h]) (fun c' h => by funext j; simp [x_zR, h]) hcell e2 e3
  have kk2 := kk hC h1 h2 h3 h4 hE hP' (H := H') (locs := locs) (cells := cells + 1) (slots := slots + n') ⟨Nat.le_trans hS.1 (by omega), fun q g1 g2 => (e3 q (Nat.lt_of_lt_of_le g1 hS.1)).trans (hS.2.1 q g1 g2), hS.2.2⟩ (by omega) (by omega) hL
  rw [had]
  exact kk2
/-! a method's contract out of its body -/
theorem x_args (vs : List Value) (h : ∀ v ∈ vs, v.category = 1) : ∀ (i j : Nat) (v : Value), vs[j]? = some v → (i + j, v) ∈ lv_args i vs := by
  induction vs with
  | nil => intro i j v hv; simp at hv
  | cons a vs ih =>
    intro i j v hv
    have ha : ¬ a.category = 2 := by rw [h a List.mem_cons_self]; decide
    cases j with
    | zero =>
      simp at hv
      subst hv
      exact List.mem_cons_self
    | succ j =>
      rw [List.getElem?_cons_succ] at hv
      have h1 := ih (fun v hv => h v (List.mem_cons_of_mem _ hv)) (i + 1) j v hv
      show _ ∈ (i, a) :: lv_args (if a.category = 2 then i + 2 else i + 1) vs
      rw [if_neg ha]
      exact List.mem_cons_of_mem _ (by rw [show i + (j + 1) = i + 1 + j by omega]; exact h1)
theorem x_sl (G : xG) (as : List xAV) : (lg_sl (as.map (x_v G))).length = as.length := by
  induction as with
  | nil => rfl
  | cons a as ih =>
    show ((if (x_v G a).category = 2 then [Slot.val (x_v G a), Slot.second] else [Slot.val (x_v G a)]) ++ lg_sl (as.map (x_v G))).length = _
    rw [if_neg (by rw [x_cat]; decide), List.length_append, ih]
    show 1 + as.length = as.length + 1
    omega
theorem x_start (G : xG) (as : List xAV) {nL : Nat} (h : as.length ≤ nL) : x_L G nL ((lg_sl (as.map (x_v G)) ++ List.replicate (nL - (lg_sl (as.map (x_v G))).length) Slot.unset).toArray) (as.map some ++ List.replicate (nL - as.length) none) := by
  have h1 := lv_entry (as.map (x_v G)) (n := nL) (by rw [x_sl]; exact h)
  refine ⟨h1.1, h1.2.1, by simp; omega, fun i a ha => ?_⟩
  have hlt : i < as.length := by
    rcases Nat.lt_or_ge i as.length with q | q
    · exact q
    · rw [List.getElem?_append_right (by simpa using q)] at ha
      have h2 := List.mem_of_getElem? ha
      rw [List.mem_replicate] at h2
      exact absurd h2.2 (by simp)
  rw [List.getElem?_append_left (by simpa using hlt), List.getElem?_map] at ha
  have ha2 : as[i]? = some a := by
    cases h3 : as[i]? with
    | none => rw [h3] at ha; cases ha
    | some b => rw [h3] at ha; simp at ha; rw [ha]
  have h4 := x_args (as.map (x_v G)) (fun v hv => by obtain ⟨b, -, rfl⟩ := List.mem_map.mp hv; exact x_cat G b) 0 i (x_v G a) (by rw [List.getElem?_map, ha2]; rfl)
  rw [Nat.zero_add] at h4
  exact h1.2.2 _ h4
theorem Sp_intro {mc ms : Nat} {as : List xAV} (hpl : plainName κ.1.cls = true) (hlen : as.length ≤ κ.2.2.1) (body : X κ d mc ms 0 (as.map some ++ List.replicate (κ.2.2.1 - as.length) none) [] N I Rf Q) : Sp κ d mc ms as N I Rf Q := by
  intro G l
  refine Met.ofW (cc := κ.2.1) (maxL := κ.2.2.1) (ret := κ.2.2.2) hpl rfl ?_
  intro p e s m args below meth c s₁ B hml hv
  obtain ⟨rfl, hP, hKF, hsz⟩ := hv
  have hts := atoms_spec (ws := x_ws κ) B.pre
  have hlocks := B.notSynchronized
  rw [lg_entry_eq]
  have hL := x_start G as hlen
  generalize (lg_sl (as.map (x_v G)) ++ List.replicate (κ.2.2.1 - (lg_sl (as.map (x_v G))).length) Slot.unset).toArray = ls at hL ⊢
  refine body (G := G) ⟨B.exec, B.bytes, hml, findClass_of_methodNamed B.named, fun w hw => hts w (List.mem_cons_of_mem _ hw), hKF, (name_of_methodNamed B.named B.method).1, hsz⟩ (Nat.le_refl d) (Nat.le_refl _) (Nat.le_refl mc) (Nat.le_refl ms) ?_ hP va_S.rf (by omega) (by omega) hL
  intro ro N' I' Rf' H' locs' cells' slots' pc' ls' st' hQ hP' hS' g1 g2 hret
  refine W.widen (k := mc) (n := ms) g1 g2 ?_
  rcases hret with ⟨z, rfl, rfl, hd, hr⟩ | ⟨rfl, rfl, hd, hr⟩ | ⟨o, rfl, rfl, hd, hr⟩
  · rcases hr with hr | ⟨hr, hz⟩
    · exact W.iret (v := Int32.ofInt z) B.exec B.bytes (B.returns.trans hr) (fun t ht hW => ⟨⟨some (ii z), N', I', Rf', rfl, hQ, by rw [ht]; exact hP'.moved hW.alike⟩, hS'.F ht⟩) hS'.2.2 hd hlocks
    · exact W.zret (v := Int32.ofInt z) (ty := .boolean) B.exec B.bytes (B.returns.trans hr) (by rcases hz with rfl | rfl <;> rfl) (fun t ht hW => ⟨⟨some (ii z), N', I', Rf', rfl, hQ, by rw [ht]; exact hP'.moved hW.alike⟩, hS'.F ht⟩) hS'.2.2 hd hlocks
  · exact W.vret B.exec B.bytes (B.returns.trans hr) (fun t ht hW => ⟨⟨none, N', I', Rf', rfl, hQ, by rw [ht]; exact hP'.moved hW.alike⟩, hS'.F ht⟩) hS'.2.2 hd hlocks
  · exact W.aret (v := va_rf (o.map (x_ad G))) B.exec B.bytes (B.returns.trans hr) (Or.inl ⟨_, rfl⟩) (by cases o <;> simp [va_rf]) (fun t ht hW => ⟨⟨some (.inr o), N', I', Rf', rfl, hQ, by rw [ht]; exact hP'.moved hW.alike⟩, hS'.F ht⟩) hS'.2.2 hd hlocks
end XR
end
section
/-! the methods, and what their instructions link -/
theorem inX0 : ∀ w ∈ u_ws RX0 TX0 3, w ∈ xT := fun w h => xT_of ((by decide +kernel : ∀ w ∈ u_ws RX0 TX0 3, w ∈ lw_tbl) w h) (List.all_eq_true.mp (by decide +kernel : (u_ws RX0 TX0 3).all goodWord = true) w h)
theorem inX1 : ∀ w ∈ u_ws RX1 TX1 2, w ∈ xT := fun w h => xT_of ((by decide +kernel : ∀ w ∈ u_ws RX1 TX1 2, w ∈ lw_tbl) w h) (List.all_eq_true.mp (by decide +kernel : (u_ws RX1 TX1 2).all goodWord = true) w h)
theorem inX2 : ∀ w ∈ u_ws RX2 TX2 7, w ∈ xT := fun w h => xT_of ((by decide +kernel : ∀ w ∈ u_ws RX2 TX2 7, w ∈ lw_tbl) w h) (List.all_eq_true.mp (by decide +kernel : (u_ws RX2 TX2 7).all goodWord = true) w h)
theorem inX3 : ∀ w ∈ u_ws RX3 TX3 10, w ∈ xT := fun w h => xT_of ((by decide +kernel : ∀ w ∈ u_ws RX3 TX3 10, w ∈ lw_tbl) w h) (List.all_eq_true.mp (by decide +kernel : (u_ws RX3 TX3 10).all goodWord = true) w h)
theorem inX4 : ∀ w ∈ u_ws RX4 TX4 7, w ∈ xT := fun w h => xT_of ((by decide +kernel : ∀ w ∈ u_ws RX4 TX4 7, w ∈ lw_tbl) w h) (List.all_eq_true.mp (by decide +kernel : (u_ws RX4 TX4 7).all goodWord = true) w h)
theorem inX5 : ∀ w ∈ u_ws RX5 TX5 8, w ∈ xT := fun w h => xT_of ((by decide +kernel : ∀ w ∈ u_ws RX5 TX5 8, w ∈ lw_tbl) w h) (List.all_eq_true.mp (by decide +kernel : (u_ws RX5 TX5 8).all goodWord = true) w h)
abbrev kX0_init : xK := (yX0_init, cX0_init, 2, none)
abbrev kX0_stateAt : xK := (yX0_stateAt, cX0_stateAt, 3, (some (.object "HeatShelves$State")))
abbrev kX0_record : xK := (yX0_record, cX0_record, 3, none)
abbrev kX0_takeLatest : xK := (yX0_takeLatest, cX0_takeLatest, 3, (some .boolean))
abbrev kX1_init : xK := (yX1_init, cX1_init, 1, none)
abbrev kX1_letPass : xK := (yX1_letPass, cX1_letPass, 7, (some .int))
abbrev kX1_findWhoMayMove : xK := (yX1_findWhoMayMove, cX1_findWhoMayMove, 5, none)
abbrev kX1_moveInTurn : xK := (yX1_moveInTurn, cX1_moveInTurn, 8, (some .int))
abbrev kX1_nextInTurn : xK := (yX1_nextInTurn, cX1_nextInTurn, 9, (some .int))
abbrev kX1_shelfToMoveTo : xK := (yX1_shelfToMoveTo, cX1_shelfToMoveTo, 6, (some .int))
abbrev kX1_promiseIfDeep : xK := (yX1_promiseIfDeep, cX1_promiseIfDeep, 3, none)
abbrev kX2_init : xK := (yX2_init, cX2_init, 1, none)
abbrev kX2_append : xK := (yX2_append, cX2_append, 2, (some .int))
abbrev kX2_empty : xK := (yX2_empty, cX2_empty, 2, (some .int))
abbrev kX2_readAll : xK := (yX2_readAll, cX2_readAll, 1, (some .int))
abbrev kX2_readOrder : xK := (yX2_readOrder, cX2_readOrder, 4, (some .boolean))
abbrev kX2_isKind : xK := (yX2_isKind, cX2_isKind, 2, (some .boolean))
abbrev kX2_leastOf : xK := (yX2_leastOf, cX2_leastOf, 2, (some .int))
abbrev kX2_greatestOf : xK := (yX2_greatestOf, cX2_greatestOf, 2, (some .int))
abbrev kX2_readNumber : xK := (yX2_readNumber, cX2_readNumber, 5, (some .int))
abbrev kX2_digitHere : xK := (yX2_digitHere, cX2_digitHere, 2, (some .int))
abbrev kX2_signHere : xK := (yX2_signHere, cX2_signHere, 1, (some .int))
abbrev kX3_init : xK := (yX3_init, cX3_init, 1, none)
abbrev kX3_copyFrom : xK := (yX3_copyFrom, cX3_copyFrom, 2, none)
abbrev kX3_countBlocks : xK := (yX3_countBlocks, cX3_countBlocks, 1, (some .int))
abbrev kX3_find : xK := (yX3_find, cX3_find, 4, (some .int))
abbrev kX3_placeOfRank : xK := (yX3_placeOfRank, cX3_placeOfRank, 4, (some .int))
abbrev kX3_countHotter : xK := (yX3_countHotter, cX3_countHotter, 7, (some .int))
abbrev kX3_wantedShelf : xK := (yX3_wantedShelf, cX3_wantedShelf, 3, (some .int))
abbrev kX3_hasRoom : xK := (yX3_hasRoom, cX3_hasRoom, 3, (some .boolean))
abbrev kX3_countOnShelf : xK := (yX3_countOnShelf, cX3_countOnShelf, 5, (some .int))
abbrev kX3_heatOnShelf : xK := (yX3_heatOnShelf, cX3_heatOnShelf, 5, (some .int))
abbrev kX3_heatOfAll : xK := (yX3_heatOfAll, cX3_heatOfAll, 3, (some .int))
abbrev kX3_nightPriceOfShelf : xK := (yX3_nightPriceOfShelf, cX3_nightPriceOfShelf, 2, (some .int))
abbrev kX3_countPinned : xK := (yX3_countPinned, cX3_countPinned, 4, (some .int))
abbrev kX3_addBlock : xK := (yX3_addBlock, cX3_addBlock, 5, (some .int))
abbrev kX3_fastestWithRoom : xK := (yX3_fastestWithRoom, cX3_fastestWithRoom, 3, (some .int))
abbrev kX3_dropBlock : xK := (yX3_dropBlock, cX3_dropBlock, 4, (some .int))
abbrev kX3_readBlock : xK := (yX3_readBlock, cX3_readBlock, 6, (some .int))
abbrev kX3_readOnce : xK := (yX3_readOnce, cX3_readOnce, 4, (some .int))
abbrev kX3_askBack : xK := (yX3_askBack, cX3_askBack, 4, (some .int))
abbrev kX3_moveTo : xK := (yX3_moveTo, cX3_moveTo, 4, none)
abbrev kX3_payNight : xK := (yX3_payNight, cX3_payNight, 2, none)
abbrev kX3_fade : xK := (yX3_fade, cX3_fade, 4, none)
abbrev kX3_turnPin : xK := (yX3_turnPin, cX3_turnPin, 5, (some .int))
abbrev kX3_flipPin : xK := (yX3_flipPin, cX3_flipPin, 2, (some .int))
abbrev kX3_changeSetting : xK := (yX3_changeSetting, cX3_changeSetting, 4, (some .int))
abbrev kX3_allowsSetting : xK := (yX3_allowsSetting, cX3_allowsSetting, 3, (some .boolean))
abbrev kX4_init : xK := (yX4_init, cX4_init, 1, none)
abbrev kX4_add : xK := (yX4_add, cX4_add, 2, (some .int))
abbrev kX4_remove : xK := (yX4_remove, cX4_remove, 2, (some .int))
abbrev kX4_read : xK := (yX4_read, cX4_read, 3, (some .int))
abbrev kX4_pin : xK := (yX4_pin, cX4_pin, 3, (some .int))
abbrev kX4_pass : xK := (yX4_pass, cX4_pass, 2, (some .int))
abbrev kX4_set : xK := (yX4_set, cX4_set, 3, (some .int))
abbrev kX4_type : xK := (yX4_type, cX4_type, 2, (some .int))
abbrev kX4_clearText : xK := (yX4_clearText, cX4_clearText, 1, (some .int))
abbrev kX4_perform : xK := (yX4_perform, cX4_perform, 4, (some .int))
abbrev kX4_undo : xK := (yX4_undo, cX4_undo, 1, (some .int))
abbrev kX4_keep : xK := (yX4_keep, cX4_keep, 1, (some .int))
abbrev kX4_restore : xK := (yX4_restore, cX4_restore, 1, (some .int))
abbrev kX4_block : xK := (yX4_block, cX4_block, 3, (some .int))
abbrev kX4_ofBlock : xK := (yX4_ofBlock, cX4_ofBlock, 4, (some .int))
abbrev kX4_shelf : xK := (yX4_shelf, cX4_shelf, 3, (some .int))
abbrev kX4_total : xK := (yX4_total, cX4_total, 2, (some .int))
abbrev kX4_ifPassed : xK := (yX4_ifPassed, cX4_ifPassed, 4, (some .int))
abbrev kX4_nextMove : xK := (yX4_nextMove, cX4_nextMove, 2, (some .int))
abbrev kX4_bestHot : xK := (yX4_bestHot, cX4_bestHot, 9, (some .int))
abbrev kX4_cheapest : xK := (yX4_cheapest, cX4_cheapest, 6, (some .int))
abbrev kX4_settle : xK := (yX4_settle, cX4_settle, 2, (some .int))
abbrev kX4_passInWork : xK := (yX4_passInWork, cX4_passInWork, 2, (some .int))
abbrev kX4_performInWork : xK := (yX4_performInWork, cX4_performInWork, 4, (some .int))
abbrev kX4_whyItStays : xK := (yX4_whyItStays, cX4_whyItStays, 2, (some .int))
abbrev kX4_paidForNightsInWork : xK := (yX4_paidForNightsInWork, cX4_paidForNightsInWork, 1, (some .int))
abbrev kX4_paidWithHot : xK := (yX4_paidWithHot, cX4_paidWithHot, 3, (some .int))
abbrev kX4_priceOfStay : xK := (yX4_priceOfStay, cX4_priceOfStay, 5, (some .int))
abbrev kX4_at : xK := (yX4_at, cX4_at, 2, (some .int))
abbrev kX4_put : xK := (yX4_put, cX4_put, 3, none)
abbrev kX4_raise : xK := (yX4_raise, cX4_raise, 3, none)
abbrev kX4_copyRow : xK := (yX4_copyRow, cX4_copyRow, 2, none)
abbrev kX4_closeGap : xK := (yX4_closeGap, cX4_closeGap, 3, none)
abbrev kX5_init : xK := (yX5_init, cX5_init, 1, none)
abbrev kX5_in : xK := (yX5_in, cX5_in, 3, (some .boolean))
abbrev kX5_copies : xK := (yX5_copies, cX5_copies, 2, none)
abbrev kX5_remembers : xK := (yX5_remembers, cX5_remembers, 2, none)
abbrev kX5_lays : xK := (yX5_lays, cX5_lays, 2, none)
abbrev kX5_at : xK := (yX5_at, cX5_at, 2, (some .int))
abbrev kX5_placeOf : xK := (yX5_placeOf, cX5_placeOf, 4, (some .int))
abbrev kX5_on : xK := (yX5_on, cX5_on, 7, (some .int))
abbrev kX5_hasRoom : xK := (yX5_hasRoom, cX5_hasRoom, 4, (some .boolean))
abbrev kX5_wanted : xK := (yX5_wanted, cX5_wanted, 4, (some .int))
abbrev kX5_target : xK := (yX5_target, cX5_target, 6, (some .int))
abbrev kX5_next : xK := (yX5_next, cX5_next, 7, (some .int))
abbrev kX5_turns : xK := (yX5_turns, cX5_turns, 7, (some .int))
abbrev kX5_costs : xK := (yX5_costs, cX5_costs, 3, (some .int))
abbrev kX5_passesOne : xK := (yX5_passesOne, cX5_passesOne, 5, (some .int))
abbrev kX5_passes : xK := (yX5_passes, cX5_passes, 5, (some .int))
abbrev kX5_adds : xK := (yX5_adds, cX5_adds, 5, (some .int))
abbrev kX5_removes : xK := (yX5_removes, cX5_removes, 5, (some .int))
abbrev kX5_readsOne : xK := (yX5_readsOne, cX5_readsOne, 6, (some .int))
abbrev kX5_reads : xK := (yX5_reads, cX5_reads, 6, (some .int))
abbrev kX5_pinned : xK := (yX5_pinned, cX5_pinned, 4, (some .int))
abbrev kX5_turnsPin : xK := (yX5_turnsPin, cX5_turnsPin, 3, (some .int))
abbrev kX5_passesIn : xK := (yX5_passesIn, cX5_passesIn, 2, (some .int))
abbrev kX5_changes : xK := (yX5_changes, cX5_changes, 2, (some .int))
abbrev kX5_add : xK := (yX5_add, cX5_add, 2, (some .int))
abbrev kX5_remove : xK := (yX5_remove, cX5_remove, 2, (some .int))
abbrev kX5_read : xK := (yX5_read, cX5_read, 3, (some .int))
abbrev kX5_pin : xK := (yX5_pin, cX5_pin, 4, (some .int))
abbrev kX5_pass : xK := (yX5_pass, cX5_pass, 2, (some .int))
abbrev kX5_mostOf : xK := (yX5_mostOf, cX5_mostOf, 1, (some .int))
abbrev kX5_set : xK := (yX5_set, cX5_set, 5, (some .int))
abbrev kX5_type : xK := (yX5_type, cX5_type, 2, (some .int))
abbrev kX5_clearText : xK := (yX5_clearText, cX5_clearText, 2, (some .int))
abbrev kX5_sign : xK := (yX5_sign, cX5_sign, 2, (some .int))
abbrev kX5_digit : xK := (yX5_digit, cX5_digit, 2, (some .int))
abbrev kX5_numberEnd : xK := (yX5_numberEnd, cX5_numberEnd, 6, (some .int))
abbrev kX5_numberAt : xK := (yX5_numberAt, cX5_numberAt, 4, (some .int))
abbrev kX5_orderEnd : xK := (yX5_orderEnd, cX5_orderEnd, 3, (some .int))
abbrev kX5_fault : xK := (yX5_fault, cX5_fault, 4, (some .int))
abbrev kX5_does : xK := (yX5_does, cX5_does, 4, (some .int))
abbrev kX5_perform : xK := (yX5_perform, cX5_perform, 5, (some .int))
abbrev kX5_undo : xK := (yX5_undo, cX5_undo, 2, (some .int))
abbrev kX5_keep : xK := (yX5_keep, cX5_keep, 2, (some .int))
abbrev kX5_restore : xK := (yX5_restore, cX5_restore, 2, (some .int))
abbrev kX5_block : xK := (yX5_block, cX5_block, 6, (some .int))
abbrev kX5_whyStays : xK := (yX5_whyStays, cX5_whyStays, 3, (some .int))
abbrev kX5_ofBlock : xK := (yX5_ofBlock, cX5_ofBlock, 4, (some .int))
abbrev kX5_shelf : xK := (yX5_shelf, cX5_shelf, 3, (some .int))
abbrev kX5_heat : xK := (yX5_heat, cX5_heat, 2, (some .int))
abbrev kX5_total : xK := (yX5_total, cX5_total, 2, (some .int))
abbrev kX5_ifPassed : xK := (yX5_ifPassed, cX5_ifPassed, 4, (some .int))
abbrev kX5_nextMove : xK := (yX5_nextMove, cX5_nextMove, 2, (some .int))
abbrev kX5_bestHot : xK := (yX5_bestHot, cX5_bestHot, 9, (some .int))
abbrev kX5_cheapest : xK := (yX5_cheapest, cX5_cheapest, 9, (some .int))
abbrev kL_law : xK := (yL_law, cL_law, 4, (some .boolean))
theorem ck_X0_init : x_cal kX0_init 0 := ⟨(xT_of (List.mem_append_right _ (List.mem_of_getElem? (i := 86) rfl)) rfl), (xT_of (List.mem_append_right _ (List.mem_of_getElem? (i := 5) rfl)) rfl), ⟨by decide, by decide, by decide +kernel⟩, by decide⟩
theorem ck_X0_record : x_cal kX0_record 1 := ⟨(xT_of (List.mem_append_right _ (List.mem_of_getElem? (i := 211) rfl)) rfl), (xT_of (List.mem_append_right _ (List.mem_of_getElem? (i := 5) rfl)) rfl), ⟨by decide, by decide, by decide +kernel⟩, by decide⟩
theorem ck_X0_stateAt : x_cal kX0_stateAt 1 := ⟨(xT_of (List.mem_append_right _ (List.mem_of_getElem? (i := 215) rfl)) rfl), (xT_of (List.mem_append_right _ (List.mem_of_getElem? (i := 5) rfl)) rfl), ⟨by decide, by decide, by decide +kernel⟩, by decide⟩
set_option maxRecDepth 20000 in
theorem ck_X0_takeLatest : x_cal kX0_takeLatest 1 := ⟨(xT_of (List.mem_append_right _ (List.mem_of_getElem? (i := 412) rfl)) rfl), (xT_of (List.mem_append_right _ (List.mem_of_getElem? (i := 5) rfl)) rfl), ⟨by decide, by decide, by decide +kernel⟩, by decide⟩
theorem ck_X1_findWhoMayMove : x_cal kX1_findWhoMayMove 1 := ⟨(xT_of (List.mem_append_right _ (List.mem_of_getElem? (i := 299) rfl)) rfl), (xT_of (List.mem_append_right _ (List.mem_of_getElem? (i := 6) rfl)) rfl), ⟨by decide, by decide, by decide +kernel⟩, by decide⟩
theorem ck_X1_init : x_cal kX1_init 0 := ⟨(xT_of (List.mem_append_right _ (List.mem_of_getElem? (i := 106) rfl)) rfl), (xT_of (List.mem_append_right _ (List.mem_of_getElem? (i := 6) rfl)) rfl), ⟨by decide, by decide, by decide +kernel⟩, by decide⟩
theorem ck_X1_letPass : x_cal kX1_letPass 2 := ⟨(xT_of (List.mem_append_right _ (List.mem_of_getElem? (i := 281) rfl)) rfl), (xT_of (List.mem_append_right _ (List.mem_of_getElem? (i := 6) rfl)) rfl), ⟨by decide, by decide, by decide +kernel⟩, by decide⟩
set_option maxRecDepth 20000 in
theorem ck_X1_moveInTurn : x_cal kX1_moveInTurn 3 := ⟨(xT_of (List.mem_append_right _ (List.mem_of_getElem? (i := 309) rfl)) rfl), (xT_of (List.mem_append_right _ (List.mem_of_getElem? (i := 6) rfl)) rfl), ⟨by decide, by decide, by decide +kernel⟩, by decide⟩
set_option maxRecDepth 20000 in
theorem ck_X1_nextInTurn : x_cal kX1_nextInTurn 2 := ⟨(xT_of (List.mem_append_right _ (List.mem_of_getElem? (i := 313) rfl)) rfl), (xT_of (List.mem_append_right _ (List.mem_of_getElem? (i := 6) rfl)) rfl), ⟨by decide, by decide, by decide +kernel⟩, by decide⟩
set_option maxRecDepth 20000 in
theorem ck_X1_promiseIfDeep : x_cal kX1_promiseIfDeep 2 := ⟨(xT_of (List.mem_append_right _ (List.mem_of_getElem? (i := 326) rfl)) rfl), (xT_of (List.mem_append_right _ (List.mem_of_getElem? (i := 6) rfl)) rfl), ⟨by decide, by decide, by decide +kernel⟩, by decide⟩
set_option maxRecDepth 20000 in
theorem ck_X1_shelfToMoveTo : x_cal kX1_shelfToMoveTo 2 := ⟨(xT_of (List.mem_append_right _ (List.mem_of_getElem? (i := 317) rfl)) rfl), (xT_of (List.mem_append_right _ (List.mem_of_getElem? (i := 6) rfl)) rfl), ⟨by decide, by decide, by decide +kernel⟩, by decide⟩
set_option maxRecDepth 20000 in
theorem ck_X2_append : x_cal kX2_append 1 := ⟨(xT_of (List.mem_append_right _ (List.mem_of_getElem? (i := 349) rfl)) rfl), (xT_of (List.mem_append_right _ (List.mem_of_getElem? (i := 7) rfl)) rfl), ⟨by decide, by decide, by decide +kernel⟩, by decide⟩
set_option maxRecDepth 20000 in
theorem ck_X2_digitHere : x_cal kX2_digitHere 0 := ⟨(xT_of (List.mem_append_right _ (List.mem_of_getElem? (i := 395) rfl)) rfl), (xT_of (List.mem_append_right _ (List.mem_of_getElem? (i := 7) rfl)) rfl), ⟨by decide, by decide, by decide +kernel⟩, by decide⟩
set_option maxRecDepth 20000 in
theorem ck_X2_empty : x_cal kX2_empty 0 := ⟨(xT_of (List.mem_append_right _ (List.mem_of_getElem? (i := 358) rfl)) rfl), (xT_of (List.mem_append_right _ (List.mem_of_getElem? (i := 7) rfl)) rfl), ⟨by decide, by decide, by decide +kernel⟩, by decide⟩
set_option maxRecDepth 20000 in
theorem ck_X2_greatestOf : x_cal kX2_greatestOf 1 := ⟨(xT_of (List.mem_append_right _ (List.mem_of_getElem? (i := 387) rfl)) rfl), (xT_of (List.mem_append_right _ (List.mem_of_getElem? (i := 7) rfl)) rfl), ⟨by decide, by decide, by decide +kernel⟩, by decide⟩
theorem ck_X2_init : x_cal kX2_init 0 := ⟨(xT_of (List.mem_append_right _ (List.mem_of_getElem? (i := 120) rfl)) rfl), (xT_of (List.mem_append_right _ (List.mem_of_getElem? (i := 7) rfl)) rfl), ⟨by decide, by decide, by decide +kernel⟩, by decide⟩
set_option maxRecDepth 20000 in
theorem ck_X2_isKind : x_cal kX2_isKind 1 := ⟨(xT_of (List.mem_append_right _ (List.mem_of_getElem? (i := 379) rfl)) rfl), (xT_of (List.mem_append_right _ (List.mem_of_getElem? (i := 7) rfl)) rfl), ⟨by decide, by decide, by decide +kernel⟩, by decide⟩
set_option maxRecDepth 20000 in
theorem ck_X2_leastOf : x_cal kX2_leastOf 1 := ⟨(xT_of (List.mem_append_right _ (List.mem_of_getElem? (i := 383) rfl)) rfl), (xT_of (List.mem_append_right _ (List.mem_of_getElem? (i := 7) rfl)) rfl), ⟨by decide, by decide, by decide +kernel⟩, by decide⟩
set_option maxRecDepth 20000 in
theorem ck_X2_readAll : x_cal kX2_readAll 0 := ⟨(xT_of (List.mem_append_right _ (List.mem_of_getElem? (i := 366) rfl)) rfl), (xT_of (List.mem_append_right _ (List.mem_of_getElem? (i := 7) rfl)) rfl), ⟨by decide, by decide, by decide +kernel⟩, by decide⟩
set_option maxRecDepth 20000 in
theorem ck_X2_readNumber : x_cal kX2_readNumber 2 := ⟨(xT_of (List.mem_append_right _ (List.mem_of_getElem? (i := 391) rfl)) rfl), (xT_of (List.mem_append_right _ (List.mem_of_getElem? (i := 7) rfl)) rfl), ⟨by decide, by decide, by decide +kernel⟩, by decide⟩
set_option maxRecDepth 20000 in
theorem ck_X2_readOrder : x_cal kX2_readOrder 0 := ⟨(xT_of (List.mem_append_right _ (List.mem_of_getElem? (i := 370) rfl)) rfl), (xT_of (List.mem_append_right _ (List.mem_of_getElem? (i := 7) rfl)) rfl), ⟨by decide, by decide, by decide +kernel⟩, by decide⟩
set_option maxRecDepth 20000 in
theorem ck_X2_signHere : x_cal kX2_signHere 0 := ⟨(xT_of (List.mem_append_right _ (List.mem_of_getElem? (i := 374) rfl)) rfl), (xT_of (List.mem_append_right _ (List.mem_of_getElem? (i := 7) rfl)) rfl), ⟨by decide, by decide, by decide +kernel⟩, by decide⟩
theorem ck_X3_addBlock : x_cal kX3_addBlock 1 := ⟨(xT_of (List.mem_append_right _ (List.mem_of_getElem? (i := 182) rfl)) rfl), (xT_of (List.mem_append_right _ (List.mem_of_getElem? (i := 2) rfl)) rfl), ⟨by decide, by decide, by decide +kernel⟩, by decide⟩
set_option maxRecDepth 20000 in
theorem ck_X3_allowsSetting : x_cal kX3_allowsSetting 2 := ⟨(xT_of (List.mem_append_right _ (List.mem_of_getElem? (i := 341) rfl)) rfl), (xT_of (List.mem_append_right _ (List.mem_of_getElem? (i := 2) rfl)) rfl), ⟨by decide, by decide, by decide +kernel⟩, by decide⟩
theorem ck_X3_askBack : x_cal kX3_askBack 1 := ⟨(xT_of (List.mem_append_right _ (List.mem_of_getElem? (i := 252) rfl)) rfl), (xT_of (List.mem_append_right _ (List.mem_of_getElem? (i := 2) rfl)) rfl), ⟨by decide, by decide, by decide +kernel⟩, by decide⟩
set_option maxRecDepth 20000 in
theorem ck_X3_changeSetting : x_cal kX3_changeSetting 2 := ⟨(xT_of (List.mem_append_right _ (List.mem_of_getElem? (i := 335) rfl)) rfl), (xT_of (List.mem_append_right _ (List.mem_of_getElem? (i := 2) rfl)) rfl), ⟨by decide, by decide, by decide +kernel⟩, by decide⟩
theorem ck_X3_copyFrom : x_cal kX3_copyFrom 1 := ⟨(xT_of (List.mem_append_right _ (List.mem_of_getElem? (i := 178) rfl)) rfl), (xT_of (List.mem_append_right _ (List.mem_of_getElem? (i := 2) rfl)) rfl), ⟨by decide, by decide, by decide +kernel⟩, by decide⟩
theorem ck_X3_countBlocks : x_cal kX3_countBlocks 0 := ⟨(xT_of (List.mem_append_right _ (List.mem_of_getElem? (i := 194) rfl)) rfl), (xT_of (List.mem_append_right _ (List.mem_of_getElem? (i := 2) rfl)) rfl), ⟨by decide, by decide, by decide +kernel⟩, by decide⟩
set_option maxRecDepth 20000 in
theorem ck_X3_countHotter : x_cal kX3_countHotter 1 := ⟨(xT_of (List.mem_append_right _ (List.mem_of_getElem? (i := 433) rfl)) rfl), (xT_of (List.mem_append_right _ (List.mem_of_getElem? (i := 2) rfl)) rfl), ⟨by decide, by decide, by decide +kernel⟩, by decide⟩
set_option maxRecDepth 20000 in
theorem ck_X3_countOnShelf : x_cal kX3_countOnShelf 1 := ⟨(xT_of (List.mem_append_right _ (List.mem_of_getElem? (i := 451) rfl)) rfl), (xT_of (List.mem_append_right _ (List.mem_of_getElem? (i := 2) rfl)) rfl), ⟨by decide, by decide, by decide +kernel⟩, by decide⟩
theorem ck_X3_countPinned : x_cal kX3_countPinned 0 := ⟨(xT_of (List.mem_append_right _ (List.mem_of_getElem? (i := 268) rfl)) rfl), (xT_of (List.mem_append_right _ (List.mem_of_getElem? (i := 2) rfl)) rfl), ⟨by decide, by decide, by decide +kernel⟩, by decide⟩
theorem ck_X3_dropBlock : x_cal kX3_dropBlock 1 := ⟨(xT_of (List.mem_append_right _ (List.mem_of_getElem? (i := 224) rfl)) rfl), (xT_of (List.mem_append_right _ (List.mem_of_getElem? (i := 2) rfl)) rfl), ⟨by decide, by decide, by decide +kernel⟩, by decide⟩
theorem ck_X3_fade : x_cal kX3_fade 0 := ⟨(xT_of (List.mem_append_right _ (List.mem_of_getElem? (i := 294) rfl)) rfl), (xT_of (List.mem_append_right _ (List.mem_of_getElem? (i := 2) rfl)) rfl), ⟨by decide, by decide, by decide +kernel⟩, by decide⟩
theorem ck_X3_fastestWithRoom : x_cal kX3_fastestWithRoom 1 := ⟨(xT_of (List.mem_append_right _ (List.mem_of_getElem? (i := 186) rfl)) rfl), (xT_of (List.mem_append_right _ (List.mem_of_getElem? (i := 2) rfl)) rfl), ⟨by decide, by decide, by decide +kernel⟩, by decide⟩
theorem ck_X3_find : x_cal kX3_find 1 := ⟨(xT_of (List.mem_append_right _ (List.mem_of_getElem? (i := 228) rfl)) rfl), (xT_of (List.mem_append_right _ (List.mem_of_getElem? (i := 2) rfl)) rfl), ⟨by decide, by decide, by decide +kernel⟩, by decide⟩
set_option maxRecDepth 20000 in
theorem ck_X3_flipPin : x_cal kX3_flipPin 1 := ⟨(xT_of (List.mem_append_right _ (List.mem_of_getElem? (i := 403) rfl)) rfl), (xT_of (List.mem_append_right _ (List.mem_of_getElem? (i := 2) rfl)) rfl), ⟨by decide, by decide, by decide +kernel⟩, by decide⟩
theorem ck_X3_hasRoom : x_cal kX3_hasRoom 2 := ⟨(xT_of (List.mem_append_right _ (List.mem_of_getElem? (i := 190) rfl)) rfl), (xT_of (List.mem_append_right _ (List.mem_of_getElem? (i := 2) rfl)) rfl), ⟨by decide, by decide, by decide +kernel⟩, by decide⟩
set_option maxRecDepth 20000 in
theorem ck_X3_heatOfAll : x_cal kX3_heatOfAll 0 := ⟨(xT_of (List.mem_append_right _ (List.mem_of_getElem? (i := 465) rfl)) rfl), (xT_of (List.mem_append_right _ (List.mem_of_getElem? (i := 2) rfl)) rfl), ⟨by decide, by decide, by decide +kernel⟩, by decide⟩
set_option maxRecDepth 20000 in
theorem ck_X3_heatOnShelf : x_cal kX3_heatOnShelf 1 := ⟨(xT_of (List.mem_append_right _ (List.mem_of_getElem? (i := 455) rfl)) rfl), (xT_of (List.mem_append_right _ (List.mem_of_getElem? (i := 2) rfl)) rfl), ⟨by decide, by decide, by decide +kernel⟩, by decide⟩
theorem ck_X3_init : x_cal kX3_init 0 := ⟨(xT_of (List.mem_append_right _ (List.mem_of_getElem? (i := 21) rfl)) rfl), (xT_of (List.mem_append_right _ (List.mem_of_getElem? (i := 2) rfl)) rfl), ⟨by decide, by decide, by decide +kernel⟩, by decide⟩
theorem ck_X3_moveTo : x_cal kX3_moveTo 2 := ⟨(xT_of (List.mem_append_right _ (List.mem_of_getElem? (i := 256) rfl)) rfl), (xT_of (List.mem_append_right _ (List.mem_of_getElem? (i := 2) rfl)) rfl), ⟨by decide, by decide, by decide +kernel⟩, by decide⟩
theorem ck_X3_nightPriceOfShelf : x_cal kX3_nightPriceOfShelf 1 := ⟨(xT_of (List.mem_append_right _ (List.mem_of_getElem? (i := 290) rfl)) rfl), (xT_of (List.mem_append_right _ (List.mem_of_getElem? (i := 2) rfl)) rfl), ⟨by decide, by decide, by decide +kernel⟩, by decide⟩
theorem ck_X3_payNight : x_cal kX3_payNight 0 := ⟨(xT_of (List.mem_append_right _ (List.mem_of_getElem? (i := 286) rfl)) rfl), (xT_of (List.mem_append_right _ (List.mem_of_getElem? (i := 2) rfl)) rfl), ⟨by decide, by decide, by decide +kernel⟩, by decide⟩
set_option maxRecDepth 20000 in
theorem ck_X3_placeOfRank : x_cal kX3_placeOfRank 1 := ⟨(xT_of (List.mem_append_right _ (List.mem_of_getElem? (i := 429) rfl)) rfl), (xT_of (List.mem_append_right _ (List.mem_of_getElem? (i := 2) rfl)) rfl), ⟨by decide, by decide, by decide +kernel⟩, by decide⟩
theorem ck_X3_readBlock : x_cal kX3_readBlock 2 := ⟨(xT_of (List.mem_append_right _ (List.mem_of_getElem? (i := 242) rfl)) rfl), (xT_of (List.mem_append_right _ (List.mem_of_getElem? (i := 2) rfl)) rfl), ⟨by decide, by decide, by decide +kernel⟩, by decide⟩
theorem ck_X3_readOnce : x_cal kX3_readOnce 1 := ⟨(xT_of (List.mem_append_right _ (List.mem_of_getElem? (i := 246) rfl)) rfl), (xT_of (List.mem_append_right _ (List.mem_of_getElem? (i := 2) rfl)) rfl), ⟨by decide, by decide, by decide +kernel⟩, by decide⟩
theorem ck_X3_turnPin : x_cal kX3_turnPin 2 := ⟨(xT_of (List.mem_append_right _ (List.mem_of_getElem? (i := 264) rfl)) rfl), (xT_of (List.mem_append_right _ (List.mem_of_getElem? (i := 2) rfl)) rfl), ⟨by decide, by decide, by decide +kernel⟩, by decide⟩
set_option maxRecDepth 20000 in
theorem ck_X3_wantedShelf : x_cal kX3_wantedShelf 1 := ⟨(xT_of (List.mem_append_right _ (List.mem_of_getElem? (i := 304) rfl)) rfl), (xT_of (List.mem_append_right _ (List.mem_of_getElem? (i := 2) rfl)) rfl), ⟨by decide, by decide, by decide +kernel⟩, by decide⟩
theorem ck_X4_add : x_cal kX4_add 1 := ⟨(xT_of (List.mem_append_right _ (List.mem_of_getElem? (i := 174) rfl)) rfl), (xT_of (List.mem_append_right _ (List.mem_of_getElem? (i := 1) rfl)) rfl), ⟨by decide, by decide, by decide +kernel⟩, by decide⟩
theorem ck_X4_at : x_cal kX4_at 2 := ⟨(xT_of (List.mem_append_right _ (List.mem_of_getElem? (i := 197) rfl)) rfl), (xT_of (List.mem_append_right _ (List.mem_of_getElem? (i := 1) rfl)) rfl), ⟨by decide, by decide, by decide +kernel⟩, by decide⟩
set_option maxRecDepth 20000 in
theorem ck_X4_bestHot : x_cal kX4_bestHot 2 := ⟨(xT_of (List.mem_append_right _ (List.mem_of_getElem? (i := 482) rfl)) rfl), (xT_of (List.mem_append_right _ (List.mem_of_getElem? (i := 1) rfl)) rfl), ⟨by decide, by decide, by decide +kernel⟩, by decide⟩
set_option maxRecDepth 20000 in
theorem ck_X4_block : x_cal kX4_block 1 := ⟨(xT_of (List.mem_append_right _ (List.mem_of_getElem? (i := 425) rfl)) rfl), (xT_of (List.mem_append_right _ (List.mem_of_getElem? (i := 1) rfl)) rfl), ⟨by decide, by decide, by decide +kernel⟩, by decide⟩
set_option maxRecDepth 20000 in
theorem ck_X4_cheapest : x_cal kX4_cheapest 2 := ⟨(xT_of (List.mem_append_right _ (List.mem_of_getElem? (i := 492) rfl)) rfl), (xT_of (List.mem_append_right _ (List.mem_of_getElem? (i := 1) rfl)) rfl), ⟨by decide, by decide, by decide +kernel⟩, by decide⟩
set_option maxRecDepth 20000 in
theorem ck_X4_clearText : x_cal kX4_clearText 0 := ⟨(xT_of (List.mem_append_right _ (List.mem_of_getElem? (i := 354) rfl)) rfl), (xT_of (List.mem_append_right _ (List.mem_of_getElem? (i := 1) rfl)) rfl), ⟨by decide, by decide, by decide +kernel⟩, by decide⟩
theorem ck_X4_closeGap : x_cal kX4_closeGap 2 := ⟨(xT_of (List.mem_append_right _ (List.mem_of_getElem? (i := 231) rfl)) rfl), (xT_of (List.mem_append_right _ (List.mem_of_getElem? (i := 1) rfl)) rfl), ⟨by decide, by decide, by decide +kernel⟩, by decide⟩
theorem ck_X4_copyRow : x_cal kX4_copyRow 2 := ⟨(xT_of (List.mem_append_right _ (List.mem_of_getElem? (i := 27) rfl)) rfl), (xT_of (List.mem_append_right _ (List.mem_of_getElem? (i := 1) rfl)) rfl), ⟨by decide, by decide, by decide +kernel⟩, by decide⟩
set_option maxRecDepth 20000 in
theorem ck_X4_ifPassed : x_cal kX4_ifPassed 2 := ⟨(xT_of (List.mem_append_right _ (List.mem_of_getElem? (i := 470) rfl)) rfl), (xT_of (List.mem_append_right _ (List.mem_of_getElem? (i := 1) rfl)) rfl), ⟨by decide, by decide, by decide +kernel⟩, by decide⟩
theorem ck_X4_init : x_cal kX4_init 0 := ⟨(xT_of (List.mem_append_right _ (List.mem_of_getElem? (i := 13) rfl)) rfl), (xT_of (List.mem_append_right _ (List.mem_of_getElem? (i := 1) rfl)) rfl), ⟨by decide, by decide, by decide +kernel⟩, by decide⟩
set_option maxRecDepth 20000 in
theorem ck_X4_keep : x_cal kX4_keep 0 := ⟨(xT_of (List.mem_append_right _ (List.mem_of_getElem? (i := 416) rfl)) rfl), (xT_of (List.mem_append_right _ (List.mem_of_getElem? (i := 1) rfl)) rfl), ⟨by decide, by decide, by decide +kernel⟩, by decide⟩
set_option maxRecDepth 20000 in
theorem ck_X4_nextMove : x_cal kX4_nextMove 0 := ⟨(xT_of (List.mem_append_right _ (List.mem_of_getElem? (i := 478) rfl)) rfl), (xT_of (List.mem_append_right _ (List.mem_of_getElem? (i := 1) rfl)) rfl), ⟨by decide, by decide, by decide +kernel⟩, by decide⟩
set_option maxRecDepth 20000 in
theorem ck_X4_ofBlock : x_cal kX4_ofBlock 2 := ⟨(xT_of (List.mem_append_right _ (List.mem_of_getElem? (i := 437) rfl)) rfl), (xT_of (List.mem_append_right _ (List.mem_of_getElem? (i := 1) rfl)) rfl), ⟨by decide, by decide, by decide +kernel⟩, by decide⟩
set_option maxRecDepth 20000 in
theorem ck_X4_paidForNightsInWork : x_cal kX4_paidForNightsInWork 0 := ⟨(xT_of (List.mem_append_right _ (List.mem_of_getElem? (i := 474) rfl)) rfl), (xT_of (List.mem_append_right _ (List.mem_of_getElem? (i := 1) rfl)) rfl), ⟨by decide, by decide, by decide +kernel⟩, by decide⟩
set_option maxRecDepth 20000 in
theorem ck_X4_paidWithHot : x_cal kX4_paidWithHot 2 := ⟨(xT_of (List.mem_append_right _ (List.mem_of_getElem? (i := 487) rfl)) rfl), (xT_of (List.mem_append_right _ (List.mem_of_getElem? (i := 1) rfl)) rfl), ⟨by decide, by decide, by decide +kernel⟩, by decide⟩
theorem ck_X4_pass : x_cal kX4_pass 1 := ⟨(xT_of (List.mem_append_right _ (List.mem_of_getElem? (i := 272) rfl)) rfl), (xT_of (List.mem_append_right _ (List.mem_of_getElem? (i := 1) rfl)) rfl), ⟨by decide, by decide, by decide +kernel⟩, by decide⟩
theorem ck_X4_passInWork : x_cal kX4_passInWork 1 := ⟨(xT_of (List.mem_append_right _ (List.mem_of_getElem? (i := 276) rfl)) rfl), (xT_of (List.mem_append_right _ (List.mem_of_getElem? (i := 1) rfl)) rfl), ⟨by decide, by decide, by decide +kernel⟩, by decide⟩
set_option maxRecDepth 20000 in
theorem ck_X4_perform : x_cal kX4_perform 0 := ⟨(xT_of (List.mem_append_right _ (List.mem_of_getElem? (i := 362) rfl)) rfl), (xT_of (List.mem_append_right _ (List.mem_of_getElem? (i := 1) rfl)) rfl), ⟨by decide, by decide, by decide +kernel⟩, by decide⟩
set_option maxRecDepth 20000 in
theorem ck_X4_performInWork : x_cal kX4_performInWork 1 := ⟨(xT_of (List.mem_append_right _ (List.mem_of_getElem? (i := 399) rfl)) rfl), (xT_of (List.mem_append_right _ (List.mem_of_getElem? (i := 1) rfl)) rfl), ⟨by decide, by decide, by decide +kernel⟩, by decide⟩
theorem ck_X4_pin : x_cal kX4_pin 2 := ⟨(xT_of (List.mem_append_right _ (List.mem_of_getElem? (i := 260) rfl)) rfl), (xT_of (List.mem_append_right _ (List.mem_of_getElem? (i := 1) rfl)) rfl), ⟨by decide, by decide, by decide +kernel⟩, by decide⟩
set_option maxRecDepth 20000 in
theorem ck_X4_priceOfStay : x_cal kX4_priceOfStay 3 := ⟨(xT_of (List.mem_append_right _ (List.mem_of_getElem? (i := 496) rfl)) rfl), (xT_of (List.mem_append_right _ (List.mem_of_getElem? (i := 1) rfl)) rfl), ⟨by decide, by decide, by decide +kernel⟩, by decide⟩
theorem ck_X4_put : x_cal kX4_put 3 := ⟨(xT_of (List.mem_append_right _ (List.mem_of_getElem? (i := 200) rfl)) rfl), (xT_of (List.mem_append_right _ (List.mem_of_getElem? (i := 1) rfl)) rfl), ⟨by decide, by decide, by decide +kernel⟩, by decide⟩
theorem ck_X4_raise : x_cal kX4_raise 3 := ⟨(xT_of (List.mem_append_right _ (List.mem_of_getElem? (i := 203) rfl)) rfl), (xT_of (List.mem_append_right _ (List.mem_of_getElem? (i := 1) rfl)) rfl), ⟨by decide, by decide, by decide +kernel⟩, by decide⟩
theorem ck_X4_read : x_cal kX4_read 2 := ⟨(xT_of (List.mem_append_right _ (List.mem_of_getElem? (i := 238) rfl)) rfl), (xT_of (List.mem_append_right _ (List.mem_of_getElem? (i := 1) rfl)) rfl), ⟨by decide, by decide, by decide +kernel⟩, by decide⟩
theorem ck_X4_remove : x_cal kX4_remove 1 := ⟨(xT_of (List.mem_append_right _ (List.mem_of_getElem? (i := 220) rfl)) rfl), (xT_of (List.mem_append_right _ (List.mem_of_getElem? (i := 1) rfl)) rfl), ⟨by decide, by decide, by decide +kernel⟩, by decide⟩
set_option maxRecDepth 20000 in
theorem ck_X4_restore : x_cal kX4_restore 0 := ⟨(xT_of (List.mem_append_right _ (List.mem_of_getElem? (i := 421) rfl)) rfl), (xT_of (List.mem_append_right _ (List.mem_of_getElem? (i := 1) rfl)) rfl), ⟨by decide, by decide, by decide +kernel⟩, by decide⟩
set_option maxRecDepth 20000 in
theorem ck_X4_set : x_cal kX4_set 2 := ⟨(xT_of (List.mem_append_right _ (List.mem_of_getElem? (i := 331) rfl)) rfl), (xT_of (List.mem_append_right _ (List.mem_of_getElem? (i := 1) rfl)) rfl), ⟨by decide, by decide, by decide +kernel⟩, by decide⟩
theorem ck_X4_settle : x_cal kX4_settle 1 := ⟨(xT_of (List.mem_append_right _ (List.mem_of_getElem? (i := 207) rfl)) rfl), (xT_of (List.mem_append_right _ (List.mem_of_getElem? (i := 1) rfl)) rfl), ⟨by decide, by decide, by decide +kernel⟩, by decide⟩
set_option maxRecDepth 20000 in
theorem ck_X4_shelf : x_cal kX4_shelf 2 := ⟨(xT_of (List.mem_append_right _ (List.mem_of_getElem? (i := 447) rfl)) rfl), (xT_of (List.mem_append_right _ (List.mem_of_getElem? (i := 1) rfl)) rfl), ⟨by decide, by decide, by decide +kernel⟩, by decide⟩
set_option maxRecDepth 20000 in
theorem ck_X4_total : x_cal kX4_total 1 := ⟨(xT_of (List.mem_append_right _ (List.mem_of_getElem? (i := 460) rfl)) rfl), (xT_of (List.mem_append_right _ (List.mem_of_getElem? (i := 1) rfl)) rfl), ⟨by decide, by decide, by decide +kernel⟩, by decide⟩
set_option maxRecDepth 20000 in
theorem ck_X4_type : x_cal kX4_type 1 := ⟨(xT_of (List.mem_append_right _ (List.mem_of_getElem? (i := 345) rfl)) rfl), (xT_of (List.mem_append_right _ (List.mem_of_getElem? (i := 1) rfl)) rfl), ⟨by decide, by decide, by decide +kernel⟩, by decide⟩
set_option maxRecDepth 20000 in
theorem ck_X4_undo : x_cal kX4_undo 0 := ⟨(xT_of (List.mem_append_right _ (List.mem_of_getElem? (i := 408) rfl)) rfl), (xT_of (List.mem_append_right _ (List.mem_of_getElem? (i := 1) rfl)) rfl), ⟨by decide, by decide, by decide +kernel⟩, by decide⟩
set_option maxRecDepth 20000 in
theorem ck_X4_whyItStays : x_cal kX4_whyItStays 1 := ⟨(xT_of (List.mem_append_right _ (List.mem_of_getElem? (i := 443) rfl)) rfl), (xT_of (List.mem_append_right _ (List.mem_of_getElem? (i := 1) rfl)) rfl), ⟨by decide, by decide, by decide +kernel⟩, by decide⟩
set_option maxRecDepth 20000 in
theorem ck_X5_add : x_cal kX5_add 1 := ⟨(xT_of (List.mem_append_right _ (List.mem_of_getElem? (i := 531) rfl)) rfl), (xT_of (List.mem_append_right _ (List.mem_of_getElem? (i := 8) rfl)) rfl), ⟨by decide, by decide, by decide +kernel⟩, by decide⟩
set_option maxRecDepth 20000 in
theorem ck_X5_adds : x_cal kX5_adds 1 := ⟨(xT_of (List.mem_append_right _ (List.mem_of_getElem? (i := 542) rfl)) rfl), (xT_of (List.mem_append_right _ (List.mem_of_getElem? (i := 8) rfl)) rfl), ⟨by decide, by decide, by decide +kernel⟩, by decide⟩
set_option maxRecDepth 20000 in
theorem ck_X5_at : x_cal kX5_at 2 := ⟨(xT_of (List.mem_append_right _ (List.mem_of_getElem? (i := 553) rfl)) rfl), (xT_of (List.mem_append_right _ (List.mem_of_getElem? (i := 8) rfl)) rfl), ⟨by decide, by decide, by decide +kernel⟩, by decide⟩
set_option maxRecDepth 20000 in
theorem ck_X5_bestHot : x_cal kX5_bestHot 2 := ⟨(xT_of (List.mem_append_right _ (List.mem_of_getElem? (i := 733) rfl)) rfl), (xT_of (List.mem_append_right _ (List.mem_of_getElem? (i := 8) rfl)) rfl), ⟨by decide, by decide, by decide +kernel⟩, by decide⟩
set_option maxRecDepth 20000 in
theorem ck_X5_block : x_cal kX5_block 1 := ⟨(xT_of (List.mem_append_right _ (List.mem_of_getElem? (i := 701) rfl)) rfl), (xT_of (List.mem_append_right _ (List.mem_of_getElem? (i := 8) rfl)) rfl), ⟨by decide, by decide, by decide +kernel⟩, by decide⟩
set_option maxRecDepth 20000 in
theorem ck_X5_changes : x_cal kX5_changes 1 := ⟨(xT_of (List.mem_append_right _ (List.mem_of_getElem? (i := 557) rfl)) rfl), (xT_of (List.mem_append_right _ (List.mem_of_getElem? (i := 8) rfl)) rfl), ⟨by decide, by decide, by decide +kernel⟩, by decide⟩
set_option maxRecDepth 20000 in
theorem ck_X5_cheapest : x_cal kX5_cheapest 2 := ⟨(xT_of (List.mem_append_right _ (List.mem_of_getElem? (i := 737) rfl)) rfl), (xT_of (List.mem_append_right _ (List.mem_of_getElem? (i := 8) rfl)) rfl), ⟨by decide, by decide, by decide +kernel⟩, by decide⟩
set_option maxRecDepth 20000 in
theorem ck_X5_clearText : x_cal kX5_clearText 0 := ⟨(xT_of (List.mem_append_right _ (List.mem_of_getElem? (i := 653) rfl)) rfl), (xT_of (List.mem_append_right _ (List.mem_of_getElem? (i := 8) rfl)) rfl), ⟨by decide, by decide, by decide +kernel⟩, by decide⟩
set_option maxRecDepth 20000 in
theorem ck_X5_copies : x_cal kX5_copies 0 := ⟨(xT_of (List.mem_append_right _ (List.mem_of_getElem? (i := 538) rfl)) rfl), (xT_of (List.mem_append_right _ (List.mem_of_getElem? (i := 8) rfl)) rfl), ⟨by decide, by decide, by decide +kernel⟩, by decide⟩
set_option maxRecDepth 20000 in
theorem ck_X5_costs : x_cal kX5_costs 2 := ⟨(xT_of (List.mem_append_right _ (List.mem_of_getElem? (i := 622) rfl)) rfl), (xT_of (List.mem_append_right _ (List.mem_of_getElem? (i := 8) rfl)) rfl), ⟨by decide, by decide, by decide +kernel⟩, by decide⟩
set_option maxRecDepth 20000 in
theorem ck_X5_digit : x_cal kX5_digit 1 := ⟨(xT_of (List.mem_append_right _ (List.mem_of_getElem? (i := 677) rfl)) rfl), (xT_of (List.mem_append_right _ (List.mem_of_getElem? (i := 8) rfl)) rfl), ⟨by decide, by decide, by decide +kernel⟩, by decide⟩
set_option maxRecDepth 20000 in
theorem ck_X5_does : x_cal kX5_does 1 := ⟨(xT_of (List.mem_append_right _ (List.mem_of_getElem? (i := 681) rfl)) rfl), (xT_of (List.mem_append_right _ (List.mem_of_getElem? (i := 8) rfl)) rfl), ⟨by decide, by decide, by decide +kernel⟩, by decide⟩
set_option maxRecDepth 20000 in
theorem ck_X5_fault : x_cal kX5_fault 0 := ⟨(xT_of (List.mem_append_right _ (List.mem_of_getElem? (i := 661) rfl)) rfl), (xT_of (List.mem_append_right _ (List.mem_of_getElem? (i := 8) rfl)) rfl), ⟨by decide, by decide, by decide +kernel⟩, by decide⟩
set_option maxRecDepth 20000 in
theorem ck_X5_hasRoom : x_cal kX5_hasRoom 3 := ⟨(xT_of (List.mem_append_right _ (List.mem_of_getElem? (i := 546) rfl)) rfl), (xT_of (List.mem_append_right _ (List.mem_of_getElem? (i := 8) rfl)) rfl), ⟨by decide, by decide, by decide +kernel⟩, by decide⟩
set_option maxRecDepth 20000 in
theorem ck_X5_heat : x_cal kX5_heat 1 := ⟨(xT_of (List.mem_append_right _ (List.mem_of_getElem? (i := 721) rfl)) rfl), (xT_of (List.mem_append_right _ (List.mem_of_getElem? (i := 8) rfl)) rfl), ⟨by decide, by decide, by decide +kernel⟩, by decide⟩
set_option maxRecDepth 20000 in
theorem ck_X5_ifPassed : x_cal kX5_ifPassed 2 := ⟨(xT_of (List.mem_append_right _ (List.mem_of_getElem? (i := 725) rfl)) rfl), (xT_of (List.mem_append_right _ (List.mem_of_getElem? (i := 8) rfl)) rfl), ⟨by decide, by decide, by decide +kernel⟩, by decide⟩
set_option maxRecDepth 20000 in
theorem ck_X5_in : x_cal kX5_in 3 := ⟨(xT_of (List.mem_append_right _ (List.mem_of_getElem? (i := 534) rfl)) rfl), (xT_of (List.mem_append_right _ (List.mem_of_getElem? (i := 8) rfl)) rfl), ⟨by decide, by decide, by decide +kernel⟩, by decide⟩
set_option maxRecDepth 20000 in
theorem ck_X5_init : x_cal kX5_init 0 := ⟨(xT_of (List.mem_append_right _ (List.mem_of_getElem? (i := 501) rfl)) rfl), (xT_of (List.mem_append_right _ (List.mem_of_getElem? (i := 8) rfl)) rfl), ⟨by decide, by decide, by decide +kernel⟩, by decide⟩
set_option maxRecDepth 20000 in
theorem ck_X5_keep : x_cal kX5_keep 0 := ⟨(xT_of (List.mem_append_right _ (List.mem_of_getElem? (i := 693) rfl)) rfl), (xT_of (List.mem_append_right _ (List.mem_of_getElem? (i := 8) rfl)) rfl), ⟨by decide, by decide, by decide +kernel⟩, by decide⟩
set_option maxRecDepth 20000 in
theorem ck_X5_lays : x_cal kX5_lays 0 := ⟨(xT_of (List.mem_append_right _ (List.mem_of_getElem? (i := 561) rfl)) rfl), (xT_of (List.mem_append_right _ (List.mem_of_getElem? (i := 8) rfl)) rfl), ⟨by decide, by decide, by decide +kernel⟩, by decide⟩
set_option maxRecDepth 20000 in
theorem ck_X5_mostOf : x_cal kX5_mostOf 1 := ⟨(xT_of (List.mem_append_right _ (List.mem_of_getElem? (i := 645) rfl)) rfl), (xT_of (List.mem_append_right _ (List.mem_of_getElem? (i := 8) rfl)) rfl), ⟨by decide, by decide, by decide +kernel⟩, by decide⟩
set_option maxRecDepth 20000 in
theorem ck_X5_next : x_cal kX5_next 2 := ⟨(xT_of (List.mem_append_right _ (List.mem_of_getElem? (i := 634) rfl)) rfl), (xT_of (List.mem_append_right _ (List.mem_of_getElem? (i := 8) rfl)) rfl), ⟨by decide, by decide, by decide +kernel⟩, by decide⟩
set_option maxRecDepth 20000 in
theorem ck_X5_nextMove : x_cal kX5_nextMove 0 := ⟨(xT_of (List.mem_append_right _ (List.mem_of_getElem? (i := 729) rfl)) rfl), (xT_of (List.mem_append_right _ (List.mem_of_getElem? (i := 8) rfl)) rfl), ⟨by decide, by decide, by decide +kernel⟩, by decide⟩
set_option maxRecDepth 20000 in
theorem ck_X5_numberAt : x_cal kX5_numberAt 1 := ⟨(xT_of (List.mem_append_right _ (List.mem_of_getElem? (i := 685) rfl)) rfl), (xT_of (List.mem_append_right _ (List.mem_of_getElem? (i := 8) rfl)) rfl), ⟨by decide, by decide, by decide +kernel⟩, by decide⟩
set_option maxRecDepth 20000 in
theorem ck_X5_numberEnd : x_cal kX5_numberEnd 3 := ⟨(xT_of (List.mem_append_right _ (List.mem_of_getElem? (i := 673) rfl)) rfl), (xT_of (List.mem_append_right _ (List.mem_of_getElem? (i := 8) rfl)) rfl), ⟨by decide, by decide, by decide +kernel⟩, by decide⟩
set_option maxRecDepth 20000 in
theorem ck_X5_ofBlock : x_cal kX5_ofBlock 2 := ⟨(xT_of (List.mem_append_right _ (List.mem_of_getElem? (i := 705) rfl)) rfl), (xT_of (List.mem_append_right _ (List.mem_of_getElem? (i := 8) rfl)) rfl), ⟨by decide, by decide, by decide +kernel⟩, by decide⟩
set_option maxRecDepth 20000 in
theorem ck_X5_on : x_cal kX5_on 3 := ⟨(xT_of (List.mem_append_right _ (List.mem_of_getElem? (i := 550) rfl)) rfl), (xT_of (List.mem_append_right _ (List.mem_of_getElem? (i := 8) rfl)) rfl), ⟨by decide, by decide, by decide +kernel⟩, by decide⟩
set_option maxRecDepth 20000 in
theorem ck_X5_orderEnd : x_cal kX5_orderEnd 1 := ⟨(xT_of (List.mem_append_right _ (List.mem_of_getElem? (i := 665) rfl)) rfl), (xT_of (List.mem_append_right _ (List.mem_of_getElem? (i := 8) rfl)) rfl), ⟨by decide, by decide, by decide +kernel⟩, by decide⟩
set_option maxRecDepth 20000 in
theorem ck_X5_pass : x_cal kX5_pass 1 := ⟨(xT_of (List.mem_append_right _ (List.mem_of_getElem? (i := 606) rfl)) rfl), (xT_of (List.mem_append_right _ (List.mem_of_getElem? (i := 8) rfl)) rfl), ⟨by decide, by decide, by decide +kernel⟩, by decide⟩
set_option maxRecDepth 20000 in
theorem ck_X5_passes : x_cal kX5_passes 2 := ⟨(xT_of (List.mem_append_right _ (List.mem_of_getElem? (i := 614) rfl)) rfl), (xT_of (List.mem_append_right _ (List.mem_of_getElem? (i := 8) rfl)) rfl), ⟨by decide, by decide, by decide +kernel⟩, by decide⟩
set_option maxRecDepth 20000 in
theorem ck_X5_passesIn : x_cal kX5_passesIn 1 := ⟨(xT_of (List.mem_append_right _ (List.mem_of_getElem? (i := 610) rfl)) rfl), (xT_of (List.mem_append_right _ (List.mem_of_getElem? (i := 8) rfl)) rfl), ⟨by decide, by decide, by decide +kernel⟩, by decide⟩
set_option maxRecDepth 20000 in
theorem ck_X5_passesOne : x_cal kX5_passesOne 1 := ⟨(xT_of (List.mem_append_right _ (List.mem_of_getElem? (i := 618) rfl)) rfl), (xT_of (List.mem_append_right _ (List.mem_of_getElem? (i := 8) rfl)) rfl), ⟨by decide, by decide, by decide +kernel⟩, by decide⟩
set_option maxRecDepth 20000 in
theorem ck_X5_perform : x_cal kX5_perform 0 := ⟨(xT_of (List.mem_append_right _ (List.mem_of_getElem? (i := 657) rfl)) rfl), (xT_of (List.mem_append_right _ (List.mem_of_getElem? (i := 8) rfl)) rfl), ⟨by decide, by decide, by decide +kernel⟩, by decide⟩
set_option maxRecDepth 20000 in
theorem ck_X5_pin : x_cal kX5_pin 2 := ⟨(xT_of (List.mem_append_right _ (List.mem_of_getElem? (i := 594) rfl)) rfl), (xT_of (List.mem_append_right _ (List.mem_of_getElem? (i := 8) rfl)) rfl), ⟨by decide, by decide, by decide +kernel⟩, by decide⟩
set_option maxRecDepth 20000 in
theorem ck_X5_pinned : x_cal kX5_pinned 1 := ⟨(xT_of (List.mem_append_right _ (List.mem_of_getElem? (i := 602) rfl)) rfl), (xT_of (List.mem_append_right _ (List.mem_of_getElem? (i := 8) rfl)) rfl), ⟨by decide, by decide, by decide +kernel⟩, by decide⟩
set_option maxRecDepth 20000 in
theorem ck_X5_placeOf : x_cal kX5_placeOf 2 := ⟨(xT_of (List.mem_append_right _ (List.mem_of_getElem? (i := 577) rfl)) rfl), (xT_of (List.mem_append_right _ (List.mem_of_getElem? (i := 8) rfl)) rfl), ⟨by decide, by decide, by decide +kernel⟩, by decide⟩
set_option maxRecDepth 20000 in
theorem ck_X5_read : x_cal kX5_read 2 := ⟨(xT_of (List.mem_append_right _ (List.mem_of_getElem? (i := 581) rfl)) rfl), (xT_of (List.mem_append_right _ (List.mem_of_getElem? (i := 8) rfl)) rfl), ⟨by decide, by decide, by decide +kernel⟩, by decide⟩
set_option maxRecDepth 20000 in
theorem ck_X5_reads : x_cal kX5_reads 2 := ⟨(xT_of (List.mem_append_right _ (List.mem_of_getElem? (i := 585) rfl)) rfl), (xT_of (List.mem_append_right _ (List.mem_of_getElem? (i := 8) rfl)) rfl), ⟨by decide, by decide, by decide +kernel⟩, by decide⟩
set_option maxRecDepth 20000 in
theorem ck_X5_readsOne : x_cal kX5_readsOne 1 := ⟨(xT_of (List.mem_append_right _ (List.mem_of_getElem? (i := 589) rfl)) rfl), (xT_of (List.mem_append_right _ (List.mem_of_getElem? (i := 8) rfl)) rfl), ⟨by decide, by decide, by decide +kernel⟩, by decide⟩
set_option maxRecDepth 20000 in
theorem ck_X5_remembers : x_cal kX5_remembers 0 := ⟨(xT_of (List.mem_append_right _ (List.mem_of_getElem? (i := 565) rfl)) rfl), (xT_of (List.mem_append_right _ (List.mem_of_getElem? (i := 8) rfl)) rfl), ⟨by decide, by decide, by decide +kernel⟩, by decide⟩
set_option maxRecDepth 20000 in
theorem ck_X5_remove : x_cal kX5_remove 1 := ⟨(xT_of (List.mem_append_right _ (List.mem_of_getElem? (i := 569) rfl)) rfl), (xT_of (List.mem_append_right _ (List.mem_of_getElem? (i := 8) rfl)) rfl), ⟨by decide, by decide, by decide +kernel⟩, by decide⟩
set_option maxRecDepth 20000 in
theorem ck_X5_removes : x_cal kX5_removes 1 := ⟨(xT_of (List.mem_append_right _ (List.mem_of_getElem? (i := 573) rfl)) rfl), (xT_of (List.mem_append_right _ (List.mem_of_getElem? (i := 8) rfl)) rfl), ⟨by decide, by decide, by decide +kernel⟩, by decide⟩
set_option maxRecDepth 20000 in
theorem ck_X5_restore : x_cal kX5_restore 0 := ⟨(xT_of (List.mem_append_right _ (List.mem_of_getElem? (i := 697) rfl)) rfl), (xT_of (List.mem_append_right _ (List.mem_of_getElem? (i := 8) rfl)) rfl), ⟨by decide, by decide, by decide +kernel⟩, by decide⟩
set_option maxRecDepth 20000 in
theorem ck_X5_set : x_cal kX5_set 2 := ⟨(xT_of (List.mem_append_right _ (List.mem_of_getElem? (i := 642) rfl)) rfl), (xT_of (List.mem_append_right _ (List.mem_of_getElem? (i := 8) rfl)) rfl), ⟨by decide, by decide, by decide +kernel⟩, by decide⟩
set_option maxRecDepth 20000 in
theorem ck_X5_shelf : x_cal kX5_shelf 2 := ⟨(xT_of (List.mem_append_right _ (List.mem_of_getElem? (i := 713) rfl)) rfl), (xT_of (List.mem_append_right _ (List.mem_of_getElem? (i := 8) rfl)) rfl), ⟨by decide, by decide, by decide +kernel⟩, by decide⟩
set_option maxRecDepth 20000 in
theorem ck_X5_sign : x_cal kX5_sign 1 := ⟨(xT_of (List.mem_append_right _ (List.mem_of_getElem? (i := 669) rfl)) rfl), (xT_of (List.mem_append_right _ (List.mem_of_getElem? (i := 8) rfl)) rfl), ⟨by decide, by decide, by decide +kernel⟩, by decide⟩
set_option maxRecDepth 20000 in
theorem ck_X5_target : x_cal kX5_target 2 := ⟨(xT_of (List.mem_append_right _ (List.mem_of_getElem? (i := 638) rfl)) rfl), (xT_of (List.mem_append_right _ (List.mem_of_getElem? (i := 8) rfl)) rfl), ⟨by decide, by decide, by decide +kernel⟩, by decide⟩
set_option maxRecDepth 20000 in
theorem ck_X5_total : x_cal kX5_total 1 := ⟨(xT_of (List.mem_append_right _ (List.mem_of_getElem? (i := 717) rfl)) rfl), (xT_of (List.mem_append_right _ (List.mem_of_getElem? (i := 8) rfl)) rfl), ⟨by decide, by decide, by decide +kernel⟩, by decide⟩
set_option maxRecDepth 20000 in
theorem ck_X5_turns : x_cal kX5_turns 3 := ⟨(xT_of (List.mem_append_right _ (List.mem_of_getElem? (i := 630) rfl)) rfl), (xT_of (List.mem_append_right _ (List.mem_of_getElem? (i := 8) rfl)) rfl), ⟨by decide, by decide, by decide +kernel⟩, by decide⟩
set_option maxRecDepth 20000 in
theorem ck_X5_turnsPin : x_cal kX5_turnsPin 1 := ⟨(xT_of (List.mem_append_right _ (List.mem_of_getElem? (i := 598) rfl)) rfl), (xT_of (List.mem_append_right _ (List.mem_of_getElem? (i := 8) rfl)) rfl), ⟨by decide, by decide, by decide +kernel⟩, by decide⟩
set_option maxRecDepth 20000 in
theorem ck_X5_type : x_cal kX5_type 1 := ⟨(xT_of (List.mem_append_right _ (List.mem_of_getElem? (i := 649) rfl)) rfl), (xT_of (List.mem_append_right _ (List.mem_of_getElem? (i := 8) rfl)) rfl), ⟨by decide, by decide, by decide +kernel⟩, by decide⟩
set_option maxRecDepth 20000 in
theorem ck_X5_undo : x_cal kX5_undo 0 := ⟨(xT_of (List.mem_append_right _ (List.mem_of_getElem? (i := 689) rfl)) rfl), (xT_of (List.mem_append_right _ (List.mem_of_getElem? (i := 8) rfl)) rfl), ⟨by decide, by decide, by decide +kernel⟩, by decide⟩
set_option maxRecDepth 20000 in
theorem ck_X5_wanted : x_cal kX5_wanted 2 := ⟨(xT_of (List.mem_append_right _ (List.mem_of_getElem? (i := 626) rfl)) rfl), (xT_of (List.mem_append_right _ (List.mem_of_getElem? (i := 8) rfl)) rfl), ⟨by decide, by decide, by decide +kernel⟩, by decide⟩
set_option maxRecDepth 20000 in
theorem ck_X5_whyStays : x_cal kX5_whyStays 1 := ⟨(xT_of (List.mem_append_right _ (List.mem_of_getElem? (i := 709) rfl)) rfl), (xT_of (List.mem_append_right _ (List.mem_of_getElem? (i := 8) rfl)) rfl), ⟨by decide, by decide, by decide +kernel⟩, by decide⟩
set_option maxRecDepth 20000 in
theorem cc_L_12 : x_CC RL 12 kX5_init 0 := ⟨Or.inl (xT_of (List.mem_append_right _ (List.mem_of_getElem? (i := 499) rfl)) rfl), ck_X5_init, (xT_of (List.mem_append_right _ (List.mem_of_getElem? (i := 500) rfl)) rfl), rfl, rfl⟩
theorem cv_L_13 : x_CV RL 13 kX4_add 1 4 := ⟨Or.inl (xT_of (List.mem_append_right _ (List.mem_of_getElem? (i := 171) rfl)) rfl), ck_X4_add, (xT_of (List.mem_append_right _ (List.mem_of_getElem? (i := 172) rfl)) rfl), (xT_of (List.mem_append_right _ (List.mem_of_getElem? (i := 173) rfl)) rfl), TX4, 7, rfl⟩
set_option maxRecDepth 20000 in
theorem cv_L_17 : x_CV RL 17 kX5_add 1 5 := ⟨Or.inl (xT_of (List.mem_append_right _ (List.mem_of_getElem? (i := 528) rfl)) rfl), ck_X5_add, (xT_of (List.mem_append_right _ (List.mem_of_getElem? (i := 529) rfl)) rfl), (xT_of (List.mem_append_right _ (List.mem_of_getElem? (i := 530) rfl)) rfl), TX5, 8, rfl⟩
theorem cv_L_18 : x_CV RL 18 kX4_remove 1 4 := ⟨Or.inl (xT_of (List.mem_append_right _ (List.mem_of_getElem? (i := 217) rfl)) rfl), ck_X4_remove, (xT_of (List.mem_append_right _ (List.mem_of_getElem? (i := 218) rfl)) rfl), (xT_of (List.mem_append_right _ (List.mem_of_getElem? (i := 219) rfl)) rfl), TX4, 7, rfl⟩
set_option maxRecDepth 20000 in
theorem cv_L_21 : x_CV RL 21 kX5_remove 1 5 := ⟨Or.inl (xT_of (List.mem_append_right _ (List.mem_of_getElem? (i := 566) rfl)) rfl), ck_X5_remove, (xT_of (List.mem_append_right _ (List.mem_of_getElem? (i := 567) rfl)) rfl), (xT_of (List.mem_append_right _ (List.mem_of_getElem? (i := 568) rfl)) rfl), TX5, 8, rfl⟩
theorem cv_L_22 : x_CV RL 22 kX4_read 2 4 := ⟨Or.inl (xT_of (List.mem_append_right _ (List.mem_of_getElem? (i := 235) rfl)) rfl), ck_X4_read, (xT_of (List.mem_append_right _ (List.mem_of_getElem? (i := 236) rfl)) rfl), (xT_of (List.mem_append_right _ (List.mem_of_getElem? (i := 237) rfl)) rfl), TX4, 7, rfl⟩
set_option maxRecDepth 20000 in
theorem cv_L_26 : x_CV RL 26 kX5_read 2 5 := ⟨Or.inl (xT_of (List.mem_append_right _ (List.mem_of_getElem? (i := 578) rfl)) rfl), ck_X5_read, (xT_of (List.mem_append_right _ (List.mem_of_getElem? (i := 579) rfl)) rfl), (xT_of (List.mem_append_right _ (List.mem_of_getElem? (i := 580) rfl)) rfl), TX5, 8, rfl⟩
theorem cv_L_27 : x_CV RL 27 kX4_pin 2 4 := ⟨Or.inl (xT_of (List.mem_append_right _ (List.mem_of_getElem? (i := 257) rfl)) rfl), ck_X4_pin, (xT_of (List.mem_append_right _ (List.mem_of_getElem? (i := 258) rfl)) rfl), (xT_of (List.mem_append_right _ (List.mem_of_getElem? (i := 259) rfl)) rfl), TX4, 7, rfl⟩
set_option maxRecDepth 20000 in
theorem cv_L_31 : x_CV RL 31 kX5_pin 2 5 := ⟨Or.inl (xT_of (List.mem_append_right _ (List.mem_of_getElem? (i := 591) rfl)) rfl), ck_X5_pin, (xT_of (List.mem_append_right _ (List.mem_of_getElem? (i := 592) rfl)) rfl), (xT_of (List.mem_append_right _ (List.mem_of_getElem? (i := 593) rfl)) rfl), TX5, 8, rfl⟩
theorem cv_L_32 : x_CV RL 32 kX4_pass 1 4 := ⟨Or.inl (xT_of (List.mem_append_right _ (List.mem_of_getElem? (i := 269) rfl)) rfl), ck_X4_pass, (xT_of (List.mem_append_right _ (List.mem_of_getElem? (i := 270) rfl)) rfl), (xT_of (List.mem_append_right _ (List.mem_of_getElem? (i := 271) rfl)) rfl), TX4, 7, rfl⟩
set_option maxRecDepth 20000 in
theorem cv_L_35 : x_CV RL 35 kX5_pass 1 5 := ⟨Or.inl (xT_of (List.mem_append_right _ (List.mem_of_getElem? (i := 603) rfl)) rfl), ck_X5_pass, (xT_of (List.mem_append_right _ (List.mem_of_getElem? (i := 604) rfl)) rfl), (xT_of (List.mem_append_right _ (List.mem_of_getElem? (i := 605) rfl)) rfl), TX5, 8, rfl⟩
set_option maxRecDepth 20000 in
theorem cv_L_36 : x_CV RL 36 kX4_set 2 4 := ⟨Or.inl (xT_of (List.mem_append_right _ (List.mem_of_getElem? (i := 328) rfl)) rfl), ck_X4_set, (xT_of (List.mem_append_right _ (List.mem_of_getElem? (i := 329) rfl)) rfl), (xT_of (List.mem_append_right _ (List.mem_of_getElem? (i := 330) rfl)) rfl), TX4, 7, rfl⟩
set_option maxRecDepth 20000 in
theorem cv_L_39 : x_CV RL 39 kX5_set 2 5 := ⟨Or.inl (xT_of (List.mem_append_right _ (List.mem_of_getElem? (i := 639) rfl)) rfl), ck_X5_set, (xT_of (List.mem_append_right _ (List.mem_of_getElem? (i := 640) rfl)) rfl), (xT_of (List.mem_append_right _ (List.mem_of_getElem? (i := 641) rfl)) rfl), TX5, 8, rfl⟩
set_option maxRecDepth 20000 in
theorem cv_L_40 : x_CV RL 40 kX4_type 1 4 := ⟨Or.inl (xT_of (List.mem_append_right _ (List.mem_of_getElem? (i := 342) rfl)) rfl), ck_X4_type, (xT_of (List.mem_append_right _ (List.mem_of_getElem? (i := 343) rfl)) rfl), (xT_of (List.mem_append_right _ (List.mem_of_getElem? (i := 344) rfl)) rfl), TX4, 7, rfl⟩
set_option maxRecDepth 20000 in
theorem cv_L_44 : x_CV RL 44 kX5_type 1 5 := ⟨Or.inl (xT_of (List.mem_append_right _ (List.mem_of_getElem? (i := 646) rfl)) rfl), ck_X5_type, (xT_of (List.mem_append_right _ (List.mem_of_getElem? (i := 647) rfl)) rfl), (xT_of (List.mem_append_right _ (List.mem_of_getElem? (i := 648) rfl)) rfl), TX5, 8, rfl⟩
set_option maxRecDepth 20000 in
theorem cv_L_45 : x_CV RL 45 kX4_clearText 0 4 := ⟨Or.inl (xT_of (List.mem_append_right _ (List.mem_of_getElem? (i := 351) rfl)) rfl), ck_X4_clearText, (xT_of (List.mem_append_right _ (List.mem_of_getElem? (i := 352) rfl)) rfl), (xT_of (List.mem_append_right _ (List.mem_of_getElem? (i := 353) rfl)) rfl), TX4, 7, rfl⟩
set_option maxRecDepth 20000 in
theorem cv_L_49 : x_CV RL 49 kX5_clearText 0 5 := ⟨Or.inl (xT_of (List.mem_append_right _ (List.mem_of_getElem? (i := 650) rfl)) rfl), ck_X5_clearText, (xT_of (List.mem_append_right _ (List.mem_of_getElem? (i := 651) rfl)) rfl), (xT_of (List.mem_append_right _ (List.mem_of_getElem? (i := 652) rfl)) rfl), TX5, 8, rfl⟩
set_option maxRecDepth 20000 in
theorem cv_L_50 : x_CV RL 50 kX4_perform 0 4 := ⟨Or.inl (xT_of (List.mem_append_right _ (List.mem_of_getElem? (i := 359) rfl)) rfl), ck_X4_perform, (xT_of (List.mem_append_right _ (List.mem_of_getElem? (i := 360) rfl)) rfl), (xT_of (List.mem_append_right _ (List.mem_of_getElem? (i := 361) rfl)) rfl), TX4, 7, rfl⟩
set_option maxRecDepth 20000 in
theorem cv_L_53 : x_CV RL 53 kX5_perform 0 5 := ⟨Or.inl (xT_of (List.mem_append_right _ (List.mem_of_getElem? (i := 654) rfl)) rfl), ck_X5_perform, (xT_of (List.mem_append_right _ (List.mem_of_getElem? (i := 655) rfl)) rfl), (xT_of (List.mem_append_right _ (List.mem_of_getElem? (i := 656) rfl)) rfl), TX5, 8, rfl⟩
set_option maxRecDepth 20000 in
theorem cv_L_54 : x_CV RL 54 kX4_undo 0 4 := ⟨Or.inl (xT_of (List.mem_append_right _ (List.mem_of_getElem? (i := 405) rfl)) rfl), ck_X4_undo, (xT_of (List.mem_append_right _ (List.mem_of_getElem? (i := 406) rfl)) rfl), (xT_of (List.mem_append_right _ (List.mem_of_getElem? (i := 407) rfl)) rfl), TX4, 7, rfl⟩
set_option maxRecDepth 20000 in
theorem cv_L_57 : x_CV RL 57 kX5_undo 0 5 := ⟨Or.inl (xT_of (List.mem_append_right _ (List.mem_of_getElem? (i := 686) rfl)) rfl), ck_X5_undo, (xT_of (List.mem_append_right _ (List.mem_of_getElem? (i := 687) rfl)) rfl), (xT_of (List.mem_append_right _ (List.mem_of_getElem? (i := 688) rfl)) rfl), TX5, 8, rfl⟩
set_option maxRecDepth 20000 in
theorem cv_L_58 : x_CV RL 58 kX4_keep 0 4 := ⟨Or.inl (xT_of (List.mem_append_right _ (List.mem_of_getElem? (i := 413) rfl)) rfl), ck_X4_keep, (xT_of (List.mem_append_right _ (List.mem_of_getElem? (i := 414) rfl)) rfl), (xT_of (List.mem_append_right _ (List.mem_of_getElem? (i := 415) rfl)) rfl), TX4, 7, rfl⟩
set_option maxRecDepth 20000 in
theorem cv_L_61 : x_CV RL 61 kX5_keep 0 5 := ⟨Or.inl (xT_of (List.mem_append_right _ (List.mem_of_getElem? (i := 690) rfl)) rfl), ck_X5_keep, (xT_of (List.mem_append_right _ (List.mem_of_getElem? (i := 691) rfl)) rfl), (xT_of (List.mem_append_right _ (List.mem_of_getElem? (i := 692) rfl)) rfl), TX5, 8, rfl⟩
set_option maxRecDepth 20000 in
theorem cv_L_62 : x_CV RL 62 kX4_restore 0 4 := ⟨Or.inl (xT_of (List.mem_append_right _ (List.mem_of_getElem? (i := 418) rfl)) rfl), ck_X4_restore, (xT_of (List.mem_append_right _ (List.mem_of_getElem? (i := 419) rfl)) rfl), (xT_of (List.mem_append_right _ (List.mem_of_getElem? (i := 420) rfl)) rfl), TX4, 7, rfl⟩
set_option maxRecDepth 20000 in
theorem cv_L_65 : x_CV RL 65 kX5_restore 0 5 := ⟨Or.inl (xT_of (List.mem_append_right _ (List.mem_of_getElem? (i := 694) rfl)) rfl), ck_X5_restore, (xT_of (List.mem_append_right _ (List.mem_of_getElem? (i := 695) rfl)) rfl), (xT_of (List.mem_append_right _ (List.mem_of_getElem? (i := 696) rfl)) rfl), TX5, 8, rfl⟩
set_option maxRecDepth 20000 in
theorem cv_L_66 : x_CV RL 66 kX4_block 1 4 := ⟨Or.inl (xT_of (List.mem_append_right _ (List.mem_of_getElem? (i := 422) rfl)) rfl), ck_X4_block, (xT_of (List.mem_append_right _ (List.mem_of_getElem? (i := 423) rfl)) rfl), (xT_of (List.mem_append_right _ (List.mem_of_getElem? (i := 424) rfl)) rfl), TX4, 7, rfl⟩
set_option maxRecDepth 20000 in
theorem cv_L_69 : x_CV RL 69 kX5_block 1 5 := ⟨Or.inl (xT_of (List.mem_append_right _ (List.mem_of_getElem? (i := 698) rfl)) rfl), ck_X5_block, (xT_of (List.mem_append_right _ (List.mem_of_getElem? (i := 699) rfl)) rfl), (xT_of (List.mem_append_right _ (List.mem_of_getElem? (i := 700) rfl)) rfl), TX5, 8, rfl⟩
set_option maxRecDepth 20000 in
theorem cv_L_70 : x_CV RL 70 kX4_ofBlock 2 4 := ⟨Or.inl (xT_of (List.mem_append_right _ (List.mem_of_getElem? (i := 434) rfl)) rfl), ck_X4_ofBlock, (xT_of (List.mem_append_right _ (List.mem_of_getElem? (i := 435) rfl)) rfl), (xT_of (List.mem_append_right _ (List.mem_of_getElem? (i := 436) rfl)) rfl), TX4, 7, rfl⟩
set_option maxRecDepth 20000 in
theorem cv_L_73 : x_CV RL 73 kX5_ofBlock 2 5 := ⟨Or.inl (xT_of (List.mem_append_right _ (List.mem_of_getElem? (i := 702) rfl)) rfl), ck_X5_ofBlock, (xT_of (List.mem_append_right _ (List.mem_of_getElem? (i := 703) rfl)) rfl), (xT_of (List.mem_append_right _ (List.mem_of_getElem? (i := 704) rfl)) rfl), TX5, 8, rfl⟩
set_option maxRecDepth 20000 in
theorem cv_L_74 : x_CV RL 74 kX4_shelf 2 4 := ⟨Or.inl (xT_of (List.mem_append_right _ (List.mem_of_getElem? (i := 444) rfl)) rfl), ck_X4_shelf, (xT_of (List.mem_append_right _ (List.mem_of_getElem? (i := 445) rfl)) rfl), (xT_of (List.mem_append_right _ (List.mem_of_getElem? (i := 446) rfl)) rfl), TX4, 7, rfl⟩
set_option maxRecDepth 20000 in
theorem cv_L_77 : x_CV RL 77 kX5_shelf 2 5 := ⟨Or.inl (xT_of (List.mem_append_right _ (List.mem_of_getElem? (i := 710) rfl)) rfl), ck_X5_shelf, (xT_of (List.mem_append_right _ (List.mem_of_getElem? (i := 711) rfl)) rfl), (xT_of (List.mem_append_right _ (List.mem_of_getElem? (i := 712) rfl)) rfl), TX5, 8, rfl⟩
set_option maxRecDepth 20000 in
theorem cv_L_78 : x_CV RL 78 kX4_total 1 4 := ⟨Or.inl (xT_of (List.mem_append_right _ (List.mem_of_getElem? (i := 457) rfl)) rfl), ck_X4_total, (xT_of (List.mem_append_right _ (List.mem_of_getElem? (i := 458) rfl)) rfl), (xT_of (List.mem_append_right _ (List.mem_of_getElem? (i := 459) rfl)) rfl), TX4, 7, rfl⟩
set_option maxRecDepth 20000 in
theorem cv_L_81 : x_CV RL 81 kX5_total 1 5 := ⟨Or.inl (xT_of (List.mem_append_right _ (List.mem_of_getElem? (i := 714) rfl)) rfl), ck_X5_total, (xT_of (List.mem_append_right _ (List.mem_of_getElem? (i := 715) rfl)) rfl), (xT_of (List.mem_append_right _ (List.mem_of_getElem? (i := 716) rfl)) rfl), TX5, 8, rfl⟩
set_option maxRecDepth 20000 in
theorem cv_L_82 : x_CV RL 82 kX4_ifPassed 2 4 := ⟨Or.inl (xT_of (List.mem_append_right _ (List.mem_of_getElem? (i := 467) rfl)) rfl), ck_X4_ifPassed, (xT_of (List.mem_append_right _ (List.mem_of_getElem? (i := 468) rfl)) rfl), (xT_of (List.mem_append_right _ (List.mem_of_getElem? (i := 469) rfl)) rfl), TX4, 7, rfl⟩
set_option maxRecDepth 20000 in
theorem cv_L_85 : x_CV RL 85 kX5_ifPassed 2 5 := ⟨Or.inl (xT_of (List.mem_append_right _ (List.mem_of_getElem? (i := 722) rfl)) rfl), ck_X5_ifPassed, (xT_of (List.mem_append_right _ (List.mem_of_getElem? (i := 723) rfl)) rfl), (xT_of (List.mem_append_right _ (List.mem_of_getElem? (i := 724) rfl)) rfl), TX5, 8, rfl⟩
set_option maxRecDepth 20000 in
theorem cv_L_86 : x_CV RL 86 kX4_nextMove 0 4 := ⟨Or.inl (xT_of (List.mem_append_right _ (List.mem_of_getElem? (i := 475) rfl)) rfl), ck_X4_nextMove, (xT_of (List.mem_append_right _ (List.mem_of_getElem? (i := 476) rfl)) rfl), (xT_of (List.mem_append_right _ (List.mem_of_getElem? (i := 477) rfl)) rfl), TX4, 7, rfl⟩
set_option maxRecDepth 20000 in
theorem cv_L_89 : x_CV RL 89 kX5_nextMove 0 5 := ⟨Or.inl (xT_of (List.mem_append_right _ (List.mem_of_getElem? (i := 726) rfl)) rfl), ck_X5_nextMove, (xT_of (List.mem_append_right _ (List.mem_of_getElem? (i := 727) rfl)) rfl), (xT_of (List.mem_append_right _ (List.mem_of_getElem? (i := 728) rfl)) rfl), TX5, 8, rfl⟩
theorem cc_L_9 : x_CC RL 9 kX4_init 0 := ⟨Or.inl (xT_of (List.mem_append_right _ (List.mem_of_getElem? (i := 11) rfl)) rfl), ck_X4_init, (xT_of (List.mem_append_right _ (List.mem_of_getElem? (i := 12) rfl)) rfl), rfl, rfl⟩
set_option maxRecDepth 20000 in
theorem cv_L_90 : x_CV RL 90 kX4_bestHot 2 4 := ⟨Or.inl (xT_of (List.mem_append_right _ (List.mem_of_getElem? (i := 479) rfl)) rfl), ck_X4_bestHot, (xT_of (List.mem_append_right _ (List.mem_of_getElem? (i := 480) rfl)) rfl), (xT_of (List.mem_append_right _ (List.mem_of_getElem? (i := 481) rfl)) rfl), TX4, 7, rfl⟩
set_option maxRecDepth 20000 in
theorem cv_L_93 : x_CV RL 93 kX5_bestHot 2 5 := ⟨Or.inl (xT_of (List.mem_append_right _ (List.mem_of_getElem? (i := 730) rfl)) rfl), ck_X5_bestHot, (xT_of (List.mem_append_right _ (List.mem_of_getElem? (i := 731) rfl)) rfl), (xT_of (List.mem_append_right _ (List.mem_of_getElem? (i := 732) rfl)) rfl), TX5, 8, rfl⟩
set_option maxRecDepth 20000 in
theorem cv_L_94 : x_CV RL 94 kX4_cheapest 2 4 := ⟨Or.inl (xT_of (List.mem_append_right _ (List.mem_of_getElem? (i := 489) rfl)) rfl), ck_X4_cheapest, (xT_of (List.mem_append_right _ (List.mem_of_getElem? (i := 490) rfl)) rfl), (xT_of (List.mem_append_right _ (List.mem_of_getElem? (i := 491) rfl)) rfl), TX4, 7, rfl⟩
set_option maxRecDepth 20000 in
theorem cv_L_97 : x_CV RL 97 kX5_cheapest 2 5 := ⟨Or.inl (xT_of (List.mem_append_right _ (List.mem_of_getElem? (i := 734) rfl)) rfl), ck_X5_cheapest, (xT_of (List.mem_append_right _ (List.mem_of_getElem? (i := 735) rfl)) rfl), (xT_of (List.mem_append_right _ (List.mem_of_getElem? (i := 736) rfl)) rfl), TX5, 8, rfl⟩
theorem cc_X0_24 : x_CC RX0 24 kX3_init 0 := ⟨Or.inr ⟨"HeatShelves", List.mem_of_getElem? (i := 3) rfl⟩, ck_X3_init, (xT_of (List.mem_append_right _ (List.mem_of_getElem? (i := 20) rfl)) rfl), rfl, rfl⟩
theorem cv_X0_25 : x_CV RX0 25 kX0_stateAt 1 0 := ⟨Or.inl (xT_of (List.mem_append_right _ (List.mem_of_getElem? (i := 212) rfl)) rfl), ck_X0_stateAt, (xT_of (List.mem_append_right _ (List.mem_of_getElem? (i := 214) rfl)) rfl), (xT_of (List.mem_append_left _ (List.mem_of_getElem? (i := 7) rfl)) rfl), TX0, 3, rfl⟩
theorem cv_X0_29 : x_CV RX0 29 kX3_copyFrom 1 3 := ⟨Or.inr ⟨"HeatShelves", List.mem_of_getElem? (i := 12) rfl⟩, ck_X3_copyFrom, (xT_of (List.mem_append_right _ (List.mem_of_getElem? (i := 177) rfl)) rfl), (xT_of (List.mem_append_left _ (List.mem_of_getElem? (i := 0) rfl)) rfl), TX3, 10, rfl⟩
theorem lk_X0_3 : Cond.methodLink RX0 3 Lib.objectInit ∈ xT := (xT_of (List.mem_append_right _ (List.mem_of_getElem? (i := 87) rfl)) rfl)
theorem cs_X1_23 : x_CS RX1 23 kX4_at 2 := ⟨Or.inr ⟨"HeatShelves", List.mem_of_getElem? (i := 18) rfl⟩, ck_X4_at, (xT_of (List.mem_append_right _ (List.mem_of_getElem? (i := 196) rfl)) rfl)⟩
theorem cv_X1_27 : x_CV RX1 27 kX3_payNight 0 3 := ⟨Or.inr ⟨"HeatShelves", List.mem_of_getElem? (i := 19) rfl⟩, ck_X3_payNight, (xT_of (List.mem_append_right _ (List.mem_of_getElem? (i := 285) rfl)) rfl), (xT_of (List.mem_append_left _ (List.mem_of_getElem? (i := 18) rfl)) rfl), TX3, 10, rfl⟩
theorem lk_X1_3 : Cond.methodLink RX1 3 Lib.objectInit ∈ xT := (xT_of (List.mem_append_right _ (List.mem_of_getElem? (i := 107) rfl)) rfl)
theorem cv_X1_30 : x_CV RX1 30 kX3_fade 0 3 := ⟨Or.inr ⟨"HeatShelves", List.mem_of_getElem? (i := 20) rfl⟩, ck_X3_fade, (xT_of (List.mem_append_right _ (List.mem_of_getElem? (i := 293) rfl)) rfl), (xT_of (List.mem_append_left _ (List.mem_of_getElem? (i := 20) rfl)) rfl), TX3, 10, rfl⟩
theorem cv_X1_33 : x_CV RX1 33 kX1_findWhoMayMove 1 1 := ⟨Or.inl (xT_of (List.mem_append_right _ (List.mem_of_getElem? (i := 296) rfl)) rfl), ck_X1_findWhoMayMove, (xT_of (List.mem_append_right _ (List.mem_of_getElem? (i := 298) rfl)) rfl), (xT_of (List.mem_append_left _ (List.mem_of_getElem? (i := 21) rfl)) rfl), TX1, 2, rfl⟩
set_option maxRecDepth 20000 in
theorem cv_X1_37 : x_CV RX1 37 kX1_moveInTurn 3 1 := ⟨Or.inl (xT_of (List.mem_append_right _ (List.mem_of_getElem? (i := 306) rfl)) rfl), ck_X1_moveInTurn, (xT_of (List.mem_append_right _ (List.mem_of_getElem? (i := 308) rfl)) rfl), (xT_of (List.mem_append_left _ (List.mem_of_getElem? (i := 23) rfl)) rfl), TX1, 2, rfl⟩
theorem cs_X1_41 : x_CS RX1 41 kX4_raise 3 := ⟨Or.inr ⟨"HeatShelves", List.mem_of_getElem? (i := 26) rfl⟩, ck_X4_raise, (xT_of (List.mem_append_right _ (List.mem_of_getElem? (i := 202) rfl)) rfl)⟩
theorem cv_X1_45 : x_CV RX1 45 kX3_countBlocks 0 3 := ⟨Or.inr ⟨"HeatShelves", List.mem_of_getElem? (i := 21) rfl⟩, ck_X3_countBlocks, (xT_of (List.mem_append_right _ (List.mem_of_getElem? (i := 193) rfl)) rfl), (xT_of (List.mem_append_left _ (List.mem_of_getElem? (i := 4) rfl)) rfl), TX3, 10, rfl⟩
set_option maxRecDepth 20000 in
theorem cv_X1_49 : x_CV RX1 49 kX3_wantedShelf 1 3 := ⟨Or.inr ⟨"HeatShelves", List.mem_of_getElem? (i := 22) rfl⟩, ck_X3_wantedShelf, (xT_of (List.mem_append_right _ (List.mem_of_getElem? (i := 303) rfl)) rfl), (xT_of (List.mem_append_left _ (List.mem_of_getElem? (i := 22) rfl)) rfl), TX3, 10, rfl⟩
theorem cs_X1_53 : x_CS RX1 53 kX4_put 3 := ⟨Or.inr ⟨"HeatShelves", List.mem_of_getElem? (i := 23) rfl⟩, ck_X4_put, (xT_of (List.mem_append_right _ (List.mem_of_getElem? (i := 199) rfl)) rfl)⟩
set_option maxRecDepth 20000 in
theorem cv_X1_65 : x_CV RX1 65 kX1_nextInTurn 2 1 := ⟨Or.inl (xT_of (List.mem_append_right _ (List.mem_of_getElem? (i := 310) rfl)) rfl), ck_X1_nextInTurn, (xT_of (List.mem_append_right _ (List.mem_of_getElem? (i := 312) rfl)) rfl), (xT_of (List.mem_append_left _ (List.mem_of_getElem? (i := 24) rfl)) rfl), TX1, 2, rfl⟩
set_option maxRecDepth 20000 in
theorem cv_X1_69 : x_CV RX1 69 kX1_shelfToMoveTo 2 1 := ⟨Or.inl (xT_of (List.mem_append_right _ (List.mem_of_getElem? (i := 314) rfl)) rfl), ck_X1_shelfToMoveTo, (xT_of (List.mem_append_right _ (List.mem_of_getElem? (i := 316) rfl)) rfl), (xT_of (List.mem_append_left _ (List.mem_of_getElem? (i := 25) rfl)) rfl), TX1, 2, rfl⟩
theorem cv_X1_73 : x_CV RX1 73 kX3_moveTo 2 3 := ⟨Or.inr ⟨"HeatShelves", List.mem_of_getElem? (i := 25) rfl⟩, ck_X3_moveTo, (xT_of (List.mem_append_right _ (List.mem_of_getElem? (i := 255) rfl)) rfl), (xT_of (List.mem_append_left _ (List.mem_of_getElem? (i := 13) rfl)) rfl), TX3, 10, rfl⟩
set_option maxRecDepth 20000 in
theorem cv_X1_77 : x_CV RX1 77 kX1_promiseIfDeep 2 1 := ⟨Or.inl (xT_of (List.mem_append_right _ (List.mem_of_getElem? (i := 323) rfl)) rfl), ck_X1_promiseIfDeep, (xT_of (List.mem_append_right _ (List.mem_of_getElem? (i := 325) rfl)) rfl), (xT_of (List.mem_append_left _ (List.mem_of_getElem? (i := 26) rfl)) rfl), TX1, 2, rfl⟩
theorem cv_X1_87 : x_CV RX1 87 kX3_hasRoom 2 3 := ⟨Or.inr ⟨"HeatShelves", List.mem_of_getElem? (i := 24) rfl⟩, ck_X3_hasRoom, (xT_of (List.mem_append_right _ (List.mem_of_getElem? (i := 189) rfl)) rfl), (xT_of (List.mem_append_left _ (List.mem_of_getElem? (i := 3) rfl)) rfl), TX3, 10, rfl⟩
set_option maxRecDepth 20000 in
theorem lk_X1_91 : Cond.methodLink RX1 91 Lib.Math.abs.name ∈ xT := (xT_of (List.mem_append_right _ (List.mem_of_getElem? (i := 319) rfl)) rfl)
theorem lk_X2_3 : Cond.methodLink RX2 3 Lib.objectInit ∈ xT := (xT_of (List.mem_append_right _ (List.mem_of_getElem? (i := 121) rfl)) rfl)
theorem cs_X2_34 : x_CS RX2 34 kX4_put 3 := ⟨Or.inr ⟨"HeatShelves", List.mem_of_getElem? (i := 29) rfl⟩, ck_X4_put, (xT_of (List.mem_append_right _ (List.mem_of_getElem? (i := 199) rfl)) rfl)⟩
set_option maxRecDepth 20000 in
theorem cv_X2_38 : x_CV RX2 38 kX2_readOrder 0 2 := ⟨Or.inl (xT_of (List.mem_append_right _ (List.mem_of_getElem? (i := 367) rfl)) rfl), ck_X2_readOrder, (xT_of (List.mem_append_right _ (List.mem_of_getElem? (i := 369) rfl)) rfl), (xT_of (List.mem_append_left _ (List.mem_of_getElem? (i := 32) rfl)) rfl), TX2, 7, rfl⟩
set_option maxRecDepth 20000 in
theorem cv_X2_42 : x_CV RX2 42 kX2_signHere 0 2 := ⟨Or.inl (xT_of (List.mem_append_right _ (List.mem_of_getElem? (i := 371) rfl)) rfl), ck_X2_signHere, (xT_of (List.mem_append_right _ (List.mem_of_getElem? (i := 373) rfl)) rfl), (xT_of (List.mem_append_left _ (List.mem_of_getElem? (i := 33) rfl)) rfl), TX2, 7, rfl⟩
set_option maxRecDepth 20000 in
theorem cv_X2_46 : x_CV RX2 46 kX2_isKind 1 2 := ⟨Or.inl (xT_of (List.mem_append_right _ (List.mem_of_getElem? (i := 376) rfl)) rfl), ck_X2_isKind, (xT_of (List.mem_append_right _ (List.mem_of_getElem? (i := 378) rfl)) rfl), (xT_of (List.mem_append_left _ (List.mem_of_getElem? (i := 34) rfl)) rfl), TX2, 7, rfl⟩
set_option maxRecDepth 20000 in
theorem cv_X2_50 : x_CV RX2 50 kX2_leastOf 1 2 := ⟨Or.inl (xT_of (List.mem_append_right _ (List.mem_of_getElem? (i := 380) rfl)) rfl), ck_X2_leastOf, (xT_of (List.mem_append_right _ (List.mem_of_getElem? (i := 382) rfl)) rfl), (xT_of (List.mem_append_left _ (List.mem_of_getElem? (i := 35) rfl)) rfl), TX2, 7, rfl⟩
set_option maxRecDepth 20000 in
theorem cv_X2_54 : x_CV RX2 54 kX2_greatestOf 1 2 := ⟨Or.inl (xT_of (List.mem_append_right _ (List.mem_of_getElem? (i := 384) rfl)) rfl), ck_X2_greatestOf, (xT_of (List.mem_append_right _ (List.mem_of_getElem? (i := 386) rfl)) rfl), (xT_of (List.mem_append_left _ (List.mem_of_getElem? (i := 36) rfl)) rfl), TX2, 7, rfl⟩
set_option maxRecDepth 20000 in
theorem cv_X2_57 : x_CV RX2 57 kX2_readNumber 2 2 := ⟨Or.inl (xT_of (List.mem_append_right _ (List.mem_of_getElem? (i := 388) rfl)) rfl), ck_X2_readNumber, (xT_of (List.mem_append_right _ (List.mem_of_getElem? (i := 390) rfl)) rfl), (xT_of (List.mem_append_left _ (List.mem_of_getElem? (i := 37) rfl)) rfl), TX2, 7, rfl⟩
set_option maxRecDepth 20000 in
theorem cv_X2_61 : x_CV RX2 61 kX2_digitHere 0 2 := ⟨Or.inl (xT_of (List.mem_append_right _ (List.mem_of_getElem? (i := 392) rfl)) rfl), ck_X2_digitHere, (xT_of (List.mem_append_right _ (List.mem_of_getElem? (i := 394) rfl)) rfl), (xT_of (List.mem_append_left _ (List.mem_of_getElem? (i := 38) rfl)) rfl), TX2, 7, rfl⟩
theorem cs_X2_64 : x_CS RX2 64 kX4_at 2 := ⟨Or.inr ⟨"HeatShelves", List.mem_of_getElem? (i := 32) rfl⟩, ck_X4_at, (xT_of (List.mem_append_right _ (List.mem_of_getElem? (i := 196) rfl)) rfl)⟩
theorem cv_X3_102 : x_CV RX3 102 kX3_nightPriceOfShelf 1 3 := ⟨Or.inl (xT_of (List.mem_append_right _ (List.mem_of_getElem? (i := 287) rfl)) rfl), ck_X3_nightPriceOfShelf, (xT_of (List.mem_append_right _ (List.mem_of_getElem? (i := 289) rfl)) rfl), (xT_of (List.mem_append_left _ (List.mem_of_getElem? (i := 19) rfl)) rfl), TX3, 10, rfl⟩
theorem lk_X3_105 : Cond.methodLink RX3 105 Lib.Math.max.name ∈ xT := (xT_of (List.mem_append_right _ (List.mem_of_getElem? (i := 295) rfl)) rfl)
theorem cv_X3_108 : x_CV RX3 108 kX3_countPinned 0 3 := ⟨Or.inl (xT_of (List.mem_append_right _ (List.mem_of_getElem? (i := 265) rfl)) rfl), ck_X3_countPinned, (xT_of (List.mem_append_right _ (List.mem_of_getElem? (i := 267) rfl)) rfl), (xT_of (List.mem_append_left _ (List.mem_of_getElem? (i := 15) rfl)) rfl), TX3, 10, rfl⟩
set_option maxRecDepth 20000 in
theorem cv_X3_111 : x_CV RX3 111 kX3_turnPin 2 3 := ⟨Or.inl (xT_of (List.mem_append_right _ (List.mem_of_getElem? (i := 404) rfl)) rfl), ck_X3_turnPin, (xT_of (List.mem_append_right _ (List.mem_of_getElem? (i := 263) rfl)) rfl), (xT_of (List.mem_append_left _ (List.mem_of_getElem? (i := 14) rfl)) rfl), TX3, 10, rfl⟩
set_option maxRecDepth 20000 in
theorem cv_X3_118 : x_CV RX3 118 kX3_allowsSetting 2 3 := ⟨Or.inl (xT_of (List.mem_append_right _ (List.mem_of_getElem? (i := 338) rfl)) rfl), ck_X3_allowsSetting, (xT_of (List.mem_append_right _ (List.mem_of_getElem? (i := 340) rfl)) rfl), (xT_of (List.mem_append_left _ (List.mem_of_getElem? (i := 28) rfl)) rfl), TX3, 10, rfl⟩
theorem lk_X3_3 : Cond.methodLink RX3 3 Lib.objectInit ∈ xT := (xT_of (List.mem_append_right _ (List.mem_of_getElem? (i := 22) rfl)) rfl)
theorem cs_X3_45 : x_CS RX3 45 kX4_copyRow 2 := ⟨Or.inr ⟨"HeatShelves", List.mem_of_getElem? (i := 1) rfl⟩, ck_X4_copyRow, (xT_of (List.mem_append_right _ (List.mem_of_getElem? (i := 26) rfl)) rfl)⟩
theorem cs_X3_49 : x_CS RX3 49 kX4_at 2 := ⟨Or.inr ⟨"HeatShelves", List.mem_of_getElem? (i := 8) rfl⟩, ck_X4_at, (xT_of (List.mem_append_right _ (List.mem_of_getElem? (i := 196) rfl)) rfl)⟩
theorem cv_X3_53 : x_CV RX3 53 kX3_countBlocks 0 3 := ⟨Or.inl (xT_of (List.mem_append_right _ (List.mem_of_getElem? (i := 191) rfl)) rfl), ck_X3_countBlocks, (xT_of (List.mem_append_right _ (List.mem_of_getElem? (i := 193) rfl)) rfl), (xT_of (List.mem_append_left _ (List.mem_of_getElem? (i := 4) rfl)) rfl), TX3, 10, rfl⟩
set_option maxRecDepth 20000 in
theorem cv_X3_57 : x_CV RX3 57 kX3_countHotter 1 3 := ⟨Or.inl (xT_of (List.mem_append_right _ (List.mem_of_getElem? (i := 430) rfl)) rfl), ck_X3_countHotter, (xT_of (List.mem_append_right _ (List.mem_of_getElem? (i := 432) rfl)) rfl), (xT_of (List.mem_append_left _ (List.mem_of_getElem? (i := 43) rfl)) rfl), TX3, 10, rfl⟩
set_option maxRecDepth 20000 in
theorem cv_X3_61 : x_CV RX3 61 kX3_heatOnShelf 1 3 := ⟨Or.inl (xT_of (List.mem_append_right _ (List.mem_of_getElem? (i := 466) rfl)) rfl), ck_X3_heatOnShelf, (xT_of (List.mem_append_right _ (List.mem_of_getElem? (i := 454) rfl)) rfl), (xT_of (List.mem_append_left _ (List.mem_of_getElem? (i := 46) rfl)) rfl), TX3, 10, rfl⟩
theorem cv_X3_64 : x_CV RX3 64 kX3_fastestWithRoom 1 3 := ⟨Or.inl (xT_of (List.mem_append_right _ (List.mem_of_getElem? (i := 183) rfl)) rfl), ck_X3_fastestWithRoom, (xT_of (List.mem_append_right _ (List.mem_of_getElem? (i := 185) rfl)) rfl), (xT_of (List.mem_append_left _ (List.mem_of_getElem? (i := 2) rfl)) rfl), TX3, 10, rfl⟩
theorem cs_X3_67 : x_CS RX3 67 kX4_put 3 := ⟨Or.inr ⟨"HeatShelves", List.mem_of_getElem? (i := 9) rfl⟩, ck_X4_put, (xT_of (List.mem_append_right _ (List.mem_of_getElem? (i := 199) rfl)) rfl)⟩
theorem cs_X3_71 : x_CS RX3 71 kX4_raise 3 := ⟨Or.inr ⟨"HeatShelves", List.mem_of_getElem? (i := 10) rfl⟩, ck_X4_raise, (xT_of (List.mem_append_right _ (List.mem_of_getElem? (i := 202) rfl)) rfl)⟩
theorem cv_X3_74 : x_CV RX3 74 kX3_hasRoom 2 3 := ⟨Or.inl (xT_of (List.mem_append_right _ (List.mem_of_getElem? (i := 187) rfl)) rfl), ck_X3_hasRoom, (xT_of (List.mem_append_right _ (List.mem_of_getElem? (i := 189) rfl)) rfl), (xT_of (List.mem_append_left _ (List.mem_of_getElem? (i := 3) rfl)) rfl), TX3, 10, rfl⟩
theorem cv_X3_78 : x_CV RX3 78 kX3_find 1 3 := ⟨Or.inl (xT_of (List.mem_append_right _ (List.mem_of_getElem? (i := 225) rfl)) rfl), ck_X3_find, (xT_of (List.mem_append_right _ (List.mem_of_getElem? (i := 227) rfl)) rfl), (xT_of (List.mem_append_left _ (List.mem_of_getElem? (i := 9) rfl)) rfl), TX3, 10, rfl⟩
theorem cs_X3_81 : x_CS RX3 81 kX4_closeGap 2 := ⟨Or.inr ⟨"HeatShelves", List.mem_of_getElem? (i := 14) rfl⟩, ck_X4_closeGap, (xT_of (List.mem_append_right _ (List.mem_of_getElem? (i := 230) rfl)) rfl)⟩
theorem cv_X3_85 : x_CV RX3 85 kX3_readOnce 1 3 := ⟨Or.inl (xT_of (List.mem_append_right _ (List.mem_of_getElem? (i := 243) rfl)) rfl), ck_X3_readOnce, (xT_of (List.mem_append_right _ (List.mem_of_getElem? (i := 245) rfl)) rfl), (xT_of (List.mem_append_left _ (List.mem_of_getElem? (i := 11) rfl)) rfl), TX3, 10, rfl⟩
theorem lk_X3_89 : Cond.methodLink RX3 89 Lib.Math.min.name ∈ xT := (xT_of (List.mem_append_right _ (List.mem_of_getElem? (i := 248) rfl)) rfl)
theorem cv_X3_95 : x_CV RX3 95 kX3_askBack 1 3 := ⟨Or.inl (xT_of (List.mem_append_right _ (List.mem_of_getElem? (i := 249) rfl)) rfl), ck_X3_askBack, (xT_of (List.mem_append_right _ (List.mem_of_getElem? (i := 251) rfl)) rfl), (xT_of (List.mem_append_left _ (List.mem_of_getElem? (i := 12) rfl)) rfl), TX3, 10, rfl⟩
theorem cv_X3_98 : x_CV RX3 98 kX3_moveTo 2 3 := ⟨Or.inl (xT_of (List.mem_append_right _ (List.mem_of_getElem? (i := 253) rfl)) rfl), ck_X3_moveTo, (xT_of (List.mem_append_right _ (List.mem_of_getElem? (i := 255) rfl)) rfl), (xT_of (List.mem_append_left _ (List.mem_of_getElem? (i := 13) rfl)) rfl), TX3, 10, rfl⟩
theorem lk_X4_1 : Cond.methodLink RX4 1 Lib.objectInit ∈ xT := (xT_of (List.mem_append_right _ (List.mem_of_getElem? (i := 14) rfl)) rfl)
set_option maxRecDepth 20000 in
theorem cv_X4_101 : x_CV RX4 101 kX3_placeOfRank 1 3 := ⟨Or.inr ⟨"HeatShelves", List.mem_of_getElem? (i := 36) rfl⟩, ck_X3_placeOfRank, (xT_of (List.mem_append_right _ (List.mem_of_getElem? (i := 428) rfl)) rfl), (xT_of (List.mem_append_left _ (List.mem_of_getElem? (i := 42) rfl)) rfl), TX3, 10, rfl⟩
theorem cs_X4_108 : x_CS RX4 108 kX4_at 2 := ⟨Or.inl (xT_of (List.mem_append_right _ (List.mem_of_getElem? (i := 277) rfl)) rfl), ck_X4_at, (xT_of (List.mem_append_right _ (List.mem_of_getElem? (i := 196) rfl)) rfl)⟩
theorem cv_X4_112 : x_CV RX4 112 kX3_find 1 3 := ⟨Or.inr ⟨"HeatShelves", List.mem_of_getElem? (i := 37) rfl⟩, ck_X3_find, (xT_of (List.mem_append_right _ (List.mem_of_getElem? (i := 227) rfl)) rfl), (xT_of (List.mem_append_left _ (List.mem_of_getElem? (i := 9) rfl)) rfl), TX3, 10, rfl⟩
set_option maxRecDepth 20000 in
theorem cv_X4_124 : x_CV RX4 124 kX3_wantedShelf 1 3 := ⟨Or.inr ⟨"HeatShelves", List.mem_of_getElem? (i := 38) rfl⟩, ck_X3_wantedShelf, (xT_of (List.mem_append_right _ (List.mem_of_getElem? (i := 303) rfl)) rfl), (xT_of (List.mem_append_left _ (List.mem_of_getElem? (i := 22) rfl)) rfl), TX3, 10, rfl⟩
set_option maxRecDepth 20000 in
theorem cv_X4_139 : x_CV RX4 139 kX4_whyItStays 1 4 := ⟨Or.inl (xT_of (List.mem_append_right _ (List.mem_of_getElem? (i := 440) rfl)) rfl), ck_X4_whyItStays, (xT_of (List.mem_append_right _ (List.mem_of_getElem? (i := 442) rfl)) rfl), (xT_of (List.mem_append_left _ (List.mem_of_getElem? (i := 44) rfl)) rfl), TX4, 7, rfl⟩
set_option maxRecDepth 20000 in
theorem cv_X4_148 : x_CV RX4 148 kX3_countOnShelf 1 3 := ⟨Or.inr ⟨"HeatShelves", List.mem_of_getElem? (i := 39) rfl⟩, ck_X3_countOnShelf, (xT_of (List.mem_append_right _ (List.mem_of_getElem? (i := 450) rfl)) rfl), (xT_of (List.mem_append_left _ (List.mem_of_getElem? (i := 45) rfl)) rfl), TX3, 10, rfl⟩
set_option maxRecDepth 20000 in
theorem cv_X4_151 : x_CV RX4 151 kX3_heatOnShelf 1 3 := ⟨Or.inr ⟨"HeatShelves", List.mem_of_getElem? (i := 40) rfl⟩, ck_X3_heatOnShelf, (xT_of (List.mem_append_right _ (List.mem_of_getElem? (i := 454) rfl)) rfl), (xT_of (List.mem_append_left _ (List.mem_of_getElem? (i := 46) rfl)) rfl), TX3, 10, rfl⟩
theorem cv_X4_154 : x_CV RX4 154 kX3_nightPriceOfShelf 1 3 := ⟨Or.inr ⟨"HeatShelves", List.mem_of_getElem? (i := 41) rfl⟩, ck_X3_nightPriceOfShelf, (xT_of (List.mem_append_right _ (List.mem_of_getElem? (i := 289) rfl)) rfl), (xT_of (List.mem_append_left _ (List.mem_of_getElem? (i := 19) rfl)) rfl), TX3, 10, rfl⟩
theorem cv_X4_157 : x_CV RX4 157 kX3_countPinned 0 3 := ⟨Or.inr ⟨"HeatShelves", List.mem_of_getElem? (i := 42) rfl⟩, ck_X3_countPinned, (xT_of (List.mem_append_right _ (List.mem_of_getElem? (i := 267) rfl)) rfl), (xT_of (List.mem_append_left _ (List.mem_of_getElem? (i := 15) rfl)) rfl), TX3, 10, rfl⟩
set_option maxRecDepth 20000 in
theorem cv_X4_160 : x_CV RX4 160 kX3_heatOfAll 0 3 := ⟨Or.inr ⟨"HeatShelves", List.mem_of_getElem? (i := 43) rfl⟩, ck_X3_heatOfAll, (xT_of (List.mem_append_right _ (List.mem_of_getElem? (i := 464) rfl)) rfl), (xT_of (List.mem_append_left _ (List.mem_of_getElem? (i := 47) rfl)) rfl), TX3, 10, rfl⟩
theorem cv_X4_166 : x_CV RX4 166 kX1_letPass 2 1 := ⟨Or.inr ⟨"HeatShelves", List.mem_of_getElem? (i := 17) rfl⟩, ck_X1_letPass, (xT_of (List.mem_append_right _ (List.mem_of_getElem? (i := 280) rfl)) rfl), (xT_of (List.mem_append_left _ (List.mem_of_getElem? (i := 17) rfl)) rfl), TX1, 2, rfl⟩
set_option maxRecDepth 20000 in
theorem cv_X4_170 : x_CV RX4 170 kX4_paidForNightsInWork 0 4 := ⟨Or.inl (xT_of (List.mem_append_right _ (List.mem_of_getElem? (i := 471) rfl)) rfl), ck_X4_paidForNightsInWork, (xT_of (List.mem_append_right _ (List.mem_of_getElem? (i := 473) rfl)) rfl), (xT_of (List.mem_append_left _ (List.mem_of_getElem? (i := 48) rfl)) rfl), TX4, 7, rfl⟩
set_option maxRecDepth 20000 in
theorem cv_X4_176 : x_CV RX4 176 kX4_paidWithHot 2 4 := ⟨Or.inl (xT_of (List.mem_append_right _ (List.mem_of_getElem? (i := 484) rfl)) rfl), ck_X4_paidWithHot, (xT_of (List.mem_append_right _ (List.mem_of_getElem? (i := 486) rfl)) rfl), (xT_of (List.mem_append_left _ (List.mem_of_getElem? (i := 49) rfl)) rfl), TX4, 7, rfl⟩
set_option maxRecDepth 20000 in
theorem cv_X4_179 : x_CV RX4 179 kX4_priceOfStay 3 4 := ⟨Or.inl (xT_of (List.mem_append_right _ (List.mem_of_getElem? (i := 493) rfl)) rfl), ck_X4_priceOfStay, (xT_of (List.mem_append_right _ (List.mem_of_getElem? (i := 495) rfl)) rfl), (xT_of (List.mem_append_left _ (List.mem_of_getElem? (i := 50) rfl)) rfl), TX4, 7, rfl⟩
theorem cv_X4_183 : x_CV RX4 183 kX0_record 1 0 := ⟨Or.inr ⟨"HeatShelves", List.mem_of_getElem? (i := 11) rfl⟩, ck_X0_record, (xT_of (List.mem_append_right _ (List.mem_of_getElem? (i := 210) rfl)) rfl), (xT_of (List.mem_append_left _ (List.mem_of_getElem? (i := 6) rfl)) rfl), TX0, 3, rfl⟩
set_option maxRecDepth 20000 in
theorem cv_X4_195 : x_CV RX4 195 kX3_flipPin 1 3 := ⟨Or.inr ⟨"HeatShelves", List.mem_of_getElem? (i := 33) rfl⟩, ck_X3_flipPin, (xT_of (List.mem_append_right _ (List.mem_of_getElem? (i := 402) rfl)) rfl), (xT_of (List.mem_append_left _ (List.mem_of_getElem? (i := 40) rfl)) rfl), TX3, 10, rfl⟩
set_option maxRecDepth 20000 in
theorem cs_X4_201 : x_CS RX4 201 kX4_put 3 := ⟨Or.inl (xT_of (List.mem_append_right _ (List.mem_of_getElem? (i := 488) rfl)) rfl), ck_X4_put, (xT_of (List.mem_append_right _ (List.mem_of_getElem? (i := 199) rfl)) rfl)⟩
theorem lk_X4_205 : Cond.methodLink RX4 205 Lib.Math.min.name ∈ xT := (xT_of (List.mem_append_right _ (List.mem_of_getElem? (i := 28) rfl)) rfl)
theorem lk_X4_210 : Cond.methodLink RX4 210 arraycopyName ∈ xT := (xT_of (List.mem_append_right _ (List.mem_of_getElem? (i := 31) rfl)) rfl)
theorem lk_X4_216 : Cond.methodLink RX4 216 Lib.Math.max.name ∈ xT := (xT_of (List.mem_append_right _ (List.mem_of_getElem? (i := 232) rfl)) rfl)
theorem cc_X4_28 : x_CC RX4 28 kX0_init 0 := ⟨Or.inr ⟨"HeatShelves", List.mem_of_getElem? (i := 2) rfl⟩, ck_X0_init, (xT_of (List.mem_append_right _ (List.mem_of_getElem? (i := 85) rfl)) rfl), rfl, rfl⟩
theorem cc_X4_35 : x_CC RX4 35 kX1_init 0 := ⟨Or.inr ⟨"HeatShelves", List.mem_of_getElem? (i := 4) rfl⟩, ck_X1_init, (xT_of (List.mem_append_right _ (List.mem_of_getElem? (i := 105) rfl)) rfl), rfl, rfl⟩
theorem cc_X4_42 : x_CC RX4 42 kX2_init 0 := ⟨Or.inr ⟨"HeatShelves", List.mem_of_getElem? (i := 5) rfl⟩, ck_X2_init, (xT_of (List.mem_append_right _ (List.mem_of_getElem? (i := 119) rfl)) rfl), rfl, rfl⟩
theorem cv_X4_47 : x_CV RX4 47 kX3_copyFrom 1 3 := ⟨Or.inr ⟨"HeatShelves", List.mem_of_getElem? (i := 6) rfl⟩, ck_X3_copyFrom, (xT_of (List.mem_append_right _ (List.mem_of_getElem? (i := 177) rfl)) rfl), (xT_of (List.mem_append_left _ (List.mem_of_getElem? (i := 0) rfl)) rfl), TX3, 10, rfl⟩
theorem cv_X4_51 : x_CV RX4 51 kX3_addBlock 1 3 := ⟨Or.inr ⟨"HeatShelves", List.mem_of_getElem? (i := 7) rfl⟩, ck_X3_addBlock, (xT_of (List.mem_append_right _ (List.mem_of_getElem? (i := 181) rfl)) rfl), (xT_of (List.mem_append_left _ (List.mem_of_getElem? (i := 1) rfl)) rfl), TX3, 10, rfl⟩
theorem cv_X4_55 : x_CV RX4 55 kX4_settle 1 4 := ⟨Or.inl (xT_of (List.mem_append_right _ (List.mem_of_getElem? (i := 204) rfl)) rfl), ck_X4_settle, (xT_of (List.mem_append_right _ (List.mem_of_getElem? (i := 206) rfl)) rfl), (xT_of (List.mem_append_left _ (List.mem_of_getElem? (i := 5) rfl)) rfl), TX4, 7, rfl⟩
theorem cv_X4_58 : x_CV RX4 58 kX3_dropBlock 1 3 := ⟨Or.inr ⟨"HeatShelves", List.mem_of_getElem? (i := 13) rfl⟩, ck_X3_dropBlock, (xT_of (List.mem_append_right _ (List.mem_of_getElem? (i := 223) rfl)) rfl), (xT_of (List.mem_append_left _ (List.mem_of_getElem? (i := 8) rfl)) rfl), TX3, 10, rfl⟩
theorem cv_X4_61 : x_CV RX4 61 kX3_readBlock 2 3 := ⟨Or.inr ⟨"HeatShelves", List.mem_of_getElem? (i := 15) rfl⟩, ck_X3_readBlock, (xT_of (List.mem_append_right _ (List.mem_of_getElem? (i := 241) rfl)) rfl), (xT_of (List.mem_append_left _ (List.mem_of_getElem? (i := 10) rfl)) rfl), TX3, 10, rfl⟩
theorem cv_X4_65 : x_CV RX4 65 kX3_turnPin 2 3 := ⟨Or.inr ⟨"HeatShelves", List.mem_of_getElem? (i := 16) rfl⟩, ck_X3_turnPin, (xT_of (List.mem_append_right _ (List.mem_of_getElem? (i := 263) rfl)) rfl), (xT_of (List.mem_append_left _ (List.mem_of_getElem? (i := 14) rfl)) rfl), TX3, 10, rfl⟩
theorem cv_X4_69 : x_CV RX4 69 kX4_passInWork 1 4 := ⟨Or.inl (xT_of (List.mem_append_right _ (List.mem_of_getElem? (i := 273) rfl)) rfl), ck_X4_passInWork, (xT_of (List.mem_append_right _ (List.mem_of_getElem? (i := 275) rfl)) rfl), (xT_of (List.mem_append_left _ (List.mem_of_getElem? (i := 16) rfl)) rfl), TX4, 7, rfl⟩
set_option maxRecDepth 20000 in
theorem cv_X4_72 : x_CV RX4 72 kX3_changeSetting 2 3 := ⟨Or.inr ⟨"HeatShelves", List.mem_of_getElem? (i := 27) rfl⟩, ck_X3_changeSetting, (xT_of (List.mem_append_right _ (List.mem_of_getElem? (i := 334) rfl)) rfl), (xT_of (List.mem_append_left _ (List.mem_of_getElem? (i := 27) rfl)) rfl), TX3, 10, rfl⟩
set_option maxRecDepth 20000 in
theorem cv_X4_75 : x_CV RX4 75 kX2_append 1 2 := ⟨Or.inr ⟨"HeatShelves", List.mem_of_getElem? (i := 28) rfl⟩, ck_X2_append, (xT_of (List.mem_append_right _ (List.mem_of_getElem? (i := 348) rfl)) rfl), (xT_of (List.mem_append_left _ (List.mem_of_getElem? (i := 29) rfl)) rfl), TX2, 7, rfl⟩
set_option maxRecDepth 20000 in
theorem cv_X4_79 : x_CV RX4 79 kX2_empty 0 2 := ⟨Or.inr ⟨"HeatShelves", List.mem_of_getElem? (i := 30) rfl⟩, ck_X2_empty, (xT_of (List.mem_append_right _ (List.mem_of_getElem? (i := 357) rfl)) rfl), (xT_of (List.mem_append_left _ (List.mem_of_getElem? (i := 30) rfl)) rfl), TX2, 7, rfl⟩
set_option maxRecDepth 20000 in
theorem cv_X4_83 : x_CV RX4 83 kX2_readAll 0 2 := ⟨Or.inr ⟨"HeatShelves", List.mem_of_getElem? (i := 31) rfl⟩, ck_X2_readAll, (xT_of (List.mem_append_right _ (List.mem_of_getElem? (i := 365) rfl)) rfl), (xT_of (List.mem_append_left _ (List.mem_of_getElem? (i := 31) rfl)) rfl), TX2, 7, rfl⟩
theorem cc_X4_9 : x_CC RX4 9 kX3_init 0 := ⟨Or.inr ⟨"HeatShelves", List.mem_of_getElem? (i := 0) rfl⟩, ck_X3_init, (xT_of (List.mem_append_right _ (List.mem_of_getElem? (i := 20) rfl)) rfl), rfl, rfl⟩
set_option maxRecDepth 20000 in
theorem cv_X4_90 : x_CV RX4 90 kX4_performInWork 1 4 := ⟨Or.inl (xT_of (List.mem_append_right _ (List.mem_of_getElem? (i := 396) rfl)) rfl), ck_X4_performInWork, (xT_of (List.mem_append_right _ (List.mem_of_getElem? (i := 398) rfl)) rfl), (xT_of (List.mem_append_left _ (List.mem_of_getElem? (i := 39) rfl)) rfl), TX4, 7, rfl⟩
set_option maxRecDepth 20000 in
theorem cv_X4_93 : x_CV RX4 93 kX0_takeLatest 1 0 := ⟨Or.inr ⟨"HeatShelves", List.mem_of_getElem? (i := 34) rfl⟩, ck_X0_takeLatest, (xT_of (List.mem_append_right _ (List.mem_of_getElem? (i := 411) rfl)) rfl), (xT_of (List.mem_append_left _ (List.mem_of_getElem? (i := 41) rfl)) rfl), TX0, 3, rfl⟩
theorem cv_X4_98 : x_CV RX4 98 kX3_countBlocks 0 3 := ⟨Or.inr ⟨"HeatShelves", List.mem_of_getElem? (i := 35) rfl⟩, ck_X3_countBlocks, (xT_of (List.mem_append_right _ (List.mem_of_getElem? (i := 193) rfl)) rfl), (xT_of (List.mem_append_left _ (List.mem_of_getElem? (i := 4) rfl)) rfl), TX3, 10, rfl⟩
set_option maxRecDepth 20000 in
theorem lk_X5_1 : Cond.methodLink RX5 1 Lib.objectInit ∈ xT := (xT_of (List.mem_append_right _ (List.mem_of_getElem? (i := 502) rfl)) rfl)
set_option maxRecDepth 20000 in
theorem cv_X5_102 : x_CV RX5 102 kX5_passesIn 1 5 := ⟨Or.inl (xT_of (List.mem_append_right _ (List.mem_of_getElem? (i := 607) rfl)) rfl), ck_X5_passesIn, (xT_of (List.mem_append_right _ (List.mem_of_getElem? (i := 609) rfl)) rfl), (xT_of (List.mem_append_left _ (List.mem_of_getElem? (i := 64) rfl)) rfl), TX5, 8, rfl⟩
set_option maxRecDepth 20000 in
theorem cs_X5_105 : x_CS RX5 105 kX5_mostOf 1 := ⟨Or.inl (xT_of (List.mem_append_right _ (List.mem_of_getElem? (i := 643) rfl)) rfl), ck_X5_mostOf, (xT_of (List.mem_append_right _ (List.mem_of_getElem? (i := 644) rfl)) rfl)⟩
set_option maxRecDepth 20000 in
theorem cv_X5_111 : x_CV RX5 111 kX5_sign 1 5 := ⟨Or.inl (xT_of (List.mem_append_right _ (List.mem_of_getElem? (i := 666) rfl)) rfl), ck_X5_sign, (xT_of (List.mem_append_right _ (List.mem_of_getElem? (i := 668) rfl)) rfl), (xT_of (List.mem_append_left _ (List.mem_of_getElem? (i := 74) rfl)) rfl), TX5, 8, rfl⟩
set_option maxRecDepth 20000 in
theorem cv_X5_114 : x_CV RX5 114 kX5_digit 1 5 := ⟨Or.inl (xT_of (List.mem_append_right _ (List.mem_of_getElem? (i := 674) rfl)) rfl), ck_X5_digit, (xT_of (List.mem_append_right _ (List.mem_of_getElem? (i := 676) rfl)) rfl), (xT_of (List.mem_append_left _ (List.mem_of_getElem? (i := 76) rfl)) rfl), TX5, 8, rfl⟩
set_option maxRecDepth 20000 in
theorem cv_X5_117 : x_CV RX5 117 kX5_numberEnd 3 5 := ⟨Or.inl (xT_of (List.mem_append_right _ (List.mem_of_getElem? (i := 670) rfl)) rfl), ck_X5_numberEnd, (xT_of (List.mem_append_right _ (List.mem_of_getElem? (i := 672) rfl)) rfl), (xT_of (List.mem_append_left _ (List.mem_of_getElem? (i := 75) rfl)) rfl), TX5, 8, rfl⟩
set_option maxRecDepth 20000 in
theorem cv_X5_120 : x_CV RX5 120 kX5_orderEnd 1 5 := ⟨Or.inl (xT_of (List.mem_append_right _ (List.mem_of_getElem? (i := 662) rfl)) rfl), ck_X5_orderEnd, (xT_of (List.mem_append_right _ (List.mem_of_getElem? (i := 664) rfl)) rfl), (xT_of (List.mem_append_left _ (List.mem_of_getElem? (i := 73) rfl)) rfl), TX5, 8, rfl⟩
set_option maxRecDepth 20000 in
theorem cv_X5_123 : x_CV RX5 123 kX5_numberAt 1 5 := ⟨Or.inl (xT_of (List.mem_append_right _ (List.mem_of_getElem? (i := 682) rfl)) rfl), ck_X5_numberAt, (xT_of (List.mem_append_right _ (List.mem_of_getElem? (i := 684) rfl)) rfl), (xT_of (List.mem_append_left _ (List.mem_of_getElem? (i := 78) rfl)) rfl), TX5, 8, rfl⟩
set_option maxRecDepth 20000 in
theorem cv_X5_126 : x_CV RX5 126 kX5_fault 0 5 := ⟨Or.inl (xT_of (List.mem_append_right _ (List.mem_of_getElem? (i := 658) rfl)) rfl), ck_X5_fault, (xT_of (List.mem_append_right _ (List.mem_of_getElem? (i := 660) rfl)) rfl), (xT_of (List.mem_append_left _ (List.mem_of_getElem? (i := 72) rfl)) rfl), TX5, 8, rfl⟩
set_option maxRecDepth 20000 in
theorem cv_X5_130 : x_CV RX5 130 kX5_does 1 5 := ⟨Or.inl (xT_of (List.mem_append_right _ (List.mem_of_getElem? (i := 678) rfl)) rfl), ck_X5_does, (xT_of (List.mem_append_right _ (List.mem_of_getElem? (i := 680) rfl)) rfl), (xT_of (List.mem_append_left _ (List.mem_of_getElem? (i := 77) rfl)) rfl), TX5, 8, rfl⟩
set_option maxRecDepth 20000 in
theorem cv_X5_137 : x_CV RX5 137 kX5_whyStays 1 5 := ⟨Or.inl (xT_of (List.mem_append_right _ (List.mem_of_getElem? (i := 706) rfl)) rfl), ck_X5_whyStays, (xT_of (List.mem_append_right _ (List.mem_of_getElem? (i := 708) rfl)) rfl), (xT_of (List.mem_append_left _ (List.mem_of_getElem? (i := 79) rfl)) rfl), TX5, 8, rfl⟩
set_option maxRecDepth 20000 in
theorem cv_X5_140 : x_CV RX5 140 kX5_heat 1 5 := ⟨Or.inl (xT_of (List.mem_append_right _ (List.mem_of_getElem? (i := 718) rfl)) rfl), ck_X5_heat, (xT_of (List.mem_append_right _ (List.mem_of_getElem? (i := 720) rfl)) rfl), (xT_of (List.mem_append_left _ (List.mem_of_getElem? (i := 80) rfl)) rfl), TX5, 8, rfl⟩
set_option maxRecDepth 20000 in
theorem cv_X5_29 : x_CV RX5 29 kX5_remembers 0 5 := ⟨Or.inl (xT_of (List.mem_append_right _ (List.mem_of_getElem? (i := 562) rfl)) rfl), ck_X5_remembers, (xT_of (List.mem_append_right _ (List.mem_of_getElem? (i := 564) rfl)) rfl), (xT_of (List.mem_append_left _ (List.mem_of_getElem? (i := 57) rfl)) rfl), TX5, 8, rfl⟩
set_option maxRecDepth 20000 in
theorem cs_X5_32 : x_CS RX5 32 kX5_at 2 := ⟨Or.inl (xT_of (List.mem_append_right _ (List.mem_of_getElem? (i := 551) rfl)) rfl), ck_X5_at, (xT_of (List.mem_append_right _ (List.mem_of_getElem? (i := 552) rfl)) rfl)⟩
set_option maxRecDepth 20000 in
theorem cv_X5_36 : x_CV RX5 36 kX5_on 3 5 := ⟨Or.inl (xT_of (List.mem_append_right _ (List.mem_of_getElem? (i := 547) rfl)) rfl), ck_X5_on, (xT_of (List.mem_append_right _ (List.mem_of_getElem? (i := 549) rfl)) rfl), (xT_of (List.mem_append_left _ (List.mem_of_getElem? (i := 54) rfl)) rfl), TX5, 8, rfl⟩
set_option maxRecDepth 20000 in
theorem cv_X5_40 : x_CV RX5 40 kX5_wanted 2 5 := ⟨Or.inl (xT_of (List.mem_append_right _ (List.mem_of_getElem? (i := 623) rfl)) rfl), ck_X5_wanted, (xT_of (List.mem_append_right _ (List.mem_of_getElem? (i := 625) rfl)) rfl), (xT_of (List.mem_append_left _ (List.mem_of_getElem? (i := 68) rfl)) rfl), TX5, 8, rfl⟩
set_option maxRecDepth 20000 in
theorem cv_X5_43 : x_CV RX5 43 kX5_hasRoom 3 5 := ⟨Or.inl (xT_of (List.mem_append_right _ (List.mem_of_getElem? (i := 543) rfl)) rfl), ck_X5_hasRoom, (xT_of (List.mem_append_right _ (List.mem_of_getElem? (i := 545) rfl)) rfl), (xT_of (List.mem_append_left _ (List.mem_of_getElem? (i := 53) rfl)) rfl), TX5, 8, rfl⟩
set_option maxRecDepth 20000 in
theorem cv_X5_47 : x_CV RX5 47 kX5_next 2 5 := ⟨Or.inl (xT_of (List.mem_append_right _ (List.mem_of_getElem? (i := 631) rfl)) rfl), ck_X5_next, (xT_of (List.mem_append_right _ (List.mem_of_getElem? (i := 633) rfl)) rfl), (xT_of (List.mem_append_left _ (List.mem_of_getElem? (i := 70) rfl)) rfl), TX5, 8, rfl⟩
set_option maxRecDepth 20000 in
theorem cv_X5_51 : x_CV RX5 51 kX5_target 2 5 := ⟨Or.inl (xT_of (List.mem_append_right _ (List.mem_of_getElem? (i := 635) rfl)) rfl), ck_X5_target, (xT_of (List.mem_append_right _ (List.mem_of_getElem? (i := 637) rfl)) rfl), (xT_of (List.mem_append_left _ (List.mem_of_getElem? (i := 71) rfl)) rfl), TX5, 8, rfl⟩
set_option maxRecDepth 20000 in
theorem cv_X5_54 : x_CV RX5 54 kX5_costs 2 5 := ⟨Or.inl (xT_of (List.mem_append_right _ (List.mem_of_getElem? (i := 619) rfl)) rfl), ck_X5_costs, (xT_of (List.mem_append_right _ (List.mem_of_getElem? (i := 621) rfl)) rfl), (xT_of (List.mem_append_left _ (List.mem_of_getElem? (i := 67) rfl)) rfl), TX5, 8, rfl⟩
set_option maxRecDepth 20000 in
theorem cv_X5_57 : x_CV RX5 57 kX5_turns 3 5 := ⟨Or.inl (xT_of (List.mem_append_right _ (List.mem_of_getElem? (i := 627) rfl)) rfl), ck_X5_turns, (xT_of (List.mem_append_right _ (List.mem_of_getElem? (i := 629) rfl)) rfl), (xT_of (List.mem_append_left _ (List.mem_of_getElem? (i := 69) rfl)) rfl), TX5, 8, rfl⟩
set_option maxRecDepth 20000 in
theorem cv_X5_61 : x_CV RX5 61 kX5_passesOne 1 5 := ⟨Or.inl (xT_of (List.mem_append_right _ (List.mem_of_getElem? (i := 615) rfl)) rfl), ck_X5_passesOne, (xT_of (List.mem_append_right _ (List.mem_of_getElem? (i := 617) rfl)) rfl), (xT_of (List.mem_append_left _ (List.mem_of_getElem? (i := 66) rfl)) rfl), TX5, 8, rfl⟩
set_option maxRecDepth 20000 in
theorem cv_X5_65 : x_CV RX5 65 kX5_placeOf 2 5 := ⟨Or.inl (xT_of (List.mem_append_right _ (List.mem_of_getElem? (i := 574) rfl)) rfl), ck_X5_placeOf, (xT_of (List.mem_append_right _ (List.mem_of_getElem? (i := 576) rfl)) rfl), (xT_of (List.mem_append_left _ (List.mem_of_getElem? (i := 59) rfl)) rfl), TX5, 8, rfl⟩
set_option maxRecDepth 20000 in
theorem cv_X5_69 : x_CV RX5 69 kX5_readsOne 1 5 := ⟨Or.inl (xT_of (List.mem_append_right _ (List.mem_of_getElem? (i := 586) rfl)) rfl), ck_X5_readsOne, (xT_of (List.mem_append_right _ (List.mem_of_getElem? (i := 588) rfl)) rfl), (xT_of (List.mem_append_left _ (List.mem_of_getElem? (i := 61) rfl)) rfl), TX5, 8, rfl⟩
set_option maxRecDepth 20000 in
theorem cv_X5_72 : x_CV RX5 72 kX5_pinned 1 5 := ⟨Or.inl (xT_of (List.mem_append_right _ (List.mem_of_getElem? (i := 599) rfl)) rfl), ck_X5_pinned, (xT_of (List.mem_append_right _ (List.mem_of_getElem? (i := 601) rfl)) rfl), (xT_of (List.mem_append_left _ (List.mem_of_getElem? (i := 63) rfl)) rfl), TX5, 8, rfl⟩
set_option maxRecDepth 20000 in
theorem cv_X5_75 : x_CV RX5 75 kX5_passes 2 5 := ⟨Or.inl (xT_of (List.mem_append_right _ (List.mem_of_getElem? (i := 611) rfl)) rfl), ck_X5_passes, (xT_of (List.mem_append_right _ (List.mem_of_getElem? (i := 613) rfl)) rfl), (xT_of (List.mem_append_left _ (List.mem_of_getElem? (i := 65) rfl)) rfl), TX5, 8, rfl⟩
set_option maxRecDepth 20000 in
theorem cv_X5_78 : x_CV RX5 78 kX5_lays 0 5 := ⟨Or.inl (xT_of (List.mem_append_right _ (List.mem_of_getElem? (i := 558) rfl)) rfl), ck_X5_lays, (xT_of (List.mem_append_right _ (List.mem_of_getElem? (i := 560) rfl)) rfl), (xT_of (List.mem_append_left _ (List.mem_of_getElem? (i := 56) rfl)) rfl), TX5, 8, rfl⟩
set_option maxRecDepth 20000 in
theorem cs_X5_81 : x_CS RX5 81 kX5_in 3 := ⟨Or.inl (xT_of (List.mem_append_right _ (List.mem_of_getElem? (i := 532) rfl)) rfl), ck_X5_in, (xT_of (List.mem_append_right _ (List.mem_of_getElem? (i := 533) rfl)) rfl)⟩
set_option maxRecDepth 20000 in
theorem cv_X5_84 : x_CV RX5 84 kX5_copies 0 5 := ⟨Or.inl (xT_of (List.mem_append_right _ (List.mem_of_getElem? (i := 535) rfl)) rfl), ck_X5_copies, (xT_of (List.mem_append_right _ (List.mem_of_getElem? (i := 537) rfl)) rfl), (xT_of (List.mem_append_left _ (List.mem_of_getElem? (i := 51) rfl)) rfl), TX5, 8, rfl⟩
set_option maxRecDepth 20000 in
theorem cv_X5_87 : x_CV RX5 87 kX5_adds 1 5 := ⟨Or.inl (xT_of (List.mem_append_right _ (List.mem_of_getElem? (i := 539) rfl)) rfl), ck_X5_adds, (xT_of (List.mem_append_right _ (List.mem_of_getElem? (i := 541) rfl)) rfl), (xT_of (List.mem_append_left _ (List.mem_of_getElem? (i := 52) rfl)) rfl), TX5, 8, rfl⟩
set_option maxRecDepth 20000 in
theorem cv_X5_90 : x_CV RX5 90 kX5_changes 1 5 := ⟨Or.inl (xT_of (List.mem_append_right _ (List.mem_of_getElem? (i := 554) rfl)) rfl), ck_X5_changes, (xT_of (List.mem_append_right _ (List.mem_of_getElem? (i := 556) rfl)) rfl), (xT_of (List.mem_append_left _ (List.mem_of_getElem? (i := 55) rfl)) rfl), TX5, 8, rfl⟩
set_option maxRecDepth 20000 in
theorem cv_X5_93 : x_CV RX5 93 kX5_removes 1 5 := ⟨Or.inl (xT_of (List.mem_append_right _ (List.mem_of_getElem? (i := 570) rfl)) rfl), ck_X5_removes, (xT_of (List.mem_append_right _ (List.mem_of_getElem? (i := 572) rfl)) rfl), (xT_of (List.mem_append_left _ (List.mem_of_getElem? (i := 58) rfl)) rfl), TX5, 8, rfl⟩
set_option maxRecDepth 20000 in
theorem cv_X5_96 : x_CV RX5 96 kX5_reads 2 5 := ⟨Or.inl (xT_of (List.mem_append_right _ (List.mem_of_getElem? (i := 582) rfl)) rfl), ck_X5_reads, (xT_of (List.mem_append_right _ (List.mem_of_getElem? (i := 584) rfl)) rfl), (xT_of (List.mem_append_left _ (List.mem_of_getElem? (i := 60) rfl)) rfl), TX5, 8, rfl⟩
set_option maxRecDepth 20000 in
theorem cv_X5_99 : x_CV RX5 99 kX5_turnsPin 1 5 := ⟨Or.inl (xT_of (List.mem_append_right _ (List.mem_of_getElem? (i := 595) rfl)) rfl), ck_X5_turnsPin, (xT_of (List.mem_append_right _ (List.mem_of_getElem? (i := 597) rfl)) rfl), (xT_of (List.mem_append_left _ (List.mem_of_getElem? (i := 62) rfl)) rfl), TX5, 8, rfl⟩
theorem lw_X3_88 : Cond.constant RX3 88 (99999 : Int32) ∈ xT := (xT_of (List.mem_append_right _ (List.mem_of_getElem? (i := 247) rfl)) rfl)
set_option maxRecDepth 20000 in
theorem lw_X5_68 : Cond.constant RX5 68 (99999 : Int32) ∈ xT := (xT_of (List.mem_append_right _ (List.mem_of_getElem? (i := 590) rfl)) rfl)
theorem gf_X4_10 : x_GF RX4 10 4 0 := ⟨RX4, TX4, 7, rfl, rfl, by decide, inX4, Or.inl (xT_of (List.mem_append_right _ (List.mem_of_getElem? (i := 149) rfl)) rfl)⟩
theorem pf_X4_10 : x_PF RX4 10 4 0 (.object "HeatShelves$State") true := ⟨RX4, TX4, 7, tyX4, rfl, rfl, by decide, inX4, (xT_of (List.mem_append_right _ (List.mem_of_getElem? (i := 149) rfl)) rfl), tyX4_ok, nmX4, rfl, rfl, rfl⟩
theorem gf_X4_16 : x_GF RX4 16 4 1 := ⟨RX4, TX4, 7, rfl, rfl, by decide, inX4, Or.inl (xT_of (List.mem_append_right _ (List.mem_of_getElem? (i := 150) rfl)) rfl)⟩
theorem pf_X4_16 : x_PF RX4 16 4 1 (.object "HeatShelves$State") true := ⟨RX4, TX4, 7, tyX4, rfl, rfl, by decide, inX4, (xT_of (List.mem_append_right _ (List.mem_of_getElem? (i := 150) rfl)) rfl), tyX4_ok, nmX4, rfl, rfl, rfl⟩
theorem gf_X4_19 : x_GF RX4 19 4 2 := ⟨RX4, TX4, 7, rfl, rfl, by decide, inX4, Or.inl (xT_of (List.mem_append_right _ (List.mem_of_getElem? (i := 151) rfl)) rfl)⟩
theorem pf_X4_19 : x_PF RX4 19 4 2 (.object "HeatShelves$State") true := ⟨RX4, TX4, 7, tyX4, rfl, rfl, by decide, inX4, (xT_of (List.mem_append_right _ (List.mem_of_getElem? (i := 151) rfl)) rfl), tyX4_ok, nmX4, rfl, rfl, rfl⟩
theorem gf_X4_22 : x_GF RX4 22 4 3 := ⟨RX4, TX4, 7, rfl, rfl, by decide, inX4, Or.inl (xT_of (List.mem_append_right _ (List.mem_of_getElem? (i := 152) rfl)) rfl)⟩
theorem pf_X4_22 : x_PF RX4 22 4 3 .boolean false := ⟨RX4, TX4, 7, tyX4, rfl, rfl, by decide, inX4, (xT_of (List.mem_append_right _ (List.mem_of_getElem? (i := 152) rfl)) rfl), tyX4_ok, nmX4, rfl, rfl, rfl⟩
theorem gf_X4_29 : x_GF RX4 29 4 4 := ⟨RX4, TX4, 7, rfl, rfl, by decide, inX4, Or.inl (xT_of (List.mem_append_right _ (List.mem_of_getElem? (i := 153) rfl)) rfl)⟩
theorem pf_X4_29 : x_PF RX4 29 4 4 (.object "HeatShelves$History") true := ⟨RX4, TX4, 7, tyX4, rfl, rfl, by decide, inX4, (xT_of (List.mem_append_right _ (List.mem_of_getElem? (i := 153) rfl)) rfl), tyX4_ok, nmX4, rfl, rfl, rfl⟩
theorem gf_X4_36 : x_GF RX4 36 4 5 := ⟨RX4, TX4, 7, rfl, rfl, by decide, inX4, Or.inl (xT_of (List.mem_append_right _ (List.mem_of_getElem? (i := 154) rfl)) rfl)⟩
theorem pf_X4_36 : x_PF RX4 36 4 5 (.object "HeatShelves$Night") true := ⟨RX4, TX4, 7, tyX4, rfl, rfl, by decide, inX4, (xT_of (List.mem_append_right _ (List.mem_of_getElem? (i := 154) rfl)) rfl), tyX4_ok, nmX4, rfl, rfl, rfl⟩
theorem gf_X4_43 : x_GF RX4 43 4 6 := ⟨RX4, TX4, 7, rfl, rfl, by decide, inX4, Or.inl (xT_of (List.mem_append_right _ (List.mem_of_getElem? (i := 155) rfl)) rfl)⟩
theorem pf_X4_43 : x_PF RX4 43 4 6 (.object "HeatShelves$Orders") true := ⟨RX4, TX4, 7, tyX4, rfl, rfl, by decide, inX4, (xT_of (List.mem_append_right _ (List.mem_of_getElem? (i := 155) rfl)) rfl), tyX4_ok, nmX4, rfl, rfl, rfl⟩
theorem gf_X4_86 : x_GF RX4 86 2 5 := ⟨RX2, TX2, 7, rfl, rfl, by decide, inX2, Or.inr ⟨"HeatShelves", List.mem_of_getElem? (i := 23) rfl⟩⟩
theorem gf_X4_97 : x_GF RX4 97 0 2 := ⟨RX0, TX0, 3, rfl, rfl, by decide, inX0, Or.inr ⟨"HeatShelves", List.mem_of_getElem? (i := 17) rfl⟩⟩
theorem gf_X4_104 : x_GF RX4 104 3 2 := ⟨RX3, TX3, 10, rfl, rfl, by decide, inX3, Or.inr ⟨"HeatShelves", List.mem_of_getElem? (i := 4) rfl⟩⟩
theorem gf_X4_115 : x_GF RX4 115 3 3 := ⟨RX3, TX3, 10, rfl, rfl, by decide, inX3, Or.inr ⟨"HeatShelves", List.mem_of_getElem? (i := 6) rfl⟩⟩
theorem gf_X4_118 : x_GF RX4 118 3 4 := ⟨RX3, TX3, 10, rfl, rfl, by decide, inX3, Or.inr ⟨"HeatShelves", List.mem_of_getElem? (i := 8) rfl⟩⟩
theorem gf_X4_121 : x_GF RX4 121 3 5 := ⟨RX3, TX3, 10, rfl, rfl, by decide, inX3, Or.inr ⟨"HeatShelves", List.mem_of_getElem? (i := 10) rfl⟩⟩
theorem gf_X4_127 : x_GF RX4 127 3 6 := ⟨RX3, TX3, 10, rfl, rfl, by decide, inX3, Or.inr ⟨"HeatShelves", List.mem_of_getElem? (i := 12) rfl⟩⟩
theorem gf_X4_130 : x_GF RX4 130 3 7 := ⟨RX3, TX3, 10, rfl, rfl, by decide, inX3, Or.inr ⟨"HeatShelves", List.mem_of_getElem? (i := 14) rfl⟩⟩
theorem gf_X4_133 : x_GF RX4 133 3 8 := ⟨RX3, TX3, 10, rfl, rfl, by decide, inX3, Or.inr ⟨"HeatShelves", List.mem_of_getElem? (i := 15) rfl⟩⟩
theorem gf_X4_136 : x_GF RX4 136 3 9 := ⟨RX3, TX3, 10, rfl, rfl, by decide, inX3, Or.inr ⟨"HeatShelves", List.mem_of_getElem? (i := 16) rfl⟩⟩
theorem gf_X4_142 : x_GF RX4 142 3 0 := ⟨RX3, TX3, 10, rfl, rfl, by decide, inX3, Or.inr ⟨"HeatShelves", List.mem_of_getElem? (i := 2) rfl⟩⟩
theorem gf_X4_145 : x_GF RX4 145 3 1 := ⟨RX3, TX3, 10, rfl, rfl, by decide, inX3, Or.inr ⟨"HeatShelves", List.mem_of_getElem? (i := 3) rfl⟩⟩
theorem gf_X4_163 : x_GF RX4 163 2 1 := ⟨RX2, TX2, 7, rfl, rfl, by decide, inX2, Or.inr ⟨"HeatShelves", List.mem_of_getElem? (i := 19) rfl⟩⟩
set_option maxRecDepth 20000 in
theorem gs_X4_173 : x_GS RX4 173 "GREATEST_VALUES" := Or.inl (xT_of (List.mem_append_right _ (List.mem_of_getElem? (i := 483) rfl)) rfl)
theorem gf_X4_186 : x_GF RX4 186 2 2 := ⟨RX2, TX2, 7, rfl, rfl, by decide, inX2, Or.inr ⟨"HeatShelves", List.mem_of_getElem? (i := 20) rfl⟩⟩
theorem gf_X4_189 : x_GF RX4 189 2 3 := ⟨RX2, TX2, 7, rfl, rfl, by decide, inX2, Or.inr ⟨"HeatShelves", List.mem_of_getElem? (i := 21) rfl⟩⟩
theorem gf_X4_192 : x_GF RX4 192 2 4 := ⟨RX2, TX2, 7, rfl, rfl, by decide, inX2, Or.inr ⟨"HeatShelves", List.mem_of_getElem? (i := 22) rfl⟩⟩
theorem gf_X4_198 : x_GF RX4 198 1 1 := ⟨RX1, TX1, 2, rfl, rfl, by decide, inX1, Or.inr ⟨"HeatShelves", List.mem_of_getElem? (i := 18) rfl⟩⟩
theorem gf_X0_11 : x_GF RX0 11 0 0 := ⟨RX0, TX0, 3, rfl, rfl, by decide, inX0, Or.inl (xT_of (List.mem_append_right _ (List.mem_of_getElem? (i := 91) rfl)) rfl)⟩
theorem pf_X0_11 : x_PF RX0 11 0 0 (.array (.object "HeatShelves$State")) true := ⟨RX0, TX0, 3, tyX0, rfl, rfl, by decide, inX0, (xT_of (List.mem_append_right _ (List.mem_of_getElem? (i := 91) rfl)) rfl), tyX0_ok, nmX0, rfl, rfl, rfl⟩
theorem gf_X0_17 : x_GF RX0 17 0 1 := ⟨RX0, TX0, 3, rfl, rfl, by decide, inX0, Or.inl (xT_of (List.mem_append_right _ (List.mem_of_getElem? (i := 92) rfl)) rfl)⟩
theorem pf_X0_17 : x_PF RX0 17 0 1 .int false := ⟨RX0, TX0, 3, tyX0, rfl, rfl, by decide, inX0, (xT_of (List.mem_append_right _ (List.mem_of_getElem? (i := 92) rfl)) rfl), tyX0_ok, nmX0, rfl, rfl, rfl⟩
theorem gf_X0_21 : x_GF RX0 21 0 2 := ⟨RX0, TX0, 3, rfl, rfl, by decide, inX0, Or.inl (xT_of (List.mem_append_right _ (List.mem_of_getElem? (i := 93) rfl)) rfl)⟩
theorem pf_X0_21 : x_PF RX0 21 0 2 .int false := ⟨RX0, TX0, 3, tyX0, rfl, rfl, by decide, inX0, (xT_of (List.mem_append_right _ (List.mem_of_getElem? (i := 93) rfl)) rfl), tyX0_ok, nmX0, rfl, rfl, rfl⟩
theorem gf_X1_9 : x_GF RX1 9 1 0 := ⟨RX1, TX1, 2, rfl, rfl, by decide, inX1, Or.inl (xT_of (List.mem_append_right _ (List.mem_of_getElem? (i := 108) rfl)) rfl)⟩
theorem pf_X1_9 : x_PF RX1 9 1 0 (.array .int) true := ⟨RX1, TX1, 2, tyX1, rfl, rfl, by decide, inX1, (xT_of (List.mem_append_right _ (List.mem_of_getElem? (i := 108) rfl)) rfl), tyX1_ok, nmX1, rfl, rfl, rfl⟩
theorem gf_X1_15 : x_GF RX1 15 1 1 := ⟨RX1, TX1, 2, rfl, rfl, by decide, inX1, Or.inl (xT_of (List.mem_append_right _ (List.mem_of_getElem? (i := 109) rfl)) rfl)⟩
theorem pf_X1_15 : x_PF RX1 15 1 1 (.array .int) true := ⟨RX1, TX1, 2, tyX1, rfl, rfl, by decide, inX1, (xT_of (List.mem_append_right _ (List.mem_of_getElem? (i := 109) rfl)) rfl), tyX1_ok, nmX1, rfl, rfl, rfl⟩
theorem gf_X1_18 : x_GF RX1 18 3 0 := ⟨RX3, TX3, 10, rfl, rfl, by decide, inX3, Or.inr ⟨"HeatShelves", List.mem_of_getElem? (i := 1) rfl⟩⟩
theorem gf_X1_56 : x_GF RX1 56 3 6 := ⟨RX3, TX3, 10, rfl, rfl, by decide, inX3, Or.inr ⟨"HeatShelves", List.mem_of_getElem? (i := 11) rfl⟩⟩
theorem gf_X1_59 : x_GF RX1 59 3 7 := ⟨RX3, TX3, 10, rfl, rfl, by decide, inX3, Or.inr ⟨"HeatShelves", List.mem_of_getElem? (i := 13) rfl⟩⟩
theorem gf_X1_62 : x_GF RX1 62 3 5 := ⟨RX3, TX3, 10, rfl, rfl, by decide, inX3, Or.inr ⟨"HeatShelves", List.mem_of_getElem? (i := 9) rfl⟩⟩
theorem gf_X1_81 : x_GF RX1 81 3 4 := ⟨RX3, TX3, 10, rfl, rfl, by decide, inX3, Or.inr ⟨"HeatShelves", List.mem_of_getElem? (i := 7) rfl⟩⟩
theorem gf_X1_84 : x_GF RX1 84 3 3 := ⟨RX3, TX3, 10, rfl, rfl, by decide, inX3, Or.inr ⟨"HeatShelves", List.mem_of_getElem? (i := 5) rfl⟩⟩
theorem gf_X2_9 : x_GF RX2 9 2 0 := ⟨RX2, TX2, 7, rfl, rfl, by decide, inX2, Or.inl (xT_of (List.mem_append_right _ (List.mem_of_getElem? (i := 122) rfl)) rfl)⟩
theorem pf_X2_9 : x_PF RX2 9 2 0 (.array .int) true := ⟨RX2, TX2, 7, tyX2, rfl, rfl, by decide, inX2, (xT_of (List.mem_append_right _ (List.mem_of_getElem? (i := 122) rfl)) rfl), tyX2_ok, nmX2, rfl, rfl, rfl⟩
theorem gf_X2_15 : x_GF RX2 15 2 1 := ⟨RX2, TX2, 7, rfl, rfl, by decide, inX2, Or.inl (xT_of (List.mem_append_right _ (List.mem_of_getElem? (i := 123) rfl)) rfl)⟩
theorem pf_X2_15 : x_PF RX2 15 2 1 .int false := ⟨RX2, TX2, 7, tyX2, rfl, rfl, by decide, inX2, (xT_of (List.mem_append_right _ (List.mem_of_getElem? (i := 123) rfl)) rfl), tyX2_ok, nmX2, rfl, rfl, rfl⟩
theorem gf_X2_19 : x_GF RX2 19 2 2 := ⟨RX2, TX2, 7, rfl, rfl, by decide, inX2, Or.inl (xT_of (List.mem_append_right _ (List.mem_of_getElem? (i := 125) rfl)) rfl)⟩
theorem pf_X2_19 : x_PF RX2 19 2 2 (.array .int) true := ⟨RX2, TX2, 7, tyX2, rfl, rfl, by decide, inX2, (xT_of (List.mem_append_right _ (List.mem_of_getElem? (i := 125) rfl)) rfl), tyX2_ok, nmX2, rfl, rfl, rfl⟩
theorem gf_X2_22 : x_GF RX2 22 2 3 := ⟨RX2, TX2, 7, rfl, rfl, by decide, inX2, Or.inl (xT_of (List.mem_append_right _ (List.mem_of_getElem? (i := 127) rfl)) rfl)⟩
theorem pf_X2_22 : x_PF RX2 22 2 3 (.array .int) true := ⟨RX2, TX2, 7, tyX2, rfl, rfl, by decide, inX2, (xT_of (List.mem_append_right _ (List.mem_of_getElem? (i := 127) rfl)) rfl), tyX2_ok, nmX2, rfl, rfl, rfl⟩
theorem gf_X2_25 : x_GF RX2 25 2 4 := ⟨RX2, TX2, 7, rfl, rfl, by decide, inX2, Or.inl (xT_of (List.mem_append_right _ (List.mem_of_getElem? (i := 129) rfl)) rfl)⟩
theorem pf_X2_25 : x_PF RX2 25 2 4 (.array .int) true := ⟨RX2, TX2, 7, tyX2, rfl, rfl, by decide, inX2, (xT_of (List.mem_append_right _ (List.mem_of_getElem? (i := 129) rfl)) rfl), tyX2_ok, nmX2, rfl, rfl, rfl⟩
theorem gf_X2_28 : x_GF RX2 28 2 5 := ⟨RX2, TX2, 7, rfl, rfl, by decide, inX2, Or.inl (xT_of (List.mem_append_right _ (List.mem_of_getElem? (i := 131) rfl)) rfl)⟩
theorem pf_X2_28 : x_PF RX2 28 2 5 .int false := ⟨RX2, TX2, 7, tyX2, rfl, rfl, by decide, inX2, (xT_of (List.mem_append_right _ (List.mem_of_getElem? (i := 131) rfl)) rfl), tyX2_ok, nmX2, rfl, rfl, rfl⟩
theorem gf_X2_31 : x_GF RX2 31 2 6 := ⟨RX2, TX2, 7, rfl, rfl, by decide, inX2, Or.inl (xT_of (List.mem_append_right _ (List.mem_of_getElem? (i := 133) rfl)) rfl)⟩
theorem pf_X2_31 : x_PF RX2 31 2 6 .int false := ⟨RX2, TX2, 7, tyX2, rfl, rfl, by decide, inX2, (xT_of (List.mem_append_right _ (List.mem_of_getElem? (i := 133) rfl)) rfl), tyX2_ok, nmX2, rfl, rfl, rfl⟩
theorem gf_X3_9 : x_GF RX3 9 3 0 := ⟨RX3, TX3, 10, rfl, rfl, by decide, inX3, Or.inl (xT_of (List.mem_append_right _ (List.mem_of_getElem? (i := 34) rfl)) rfl)⟩
theorem pf_X3_9 : x_PF RX3 9 3 0 (.array .int) true := ⟨RX3, TX3, 10, tyX3, rfl, rfl, by decide, inX3, (xT_of (List.mem_append_right _ (List.mem_of_getElem? (i := 34) rfl)) rfl), tyX3_ok, nmX3, rfl, rfl, rfl⟩
theorem gf_X3_15 : x_GF RX3 15 3 1 := ⟨RX3, TX3, 10, rfl, rfl, by decide, inX3, Or.inl (xT_of (List.mem_append_right _ (List.mem_of_getElem? (i := 37) rfl)) rfl)⟩
theorem pf_X3_15 : x_PF RX3 15 3 1 (.array .int) true := ⟨RX3, TX3, 10, tyX3, rfl, rfl, by decide, inX3, (xT_of (List.mem_append_right _ (List.mem_of_getElem? (i := 37) rfl)) rfl), tyX3_ok, nmX3, rfl, rfl, rfl⟩
theorem gf_X3_18 : x_GF RX3 18 3 2 := ⟨RX3, TX3, 10, rfl, rfl, by decide, inX3, Or.inl (xT_of (List.mem_append_right _ (List.mem_of_getElem? (i := 39) rfl)) rfl)⟩
theorem pf_X3_18 : x_PF RX3 18 3 2 (.array .int) true := ⟨RX3, TX3, 10, tyX3, rfl, rfl, by decide, inX3, (xT_of (List.mem_append_right _ (List.mem_of_getElem? (i := 39) rfl)) rfl), tyX3_ok, nmX3, rfl, rfl, rfl⟩
theorem gf_X3_21 : x_GF RX3 21 3 3 := ⟨RX3, TX3, 10, rfl, rfl, by decide, inX3, Or.inl (xT_of (List.mem_append_right _ (List.mem_of_getElem? (i := 41) rfl)) rfl)⟩
theorem pf_X3_21 : x_PF RX3 21 3 3 (.array .int) true := ⟨RX3, TX3, 10, tyX3, rfl, rfl, by decide, inX3, (xT_of (List.mem_append_right _ (List.mem_of_getElem? (i := 41) rfl)) rfl), tyX3_ok, nmX3, rfl, rfl, rfl⟩
theorem gf_X3_24 : x_GF RX3 24 3 4 := ⟨RX3, TX3, 10, rfl, rfl, by decide, inX3, Or.inl (xT_of (List.mem_append_right _ (List.mem_of_getElem? (i := 44) rfl)) rfl)⟩
theorem pf_X3_24 : x_PF RX3 24 3 4 (.array .int) true := ⟨RX3, TX3, 10, tyX3, rfl, rfl, by decide, inX3, (xT_of (List.mem_append_right _ (List.mem_of_getElem? (i := 44) rfl)) rfl), tyX3_ok, nmX3, rfl, rfl, rfl⟩
theorem gf_X3_27 : x_GF RX3 27 3 5 := ⟨RX3, TX3, 10, rfl, rfl, by decide, inX3, Or.inl (xT_of (List.mem_append_right _ (List.mem_of_getElem? (i := 47) rfl)) rfl)⟩
theorem pf_X3_27 : x_PF RX3 27 3 5 (.array .int) true := ⟨RX3, TX3, 10, tyX3, rfl, rfl, by decide, inX3, (xT_of (List.mem_append_right _ (List.mem_of_getElem? (i := 47) rfl)) rfl), tyX3_ok, nmX3, rfl, rfl, rfl⟩
theorem gf_X3_30 : x_GF RX3 30 3 6 := ⟨RX3, TX3, 10, rfl, rfl, by decide, inX3, Or.inl (xT_of (List.mem_append_right _ (List.mem_of_getElem? (i := 50) rfl)) rfl)⟩
theorem pf_X3_30 : x_PF RX3 30 3 6 (.array .int) true := ⟨RX3, TX3, 10, tyX3, rfl, rfl, by decide, inX3, (xT_of (List.mem_append_right _ (List.mem_of_getElem? (i := 50) rfl)) rfl), tyX3_ok, nmX3, rfl, rfl, rfl⟩
theorem gf_X3_33 : x_GF RX3 33 3 7 := ⟨RX3, TX3, 10, rfl, rfl, by decide, inX3, Or.inl (xT_of (List.mem_append_right _ (List.mem_of_getElem? (i := 53) rfl)) rfl)⟩
theorem pf_X3_33 : x_PF RX3 33 3 7 (.array .int) true := ⟨RX3, TX3, 10, tyX3, rfl, rfl, by decide, inX3, (xT_of (List.mem_append_right _ (List.mem_of_getElem? (i := 53) rfl)) rfl), tyX3_ok, nmX3, rfl, rfl, rfl⟩
theorem gf_X3_36 : x_GF RX3 36 3 8 := ⟨RX3, TX3, 10, rfl, rfl, by decide, inX3, Or.inl (xT_of (List.mem_append_right _ (List.mem_of_getElem? (i := 56) rfl)) rfl)⟩
theorem pf_X3_36 : x_PF RX3 36 3 8 (.array .int) true := ⟨RX3, TX3, 10, tyX3, rfl, rfl, by decide, inX3, (xT_of (List.mem_append_right _ (List.mem_of_getElem? (i := 56) rfl)) rfl), tyX3_ok, nmX3, rfl, rfl, rfl⟩
theorem gf_X3_39 : x_GF RX3 39 3 9 := ⟨RX3, TX3, 10, rfl, rfl, by decide, inX3, Or.inl (xT_of (List.mem_append_right _ (List.mem_of_getElem? (i := 58) rfl)) rfl)⟩
theorem pf_X3_39 : x_PF RX3 39 3 9 (.array .int) true := ⟨RX3, TX3, 10, tyX3, rfl, rfl, by decide, inX3, (xT_of (List.mem_append_right _ (List.mem_of_getElem? (i := 58) rfl)) rfl), tyX3_ok, nmX3, rfl, rfl, rfl⟩
theorem gs_X3_42 : x_GS RX3 42 "FIRST_VALUES" := Or.inr ⟨"HeatShelves", List.mem_of_getElem? (i := 0) rfl⟩
theorem gs_X3_115 : x_GS RX3 115 "GREATEST_VALUES" := Or.inr ⟨"HeatShelves", List.mem_of_getElem? (i := 24) rfl⟩
set_option maxRecDepth 20000 in
theorem gf_X5_7 : x_GF RX5 7 5 0 := ⟨RX5, TX5, 8, rfl, rfl, by decide, inX5, Or.inl (xT_of (List.mem_append_right _ (List.mem_of_getElem? (i := 503) rfl)) rfl)⟩
set_option maxRecDepth 20000 in
theorem pf_X5_7 : x_PF RX5 7 5 0 (.array .int) true := ⟨RX5, TX5, 8, tyX5, rfl, rfl, by decide, inX5, (xT_of (List.mem_append_right _ (List.mem_of_getElem? (i := 503) rfl)) rfl), tyX5_ok, nmX5, rfl, rfl, rfl⟩
set_option maxRecDepth 20000 in
theorem gf_X5_13 : x_GF RX5 13 5 1 := ⟨RX5, TX5, 8, rfl, rfl, by decide, inX5, Or.inl (xT_of (List.mem_append_right _ (List.mem_of_getElem? (i := 504) rfl)) rfl)⟩
set_option maxRecDepth 20000 in
theorem pf_X5_13 : x_PF RX5 13 5 1 (.array .int) true := ⟨RX5, TX5, 8, tyX5, rfl, rfl, by decide, inX5, (xT_of (List.mem_append_right _ (List.mem_of_getElem? (i := 504) rfl)) rfl), tyX5_ok, nmX5, rfl, rfl, rfl⟩
set_option maxRecDepth 20000 in
theorem gf_X5_16 : x_GF RX5 16 5 3 := ⟨RX5, TX5, 8, rfl, rfl, by decide, inX5, Or.inl (xT_of (List.mem_append_right _ (List.mem_of_getElem? (i := 506) rfl)) rfl)⟩
set_option maxRecDepth 20000 in
theorem pf_X5_16 : x_PF RX5 16 5 3 (.array .int) true := ⟨RX5, TX5, 8, tyX5, rfl, rfl, by decide, inX5, (xT_of (List.mem_append_right _ (List.mem_of_getElem? (i := 506) rfl)) rfl), tyX5_ok, nmX5, rfl, rfl, rfl⟩
set_option maxRecDepth 20000 in
theorem gf_X5_19 : x_GF RX5 19 5 5 := ⟨RX5, TX5, 8, rfl, rfl, by decide, inX5, Or.inl (xT_of (List.mem_append_right _ (List.mem_of_getElem? (i := 508) rfl)) rfl)⟩
set_option maxRecDepth 20000 in
theorem pf_X5_19 : x_PF RX5 19 5 5 (.array .int) true := ⟨RX5, TX5, 8, tyX5, rfl, rfl, by decide, inX5, (xT_of (List.mem_append_right _ (List.mem_of_getElem? (i := 508) rfl)) rfl), tyX5_ok, nmX5, rfl, rfl, rfl⟩
set_option maxRecDepth 20000 in
theorem gf_X5_22 : x_GF RX5 22 5 7 := ⟨RX5, TX5, 8, rfl, rfl, by decide, inX5, Or.inl (xT_of (List.mem_append_right _ (List.mem_of_getElem? (i := 510) rfl)) rfl)⟩
set_option maxRecDepth 20000 in
theorem pf_X5_22 : x_PF RX5 22 5 7 (.array .int) true := ⟨RX5, TX5, 8, tyX5, rfl, rfl, by decide, inX5, (xT_of (List.mem_append_right _ (List.mem_of_getElem? (i := 510) rfl)) rfl), tyX5_ok, nmX5, rfl, rfl, rfl⟩
set_option maxRecDepth 20000 in
theorem gf_X5_25 : x_GF RX5 25 5 2 := ⟨RX5, TX5, 8, rfl, rfl, by decide, inX5, Or.inl (xT_of (List.mem_append_right _ (List.mem_of_getElem? (i := 505) rfl)) rfl)⟩
set_option maxRecDepth 20000 in
theorem pf_X5_25 : x_PF RX5 25 5 2 .int false := ⟨RX5, TX5, 8, tyX5, rfl, rfl, by decide, inX5, (xT_of (List.mem_append_right _ (List.mem_of_getElem? (i := 505) rfl)) rfl), tyX5_ok, nmX5, rfl, rfl, rfl⟩
set_option maxRecDepth 20000 in
theorem gf_X5_108 : x_GF RX5 108 5 6 := ⟨RX5, TX5, 8, rfl, rfl, by decide, inX5, Or.inl (xT_of (List.mem_append_right _ (List.mem_of_getElem? (i := 509) rfl)) rfl)⟩
set_option maxRecDepth 20000 in
theorem pf_X5_108 : x_PF RX5 108 5 6 .int false := ⟨RX5, TX5, 8, tyX5, rfl, rfl, by decide, inX5, (xT_of (List.mem_append_right _ (List.mem_of_getElem? (i := 509) rfl)) rfl), tyX5_ok, nmX5, rfl, rfl, rfl⟩
set_option maxRecDepth 20000 in
theorem gf_X5_133 : x_GF RX5 133 5 4 := ⟨RX5, TX5, 8, rfl, rfl, by decide, inX5, Or.inl (xT_of (List.mem_append_right _ (List.mem_of_getElem? (i := 507) rfl)) rfl)⟩
set_option maxRecDepth 20000 in
theorem pf_X5_133 : x_PF RX5 133 5 4 .boolean false := ⟨RX5, TX5, 8, tyX5, rfl, rfl, by decide, inX5, (xT_of (List.mem_append_right _ (List.mem_of_getElem? (i := 507) rfl)) rfl), tyX5_ok, nmX5, rfl, rfl, rfl⟩
end
section
/-! the shape after the constructors: which cell refers to which -/
def xR0 : xR := fun c k =>
  if c = 0 then [some 1, some 12, some 23, none, some 34, some 80, some 83].getD k none
  else if c = 34 then (if k = 0 then some 35 else none)
  else if c = 35 then (if k < 4 then some (36 + 11 * k) else none)
  else if c = 80 then (if k < 2 then some (81 + k) else none)
  else if c = 83 then [some 84, none, some 85, some 86, some 87].getD k none
  else if c = 88 then [some 89, some 90, none, some 91, none, some 92, none, some 93].getD k none
  else if c = 1 ∨ c = 12 ∨ c = 23 ∨ c = 36 ∨ c = 47 ∨ c = 58 ∨ c = 69 then (if k < 10 then some (c + 1 + k) else none)
  else none
/-- the first cell of a State, its rows are the next ten -/
def x_st (c : Nat) : Prop := c = 1 ∨ c = 12 ∨ c = 23 ∨ c = 36 ∨ c = 47 ∨ c = 58 ∨ c = 69
theorem st_lt {c : Nat} (h : x_st c) : c + 10 < 94 := by unfold x_st at h; omega
theorem sh_0 : x_sh 0 = (2, 4) := rfl
theorem sh_1 : x_sh 1 = (2, 3) := rfl
theorem sh_2 : x_sh 2 = (0, 23) := rfl
theorem sh_3 : x_sh 3 = (0, 3) := rfl
theorem sh_4 : x_sh 4 = (0, 24) := rfl
theorem sh_5 : x_sh 5 = (0, 24) := rfl
theorem sh_6 : x_sh 6 = (0, 24) := rfl
theorem sh_7 : x_sh 7 = (0, 24) := rfl
theorem sh_8 : x_sh 8 = (0, 24) := rfl
theorem sh_9 : x_sh 9 = (0, 24) := rfl
theorem sh_10 : x_sh 10 = (0, 24) := rfl
theorem sh_11 : x_sh 11 = (0, 24) := rfl
theorem sh_12 : x_sh 12 = (2, 3) := rfl
theorem sh_13 : x_sh 13 = (0, 23) := rfl
theorem sh_14 : x_sh 14 = (0, 3) := rfl
theorem sh_15 : x_sh 15 = (0, 24) := rfl
theorem sh_16 : x_sh 16 = (0, 24) := rfl
theorem sh_17 : x_sh 17 = (0, 24) := rfl
theorem sh_18 : x_sh 18 = (0, 24) := rfl
theorem sh_19 : x_sh 19 = (0, 24) := rfl
theorem sh_20 : x_sh 20 = (0, 24) := rfl
theorem sh_21 : x_sh 21 = (0, 24) := rfl
theorem sh_22 : x_sh 22 = (0, 24) := rfl
theorem sh_23 : x_sh 23 = (2, 3) := rfl
theorem sh_24 : x_sh 24 = (0, 23) := rfl
theorem sh_25 : x_sh 25 = (0, 3) := rfl
theorem sh_26 : x_sh 26 = (0, 24) := rfl
theorem sh_27 : x_sh 27 = (0, 24) := rfl
theorem sh_28 : x_sh 28 = (0, 24) := rfl
theorem sh_29 : x_sh 29 = (0, 24) := rfl
theorem sh_30 : x_sh 30 = (0, 24) := rfl
theorem sh_31 : x_sh 31 = (0, 24) := rfl
theorem sh_32 : x_sh 32 = (0, 24) := rfl
theorem sh_33 : x_sh 33 = (0, 24) := rfl
theorem sh_34 : x_sh 34 = (2, 0) := rfl
theorem sh_35 : x_sh 35 = (1, 4) := rfl
theorem sh_36 : x_sh 36 = (2, 3) := rfl
theorem sh_47 : x_sh 47 = (2, 3) := rfl
theorem sh_58 : x_sh 58 = (2, 3) := rfl
theorem sh_69 : x_sh 69 = (2, 3) := rfl
theorem sh_80 : x_sh 80 = (2, 1) := rfl
theorem sh_81 : x_sh 81 = (0, 24) := rfl
theorem sh_82 : x_sh 82 = (0, 24) := rfl
theorem sh_83 : x_sh 83 = (2, 2) := rfl
theorem sh_84 : x_sh 84 = (0, 60) := rfl
theorem sh_85 : x_sh 85 = (0, 30) := rfl
theorem sh_86 : x_sh 86 = (0, 30) := rfl
theorem sh_87 : x_sh 87 = (0, 30) := rfl
theorem sh_88 : x_sh 88 = (2, 5) := rfl
theorem sh_89 : x_sh 89 = (0, 430) := rfl
theorem sh_90 : x_sh 90 = (0, 860) := rfl
theorem sh_91 : x_sh 91 = (0, 215) := rfl
theorem sh_92 : x_sh 92 = (0, 60) := rfl
theorem sh_93 : x_sh 93 = (0, 24) := rfl
theorem sh_100 : x_sh 100 = (0, 15) := rfl
theorem sh_101 : x_sh 101 = (0, 15) := rfl
theorem rf_0_0 : xR0 0 0 = some 1 := rfl
theorem rf_0_1 : xR0 0 1 = some 12 := rfl
theorem rf_0_2 : xR0 0 2 = some 23 := rfl
theorem rf_0_4 : xR0 0 4 = some 34 := rfl
theorem rf_0_5 : xR0 0 5 = some 80 := rfl
theorem rf_0_6 : xR0 0 6 = some 83 := rfl
theorem rf_34_0 : xR0 34 0 = some 35 := rfl
theorem rf_80_0 : xR0 80 0 = some 81 := rfl
theorem rf_80_1 : xR0 80 1 = some 82 := rfl
theorem rf_83_0 : xR0 83 0 = some 84 := rfl
theorem rf_83_2 : xR0 83 2 = some 85 := rfl
theorem rf_83_3 : xR0 83 3 = some 86 := rfl
theorem rf_83_4 : xR0 83 4 = some 87 := rfl
theorem rf_88_0 : xR0 88 0 = some 89 := rfl
theorem rf_88_1 : xR0 88 1 = some 90 := rfl
theorem rf_88_3 : xR0 88 3 = some 91 := rfl
theorem rf_88_5 : xR0 88 5 = some 92 := rfl
theorem rf_88_7 : xR0 88 7 = some 93 := rfl
theorem rf_1_0 : xR0 1 0 = some 2 := rfl
theorem rf_1_1 : xR0 1 1 = some 3 := rfl
theorem rf_1_2 : xR0 1 2 = some 4 := rfl
theorem rf_1_3 : xR0 1 3 = some 5 := rfl
theorem rf_1_4 : xR0 1 4 = some 6 := rfl
theorem rf_1_5 : xR0 1 5 = some 7 := rfl
theorem rf_1_6 : xR0 1 6 = some 8 := rfl
theorem rf_1_7 : xR0 1 7 = some 9 := rfl
theorem rf_1_8 : xR0 1 8 = some 10 := rfl
theorem rf_1_9 : xR0 1 9 = some 11 := rfl
theorem rf_12_0 : xR0 12 0 = some 13 := rfl
theorem rf_12_1 : xR0 12 1 = some 14 := rfl
theorem rf_12_2 : xR0 12 2 = some 15 := rfl
theorem rf_12_3 : xR0 12 3 = some 16 := rfl
theorem rf_12_4 : xR0 12 4 = some 17 := rfl
theorem rf_12_5 : xR0 12 5 = some 18 := rfl
theorem rf_12_6 : xR0 12 6 = some 19 := rfl
theorem rf_12_7 : xR0 12 7 = some 20 := rfl
theorem rf_12_8 : xR0 12 8 = some 21 := rfl
theorem rf_12_9 : xR0 12 9 = some 22 := rfl
theorem rf_23_0 : xR0 23 0 = some 24 := rfl
theorem rf_23_1 : xR0 23 1 = some 25 := rfl
theorem rf_23_2 : xR0 23 2 = some 26 := rfl
theorem rf_23_3 : xR0 23 3 = some 27 := rfl
theorem rf_23_4 : xR0 23 4 = some 28 := rfl
theorem rf_23_5 : xR0 23 5 = some 29 := rfl
theorem rf_23_6 : xR0 23 6 = some 30 := rfl
theorem rf_23_7 : xR0 23 7 = some 31 := rfl
theorem rf_23_8 : xR0 23 8 = some 32 := rfl
theorem rf_23_9 : xR0 23 9 = some 33 := rfl
theorem rf_36_0 : xR0 36 0 = some 37 := rfl
theorem rf_36_1 : xR0 36 1 = some 38 := rfl
theorem rf_36_2 : xR0 36 2 = some 39 := rfl
theorem rf_36_3 : xR0 36 3 = some 40 := rfl
theorem rf_36_4 : xR0 36 4 = some 41 := rfl
theorem rf_36_5 : xR0 36 5 = some 42 := rfl
theorem rf_36_6 : xR0 36 6 = some 43 := rfl
theorem rf_36_7 : xR0 36 7 = some 44 := rfl
theorem rf_36_8 : xR0 36 8 = some 45 := rfl
theorem rf_36_9 : xR0 36 9 = some 46 := rfl
theorem rf_47_0 : xR0 47 0 = some 48 := rfl
theorem rf_47_1 : xR0 47 1 = some 49 := rfl
theorem rf_47_2 : xR0 47 2 = some 50 := rfl
theorem rf_47_3 : xR0 47 3 = some 51 := rfl
theorem rf_47_4 : xR0 47 4 = some 52 := rfl
theorem rf_47_5 : xR0 47 5 = some 53 := rfl
theorem rf_47_6 : xR0 47 6 = some 54 := rfl
theorem rf_47_7 : xR0 47 7 = some 55 := rfl
theorem rf_47_8 : xR0 47 8 = some 56 := rfl
theorem rf_47_9 : xR0 47 9 = some 57 := rfl
theorem rf_58_0 : xR0 58 0 = some 59 := rfl
theorem rf_58_1 : xR0 58 1 = some 60 := rfl
theorem rf_58_2 : xR0 58 2 = some 61 := rfl
theorem rf_58_3 : xR0 58 3 = some 62 := rfl
theorem rf_58_4 : xR0 58 4 = some 63 := rfl
theorem rf_58_5 : xR0 58 5 = some 64 := rfl
theorem rf_58_6 : xR0 58 6 = some 65 := rfl
theorem rf_58_7 : xR0 58 7 = some 66 := rfl
theorem rf_58_8 : xR0 58 8 = some 67 := rfl
theorem rf_58_9 : xR0 58 9 = some 68 := rfl
theorem rf_69_0 : xR0 69 0 = some 70 := rfl
theorem rf_69_1 : xR0 69 1 = some 71 := rfl
theorem rf_69_2 : xR0 69 2 = some 72 := rfl
theorem rf_69_3 : xR0 69 3 = some 73 := rfl
theorem rf_69_4 : xR0 69 4 = some 74 := rfl
theorem rf_69_5 : xR0 69 5 = some 75 := rfl
theorem rf_69_6 : xR0 69 6 = some 76 := rfl
theorem rf_69_7 : xR0 69 7 = some 77 := rfl
theorem rf_69_8 : xR0 69 8 = some 78 := rfl
theorem rf_69_9 : xR0 69 9 = some 79 := rfl
theorem sh_st {c : Nat} (h : x_st c) : x_sh c = (2, 3) := by rcases h with h | h | h | h | h | h | h <;> subst h <;> rfl
theorem sh_st0 {c : Nat} (h : x_st c) : x_sh (c + 1) = (0, 23) := by rcases h with h | h | h | h | h | h | h <;> subst h <;> rfl
theorem rf_st0 {c : Nat} (h : x_st c) : xR0 c 0 = some (c + 1) := by rcases h with h | h | h | h | h | h | h <;> subst h <;> rfl
theorem sh_st1 {c : Nat} (h : x_st c) : x_sh (c + 2) = (0, 3) := by rcases h with h | h | h | h | h | h | h <;> subst h <;> rfl
theorem rf_st1 {c : Nat} (h : x_st c) : xR0 c 1 = some (c + 2) := by rcases h with h | h | h | h | h | h | h <;> subst h <;> rfl
theorem sh_st2 {c : Nat} (h : x_st c) : x_sh (c + 3) = (0, 24) := by rcases h with h | h | h | h | h | h | h <;> subst h <;> rfl
theorem rf_st2 {c : Nat} (h : x_st c) : xR0 c 2 = some (c + 3) := by rcases h with h | h | h | h | h | h | h <;> subst h <;> rfl
theorem sh_st3 {c : Nat} (h : x_st c) : x_sh (c + 4) = (0, 24) := by rcases h with h | h | h | h | h | h | h <;> subst h <;> rfl
theorem rf_st3 {c : Nat} (h : x_st c) : xR0 c 3 = some (c + 4) := by rcases h with h | h | h | h | h | h | h <;> subst h <;> rfl
theorem sh_st4 {c : Nat} (h : x_st c) : x_sh (c + 5) = (0, 24) := by rcases h with h | h | h | h | h | h | h <;> subst h <;> rfl
theorem rf_st4 {c : Nat} (h : x_st c) : xR0 c 4 = some (c + 5) := by rcases h with h | h | h | h | h | h | h <;> subst h <;> rfl
theorem sh_st5 {c : Nat} (h : x_st c) : x_sh (c + 6) = (0, 24) := by rcases h with h | h | h | h | h | h | h <;> subst h <;> rfl
theorem rf_st5 {c : Nat} (h : x_st c) : xR0 c 5 = some (c + 6) := by rcases h with h | h | h | h | h | h | h <;> subst h <;> rfl
theorem sh_st6 {c : Nat} (h : x_st c) : x_sh (c + 7) = (0, 24) := by rcases h with h | h | h | h | h | h | h <;> subst h <;> rfl
theorem rf_st6 {c : Nat} (h : x_st c) : xR0 c 6 = some (c + 7) := by rcases h with h | h | h | h | h | h | h <;> subst h <;> rfl
theorem sh_st7 {c : Nat} (h : x_st c) : x_sh (c + 8) = (0, 24) := by rcases h with h | h | h | h | h | h | h <;> subst h <;> rfl
theorem rf_st7 {c : Nat} (h : x_st c) : xR0 c 7 = some (c + 8) := by rcases h with h | h | h | h | h | h | h <;> subst h <;> rfl
theorem sh_st8 {c : Nat} (h : x_st c) : x_sh (c + 9) = (0, 24) := by rcases h with h | h | h | h | h | h | h <;> subst h <;> rfl
theorem rf_st8 {c : Nat} (h : x_st c) : xR0 c 8 = some (c + 9) := by rcases h with h | h | h | h | h | h | h <;> subst h <;> rfl
theorem sh_st9 {c : Nat} (h : x_st c) : x_sh (c + 10) = (0, 24) := by rcases h with h | h | h | h | h | h | h <;> subst h <;> rfl
theorem rf_st9 {c : Nat} (h : x_st c) : xR0 c 9 = some (c + 10) := by rcases h with h | h | h | h | h | h | h <;> subst h <;> rfl
theorem x_up_app {I : xI} {c j : Nat} {z : Int} {c' j' : Nat} : x_up I c j z c' j' = if c' = c ∧ j' = j then z else I c' j' := rfl
theorem x_up_same {I : xI} {c j : Nat} {z : Int} : x_up I c j z c j = z := by simp [x_up]
theorem x_up_off {I : xI} {c j : Nat} {z : Int} {c' j' : Nat} (h : c' ≠ c) : x_up I c j z c' j' = I c' j' := by simp [x_up, h]
theorem x_up_offj {I : xI} {c j : Nat} {z : Int} {c' j' : Nat} (h : j' ≠ j) : x_up I c j z c' j' = I c' j' := by simp [x_up, h]
abbrev Y (κ : xK) (d pc : Nat) (L : List (Option xAV)) (st : List xAV) (I : xI) (Q : xQ) : Prop := X κ d 0 0 pc L st 94 I xR0 Q
abbrev S (κ : xK) (d : Nat) (as : List xAV) (I : xI) (Q : xQ) : Prop := Sp κ d 0 0 as 94 I xR0 Q
def q_p (v : xAV) (I : xI) : xQ := fun ro N' I' R' => ro = some v ∧ N' = 94 ∧ I' = I ∧ R' = xR0
def q_v (P : xI → Prop) : xQ := fun ro N' I' R' => ro = none ∧ N' = 94 ∧ R' = xR0 ∧ P I'
def q_i (P : Int → xI → Prop) : xQ := fun ro N' I' R' => N' = 94 ∧ R' = xR0 ∧ ∃ z, ro = some (ii z) ∧ P z I'
theorem X_drop {κ : xK} {d bc bs pc : Nat} {L : List (Option xAV)} {st : List xAV} {N : Nat} {I : xI} {Rf : xR} {Q : xQ} (j : Nat) (h : X κ d bc bs pc (L.set j none) st N I Rf Q) : X κ d bc bs pc L st N I Rf Q := by
  refine X_locals h (List.length_set) (fun i a hi => ?_)
  by_cases e : j = i
  · subst e
    by_cases q : j < L.length
    · rw [List.getElem?_set_self q] at hi; cases hi
    · rw [List.getElem?_eq_none (by rw [List.length_set]; omega)] at hi; cases hi
  · rw [List.getElem?_set_ne e] at hi; exact hi
section XY
variable {κ : xK} {d pc : Nat} {L : List (Option xAV)} {st : List xAV} {I : xI} {Q : xQ}
theorem Y_pS {κ1 : xK} {idx n d1 : Nat} {as rest : List xAV} {v : xAV} (hd : decode κ.2.1 pc = .ok (.invokestatic idx, 3)) (hc : x_CS κ.1.cls idx κ1 n) (hsp : S κ1 d1 as I (q_p v I)) (hst : st = as.reverse ++ rest) (kk : Y κ d (pc + 3) L (v :: rest) I Q) (hn : as.length = n := by rfl) (hdd : d1 + 1 ≤ d := by exact Nat.le_of_ble_eq_true rfl) (hrest : rest.length ≤ 8 := by exact Nat.le_of_ble_eq_true rfl) : Y κ d pc L st I Q :=
  X_callS hd rfl hc hsp hst hn hdd hrest (Nat.le_refl 0) (Nat.le_refl 0) (fun ro N1 I1 R1 h => by obtain ⟨rfl, rfl, rfl, rfl⟩ := h; exact kk)
theorem Y_vS {κ1 : xK} {idx n d1 : Nat} {as rest : List xAV} {P : xI → Prop} (hd : decode κ.2.1 pc = .ok (.invokestatic idx, 3)) (hc : x_CS κ.1.cls idx κ1 n) (hsp : S κ1 d1 as I (q_v P)) (hst : st = as.reverse ++ rest) (kk : ∀ I1, P I1 → Y κ d (pc + 3) L rest I1 Q) (hn : as.length = n := by rfl) (hdd : d1 + 1 ≤ d := by exact Nat.le_of_ble_eq_true rfl) (hrest : rest.length ≤ 8 := by exact Nat.le_of_ble_eq_true rfl) : Y κ d pc L st I Q :=
  X_callS hd rfl hc hsp hst hn hdd hrest (Nat.le_refl 0) (Nat.le_refl 0) (fun ro N1 I1 R1 h => by obtain ⟨rfl, rfl, rfl, h⟩ := h; exact kk _ h)
theorem Y_iS {κ1 : xK} {idx n d1 : Nat} {as rest : List xAV} {P : Int → xI → Prop} (hd : decode κ.2.1 pc = .ok (.invokestatic idx, 3)) (hc : x_CS κ.1.cls idx κ1 n) (hsp : S κ1 d1 as I (q_i P)) (hst : st = as.reverse ++ rest) (kk : ∀ z I1, P z I1 → Y κ d (pc + 3) L (ii z :: rest) I1 Q) (hn : as.length = n := by rfl) (hdd : d1 + 1 ≤ d := by exact Nat.le_of_ble_eq_true rfl) (hrest : rest.length ≤ 8 := by exact Nat.le_of_ble_eq_true rfl) : Y κ d pc L st I Q :=
  X_callS hd rfl hc hsp hst hn hdd hrest (Nat.le_refl 0) (Nat.le_refl 0) (fun ro N1 I1 R1 h => by obtain ⟨rfl, rfl, z, rfl, h⟩ := h; exact kk _ _ h)
theorem Y_pV {κ1 : xK} {idx n ci c1 d1 : Nat} {as rest : List xAV} {v : xAV} (hd : decode κ.2.1 pc = .ok (.invokevirtual idx, 3)) (hc : x_CV κ.1.cls idx κ1 n ci) (hsh : x_sh c1 = (2, ci)) (hN : c1 < 94) (hsp : S κ1 d1 (rr c1 :: as) I (q_p v I)) (hst : st = as.reverse ++ rr c1 :: rest) (kk : Y κ d (pc + 3) L (v :: rest) I Q) (hn : as.length = n := by rfl) (hdd : d1 + 1 ≤ d := by exact Nat.le_of_ble_eq_true rfl) (hrest : rest.length ≤ 8 := by exact Nat.le_of_ble_eq_true rfl) : Y κ d pc L st I Q :=
  X_callV hd rfl hc hsh hN hsp hst hn hdd hrest (Nat.le_refl 0) (Nat.le_refl 0) (fun ro N1 I1 R1 h => by obtain ⟨rfl, rfl, rfl, rfl⟩ := h; exact kk)
theorem Y_vV {κ1 : xK} {idx n ci c1 d1 : Nat} {as rest : List xAV} {P : xI → Prop} (hd : decode κ.2.1 pc = .ok (.invokevirtual idx, 3)) (hc : x_CV κ.1.cls idx κ1 n ci) (hsh : x_sh c1 = (2, ci)) (hN : c1 < 94) (hsp : S κ1 d1 (rr c1 :: as) I (q_v P)) (hst : st = as.reverse ++ rr c1 :: rest) (kk : ∀ I1, P I1 → Y κ d (pc + 3) L rest I1 Q) (hn : as.length = n := by rfl) (hdd : d1 + 1 ≤ d := by exact Nat.le_of_ble_eq_true rfl) (hrest : rest.length ≤ 8 := by exact Nat.le_of_ble_eq_true rfl) : Y κ d pc L st I Q :=
  X_callV hd rfl hc hsh hN hsp hst hn hdd hrest (Nat.le_refl 0) (Nat.le_refl 0) (fun ro N1 I1 R1 h => by obtain ⟨rfl, rfl, rfl, h⟩ := h; exact kk _ h)
theorem Y_iV {κ1 : xK} {idx n ci c1 d1 : Nat} {as rest : List xAV} {P : Int → xI → Prop} (hd : decode κ.2.1 pc = .ok (.invokevirtual idx, 3)) (hc : x_CV κ.1.cls idx κ1 n ci) (hsh : x_sh c1 = (2, ci)) (hN : c1 < 94) (hsp : S κ1 d1 (rr c1 :: as) I (q_i P)) (hst : st = as.reverse ++ rr c1 :: rest) (kk : ∀ z I1, P z I1 → Y κ d (pc + 3) L (ii z :: rest) I1 Q) (hn : as.length = n := by rfl) (hdd : d1 + 1 ≤ d := by exact Nat.le_of_ble_eq_true rfl) (hrest : rest.length ≤ 8 := by exact Nat.le_of_ble_eq_true rfl) : Y κ d pc L st I Q :=
  X_callV hd rfl hc hsh hN hsp hst hn hdd hrest (Nat.le_refl 0) (Nat.le_refl 0) (fun ro N1 I1 R1 h => by obtain ⟨rfl, rfl, z, rfl, h⟩ := h; exact kk _ _ h)
theorem x_met_mono {κ : xK} {d mc ms : Nat} {as : List xAV} {N : Nat} {I : xI} {Rf : xR} {Q Q' : xQ} (h : Sp κ d mc ms as N I Rf Q) (hq : ∀ ro N' I' R', Q ro N' I' R' → Q' ro N' I' R') : Sp κ d mc ms as N I Rf Q' := by
  intro G l p e ha hcc hk s m args below hf happ hpre hkk
  obtain ⟨k, o, h1, h2, h3, h4, h5⟩ := h G l p e ha hcc hk s m args below hf happ hpre hkk
  obtain ⟨⟨ro, N1, I1, R1, e1, e2, e3⟩, e4⟩ := h4
  exact ⟨k, o, h1, h2, h3, ⟨⟨ro, N1, I1, R1, e1, hq _ _ _ _ e2, e3⟩, e4⟩, h5⟩
theorem S_monoV {as : List xAV} {P P' : xI → Prop} (h : S κ d as I (q_v P)) (hq : ∀ I1, P I1 → P' I1) : S κ d as I (q_v P') := x_met_mono h (fun ro N' I' R' e => ⟨e.1, e.2.1, e.2.2.1, hq _ e.2.2.2⟩)
theorem S_monoI {as : List xAV} {P P' : Int → xI → Prop} (h : S κ d as I (q_i P)) (hq : ∀ z I1, P z I1 → P' z I1) : S κ d as I (q_i P') := x_met_mono h (fun ro N' I' R' e => ⟨e.1, e.2.1, by obtain ⟨z, h1, h2⟩ := e.2.2; exact ⟨z, h1, hq _ _ h2⟩⟩)
end XY
end
section
/-! the small functions on rows: at, put, raise, copyRow, closeGap -/
set_option maxRecDepth 20000 in
set_option maxHeartbeats 4000000 in
theorem t_at {a n : Nat} (ha : x_sh a = (0, n)) (la2 : x_live 94 a) (I : xI) (i : Int) (hi : -2147483648 ≤ i ∧ i ≤ 2147483647) : S kX4_at 0 [rr a, ii i] I (q_p (ii (if 0 ≤ i ∧ i < n then I a i.toNat else 0)) I) := by
  have hn : n < 1000 := by have := x_sh_lt a; rw [ha] at this; exact this
  refine Sp_intro (by decide +kernel) (Nat.le_of_ble_eq_true rfl) ?_
  show Y kX4_at 0 0 [some (rr a), some (ii i)] [] I _
  refine X_iload dX4_at_0 rfl ?_
  refine X_if_lt (tgt := 16) dX4_at_1 (by decide) (by omega) (fun c_1 => ?_) (fun c_1 => ?_)
  · refine X_iconst dX4_at_16 ?_
    refine X_iret dX4_at_17 (Or.inl rfl) ?_
    exact ⟨congrArg (fun z => some (ii z)) (by first | rw [if_pos (by omega)] | rw [if_neg (by omega)]), rfl, rfl, rfl⟩
  · refine X_iload dX4_at_4 rfl ?_
    refine X_aload dX4_at_5 rfl ?_
    refine X_alen dX4_at_6 ha la2 ?_
    refine X_icmp_ge (tgt := 16) dX4_at_7 (by decide) (by omega) (fun c_7 => ?_) (fun c_7 => ?_)
    · refine X_iconst dX4_at_16 ?_
      refine X_iret dX4_at_17 (Or.inl rfl) ?_
      exact ⟨congrArg (fun z => some (ii z)) (by first | rw [if_pos (by omega)] | rw [if_neg (by omega)]), rfl, rfl, rfl⟩
    · refine X_aload dX4_at_10 rfl ?_
      refine X_iload dX4_at_11 rfl ?_
      refine X_iald dX4_at_12 ha la2 (by omega) ?_
      refine X_goto (tgt := 17) dX4_at_13 (by decide) ?_
      refine X_iret dX4_at_17 (Or.inl rfl) ?_
      exact ⟨congrArg (fun z => some (ii z)) (by first | rw [if_pos (by omega)] | rw [if_neg (by omega)]), rfl, rfl, rfl⟩
theorem t_atk {a n : Nat} (ha : x_sh a = (0, n)) (la2 : x_live 94 a) (I : xI) (k : Nat) (hk : k < n) {i : Int} (hi : i = (k : Int)) : S kX4_at 0 [rr a, ii i] I (q_p (ii (I a k)) I) := by
  have hn : n < 1000 := by have := x_sh_lt a; rw [ha] at this; exact this
  subst hi
  have h := t_at ha la2 I (k : Int) (by omega)
  rw [if_pos (by omega), Int.toNat_natCast] at h
  exact h
set_option maxRecDepth 20000 in
set_option maxHeartbeats 4000000 in
theorem t_putk {a n : Nat} (ha : x_sh a = (0, n)) (la : a < 94) (I : xI) (k : Nat) (hk : k < n) {i : Int} (hi : i = (k : Int)) (z : Int) : S kX4_put 0 [rr a, ii i, ii z] I (q_v (fun I1 => I1 = x_up I a k z)) := by
  have hn : n < 1000 := by have := x_sh_lt a; rw [ha] at this; exact this
  have la2 : x_live 94 a := Or.inl la
  subst hi
  refine Sp_intro (by decide +kernel) (Nat.le_of_ble_eq_true rfl) ?_
  show Y kX4_put 0 0 [some (rr a), some (ii (k : Int)), some (ii z)] [] I _
  refine X_iload dX4_put_0 rfl ?_
  refine X_if_lt (tgt := 14) dX4_put_1 (by decide) (by omega) (fun c_1 => absurd c_1 (by omega)) (fun c_1 => ?_)
  refine X_iload dX4_put_4 rfl ?_
  refine X_aload dX4_put_5 rfl ?_
  refine X_alen dX4_put_6 ha la2 ?_
  refine X_icmp_ge (tgt := 14) dX4_put_7 (by decide) (by omega) (fun c_7 => absurd c_7 (by omega)) (fun c_7 => ?_)
  refine X_aload dX4_put_10 rfl ?_
  refine X_iload dX4_put_11 rfl ?_
  refine X_iload dX4_put_12 rfl ?_
  refine X_iast dX4_put_13 ha la (by omega) ?_
  refine X_vret dX4_put_14 rfl ?_
  exact ⟨rfl, rfl, rfl, by rw [Int.toNat_natCast]⟩
set_option maxRecDepth 20000 in
set_option maxHeartbeats 4000000 in
theorem t_raisek {a n : Nat} (ha : x_sh a = (0, n)) (la : a < 94) (I : xI) (k : Nat) (hk : k < n) {i : Int} (hi : i = (k : Int)) (z : Int) : S kX4_raise 0 [rr a, ii i, ii z] I (q_v (fun I1 => I1 = x_up I a k (I a k + z))) := by
  have hn : n < 1000 := by have := x_sh_lt a; rw [ha] at this; exact this
  have la2 : x_live 94 a := Or.inl la
  subst hi
  refine Sp_intro (by decide +kernel) (Nat.le_of_ble_eq_true rfl) ?_
  show Y kX4_raise 0 0 [some (rr a), some (ii (k : Int)), some (ii z)] [] I _
  refine X_iload dX4_raise_0 rfl ?_
  refine X_if_lt (tgt := 17) dX4_raise_1 (by decide) (by omega) (fun c_1 => absurd c_1 (by omega)) (fun c_1 => ?_)
  refine X_iload dX4_raise_4 rfl ?_
  refine X_aload dX4_raise_5 rfl ?_
  refine X_alen dX4_raise_6 ha la2 ?_
  refine X_icmp_ge (tgt := 17) dX4_raise_7 (by decide) (by omega) (fun c_7 => absurd c_7 (by omega)) (fun c_7 => ?_)
  refine X_aload dX4_raise_10 rfl ?_
  refine X_iload dX4_raise_11 rfl ?_
  refine X_dup2 dX4_raise_12 ?_
  refine X_iald dX4_raise_13 ha la2 (by omega) ?_
  refine X_iload dX4_raise_14 rfl ?_
  refine X_iadd dX4_raise_15 ?_
  refine X_iast dX4_raise_16 ha la (by omega) ?_
  refine X_vret dX4_raise_17 rfl ?_
  exact ⟨rfl, rfl, rfl, by rw [Int.toNat_natCast]⟩
set_option maxRecDepth 20000 in
set_option maxHeartbeats 4000000 in
theorem t_copyRow {a b n m : Nat} (ha : x_sh a = (0, n)) (la2 : x_live 94 a) (hb : x_sh b = (0, m)) (lb : b < 94) (I : xI) : S kX4_copyRow 1 [rr a, rr b] I (q_v (fun I1 => I1 = x_cp I a b (min n m))) := by
  have hn : n < 1000 := by have := x_sh_lt a; rw [ha] at this; exact this
  have hm : m < 1000 := by have := x_sh_lt b; rw [hb] at this; exact this
  have lb2 : x_live 94 b := Or.inl lb
  refine Sp_intro (by decide +kernel) (Nat.le_of_ble_eq_true rfl) ?_
  show Y kX4_copyRow 1 0 [some (rr a), some (rr b)] [] I _
  refine X_aload dX4_copyRow_0 rfl ?_
  refine X_iconst dX4_copyRow_1 ?_
  refine X_aload dX4_copyRow_2 rfl ?_
  refine X_iconst dX4_copyRow_3 ?_
  refine X_aload dX4_copyRow_4 rfl ?_
  refine X_alen dX4_copyRow_5 ha la2 ?_
  refine X_aload dX4_copyRow_6 rfl ?_
  refine X_alen dX4_copyRow_7 hb lb2 ?_
  refine X_min dX4_copyRow_8 rfl lk_X4_205 (by omega) (by omega) (by decide) (Nat.le_of_ble_eq_true rfl) ?_
  refine X_copy dX4_copyRow_11 rfl lk_X4_210 ha la2 hb lb (by omega) (by decide) (Nat.le_of_ble_eq_true rfl) ?_
  refine X_vret dX4_copyRow_14 rfl ?_
  exact ⟨rfl, rfl, rfl, by congr 1; omega⟩
def x_cg (I : xI) (a k i : Nat) : xI := fun c j => if c = a ∧ k ≤ j ∧ j < i then I a (j + 1) else I c j
theorem x_cg_next (I : xI) (a k i : Nat) (h : k ≤ i) : x_up (x_cg I a k i) a i (I a (i + 1)) = x_cg I a k (i + 1) := by
  funext c j
  unfold x_up x_cg
  by_cases h1 : c = a
  · subst h1
    by_cases h2 : j = i
    · subst h2; rw [if_pos ⟨rfl, rfl⟩, if_pos (by omega)]
    · rw [if_neg (by omega)]
      by_cases h3 : k ≤ j ∧ j < i
      · rw [if_pos (by omega), if_pos (by omega)]
      · rw [if_neg (by omega), if_neg (by omega)]
  · rw [if_neg (by omega), if_neg (by omega), if_neg (by omega)]
set_option maxRecDepth 20000 in
set_option maxHeartbeats 4000000 in
theorem t_closeGap_loop {a n : Nat} (ha : x_sh a = (0, n)) (la : a < 94) (I : xI) (k : Nat) : ∀ (m i : Nat), i + 1 + m = n → k ≤ i → Y kX4_closeGap 1 6 [some (rr a), some (ii (k : Int)), some (ii (i : Int))] [] (x_cg I a k i) (q_v (fun I1 => I1 = x_cg I a k (n - 1))) := by
  have hn : n < 1000 := by have := x_sh_lt a; rw [ha] at this; exact this
  have la2 : x_live 94 a := Or.inl la
  intro m
  induction m with
  | zero =>
    intro i hi hk
    refine X_iload dX4_closeGap_6 rfl ?_
    refine X_iconst dX4_closeGap_7 ?_
    refine X_iadd dX4_closeGap_8 ?_
    refine X_aload dX4_closeGap_9 rfl ?_
    refine X_alen dX4_closeGap_10 ha la2 ?_
    refine X_icmp_ge (tgt := 28) dX4_closeGap_11 (by decide) (by omega) (fun c_11 => ?_) (fun c_11 => absurd c_11 (by omega))
    refine X_vret dX4_closeGap_28 rfl ?_
    exact ⟨rfl, rfl, rfl, by rw [show n - 1 = i by omega]⟩
  | succ m ih =>
    intro i hi hk
    refine X_iload dX4_closeGap_6 rfl ?_
    refine X_iconst dX4_closeGap_7 ?_
    refine X_iadd dX4_closeGap_8 ?_
    refine X_aload dX4_closeGap_9 rfl ?_
    refine X_alen dX4_closeGap_10 ha la2 ?_
    refine X_icmp_ge (tgt := 28) dX4_closeGap_11 (by decide) (by omega) (fun c_11 => absurd c_11 (by omega)) (fun c_11 => ?_)
    refine X_aload dX4_closeGap_14 rfl ?_
    refine X_iload dX4_closeGap_15 rfl ?_
    refine X_aload dX4_closeGap_16 rfl ?_
    refine X_iload dX4_closeGap_17 rfl ?_
    refine X_iconst dX4_closeGap_18 ?_
    refine X_iadd dX4_closeGap_19 ?_
    refine X_iald dX4_closeGap_20 ha la2 (by omega) ?_
    refine X_iast dX4_closeGap_21 ha la (by omega) ?_
    refine X_iinc dX4_closeGap_22 rfl ?_
    dsimp only [List.set]
    refine X_goto (tgt := 6) dX4_closeGap_25 (by decide) ?_
    have e : ((i : Int) + 1).toNat = i + 1 := by omega
    have e2 : x_cg I a k i a (i + 1) = I a (i + 1) := by unfold x_cg; rw [if_neg (by omega)]
    rw [e, e2, Int.toNat_natCast, x_cg_next I a k i hk]
    exact ih (i + 1) (by omega) (by omega)
set_option maxRecDepth 20000 in
set_option maxHeartbeats 4000000 in
theorem t_closeGap {a n : Nat} (ha : x_sh a = (0, n)) (la : a < 94) (I : xI) (k : Nat) (hk : k < n) {i : Int} (hi : i = (k : Int)) : S kX4_closeGap 1 [rr a, ii i] I (q_v (fun I1 => I1 = x_cg I a k (n - 1))) := by
  have hn : n < 1000 := by have := x_sh_lt a; rw [ha] at this; exact this
  have la2 : x_live 94 a := Or.inl la
  subst hi
  refine Sp_intro (by decide +kernel) (Nat.le_of_ble_eq_true rfl) ?_
  show Y kX4_closeGap 1 0 [some (rr a), some (ii (k : Int)), none] [] I _
  refine X_iload dX4_closeGap_0 rfl ?_
  refine X_iconst dX4_closeGap_1 ?_
  refine X_max dX4_closeGap_2 rfl lk_X4_216 (by omega) (by omega) (by decide) (Nat.le_of_ble_eq_true rfl) ?_
  refine X_istore dX4_closeGap_5 (by decide) ?_
  dsimp only [List.set]
  rw [show max (k : Int) 0 = (k : Int) by omega]
  have h0 : x_cg I a k k = I := by funext c j; unfold x_cg; rw [if_neg (by omega)]
  have h := t_closeGap_loop ha la I k (n - 1 - k) k (by omega) (Nat.le_refl k)
  rw [h0] at h
  exact h
end
section
/-! the state as one row of numbers: 23 numbers of the whole, then eight of each block; what is asked of it -/
def sm (f : Nat → Int) : Nat → Int
  | 0 => 0
  | k + 1 => sm f k + f k
def gb (g : Nat → Int) (k j : Nat) : Int := g (23 + 8 * k + j)
def onF (g : Nat → Int) (n : Nat) (sh : Int) (w : Nat) : Int := sm (fun k => if gb g k 3 = sh then (if w = 0 then 1 else gb g k w) else 0) n
/-- what every state keeps to -/
def GI (g : Nat → Int) (n : Nat) : Prop := n ≤ 24 ∧ g 15 = n ∧ (0 ≤ g 0 ∧ g 0 ≤ 100) ∧ (0 ≤ g 1 ∧ g 1 ≤ 20000) ∧ (0 ≤ g 2 ∧ g 2 ≤ 20000) ∧ (0 ≤ g 3 ∧ g 3 ≤ 24) ∧ (0 ≤ g 4 ∧ g 4 ≤ 30) ∧ (0 ≤ g 5 ∧ g 5 ≤ 50) ∧ (∀ j, j < 3 → 0 ≤ g (6 + j) ∧ g (6 + j) ≤ 200) ∧ (∀ j, j < 6 → 0 ≤ g (9 + j) ∧ g (9 + j) ≤ 50) ∧ (0 ≤ g 16 ∧ g 16 ≤ 1000) ∧
  ∀ k, k < n → (0 ≤ gb g k 0 ∧ gb g k 0 ≤ 999) ∧ (1 ≤ gb g k 1 ∧ gb g k 1 ≤ 9) ∧ (0 ≤ gb g k 2 ∧ gb g k 2 ≤ 99999) ∧ (0 ≤ gb g k 3 ∧ gb g k 3 ≤ 2) ∧ (0 ≤ gb g k 4 ∧ gb g k 4 ≤ 1) ∧ (0 ≤ gb g k 5 ∧ gb g k 5 ≤ 30)
/-- a State at c holds g: its numbers, its blocks, and what is taken on each shelf -/
def RS (I : xI) (c : Nat) (g : Nat → Int) (n : Nat) : Prop := (∀ j, j < 23 → I (c + 1) j = g j) ∧ (∀ k, k < n → ∀ j, j < 8 → I (c + 3 + j) k = gb g k j) ∧ (∀ sh : Nat, sh < 3 → I (c + 2) sh = onF g n sh 1)
theorem sm_congr {f h : Nat → Int} : ∀ {n : Nat}, (∀ k, k < n → f k = h k) → sm f n = sm h n
  | 0, _ => rfl
  | n + 1, e => by
    show sm f n + f n = sm h n + h n
    rw [sm_congr (fun k hk => e k (by omega)), e n (by omega)]
theorem sm_bounds {f : Nat → Int} {lo hi : Int} : ∀ {n : Nat}, (∀ k, k < n → lo ≤ f k ∧ f k ≤ hi) → lo * n ≤ sm f n ∧ sm f n ≤ hi * n
  | 0, _ => by simp [sm]
  | n + 1, e => by
    have h1 := sm_bounds (n := n) (fun k hk => e k (by omega))
    have h2 := e n (by omega)
    show lo * ((n + 1 : Nat) : Int) ≤ sm f n + f n ∧ sm f n + f n ≤ hi * ((n + 1 : Nat) : Int)
    rw [Int.natCast_add, Int.mul_add, Int.mul_add]
    omega
/-- one term of a sum changed -/
theorem sm_one {f h : Nat → Int} {k : Nat} : ∀ {n : Nat}, k < n → (∀ q, q < n → q ≠ k → f q = h q) → sm f n = sm h n - h k + f k
  | 0, hk, _ => absurd hk (Nat.not_lt_zero k)
  | n + 1, hk, e => by
    show sm f n + f n = sm h n + h n - h k + f k
    by_cases q : k = n
    · subst q
      rw [sm_congr (fun j hj => e j (by omega) (by omega))]
      omega
    · rw [sm_one (n := n) (by omega) (fun j hj hne => e j (by omega) hne), e n (by omega) (fun z => q z.symm)]
      omega
def oi (o : Option Nat) (d : Int) : Int := match o with
  | none => d
  | some k => k
/-- the place of the block of a number -/
def plF (g : Nat → Int) (b : Int) : Nat → Nat → Option Nat
  | 0, _ => none
  | m + 1, i => if gb g i 0 = b then some i else plF g b m (i + 1)
def pl (g : Nat → Int) (n : Nat) (b : Int) : Option Nat := plF g b n 0
theorem plF_lt {g : Nat → Int} {b : Int} : ∀ {m i k : Nat}, plF g b m i = some k → i ≤ k ∧ k < i + m
  | 0, i, k, h => by cases h
  | m + 1, i, k, h => by
    unfold plF at h
    split at h
    · cases h; omega
    · have := plF_lt h; omega
theorem pl_lt {g : Nat → Int} {n : Nat} {b : Int} {k : Nat} (h : pl g n b = some k) : k < n := by have := plF_lt h; omega
/-- how many blocks stand ahead of one, by heat and number -/
def hot (g : Nat → Int) (n k : Nat) : Int := sm (fun q => if gb g k 2 < gb g q 2 ∨ (gb g q 2 = gb g k 2 ∧ q < k) then 1 else 0) n
def rkF (g : Nat → Int) (n : Nat) (r : Int) : Nat → Nat → Option Nat
  | 0, _ => none
  | m + 1, i => if hot g n i = r then some i else rkF g n r m (i + 1)
def rk (g : Nat → Int) (n : Nat) (r : Int) : Option Nat := rkF g n r n 0
theorem rkF_lt {g : Nat → Int} {n : Nat} {r : Int} : ∀ {m i k : Nat}, rkF g n r m i = some k → i ≤ k ∧ k < i + m
  | 0, i, k, h => by cases h
  | m + 1, i, k, h => by
    unfold rkF at h
    split at h
    · cases h; omega
    · have := rkF_lt h; omega
def wt (g : Nat → Int) (k : Nat) : Int := if g 1 ≤ gb g k 2 then 0 else if g 2 ≤ gb g k 2 then 1 else 2
/-- room for so much on a shelf -/
def rm (g : Nat → Int) (n : Nat) (sh : Nat) (z : Int) : Prop := onF g n sh 1 + z ≤ g (6 + sh)
def rmB (g : Nat → Int) (n : Nat) (sh : Nat) (z : Int) : Bool := decide (onF g n sh 1 + z ≤ g (6 + sh))
def fr (g : Nat → Int) (n : Nat) (z : Int) : Option Nat := if rmB g n 0 z then some 0 else if rmB g n 1 z then some 1 else if rmB g n 2 z then some 2 else none
def pins (g : Nat → Int) (n : Nat) : Int := sm (fun k => gb g k 4) n
theorem GI.n24 {g : Nat → Int} {n : Nat} (h : GI g n) : n ≤ 24 := h.1
theorem GI.g15 {g : Nat → Int} {n : Nat} (h : GI g n) : g 15 = n := h.2.1
theorem GI.s0 {g : Nat → Int} {n : Nat} (h : GI g n) : 0 ≤ g 0 ∧ g 0 ≤ 100 := h.2.2.1
theorem GI.s1 {g : Nat → Int} {n : Nat} (h : GI g n) : 0 ≤ g 1 ∧ g 1 ≤ 20000 := h.2.2.2.1
theorem GI.s2 {g : Nat → Int} {n : Nat} (h : GI g n) : 0 ≤ g 2 ∧ g 2 ≤ 20000 := h.2.2.2.2.1
theorem GI.s3 {g : Nat → Int} {n : Nat} (h : GI g n) : 0 ≤ g 3 ∧ g 3 ≤ 24 := h.2.2.2.2.2.1
theorem GI.s4 {g : Nat → Int} {n : Nat} (h : GI g n) : 0 ≤ g 4 ∧ g 4 ≤ 30 := h.2.2.2.2.2.2.1
theorem GI.s5 {g : Nat → Int} {n : Nat} (h : GI g n) : 0 ≤ g 5 ∧ g 5 ≤ 50 := h.2.2.2.2.2.2.2.1
theorem GI.s6 {g : Nat → Int} {n : Nat} (h : GI g n) {j : Nat} (hj : j < 3) : 0 ≤ g (6 + j) ∧ g (6 + j) ≤ 200 := h.2.2.2.2.2.2.2.2.1 j hj
theorem GI.s9 {g : Nat → Int} {n : Nat} (h : GI g n) {j : Nat} (hj : j < 6) : 0 ≤ g (9 + j) ∧ g (9 + j) ≤ 50 := h.2.2.2.2.2.2.2.2.2.1 j hj
theorem GI.s16 {g : Nat → Int} {n : Nat} (h : GI g n) : 0 ≤ g 16 ∧ g 16 ≤ 1000 := h.2.2.2.2.2.2.2.2.2.2.1
theorem GI.b {g : Nat → Int} {n : Nat} (h : GI g n) {k : Nat} (hk : k < n) : (0 ≤ gb g k 0 ∧ gb g k 0 ≤ 999) ∧ (1 ≤ gb g k 1 ∧ gb g k 1 ≤ 9) ∧ (0 ≤ gb g k 2 ∧ gb g k 2 ≤ 99999) ∧ (0 ≤ gb g k 3 ∧ gb g k 3 ≤ 2) ∧ (0 ≤ gb g k 4 ∧ gb g k 4 ≤ 1) ∧ (0 ≤ gb g k 5 ∧ gb g k 5 ≤ 30) := h.2.2.2.2.2.2.2.2.2.2.2 k hk
theorem on_bounds {g : Nat → Int} {n : Nat} (h : GI g n) (sh : Int) : 0 ≤ onF g n sh 1 ∧ onF g n sh 1 ≤ 216 := by
  have h1 := sm_bounds (f := fun k => if gb g k 3 = sh then (if 1 = 0 then 1 else gb g k 1) else 0) (lo := 0) (hi := 9) (n := n) (fun k hk => by
    have := (h.b hk).2.1
    split
    · rw [if_neg (by decide)]; omega
    · omega)
  have h2 := h.n24
  unfold onF
  omega
theorem on0_bounds {g : Nat → Int} {n : Nat} (h : GI g n) (sh : Int) (w : Nat) (hw : w = 0 ∨ w = 2) : 0 ≤ onF g n sh w ∧ onF g n sh w ≤ 2399976 := by
  have h1 := sm_bounds (f := fun k => if gb g k 3 = sh then (if w = 0 then 1 else gb g k w) else 0) (lo := 0) (hi := 99999) (n := n) (fun k hk => by
    have := (h.b hk).2.2.1
    split
    · rcases hw with rfl | rfl
      · rw [if_pos rfl]; omega
      · rw [if_neg (by decide)]; omega
    · omega)
  have h2 := h.n24
  unfold onF
  omega
theorem hot_bounds {g : Nat → Int} {n : Nat} (h : n ≤ 24) (k : Nat) : 0 ≤ hot g n k ∧ hot g n k ≤ 24 := by
  have h1 := sm_bounds (f := fun q => if gb g k 2 < gb g q 2 ∨ (gb g q 2 = gb g k 2 ∧ q < k) then 1 else 0) (lo := 0) (hi := 1) (n := n) (fun q hq => by
    split <;> omega)
  unfold hot
  omega
theorem pins_bounds {g : Nat → Int} {n : Nat} (h : GI g n) : 0 ≤ pins g n ∧ pins g n ≤ 24 := by
  have h1 := sm_bounds (f := fun q => gb g q 4) (lo := 0) (hi := 1) (n := n) (fun q hq => (h.b hq).2.2.2.2.1)
  have h2 := h.n24
  unfold pins
  omega
theorem RS.b0 {I : xI} {c : Nat} {g : Nat → Int} {n : Nat} (h : RS I c g n) {k : Nat} (hk : k < n) : I (c + 3) k = gb g k 0 := h.2.1 k hk 0 (by decide)
theorem t_blk0 {I : xI} {c : Nat} {g : Nat → Int} {n : Nat} (hc : x_st c) (hR : RS I c g n) (hn : n ≤ 24) (k : Nat) (hk : k < n) {i : Int} (hi : i = (k : Int)) : S kX4_at 0 [rr (c + 3), ii i] I (q_p (ii (gb g k 0)) I) := by
  rw [← hR.b0 hk]
  exact t_atk (sh_st2 hc) (Or.inl (by have := st_lt hc; omega)) I k (by omega) hi
theorem RS.b1 {I : xI} {c : Nat} {g : Nat → Int} {n : Nat} (h : RS I c g n) {k : Nat} (hk : k < n) : I (c + 4) k = gb g k 1 := h.2.1 k hk 1 (by decide)
theorem t_blk1 {I : xI} {c : Nat} {g : Nat → Int} {n : Nat} (hc : x_st c) (hR : RS I c g n) (hn : n ≤ 24) (k : Nat) (hk : k < n) {i : Int} (hi : i = (k : Int)) : S kX4_at 0 [rr (c + 4), ii i] I (q_p (ii (gb g k 1)) I) := by
  rw [← hR.b1 hk]
  exact t_atk (sh_st3 hc) (Or.inl (by have := st_lt hc; omega)) I k (by omega) hi
theorem RS.b2 {I : xI} {c : Nat} {g : Nat → Int} {n : Nat} (h : RS I c g n) {k : Nat} (hk : k < n) : I (c + 5) k = gb g k 2 := h.2.1 k hk 2 (by decide)
theorem t_blk2 {I : xI} {c : Nat} {g : Nat → Int} {n : Nat} (hc : x_st c) (hR : RS I c g n) (hn : n ≤ 24) (k : Nat) (hk : k < n) {i : Int} (hi : i = (k : Int)) : S kX4_at 0 [rr (c + 5), ii i] I (q_p (ii (gb g k 2)) I) := by
  rw [← hR.b2 hk]
  exact t_atk (sh_st4 hc) (Or.inl (by have := st_lt hc; omega)) I k (by omega) hi
theorem RS.b3 {I : xI} {c : Nat} {g : Nat → Int} {n : Nat} (h : RS I c g n) {k : Nat} (hk : k < n) : I (c + 6) k = gb g k 3 := h.2.1 k hk 3 (by decide)
theorem t_blk3 {I : xI} {c : Nat} {g : Nat → Int} {n : Nat} (hc : x_st c) (hR : RS I c g n) (hn : n ≤ 24) (k : Nat) (hk : k < n) {i : Int} (hi : i = (k : Int)) : S kX4_at 0 [rr (c + 6), ii i] I (q_p (ii (gb g k 3)) I) := by
  rw [← hR.b3 hk]
  exact t_atk (sh_st5 hc) (Or.inl (by have := st_lt hc; omega)) I k (by omega) hi
theorem RS.b4 {I : xI} {c : Nat} {g : Nat → Int} {n : Nat} (h : RS I c g n) {k : Nat} (hk : k < n) : I (c + 7) k = gb g k 4 := h.2.1 k hk 4 (by decide)
theorem t_blk4 {I : xI} {c : Nat} {g : Nat → Int} {n : Nat} (hc : x_st c) (hR : RS I c g n) (hn : n ≤ 24) (k : Nat) (hk : k < n) {i : Int} (hi : i = (k : Int)) : S kX4_at 0 [rr (c + 7), ii i] I (q_p (ii (gb g k 4)) I) := by
  rw [← hR.b4 hk]
  exact t_atk (sh_st6 hc) (Or.inl (by have := st_lt hc; omega)) I k (by omega) hi
theorem RS.b5 {I : xI} {c : Nat} {g : Nat → Int} {n : Nat} (h : RS I c g n) {k : Nat} (hk : k < n) : I (c + 8) k = gb g k 5 := h.2.1 k hk 5 (by decide)
theorem t_blk5 {I : xI} {c : Nat} {g : Nat → Int} {n : Nat} (hc : x_st c) (hR : RS I c g n) (hn : n ≤ 24) (k : Nat) (hk : k < n) {i : Int} (hi : i = (k : Int)) : S kX4_at 0 [rr (c + 8), ii i] I (q_p (ii (gb g k 5)) I) := by
  rw [← hR.b5 hk]
  exact t_atk (sh_st7 hc) (Or.inl (by have := st_lt hc; omega)) I k (by omega) hi
theorem RS.b6 {I : xI} {c : Nat} {g : Nat → Int} {n : Nat} (h : RS I c g n) {k : Nat} (hk : k < n) : I (c + 9) k = gb g k 6 := h.2.1 k hk 6 (by decide)
theorem t_blk6 {I : xI} {c : Nat} {g : Nat → Int} {n : Nat} (hc : x_st c) (hR : RS I c g n) (hn : n ≤ 24) (k : Nat) (hk : k < n) {i : Int} (hi : i = (k : Int)) : S kX4_at 0 [rr (c + 9), ii i] I (q_p (ii (gb g k 6)) I) := by
  rw [← hR.b6 hk]
  exact t_atk (sh_st8 hc) (Or.inl (by have := st_lt hc; omega)) I k (by omega) hi
theorem RS.b7 {I : xI} {c : Nat} {g : Nat → Int} {n : Nat} (h : RS I c g n) {k : Nat} (hk : k < n) : I (c + 10) k = gb g k 7 := h.2.1 k hk 7 (by decide)
theorem t_blk7 {I : xI} {c : Nat} {g : Nat → Int} {n : Nat} (hc : x_st c) (hR : RS I c g n) (hn : n ≤ 24) (k : Nat) (hk : k < n) {i : Int} (hi : i = (k : Int)) : S kX4_at 0 [rr (c + 10), ii i] I (q_p (ii (gb g k 7)) I) := by
  rw [← hR.b7 hk]
  exact t_atk (sh_st9 hc) (Or.inl (by have := st_lt hc; omega)) I k (by omega) hi
theorem t_num {I : xI} {c : Nat} {g : Nat → Int} {n : Nat} (hc : x_st c) (hR : RS I c g n) (j : Nat) (hj : j < 23) {i : Int} (hi : i = (j : Int)) : S kX4_at 0 [rr (c + 1), ii i] I (q_p (ii (g j)) I) := by
  rw [← hR.1 j hj]
  exact t_atk (sh_st0 hc) (Or.inl (by have := st_lt hc; omega)) I j hj hi
theorem t_tak {I : xI} {c : Nat} {g : Nat → Int} {n : Nat} (hc : x_st c) (hR : RS I c g n) (j : Nat) (hj : j < 3) {i : Int} (hi : i = (j : Int)) : S kX4_at 0 [rr (c + 2), ii i] I (q_p (ii (onF g n j 1)) I) := by
  rw [← hR.2.2 j hj]
  exact t_atk (sh_st1 hc) (Or.inl (by have := st_lt hc; omega)) I j hj hi
end
section
/-! State: what it is asked -/
set_option maxRecDepth 20000 in
set_option maxHeartbeats 4000000 in
theorem t_countBlocks {I : xI} {c : Nat} {g : Nat → Int} {n : Nat} (hc : x_st c) (hR : RS I c g n) (hG : GI g n) : S kX3_countBlocks 1 [rr c] I (q_p (ii (n : Int)) I) := by
  have lc := st_lt hc
  have hn24 := hG.n24
  refine Sp_intro (by decide +kernel) (Nat.le_of_ble_eq_true rfl) ?_
  show Y kX3_countBlocks 1 0 [some (rr c)] [] I _
  refine X_aload dX3_countBlocks_0 rfl ?_
  refine X_getR dX3_countBlocks_1 rfl gf_X3_9 (sh_st hc) (by omega) rfl (rf_st0 hc) ?_
  refine X_bipush dX3_countBlocks_4 (by decide) ?_
  refine Y_pS dX3_countBlocks_6 cs_X3_49 (t_num hc hR 15 (by decide) rfl) rfl ?_
  refine X_iret dX3_countBlocks_9 (Or.inl rfl) ?_
  exact ⟨by rw [hG.g15], rfl, rfl, rfl⟩
set_option maxRecDepth 20000 in
set_option maxHeartbeats 4000000 in
theorem t_find_loop {I : xI} {c : Nat} {g : Nat → Int} {n : Nat} (hc : x_st c) (hR : RS I c g n) (hG : GI g n) (b : Int) (hb : -2147483648 ≤ b ∧ b ≤ 2147483647) : ∀ (m k : Nat), k + m = n → Y kX3_find 2 7 [some (rr c), some (ii b), some (ii (n : Int)), some (ii (k : Int))] [] I (q_p (ii (oi (plF g b m k) (-1))) I) := by
  have lc := st_lt hc
  have hn24 := hG.n24
  intro m
  induction m with
  | zero =>
    intro k hk
    refine X_iload dX3_find_7 rfl ?_
    refine X_iload dX3_find_8 rfl ?_
    refine X_icmp_ge (tgt := 32) dX3_find_9 (by decide) (by omega) (fun c_9 => ?_) (fun c_9 => absurd c_9 (by omega))
    refine X_iconst dX3_find_32 ?_
    refine X_iret dX3_find_33 (Or.inl rfl) ?_
    exact ⟨rfl, rfl, rfl, rfl⟩
  | succ m ih =>
    intro k hk
    unfold plF
    refine X_iload dX3_find_7 rfl ?_
    refine X_iload dX3_find_8 rfl ?_
    refine X_icmp_ge (tgt := 32) dX3_find_9 (by decide) (by omega) (fun c_9 => absurd c_9 (by omega)) (fun c_9 => ?_)
    refine X_aload dX3_find_12 rfl ?_
    refine X_getR dX3_find_13 rfl gf_X3_18 (sh_st hc) (by omega) rfl (rf_st2 hc) ?_
    refine X_iload dX3_find_16 rfl ?_
    refine Y_pS dX3_find_17 cs_X3_49 (t_blk0 hc hR hn24 k (by omega) rfl) rfl ?_
    refine X_iload dX3_find_20 rfl ?_
    have hb0 := (hG.b (k := k) (by omega)).1
    refine X_icmp_ne (tgt := 26) dX3_find_21 (by decide) (by omega) (fun c_21 => ?_) (fun c_21 => ?_)
    · rw [if_neg c_21]
      refine X_iinc dX3_find_26 rfl ?_
      dsimp only [List.set]
      refine X_goto (tgt := 7) dX3_find_29 (by decide) ?_
      exact ih (k + 1) (by omega)
    · rw [if_pos c_21]
      refine X_iload dX3_find_24 rfl ?_
      refine X_iret dX3_find_25 (Or.inl rfl) ?_
      exact ⟨rfl, rfl, rfl, rfl⟩
set_option maxRecDepth 20000 in
set_option maxHeartbeats 4000000 in
theorem t_find {I : xI} {c : Nat} {g : Nat → Int} {n : Nat} (hc : x_st c) (hR : RS I c g n) (hG : GI g n) (b : Int) (hb : -2147483648 ≤ b ∧ b ≤ 2147483647) : S kX3_find 2 [rr c, ii b] I (q_p (ii (oi (pl g n b) (-1))) I) := by
  have lc := st_lt hc
  have hn24 := hG.n24
  refine Sp_intro (by decide +kernel) (Nat.le_of_ble_eq_true rfl) ?_
  show Y kX3_find 2 0 [some (rr c), some (ii b), none, none] [] I _
  refine X_aload dX3_find_0 rfl ?_
  refine Y_pV dX3_find_1 cv_X3_53 (sh_st hc) (by omega) (t_countBlocks hc hR hG) rfl ?_
  refine X_istore dX3_find_4 (by decide) ?_
  dsimp only [List.set]
  refine X_iconst dX3_find_5 ?_
  refine X_istore dX3_find_6 (by decide) ?_
  dsimp only [List.set]
  exact t_find_loop hc hR hG b hb n 0 (by omega)
set_option maxRecDepth 20000 in
set_option maxHeartbeats 4000000 in
theorem t_countHotter_loop {I : xI} {c : Nat} {g : Nat → Int} {n : Nat} (hc : x_st c) (hR : RS I c g n) (hG : GI g n) (k : Nat) (hk : k < n) (F : Nat → Int) (hF : F = fun q => if gb g k 2 < gb g q 2 ∨ (gb g q 2 = gb g k 2 ∧ q < k) then 1 else 0) : ∀ (m q : Nat), q + m = n → Y kX3_countHotter 2 20 [some (rr c), some (ii (k : Int)), some (ii (n : Int)), some (ii (gb g k 2)), some (ii (sm F q)), some (ii (q : Int)), none] [] I (q_p (ii (sm F n)) I) := by
  have lc := st_lt hc
  have hn24 := hG.n24
  subst hF
  generalize hF : (fun q => if gb g k 2 < gb g q 2 ∨ (gb g q 2 = gb g k 2 ∧ q < k) then (1 : Int) else 0) = F
  have hF' : ∀ q, F q = if gb g k 2 < gb g q 2 ∨ (gb g q 2 = gb g k 2 ∧ q < k) then (1 : Int) else 0 := fun q => by rw [← hF]
  intro m
  induction m with
  | zero =>
    intro q hq
    refine X_iloadW dX3_countHotter_20 rfl ?_
    refine X_iload dX3_countHotter_22 rfl ?_
    refine X_icmp_ge (tgt := 64) dX3_countHotter_23 (by decide) (by omega) (fun c_23 => ?_) (fun c_23 => absurd c_23 (by omega))
    refine X_iloadW dX3_countHotter_64 rfl ?_
    refine X_iret dX3_countHotter_66 (Or.inl rfl) ?_
    exact ⟨by rw [show n = q by omega], rfl, rfl, rfl⟩
  | succ m ih =>
    intro q hq
    refine X_iloadW dX3_countHotter_20 rfl ?_
    refine X_iload dX3_countHotter_22 rfl ?_
    refine X_icmp_ge (tgt := 64) dX3_countHotter_23 (by decide) (by omega) (fun c_23 => absurd c_23 (by omega)) (fun c_23 => ?_)
    refine X_aload dX3_countHotter_26 rfl ?_
    refine X_getR dX3_countHotter_27 rfl gf_X3_24 (sh_st hc) (by omega) rfl (rf_st4 hc) ?_
    refine X_iloadW dX3_countHotter_30 rfl ?_
    refine Y_pS dX3_countHotter_32 cs_X3_49 (t_blk2 hc hR hn24 q (by omega) rfl) rfl ?_
    refine X_istoreW dX3_countHotter_35 (by decide) ?_
    dsimp only [List.set]
    refine X_iloadW dX3_countHotter_37 rfl ?_
    refine X_iload dX3_countHotter_39 rfl ?_
    have h1 := (hG.b (k := k) hk).2.2.1
    have h2 := (hG.b (k := q) (by omega)).2.2.1
    refine X_icmp_gt (tgt := 55) dX3_countHotter_40 (by decide) (by omega) (fun c_40 => ?_) (fun c_40 => ?_)
    · refine X_iinc dX3_countHotter_55 rfl ?_
      dsimp only [List.set]
      refine X_iinc dX3_countHotter_58 rfl ?_
      dsimp only [List.set]
      refine X_goto (tgt := 20) dX3_countHotter_61 (by decide) ?_
      refine X_drop 6 ?_
      dsimp only [List.set]
      first
        | (have e : sm F (q + 1) = sm F q + 1 := by
             show sm F q + F q = _; rw [hF' q]
             rw [if_pos (by omega)]
           rw [← e]
           exact ih (q + 1) (by omega))
        | (have e : sm F (q + 1) = sm F q := by
             show sm F q + F q = _; rw [hF' q]
             rw [if_neg (by omega)]
             omega
           rw [← e]
           exact ih (q + 1) (by omega))
    · refine X_iloadW dX3_countHotter_43 rfl ?_
      refine X_iload dX3_countHotter_45 rfl ?_
      refine X_icmp_ne (tgt := 58) dX3_countHotter_46 (by decide) (by omega) (fun c_46 => ?_) (fun c_46 => ?_)
      · refine X_iinc dX3_countHotter_58 rfl ?_
        dsimp only [List.set]
        refine X_goto (tgt := 20) dX3_countHotter_61 (by decide) ?_
        refine X_drop 6 ?_
        dsimp only [List.set]
        first
          | (have e : sm F (q + 1) = sm F q + 1 := by
               show sm F q + F q = _; rw [hF' q]
               rw [if_pos (by omega)]
             rw [← e]
             exact ih (q + 1) (by omega))
          | (have e : sm F (q + 1) = sm F q := by
               show sm F q + F q = _; rw [hF' q]
               rw [if_neg (by omega)]
               omega
             rw [← e]
             exact ih (q + 1) (by omega))
      · refine X_iloadW dX3_countHotter_49 rfl ?_
        refine X_iload dX3_countHotter_51 rfl ?_
        refine X_icmp_ge (tgt := 58) dX3_countHotter_52 (by decide) (by omega) (fun c_52 => ?_) (fun c_52 => ?_)
        · refine X_iinc dX3_countHotter_58 rfl ?_
          dsimp only [List.set]
          refine X_goto (tgt := 20) dX3_countHotter_61 (by decide) ?_
          refine X_drop 6 ?_
          dsimp only [List.set]
          first
            | (have e : sm F (q + 1) = sm F q + 1 := by
                 show sm F q + F q = _; rw [hF' q]
                 rw [if_pos (by omega)]
               rw [← e]
               exact ih (q + 1) (by omega))
            | (have e : sm F (q + 1) = sm F q := by
                 show sm F q + F q = _; rw [hF' q]
                 rw [if_neg (by omega)]
                 omega
               rw [← e]
               exact ih (q + 1) (by omega))
        · refine X_iinc dX3_countHotter_55 rfl ?_
          dsimp only [List.set]
          refine X_iinc dX3_countHotter_58 rfl ?_
          dsimp only [List.set]
          refine X_goto (tgt := 20) dX3_countHotter_61 (by decide) ?_
          refine X_drop 6 ?_
          dsimp only [List.set]
          first
            | (have e : sm F (q + 1) = sm F q + 1 := by
                 show sm F q + F q = _; rw [hF' q]
                 rw [if_pos (by omega)]
               rw [← e]
               exact ih (q + 1) (by omega))
            | (have e : sm F (q + 1) = sm F q := by
                 show sm F q + F q = _; rw [hF' q]
                 rw [if_neg (by omega)]
                 omega
               rw [← e]
               exact ih (q + 1) (by omega))
set_option maxRecDepth 20000 in
set_option maxHeartbeats 4000000 in
theorem t_countHotter {I : xI} {c : Nat} {g : Nat → Int} {n : Nat} (hc : x_st c) (hR : RS I c g n) (hG : GI g n) (k : Nat) (hk : k < n) : S kX3_countHotter 2 [rr c, ii (k : Int)] I (q_p (ii (hot g n k)) I) := by
  have lc := st_lt hc
  have hn24 := hG.n24
  refine Sp_intro (by decide +kernel) (Nat.le_of_ble_eq_true rfl) ?_
  show Y kX3_countHotter 2 0 [some (rr c), some (ii (k : Int)), none, none, none, none, none] [] I _
  refine X_aload dX3_countHotter_0 rfl ?_
  refine Y_pV dX3_countHotter_1 cv_X3_53 (sh_st hc) (by omega) (t_countBlocks hc hR hG) rfl ?_
  refine X_istore dX3_countHotter_4 (by decide) ?_
  dsimp only [List.set]
  refine X_aload dX3_countHotter_5 rfl ?_
  refine X_getR dX3_countHotter_6 rfl gf_X3_24 (sh_st hc) (by omega) rfl (rf_st4 hc) ?_
  refine X_iload dX3_countHotter_9 rfl ?_
  refine Y_pS dX3_countHotter_10 cs_X3_49 (t_blk2 hc hR hn24 k (by omega) rfl) rfl ?_
  refine X_istore dX3_countHotter_13 (by decide) ?_
  dsimp only [List.set]
  refine X_iconst dX3_countHotter_14 ?_
  refine X_istoreW dX3_countHotter_15 (by decide) ?_
  dsimp only [List.set]
  refine X_iconst dX3_countHotter_17 ?_
  refine X_istoreW dX3_countHotter_18 (by decide) ?_
  dsimp only [List.set]
  exact X_locals (t_countHotter_loop hc hR hG k hk _ rfl n 0 (by omega)) rfl (fun i a h => h)
set_option maxRecDepth 20000 in
set_option maxHeartbeats 4000000 in
theorem t_placeOfRank_loop {I : xI} {c : Nat} {g : Nat → Int} {n : Nat} (hc : x_st c) (hR : RS I c g n) (hG : GI g n) (b : Int) (hb : -2147483648 ≤ b ∧ b ≤ 2147483647) : ∀ (m k : Nat), k + m = n → Y kX3_placeOfRank 3 7 [some (rr c), some (ii b), some (ii (n : Int)), some (ii (k : Int))] [] I (q_p (ii (oi (rkF g n b m k) (-1))) I) := by
  have lc := st_lt hc
  have hn24 := hG.n24
  intro m
  induction m with
  | zero =>
    intro k hk
    refine X_iload dX3_placeOfRank_7 rfl ?_
    refine X_iload dX3_placeOfRank_8 rfl ?_
    refine X_icmp_ge (tgt := 29) dX3_placeOfRank_9 (by decide) (by omega) (fun c_9 => ?_) (fun c_9 => absurd c_9 (by omega))
    refine X_iconst dX3_placeOfRank_29 ?_
    refine X_iret dX3_placeOfRank_30 (Or.inl rfl) ?_
    exact ⟨rfl, rfl, rfl, rfl⟩
  | succ m ih =>
    intro k hk
    unfold rkF
    refine X_iload dX3_placeOfRank_7 rfl ?_
    refine X_iload dX3_placeOfRank_8 rfl ?_
    refine X_icmp_ge (tgt := 29) dX3_placeOfRank_9 (by decide) (by omega) (fun c_9 => absurd c_9 (by omega)) (fun c_9 => ?_)
    refine X_aload dX3_placeOfRank_12 rfl ?_
    refine X_iload dX3_placeOfRank_13 rfl ?_
    refine Y_pV dX3_placeOfRank_14 cv_X3_57 (sh_st hc) (by omega) (t_countHotter hc hR hG k (by omega)) rfl ?_
    refine X_iload dX3_placeOfRank_17 rfl ?_
    have hb0 := hot_bounds (g := g) hn24 k
    refine X_icmp_ne (tgt := 23) dX3_placeOfRank_18 (by decide) (by omega) (fun c_18 => ?_) (fun c_18 => ?_)
    · rw [if_neg c_18]
      refine X_iinc dX3_placeOfRank_23 rfl ?_
      dsimp only [List.set]
      refine X_goto (tgt := 7) dX3_placeOfRank_26 (by decide) ?_
      exact ih (k + 1) (by omega)
    · rw [if_pos c_18]
      refine X_iload dX3_placeOfRank_21 rfl ?_
      refine X_iret dX3_placeOfRank_22 (Or.inl rfl) ?_
      exact ⟨rfl, rfl, rfl, rfl⟩
set_option maxRecDepth 20000 in
set_option maxHeartbeats 4000000 in
theorem t_placeOfRank {I : xI} {c : Nat} {g : Nat → Int} {n : Nat} (hc : x_st c) (hR : RS I c g n) (hG : GI g n) (b : Int) (hb : -2147483648 ≤ b ∧ b ≤ 2147483647) : S kX3_placeOfRank 3 [rr c, ii b] I (q_p (ii (oi (rk g n b) (-1))) I) := by
  have lc := st_lt hc
  have hn24 := hG.n24
  refine Sp_intro (by decide +kernel) (Nat.le_of_ble_eq_true rfl) ?_
  show Y kX3_placeOfRank 3 0 [some (rr c), some (ii b), none, none] [] I _
  refine X_aload dX3_placeOfRank_0 rfl ?_
  refine Y_pV dX3_placeOfRank_1 cv_X3_53 (sh_st hc) (by omega) (t_countBlocks hc hR hG) rfl ?_
  refine X_istore dX3_placeOfRank_4 (by decide) ?_
  dsimp only [List.set]
  refine X_iconst dX3_placeOfRank_5 ?_
  refine X_istore dX3_placeOfRank_6 (by decide) ?_
  dsimp only [List.set]
  exact t_placeOfRank_loop hc hR hG b hb n 0 (by omega)
set_option maxRecDepth 20000 in
set_option maxHeartbeats 4000000 in
theorem t_wantedShelf {I : xI} {c : Nat} {g : Nat → Int} {n : Nat} (hc : x_st c) (hR : RS I c g n) (hG : GI g n) (k : Nat) (hk : k < n) {i : Int} (hi : i = (k : Int)) : S kX3_wantedShelf 1 [rr c, ii i] I (q_p (ii (wt g k)) I) := by
  have lc := st_lt hc
  have hn24 := hG.n24
  subst hi
  refine Sp_intro (by decide +kernel) (Nat.le_of_ble_eq_true rfl) ?_
  show Y kX3_wantedShelf 1 0 [some (rr c), some (ii (k : Int)), none] [] I _
  refine X_aload dX3_wantedShelf_0 rfl ?_
  refine X_getR dX3_wantedShelf_1 rfl gf_X3_24 (sh_st hc) (by omega) rfl (rf_st4 hc) ?_
  refine X_iload dX3_wantedShelf_4 rfl ?_
  refine Y_pS dX3_wantedShelf_5 cs_X3_49 (t_blk2 hc hR hn24 k (by omega) rfl) rfl ?_
  refine X_istore dX3_wantedShelf_8 (by decide) ?_
  dsimp only [List.set]
  refine X_iload dX3_wantedShelf_9 rfl ?_
  refine X_aload dX3_wantedShelf_10 rfl ?_
  refine X_getR dX3_wantedShelf_11 rfl gf_X3_9 (sh_st hc) (by omega) rfl (rf_st0 hc) ?_
  refine X_iconst dX3_wantedShelf_14 ?_
  refine Y_pS dX3_wantedShelf_15 cs_X3_49 (t_num hc hR 1 (by decide) rfl) rfl ?_
  have h1 := (hG.b (k := k) hk).2.2.1
  have h2 := hG.s1
  have h3 := hG.s2
  refine X_icmp_lt (tgt := 23) dX3_wantedShelf_18 (by decide) (by omega) (fun c_18 => ?_) (fun c_18 => ?_)
  · refine X_iload dX3_wantedShelf_23 rfl ?_
    refine X_aload dX3_wantedShelf_24 rfl ?_
    refine X_getR dX3_wantedShelf_25 rfl gf_X3_9 (sh_st hc) (by omega) rfl (rf_st0 hc) ?_
    refine X_iconst dX3_wantedShelf_28 ?_
    refine Y_pS dX3_wantedShelf_29 cs_X3_49 (t_num hc hR 2 (by decide) rfl) rfl ?_
    refine X_icmp_lt (tgt := 39) dX3_wantedShelf_32 (by decide) (by omega) (fun c_32 => ?_) (fun c_32 => ?_)
    · refine X_iconst dX3_wantedShelf_39 ?_
      refine X_iret dX3_wantedShelf_40 (Or.inl rfl) ?_
      refine ⟨?_, rfl, rfl, rfl⟩
      unfold wt
      first | rw [if_pos (by omega)] | rw [if_neg (by omega), if_pos (by omega)] | rw [if_neg (by omega), if_neg (by omega)]
    · refine X_iconst dX3_wantedShelf_35 ?_
      refine X_goto (tgt := 40) dX3_wantedShelf_36 (by decide) ?_
      refine X_iret dX3_wantedShelf_40 (Or.inl rfl) ?_
      refine ⟨?_, rfl, rfl, rfl⟩
      unfold wt
      first | rw [if_pos (by omega)] | rw [if_neg (by omega), if_pos (by omega)] | rw [if_neg (by omega), if_neg (by omega)]
  · refine X_iconst dX3_wantedShelf_21 ?_
    refine X_iret dX3_wantedShelf_22 (Or.inl rfl) ?_
    refine ⟨?_, rfl, rfl, rfl⟩
    unfold wt
    first | rw [if_pos (by omega)] | rw [if_neg (by omega), if_pos (by omega)] | rw [if_neg (by omega), if_neg (by omega)]
set_option maxRecDepth 20000 in
set_option maxHeartbeats 4000000 in
theorem t_hasRoom {I : xI} {c : Nat} {g : Nat → Int} {n : Nat} (hc : x_st c) (hR : RS I c g n) (hG : GI g n) (sh : Nat) (hsh : sh < 3) {i : Int} (hi : i = (sh : Int)) (z : Int) (hz : 0 ≤ z ∧ z ≤ 1000) : S kX3_hasRoom 0 [rr c, ii i, ii z] I (q_p (ii (if rmB g n sh z then 1 else 0)) I) := by
  have lc := st_lt hc
  have hn24 := hG.n24
  subst hi
  refine Sp_intro (by decide +kernel) (Nat.le_of_ble_eq_true rfl) ?_
  show Y kX3_hasRoom 0 0 [some (rr c), some (ii (sh : Int)), some (ii z)] [] I _
  refine X_iload dX3_hasRoom_0 rfl ?_
  refine X_if_lt (tgt := 33) dX3_hasRoom_1 (by decide) (by omega) (fun c_1 => absurd c_1 (by omega)) (fun c_1 => ?_)
  refine X_iload dX3_hasRoom_4 rfl ?_
  refine X_iconst dX3_hasRoom_5 ?_
  refine X_icmp_ge (tgt := 33) dX3_hasRoom_6 (by decide) (by omega) (fun c_6 => absurd c_6 (by omega)) (fun c_6 => ?_)
  refine X_aload dX3_hasRoom_9 rfl ?_
  refine X_getR dX3_hasRoom_10 rfl gf_X3_15 (sh_st hc) (by omega) rfl (rf_st1 hc) ?_
  refine X_iload dX3_hasRoom_13 rfl ?_
  refine X_iald dX3_hasRoom_14 (sh_st1 hc) (Or.inl (by omega)) (by omega) ?_
  refine X_iload dX3_hasRoom_15 rfl ?_
  refine X_iadd dX3_hasRoom_16 ?_
  refine X_aload dX3_hasRoom_17 rfl ?_
  refine X_getR dX3_hasRoom_18 rfl gf_X3_9 (sh_st hc) (by omega) rfl (rf_st0 hc) ?_
  refine X_bipush dX3_hasRoom_21 (by decide) ?_
  refine X_iload dX3_hasRoom_23 rfl ?_
  refine X_iadd dX3_hasRoom_24 ?_
  refine X_iald dX3_hasRoom_25 (sh_st0 hc) (Or.inl (by omega)) (by omega) ?_
  have e1 : ((6 : Int) + (sh : Int)).toNat = 6 + sh := by omega
  rw [e1, Int.toNat_natCast, hR.2.2 sh hsh, hR.1 (6 + sh) (by omega)]
  have h1 := on_bounds hG sh
  have h2 := hG.s6 hsh
  refine X_icmp_gt (tgt := 33) dX3_hasRoom_26 (by decide) (by omega) (fun c_26 => ?_) (fun c_26 => ?_)
  · refine X_iconst dX3_hasRoom_33 ?_
    refine X_iret dX3_hasRoom_34 (Or.inr ⟨rfl, by omega⟩) ?_
    refine ⟨?_, rfl, rfl, rfl⟩
    unfold rmB
    first | rw [decide_eq_true (by omega)]; rfl | rw [decide_eq_false (by omega)]; rfl
  · refine X_iconst dX3_hasRoom_29 ?_
    refine X_goto (tgt := 34) dX3_hasRoom_30 (by decide) ?_
    refine X_iret dX3_hasRoom_34 (Or.inr ⟨rfl, by omega⟩) ?_
    refine ⟨?_, rfl, rfl, rfl⟩
    unfold rmB
    first | rw [decide_eq_true (by omega)]; rfl | rw [decide_eq_false (by omega)]; rfl
set_option maxRecDepth 20000 in
set_option maxHeartbeats 4000000 in
theorem t_countOnShelf_loop {I : xI} {c : Nat} {g : Nat → Int} {n : Nat} (hc : x_st c) (hR : RS I c g n) (hG : GI g n) (sh : Nat) (hsh : sh < 3) : ∀ (m k : Nat), k + m = n → Y kX3_countOnShelf 2 10 [some (rr c), some (ii (sh : Int)), some (ii (n : Int)), some (ii (onF g k sh 0)), some (ii (k : Int))] [] I (q_p (ii (onF g n sh 0)) I) := by
  have lc := st_lt hc
  have hn24 := hG.n24
  intro m
  induction m with
  | zero =>
    intro k hk
    refine X_iloadW dX3_countOnShelf_10 rfl ?_
    refine X_iload dX3_countOnShelf_12 rfl ?_
    refine X_icmp_ge (tgt := 38) dX3_countOnShelf_13 (by decide) (by omega) (fun c_13 => ?_) (fun c_13 => absurd c_13 (by omega))
    refine X_iload dX3_countOnShelf_38 rfl ?_
    refine X_iret dX3_countOnShelf_39 (Or.inl rfl) ?_
    exact ⟨by rw [show n = k by omega], rfl, rfl, rfl⟩
  | succ m ih =>
    intro k hk
    refine X_iloadW dX3_countOnShelf_10 rfl ?_
    refine X_iload dX3_countOnShelf_12 rfl ?_
    refine X_icmp_ge (tgt := 38) dX3_countOnShelf_13 (by decide) (by omega) (fun c_13 => absurd c_13 (by omega)) (fun c_13 => ?_)
    refine X_aload dX3_countOnShelf_16 rfl ?_
    refine X_getR dX3_countOnShelf_17 rfl gf_X3_27 (sh_st hc) (by omega) rfl (rf_st5 hc) ?_
    refine X_iloadW dX3_countOnShelf_20 rfl ?_
    refine Y_pS dX3_countOnShelf_22 cs_X3_49 (t_blk3 hc hR hn24 k (by omega) rfl) rfl ?_
    refine X_iload dX3_countOnShelf_25 rfl ?_
    have h1 := (hG.b (k := k) (by omega)).2.2.2.1
    refine X_icmp_ne (tgt := 32) dX3_countOnShelf_26 (by decide) (by omega) (fun c_26 => ?_) (fun c_26 => ?_)
    · refine X_iinc dX3_countOnShelf_32 rfl ?_
      dsimp only [List.set]
      refine X_goto (tgt := 10) dX3_countOnShelf_35 (by decide) ?_
      first
        | (have e : onF g (k + 1) sh 0 = onF g k sh 0 + 1 := by
             show onF g k sh 0 + (if gb g k 3 = (sh : Int) then (if 0 = 0 then 1 else gb g k 0) else 0) = _
             rw [if_pos (by omega)]; rfl
           rw [← e]
           exact ih (k + 1) (by omega))
        | (have e : onF g (k + 1) sh 0 = onF g k sh 0 := by
             show onF g k sh 0 + (if gb g k 3 = (sh : Int) then (if 0 = 0 then 1 else gb g k 0) else 0) = _
             rw [if_neg (by omega)]; omega
           rw [← e]
           exact ih (k + 1) (by omega))
    · refine X_iinc dX3_countOnShelf_29 rfl ?_
      dsimp only [List.set]
      refine X_iinc dX3_countOnShelf_32 rfl ?_
      dsimp only [List.set]
      refine X_goto (tgt := 10) dX3_countOnShelf_35 (by decide) ?_
      first
        | (have e : onF g (k + 1) sh 0 = onF g k sh 0 + 1 := by
             show onF g k sh 0 + (if gb g k 3 = (sh : Int) then (if 0 = 0 then 1 else gb g k 0) else 0) = _
             rw [if_pos (by omega)]; rfl
           rw [← e]
           exact ih (k + 1) (by omega))
        | (have e : onF g (k + 1) sh 0 = onF g k sh 0 := by
             show onF g k sh 0 + (if gb g k 3 = (sh : Int) then (if 0 = 0 then 1 else gb g k 0) else 0) = _
             rw [if_neg (by omega)]; omega
           rw [← e]
           exact ih (k + 1) (by omega))
set_option maxRecDepth 20000 in
set_option maxHeartbeats 4000000 in
theorem t_countOnShelf {I : xI} {c : Nat} {g : Nat → Int} {n : Nat} (hc : x_st c) (hR : RS I c g n) (hG : GI g n) (sh : Nat) (hsh : sh < 3) {i : Int} (hi : i = (sh : Int)) : S kX3_countOnShelf 2 [rr c, ii i] I (q_p (ii (onF g n sh 0)) I) := by
  have lc := st_lt hc
  have hn24 := hG.n24
  subst hi
  refine Sp_intro (by decide +kernel) (Nat.le_of_ble_eq_true rfl) ?_
  show Y kX3_countOnShelf 2 0 [some (rr c), some (ii (sh : Int)), none, none, none] [] I _
  refine X_aload dX3_countOnShelf_0 rfl ?_
  refine Y_pV dX3_countOnShelf_1 cv_X3_53 (sh_st hc) (by omega) (t_countBlocks hc hR hG) rfl ?_
  refine X_istore dX3_countOnShelf_4 (by decide) ?_
  dsimp only [List.set]
  refine X_iconst dX3_countOnShelf_5 ?_
  refine X_istore dX3_countOnShelf_6 (by decide) ?_
  dsimp only [List.set]
  refine X_iconst dX3_countOnShelf_7 ?_
  refine X_istoreW dX3_countOnShelf_8 (by decide) ?_
  dsimp only [List.set]
  exact t_countOnShelf_loop hc hR hG sh hsh n 0 (by omega)
set_option maxRecDepth 20000 in
set_option maxHeartbeats 4000000 in
theorem t_heatOnShelf_loop {I : xI} {c : Nat} {g : Nat → Int} {n : Nat} (hc : x_st c) (hR : RS I c g n) (hG : GI g n) (sh : Nat) (hsh : sh < 3) : ∀ (m k : Nat), k + m = n → Y kX3_heatOnShelf 2 10 [some (rr c), some (ii (sh : Int)), some (ii (n : Int)), some (ii (onF g k sh 2)), some (ii (k : Int))] [] I (q_p (ii (onF g n sh 2)) I) := by
  have lc := st_lt hc
  have hn24 := hG.n24
  intro m
  induction m with
  | zero =>
    intro k hk
    refine X_iloadW dX3_heatOnShelf_10 rfl ?_
    refine X_iload dX3_heatOnShelf_12 rfl ?_
    refine X_icmp_ge (tgt := 47) dX3_heatOnShelf_13 (by decide) (by omega) (fun c_13 => ?_) (fun c_13 => absurd c_13 (by omega))
    refine X_iload dX3_heatOnShelf_47 rfl ?_
    refine X_iret dX3_heatOnShelf_48 (Or.inl rfl) ?_
    exact ⟨by rw [show n = k by omega], rfl, rfl, rfl⟩
  | succ m ih =>
    intro k hk
    refine X_iloadW dX3_heatOnShelf_10 rfl ?_
    refine X_iload dX3_heatOnShelf_12 rfl ?_
    refine X_icmp_ge (tgt := 47) dX3_heatOnShelf_13 (by decide) (by omega) (fun c_13 => absurd c_13 (by omega)) (fun c_13 => ?_)
    refine X_aload dX3_heatOnShelf_16 rfl ?_
    refine X_getR dX3_heatOnShelf_17 rfl gf_X3_27 (sh_st hc) (by omega) rfl (rf_st5 hc) ?_
    refine X_iloadW dX3_heatOnShelf_20 rfl ?_
    refine Y_pS dX3_heatOnShelf_22 cs_X3_49 (t_blk3 hc hR hn24 k (by omega) rfl) rfl ?_
    refine X_iload dX3_heatOnShelf_25 rfl ?_
    have h1 := (hG.b (k := k) (by omega)).2.2.2.1
    refine X_icmp_ne (tgt := 41) dX3_heatOnShelf_26 (by decide) (by omega) (fun c_26 => ?_) (fun c_26 => ?_)
    · refine X_iinc dX3_heatOnShelf_41 rfl ?_
      dsimp only [List.set]
      refine X_goto (tgt := 10) dX3_heatOnShelf_44 (by decide) ?_
      first
        | (have e : onF g (k + 1) sh 2 = onF g k sh 2 + gb g k 2 := by
             show onF g k sh 2 + (if gb g k 3 = (sh : Int) then (if 2 = 0 then 1 else gb g k 2) else 0) = _
             rw [if_pos (by omega)]; rfl
           rw [← e]
           exact ih (k + 1) (by omega))
        | (have e : onF g (k + 1) sh 2 = onF g k sh 2 := by
             show onF g k sh 2 + (if gb g k 3 = (sh : Int) then (if 2 = 0 then 1 else gb g k 2) else 0) = _
             rw [if_neg (by omega)]; omega
           rw [← e]
           exact ih (k + 1) (by omega))
    · refine X_iload dX3_heatOnShelf_29 rfl ?_
      refine X_aload dX3_heatOnShelf_30 rfl ?_
      refine X_getR dX3_heatOnShelf_31 rfl gf_X3_24 (sh_st hc) (by omega) rfl (rf_st4 hc) ?_
      refine X_iloadW dX3_heatOnShelf_34 rfl ?_
      refine Y_pS dX3_heatOnShelf_36 cs_X3_49 (t_blk2 hc hR hn24 k (by omega) rfl) rfl ?_
      refine X_iadd dX3_heatOnShelf_39 ?_
      refine X_istore dX3_heatOnShelf_40 (by decide) ?_
      dsimp only [List.set]
      refine X_iinc dX3_heatOnShelf_41 rfl ?_
      dsimp only [List.set]
      refine X_goto (tgt := 10) dX3_heatOnShelf_44 (by decide) ?_
      first
        | (have e : onF g (k + 1) sh 2 = onF g k sh 2 + gb g k 2 := by
             show onF g k sh 2 + (if gb g k 3 = (sh : Int) then (if 2 = 0 then 1 else gb g k 2) else 0) = _
             rw [if_pos (by omega)]; rfl
           rw [← e]
           exact ih (k + 1) (by omega))
        | (have e : onF g (k + 1) sh 2 = onF g k sh 2 := by
             show onF g k sh 2 + (if gb g k 3 = (sh : Int) then (if 2 = 0 then 1 else gb g k 2) else 0) = _
             rw [if_neg (by omega)]; omega
           rw [← e]
           exact ih (k + 1) (by omega))
set_option maxRecDepth 20000 in
set_option maxHeartbeats 4000000 in
theorem t_heatOnShelf {I : xI} {c : Nat} {g : Nat → Int} {n : Nat} (hc : x_st c) (hR : RS I c g n) (hG : GI g n) (sh : Nat) (hsh : sh < 3) {i : Int} (hi : i = (sh : Int)) : S kX3_heatOnShelf 2 [rr c, ii i] I (q_p (ii (onF g n sh 2)) I) := by
  have lc := st_lt hc
  have hn24 := hG.n24
  subst hi
  refine Sp_intro (by decide +kernel) (Nat.le_of_ble_eq_true rfl) ?_
  show Y kX3_heatOnShelf 2 0 [some (rr c), some (ii (sh : Int)), none, none, none] [] I _
  refine X_aload dX3_heatOnShelf_0 rfl ?_
  refine Y_pV dX3_heatOnShelf_1 cv_X3_53 (sh_st hc) (by omega) (t_countBlocks hc hR hG) rfl ?_
  refine X_istore dX3_heatOnShelf_4 (by decide) ?_
  dsimp only [List.set]
  refine X_iconst dX3_heatOnShelf_5 ?_
  refine X_istore dX3_heatOnShelf_6 (by decide) ?_
  dsimp only [List.set]
  refine X_iconst dX3_heatOnShelf_7 ?_
  refine X_istoreW dX3_heatOnShelf_8 (by decide) ?_
  dsimp only [List.set]
  exact t_heatOnShelf_loop hc hR hG sh hsh n 0 (by omega)
def htA (g : Nat → Int) (n : Nat) : Int := onF g n 0 2 + onF g n 1 2 + onF g n 2 2
set_option maxRecDepth 20000 in
set_option maxHeartbeats 4000000 in
theorem t_heatOfAll_loop {I : xI} {c : Nat} {g : Nat → Int} {n : Nat} (hc : x_st c) (hR : RS I c g n) (hG : GI g n) : ∀ (m k : Nat), k + m = 3 → Y kX3_heatOfAll 3 4 [some (rr c), some (ii (sm (fun s => onF g n (s : Int) 2) k)), some (ii (k : Int))] [] I (q_p (ii (htA g n)) I) := by
  have lc := st_lt hc
  have hn24 := hG.n24
  intro m
  induction m with
  | zero =>
    intro k hk
    refine X_iload dX3_heatOfAll_4 rfl ?_
    refine X_iconst dX3_heatOfAll_5 ?_
    refine X_icmp_ge (tgt := 23) dX3_heatOfAll_6 (by decide) (by omega) (fun c_6 => ?_) (fun c_6 => absurd c_6 (by omega))
    refine X_iload dX3_heatOfAll_23 rfl ?_
    refine X_iret dX3_heatOfAll_24 (Or.inl rfl) ?_
    exact ⟨by rw [show k = 3 by omega]; unfold htA; show some (ii (0 + onF g n 0 2 + onF g n 1 2 + onF g n 2 2)) = _; rw [Int.zero_add], rfl, rfl, rfl⟩
  | succ m ih =>
    intro k hk
    refine X_iload dX3_heatOfAll_4 rfl ?_
    refine X_iconst dX3_heatOfAll_5 ?_
    refine X_icmp_ge (tgt := 23) dX3_heatOfAll_6 (by decide) (by omega) (fun c_6 => absurd c_6 (by omega)) (fun c_6 => ?_)
    refine X_iload dX3_heatOfAll_9 rfl ?_
    refine X_aload dX3_heatOfAll_10 rfl ?_
    refine X_iload dX3_heatOfAll_11 rfl ?_
    refine Y_pV dX3_heatOfAll_12 cv_X3_61 (sh_st hc) (by omega) (t_heatOnShelf hc hR hG k (by omega) rfl) rfl ?_
    refine X_iadd dX3_heatOfAll_15 ?_
    refine X_istore dX3_heatOfAll_16 (by decide) ?_
    dsimp only [List.set]
    refine X_iinc dX3_heatOfAll_17 rfl ?_
    dsimp only [List.set]
    refine X_goto (tgt := 4) dX3_heatOfAll_20 (by decide) ?_
    exact ih (k + 1) (by omega)
set_option maxRecDepth 20000 in
set_option maxHeartbeats 4000000 in
theorem t_heatOfAll {I : xI} {c : Nat} {g : Nat → Int} {n : Nat} (hc : x_st c) (hR : RS I c g n) (hG : GI g n) : S kX3_heatOfAll 3 [rr c] I (q_p (ii (htA g n)) I) := by
  have lc := st_lt hc
  have hn24 := hG.n24
  refine Sp_intro (by decide +kernel) (Nat.le_of_ble_eq_true rfl) ?_
  show Y kX3_heatOfAll 3 0 [some (rr c), none, none] [] I _
  refine X_iconst dX3_heatOfAll_0 ?_
  refine X_istore dX3_heatOfAll_1 (by decide) ?_
  dsimp only [List.set]
  refine X_iconst dX3_heatOfAll_2 ?_
  refine X_istore dX3_heatOfAll_3 (by decide) ?_
  dsimp only [List.set]
  exact t_heatOfAll_loop hc hR hG 3 0 (by omega)
set_option maxRecDepth 20000 in
set_option maxHeartbeats 4000000 in
theorem t_nightPriceOfShelf {I : xI} {c : Nat} {g : Nat → Int} {n : Nat} (hc : x_st c) (hR : RS I c g n) (hG : GI g n) (sh : Nat) (hsh : sh < 3) {i : Int} (hi : i = (sh : Int)) : S kX3_nightPriceOfShelf 1 [rr c, ii i] I (q_p (ii (onF g n sh 1 * g (9 + sh))) I) := by
  have lc := st_lt hc
  have hn24 := hG.n24
  subst hi
  refine Sp_intro (by decide +kernel) (Nat.le_of_ble_eq_true rfl) ?_
  show Y kX3_nightPriceOfShelf 1 0 [some (rr c), some (ii (sh : Int))] [] I _
  refine X_aload dX3_nightPriceOfShelf_0 rfl ?_
  refine X_getR dX3_nightPriceOfShelf_1 rfl gf_X3_15 (sh_st hc) (by omega) rfl (rf_st1 hc) ?_
  refine X_iload dX3_nightPriceOfShelf_4 rfl ?_
  refine Y_pS dX3_nightPriceOfShelf_5 cs_X3_49 (t_tak hc hR sh (by omega) rfl) rfl ?_
  refine X_aload dX3_nightPriceOfShelf_8 rfl ?_
  refine X_getR dX3_nightPriceOfShelf_9 rfl gf_X3_9 (sh_st hc) (by omega) rfl (rf_st0 hc) ?_
  refine X_bipush dX3_nightPriceOfShelf_12 (by decide) ?_
  refine X_iload dX3_nightPriceOfShelf_14 rfl ?_
  refine X_iadd dX3_nightPriceOfShelf_15 ?_
  refine Y_pS dX3_nightPriceOfShelf_16 cs_X3_49 (t_num hc hR (9 + sh) (by omega) (by omega)) rfl ?_
  refine X_imul dX3_nightPriceOfShelf_19 ?_
  refine X_iret dX3_nightPriceOfShelf_20 (Or.inl rfl) ?_
  exact ⟨rfl, rfl, rfl, rfl⟩
set_option maxRecDepth 20000 in
set_option maxHeartbeats 4000000 in
theorem t_countPinned_loop {I : xI} {c : Nat} {g : Nat → Int} {n : Nat} (hc : x_st c) (hR : RS I c g n) (hG : GI g n) : ∀ (m k : Nat), k + m = n → Y kX3_countPinned 2 9 [some (rr c), some (ii (n : Int)), some (ii (pins g k)), some (ii (k : Int))] [] I (q_p (ii (pins g n)) I) := by
  have lc := st_lt hc
  have hn24 := hG.n24
  intro m
  induction m with
  | zero =>
    intro k hk
    refine X_iload dX3_countPinned_9 rfl ?_
    refine X_iload dX3_countPinned_10 rfl ?_
    refine X_icmp_ge (tgt := 31) dX3_countPinned_11 (by decide) (by omega) (fun c_11 => ?_) (fun c_11 => absurd c_11 (by omega))
    refine X_iload dX3_countPinned_31 rfl ?_
    refine X_iret dX3_countPinned_32 (Or.inl rfl) ?_
    exact ⟨by rw [show n = k by omega], rfl, rfl, rfl⟩
  | succ m ih =>
    intro k hk
    refine X_iload dX3_countPinned_9 rfl ?_
    refine X_iload dX3_countPinned_10 rfl ?_
    refine X_icmp_ge (tgt := 31) dX3_countPinned_11 (by decide) (by omega) (fun c_11 => absurd c_11 (by omega)) (fun c_11 => ?_)
    refine X_iload dX3_countPinned_14 rfl ?_
    refine X_aload dX3_countPinned_15 rfl ?_
    refine X_getR dX3_countPinned_16 rfl gf_X3_30 (sh_st hc) (by omega) rfl (rf_st6 hc) ?_
    refine X_iload dX3_countPinned_19 rfl ?_
    refine Y_pS dX3_countPinned_20 cs_X3_49 (t_blk4 hc hR hn24 k (by omega) rfl) rfl ?_
    refine X_iadd dX3_countPinned_23 ?_
    refine X_istore dX3_countPinned_24 (by decide) ?_
    dsimp only [List.set]
    refine X_iinc dX3_countPinned_25 rfl ?_
    dsimp only [List.set]
    refine X_goto (tgt := 9) dX3_countPinned_28 (by decide) ?_
    exact ih (k + 1) (by omega)
set_option maxRecDepth 20000 in
set_option maxHeartbeats 4000000 in
theorem t_countPinned {I : xI} {c : Nat} {g : Nat → Int} {n : Nat} (hc : x_st c) (hR : RS I c g n) (hG : GI g n) : S kX3_countPinned 2 [rr c] I (q_p (ii (pins g n)) I) := by
  have lc := st_lt hc
  have hn24 := hG.n24
  refine Sp_intro (by decide +kernel) (Nat.le_of_ble_eq_true rfl) ?_
  show Y kX3_countPinned 2 0 [some (rr c), none, none, none] [] I _
  refine X_aload dX3_countPinned_0 rfl ?_
  refine Y_pV dX3_countPinned_1 cv_X3_53 (sh_st hc) (by omega) (t_countBlocks hc hR hG) rfl ?_
  refine X_istore dX3_countPinned_4 (by decide) ?_
  dsimp only [List.set]
  refine X_iconst dX3_countPinned_5 ?_
  refine X_istore dX3_countPinned_6 (by decide) ?_
  dsimp only [List.set]
  refine X_iconst dX3_countPinned_7 ?_
  refine X_istore dX3_countPinned_8 (by decide) ?_
  dsimp only [List.set]
  exact t_countPinned_loop hc hR hG n 0 (by omega)
def frF (g : Nat → Int) (n : Nat) (z : Int) : Nat → Nat → Option Nat
  | 0, _ => none
  | m + 1, i => if rmB g n i z = true then some i else frF g n z m (i + 1)
theorem fr_eq (g : Nat → Int) (n : Nat) (z : Int) : fr g n z = frF g n z 3 0 := rfl
set_option maxRecDepth 20000 in
set_option maxHeartbeats 4000000 in
theorem t_fastestWithRoom_loop {I : xI} {c : Nat} {g : Nat → Int} {n : Nat} (hc : x_st c) (hR : RS I c g n) (hG : GI g n) (z : Int) (hz : 0 ≤ z ∧ z ≤ 1000) : ∀ (m k : Nat), k + m = 3 → Y kX3_fastestWithRoom 1 2 [some (rr c), some (ii z), some (ii (k : Int))] [] I (q_p (ii (oi (frF g n z m k) (-1))) I) := by
  have lc := st_lt hc
  have hn24 := hG.n24
  intro m
  induction m with
  | zero =>
    intro k hk
    refine X_iload dX3_fastestWithRoom_2 rfl ?_
    refine X_iconst dX3_fastestWithRoom_3 ?_
    refine X_icmp_ge (tgt := 24) dX3_fastestWithRoom_4 (by decide) (by omega) (fun c_4 => ?_) (fun c_4 => absurd c_4 (by omega))
    refine X_iconst dX3_fastestWithRoom_24 ?_
    refine X_iret dX3_fastestWithRoom_25 (Or.inl rfl) ?_
    exact ⟨rfl, rfl, rfl, rfl⟩
  | succ m ih =>
    intro k hk
    unfold frF
    refine X_iload dX3_fastestWithRoom_2 rfl ?_
    refine X_iconst dX3_fastestWithRoom_3 ?_
    refine X_icmp_ge (tgt := 24) dX3_fastestWithRoom_4 (by decide) (by omega) (fun c_4 => absurd c_4 (by omega)) (fun c_4 => ?_)
    refine X_aload dX3_fastestWithRoom_7 rfl ?_
    refine X_iload dX3_fastestWithRoom_8 rfl ?_
    refine X_iload dX3_fastestWithRoom_9 rfl ?_
    refine Y_pV dX3_fastestWithRoom_10 cv_X3_74 (sh_st hc) (by omega) (t_hasRoom hc hR hG k (by omega) rfl z (by omega)) rfl ?_
    have hb : (if rmB g n k z = true then (1 : Int) else 0) = 1 ∨ (if rmB g n k z = true then (1 : Int) else 0) = 0 := by split <;> simp
    refine X_if_eq (tgt := 18) dX3_fastestWithRoom_13 (by decide) (by omega) (fun c_13 => ?_) (fun c_13 => ?_)
    · have r : ¬ rmB g n k z = true := fun q => by rw [if_pos q] at c_13; omega
      rw [if_neg r]
      refine X_iinc dX3_fastestWithRoom_18 rfl ?_
      dsimp only [List.set]
      refine X_goto (tgt := 2) dX3_fastestWithRoom_21 (by decide) ?_
      exact ih (k + 1) (by omega)
    · have r : rmB g n k z = true := by
        by_cases q : rmB g n k z = true
        · exact q
        · rw [if_neg q] at c_13; omega
      rw [if_pos r]
      refine X_iload dX3_fastestWithRoom_16 rfl ?_
      refine X_iret dX3_fastestWithRoom_17 (Or.inl rfl) ?_
      exact ⟨rfl, rfl, rfl, rfl⟩
set_option maxRecDepth 20000 in
set_option maxHeartbeats 4000000 in
theorem t_fastestWithRoom {I : xI} {c : Nat} {g : Nat → Int} {n : Nat} (hc : x_st c) (hR : RS I c g n) (hG : GI g n) (z : Int) (hz : 0 ≤ z ∧ z ≤ 1000) : S kX3_fastestWithRoom 1 [rr c, ii z] I (q_p (ii (oi (fr g n z) (-1))) I) := by
  have lc := st_lt hc
  have hn24 := hG.n24
  refine Sp_intro (by decide +kernel) (Nat.le_of_ble_eq_true rfl) ?_
  show Y kX3_fastestWithRoom 1 0 [some (rr c), some (ii z), none] [] I _
  refine X_iconst dX3_fastestWithRoom_0 ?_
  refine X_istore dX3_fastestWithRoom_1 (by decide) ?_
  dsimp only [List.set]
  rw [fr_eq]
  exact t_fastestWithRoom_loop hc hR hG z hz 3 0 (by omega)
end
section
/-! changes of the state: a number, an attribute of a block, a move, a new block, a block less -/
def gN (g : Nat → Int) (j : Nat) (z : Int) : Nat → Int := fun i => if i = j then z else g i
def gB (g : Nat → Int) (k j : Nat) (z : Int) : Nat → Int := fun i => if i = 23 + 8 * k + j then z else g i
theorem gN_num {g : Nat → Int} {j i : Nat} {z : Int} : gN g j z i = if i = j then z else g i := rfl
theorem gN_gb {g : Nat → Int} {j k i : Nat} {z : Int} (hj : j < 23) : gb (gN g j z) k i = gb g k i := by
  unfold gb gN; rw [if_neg (by omega)]
theorem gB_num {g : Nat → Int} {k j i : Nat} {z : Int} (hi : i < 23) : gB g k j z i = g i := by
  unfold gB; rw [if_neg (by omega)]
theorem gB_gb {g : Nat → Int} {k j q i : Nat} {z : Int} (hj : j < 8) (hi : i < 8) : gb (gB g k j z) q i = if q = k ∧ i = j then z else gb g q i := by
  unfold gb gB
  by_cases h : q = k ∧ i = j
  · rw [if_pos h, if_pos (by omega)]
  · rw [if_neg h, if_neg (by omega)]
theorem gB_ne {g : Nat → Int} {k j q i : Nat} {z : Int} (hj : j < 8) (hi : i < 8) (h : i ≠ j) : gb (gB g k j z) q i = gb g q i := by
  rw [gB_gb hj hi, if_neg (by omega)]
theorem gB_nek {g : Nat → Int} {k j q i : Nat} {z : Int} (hj : j < 8) (hi : i < 8) (h : q ≠ k) : gb (gB g k j z) q i = gb g q i := by
  rw [gB_gb hj hi, if_neg (by omega)]
theorem gB_eq {g : Nat → Int} {k j : Nat} {z : Int} (hj : j < 8) : gb (gB g k j z) k j = z := by
  rw [gB_gb hj hj, if_pos ⟨rfl, rfl⟩]
/-- the same state, where it counts -/
def SameG (g g' : Nat → Int) (n : Nat) : Prop := (∀ j, j < 23 → g j = g' j) ∧ ∀ k, k < n → ∀ j, j < 8 → gb g k j = gb g' k j
theorem SameG.rf {g : Nat → Int} {n : Nat} : SameG g g n := ⟨fun _ _ => rfl, fun _ _ _ _ => rfl⟩
theorem SameG.symm {g g' : Nat → Int} {n : Nat} (h : SameG g g' n) : SameG g' g n := ⟨fun j hj => (h.1 j hj).symm, fun k hk j hj => (h.2 k hk j hj).symm⟩
theorem SameG.trans {g g' g'' : Nat → Int} {n : Nat} (h : SameG g g' n) (h' : SameG g' g'' n) : SameG g g'' n := ⟨fun j hj => (h.1 j hj).trans (h'.1 j hj), fun k hk j hj => (h.2 k hk j hj).trans (h'.2 k hk j hj)⟩
theorem on_congr {g g' : Nat → Int} {n : Nat} {sh : Int} {w : Nat} (hw : w < 8) (h : ∀ k, k < n → gb g k 3 = gb g' k 3 ∧ gb g k w = gb g' k w) : onF g n sh w = onF g' n sh w := by
  unfold onF
  refine sm_congr (fun k hk => ?_)
  rw [(h k hk).1, (h k hk).2]
theorem SameG.on {g g' : Nat → Int} {n : Nat} (h : SameG g g' n) {sh : Int} {w : Nat} (hw : w < 8) : onF g n sh w = onF g' n sh w := on_congr hw (fun k hk => ⟨h.2 k hk 3 (by decide), h.2 k hk w hw⟩)
theorem RS.same {I : xI} {c : Nat} {g g' : Nat → Int} {n : Nat} (h : RS I c g n) (e : SameG g g' n) : RS I c g' n := ⟨fun j hj => (h.1 j hj).trans (e.1 j hj), fun k hk j hj => (h.2.1 k hk j hj).trans (e.2 k hk j hj), fun s hs => (h.2.2 s hs).trans (e.on (by decide))⟩
theorem GI.same {g g' : Nat → Int} {n : Nat} (h : GI g n) (e : SameG g g' n) : GI g' n := by
  obtain ⟨h1, h2, h3, h4, h5, h6, h7, h8, h9, h10, h11, h12⟩ := h
  have f := fun j hj => (e.1 j hj).symm
  refine ⟨h1, by rw [f 15 (by decide)]; exact h2, by rw [f 0 (by decide)]; exact h3, by rw [f 1 (by decide)]; exact h4, by rw [f 2 (by decide)]; exact h5, by rw [f 3 (by decide)]; exact h6, by rw [f 4 (by decide)]; exact h7, by rw [f 5 (by decide)]; exact h8, fun j hj => by rw [f _ (by omega)]; exact h9 j hj, fun j hj => by rw [f _ (by omega)]; exact h10 j hj, by rw [f 16 (by decide)]; exact h11, fun k hk => ?_⟩
  have q := fun j hj => (e.2 k hk j hj).symm
  rw [q 0 (by decide), q 1 (by decide), q 2 (by decide), q 3 (by decide), q 4 (by decide), q 5 (by decide)]
  exact h12 k hk
/-- what a method on the State at c leaves alone -/
def FR (I I1 : xI) (c : Nat) : Prop := ∀ q, (q ≤ c ∨ c + 11 ≤ q) → I1 q = I q
theorem FR.rf {I : xI} {c : Nat} : FR I I c := fun _ _ => rfl
theorem FR.trans {I I1 I2 : xI} {c : Nat} (h : FR I I1 c) (h' : FR I1 I2 c) : FR I I2 c := fun q hq => (h' q hq).trans (h q hq)
theorem FR.up {I I1 : xI} {c : Nat} (h : FR I I1 c) {d j : Nat} {z : Int} (h1 : c < d) (h2 : d < c + 11) : FR I (x_up I1 d j z) c := fun q hq => by rw [x_up_ne (by omega)]; exact h q hq
theorem FR.cg {I I1 : xI} {c : Nat} (h : FR I I1 c) {d k i : Nat} (h1 : c < d) (h2 : d < c + 11) : FR I (x_cg I1 d k i) c := fun q hq => by
  have e : x_cg I1 d k i q = I1 q := by funext j; unfold x_cg; rw [if_neg (by omega)]
  rw [e]; exact h q hq
theorem FR.cp {I I1 : xI} {c : Nat} (h : FR I I1 c) {s d m : Nat} (h1 : c < d) (h2 : d < c + 11) : FR I (x_cp I1 s d m) c := fun q hq => by
  have e : x_cp I1 s d m q = I1 q := by funext j; unfold x_cp; rw [if_neg (by omega)]
  rw [e]; exact h q hq
/-- an attribute that is neither size nor shelf -/
theorem RS.setB {I : xI} {c : Nat} {g : Nat → Int} {n : Nat} (h : RS I c g n) {k j : Nat} (hj : j < 8) (h1 : j ≠ 1) (h3 : j ≠ 3) (z : Int) : RS (x_up I (c + 3 + j) k z) c (gB g k j z) n := by
  refine ⟨fun i hi => ?_, fun q hq i hi => ?_, fun s hs => ?_⟩
  · rw [x_up_off (by omega), gB_num hi]; exact h.1 i hi
  · rw [gB_gb hj hi, x_up_app]
    by_cases e : q = k ∧ i = j
    · rw [if_pos e, if_pos (by omega)]
    · rw [if_neg e, if_neg (by omega)]; exact h.2.1 q hq i hi
  · rw [x_up_off (by omega), h.2.2 s hs]
    exact on_congr (by decide) (fun q hq => ⟨(gB_ne hj (by decide) (Ne.symm h3)).symm, (gB_ne hj (by decide) (Ne.symm h1)).symm⟩)
theorem RS.setN {I : xI} {c : Nat} {g : Nat → Int} {n : Nat} (h : RS I c g n) {j : Nat} (hj : j < 23) (z : Int) : RS (x_up I (c + 1) j z) c (gN g j z) n := by
  refine ⟨fun i hi => ?_, fun q hq i hi => ?_, fun s hs => ?_⟩
  · rw [x_up_app, gN_num]
    by_cases e : i = j
    · rw [if_pos e, if_pos ⟨rfl, e⟩]
    · rw [if_neg e, if_neg (by omega)]; exact h.1 i hi
  · rw [gN_gb hj, x_up_off (by omega)]; exact h.2.1 q hq i hi
  · rw [x_up_off (by omega), h.2.2 s hs]
    exact on_congr (by decide) (fun q hq => ⟨(gN_gb hj).symm, (gN_gb hj).symm⟩)
theorem GI.setB {g : Nat → Int} {n : Nat} (h : GI g n) {k j : Nat} (hj : j < 8) {z : Int} (hz : (j = 0 → 0 ≤ z ∧ z ≤ 999) ∧ (j = 1 → 1 ≤ z ∧ z ≤ 9) ∧ (j = 2 → 0 ≤ z ∧ z ≤ 99999) ∧ (j = 3 → 0 ≤ z ∧ z ≤ 2) ∧ (j = 4 → 0 ≤ z ∧ z ≤ 1) ∧ (j = 5 → 0 ≤ z ∧ z ≤ 30)) : GI (gB g k j z) n := by
  obtain ⟨h1, h2, h3, h4, h5, h6, h7, h8, h9, h10, h11, h12⟩ := h
  refine ⟨h1, by rw [gB_num (by decide)]; exact h2, by rw [gB_num (by decide)]; exact h3, by rw [gB_num (by decide)]; exact h4, by rw [gB_num (by decide)]; exact h5, by rw [gB_num (by decide)]; exact h6, by rw [gB_num (by decide)]; exact h7, by rw [gB_num (by decide)]; exact h8, fun i hi => by rw [gB_num (by omega)]; exact h9 i hi, fun i hi => by rw [gB_num (by omega)]; exact h10 i hi, by rw [gB_num (by decide)]; exact h11, fun q hq => ?_⟩
  obtain ⟨b0, b1, b2, b3, b4, b5⟩ := h12 q hq
  obtain ⟨z0, z1, z2, z3, z4, z5⟩ := hz
  rw [gB_gb hj (by decide), gB_gb hj (by decide), gB_gb hj (by decide), gB_gb hj (by decide), gB_gb hj (by decide), gB_gb hj (by decide)]
  refine ⟨?_, ?_, ?_, ?_, ?_, ?_⟩
  · split
    · exact z0 (by omega)
    · exact b0
  · split
    · exact z1 (by omega)
    · exact b1
  · split
    · exact z2 (by omega)
    · exact b2
  · split
    · exact z3 (by omega)
    · exact b3
  · split
    · exact z4 (by omega)
    · exact b4
  · split
    · exact z5 (by omega)
    · exact b5
theorem GI.setN {g : Nat → Int} {n : Nat} (h : GI g n) {j : Nat} (hj : j < 23) {z : Int} (hz : j ≠ 15 ∧ (j = 0 → 0 ≤ z ∧ z ≤ 100) ∧ (j = 1 → 0 ≤ z ∧ z ≤ 20000) ∧ (j = 2 → 0 ≤ z ∧ z ≤ 20000) ∧ (j = 3 → 0 ≤ z ∧ z ≤ 24) ∧ (j = 4 → 0 ≤ z ∧ z ≤ 30) ∧ (j = 5 → 0 ≤ z ∧ z ≤ 50) ∧ (6 ≤ j ∧ j < 9 → 0 ≤ z ∧ z ≤ 200) ∧ (9 ≤ j ∧ j < 15 → 0 ≤ z ∧ z ≤ 50) ∧ (j = 16 → 0 ≤ z ∧ z ≤ 1000)) : GI (gN g j z) n := by
  obtain ⟨h1, h2, h3, h4, h5, h6, h7, h8, h9, h10, h11, h12⟩ := h
  obtain ⟨z15, z0, z1, z2, z3, z4, z5, z6, z9, z16⟩ := hz
  refine ⟨h1, by rw [gN_num, if_neg (by omega)]; exact h2, ?_, ?_, ?_, ?_, ?_, ?_, fun i hi => ?_, fun i hi => ?_, ?_, fun q hq => ?_⟩
  · rw [gN_num]; split
    · exact z0 (by omega)
    · exact h3
  · rw [gN_num]; split
    · exact z1 (by omega)
    · exact h4
  · rw [gN_num]; split
    · exact z2 (by omega)
    · exact h5
  · rw [gN_num]; split
    · exact z3 (by omega)
    · exact h6
  · rw [gN_num]; split
    · exact z4 (by omega)
    · exact h7
  · rw [gN_num]; split
    · exact z5 (by omega)
    · exact h8
  · rw [gN_num]; split
    · exact z6 (by omega)
    · exact h9 i hi
  · rw [gN_num]; split
    · exact z9 (by omega)
    · exact h10 i hi
  · rw [gN_num]; split
    · exact z16 (by omega)
    · exact h11
  · rw [gN_gb hj, gN_gb hj, gN_gb hj, gN_gb hj, gN_gb hj, gN_gb hj]
    exact h12 q hq
/-- an accumulator: no bound -/
theorem GI.acc {g : Nat → Int} {n : Nat} (h : GI g n) {j : Nat} (hj : 17 ≤ j ∧ j < 23) (z : Int) : GI (gN g j z) n := h.setN hj.2 ⟨by omega, by omega, by omega, by omega, by omega, by omega, by omega, by omega, by omega, by omega⟩
/-! a move to another shelf -/
def mv (g : Nat → Int) (k : Nat) (sh : Int) : Nat → Int := gB (gB g k 3 sh) k 7 (gb g k 7 + 1)
theorem mv_num {g : Nat → Int} {k : Nat} {sh : Int} {j : Nat} (hj : j < 23) : mv g k sh j = g j := by unfold mv; rw [gB_num hj, gB_num hj]
theorem mv_gb {g : Nat → Int} {k : Nat} {sh : Int} {q j : Nat} (hj : j < 8) : gb (mv g k sh) q j = if q = k ∧ j = 3 then sh else if q = k ∧ j = 7 then gb g k 7 + 1 else gb g q j := by
  unfold mv
  rw [gB_gb (by decide) hj, gB_gb (by decide) hj]
  by_cases h3 : q = k ∧ j = 3
  · rw [if_neg (by omega), if_pos h3, if_pos h3]
  · by_cases h7 : q = k ∧ j = 7
    · rw [if_pos h7, if_neg h3, if_pos h7]
    · rw [if_neg h7, if_neg h3, if_neg h3, if_neg h7]
theorem on_one {g h : Nat → Int} {n k : Nat} (hk : k < n) (sh : Int) (w : Nat) (e : ∀ q, q < n → q ≠ k → gb g q 3 = gb h q 3 ∧ gb g q w = gb h q w) : onF g n sh w = onF h n sh w - (if gb h k 3 = sh then (if w = 0 then 1 else gb h k w) else 0) + (if gb g k 3 = sh then (if w = 0 then 1 else gb g k w) else 0) := by
  unfold onF
  exact sm_one hk (fun q hq hne => by rw [(e q hq hne).1, (e q hq hne).2])
theorem mv_on {g : Nat → Int} {n k : Nat} (hk : k < n) (sh s : Int) : onF (mv g k sh) n s 1 = onF g n s 1 - (if gb g k 3 = s then gb g k 1 else 0) + (if sh = s then gb g k 1 else 0) := by
  have h := on_one (g := mv g k sh) (h := g) hk s 1 (fun q hq hne => ⟨by rw [mv_gb (by decide), if_neg (by omega), if_neg (by omega)], by rw [mv_gb (by decide), if_neg (by omega), if_neg (by omega)]⟩)
  have e1 : gb (mv g k sh) k 3 = sh := by rw [mv_gb (by decide), if_pos (by omega)]
  have e2 : gb (mv g k sh) k 1 = gb g k 1 := by rw [mv_gb (by decide), if_neg (by omega), if_neg (by omega)]
  rw [h, e1, e2]
  rfl
theorem GI.setM {g : Nat → Int} {n k : Nat} {sh : Int} (h : GI g n) (hs : 0 ≤ sh ∧ sh ≤ 2) : GI (mv g k sh) n :=
  (h.setB (k := k) (j := 3) (z := sh) (by decide) ⟨by omega, by omega, by omega, fun _ => hs, by omega, by omega⟩).setB (by decide) ⟨by omega, by omega, by omega, by omega, by omega, by omega⟩
theorem RS.setM {I : xI} {c : Nat} {g : Nat → Int} {n k o sh : Nat} (h : RS I c g n) (hk : k < n) (ho : gb g k 3 = (o : Int)) (ho3 : o < 3) (hs3 : sh < 3) {I1 I2 I3 I4 : xI} (e1 : I1 = x_up I (c + 2) o (I (c + 2) o + -(gb g k 1))) (e2 : I2 = x_up I1 (c + 2) sh (I1 (c + 2) sh + gb g k 1)) (e3 : I3 = x_up I2 (c + 6) k (sh : Int)) (e4 : I4 = x_up I3 (c + 10) k (I3 (c + 10) k + 1)) : RS I4 c (mv g k (sh : Int)) n := by
  have a1 : ∀ q, q ≠ c + 2 → I2 q = I q := fun q hq => by rw [e2, x_up_ne hq, e1, x_up_ne hq]
  have a2 : ∀ q, q ≠ c + 2 → q ≠ c + 6 → q ≠ c + 10 → I4 q = I q := fun q h1 h2 h3 => by rw [e4, x_up_ne h3, e3, x_up_ne h2, a1 q h1]
  refine ⟨fun i hi => ?_, fun q hq i hi => ?_, fun s hs => ?_⟩
  · rw [a2 _ (by omega) (by omega) (by omega), mv_num hi]; exact h.1 i hi
  · rw [mv_gb hi]
    by_cases h3 : i = 3
    · subst h3
      rw [e4, x_up_ne (by omega), e3, x_up_app]
      by_cases e : q = k
      · rw [if_pos ⟨by omega, e⟩, if_pos ⟨e, rfl⟩]
      · rw [if_neg (by omega), if_neg (by omega), if_neg (by omega), a1 _ (by omega)]; exact h.2.1 q hq 3 hi
    · by_cases h7 : i = 7
      · subst h7
        rw [e4, x_up_app, e3, x_up_ne (by omega), a1 (c + 10) (by omega)]
        by_cases e : q = k
        · rw [if_pos ⟨by omega, e⟩, if_neg (by omega), if_pos ⟨e, rfl⟩, ← h.b7 hk]
        · rw [if_neg (by omega), if_neg (by omega), if_neg (by omega)]; exact h.2.1 q hq 7 hi
      · rw [a2 _ (by omega) (by omega) (by omega), if_neg (by omega), if_neg (by omega)]; exact h.2.1 q hq i hi
  · have e5 : I4 (c + 2) s = I2 (c + 2) s := by rw [e4, x_up_ne (by omega), e3, x_up_ne (by omega)]
    rw [e5, mv_on hk, e2, x_up_app, e1, ho]
    simp only [x_up_app, true_and]
    have b1 := h.2.2 s hs
    have b2 := h.2.2 o ho3
    have b3 := h.2.2 sh hs3
    by_cases q1 : s = sh
    · subst q1
      by_cases q2 : s = o
      · subst q2
        rw [if_pos rfl, if_pos rfl, if_pos rfl]
        omega
      · rw [if_pos rfl, if_neg q2, if_neg (by omega), if_pos rfl]
        omega
    · by_cases q2 : s = o
      · subst q2
        rw [if_neg q1, if_pos rfl, if_pos rfl, if_neg (by omega)]
        omega
      · rw [if_neg q1, if_neg q2, if_neg (by omega), if_neg (by omega)]
        omega

theorem t_putB0 {I : xI} {c : Nat} {g : Nat → Int} {n : Nat} (hc : x_st c) (hR : RS I c g n) (hn : n ≤ 24) (k : Nat) (hk : k < n) {i : Int} (hi : i = (k : Int)) (z : Int) : S kX4_put 0 [rr (c + 3), ii i, ii z] I (q_v (fun I1 => RS I1 c (gB g k 0 (z)) n ∧ FR I I1 c)) := by
  have lc := st_lt hc
  refine S_monoV (t_putk (sh_st2 hc) (by omega) I k (by omega) hi z) (fun I1 h => ?_)
  rw [h]
  exact ⟨hR.setB (j := 0) (by decide) (by decide) (by decide) _, FR.rf.up (by omega) (by omega)⟩
theorem t_putB2 {I : xI} {c : Nat} {g : Nat → Int} {n : Nat} (hc : x_st c) (hR : RS I c g n) (hn : n ≤ 24) (k : Nat) (hk : k < n) {i : Int} (hi : i = (k : Int)) (z : Int) : S kX4_put 0 [rr (c + 5), ii i, ii z] I (q_v (fun I1 => RS I1 c (gB g k 2 (z)) n ∧ FR I I1 c)) := by
  have lc := st_lt hc
  refine S_monoV (t_putk (sh_st4 hc) (by omega) I k (by omega) hi z) (fun I1 h => ?_)
  rw [h]
  exact ⟨hR.setB (j := 2) (by decide) (by decide) (by decide) _, FR.rf.up (by omega) (by omega)⟩
theorem t_putB4 {I : xI} {c : Nat} {g : Nat → Int} {n : Nat} (hc : x_st c) (hR : RS I c g n) (hn : n ≤ 24) (k : Nat) (hk : k < n) {i : Int} (hi : i = (k : Int)) (z : Int) : S kX4_put 0 [rr (c + 7), ii i, ii z] I (q_v (fun I1 => RS I1 c (gB g k 4 (z)) n ∧ FR I I1 c)) := by
  have lc := st_lt hc
  refine S_monoV (t_putk (sh_st6 hc) (by omega) I k (by omega) hi z) (fun I1 h => ?_)
  rw [h]
  exact ⟨hR.setB (j := 4) (by decide) (by decide) (by decide) _, FR.rf.up (by omega) (by omega)⟩
theorem t_putB5 {I : xI} {c : Nat} {g : Nat → Int} {n : Nat} (hc : x_st c) (hR : RS I c g n) (hn : n ≤ 24) (k : Nat) (hk : k < n) {i : Int} (hi : i = (k : Int)) (z : Int) : S kX4_put 0 [rr (c + 8), ii i, ii z] I (q_v (fun I1 => RS I1 c (gB g k 5 (z)) n ∧ FR I I1 c)) := by
  have lc := st_lt hc
  refine S_monoV (t_putk (sh_st7 hc) (by omega) I k (by omega) hi z) (fun I1 h => ?_)
  rw [h]
  exact ⟨hR.setB (j := 5) (by decide) (by decide) (by decide) _, FR.rf.up (by omega) (by omega)⟩
theorem t_putB6 {I : xI} {c : Nat} {g : Nat → Int} {n : Nat} (hc : x_st c) (hR : RS I c g n) (hn : n ≤ 24) (k : Nat) (hk : k < n) {i : Int} (hi : i = (k : Int)) (z : Int) : S kX4_put 0 [rr (c + 9), ii i, ii z] I (q_v (fun I1 => RS I1 c (gB g k 6 (z)) n ∧ FR I I1 c)) := by
  have lc := st_lt hc
  refine S_monoV (t_putk (sh_st8 hc) (by omega) I k (by omega) hi z) (fun I1 h => ?_)
  rw [h]
  exact ⟨hR.setB (j := 6) (by decide) (by decide) (by decide) _, FR.rf.up (by omega) (by omega)⟩
theorem t_putB7 {I : xI} {c : Nat} {g : Nat → Int} {n : Nat} (hc : x_st c) (hR : RS I c g n) (hn : n ≤ 24) (k : Nat) (hk : k < n) {i : Int} (hi : i = (k : Int)) (z : Int) : S kX4_put 0 [rr (c + 10), ii i, ii z] I (q_v (fun I1 => RS I1 c (gB g k 7 (z)) n ∧ FR I I1 c)) := by
  have lc := st_lt hc
  refine S_monoV (t_putk (sh_st9 hc) (by omega) I k (by omega) hi z) (fun I1 h => ?_)
  rw [h]
  exact ⟨hR.setB (j := 7) (by decide) (by decide) (by decide) _, FR.rf.up (by omega) (by omega)⟩
theorem t_putN {I : xI} {c : Nat} {g : Nat → Int} {n : Nat} (hc : x_st c) (hR : RS I c g n) (j : Nat) (hj : j < 23) {i : Int} (hi : i = (j : Int)) (z : Int) : S kX4_put 0 [rr (c + 1), ii i, ii z] I (q_v (fun I1 => RS I1 c (gN g j (z)) n ∧ FR I I1 c)) := by
  have lc := st_lt hc
  refine S_monoV (t_putk (sh_st0 hc) (by omega) I j hj hi z) (fun I1 h => ?_)
  rw [h]
  exact ⟨hR.setN hj _, FR.rf.up (by omega) (by omega)⟩
theorem t_raiseB0 {I : xI} {c : Nat} {g : Nat → Int} {n : Nat} (hc : x_st c) (hR : RS I c g n) (hn : n ≤ 24) (k : Nat) (hk : k < n) {i : Int} (hi : i = (k : Int)) (z : Int) : S kX4_raise 0 [rr (c + 3), ii i, ii z] I (q_v (fun I1 => RS I1 c (gB g k 0 (gb g k 0 + z)) n ∧ FR I I1 c)) := by
  have lc := st_lt hc
  refine S_monoV (t_raisek (sh_st2 hc) (by omega) I k (by omega) hi z) (fun I1 h => ?_)
  rw [h, hR.b0 hk]
  exact ⟨hR.setB (j := 0) (by decide) (by decide) (by decide) _, FR.rf.up (by omega) (by omega)⟩
theorem t_raiseB2 {I : xI} {c : Nat} {g : Nat → Int} {n : Nat} (hc : x_st c) (hR : RS I c g n) (hn : n ≤ 24) (k : Nat) (hk : k < n) {i : Int} (hi : i = (k : Int)) (z : Int) : S kX4_raise 0 [rr (c + 5), ii i, ii z] I (q_v (fun I1 => RS I1 c (gB g k 2 (gb g k 2 + z)) n ∧ FR I I1 c)) := by
  have lc := st_lt hc
  refine S_monoV (t_raisek (sh_st4 hc) (by omega) I k (by omega) hi z) (fun I1 h => ?_)
  rw [h, hR.b2 hk]
  exact ⟨hR.setB (j := 2) (by decide) (by decide) (by decide) _, FR.rf.up (by omega) (by omega)⟩
theorem t_raiseB4 {I : xI} {c : Nat} {g : Nat → Int} {n : Nat} (hc : x_st c) (hR : RS I c g n) (hn : n ≤ 24) (k : Nat) (hk : k < n) {i : Int} (hi : i = (k : Int)) (z : Int) : S kX4_raise 0 [rr (c + 7), ii i, ii z] I (q_v (fun I1 => RS I1 c (gB g k 4 (gb g k 4 + z)) n ∧ FR I I1 c)) := by
  have lc := st_lt hc
  refine S_monoV (t_raisek (sh_st6 hc) (by omega) I k (by omega) hi z) (fun I1 h => ?_)
  rw [h, hR.b4 hk]
  exact ⟨hR.setB (j := 4) (by decide) (by decide) (by decide) _, FR.rf.up (by omega) (by omega)⟩
theorem t_raiseB5 {I : xI} {c : Nat} {g : Nat → Int} {n : Nat} (hc : x_st c) (hR : RS I c g n) (hn : n ≤ 24) (k : Nat) (hk : k < n) {i : Int} (hi : i = (k : Int)) (z : Int) : S kX4_raise 0 [rr (c + 8), ii i, ii z] I (q_v (fun I1 => RS I1 c (gB g k 5 (gb g k 5 + z)) n ∧ FR I I1 c)) := by
  have lc := st_lt hc
  refine S_monoV (t_raisek (sh_st7 hc) (by omega) I k (by omega) hi z) (fun I1 h => ?_)
  rw [h, hR.b5 hk]
  exact ⟨hR.setB (j := 5) (by decide) (by decide) (by decide) _, FR.rf.up (by omega) (by omega)⟩
theorem t_raiseB6 {I : xI} {c : Nat} {g : Nat → Int} {n : Nat} (hc : x_st c) (hR : RS I c g n) (hn : n ≤ 24) (k : Nat) (hk : k < n) {i : Int} (hi : i = (k : Int)) (z : Int) : S kX4_raise 0 [rr (c + 9), ii i, ii z] I (q_v (fun I1 => RS I1 c (gB g k 6 (gb g k 6 + z)) n ∧ FR I I1 c)) := by
  have lc := st_lt hc
  refine S_monoV (t_raisek (sh_st8 hc) (by omega) I k (by omega) hi z) (fun I1 h => ?_)
  rw [h, hR.b6 hk]
  exact ⟨hR.setB (j := 6) (by decide) (by decide) (by decide) _, FR.rf.up (by omega) (by omega)⟩
theorem t_raiseB7 {I : xI} {c : Nat} {g : Nat → Int} {n : Nat} (hc : x_st c) (hR : RS I c g n) (hn : n ≤ 24) (k : Nat) (hk : k < n) {i : Int} (hi : i = (k : Int)) (z : Int) : S kX4_raise 0 [rr (c + 10), ii i, ii z] I (q_v (fun I1 => RS I1 c (gB g k 7 (gb g k 7 + z)) n ∧ FR I I1 c)) := by
  have lc := st_lt hc
  refine S_monoV (t_raisek (sh_st9 hc) (by omega) I k (by omega) hi z) (fun I1 h => ?_)
  rw [h, hR.b7 hk]
  exact ⟨hR.setB (j := 7) (by decide) (by decide) (by decide) _, FR.rf.up (by omega) (by omega)⟩
theorem t_raiseN {I : xI} {c : Nat} {g : Nat → Int} {n : Nat} (hc : x_st c) (hR : RS I c g n) (j : Nat) (hj : j < 23) {i : Int} (hi : i = (j : Int)) (z : Int) : S kX4_raise 0 [rr (c + 1), ii i, ii z] I (q_v (fun I1 => RS I1 c (gN g j (g j + z)) n ∧ FR I I1 c)) := by
  have lc := st_lt hc
  refine S_monoV (t_raisek (sh_st0 hc) (by omega) I j hj hi z) (fun I1 h => ?_)
  rw [h, hR.1 j hj]
  exact ⟨hR.setN hj _, FR.rf.up (by omega) (by omega)⟩
end
section
/-! State: what is done to it -/
set_option maxRecDepth 20000 in
set_option maxHeartbeats 4000000 in
theorem t_moveTo {I : xI} {c : Nat} {g : Nat → Int} {n : Nat} (hc : x_st c) (hR : RS I c g n) (hG : GI g n) (k : Nat) (hk : k < n) {i : Int} (hi : i = (k : Int)) (sh : Nat) (hsh : sh < 3) {i2 : Int} (hi2 : i2 = (sh : Int)) : S kX3_moveTo 1 [rr c, ii i, ii i2] I (q_v (fun I1 => RS I1 c (mv g k (sh : Int)) n ∧ FR I I1 c)) := by
  have lc := st_lt hc
  have hn24 := hG.n24
  subst hi; subst hi2
  have hb := (hG.b hk).2.2.2.1
  obtain ⟨o, ho⟩ := Int.eq_ofNat_of_zero_le hb.1
  refine Sp_intro (by decide +kernel) (Nat.le_of_ble_eq_true rfl) ?_
  show Y kX3_moveTo 1 0 [some (rr c), some (ii (k : Int)), some (ii (sh : Int)), none] [] I _
  refine X_aload dX3_moveTo_0 rfl ?_
  refine X_getR dX3_moveTo_1 rfl gf_X3_21 (sh_st hc) (by omega) rfl (rf_st3 hc) ?_
  refine X_iload dX3_moveTo_4 rfl ?_
  refine Y_pS dX3_moveTo_5 cs_X3_49 (t_blk1 hc hR hn24 k (by omega) rfl) rfl ?_
  refine X_istore dX3_moveTo_8 (by decide) ?_
  dsimp only [List.set]
  refine X_aload dX3_moveTo_9 rfl ?_
  refine X_getR dX3_moveTo_10 rfl gf_X3_15 (sh_st hc) (by omega) rfl (rf_st1 hc) ?_
  refine X_aload dX3_moveTo_13 rfl ?_
  refine X_getR dX3_moveTo_14 rfl gf_X3_27 (sh_st hc) (by omega) rfl (rf_st5 hc) ?_
  refine X_iload dX3_moveTo_17 rfl ?_
  refine Y_pS dX3_moveTo_18 cs_X3_49 (t_blk3 hc hR hn24 k (by omega) rfl) rfl ?_
  refine X_iload dX3_moveTo_21 rfl ?_
  refine X_ineg dX3_moveTo_22 ?_
  refine Y_vS dX3_moveTo_23 cs_X3_71 (t_raisek (sh_st1 hc) (by omega) _ o (by omega) ho _) rfl (fun I1 e1 => ?_)
  refine X_aload dX3_moveTo_26 rfl ?_
  refine X_getR dX3_moveTo_27 rfl gf_X3_15 (sh_st hc) (by omega) rfl (rf_st1 hc) ?_
  refine X_iload dX3_moveTo_30 rfl ?_
  refine X_iload dX3_moveTo_31 rfl ?_
  refine Y_vS dX3_moveTo_32 cs_X3_71 (t_raisek (sh_st1 hc) (by omega) _ sh (by omega) rfl _) rfl (fun I2 e2 => ?_)
  refine X_aload dX3_moveTo_35 rfl ?_
  refine X_getR dX3_moveTo_36 rfl gf_X3_27 (sh_st hc) (by omega) rfl (rf_st5 hc) ?_
  refine X_iload dX3_moveTo_39 rfl ?_
  refine X_iload dX3_moveTo_40 rfl ?_
  refine Y_vS dX3_moveTo_41 cs_X3_67 (t_putk (sh_st5 hc) (by omega) _ k (by omega) rfl _) rfl (fun I3 e3 => ?_)
  refine X_aload dX3_moveTo_44 rfl ?_
  refine X_getR dX3_moveTo_45 rfl gf_X3_39 (sh_st hc) (by omega) rfl (rf_st9 hc) ?_
  refine X_iload dX3_moveTo_48 rfl ?_
  refine X_iconst dX3_moveTo_49 ?_
  refine Y_vS dX3_moveTo_50 cs_X3_71 (t_raisek (sh_st9 hc) (by omega) _ k (by omega) rfl _) rfl (fun I4 e4 => ?_)
  refine X_vret dX3_moveTo_53 rfl ?_
  refine ⟨rfl, rfl, rfl, hR.setM hk ho (by omega) hsh e1 e2 e3 e4, ?_⟩
  subst e1; subst e2; subst e3; subst e4
  exact (((FR.rf.up (by omega) (by omega)).up (by omega) (by omega)).up (by omega) (by omega)).up (by omega) (by omega)
def abP (g : Nat → Int) (k : Nat) : Int := gb g k 1 * g 5 * gb g k 5
def abG1 (g : Nat → Int) (k : Nat) : Nat → Int := gN g 20 (g 20 + abP g k)
def abG2 (g : Nat → Int) (k : Nat) : Nat → Int := gN (abG1 g k) 22 (abG1 g k 22 + 1)
def abG3 (g : Nat → Int) (k : Nat) : Nat → Int := gB (abG2 g k) k 5 0
def abG (g : Nat → Int) (n k : Nat) : Nat → Int := if rmB (abG3 g k) n 0 (gb g k 1) = true then mv (abG3 g k) k ((0 : Nat) : Int) else if rmB (abG3 g k) n 1 (gb g k 1) = true then mv (abG3 g k) k ((1 : Nat) : Int) else abG3 g k
theorem GI.ab3 {g : Nat → Int} {n k : Nat} (h : GI g n) : GI (abG3 g k) n := ((h.acc (by decide) _).acc (by decide) _).setB (by decide) ⟨by omega, by omega, by omega, by omega, by omega, by omega⟩
theorem GI.ab {g : Nat → Int} {n k : Nat} (h : GI g n) : GI (abG g n k) n := by
  unfold abG
  split
  · exact h.ab3.setM (by omega)
  · split
    · exact h.ab3.setM (by omega)
    · exact h.ab3
set_option maxRecDepth 20000 in
set_option maxHeartbeats 4000000 in
theorem t_askBack {I : xI} {c : Nat} {g : Nat → Int} {n : Nat} (hc : x_st c) (hR : RS I c g n) (hG : GI g n) (k : Nat) (hk : k < n) {i : Int} (hi : i = (k : Int)) : S kX3_askBack 2 [rr c, ii i] I (q_i (fun z I1 => z = abP g k ∧ RS I1 c (abG g n k) n ∧ FR I I1 c)) := by
  have lc := st_lt hc
  have hn24 := hG.n24
  have hF : FR I I c := FR.rf
  subst hi
  have hz := (hG.b hk).2.1
  refine Sp_intro (by decide +kernel) (Nat.le_of_ble_eq_true rfl) ?_
  show Y kX3_askBack 2 0 [some (rr c), some (ii (k : Int)), none, none] [] I _
  refine X_aload dX3_askBack_0 rfl ?_
  refine X_getR dX3_askBack_1 rfl gf_X3_21 (sh_st hc) (by omega) rfl (rf_st3 hc) ?_
  refine X_iload dX3_askBack_4 rfl ?_
  refine Y_pS dX3_askBack_5 cs_X3_49 (t_blk1 hc hR hn24 k (by omega) rfl) rfl ?_
  refine X_istore dX3_askBack_8 (by decide) ?_
  dsimp only [List.set]
  refine X_iload dX3_askBack_9 rfl ?_
  refine X_aload dX3_askBack_10 rfl ?_
  refine X_getR dX3_askBack_11 rfl gf_X3_9 (sh_st hc) (by omega) rfl (rf_st0 hc) ?_
  refine X_iconst dX3_askBack_14 ?_
  refine Y_pS dX3_askBack_15 cs_X3_49 (t_num hc hR 5 (by decide) rfl) rfl ?_
  refine X_imul dX3_askBack_18 ?_
  refine X_aload dX3_askBack_19 rfl ?_
  refine X_getR dX3_askBack_20 rfl gf_X3_33 (sh_st hc) (by omega) rfl (rf_st7 hc) ?_
  refine X_iload dX3_askBack_23 rfl ?_
  refine Y_pS dX3_askBack_24 cs_X3_49 (t_blk5 hc hR hn24 k (by omega) rfl) rfl ?_
  refine X_imul dX3_askBack_27 ?_
  refine X_istore dX3_askBack_28 (by decide) ?_
  dsimp only [List.set]
  refine X_aload dX3_askBack_29 rfl ?_
  refine X_getR dX3_askBack_30 rfl gf_X3_9 (sh_st hc) (by omega) rfl (rf_st0 hc) ?_
  refine X_bipush dX3_askBack_33 (by decide) ?_
  refine X_iload dX3_askBack_35 rfl ?_
  refine Y_vS dX3_askBack_36 cs_X3_71 (t_raiseN hc hR 20 (by decide) rfl _) rfl (fun I36 hq36 => ?_)
  obtain ⟨hR, hF36⟩ := hq36
  have hF := hF.trans hF36
  change RS _ c (abG1 g k) n at hR
  have hG := hG.acc (j := 20) (by decide) (g 20 + abP g k)
  change GI (abG1 g k) n at hG
  refine X_aload dX3_askBack_39 rfl ?_
  refine X_getR dX3_askBack_40 rfl gf_X3_9 (sh_st hc) (by omega) rfl (rf_st0 hc) ?_
  refine X_bipush dX3_askBack_43 (by decide) ?_
  refine X_iconst dX3_askBack_45 ?_
  refine Y_vS dX3_askBack_46 cs_X3_71 (t_raiseN hc hR 22 (by decide) rfl _) rfl (fun I46 hq46 => ?_)
  obtain ⟨hR, hF46⟩ := hq46
  have hF := hF.trans hF46
  change RS _ c (abG2 g k) n at hR
  have hG := hG.acc (j := 22) (by decide) (abG1 g k 22 + 1)
  change GI (abG2 g k) n at hG
  refine X_aload dX3_askBack_49 rfl ?_
  refine X_getR dX3_askBack_50 rfl gf_X3_33 (sh_st hc) (by omega) rfl (rf_st7 hc) ?_
  refine X_iload dX3_askBack_53 rfl ?_
  refine X_iconst dX3_askBack_54 ?_
  refine Y_vS dX3_askBack_55 cs_X3_67 (t_putB5 hc hR hn24 k (by omega) rfl _) rfl (fun I55 hq55 => ?_)
  obtain ⟨hR, hF55⟩ := hq55
  have hF := hF.trans hF55
  change RS _ c (abG3 g k) n at hR
  have hG := hG.setB (k := k) (j := 5) (z := 0) (by decide) ⟨by omega, by omega, by omega, by omega, by omega, by omega⟩
  change GI (abG3 g k) n at hG
  refine X_aload dX3_askBack_58 rfl ?_
  refine X_iconst dX3_askBack_59 ?_
  refine X_iload dX3_askBack_60 rfl ?_
  refine Y_pV dX3_askBack_61 cv_X3_74 (sh_st hc) (by omega) (t_hasRoom hc hR hG 0 (by decide) rfl (gb g k 1) (by omega)) rfl ?_
  have hb : (if rmB (abG3 g k) n 0 (gb g k 1) = true then (1 : Int) else 0) = 1 ∨ (if rmB (abG3 g k) n 0 (gb g k 1) = true then (1 : Int) else 0) = 0 := by split <;> simp
  refine X_if_eq (tgt := 76) dX3_askBack_64 (by decide) (by omega) (fun c_64 => ?_) (fun c_64 => ?_)
  · have r0 : ¬ rmB (abG3 g k) n 0 (gb g k 1) = true := fun q => by rw [if_pos q] at c_64; omega
    refine X_aload dX3_askBack_76 rfl ?_
    refine X_iconst dX3_askBack_77 ?_
    refine X_iload dX3_askBack_78 rfl ?_
    refine Y_pV dX3_askBack_79 cv_X3_74 (sh_st hc) (by omega) (t_hasRoom hc hR hG 1 (by decide) rfl (gb g k 1) (by omega)) rfl ?_
    have hb : (if rmB (abG3 g k) n 1 (gb g k 1) = true then (1 : Int) else 0) = 1 ∨ (if rmB (abG3 g k) n 1 (gb g k 1) = true then (1 : Int) else 0) = 0 := by split <;> simp
    refine X_if_eq (tgt := 91) dX3_askBack_82 (by decide) (by omega) (fun c_82 => ?_) (fun c_82 => ?_)
    · have r1 : ¬ rmB (abG3 g k) n 1 (gb g k 1) = true := fun q => by rw [if_pos q] at c_82; omega
      refine X_iload dX3_askBack_91 rfl ?_
      refine X_iret dX3_askBack_92 (Or.inl rfl) ?_
      refine ⟨rfl, rfl, _, rfl, rfl, ?_⟩
      unfold abG
      first
        | (rw [if_pos r0]; exact ⟨hm.1, hF.trans hm.2⟩)
        | (rw [if_neg r0, if_pos r1]; exact ⟨hm.1, hF.trans hm.2⟩)
        | (rw [if_neg r0, if_neg r1]; exact ⟨hR, hF⟩)
    · have r1 : rmB (abG3 g k) n 1 (gb g k 1) = true := by
        by_cases q : rmB (abG3 g k) n 1 (gb g k 1) = true
        · exact q
        · rw [if_neg q] at c_82; omega
      refine X_aload dX3_askBack_85 rfl ?_
      refine X_iload dX3_askBack_86 rfl ?_
      refine X_iconst dX3_askBack_87 ?_
      refine Y_vV dX3_askBack_88 cv_X3_98 (sh_st hc) (by omega) (t_moveTo hc hR hG k hk rfl 1 (by decide) rfl) rfl (fun Im hm => ?_)
      refine X_iload dX3_askBack_91 rfl ?_
      refine X_iret dX3_askBack_92 (Or.inl rfl) ?_
      refine ⟨rfl, rfl, _, rfl, rfl, ?_⟩
      unfold abG
      first
        | (rw [if_pos r0]; exact ⟨hm.1, hF.trans hm.2⟩)
        | (rw [if_neg r0, if_pos r1]; exact ⟨hm.1, hF.trans hm.2⟩)
        | (rw [if_neg r0, if_neg r1]; exact ⟨hR, hF⟩)
  · have r0 : rmB (abG3 g k) n 0 (gb g k 1) = true := by
      by_cases q : rmB (abG3 g k) n 0 (gb g k 1) = true
      · exact q
      · rw [if_neg q] at c_64; omega
    refine X_aload dX3_askBack_67 rfl ?_
    refine X_iload dX3_askBack_68 rfl ?_
    refine X_iconst dX3_askBack_69 ?_
    refine Y_vV dX3_askBack_70 cv_X3_98 (sh_st hc) (by omega) (t_moveTo hc hR hG k hk rfl 0 (by decide) rfl) rfl (fun Im hm => ?_)
    refine X_goto (tgt := 91) dX3_askBack_73 (by decide) ?_
    refine X_iload dX3_askBack_91 rfl ?_
    refine X_iret dX3_askBack_92 (Or.inl rfl) ?_
    refine ⟨rfl, rfl, _, rfl, rfl, ?_⟩
    unfold abG
    first
      | (rw [if_pos r0]; exact ⟨hm.1, hF.trans hm.2⟩)
      | (rw [if_neg r0, if_pos r1]; exact ⟨hm.1, hF.trans hm.2⟩)
      | (rw [if_neg r0, if_neg r1]; exact ⟨hR, hF⟩)
def rdC (g : Nat → Int) (k : Nat) : Int := gb g k 1 * g (12 + (gb g k 3).toNat)
def rdG1 (g : Nat → Int) (k : Nat) : Nat → Int := gN g 19 (g 19 + rdC g k)
def rdG2 (g : Nat → Int) (k : Nat) : Nat → Int := gB (rdG1 g k) k 6 (gb (rdG1 g k) k 6 + 1)
def rdG3 (g : Nat → Int) (k : Nat) : Nat → Int := gB (rdG2 g k) k 2 (min (gb (rdG2 g k) k 2 + 1000) 99999)
def rd1P (g : Nat → Int) (k : Nat) : Int := if gb g k 3 = 2 then rdC g k + abP (rdG3 g k) k else rdC g k
def rd1G (g : Nat → Int) (n k : Nat) : Nat → Int := if gb g k 3 = 2 then abG (rdG3 g k) n k else rdG3 g k
theorem GI.rd2 {g : Nat → Int} {n k : Nat} (h : GI g n) : GI (rdG2 g k) n := (h.acc (j := 19) (by decide) _).setB (by decide) ⟨by omega, by omega, by omega, by omega, by omega, by omega⟩
theorem GI.rd3 {g : Nat → Int} {n k : Nat} (h : GI g n) (hk : k < n) : GI (rdG3 g k) n := by
  have h2 := (h.rd2 (k := k)).b hk
  exact h.rd2.setB (by decide) ⟨by omega, by omega, by omega, by omega, by omega, by omega⟩
theorem GI.rd {g : Nat → Int} {n k : Nat} (h : GI g n) (hk : k < n) : GI (rd1G g n k) n := by
  unfold rd1G
  split
  · exact (h.rd3 hk).ab
  · exact h.rd3 hk
def rbG (g : Nat → Int) (n k : Nat) : Nat → (Nat → Int)
  | 0 => g
  | t + 1 => rd1G (rbG g n k t) n k
def rbP (g : Nat → Int) (n k : Nat) : Nat → Int
  | 0 => 0
  | t + 1 => rbP g n k t + rd1P (rbG g n k t) k
theorem GI.rb {g : Nat → Int} {n k : Nat} (h : GI g n) (hk : k < n) : ∀ t, GI (rbG g n k t) n
  | 0 => h
  | t + 1 => (GI.rb h hk t).rd hk
set_option maxRecDepth 20000 in
set_option maxHeartbeats 4000000 in
theorem t_readOnce {I : xI} {c : Nat} {g : Nat → Int} {n : Nat} (hc : x_st c) (hR : RS I c g n) (hG : GI g n) (k : Nat) (hk : k < n) {i : Int} (hi : i = (k : Int)) : S kX3_readOnce 3 [rr c, ii i] I (q_i (fun z I1 => z = rd1P g k ∧ RS I1 c (rd1G g n k) n ∧ FR I I1 c)) := by
  have lc := st_lt hc
  have hn24 := hG.n24
  have hF : FR I I c := FR.rf
  subst hi
  have hb := (hG.b hk).2.2.2.1
  obtain ⟨o, ho⟩ := Int.eq_ofNat_of_zero_le hb.1
  have ho2 : (gb g k 3).toNat = o := by omega
  have hrc : rdC g k = gb g k 1 * g (12 + o) := by unfold rdC; rw [ho2]
  refine Sp_intro (by decide +kernel) (Nat.le_of_ble_eq_true rfl) ?_
  show Y kX3_readOnce 3 0 [some (rr c), some (ii (k : Int)), none, none] [] I _
  refine X_aload dX3_readOnce_0 rfl ?_
  refine X_getR dX3_readOnce_1 rfl gf_X3_27 (sh_st hc) (by omega) rfl (rf_st5 hc) ?_
  refine X_iload dX3_readOnce_4 rfl ?_
  refine Y_pS dX3_readOnce_5 cs_X3_49 (t_blk3 hc hR hn24 k (by omega) rfl) rfl ?_
  refine X_istore dX3_readOnce_8 (by decide) ?_
  dsimp only [List.set]
  refine X_aload dX3_readOnce_9 rfl ?_
  refine X_getR dX3_readOnce_10 rfl gf_X3_21 (sh_st hc) (by omega) rfl (rf_st3 hc) ?_
  refine X_iload dX3_readOnce_13 rfl ?_
  refine Y_pS dX3_readOnce_14 cs_X3_49 (t_blk1 hc hR hn24 k (by omega) rfl) rfl ?_
  refine X_aload dX3_readOnce_17 rfl ?_
  refine X_getR dX3_readOnce_18 rfl gf_X3_9 (sh_st hc) (by omega) rfl (rf_st0 hc) ?_
  refine X_bipush dX3_readOnce_21 (by decide) ?_
  refine X_iload dX3_readOnce_23 rfl ?_
  refine X_iadd dX3_readOnce_24 ?_
  refine Y_pS dX3_readOnce_25 cs_X3_49 (t_num hc hR (12 + o) (by omega) (by omega)) rfl ?_
  refine X_imul dX3_readOnce_28 ?_
  rw [← hrc]
  refine X_istore dX3_readOnce_29 (by decide) ?_
  dsimp only [List.set]
  refine X_aload dX3_readOnce_30 rfl ?_
  refine X_getR dX3_readOnce_31 rfl gf_X3_9 (sh_st hc) (by omega) rfl (rf_st0 hc) ?_
  refine X_bipush dX3_readOnce_34 (by decide) ?_
  refine X_iload dX3_readOnce_36 rfl ?_
  refine Y_vS dX3_readOnce_37 cs_X3_71 (t_raiseN hc hR 19 (by decide) rfl _) rfl (fun I37 hq37 => ?_)
  obtain ⟨hR, hF37⟩ := hq37
  have hF := hF.trans hF37
  change RS _ c (rdG1 g k) n at hR
  refine X_aload dX3_readOnce_40 rfl ?_
  refine X_getR dX3_readOnce_41 rfl gf_X3_36 (sh_st hc) (by omega) rfl (rf_st8 hc) ?_
  refine X_iload dX3_readOnce_44 rfl ?_
  refine X_iconst dX3_readOnce_45 ?_
  refine Y_vS dX3_readOnce_46 cs_X3_71 (t_raiseB6 hc hR hn24 k (by omega) rfl _) rfl (fun I46 hq46 => ?_)
  obtain ⟨hR, hF46⟩ := hq46
  have hF := hF.trans hF46
  change RS _ c (rdG2 g k) n at hR
  have hG2 := hG.rd2 (k := k)
  have hh := (hG2.b hk).2.2.1
  refine X_aload dX3_readOnce_49 rfl ?_
  refine X_getR dX3_readOnce_50 rfl gf_X3_24 (sh_st hc) (by omega) rfl (rf_st4 hc) ?_
  refine X_iload dX3_readOnce_53 rfl ?_
  refine X_aload dX3_readOnce_54 rfl ?_
  refine X_getR dX3_readOnce_55 rfl gf_X3_24 (sh_st hc) (by omega) rfl (rf_st4 hc) ?_
  refine X_iload dX3_readOnce_58 rfl ?_
  refine Y_pS dX3_readOnce_59 cs_X3_49 (t_blk2 hc hR hn24 k (by omega) rfl) rfl ?_
  refine X_sipush dX3_readOnce_62 (by decide) ?_
  refine X_iadd dX3_readOnce_65 ?_
  refine X_ldc (z := 99999) dX3_readOnce_66 rfl lw_X3_88 (by decide) ?_
  refine X_min dX3_readOnce_68 rfl lk_X3_89 (by omega) (by omega) (by decide) (Nat.le_of_ble_eq_true rfl) ?_
  refine Y_vS dX3_readOnce_71 cs_X3_67 (t_putB2 hc hR hn24 k (by omega) rfl _) rfl (fun I71 hq71 => ?_)
  obtain ⟨hR, hF71⟩ := hq71
  have hF := hF.trans hF71
  change RS _ c (rdG3 g k) n at hR
  have hG := hG.rd3 hk
  refine X_iload dX3_readOnce_74 rfl ?_
  refine X_iconst dX3_readOnce_75 ?_
  refine X_icmp_ne (tgt := 89) dX3_readOnce_76 (by decide) (by omega) (fun c_76 => ?_) (fun c_76 => ?_)
  · rw [rd1P, rd1G, if_neg c_76, if_neg c_76]
    refine X_iload dX3_readOnce_89 rfl ?_
    refine X_iret dX3_readOnce_90 (Or.inl rfl) ?_
    exact ⟨rfl, rfl, _, rfl, rfl, hR, hF⟩
  · rw [rd1P, rd1G, if_pos c_76, if_pos c_76]
    refine X_iload dX3_readOnce_79 rfl ?_
    refine X_aload dX3_readOnce_80 rfl ?_
    refine X_iload dX3_readOnce_81 rfl ?_
    refine Y_iV dX3_readOnce_82 cv_X3_95 (sh_st hc) (by omega) (t_askBack hc hR hG k hk rfl) rfl (fun z82 I82 h82 => ?_)
    obtain ⟨rfl, hR, hF82⟩ := h82
    have hF := hF.trans hF82
    refine X_iadd dX3_readOnce_85 ?_
    refine X_goto (tgt := 90) dX3_readOnce_86 (by decide) ?_
    refine X_iret dX3_readOnce_90 (Or.inl rfl) ?_
    exact ⟨rfl, rfl, _, rfl, rfl, hR, hF⟩
def rbZ (g : Nat → Int) (n : Nat) (b t : Int) : Int := match pl g n b with
  | none => -1
  | some k => if 1 ≤ t ∧ t ≤ 99 then rbP g n k t.toNat else -2
set_option maxRecDepth 20000 in
set_option maxHeartbeats 4000000 in
theorem t_readBlock_loop {I : xI} {c : Nat} {g0 : Nat → Int} {n : Nat} (hc : x_st c) (hG0 : GI g0 n) (b : Int) (k : Nat) (hk : k < n) (t : Nat) (ht : t ≤ 99) : ∀ (m j : Nat), j + m = t → ∀ (I1 : xI), RS I1 c (rbG g0 n k j) n → FR I I1 c → Y kX3_readBlock 4 33 [some (rr c), some (ii b), some (ii (t : Int)), some (ii (k : Int)), some (ii (rbP g0 n k j)), some (ii (j : Int))] [] I1 (q_i (fun z I2 => z = rbP g0 n k t ∧ RS I2 c (rbG g0 n k t) n ∧ FR I I2 c)) := by
  have lc := st_lt hc
  have hn24 := hG0.n24
  intro m
  induction m with
  | zero =>
    intro j hj I1 hR hF
    refine X_iloadW dX3_readBlock_33 rfl ?_
    refine X_iload dX3_readBlock_35 rfl ?_
    refine X_icmp_ge (tgt := 55) dX3_readBlock_36 (by decide) (by omega) (fun c_36 => ?_) (fun c_36 => absurd c_36 (by omega))
    refine X_iloadW dX3_readBlock_55 rfl ?_
    refine X_iret dX3_readBlock_57 (Or.inl rfl) ?_
    rw [show t = j by omega]
    exact ⟨rfl, rfl, _, rfl, rfl, hR, hF⟩
  | succ m ih =>
    intro j hj I1 hR hF
    have hG := hG0.rb hk j
    refine X_iloadW dX3_readBlock_33 rfl ?_
    refine X_iload dX3_readBlock_35 rfl ?_
    refine X_icmp_ge (tgt := 55) dX3_readBlock_36 (by decide) (by omega) (fun c_36 => absurd c_36 (by omega)) (fun c_36 => ?_)
    refine X_iloadW dX3_readBlock_39 rfl ?_
    refine X_aload dX3_readBlock_41 rfl ?_
    refine X_iload dX3_readBlock_42 rfl ?_
    refine Y_iV dX3_readBlock_43 cv_X3_85 (sh_st hc) (by omega) (t_readOnce hc hR hG k hk rfl) rfl (fun z43 I43 h43 => ?_)
    obtain ⟨rfl, hR, hF43⟩ := h43
    have hF := hF.trans hF43
    refine X_iadd dX3_readBlock_46 ?_
    refine X_istoreW dX3_readBlock_47 (by decide) ?_
    dsimp only [List.set]
    refine X_iinc dX3_readBlock_49 rfl ?_
    dsimp only [List.set]
    refine X_goto (tgt := 33) dX3_readBlock_52 (by decide) ?_
    exact ih (j + 1) (by omega) _ hR hF
set_option maxRecDepth 20000 in
set_option maxHeartbeats 4000000 in
theorem t_readBlock {I : xI} {c : Nat} {g : Nat → Int} {n : Nat} (hc : x_st c) (hR : RS I c g n) (hG : GI g n) (b : Int) (hb : -2147483648 ≤ b ∧ b ≤ 2147483647) (t : Int) (ht : -2147483648 ≤ t ∧ t ≤ 2147483647) : S kX3_readBlock 4 [rr c, ii b, ii t] I (q_i (fun z I1 => z = rbZ g n b t ∧ FR I I1 c ∧ (∀ k, pl g n b = some k → 1 ≤ t ∧ t ≤ 99 → RS I1 c (rbG g n k t.toNat) n))) := by
  have lc := st_lt hc
  have hn24 := hG.n24
  have hF : FR I I c := FR.rf
  refine Sp_intro (by decide +kernel) (Nat.le_of_ble_eq_true rfl) ?_
  show Y kX3_readBlock 4 0 [some (rr c), some (ii b), some (ii t), none, none, none] [] I _

  rcases hp : pl g n b with _ | k
  · have hfd := t_find hc hR hG b hb
    rw [hp] at hfd
    change S _ _ _ _ (q_p (ii (-1)) I) at hfd
    refine X_aload dX3_readBlock_0 rfl ?_
    refine X_iload dX3_readBlock_1 rfl ?_
    refine Y_pV dX3_readBlock_2 cv_X3_78 (sh_st hc) (by omega) hfd rfl ?_
    refine X_istore dX3_readBlock_5 (by decide) ?_
    dsimp only [List.set]
    refine X_iload dX3_readBlock_6 rfl ?_
    refine X_iconst dX3_readBlock_7 ?_
    refine X_icmp_ne (tgt := 13) dX3_readBlock_8 (by decide) (by omega) (fun c_8 => absurd c_8 (by omega)) (fun c_8 => ?_)
    refine X_iconst dX3_readBlock_11 ?_
    refine X_iret dX3_readBlock_12 (Or.inl rfl) ?_
    exact ⟨rfl, rfl, _, rfl, by unfold rbZ; rw [hp], hF, fun k h => by cases h⟩
  · have hk := pl_lt hp
    have hfd := t_find hc hR hG b hb
    rw [hp] at hfd
    change S _ _ _ _ (q_p (ii ((k : Nat) : Int)) I) at hfd
    refine X_aload dX3_readBlock_0 rfl ?_
    refine X_iload dX3_readBlock_1 rfl ?_
    refine Y_pV dX3_readBlock_2 cv_X3_78 (sh_st hc) (by omega) hfd rfl ?_
    refine X_istore dX3_readBlock_5 (by decide) ?_
    dsimp only [List.set]
    refine X_iload dX3_readBlock_6 rfl ?_
    refine X_iconst dX3_readBlock_7 ?_
    refine X_icmp_ne (tgt := 13) dX3_readBlock_8 (by decide) (by omega) (fun c_8 => ?_) (fun c_8 => absurd c_8 (by omega))
    refine X_iload dX3_readBlock_13 rfl ?_
    refine X_iconst dX3_readBlock_14 ?_
    refine X_icmp_lt (tgt := 24) dX3_readBlock_15 (by decide) (by omega) (fun c_15 => ?_) (fun c_15 => ?_)
    · refine X_bipush dX3_readBlock_24 (by decide) ?_
      refine X_iret dX3_readBlock_26 (Or.inl rfl) ?_
      exact ⟨rfl, rfl, _, rfl, by unfold rbZ; rw [hp]; show _ = if 1 ≤ t ∧ t ≤ 99 then _ else _; rw [if_neg (by omega)], hF, fun k h1 h2 => absurd h2 (by omega)⟩
    · refine X_iload dX3_readBlock_18 rfl ?_
      refine X_bipush dX3_readBlock_19 (by decide) ?_
      refine X_icmp_le (tgt := 27) dX3_readBlock_21 (by decide) (by omega) (fun c_21 => ?_) (fun c_21 => ?_)
      · refine X_iconst dX3_readBlock_27 ?_
        refine X_istoreW dX3_readBlock_28 (by decide) ?_
        dsimp only [List.set]
        refine X_iconst dX3_readBlock_30 ?_
        refine X_istoreW dX3_readBlock_31 (by decide) ?_
        dsimp only [List.set]
        obtain ⟨u, rfl⟩ := Int.eq_ofNat_of_zero_le (show 0 ≤ t by omega)
        refine X_weaken (t_readBlock_loop hc hG b k hk u (by omega) u 0 (by omega) I hR hF) (fun ro N1 I1 R1 h => ?_)
        obtain ⟨h1, h2, z, h3, h4, h5, h6⟩ := h
        refine ⟨h1, h2, z, h3, ?_, h6, fun k1 h7 _ => ?_⟩
        · unfold rbZ; rw [hp]; show _ = if 1 ≤ (u : Int) ∧ (u : Int) ≤ 99 then _ else _; rw [if_pos (by omega)]; exact h4
        · cases h7; exact h5
      · refine X_bipush dX3_readBlock_24 (by decide) ?_
        refine X_iret dX3_readBlock_26 (Or.inl rfl) ?_
        exact ⟨rfl, rfl, _, rfl, by unfold rbZ; rw [hp]; show _ = if 1 ≤ t ∧ t ≤ 99 then _ else _; rw [if_neg (by omega)], hF, fun k h1 h2 => absurd h2 (by omega)⟩
def pyF (g : Nat → Int) (n : Nat) : Nat → (Nat → Int)
  | 0 => gN g 17 (g 17 + 1)
  | s + 1 => gN (pyF g n s) 18 (pyF g n s 18 + onF (pyF g n s) n (s : Int) 1 * pyF g n s (9 + s))
theorem GI.py {g : Nat → Int} {n : Nat} (h : GI g n) : ∀ s, GI (pyF g n s) n
  | 0 => h.acc (by decide) _
  | s + 1 => (GI.py h s).acc (by decide) _
set_option maxRecDepth 20000 in
set_option maxHeartbeats 4000000 in
theorem t_payNight_loop {I : xI} {c : Nat} {g0 : Nat → Int} {n : Nat} (hc : x_st c) (hG0 : GI g0 n) : ∀ (m k : Nat), k + m = 3 → ∀ (I1 : xI), RS I1 c (pyF g0 n k) n → FR I I1 c → Y kX3_payNight 2 12 [some (rr c), some (ii (k : Int))] [] I1 (q_v (fun I2 => RS I2 c (pyF g0 n 3) n ∧ FR I I2 c)) := by
  have lc := st_lt hc
  have hn24 := hG0.n24
  intro m
  induction m with
  | zero =>
    intro k hk I1 hR hF
    refine X_iload dX3_payNight_12 rfl ?_
    refine X_iconst dX3_payNight_13 ?_
    refine X_icmp_ge (tgt := 37) dX3_payNight_14 (by decide) (by omega) (fun c_14 => ?_) (fun c_14 => absurd c_14 (by omega))
    refine X_vret dX3_payNight_37 rfl ?_
    rw [show k = 3 by omega] at hR
    exact ⟨rfl, rfl, rfl, hR, hF⟩
  | succ m ih =>
    intro k hk I1 hR hF
    have hG := hG0.py k
    refine X_iload dX3_payNight_12 rfl ?_
    refine X_iconst dX3_payNight_13 ?_
    refine X_icmp_ge (tgt := 37) dX3_payNight_14 (by decide) (by omega) (fun c_14 => absurd c_14 (by omega)) (fun c_14 => ?_)
    refine X_aload dX3_payNight_17 rfl ?_
    refine X_getR dX3_payNight_18 rfl gf_X3_9 (sh_st hc) (by omega) rfl (rf_st0 hc) ?_
    refine X_bipush dX3_payNight_21 (by decide) ?_
    refine X_aload dX3_payNight_23 rfl ?_
    refine X_iload dX3_payNight_24 rfl ?_
    refine Y_pV dX3_payNight_25 cv_X3_102 (sh_st hc) (by omega) (t_nightPriceOfShelf hc hR hG k (by omega) rfl) rfl ?_
    refine Y_vS dX3_payNight_28 cs_X3_71 (t_raiseN hc hR 18 (by decide) rfl _) rfl (fun I28 hq28 => ?_)
    obtain ⟨hR, hF28⟩ := hq28
    have hF := hF.trans hF28
    refine X_iinc dX3_payNight_31 rfl ?_
    dsimp only [List.set]
    refine X_goto (tgt := 12) dX3_payNight_34 (by decide) ?_
    exact ih (k + 1) (by omega) _ hR hF
set_option maxRecDepth 20000 in
set_option maxHeartbeats 4000000 in
theorem t_payNight {I : xI} {c : Nat} {g : Nat → Int} {n : Nat} (hc : x_st c) (hR : RS I c g n) (hG : GI g n) : S kX3_payNight 2 [rr c] I (q_v (fun I1 => RS I1 c (pyF g n 3) n ∧ FR I I1 c)) := by
  have lc := st_lt hc
  have hn24 := hG.n24
  have hF : FR I I c := FR.rf
  refine Sp_intro (by decide +kernel) (Nat.le_of_ble_eq_true rfl) ?_
  show Y kX3_payNight 2 0 [some (rr c), none] [] I _
  refine X_aload dX3_payNight_0 rfl ?_
  refine X_getR dX3_payNight_1 rfl gf_X3_9 (sh_st hc) (by omega) rfl (rf_st0 hc) ?_
  refine X_bipush dX3_payNight_4 (by decide) ?_
  refine X_iconst dX3_payNight_6 ?_
  refine Y_vS dX3_payNight_7 cs_X3_71 (t_raiseN hc hR 17 (by decide) rfl _) rfl (fun I7 hq7 => ?_)
  obtain ⟨hR, hF7⟩ := hq7
  have hF := hF.trans hF7
  refine X_iconst dX3_payNight_10 ?_
  refine X_istore dX3_payNight_11 (by decide) ?_
  dsimp only [List.set]
  exact t_payNight_loop hc hG 3 0 (by omega) _ hR hF
def fdH (g : Nat → Int) (k : Nat) (f : Int) : Nat → Int := gB g k 2 (gb g k 2 * f / 100)
def fd1 (g : Nat → Int) (k : Nat) (f : Int) : Nat → Int := gB (fdH g k f) k 5 (max (gb (fdH g k f) k 5 - 1) 0)
def fdF (g : Nat → Int) : Nat → (Nat → Int)
  | 0 => g
  | k + 1 => fd1 (fdF g k) k (g 0)
theorem GI.fdh {g : Nat → Int} {n k : Nat} (h : GI g n) (hk : k < n) {f : Int} (hf : 0 ≤ f ∧ f ≤ 100) : 0 ≤ gb g k 2 * f ∧ gb g k 2 * f ≤ 9999900 := by
  have h2 := (h.b hk).2.2.1
  have a := Int.mul_nonneg h2.1 hf.1
  have b := Int.mul_le_mul h2.2 hf.2 hf.1 (by omega)
  omega
theorem GI.fadeH {g : Nat → Int} {n k : Nat} (h : GI g n) (hk : k < n) {f : Int} (hf : 0 ≤ f ∧ f ≤ 100) : GI (fdH g k f) n := by
  have h2 := h.fdh hk hf
  exact h.setB (by decide) ⟨by omega, by omega, by omega, by omega, by omega, by omega⟩
theorem GI.fade1 {g : Nat → Int} {n k : Nat} (h : GI g n) (hk : k < n) {f : Int} (hf : 0 ≤ f ∧ f ≤ 100) : GI (fd1 g k f) n := by
  have h5 := ((h.fadeH hk hf).b hk).2.2.2.2.2
  exact (h.fadeH hk hf).setB (by decide) ⟨by omega, by omega, by omega, by omega, by omega, by omega⟩
theorem GI.fd {g : Nat → Int} {n : Nat} (h : GI g n) : ∀ k, k ≤ n → GI (fdF g k) n
  | 0, _ => h
  | k + 1, hk => (GI.fd h k (by omega)).fade1 (by omega) h.s0
set_option maxRecDepth 20000 in
set_option maxHeartbeats 4000000 in
theorem t_fade_loop {I : xI} {c : Nat} {g0 : Nat → Int} {n : Nat} (hc : x_st c) (hG0 : GI g0 n) : ∀ (m k : Nat), k + m = n → ∀ (I1 : xI), RS I1 c (fdF g0 k) n → FR I I1 c → Y kX3_fade 2 16 [some (rr c), some (ii (n : Int)), some (ii (g0 0)), some (ii (k : Int))] [] I1 (q_v (fun I2 => RS I2 c (fdF g0 n) n ∧ FR I I2 c)) := by
  have lc := st_lt hc
  have hn24 := hG0.n24
  intro m
  induction m with
  | zero =>
    intro k hk I1 hR hF
    refine X_iload dX3_fade_16 rfl ?_
    refine X_iload dX3_fade_17 rfl ?_
    refine X_icmp_ge (tgt := 70) dX3_fade_18 (by decide) (by omega) (fun c_18 => ?_) (fun c_18 => absurd c_18 (by omega))
    refine X_vret dX3_fade_70 rfl ?_
    rw [show k = n by omega] at hR
    exact ⟨rfl, rfl, rfl, hR, hF⟩
  | succ m ih =>
    intro k hk I1 hR hF
    have hG := hG0.fd k (by omega)
    refine X_iload dX3_fade_16 rfl ?_
    refine X_iload dX3_fade_17 rfl ?_
    refine X_icmp_ge (tgt := 70) dX3_fade_18 (by decide) (by omega) (fun c_18 => absurd c_18 (by omega)) (fun c_18 => ?_)
    refine X_aload dX3_fade_21 rfl ?_
    refine X_getR dX3_fade_22 rfl gf_X3_24 (sh_st hc) (by omega) rfl (rf_st4 hc) ?_
    refine X_iload dX3_fade_25 rfl ?_
    refine X_aload dX3_fade_26 rfl ?_
    refine X_getR dX3_fade_27 rfl gf_X3_24 (sh_st hc) (by omega) rfl (rf_st4 hc) ?_
    refine X_iload dX3_fade_30 rfl ?_
    refine Y_pS dX3_fade_31 cs_X3_49 (t_blk2 hc hR hn24 k (by omega) rfl) rfl ?_
    refine X_iload dX3_fade_34 rfl ?_
    refine X_imul dX3_fade_35 ?_
    refine X_bipush dX3_fade_36 (by decide) ?_
    have hm := hG.fdh (k := k) (by omega) hG0.s0
    refine X_idiv dX3_fade_38 (by omega) (by omega) ?_
    refine Y_vS dX3_fade_39 cs_X3_67 (t_putB2 hc hR hn24 k (by omega) rfl _) rfl (fun I39 hq39 => ?_)
    obtain ⟨hR, hF39⟩ := hq39
    have hF := hF.trans hF39
    change RS _ c (fdH (fdF g0 k) k (g0 0)) n at hR
    have hG := hG.fadeH (k := k) (by omega) hG0.s0
    have h5 := (hG.b (k := k) (by omega)).2.2.2.2.2
    refine X_aload dX3_fade_42 rfl ?_
    refine X_getR dX3_fade_43 rfl gf_X3_33 (sh_st hc) (by omega) rfl (rf_st7 hc) ?_
    refine X_iload dX3_fade_46 rfl ?_
    refine X_aload dX3_fade_47 rfl ?_
    refine X_getR dX3_fade_48 rfl gf_X3_33 (sh_st hc) (by omega) rfl (rf_st7 hc) ?_
    refine X_iload dX3_fade_51 rfl ?_
    refine Y_pS dX3_fade_52 cs_X3_49 (t_blk5 hc hR hn24 k (by omega) rfl) rfl ?_
    refine X_iconst dX3_fade_55 ?_
    refine X_isub dX3_fade_56 ?_
    refine X_iconst dX3_fade_57 ?_
    refine X_max dX3_fade_58 rfl lk_X3_105 (by omega) (by omega) (by decide) (Nat.le_of_ble_eq_true rfl) ?_
    refine Y_vS dX3_fade_61 cs_X3_67 (t_putB5 hc hR hn24 k (by omega) rfl _) rfl (fun I61 hq61 => ?_)
    obtain ⟨hR, hF61⟩ := hq61
    have hF := hF.trans hF61
    refine X_iinc dX3_fade_64 rfl ?_
    dsimp only [List.set]
    refine X_goto (tgt := 16) dX3_fade_67 (by decide) ?_
    exact ih (k + 1) (by omega) _ hR hF
set_option maxRecDepth 20000 in
set_option maxHeartbeats 4000000 in
theorem t_fade {I : xI} {c : Nat} {g : Nat → Int} {n : Nat} (hc : x_st c) (hR : RS I c g n) (hG : GI g n) : S kX3_fade 2 [rr c] I (q_v (fun I1 => RS I1 c (fdF g n) n ∧ FR I I1 c)) := by
  have lc := st_lt hc
  have hn24 := hG.n24
  have hF : FR I I c := FR.rf
  refine Sp_intro (by decide +kernel) (Nat.le_of_ble_eq_true rfl) ?_
  show Y kX3_fade 2 0 [some (rr c), none, none, none] [] I _
  refine X_aload dX3_fade_0 rfl ?_
  refine Y_pV dX3_fade_1 cv_X3_53 (sh_st hc) (by omega) (t_countBlocks hc hR hG) rfl ?_
  refine X_istore dX3_fade_4 (by decide) ?_
  dsimp only [List.set]
  refine X_aload dX3_fade_5 rfl ?_
  refine X_getR dX3_fade_6 rfl gf_X3_9 (sh_st hc) (by omega) rfl (rf_st0 hc) ?_
  refine X_iconst dX3_fade_9 ?_
  refine Y_pS dX3_fade_10 cs_X3_49 (t_num hc hR 0 (by decide) rfl) rfl ?_
  refine X_istore dX3_fade_13 (by decide) ?_
  dsimp only [List.set]
  refine X_iconst dX3_fade_14 ?_
  refine X_istore dX3_fade_15 (by decide) ?_
  dsimp only [List.set]
  exact t_fade_loop hc hG n 0 (by omega) _ hR hF
def tpZ (g : Nat → Int) (n : Nat) (b p : Int) : Int := match pl g n b with
  | none => -1
  | some k => if gb g k 4 = p then -5 else pins (gB g k 4 p) n
set_option maxRecDepth 20000 in
set_option maxHeartbeats 4000000 in
theorem t_turnPin0 {I : xI} {c : Nat} {g : Nat → Int} {n : Nat} (hc : x_st c) (hR : RS I c g n) (hG : GI g n) (b : Int) (hb : -2147483648 ≤ b ∧ b ≤ 2147483647) : S kX3_turnPin 3 [rr c, ii b, ii 0] I (q_i (fun z I1 => z = tpZ g n b 0 ∧ FR I I1 c ∧ (∀ k, pl g n b = some k → ¬ gb g k 4 = 0 → RS I1 c (gB g k 4 0) n))) := by
  have lc := st_lt hc
  have hn24 := hG.n24
  have hF : FR I I c := FR.rf
  refine Sp_intro (by decide +kernel) (Nat.le_of_ble_eq_true rfl) ?_
  show Y kX3_turnPin 3 0 [some (rr c), some (ii b), some (ii 0), none, none] [] I _

  rcases hp : pl g n b with _ | k
  · have hfd := t_find hc hR hG b hb
    rw [hp] at hfd
    change S _ _ _ _ (q_p (ii (-1)) I) at hfd
    refine X_aload dX3_turnPin_0 rfl ?_
    refine X_iload dX3_turnPin_1 rfl ?_
    refine Y_pV dX3_turnPin_2 cv_X3_78 (sh_st hc) (by omega) hfd rfl ?_
    refine X_istore dX3_turnPin_5 (by decide) ?_
    dsimp only [List.set]
    refine X_iload dX3_turnPin_6 rfl ?_
    refine X_iconst dX3_turnPin_7 ?_
    refine X_icmp_ne (tgt := 13) dX3_turnPin_8 (by decide) (by omega) (fun c_8 => absurd c_8 (by omega)) (fun c_8 => ?_)
    refine X_iconst dX3_turnPin_11 ?_
    refine X_iret dX3_turnPin_12 (Or.inl rfl) ?_
    exact ⟨rfl, rfl, _, rfl, by unfold tpZ; rw [hp], hF, fun k h => by cases h⟩
  · have hk := pl_lt hp
    have hfd := t_find hc hR hG b hb
    rw [hp] at hfd
    change S _ _ _ _ (q_p (ii ((k : Nat) : Int)) I) at hfd
    refine X_aload dX3_turnPin_0 rfl ?_
    refine X_iload dX3_turnPin_1 rfl ?_
    refine Y_pV dX3_turnPin_2 cv_X3_78 (sh_st hc) (by omega) hfd rfl ?_
    refine X_istore dX3_turnPin_5 (by decide) ?_
    dsimp only [List.set]
    refine X_iload dX3_turnPin_6 rfl ?_
    refine X_iconst dX3_turnPin_7 ?_
    refine X_icmp_ne (tgt := 13) dX3_turnPin_8 (by decide) (by omega) (fun c_8 => ?_) (fun c_8 => absurd c_8 (by omega))
    refine X_iload dX3_turnPin_13 rfl ?_
    refine X_if_eq (tgt := 21) dX3_turnPin_14 (by decide) (by omega) (fun c_14 => ?_) (fun c_14 => absurd c_14 (by omega))
    refine X_iconst dX3_turnPin_21 ?_
    refine X_istoreW dX3_turnPin_22 (by decide) ?_
    dsimp only [List.set]
    refine X_aload dX3_turnPin_24 rfl ?_
    refine X_getR dX3_turnPin_25 rfl gf_X3_30 (sh_st hc) (by omega) rfl (rf_st6 hc) ?_
    refine X_iload dX3_turnPin_28 rfl ?_
    refine Y_pS dX3_turnPin_29 cs_X3_49 (t_blk4 hc hR hn24 k (by omega) rfl) rfl ?_
    refine X_iloadW dX3_turnPin_32 rfl ?_
    have hb4 := (hG.b hk).2.2.2.2.1
    refine X_icmp_ne (tgt := 40) dX3_turnPin_34 (by decide) (by omega) (fun c_34 => ?_) (fun c_34 => ?_)
    · refine X_aload dX3_turnPin_40 rfl ?_
      refine X_getR dX3_turnPin_41 rfl gf_X3_30 (sh_st hc) (by omega) rfl (rf_st6 hc) ?_
      refine X_iload dX3_turnPin_44 rfl ?_
      refine X_iloadW dX3_turnPin_45 rfl ?_
      refine Y_vS dX3_turnPin_47 cs_X3_67 (t_putB4 hc hR hn24 k (by omega) rfl _) rfl (fun I47 hq47 => ?_)
      obtain ⟨hR, hF47⟩ := hq47
      have hF := hF.trans hF47
      have hG := hG.setB (k := k) (j := 4) (z := 0) (by decide) ⟨by omega, by omega, by omega, by omega, by omega, by omega⟩
      refine X_aload dX3_turnPin_50 rfl ?_
      refine Y_pV dX3_turnPin_51 cv_X3_108 (sh_st hc) (by omega) (t_countPinned hc hR hG) rfl ?_
      refine X_iret dX3_turnPin_54 (Or.inl rfl) ?_
      exact ⟨rfl, rfl, _, rfl, by unfold tpZ; rw [hp]; show _ = if _ then _ else _; rw [if_neg c_34], hF, fun k1 h h2 => by cases h; exact hR⟩
    · refine X_bipush dX3_turnPin_37 (by decide) ?_
      refine X_iret dX3_turnPin_39 (Or.inl rfl) ?_
      exact ⟨rfl, rfl, _, rfl, by unfold tpZ; rw [hp]; show _ = if _ then _ else _; rw [if_pos c_34], hF, fun k1 h h2 => by cases h; exact absurd c_34 h2⟩
set_option maxRecDepth 20000 in
set_option maxHeartbeats 4000000 in
theorem t_turnPin1 {I : xI} {c : Nat} {g : Nat → Int} {n : Nat} (hc : x_st c) (hR : RS I c g n) (hG : GI g n) (b : Int) (hb : -2147483648 ≤ b ∧ b ≤ 2147483647) : S kX3_turnPin 3 [rr c, ii b, ii 1] I (q_i (fun z I1 => z = tpZ g n b 1 ∧ FR I I1 c ∧ (∀ k, pl g n b = some k → ¬ gb g k 4 = 1 → RS I1 c (gB g k 4 1) n))) := by
  have lc := st_lt hc
  have hn24 := hG.n24
  have hF : FR I I c := FR.rf
  refine Sp_intro (by decide +kernel) (Nat.le_of_ble_eq_true rfl) ?_
  show Y kX3_turnPin 3 0 [some (rr c), some (ii b), some (ii 1), none, none] [] I _

  rcases hp : pl g n b with _ | k
  · have hfd := t_find hc hR hG b hb
    rw [hp] at hfd
    change S _ _ _ _ (q_p (ii (-1)) I) at hfd
    refine X_aload dX3_turnPin_0 rfl ?_
    refine X_iload dX3_turnPin_1 rfl ?_
    refine Y_pV dX3_turnPin_2 cv_X3_78 (sh_st hc) (by omega) hfd rfl ?_
    refine X_istore dX3_turnPin_5 (by decide) ?_
    dsimp only [List.set]
    refine X_iload dX3_turnPin_6 rfl ?_
    refine X_iconst dX3_turnPin_7 ?_
    refine X_icmp_ne (tgt := 13) dX3_turnPin_8 (by decide) (by omega) (fun c_8 => absurd c_8 (by omega)) (fun c_8 => ?_)
    refine X_iconst dX3_turnPin_11 ?_
    refine X_iret dX3_turnPin_12 (Or.inl rfl) ?_
    exact ⟨rfl, rfl, _, rfl, by unfold tpZ; rw [hp], hF, fun k h => by cases h⟩
  · have hk := pl_lt hp
    have hfd := t_find hc hR hG b hb
    rw [hp] at hfd
    change S _ _ _ _ (q_p (ii ((k : Nat) : Int)) I) at hfd
    refine X_aload dX3_turnPin_0 rfl ?_
    refine X_iload dX3_turnPin_1 rfl ?_
    refine Y_pV dX3_turnPin_2 cv_X3_78 (sh_st hc) (by omega) hfd rfl ?_
    refine X_istore dX3_turnPin_5 (by decide) ?_
    dsimp only [List.set]
    refine X_iload dX3_turnPin_6 rfl ?_
    refine X_iconst dX3_turnPin_7 ?_
    refine X_icmp_ne (tgt := 13) dX3_turnPin_8 (by decide) (by omega) (fun c_8 => ?_) (fun c_8 => absurd c_8 (by omega))
    refine X_iload dX3_turnPin_13 rfl ?_
    refine X_if_eq (tgt := 21) dX3_turnPin_14 (by decide) (by omega) (fun c_14 => absurd c_14 (by omega)) (fun c_14 => ?_)
    refine X_iconst dX3_turnPin_17 ?_
    refine X_goto (tgt := 22) dX3_turnPin_18 (by decide) ?_
    refine X_istoreW dX3_turnPin_22 (by decide) ?_
    dsimp only [List.set]
    refine X_aload dX3_turnPin_24 rfl ?_
    refine X_getR dX3_turnPin_25 rfl gf_X3_30 (sh_st hc) (by omega) rfl (rf_st6 hc) ?_
    refine X_iload dX3_turnPin_28 rfl ?_
    refine Y_pS dX3_turnPin_29 cs_X3_49 (t_blk4 hc hR hn24 k (by omega) rfl) rfl ?_
    refine X_iloadW dX3_turnPin_32 rfl ?_
    have hb4 := (hG.b hk).2.2.2.2.1
    refine X_icmp_ne (tgt := 40) dX3_turnPin_34 (by decide) (by omega) (fun c_34 => ?_) (fun c_34 => ?_)
    · refine X_aload dX3_turnPin_40 rfl ?_
      refine X_getR dX3_turnPin_41 rfl gf_X3_30 (sh_st hc) (by omega) rfl (rf_st6 hc) ?_
      refine X_iload dX3_turnPin_44 rfl ?_
      refine X_iloadW dX3_turnPin_45 rfl ?_
      refine Y_vS dX3_turnPin_47 cs_X3_67 (t_putB4 hc hR hn24 k (by omega) rfl _) rfl (fun I47 hq47 => ?_)
      obtain ⟨hR, hF47⟩ := hq47
      have hF := hF.trans hF47
      have hG := hG.setB (k := k) (j := 4) (z := 1) (by decide) ⟨by omega, by omega, by omega, by omega, by omega, by omega⟩
      refine X_aload dX3_turnPin_50 rfl ?_
      refine Y_pV dX3_turnPin_51 cv_X3_108 (sh_st hc) (by omega) (t_countPinned hc hR hG) rfl ?_
      refine X_iret dX3_turnPin_54 (Or.inl rfl) ?_
      exact ⟨rfl, rfl, _, rfl, by unfold tpZ; rw [hp]; show _ = if _ then _ else _; rw [if_neg c_34], hF, fun k1 h h2 => by cases h; exact hR⟩
    · refine X_bipush dX3_turnPin_37 (by decide) ?_
      refine X_iret dX3_turnPin_39 (Or.inl rfl) ?_
      exact ⟨rfl, rfl, _, rfl, by unfold tpZ; rw [hp]; show _ = if _ then _ else _; rw [if_pos c_34], hF, fun k1 h h2 => by cases h; exact absurd c_34 h2⟩
theorem t_turnPin {I : xI} {c : Nat} {g : Nat → Int} {n : Nat} (hc : x_st c) (hR : RS I c g n) (hG : GI g n) (b : Int) (hb : -2147483648 ≤ b ∧ b ≤ 2147483647) (p : Int) (hp : p = 0 ∨ p = 1) : S kX3_turnPin 3 [rr c, ii b, ii p] I (q_i (fun z I1 => z = tpZ g n b p ∧ FR I I1 c ∧ (∀ k, pl g n b = some k → ¬ gb g k 4 = p → RS I1 c (gB g k 4 p) n))) := by
  rcases hp with rfl | rfl
  · exact t_turnPin0 hc hR hG b hb
  · exact t_turnPin1 hc hR hG b hb
def fpP (g : Nat → Int) (n : Nat) (b : Int) : Int := match pl g n b with
  | none => 1
  | some k => if gb g k 4 = 0 then 1 else 0
set_option maxRecDepth 20000 in
set_option maxHeartbeats 4000000 in
theorem t_flipPin {I : xI} {c : Nat} {g : Nat → Int} {n : Nat} (hc : x_st c) (hR : RS I c g n) (hG : GI g n) (b : Int) (hb : -2147483648 ≤ b ∧ b ≤ 2147483647) : S kX3_flipPin 4 [rr c, ii b] I (q_i (fun z I1 => z = tpZ g n b (fpP g n b) ∧ FR I I1 c ∧ (∀ k, pl g n b = some k → ¬ gb g k 4 = fpP g n b → RS I1 c (gB g k 4 (fpP g n b)) n))) := by
  have lc := st_lt hc
  have hn24 := hG.n24
  have hF : FR I I c := FR.rf
  refine Sp_intro (by decide +kernel) (Nat.le_of_ble_eq_true rfl) ?_
  show Y kX3_flipPin 4 0 [some (rr c), some (ii b)] [] I _

  rcases hp : pl g n b with _ | k
  · have hfd := t_find hc hR hG b hb
    rw [hp] at hfd
    change S _ _ _ _ (q_p (ii (-1)) I) at hfd
    refine X_aload dX3_flipPin_0 rfl ?_
    refine X_iload dX3_flipPin_1 rfl ?_
    refine X_aload dX3_flipPin_2 rfl ?_
    refine X_getR dX3_flipPin_3 rfl gf_X3_30 (sh_st hc) (by omega) rfl (rf_st6 hc) ?_
    refine X_aload dX3_flipPin_6 rfl ?_
    refine X_iload dX3_flipPin_7 rfl ?_
    refine Y_pV dX3_flipPin_8 cv_X3_78 (sh_st hc) (by omega) hfd rfl ?_
    refine Y_pS dX3_flipPin_11 cs_X3_49 (t_at (sh_st6 hc) (Or.inl (by omega)) _ (-1) (by omega)) rfl ?_
    rw [if_neg (by omega)]
    refine X_if_ne (tgt := 21) dX3_flipPin_14 (by decide) (by omega) (fun c_14 => absurd c_14 (by omega)) (fun c_14 => ?_)
    refine X_iconst dX3_flipPin_17 ?_
    refine X_goto (tgt := 22) dX3_flipPin_18 (by decide) ?_
    have hpp : fpP g n b = 1 := by
      unfold fpP; rw [hp]
    rw [hpp]
    refine Y_iV dX3_flipPin_22 cv_X3_111 (sh_st hc) (by omega) (t_turnPin1 hc hR hG b hb) rfl (fun z22 I22 h22 => ?_)
    rw [hp] at h22
    exact X_iret dX3_flipPin_25 (Or.inl rfl) ⟨rfl, rfl, _, rfl, h22⟩
  · have hk := pl_lt hp
    have hfd := t_find hc hR hG b hb
    rw [hp] at hfd
    change S _ _ _ _ (q_p (ii ((k : Nat) : Int)) I) at hfd
    refine X_aload dX3_flipPin_0 rfl ?_
    refine X_iload dX3_flipPin_1 rfl ?_
    refine X_aload dX3_flipPin_2 rfl ?_
    refine X_getR dX3_flipPin_3 rfl gf_X3_30 (sh_st hc) (by omega) rfl (rf_st6 hc) ?_
    refine X_aload dX3_flipPin_6 rfl ?_
    refine X_iload dX3_flipPin_7 rfl ?_
    refine Y_pV dX3_flipPin_8 cv_X3_78 (sh_st hc) (by omega) hfd rfl ?_
    refine Y_pS dX3_flipPin_11 cs_X3_49 (t_blk4 hc hR hn24 k (by omega) rfl) rfl ?_
    have hb4 := (hG.b hk).2.2.2.2.1
    refine X_if_ne (tgt := 21) dX3_flipPin_14 (by decide) (by omega) (fun c_14 => ?_) (fun c_14 => ?_)
    · refine X_iconst dX3_flipPin_21 ?_
      have hpp : fpP g n b = 0 := by
        unfold fpP; rw [hp]; show (if gb g k 4 = 0 then (1 : Int) else 0) = _; rw [if_neg (by omega)]
      rw [hpp]
      refine Y_iV dX3_flipPin_22 cv_X3_111 (sh_st hc) (by omega) (t_turnPin0 hc hR hG b hb) rfl (fun z22 I22 h22 => ?_)
      rw [hp] at h22
      exact X_iret dX3_flipPin_25 (Or.inl rfl) ⟨rfl, rfl, _, rfl, h22⟩
    · refine X_iconst dX3_flipPin_17 ?_
      refine X_goto (tgt := 22) dX3_flipPin_18 (by decide) ?_
      have hpp : fpP g n b = 1 := by
        unfold fpP; rw [hp]; show (if gb g k 4 = 0 then (1 : Int) else 0) = _; rw [if_pos (by omega)]
      rw [hpp]
      refine Y_iV dX3_flipPin_22 cv_X3_111 (sh_st hc) (by omega) (t_turnPin1 hc hR hG b hb) rfl (fun z22 I22 h22 => ?_)
      rw [hp] at h22
      exact X_iret dX3_flipPin_25 (Or.inl rfl) ⟨rfl, rfl, _, rfl, h22⟩
end
section
/-! State: settings, copies, a new block, a block less -/
def mx (j : Nat) : Int := [100, 20000, 20000, 24, 30, 50, 200, 200, 200, 50, 50, 50, 50, 50, 50].getD j 0
def alS (g : Nat → Int) (n : Nat) (s : Nat) (v : Int) : Prop := (s = 1 → g 2 ≤ v) ∧ (s = 2 → v ≤ g 1) ∧ (6 ≤ s ∧ s < 9 → onF g n ((s - 6 : Nat) : Int) 1 ≤ v)
def alD (g : Nat → Int) (n : Nat) (s : Nat) (v : Int) : Bool := (decide (s ≠ 1) || decide (g 2 ≤ v)) && (decide (s ≠ 2) || decide (v ≤ g 1)) && (decide (¬ (6 ≤ s ∧ s < 9)) || decide (onF g n ((s - 6 : Nat) : Int) 1 ≤ v))
theorem alD_iff {g : Nat → Int} {n s : Nat} {v : Int} : alD g n s v = true ↔ alS g n s v := by
  unfold alD alS
  simp only [Bool.and_eq_true, Bool.or_eq_true, decide_eq_true_eq]
  constructor
  · rintro ⟨⟨h1, h2⟩, h3⟩
    exact ⟨fun e => h1.resolve_left (fun q => q e), fun e => h2.resolve_left (fun q => q e), fun e => h3.resolve_left (fun q => q e)⟩
  · rintro ⟨h1, h2, h3⟩
    refine ⟨⟨?_, ?_⟩, ?_⟩
    · by_cases e : s = 1
      · exact Or.inr (h1 e)
      · exact Or.inl e
    · by_cases e : s = 2
      · exact Or.inr (h2 e)
      · exact Or.inl e
    · by_cases e : 6 ≤ s ∧ s < 9
      · exact Or.inr (h3 e)
      · exact Or.inl e
set_option maxRecDepth 20000 in
set_option maxHeartbeats 4000000 in
theorem t_allowsSetting {I : xI} {c : Nat} {g : Nat → Int} {n : Nat} (hc : x_st c) (hR : RS I c g n) (hG : GI g n) (s : Nat) (hs : s < 15) {i : Int} (hi : i = (s : Int)) (v : Int) (hv : 0 ≤ v ∧ v ≤ 20000) : S kX3_allowsSetting 1 [rr c, ii i, ii v] I (q_p (ii (if alD g n s v = true then 1 else 0)) I) := by
  have lc := st_lt hc
  have hn24 := hG.n24
  subst hi
  refine Sp_intro (by decide +kernel) (Nat.le_of_ble_eq_true rfl) ?_
  show Y kX3_allowsSetting 1 0 [some (rr c), some (ii (s : Int)), some (ii v)] [] I _
  refine X_iload dX3_allowsSetting_0 rfl ?_
  refine X_iconst dX3_allowsSetting_1 ?_
  refine X_icmp_ne (tgt := 23) dX3_allowsSetting_2 (by decide) (by omega) (fun c_2 => ?_) (fun c_2 => ?_)
  · refine X_iload dX3_allowsSetting_23 rfl ?_
    refine X_iconst dX3_allowsSetting_24 ?_
    refine X_icmp_ne (tgt := 46) dX3_allowsSetting_25 (by decide) (by omega) (fun c_25 => ?_) (fun c_25 => ?_)
    · refine X_iload dX3_allowsSetting_46 rfl ?_
      refine X_bipush dX3_allowsSetting_47 (by decide) ?_
      refine X_icmp_lt (tgt := 79) dX3_allowsSetting_49 (by decide) (by omega) (fun c_49 => ?_) (fun c_49 => ?_)
      · refine X_iconst dX3_allowsSetting_79 ?_
        refine X_iret dX3_allowsSetting_80 (Or.inr ⟨rfl, by omega⟩) ?_
        refine ⟨?_, rfl, rfl, rfl⟩
        first
          | (rw [if_pos (alD_iff.mpr ⟨by omega, by omega, by omega⟩)])
          | (rw [if_neg (fun q => by obtain ⟨q1, q2, q3⟩ := alD_iff.mp q; omega)])
      · refine X_iload dX3_allowsSetting_52 rfl ?_
        refine X_bipush dX3_allowsSetting_53 (by decide) ?_
        refine X_icmp_ge (tgt := 79) dX3_allowsSetting_55 (by decide) (by omega) (fun c_55 => ?_) (fun c_55 => ?_)
        · refine X_iconst dX3_allowsSetting_79 ?_
          refine X_iret dX3_allowsSetting_80 (Or.inr ⟨rfl, by omega⟩) ?_
          refine ⟨?_, rfl, rfl, rfl⟩
          first
            | (rw [if_pos (alD_iff.mpr ⟨by omega, by omega, by omega⟩)])
            | (rw [if_neg (fun q => by obtain ⟨q1, q2, q3⟩ := alD_iff.mp q; omega)])
        · refine X_aload dX3_allowsSetting_58 rfl ?_
          refine X_getR dX3_allowsSetting_59 rfl gf_X3_15 (sh_st hc) (by omega) rfl (rf_st1 hc) ?_
          refine X_iload dX3_allowsSetting_62 rfl ?_
          refine X_bipush dX3_allowsSetting_63 (by decide) ?_
          refine X_isub dX3_allowsSetting_65 ?_
          refine Y_pS dX3_allowsSetting_66 cs_X3_49 (t_tak hc hR (s - 6) (by omega) (by omega)) rfl ?_
          refine X_iload dX3_allowsSetting_69 rfl ?_
          have h3 := on_bounds hG ((s - 6 : Nat) : Int)
          refine X_icmp_gt (tgt := 77) dX3_allowsSetting_70 (by decide) (by omega) (fun c_70 => ?_) (fun c_70 => ?_)
          · refine X_iconst dX3_allowsSetting_77 ?_
            refine X_iret dX3_allowsSetting_78 (Or.inr ⟨rfl, by omega⟩) ?_
            refine ⟨?_, rfl, rfl, rfl⟩
            first
              | (rw [if_pos (alD_iff.mpr ⟨by omega, by omega, by omega⟩)])
              | (rw [if_neg (fun q => by obtain ⟨q1, q2, q3⟩ := alD_iff.mp q; omega)])
          · refine X_iconst dX3_allowsSetting_73 ?_
            refine X_goto (tgt := 78) dX3_allowsSetting_74 (by decide) ?_
            refine X_iret dX3_allowsSetting_78 (Or.inr ⟨rfl, by omega⟩) ?_
            refine ⟨?_, rfl, rfl, rfl⟩
            first
              | (rw [if_pos (alD_iff.mpr ⟨by omega, by omega, by omega⟩)])
              | (rw [if_neg (fun q => by obtain ⟨q1, q2, q3⟩ := alD_iff.mp q; omega)])
    · refine X_iload dX3_allowsSetting_28 rfl ?_
      refine X_aload dX3_allowsSetting_29 rfl ?_
      refine X_getR dX3_allowsSetting_30 rfl gf_X3_9 (sh_st hc) (by omega) rfl (rf_st0 hc) ?_
      refine X_iconst dX3_allowsSetting_33 ?_
      refine Y_pS dX3_allowsSetting_34 cs_X3_49 (t_num hc hR 1 (by decide) rfl) rfl ?_
      have h1 := hG.s1
      refine X_icmp_gt (tgt := 44) dX3_allowsSetting_37 (by decide) (by omega) (fun c_37 => ?_) (fun c_37 => ?_)
      · refine X_iconst dX3_allowsSetting_44 ?_
        refine X_iret dX3_allowsSetting_45 (Or.inr ⟨rfl, by omega⟩) ?_
        refine ⟨?_, rfl, rfl, rfl⟩
        first
          | (rw [if_pos (alD_iff.mpr ⟨by omega, by omega, by omega⟩)])
          | (rw [if_neg (fun q => by obtain ⟨q1, q2, q3⟩ := alD_iff.mp q; omega)])
      · refine X_iconst dX3_allowsSetting_40 ?_
        refine X_goto (tgt := 45) dX3_allowsSetting_41 (by decide) ?_
        refine X_iret dX3_allowsSetting_45 (Or.inr ⟨rfl, by omega⟩) ?_
        refine ⟨?_, rfl, rfl, rfl⟩
        first
          | (rw [if_pos (alD_iff.mpr ⟨by omega, by omega, by omega⟩)])
          | (rw [if_neg (fun q => by obtain ⟨q1, q2, q3⟩ := alD_iff.mp q; omega)])
  · refine X_aload dX3_allowsSetting_5 rfl ?_
    refine X_getR dX3_allowsSetting_6 rfl gf_X3_9 (sh_st hc) (by omega) rfl (rf_st0 hc) ?_
    refine X_iconst dX3_allowsSetting_9 ?_
    refine Y_pS dX3_allowsSetting_10 cs_X3_49 (t_num hc hR 2 (by decide) rfl) rfl ?_
    refine X_iload dX3_allowsSetting_13 rfl ?_
    have h2 := hG.s2
    refine X_icmp_gt (tgt := 21) dX3_allowsSetting_14 (by decide) (by omega) (fun c_14 => ?_) (fun c_14 => ?_)
    · refine X_iconst dX3_allowsSetting_21 ?_
      refine X_iret dX3_allowsSetting_22 (Or.inr ⟨rfl, by omega⟩) ?_
      refine ⟨?_, rfl, rfl, rfl⟩
      first
        | (rw [if_pos (alD_iff.mpr ⟨by omega, by omega, by omega⟩)])
        | (rw [if_neg (fun q => by obtain ⟨q1, q2, q3⟩ := alD_iff.mp q; omega)])
    · refine X_iconst dX3_allowsSetting_17 ?_
      refine X_goto (tgt := 22) dX3_allowsSetting_18 (by decide) ?_
      refine X_iret dX3_allowsSetting_22 (Or.inr ⟨rfl, by omega⟩) ?_
      refine ⟨?_, rfl, rfl, rfl⟩
      first
        | (rw [if_pos (alD_iff.mpr ⟨by omega, by omega, by omega⟩)])
        | (rw [if_neg (fun q => by obtain ⟨q1, q2, q3⟩ := alD_iff.mp q; omega)])
theorem mx_bounds {j : Nat} (h : j < 15) : 0 ≤ mx j ∧ mx j ≤ 20000 := by
  have : ∀ j, j < 15 → 0 ≤ mx j ∧ mx j ≤ 20000 := by decide
  exact this j h
def csZ (g : Nat → Int) (n : Nat) (s v : Int) : Int := if s < 0 ∨ 15 ≤ s then -1 else if v < 0 ∨ mx s.toNat < v then -2 else if alD g n s.toNat v = true then (if g s.toNat = v then -5 else g s.toNat) else -4
/-- the static rows -/
def ST (I : xI) : Prop := (∀ j, j < 15 → I 101 j = mx j) ∧ (∀ j, j < 15 → I 100 j = [80, 3000, 500, 4, 5, 2, 20, 40, 200, 10, 4, 1, 0, 2, 9].getD j 0)
theorem t_mx {I : xI} (h : ST I) (k : Nat) (hk : k < 15) {i : Int} (hi : i = (k : Int)) : S kX4_at 0 [rr 101, ii i] I (q_p (ii (mx k)) I) := by
  rw [← h.1 k hk]
  exact t_atk sh_101 (Or.inr (Or.inr rfl)) I k hk hi
theorem set_bounds {g : Nat → Int} {n : Nat} (h : GI g n) {s : Nat} (hs : s < 15) : 0 ≤ g s ∧ g s ≤ 20000 := by
  obtain ⟨h1, h2, h3, h4, h5, h6, h7, h8, h9, h10, h11, h12⟩ := h
  by_cases a : s < 6
  · rcases (by omega : s = 0 ∨ s = 1 ∨ s = 2 ∨ s = 3 ∨ s = 4 ∨ s = 5) with q | q | q | q | q | q <;> subst q <;> omega
  · by_cases b : s < 9
    · have := h9 (s - 6) (by omega)
      rw [show 6 + (s - 6) = s by omega] at this
      omega
    · have := h10 (s - 9) (by omega)
      rw [show 9 + (s - 9) = s by omega] at this
      omega
set_option maxRecDepth 20000 in
set_option maxHeartbeats 4000000 in
theorem t_changeSetting {I : xI} {c : Nat} {g : Nat → Int} {n : Nat} (hc : x_st c) (hR : RS I c g n) (hG : GI g n) (hS : ST I) (s : Int) (hs : -2147483648 ≤ s ∧ s ≤ 2147483647) (v : Int) (hv : -2147483648 ≤ v ∧ v ≤ 2147483647) : S kX3_changeSetting 2 [rr c, ii s, ii v] I (q_i (fun z I1 => z = csZ g n s v ∧ FR I I1 c ∧ (0 ≤ z → RS I1 c (gN g s.toNat v) n))) := by
  have lc := st_lt hc
  have hn24 := hG.n24
  have hF : FR I I c := FR.rf
  refine Sp_intro (by decide +kernel) (Nat.le_of_ble_eq_true rfl) ?_
  show Y kX3_changeSetting 2 0 [some (rr c), some (ii s), some (ii v), none] [] I _
  refine X_iload dX3_changeSetting_0 rfl ?_
  refine X_if_lt (tgt := 10) dX3_changeSetting_1 (by decide) (by omega) (fun c_1 => ?_) (fun c_1 => ?_)
  · refine X_iconst dX3_changeSetting_10 ?_
    refine X_iret dX3_changeSetting_11 (Or.inl rfl) ?_
    exact ⟨rfl, rfl, _, rfl, by unfold csZ; rw [if_pos (by omega)], hF, fun h => absurd h (by decide)⟩
  · refine X_iload dX3_changeSetting_4 rfl ?_
    refine X_bipush dX3_changeSetting_5 (by decide) ?_
    refine X_icmp_lt (tgt := 12) dX3_changeSetting_7 (by decide) (by omega) (fun c_7 => ?_) (fun c_7 => ?_)
    · obtain ⟨k, rfl⟩ := Int.eq_ofNat_of_zero_le (show 0 ≤ s by omega)
      have hm := mx_bounds (j := k) (by omega)
      have hgs := set_bounds hG (s := k) (by omega)
      have e1 : (k : Int).toNat = k := rfl
      refine X_iload dX3_changeSetting_12 rfl ?_
      refine X_if_lt (tgt := 27) dX3_changeSetting_13 (by decide) (by omega) (fun c_13 => ?_) (fun c_13 => ?_)
      · refine X_bipush dX3_changeSetting_27 (by decide) ?_
        refine X_iret dX3_changeSetting_29 (Or.inl rfl) ?_
        exact ⟨rfl, rfl, _, rfl, by unfold csZ; rw [e1, if_neg (by omega), if_pos (by omega)], hF, fun h => absurd h (by decide)⟩
      · refine X_iload dX3_changeSetting_16 rfl ?_
        refine X_getsG dX3_changeSetting_17 rfl gs_X3_115 ?_
        refine X_iload dX3_changeSetting_20 rfl ?_
        refine Y_pS dX3_changeSetting_21 cs_X3_49 (t_mx hS k (by omega) rfl) rfl ?_
        refine X_icmp_le (tgt := 30) dX3_changeSetting_24 (by decide) (by omega) (fun c_24 => ?_) (fun c_24 => ?_)
        · refine X_aload dX3_changeSetting_30 rfl ?_
          refine X_iload dX3_changeSetting_31 rfl ?_
          refine X_iload dX3_changeSetting_32 rfl ?_
          refine Y_pV dX3_changeSetting_33 cv_X3_118 (sh_st hc) (by omega) (t_allowsSetting hc hR hG k (by omega) rfl v (by omega)) rfl ?_
          have hb : (if alD g n k v = true then (1 : Int) else 0) = 1 ∨ (if alD g n k v = true then (1 : Int) else 0) = 0 := by split <;> simp
          refine X_if_ne (tgt := 42) dX3_changeSetting_36 (by decide) (by omega) (fun c_36 => ?_) (fun c_36 => ?_)
          · have ha : alD g n k v = true := by
              by_cases q : alD g n k v = true
              · exact q
              · rw [if_neg q] at c_36; omega
            refine X_aload dX3_changeSetting_42 rfl ?_
            refine X_getR dX3_changeSetting_43 rfl gf_X3_9 (sh_st hc) (by omega) rfl (rf_st0 hc) ?_
            refine X_iload dX3_changeSetting_46 rfl ?_
            refine Y_pS dX3_changeSetting_47 cs_X3_49 (t_num hc hR k (by omega) rfl) rfl ?_
            refine X_istore dX3_changeSetting_50 (by decide) ?_
            dsimp only [List.set]
            refine X_iload dX3_changeSetting_51 rfl ?_
            refine X_iload dX3_changeSetting_52 rfl ?_
            refine X_icmp_ne (tgt := 59) dX3_changeSetting_53 (by decide) (by omega) (fun c_53 => ?_) (fun c_53 => ?_)
            · refine X_aload dX3_changeSetting_59 rfl ?_
              refine X_getR dX3_changeSetting_60 rfl gf_X3_9 (sh_st hc) (by omega) rfl (rf_st0 hc) ?_
              refine X_iload dX3_changeSetting_63 rfl ?_
              refine X_iload dX3_changeSetting_64 rfl ?_
              refine Y_vS dX3_changeSetting_65 cs_X3_67 (t_putN hc hR k (by omega) rfl _) rfl (fun I65 hq65 => ?_)
              obtain ⟨hR, hF65⟩ := hq65
              have hF := hF.trans hF65
              refine X_iload dX3_changeSetting_68 rfl ?_
              refine X_iret dX3_changeSetting_69 (Or.inl rfl) ?_
              exact ⟨rfl, rfl, _, rfl, by unfold csZ; rw [e1, if_neg (by omega), if_neg (by omega), if_pos ha, if_neg c_53], hF, fun _ => hR⟩
            · refine X_bipush dX3_changeSetting_56 (by decide) ?_
              refine X_iret dX3_changeSetting_58 (Or.inl rfl) ?_
              exact ⟨rfl, rfl, _, rfl, by unfold csZ; rw [e1, if_neg (by omega), if_neg (by omega), if_pos ha, if_pos c_53], hF, fun h => absurd h (by decide)⟩
          · have ha : ¬ alD g n k v = true := fun q => by rw [if_pos q] at c_36; omega
            refine X_bipush dX3_changeSetting_39 (by decide) ?_
            refine X_iret dX3_changeSetting_41 (Or.inl rfl) ?_
            exact ⟨rfl, rfl, _, rfl, by unfold csZ; rw [e1, if_neg (by omega), if_neg (by omega), if_neg ha], hF, fun h => absurd h (by decide)⟩
        · refine X_bipush dX3_changeSetting_27 (by decide) ?_
          refine X_iret dX3_changeSetting_29 (Or.inl rfl) ?_
          exact ⟨rfl, rfl, _, rfl, by unfold csZ; rw [e1, if_neg (by omega), if_pos (by omega)], hF, fun h => absurd h (by decide)⟩
    · refine X_iconst dX3_changeSetting_10 ?_
      refine X_iret dX3_changeSetting_11 (Or.inl rfl) ?_
      exact ⟨rfl, rfl, _, rfl, by unfold csZ; rw [if_pos (by omega)], hF, fun h => absurd h (by decide)⟩
def rl (m : Nat) : Nat := if m = 0 then 23 else if m = 1 then 3 else 24
/-- the first m rows of a State copied -/
def CPm (I I1 : xI) (c o m : Nat) : Prop := (∀ q, q < m → ∀ j, j < rl q → I1 (c + 1 + q) j = I (o + 1 + q) j) ∧ ∀ q, (q < c + 1 ∨ c + 1 + m ≤ q) → I1 q = I q
theorem CPm.step {I I1 : xI} {c o m : Nat} (h : CPm I I1 c o m) (hd : c + 11 ≤ o ∨ o + 11 ≤ c) (hm : m < 10) {a b : Nat} (ha : a = o + 1 + m) (hb : b = c + 1 + m) {l : Nat} (hl : l = rl m) : CPm I (x_cp I1 a b l) c o (m + 1) := by
  subst ha; subst hb; subst hl
  refine ⟨fun q hq j hj => ?_, fun q hq => ?_⟩
  · unfold x_cp
    by_cases e : q = m
    · subst e
      rw [if_pos ⟨rfl, hj⟩, h.2 _ (by omega)]
    · rw [if_neg (by omega)]
      exact h.1 q (by omega) j hj
  · have e : x_cp I1 (o + 1 + m) (c + 1 + m) (rl m) q = I1 q := by funext j; unfold x_cp; rw [if_neg (by omega)]
    rw [e]; exact h.2 q (by omega)
theorem CPm.rs {I I1 : xI} {c o : Nat} {g : Nat → Int} {n : Nat} (h : CPm I I1 c o 10) (hR : RS I o g n) (hn : n ≤ 24) : RS I1 c g n ∧ FR I I1 c := by
  refine ⟨⟨fun j hj => ?_, fun k hk j hj => ?_, fun s hs => ?_⟩, fun q hq => h.2 q (by omega)⟩
  · exact (h.1 0 (by decide) j hj).trans (hR.1 j hj)
  · have e : I1 (c + 3 + j) k = I (o + 3 + j) k := by
      have := h.1 (j + 2) (by omega) k (by unfold rl; rw [if_neg (by omega), if_neg (by omega)]; omega)
      rw [show c + 1 + (j + 2) = c + 3 + j by omega, show o + 1 + (j + 2) = o + 3 + j by omega] at this
      exact this
    rw [e]; exact hR.2.1 k hk j hj
  · exact (h.1 1 (by decide) s hs).trans (hR.2.2 s hs)
theorem x_st_apart {c o : Nat} (hc : x_st c) (ho : x_st o) (h : c ≠ o) : c + 11 ≤ o ∨ o + 11 ≤ c := by unfold x_st at hc ho; omega
set_option maxRecDepth 20000 in
set_option maxHeartbeats 4000000 in
theorem t_copyFrom {I : xI} {c o : Nat} {g : Nat → Int} {n : Nat} (hc : x_st c) (ho : x_st o) (hne : c ≠ o) (hR : RS I o g n) (hn24 : n ≤ 24) : S kX3_copyFrom 2 [rr c, rr o] I (q_v (fun I1 => RS I1 c g n ∧ FR I I1 c)) := by
  have lc := st_lt hc
  have lo := st_lt ho
  have hd := x_st_apart hc ho hne
  have hm : CPm I I c o 0 := ⟨fun q hq => absurd hq (Nat.not_lt_zero q), fun _ _ => rfl⟩
  refine Sp_intro (by decide +kernel) (Nat.le_of_ble_eq_true rfl) ?_
  show Y kX3_copyFrom 2 0 [some (rr c), some (rr o)] [] I _
  refine X_aload dX3_copyFrom_0 rfl ?_
  refine X_getR dX3_copyFrom_1 rfl gf_X3_9 (sh_st ho) (by omega) rfl (rf_st0 ho) ?_
  refine X_aload dX3_copyFrom_4 rfl ?_
  refine X_getR dX3_copyFrom_5 rfl gf_X3_9 (sh_st hc) (by omega) rfl (rf_st0 hc) ?_
  refine Y_vS dX3_copyFrom_8 cs_X3_45 (t_copyRow (sh_st0 ho) (Or.inl (by omega)) (sh_st0 hc) (by omega) _) rfl (fun I8 e8 => ?_)
  rw [Nat.min_self] at e8
  subst e8
  have hm := hm.step hd (by decide) (a := o + 1) (b := c + 1) (by omega) (by omega) (l := 23) rfl
  refine X_aload dX3_copyFrom_11 rfl ?_
  refine X_getR dX3_copyFrom_12 rfl gf_X3_15 (sh_st ho) (by omega) rfl (rf_st1 ho) ?_
  refine X_aload dX3_copyFrom_15 rfl ?_
  refine X_getR dX3_copyFrom_16 rfl gf_X3_15 (sh_st hc) (by omega) rfl (rf_st1 hc) ?_
  refine Y_vS dX3_copyFrom_19 cs_X3_45 (t_copyRow (sh_st1 ho) (Or.inl (by omega)) (sh_st1 hc) (by omega) _) rfl (fun I19 e19 => ?_)
  rw [Nat.min_self] at e19
  subst e19
  have hm := hm.step hd (by decide) (a := o + 2) (b := c + 2) (by omega) (by omega) (l := 3) rfl
  refine X_aload dX3_copyFrom_22 rfl ?_
  refine X_getR dX3_copyFrom_23 rfl gf_X3_18 (sh_st ho) (by omega) rfl (rf_st2 ho) ?_
  refine X_aload dX3_copyFrom_26 rfl ?_
  refine X_getR dX3_copyFrom_27 rfl gf_X3_18 (sh_st hc) (by omega) rfl (rf_st2 hc) ?_
  refine Y_vS dX3_copyFrom_30 cs_X3_45 (t_copyRow (sh_st2 ho) (Or.inl (by omega)) (sh_st2 hc) (by omega) _) rfl (fun I30 e30 => ?_)
  rw [Nat.min_self] at e30
  subst e30
  have hm := hm.step hd (by decide) (a := o + 3) (b := c + 3) (by omega) (by omega) (l := 24) rfl
  refine X_aload dX3_copyFrom_33 rfl ?_
  refine X_getR dX3_copyFrom_34 rfl gf_X3_21 (sh_st ho) (by omega) rfl (rf_st3 ho) ?_
  refine X_aload dX3_copyFrom_37 rfl ?_
  refine X_getR dX3_copyFrom_38 rfl gf_X3_21 (sh_st hc) (by omega) rfl (rf_st3 hc) ?_
  refine Y_vS dX3_copyFrom_41 cs_X3_45 (t_copyRow (sh_st3 ho) (Or.inl (by omega)) (sh_st3 hc) (by omega) _) rfl (fun I41 e41 => ?_)
  rw [Nat.min_self] at e41
  subst e41
  have hm := hm.step hd (by decide) (a := o + 4) (b := c + 4) (by omega) (by omega) (l := 24) rfl
  refine X_aload dX3_copyFrom_44 rfl ?_
  refine X_getR dX3_copyFrom_45 rfl gf_X3_24 (sh_st ho) (by omega) rfl (rf_st4 ho) ?_
  refine X_aload dX3_copyFrom_48 rfl ?_
  refine X_getR dX3_copyFrom_49 rfl gf_X3_24 (sh_st hc) (by omega) rfl (rf_st4 hc) ?_
  refine Y_vS dX3_copyFrom_52 cs_X3_45 (t_copyRow (sh_st4 ho) (Or.inl (by omega)) (sh_st4 hc) (by omega) _) rfl (fun I52 e52 => ?_)
  rw [Nat.min_self] at e52
  subst e52
  have hm := hm.step hd (by decide) (a := o + 5) (b := c + 5) (by omega) (by omega) (l := 24) rfl
  refine X_aload dX3_copyFrom_55 rfl ?_
  refine X_getR dX3_copyFrom_56 rfl gf_X3_27 (sh_st ho) (by omega) rfl (rf_st5 ho) ?_
  refine X_aload dX3_copyFrom_59 rfl ?_
  refine X_getR dX3_copyFrom_60 rfl gf_X3_27 (sh_st hc) (by omega) rfl (rf_st5 hc) ?_
  refine Y_vS dX3_copyFrom_63 cs_X3_45 (t_copyRow (sh_st5 ho) (Or.inl (by omega)) (sh_st5 hc) (by omega) _) rfl (fun I63 e63 => ?_)
  rw [Nat.min_self] at e63
  subst e63
  have hm := hm.step hd (by decide) (a := o + 6) (b := c + 6) (by omega) (by omega) (l := 24) rfl
  refine X_aload dX3_copyFrom_66 rfl ?_
  refine X_getR dX3_copyFrom_67 rfl gf_X3_30 (sh_st ho) (by omega) rfl (rf_st6 ho) ?_
  refine X_aload dX3_copyFrom_70 rfl ?_
  refine X_getR dX3_copyFrom_71 rfl gf_X3_30 (sh_st hc) (by omega) rfl (rf_st6 hc) ?_
  refine Y_vS dX3_copyFrom_74 cs_X3_45 (t_copyRow (sh_st6 ho) (Or.inl (by omega)) (sh_st6 hc) (by omega) _) rfl (fun I74 e74 => ?_)
  rw [Nat.min_self] at e74
  subst e74
  have hm := hm.step hd (by decide) (a := o + 7) (b := c + 7) (by omega) (by omega) (l := 24) rfl
  refine X_aload dX3_copyFrom_77 rfl ?_
  refine X_getR dX3_copyFrom_78 rfl gf_X3_33 (sh_st ho) (by omega) rfl (rf_st7 ho) ?_
  refine X_aload dX3_copyFrom_81 rfl ?_
  refine X_getR dX3_copyFrom_82 rfl gf_X3_33 (sh_st hc) (by omega) rfl (rf_st7 hc) ?_
  refine Y_vS dX3_copyFrom_85 cs_X3_45 (t_copyRow (sh_st7 ho) (Or.inl (by omega)) (sh_st7 hc) (by omega) _) rfl (fun I85 e85 => ?_)
  rw [Nat.min_self] at e85
  subst e85
  have hm := hm.step hd (by decide) (a := o + 8) (b := c + 8) (by omega) (by omega) (l := 24) rfl
  refine X_aload dX3_copyFrom_88 rfl ?_
  refine X_getR dX3_copyFrom_89 rfl gf_X3_36 (sh_st ho) (by omega) rfl (rf_st8 ho) ?_
  refine X_aload dX3_copyFrom_92 rfl ?_
  refine X_getR dX3_copyFrom_93 rfl gf_X3_36 (sh_st hc) (by omega) rfl (rf_st8 hc) ?_
  refine Y_vS dX3_copyFrom_96 cs_X3_45 (t_copyRow (sh_st8 ho) (Or.inl (by omega)) (sh_st8 hc) (by omega) _) rfl (fun I96 e96 => ?_)
  rw [Nat.min_self] at e96
  subst e96
  have hm := hm.step hd (by decide) (a := o + 9) (b := c + 9) (by omega) (by omega) (l := 24) rfl
  refine X_aload dX3_copyFrom_99 rfl ?_
  refine X_getR dX3_copyFrom_100 rfl gf_X3_39 (sh_st ho) (by omega) rfl (rf_st9 ho) ?_
  refine X_aload dX3_copyFrom_103 rfl ?_
  refine X_getR dX3_copyFrom_104 rfl gf_X3_39 (sh_st hc) (by omega) rfl (rf_st9 hc) ?_
  refine Y_vS dX3_copyFrom_107 cs_X3_45 (t_copyRow (sh_st9 ho) (Or.inl (by omega)) (sh_st9 hc) (by omega) _) rfl (fun I107 e107 => ?_)
  rw [Nat.min_self] at e107
  subst e107
  have hm := hm.step hd (by decide) (a := o + 10) (b := c + 10) (by omega) (by omega) (l := 24) rfl
  refine X_vret dX3_copyFrom_110 rfl ?_
  exact ⟨rfl, rfl, rfl, hm.rs hR hn24⟩
def adG (g : Nat → Int) (n : Nat) (z : Int) (sh : Nat) : Nat → Int := fun i => if i < 23 then (if i = 15 then g 15 + 1 else if i = 16 then g 16 + 1 else g i) else if i < 23 + 8 * n then g i else if i = 23 + 8 * n then g 16 else if i = 24 + 8 * n then z else if i = 25 + 8 * n then 1000 else if i = 26 + 8 * n then (sh : Int) else 0
theorem adG_num {g : Nat → Int} {n : Nat} {z : Int} {sh i : Nat} (hi : i < 23) : adG g n z sh i = if i = 15 then g 15 + 1 else if i = 16 then g 16 + 1 else g i := by unfold adG; rw [if_pos hi]
theorem adG_old {g : Nat → Int} {n : Nat} {z : Int} {sh k j : Nat} (hk : k < n) (hj : j < 8) : gb (adG g n z sh) k j = gb g k j := by
  unfold gb adG; rw [if_neg (by omega), if_pos (by omega)]
theorem adG_new {g : Nat → Int} {n : Nat} {z : Int} {sh j : Nat} (hj : j < 8) : gb (adG g n z sh) n j = if j = 0 then g 16 else if j = 1 then z else if j = 2 then 1000 else if j = 3 then (sh : Int) else 0 := by
  unfold gb adG; rw [if_neg (by omega), if_neg (by omega)]
  rcases (by omega : j = 0 ∨ j = 1 ∨ j = 2 ∨ j = 3 ∨ 3 < j) with q | q | q | q | q
  · subst q; rw [if_pos (by omega), if_pos rfl]
  · subst q; rw [if_neg (by omega), if_pos (by omega), if_neg (by decide), if_pos rfl]
  · subst q; rw [if_neg (by omega), if_neg (by omega), if_pos (by omega), if_neg (by decide), if_neg (by decide), if_pos rfl]
  · subst q; rw [if_neg (by omega), if_neg (by omega), if_neg (by omega), if_pos (by omega), if_neg (by decide), if_neg (by decide), if_neg (by decide), if_pos rfl]
  · rw [if_neg (by omega), if_neg (by omega), if_neg (by omega), if_neg (by omega), if_neg (by omega), if_neg (by omega), if_neg (by omega), if_neg (by omega)]
theorem GI.ad {g : Nat → Int} {n : Nat} {z : Int} {sh : Nat} (h : GI g n) (hn : n < 24) (hz : 1 ≤ z ∧ z ≤ 9) (hs : sh < 3) (h16 : g 16 ≤ 999) : GI (adG g n z sh) (n + 1) := by
  obtain ⟨h1, h2, h3, h4, h5, h6, h7, h8, h9, h10, h11, h12⟩ := h
  have f : ∀ j, j < 23 → j ≠ 15 → j ≠ 16 → adG g n z sh j = g j := fun j a b d => by rw [adG_num a, if_neg b, if_neg d]
  refine ⟨by omega, by rw [adG_num (by decide), if_pos rfl, h2]; omega, by rw [f 0 (by decide) (by decide) (by decide)]; exact h3, by rw [f 1 (by decide) (by decide) (by decide)]; exact h4, by rw [f 2 (by decide) (by decide) (by decide)]; exact h5, by rw [f 3 (by decide) (by decide) (by decide)]; exact h6, by rw [f 4 (by decide) (by decide) (by decide)]; exact h7, by rw [f 5 (by decide) (by decide) (by decide)]; exact h8, fun j hj => by rw [f _ (by omega) (by omega) (by omega)]; exact h9 j hj, fun j hj => by rw [f _ (by omega) (by omega) (by omega)]; exact h10 j hj, by rw [adG_num (by decide), if_neg (by decide), if_pos rfl]; omega, fun k hk => ?_⟩
  by_cases e : k < n
  · rw [adG_old e (by decide), adG_old e (by decide), adG_old e (by decide), adG_old e (by decide), adG_old e (by decide), adG_old e (by decide)]
    exact h12 k e
  · have e2 : k = n := by omega
    subst e2
    have q0 : gb (adG g k z sh) k 0 = g 16 := by rw [adG_new (by decide), if_pos rfl]
    have q1 : gb (adG g k z sh) k 1 = z := by rw [adG_new (by decide)]; rfl
    have q2 : gb (adG g k z sh) k 2 = 1000 := by rw [adG_new (by decide)]; rfl
    have q3 : gb (adG g k z sh) k 3 = sh := by rw [adG_new (by decide)]; rfl
    have q4 : gb (adG g k z sh) k 4 = 0 := by rw [adG_new (by decide)]; rfl
    have q5 : gb (adG g k z sh) k 5 = 0 := by rw [adG_new (by decide)]; rfl
    rw [q0, q1, q2, q3, q4, q5]
    omega
theorem adG_on {g : Nat → Int} {n : Nat} {z : Int} {sh : Nat} (s : Int) : onF (adG g n z sh) (n + 1) s 1 = onF g n s 1 + (if (sh : Int) = s then z else 0) := by
  show onF (adG g n z sh) n s 1 + (if gb (adG g n z sh) n 3 = s then (if (1 : Nat) = 0 then 1 else gb (adG g n z sh) n 1) else 0) = _
  rw [on_congr (g' := g) (by decide) (fun k hk => ⟨adG_old hk (by decide), adG_old hk (by decide)⟩), adG_new (by decide), adG_new (by decide)]
  rfl
def adZ (g : Nat → Int) (n : Nat) (z : Int) : Int := if z < 1 ∨ 9 < z then -2 else match fr g n z with
  | none => -3
  | some _ => if n = 24 ∨ 999 < g 16 then -3 else g 16
theorem fr_lt {g : Nat → Int} {n : Nat} {z : Int} {s : Nat} (h : fr g n z = some s) : s < 3 := by
  unfold fr at h
  split at h
  · cases h; decide
  · split at h
    · cases h; decide
    · split at h
      · cases h; decide
      · cases h
theorem RS.ad {I : xI} {c : Nat} {g : Nat → Int} {n sh : Nat} {z : Int} (h : RS I c g n) (hs : sh < 3) {I1 I2 I3 I4 I5 I6 I7 I8 I9 Ia Ib : xI} (e1 : I1 = x_up I (c + 3) n (g 16)) (e2 : I2 = x_up I1 (c + 4) n z) (e3 : I3 = x_up I2 (c + 5) n 1000) (e4 : I4 = x_up I3 (c + 6) n (sh : Int)) (e5 : I5 = x_up I4 (c + 7) n 0) (e6 : I6 = x_up I5 (c + 8) n 0) (e7 : I7 = x_up I6 (c + 9) n 0) (e8 : I8 = x_up I7 (c + 10) n 0) (e9 : I9 = x_up I8 (c + 2) sh (I8 (c + 2) sh + z)) (ea : Ia = x_up I9 (c + 1) 15 (I9 (c + 1) 15 + 1)) (eb : Ib = x_up Ia (c + 1) 16 (Ia (c + 1) 16 + 1)) : RS Ib c (adG g n z sh) (n + 1) := by
  have a1 : I8 (c + 1) = I (c + 1) := by rw [e8, x_up_ne (by omega), e7, x_up_ne (by omega), e6, x_up_ne (by omega), e5, x_up_ne (by omega), e4, x_up_ne (by omega), e3, x_up_ne (by omega), e2, x_up_ne (by omega), e1, x_up_ne (by omega)]
  have a2 : I8 (c + 2) = I (c + 2) := by rw [e8, x_up_ne (by omega), e7, x_up_ne (by omega), e6, x_up_ne (by omega), e5, x_up_ne (by omega), e4, x_up_ne (by omega), e3, x_up_ne (by omega), e2, x_up_ne (by omega), e1, x_up_ne (by omega)]
  have a3 : ∀ q, q ≠ c + 1 → q ≠ c + 2 → Ib q = I8 q := fun q h1 h2 => by rw [eb, x_up_ne h1, ea, x_up_ne h1, e9, x_up_ne h2]
  have a4 : I9 (c + 1) = I (c + 1) := by rw [e9, x_up_ne (by omega), a1]
  refine ⟨fun i hi => ?_, fun k hk j hj => ?_, fun s hs2 => ?_⟩
  · rw [adG_num hi, eb, x_up_app, ea]
    simp only [x_up_app, true_and]
    rw [a4, h.1 i hi, h.1 15 (by decide), h.1 16 (by decide)]
    by_cases q : i = 15
    · subst q; rfl
    · by_cases q2 : i = 16
      · subst q2; rfl
      · rw [if_neg q2, if_neg q, if_neg q, if_neg q2]
  · rw [a3 _ (by omega) (by omega)]
    by_cases e : k < n
    · rw [adG_old e hj, e8, x_up_offj (by omega), e7, x_up_offj (by omega), e6, x_up_offj (by omega), e5, x_up_offj (by omega), e4, x_up_offj (by omega), e3, x_up_offj (by omega), e2, x_up_offj (by omega), e1, x_up_offj (by omega)]
      exact h.2.1 k e j hj
    · have e0 : k = n := by omega
      subst e0
      rw [adG_new hj, e8, e7, e6, e5, e4, e3, e2, e1]
      match j, hj with
      | 0, _ => simp [x_up]
      | 1, _ => simp [x_up]
      | 2, _ => simp [x_up]
      | 3, _ => simp [x_up]
      | 4, _ => simp [x_up]
      | 5, _ => simp [x_up]
      | 6, _ => simp [x_up]
      | 7, _ => simp [x_up]
      | j + 8, hj => omega
  · rw [adG_on, eb, x_up_ne (by omega), ea, x_up_ne (by omega), e9, x_up_app, a2, h.2.2 s hs2, h.2.2 sh hs]
    by_cases q : s = sh
    · subst q; rw [if_pos ⟨rfl, rfl⟩, if_pos rfl]
    · rw [if_neg (by omega), if_neg (by omega)]; omega
set_option maxRecDepth 20000 in
set_option maxHeartbeats 4000000 in
theorem t_addBlock {I : xI} {c : Nat} {g : Nat → Int} {n : Nat} (hc : x_st c) (hR : RS I c g n) (hG : GI g n) (z : Int) (hz : -2147483648 ≤ z ∧ z ≤ 2147483647) : S kX3_addBlock 2 [rr c, ii z] I (q_i (fun a I1 => a = adZ g n z ∧ FR I I1 c ∧ (∀ s, 0 ≤ adZ g n z → fr g n z = some s → RS I1 c (adG g n z s) (n + 1)))) := by
  have lc := st_lt hc
  have hn24 := hG.n24
  have hF : FR I I c := FR.rf
  have h16 := hG.s16
  refine Sp_intro (by decide +kernel) (Nat.le_of_ble_eq_true rfl) ?_
  show Y kX3_addBlock 2 0 [some (rr c), some (ii z), none, none, none] [] I _
  rcases hf : fr g n z with _ | s
  · refine X_iload dX3_addBlock_0 rfl ?_
    refine X_iconst dX3_addBlock_1 ?_
    refine X_icmp_lt (tgt := 11) dX3_addBlock_2 (by decide) (by omega) (fun c_2 => ?_) (fun c_2 => ?_)
    · refine X_bipush dX3_addBlock_11 (by decide) ?_
      refine X_iret dX3_addBlock_13 (Or.inl rfl) ?_
      exact ⟨rfl, rfl, _, rfl, by unfold adZ; rw [if_pos (by omega)], hF, fun s h => absurd h (by unfold adZ; rw [if_pos (by omega)]; decide)⟩
    · refine X_iload dX3_addBlock_5 rfl ?_
      refine X_bipush dX3_addBlock_6 (by decide) ?_
      refine X_icmp_le (tgt := 14) dX3_addBlock_8 (by decide) (by omega) (fun c_8 => ?_) (fun c_8 => ?_)
      · have hfr := t_fastestWithRoom hc hR hG z (by omega)
        rw [hf] at hfr
        change S _ _ _ _ (q_p (ii (-1)) I) at hfr
        refine X_aload dX3_addBlock_14 rfl ?_
        refine X_iload dX3_addBlock_15 rfl ?_
        refine Y_pV dX3_addBlock_16 cv_X3_64 (sh_st hc) (by omega) hfr rfl ?_
        refine X_istore dX3_addBlock_19 (by decide) ?_
        dsimp only [List.set]
        refine X_aload dX3_addBlock_20 rfl ?_
        refine Y_pV dX3_addBlock_21 cv_X3_53 (sh_st hc) (by omega) (t_countBlocks hc hR hG) rfl ?_
        refine X_istore dX3_addBlock_24 (by decide) ?_
        dsimp only [List.set]
        refine X_aload dX3_addBlock_25 rfl ?_
        refine X_getR dX3_addBlock_26 rfl gf_X3_9 (sh_st hc) (by omega) rfl (rf_st0 hc) ?_
        refine X_bipush dX3_addBlock_29 (by decide) ?_
        refine Y_pS dX3_addBlock_31 cs_X3_49 (t_num hc hR 16 (by decide) rfl) rfl ?_
        refine X_istoreW dX3_addBlock_34 (by decide) ?_
        dsimp only [List.set]
        refine X_iload dX3_addBlock_36 rfl ?_
        refine X_bipush dX3_addBlock_37 (by decide) ?_
        refine X_icmp_ge (tgt := 55) dX3_addBlock_39 (by decide) (by omega) (fun c_39 => ?_) (fun c_39 => ?_)
        · refine X_bipush dX3_addBlock_55 (by decide) ?_
          refine X_iret dX3_addBlock_57 (Or.inl rfl) ?_
          exact ⟨rfl, rfl, _, rfl, by unfold adZ; rw [if_neg (by omega), hf], hF, fun s h => absurd h (by unfold adZ; rw [if_neg (by omega), hf]; show ¬ (0 : Int) ≤ -3; decide)⟩
        · refine X_iload dX3_addBlock_42 rfl ?_
          refine X_iconst dX3_addBlock_43 ?_
          refine X_icmp_eq (tgt := 55) dX3_addBlock_44 (by decide) (by omega) (fun c_44 => ?_) (fun c_44 => absurd c_44 (by omega))
          refine X_bipush dX3_addBlock_55 (by decide) ?_
          refine X_iret dX3_addBlock_57 (Or.inl rfl) ?_
          exact ⟨rfl, rfl, _, rfl, by unfold adZ; rw [if_neg (by omega), hf], hF, fun s h => absurd h (by unfold adZ; rw [if_neg (by omega), hf]; show ¬ (0 : Int) ≤ -3; decide)⟩
      · refine X_bipush dX3_addBlock_11 (by decide) ?_
        refine X_iret dX3_addBlock_13 (Or.inl rfl) ?_
        exact ⟨rfl, rfl, _, rfl, by unfold adZ; rw [if_pos (by omega)], hF, fun s h => absurd h (by unfold adZ; rw [if_pos (by omega)]; decide)⟩
  · have hs3 := fr_lt hf
    refine X_iload dX3_addBlock_0 rfl ?_
    refine X_iconst dX3_addBlock_1 ?_
    refine X_icmp_lt (tgt := 11) dX3_addBlock_2 (by decide) (by omega) (fun c_2 => ?_) (fun c_2 => ?_)
    · refine X_bipush dX3_addBlock_11 (by decide) ?_
      refine X_iret dX3_addBlock_13 (Or.inl rfl) ?_
      exact ⟨rfl, rfl, _, rfl, by unfold adZ; rw [if_pos (by omega)], hF, fun s h => absurd h (by unfold adZ; rw [if_pos (by omega)]; decide)⟩
    · refine X_iload dX3_addBlock_5 rfl ?_
      refine X_bipush dX3_addBlock_6 (by decide) ?_
      refine X_icmp_le (tgt := 14) dX3_addBlock_8 (by decide) (by omega) (fun c_8 => ?_) (fun c_8 => ?_)
      · have hfr := t_fastestWithRoom hc hR hG z (by omega)
        rw [hf] at hfr
        change S _ _ _ _ (q_p (ii ((s : Nat) : Int)) I) at hfr
        refine X_aload dX3_addBlock_14 rfl ?_
        refine X_iload dX3_addBlock_15 rfl ?_
        refine Y_pV dX3_addBlock_16 cv_X3_64 (sh_st hc) (by omega) hfr rfl ?_
        refine X_istore dX3_addBlock_19 (by decide) ?_
        dsimp only [List.set]
        refine X_aload dX3_addBlock_20 rfl ?_
        refine Y_pV dX3_addBlock_21 cv_X3_53 (sh_st hc) (by omega) (t_countBlocks hc hR hG) rfl ?_
        refine X_istore dX3_addBlock_24 (by decide) ?_
        dsimp only [List.set]
        refine X_aload dX3_addBlock_25 rfl ?_
        refine X_getR dX3_addBlock_26 rfl gf_X3_9 (sh_st hc) (by omega) rfl (rf_st0 hc) ?_
        refine X_bipush dX3_addBlock_29 (by decide) ?_
        refine Y_pS dX3_addBlock_31 cs_X3_49 (t_num hc hR 16 (by decide) rfl) rfl ?_
        refine X_istoreW dX3_addBlock_34 (by decide) ?_
        dsimp only [List.set]
        refine X_iload dX3_addBlock_36 rfl ?_
        refine X_bipush dX3_addBlock_37 (by decide) ?_
        refine X_icmp_ge (tgt := 55) dX3_addBlock_39 (by decide) (by omega) (fun c_39 => ?_) (fun c_39 => ?_)
        · refine X_bipush dX3_addBlock_55 (by decide) ?_
          refine X_iret dX3_addBlock_57 (Or.inl rfl) ?_
          exact ⟨rfl, rfl, _, rfl, by unfold adZ; rw [if_neg (by omega), hf]; show _ = if _ then _ else _; rw [if_pos (by omega)], hF, fun s h => absurd h (by unfold adZ; rw [if_neg (by omega), hf]; show ¬ (0 : Int) ≤ if _ then _ else _; rw [if_pos (by omega)]; decide)⟩
        · refine X_iload dX3_addBlock_42 rfl ?_
          refine X_iconst dX3_addBlock_43 ?_
          refine X_icmp_eq (tgt := 55) dX3_addBlock_44 (by decide) (by omega) (fun c_44 => absurd c_44 (by omega)) (fun c_44 => ?_)
          refine X_iloadW dX3_addBlock_47 rfl ?_
          refine X_sipush dX3_addBlock_49 (by decide) ?_
          refine X_icmp_le (tgt := 58) dX3_addBlock_52 (by decide) (by omega) (fun c_52 => ?_) (fun c_52 => ?_)
          · refine X_aload dX3_addBlock_58 rfl ?_
            refine X_getR dX3_addBlock_59 rfl gf_X3_18 (sh_st hc) (by omega) rfl (rf_st2 hc) ?_
            refine X_iload dX3_addBlock_62 rfl ?_
            refine X_iloadW dX3_addBlock_63 rfl ?_
            refine Y_vS dX3_addBlock_65 cs_X3_67 (t_putk (sh_st2 hc) (by omega) _ n (by omega) rfl _) rfl (fun J1 e1 => ?_)
            refine X_aload dX3_addBlock_68 rfl ?_
            refine X_getR dX3_addBlock_69 rfl gf_X3_21 (sh_st hc) (by omega) rfl (rf_st3 hc) ?_
            refine X_iload dX3_addBlock_72 rfl ?_
            refine X_iload dX3_addBlock_73 rfl ?_
            refine Y_vS dX3_addBlock_74 cs_X3_67 (t_putk (sh_st3 hc) (by omega) _ n (by omega) rfl _) rfl (fun J2 e2 => ?_)
            refine X_aload dX3_addBlock_77 rfl ?_
            refine X_getR dX3_addBlock_78 rfl gf_X3_24 (sh_st hc) (by omega) rfl (rf_st4 hc) ?_
            refine X_iload dX3_addBlock_81 rfl ?_
            refine X_sipush dX3_addBlock_82 (by decide) ?_
            refine Y_vS dX3_addBlock_85 cs_X3_67 (t_putk (sh_st4 hc) (by omega) _ n (by omega) rfl _) rfl (fun J3 e3 => ?_)
            refine X_aload dX3_addBlock_88 rfl ?_
            refine X_getR dX3_addBlock_89 rfl gf_X3_27 (sh_st hc) (by omega) rfl (rf_st5 hc) ?_
            refine X_iload dX3_addBlock_92 rfl ?_
            refine X_iload dX3_addBlock_93 rfl ?_
            refine Y_vS dX3_addBlock_94 cs_X3_67 (t_putk (sh_st5 hc) (by omega) _ n (by omega) rfl _) rfl (fun J4 e4 => ?_)
            refine X_aload dX3_addBlock_97 rfl ?_
            refine X_getR dX3_addBlock_98 rfl gf_X3_30 (sh_st hc) (by omega) rfl (rf_st6 hc) ?_
            refine X_iload dX3_addBlock_101 rfl ?_
            refine X_iconst dX3_addBlock_102 ?_
            refine Y_vS dX3_addBlock_103 cs_X3_67 (t_putk (sh_st6 hc) (by omega) _ n (by omega) rfl _) rfl (fun J5 e5 => ?_)
            refine X_aload dX3_addBlock_106 rfl ?_
            refine X_getR dX3_addBlock_107 rfl gf_X3_33 (sh_st hc) (by omega) rfl (rf_st7 hc) ?_
            refine X_iload dX3_addBlock_110 rfl ?_
            refine X_iconst dX3_addBlock_111 ?_
            refine Y_vS dX3_addBlock_112 cs_X3_67 (t_putk (sh_st7 hc) (by omega) _ n (by omega) rfl _) rfl (fun J6 e6 => ?_)
            refine X_aload dX3_addBlock_115 rfl ?_
            refine X_getR dX3_addBlock_116 rfl gf_X3_36 (sh_st hc) (by omega) rfl (rf_st8 hc) ?_
            refine X_iload dX3_addBlock_119 rfl ?_
            refine X_iconst dX3_addBlock_120 ?_
            refine Y_vS dX3_addBlock_121 cs_X3_67 (t_putk (sh_st8 hc) (by omega) _ n (by omega) rfl _) rfl (fun J7 e7 => ?_)
            refine X_aload dX3_addBlock_124 rfl ?_
            refine X_getR dX3_addBlock_125 rfl gf_X3_39 (sh_st hc) (by omega) rfl (rf_st9 hc) ?_
            refine X_iload dX3_addBlock_128 rfl ?_
            refine X_iconst dX3_addBlock_129 ?_
            refine Y_vS dX3_addBlock_130 cs_X3_67 (t_putk (sh_st9 hc) (by omega) _ n (by omega) rfl _) rfl (fun J8 e8 => ?_)
            refine X_aload dX3_addBlock_133 rfl ?_
            refine X_getR dX3_addBlock_134 rfl gf_X3_15 (sh_st hc) (by omega) rfl (rf_st1 hc) ?_
            refine X_iload dX3_addBlock_137 rfl ?_
            refine X_iload dX3_addBlock_138 rfl ?_
            refine Y_vS dX3_addBlock_139 cs_X3_71 (t_raisek (sh_st1 hc) (by omega) _ s (by omega) rfl _) rfl (fun J9 e9 => ?_)
            refine X_aload dX3_addBlock_142 rfl ?_
            refine X_getR dX3_addBlock_143 rfl gf_X3_9 (sh_st hc) (by omega) rfl (rf_st0 hc) ?_
            refine X_bipush dX3_addBlock_146 (by decide) ?_
            refine X_iconst dX3_addBlock_148 ?_
            refine Y_vS dX3_addBlock_149 cs_X3_71 (t_raisek (sh_st0 hc) (by omega) _ 15 (by decide) rfl _) rfl (fun Ja ea => ?_)
            refine X_aload dX3_addBlock_152 rfl ?_
            refine X_getR dX3_addBlock_153 rfl gf_X3_9 (sh_st hc) (by omega) rfl (rf_st0 hc) ?_
            refine X_bipush dX3_addBlock_156 (by decide) ?_
            refine X_iconst dX3_addBlock_158 ?_
            refine Y_vS dX3_addBlock_159 cs_X3_71 (t_raisek (sh_st0 hc) (by omega) _ 16 (by decide) rfl _) rfl (fun Jb eb => ?_)
            refine X_iloadW dX3_addBlock_162 rfl ?_
            refine X_iret dX3_addBlock_164 (Or.inl rfl) ?_
            have hF2 : FR I Jb c := by
              subst e1; subst e2; subst e3; subst e4; subst e5; subst e6; subst e7; subst e8; subst e9; subst ea; subst eb
              exact ((((((((((FR.rf.up (by omega) (by omega)).up (by omega) (by omega)).up (by omega) (by omega)).up (by omega) (by omega)).up (by omega) (by omega)).up (by omega) (by omega)).up (by omega) (by omega)).up (by omega) (by omega)).up (by omega) (by omega)).up (by omega) (by omega)).up (by omega) (by omega)
            refine ⟨rfl, rfl, _, rfl, by unfold adZ; rw [if_neg (by omega), hf]; show _ = if _ then _ else _; rw [if_neg (by omega)], hF2, fun s1 _ h2 => ?_⟩
            cases h2
            exact hR.ad hs3 e1 e2 e3 e4 e5 e6 e7 e8 e9 ea eb
          · refine X_bipush dX3_addBlock_55 (by decide) ?_
            refine X_iret dX3_addBlock_57 (Or.inl rfl) ?_
            exact ⟨rfl, rfl, _, rfl, by unfold adZ; rw [if_neg (by omega), hf]; show _ = if _ then _ else _; rw [if_pos (by omega)], hF, fun s h => absurd h (by unfold adZ; rw [if_neg (by omega), hf]; show ¬ (0 : Int) ≤ if _ then _ else _; rw [if_pos (by omega)]; decide)⟩
      · refine X_bipush dX3_addBlock_11 (by decide) ?_
        refine X_iret dX3_addBlock_13 (Or.inl rfl) ?_
        exact ⟨rfl, rfl, _, rfl, by unfold adZ; rw [if_pos (by omega)], hF, fun s h => absurd h (by unfold adZ; rw [if_pos (by omega)]; decide)⟩
def rmG (g : Nat → Int) (k : Nat) : Nat → Int := fun i => if i < 23 then (if i = 15 then g 15 - 1 else g i) else if i < 23 + 8 * k then g i else g (i + 8)
theorem rmG_num {g : Nat → Int} {k i : Nat} (hi : i < 23) : rmG g k i = if i = 15 then g 15 - 1 else g i := by unfold rmG; rw [if_pos hi]
theorem rmG_lo {g : Nat → Int} {k q j : Nat} (hq : q < k) (hj : j < 8) : gb (rmG g k) q j = gb g q j := by
  unfold gb rmG; rw [if_neg (by omega), if_pos (by omega)]
theorem rmG_hi {g : Nat → Int} {k q j : Nat} (hq : k ≤ q) (hj : j < 8) : gb (rmG g k) q j = gb g (q + 1) j := by
  unfold gb rmG; rw [if_neg (by omega), if_neg (by omega)]; congr 1; omega
theorem sm_rm {f h : Nat → Int} {k : Nat} : ∀ {m : Nat}, k ≤ m → (∀ q, q < k → h q = f q) → (∀ q, k ≤ q → h q = f (q + 1)) → sm h m = sm f (m + 1) - f k
  | 0, hk, _, _ => by
    have : k = 0 := by omega
    subst this
    show (0 : Int) = 0 + f 0 - f 0
    omega
  | m + 1, hk, h1, h2 => by
    show sm h m + h m = sm f (m + 1) + f (m + 1) - f k
    by_cases e : k ≤ m
    · rw [sm_rm e h1 h2, h2 m e]; omega
    · have e2 : k = m + 1 := by omega
      subst e2
      rw [sm_congr (f := h) (h := f) (fun q hq => h1 q (by omega)), h1 m (by omega)]
      show sm f m + f m = sm f m + f m + f (m + 1) - f (m + 1)
      omega
theorem rmG_on {g : Nat → Int} {n k : Nat} (hk : k < n) (s : Int) (w : Nat) (hw : w < 8) : onF (rmG g k) (n - 1) s w = onF g n s w - (if gb g k 3 = s then (if w = 0 then 1 else gb g k w) else 0) := by
  obtain ⟨m, rfl⟩ : ∃ m, n = m + 1 := ⟨n - 1, by omega⟩
  unfold onF
  rw [show m + 1 - 1 = m by omega]
  exact sm_rm (f := fun k => if gb g k 3 = s then (if w = 0 then 1 else gb g k w) else 0) (by omega) (fun q hq => by rw [rmG_lo hq (by decide), rmG_lo hq hw]) (fun q hq => by rw [rmG_hi hq (by decide), rmG_hi hq hw])
theorem GI.rm {g : Nat → Int} {n k : Nat} (h : GI g n) (hk : k < n) : GI (rmG g k) (n - 1) := by
  obtain ⟨h1, h2, h3, h4, h5, h6, h7, h8, h9, h10, h11, h12⟩ := h
  have f : ∀ j, j < 23 → j ≠ 15 → rmG g k j = g j := fun j a b => by rw [rmG_num a, if_neg b]
  refine ⟨by omega, by rw [rmG_num (by decide), if_pos rfl, h2]; omega, by rw [f 0 (by decide) (by decide)]; exact h3, by rw [f 1 (by decide) (by decide)]; exact h4, by rw [f 2 (by decide) (by decide)]; exact h5, by rw [f 3 (by decide) (by decide)]; exact h6, by rw [f 4 (by decide) (by decide)]; exact h7, by rw [f 5 (by decide) (by decide)]; exact h8, fun j hj => by rw [f _ (by omega) (by omega)]; exact h9 j hj, fun j hj => by rw [f _ (by omega) (by omega)]; exact h10 j hj, by rw [f 16 (by decide) (by decide)]; exact h11, fun q hq => ?_⟩
  by_cases e : q < k
  · rw [rmG_lo e (by decide), rmG_lo e (by decide), rmG_lo e (by decide), rmG_lo e (by decide), rmG_lo e (by decide), rmG_lo e (by decide)]
    exact h12 q (by omega)
  · rw [rmG_hi (by omega) (by decide), rmG_hi (by omega) (by decide), rmG_hi (by omega) (by decide), rmG_hi (by omega) (by decide), rmG_hi (by omega) (by decide), rmG_hi (by omega) (by decide)]
    exact h12 (q + 1) (by omega)
def rmZ (g : Nat → Int) (n : Nat) (b : Int) : Int := match pl g n b with
  | none => -1
  | some k => gb g k 3
/-- the rows of attributes from j on, not yet closed; those ahead of j closed -/
def CGm (I I1 : xI) (c k m : Nat) : Prop := (∀ q, q < m → I1 (c + 3 + q) = x_cg I (c + 3 + q) k 23 (c + 3 + q)) ∧ ∀ q, (q < c + 3 ∨ c + 3 + m ≤ q) → I1 q = I q
theorem CGm.step {I I1 : xI} {c k m : Nat} (h : CGm I I1 c k m) {a : Nat} (ha : a = c + 3 + m) : CGm I (x_cg I1 a k 23) c k (m + 1) := by
  subst ha
  refine ⟨fun q hq => ?_, fun q hq => ?_⟩
  · by_cases e : q = m
    · subst e
      funext j
      unfold x_cg
      rw [h.2 (c + 3 + q) (by omega)]
    · have e2 : x_cg I1 (c + 3 + m) k 23 (c + 3 + q) = I1 (c + 3 + q) := by funext j; unfold x_cg; rw [if_neg (by omega)]
      rw [e2]; exact h.1 q (by omega)
  · have e2 : x_cg I1 (c + 3 + m) k 23 q = I1 q := by funext j; unfold x_cg; rw [if_neg (by omega)]
    rw [e2]; exact h.2 q (by omega)
theorem RS.rm {I : xI} {c : Nat} {g : Nat → Int} {n k o : Nat} (h : RS I c g n) (hn : n ≤ 24) (hk : k < n) (ho : gb g k 3 = (o : Int)) (ho3 : o < 3) {I1 I2 I3 : xI} (e1 : I1 = x_up I (c + 2) o (I (c + 2) o + -(gb g k 1))) (e2 : I2 = x_up I1 (c + 1) 15 (I1 (c + 1) 15 + -1)) (h3 : CGm I2 I3 c k 8) : RS I3 c (rmG g k) (n - 1) ∧ FR I I3 c := by
  refine ⟨⟨fun i hi => ?_, fun q hq j hj => ?_, fun s hs => ?_⟩, fun q hq => ?_⟩
  · rw [h3.2 _ (by omega), rmG_num hi, e2, x_up_app, e1, x_up_ne (by omega)]
    simp only [true_and]
    by_cases e : i = 15
    · subst e; rw [if_pos rfl, if_pos rfl, h.1 15 (by decide)]; omega
    · rw [if_neg e, if_neg e]; exact h.1 i hi
  · rw [h3.1 j hj]
    have e3 : I2 (c + 3 + j) = I (c + 3 + j) := by rw [e2, x_up_ne (by omega), e1, x_up_ne (by omega)]
    unfold x_cg
    rw [e3]
    by_cases e : q < k
    · rw [if_neg (by omega), rmG_lo e hj]; exact h.2.1 q (by omega) j hj
    · rw [if_pos (by omega), rmG_hi (by omega) hj]; exact h.2.1 (q + 1) (by omega) j hj
  · rw [h3.2 _ (by omega), rmG_on hk s 1 (by decide), e2, x_up_ne (by omega), e1, x_up_app, ho]
    simp only [true_and]
    by_cases e : s = o
    · subst e; rw [if_pos rfl, if_pos rfl, h.2.2 s hs]; rw [if_neg (by decide)]; omega
    · rw [if_neg e, if_neg (by omega), h.2.2 s hs]; omega
  · rw [h3.2 _ (by omega), e2, x_up_ne (by omega), e1, x_up_ne (by omega)]
set_option maxRecDepth 20000 in
set_option maxHeartbeats 4000000 in
theorem t_dropBlock {I : xI} {c : Nat} {g : Nat → Int} {n : Nat} (hc : x_st c) (hR : RS I c g n) (hG : GI g n) (b : Int) (hb : -2147483648 ≤ b ∧ b ≤ 2147483647) : S kX3_dropBlock 3 [rr c, ii b] I (q_i (fun z I1 => z = rmZ g n b ∧ FR I I1 c ∧ (∀ k, pl g n b = some k → RS I1 c (rmG g k) (n - 1)))) := by
  have lc := st_lt hc
  have hn24 := hG.n24
  have hF : FR I I c := FR.rf
  refine Sp_intro (by decide +kernel) (Nat.le_of_ble_eq_true rfl) ?_
  show Y kX3_dropBlock 3 0 [some (rr c), some (ii b), none, none] [] I _

  rcases hp : pl g n b with _ | k
  · have hfd := t_find hc hR hG b hb
    rw [hp] at hfd
    change S _ _ _ _ (q_p (ii (-1)) I) at hfd
    refine X_aload dX3_dropBlock_0 rfl ?_
    refine X_iload dX3_dropBlock_1 rfl ?_
    refine Y_pV dX3_dropBlock_2 cv_X3_78 (sh_st hc) (by omega) hfd rfl ?_
    refine X_istore dX3_dropBlock_5 (by decide) ?_
    dsimp only [List.set]
    refine X_iload dX3_dropBlock_6 rfl ?_
    refine X_iconst dX3_dropBlock_7 ?_
    refine X_icmp_ne (tgt := 13) dX3_dropBlock_8 (by decide) (by omega) (fun c_8 => absurd c_8 (by omega)) (fun c_8 => ?_)
    refine X_iconst dX3_dropBlock_11 ?_
    refine X_iret dX3_dropBlock_12 (Or.inl rfl) ?_
    exact ⟨rfl, rfl, _, rfl, by unfold rmZ; rw [hp], hF, fun k h => by cases h⟩
  · have hk := pl_lt hp
    have hb3 := (hG.b hk).2.2.2.1
    obtain ⟨o, ho⟩ := Int.eq_ofNat_of_zero_le hb3.1
    have hfd := t_find hc hR hG b hb
    rw [hp] at hfd
    change S _ _ _ _ (q_p (ii ((k : Nat) : Int)) I) at hfd
    refine X_aload dX3_dropBlock_0 rfl ?_
    refine X_iload dX3_dropBlock_1 rfl ?_
    refine Y_pV dX3_dropBlock_2 cv_X3_78 (sh_st hc) (by omega) hfd rfl ?_
    refine X_istore dX3_dropBlock_5 (by decide) ?_
    dsimp only [List.set]
    refine X_iload dX3_dropBlock_6 rfl ?_
    refine X_iconst dX3_dropBlock_7 ?_
    refine X_icmp_ne (tgt := 13) dX3_dropBlock_8 (by decide) (by omega) (fun c_8 => ?_) (fun c_8 => absurd c_8 (by omega))
    refine X_aload dX3_dropBlock_13 rfl ?_
    refine X_getR dX3_dropBlock_14 rfl gf_X3_27 (sh_st hc) (by omega) rfl (rf_st5 hc) ?_
    refine X_iload dX3_dropBlock_17 rfl ?_
    refine Y_pS dX3_dropBlock_18 cs_X3_49 (t_blk3 hc hR hn24 k (by omega) rfl) rfl ?_
    refine X_istore dX3_dropBlock_21 (by decide) ?_
    dsimp only [List.set]
    refine X_aload dX3_dropBlock_22 rfl ?_
    refine X_getR dX3_dropBlock_23 rfl gf_X3_15 (sh_st hc) (by omega) rfl (rf_st1 hc) ?_
    refine X_iload dX3_dropBlock_26 rfl ?_
    refine X_aload dX3_dropBlock_27 rfl ?_
    refine X_getR dX3_dropBlock_28 rfl gf_X3_21 (sh_st hc) (by omega) rfl (rf_st3 hc) ?_
    refine X_iload dX3_dropBlock_31 rfl ?_
    refine Y_pS dX3_dropBlock_32 cs_X3_49 (t_blk1 hc hR hn24 k (by omega) rfl) rfl ?_
    refine X_ineg dX3_dropBlock_35 ?_
    refine Y_vS dX3_dropBlock_36 cs_X3_71 (t_raisek (sh_st1 hc) (by omega) _ o (by omega) ho _) rfl (fun I1 e1 => ?_)
    refine X_aload dX3_dropBlock_39 rfl ?_
    refine X_getR dX3_dropBlock_40 rfl gf_X3_9 (sh_st hc) (by omega) rfl (rf_st0 hc) ?_
    refine X_bipush dX3_dropBlock_43 (by decide) ?_
    refine X_iconst dX3_dropBlock_45 ?_
    refine Y_vS dX3_dropBlock_46 cs_X3_71 (t_raisek (sh_st0 hc) (by omega) _ 15 (by decide) rfl _) rfl (fun I2 e2 => ?_)
    have hm : CGm I2 I2 c k 0 := ⟨fun q hq => absurd hq (Nat.not_lt_zero q), fun _ _ => rfl⟩
    refine X_aload dX3_dropBlock_49 rfl ?_
    refine X_getR dX3_dropBlock_50 rfl gf_X3_18 (sh_st hc) (by omega) rfl (rf_st2 hc) ?_
    refine X_iload dX3_dropBlock_53 rfl ?_
    refine Y_vS dX3_dropBlock_54 cs_X3_81 (t_closeGap (sh_st2 hc) (by omega) _ k (by omega) rfl) rfl (fun I54 q54 => ?_)
    subst q54
    have hm := hm.step (a := c + 3) (by omega)
    refine X_aload dX3_dropBlock_57 rfl ?_
    refine X_getR dX3_dropBlock_58 rfl gf_X3_21 (sh_st hc) (by omega) rfl (rf_st3 hc) ?_
    refine X_iload dX3_dropBlock_61 rfl ?_
    refine Y_vS dX3_dropBlock_62 cs_X3_81 (t_closeGap (sh_st3 hc) (by omega) _ k (by omega) rfl) rfl (fun I62 q62 => ?_)
    subst q62
    have hm := hm.step (a := c + 4) (by omega)
    refine X_aload dX3_dropBlock_65 rfl ?_
    refine X_getR dX3_dropBlock_66 rfl gf_X3_24 (sh_st hc) (by omega) rfl (rf_st4 hc) ?_
    refine X_iload dX3_dropBlock_69 rfl ?_
    refine Y_vS dX3_dropBlock_70 cs_X3_81 (t_closeGap (sh_st4 hc) (by omega) _ k (by omega) rfl) rfl (fun I70 q70 => ?_)
    subst q70
    have hm := hm.step (a := c + 5) (by omega)
    refine X_aload dX3_dropBlock_73 rfl ?_
    refine X_getR dX3_dropBlock_74 rfl gf_X3_27 (sh_st hc) (by omega) rfl (rf_st5 hc) ?_
    refine X_iload dX3_dropBlock_77 rfl ?_
    refine Y_vS dX3_dropBlock_78 cs_X3_81 (t_closeGap (sh_st5 hc) (by omega) _ k (by omega) rfl) rfl (fun I78 q78 => ?_)
    subst q78
    have hm := hm.step (a := c + 6) (by omega)
    refine X_aload dX3_dropBlock_81 rfl ?_
    refine X_getR dX3_dropBlock_82 rfl gf_X3_30 (sh_st hc) (by omega) rfl (rf_st6 hc) ?_
    refine X_iload dX3_dropBlock_85 rfl ?_
    refine Y_vS dX3_dropBlock_86 cs_X3_81 (t_closeGap (sh_st6 hc) (by omega) _ k (by omega) rfl) rfl (fun I86 q86 => ?_)
    subst q86
    have hm := hm.step (a := c + 7) (by omega)
    refine X_aload dX3_dropBlock_89 rfl ?_
    refine X_getR dX3_dropBlock_90 rfl gf_X3_33 (sh_st hc) (by omega) rfl (rf_st7 hc) ?_
    refine X_iload dX3_dropBlock_93 rfl ?_
    refine Y_vS dX3_dropBlock_94 cs_X3_81 (t_closeGap (sh_st7 hc) (by omega) _ k (by omega) rfl) rfl (fun I94 q94 => ?_)
    subst q94
    have hm := hm.step (a := c + 8) (by omega)
    refine X_aload dX3_dropBlock_97 rfl ?_
    refine X_getR dX3_dropBlock_98 rfl gf_X3_36 (sh_st hc) (by omega) rfl (rf_st8 hc) ?_
    refine X_iload dX3_dropBlock_101 rfl ?_
    refine Y_vS dX3_dropBlock_102 cs_X3_81 (t_closeGap (sh_st8 hc) (by omega) _ k (by omega) rfl) rfl (fun I102 q102 => ?_)
    subst q102
    have hm := hm.step (a := c + 9) (by omega)
    refine X_aload dX3_dropBlock_105 rfl ?_
    refine X_getR dX3_dropBlock_106 rfl gf_X3_39 (sh_st hc) (by omega) rfl (rf_st9 hc) ?_
    refine X_iload dX3_dropBlock_109 rfl ?_
    refine Y_vS dX3_dropBlock_110 cs_X3_81 (t_closeGap (sh_st9 hc) (by omega) _ k (by omega) rfl) rfl (fun I110 q110 => ?_)
    subst q110
    have hm := hm.step (a := c + 10) (by omega)
    refine X_iload dX3_dropBlock_113 rfl ?_
    refine X_iret dX3_dropBlock_114 (Or.inl rfl) ?_
    have hfin := hR.rm hn24 hk ho (by omega) e1 e2 hm
    exact ⟨rfl, rfl, _, rfl, by unfold rmZ; rw [hp], hfin.2, fun k1 h => by cases h; exact hfin.1⟩
end
section
/-! a night: who may move, whose turn is next, where a block moves to, the turns -/
def rs (g : Nat → Int) (k : Nat) : Int := if gb g k 4 = 0 then (if gb g k 5 ≤ 0 then (if wt g k = gb g k 3 then 3 else 4) else 2) else 1
theorem rs_bounds (g : Nat → Int) (k : Nat) : 0 ≤ rs g k ∧ rs g k ≤ 5 := by unfold rs; split <;> (try split) <;> (try split) <;> omega
theorem wt_bounds (g : Nat → Int) (k : Nat) : 0 ≤ wt g k ∧ wt g k ≤ 2 := by unfold wt; split <;> (try split) <;> omega
/-- whether k is better than the best so far -/
def btr (g : Nat → Int) (dn : Bool) (k : Nat) (r : Option Nat) : Bool := match r with
  | none => true
  | some q => if dn = true then decide (gb g k 2 < gb g q 2) else decide (gb g q 2 < gb g k 2)
def cnd (w g y : Nat → Int) (dn : Bool) (k : Nat) : Bool := decide (y k = 4) && (decide (gb g k 3 < w k) == dn)
def nxF (w g y : Nat → Int) (dn : Bool) : Nat → Option Nat
  | 0 => none
  | k + 1 => if (cnd w g y dn k && btr g dn k (nxF w g y dn k)) = true then some k else nxF w g y dn k
theorem nxF_lt {w g y : Nat → Int} {dn : Bool} : ∀ {m k : Nat}, nxF w g y dn m = some k → k < m ∧ cnd w g y dn k = true
  | 0, k, h => by cases h
  | m + 1, k, h => by
    unfold nxF at h
    split at h
    · rename_i h1
      cases h
      rw [Bool.and_eq_true] at h1
      exact ⟨Nat.lt_succ_self m, h1.1⟩
    · have := nxF_lt h
      exact ⟨by omega, this.2⟩
theorem nxF_none {w g y : Nat → Int} {dn : Bool} : ∀ {m : Nat}, nxF w g y dn m = none → ∀ k, k < m → cnd w g y dn k = false
  | 0, _, k, hk => absurd hk (Nat.not_lt_zero k)
  | m + 1, h, k, hk => by
    unfold nxF at h
    split at h
    · cases h
    · rename_i h1
      by_cases e : k = m
      · subst e
        rw [h] at h1
        simpa [btr] using h1
      · exact nxF_none h k (by omega)
def yu (y : Nat → Int) (k : Nat) (v : Int) : Nat → Int := fun i => if i = k then v else y i
def tg (w g : Nat → Int) (n k : Nat) : Option Nat := if rmB g n (w k).toNat (gb g k 1) = true then some (w k).toNat else if (w k - gb g k 3 = 2 ∨ gb g k 3 - w k = 2) ∧ rmB g n 1 (gb g k 1) = true then some 1 else none
def mp (g : Nat → Int) (k sh : Nat) : Nat → Int := if sh = 2 then gB (mv g k (sh : Int)) k 5 (mv g k (sh : Int) 4) else mv g k (sh : Int)
def tn (w : Nat → Int) (n : Nat) (most : Int) (dn : Bool) : Nat → (Nat → Int) → (Nat → Int) → Int → (Nat → Int) × (Nat → Int) × Int
  | 0, g, y, m => (g, y, m)
  | f + 1, g, y, m => if m < most then (match nxF w g y dn n with
    | none => (g, y, m)
    | some k => match tg w g n k with
      | none => tn w n most dn f g (yu y k 5) m
      | some sh => tn w n most dn f (mp g k sh) (yu y k 0) (m + 1)) else (g, y, m)
theorem tg_lt {w g : Nat → Int} {n k sh : Nat} (hw : 0 ≤ w k ∧ w k ≤ 2) (h : tg w g n k = some sh) : sh < 3 := by
  unfold tg at h
  split at h
  · cases h; omega
  · split at h
    · cases h; decide
    · cases h
theorem mp_num {g : Nat → Int} {k sh j : Nat} (hj : j < 23) : mp g k sh j = g j := by
  unfold mp
  split
  · rw [gB_num hj, mv_num hj]
  · rw [mv_num hj]
theorem GI.setP {g : Nat → Int} {n k sh : Nat} (h : GI g n) (hs : sh < 3) : GI (mp g k sh) n := by
  have h4 := h.s4
  have h1 := h.setM (k := k) (sh := (sh : Int)) (by omega)
  unfold mp
  split
  · have e : mv g k (sh : Int) 4 = g 4 := mv_num (by decide)
    exact h1.setB (by decide) ⟨by omega, by omega, by omega, by omega, by omega, by omega⟩
  · exact h1
theorem GI.setT {w : Nat → Int} {n : Nat} {most : Int} {dn : Bool} (hw : ∀ k, k < n → 0 ≤ w k ∧ w k ≤ 2) : ∀ (f : Nat) (g y : Nat → Int) (m : Int), GI g n → GI (tn w n most dn f g y m).1 n
  | 0, g, y, m, h => h
  | f + 1, g, y, m, h => by
    show GI (if m < most then _ else _ : (Nat → Int) × (Nat → Int) × Int).1 n
    split
    · cases hk : nxF w g y dn n with
      | none => exact h
      | some k =>
        cases ht : tg w g n k with
        | none => simp only [ht]; exact GI.setT hw f g _ m h
        | some sh => simp only [ht]; exact GI.setT hw f _ _ _ (h.setP (tg_lt (hw k (nxF_lt hk).1) ht))
    · exact h
theorem tn_y {w : Nat → Int} {n : Nat} {most : Int} {dn : Bool} : ∀ (f : Nat) (g y : Nat → Int) (m : Int), (∀ k, k < n → 0 ≤ y k ∧ y k ≤ 5) → ∀ k, k < n → 0 ≤ (tn w n most dn f g y m).2.1 k ∧ (tn w n most dn f g y m).2.1 k ≤ 5
  | 0, g, y, m, h => h
  | f + 1, g, y, m, h => by
    show ∀ k, k < n → 0 ≤ (if m < most then _ else _ : (Nat → Int) × (Nat → Int) × Int).2.1 k ∧ (if m < most then _ else _ : (Nat → Int) × (Nat → Int) × Int).2.1 k ≤ 5
    have hu : ∀ (q : Nat) (v : Int), 0 ≤ v ∧ v ≤ 5 → ∀ k, k < n → 0 ≤ yu y q v k ∧ yu y q v k ≤ 5 := by
      intro q v hv k hk
      unfold yu
      split
      · exact hv
      · exact h k hk
    split
    · cases hk : nxF w g y dn n with
      | none => exact h
      | some k =>
        cases ht : tg w g n k with
        | none => simp only [ht]; exact tn_y f g _ m (hu k 5 (by decide))
        | some sh => simp only [ht]; exact tn_y f _ _ _ (hu k 0 (by decide))
    · exact h
theorem tn_m {w : Nat → Int} {n : Nat} {most : Int} {dn : Bool} : ∀ (f : Nat) (g y : Nat → Int) (m : Int), m ≤ (tn w n most dn f g y m).2.2 ∧ (tn w n most dn f g y m).2.2 ≤ m + f ∧ (m ≤ most → (tn w n most dn f g y m).2.2 ≤ most)
  | 0, g, y, m => by show m ≤ m ∧ m ≤ m + (0 : Nat) ∧ (m ≤ most → m ≤ most); omega
  | f + 1, g, y, m => by
    show m ≤ (if m < most then _ else _ : (Nat → Int) × (Nat → Int) × Int).2.2 ∧ (if m < most then _ else _ : (Nat → Int) × (Nat → Int) × Int).2.2 ≤ m + ((f + 1 : Nat) : Int) ∧ (m ≤ most → (if m < most then _ else _ : (Nat → Int) × (Nat → Int) × Int).2.2 ≤ most)
    split
    · rename_i hlt
      cases hk : nxF w g y dn n with
      | none => dsimp only; omega
      | some k =>
        cases ht : tg w g n k with
        | none =>
          simp only [ht]
          have := tn_m (w := w) (n := n) (most := most) (dn := dn) f g (yu y k 5) m
          omega
        | some sh =>
          simp only [ht]
          have := tn_m (w := w) (n := n) (most := most) (dn := dn) f (mp g k sh) (yu y k 0) (m + 1)
          omega
    · dsimp only; omega
theorem mp_gb1 {g : Nat → Int} {k sh q : Nat} : gb (mp g k sh) q 2 = gb g q 2 ∧ gb (mp g k sh) q 1 = gb g q 1 ∧ gb (mp g k sh) q 0 = gb g q 0 ∧ gb (mp g k sh) q 4 = gb g q 4 ∧ gb (mp g k sh) q 6 = gb g q 6 := by
  unfold mp
  split
  · refine ⟨?_, ?_, ?_, ?_, ?_⟩ <;> rw [gB_ne (by decide) (by decide) (by decide), mv_gb (by decide), if_neg (by omega), if_neg (by omega)]
  · refine ⟨?_, ?_, ?_, ?_, ?_⟩ <;> rw [mv_gb (by decide), if_neg (by omega), if_neg (by omega)]
/-- what a night gives: the state, why each block stays, how many move; 'MOVED' not yet counted -/
def nt1 (g : Nat → Int) (n : Nat) : Nat → Int := fdF (pyF g n 3) n
def ntD (g : Nat → Int) (n : Nat) (most : Int) : (Nat → Int) × (Nat → Int) × Int := tn (wt (nt1 g n)) n most true 24 (nt1 g n) (rs (nt1 g n)) 0
def ntU (g : Nat → Int) (n : Nat) (most : Int) : (Nat → Int) × (Nat → Int) × Int := tn (wt (nt1 g n)) n (most - (ntD g n most).2.2) false 24 (ntD g n most).1 (ntD g n most).2.1 0
def ntM (g : Nat → Int) (n : Nat) (most : Int) : Int := (ntD g n most).2.2 + (ntU g n most).2.2
theorem GI.n1 {g : Nat → Int} {n : Nat} (h : GI g n) : GI (nt1 g n) n := (h.py 3).fd n (Nat.le_refl n)
theorem GI.nD {g : Nat → Int} {n : Nat} (h : GI g n) (most : Int) : GI (ntD g n most).1 n := GI.setT (fun k _ => wt_bounds _ k) _ _ _ _ h.n1
theorem GI.nU {g : Nat → Int} {n : Nat} (h : GI g n) (most : Int) : GI (ntU g n most).1 n := GI.setT (fun k _ => wt_bounds _ k) _ _ _ _ (h.nD most)
/-- nights, one after the other -/
def nsG (g : Nat → Int) (n : Nat) (most : Int) : Nat → (Nat → Int)
  | 0 => g
  | i + 1 => (ntU (nsG g n most i) n most).1
def nsM (g : Nat → Int) (n : Nat) (most : Int) : Nat → Int
  | 0 => 0
  | i + 1 => nsM g n most i + ntM (nsG g n most i) n most
theorem GI.ns {g : Nat → Int} {n : Nat} (h : GI g n) (most : Int) : ∀ i, GI (nsG g n most i) n
  | 0 => h
  | i + 1 => (GI.ns h most i).nU most
def npG (g : Nat → Int) (n : Nat) (i : Nat) : Nat → Int := gN (nsG g n (g 3) i) 21 (nsG g n (g 3) i 21 + nsM g n (g 3) i)
theorem GI.np {g : Nat → Int} {n : Nat} (h : GI g n) (i : Nat) : GI (npG g n i) n := (h.ns (g 3) i).acc (by decide) _
theorem ntM_bounds (g : Nat → Int) (n : Nat) (most : Int) : 0 ≤ ntM g n most ∧ ntM g n most ≤ 48 := by
  have h1 := tn_m (w := wt (nt1 g n)) (n := n) (most := most) (dn := true) 24 (nt1 g n) (rs (nt1 g n)) 0
  have h2 := tn_m (w := wt (nt1 g n)) (n := n) (most := most - (ntD g n most).2.2) (dn := false) 24 (ntD g n most).1 (ntD g n most).2.1 0
  unfold ntM
  have e1 : (ntD g n most).2.2 = (tn (wt (nt1 g n)) n most true 24 (nt1 g n) (rs (nt1 g n)) 0).2.2 := rfl
  have e2 : (ntU g n most).2.2 = (tn (wt (nt1 g n)) n (most - (ntD g n most).2.2) false 24 (ntD g n most).1 (ntD g n most).2.1 0).2.2 := rfl
  omega
theorem nsM_bounds (g : Nat → Int) (n : Nat) (most : Int) : ∀ i : Nat, 0 ≤ nsM g n most i ∧ nsM g n most i ≤ 48 * i
  | 0 => by show (0 : Int) ≤ 0 ∧ (0 : Int) ≤ 48 * (0 : Nat); omega
  | i + 1 => by
    have h1 := nsM_bounds g n most i
    have h2 := ntM_bounds (nsG g n most i) n most
    show 0 ≤ nsM g n most i + ntM (nsG g n most i) n most ∧ nsM g n most i + ntM (nsG g n most i) n most ≤ 48 * ((i + 1 : Nat) : Int)
    omega
/-- the Night's rows hold what is wanted and why -/
def WR (I : xI) (n : Nat) (w y : Nat → Int) : Prop := ∀ k, k < n → I 81 k = w k ∧ I 82 k = y k
/-- what a method of Night leaves alone -/
def FT (I I1 : xI) (c : Nat) : Prop := ∀ q, (q ≤ c ∨ c + 11 ≤ q) → q ≠ 81 → q ≠ 82 → I1 q = I q
theorem FT.rf {I : xI} {c : Nat} : FT I I c := fun _ _ _ _ => rfl
theorem FT.trans {I I1 I2 : xI} {c : Nat} (h : FT I I1 c) (h' : FT I1 I2 c) : FT I I2 c := fun q a b d => (h' q a b d).trans (h q a b d)
theorem FR.t {I I1 : xI} {c : Nat} (h : FR I I1 c) : FT I I1 c := fun q a _ _ => h q a
theorem RS.keep {I I1 : xI} {c : Nat} {g : Nat → Int} {n : Nat} (h : RS I c g n) (e : ∀ q, c + 1 ≤ q → q ≤ c + 10 → I1 q = I q) : RS I1 c g n :=
  ⟨fun j hj => by rw [e _ (by omega) (by omega)]; exact h.1 j hj, fun k hk j hj => by rw [e _ (by omega) (by omega)]; exact h.2.1 k hk j hj, fun s hs => by rw [e _ (by omega) (by omega)]; exact h.2.2 s hs⟩
theorem st_low {c : Nat} (h : x_st c) : c + 10 < 80 := by unfold x_st at h; omega
theorem RS.up81 {I : xI} {c : Nat} {g : Nat → Int} {n : Nat} (hc : x_st c) (h : RS I c g n) {q j : Nat} {z : Int} (hq : q = 81 ∨ q = 82) : RS (x_up I q j z) c g n := by
  have := st_low hc
  exact h.keep (fun p h1 h2 => x_up_ne (by omega))
theorem FT.up81 {I I1 : xI} {c : Nat} (h : FT I I1 c) {q j : Nat} {z : Int} (hq : q = 81 ∨ q = 82) : FT I (x_up I1 q j z) c := fun p a b d => by
  rw [x_up_ne (by omega)]; exact h p a b d
theorem WR.fr {I I1 : xI} {c n : Nat} {w y : Nat → Int} (hc : x_st c) (h : WR I n w y) (hF : FR I I1 c) : WR I1 n w y := by
  have := st_low hc
  intro k hk
  rw [hF 81 (by omega), hF 82 (by omega)]
  exact h k hk
theorem WR.setY {I : xI} {n : Nat} {w y : Nat → Int} (h : WR I n w y) (k : Nat) (v : Int) : WR (x_up I 82 k v) n w (yu y k v) := by
  intro q hq
  refine ⟨by rw [x_up_off (by decide)]; exact (h q hq).1, ?_⟩
  rw [x_up_app]
  unfold yu
  by_cases e : q = k
  · rw [if_pos ⟨rfl, e⟩, if_pos e]
  · rw [if_neg (by omega), if_neg e]; exact (h q hq).2
end
section
/-! Night: its methods -/
theorem WR.add {I : xI} {k : Nat} {w y : Nat → Int} (h : WR I k w y) {a b : Int} (ha : a = w k) (hb : b = y k) : WR (x_up (x_up I 81 k a) 82 k b) (k + 1) w y := by
  intro q hq
  by_cases e : q = k
  · subst e
    rw [x_up_off (by decide), x_up_same, x_up_same]; exact ⟨ha, hb⟩
  · rw [x_up_off (by decide), x_up_offj e, x_up_offj e, x_up_off (by decide)]
    exact h q (by omega)
def FN (I I1 : xI) : Prop := ∀ q, q ≠ 81 → q ≠ 82 → I1 q = I q
set_option maxRecDepth 20000 in
set_option maxHeartbeats 4000000 in
theorem t_findWho_loop {I : xI} {c : Nat} {g : Nat → Int} {n : Nat} (hc : x_st c) (hG : GI g n) : ∀ (m k : Nat), k + m = n → ∀ (I1 : xI), RS I1 c g n → WR I1 k (wt g) (rs g) → FN I I1 → Y kX1_findWhoMayMove 2 7 [some (rr 80), some (rr c), some (ii (n : Int)), some (ii (k : Int)), none] [] I1 (q_v (fun I2 => RS I2 c g n ∧ WR I2 n (wt g) (rs g) ∧ FN I I2)) := by
  have lc := st_lt hc
  have lw := st_low hc
  have hn24 := hG.n24
  intro m
  induction m with
  | zero =>
    intro k hk I1 hR hW hF
    refine X_iload dX1_findWhoMayMove_7 rfl ?_
    refine X_iload dX1_findWhoMayMove_8 rfl ?_
    refine X_icmp_ge (tgt := 100) dX1_findWhoMayMove_9 (by decide) (by omega) (fun c_9 => ?_) (fun c_9 => absurd c_9 (by omega))
    refine X_vret dX1_findWhoMayMove_100 rfl ?_
    rw [show n = k by omega]
    exact ⟨rfl, rfl, rfl, by rw [← show n = k by omega]; exact hR, hW, hF⟩
  | succ m ih =>
    intro k hk I1 hR hW hF
    refine X_iload dX1_findWhoMayMove_7 rfl ?_
    refine X_iload dX1_findWhoMayMove_8 rfl ?_
    refine X_icmp_ge (tgt := 100) dX1_findWhoMayMove_9 (by decide) (by omega) (fun c_9 => absurd c_9 (by omega)) (fun c_9 => ?_)
    refine X_iconst dX1_findWhoMayMove_12 ?_
    refine X_istoreW dX1_findWhoMayMove_13 (by decide) ?_
    dsimp only [List.set]
    refine X_aload dX1_findWhoMayMove_15 rfl ?_
    refine X_getR dX1_findWhoMayMove_16 rfl gf_X1_9 sh_80 (by decide) rfl rf_80_0 ?_
    refine X_iload dX1_findWhoMayMove_19 rfl ?_
    refine X_aload dX1_findWhoMayMove_20 rfl ?_
    refine X_iload dX1_findWhoMayMove_21 rfl ?_
    refine Y_pV dX1_findWhoMayMove_22 cv_X1_49 (sh_st hc) (by omega) (t_wantedShelf hc hR hG k (by omega) rfl) rfl ?_
    refine Y_vS dX1_findWhoMayMove_25 cs_X1_53 (t_putk sh_81 (by decide) _ k (by omega) rfl _) rfl (fun I25 e25 => ?_)
    subst e25
    have hR := hR.up81 (q := 81) (j := k) (z := wt g k) hc (Or.inl rfl)
    refine X_aload dX1_findWhoMayMove_28 rfl ?_
    refine X_getR dX1_findWhoMayMove_29 rfl gf_X1_56 (sh_st hc) (by omega) rfl (rf_st6 hc) ?_
    refine X_iload dX1_findWhoMayMove_32 rfl ?_
    refine Y_pS dX1_findWhoMayMove_33 cs_X1_23 (t_blk4 hc hR hn24 k (by omega) rfl) rfl ?_
    have hb4 := (hG.b (k := k) (by omega)).2.2.2.2
    have hb3 := (hG.b (k := k) (by omega)).2.2.2.1
    have hw := wt_bounds g k
    refine X_if_eq (tgt := 45) dX1_findWhoMayMove_36 (by decide) (by omega) (fun c_36 => ?_) (fun c_36 => ?_)
    · refine X_aload dX1_findWhoMayMove_45 rfl ?_
      refine X_getR dX1_findWhoMayMove_46 rfl gf_X1_59 (sh_st hc) (by omega) rfl (rf_st7 hc) ?_
      refine X_iload dX1_findWhoMayMove_49 rfl ?_
      refine Y_pS dX1_findWhoMayMove_50 cs_X1_23 (t_blk5 hc hR hn24 k (by omega) rfl) rfl ?_
      refine X_if_le (tgt := 62) dX1_findWhoMayMove_53 (by decide) (by omega) (fun c_53 => ?_) (fun c_53 => ?_)
      · refine X_aload dX1_findWhoMayMove_62 rfl ?_
        refine X_getR dX1_findWhoMayMove_63 rfl gf_X1_9 sh_80 (by decide) rfl rf_80_0 ?_
        refine X_iload dX1_findWhoMayMove_66 rfl ?_
        refine Y_pS dX1_findWhoMayMove_67 cs_X1_23 (t_atk sh_81 (Or.inl (by decide)) _ k (by omega) rfl) rfl ?_
        rw [x_up_same]
        refine X_aload dX1_findWhoMayMove_70 rfl ?_
        refine X_getR dX1_findWhoMayMove_71 rfl gf_X1_62 (sh_st hc) (by omega) rfl (rf_st5 hc) ?_
        refine X_iload dX1_findWhoMayMove_74 rfl ?_
        refine Y_pS dX1_findWhoMayMove_75 cs_X1_23 (t_blk3 hc hR hn24 k (by omega) rfl) rfl ?_
        refine X_icmp_ne (tgt := 84) dX1_findWhoMayMove_78 (by decide) (by omega) (fun c_78 => ?_) (fun c_78 => ?_)
        · have er : rs g k = 4 := by
            unfold rs
            first
              | rw [if_neg (by omega)]
              | rw [if_pos (by omega), if_neg (by omega)]
              | rw [if_pos (by omega), if_pos (by omega), if_pos (by omega)]
              | rw [if_pos (by omega), if_pos (by omega), if_neg (by omega)]
          refine X_aload dX1_findWhoMayMove_84 rfl ?_
          refine X_getR dX1_findWhoMayMove_85 rfl gf_X1_15 sh_80 (by decide) rfl rf_80_1 ?_
          refine X_iload dX1_findWhoMayMove_88 rfl ?_
          refine X_iloadW dX1_findWhoMayMove_89 rfl ?_
          refine Y_vS dX1_findWhoMayMove_91 cs_X1_53 (t_putk sh_82 (by decide) _ k (by omega) rfl _) rfl (fun I91 e91 => ?_)
          subst e91
          have hR := hR.up81 (q := 82) (j := k) (z := 4) hc (Or.inr rfl)
          refine X_iinc dX1_findWhoMayMove_94 rfl ?_
          dsimp only [List.set]
          refine X_goto (tgt := 7) dX1_findWhoMayMove_97 (by decide) ?_
          refine X_drop 4 ?_
          dsimp only [List.set]
          exact ih (k + 1) (by omega) _ hR (hW.add rfl er.symm) (fun q a b => by rw [x_up_ne b, x_up_ne a]; exact hF q a b)
        · refine X_iconst dX1_findWhoMayMove_81 ?_
          refine X_istoreW dX1_findWhoMayMove_82 (by decide) ?_
          dsimp only [List.set]
          have er : rs g k = 3 := by
            unfold rs
            first
              | rw [if_neg (by omega)]
              | rw [if_pos (by omega), if_neg (by omega)]
              | rw [if_pos (by omega), if_pos (by omega), if_pos (by omega)]
              | rw [if_pos (by omega), if_pos (by omega), if_neg (by omega)]
          refine X_aload dX1_findWhoMayMove_84 rfl ?_
          refine X_getR dX1_findWhoMayMove_85 rfl gf_X1_15 sh_80 (by decide) rfl rf_80_1 ?_
          refine X_iload dX1_findWhoMayMove_88 rfl ?_
          refine X_iloadW dX1_findWhoMayMove_89 rfl ?_
          refine Y_vS dX1_findWhoMayMove_91 cs_X1_53 (t_putk sh_82 (by decide) _ k (by omega) rfl _) rfl (fun I91 e91 => ?_)
          subst e91
          have hR := hR.up81 (q := 82) (j := k) (z := 3) hc (Or.inr rfl)
          refine X_iinc dX1_findWhoMayMove_94 rfl ?_
          dsimp only [List.set]
          refine X_goto (tgt := 7) dX1_findWhoMayMove_97 (by decide) ?_
          refine X_drop 4 ?_
          dsimp only [List.set]
          exact ih (k + 1) (by omega) _ hR (hW.add rfl er.symm) (fun q a b => by rw [x_up_ne b, x_up_ne a]; exact hF q a b)
      · refine X_iconst dX1_findWhoMayMove_56 ?_
        refine X_istoreW dX1_findWhoMayMove_57 (by decide) ?_
        dsimp only [List.set]
        refine X_goto (tgt := 84) dX1_findWhoMayMove_59 (by decide) ?_
        have er : rs g k = 2 := by
          unfold rs
          first
            | rw [if_neg (by omega)]
            | rw [if_pos (by omega), if_neg (by omega)]
            | rw [if_pos (by omega), if_pos (by omega), if_pos (by omega)]
            | rw [if_pos (by omega), if_pos (by omega), if_neg (by omega)]
        refine X_aload dX1_findWhoMayMove_84 rfl ?_
        refine X_getR dX1_findWhoMayMove_85 rfl gf_X1_15 sh_80 (by decide) rfl rf_80_1 ?_
        refine X_iload dX1_findWhoMayMove_88 rfl ?_
        refine X_iloadW dX1_findWhoMayMove_89 rfl ?_
        refine Y_vS dX1_findWhoMayMove_91 cs_X1_53 (t_putk sh_82 (by decide) _ k (by omega) rfl _) rfl (fun I91 e91 => ?_)
        subst e91
        have hR := hR.up81 (q := 82) (j := k) (z := 2) hc (Or.inr rfl)
        refine X_iinc dX1_findWhoMayMove_94 rfl ?_
        dsimp only [List.set]
        refine X_goto (tgt := 7) dX1_findWhoMayMove_97 (by decide) ?_
        refine X_drop 4 ?_
        dsimp only [List.set]
        exact ih (k + 1) (by omega) _ hR (hW.add rfl er.symm) (fun q a b => by rw [x_up_ne b, x_up_ne a]; exact hF q a b)
    · refine X_iconst dX1_findWhoMayMove_39 ?_
      refine X_istoreW dX1_findWhoMayMove_40 (by decide) ?_
      dsimp only [List.set]
      refine X_goto (tgt := 84) dX1_findWhoMayMove_42 (by decide) ?_
      have er : rs g k = 1 := by
        unfold rs
        first
          | rw [if_neg (by omega)]
          | rw [if_pos (by omega), if_neg (by omega)]
          | rw [if_pos (by omega), if_pos (by omega), if_pos (by omega)]
          | rw [if_pos (by omega), if_pos (by omega), if_neg (by omega)]
      refine X_aload dX1_findWhoMayMove_84 rfl ?_
      refine X_getR dX1_findWhoMayMove_85 rfl gf_X1_15 sh_80 (by decide) rfl rf_80_1 ?_
      refine X_iload dX1_findWhoMayMove_88 rfl ?_
      refine X_iloadW dX1_findWhoMayMove_89 rfl ?_
      refine Y_vS dX1_findWhoMayMove_91 cs_X1_53 (t_putk sh_82 (by decide) _ k (by omega) rfl _) rfl (fun I91 e91 => ?_)
      subst e91
      have hR := hR.up81 (q := 82) (j := k) (z := 1) hc (Or.inr rfl)
      refine X_iinc dX1_findWhoMayMove_94 rfl ?_
      dsimp only [List.set]
      refine X_goto (tgt := 7) dX1_findWhoMayMove_97 (by decide) ?_
      refine X_drop 4 ?_
      dsimp only [List.set]
      exact ih (k + 1) (by omega) _ hR (hW.add rfl er.symm) (fun q a b => by rw [x_up_ne b, x_up_ne a]; exact hF q a b)
set_option maxRecDepth 20000 in
set_option maxHeartbeats 4000000 in
theorem t_findWho {I : xI} {c : Nat} {g : Nat → Int} {n : Nat} (hc : x_st c) (hR : RS I c g n) (hG : GI g n) : S kX1_findWhoMayMove 2 [rr 80, rr c] I (q_v (fun I2 => RS I2 c g n ∧ WR I2 n (wt g) (rs g) ∧ FN I I2)) := by
  have lc := st_lt hc
  have lw := st_low hc
  have hn24 := hG.n24
  refine Sp_intro (by decide +kernel) (Nat.le_of_ble_eq_true rfl) ?_
  show Y kX1_findWhoMayMove 2 0 [some (rr 80), some (rr c), none, none, none] [] I _
  refine X_aload dX1_findWhoMayMove_0 rfl ?_
  refine Y_pV dX1_findWhoMayMove_1 cv_X1_45 (sh_st hc) (by omega) (t_countBlocks hc hR hG) rfl ?_
  refine X_istore dX1_findWhoMayMove_4 (by decide) ?_
  dsimp only [List.set]
  refine X_iconst dX1_findWhoMayMove_5 ?_
  refine X_istore dX1_findWhoMayMove_6 (by decide) ?_
  dsimp only [List.set]
  exact t_findWho_loop hc hG n 0 (by omega) I hR (fun k hk => absurd hk (Nat.not_lt_zero k)) (fun _ _ _ => rfl)
def lst (g : Nat → Int) (dn : Bool) (r : Option Nat) : Int := match r with
  | none => 0
  | some q => if dn = true then gb g q 2 else -(gb g q 2)
set_option maxRecDepth 20000 in
set_option maxHeartbeats 4000000 in
theorem t_nextInTurn1_loop {I : xI} {c : Nat} {g : Nat → Int} {n : Nat} (hc : x_st c) (hR : RS I c g n) (hG : GI g n) {w y : Nat → Int} (hW : WR I n w y) (hw : ∀ k, k < n → 0 ≤ w k ∧ w k ≤ 2) (hy : ∀ k, k < n → 0 ≤ y k ∧ y k ≤ 5) : ∀ (m k : Nat), k + m = n → Y kX1_nextInTurn 2 19 [some (rr 80), some (rr c), some (ii 1), some (ii (n : Int)), some (ii (oi (nxF w g y true k) (-1))), some (ii (lst g true (nxF w g y true k))), some (ii (k : Int)), none, none] [] I (q_p (ii (oi (nxF w g y true n) (-1))) I) := by
  have lc := st_lt hc
  have lw := st_low hc
  have hn24 := hG.n24
  intro m
  induction m with
  | zero =>
    intro k hk
    refine X_iloadW dX1_nextInTurn_19 rfl ?_
    refine X_iload dX1_nextInTurn_21 rfl ?_
    refine X_icmp_ge (tgt := 127) dX1_nextInTurn_22 (by decide) (by omega) (fun c_22 => ?_) (fun c_22 => absurd c_22 (by omega))
    refine X_iloadW dX1_nextInTurn_127 rfl ?_
    refine X_iret dX1_nextInTurn_129 (Or.inl rfl) ?_
    exact ⟨by rw [show n = k by omega], rfl, rfl, rfl⟩
  | succ m ih =>
    intro k hk
    rcases hr : nxF w g y true k with _ | q
    · change Y _ _ _ [some (rr 80), some (rr c), some (ii 1), some (ii (n : Int)), some (ii (-1)), some (ii 0), some (ii (k : Int)), none, none] _ _ _
      refine X_iloadW dX1_nextInTurn_19 rfl ?_
      refine X_iload dX1_nextInTurn_21 rfl ?_
      refine X_icmp_ge (tgt := 127) dX1_nextInTurn_22 (by decide) (by omega) (fun c_22 => absurd c_22 (by omega)) (fun c_22 => ?_)
      refine X_aload dX1_nextInTurn_25 rfl ?_
      refine X_getR dX1_nextInTurn_26 rfl gf_X1_9 sh_80 (by decide) rfl rf_80_0 ?_
      refine X_iloadW dX1_nextInTurn_29 rfl ?_
      refine Y_pS dX1_nextInTurn_31 cs_X1_23 (t_atk sh_81 (Or.inl (by decide)) _ k (by omega) rfl) rfl ?_
      rw [(hW k (by omega)).1]
      refine X_aload dX1_nextInTurn_34 rfl ?_
      refine X_getR dX1_nextInTurn_35 rfl gf_X1_62 (sh_st hc) (by omega) rfl (rf_st5 hc) ?_
      refine X_iloadW dX1_nextInTurn_38 rfl ?_
      refine Y_pS dX1_nextInTurn_40 cs_X1_23 (t_blk3 hc hR hn24 k (by omega) rfl) rfl ?_
      have hb3 := (hG.b (k := k) (by omega)).2.2.2.1
      have hb2 := (hG.b (k := k) (by omega)).2.2.1
      have hwk := hw k (by omega)
      have hyk := hy k (by omega)
      refine X_icmp_le (tgt := 50) dX1_nextInTurn_43 (by decide) (by omega) (fun c_43 => ?_) (fun c_43 => ?_)
      · refine X_iconst dX1_nextInTurn_50 ?_
        refine X_istoreW dX1_nextInTurn_51 (by decide) ?_
        dsimp only [List.set]
        refine X_aload dX1_nextInTurn_53 rfl ?_
        refine X_getR dX1_nextInTurn_54 rfl gf_X1_15 sh_80 (by decide) rfl rf_80_1 ?_
        refine X_iloadW dX1_nextInTurn_57 rfl ?_
        refine Y_pS dX1_nextInTurn_59 cs_X1_23 (t_atk sh_82 (Or.inl (by decide)) _ k (by omega) rfl) rfl ?_
        rw [(hW k (by omega)).2]
        refine X_iconst dX1_nextInTurn_62 ?_
        refine X_icmp_ne (tgt := 121) dX1_nextInTurn_63 (by decide) (by omega) (fun c_63 => ?_) (fun c_63 => ?_)
        · refine X_drop 7 ?_
          dsimp only [List.set]
          refine X_drop 8 ?_
          dsimp only [List.set]
          refine X_iinc dX1_nextInTurn_121 rfl ?_
          dsimp only [List.set]
          refine X_goto (tgt := 19) dX1_nextInTurn_124 (by decide) ?_
          have e : nxF w g y true (k + 1) = nxF w g y true k := by
            show (if _ then _ else _) = _
            rw [if_neg (by simp only [cnd, btr, hr, Bool.and_eq_true, decide_eq_true_eq, beq_iff_eq, decide_eq_false_iff_not]; first | omega | (simp; omega))]
          rw [hr] at e
          have h9 := ih (k + 1) (by omega)
          rw [e] at h9
          exact h9
        · refine X_iloadW dX1_nextInTurn_66 rfl ?_
          refine X_iload dX1_nextInTurn_68 rfl ?_
          refine X_icmp_ne (tgt := 121) dX1_nextInTurn_69 (by decide) (by omega) (fun c_69 => ?_) (fun c_69 => ?_)
          · refine X_drop 7 ?_
            dsimp only [List.set]
            refine X_drop 8 ?_
            dsimp only [List.set]
            refine X_iinc dX1_nextInTurn_121 rfl ?_
            dsimp only [List.set]
            refine X_goto (tgt := 19) dX1_nextInTurn_124 (by decide) ?_
            have e : nxF w g y true (k + 1) = nxF w g y true k := by
              show (if _ then _ else _) = _
              rw [if_neg (by simp only [cnd, btr, hr, Bool.and_eq_true, decide_eq_true_eq, beq_iff_eq, decide_eq_false_iff_not]; first | omega | (simp; omega))]
            rw [hr] at e
            have h9 := ih (k + 1) (by omega)
            rw [e] at h9
            exact h9
          · refine X_iload dX1_nextInTurn_72 rfl ?_
            refine X_if_eq (tgt := 88) dX1_nextInTurn_73 (by decide) (by omega) (fun c_73 => absurd c_73 (by omega)) (fun c_73 => ?_)
            refine X_aload dX1_nextInTurn_76 rfl ?_
            refine X_getR dX1_nextInTurn_77 rfl gf_X1_81 (sh_st hc) (by omega) rfl (rf_st4 hc) ?_
            refine X_iloadW dX1_nextInTurn_80 rfl ?_
            refine Y_pS dX1_nextInTurn_82 cs_X1_23 (t_blk2 hc hR hn24 k (by omega) rfl) rfl ?_
            refine X_goto (tgt := 98) dX1_nextInTurn_85 (by decide) ?_
            refine X_istoreW dX1_nextInTurn_98 (by decide) ?_
            dsimp only [List.set]
            refine X_iloadW dX1_nextInTurn_100 rfl ?_
            refine X_iconst dX1_nextInTurn_102 ?_
            refine X_icmp_eq (tgt := 113) dX1_nextInTurn_103 (by decide) (by omega) (fun c_103 => ?_) (fun c_103 => absurd c_103 (by omega))
            refine X_iloadW dX1_nextInTurn_113 rfl ?_
            refine X_istoreW dX1_nextInTurn_115 (by decide) ?_
            dsimp only [List.set]
            refine X_iloadW dX1_nextInTurn_117 rfl ?_
            refine X_istoreW dX1_nextInTurn_119 (by decide) ?_
            dsimp only [List.set]
            refine X_drop 7 ?_
            dsimp only [List.set]
            refine X_drop 8 ?_
            dsimp only [List.set]
            refine X_iinc dX1_nextInTurn_121 rfl ?_
            dsimp only [List.set]
            refine X_goto (tgt := 19) dX1_nextInTurn_124 (by decide) ?_
            have e : nxF w g y true (k + 1) = some k := by
              show (if _ then _ else _) = _
              rw [if_pos (by simp only [cnd, btr, hr, Bool.and_eq_true, decide_eq_true_eq, beq_iff_eq, decide_eq_false_iff_not]; first | omega | exact ⟨⟨by omega, by omega⟩, rfl⟩ | (simp; omega))]
            have h9 := ih (k + 1) (by omega)
            rw [e] at h9
            exact h9
      · refine X_iconst dX1_nextInTurn_46 ?_
        refine X_goto (tgt := 51) dX1_nextInTurn_47 (by decide) ?_
        refine X_istoreW dX1_nextInTurn_51 (by decide) ?_
        dsimp only [List.set]
        refine X_aload dX1_nextInTurn_53 rfl ?_
        refine X_getR dX1_nextInTurn_54 rfl gf_X1_15 sh_80 (by decide) rfl rf_80_1 ?_
        refine X_iloadW dX1_nextInTurn_57 rfl ?_
        refine Y_pS dX1_nextInTurn_59 cs_X1_23 (t_atk sh_82 (Or.inl (by decide)) _ k (by omega) rfl) rfl ?_
        rw [(hW k (by omega)).2]
        refine X_iconst dX1_nextInTurn_62 ?_
        refine X_icmp_ne (tgt := 121) dX1_nextInTurn_63 (by decide) (by omega) (fun c_63 => ?_) (fun c_63 => ?_)
        · refine X_drop 7 ?_
          dsimp only [List.set]
          refine X_drop 8 ?_
          dsimp only [List.set]
          refine X_iinc dX1_nextInTurn_121 rfl ?_
          dsimp only [List.set]
          refine X_goto (tgt := 19) dX1_nextInTurn_124 (by decide) ?_
          have e : nxF w g y true (k + 1) = nxF w g y true k := by
            show (if _ then _ else _) = _
            rw [if_neg (by simp only [cnd, btr, hr, Bool.and_eq_true, decide_eq_true_eq, beq_iff_eq, decide_eq_false_iff_not]; first | omega | (simp; omega))]
          rw [hr] at e
          have h9 := ih (k + 1) (by omega)
          rw [e] at h9
          exact h9
        · refine X_iloadW dX1_nextInTurn_66 rfl ?_
          refine X_iload dX1_nextInTurn_68 rfl ?_
          refine X_icmp_ne (tgt := 121) dX1_nextInTurn_69 (by decide) (by omega) (fun c_69 => ?_) (fun c_69 => ?_)
          · refine X_drop 7 ?_
            dsimp only [List.set]
            refine X_drop 8 ?_
            dsimp only [List.set]
            refine X_iinc dX1_nextInTurn_121 rfl ?_
            dsimp only [List.set]
            refine X_goto (tgt := 19) dX1_nextInTurn_124 (by decide) ?_
            have e : nxF w g y true (k + 1) = nxF w g y true k := by
              show (if _ then _ else _) = _
              rw [if_neg (by simp only [cnd, btr, hr, Bool.and_eq_true, decide_eq_true_eq, beq_iff_eq, decide_eq_false_iff_not]; first | omega | (simp; omega))]
            rw [hr] at e
            have h9 := ih (k + 1) (by omega)
            rw [e] at h9
            exact h9
          · refine X_iload dX1_nextInTurn_72 rfl ?_
            refine X_if_eq (tgt := 88) dX1_nextInTurn_73 (by decide) (by omega) (fun c_73 => absurd c_73 (by omega)) (fun c_73 => ?_)
            refine X_aload dX1_nextInTurn_76 rfl ?_
            refine X_getR dX1_nextInTurn_77 rfl gf_X1_81 (sh_st hc) (by omega) rfl (rf_st4 hc) ?_
            refine X_iloadW dX1_nextInTurn_80 rfl ?_
            refine Y_pS dX1_nextInTurn_82 cs_X1_23 (t_blk2 hc hR hn24 k (by omega) rfl) rfl ?_
            refine X_goto (tgt := 98) dX1_nextInTurn_85 (by decide) ?_
            refine X_istoreW dX1_nextInTurn_98 (by decide) ?_
            dsimp only [List.set]
            refine X_iloadW dX1_nextInTurn_100 rfl ?_
            refine X_iconst dX1_nextInTurn_102 ?_
            refine X_icmp_eq (tgt := 113) dX1_nextInTurn_103 (by decide) (by omega) (fun c_103 => ?_) (fun c_103 => absurd c_103 (by omega))
            refine X_iloadW dX1_nextInTurn_113 rfl ?_
            refine X_istoreW dX1_nextInTurn_115 (by decide) ?_
            dsimp only [List.set]
            refine X_iloadW dX1_nextInTurn_117 rfl ?_
            refine X_istoreW dX1_nextInTurn_119 (by decide) ?_
            dsimp only [List.set]
            refine X_drop 7 ?_
            dsimp only [List.set]
            refine X_drop 8 ?_
            dsimp only [List.set]
            refine X_iinc dX1_nextInTurn_121 rfl ?_
            dsimp only [List.set]
            refine X_goto (tgt := 19) dX1_nextInTurn_124 (by decide) ?_
            have e : nxF w g y true (k + 1) = some k := by
              show (if _ then _ else _) = _
              rw [if_pos (by simp only [cnd, btr, hr, Bool.and_eq_true, decide_eq_true_eq, beq_iff_eq, decide_eq_false_iff_not]; first | omega | exact ⟨⟨by omega, by omega⟩, rfl⟩ | (simp; omega))]
            have h9 := ih (k + 1) (by omega)
            rw [e] at h9
            exact h9
    · have hq : q < n := by have := (nxF_lt hr).1; omega
      change Y _ _ _ [some (rr 80), some (rr c), some (ii 1), some (ii (n : Int)), some (ii ((q : Nat) : Int)), some (ii (gb g q 2)), some (ii (k : Int)), none, none] _ _ _
      refine X_iloadW dX1_nextInTurn_19 rfl ?_
      refine X_iload dX1_nextInTurn_21 rfl ?_
      refine X_icmp_ge (tgt := 127) dX1_nextInTurn_22 (by decide) (by omega) (fun c_22 => absurd c_22 (by omega)) (fun c_22 => ?_)
      refine X_aload dX1_nextInTurn_25 rfl ?_
      refine X_getR dX1_nextInTurn_26 rfl gf_X1_9 sh_80 (by decide) rfl rf_80_0 ?_
      refine X_iloadW dX1_nextInTurn_29 rfl ?_
      refine Y_pS dX1_nextInTurn_31 cs_X1_23 (t_atk sh_81 (Or.inl (by decide)) _ k (by omega) rfl) rfl ?_
      rw [(hW k (by omega)).1]
      refine X_aload dX1_nextInTurn_34 rfl ?_
      refine X_getR dX1_nextInTurn_35 rfl gf_X1_62 (sh_st hc) (by omega) rfl (rf_st5 hc) ?_
      refine X_iloadW dX1_nextInTurn_38 rfl ?_
      refine Y_pS dX1_nextInTurn_40 cs_X1_23 (t_blk3 hc hR hn24 k (by omega) rfl) rfl ?_
      have hb3 := (hG.b (k := k) (by omega)).2.2.2.1
      have hb2 := (hG.b (k := k) (by omega)).2.2.1
      have hwk := hw k (by omega)
      have hyk := hy k (by omega)
      refine X_icmp_le (tgt := 50) dX1_nextInTurn_43 (by decide) (by omega) (fun c_43 => ?_) (fun c_43 => ?_)
      · refine X_iconst dX1_nextInTurn_50 ?_
        refine X_istoreW dX1_nextInTurn_51 (by decide) ?_
        dsimp only [List.set]
        refine X_aload dX1_nextInTurn_53 rfl ?_
        refine X_getR dX1_nextInTurn_54 rfl gf_X1_15 sh_80 (by decide) rfl rf_80_1 ?_
        refine X_iloadW dX1_nextInTurn_57 rfl ?_
        refine Y_pS dX1_nextInTurn_59 cs_X1_23 (t_atk sh_82 (Or.inl (by decide)) _ k (by omega) rfl) rfl ?_
        rw [(hW k (by omega)).2]
        refine X_iconst dX1_nextInTurn_62 ?_
        refine X_icmp_ne (tgt := 121) dX1_nextInTurn_63 (by decide) (by omega) (fun c_63 => ?_) (fun c_63 => ?_)
        · refine X_drop 7 ?_
          dsimp only [List.set]
          refine X_drop 8 ?_
          dsimp only [List.set]
          refine X_iinc dX1_nextInTurn_121 rfl ?_
          dsimp only [List.set]
          refine X_goto (tgt := 19) dX1_nextInTurn_124 (by decide) ?_
          have e : nxF w g y true (k + 1) = nxF w g y true k := by
            show (if _ then _ else _) = _
            rw [if_neg (by simp only [cnd, btr, hr, Bool.and_eq_true, decide_eq_true_eq, beq_iff_eq, decide_eq_false_iff_not]; first | omega | (simp; omega))]
          rw [hr] at e
          have h9 := ih (k + 1) (by omega)
          rw [e] at h9
          exact h9
        · refine X_iloadW dX1_nextInTurn_66 rfl ?_
          refine X_iload dX1_nextInTurn_68 rfl ?_
          refine X_icmp_ne (tgt := 121) dX1_nextInTurn_69 (by decide) (by omega) (fun c_69 => ?_) (fun c_69 => ?_)
          · refine X_drop 7 ?_
            dsimp only [List.set]
            refine X_drop 8 ?_
            dsimp only [List.set]
            refine X_iinc dX1_nextInTurn_121 rfl ?_
            dsimp only [List.set]
            refine X_goto (tgt := 19) dX1_nextInTurn_124 (by decide) ?_
            have e : nxF w g y true (k + 1) = nxF w g y true k := by
              show (if _ then _ else _) = _
              rw [if_neg (by simp only [cnd, btr, hr, Bool.and_eq_true, decide_eq_true_eq, beq_iff_eq, decide_eq_false_iff_not]; first | omega | (simp; omega))]
            rw [hr] at e
            have h9 := ih (k + 1) (by omega)
            rw [e] at h9
            exact h9
          · refine X_iload dX1_nextInTurn_72 rfl ?_
            refine X_if_eq (tgt := 88) dX1_nextInTurn_73 (by decide) (by omega) (fun c_73 => absurd c_73 (by omega)) (fun c_73 => ?_)
            refine X_aload dX1_nextInTurn_76 rfl ?_
            refine X_getR dX1_nextInTurn_77 rfl gf_X1_81 (sh_st hc) (by omega) rfl (rf_st4 hc) ?_
            refine X_iloadW dX1_nextInTurn_80 rfl ?_
            refine Y_pS dX1_nextInTurn_82 cs_X1_23 (t_blk2 hc hR hn24 k (by omega) rfl) rfl ?_
            refine X_goto (tgt := 98) dX1_nextInTurn_85 (by decide) ?_
            refine X_istoreW dX1_nextInTurn_98 (by decide) ?_
            dsimp only [List.set]
            refine X_iloadW dX1_nextInTurn_100 rfl ?_
            refine X_iconst dX1_nextInTurn_102 ?_
            refine X_icmp_eq (tgt := 113) dX1_nextInTurn_103 (by decide) (by omega) (fun c_103 => absurd c_103 (by omega)) (fun c_103 => ?_)
            refine X_iloadW dX1_nextInTurn_106 rfl ?_
            refine X_iloadW dX1_nextInTurn_108 rfl ?_
            have hq2 := (hG.b (k := q) hq).2.2.1
            refine X_icmp_ge (tgt := 121) dX1_nextInTurn_110 (by decide) (by omega) (fun c_110 => ?_) (fun c_110 => ?_)
            · refine X_drop 7 ?_
              dsimp only [List.set]
              refine X_drop 8 ?_
              dsimp only [List.set]
              refine X_iinc dX1_nextInTurn_121 rfl ?_
              dsimp only [List.set]
              refine X_goto (tgt := 19) dX1_nextInTurn_124 (by decide) ?_
              have e : nxF w g y true (k + 1) = nxF w g y true k := by
                show (if _ then _ else _) = _
                rw [if_neg (by simp only [cnd, btr, hr, Bool.and_eq_true, decide_eq_true_eq, beq_iff_eq, decide_eq_false_iff_not]; first | omega | (simp; omega))]
              rw [hr] at e
              have h9 := ih (k + 1) (by omega)
              rw [e] at h9
              exact h9
            · refine X_iloadW dX1_nextInTurn_113 rfl ?_
              refine X_istoreW dX1_nextInTurn_115 (by decide) ?_
              dsimp only [List.set]
              refine X_iloadW dX1_nextInTurn_117 rfl ?_
              refine X_istoreW dX1_nextInTurn_119 (by decide) ?_
              dsimp only [List.set]
              refine X_drop 7 ?_
              dsimp only [List.set]
              refine X_drop 8 ?_
              dsimp only [List.set]
              refine X_iinc dX1_nextInTurn_121 rfl ?_
              dsimp only [List.set]
              refine X_goto (tgt := 19) dX1_nextInTurn_124 (by decide) ?_
              have e : nxF w g y true (k + 1) = some k := by
                show (if _ then _ else _) = _
                rw [if_pos (by simp only [cnd, btr, hr, Bool.and_eq_true, decide_eq_true_eq, beq_iff_eq, decide_eq_false_iff_not]; first | omega | exact ⟨⟨by omega, by omega⟩, rfl⟩ | (simp; omega))]
              have h9 := ih (k + 1) (by omega)
              rw [e] at h9
              exact h9
      · refine X_iconst dX1_nextInTurn_46 ?_
        refine X_goto (tgt := 51) dX1_nextInTurn_47 (by decide) ?_
        refine X_istoreW dX1_nextInTurn_51 (by decide) ?_
        dsimp only [List.set]
        refine X_aload dX1_nextInTurn_53 rfl ?_
        refine X_getR dX1_nextInTurn_54 rfl gf_X1_15 sh_80 (by decide) rfl rf_80_1 ?_
        refine X_iloadW dX1_nextInTurn_57 rfl ?_
        refine Y_pS dX1_nextInTurn_59 cs_X1_23 (t_atk sh_82 (Or.inl (by decide)) _ k (by omega) rfl) rfl ?_
        rw [(hW k (by omega)).2]
        refine X_iconst dX1_nextInTurn_62 ?_
        refine X_icmp_ne (tgt := 121) dX1_nextInTurn_63 (by decide) (by omega) (fun c_63 => ?_) (fun c_63 => ?_)
        · refine X_drop 7 ?_
          dsimp only [List.set]
          refine X_drop 8 ?_
          dsimp only [List.set]
          refine X_iinc dX1_nextInTurn_121 rfl ?_
          dsimp only [List.set]
          refine X_goto (tgt := 19) dX1_nextInTurn_124 (by decide) ?_
          have e : nxF w g y true (k + 1) = nxF w g y true k := by
            show (if _ then _ else _) = _
            rw [if_neg (by simp only [cnd, btr, hr, Bool.and_eq_true, decide_eq_true_eq, beq_iff_eq, decide_eq_false_iff_not]; first | omega | (simp; omega))]
          rw [hr] at e
          have h9 := ih (k + 1) (by omega)
          rw [e] at h9
          exact h9
        · refine X_iloadW dX1_nextInTurn_66 rfl ?_
          refine X_iload dX1_nextInTurn_68 rfl ?_
          refine X_icmp_ne (tgt := 121) dX1_nextInTurn_69 (by decide) (by omega) (fun c_69 => ?_) (fun c_69 => ?_)
          · refine X_drop 7 ?_
            dsimp only [List.set]
            refine X_drop 8 ?_
            dsimp only [List.set]
            refine X_iinc dX1_nextInTurn_121 rfl ?_
            dsimp only [List.set]
            refine X_goto (tgt := 19) dX1_nextInTurn_124 (by decide) ?_
            have e : nxF w g y true (k + 1) = nxF w g y true k := by
              show (if _ then _ else _) = _
              rw [if_neg (by simp only [cnd, btr, hr, Bool.and_eq_true, decide_eq_true_eq, beq_iff_eq, decide_eq_false_iff_not]; first | omega | (simp; omega))]
            rw [hr] at e
            have h9 := ih (k + 1) (by omega)
            rw [e] at h9
            exact h9
          · refine X_iload dX1_nextInTurn_72 rfl ?_
            refine X_if_eq (tgt := 88) dX1_nextInTurn_73 (by decide) (by omega) (fun c_73 => absurd c_73 (by omega)) (fun c_73 => ?_)
            refine X_aload dX1_nextInTurn_76 rfl ?_
            refine X_getR dX1_nextInTurn_77 rfl gf_X1_81 (sh_st hc) (by omega) rfl (rf_st4 hc) ?_
            refine X_iloadW dX1_nextInTurn_80 rfl ?_
            refine Y_pS dX1_nextInTurn_82 cs_X1_23 (t_blk2 hc hR hn24 k (by omega) rfl) rfl ?_
            refine X_goto (tgt := 98) dX1_nextInTurn_85 (by decide) ?_
            refine X_istoreW dX1_nextInTurn_98 (by decide) ?_
            dsimp only [List.set]
            refine X_iloadW dX1_nextInTurn_100 rfl ?_
            refine X_iconst dX1_nextInTurn_102 ?_
            refine X_icmp_eq (tgt := 113) dX1_nextInTurn_103 (by decide) (by omega) (fun c_103 => absurd c_103 (by omega)) (fun c_103 => ?_)
            refine X_iloadW dX1_nextInTurn_106 rfl ?_
            refine X_iloadW dX1_nextInTurn_108 rfl ?_
            have hq2 := (hG.b (k := q) hq).2.2.1
            refine X_icmp_ge (tgt := 121) dX1_nextInTurn_110 (by decide) (by omega) (fun c_110 => ?_) (fun c_110 => ?_)
            · refine X_drop 7 ?_
              dsimp only [List.set]
              refine X_drop 8 ?_
              dsimp only [List.set]
              refine X_iinc dX1_nextInTurn_121 rfl ?_
              dsimp only [List.set]
              refine X_goto (tgt := 19) dX1_nextInTurn_124 (by decide) ?_
              have e : nxF w g y true (k + 1) = nxF w g y true k := by
                show (if _ then _ else _) = _
                rw [if_neg (by simp only [cnd, btr, hr, Bool.and_eq_true, decide_eq_true_eq, beq_iff_eq, decide_eq_false_iff_not]; first | omega | (simp; omega))]
              rw [hr] at e
              have h9 := ih (k + 1) (by omega)
              rw [e] at h9
              exact h9
            · refine X_iloadW dX1_nextInTurn_113 rfl ?_
              refine X_istoreW dX1_nextInTurn_115 (by decide) ?_
              dsimp only [List.set]
              refine X_iloadW dX1_nextInTurn_117 rfl ?_
              refine X_istoreW dX1_nextInTurn_119 (by decide) ?_
              dsimp only [List.set]
              refine X_drop 7 ?_
              dsimp only [List.set]
              refine X_drop 8 ?_
              dsimp only [List.set]
              refine X_iinc dX1_nextInTurn_121 rfl ?_
              dsimp only [List.set]
              refine X_goto (tgt := 19) dX1_nextInTurn_124 (by decide) ?_
              have e : nxF w g y true (k + 1) = some k := by
                show (if _ then _ else _) = _
                rw [if_pos (by simp only [cnd, btr, hr, Bool.and_eq_true, decide_eq_true_eq, beq_iff_eq, decide_eq_false_iff_not]; first | omega | exact ⟨⟨by omega, by omega⟩, rfl⟩ | (simp; omega))]
              have h9 := ih (k + 1) (by omega)
              rw [e] at h9
              exact h9
set_option maxRecDepth 20000 in
set_option maxHeartbeats 4000000 in
theorem t_nextInTurn1 {I : xI} {c : Nat} {g : Nat → Int} {n : Nat} (hc : x_st c) (hR : RS I c g n) (hG : GI g n) {w y : Nat → Int} (hW : WR I n w y) (hw : ∀ k, k < n → 0 ≤ w k ∧ w k ≤ 2) (hy : ∀ k, k < n → 0 ≤ y k ∧ y k ≤ 5) : S kX1_nextInTurn 2 [rr 80, rr c, ii 1] I (q_p (ii (oi (nxF w g y true n) (-1))) I) := by
  have lc := st_lt hc
  have lw := st_low hc
  have hn24 := hG.n24
  refine Sp_intro (by decide +kernel) (Nat.le_of_ble_eq_true rfl) ?_
  show Y kX1_nextInTurn 2 0 [some (rr 80), some (rr c), some (ii 1), none, none, none, none, none, none] [] I _
  refine X_aload dX1_nextInTurn_0 rfl ?_
  refine X_getR dX1_nextInTurn_1 rfl gf_X1_18 (sh_st hc) (by omega) rfl (rf_st0 hc) ?_
  refine X_bipush dX1_nextInTurn_4 (by decide) ?_
  refine Y_pS dX1_nextInTurn_6 cs_X1_23 (t_num hc hR 15 (by decide) rfl) rfl ?_
  refine X_istore dX1_nextInTurn_9 (by decide) ?_
  dsimp only [List.set]
  refine X_iconst dX1_nextInTurn_10 ?_
  refine X_istoreW dX1_nextInTurn_11 (by decide) ?_
  dsimp only [List.set]
  refine X_iconst dX1_nextInTurn_13 ?_
  refine X_istoreW dX1_nextInTurn_14 (by decide) ?_
  dsimp only [List.set]
  refine X_iconst dX1_nextInTurn_16 ?_
  refine X_istoreW dX1_nextInTurn_17 (by decide) ?_
  dsimp only [List.set]
  rw [hG.g15]
  exact t_nextInTurn1_loop hc hR hG hW hw hy n 0 (by omega)
set_option maxRecDepth 20000 in
set_option maxHeartbeats 4000000 in
theorem t_nextInTurn0_loop {I : xI} {c : Nat} {g : Nat → Int} {n : Nat} (hc : x_st c) (hR : RS I c g n) (hG : GI g n) {w y : Nat → Int} (hW : WR I n w y) (hw : ∀ k, k < n → 0 ≤ w k ∧ w k ≤ 2) (hy : ∀ k, k < n → 0 ≤ y k ∧ y k ≤ 5) : ∀ (m k : Nat), k + m = n → Y kX1_nextInTurn 2 19 [some (rr 80), some (rr c), some (ii 0), some (ii (n : Int)), some (ii (oi (nxF w g y false k) (-1))), some (ii (lst g false (nxF w g y false k))), some (ii (k : Int)), none, none] [] I (q_p (ii (oi (nxF w g y false n) (-1))) I) := by
  have lc := st_lt hc
  have lw := st_low hc
  have hn24 := hG.n24
  intro m
  induction m with
  | zero =>
    intro k hk
    refine X_iloadW dX1_nextInTurn_19 rfl ?_
    refine X_iload dX1_nextInTurn_21 rfl ?_
    refine X_icmp_ge (tgt := 127) dX1_nextInTurn_22 (by decide) (by omega) (fun c_22 => ?_) (fun c_22 => absurd c_22 (by omega))
    refine X_iloadW dX1_nextInTurn_127 rfl ?_
    refine X_iret dX1_nextInTurn_129 (Or.inl rfl) ?_
    exact ⟨by rw [show n = k by omega], rfl, rfl, rfl⟩
  | succ m ih =>
    intro k hk
    rcases hr : nxF w g y false k with _ | q
    · change Y _ _ _ [some (rr 80), some (rr c), some (ii 0), some (ii (n : Int)), some (ii (-1)), some (ii 0), some (ii (k : Int)), none, none] _ _ _
      refine X_iloadW dX1_nextInTurn_19 rfl ?_
      refine X_iload dX1_nextInTurn_21 rfl ?_
      refine X_icmp_ge (tgt := 127) dX1_nextInTurn_22 (by decide) (by omega) (fun c_22 => absurd c_22 (by omega)) (fun c_22 => ?_)
      refine X_aload dX1_nextInTurn_25 rfl ?_
      refine X_getR dX1_nextInTurn_26 rfl gf_X1_9 sh_80 (by decide) rfl rf_80_0 ?_
      refine X_iloadW dX1_nextInTurn_29 rfl ?_
      refine Y_pS dX1_nextInTurn_31 cs_X1_23 (t_atk sh_81 (Or.inl (by decide)) _ k (by omega) rfl) rfl ?_
      rw [(hW k (by omega)).1]
      refine X_aload dX1_nextInTurn_34 rfl ?_
      refine X_getR dX1_nextInTurn_35 rfl gf_X1_62 (sh_st hc) (by omega) rfl (rf_st5 hc) ?_
      refine X_iloadW dX1_nextInTurn_38 rfl ?_
      refine Y_pS dX1_nextInTurn_40 cs_X1_23 (t_blk3 hc hR hn24 k (by omega) rfl) rfl ?_
      have hb3 := (hG.b (k := k) (by omega)).2.2.2.1
      have hb2 := (hG.b (k := k) (by omega)).2.2.1
      have hwk := hw k (by omega)
      have hyk := hy k (by omega)
      refine X_icmp_le (tgt := 50) dX1_nextInTurn_43 (by decide) (by omega) (fun c_43 => ?_) (fun c_43 => ?_)
      · refine X_iconst dX1_nextInTurn_50 ?_
        refine X_istoreW dX1_nextInTurn_51 (by decide) ?_
        dsimp only [List.set]
        refine X_aload dX1_nextInTurn_53 rfl ?_
        refine X_getR dX1_nextInTurn_54 rfl gf_X1_15 sh_80 (by decide) rfl rf_80_1 ?_
        refine X_iloadW dX1_nextInTurn_57 rfl ?_
        refine Y_pS dX1_nextInTurn_59 cs_X1_23 (t_atk sh_82 (Or.inl (by decide)) _ k (by omega) rfl) rfl ?_
        rw [(hW k (by omega)).2]
        refine X_iconst dX1_nextInTurn_62 ?_
        refine X_icmp_ne (tgt := 121) dX1_nextInTurn_63 (by decide) (by omega) (fun c_63 => ?_) (fun c_63 => ?_)
        · refine X_drop 7 ?_
          dsimp only [List.set]
          refine X_drop 8 ?_
          dsimp only [List.set]
          refine X_iinc dX1_nextInTurn_121 rfl ?_
          dsimp only [List.set]
          refine X_goto (tgt := 19) dX1_nextInTurn_124 (by decide) ?_
          have e : nxF w g y false (k + 1) = nxF w g y false k := by
            show (if _ then _ else _) = _
            rw [if_neg (by simp only [cnd, btr, hr, Bool.and_eq_true, decide_eq_true_eq, beq_iff_eq, decide_eq_false_iff_not]; first | omega | (simp; omega))]
          rw [hr] at e
          have h9 := ih (k + 1) (by omega)
          rw [e] at h9
          exact h9
        · refine X_iloadW dX1_nextInTurn_66 rfl ?_
          refine X_iload dX1_nextInTurn_68 rfl ?_
          refine X_icmp_ne (tgt := 121) dX1_nextInTurn_69 (by decide) (by omega) (fun c_69 => ?_) (fun c_69 => ?_)
          · refine X_drop 7 ?_
            dsimp only [List.set]
            refine X_drop 8 ?_
            dsimp only [List.set]
            refine X_iinc dX1_nextInTurn_121 rfl ?_
            dsimp only [List.set]
            refine X_goto (tgt := 19) dX1_nextInTurn_124 (by decide) ?_
            have e : nxF w g y false (k + 1) = nxF w g y false k := by
              show (if _ then _ else _) = _
              rw [if_neg (by simp only [cnd, btr, hr, Bool.and_eq_true, decide_eq_true_eq, beq_iff_eq, decide_eq_false_iff_not]; first | omega | (simp; omega))]
            rw [hr] at e
            have h9 := ih (k + 1) (by omega)
            rw [e] at h9
            exact h9
          · refine X_iload dX1_nextInTurn_72 rfl ?_
            refine X_if_eq (tgt := 88) dX1_nextInTurn_73 (by decide) (by omega) (fun c_73 => ?_) (fun c_73 => absurd c_73 (by omega))
            refine X_aload dX1_nextInTurn_88 rfl ?_
            refine X_getR dX1_nextInTurn_89 rfl gf_X1_81 (sh_st hc) (by omega) rfl (rf_st4 hc) ?_
            refine X_iloadW dX1_nextInTurn_92 rfl ?_
            refine Y_pS dX1_nextInTurn_94 cs_X1_23 (t_blk2 hc hR hn24 k (by omega) rfl) rfl ?_
            refine X_ineg dX1_nextInTurn_97 ?_
            refine X_istoreW dX1_nextInTurn_98 (by decide) ?_
            dsimp only [List.set]
            refine X_iloadW dX1_nextInTurn_100 rfl ?_
            refine X_iconst dX1_nextInTurn_102 ?_
            refine X_icmp_eq (tgt := 113) dX1_nextInTurn_103 (by decide) (by omega) (fun c_103 => ?_) (fun c_103 => absurd c_103 (by omega))
            refine X_iloadW dX1_nextInTurn_113 rfl ?_
            refine X_istoreW dX1_nextInTurn_115 (by decide) ?_
            dsimp only [List.set]
            refine X_iloadW dX1_nextInTurn_117 rfl ?_
            refine X_istoreW dX1_nextInTurn_119 (by decide) ?_
            dsimp only [List.set]
            refine X_drop 7 ?_
            dsimp only [List.set]
            refine X_drop 8 ?_
            dsimp only [List.set]
            refine X_iinc dX1_nextInTurn_121 rfl ?_
            dsimp only [List.set]
            refine X_goto (tgt := 19) dX1_nextInTurn_124 (by decide) ?_
            have e : nxF w g y false (k + 1) = some k := by
              show (if _ then _ else _) = _
              rw [if_pos (by simp only [cnd, btr, hr, Bool.and_eq_true, decide_eq_true_eq, beq_iff_eq, decide_eq_false_iff_not]; first | omega | exact ⟨⟨by omega, by omega⟩, rfl⟩ | (simp; omega))]
            have h9 := ih (k + 1) (by omega)
            rw [e] at h9
            exact h9
      · refine X_iconst dX1_nextInTurn_46 ?_
        refine X_goto (tgt := 51) dX1_nextInTurn_47 (by decide) ?_
        refine X_istoreW dX1_nextInTurn_51 (by decide) ?_
        dsimp only [List.set]
        refine X_aload dX1_nextInTurn_53 rfl ?_
        refine X_getR dX1_nextInTurn_54 rfl gf_X1_15 sh_80 (by decide) rfl rf_80_1 ?_
        refine X_iloadW dX1_nextInTurn_57 rfl ?_
        refine Y_pS dX1_nextInTurn_59 cs_X1_23 (t_atk sh_82 (Or.inl (by decide)) _ k (by omega) rfl) rfl ?_
        rw [(hW k (by omega)).2]
        refine X_iconst dX1_nextInTurn_62 ?_
        refine X_icmp_ne (tgt := 121) dX1_nextInTurn_63 (by decide) (by omega) (fun c_63 => ?_) (fun c_63 => ?_)
        · refine X_drop 7 ?_
          dsimp only [List.set]
          refine X_drop 8 ?_
          dsimp only [List.set]
          refine X_iinc dX1_nextInTurn_121 rfl ?_
          dsimp only [List.set]
          refine X_goto (tgt := 19) dX1_nextInTurn_124 (by decide) ?_
          have e : nxF w g y false (k + 1) = nxF w g y false k := by
            show (if _ then _ else _) = _
            rw [if_neg (by simp only [cnd, btr, hr, Bool.and_eq_true, decide_eq_true_eq, beq_iff_eq, decide_eq_false_iff_not]; first | omega | (simp; omega))]
          rw [hr] at e
          have h9 := ih (k + 1) (by omega)
          rw [e] at h9
          exact h9
        · refine X_iloadW dX1_nextInTurn_66 rfl ?_
          refine X_iload dX1_nextInTurn_68 rfl ?_
          refine X_icmp_ne (tgt := 121) dX1_nextInTurn_69 (by decide) (by omega) (fun c_69 => ?_) (fun c_69 => ?_)
          · refine X_drop 7 ?_
            dsimp only [List.set]
            refine X_drop 8 ?_
            dsimp only [List.set]
            refine X_iinc dX1_nextInTurn_121 rfl ?_
            dsimp only [List.set]
            refine X_goto (tgt := 19) dX1_nextInTurn_124 (by decide) ?_
            have e : nxF w g y false (k + 1) = nxF w g y false k := by
              show (if _ then _ else _) = _
              rw [if_neg (by simp only [cnd, btr, hr, Bool.and_eq_true, decide_eq_true_eq, beq_iff_eq, decide_eq_false_iff_not]; first | omega | (simp; omega))]
            rw [hr] at e
            have h9 := ih (k + 1) (by omega)
            rw [e] at h9
            exact h9
          · refine X_iload dX1_nextInTurn_72 rfl ?_
            refine X_if_eq (tgt := 88) dX1_nextInTurn_73 (by decide) (by omega) (fun c_73 => ?_) (fun c_73 => absurd c_73 (by omega))
            refine X_aload dX1_nextInTurn_88 rfl ?_
            refine X_getR dX1_nextInTurn_89 rfl gf_X1_81 (sh_st hc) (by omega) rfl (rf_st4 hc) ?_
            refine X_iloadW dX1_nextInTurn_92 rfl ?_
            refine Y_pS dX1_nextInTurn_94 cs_X1_23 (t_blk2 hc hR hn24 k (by omega) rfl) rfl ?_
            refine X_ineg dX1_nextInTurn_97 ?_
            refine X_istoreW dX1_nextInTurn_98 (by decide) ?_
            dsimp only [List.set]
            refine X_iloadW dX1_nextInTurn_100 rfl ?_
            refine X_iconst dX1_nextInTurn_102 ?_
            refine X_icmp_eq (tgt := 113) dX1_nextInTurn_103 (by decide) (by omega) (fun c_103 => ?_) (fun c_103 => absurd c_103 (by omega))
            refine X_iloadW dX1_nextInTurn_113 rfl ?_
            refine X_istoreW dX1_nextInTurn_115 (by decide) ?_
            dsimp only [List.set]
            refine X_iloadW dX1_nextInTurn_117 rfl ?_
            refine X_istoreW dX1_nextInTurn_119 (by decide) ?_
            dsimp only [List.set]
            refine X_drop 7 ?_
            dsimp only [List.set]
            refine X_drop 8 ?_
            dsimp only [List.set]
            refine X_iinc dX1_nextInTurn_121 rfl ?_
            dsimp only [List.set]
            refine X_goto (tgt := 19) dX1_nextInTurn_124 (by decide) ?_
            have e : nxF w g y false (k + 1) = some k := by
              show (if _ then _ else _) = _
              rw [if_pos (by simp only [cnd, btr, hr, Bool.and_eq_true, decide_eq_true_eq, beq_iff_eq, decide_eq_false_iff_not]; first | omega | exact ⟨⟨by omega, by omega⟩, rfl⟩ | (simp; omega))]
            have h9 := ih (k + 1) (by omega)
            rw [e] at h9
            exact h9
    · have hq : q < n := by have := (nxF_lt hr).1; omega
      change Y _ _ _ [some (rr 80), some (rr c), some (ii 0), some (ii (n : Int)), some (ii ((q : Nat) : Int)), some (ii (-(gb g q 2))), some (ii (k : Int)), none, none] _ _ _
      refine X_iloadW dX1_nextInTurn_19 rfl ?_
      refine X_iload dX1_nextInTurn_21 rfl ?_
      refine X_icmp_ge (tgt := 127) dX1_nextInTurn_22 (by decide) (by omega) (fun c_22 => absurd c_22 (by omega)) (fun c_22 => ?_)
      refine X_aload dX1_nextInTurn_25 rfl ?_
      refine X_getR dX1_nextInTurn_26 rfl gf_X1_9 sh_80 (by decide) rfl rf_80_0 ?_
      refine X_iloadW dX1_nextInTurn_29 rfl ?_
      refine Y_pS dX1_nextInTurn_31 cs_X1_23 (t_atk sh_81 (Or.inl (by decide)) _ k (by omega) rfl) rfl ?_
      rw [(hW k (by omega)).1]
      refine X_aload dX1_nextInTurn_34 rfl ?_
      refine X_getR dX1_nextInTurn_35 rfl gf_X1_62 (sh_st hc) (by omega) rfl (rf_st5 hc) ?_
      refine X_iloadW dX1_nextInTurn_38 rfl ?_
      refine Y_pS dX1_nextInTurn_40 cs_X1_23 (t_blk3 hc hR hn24 k (by omega) rfl) rfl ?_
      have hb3 := (hG.b (k := k) (by omega)).2.2.2.1
      have hb2 := (hG.b (k := k) (by omega)).2.2.1
      have hwk := hw k (by omega)
      have hyk := hy k (by omega)
      refine X_icmp_le (tgt := 50) dX1_nextInTurn_43 (by decide) (by omega) (fun c_43 => ?_) (fun c_43 => ?_)
      · refine X_iconst dX1_nextInTurn_50 ?_
        refine X_istoreW dX1_nextInTurn_51 (by decide) ?_
        dsimp only [List.set]
        refine X_aload dX1_nextInTurn_53 rfl ?_
        refine X_getR dX1_nextInTurn_54 rfl gf_X1_15 sh_80 (by decide) rfl rf_80_1 ?_
        refine X_iloadW dX1_nextInTurn_57 rfl ?_
        refine Y_pS dX1_nextInTurn_59 cs_X1_23 (t_atk sh_82 (Or.inl (by decide)) _ k (by omega) rfl) rfl ?_
        rw [(hW k (by omega)).2]
        refine X_iconst dX1_nextInTurn_62 ?_
        refine X_icmp_ne (tgt := 121) dX1_nextInTurn_63 (by decide) (by omega) (fun c_63 => ?_) (fun c_63 => ?_)
        · refine X_drop 7 ?_
          dsimp only [List.set]
          refine X_drop 8 ?_
          dsimp only [List.set]
          refine X_iinc dX1_nextInTurn_121 rfl ?_
          dsimp only [List.set]
          refine X_goto (tgt := 19) dX1_nextInTurn_124 (by decide) ?_
          have e : nxF w g y false (k + 1) = nxF w g y false k := by
            show (if _ then _ else _) = _
            rw [if_neg (by simp only [cnd, btr, hr, Bool.and_eq_true, decide_eq_true_eq, beq_iff_eq, decide_eq_false_iff_not]; first | omega | (simp; omega))]
          rw [hr] at e
          have h9 := ih (k + 1) (by omega)
          rw [e] at h9
          exact h9
        · refine X_iloadW dX1_nextInTurn_66 rfl ?_
          refine X_iload dX1_nextInTurn_68 rfl ?_
          refine X_icmp_ne (tgt := 121) dX1_nextInTurn_69 (by decide) (by omega) (fun c_69 => ?_) (fun c_69 => ?_)
          · refine X_drop 7 ?_
            dsimp only [List.set]
            refine X_drop 8 ?_
            dsimp only [List.set]
            refine X_iinc dX1_nextInTurn_121 rfl ?_
            dsimp only [List.set]
            refine X_goto (tgt := 19) dX1_nextInTurn_124 (by decide) ?_
            have e : nxF w g y false (k + 1) = nxF w g y false k := by
              show (if _ then _ else _) = _
              rw [if_neg (by simp only [cnd, btr, hr, Bool.and_eq_true, decide_eq_true_eq, beq_iff_eq, decide_eq_false_iff_not]; first | omega | (simp; omega))]
            rw [hr] at e
            have h9 := ih (k + 1) (by omega)
            rw [e] at h9
            exact h9
          · refine X_iload dX1_nextInTurn_72 rfl ?_
            refine X_if_eq (tgt := 88) dX1_nextInTurn_73 (by decide) (by omega) (fun c_73 => ?_) (fun c_73 => absurd c_73 (by omega))
            refine X_aload dX1_nextInTurn_88 rfl ?_
            refine X_getR dX1_nextInTurn_89 rfl gf_X1_81 (sh_st hc) (by omega) rfl (rf_st4 hc) ?_
            refine X_iloadW dX1_nextInTurn_92 rfl ?_
            refine Y_pS dX1_nextInTurn_94 cs_X1_23 (t_blk2 hc hR hn24 k (by omega) rfl) rfl ?_
            refine X_ineg dX1_nextInTurn_97 ?_
            refine X_istoreW dX1_nextInTurn_98 (by decide) ?_
            dsimp only [List.set]
            refine X_iloadW dX1_nextInTurn_100 rfl ?_
            refine X_iconst dX1_nextInTurn_102 ?_
            refine X_icmp_eq (tgt := 113) dX1_nextInTurn_103 (by decide) (by omega) (fun c_103 => absurd c_103 (by omega)) (fun c_103 => ?_)
            refine X_iloadW dX1_nextInTurn_106 rfl ?_
            refine X_iloadW dX1_nextInTurn_108 rfl ?_
            have hq2 := (hG.b (k := q) hq).2.2.1
            refine X_icmp_ge (tgt := 121) dX1_nextInTurn_110 (by decide) (by omega) (fun c_110 => ?_) (fun c_110 => ?_)
            · refine X_drop 7 ?_
              dsimp only [List.set]
              refine X_drop 8 ?_
              dsimp only [List.set]
              refine X_iinc dX1_nextInTurn_121 rfl ?_
              dsimp only [List.set]
              refine X_goto (tgt := 19) dX1_nextInTurn_124 (by decide) ?_
              have e : nxF w g y false (k + 1) = nxF w g y false k := by
                show (if _ then _ else _) = _
                rw [if_neg (by simp only [cnd, btr, hr, Bool.and_eq_true, decide_eq_true_eq, beq_iff_eq, decide_eq_false_iff_not]; first | omega | (simp; omega))]
              rw [hr] at e
              have h9 := ih (k + 1) (by omega)
              rw [e] at h9
              exact h9
            · refine X_iloadW dX1_nextInTurn_113 rfl ?_
              refine X_istoreW dX1_nextInTurn_115 (by decide) ?_
              dsimp only [List.set]
              refine X_iloadW dX1_nextInTurn_117 rfl ?_
              refine X_istoreW dX1_nextInTurn_119 (by decide) ?_
              dsimp only [List.set]
              refine X_drop 7 ?_
              dsimp only [List.set]
              refine X_drop 8 ?_
              dsimp only [List.set]
              refine X_iinc dX1_nextInTurn_121 rfl ?_
              dsimp only [List.set]
              refine X_goto (tgt := 19) dX1_nextInTurn_124 (by decide) ?_
              have e : nxF w g y false (k + 1) = some k := by
                show (if _ then _ else _) = _
                rw [if_pos (by simp only [cnd, btr, hr, Bool.and_eq_true, decide_eq_true_eq, beq_iff_eq, decide_eq_false_iff_not]; first | omega | exact ⟨⟨by omega, by omega⟩, rfl⟩ | (simp; omega))]
              have h9 := ih (k + 1) (by omega)
              rw [e] at h9
              exact h9
      · refine X_iconst dX1_nextInTurn_46 ?_
        refine X_goto (tgt := 51) dX1_nextInTurn_47 (by decide) ?_
        refine X_istoreW dX1_nextInTurn_51 (by decide) ?_
        dsimp only [List.set]
        refine X_aload dX1_nextInTurn_53 rfl ?_
        refine X_getR dX1_nextInTurn_54 rfl gf_X1_15 sh_80 (by decide) rfl rf_80_1 ?_
        refine X_iloadW dX1_nextInTurn_57 rfl ?_
        refine Y_pS dX1_nextInTurn_59 cs_X1_23 (t_atk sh_82 (Or.inl (by decide)) _ k (by omega) rfl) rfl ?_
        rw [(hW k (by omega)).2]
        refine X_iconst dX1_nextInTurn_62 ?_
        refine X_icmp_ne (tgt := 121) dX1_nextInTurn_63 (by decide) (by omega) (fun c_63 => ?_) (fun c_63 => ?_)
        · refine X_drop 7 ?_
          dsimp only [List.set]
          refine X_drop 8 ?_
          dsimp only [List.set]
          refine X_iinc dX1_nextInTurn_121 rfl ?_
          dsimp only [List.set]
          refine X_goto (tgt := 19) dX1_nextInTurn_124 (by decide) ?_
          have e : nxF w g y false (k + 1) = nxF w g y false k := by
            show (if _ then _ else _) = _
            rw [if_neg (by simp only [cnd, btr, hr, Bool.and_eq_true, decide_eq_true_eq, beq_iff_eq, decide_eq_false_iff_not]; first | omega | (simp; omega))]
          rw [hr] at e
          have h9 := ih (k + 1) (by omega)
          rw [e] at h9
          exact h9
        · refine X_iloadW dX1_nextInTurn_66 rfl ?_
          refine X_iload dX1_nextInTurn_68 rfl ?_
          refine X_icmp_ne (tgt := 121) dX1_nextInTurn_69 (by decide) (by omega) (fun c_69 => ?_) (fun c_69 => ?_)
          · refine X_drop 7 ?_
            dsimp only [List.set]
            refine X_drop 8 ?_
            dsimp only [List.set]
            refine X_iinc dX1_nextInTurn_121 rfl ?_
            dsimp only [List.set]
            refine X_goto (tgt := 19) dX1_nextInTurn_124 (by decide) ?_
            have e : nxF w g y false (k + 1) = nxF w g y false k := by
              show (if _ then _ else _) = _
              rw [if_neg (by simp only [cnd, btr, hr, Bool.and_eq_true, decide_eq_true_eq, beq_iff_eq, decide_eq_false_iff_not]; first | omega | (simp; omega))]
            rw [hr] at e
            have h9 := ih (k + 1) (by omega)
            rw [e] at h9
            exact h9
          · refine X_iload dX1_nextInTurn_72 rfl ?_
            refine X_if_eq (tgt := 88) dX1_nextInTurn_73 (by decide) (by omega) (fun c_73 => ?_) (fun c_73 => absurd c_73 (by omega))
            refine X_aload dX1_nextInTurn_88 rfl ?_
            refine X_getR dX1_nextInTurn_89 rfl gf_X1_81 (sh_st hc) (by omega) rfl (rf_st4 hc) ?_
            refine X_iloadW dX1_nextInTurn_92 rfl ?_
            refine Y_pS dX1_nextInTurn_94 cs_X1_23 (t_blk2 hc hR hn24 k (by omega) rfl) rfl ?_
            refine X_ineg dX1_nextInTurn_97 ?_
            refine X_istoreW dX1_nextInTurn_98 (by decide) ?_
            dsimp only [List.set]
            refine X_iloadW dX1_nextInTurn_100 rfl ?_
            refine X_iconst dX1_nextInTurn_102 ?_
            refine X_icmp_eq (tgt := 113) dX1_nextInTurn_103 (by decide) (by omega) (fun c_103 => absurd c_103 (by omega)) (fun c_103 => ?_)
            refine X_iloadW dX1_nextInTurn_106 rfl ?_
            refine X_iloadW dX1_nextInTurn_108 rfl ?_
            have hq2 := (hG.b (k := q) hq).2.2.1
            refine X_icmp_ge (tgt := 121) dX1_nextInTurn_110 (by decide) (by omega) (fun c_110 => ?_) (fun c_110 => ?_)
            · refine X_drop 7 ?_
              dsimp only [List.set]
              refine X_drop 8 ?_
              dsimp only [List.set]
              refine X_iinc dX1_nextInTurn_121 rfl ?_
              dsimp only [List.set]
              refine X_goto (tgt := 19) dX1_nextInTurn_124 (by decide) ?_
              have e : nxF w g y false (k + 1) = nxF w g y false k := by
                show (if _ then _ else _) = _
                rw [if_neg (by simp only [cnd, btr, hr, Bool.and_eq_true, decide_eq_true_eq, beq_iff_eq, decide_eq_false_iff_not]; first | omega | (simp; omega))]
              rw [hr] at e
              have h9 := ih (k + 1) (by omega)
              rw [e] at h9
              exact h9
            · refine X_iloadW dX1_nextInTurn_113 rfl ?_
              refine X_istoreW dX1_nextInTurn_115 (by decide) ?_
              dsimp only [List.set]
              refine X_iloadW dX1_nextInTurn_117 rfl ?_
              refine X_istoreW dX1_nextInTurn_119 (by decide) ?_
              dsimp only [List.set]
              refine X_drop 7 ?_
              dsimp only [List.set]
              refine X_drop 8 ?_
              dsimp only [List.set]
              refine X_iinc dX1_nextInTurn_121 rfl ?_
              dsimp only [List.set]
              refine X_goto (tgt := 19) dX1_nextInTurn_124 (by decide) ?_
              have e : nxF w g y false (k + 1) = some k := by
                show (if _ then _ else _) = _
                rw [if_pos (by simp only [cnd, btr, hr, Bool.and_eq_true, decide_eq_true_eq, beq_iff_eq, decide_eq_false_iff_not]; first | omega | exact ⟨⟨by omega, by omega⟩, rfl⟩ | (simp; omega))]
              have h9 := ih (k + 1) (by omega)
              rw [e] at h9
              exact h9
set_option maxRecDepth 20000 in
set_option maxHeartbeats 4000000 in
theorem t_nextInTurn0 {I : xI} {c : Nat} {g : Nat → Int} {n : Nat} (hc : x_st c) (hR : RS I c g n) (hG : GI g n) {w y : Nat → Int} (hW : WR I n w y) (hw : ∀ k, k < n → 0 ≤ w k ∧ w k ≤ 2) (hy : ∀ k, k < n → 0 ≤ y k ∧ y k ≤ 5) : S kX1_nextInTurn 2 [rr 80, rr c, ii 0] I (q_p (ii (oi (nxF w g y false n) (-1))) I) := by
  have lc := st_lt hc
  have lw := st_low hc
  have hn24 := hG.n24
  refine Sp_intro (by decide +kernel) (Nat.le_of_ble_eq_true rfl) ?_
  show Y kX1_nextInTurn 2 0 [some (rr 80), some (rr c), some (ii 0), none, none, none, none, none, none] [] I _
  refine X_aload dX1_nextInTurn_0 rfl ?_
  refine X_getR dX1_nextInTurn_1 rfl gf_X1_18 (sh_st hc) (by omega) rfl (rf_st0 hc) ?_
  refine X_bipush dX1_nextInTurn_4 (by decide) ?_
  refine Y_pS dX1_nextInTurn_6 cs_X1_23 (t_num hc hR 15 (by decide) rfl) rfl ?_
  refine X_istore dX1_nextInTurn_9 (by decide) ?_
  dsimp only [List.set]
  refine X_iconst dX1_nextInTurn_10 ?_
  refine X_istoreW dX1_nextInTurn_11 (by decide) ?_
  dsimp only [List.set]
  refine X_iconst dX1_nextInTurn_13 ?_
  refine X_istoreW dX1_nextInTurn_14 (by decide) ?_
  dsimp only [List.set]
  refine X_iconst dX1_nextInTurn_16 ?_
  refine X_istoreW dX1_nextInTurn_17 (by decide) ?_
  dsimp only [List.set]
  rw [hG.g15]
  exact t_nextInTurn0_loop hc hR hG hW hw hy n 0 (by omega)
set_option maxRecDepth 20000 in
set_option maxHeartbeats 4000000 in
theorem t_shelfToMoveTo {I : xI} {c : Nat} {g : Nat → Int} {n : Nat} (hc : x_st c) (hR : RS I c g n) (hG : GI g n) {w y : Nat → Int} (hW : WR I n w y) (hw : ∀ k, k < n → 0 ≤ w k ∧ w k ≤ 2) (hy : ∀ k, k < n → 0 ≤ y k ∧ y k ≤ 5) (k : Nat) (hk : k < n) {i : Int} (hi : i = (k : Int)) : S kX1_shelfToMoveTo 1 [rr 80, rr c, ii i] I (q_p (ii (oi (tg w g n k) (-1))) I) := by
  have lc := st_lt hc
  have lw := st_low hc
  have hn24 := hG.n24
  subst hi
  have hwk := hw k hk
  obtain ⟨s0, hs0⟩ := Int.eq_ofNat_of_zero_le hwk.1
  have et : (w k).toNat = s0 := by omega
  have hb1 := (hG.b hk).2.1
  have hb3 := (hG.b hk).2.2.2.1
  refine Sp_intro (by decide +kernel) (Nat.le_of_ble_eq_true rfl) ?_
  show Y kX1_shelfToMoveTo 1 0 [some (rr 80), some (rr c), some (ii (k : Int)), none, none, none] [] I _
  refine X_aload dX1_shelfToMoveTo_0 rfl ?_
  refine X_getR dX1_shelfToMoveTo_1 rfl gf_X1_84 (sh_st hc) (by omega) rfl (rf_st3 hc) ?_
  refine X_iload dX1_shelfToMoveTo_4 rfl ?_
  refine Y_pS dX1_shelfToMoveTo_5 cs_X1_23 (t_blk1 hc hR hn24 k (by omega) rfl) rfl ?_
  refine X_istore dX1_shelfToMoveTo_8 (by decide) ?_
  dsimp only [List.set]
  refine X_aload dX1_shelfToMoveTo_9 rfl ?_
  refine X_getR dX1_shelfToMoveTo_10 rfl gf_X1_9 sh_80 (by decide) rfl rf_80_0 ?_
  refine X_iload dX1_shelfToMoveTo_13 rfl ?_
  refine Y_pS dX1_shelfToMoveTo_14 cs_X1_23 (t_atk sh_81 (Or.inl (by decide)) _ k (by omega) rfl) rfl ?_
  rw [(hW k (by omega)).1]
  refine X_istoreW dX1_shelfToMoveTo_17 (by decide) ?_
  dsimp only [List.set]
  refine X_aload dX1_shelfToMoveTo_19 rfl ?_
  refine X_iloadW dX1_shelfToMoveTo_20 rfl ?_
  refine X_iload dX1_shelfToMoveTo_22 rfl ?_
  refine Y_pV dX1_shelfToMoveTo_23 cv_X1_87 (sh_st hc) (by omega) (t_hasRoom hc hR hG s0 (by omega) hs0 (gb g k 1) (by omega)) rfl ?_
  have hb : (if rmB g n s0 (gb g k 1) = true then (1 : Int) else 0) = 1 ∨ (if rmB g n s0 (gb g k 1) = true then (1 : Int) else 0) = 0 := by split <;> simp
  refine X_if_eq (tgt := 32) dX1_shelfToMoveTo_26 (by decide) (by omega) (fun c_26 => ?_) (fun c_26 => ?_)
  · have r26 : ¬ rmB g n s0 (gb g k 1) = true := fun q => by rw [if_pos q] at c_26; omega
    refine X_iloadW dX1_shelfToMoveTo_32 rfl ?_
    refine X_aload dX1_shelfToMoveTo_34 rfl ?_
    refine X_getR dX1_shelfToMoveTo_35 rfl gf_X1_62 (sh_st hc) (by omega) rfl (rf_st5 hc) ?_
    refine X_iload dX1_shelfToMoveTo_38 rfl ?_
    refine Y_pS dX1_shelfToMoveTo_39 cs_X1_23 (t_blk3 hc hR hn24 k (by omega) rfl) rfl ?_
    refine X_isub dX1_shelfToMoveTo_42 ?_
    refine X_abs dX1_shelfToMoveTo_43 rfl lk_X1_91 (by omega) (by decide) (Nat.le_of_ble_eq_true rfl) ?_
    have habs : ∃ v : Int, (if 0 ≤ w k - gb g k 3 then w k - gb g k 3 else -(w k - gb g k 3)) = v ∧ 0 ≤ v ∧ v ≤ 2 ∧ (v = 2 ↔ (w k - gb g k 3 = 2 ∨ gb g k 3 - w k = 2)) := by split <;> exact ⟨_, rfl, by omega, by omega, by omega⟩
    obtain ⟨v, ev, v0, v2, v3⟩ := habs
    rw [ev]
    refine X_iconst dX1_shelfToMoveTo_46 ?_
    refine X_icmp_ne (tgt := 54) dX1_shelfToMoveTo_47 (by decide) (by omega) (fun c_47 => ?_) (fun c_47 => ?_)
    · refine X_iconst dX1_shelfToMoveTo_54 ?_
      refine X_istoreW dX1_shelfToMoveTo_55 (by decide) ?_
      dsimp only [List.set]
      refine X_iloadW dX1_shelfToMoveTo_57 rfl ?_
      refine X_if_eq (tgt := 75) dX1_shelfToMoveTo_59 (by decide) (by omega) (fun c_59 => ?_) (fun c_59 => ?_)
      · refine X_iconst dX1_shelfToMoveTo_75 ?_
        refine X_iret dX1_shelfToMoveTo_76 (Or.inl rfl) ?_
        refine ⟨?_, rfl, rfl, rfl⟩
        unfold tg
        rw [et, if_neg r26]
        first | (rw [if_pos ⟨by omega, r68⟩]; rfl) | (rw [if_neg (fun q => r68 q.2)]; rfl) | (rw [if_neg (fun q => by have := q.1; omega)]; rfl)
      · refine X_aload dX1_shelfToMoveTo_62 rfl ?_
        refine X_iconst dX1_shelfToMoveTo_63 ?_
        refine X_iload dX1_shelfToMoveTo_64 rfl ?_
        refine Y_pV dX1_shelfToMoveTo_65 cv_X1_87 (sh_st hc) (by omega) (t_hasRoom hc hR hG 1 (by decide) rfl (gb g k 1) (by omega)) rfl ?_
        have hb : (if rmB g n 1 (gb g k 1) = true then (1 : Int) else 0) = 1 ∨ (if rmB g n 1 (gb g k 1) = true then (1 : Int) else 0) = 0 := by split <;> simp
        refine X_if_eq (tgt := 75) dX1_shelfToMoveTo_68 (by decide) (by omega) (fun c_68 => ?_) (fun c_68 => ?_)
        · have r68 : ¬ rmB g n 1 (gb g k 1) = true := fun q => by rw [if_pos q] at c_68; omega
          refine X_iconst dX1_shelfToMoveTo_75 ?_
          refine X_iret dX1_shelfToMoveTo_76 (Or.inl rfl) ?_
          refine ⟨?_, rfl, rfl, rfl⟩
          unfold tg
          rw [et, if_neg r26]
          first | (rw [if_pos ⟨by omega, r68⟩]; rfl) | (rw [if_neg (fun q => r68 q.2)]; rfl) | (rw [if_neg (fun q => by have := q.1; omega)]; rfl)
        · have r68 : rmB g n 1 (gb g k 1) = true := by
            by_cases q : rmB g n 1 (gb g k 1) = true
            · exact q
            · rw [if_neg q] at c_68; omega
          refine X_iconst dX1_shelfToMoveTo_71 ?_
          refine X_goto (tgt := 76) dX1_shelfToMoveTo_72 (by decide) ?_
          refine X_iret dX1_shelfToMoveTo_76 (Or.inl rfl) ?_
          refine ⟨?_, rfl, rfl, rfl⟩
          unfold tg
          rw [et, if_neg r26]
          first | (rw [if_pos ⟨by omega, r68⟩]; rfl) | (rw [if_neg (fun q => r68 q.2)]; rfl) | (rw [if_neg (fun q => by have := q.1; omega)]; rfl)
    · refine X_iconst dX1_shelfToMoveTo_50 ?_
      refine X_goto (tgt := 55) dX1_shelfToMoveTo_51 (by decide) ?_
      refine X_istoreW dX1_shelfToMoveTo_55 (by decide) ?_
      dsimp only [List.set]
      refine X_iloadW dX1_shelfToMoveTo_57 rfl ?_
      refine X_if_eq (tgt := 75) dX1_shelfToMoveTo_59 (by decide) (by omega) (fun c_59 => ?_) (fun c_59 => ?_)
      · refine X_iconst dX1_shelfToMoveTo_75 ?_
        refine X_iret dX1_shelfToMoveTo_76 (Or.inl rfl) ?_
        refine ⟨?_, rfl, rfl, rfl⟩
        unfold tg
        rw [et, if_neg r26]
        first | (rw [if_pos ⟨by omega, r68⟩]; rfl) | (rw [if_neg (fun q => r68 q.2)]; rfl) | (rw [if_neg (fun q => by have := q.1; omega)]; rfl)
      · refine X_aload dX1_shelfToMoveTo_62 rfl ?_
        refine X_iconst dX1_shelfToMoveTo_63 ?_
        refine X_iload dX1_shelfToMoveTo_64 rfl ?_
        refine Y_pV dX1_shelfToMoveTo_65 cv_X1_87 (sh_st hc) (by omega) (t_hasRoom hc hR hG 1 (by decide) rfl (gb g k 1) (by omega)) rfl ?_
        have hb : (if rmB g n 1 (gb g k 1) = true then (1 : Int) else 0) = 1 ∨ (if rmB g n 1 (gb g k 1) = true then (1 : Int) else 0) = 0 := by split <;> simp
        refine X_if_eq (tgt := 75) dX1_shelfToMoveTo_68 (by decide) (by omega) (fun c_68 => ?_) (fun c_68 => ?_)
        · have r68 : ¬ rmB g n 1 (gb g k 1) = true := fun q => by rw [if_pos q] at c_68; omega
          refine X_iconst dX1_shelfToMoveTo_75 ?_
          refine X_iret dX1_shelfToMoveTo_76 (Or.inl rfl) ?_
          refine ⟨?_, rfl, rfl, rfl⟩
          unfold tg
          rw [et, if_neg r26]
          first | (rw [if_pos ⟨by omega, r68⟩]; rfl) | (rw [if_neg (fun q => r68 q.2)]; rfl) | (rw [if_neg (fun q => by have := q.1; omega)]; rfl)
        · have r68 : rmB g n 1 (gb g k 1) = true := by
            by_cases q : rmB g n 1 (gb g k 1) = true
            · exact q
            · rw [if_neg q] at c_68; omega
          refine X_iconst dX1_shelfToMoveTo_71 ?_
          refine X_goto (tgt := 76) dX1_shelfToMoveTo_72 (by decide) ?_
          refine X_iret dX1_shelfToMoveTo_76 (Or.inl rfl) ?_
          refine ⟨?_, rfl, rfl, rfl⟩
          unfold tg
          rw [et, if_neg r26]
          first | (rw [if_pos ⟨by omega, r68⟩]; rfl) | (rw [if_neg (fun q => r68 q.2)]; rfl) | (rw [if_neg (fun q => by have := q.1; omega)]; rfl)
  · have r26 : rmB g n s0 (gb g k 1) = true := by
      by_cases q : rmB g n s0 (gb g k 1) = true
      · exact q
      · rw [if_neg q] at c_26; omega
    refine X_iloadW dX1_shelfToMoveTo_29 rfl ?_
    refine X_iret dX1_shelfToMoveTo_31 (Or.inl rfl) ?_
    refine ⟨?_, rfl, rfl, rfl⟩
    unfold tg
    rw [et, if_pos r26, hs0]
    rfl
def pdG (g : Nat → Int) (k : Nat) : Nat → Int := if gb g k 3 = 2 then gB g k 5 (g 4) else g
set_option maxRecDepth 20000 in
set_option maxHeartbeats 4000000 in
theorem t_promiseIfDeep {I : xI} {c : Nat} {g : Nat → Int} {n : Nat} (hc : x_st c) (hR : RS I c g n) (hG : GI g n) (k : Nat) (hk : k < n) {i : Int} (hi : i = (k : Int)) : S kX1_promiseIfDeep 1 [rr 80, rr c, ii i] I (q_v (fun I1 => RS I1 c (pdG g k) n ∧ FR I I1 c)) := by
  have lc := st_lt hc
  have lw := st_low hc
  have hn24 := hG.n24
  have hF : FR I I c := FR.rf
  subst hi
  have hb3 := (hG.b hk).2.2.2.1
  refine Sp_intro (by decide +kernel) (Nat.le_of_ble_eq_true rfl) ?_
  show Y kX1_promiseIfDeep 1 0 [some (rr 80), some (rr c), some (ii (k : Int))] [] I _
  refine X_aload dX1_promiseIfDeep_0 rfl ?_
  refine X_getR dX1_promiseIfDeep_1 rfl gf_X1_62 (sh_st hc) (by omega) rfl (rf_st5 hc) ?_
  refine X_iload dX1_promiseIfDeep_4 rfl ?_
  refine Y_pS dX1_promiseIfDeep_5 cs_X1_23 (t_blk3 hc hR hn24 k (by omega) rfl) rfl ?_
  refine X_iconst dX1_promiseIfDeep_8 ?_
  refine X_icmp_ne (tgt := 28) dX1_promiseIfDeep_9 (by decide) (by omega) (fun c_9 => ?_) (fun c_9 => ?_)
  · rw [pdG, if_neg c_9]
    refine X_vret dX1_promiseIfDeep_28 rfl ?_
    exact ⟨rfl, rfl, rfl, hR, hF⟩
  · rw [pdG, if_pos c_9]
    refine X_aload dX1_promiseIfDeep_12 rfl ?_
    refine X_getR dX1_promiseIfDeep_13 rfl gf_X1_59 (sh_st hc) (by omega) rfl (rf_st7 hc) ?_
    refine X_iload dX1_promiseIfDeep_16 rfl ?_
    refine X_aload dX1_promiseIfDeep_17 rfl ?_
    refine X_getR dX1_promiseIfDeep_18 rfl gf_X1_18 (sh_st hc) (by omega) rfl (rf_st0 hc) ?_
    refine X_iconst dX1_promiseIfDeep_21 ?_
    refine Y_pS dX1_promiseIfDeep_22 cs_X1_23 (t_num hc hR 4 (by decide) rfl) rfl ?_
    refine Y_vS dX1_promiseIfDeep_25 cs_X1_53 (t_putB5 hc hR hn24 k (by omega) rfl _) rfl (fun I25 hq25 => ?_)
    obtain ⟨hR, hF25⟩ := hq25
    have hF := hF.trans hF25
    refine X_vret dX1_promiseIfDeep_28 rfl ?_
    exact ⟨rfl, rfl, rfl, hR, hF⟩
end
