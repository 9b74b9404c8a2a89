-- ===== PART A: goes FIRST, ahead of the names: the tables' words, and 'selects' of the private methods out of them =====
/-- a private method of a class that the tables say can be made, by its rows of tables_1 -/
def lw_okq (q : MethodName × Nat) : Prop := (q.1.cls ≠ "java/lang/invoke/MethodHandle" ∧ q.1.cls ≠ "java/lang/invoke/VarHandle") ∧ Cond.instantiable q.1.cls q.2 ∈ tables_1 ∧ Cond.privateMethod q.1 ∈ tables_1 ∧ Cond.instanceMethod q.1 ∈ tables_1
theorem lw_p0 : lw_okq (⟨"HeatShelves$State", "copyFrom", "(LHeatShelves$State;)V"⟩, 10) := ⟨⟨by decide +kernel, by decide +kernel⟩, List.mem_of_getElem? (i := 18) (by decide +kernel), List.mem_of_getElem? (i := 167) (by decide +kernel), List.mem_of_getElem? (i := 168) (by decide +kernel)⟩
theorem lw_p1 : lw_okq (⟨"HeatShelves$State", "addBlock", "(I)I"⟩, 10) := ⟨⟨by decide +kernel, by decide +kernel⟩, List.mem_of_getElem? (i := 18) (by decide +kernel), List.mem_of_getElem? (i := 180) (by decide +kernel), List.mem_of_getElem? (i := 181) (by decide +kernel)⟩
theorem lw_p2 : lw_okq (⟨"HeatShelves$State", "fastestWithRoom", "(I)I"⟩, 10) := ⟨⟨by decide +kernel, by decide +kernel⟩, List.mem_of_getElem? (i := 18) (by decide +kernel), List.mem_of_getElem? (i := 184) (by decide +kernel), List.mem_of_getElem? (i := 185) (by decide +kernel)⟩
theorem lw_p3 : lw_okq (⟨"HeatShelves$State", "hasRoom", "(II)Z"⟩, 10) := ⟨⟨by decide +kernel, by decide +kernel⟩, List.mem_of_getElem? (i := 18) (by decide +kernel), List.mem_of_getElem? (i := 188) (by decide +kernel), List.mem_of_getElem? (i := 189) (by decide +kernel)⟩
theorem lw_p4 : lw_okq (⟨"HeatShelves$State", "countBlocks", "()I"⟩, 10) := ⟨⟨by decide +kernel, by decide +kernel⟩, List.mem_of_getElem? (i := 18) (by decide +kernel), List.mem_of_getElem? (i := 192) (by decide +kernel), List.mem_of_getElem? (i := 193) (by decide +kernel)⟩
theorem lw_p5 : lw_okq (⟨"HeatShelves", "settle", "(I)I"⟩, 7) := ⟨⟨by decide +kernel, by decide +kernel⟩, List.mem_of_getElem? (i := 10) (by decide +kernel), List.mem_of_getElem? (i := 205) (by decide +kernel), List.mem_of_getElem? (i := 206) (by decide +kernel)⟩
theorem lw_p6 : lw_okq (⟨"HeatShelves$History", "record", "(LHeatShelves$State;)V"⟩, 3) := ⟨⟨by decide +kernel, by decide +kernel⟩, List.mem_of_getElem? (i := 74) (by decide +kernel), List.mem_of_getElem? (i := 209) (by decide +kernel), List.mem_of_getElem? (i := 210) (by decide +kernel)⟩
theorem lw_p7 : lw_okq (⟨"HeatShelves$History", "stateAt", "(I)LHeatShelves$State;"⟩, 3) := ⟨⟨by decide +kernel, by decide +kernel⟩, List.mem_of_getElem? (i := 74) (by decide +kernel), List.mem_of_getElem? (i := 213) (by decide +kernel), List.mem_of_getElem? (i := 214) (by decide +kernel)⟩
theorem lw_p8 : lw_okq (⟨"HeatShelves$State", "dropBlock", "(I)I"⟩, 10) := ⟨⟨by decide +kernel, by decide +kernel⟩, List.mem_of_getElem? (i := 18) (by decide +kernel), List.mem_of_getElem? (i := 222) (by decide +kernel), List.mem_of_getElem? (i := 223) (by decide +kernel)⟩
theorem lw_p9 : lw_okq (⟨"HeatShelves$State", "find", "(I)I"⟩, 10) := ⟨⟨by decide +kernel, by decide +kernel⟩, List.mem_of_getElem? (i := 18) (by decide +kernel), List.mem_of_getElem? (i := 226) (by decide +kernel), List.mem_of_getElem? (i := 227) (by decide +kernel)⟩
theorem lw_p10 : lw_okq (⟨"HeatShelves$State", "readBlock", "(II)I"⟩, 10) := ⟨⟨by decide +kernel, by decide +kernel⟩, List.mem_of_getElem? (i := 18) (by decide +kernel), List.mem_of_getElem? (i := 240) (by decide +kernel), List.mem_of_getElem? (i := 241) (by decide +kernel)⟩
theorem lw_p11 : lw_okq (⟨"HeatShelves$State", "readOnce", "(I)I"⟩, 10) := ⟨⟨by decide +kernel, by decide +kernel⟩, List.mem_of_getElem? (i := 18) (by decide +kernel), List.mem_of_getElem? (i := 244) (by decide +kernel), List.mem_of_getElem? (i := 245) (by decide +kernel)⟩
theorem lw_p12 : lw_okq (⟨"HeatShelves$State", "askBack", "(I)I"⟩, 10) := ⟨⟨by decide +kernel, by decide +kernel⟩, List.mem_of_getElem? (i := 18) (by decide +kernel), List.mem_of_getElem? (i := 250) (by decide +kernel), List.mem_of_getElem? (i := 251) (by decide +kernel)⟩
theorem lw_p13 : lw_okq (⟨"HeatShelves$State", "moveTo", "(II)V"⟩, 10) := ⟨⟨by decide +kernel, by decide +kernel⟩, List.mem_of_getElem? (i := 18) (by decide +kernel), List.mem_of_getElem? (i := 254) (by decide +kernel), List.mem_of_getElem? (i := 255) (by decide +kernel)⟩
theorem lw_p14 : lw_okq (⟨"HeatShelves$State", "turnPin", "(IZ)I"⟩, 10) := ⟨⟨by decide +kernel, by decide +kernel⟩, List.mem_of_getElem? (i := 18) (by decide +kernel), List.mem_of_getElem? (i := 262) (by decide +kernel), List.mem_of_getElem? (i := 263) (by decide +kernel)⟩
theorem lw_p15 : lw_okq (⟨"HeatShelves$State", "countPinned", "()I"⟩, 10) := ⟨⟨by decide +kernel, by decide +kernel⟩, List.mem_of_getElem? (i := 18) (by decide +kernel), List.mem_of_getElem? (i := 266) (by decide +kernel), List.mem_of_getElem? (i := 267) (by decide +kernel)⟩
def lw_privs_1 : List (MethodName × Nat) := [(⟨"HeatShelves$State", "copyFrom", "(LHeatShelves$State;)V"⟩, 10), (⟨"HeatShelves$State", "addBlock", "(I)I"⟩, 10), (⟨"HeatShelves$State", "fastestWithRoom", "(I)I"⟩, 10), (⟨"HeatShelves$State", "hasRoom", "(II)Z"⟩, 10), (⟨"HeatShelves$State", "countBlocks", "()I"⟩, 10), (⟨"HeatShelves", "settle", "(I)I"⟩, 7), (⟨"HeatShelves$History", "record", "(LHeatShelves$State;)V"⟩, 3), (⟨"HeatShelves$History", "stateAt", "(I)LHeatShelves$State;"⟩, 3), (⟨"HeatShelves$State", "dropBlock", "(I)I"⟩, 10), (⟨"HeatShelves$State", "find", "(I)I"⟩, 10), (⟨"HeatShelves$State", "readBlock", "(II)I"⟩, 10), (⟨"HeatShelves$State", "readOnce", "(I)I"⟩, 10), (⟨"HeatShelves$State", "askBack", "(I)I"⟩, 10), (⟨"HeatShelves$State", "moveTo", "(II)V"⟩, 10), (⟨"HeatShelves$State", "turnPin", "(IZ)I"⟩, 10), (⟨"HeatShelves$State", "countPinned", "()I"⟩, 10)]
theorem lw_r1 : ∀ q ∈ lw_privs_1, lw_okq q := List.forall_mem_cons.mpr ⟨lw_p0, List.forall_mem_cons.mpr ⟨lw_p1, List.forall_mem_cons.mpr ⟨lw_p2, List.forall_mem_cons.mpr ⟨lw_p3, List.forall_mem_cons.mpr ⟨lw_p4, List.forall_mem_cons.mpr ⟨lw_p5, List.forall_mem_cons.mpr ⟨lw_p6, List.forall_mem_cons.mpr ⟨lw_p7, List.forall_mem_cons.mpr ⟨lw_p8, List.forall_mem_cons.mpr ⟨lw_p9, List.forall_mem_cons.mpr ⟨lw_p10, List.forall_mem_cons.mpr ⟨lw_p11, List.forall_mem_cons.mpr ⟨lw_p12, List.forall_mem_cons.mpr ⟨lw_p13, List.forall_mem_cons.mpr ⟨lw_p14, List.forall_mem_cons.mpr ⟨lw_p15, fun _ h => absurd h List.not_mem_nil⟩⟩⟩⟩⟩⟩⟩⟩⟩⟩⟩⟩⟩⟩⟩⟩
theorem lw_p16 : lw_okq (⟨"HeatShelves", "passInWork", "(I)I"⟩, 7) := ⟨⟨by decide +kernel, by decide +kernel⟩, List.mem_of_getElem? (i := 10) (by decide +kernel), List.mem_of_getElem? (i := 274) (by decide +kernel), List.mem_of_getElem? (i := 275) (by decide +kernel)⟩
theorem lw_p17 : lw_okq (⟨"HeatShelves$Night", "letPass", "(LHeatShelves$State;I)I"⟩, 2) := ⟨⟨by decide +kernel, by decide +kernel⟩, List.mem_of_getElem? (i := 94) (by decide +kernel), List.mem_of_getElem? (i := 279) (by decide +kernel), List.mem_of_getElem? (i := 280) (by decide +kernel)⟩
theorem lw_p18 : lw_okq (⟨"HeatShelves$State", "payNight", "()V"⟩, 10) := ⟨⟨by decide +kernel, by decide +kernel⟩, List.mem_of_getElem? (i := 18) (by decide +kernel), List.mem_of_getElem? (i := 284) (by decide +kernel), List.mem_of_getElem? (i := 285) (by decide +kernel)⟩
theorem lw_p19 : lw_okq (⟨"HeatShelves$State", "nightPriceOfShelf", "(I)I"⟩, 10) := ⟨⟨by decide +kernel, by decide +kernel⟩, List.mem_of_getElem? (i := 18) (by decide +kernel), List.mem_of_getElem? (i := 288) (by decide +kernel), List.mem_of_getElem? (i := 289) (by decide +kernel)⟩
theorem lw_p20 : lw_okq (⟨"HeatShelves$State", "fade", "()V"⟩, 10) := ⟨⟨by decide +kernel, by decide +kernel⟩, List.mem_of_getElem? (i := 18) (by decide +kernel), List.mem_of_getElem? (i := 292) (by decide +kernel), List.mem_of_getElem? (i := 293) (by decide +kernel)⟩
theorem lw_p21 : lw_okq (⟨"HeatShelves$Night", "findWhoMayMove", "(LHeatShelves$State;)V"⟩, 2) := ⟨⟨by decide +kernel, by decide +kernel⟩, List.mem_of_getElem? (i := 94) (by decide +kernel), List.mem_of_getElem? (i := 297) (by decide +kernel), List.mem_of_getElem? (i := 298) (by decide +kernel)⟩
theorem lw_p22 : lw_okq (⟨"HeatShelves$State", "wantedShelf", "(I)I"⟩, 10) := ⟨⟨by decide +kernel, by decide +kernel⟩, List.mem_of_getElem? (i := 18) (by decide +kernel), List.mem_of_getElem? (i := 302) (by decide +kernel), List.mem_of_getElem? (i := 303) (by decide +kernel)⟩
theorem lw_p23 : lw_okq (⟨"HeatShelves$Night", "moveInTurn", "(LHeatShelves$State;ZI)I"⟩, 2) := ⟨⟨by decide +kernel, by decide +kernel⟩, List.mem_of_getElem? (i := 94) (by decide +kernel), List.mem_of_getElem? (i := 307) (by decide +kernel), List.mem_of_getElem? (i := 308) (by decide +kernel)⟩
theorem lw_p24 : lw_okq (⟨"HeatShelves$Night", "nextInTurn", "(LHeatShelves$State;Z)I"⟩, 2) := ⟨⟨by decide +kernel, by decide +kernel⟩, List.mem_of_getElem? (i := 94) (by decide +kernel), List.mem_of_getElem? (i := 311) (by decide +kernel), List.mem_of_getElem? (i := 312) (by decide +kernel)⟩
theorem lw_p25 : lw_okq (⟨"HeatShelves$Night", "shelfToMoveTo", "(LHeatShelves$State;I)I"⟩, 2) := ⟨⟨by decide +kernel, by decide +kernel⟩, List.mem_of_getElem? (i := 94) (by decide +kernel), List.mem_of_getElem? (i := 315) (by decide +kernel), List.mem_of_getElem? (i := 316) (by decide +kernel)⟩
theorem lw_p26 : lw_okq (⟨"HeatShelves$Night", "promiseIfDeep", "(LHeatShelves$State;I)V"⟩, 2) := ⟨⟨by decide +kernel, by decide +kernel⟩, List.mem_of_getElem? (i := 94) (by decide +kernel), List.mem_of_getElem? (i := 324) (by decide +kernel), List.mem_of_getElem? (i := 325) (by decide +kernel)⟩
theorem lw_p27 : lw_okq (⟨"HeatShelves$State", "changeSetting", "(II)I"⟩, 10) := ⟨⟨by decide +kernel, by decide +kernel⟩, List.mem_of_getElem? (i := 18) (by decide +kernel), List.mem_of_getElem? (i := 333) (by decide +kernel), List.mem_of_getElem? (i := 334) (by decide +kernel)⟩
theorem lw_p28 : lw_okq (⟨"HeatShelves$State", "allowsSetting", "(II)Z"⟩, 10) := ⟨⟨by decide +kernel, by decide +kernel⟩, List.mem_of_getElem? (i := 18) (by decide +kernel), List.mem_of_getElem? (i := 339) (by decide +kernel), List.mem_of_getElem? (i := 340) (by decide +kernel)⟩
theorem lw_p29 : lw_okq (⟨"HeatShelves$Orders", "append", "(C)I"⟩, 7) := ⟨⟨by decide +kernel, by decide +kernel⟩, List.mem_of_getElem? (i := 108) (by decide +kernel), List.mem_of_getElem? (i := 347) (by decide +kernel), List.mem_of_getElem? (i := 348) (by decide +kernel)⟩
theorem lw_p30 : lw_okq (⟨"HeatShelves$Orders", "empty", "()I"⟩, 7) := ⟨⟨by decide +kernel, by decide +kernel⟩, List.mem_of_getElem? (i := 108) (by decide +kernel), List.mem_of_getElem? (i := 356) (by decide +kernel), List.mem_of_getElem? (i := 357) (by decide +kernel)⟩
theorem lw_p31 : lw_okq (⟨"HeatShelves$Orders", "readAll", "()I"⟩, 7) := ⟨⟨by decide +kernel, by decide +kernel⟩, List.mem_of_getElem? (i := 108) (by decide +kernel), List.mem_of_getElem? (i := 364) (by decide +kernel), List.mem_of_getElem? (i := 365) (by decide +kernel)⟩
def lw_privs_2 : List (MethodName × Nat) := [(⟨"HeatShelves", "passInWork", "(I)I"⟩, 7), (⟨"HeatShelves$Night", "letPass", "(LHeatShelves$State;I)I"⟩, 2), (⟨"HeatShelves$State", "payNight", "()V"⟩, 10), (⟨"HeatShelves$State", "nightPriceOfShelf", "(I)I"⟩, 10), (⟨"HeatShelves$State", "fade", "()V"⟩, 10), (⟨"HeatShelves$Night", "findWhoMayMove", "(LHeatShelves$State;)V"⟩, 2), (⟨"HeatShelves$State", "wantedShelf", "(I)I"⟩, 10), (⟨"HeatShelves$Night", "moveInTurn", "(LHeatShelves$State;ZI)I"⟩, 2), (⟨"HeatShelves$Night", "nextInTurn", "(LHeatShelves$State;Z)I"⟩, 2), (⟨"HeatShelves$Night", "shelfToMoveTo", "(LHeatShelves$State;I)I"⟩, 2), (⟨"HeatShelves$Night", "promiseIfDeep", "(LHeatShelves$State;I)V"⟩, 2), (⟨"HeatShelves$State", "changeSetting", "(II)I"⟩, 10), (⟨"HeatShelves$State", "allowsSetting", "(II)Z"⟩, 10), (⟨"HeatShelves$Orders", "append", "(C)I"⟩, 7), (⟨"HeatShelves$Orders", "empty", "()I"⟩, 7), (⟨"HeatShelves$Orders", "readAll", "()I"⟩, 7)]
theorem lw_r2 : ∀ q ∈ lw_privs_2, lw_okq q := List.forall_mem_cons.mpr ⟨lw_p16, List.forall_mem_cons.mpr ⟨lw_p17, List.forall_mem_cons.mpr ⟨lw_p18, List.forall_mem_cons.mpr ⟨lw_p19, List.forall_mem_cons.mpr ⟨lw_p20, List.forall_mem_cons.mpr ⟨lw_p21, List.forall_mem_cons.mpr ⟨lw_p22, List.forall_mem_cons.mpr ⟨lw_p23, List.forall_mem_cons.mpr ⟨lw_p24, List.forall_mem_cons.mpr ⟨lw_p25, List.forall_mem_cons.mpr ⟨lw_p26, List.forall_mem_cons.mpr ⟨lw_p27, List.forall_mem_cons.mpr ⟨lw_p28, List.forall_mem_cons.mpr ⟨lw_p29, List.forall_mem_cons.mpr ⟨lw_p30, List.forall_mem_cons.mpr ⟨lw_p31, fun _ h => absurd h List.not_mem_nil⟩⟩⟩⟩⟩⟩⟩⟩⟩⟩⟩⟩⟩⟩⟩⟩
theorem lw_p32 : lw_okq (⟨"HeatShelves$Orders", "readOrder", "()Z"⟩, 7) := ⟨⟨by decide +kernel, by decide +kernel⟩, List.mem_of_getElem? (i := 108) (by decide +kernel), List.mem_of_getElem? (i := 368) (by decide +kernel), List.mem_of_getElem? (i := 369) (by decide +kernel)⟩
theorem lw_p33 : lw_okq (⟨"HeatShelves$Orders", "signHere", "()I"⟩, 7) := ⟨⟨by decide +kernel, by decide +kernel⟩, List.mem_of_getElem? (i := 108) (by decide +kernel), List.mem_of_getElem? (i := 372) (by decide +kernel), List.mem_of_getElem? (i := 373) (by decide +kernel)⟩
theorem lw_p34 : lw_okq (⟨"HeatShelves$Orders", "isKind", "(I)Z"⟩, 7) := ⟨⟨by decide +kernel, by decide +kernel⟩, List.mem_of_getElem? (i := 108) (by decide +kernel), List.mem_of_getElem? (i := 377) (by decide +kernel), List.mem_of_getElem? (i := 378) (by decide +kernel)⟩
theorem lw_p35 : lw_okq (⟨"HeatShelves$Orders", "leastOf", "(I)I"⟩, 7) := ⟨⟨by decide +kernel, by decide +kernel⟩, List.mem_of_getElem? (i := 108) (by decide +kernel), List.mem_of_getElem? (i := 381) (by decide +kernel), List.mem_of_getElem? (i := 382) (by decide +kernel)⟩
theorem lw_p36 : lw_okq (⟨"HeatShelves$Orders", "greatestOf", "(I)I"⟩, 7) := ⟨⟨by decide +kernel, by decide +kernel⟩, List.mem_of_getElem? (i := 108) (by decide +kernel), List.mem_of_getElem? (i := 385) (by decide +kernel), List.mem_of_getElem? (i := 386) (by decide +kernel)⟩
theorem lw_p37 : lw_okq (⟨"HeatShelves$Orders", "readNumber", "(II)I"⟩, 7) := ⟨⟨by decide +kernel, by decide +kernel⟩, List.mem_of_getElem? (i := 108) (by decide +kernel), List.mem_of_getElem? (i := 389) (by decide +kernel), List.mem_of_getElem? (i := 390) (by decide +kernel)⟩
theorem lw_p38 : lw_okq (⟨"HeatShelves$Orders", "digitHere", "()I"⟩, 7) := ⟨⟨by decide +kernel, by decide +kernel⟩, List.mem_of_getElem? (i := 108) (by decide +kernel), List.mem_of_getElem? (i := 393) (by decide +kernel), List.mem_of_getElem? (i := 394) (by decide +kernel)⟩
theorem lw_p39 : lw_okq (⟨"HeatShelves", "performInWork", "(I)I"⟩, 7) := ⟨⟨by decide +kernel, by decide +kernel⟩, List.mem_of_getElem? (i := 10) (by decide +kernel), List.mem_of_getElem? (i := 397) (by decide +kernel), List.mem_of_getElem? (i := 398) (by decide +kernel)⟩
theorem lw_p40 : lw_okq (⟨"HeatShelves$State", "flipPin", "(I)I"⟩, 10) := ⟨⟨by decide +kernel, by decide +kernel⟩, List.mem_of_getElem? (i := 18) (by decide +kernel), List.mem_of_getElem? (i := 401) (by decide +kernel), List.mem_of_getElem? (i := 402) (by decide +kernel)⟩
theorem lw_p41 : lw_okq (⟨"HeatShelves$History", "takeLatest", "(LHeatShelves$State;)Z"⟩, 3) := ⟨⟨by decide +kernel, by decide +kernel⟩, List.mem_of_getElem? (i := 74) (by decide +kernel), List.mem_of_getElem? (i := 410) (by decide +kernel), List.mem_of_getElem? (i := 411) (by decide +kernel)⟩
theorem lw_p42 : lw_okq (⟨"HeatShelves$State", "placeOfRank", "(I)I"⟩, 10) := ⟨⟨by decide +kernel, by decide +kernel⟩, List.mem_of_getElem? (i := 18) (by decide +kernel), List.mem_of_getElem? (i := 427) (by decide +kernel), List.mem_of_getElem? (i := 428) (by decide +kernel)⟩
theorem lw_p43 : lw_okq (⟨"HeatShelves$State", "countHotter", "(I)I"⟩, 10) := ⟨⟨by decide +kernel, by decide +kernel⟩, List.mem_of_getElem? (i := 18) (by decide +kernel), List.mem_of_getElem? (i := 431) (by decide +kernel), List.mem_of_getElem? (i := 432) (by decide +kernel)⟩
theorem lw_p44 : lw_okq (⟨"HeatShelves", "whyItStays", "(I)I"⟩, 7) := ⟨⟨by decide +kernel, by decide +kernel⟩, List.mem_of_getElem? (i := 10) (by decide +kernel), List.mem_of_getElem? (i := 441) (by decide +kernel), List.mem_of_getElem? (i := 442) (by decide +kernel)⟩
theorem lw_p45 : lw_okq (⟨"HeatShelves$State", "countOnShelf", "(I)I"⟩, 10) := ⟨⟨by decide +kernel, by decide +kernel⟩, List.mem_of_getElem? (i := 18) (by decide +kernel), List.mem_of_getElem? (i := 449) (by decide +kernel), List.mem_of_getElem? (i := 450) (by decide +kernel)⟩
theorem lw_p46 : lw_okq (⟨"HeatShelves$State", "heatOnShelf", "(I)I"⟩, 10) := ⟨⟨by decide +kernel, by decide +kernel⟩, List.mem_of_getElem? (i := 18) (by decide +kernel), List.mem_of_getElem? (i := 453) (by decide +kernel), List.mem_of_getElem? (i := 454) (by decide +kernel)⟩
theorem lw_p47 : lw_okq (⟨"HeatShelves$State", "heatOfAll", "()I"⟩, 10) := ⟨⟨by decide +kernel, by decide +kernel⟩, List.mem_of_getElem? (i := 18) (by decide +kernel), List.mem_of_getElem? (i := 463) (by decide +kernel), List.mem_of_getElem? (i := 464) (by decide +kernel)⟩
def lw_privs_3 : List (MethodName × Nat) := [(⟨"HeatShelves$Orders", "readOrder", "()Z"⟩, 7), (⟨"HeatShelves$Orders", "signHere", "()I"⟩, 7), (⟨"HeatShelves$Orders", "isKind", "(I)Z"⟩, 7), (⟨"HeatShelves$Orders", "leastOf", "(I)I"⟩, 7), (⟨"HeatShelves$Orders", "greatestOf", "(I)I"⟩, 7), (⟨"HeatShelves$Orders", "readNumber", "(II)I"⟩, 7), (⟨"HeatShelves$Orders", "digitHere", "()I"⟩, 7), (⟨"HeatShelves", "performInWork", "(I)I"⟩, 7), (⟨"HeatShelves$State", "flipPin", "(I)I"⟩, 10), (⟨"HeatShelves$History", "takeLatest", "(LHeatShelves$State;)Z"⟩, 3), (⟨"HeatShelves$State", "placeOfRank", "(I)I"⟩, 10), (⟨"HeatShelves$State", "countHotter", "(I)I"⟩, 10), (⟨"HeatShelves", "whyItStays", "(I)I"⟩, 7), (⟨"HeatShelves$State", "countOnShelf", "(I)I"⟩, 10), (⟨"HeatShelves$State", "heatOnShelf", "(I)I"⟩, 10), (⟨"HeatShelves$State", "heatOfAll", "()I"⟩, 10)]
theorem lw_r3 : ∀ q ∈ lw_privs_3, lw_okq q := List.forall_mem_cons.mpr ⟨lw_p32, List.forall_mem_cons.mpr ⟨lw_p33, List.forall_mem_cons.mpr ⟨lw_p34, List.forall_mem_cons.mpr ⟨lw_p35, List.forall_mem_cons.mpr ⟨lw_p36, List.forall_mem_cons.mpr ⟨lw_p37, List.forall_mem_cons.mpr ⟨lw_p38, List.forall_mem_cons.mpr ⟨lw_p39, List.forall_mem_cons.mpr ⟨lw_p40, List.forall_mem_cons.mpr ⟨lw_p41, List.forall_mem_cons.mpr ⟨lw_p42, List.forall_mem_cons.mpr ⟨lw_p43, List.forall_mem_cons.mpr ⟨lw_p44, List.forall_mem_cons.mpr ⟨lw_p45, List.forall_mem_cons.mpr ⟨lw_p46, List.forall_mem_cons.mpr ⟨lw_p47, fun _ h => absurd h List.not_mem_nil⟩⟩⟩⟩⟩⟩⟩⟩⟩⟩⟩⟩⟩⟩⟩⟩
theorem lw_p48 : lw_okq (⟨"HeatShelves", "paidForNightsInWork", "()I"⟩, 7) := ⟨⟨by decide +kernel, by decide +kernel⟩, List.mem_of_getElem? (i := 10) (by decide +kernel), List.mem_of_getElem? (i := 472) (by decide +kernel), List.mem_of_getElem? (i := 473) (by decide +kernel)⟩
theorem lw_p49 : lw_okq (⟨"HeatShelves", "paidWithHot", "(II)I"⟩, 7) := ⟨⟨by decide +kernel, by decide +kernel⟩, List.mem_of_getElem? (i := 10) (by decide +kernel), List.mem_of_getElem? (i := 485) (by decide +kernel), List.mem_of_getElem? (i := 486) (by decide +kernel)⟩
theorem lw_p50 : lw_okq (⟨"HeatShelves", "priceOfStay", "(III)I"⟩, 7) := ⟨⟨by decide +kernel, by decide +kernel⟩, List.mem_of_getElem? (i := 10) (by decide +kernel), List.mem_of_getElem? (i := 494) (by decide +kernel), List.mem_of_getElem? (i := 495) (by decide +kernel)⟩
theorem lw_p51 : lw_okq (⟨"HeatShelvesModel", "copies", "()V"⟩, 8) := ⟨⟨by decide +kernel, by decide +kernel⟩, List.mem_of_getElem? (i := 498) (by decide +kernel), List.mem_of_getElem? (i := 536) (by decide +kernel), List.mem_of_getElem? (i := 537) (by decide +kernel)⟩
theorem lw_p52 : lw_okq (⟨"HeatShelvesModel", "adds", "(I)I"⟩, 8) := ⟨⟨by decide +kernel, by decide +kernel⟩, List.mem_of_getElem? (i := 498) (by decide +kernel), List.mem_of_getElem? (i := 540) (by decide +kernel), List.mem_of_getElem? (i := 541) (by decide +kernel)⟩
theorem lw_p53 : lw_okq (⟨"HeatShelvesModel", "hasRoom", "(III)Z"⟩, 8) := ⟨⟨by decide +kernel, by decide +kernel⟩, List.mem_of_getElem? (i := 498) (by decide +kernel), List.mem_of_getElem? (i := 544) (by decide +kernel), List.mem_of_getElem? (i := 545) (by decide +kernel)⟩
theorem lw_p54 : lw_okq (⟨"HeatShelvesModel", "on", "(III)I"⟩, 8) := ⟨⟨by decide +kernel, by decide +kernel⟩, List.mem_of_getElem? (i := 498) (by decide +kernel), List.mem_of_getElem? (i := 548) (by decide +kernel), List.mem_of_getElem? (i := 549) (by decide +kernel)⟩
theorem lw_p55 : lw_okq (⟨"HeatShelvesModel", "changes", "(I)I"⟩, 8) := ⟨⟨by decide +kernel, by decide +kernel⟩, List.mem_of_getElem? (i := 498) (by decide +kernel), List.mem_of_getElem? (i := 555) (by decide +kernel), List.mem_of_getElem? (i := 556) (by decide +kernel)⟩
theorem lw_p56 : lw_okq (⟨"HeatShelvesModel", "lays", "()V"⟩, 8) := ⟨⟨by decide +kernel, by decide +kernel⟩, List.mem_of_getElem? (i := 498) (by decide +kernel), List.mem_of_getElem? (i := 559) (by decide +kernel), List.mem_of_getElem? (i := 560) (by decide +kernel)⟩
theorem lw_p57 : lw_okq (⟨"HeatShelvesModel", "remembers", "()V"⟩, 8) := ⟨⟨by decide +kernel, by decide +kernel⟩, List.mem_of_getElem? (i := 498) (by decide +kernel), List.mem_of_getElem? (i := 563) (by decide +kernel), List.mem_of_getElem? (i := 564) (by decide +kernel)⟩
theorem lw_p58 : lw_okq (⟨"HeatShelvesModel", "removes", "(I)I"⟩, 8) := ⟨⟨by decide +kernel, by decide +kernel⟩, List.mem_of_getElem? (i := 498) (by decide +kernel), List.mem_of_getElem? (i := 571) (by decide +kernel), List.mem_of_getElem? (i := 572) (by decide +kernel)⟩
theorem lw_p59 : lw_okq (⟨"HeatShelvesModel", "placeOf", "(II)I"⟩, 8) := ⟨⟨by decide +kernel, by decide +kernel⟩, List.mem_of_getElem? (i := 498) (by decide +kernel), List.mem_of_getElem? (i := 575) (by decide +kernel), List.mem_of_getElem? (i := 576) (by decide +kernel)⟩
theorem lw_p60 : lw_okq (⟨"HeatShelvesModel", "reads", "(II)I"⟩, 8) := ⟨⟨by decide +kernel, by decide +kernel⟩, List.mem_of_getElem? (i := 498) (by decide +kernel), List.mem_of_getElem? (i := 583) (by decide +kernel), List.mem_of_getElem? (i := 584) (by decide +kernel)⟩
theorem lw_p61 : lw_okq (⟨"HeatShelvesModel", "readsOne", "(I)I"⟩, 8) := ⟨⟨by decide +kernel, by decide +kernel⟩, List.mem_of_getElem? (i := 498) (by decide +kernel), List.mem_of_getElem? (i := 587) (by decide +kernel), List.mem_of_getElem? (i := 588) (by decide +kernel)⟩
theorem lw_p62 : lw_okq (⟨"HeatShelvesModel", "turnsPin", "(I)I"⟩, 8) := ⟨⟨by decide +kernel, by decide +kernel⟩, List.mem_of_getElem? (i := 498) (by decide +kernel), List.mem_of_getElem? (i := 596) (by decide +kernel), List.mem_of_getElem? (i := 597) (by decide +kernel)⟩
theorem lw_p63 : lw_okq (⟨"HeatShelvesModel", "pinned", "(I)I"⟩, 8) := ⟨⟨by decide +kernel, by decide +kernel⟩, List.mem_of_getElem? (i := 498) (by decide +kernel), List.mem_of_getElem? (i := 600) (by decide +kernel), List.mem_of_getElem? (i := 601) (by decide +kernel)⟩
def lw_privs_4 : List (MethodName × Nat) := [(⟨"HeatShelves", "paidForNightsInWork", "()I"⟩, 7), (⟨"HeatShelves", "paidWithHot", "(II)I"⟩, 7), (⟨"HeatShelves", "priceOfStay", "(III)I"⟩, 7), (⟨"HeatShelvesModel", "copies", "()V"⟩, 8), (⟨"HeatShelvesModel", "adds", "(I)I"⟩, 8), (⟨"HeatShelvesModel", "hasRoom", "(III)Z"⟩, 8), (⟨"HeatShelvesModel", "on", "(III)I"⟩, 8), (⟨"HeatShelvesModel", "changes", "(I)I"⟩, 8), (⟨"HeatShelvesModel", "lays", "()V"⟩, 8), (⟨"HeatShelvesModel", "remembers", "()V"⟩, 8), (⟨"HeatShelvesModel", "removes", "(I)I"⟩, 8), (⟨"HeatShelvesModel", "placeOf", "(II)I"⟩, 8), (⟨"HeatShelvesModel", "reads", "(II)I"⟩, 8), (⟨"HeatShelvesModel", "readsOne", "(I)I"⟩, 8), (⟨"HeatShelvesModel", "turnsPin", "(I)I"⟩, 8), (⟨"HeatShelvesModel", "pinned", "(I)I"⟩, 8)]
theorem lw_r4 : ∀ q ∈ lw_privs_4, lw_okq q := List.forall_mem_cons.mpr ⟨lw_p48, List.forall_mem_cons.mpr ⟨lw_p49, List.forall_mem_cons.mpr ⟨lw_p50, List.forall_mem_cons.mpr ⟨lw_p51, List.forall_mem_cons.mpr ⟨lw_p52, List.forall_mem_cons.mpr ⟨lw_p53, List.forall_mem_cons.mpr ⟨lw_p54, List.forall_mem_cons.mpr ⟨lw_p55, List.forall_mem_cons.mpr ⟨lw_p56, List.forall_mem_cons.mpr ⟨lw_p57, List.forall_mem_cons.mpr ⟨lw_p58, List.forall_mem_cons.mpr ⟨lw_p59, List.forall_mem_cons.mpr ⟨lw_p60, List.forall_mem_cons.mpr ⟨lw_p61, List.forall_mem_cons.mpr ⟨lw_p62, List.forall_mem_cons.mpr ⟨lw_p63, fun _ h => absurd h List.not_mem_nil⟩⟩⟩⟩⟩⟩⟩⟩⟩⟩⟩⟩⟩⟩⟩⟩
theorem lw_p64 : lw_okq (⟨"HeatShelvesModel", "passesIn", "(I)I"⟩, 8) := ⟨⟨by decide +kernel, by decide +kernel⟩, List.mem_of_getElem? (i := 498) (by decide +kernel), List.mem_of_getElem? (i := 608) (by decide +kernel), List.mem_of_getElem? (i := 609) (by decide +kernel)⟩
theorem lw_p65 : lw_okq (⟨"HeatShelvesModel", "passes", "(II)I"⟩, 8) := ⟨⟨by decide +kernel, by decide +kernel⟩, List.mem_of_getElem? (i := 498) (by decide +kernel), List.mem_of_getElem? (i := 612) (by decide +kernel), List.mem_of_getElem? (i := 613) (by decide +kernel)⟩
theorem lw_p66 : lw_okq (⟨"HeatShelvesModel", "passesOne", "(I)I"⟩, 8) := ⟨⟨by decide +kernel, by decide +kernel⟩, List.mem_of_getElem? (i := 498) (by decide +kernel), List.mem_of_getElem? (i := 616) (by decide +kernel), List.mem_of_getElem? (i := 617) (by decide +kernel)⟩
theorem lw_p67 : lw_okq (⟨"HeatShelvesModel", "costs", "(II)I"⟩, 8) := ⟨⟨by decide +kernel, by decide +kernel⟩, List.mem_of_getElem? (i := 498) (by decide +kernel), List.mem_of_getElem? (i := 620) (by decide +kernel), List.mem_of_getElem? (i := 621) (by decide +kernel)⟩
theorem lw_p68 : lw_okq (⟨"HeatShelvesModel", "wanted", "(II)I"⟩, 8) := ⟨⟨by decide +kernel, by decide +kernel⟩, List.mem_of_getElem? (i := 498) (by decide +kernel), List.mem_of_getElem? (i := 624) (by decide +kernel), List.mem_of_getElem? (i := 625) (by decide +kernel)⟩
theorem lw_p69 : lw_okq (⟨"HeatShelvesModel", "turns", "(IZI)I"⟩, 8) := ⟨⟨by decide +kernel, by decide +kernel⟩, List.mem_of_getElem? (i := 498) (by decide +kernel), List.mem_of_getElem? (i := 628) (by decide +kernel), List.mem_of_getElem? (i := 629) (by decide +kernel)⟩
theorem lw_p70 : lw_okq (⟨"HeatShelvesModel", "next", "(IZ)I"⟩, 8) := ⟨⟨by decide +kernel, by decide +kernel⟩, List.mem_of_getElem? (i := 498) (by decide +kernel), List.mem_of_getElem? (i := 632) (by decide +kernel), List.mem_of_getElem? (i := 633) (by decide +kernel)⟩
theorem lw_p71 : lw_okq (⟨"HeatShelvesModel", "target", "(II)I"⟩, 8) := ⟨⟨by decide +kernel, by decide +kernel⟩, List.mem_of_getElem? (i := 498) (by decide +kernel), List.mem_of_getElem? (i := 636) (by decide +kernel), List.mem_of_getElem? (i := 637) (by decide +kernel)⟩
theorem lw_p72 : lw_okq (⟨"HeatShelvesModel", "fault", "()I"⟩, 8) := ⟨⟨by decide +kernel, by decide +kernel⟩, List.mem_of_getElem? (i := 498) (by decide +kernel), List.mem_of_getElem? (i := 659) (by decide +kernel), List.mem_of_getElem? (i := 660) (by decide +kernel)⟩
theorem lw_p73 : lw_okq (⟨"HeatShelvesModel", "orderEnd", "(I)I"⟩, 8) := ⟨⟨by decide +kernel, by decide +kernel⟩, List.mem_of_getElem? (i := 498) (by decide +kernel), List.mem_of_getElem? (i := 663) (by decide +kernel), List.mem_of_getElem? (i := 664) (by decide +kernel)⟩
theorem lw_p74 : lw_okq (⟨"HeatShelvesModel", "sign", "(I)I"⟩, 8) := ⟨⟨by decide +kernel, by decide +kernel⟩, List.mem_of_getElem? (i := 498) (by decide +kernel), List.mem_of_getElem? (i := 667) (by decide +kernel), List.mem_of_getElem? (i := 668) (by decide +kernel)⟩
theorem lw_p75 : lw_okq (⟨"HeatShelvesModel", "numberEnd", "(III)I"⟩, 8) := ⟨⟨by decide +kernel, by decide +kernel⟩, List.mem_of_getElem? (i := 498) (by decide +kernel), List.mem_of_getElem? (i := 671) (by decide +kernel), List.mem_of_getElem? (i := 672) (by decide +kernel)⟩
theorem lw_p76 : lw_okq (⟨"HeatShelvesModel", "digit", "(I)I"⟩, 8) := ⟨⟨by decide +kernel, by decide +kernel⟩, List.mem_of_getElem? (i := 498) (by decide +kernel), List.mem_of_getElem? (i := 675) (by decide +kernel), List.mem_of_getElem? (i := 676) (by decide +kernel)⟩
theorem lw_p77 : lw_okq (⟨"HeatShelvesModel", "does", "(I)I"⟩, 8) := ⟨⟨by decide +kernel, by decide +kernel⟩, List.mem_of_getElem? (i := 498) (by decide +kernel), List.mem_of_getElem? (i := 679) (by decide +kernel), List.mem_of_getElem? (i := 680) (by decide +kernel)⟩
theorem lw_p78 : lw_okq (⟨"HeatShelvesModel", "numberAt", "(I)I"⟩, 8) := ⟨⟨by decide +kernel, by decide +kernel⟩, List.mem_of_getElem? (i := 498) (by decide +kernel), List.mem_of_getElem? (i := 683) (by decide +kernel), List.mem_of_getElem? (i := 684) (by decide +kernel)⟩
theorem lw_p79 : lw_okq (⟨"HeatShelvesModel", "whyStays", "(I)I"⟩, 8) := ⟨⟨by decide +kernel, by decide +kernel⟩, List.mem_of_getElem? (i := 498) (by decide +kernel), List.mem_of_getElem? (i := 707) (by decide +kernel), List.mem_of_getElem? (i := 708) (by decide +kernel)⟩
def lw_privs_5 : List (MethodName × Nat) := [(⟨"HeatShelvesModel", "passesIn", "(I)I"⟩, 8), (⟨"HeatShelvesModel", "passes", "(II)I"⟩, 8), (⟨"HeatShelvesModel", "passesOne", "(I)I"⟩, 8), (⟨"HeatShelvesModel", "costs", "(II)I"⟩, 8), (⟨"HeatShelvesModel", "wanted", "(II)I"⟩, 8), (⟨"HeatShelvesModel", "turns", "(IZI)I"⟩, 8), (⟨"HeatShelvesModel", "next", "(IZ)I"⟩, 8), (⟨"HeatShelvesModel", "target", "(II)I"⟩, 8), (⟨"HeatShelvesModel", "fault", "()I"⟩, 8), (⟨"HeatShelvesModel", "orderEnd", "(I)I"⟩, 8), (⟨"HeatShelvesModel", "sign", "(I)I"⟩, 8), (⟨"HeatShelvesModel", "numberEnd", "(III)I"⟩, 8), (⟨"HeatShelvesModel", "digit", "(I)I"⟩, 8), (⟨"HeatShelvesModel", "does", "(I)I"⟩, 8), (⟨"HeatShelvesModel", "numberAt", "(I)I"⟩, 8), (⟨"HeatShelvesModel", "whyStays", "(I)I"⟩, 8)]
theorem lw_r5 : ∀ q ∈ lw_privs_5, lw_okq q := List.forall_mem_cons.mpr ⟨lw_p64, List.forall_mem_cons.mpr ⟨lw_p65, List.forall_mem_cons.mpr ⟨lw_p66, List.forall_mem_cons.mpr ⟨lw_p67, List.forall_mem_cons.mpr ⟨lw_p68, List.forall_mem_cons.mpr ⟨lw_p69, List.forall_mem_cons.mpr ⟨lw_p70, List.forall_mem_cons.mpr ⟨lw_p71, List.forall_mem_cons.mpr ⟨lw_p72, List.forall_mem_cons.mpr ⟨lw_p73, List.forall_mem_cons.mpr ⟨lw_p74, List.forall_mem_cons.mpr ⟨lw_p75, List.forall_mem_cons.mpr ⟨lw_p76, List.forall_mem_cons.mpr ⟨lw_p77, List.forall_mem_cons.mpr ⟨lw_p78, List.forall_mem_cons.mpr ⟨lw_p79, fun _ h => absurd h List.not_mem_nil⟩⟩⟩⟩⟩⟩⟩⟩⟩⟩⟩⟩⟩⟩⟩⟩
theorem lw_p80 : lw_okq (⟨"HeatShelvesModel", "heat", "(I)I"⟩, 8) := ⟨⟨by decide +kernel, by decide +kernel⟩, List.mem_of_getElem? (i := 498) (by decide +kernel), List.mem_of_getElem? (i := 719) (by decide +kernel), List.mem_of_getElem? (i := 720) (by decide +kernel)⟩
def lw_privs_6 : List (MethodName × Nat) := [(⟨"HeatShelvesModel", "heat", "(I)I"⟩, 8)]
theorem lw_r6 : ∀ q ∈ lw_privs_6, lw_okq q := List.forall_mem_cons.mpr ⟨lw_p80, fun _ h => absurd h List.not_mem_nil⟩
def lw_privs : List (MethodName × Nat) := lw_privs_1 ++ (lw_privs_2 ++ (lw_privs_3 ++ (lw_privs_4 ++ (lw_privs_5 ++ (lw_privs_6)))))
def lw_tbl : List Cond := k2_sels lw_privs ++ tables_1
theorem lw_privs_ok : ∀ q ∈ lw_privs, lw_okq q := by
  show ∀ q ∈ lw_privs_1 ++ (lw_privs_2 ++ (lw_privs_3 ++ (lw_privs_4 ++ (lw_privs_5 ++ (lw_privs_6))))), lw_okq q
  exact List.forall_mem_append.mpr ⟨lw_r1, List.forall_mem_append.mpr ⟨lw_r2, List.forall_mem_append.mpr ⟨lw_r3, List.forall_mem_append.mpr ⟨lw_r4, List.forall_mem_append.mpr ⟨lw_r5, lw_r6⟩⟩⟩⟩⟩
-- ===== end of PART A; then your names; then what follows =====
/-! ===== BEGIN words of one list among another's, by their places ===== -/
theorem goodIn_r {big : List Cond} (ws : List Cond) (ps : List Nat) (hp : ws = ps.filterMap (fun i => big[i]?)) (h : ws.all goodWord = true) : GoodIn big ws := by
  intro w hw
  have h1 := List.all_eq_true.mp h w hw
  rw [hp] at hw
  obtain ⟨i, -, hi⟩ := List.mem_filterMap.mp hw
  have hm : w ∈ big := by first | exact List.mem_of_getElem? hi | exact List.getElem?_mem hi
  exact ⟨hm, good_of_word h1⟩
theorem goodIn_app {big a b : List Cond} (ha : GoodIn big a) (hb : GoodIn big b) : GoodIn big (a ++ b) := fun w h => (List.mem_append.mp h).elim (ha w) (hb w)
theorem goodIn_ca {big a b : List Cond} {c : Cond} (ha : GoodIn big (c :: a)) (hb : GoodIn big b) : GoodIn big (c :: (a ++ b)) := fun w h => (List.mem_cons.mp h).elim (fun e => ha w (List.mem_cons.mpr (Or.inl e))) (fun h => (List.mem_append.mp h).elim (fun h => ha w (List.mem_cons.mpr (Or.inr h))) (hb w))
theorem goodIn_sub {big ws : List Cond} (hm : ∀ w ∈ ws, w ∈ big) (h : ws.all goodWord = true) : GoodIn big ws := fun w hw => ⟨hm w hw, good_of_word (List.all_eq_true.mp h w hw)⟩
/-! ===== END ===== -/

/-! ===== BEGIN printed: names, fields, word lists, decode rows ===== -/
def RX0 : String := "HeatShelves$History"
def TX0 : u_T := fun k => match k with
  | 0 => ("HeatShelves$History", "states", "[LHeatShelves$State;", true)
  | 1 => ("HeatShelves$History", "first", "I", false)
  | _ => ("HeatShelves$History", "count", "I", false)
def tyX0 : Nat → FieldType := fun k => match k with
  | 0 => .array (.object "HeatShelves$State")
  | 1 => .int
  | _ => .int
abbrev wsX00 : List Cond := u_ws RX0 TX0 3
theorem nmX0 : ∀ a, a < 3 → ∀ b, b < 3 → a ≠ b → (TX0 a).2.1 ≠ (TX0 b).2.1 := by decide +kernel
theorem tyX0_ok : ∀ k, k < 3 → parseFieldDescriptor (TX0 k).2.2.1 = some (tyX0 k) := by decide +kernel
abbrev cX0_init : ByteArray := prog_2_method_1_code
def yX0_init : MethodName := ⟨RX0, "<init>", "()V"⟩
abbrev cX0_stateAt : ByteArray := prog_2_method_2_code
def yX0_stateAt : MethodName := ⟨RX0, "stateAt", "(I)LHeatShelves$State;"⟩
abbrev cX0_record : ByteArray := prog_2_method_3_code
def yX0_record : MethodName := ⟨RX0, "record", "(LHeatShelves$State;)V"⟩
abbrev cX0_takeLatest : ByteArray := prog_2_method_4_code
def yX0_takeLatest : MethodName := ⟨RX0, "takeLatest", "(LHeatShelves$State;)Z"⟩
def RX1 : String := "HeatShelves$Night"
def TX1 : u_T := fun k => match k with
  | 0 => ("HeatShelves$Night", "wanted", "[I", true)
  | _ => ("HeatShelves$Night", "reasons", "[I", true)
def tyX1 : Nat → FieldType := fun k => match k with
  | 0 => .array .int
  | _ => .array .int
abbrev wsX10 : List Cond := u_ws RX1 TX1 2
theorem nmX1 : ∀ a, a < 2 → ∀ b, b < 2 → a ≠ b → (TX1 a).2.1 ≠ (TX1 b).2.1 := by decide +kernel
theorem tyX1_ok : ∀ k, k < 2 → parseFieldDescriptor (TX1 k).2.2.1 = some (tyX1 k) := by decide +kernel
abbrev cX1_init : ByteArray := prog_3_method_1_code
def yX1_init : MethodName := ⟨RX1, "<init>", "()V"⟩
abbrev cX1_letPass : ByteArray := prog_3_method_2_code
def yX1_letPass : MethodName := ⟨RX1, "letPass", "(LHeatShelves$State;I)I"⟩
abbrev cX1_findWhoMayMove : ByteArray := prog_3_method_3_code
def yX1_findWhoMayMove : MethodName := ⟨RX1, "findWhoMayMove", "(LHeatShelves$State;)V"⟩
abbrev cX1_moveInTurn : ByteArray := prog_3_method_4_code
def yX1_moveInTurn : MethodName := ⟨RX1, "moveInTurn", "(LHeatShelves$State;ZI)I"⟩
abbrev cX1_nextInTurn : ByteArray := prog_3_method_5_code
def yX1_nextInTurn : MethodName := ⟨RX1, "nextInTurn", "(LHeatShelves$State;Z)I"⟩
abbrev cX1_shelfToMoveTo : ByteArray := prog_3_method_6_code
def yX1_shelfToMoveTo : MethodName := ⟨RX1, "shelfToMoveTo", "(LHeatShelves$State;I)I"⟩
abbrev cX1_promiseIfDeep : ByteArray := prog_3_method_7_code
def yX1_promiseIfDeep : MethodName := ⟨RX1, "promiseIfDeep", "(LHeatShelves$State;I)V"⟩
def RX2 : String := "HeatShelves$Orders"
def TX2 : u_T := fun k => match k with
  | 0 => ("HeatShelves$Orders", "signs", "[I", true)
  | 1 => ("HeatShelves$Orders", "length", "I", false)
  | 2 => ("HeatShelves$Orders", "kinds", "[I", true)
  | 3 => ("HeatShelves$Orders", "values", "[I", true)
  | 4 => ("HeatShelves$Orders", "times", "[I", true)
  | 5 => ("HeatShelves$Orders", "count", "I", false)
  | _ => ("HeatShelves$Orders", "place", "I", false)
def tyX2 : Nat → FieldType := fun k => match k with
  | 0 => .array .int
  | 1 => .int
  | 2 => .array .int
  | 3 => .array .int
  | 4 => .array .int
  | 5 => .int
  | _ => .int
abbrev wsX20 : List Cond := u_ws RX2 TX2 7
theorem nmX2 : ∀ a, a < 7 → ∀ b, b < 7 → a ≠ b → (TX2 a).2.1 ≠ (TX2 b).2.1 := by decide +kernel
theorem tyX2_ok : ∀ k, k < 7 → parseFieldDescriptor (TX2 k).2.2.1 = some (tyX2 k) := by decide +kernel
abbrev cX2_init : ByteArray := prog_4_method_1_code
def yX2_init : MethodName := ⟨RX2, "<init>", "()V"⟩
abbrev cX2_append : ByteArray := prog_4_method_2_code
def yX2_append : MethodName := ⟨RX2, "append", "(C)I"⟩
abbrev cX2_empty : ByteArray := prog_4_method_3_code
def yX2_empty : MethodName := ⟨RX2, "empty", "()I"⟩
abbrev cX2_readAll : ByteArray := prog_4_method_4_code
def yX2_readAll : MethodName := ⟨RX2, "readAll", "()I"⟩
abbrev cX2_readOrder : ByteArray := prog_4_method_5_code
def yX2_readOrder : MethodName := ⟨RX2, "readOrder", "()Z"⟩
abbrev cX2_isKind : ByteArray := prog_4_method_6_code
def yX2_isKind : MethodName := ⟨RX2, "isKind", "(I)Z"⟩
abbrev cX2_leastOf : ByteArray := prog_4_method_7_code
def yX2_leastOf : MethodName := ⟨RX2, "leastOf", "(I)I"⟩
abbrev cX2_greatestOf : ByteArray := prog_4_method_8_code
def yX2_greatestOf : MethodName := ⟨RX2, "greatestOf", "(I)I"⟩
abbrev cX2_readNumber : ByteArray := prog_4_method_9_code
def yX2_readNumber : MethodName := ⟨RX2, "readNumber", "(II)I"⟩
abbrev cX2_digitHere : ByteArray := prog_4_method_10_code
def yX2_digitHere : MethodName := ⟨RX2, "digitHere", "()I"⟩
abbrev cX2_signHere : ByteArray := prog_4_method_11_code
def yX2_signHere : MethodName := ⟨RX2, "signHere", "()I"⟩
def RX3 : String := "HeatShelves$State"
def TX3 : u_T := fun k => match k with
  | 0 => ("HeatShelves$State", "numbers", "[I", true)
  | 1 => ("HeatShelves$State", "taken", "[I", true)
  | 2 => ("HeatShelves$State", "names", "[I", true)
  | 3 => ("HeatShelves$State", "sizes", "[I", true)
  | 4 => ("HeatShelves$State", "heats", "[I", true)
  | 5 => ("HeatShelves$State", "shelves", "[I", true)
  | 6 => ("HeatShelves$State", "pins", "[I", true)
  | 7 => ("HeatShelves$State", "promises", "[I", true)
  | 8 => ("HeatShelves$State", "readings", "[I", true)
  | _ => ("HeatShelves$State", "moves", "[I", true)
def tyX3 : Nat → FieldType := fun k => match k with
  | 0 => .array .int
  | 1 => .array .int
  | 2 => .array .int
  | 3 => .array .int
  | 4 => .array .int
  | 5 => .array .int
  | 6 => .array .int
  | 7 => .array .int
  | 8 => .array .int
  | _ => .array .int
abbrev wsX30 : List Cond := u_ws RX3 TX3 10
theorem nmX3 : ∀ a, a < 10 → ∀ b, b < 10 → a ≠ b → (TX3 a).2.1 ≠ (TX3 b).2.1 := by decide +kernel
theorem tyX3_ok : ∀ k, k < 10 → parseFieldDescriptor (TX3 k).2.2.1 = some (tyX3 k) := by decide +kernel
abbrev cX3_init : ByteArray := prog_5_method_1_code
def yX3_init : MethodName := ⟨RX3, "<init>", "()V"⟩
abbrev cX3_copyFrom : ByteArray := prog_5_method_2_code
def yX3_copyFrom : MethodName := ⟨RX3, "copyFrom", "(LHeatShelves$State;)V"⟩
abbrev cX3_countBlocks : ByteArray := prog_5_method_3_code
def yX3_countBlocks : MethodName := ⟨RX3, "countBlocks", "()I"⟩
abbrev cX3_find : ByteArray := prog_5_method_4_code
def yX3_find : MethodName := ⟨RX3, "find", "(I)I"⟩
abbrev cX3_placeOfRank : ByteArray := prog_5_method_5_code
def yX3_placeOfRank : MethodName := ⟨RX3, "placeOfRank", "(I)I"⟩
abbrev cX3_countHotter : ByteArray := prog_5_method_6_code
def yX3_countHotter : MethodName := ⟨RX3, "countHotter", "(I)I"⟩
abbrev cX3_wantedShelf : ByteArray := prog_5_method_7_code
def yX3_wantedShelf : MethodName := ⟨RX3, "wantedShelf", "(I)I"⟩
abbrev cX3_hasRoom : ByteArray := prog_5_method_8_code
def yX3_hasRoom : MethodName := ⟨RX3, "hasRoom", "(II)Z"⟩
abbrev cX3_countOnShelf : ByteArray := prog_5_method_9_code
def yX3_countOnShelf : MethodName := ⟨RX3, "countOnShelf", "(I)I"⟩
abbrev cX3_heatOnShelf : ByteArray := prog_5_method_10_code
def yX3_heatOnShelf : MethodName := ⟨RX3, "heatOnShelf", "(I)I"⟩
abbrev cX3_heatOfAll : ByteArray := prog_5_method_11_code
def yX3_heatOfAll : MethodName := ⟨RX3, "heatOfAll", "()I"⟩
abbrev cX3_nightPriceOfShelf : ByteArray := prog_5_method_12_code
def yX3_nightPriceOfShelf : MethodName := ⟨RX3, "nightPriceOfShelf", "(I)I"⟩
abbrev cX3_countPinned : ByteArray := prog_5_method_13_code
def yX3_countPinned : MethodName := ⟨RX3, "countPinned", "()I"⟩
abbrev cX3_addBlock : ByteArray := prog_5_method_14_code
def yX3_addBlock : MethodName := ⟨RX3, "addBlock", "(I)I"⟩
abbrev cX3_fastestWithRoom : ByteArray := prog_5_method_15_code
def yX3_fastestWithRoom : MethodName := ⟨RX3, "fastestWithRoom", "(I)I"⟩
abbrev cX3_dropBlock : ByteArray := prog_5_method_16_code
def yX3_dropBlock : MethodName := ⟨RX3, "dropBlock", "(I)I"⟩
abbrev cX3_readBlock : ByteArray := prog_5_method_17_code
def yX3_readBlock : MethodName := ⟨RX3, "readBlock", "(II)I"⟩
abbrev cX3_readOnce : ByteArray := prog_5_method_18_code
def yX3_readOnce : MethodName := ⟨RX3, "readOnce", "(I)I"⟩
abbrev cX3_askBack : ByteArray := prog_5_method_19_code
def yX3_askBack : MethodName := ⟨RX3, "askBack", "(I)I"⟩
abbrev cX3_moveTo : ByteArray := prog_5_method_20_code
def yX3_moveTo : MethodName := ⟨RX3, "moveTo", "(II)V"⟩
abbrev cX3_payNight : ByteArray := prog_5_method_21_code
def yX3_payNight : MethodName := ⟨RX3, "payNight", "()V"⟩
abbrev cX3_fade : ByteArray := prog_5_method_22_code
def yX3_fade : MethodName := ⟨RX3, "fade", "()V"⟩
abbrev cX3_turnPin : ByteArray := prog_5_method_23_code
def yX3_turnPin : MethodName := ⟨RX3, "turnPin", "(IZ)I"⟩
abbrev cX3_flipPin : ByteArray := prog_5_method_24_code
def yX3_flipPin : MethodName := ⟨RX3, "flipPin", "(I)I"⟩
abbrev cX3_changeSetting : ByteArray := prog_5_method_25_code
def yX3_changeSetting : MethodName := ⟨RX3, "changeSetting", "(II)I"⟩
abbrev cX3_allowsSetting : ByteArray := prog_5_method_26_code
def yX3_allowsSetting : MethodName := ⟨RX3, "allowsSetting", "(II)Z"⟩
def RX4 : String := "HeatShelves"
def TX4 : u_T := fun k => match k with
  | 0 => ("HeatShelves", "state", "LHeatShelves$State;", true)
  | 1 => ("HeatShelves", "work", "LHeatShelves$State;", true)
  | 2 => ("HeatShelves", "snapshot", "LHeatShelves$State;", true)
  | 3 => ("HeatShelves", "hasSnapshot", "Z", false)
  | 4 => ("HeatShelves", "history", "LHeatShelves$History;", true)
  | 5 => ("HeatShelves", "night", "LHeatShelves$Night;", true)
  | _ => ("HeatShelves", "orders", "LHeatShelves$Orders;", true)
def tyX4 : Nat → FieldType := fun k => match k with
  | 0 => .object "HeatShelves$State"
  | 1 => .object "HeatShelves$State"
  | 2 => .object "HeatShelves$State"
  | 3 => .boolean
  | 4 => .object "HeatShelves$History"
  | 5 => .object "HeatShelves$Night"
  | _ => .object "HeatShelves$Orders"
abbrev wsX40 : List Cond := u_ws RX4 TX4 7
theorem nmX4 : ∀ a, a < 7 → ∀ b, b < 7 → a ≠ b → (TX4 a).2.1 ≠ (TX4 b).2.1 := by decide +kernel
theorem tyX4_ok : ∀ k, k < 7 → parseFieldDescriptor (TX4 k).2.2.1 = some (tyX4 k) := by decide +kernel
abbrev cX4_init : ByteArray := prog_1_method_1_code
def yX4_init : MethodName := ⟨RX4, "<init>", "()V"⟩
abbrev cX4_add : ByteArray := prog_1_method_2_code
def yX4_add : MethodName := ⟨RX4, "add", "(I)I"⟩
abbrev cX4_remove : ByteArray := prog_1_method_3_code
def yX4_remove : MethodName := ⟨RX4, "remove", "(I)I"⟩
abbrev cX4_read : ByteArray := prog_1_method_4_code
def yX4_read : MethodName := ⟨RX4, "read", "(II)I"⟩
abbrev cX4_pin : ByteArray := prog_1_method_5_code
def yX4_pin : MethodName := ⟨RX4, "pin", "(IZ)I"⟩
abbrev cX4_pass : ByteArray := prog_1_method_6_code
def yX4_pass : MethodName := ⟨RX4, "pass", "(I)I"⟩
abbrev cX4_set : ByteArray := prog_1_method_7_code
def yX4_set : MethodName := ⟨RX4, "set", "(II)I"⟩
abbrev cX4_type : ByteArray := prog_1_method_8_code
def yX4_type : MethodName := ⟨RX4, "type", "(C)I"⟩
abbrev cX4_clearText : ByteArray := prog_1_method_9_code
def yX4_clearText : MethodName := ⟨RX4, "clearText", "()I"⟩
abbrev cX4_perform : ByteArray := prog_1_method_10_code
def yX4_perform : MethodName := ⟨RX4, "perform", "()I"⟩
abbrev cX4_undo : ByteArray := prog_1_method_11_code
def yX4_undo : MethodName := ⟨RX4, "undo", "()I"⟩
abbrev cX4_keep : ByteArray := prog_1_method_12_code
def yX4_keep : MethodName := ⟨RX4, "keep", "()I"⟩
abbrev cX4_restore : ByteArray := prog_1_method_13_code
def yX4_restore : MethodName := ⟨RX4, "restore", "()I"⟩
abbrev cX4_block : ByteArray := prog_1_method_14_code
def yX4_block : MethodName := ⟨RX4, "block", "(I)I"⟩
abbrev cX4_ofBlock : ByteArray := prog_1_method_15_code
def yX4_ofBlock : MethodName := ⟨RX4, "ofBlock", "(II)I"⟩
abbrev cX4_shelf : ByteArray := prog_1_method_16_code
def yX4_shelf : MethodName := ⟨RX4, "shelf", "(II)I"⟩
abbrev cX4_total : ByteArray := prog_1_method_17_code
def yX4_total : MethodName := ⟨RX4, "total", "(I)I"⟩
abbrev cX4_ifPassed : ByteArray := prog_1_method_18_code
def yX4_ifPassed : MethodName := ⟨RX4, "ifPassed", "(II)I"⟩
abbrev cX4_nextMove : ByteArray := prog_1_method_19_code
def yX4_nextMove : MethodName := ⟨RX4, "nextMove", "()I"⟩
abbrev cX4_bestHot : ByteArray := prog_1_method_20_code
def yX4_bestHot : MethodName := ⟨RX4, "bestHot", "(II)I"⟩
abbrev cX4_cheapest : ByteArray := prog_1_method_21_code
def yX4_cheapest : MethodName := ⟨RX4, "cheapest", "(II)I"⟩
abbrev cX4_settle : ByteArray := prog_1_method_22_code
def yX4_settle : MethodName := ⟨RX4, "settle", "(I)I"⟩
abbrev cX4_passInWork : ByteArray := prog_1_method_23_code
def yX4_passInWork : MethodName := ⟨RX4, "passInWork", "(I)I"⟩
abbrev cX4_performInWork : ByteArray := prog_1_method_24_code
def yX4_performInWork : MethodName := ⟨RX4, "performInWork", "(I)I"⟩
abbrev cX4_whyItStays : ByteArray := prog_1_method_25_code
def yX4_whyItStays : MethodName := ⟨RX4, "whyItStays", "(I)I"⟩
abbrev cX4_paidForNightsInWork : ByteArray := prog_1_method_26_code
def yX4_paidForNightsInWork : MethodName := ⟨RX4, "paidForNightsInWork", "()I"⟩
abbrev cX4_paidWithHot : ByteArray := prog_1_method_27_code
def yX4_paidWithHot : MethodName := ⟨RX4, "paidWithHot", "(II)I"⟩
abbrev cX4_priceOfStay : ByteArray := prog_1_method_28_code
def yX4_priceOfStay : MethodName := ⟨RX4, "priceOfStay", "(III)I"⟩
abbrev cX4_at : ByteArray := prog_1_method_29_code
def yX4_at : MethodName := ⟨RX4, "at", "([II)I"⟩
abbrev cX4_put : ByteArray := prog_1_method_30_code
def yX4_put : MethodName := ⟨RX4, "put", "([III)V"⟩
abbrev cX4_raise : ByteArray := prog_1_method_31_code
def yX4_raise : MethodName := ⟨RX4, "raise", "([III)V"⟩
abbrev cX4_copyRow : ByteArray := prog_1_method_32_code
def yX4_copyRow : MethodName := ⟨RX4, "copyRow", "([I[I)V"⟩
abbrev cX4_closeGap : ByteArray := prog_1_method_33_code
def yX4_closeGap : MethodName := ⟨RX4, "closeGap", "([II)V"⟩
def RX5 : String := "HeatShelvesModel"
def TX5 : u_T := fun k => match k with
  | 0 => ("HeatShelvesModel", "s", "[I", true)
  | 1 => ("HeatShelvesModel", "past", "[I", true)
  | 2 => ("HeatShelvesModel", "known", "I", false)
  | 3 => ("HeatShelvesModel", "snap", "[I", true)
  | 4 => ("HeatShelvesModel", "isKept", "Z", false)
  | 5 => ("HeatShelvesModel", "text", "[I", true)
  | 6 => ("HeatShelvesModel", "length", "I", false)
  | _ => ("HeatShelvesModel", "why", "[I", true)
def tyX5 : Nat → FieldType := fun k => match k with
  | 0 => .array .int
  | 1 => .array .int
  | 2 => .int
  | 3 => .array .int
  | 4 => .boolean
  | 5 => .array .int
  | 6 => .int
  | _ => .array .int
abbrev wsX50 : List Cond := u_ws RX5 TX5 8
theorem nmX5 : ∀ a, a < 8 → ∀ b, b < 8 → a ≠ b → (TX5 a).2.1 ≠ (TX5 b).2.1 := by decide +kernel
theorem tyX5_ok : ∀ k, k < 8 → parseFieldDescriptor (TX5 k).2.2.1 = some (tyX5 k) := by decide +kernel
abbrev cX5_init : ByteArray := prog_7_method_1_code
def yX5_init : MethodName := ⟨RX5, "<init>", "()V"⟩
abbrev cX5_in : ByteArray := prog_7_method_3_code
def yX5_in : MethodName := ⟨RX5, "in", "(III)Z"⟩
abbrev cX5_copies : ByteArray := prog_7_method_4_code
def yX5_copies : MethodName := ⟨RX5, "copies", "()V"⟩
abbrev cX5_remembers : ByteArray := prog_7_method_5_code
def yX5_remembers : MethodName := ⟨RX5, "remembers", "()V"⟩
abbrev cX5_lays : ByteArray := prog_7_method_6_code
def yX5_lays : MethodName := ⟨RX5, "lays", "()V"⟩
abbrev cX5_at : ByteArray := prog_7_method_7_code
def yX5_at : MethodName := ⟨RX5, "at", "(II)I"⟩
abbrev cX5_placeOf : ByteArray := prog_7_method_8_code
def yX5_placeOf : MethodName := ⟨RX5, "placeOf", "(II)I"⟩
abbrev cX5_on : ByteArray := prog_7_method_9_code
def yX5_on : MethodName := ⟨RX5, "on", "(III)I"⟩
abbrev cX5_hasRoom : ByteArray := prog_7_method_10_code
def yX5_hasRoom : MethodName := ⟨RX5, "hasRoom", "(III)Z"⟩
abbrev cX5_wanted : ByteArray := prog_7_method_11_code
def yX5_wanted : MethodName := ⟨RX5, "wanted", "(II)I"⟩
abbrev cX5_target : ByteArray := prog_7_method_12_code
def yX5_target : MethodName := ⟨RX5, "target", "(II)I"⟩
abbrev cX5_next : ByteArray := prog_7_method_13_code
def yX5_next : MethodName := ⟨RX5, "next", "(IZ)I"⟩
abbrev cX5_turns : ByteArray := prog_7_method_14_code
def yX5_turns : MethodName := ⟨RX5, "turns", "(IZI)I"⟩
abbrev cX5_costs : ByteArray := prog_7_method_15_code
def yX5_costs : MethodName := ⟨RX5, "costs", "(II)I"⟩
abbrev cX5_passesOne : ByteArray := prog_7_method_16_code
def yX5_passesOne : MethodName := ⟨RX5, "passesOne", "(I)I"⟩
abbrev cX5_passes : ByteArray := prog_7_method_17_code
def yX5_passes : MethodName := ⟨RX5, "passes", "(II)I"⟩
abbrev cX5_adds : ByteArray := prog_7_method_18_code
def yX5_adds : MethodName := ⟨RX5, "adds", "(I)I"⟩
abbrev cX5_removes : ByteArray := prog_7_method_19_code
def yX5_removes : MethodName := ⟨RX5, "removes", "(I)I"⟩
abbrev cX5_readsOne : ByteArray := prog_7_method_20_code
def yX5_readsOne : MethodName := ⟨RX5, "readsOne", "(I)I"⟩
abbrev cX5_reads : ByteArray := prog_7_method_21_code
def yX5_reads : MethodName := ⟨RX5, "reads", "(II)I"⟩
abbrev cX5_pinned : ByteArray := prog_7_method_22_code
def yX5_pinned : MethodName := ⟨RX5, "pinned", "(I)I"⟩
abbrev cX5_turnsPin : ByteArray := prog_7_method_23_code
def yX5_turnsPin : MethodName := ⟨RX5, "turnsPin", "(I)I"⟩
abbrev cX5_passesIn : ByteArray := prog_7_method_24_code
def yX5_passesIn : MethodName := ⟨RX5, "passesIn", "(I)I"⟩
abbrev cX5_changes : ByteArray := prog_7_method_25_code
def yX5_changes : MethodName := ⟨RX5, "changes", "(I)I"⟩
abbrev cX5_add : ByteArray := prog_7_method_26_code
def yX5_add : MethodName := ⟨RX5, "add", "(I)I"⟩
abbrev cX5_remove : ByteArray := prog_7_method_27_code
def yX5_remove : MethodName := ⟨RX5, "remove", "(I)I"⟩
abbrev cX5_read : ByteArray := prog_7_method_28_code
def yX5_read : MethodName := ⟨RX5, "read", "(II)I"⟩
abbrev cX5_pin : ByteArray := prog_7_method_29_code
def yX5_pin : MethodName := ⟨RX5, "pin", "(IZ)I"⟩
abbrev cX5_pass : ByteArray := prog_7_method_30_code
def yX5_pass : MethodName := ⟨RX5, "pass", "(I)I"⟩
abbrev cX5_mostOf : ByteArray := prog_7_method_31_code
def yX5_mostOf : MethodName := ⟨RX5, "mostOf", "(I)I"⟩
abbrev cX5_set : ByteArray := prog_7_method_32_code
def yX5_set : MethodName := ⟨RX5, "set", "(II)I"⟩
abbrev cX5_type : ByteArray := prog_7_method_33_code
def yX5_type : MethodName := ⟨RX5, "type", "(C)I"⟩
abbrev cX5_clearText : ByteArray := prog_7_method_34_code
def yX5_clearText : MethodName := ⟨RX5, "clearText", "()I"⟩
abbrev cX5_sign : ByteArray := prog_7_method_35_code
def yX5_sign : MethodName := ⟨RX5, "sign", "(I)I"⟩
abbrev cX5_digit : ByteArray := prog_7_method_36_code
def yX5_digit : MethodName := ⟨RX5, "digit", "(I)I"⟩
abbrev cX5_numberEnd : ByteArray := prog_7_method_37_code
def yX5_numberEnd : MethodName := ⟨RX5, "numberEnd", "(III)I"⟩
abbrev cX5_numberAt : ByteArray := prog_7_method_38_code
def yX5_numberAt : MethodName := ⟨RX5, "numberAt", "(I)I"⟩
abbrev cX5_orderEnd : ByteArray := prog_7_method_39_code
def yX5_orderEnd : MethodName := ⟨RX5, "orderEnd", "(I)I"⟩
abbrev cX5_fault : ByteArray := prog_7_method_40_code
def yX5_fault : MethodName := ⟨RX5, "fault", "()I"⟩
abbrev cX5_does : ByteArray := prog_7_method_41_code
def yX5_does : MethodName := ⟨RX5, "does", "(I)I"⟩
abbrev cX5_perform : ByteArray := prog_7_method_42_code
def yX5_perform : MethodName := ⟨RX5, "perform", "()I"⟩
abbrev cX5_undo : ByteArray := prog_7_method_43_code
def yX5_undo : MethodName := ⟨RX5, "undo", "()I"⟩
abbrev cX5_keep : ByteArray := prog_7_method_44_code
def yX5_keep : MethodName := ⟨RX5, "keep", "()I"⟩
abbrev cX5_restore : ByteArray := prog_7_method_45_code
def yX5_restore : MethodName := ⟨RX5, "restore", "()I"⟩
abbrev cX5_block : ByteArray := prog_7_method_46_code
def yX5_block : MethodName := ⟨RX5, "block", "(I)I"⟩
abbrev cX5_whyStays : ByteArray := prog_7_method_47_code
def yX5_whyStays : MethodName := ⟨RX5, "whyStays", "(I)I"⟩
abbrev cX5_ofBlock : ByteArray := prog_7_method_48_code
def yX5_ofBlock : MethodName := ⟨RX5, "ofBlock", "(II)I"⟩
abbrev cX5_shelf : ByteArray := prog_7_method_49_code
def yX5_shelf : MethodName := ⟨RX5, "shelf", "(II)I"⟩
abbrev cX5_heat : ByteArray := prog_7_method_50_code
def yX5_heat : MethodName := ⟨RX5, "heat", "(I)I"⟩
abbrev cX5_total : ByteArray := prog_7_method_51_code
def yX5_total : MethodName := ⟨RX5, "total", "(I)I"⟩
abbrev cX5_ifPassed : ByteArray := prog_7_method_52_code
def yX5_ifPassed : MethodName := ⟨RX5, "ifPassed", "(II)I"⟩
abbrev cX5_nextMove : ByteArray := prog_7_method_53_code
def yX5_nextMove : MethodName := ⟨RX5, "nextMove", "()I"⟩
abbrev cX5_bestHot : ByteArray := prog_7_method_54_code
def yX5_bestHot : MethodName := ⟨RX5, "bestHot", "(II)I"⟩
abbrev cX5_cheapest : ByteArray := prog_7_method_55_code
def yX5_cheapest : MethodName := ⟨RX5, "cheapest", "(II)I"⟩
def RJ9 : String := "java/lang/Math"
def TJ9 : u_T := fun k => match k with
  | _ => ("", "", "", false)
def tyJ9 : Nat → FieldType := fun k => match k with
  | _ => .int
abbrev wsJ90 : List Cond := u_ws RJ9 TJ9 0
theorem nmJ9 : ∀ a, a < 0 → ∀ b, b < 0 → a ≠ b → (TJ9 a).2.1 ≠ (TJ9 b).2.1 := by decide +kernel
theorem tyJ9_ok : ∀ k, k < 0 → parseFieldDescriptor (TJ9 k).2.2.1 = some (tyJ9 k) := by decide +kernel
abbrev cJ9_abs_0f7a4 : ByteArray := prog_8_method_59_code
def yJ9_abs_0f7a4 : MethodName := ⟨RJ9, "abs", "(I)I"⟩
abbrev cJ9_max_7cf53 : ByteArray := prog_8_method_65_code
def yJ9_max_7cf53 : MethodName := ⟨RJ9, "max", "(II)I"⟩
abbrev cJ9_min_7cf53 : ByteArray := prog_8_method_69_code
def yJ9_min_7cf53 : MethodName := ⟨RJ9, "min", "(II)I"⟩
def RJ10 : String := "java/lang/System"
def TJ10 : u_T := fun k => match k with
  | _ => ("", "", "", false)
def tyJ10 : Nat → FieldType := fun k => match k with
  | _ => .int
abbrev wsJ100 : List Cond := u_ws RJ10 TJ10 0
theorem nmJ10 : ∀ a, a < 0 → ∀ b, b < 0 → a ≠ b → (TJ10 a).2.1 ≠ (TJ10 b).2.1 := by decide +kernel
theorem tyJ10_ok : ∀ k, k < 0 → parseFieldDescriptor (TJ10 k).2.2.1 = some (tyJ10 k) := by decide +kernel
def RL : String := "HeatShelvesLaw"
abbrev cL_law : ByteArray := code
def yL_law : MethodName := ⟨RL, "law", "([I)Z"⟩
def wsX3_init : List Cond := .code yX3_init cX3_init 2 none :: ([.methodLink RX3 3 objectInit, .instanceMethod objectInit, .code objectInit ⟨#[0xb1]⟩ 1 none, .arrayClass .int, .fieldLink RX3 9 "HeatShelves$State" "numbers" "[I", .fieldLink RX3 15 "HeatShelves$State" "taken" "[I", .fieldLink RX3 18 "HeatShelves$State" "names" "[I", .fieldLink RX3 21 "HeatShelves$State" "sizes" "[I", .fieldLink RX3 24 "HeatShelves$State" "heats" "[I", .fieldLink RX3 27 "HeatShelves$State" "shelves" "[I", .fieldLink RX3 30 "HeatShelves$State" "pins" "[I", .fieldLink RX3 33 "HeatShelves$State" "promises" "[I", .fieldLink RX3 36 "HeatShelves$State" "readings" "[I", .fieldLink RX3 39 "HeatShelves$State" "moves" "[I"] ++ wsX30)
def wsX0_init : List Cond := .code yX0_init cX0_init 2 none :: ([.methodLink RX0 3 objectInit, .instanceMethod objectInit, .code objectInit ⟨#[0xb1]⟩ 1 none, .classLink RX0 9 RX3, .fieldLink RX0 11 "HeatShelves$History" "states" "[LHeatShelves$State;", .fieldLink RX0 17 "HeatShelves$History" "first" "I", .fieldLink RX0 21 "HeatShelves$History" "count" "I", .instantiable RX3 10, .initialized RX3, .instanceMethod yX3_init, .code yX3_init cX3_init 2 none, .methodLink RX3 3 objectInit, .arrayClass .int, .fieldLink RX3 9 "HeatShelves$State" "numbers" "[I", .fieldLink RX3 15 "HeatShelves$State" "taken" "[I", .fieldLink RX3 18 "HeatShelves$State" "names" "[I", .fieldLink RX3 21 "HeatShelves$State" "sizes" "[I", .fieldLink RX3 24 "HeatShelves$State" "heats" "[I", .fieldLink RX3 27 "HeatShelves$State" "shelves" "[I", .fieldLink RX3 30 "HeatShelves$State" "pins" "[I", .fieldLink RX3 33 "HeatShelves$State" "promises" "[I", .fieldLink RX3 36 "HeatShelves$State" "readings" "[I", .fieldLink RX3 39 "HeatShelves$State" "moves" "[I"] ++ wsX00 ++ wsX30)
def wsX0_stateAt : List Cond := .code yX0_stateAt cX0_stateAt 3 (some (.object "HeatShelves$State")) :: ([.fieldLink RX0 17 "HeatShelves$History" "first" "I", .fieldLink RX0 11 "HeatShelves$History" "states" "[LHeatShelves$State;"] ++ wsX00)
abbrev vwCl : List vw_C := [(RX0, TX0, 3), (RX1, TX1, 2), (RX2, TX2, 7), (RX3, TX3, 10), (RX4, TX4, 7), (RX5, TX5, 8)]
