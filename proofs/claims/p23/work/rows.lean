section
-- ===== PART A: goes FIRST, ahead of the names: the tables' words, and 'selects' of the private methods out of them =====
/-- a private method of a class that the tables say can be made, by its rows of tables_1 -/
def lw_okq (q : MethodName × Nat) : Prop := (q.1.cls ≠ "java/lang/invoke/MethodHandle" ∧ q.1.cls ≠ "java/lang/invoke/VarHandle") ∧ Cond.instantiable q.1.cls q.2 ∈ tables_1 ∧ Cond.privateMethod q.1 ∈ tables_1 ∧ Cond.instanceMethod q.1 ∈ tables_1
theorem lw_p0 : lw_okq (⟨"HeatShelves$State", "copyFrom", "(LHeatShelves$State;)V"⟩, 10) := ⟨⟨by decide +kernel, by decide +kernel⟩, List.mem_of_getElem? (i := 17) (by decide +kernel), List.mem_of_getElem? (i := 162) (by decide +kernel), List.mem_of_getElem? (i := 163) (by decide +kernel)⟩
theorem lw_p1 : lw_okq (⟨"HeatShelves$State", "addBlock", "(I)I"⟩, 10) := ⟨⟨by decide +kernel, by decide +kernel⟩, List.mem_of_getElem? (i := 17) (by decide +kernel), List.mem_of_getElem? (i := 175) (by decide +kernel), List.mem_of_getElem? (i := 176) (by decide +kernel)⟩
theorem lw_p2 : lw_okq (⟨"HeatShelves$State", "fastestWithRoom", "(I)I"⟩, 10) := ⟨⟨by decide +kernel, by decide +kernel⟩, List.mem_of_getElem? (i := 17) (by decide +kernel), List.mem_of_getElem? (i := 179) (by decide +kernel), List.mem_of_getElem? (i := 180) (by decide +kernel)⟩
theorem lw_p3 : lw_okq (⟨"HeatShelves$State", "hasRoom", "(II)Z"⟩, 10) := ⟨⟨by decide +kernel, by decide +kernel⟩, List.mem_of_getElem? (i := 17) (by decide +kernel), List.mem_of_getElem? (i := 183) (by decide +kernel), List.mem_of_getElem? (i := 184) (by decide +kernel)⟩
theorem lw_p4 : lw_okq (⟨"HeatShelves$State", "countBlocks", "()I"⟩, 10) := ⟨⟨by decide +kernel, by decide +kernel⟩, List.mem_of_getElem? (i := 17) (by decide +kernel), List.mem_of_getElem? (i := 187) (by decide +kernel), List.mem_of_getElem? (i := 188) (by decide +kernel)⟩
theorem lw_p5 : lw_okq (⟨"HeatShelves", "settle", "(I)I"⟩, 7) := ⟨⟨by decide +kernel, by decide +kernel⟩, List.mem_of_getElem? (i := 9) (by decide +kernel), List.mem_of_getElem? (i := 200) (by decide +kernel), List.mem_of_getElem? (i := 201) (by decide +kernel)⟩
theorem lw_p6 : lw_okq (⟨"HeatShelves$History", "record", "(LHeatShelves$State;)V"⟩, 3) := ⟨⟨by decide +kernel, by decide +kernel⟩, List.mem_of_getElem? (i := 73) (by decide +kernel), List.mem_of_getElem? (i := 204) (by decide +kernel), List.mem_of_getElem? (i := 205) (by decide +kernel)⟩
theorem lw_p7 : lw_okq (⟨"HeatShelves$History", "stateAt", "(I)LHeatShelves$State;"⟩, 3) := ⟨⟨by decide +kernel, by decide +kernel⟩, List.mem_of_getElem? (i := 73) (by decide +kernel), List.mem_of_getElem? (i := 208) (by decide +kernel), List.mem_of_getElem? (i := 209) (by decide +kernel)⟩
theorem lw_p8 : lw_okq (⟨"HeatShelves", "passInWork", "(I)I"⟩, 7) := ⟨⟨by decide +kernel, by decide +kernel⟩, List.mem_of_getElem? (i := 9) (by decide +kernel), List.mem_of_getElem? (i := 217) (by decide +kernel), List.mem_of_getElem? (i := 218) (by decide +kernel)⟩
theorem lw_p9 : lw_okq (⟨"HeatShelves$Night", "letPass", "(LHeatShelves$State;I)I"⟩, 2) := ⟨⟨by decide +kernel, by decide +kernel⟩, List.mem_of_getElem? (i := 93) (by decide +kernel), List.mem_of_getElem? (i := 222) (by decide +kernel), List.mem_of_getElem? (i := 223) (by decide +kernel)⟩
theorem lw_p10 : lw_okq (⟨"HeatShelves$State", "payNight", "()V"⟩, 10) := ⟨⟨by decide +kernel, by decide +kernel⟩, List.mem_of_getElem? (i := 17) (by decide +kernel), List.mem_of_getElem? (i := 227) (by decide +kernel), List.mem_of_getElem? (i := 228) (by decide +kernel)⟩
theorem lw_p11 : lw_okq (⟨"HeatShelves$State", "nightPriceOfShelf", "(I)I"⟩, 10) := ⟨⟨by decide +kernel, by decide +kernel⟩, List.mem_of_getElem? (i := 17) (by decide +kernel), List.mem_of_getElem? (i := 231) (by decide +kernel), List.mem_of_getElem? (i := 232) (by decide +kernel)⟩
theorem lw_p12 : lw_okq (⟨"HeatShelves$State", "fade", "()V"⟩, 10) := ⟨⟨by decide +kernel, by decide +kernel⟩, List.mem_of_getElem? (i := 17) (by decide +kernel), List.mem_of_getElem? (i := 235) (by decide +kernel), List.mem_of_getElem? (i := 236) (by decide +kernel)⟩
theorem lw_p13 : lw_okq (⟨"HeatShelves$Night", "findWhoMayMove", "(LHeatShelves$State;)V"⟩, 2) := ⟨⟨by decide +kernel, by decide +kernel⟩, List.mem_of_getElem? (i := 93) (by decide +kernel), List.mem_of_getElem? (i := 242) (by decide +kernel), List.mem_of_getElem? (i := 243) (by decide +kernel)⟩
theorem lw_p14 : lw_okq (⟨"HeatShelves$State", "wantedShelf", "(I)I"⟩, 10) := ⟨⟨by decide +kernel, by decide +kernel⟩, List.mem_of_getElem? (i := 17) (by decide +kernel), List.mem_of_getElem? (i := 247) (by decide +kernel), List.mem_of_getElem? (i := 248) (by decide +kernel)⟩
theorem lw_p15 : lw_okq (⟨"HeatShelves$Night", "moveInTurn", "(LHeatShelves$State;ZI)I"⟩, 2) := ⟨⟨by decide +kernel, by decide +kernel⟩, List.mem_of_getElem? (i := 93) (by decide +kernel), List.mem_of_getElem? (i := 252) (by decide +kernel), List.mem_of_getElem? (i := 253) (by decide +kernel)⟩
def lw_privs_1 : List (MethodName × Nat) := [(⟨"HeatShelves$State", "copyFrom", "(LHeatShelves$State;)V"⟩, 10), (⟨"HeatShelves$State", "addBlock", "(I)I"⟩, 10), (⟨"HeatShelves$State", "fastestWithRoom", "(I)I"⟩, 10), (⟨"HeatShelves$State", "hasRoom", "(II)Z"⟩, 10), (⟨"HeatShelves$State", "countBlocks", "()I"⟩, 10), (⟨"HeatShelves", "settle", "(I)I"⟩, 7), (⟨"HeatShelves$History", "record", "(LHeatShelves$State;)V"⟩, 3), (⟨"HeatShelves$History", "stateAt", "(I)LHeatShelves$State;"⟩, 3), (⟨"HeatShelves", "passInWork", "(I)I"⟩, 7), (⟨"HeatShelves$Night", "letPass", "(LHeatShelves$State;I)I"⟩, 2), (⟨"HeatShelves$State", "payNight", "()V"⟩, 10), (⟨"HeatShelves$State", "nightPriceOfShelf", "(I)I"⟩, 10), (⟨"HeatShelves$State", "fade", "()V"⟩, 10), (⟨"HeatShelves$Night", "findWhoMayMove", "(LHeatShelves$State;)V"⟩, 2), (⟨"HeatShelves$State", "wantedShelf", "(I)I"⟩, 10), (⟨"HeatShelves$Night", "moveInTurn", "(LHeatShelves$State;ZI)I"⟩, 2)]
theorem lw_r1 : ∀ q ∈ lw_privs_1, lw_okq q := List.forall_mem_cons.mpr ⟨lw_p0, List.forall_mem_cons.mpr ⟨lw_p1, List.forall_mem_cons.mpr ⟨lw_p2, List.forall_mem_cons.mpr ⟨lw_p3, List.forall_mem_cons.mpr ⟨lw_p4, List.forall_mem_cons.mpr ⟨lw_p5, List.forall_mem_cons.mpr ⟨lw_p6, List.forall_mem_cons.mpr ⟨lw_p7, List.forall_mem_cons.mpr ⟨lw_p8, List.forall_mem_cons.mpr ⟨lw_p9, List.forall_mem_cons.mpr ⟨lw_p10, List.forall_mem_cons.mpr ⟨lw_p11, List.forall_mem_cons.mpr ⟨lw_p12, List.forall_mem_cons.mpr ⟨lw_p13, List.forall_mem_cons.mpr ⟨lw_p14, List.forall_mem_cons.mpr ⟨lw_p15, fun _ h => absurd h List.not_mem_nil⟩⟩⟩⟩⟩⟩⟩⟩⟩⟩⟩⟩⟩⟩⟩⟩
theorem lw_p16 : lw_okq (⟨"HeatShelves$Night", "nextInTurn", "(LHeatShelves$State;Z)I"⟩, 2) := ⟨⟨by decide +kernel, by decide +kernel⟩, List.mem_of_getElem? (i := 93) (by decide +kernel), List.mem_of_getElem? (i := 256) (by decide +kernel), List.mem_of_getElem? (i := 257) (by decide +kernel)⟩
theorem lw_p17 : lw_okq (⟨"HeatShelves$Night", "shelfToMoveTo", "(LHeatShelves$State;I)I"⟩, 2) := ⟨⟨by decide +kernel, by decide +kernel⟩, List.mem_of_getElem? (i := 93) (by decide +kernel), List.mem_of_getElem? (i := 260) (by decide +kernel), List.mem_of_getElem? (i := 261) (by decide +kernel)⟩
theorem lw_p18 : lw_okq (⟨"HeatShelves$State", "moveTo", "(II)V"⟩, 10) := ⟨⟨by decide +kernel, by decide +kernel⟩, List.mem_of_getElem? (i := 17) (by decide +kernel), List.mem_of_getElem? (i := 268) (by decide +kernel), List.mem_of_getElem? (i := 269) (by decide +kernel)⟩
theorem lw_p19 : lw_okq (⟨"HeatShelves$Night", "promiseIfDeep", "(LHeatShelves$State;I)V"⟩, 2) := ⟨⟨by decide +kernel, by decide +kernel⟩, List.mem_of_getElem? (i := 93) (by decide +kernel), List.mem_of_getElem? (i := 272) (by decide +kernel), List.mem_of_getElem? (i := 273) (by decide +kernel)⟩
theorem lw_p20 : lw_okq (⟨"HeatShelves$State", "changeSetting", "(II)I"⟩, 10) := ⟨⟨by decide +kernel, by decide +kernel⟩, List.mem_of_getElem? (i := 17) (by decide +kernel), List.mem_of_getElem? (i := 281) (by decide +kernel), List.mem_of_getElem? (i := 282) (by decide +kernel)⟩
theorem lw_p21 : lw_okq (⟨"HeatShelves$State", "allowsSetting", "(II)Z"⟩, 10) := ⟨⟨by decide +kernel, by decide +kernel⟩, List.mem_of_getElem? (i := 17) (by decide +kernel), List.mem_of_getElem? (i := 287) (by decide +kernel), List.mem_of_getElem? (i := 288) (by decide +kernel)⟩
theorem lw_p22 : lw_okq (⟨"HeatShelves$History", "takeLatest", "(LHeatShelves$State;)Z"⟩, 3) := ⟨⟨by decide +kernel, by decide +kernel⟩, List.mem_of_getElem? (i := 73) (by decide +kernel), List.mem_of_getElem? (i := 295) (by decide +kernel), List.mem_of_getElem? (i := 296) (by decide +kernel)⟩
theorem lw_p23 : lw_okq (⟨"HeatShelves$State", "countOnShelf", "(I)I"⟩, 10) := ⟨⟨by decide +kernel, by decide +kernel⟩, List.mem_of_getElem? (i := 17) (by decide +kernel), List.mem_of_getElem? (i := 308) (by decide +kernel), List.mem_of_getElem? (i := 309) (by decide +kernel)⟩
theorem lw_p24 : lw_okq (⟨"HeatShelves$State", "heatOnShelf", "(I)I"⟩, 10) := ⟨⟨by decide +kernel, by decide +kernel⟩, List.mem_of_getElem? (i := 17) (by decide +kernel), List.mem_of_getElem? (i := 312) (by decide +kernel), List.mem_of_getElem? (i := 313) (by decide +kernel)⟩
theorem lw_p25 : lw_okq (⟨"HeatShelves$State", "countPinned", "()I"⟩, 10) := ⟨⟨by decide +kernel, by decide +kernel⟩, List.mem_of_getElem? (i := 17) (by decide +kernel), List.mem_of_getElem? (i := 321) (by decide +kernel), List.mem_of_getElem? (i := 322) (by decide +kernel)⟩
theorem lw_p26 : lw_okq (⟨"HeatShelves$State", "heatOfAll", "()I"⟩, 10) := ⟨⟨by decide +kernel, by decide +kernel⟩, List.mem_of_getElem? (i := 17) (by decide +kernel), List.mem_of_getElem? (i := 325) (by decide +kernel), List.mem_of_getElem? (i := 326) (by decide +kernel)⟩
theorem lw_p27 : lw_okq (⟨"HeatShelves", "paidWithHot", "(II)I"⟩, 7) := ⟨⟨by decide +kernel, by decide +kernel⟩, List.mem_of_getElem? (i := 9) (by decide +kernel), List.mem_of_getElem? (i := 339) (by decide +kernel), List.mem_of_getElem? (i := 340) (by decide +kernel)⟩
theorem lw_p28 : lw_okq (⟨"HeatShelves", "paidForNightsInWork", "()I"⟩, 7) := ⟨⟨by decide +kernel, by decide +kernel⟩, List.mem_of_getElem? (i := 9) (by decide +kernel), List.mem_of_getElem? (i := 344) (by decide +kernel), List.mem_of_getElem? (i := 345) (by decide +kernel)⟩
theorem lw_p29 : lw_okq (⟨"HeatShelves$State", "placeOfRank", "(I)I"⟩, 10) := ⟨⟨by decide +kernel, by decide +kernel⟩, List.mem_of_getElem? (i := 17) (by decide +kernel), List.mem_of_getElem? (i := 363) (by decide +kernel), List.mem_of_getElem? (i := 364) (by decide +kernel)⟩
theorem lw_p30 : lw_okq (⟨"HeatShelves$State", "countHotter", "(I)I"⟩, 10) := ⟨⟨by decide +kernel, by decide +kernel⟩, List.mem_of_getElem? (i := 17) (by decide +kernel), List.mem_of_getElem? (i := 367) (by decide +kernel), List.mem_of_getElem? (i := 368) (by decide +kernel)⟩
theorem lw_p31 : lw_okq (⟨"HeatShelves$State", "find", "(I)I"⟩, 10) := ⟨⟨by decide +kernel, by decide +kernel⟩, List.mem_of_getElem? (i := 17) (by decide +kernel), List.mem_of_getElem? (i := 375) (by decide +kernel), List.mem_of_getElem? (i := 376) (by decide +kernel)⟩
def lw_privs_2 : List (MethodName × Nat) := [(⟨"HeatShelves$Night", "nextInTurn", "(LHeatShelves$State;Z)I"⟩, 2), (⟨"HeatShelves$Night", "shelfToMoveTo", "(LHeatShelves$State;I)I"⟩, 2), (⟨"HeatShelves$State", "moveTo", "(II)V"⟩, 10), (⟨"HeatShelves$Night", "promiseIfDeep", "(LHeatShelves$State;I)V"⟩, 2), (⟨"HeatShelves$State", "changeSetting", "(II)I"⟩, 10), (⟨"HeatShelves$State", "allowsSetting", "(II)Z"⟩, 10), (⟨"HeatShelves$History", "takeLatest", "(LHeatShelves$State;)Z"⟩, 3), (⟨"HeatShelves$State", "countOnShelf", "(I)I"⟩, 10), (⟨"HeatShelves$State", "heatOnShelf", "(I)I"⟩, 10), (⟨"HeatShelves$State", "countPinned", "()I"⟩, 10), (⟨"HeatShelves$State", "heatOfAll", "()I"⟩, 10), (⟨"HeatShelves", "paidWithHot", "(II)I"⟩, 7), (⟨"HeatShelves", "paidForNightsInWork", "()I"⟩, 7), (⟨"HeatShelves$State", "placeOfRank", "(I)I"⟩, 10), (⟨"HeatShelves$State", "countHotter", "(I)I"⟩, 10), (⟨"HeatShelves$State", "find", "(I)I"⟩, 10)]
theorem lw_r2 : ∀ q ∈ lw_privs_2, lw_okq q := List.forall_mem_cons.mpr ⟨lw_p16, List.forall_mem_cons.mpr ⟨lw_p17, List.forall_mem_cons.mpr ⟨lw_p18, List.forall_mem_cons.mpr ⟨lw_p19, List.forall_mem_cons.mpr ⟨lw_p20, List.forall_mem_cons.mpr ⟨lw_p21, List.forall_mem_cons.mpr ⟨lw_p22, List.forall_mem_cons.mpr ⟨lw_p23, List.forall_mem_cons.mpr ⟨lw_p24, List.forall_mem_cons.mpr ⟨lw_p25, List.forall_mem_cons.mpr ⟨lw_p26, List.forall_mem_cons.mpr ⟨lw_p27, List.forall_mem_cons.mpr ⟨lw_p28, List.forall_mem_cons.mpr ⟨lw_p29, List.forall_mem_cons.mpr ⟨lw_p30, List.forall_mem_cons.mpr ⟨lw_p31, fun _ h => absurd h List.not_mem_nil⟩⟩⟩⟩⟩⟩⟩⟩⟩⟩⟩⟩⟩⟩⟩⟩
theorem lw_p32 : lw_okq (⟨"HeatShelves", "whyItStays", "(I)I"⟩, 7) := ⟨⟨by decide +kernel, by decide +kernel⟩, List.mem_of_getElem? (i := 9) (by decide +kernel), List.mem_of_getElem? (i := 380) (by decide +kernel), List.mem_of_getElem? (i := 381) (by decide +kernel)⟩
theorem lw_p33 : lw_okq (⟨"HeatShelves$State", "dropBlock", "(I)I"⟩, 10) := ⟨⟨by decide +kernel, by decide +kernel⟩, List.mem_of_getElem? (i := 17) (by decide +kernel), List.mem_of_getElem? (i := 401) (by decide +kernel), List.mem_of_getElem? (i := 402) (by decide +kernel)⟩
theorem lw_p34 : lw_okq (⟨"HeatShelves$State", "turnPin", "(IZ)I"⟩, 10) := ⟨⟨by decide +kernel, by decide +kernel⟩, List.mem_of_getElem? (i := 17) (by decide +kernel), List.mem_of_getElem? (i := 414) (by decide +kernel), List.mem_of_getElem? (i := 415) (by decide +kernel)⟩
theorem lw_p35 : lw_okq (⟨"HeatShelves$State", "readBlock", "(II)I"⟩, 10) := ⟨⟨by decide +kernel, by decide +kernel⟩, List.mem_of_getElem? (i := 17) (by decide +kernel), List.mem_of_getElem? (i := 426) (by decide +kernel), List.mem_of_getElem? (i := 427) (by decide +kernel)⟩
theorem lw_p36 : lw_okq (⟨"HeatShelves$State", "readOnce", "(I)I"⟩, 10) := ⟨⟨by decide +kernel, by decide +kernel⟩, List.mem_of_getElem? (i := 17) (by decide +kernel), List.mem_of_getElem? (i := 430) (by decide +kernel), List.mem_of_getElem? (i := 431) (by decide +kernel)⟩
theorem lw_p37 : lw_okq (⟨"HeatShelves$State", "askBack", "(I)I"⟩, 10) := ⟨⟨by decide +kernel, by decide +kernel⟩, List.mem_of_getElem? (i := 17) (by decide +kernel), List.mem_of_getElem? (i := 436) (by decide +kernel), List.mem_of_getElem? (i := 437) (by decide +kernel)⟩
def lw_privs_3 : List (MethodName × Nat) := [(⟨"HeatShelves", "whyItStays", "(I)I"⟩, 7), (⟨"HeatShelves$State", "dropBlock", "(I)I"⟩, 10), (⟨"HeatShelves$State", "turnPin", "(IZ)I"⟩, 10), (⟨"HeatShelves$State", "readBlock", "(II)I"⟩, 10), (⟨"HeatShelves$State", "readOnce", "(I)I"⟩, 10), (⟨"HeatShelves$State", "askBack", "(I)I"⟩, 10)]
theorem lw_r3 : ∀ q ∈ lw_privs_3, lw_okq q := List.forall_mem_cons.mpr ⟨lw_p32, List.forall_mem_cons.mpr ⟨lw_p33, List.forall_mem_cons.mpr ⟨lw_p34, List.forall_mem_cons.mpr ⟨lw_p35, List.forall_mem_cons.mpr ⟨lw_p36, List.forall_mem_cons.mpr ⟨lw_p37, fun _ h => absurd h List.not_mem_nil⟩⟩⟩⟩⟩⟩
def lw_privs : List (MethodName × Nat) := lw_privs_1 ++ (lw_privs_2 ++ (lw_privs_3))
def lw_tbl : List Cond := k2_sels lw_privs ++ tables_1
theorem lw_privs_ok : ∀ q ∈ lw_privs, lw_okq q := by
  show ∀ q ∈ lw_privs_1 ++ (lw_privs_2 ++ (lw_privs_3)), lw_okq q
  exact List.forall_mem_append.mpr ⟨lw_r1, List.forall_mem_append.mpr ⟨lw_r2, lw_r3⟩⟩
-- ===== end of PART A; then your names; then what follows =====
/-! ===== BEGIN words of one list among another's, by their places ===== -/
theorem goodIn_r {big : List Cond} (ws : List Cond) (ps : List Nat) (hp : ws = ps.filterMap (fun i => big[i]?)) (h : ws.all goodWord = true) : GoodIn big ws := by
  intro w hw
  have h1 := List.all_eq_true.mp h w hw
  rw [hp] at hw
  obtain ⟨i, -, hi⟩ := List.mem_filterMap.mp hw
  have hm : w ∈ big := by first | exact List.mem_of_getElem? hi | exact List.getElem?_mem hi
  exact ⟨hm, good_of_word h1⟩
theorem goodIn_app {big a b : List Cond} (ha : GoodIn big a) (hb : GoodIn big b) : GoodIn big (a ++ b) := fun w h => (List.mem_append.mp h).elim (ha w) (hb w)
theorem goodIn_ca {big a b : List Cond} {c : Cond} (ha : GoodIn big (c :: a)) (hb : GoodIn big b) : GoodIn big (c :: (a ++ b)) := fun w h => (List.mem_cons.mp h).elim (fun e => ha w (List.mem_cons.mpr (Or.inl e))) (fun h => (List.mem_append.mp h).elim (fun h => ha w (List.mem_cons.mpr (Or.inr h))) (hb w))
theorem goodIn_sub {big ws : List Cond} (hm : ∀ w ∈ ws, w ∈ big) (h : ws.all goodWord = true) : GoodIn big ws := fun w hw => ⟨hm w hw, good_of_word (List.all_eq_true.mp h w hw)⟩
/-! ===== END ===== -/

/-! ===== BEGIN printed: names, fields, word lists, decode rows ===== -/
def RX0 : String := "HeatShelves$History"
def TX0 : u_T := fun k => match k with
  | 0 => ("HeatShelves$History", "states", "[LHeatShelves$State;", true)
  | 1 => ("HeatShelves$History", "first", "I", false)
  | _ => ("HeatShelves$History", "count", "I", false)
def tyX0 : Nat → FieldType := fun k => match k with
  | 0 => .array (.object "HeatShelves$State")
  | 1 => .int
  | _ => .int
abbrev wsX00 : List Cond := u_ws RX0 TX0 3
theorem nmX0 : ∀ a, a < 3 → ∀ b, b < 3 → a ≠ b → (TX0 a).2.1 ≠ (TX0 b).2.1 := by decide +kernel
theorem tyX0_ok : ∀ k, k < 3 → parseFieldDescriptor (TX0 k).2.2.1 = some (tyX0 k) := by decide +kernel
abbrev cX0_init : ByteArray := prog_2_method_1_code
def yX0_init : MethodName := ⟨RX0, "<init>", "()V"⟩
abbrev cX0_stateAt : ByteArray := prog_2_method_2_code
def yX0_stateAt : MethodName := ⟨RX0, "stateAt", "(I)LHeatShelves$State;"⟩
abbrev cX0_record : ByteArray := prog_2_method_3_code
def yX0_record : MethodName := ⟨RX0, "record", "(LHeatShelves$State;)V"⟩
abbrev cX0_takeLatest : ByteArray := prog_2_method_4_code
def yX0_takeLatest : MethodName := ⟨RX0, "takeLatest", "(LHeatShelves$State;)Z"⟩
def RX1 : String := "HeatShelves$Night"
def TX1 : u_T := fun k => match k with
  | 0 => ("HeatShelves$Night", "wanted", "[I", true)
  | _ => ("HeatShelves$Night", "reasons", "[I", true)
def tyX1 : Nat → FieldType := fun k => match k with
  | 0 => .array .int
  | _ => .array .int
abbrev wsX10 : List Cond := u_ws RX1 TX1 2
theorem nmX1 : ∀ a, a < 2 → ∀ b, b < 2 → a ≠ b → (TX1 a).2.1 ≠ (TX1 b).2.1 := by decide +kernel
theorem tyX1_ok : ∀ k, k < 2 → parseFieldDescriptor (TX1 k).2.2.1 = some (tyX1 k) := by decide +kernel
abbrev cX1_init : ByteArray := prog_3_method_1_code
def yX1_init : MethodName := ⟨RX1, "<init>", "()V"⟩
abbrev cX1_letPass : ByteArray := prog_3_method_2_code
def yX1_letPass : MethodName := ⟨RX1, "letPass", "(LHeatShelves$State;I)I"⟩
abbrev cX1_findWhoMayMove : ByteArray := prog_3_method_3_code
def yX1_findWhoMayMove : MethodName := ⟨RX1, "findWhoMayMove", "(LHeatShelves$State;)V"⟩
abbrev cX1_moveInTurn : ByteArray := prog_3_method_4_code
def yX1_moveInTurn : MethodName := ⟨RX1, "moveInTurn", "(LHeatShelves$State;ZI)I"⟩
abbrev cX1_nextInTurn : ByteArray := prog_3_method_5_code
def yX1_nextInTurn : MethodName := ⟨RX1, "nextInTurn", "(LHeatShelves$State;Z)I"⟩
abbrev cX1_shelfToMoveTo : ByteArray := prog_3_method_6_code
def yX1_shelfToMoveTo : MethodName := ⟨RX1, "shelfToMoveTo", "(LHeatShelves$State;I)I"⟩
abbrev cX1_promiseIfDeep : ByteArray := prog_3_method_7_code
def yX1_promiseIfDeep : MethodName := ⟨RX1, "promiseIfDeep", "(LHeatShelves$State;I)V"⟩
def RX2 : String := "HeatShelves$Orders"
def TX2 : u_T := fun k => match k with
  | 0 => ("HeatShelves$Orders", "signs", "[I", true)
  | 1 => ("HeatShelves$Orders", "length", "I", false)
  | 2 => ("HeatShelves$Orders", "kinds", "[I", true)
  | 3 => ("HeatShelves$Orders", "values", "[I", true)
  | 4 => ("HeatShelves$Orders", "times", "[I", true)
  | 5 => ("HeatShelves$Orders", "count", "I", false)
  | _ => ("HeatShelves$Orders", "place", "I", false)
def tyX2 : Nat → FieldType := fun k => match k with
  | 0 => .array .int
  | 1 => .int
  | 2 => .array .int
  | 3 => .array .int
  | 4 => .array .int
  | 5 => .int
  | _ => .int
abbrev wsX20 : List Cond := u_ws RX2 TX2 7
theorem nmX2 : ∀ a, a < 7 → ∀ b, b < 7 → a ≠ b → (TX2 a).2.1 ≠ (TX2 b).2.1 := by decide +kernel
theorem tyX2_ok : ∀ k, k < 7 → parseFieldDescriptor (TX2 k).2.2.1 = some (tyX2 k) := by decide +kernel
abbrev cX2_init : ByteArray := prog_4_method_1_code
def yX2_init : MethodName := ⟨RX2, "<init>", "()V"⟩
def RX3 : String := "HeatShelves$State"
def TX3 : u_T := fun k => match k with
  | 0 => ("HeatShelves$State", "numbers", "[I", true)
  | 1 => ("HeatShelves$State", "taken", "[I", true)
  | 2 => ("HeatShelves$State", "names", "[I", true)
  | 3 => ("HeatShelves$State", "sizes", "[I", true)
  | 4 => ("HeatShelves$State", "heats", "[I", true)
  | 5 => ("HeatShelves$State", "shelves", "[I", true)
  | 6 => ("HeatShelves$State", "pins", "[I", true)
  | 7 => ("HeatShelves$State", "promises", "[I", true)
  | 8 => ("HeatShelves$State", "readings", "[I", true)
  | _ => ("HeatShelves$State", "moves", "[I", true)
def tyX3 : Nat → FieldType := fun k => match k with
  | 0 => .array .int
  | 1 => .array .int
  | 2 => .array .int
  | 3 => .array .int
  | 4 => .array .int
  | 5 => .array .int
  | 6 => .array .int
  | 7 => .array .int
  | 8 => .array .int
  | _ => .array .int
abbrev wsX30 : List Cond := u_ws RX3 TX3 10
theorem nmX3 : ∀ a, a < 10 → ∀ b, b < 10 → a ≠ b → (TX3 a).2.1 ≠ (TX3 b).2.1 := by decide +kernel
theorem tyX3_ok : ∀ k, k < 10 → parseFieldDescriptor (TX3 k).2.2.1 = some (tyX3 k) := by decide +kernel
abbrev cX3_init : ByteArray := prog_5_method_1_code
def yX3_init : MethodName := ⟨RX3, "<init>", "()V"⟩
abbrev cX3_copyFrom : ByteArray := prog_5_method_2_code
def yX3_copyFrom : MethodName := ⟨RX3, "copyFrom", "(LHeatShelves$State;)V"⟩
abbrev cX3_countBlocks : ByteArray := prog_5_method_3_code
def yX3_countBlocks : MethodName := ⟨RX3, "countBlocks", "()I"⟩
abbrev cX3_find : ByteArray := prog_5_method_4_code
def yX3_find : MethodName := ⟨RX3, "find", "(I)I"⟩
abbrev cX3_placeOfRank : ByteArray := prog_5_method_5_code
def yX3_placeOfRank : MethodName := ⟨RX3, "placeOfRank", "(I)I"⟩
abbrev cX3_countHotter : ByteArray := prog_5_method_6_code
def yX3_countHotter : MethodName := ⟨RX3, "countHotter", "(I)I"⟩
abbrev cX3_wantedShelf : ByteArray := prog_5_method_7_code
def yX3_wantedShelf : MethodName := ⟨RX3, "wantedShelf", "(I)I"⟩
abbrev cX3_hasRoom : ByteArray := prog_5_method_8_code
def yX3_hasRoom : MethodName := ⟨RX3, "hasRoom", "(II)Z"⟩
abbrev cX3_countOnShelf : ByteArray := prog_5_method_9_code
def yX3_countOnShelf : MethodName := ⟨RX3, "countOnShelf", "(I)I"⟩
abbrev cX3_heatOnShelf : ByteArray := prog_5_method_10_code
def yX3_heatOnShelf : MethodName := ⟨RX3, "heatOnShelf", "(I)I"⟩
abbrev cX3_heatOfAll : ByteArray := prog_5_method_11_code
def yX3_heatOfAll : MethodName := ⟨RX3, "heatOfAll", "()I"⟩
abbrev cX3_nightPriceOfShelf : ByteArray := prog_5_method_12_code
def yX3_nightPriceOfShelf : MethodName := ⟨RX3, "nightPriceOfShelf", "(I)I"⟩
abbrev cX3_countPinned : ByteArray := prog_5_method_13_code
def yX3_countPinned : MethodName := ⟨RX3, "countPinned", "()I"⟩
abbrev cX3_addBlock : ByteArray := prog_5_method_14_code
def yX3_addBlock : MethodName := ⟨RX3, "addBlock", "(I)I"⟩
abbrev cX3_fastestWithRoom : ByteArray := prog_5_method_15_code
def yX3_fastestWithRoom : MethodName := ⟨RX3, "fastestWithRoom", "(I)I"⟩
abbrev cX3_dropBlock : ByteArray := prog_5_method_16_code
def yX3_dropBlock : MethodName := ⟨RX3, "dropBlock", "(I)I"⟩
abbrev cX3_readBlock : ByteArray := prog_5_method_17_code
def yX3_readBlock : MethodName := ⟨RX3, "readBlock", "(II)I"⟩
abbrev cX3_readOnce : ByteArray := prog_5_method_18_code
def yX3_readOnce : MethodName := ⟨RX3, "readOnce", "(I)I"⟩
abbrev cX3_askBack : ByteArray := prog_5_method_19_code
def yX3_askBack : MethodName := ⟨RX3, "askBack", "(I)I"⟩
abbrev cX3_moveTo : ByteArray := prog_5_method_20_code
def yX3_moveTo : MethodName := ⟨RX3, "moveTo", "(II)V"⟩
abbrev cX3_payNight : ByteArray := prog_5_method_21_code
def yX3_payNight : MethodName := ⟨RX3, "payNight", "()V"⟩
abbrev cX3_fade : ByteArray := prog_5_method_22_code
def yX3_fade : MethodName := ⟨RX3, "fade", "()V"⟩
abbrev cX3_turnPin : ByteArray := prog_5_method_23_code
def yX3_turnPin : MethodName := ⟨RX3, "turnPin", "(IZ)I"⟩
abbrev cX3_changeSetting : ByteArray := prog_5_method_25_code
def yX3_changeSetting : MethodName := ⟨RX3, "changeSetting", "(II)I"⟩
abbrev cX3_allowsSetting : ByteArray := prog_5_method_26_code
def yX3_allowsSetting : MethodName := ⟨RX3, "allowsSetting", "(II)Z"⟩
def RX4 : String := "HeatShelves"
def TX4 : u_T := fun k => match k with
  | 0 => ("HeatShelves", "state", "LHeatShelves$State;", true)
  | 1 => ("HeatShelves", "work", "LHeatShelves$State;", true)
  | 2 => ("HeatShelves", "snapshot", "LHeatShelves$State;", true)
  | 3 => ("HeatShelves", "hasSnapshot", "Z", false)
  | 4 => ("HeatShelves", "history", "LHeatShelves$History;", true)
  | 5 => ("HeatShelves", "night", "LHeatShelves$Night;", true)
  | _ => ("HeatShelves", "orders", "LHeatShelves$Orders;", true)
def tyX4 : Nat → FieldType := fun k => match k with
  | 0 => .object "HeatShelves$State"
  | 1 => .object "HeatShelves$State"
  | 2 => .object "HeatShelves$State"
  | 3 => .boolean
  | 4 => .object "HeatShelves$History"
  | 5 => .object "HeatShelves$Night"
  | _ => .object "HeatShelves$Orders"
abbrev wsX40 : List Cond := u_ws RX4 TX4 7
theorem nmX4 : ∀ a, a < 7 → ∀ b, b < 7 → a ≠ b → (TX4 a).2.1 ≠ (TX4 b).2.1 := by decide +kernel
theorem tyX4_ok : ∀ k, k < 7 → parseFieldDescriptor (TX4 k).2.2.1 = some (tyX4 k) := by decide +kernel
abbrev cX4_init : ByteArray := prog_1_method_1_code
def yX4_init : MethodName := ⟨RX4, "<init>", "()V"⟩
abbrev cX4_add : ByteArray := prog_1_method_2_code
def yX4_add : MethodName := ⟨RX4, "add", "(I)I"⟩
abbrev cX4_remove : ByteArray := prog_1_method_3_code
def yX4_remove : MethodName := ⟨RX4, "remove", "(I)I"⟩
abbrev cX4_read : ByteArray := prog_1_method_4_code
def yX4_read : MethodName := ⟨RX4, "read", "(II)I"⟩
abbrev cX4_pin : ByteArray := prog_1_method_5_code
def yX4_pin : MethodName := ⟨RX4, "pin", "(IZ)I"⟩
abbrev cX4_pass : ByteArray := prog_1_method_6_code
def yX4_pass : MethodName := ⟨RX4, "pass", "(I)I"⟩
abbrev cX4_set : ByteArray := prog_1_method_7_code
def yX4_set : MethodName := ⟨RX4, "set", "(II)I"⟩
abbrev cX4_undo : ByteArray := prog_1_method_11_code
def yX4_undo : MethodName := ⟨RX4, "undo", "()I"⟩
abbrev cX4_restore : ByteArray := prog_1_method_13_code
def yX4_restore : MethodName := ⟨RX4, "restore", "()I"⟩
abbrev cX4_block : ByteArray := prog_1_method_14_code
def yX4_block : MethodName := ⟨RX4, "block", "(I)I"⟩
abbrev cX4_ofBlock : ByteArray := prog_1_method_15_code
def yX4_ofBlock : MethodName := ⟨RX4, "ofBlock", "(II)I"⟩
abbrev cX4_shelf : ByteArray := prog_1_method_16_code
def yX4_shelf : MethodName := ⟨RX4, "shelf", "(II)I"⟩
abbrev cX4_total : ByteArray := prog_1_method_17_code
def yX4_total : MethodName := ⟨RX4, "total", "(I)I"⟩
abbrev cX4_ifPassed : ByteArray := prog_1_method_18_code
def yX4_ifPassed : MethodName := ⟨RX4, "ifPassed", "(II)I"⟩
abbrev cX4_nextMove : ByteArray := prog_1_method_19_code
def yX4_nextMove : MethodName := ⟨RX4, "nextMove", "()I"⟩
abbrev cX4_bestHot : ByteArray := prog_1_method_20_code
def yX4_bestHot : MethodName := ⟨RX4, "bestHot", "(II)I"⟩
abbrev cX4_settle : ByteArray := prog_1_method_22_code
def yX4_settle : MethodName := ⟨RX4, "settle", "(I)I"⟩
abbrev cX4_passInWork : ByteArray := prog_1_method_23_code
def yX4_passInWork : MethodName := ⟨RX4, "passInWork", "(I)I"⟩
abbrev cX4_whyItStays : ByteArray := prog_1_method_25_code
def yX4_whyItStays : MethodName := ⟨RX4, "whyItStays", "(I)I"⟩
abbrev cX4_paidForNightsInWork : ByteArray := prog_1_method_26_code
def yX4_paidForNightsInWork : MethodName := ⟨RX4, "paidForNightsInWork", "()I"⟩
abbrev cX4_paidWithHot : ByteArray := prog_1_method_27_code
def yX4_paidWithHot : MethodName := ⟨RX4, "paidWithHot", "(II)I"⟩
abbrev cX4_at : ByteArray := prog_1_method_29_code
def yX4_at : MethodName := ⟨RX4, "at", "([II)I"⟩
abbrev cX4_put : ByteArray := prog_1_method_30_code
def yX4_put : MethodName := ⟨RX4, "put", "([III)V"⟩
abbrev cX4_raise : ByteArray := prog_1_method_31_code
def yX4_raise : MethodName := ⟨RX4, "raise", "([III)V"⟩
abbrev cX4_copyRow : ByteArray := prog_1_method_32_code
def yX4_copyRow : MethodName := ⟨RX4, "copyRow", "([I[I)V"⟩
abbrev cX4_closeGap : ByteArray := prog_1_method_33_code
def yX4_closeGap : MethodName := ⟨RX4, "closeGap", "([II)V"⟩
def RX5 : String := "HeatShelvesModel"
def TX5 : u_T := fun k => match k with
  | _ => ("", "", "", false)
def tyX5 : Nat → FieldType := fun k => match k with
  | _ => .int
abbrev wsX50 : List Cond := u_ws RX5 TX5 0
theorem nmX5 : ∀ a, a < 0 → ∀ b, b < 0 → a ≠ b → (TX5 a).2.1 ≠ (TX5 b).2.1 := by decide +kernel
theorem tyX5_ok : ∀ k, k < 0 → parseFieldDescriptor (TX5 k).2.2.1 = some (tyX5 k) := by decide +kernel
def RJ9 : String := "java/lang/Math"
def TJ9 : u_T := fun k => match k with
  | _ => ("", "", "", false)
def tyJ9 : Nat → FieldType := fun k => match k with
  | _ => .int
abbrev wsJ90 : List Cond := u_ws RJ9 TJ9 0
theorem nmJ9 : ∀ a, a < 0 → ∀ b, b < 0 → a ≠ b → (TJ9 a).2.1 ≠ (TJ9 b).2.1 := by decide +kernel
theorem tyJ9_ok : ∀ k, k < 0 → parseFieldDescriptor (TJ9 k).2.2.1 = some (tyJ9 k) := by decide +kernel
abbrev cJ9_abs_0f7a4 : ByteArray := prog_8_method_59_code
def yJ9_abs_0f7a4 : MethodName := ⟨RJ9, "abs", "(I)I"⟩
abbrev cJ9_max_7cf53 : ByteArray := prog_8_method_65_code
def yJ9_max_7cf53 : MethodName := ⟨RJ9, "max", "(II)I"⟩
abbrev cJ9_min_7cf53 : ByteArray := prog_8_method_69_code
def yJ9_min_7cf53 : MethodName := ⟨RJ9, "min", "(II)I"⟩
def RJ10 : String := "java/lang/System"
def TJ10 : u_T := fun k => match k with
  | _ => ("", "", "", false)
def tyJ10 : Nat → FieldType := fun k => match k with
  | _ => .int
abbrev wsJ100 : List Cond := u_ws RJ10 TJ10 0
theorem nmJ10 : ∀ a, a < 0 → ∀ b, b < 0 → a ≠ b → (TJ10 a).2.1 ≠ (TJ10 b).2.1 := by decide +kernel
theorem tyJ10_ok : ∀ k, k < 0 → parseFieldDescriptor (TJ10 k).2.2.1 = some (tyJ10 k) := by decide +kernel
def RL : String := "HeatShelvesLaw"
abbrev cL_cell : ByteArray := method_2_code
def yL_cell : MethodName := ⟨RL, "cell", "([II)I"⟩
abbrev cL_low : ByteArray := method_3_code
def yL_low : MethodName := ⟨RL, "low", "(II)I"⟩
abbrev cL_areShelves : ByteArray := method_4_code
def yL_areShelves : MethodName := ⟨RL, "areShelves", "(LHeatShelves;)Z"⟩
abbrev cL_isNight : ByteArray := method_5_code
def yL_isNight : MethodName := ⟨RL, "isNight", "(LHeatShelves;[I[I)Z"⟩
abbrev cL_isRead : ByteArray := method_6_code
def yL_isRead : MethodName := ⟨RL, "isRead", "(LHeatShelves;II)Z"⟩
abbrev cL_isBest : ByteArray := method_7_code
def yL_isBest : MethodName := ⟨RL, "isBest", "(LHeatShelves;I)Z"⟩
abbrev cL_does : ByteArray := method_8_code
def yL_does : MethodName := ⟨RL, "does", "(LHeatShelves;II)Z"⟩
abbrev cL_law : ByteArray := code
def yL_law : MethodName := ⟨RL, "law", "([I)Z"⟩
def wsX3_init : List Cond := .code yX3_init cX3_init 2 none :: ([.methodLink RX3 3 objectInit, .instanceMethod objectInit, .code objectInit ⟨#[0xb1]⟩ 1 none, .arrayClass .int, .fieldLink RX3 9 "HeatShelves$State" "numbers" "[I", .fieldLink RX3 15 "HeatShelves$State" "taken" "[I", .fieldLink RX3 18 "HeatShelves$State" "names" "[I", .fieldLink RX3 21 "HeatShelves$State" "sizes" "[I", .fieldLink RX3 24 "HeatShelves$State" "heats" "[I", .fieldLink RX3 27 "HeatShelves$State" "shelves" "[I", .fieldLink RX3 30 "HeatShelves$State" "pins" "[I", .fieldLink RX3 33 "HeatShelves$State" "promises" "[I", .fieldLink RX3 36 "HeatShelves$State" "readings" "[I", .fieldLink RX3 39 "HeatShelves$State" "moves" "[I"] ++ wsX30)
def wsX0_init : List Cond := .code yX0_init cX0_init 2 none :: ([.methodLink RX0 3 objectInit, .instanceMethod objectInit, .code objectInit ⟨#[0xb1]⟩ 1 none, .classLink RX0 9 RX3, .fieldLink RX0 11 "HeatShelves$History" "states" "[LHeatShelves$State;", .fieldLink RX0 17 "HeatShelves$History" "first" "I", .fieldLink RX0 21 "HeatShelves$History" "count" "I", .instantiable RX3 10, .initialized RX3, .instanceMethod yX3_init, .code yX3_init cX3_init 2 none, .methodLink RX3 3 objectInit, .arrayClass .int, .fieldLink RX3 9 "HeatShelves$State" "numbers" "[I", .fieldLink RX3 15 "HeatShelves$State" "taken" "[I", .fieldLink RX3 18 "HeatShelves$State" "names" "[I", .fieldLink RX3 21 "HeatShelves$State" "sizes" "[I", .fieldLink RX3 24 "HeatShelves$State" "heats" "[I", .fieldLink RX3 27 "HeatShelves$State" "shelves" "[I", .fieldLink RX3 30 "HeatShelves$State" "pins" "[I", .fieldLink RX3 33 "HeatShelves$State" "promises" "[I", .fieldLink RX3 36 "HeatShelves$State" "readings" "[I", .fieldLink RX3 39 "HeatShelves$State" "moves" "[I"] ++ wsX00 ++ wsX30)
def wsX0_stateAt : List Cond := .code yX0_stateAt cX0_stateAt 3 (some (.object "HeatShelves$State")) :: ([.fieldLink RX0 17 "HeatShelves$History" "first" "I", .fieldLink RX0 11 "HeatShelves$History" "states" "[LHeatShelves$State;"] ++ wsX00)
abbrev vwCl : List vw_C := [(RX0, TX0, 3), (RX1, TX1, 2), (RX2, TX2, 7), (RX3, TX3, 10), (RX4, TX4, 7)]
end
section
theorem dX0_init_0 : decode cX0_init 0 = .ok (.aload_n 0, 1) := by decide +kernel
theorem dX0_init_1 : decode cX0_init 1 = .ok (.invokespecial 3, 3) := by decide +kernel
theorem dX0_init_4 : decode cX0_init 4 = .ok (.aload_n 0, 1) := by decide +kernel
theorem dX0_init_5 : decode cX0_init 5 = .ok (.iconst 4, 1) := by decide +kernel
theorem dX0_init_6 : decode cX0_init 6 = .ok (.anewarray 9, 3) := by decide +kernel
theorem dX0_init_9 : decode cX0_init 9 = .ok (.putfield 11, 3) := by decide +kernel
theorem dX0_init_12 : decode cX0_init 12 = .ok (.aload_n 0, 1) := by decide +kernel
theorem dX0_init_13 : decode cX0_init 13 = .ok (.iconst 0, 1) := by decide +kernel
theorem dX0_init_14 : decode cX0_init 14 = .ok (.putfield 17, 3) := by decide +kernel
theorem dX0_init_17 : decode cX0_init 17 = .ok (.aload_n 0, 1) := by decide +kernel
theorem dX0_init_18 : decode cX0_init 18 = .ok (.iconst 0, 1) := by decide +kernel
theorem dX0_init_19 : decode cX0_init 19 = .ok (.putfield 21, 3) := by decide +kernel
theorem dX0_init_22 : decode cX0_init 22 = .ok (.iconst 0, 1) := by decide +kernel
theorem dX0_init_23 : decode cX0_init 23 = .ok (.istore_n 1, 1) := by decide +kernel
theorem dX0_init_24 : decode cX0_init 24 = .ok (.iload_n 1, 1) := by decide +kernel
theorem dX0_init_25 : decode cX0_init 25 = .ok (.aload_n 0, 1) := by decide +kernel
theorem dX0_init_26 : decode cX0_init 26 = .ok (.getfield 11, 3) := by decide +kernel
theorem dX0_init_29 : decode cX0_init 29 = .ok (.arraylength, 1) := by decide +kernel
theorem dX0_init_30 : decode cX0_init 30 = .ok (.if_icmp .ge 22, 3) := by decide +kernel
theorem dX0_init_33 : decode cX0_init 33 = .ok (.aload_n 0, 1) := by decide +kernel
theorem dX0_init_34 : decode cX0_init 34 = .ok (.getfield 11, 3) := by decide +kernel
theorem dX0_init_37 : decode cX0_init 37 = .ok (.iload_n 1, 1) := by decide +kernel
theorem dX0_init_38 : decode cX0_init 38 = .ok (.new 9, 3) := by decide +kernel
theorem dX0_init_41 : decode cX0_init 41 = .ok (.dup, 1) := by decide +kernel
theorem dX0_init_42 : decode cX0_init 42 = .ok (.invokespecial 24, 3) := by decide +kernel
theorem dX0_init_45 : decode cX0_init 45 = .ok (.aastore, 1) := by decide +kernel
theorem dX0_init_46 : decode cX0_init 46 = .ok (.iinc 1 1, 3) := by decide +kernel
theorem dX0_init_49 : decode cX0_init 49 = .ok (.goto (-25), 3) := by decide +kernel
theorem dX0_init_52 : decode cX0_init 52 = .ok (.return_, 1) := by decide +kernel
theorem dX0_stateAt_0 : decode cX0_stateAt 0 = .ok (.aload_n 0, 1) := by decide +kernel
theorem dX0_stateAt_1 : decode cX0_stateAt 1 = .ok (.getfield 17, 3) := by decide +kernel
theorem dX0_stateAt_4 : decode cX0_stateAt 4 = .ok (.iload_n 1, 1) := by decide +kernel
theorem dX0_stateAt_5 : decode cX0_stateAt 5 = .ok (.iadd, 1) := by decide +kernel
theorem dX0_stateAt_6 : decode cX0_stateAt 6 = .ok (.iconst 4, 1) := by decide +kernel
theorem dX0_stateAt_7 : decode cX0_stateAt 7 = .ok (.irem, 1) := by decide +kernel
theorem dX0_stateAt_8 : decode cX0_stateAt 8 = .ok (.istore_n 2, 1) := by decide +kernel
theorem dX0_stateAt_9 : decode cX0_stateAt 9 = .ok (.iload_n 2, 1) := by decide +kernel
theorem dX0_stateAt_10 : decode cX0_stateAt 10 = .ok (.ifCond .lt 21, 3) := by decide +kernel
theorem dX0_stateAt_13 : decode cX0_stateAt 13 = .ok (.iload_n 2, 1) := by decide +kernel
theorem dX0_stateAt_14 : decode cX0_stateAt 14 = .ok (.aload_n 0, 1) := by decide +kernel
theorem dX0_stateAt_15 : decode cX0_stateAt 15 = .ok (.getfield 11, 3) := by decide +kernel
theorem dX0_stateAt_18 : decode cX0_stateAt 18 = .ok (.arraylength, 1) := by decide +kernel
theorem dX0_stateAt_19 : decode cX0_stateAt 19 = .ok (.if_icmp .ge 12, 3) := by decide +kernel
theorem dX0_stateAt_22 : decode cX0_stateAt 22 = .ok (.aload_n 0, 1) := by decide +kernel
theorem dX0_stateAt_23 : decode cX0_stateAt 23 = .ok (.getfield 11, 3) := by decide +kernel
theorem dX0_stateAt_26 : decode cX0_stateAt 26 = .ok (.iload_n 2, 1) := by decide +kernel
theorem dX0_stateAt_27 : decode cX0_stateAt 27 = .ok (.aaload, 1) := by decide +kernel
theorem dX0_stateAt_28 : decode cX0_stateAt 28 = .ok (.goto 4, 3) := by decide +kernel
theorem dX0_stateAt_31 : decode cX0_stateAt 31 = .ok (.aconst_null, 1) := by decide +kernel
theorem dX0_stateAt_32 : decode cX0_stateAt 32 = .ok (.areturn, 1) := by decide +kernel
theorem dX0_record_0 : decode cX0_record 0 = .ok (.aload_n 0, 1) := by decide +kernel
theorem dX0_record_1 : decode cX0_record 1 = .ok (.getfield 21, 3) := by decide +kernel
theorem dX0_record_4 : decode cX0_record 4 = .ok (.iconst 4, 1) := by decide +kernel
theorem dX0_record_5 : decode cX0_record 5 = .ok (.if_icmp .lt 25, 3) := by decide +kernel
theorem dX0_record_8 : decode cX0_record 8 = .ok (.aload_n 0, 1) := by decide +kernel
theorem dX0_record_9 : decode cX0_record 9 = .ok (.aload_n 0, 1) := by decide +kernel
theorem dX0_record_10 : decode cX0_record 10 = .ok (.getfield 17, 3) := by decide +kernel
theorem dX0_record_13 : decode cX0_record 13 = .ok (.iconst 1, 1) := by decide +kernel
theorem dX0_record_14 : decode cX0_record 14 = .ok (.iadd, 1) := by decide +kernel
theorem dX0_record_15 : decode cX0_record 15 = .ok (.iconst 4, 1) := by decide +kernel
theorem dX0_record_16 : decode cX0_record 16 = .ok (.irem, 1) := by decide +kernel
theorem dX0_record_17 : decode cX0_record 17 = .ok (.putfield 17, 3) := by decide +kernel
theorem dX0_record_20 : decode cX0_record 20 = .ok (.aload_n 0, 1) := by decide +kernel
theorem dX0_record_21 : decode cX0_record 21 = .ok (.dup, 1) := by decide +kernel
theorem dX0_record_22 : decode cX0_record 22 = .ok (.getfield 21, 3) := by decide +kernel
theorem dX0_record_25 : decode cX0_record 25 = .ok (.iconst 1, 1) := by decide +kernel
theorem dX0_record_26 : decode cX0_record 26 = .ok (.isub, 1) := by decide +kernel
theorem dX0_record_27 : decode cX0_record 27 = .ok (.putfield 21, 3) := by decide +kernel
theorem dX0_record_30 : decode cX0_record 30 = .ok (.aload_n 0, 1) := by decide +kernel
theorem dX0_record_31 : decode cX0_record 31 = .ok (.aload_n 0, 1) := by decide +kernel
theorem dX0_record_32 : decode cX0_record 32 = .ok (.getfield 21, 3) := by decide +kernel
theorem dX0_record_35 : decode cX0_record 35 = .ok (.invokevirtual 25, 3) := by decide +kernel
theorem dX0_record_38 : decode cX0_record 38 = .ok (.astore_n 2, 1) := by decide +kernel
theorem dX0_record_39 : decode cX0_record 39 = .ok (.aload_n 2, 1) := by decide +kernel
theorem dX0_record_40 : decode cX0_record 40 = .ok (.ifnull 18, 3) := by decide +kernel
theorem dX0_record_43 : decode cX0_record 43 = .ok (.aload_n 2, 1) := by decide +kernel
theorem dX0_record_44 : decode cX0_record 44 = .ok (.aload_n 1, 1) := by decide +kernel
theorem dX0_record_45 : decode cX0_record 45 = .ok (.invokevirtual 29, 3) := by decide +kernel
theorem dX0_record_48 : decode cX0_record 48 = .ok (.aload_n 0, 1) := by decide +kernel
theorem dX0_record_49 : decode cX0_record 49 = .ok (.dup, 1) := by decide +kernel
theorem dX0_record_50 : decode cX0_record 50 = .ok (.getfield 21, 3) := by decide +kernel
theorem dX0_record_53 : decode cX0_record 53 = .ok (.iconst 1, 1) := by decide +kernel
theorem dX0_record_54 : decode cX0_record 54 = .ok (.iadd, 1) := by decide +kernel
theorem dX0_record_55 : decode cX0_record 55 = .ok (.putfield 21, 3) := by decide +kernel
theorem dX0_record_58 : decode cX0_record 58 = .ok (.return_, 1) := by decide +kernel
theorem dX0_takeLatest_0 : decode cX0_takeLatest 0 = .ok (.aload_n 0, 1) := by decide +kernel
theorem dX0_takeLatest_1 : decode cX0_takeLatest 1 = .ok (.getfield 21, 3) := by decide +kernel
theorem dX0_takeLatest_4 : decode cX0_takeLatest 4 = .ok (.ifCond .gt 5, 3) := by decide +kernel
theorem dX0_takeLatest_7 : decode cX0_takeLatest 7 = .ok (.iconst 0, 1) := by decide +kernel
theorem dX0_takeLatest_8 : decode cX0_takeLatest 8 = .ok (.ireturn, 1) := by decide +kernel
theorem dX0_takeLatest_9 : decode cX0_takeLatest 9 = .ok (.aload_n 0, 1) := by decide +kernel
theorem dX0_takeLatest_10 : decode cX0_takeLatest 10 = .ok (.aload_n 0, 1) := by decide +kernel
theorem dX0_takeLatest_11 : decode cX0_takeLatest 11 = .ok (.getfield 21, 3) := by decide +kernel
theorem dX0_takeLatest_14 : decode cX0_takeLatest 14 = .ok (.iconst 1, 1) := by decide +kernel
theorem dX0_takeLatest_15 : decode cX0_takeLatest 15 = .ok (.isub, 1) := by decide +kernel
theorem dX0_takeLatest_16 : decode cX0_takeLatest 16 = .ok (.invokevirtual 25, 3) := by decide +kernel
theorem dX0_takeLatest_19 : decode cX0_takeLatest 19 = .ok (.astore_n 2, 1) := by decide +kernel
theorem dX0_takeLatest_20 : decode cX0_takeLatest 20 = .ok (.aload_n 2, 1) := by decide +kernel
theorem dX0_takeLatest_21 : decode cX0_takeLatest 21 = .ok (.ifnonnull 5, 3) := by decide +kernel
theorem dX0_takeLatest_24 : decode cX0_takeLatest 24 = .ok (.iconst 0, 1) := by decide +kernel
theorem dX0_takeLatest_25 : decode cX0_takeLatest 25 = .ok (.ireturn, 1) := by decide +kernel
theorem dX0_takeLatest_26 : decode cX0_takeLatest 26 = .ok (.aload_n 1, 1) := by decide +kernel
theorem dX0_takeLatest_27 : decode cX0_takeLatest 27 = .ok (.aload_n 2, 1) := by decide +kernel
theorem dX0_takeLatest_28 : decode cX0_takeLatest 28 = .ok (.invokevirtual 29, 3) := by decide +kernel
theorem dX0_takeLatest_31 : decode cX0_takeLatest 31 = .ok (.aload_n 0, 1) := by decide +kernel
theorem dX0_takeLatest_32 : decode cX0_takeLatest 32 = .ok (.dup, 1) := by decide +kernel
theorem dX0_takeLatest_33 : decode cX0_takeLatest 33 = .ok (.getfield 21, 3) := by decide +kernel
theorem dX0_takeLatest_36 : decode cX0_takeLatest 36 = .ok (.iconst 1, 1) := by decide +kernel
theorem dX0_takeLatest_37 : decode cX0_takeLatest 37 = .ok (.isub, 1) := by decide +kernel
theorem dX0_takeLatest_38 : decode cX0_takeLatest 38 = .ok (.putfield 21, 3) := by decide +kernel
theorem dX0_takeLatest_41 : decode cX0_takeLatest 41 = .ok (.iconst 1, 1) := by decide +kernel
theorem dX0_takeLatest_42 : decode cX0_takeLatest 42 = .ok (.ireturn, 1) := by decide +kernel
theorem dX1_init_0 : decode cX1_init 0 = .ok (.aload_n 0, 1) := by decide +kernel
theorem dX1_init_1 : decode cX1_init 1 = .ok (.invokespecial 3, 3) := by decide +kernel
theorem dX1_init_4 : decode cX1_init 4 = .ok (.aload_n 0, 1) := by decide +kernel
theorem dX1_init_5 : decode cX1_init 5 = .ok (.bipush 24, 2) := by decide +kernel
theorem dX1_init_7 : decode cX1_init 7 = .ok (.newarray .int, 2) := by decide +kernel
theorem dX1_init_9 : decode cX1_init 9 = .ok (.putfield 9, 3) := by decide +kernel
theorem dX1_init_12 : decode cX1_init 12 = .ok (.aload_n 0, 1) := by decide +kernel
theorem dX1_init_13 : decode cX1_init 13 = .ok (.bipush 24, 2) := by decide +kernel
theorem dX1_init_15 : decode cX1_init 15 = .ok (.newarray .int, 2) := by decide +kernel
theorem dX1_init_17 : decode cX1_init 17 = .ok (.putfield 15, 3) := by decide +kernel
theorem dX1_init_20 : decode cX1_init 20 = .ok (.return_, 1) := by decide +kernel
theorem dX1_letPass_0 : decode cX1_letPass 0 = .ok (.aload_n 1, 1) := by decide +kernel
theorem dX1_letPass_1 : decode cX1_letPass 1 = .ok (.getfield 18, 3) := by decide +kernel
theorem dX1_letPass_4 : decode cX1_letPass 4 = .ok (.iconst 3, 1) := by decide +kernel
theorem dX1_letPass_5 : decode cX1_letPass 5 = .ok (.invokestatic 23, 3) := by decide +kernel
theorem dX1_letPass_8 : decode cX1_letPass 8 = .ok (.istore_n 3, 1) := by decide +kernel
theorem dX1_letPass_9 : decode cX1_letPass 9 = .ok (.iconst 0, 1) := by decide +kernel
theorem dX1_letPass_10 : decode cX1_letPass 10 = .ok (.istore 4, 2) := by decide +kernel
theorem dX1_letPass_12 : decode cX1_letPass 12 = .ok (.iconst 0, 1) := by decide +kernel
theorem dX1_letPass_13 : decode cX1_letPass 13 = .ok (.istore 5, 2) := by decide +kernel
theorem dX1_letPass_15 : decode cX1_letPass 15 = .ok (.iload 5, 2) := by decide +kernel
theorem dX1_letPass_17 : decode cX1_letPass 17 = .ok (.iload_n 2, 1) := by decide +kernel
theorem dX1_letPass_18 : decode cX1_letPass 18 = .ok (.if_icmp .ge 49, 3) := by decide +kernel
theorem dX1_letPass_21 : decode cX1_letPass 21 = .ok (.aload_n 1, 1) := by decide +kernel
theorem dX1_letPass_22 : decode cX1_letPass 22 = .ok (.invokevirtual 27, 3) := by decide +kernel
theorem dX1_letPass_25 : decode cX1_letPass 25 = .ok (.aload_n 1, 1) := by decide +kernel
theorem dX1_letPass_26 : decode cX1_letPass 26 = .ok (.invokevirtual 30, 3) := by decide +kernel
theorem dX1_letPass_29 : decode cX1_letPass 29 = .ok (.aload_n 0, 1) := by decide +kernel
theorem dX1_letPass_30 : decode cX1_letPass 30 = .ok (.aload_n 1, 1) := by decide +kernel
theorem dX1_letPass_31 : decode cX1_letPass 31 = .ok (.invokevirtual 33, 3) := by decide +kernel
theorem dX1_letPass_34 : decode cX1_letPass 34 = .ok (.aload_n 0, 1) := by decide +kernel
theorem dX1_letPass_35 : decode cX1_letPass 35 = .ok (.aload_n 1, 1) := by decide +kernel
theorem dX1_letPass_36 : decode cX1_letPass 36 = .ok (.iconst 1, 1) := by decide +kernel
theorem dX1_letPass_37 : decode cX1_letPass 37 = .ok (.iload_n 3, 1) := by decide +kernel
theorem dX1_letPass_38 : decode cX1_letPass 38 = .ok (.invokevirtual 37, 3) := by decide +kernel
theorem dX1_letPass_41 : decode cX1_letPass 41 = .ok (.istore 6, 2) := by decide +kernel
theorem dX1_letPass_43 : decode cX1_letPass 43 = .ok (.iload 4, 2) := by decide +kernel
theorem dX1_letPass_45 : decode cX1_letPass 45 = .ok (.iload 6, 2) := by decide +kernel
theorem dX1_letPass_47 : decode cX1_letPass 47 = .ok (.aload_n 0, 1) := by decide +kernel
theorem dX1_letPass_48 : decode cX1_letPass 48 = .ok (.aload_n 1, 1) := by decide +kernel
theorem dX1_letPass_49 : decode cX1_letPass 49 = .ok (.iconst 0, 1) := by decide +kernel
theorem dX1_letPass_50 : decode cX1_letPass 50 = .ok (.iload_n 3, 1) := by decide +kernel
theorem dX1_letPass_51 : decode cX1_letPass 51 = .ok (.iload 6, 2) := by decide +kernel
theorem dX1_letPass_53 : decode cX1_letPass 53 = .ok (.isub, 1) := by decide +kernel
theorem dX1_letPass_54 : decode cX1_letPass 54 = .ok (.invokevirtual 37, 3) := by decide +kernel
theorem dX1_letPass_57 : decode cX1_letPass 57 = .ok (.iadd, 1) := by decide +kernel
theorem dX1_letPass_58 : decode cX1_letPass 58 = .ok (.iadd, 1) := by decide +kernel
theorem dX1_letPass_59 : decode cX1_letPass 59 = .ok (.istore 4, 2) := by decide +kernel
theorem dX1_letPass_61 : decode cX1_letPass 61 = .ok (.iinc 5 1, 3) := by decide +kernel
theorem dX1_letPass_64 : decode cX1_letPass 64 = .ok (.goto (-49), 3) := by decide +kernel
theorem dX1_letPass_67 : decode cX1_letPass 67 = .ok (.aload_n 1, 1) := by decide +kernel
theorem dX1_letPass_68 : decode cX1_letPass 68 = .ok (.getfield 18, 3) := by decide +kernel
theorem dX1_letPass_71 : decode cX1_letPass 71 = .ok (.bipush 21, 2) := by decide +kernel
theorem dX1_letPass_73 : decode cX1_letPass 73 = .ok (.iload 4, 2) := by decide +kernel
theorem dX1_letPass_75 : decode cX1_letPass 75 = .ok (.invokestatic 41, 3) := by decide +kernel
theorem dX1_letPass_78 : decode cX1_letPass 78 = .ok (.iload 4, 2) := by decide +kernel
theorem dX1_letPass_80 : decode cX1_letPass 80 = .ok (.ireturn, 1) := by decide +kernel
theorem dX1_findWhoMayMove_0 : decode cX1_findWhoMayMove 0 = .ok (.aload_n 1, 1) := by decide +kernel
theorem dX1_findWhoMayMove_1 : decode cX1_findWhoMayMove 1 = .ok (.invokevirtual 45, 3) := by decide +kernel
theorem dX1_findWhoMayMove_4 : decode cX1_findWhoMayMove 4 = .ok (.istore_n 2, 1) := by decide +kernel
theorem dX1_findWhoMayMove_5 : decode cX1_findWhoMayMove 5 = .ok (.iconst 0, 1) := by decide +kernel
theorem dX1_findWhoMayMove_6 : decode cX1_findWhoMayMove 6 = .ok (.istore_n 3, 1) := by decide +kernel
theorem dX1_findWhoMayMove_7 : decode cX1_findWhoMayMove 7 = .ok (.iload_n 3, 1) := by decide +kernel
theorem dX1_findWhoMayMove_8 : decode cX1_findWhoMayMove 8 = .ok (.iload_n 2, 1) := by decide +kernel
theorem dX1_findWhoMayMove_9 : decode cX1_findWhoMayMove 9 = .ok (.if_icmp .ge 91, 3) := by decide +kernel
theorem dX1_findWhoMayMove_12 : decode cX1_findWhoMayMove 12 = .ok (.iconst 4, 1) := by decide +kernel
theorem dX1_findWhoMayMove_13 : decode cX1_findWhoMayMove 13 = .ok (.istore 4, 2) := by decide +kernel
theorem dX1_findWhoMayMove_15 : decode cX1_findWhoMayMove 15 = .ok (.aload_n 0, 1) := by decide +kernel
theorem dX1_findWhoMayMove_16 : decode cX1_findWhoMayMove 16 = .ok (.getfield 9, 3) := by decide +kernel
theorem dX1_findWhoMayMove_19 : decode cX1_findWhoMayMove 19 = .ok (.iload_n 3, 1) := by decide +kernel
theorem dX1_findWhoMayMove_20 : decode cX1_findWhoMayMove 20 = .ok (.aload_n 1, 1) := by decide +kernel
theorem dX1_findWhoMayMove_21 : decode cX1_findWhoMayMove 21 = .ok (.iload_n 3, 1) := by decide +kernel
theorem dX1_findWhoMayMove_22 : decode cX1_findWhoMayMove 22 = .ok (.invokevirtual 49, 3) := by decide +kernel
theorem dX1_findWhoMayMove_25 : decode cX1_findWhoMayMove 25 = .ok (.invokestatic 53, 3) := by decide +kernel
theorem dX1_findWhoMayMove_28 : decode cX1_findWhoMayMove 28 = .ok (.aload_n 1, 1) := by decide +kernel
theorem dX1_findWhoMayMove_29 : decode cX1_findWhoMayMove 29 = .ok (.getfield 56, 3) := by decide +kernel
theorem dX1_findWhoMayMove_32 : decode cX1_findWhoMayMove 32 = .ok (.iload_n 3, 1) := by decide +kernel
theorem dX1_findWhoMayMove_33 : decode cX1_findWhoMayMove 33 = .ok (.invokestatic 23, 3) := by decide +kernel
theorem dX1_findWhoMayMove_36 : decode cX1_findWhoMayMove 36 = .ok (.ifCond .eq 9, 3) := by decide +kernel
theorem dX1_findWhoMayMove_39 : decode cX1_findWhoMayMove 39 = .ok (.iconst 1, 1) := by decide +kernel
theorem dX1_findWhoMayMove_40 : decode cX1_findWhoMayMove 40 = .ok (.istore 4, 2) := by decide +kernel
theorem dX1_findWhoMayMove_42 : decode cX1_findWhoMayMove 42 = .ok (.goto 42, 3) := by decide +kernel
theorem dX1_findWhoMayMove_45 : decode cX1_findWhoMayMove 45 = .ok (.aload_n 1, 1) := by decide +kernel
theorem dX1_findWhoMayMove_46 : decode cX1_findWhoMayMove 46 = .ok (.getfield 59, 3) := by decide +kernel
theorem dX1_findWhoMayMove_49 : decode cX1_findWhoMayMove 49 = .ok (.iload_n 3, 1) := by decide +kernel
theorem dX1_findWhoMayMove_50 : decode cX1_findWhoMayMove 50 = .ok (.invokestatic 23, 3) := by decide +kernel
theorem dX1_findWhoMayMove_53 : decode cX1_findWhoMayMove 53 = .ok (.ifCond .le 9, 3) := by decide +kernel
theorem dX1_findWhoMayMove_56 : decode cX1_findWhoMayMove 56 = .ok (.iconst 2, 1) := by decide +kernel
theorem dX1_findWhoMayMove_57 : decode cX1_findWhoMayMove 57 = .ok (.istore 4, 2) := by decide +kernel
theorem dX1_findWhoMayMove_59 : decode cX1_findWhoMayMove 59 = .ok (.goto 25, 3) := by decide +kernel
theorem dX1_findWhoMayMove_62 : decode cX1_findWhoMayMove 62 = .ok (.aload_n 0, 1) := by decide +kernel
theorem dX1_findWhoMayMove_63 : decode cX1_findWhoMayMove 63 = .ok (.getfield 9, 3) := by decide +kernel
theorem dX1_findWhoMayMove_66 : decode cX1_findWhoMayMove 66 = .ok (.iload_n 3, 1) := by decide +kernel
theorem dX1_findWhoMayMove_67 : decode cX1_findWhoMayMove 67 = .ok (.invokestatic 23, 3) := by decide +kernel
theorem dX1_findWhoMayMove_70 : decode cX1_findWhoMayMove 70 = .ok (.aload_n 1, 1) := by decide +kernel
theorem dX1_findWhoMayMove_71 : decode cX1_findWhoMayMove 71 = .ok (.getfield 62, 3) := by decide +kernel
theorem dX1_findWhoMayMove_74 : decode cX1_findWhoMayMove 74 = .ok (.iload_n 3, 1) := by decide +kernel
theorem dX1_findWhoMayMove_75 : decode cX1_findWhoMayMove 75 = .ok (.invokestatic 23, 3) := by decide +kernel
theorem dX1_findWhoMayMove_78 : decode cX1_findWhoMayMove 78 = .ok (.if_icmp .ne 6, 3) := by decide +kernel
theorem dX1_findWhoMayMove_81 : decode cX1_findWhoMayMove 81 = .ok (.iconst 3, 1) := by decide +kernel
theorem dX1_findWhoMayMove_82 : decode cX1_findWhoMayMove 82 = .ok (.istore 4, 2) := by decide +kernel
theorem dX1_findWhoMayMove_84 : decode cX1_findWhoMayMove 84 = .ok (.aload_n 0, 1) := by decide +kernel
theorem dX1_findWhoMayMove_85 : decode cX1_findWhoMayMove 85 = .ok (.getfield 15, 3) := by decide +kernel
theorem dX1_findWhoMayMove_88 : decode cX1_findWhoMayMove 88 = .ok (.iload_n 3, 1) := by decide +kernel
theorem dX1_findWhoMayMove_89 : decode cX1_findWhoMayMove 89 = .ok (.iload 4, 2) := by decide +kernel
theorem dX1_findWhoMayMove_91 : decode cX1_findWhoMayMove 91 = .ok (.invokestatic 53, 3) := by decide +kernel
theorem dX1_findWhoMayMove_94 : decode cX1_findWhoMayMove 94 = .ok (.iinc 3 1, 3) := by decide +kernel
theorem dX1_findWhoMayMove_97 : decode cX1_findWhoMayMove 97 = .ok (.goto (-90), 3) := by decide +kernel
theorem dX1_findWhoMayMove_100 : decode cX1_findWhoMayMove 100 = .ok (.return_, 1) := by decide +kernel
theorem dX1_moveInTurn_0 : decode cX1_moveInTurn 0 = .ok (.iconst 0, 1) := by decide +kernel
theorem dX1_moveInTurn_1 : decode cX1_moveInTurn 1 = .ok (.istore 4, 2) := by decide +kernel
theorem dX1_moveInTurn_3 : decode cX1_moveInTurn 3 = .ok (.iconst 0, 1) := by decide +kernel
theorem dX1_moveInTurn_4 : decode cX1_moveInTurn 4 = .ok (.istore 5, 2) := by decide +kernel
theorem dX1_moveInTurn_6 : decode cX1_moveInTurn 6 = .ok (.iload 5, 2) := by decide +kernel
theorem dX1_moveInTurn_8 : decode cX1_moveInTurn 8 = .ok (.bipush 24, 2) := by decide +kernel
theorem dX1_moveInTurn_10 : decode cX1_moveInTurn 10 = .ok (.if_icmp .ge 88, 3) := by decide +kernel
theorem dX1_moveInTurn_13 : decode cX1_moveInTurn 13 = .ok (.iload 4, 2) := by decide +kernel
theorem dX1_moveInTurn_15 : decode cX1_moveInTurn 15 = .ok (.iload_n 3, 1) := by decide +kernel
theorem dX1_moveInTurn_16 : decode cX1_moveInTurn 16 = .ok (.if_icmp .ge 82, 3) := by decide +kernel
theorem dX1_moveInTurn_19 : decode cX1_moveInTurn 19 = .ok (.aload_n 0, 1) := by decide +kernel
theorem dX1_moveInTurn_20 : decode cX1_moveInTurn 20 = .ok (.aload_n 1, 1) := by decide +kernel
theorem dX1_moveInTurn_21 : decode cX1_moveInTurn 21 = .ok (.iload_n 2, 1) := by decide +kernel
theorem dX1_moveInTurn_22 : decode cX1_moveInTurn 22 = .ok (.invokevirtual 65, 3) := by decide +kernel
theorem dX1_moveInTurn_25 : decode cX1_moveInTurn 25 = .ok (.istore 6, 2) := by decide +kernel
theorem dX1_moveInTurn_27 : decode cX1_moveInTurn 27 = .ok (.iload 6, 2) := by decide +kernel
theorem dX1_moveInTurn_29 : decode cX1_moveInTurn 29 = .ok (.iconst (-1), 1) := by decide +kernel
theorem dX1_moveInTurn_30 : decode cX1_moveInTurn 30 = .ok (.if_icmp .ne 6, 3) := by decide +kernel
theorem dX1_moveInTurn_33 : decode cX1_moveInTurn 33 = .ok (.iload 4, 2) := by decide +kernel
theorem dX1_moveInTurn_35 : decode cX1_moveInTurn 35 = .ok (.ireturn, 1) := by decide +kernel
theorem dX1_moveInTurn_36 : decode cX1_moveInTurn 36 = .ok (.aload_n 0, 1) := by decide +kernel
theorem dX1_moveInTurn_37 : decode cX1_moveInTurn 37 = .ok (.aload_n 1, 1) := by decide +kernel
theorem dX1_moveInTurn_38 : decode cX1_moveInTurn 38 = .ok (.iload 6, 2) := by decide +kernel
theorem dX1_moveInTurn_40 : decode cX1_moveInTurn 40 = .ok (.invokevirtual 69, 3) := by decide +kernel
theorem dX1_moveInTurn_43 : decode cX1_moveInTurn 43 = .ok (.istore 7, 2) := by decide +kernel
theorem dX1_moveInTurn_45 : decode cX1_moveInTurn 45 = .ok (.iload 7, 2) := by decide +kernel
theorem dX1_moveInTurn_47 : decode cX1_moveInTurn 47 = .ok (.iconst (-1), 1) := by decide +kernel
theorem dX1_moveInTurn_48 : decode cX1_moveInTurn 48 = .ok (.if_icmp .ne 16, 3) := by decide +kernel
theorem dX1_moveInTurn_51 : decode cX1_moveInTurn 51 = .ok (.aload_n 0, 1) := by decide +kernel
theorem dX1_moveInTurn_52 : decode cX1_moveInTurn 52 = .ok (.getfield 15, 3) := by decide +kernel
theorem dX1_moveInTurn_55 : decode cX1_moveInTurn 55 = .ok (.iload 6, 2) := by decide +kernel
theorem dX1_moveInTurn_57 : decode cX1_moveInTurn 57 = .ok (.iconst 5, 1) := by decide +kernel
theorem dX1_moveInTurn_58 : decode cX1_moveInTurn 58 = .ok (.invokestatic 53, 3) := by decide +kernel
theorem dX1_moveInTurn_61 : decode cX1_moveInTurn 61 = .ok (.goto 31, 3) := by decide +kernel
theorem dX1_moveInTurn_64 : decode cX1_moveInTurn 64 = .ok (.aload_n 0, 1) := by decide +kernel
theorem dX1_moveInTurn_65 : decode cX1_moveInTurn 65 = .ok (.getfield 15, 3) := by decide +kernel
theorem dX1_moveInTurn_68 : decode cX1_moveInTurn 68 = .ok (.iload 6, 2) := by decide +kernel
theorem dX1_moveInTurn_70 : decode cX1_moveInTurn 70 = .ok (.iconst 0, 1) := by decide +kernel
theorem dX1_moveInTurn_71 : decode cX1_moveInTurn 71 = .ok (.invokestatic 53, 3) := by decide +kernel
theorem dX1_moveInTurn_74 : decode cX1_moveInTurn 74 = .ok (.aload_n 1, 1) := by decide +kernel
theorem dX1_moveInTurn_75 : decode cX1_moveInTurn 75 = .ok (.iload 6, 2) := by decide +kernel
theorem dX1_moveInTurn_77 : decode cX1_moveInTurn 77 = .ok (.iload 7, 2) := by decide +kernel
theorem dX1_moveInTurn_79 : decode cX1_moveInTurn 79 = .ok (.invokevirtual 73, 3) := by decide +kernel
theorem dX1_moveInTurn_82 : decode cX1_moveInTurn 82 = .ok (.aload_n 0, 1) := by decide +kernel
theorem dX1_moveInTurn_83 : decode cX1_moveInTurn 83 = .ok (.aload_n 1, 1) := by decide +kernel
theorem dX1_moveInTurn_84 : decode cX1_moveInTurn 84 = .ok (.iload 6, 2) := by decide +kernel
theorem dX1_moveInTurn_86 : decode cX1_moveInTurn 86 = .ok (.invokevirtual 77, 3) := by decide +kernel
theorem dX1_moveInTurn_89 : decode cX1_moveInTurn 89 = .ok (.iinc 4 1, 3) := by decide +kernel
theorem dX1_moveInTurn_92 : decode cX1_moveInTurn 92 = .ok (.iinc 5 1, 3) := by decide +kernel
theorem dX1_moveInTurn_95 : decode cX1_moveInTurn 95 = .ok (.goto (-89), 3) := by decide +kernel
theorem dX1_moveInTurn_98 : decode cX1_moveInTurn 98 = .ok (.iload 4, 2) := by decide +kernel
theorem dX1_moveInTurn_100 : decode cX1_moveInTurn 100 = .ok (.ireturn, 1) := by decide +kernel
theorem dX1_nextInTurn_0 : decode cX1_nextInTurn 0 = .ok (.aload_n 1, 1) := by decide +kernel
theorem dX1_nextInTurn_1 : decode cX1_nextInTurn 1 = .ok (.getfield 18, 3) := by decide +kernel
theorem dX1_nextInTurn_4 : decode cX1_nextInTurn 4 = .ok (.bipush 15, 2) := by decide +kernel
theorem dX1_nextInTurn_6 : decode cX1_nextInTurn 6 = .ok (.invokestatic 23, 3) := by decide +kernel
theorem dX1_nextInTurn_9 : decode cX1_nextInTurn 9 = .ok (.istore_n 3, 1) := by decide +kernel
theorem dX1_nextInTurn_10 : decode cX1_nextInTurn 10 = .ok (.iconst (-1), 1) := by decide +kernel
theorem dX1_nextInTurn_11 : decode cX1_nextInTurn 11 = .ok (.istore 4, 2) := by decide +kernel
theorem dX1_nextInTurn_13 : decode cX1_nextInTurn 13 = .ok (.iconst 0, 1) := by decide +kernel
theorem dX1_nextInTurn_14 : decode cX1_nextInTurn 14 = .ok (.istore 5, 2) := by decide +kernel
theorem dX1_nextInTurn_16 : decode cX1_nextInTurn 16 = .ok (.iconst 0, 1) := by decide +kernel
theorem dX1_nextInTurn_17 : decode cX1_nextInTurn 17 = .ok (.istore 6, 2) := by decide +kernel
theorem dX1_nextInTurn_19 : decode cX1_nextInTurn 19 = .ok (.iload 6, 2) := by decide +kernel
theorem dX1_nextInTurn_21 : decode cX1_nextInTurn 21 = .ok (.iload_n 3, 1) := by decide +kernel
theorem dX1_nextInTurn_22 : decode cX1_nextInTurn 22 = .ok (.if_icmp .ge 105, 3) := by decide +kernel
theorem dX1_nextInTurn_25 : decode cX1_nextInTurn 25 = .ok (.aload_n 0, 1) := by decide +kernel
theorem dX1_nextInTurn_26 : decode cX1_nextInTurn 26 = .ok (.getfield 9, 3) := by decide +kernel
theorem dX1_nextInTurn_29 : decode cX1_nextInTurn 29 = .ok (.iload 6, 2) := by decide +kernel
theorem dX1_nextInTurn_31 : decode cX1_nextInTurn 31 = .ok (.invokestatic 23, 3) := by decide +kernel
theorem dX1_nextInTurn_34 : decode cX1_nextInTurn 34 = .ok (.aload_n 1, 1) := by decide +kernel
theorem dX1_nextInTurn_35 : decode cX1_nextInTurn 35 = .ok (.getfield 62, 3) := by decide +kernel
theorem dX1_nextInTurn_38 : decode cX1_nextInTurn 38 = .ok (.iload 6, 2) := by decide +kernel
theorem dX1_nextInTurn_40 : decode cX1_nextInTurn 40 = .ok (.invokestatic 23, 3) := by decide +kernel
theorem dX1_nextInTurn_43 : decode cX1_nextInTurn 43 = .ok (.if_icmp .le 7, 3) := by decide +kernel
theorem dX1_nextInTurn_46 : decode cX1_nextInTurn 46 = .ok (.iconst 1, 1) := by decide +kernel
theorem dX1_nextInTurn_47 : decode cX1_nextInTurn 47 = .ok (.goto 4, 3) := by decide +kernel
theorem dX1_nextInTurn_50 : decode cX1_nextInTurn 50 = .ok (.iconst 0, 1) := by decide +kernel
theorem dX1_nextInTurn_51 : decode cX1_nextInTurn 51 = .ok (.istore 7, 2) := by decide +kernel
theorem dX1_nextInTurn_53 : decode cX1_nextInTurn 53 = .ok (.aload_n 0, 1) := by decide +kernel
theorem dX1_nextInTurn_54 : decode cX1_nextInTurn 54 = .ok (.getfield 15, 3) := by decide +kernel
theorem dX1_nextInTurn_57 : decode cX1_nextInTurn 57 = .ok (.iload 6, 2) := by decide +kernel
theorem dX1_nextInTurn_59 : decode cX1_nextInTurn 59 = .ok (.invokestatic 23, 3) := by decide +kernel
theorem dX1_nextInTurn_62 : decode cX1_nextInTurn 62 = .ok (.iconst 4, 1) := by decide +kernel
theorem dX1_nextInTurn_63 : decode cX1_nextInTurn 63 = .ok (.if_icmp .ne 58, 3) := by decide +kernel
theorem dX1_nextInTurn_66 : decode cX1_nextInTurn 66 = .ok (.iload 7, 2) := by decide +kernel
theorem dX1_nextInTurn_68 : decode cX1_nextInTurn 68 = .ok (.iload_n 2, 1) := by decide +kernel
theorem dX1_nextInTurn_69 : decode cX1_nextInTurn 69 = .ok (.if_icmp .ne 52, 3) := by decide +kernel
theorem dX1_nextInTurn_72 : decode cX1_nextInTurn 72 = .ok (.iload_n 2, 1) := by decide +kernel
theorem dX1_nextInTurn_73 : decode cX1_nextInTurn 73 = .ok (.ifCond .eq 15, 3) := by decide +kernel
theorem dX1_nextInTurn_76 : decode cX1_nextInTurn 76 = .ok (.aload_n 1, 1) := by decide +kernel
theorem dX1_nextInTurn_77 : decode cX1_nextInTurn 77 = .ok (.getfield 81, 3) := by decide +kernel
theorem dX1_nextInTurn_80 : decode cX1_nextInTurn 80 = .ok (.iload 6, 2) := by decide +kernel
theorem dX1_nextInTurn_82 : decode cX1_nextInTurn 82 = .ok (.invokestatic 23, 3) := by decide +kernel
theorem dX1_nextInTurn_85 : decode cX1_nextInTurn 85 = .ok (.goto 13, 3) := by decide +kernel
theorem dX1_nextInTurn_88 : decode cX1_nextInTurn 88 = .ok (.aload_n 1, 1) := by decide +kernel
theorem dX1_nextInTurn_89 : decode cX1_nextInTurn 89 = .ok (.getfield 81, 3) := by decide +kernel
theorem dX1_nextInTurn_92 : decode cX1_nextInTurn 92 = .ok (.iload 6, 2) := by decide +kernel
theorem dX1_nextInTurn_94 : decode cX1_nextInTurn 94 = .ok (.invokestatic 23, 3) := by decide +kernel
theorem dX1_nextInTurn_97 : decode cX1_nextInTurn 97 = .ok (.ineg, 1) := by decide +kernel
theorem dX1_nextInTurn_98 : decode cX1_nextInTurn 98 = .ok (.istore 8, 2) := by decide +kernel
theorem dX1_nextInTurn_100 : decode cX1_nextInTurn 100 = .ok (.iload 4, 2) := by decide +kernel
theorem dX1_nextInTurn_102 : decode cX1_nextInTurn 102 = .ok (.iconst (-1), 1) := by decide +kernel
theorem dX1_nextInTurn_103 : decode cX1_nextInTurn 103 = .ok (.if_icmp .eq 10, 3) := by decide +kernel
theorem dX1_nextInTurn_106 : decode cX1_nextInTurn 106 = .ok (.iload 8, 2) := by decide +kernel
theorem dX1_nextInTurn_108 : decode cX1_nextInTurn 108 = .ok (.iload 5, 2) := by decide +kernel
theorem dX1_nextInTurn_110 : decode cX1_nextInTurn 110 = .ok (.if_icmp .ge 11, 3) := by decide +kernel
theorem dX1_nextInTurn_113 : decode cX1_nextInTurn 113 = .ok (.iload 6, 2) := by decide +kernel
theorem dX1_nextInTurn_115 : decode cX1_nextInTurn 115 = .ok (.istore 4, 2) := by decide +kernel
theorem dX1_nextInTurn_117 : decode cX1_nextInTurn 117 = .ok (.iload 8, 2) := by decide +kernel
theorem dX1_nextInTurn_119 : decode cX1_nextInTurn 119 = .ok (.istore 5, 2) := by decide +kernel
theorem dX1_nextInTurn_121 : decode cX1_nextInTurn 121 = .ok (.iinc 6 1, 3) := by decide +kernel
theorem dX1_nextInTurn_124 : decode cX1_nextInTurn 124 = .ok (.goto (-105), 3) := by decide +kernel
theorem dX1_nextInTurn_127 : decode cX1_nextInTurn 127 = .ok (.iload 4, 2) := by decide +kernel
theorem dX1_nextInTurn_129 : decode cX1_nextInTurn 129 = .ok (.ireturn, 1) := by decide +kernel
theorem dX1_shelfToMoveTo_0 : decode cX1_shelfToMoveTo 0 = .ok (.aload_n 1, 1) := by decide +kernel
theorem dX1_shelfToMoveTo_1 : decode cX1_shelfToMoveTo 1 = .ok (.getfield 84, 3) := by decide +kernel
theorem dX1_shelfToMoveTo_4 : decode cX1_shelfToMoveTo 4 = .ok (.iload_n 2, 1) := by decide +kernel
theorem dX1_shelfToMoveTo_5 : decode cX1_shelfToMoveTo 5 = .ok (.invokestatic 23, 3) := by decide +kernel
theorem dX1_shelfToMoveTo_8 : decode cX1_shelfToMoveTo 8 = .ok (.istore_n 3, 1) := by decide +kernel
theorem dX1_shelfToMoveTo_9 : decode cX1_shelfToMoveTo 9 = .ok (.aload_n 0, 1) := by decide +kernel
theorem dX1_shelfToMoveTo_10 : decode cX1_shelfToMoveTo 10 = .ok (.getfield 9, 3) := by decide +kernel
theorem dX1_shelfToMoveTo_13 : decode cX1_shelfToMoveTo 13 = .ok (.iload_n 2, 1) := by decide +kernel
theorem dX1_shelfToMoveTo_14 : decode cX1_shelfToMoveTo 14 = .ok (.invokestatic 23, 3) := by decide +kernel
theorem dX1_shelfToMoveTo_17 : decode cX1_shelfToMoveTo 17 = .ok (.istore 4, 2) := by decide +kernel
theorem dX1_shelfToMoveTo_19 : decode cX1_shelfToMoveTo 19 = .ok (.aload_n 1, 1) := by decide +kernel
theorem dX1_shelfToMoveTo_20 : decode cX1_shelfToMoveTo 20 = .ok (.iload 4, 2) := by decide +kernel
theorem dX1_shelfToMoveTo_22 : decode cX1_shelfToMoveTo 22 = .ok (.iload_n 3, 1) := by decide +kernel
theorem dX1_shelfToMoveTo_23 : decode cX1_shelfToMoveTo 23 = .ok (.invokevirtual 87, 3) := by decide +kernel
theorem dX1_shelfToMoveTo_26 : decode cX1_shelfToMoveTo 26 = .ok (.ifCond .eq 6, 3) := by decide +kernel
theorem dX1_shelfToMoveTo_29 : decode cX1_shelfToMoveTo 29 = .ok (.iload 4, 2) := by decide +kernel
theorem dX1_shelfToMoveTo_31 : decode cX1_shelfToMoveTo 31 = .ok (.ireturn, 1) := by decide +kernel
theorem dX1_shelfToMoveTo_32 : decode cX1_shelfToMoveTo 32 = .ok (.iload 4, 2) := by decide +kernel
theorem dX1_shelfToMoveTo_34 : decode cX1_shelfToMoveTo 34 = .ok (.aload_n 1, 1) := by decide +kernel
theorem dX1_shelfToMoveTo_35 : decode cX1_shelfToMoveTo 35 = .ok (.getfield 62, 3) := by decide +kernel
theorem dX1_shelfToMoveTo_38 : decode cX1_shelfToMoveTo 38 = .ok (.iload_n 2, 1) := by decide +kernel
theorem dX1_shelfToMoveTo_39 : decode cX1_shelfToMoveTo 39 = .ok (.invokestatic 23, 3) := by decide +kernel
theorem dX1_shelfToMoveTo_42 : decode cX1_shelfToMoveTo 42 = .ok (.isub, 1) := by decide +kernel
theorem dX1_shelfToMoveTo_43 : decode cX1_shelfToMoveTo 43 = .ok (.invokestatic 91, 3) := by decide +kernel
theorem dX1_shelfToMoveTo_46 : decode cX1_shelfToMoveTo 46 = .ok (.iconst 2, 1) := by decide +kernel
theorem dX1_shelfToMoveTo_47 : decode cX1_shelfToMoveTo 47 = .ok (.if_icmp .ne 7, 3) := by decide +kernel
theorem dX1_shelfToMoveTo_50 : decode cX1_shelfToMoveTo 50 = .ok (.iconst 1, 1) := by decide +kernel
theorem dX1_shelfToMoveTo_51 : decode cX1_shelfToMoveTo 51 = .ok (.goto 4, 3) := by decide +kernel
theorem dX1_shelfToMoveTo_54 : decode cX1_shelfToMoveTo 54 = .ok (.iconst 0, 1) := by decide +kernel
theorem dX1_shelfToMoveTo_55 : decode cX1_shelfToMoveTo 55 = .ok (.istore 5, 2) := by decide +kernel
theorem dX1_shelfToMoveTo_57 : decode cX1_shelfToMoveTo 57 = .ok (.iload 5, 2) := by decide +kernel
theorem dX1_shelfToMoveTo_59 : decode cX1_shelfToMoveTo 59 = .ok (.ifCond .eq 16, 3) := by decide +kernel
theorem dX1_shelfToMoveTo_62 : decode cX1_shelfToMoveTo 62 = .ok (.aload_n 1, 1) := by decide +kernel
theorem dX1_shelfToMoveTo_63 : decode cX1_shelfToMoveTo 63 = .ok (.iconst 1, 1) := by decide +kernel
theorem dX1_shelfToMoveTo_64 : decode cX1_shelfToMoveTo 64 = .ok (.iload_n 3, 1) := by decide +kernel
theorem dX1_shelfToMoveTo_65 : decode cX1_shelfToMoveTo 65 = .ok (.invokevirtual 87, 3) := by decide +kernel
theorem dX1_shelfToMoveTo_68 : decode cX1_shelfToMoveTo 68 = .ok (.ifCond .eq 7, 3) := by decide +kernel
theorem dX1_shelfToMoveTo_71 : decode cX1_shelfToMoveTo 71 = .ok (.iconst 1, 1) := by decide +kernel
theorem dX1_shelfToMoveTo_72 : decode cX1_shelfToMoveTo 72 = .ok (.goto 4, 3) := by decide +kernel
theorem dX1_shelfToMoveTo_75 : decode cX1_shelfToMoveTo 75 = .ok (.iconst (-1), 1) := by decide +kernel
theorem dX1_shelfToMoveTo_76 : decode cX1_shelfToMoveTo 76 = .ok (.ireturn, 1) := by decide +kernel
theorem dX1_promiseIfDeep_0 : decode cX1_promiseIfDeep 0 = .ok (.aload_n 1, 1) := by decide +kernel
theorem dX1_promiseIfDeep_1 : decode cX1_promiseIfDeep 1 = .ok (.getfield 62, 3) := by decide +kernel
theorem dX1_promiseIfDeep_4 : decode cX1_promiseIfDeep 4 = .ok (.iload_n 2, 1) := by decide +kernel
theorem dX1_promiseIfDeep_5 : decode cX1_promiseIfDeep 5 = .ok (.invokestatic 23, 3) := by decide +kernel
theorem dX1_promiseIfDeep_8 : decode cX1_promiseIfDeep 8 = .ok (.iconst 2, 1) := by decide +kernel
theorem dX1_promiseIfDeep_9 : decode cX1_promiseIfDeep 9 = .ok (.if_icmp .ne 19, 3) := by decide +kernel
theorem dX1_promiseIfDeep_12 : decode cX1_promiseIfDeep 12 = .ok (.aload_n 1, 1) := by decide +kernel
theorem dX1_promiseIfDeep_13 : decode cX1_promiseIfDeep 13 = .ok (.getfield 59, 3) := by decide +kernel
theorem dX1_promiseIfDeep_16 : decode cX1_promiseIfDeep 16 = .ok (.iload_n 2, 1) := by decide +kernel
theorem dX1_promiseIfDeep_17 : decode cX1_promiseIfDeep 17 = .ok (.aload_n 1, 1) := by decide +kernel
theorem dX1_promiseIfDeep_18 : decode cX1_promiseIfDeep 18 = .ok (.getfield 18, 3) := by decide +kernel
theorem dX1_promiseIfDeep_21 : decode cX1_promiseIfDeep 21 = .ok (.iconst 4, 1) := by decide +kernel
theorem dX1_promiseIfDeep_22 : decode cX1_promiseIfDeep 22 = .ok (.invokestatic 23, 3) := by decide +kernel
theorem dX1_promiseIfDeep_25 : decode cX1_promiseIfDeep 25 = .ok (.invokestatic 53, 3) := by decide +kernel
theorem dX1_promiseIfDeep_28 : decode cX1_promiseIfDeep 28 = .ok (.return_, 1) := by decide +kernel
theorem dX2_init_0 : decode cX2_init 0 = .ok (.aload_n 0, 1) := by decide +kernel
theorem dX2_init_1 : decode cX2_init 1 = .ok (.invokespecial 3, 3) := by decide +kernel
theorem dX2_init_4 : decode cX2_init 4 = .ok (.aload_n 0, 1) := by decide +kernel
theorem dX2_init_5 : decode cX2_init 5 = .ok (.bipush 60, 2) := by decide +kernel
theorem dX2_init_7 : decode cX2_init 7 = .ok (.newarray .int, 2) := by decide +kernel
theorem dX2_init_9 : decode cX2_init 9 = .ok (.putfield 9, 3) := by decide +kernel
theorem dX2_init_12 : decode cX2_init 12 = .ok (.aload_n 0, 1) := by decide +kernel
theorem dX2_init_13 : decode cX2_init 13 = .ok (.iconst 0, 1) := by decide +kernel
theorem dX2_init_14 : decode cX2_init 14 = .ok (.putfield 15, 3) := by decide +kernel
theorem dX2_init_17 : decode cX2_init 17 = .ok (.aload_n 0, 1) := by decide +kernel
theorem dX2_init_18 : decode cX2_init 18 = .ok (.bipush 30, 2) := by decide +kernel
theorem dX2_init_20 : decode cX2_init 20 = .ok (.newarray .int, 2) := by decide +kernel
theorem dX2_init_22 : decode cX2_init 22 = .ok (.putfield 19, 3) := by decide +kernel
theorem dX2_init_25 : decode cX2_init 25 = .ok (.aload_n 0, 1) := by decide +kernel
theorem dX2_init_26 : decode cX2_init 26 = .ok (.bipush 30, 2) := by decide +kernel
theorem dX2_init_28 : decode cX2_init 28 = .ok (.newarray .int, 2) := by decide +kernel
theorem dX2_init_30 : decode cX2_init 30 = .ok (.putfield 22, 3) := by decide +kernel
theorem dX2_init_33 : decode cX2_init 33 = .ok (.aload_n 0, 1) := by decide +kernel
theorem dX2_init_34 : decode cX2_init 34 = .ok (.bipush 30, 2) := by decide +kernel
theorem dX2_init_36 : decode cX2_init 36 = .ok (.newarray .int, 2) := by decide +kernel
theorem dX2_init_38 : decode cX2_init 38 = .ok (.putfield 25, 3) := by decide +kernel
theorem dX2_init_41 : decode cX2_init 41 = .ok (.aload_n 0, 1) := by decide +kernel
theorem dX2_init_42 : decode cX2_init 42 = .ok (.iconst 0, 1) := by decide +kernel
theorem dX2_init_43 : decode cX2_init 43 = .ok (.putfield 28, 3) := by decide +kernel
theorem dX2_init_46 : decode cX2_init 46 = .ok (.aload_n 0, 1) := by decide +kernel
theorem dX2_init_47 : decode cX2_init 47 = .ok (.iconst 0, 1) := by decide +kernel
theorem dX2_init_48 : decode cX2_init 48 = .ok (.putfield 31, 3) := by decide +kernel
theorem dX2_init_51 : decode cX2_init 51 = .ok (.return_, 1) := by decide +kernel
theorem dX3_init_0 : decode cX3_init 0 = .ok (.aload_n 0, 1) := by decide +kernel
theorem dX3_init_1 : decode cX3_init 1 = .ok (.invokespecial 3, 3) := by decide +kernel
theorem dX3_init_4 : decode cX3_init 4 = .ok (.aload_n 0, 1) := by decide +kernel
theorem dX3_init_5 : decode cX3_init 5 = .ok (.bipush 23, 2) := by decide +kernel
theorem dX3_init_7 : decode cX3_init 7 = .ok (.newarray .int, 2) := by decide +kernel
theorem dX3_init_9 : decode cX3_init 9 = .ok (.putfield 9, 3) := by decide +kernel
theorem dX3_init_12 : decode cX3_init 12 = .ok (.aload_n 0, 1) := by decide +kernel
theorem dX3_init_13 : decode cX3_init 13 = .ok (.iconst 3, 1) := by decide +kernel
theorem dX3_init_14 : decode cX3_init 14 = .ok (.newarray .int, 2) := by decide +kernel
theorem dX3_init_16 : decode cX3_init 16 = .ok (.putfield 15, 3) := by decide +kernel
theorem dX3_init_19 : decode cX3_init 19 = .ok (.aload_n 0, 1) := by decide +kernel
theorem dX3_init_20 : decode cX3_init 20 = .ok (.bipush 24, 2) := by decide +kernel
theorem dX3_init_22 : decode cX3_init 22 = .ok (.newarray .int, 2) := by decide +kernel
theorem dX3_init_24 : decode cX3_init 24 = .ok (.putfield 18, 3) := by decide +kernel
theorem dX3_init_27 : decode cX3_init 27 = .ok (.aload_n 0, 1) := by decide +kernel
theorem dX3_init_28 : decode cX3_init 28 = .ok (.bipush 24, 2) := by decide +kernel
theorem dX3_init_30 : decode cX3_init 30 = .ok (.newarray .int, 2) := by decide +kernel
theorem dX3_init_32 : decode cX3_init 32 = .ok (.putfield 21, 3) := by decide +kernel
theorem dX3_init_35 : decode cX3_init 35 = .ok (.aload_n 0, 1) := by decide +kernel
theorem dX3_init_36 : decode cX3_init 36 = .ok (.bipush 24, 2) := by decide +kernel
theorem dX3_init_38 : decode cX3_init 38 = .ok (.newarray .int, 2) := by decide +kernel
theorem dX3_init_40 : decode cX3_init 40 = .ok (.putfield 24, 3) := by decide +kernel
theorem dX3_init_43 : decode cX3_init 43 = .ok (.aload_n 0, 1) := by decide +kernel
theorem dX3_init_44 : decode cX3_init 44 = .ok (.bipush 24, 2) := by decide +kernel
theorem dX3_init_46 : decode cX3_init 46 = .ok (.newarray .int, 2) := by decide +kernel
theorem dX3_init_48 : decode cX3_init 48 = .ok (.putfield 27, 3) := by decide +kernel
theorem dX3_init_51 : decode cX3_init 51 = .ok (.aload_n 0, 1) := by decide +kernel
theorem dX3_init_52 : decode cX3_init 52 = .ok (.bipush 24, 2) := by decide +kernel
theorem dX3_init_54 : decode cX3_init 54 = .ok (.newarray .int, 2) := by decide +kernel
theorem dX3_init_56 : decode cX3_init 56 = .ok (.putfield 30, 3) := by decide +kernel
theorem dX3_init_59 : decode cX3_init 59 = .ok (.aload_n 0, 1) := by decide +kernel
theorem dX3_init_60 : decode cX3_init 60 = .ok (.bipush 24, 2) := by decide +kernel
theorem dX3_init_62 : decode cX3_init 62 = .ok (.newarray .int, 2) := by decide +kernel
theorem dX3_init_64 : decode cX3_init 64 = .ok (.putfield 33, 3) := by decide +kernel
theorem dX3_init_67 : decode cX3_init 67 = .ok (.aload_n 0, 1) := by decide +kernel
theorem dX3_init_68 : decode cX3_init 68 = .ok (.bipush 24, 2) := by decide +kernel
theorem dX3_init_70 : decode cX3_init 70 = .ok (.newarray .int, 2) := by decide +kernel
theorem dX3_init_72 : decode cX3_init 72 = .ok (.putfield 36, 3) := by decide +kernel
theorem dX3_init_75 : decode cX3_init 75 = .ok (.aload_n 0, 1) := by decide +kernel
theorem dX3_init_76 : decode cX3_init 76 = .ok (.bipush 24, 2) := by decide +kernel
theorem dX3_init_78 : decode cX3_init 78 = .ok (.newarray .int, 2) := by decide +kernel
theorem dX3_init_80 : decode cX3_init 80 = .ok (.putfield 39, 3) := by decide +kernel
theorem dX3_init_83 : decode cX3_init 83 = .ok (.iconst 0, 1) := by decide +kernel
theorem dX3_init_84 : decode cX3_init 84 = .ok (.istore_n 1, 1) := by decide +kernel
theorem dX3_init_85 : decode cX3_init 85 = .ok (.iload_n 1, 1) := by decide +kernel
theorem dX3_init_86 : decode cX3_init 86 = .ok (.getstatic 42, 3) := by decide +kernel
theorem dX3_init_89 : decode cX3_init 89 = .ok (.arraylength, 1) := by decide +kernel
theorem dX3_init_90 : decode cX3_init 90 = .ok (.if_icmp .ge 29, 3) := by decide +kernel
theorem dX3_init_93 : decode cX3_init 93 = .ok (.iload_n 1, 1) := by decide +kernel
theorem dX3_init_94 : decode cX3_init 94 = .ok (.aload_n 0, 1) := by decide +kernel
theorem dX3_init_95 : decode cX3_init 95 = .ok (.getfield 9, 3) := by decide +kernel
theorem dX3_init_98 : decode cX3_init 98 = .ok (.arraylength, 1) := by decide +kernel
theorem dX3_init_99 : decode cX3_init 99 = .ok (.if_icmp .ge 20, 3) := by decide +kernel
theorem dX3_init_102 : decode cX3_init 102 = .ok (.aload_n 0, 1) := by decide +kernel
theorem dX3_init_103 : decode cX3_init 103 = .ok (.getfield 9, 3) := by decide +kernel
theorem dX3_init_106 : decode cX3_init 106 = .ok (.iload_n 1, 1) := by decide +kernel
theorem dX3_init_107 : decode cX3_init 107 = .ok (.getstatic 42, 3) := by decide +kernel
theorem dX3_init_110 : decode cX3_init 110 = .ok (.iload_n 1, 1) := by decide +kernel
theorem dX3_init_111 : decode cX3_init 111 = .ok (.iaload, 1) := by decide +kernel
theorem dX3_init_112 : decode cX3_init 112 = .ok (.iastore, 1) := by decide +kernel
theorem dX3_init_113 : decode cX3_init 113 = .ok (.iinc 1 1, 3) := by decide +kernel
theorem dX3_init_116 : decode cX3_init 116 = .ok (.goto (-31), 3) := by decide +kernel
theorem dX3_init_119 : decode cX3_init 119 = .ok (.return_, 1) := by decide +kernel
theorem dX3_copyFrom_0 : decode cX3_copyFrom 0 = .ok (.aload_n 1, 1) := by decide +kernel
theorem dX3_copyFrom_1 : decode cX3_copyFrom 1 = .ok (.getfield 9, 3) := by decide +kernel
theorem dX3_copyFrom_4 : decode cX3_copyFrom 4 = .ok (.aload_n 0, 1) := by decide +kernel
theorem dX3_copyFrom_5 : decode cX3_copyFrom 5 = .ok (.getfield 9, 3) := by decide +kernel
theorem dX3_copyFrom_8 : decode cX3_copyFrom 8 = .ok (.invokestatic 45, 3) := by decide +kernel
theorem dX3_copyFrom_11 : decode cX3_copyFrom 11 = .ok (.aload_n 1, 1) := by decide +kernel
theorem dX3_copyFrom_12 : decode cX3_copyFrom 12 = .ok (.getfield 15, 3) := by decide +kernel
theorem dX3_copyFrom_15 : decode cX3_copyFrom 15 = .ok (.aload_n 0, 1) := by decide +kernel
theorem dX3_copyFrom_16 : decode cX3_copyFrom 16 = .ok (.getfield 15, 3) := by decide +kernel
theorem dX3_copyFrom_19 : decode cX3_copyFrom 19 = .ok (.invokestatic 45, 3) := by decide +kernel
theorem dX3_copyFrom_22 : decode cX3_copyFrom 22 = .ok (.aload_n 1, 1) := by decide +kernel
theorem dX3_copyFrom_23 : decode cX3_copyFrom 23 = .ok (.getfield 18, 3) := by decide +kernel
theorem dX3_copyFrom_26 : decode cX3_copyFrom 26 = .ok (.aload_n 0, 1) := by decide +kernel
theorem dX3_copyFrom_27 : decode cX3_copyFrom 27 = .ok (.getfield 18, 3) := by decide +kernel
theorem dX3_copyFrom_30 : decode cX3_copyFrom 30 = .ok (.invokestatic 45, 3) := by decide +kernel
theorem dX3_copyFrom_33 : decode cX3_copyFrom 33 = .ok (.aload_n 1, 1) := by decide +kernel
theorem dX3_copyFrom_34 : decode cX3_copyFrom 34 = .ok (.getfield 21, 3) := by decide +kernel
theorem dX3_copyFrom_37 : decode cX3_copyFrom 37 = .ok (.aload_n 0, 1) := by decide +kernel
theorem dX3_copyFrom_38 : decode cX3_copyFrom 38 = .ok (.getfield 21, 3) := by decide +kernel
theorem dX3_copyFrom_41 : decode cX3_copyFrom 41 = .ok (.invokestatic 45, 3) := by decide +kernel
theorem dX3_copyFrom_44 : decode cX3_copyFrom 44 = .ok (.aload_n 1, 1) := by decide +kernel
theorem dX3_copyFrom_45 : decode cX3_copyFrom 45 = .ok (.getfield 24, 3) := by decide +kernel
theorem dX3_copyFrom_48 : decode cX3_copyFrom 48 = .ok (.aload_n 0, 1) := by decide +kernel
theorem dX3_copyFrom_49 : decode cX3_copyFrom 49 = .ok (.getfield 24, 3) := by decide +kernel
theorem dX3_copyFrom_52 : decode cX3_copyFrom 52 = .ok (.invokestatic 45, 3) := by decide +kernel
theorem dX3_copyFrom_55 : decode cX3_copyFrom 55 = .ok (.aload_n 1, 1) := by decide +kernel
theorem dX3_copyFrom_56 : decode cX3_copyFrom 56 = .ok (.getfield 27, 3) := by decide +kernel
theorem dX3_copyFrom_59 : decode cX3_copyFrom 59 = .ok (.aload_n 0, 1) := by decide +kernel
theorem dX3_copyFrom_60 : decode cX3_copyFrom 60 = .ok (.getfield 27, 3) := by decide +kernel
theorem dX3_copyFrom_63 : decode cX3_copyFrom 63 = .ok (.invokestatic 45, 3) := by decide +kernel
theorem dX3_copyFrom_66 : decode cX3_copyFrom 66 = .ok (.aload_n 1, 1) := by decide +kernel
theorem dX3_copyFrom_67 : decode cX3_copyFrom 67 = .ok (.getfield 30, 3) := by decide +kernel
theorem dX3_copyFrom_70 : decode cX3_copyFrom 70 = .ok (.aload_n 0, 1) := by decide +kernel
theorem dX3_copyFrom_71 : decode cX3_copyFrom 71 = .ok (.getfield 30, 3) := by decide +kernel
theorem dX3_copyFrom_74 : decode cX3_copyFrom 74 = .ok (.invokestatic 45, 3) := by decide +kernel
theorem dX3_copyFrom_77 : decode cX3_copyFrom 77 = .ok (.aload_n 1, 1) := by decide +kernel
theorem dX3_copyFrom_78 : decode cX3_copyFrom 78 = .ok (.getfield 33, 3) := by decide +kernel
theorem dX3_copyFrom_81 : decode cX3_copyFrom 81 = .ok (.aload_n 0, 1) := by decide +kernel
theorem dX3_copyFrom_82 : decode cX3_copyFrom 82 = .ok (.getfield 33, 3) := by decide +kernel
theorem dX3_copyFrom_85 : decode cX3_copyFrom 85 = .ok (.invokestatic 45, 3) := by decide +kernel
theorem dX3_copyFrom_88 : decode cX3_copyFrom 88 = .ok (.aload_n 1, 1) := by decide +kernel
theorem dX3_copyFrom_89 : decode cX3_copyFrom 89 = .ok (.getfield 36, 3) := by decide +kernel
theorem dX3_copyFrom_92 : decode cX3_copyFrom 92 = .ok (.aload_n 0, 1) := by decide +kernel
theorem dX3_copyFrom_93 : decode cX3_copyFrom 93 = .ok (.getfield 36, 3) := by decide +kernel
theorem dX3_copyFrom_96 : decode cX3_copyFrom 96 = .ok (.invokestatic 45, 3) := by decide +kernel
theorem dX3_copyFrom_99 : decode cX3_copyFrom 99 = .ok (.aload_n 1, 1) := by decide +kernel
theorem dX3_copyFrom_100 : decode cX3_copyFrom 100 = .ok (.getfield 39, 3) := by decide +kernel
theorem dX3_copyFrom_103 : decode cX3_copyFrom 103 = .ok (.aload_n 0, 1) := by decide +kernel
theorem dX3_copyFrom_104 : decode cX3_copyFrom 104 = .ok (.getfield 39, 3) := by decide +kernel
theorem dX3_copyFrom_107 : decode cX3_copyFrom 107 = .ok (.invokestatic 45, 3) := by decide +kernel
theorem dX3_copyFrom_110 : decode cX3_copyFrom 110 = .ok (.return_, 1) := by decide +kernel
theorem dX3_countBlocks_0 : decode cX3_countBlocks 0 = .ok (.aload_n 0, 1) := by decide +kernel
theorem dX3_countBlocks_1 : decode cX3_countBlocks 1 = .ok (.getfield 9, 3) := by decide +kernel
theorem dX3_countBlocks_4 : decode cX3_countBlocks 4 = .ok (.bipush 15, 2) := by decide +kernel
theorem dX3_countBlocks_6 : decode cX3_countBlocks 6 = .ok (.invokestatic 49, 3) := by decide +kernel
theorem dX3_countBlocks_9 : decode cX3_countBlocks 9 = .ok (.ireturn, 1) := by decide +kernel
theorem dX3_find_0 : decode cX3_find 0 = .ok (.aload_n 0, 1) := by decide +kernel
theorem dX3_find_1 : decode cX3_find 1 = .ok (.invokevirtual 53, 3) := by decide +kernel
theorem dX3_find_4 : decode cX3_find 4 = .ok (.istore_n 2, 1) := by decide +kernel
theorem dX3_find_5 : decode cX3_find 5 = .ok (.iconst 0, 1) := by decide +kernel
theorem dX3_find_6 : decode cX3_find 6 = .ok (.istore_n 3, 1) := by decide +kernel
theorem dX3_find_7 : decode cX3_find 7 = .ok (.iload_n 3, 1) := by decide +kernel
theorem dX3_find_8 : decode cX3_find 8 = .ok (.iload_n 2, 1) := by decide +kernel
theorem dX3_find_9 : decode cX3_find 9 = .ok (.if_icmp .ge 23, 3) := by decide +kernel
theorem dX3_find_12 : decode cX3_find 12 = .ok (.aload_n 0, 1) := by decide +kernel
theorem dX3_find_13 : decode cX3_find 13 = .ok (.getfield 18, 3) := by decide +kernel
theorem dX3_find_16 : decode cX3_find 16 = .ok (.iload_n 3, 1) := by decide +kernel
theorem dX3_find_17 : decode cX3_find 17 = .ok (.invokestatic 49, 3) := by decide +kernel
theorem dX3_find_20 : decode cX3_find 20 = .ok (.iload_n 1, 1) := by decide +kernel
theorem dX3_find_21 : decode cX3_find 21 = .ok (.if_icmp .ne 5, 3) := by decide +kernel
theorem dX3_find_24 : decode cX3_find 24 = .ok (.iload_n 3, 1) := by decide +kernel
theorem dX3_find_25 : decode cX3_find 25 = .ok (.ireturn, 1) := by decide +kernel
theorem dX3_find_26 : decode cX3_find 26 = .ok (.iinc 3 1, 3) := by decide +kernel
theorem dX3_find_29 : decode cX3_find 29 = .ok (.goto (-22), 3) := by decide +kernel
theorem dX3_find_32 : decode cX3_find 32 = .ok (.iconst (-1), 1) := by decide +kernel
theorem dX3_find_33 : decode cX3_find 33 = .ok (.ireturn, 1) := by decide +kernel
theorem dX3_placeOfRank_0 : decode cX3_placeOfRank 0 = .ok (.aload_n 0, 1) := by decide +kernel
theorem dX3_placeOfRank_1 : decode cX3_placeOfRank 1 = .ok (.invokevirtual 53, 3) := by decide +kernel
theorem dX3_placeOfRank_4 : decode cX3_placeOfRank 4 = .ok (.istore_n 2, 1) := by decide +kernel
theorem dX3_placeOfRank_5 : decode cX3_placeOfRank 5 = .ok (.iconst 0, 1) := by decide +kernel
theorem dX3_placeOfRank_6 : decode cX3_placeOfRank 6 = .ok (.istore_n 3, 1) := by decide +kernel
theorem dX3_placeOfRank_7 : decode cX3_placeOfRank 7 = .ok (.iload_n 3, 1) := by decide +kernel
theorem dX3_placeOfRank_8 : decode cX3_placeOfRank 8 = .ok (.iload_n 2, 1) := by decide +kernel
theorem dX3_placeOfRank_9 : decode cX3_placeOfRank 9 = .ok (.if_icmp .ge 20, 3) := by decide +kernel
theorem dX3_placeOfRank_12 : decode cX3_placeOfRank 12 = .ok (.aload_n 0, 1) := by decide +kernel
theorem dX3_placeOfRank_13 : decode cX3_placeOfRank 13 = .ok (.iload_n 3, 1) := by decide +kernel
theorem dX3_placeOfRank_14 : decode cX3_placeOfRank 14 = .ok (.invokevirtual 57, 3) := by decide +kernel
theorem dX3_placeOfRank_17 : decode cX3_placeOfRank 17 = .ok (.iload_n 1, 1) := by decide +kernel
theorem dX3_placeOfRank_18 : decode cX3_placeOfRank 18 = .ok (.if_icmp .ne 5, 3) := by decide +kernel
theorem dX3_placeOfRank_21 : decode cX3_placeOfRank 21 = .ok (.iload_n 3, 1) := by decide +kernel
theorem dX3_placeOfRank_22 : decode cX3_placeOfRank 22 = .ok (.ireturn, 1) := by decide +kernel
theorem dX3_placeOfRank_23 : decode cX3_placeOfRank 23 = .ok (.iinc 3 1, 3) := by decide +kernel
theorem dX3_placeOfRank_26 : decode cX3_placeOfRank 26 = .ok (.goto (-19), 3) := by decide +kernel
theorem dX3_placeOfRank_29 : decode cX3_placeOfRank 29 = .ok (.iconst (-1), 1) := by decide +kernel
theorem dX3_placeOfRank_30 : decode cX3_placeOfRank 30 = .ok (.ireturn, 1) := by decide +kernel
theorem dX3_countHotter_0 : decode cX3_countHotter 0 = .ok (.aload_n 0, 1) := by decide +kernel
theorem dX3_countHotter_1 : decode cX3_countHotter 1 = .ok (.invokevirtual 53, 3) := by decide +kernel
theorem dX3_countHotter_4 : decode cX3_countHotter 4 = .ok (.istore_n 2, 1) := by decide +kernel
theorem dX3_countHotter_5 : decode cX3_countHotter 5 = .ok (.aload_n 0, 1) := by decide +kernel
theorem dX3_countHotter_6 : decode cX3_countHotter 6 = .ok (.getfield 24, 3) := by decide +kernel
theorem dX3_countHotter_9 : decode cX3_countHotter 9 = .ok (.iload_n 1, 1) := by decide +kernel
theorem dX3_countHotter_10 : decode cX3_countHotter 10 = .ok (.invokestatic 49, 3) := by decide +kernel
theorem dX3_countHotter_13 : decode cX3_countHotter 13 = .ok (.istore_n 3, 1) := by decide +kernel
theorem dX3_countHotter_14 : decode cX3_countHotter 14 = .ok (.iconst 0, 1) := by decide +kernel
theorem dX3_countHotter_15 : decode cX3_countHotter 15 = .ok (.istore 4, 2) := by decide +kernel
theorem dX3_countHotter_17 : decode cX3_countHotter 17 = .ok (.iconst 0, 1) := by decide +kernel
theorem dX3_countHotter_18 : decode cX3_countHotter 18 = .ok (.istore 5, 2) := by decide +kernel
theorem dX3_countHotter_20 : decode cX3_countHotter 20 = .ok (.iload 5, 2) := by decide +kernel
theorem dX3_countHotter_22 : decode cX3_countHotter 22 = .ok (.iload_n 2, 1) := by decide +kernel
theorem dX3_countHotter_23 : decode cX3_countHotter 23 = .ok (.if_icmp .ge 41, 3) := by decide +kernel
theorem dX3_countHotter_26 : decode cX3_countHotter 26 = .ok (.aload_n 0, 1) := by decide +kernel
theorem dX3_countHotter_27 : decode cX3_countHotter 27 = .ok (.getfield 24, 3) := by decide +kernel
theorem dX3_countHotter_30 : decode cX3_countHotter 30 = .ok (.iload 5, 2) := by decide +kernel
theorem dX3_countHotter_32 : decode cX3_countHotter 32 = .ok (.invokestatic 49, 3) := by decide +kernel
theorem dX3_countHotter_35 : decode cX3_countHotter 35 = .ok (.istore 6, 2) := by decide +kernel
theorem dX3_countHotter_37 : decode cX3_countHotter 37 = .ok (.iload 6, 2) := by decide +kernel
theorem dX3_countHotter_39 : decode cX3_countHotter 39 = .ok (.iload_n 3, 1) := by decide +kernel
theorem dX3_countHotter_40 : decode cX3_countHotter 40 = .ok (.if_icmp .gt 15, 3) := by decide +kernel
theorem dX3_countHotter_43 : decode cX3_countHotter 43 = .ok (.iload 6, 2) := by decide +kernel
theorem dX3_countHotter_45 : decode cX3_countHotter 45 = .ok (.iload_n 3, 1) := by decide +kernel
theorem dX3_countHotter_46 : decode cX3_countHotter 46 = .ok (.if_icmp .ne 12, 3) := by decide +kernel
theorem dX3_countHotter_49 : decode cX3_countHotter 49 = .ok (.iload 5, 2) := by decide +kernel
theorem dX3_countHotter_51 : decode cX3_countHotter 51 = .ok (.iload_n 1, 1) := by decide +kernel
theorem dX3_countHotter_52 : decode cX3_countHotter 52 = .ok (.if_icmp .ge 6, 3) := by decide +kernel
theorem dX3_countHotter_55 : decode cX3_countHotter 55 = .ok (.iinc 4 1, 3) := by decide +kernel
theorem dX3_countHotter_58 : decode cX3_countHotter 58 = .ok (.iinc 5 1, 3) := by decide +kernel
theorem dX3_countHotter_61 : decode cX3_countHotter 61 = .ok (.goto (-41), 3) := by decide +kernel
theorem dX3_countHotter_64 : decode cX3_countHotter 64 = .ok (.iload 4, 2) := by decide +kernel
theorem dX3_countHotter_66 : decode cX3_countHotter 66 = .ok (.ireturn, 1) := by decide +kernel
theorem dX3_wantedShelf_0 : decode cX3_wantedShelf 0 = .ok (.aload_n 0, 1) := by decide +kernel
theorem dX3_wantedShelf_1 : decode cX3_wantedShelf 1 = .ok (.getfield 24, 3) := by decide +kernel
theorem dX3_wantedShelf_4 : decode cX3_wantedShelf 4 = .ok (.iload_n 1, 1) := by decide +kernel
theorem dX3_wantedShelf_5 : decode cX3_wantedShelf 5 = .ok (.invokestatic 49, 3) := by decide +kernel
theorem dX3_wantedShelf_8 : decode cX3_wantedShelf 8 = .ok (.istore_n 2, 1) := by decide +kernel
theorem dX3_wantedShelf_9 : decode cX3_wantedShelf 9 = .ok (.iload_n 2, 1) := by decide +kernel
theorem dX3_wantedShelf_10 : decode cX3_wantedShelf 10 = .ok (.aload_n 0, 1) := by decide +kernel
theorem dX3_wantedShelf_11 : decode cX3_wantedShelf 11 = .ok (.getfield 9, 3) := by decide +kernel
theorem dX3_wantedShelf_14 : decode cX3_wantedShelf 14 = .ok (.iconst 1, 1) := by decide +kernel
theorem dX3_wantedShelf_15 : decode cX3_wantedShelf 15 = .ok (.invokestatic 49, 3) := by decide +kernel
theorem dX3_wantedShelf_18 : decode cX3_wantedShelf 18 = .ok (.if_icmp .lt 5, 3) := by decide +kernel
theorem dX3_wantedShelf_21 : decode cX3_wantedShelf 21 = .ok (.iconst 0, 1) := by decide +kernel
theorem dX3_wantedShelf_22 : decode cX3_wantedShelf 22 = .ok (.ireturn, 1) := by decide +kernel
theorem dX3_wantedShelf_23 : decode cX3_wantedShelf 23 = .ok (.iload_n 2, 1) := by decide +kernel
theorem dX3_wantedShelf_24 : decode cX3_wantedShelf 24 = .ok (.aload_n 0, 1) := by decide +kernel
theorem dX3_wantedShelf_25 : decode cX3_wantedShelf 25 = .ok (.getfield 9, 3) := by decide +kernel
theorem dX3_wantedShelf_28 : decode cX3_wantedShelf 28 = .ok (.iconst 2, 1) := by decide +kernel
theorem dX3_wantedShelf_29 : decode cX3_wantedShelf 29 = .ok (.invokestatic 49, 3) := by decide +kernel
theorem dX3_wantedShelf_32 : decode cX3_wantedShelf 32 = .ok (.if_icmp .lt 7, 3) := by decide +kernel
theorem dX3_wantedShelf_35 : decode cX3_wantedShelf 35 = .ok (.iconst 1, 1) := by decide +kernel
theorem dX3_wantedShelf_36 : decode cX3_wantedShelf 36 = .ok (.goto 4, 3) := by decide +kernel
theorem dX3_wantedShelf_39 : decode cX3_wantedShelf 39 = .ok (.iconst 2, 1) := by decide +kernel
theorem dX3_wantedShelf_40 : decode cX3_wantedShelf 40 = .ok (.ireturn, 1) := by decide +kernel
theorem dX3_hasRoom_0 : decode cX3_hasRoom 0 = .ok (.iload_n 1, 1) := by decide +kernel
theorem dX3_hasRoom_1 : decode cX3_hasRoom 1 = .ok (.ifCond .lt 32, 3) := by decide +kernel
theorem dX3_hasRoom_4 : decode cX3_hasRoom 4 = .ok (.iload_n 1, 1) := by decide +kernel
theorem dX3_hasRoom_5 : decode cX3_hasRoom 5 = .ok (.iconst 3, 1) := by decide +kernel
theorem dX3_hasRoom_6 : decode cX3_hasRoom 6 = .ok (.if_icmp .ge 27, 3) := by decide +kernel
theorem dX3_hasRoom_9 : decode cX3_hasRoom 9 = .ok (.aload_n 0, 1) := by decide +kernel
theorem dX3_hasRoom_10 : decode cX3_hasRoom 10 = .ok (.getfield 15, 3) := by decide +kernel
theorem dX3_hasRoom_13 : decode cX3_hasRoom 13 = .ok (.iload_n 1, 1) := by decide +kernel
theorem dX3_hasRoom_14 : decode cX3_hasRoom 14 = .ok (.iaload, 1) := by decide +kernel
theorem dX3_hasRoom_15 : decode cX3_hasRoom 15 = .ok (.iload_n 2, 1) := by decide +kernel
theorem dX3_hasRoom_16 : decode cX3_hasRoom 16 = .ok (.iadd, 1) := by decide +kernel
theorem dX3_hasRoom_17 : decode cX3_hasRoom 17 = .ok (.aload_n 0, 1) := by decide +kernel
theorem dX3_hasRoom_18 : decode cX3_hasRoom 18 = .ok (.getfield 9, 3) := by decide +kernel
theorem dX3_hasRoom_21 : decode cX3_hasRoom 21 = .ok (.bipush 6, 2) := by decide +kernel
theorem dX3_hasRoom_23 : decode cX3_hasRoom 23 = .ok (.iload_n 1, 1) := by decide +kernel
theorem dX3_hasRoom_24 : decode cX3_hasRoom 24 = .ok (.iadd, 1) := by decide +kernel
theorem dX3_hasRoom_25 : decode cX3_hasRoom 25 = .ok (.iaload, 1) := by decide +kernel
theorem dX3_hasRoom_26 : decode cX3_hasRoom 26 = .ok (.if_icmp .gt 7, 3) := by decide +kernel
theorem dX3_hasRoom_29 : decode cX3_hasRoom 29 = .ok (.iconst 1, 1) := by decide +kernel
theorem dX3_hasRoom_30 : decode cX3_hasRoom 30 = .ok (.goto 4, 3) := by decide +kernel
theorem dX3_hasRoom_33 : decode cX3_hasRoom 33 = .ok (.iconst 0, 1) := by decide +kernel
theorem dX3_hasRoom_34 : decode cX3_hasRoom 34 = .ok (.ireturn, 1) := by decide +kernel
theorem dX3_countOnShelf_0 : decode cX3_countOnShelf 0 = .ok (.aload_n 0, 1) := by decide +kernel
theorem dX3_countOnShelf_1 : decode cX3_countOnShelf 1 = .ok (.invokevirtual 53, 3) := by decide +kernel
theorem dX3_countOnShelf_4 : decode cX3_countOnShelf 4 = .ok (.istore_n 2, 1) := by decide +kernel
theorem dX3_countOnShelf_5 : decode cX3_countOnShelf 5 = .ok (.iconst 0, 1) := by decide +kernel
theorem dX3_countOnShelf_6 : decode cX3_countOnShelf 6 = .ok (.istore_n 3, 1) := by decide +kernel
theorem dX3_countOnShelf_7 : decode cX3_countOnShelf 7 = .ok (.iconst 0, 1) := by decide +kernel
theorem dX3_countOnShelf_8 : decode cX3_countOnShelf 8 = .ok (.istore 4, 2) := by decide +kernel
theorem dX3_countOnShelf_10 : decode cX3_countOnShelf 10 = .ok (.iload 4, 2) := by decide +kernel
theorem dX3_countOnShelf_12 : decode cX3_countOnShelf 12 = .ok (.iload_n 2, 1) := by decide +kernel
theorem dX3_countOnShelf_13 : decode cX3_countOnShelf 13 = .ok (.if_icmp .ge 25, 3) := by decide +kernel
theorem dX3_countOnShelf_16 : decode cX3_countOnShelf 16 = .ok (.aload_n 0, 1) := by decide +kernel
theorem dX3_countOnShelf_17 : decode cX3_countOnShelf 17 = .ok (.getfield 27, 3) := by decide +kernel
theorem dX3_countOnShelf_20 : decode cX3_countOnShelf 20 = .ok (.iload 4, 2) := by decide +kernel
theorem dX3_countOnShelf_22 : decode cX3_countOnShelf 22 = .ok (.invokestatic 49, 3) := by decide +kernel
theorem dX3_countOnShelf_25 : decode cX3_countOnShelf 25 = .ok (.iload_n 1, 1) := by decide +kernel
theorem dX3_countOnShelf_26 : decode cX3_countOnShelf 26 = .ok (.if_icmp .ne 6, 3) := by decide +kernel
theorem dX3_countOnShelf_29 : decode cX3_countOnShelf 29 = .ok (.iinc 3 1, 3) := by decide +kernel
theorem dX3_countOnShelf_32 : decode cX3_countOnShelf 32 = .ok (.iinc 4 1, 3) := by decide +kernel
theorem dX3_countOnShelf_35 : decode cX3_countOnShelf 35 = .ok (.goto (-25), 3) := by decide +kernel
theorem dX3_countOnShelf_38 : decode cX3_countOnShelf 38 = .ok (.iload_n 3, 1) := by decide +kernel
theorem dX3_countOnShelf_39 : decode cX3_countOnShelf 39 = .ok (.ireturn, 1) := by decide +kernel
theorem dX3_heatOnShelf_0 : decode cX3_heatOnShelf 0 = .ok (.aload_n 0, 1) := by decide +kernel
theorem dX3_heatOnShelf_1 : decode cX3_heatOnShelf 1 = .ok (.invokevirtual 53, 3) := by decide +kernel
theorem dX3_heatOnShelf_4 : decode cX3_heatOnShelf 4 = .ok (.istore_n 2, 1) := by decide +kernel
theorem dX3_heatOnShelf_5 : decode cX3_heatOnShelf 5 = .ok (.iconst 0, 1) := by decide +kernel
theorem dX3_heatOnShelf_6 : decode cX3_heatOnShelf 6 = .ok (.istore_n 3, 1) := by decide +kernel
theorem dX3_heatOnShelf_7 : decode cX3_heatOnShelf 7 = .ok (.iconst 0, 1) := by decide +kernel
theorem dX3_heatOnShelf_8 : decode cX3_heatOnShelf 8 = .ok (.istore 4, 2) := by decide +kernel
theorem dX3_heatOnShelf_10 : decode cX3_heatOnShelf 10 = .ok (.iload 4, 2) := by decide +kernel
theorem dX3_heatOnShelf_12 : decode cX3_heatOnShelf 12 = .ok (.iload_n 2, 1) := by decide +kernel
theorem dX3_heatOnShelf_13 : decode cX3_heatOnShelf 13 = .ok (.if_icmp .ge 34, 3) := by decide +kernel
theorem dX3_heatOnShelf_16 : decode cX3_heatOnShelf 16 = .ok (.aload_n 0, 1) := by decide +kernel
theorem dX3_heatOnShelf_17 : decode cX3_heatOnShelf 17 = .ok (.getfield 27, 3) := by decide +kernel
theorem dX3_heatOnShelf_20 : decode cX3_heatOnShelf 20 = .ok (.iload 4, 2) := by decide +kernel
theorem dX3_heatOnShelf_22 : decode cX3_heatOnShelf 22 = .ok (.invokestatic 49, 3) := by decide +kernel
theorem dX3_heatOnShelf_25 : decode cX3_heatOnShelf 25 = .ok (.iload_n 1, 1) := by decide +kernel
theorem dX3_heatOnShelf_26 : decode cX3_heatOnShelf 26 = .ok (.if_icmp .ne 15, 3) := by decide +kernel
theorem dX3_heatOnShelf_29 : decode cX3_heatOnShelf 29 = .ok (.iload_n 3, 1) := by decide +kernel
theorem dX3_heatOnShelf_30 : decode cX3_heatOnShelf 30 = .ok (.aload_n 0, 1) := by decide +kernel
theorem dX3_heatOnShelf_31 : decode cX3_heatOnShelf 31 = .ok (.getfield 24, 3) := by decide +kernel
theorem dX3_heatOnShelf_34 : decode cX3_heatOnShelf 34 = .ok (.iload 4, 2) := by decide +kernel
theorem dX3_heatOnShelf_36 : decode cX3_heatOnShelf 36 = .ok (.invokestatic 49, 3) := by decide +kernel
theorem dX3_heatOnShelf_39 : decode cX3_heatOnShelf 39 = .ok (.iadd, 1) := by decide +kernel
theorem dX3_heatOnShelf_40 : decode cX3_heatOnShelf 40 = .ok (.istore_n 3, 1) := by decide +kernel
theorem dX3_heatOnShelf_41 : decode cX3_heatOnShelf 41 = .ok (.iinc 4 1, 3) := by decide +kernel
theorem dX3_heatOnShelf_44 : decode cX3_heatOnShelf 44 = .ok (.goto (-34), 3) := by decide +kernel
theorem dX3_heatOnShelf_47 : decode cX3_heatOnShelf 47 = .ok (.iload_n 3, 1) := by decide +kernel
theorem dX3_heatOnShelf_48 : decode cX3_heatOnShelf 48 = .ok (.ireturn, 1) := by decide +kernel
theorem dX3_heatOfAll_0 : decode cX3_heatOfAll 0 = .ok (.iconst 0, 1) := by decide +kernel
theorem dX3_heatOfAll_1 : decode cX3_heatOfAll 1 = .ok (.istore_n 1, 1) := by decide +kernel
theorem dX3_heatOfAll_2 : decode cX3_heatOfAll 2 = .ok (.iconst 0, 1) := by decide +kernel
theorem dX3_heatOfAll_3 : decode cX3_heatOfAll 3 = .ok (.istore_n 2, 1) := by decide +kernel
theorem dX3_heatOfAll_4 : decode cX3_heatOfAll 4 = .ok (.iload_n 2, 1) := by decide +kernel
theorem dX3_heatOfAll_5 : decode cX3_heatOfAll 5 = .ok (.iconst 3, 1) := by decide +kernel
theorem dX3_heatOfAll_6 : decode cX3_heatOfAll 6 = .ok (.if_icmp .ge 17, 3) := by decide +kernel
theorem dX3_heatOfAll_9 : decode cX3_heatOfAll 9 = .ok (.iload_n 1, 1) := by decide +kernel
theorem dX3_heatOfAll_10 : decode cX3_heatOfAll 10 = .ok (.aload_n 0, 1) := by decide +kernel
theorem dX3_heatOfAll_11 : decode cX3_heatOfAll 11 = .ok (.iload_n 2, 1) := by decide +kernel
theorem dX3_heatOfAll_12 : decode cX3_heatOfAll 12 = .ok (.invokevirtual 61, 3) := by decide +kernel
theorem dX3_heatOfAll_15 : decode cX3_heatOfAll 15 = .ok (.iadd, 1) := by decide +kernel
theorem dX3_heatOfAll_16 : decode cX3_heatOfAll 16 = .ok (.istore_n 1, 1) := by decide +kernel
theorem dX3_heatOfAll_17 : decode cX3_heatOfAll 17 = .ok (.iinc 2 1, 3) := by decide +kernel
theorem dX3_heatOfAll_20 : decode cX3_heatOfAll 20 = .ok (.goto (-16), 3) := by decide +kernel
theorem dX3_heatOfAll_23 : decode cX3_heatOfAll 23 = .ok (.iload_n 1, 1) := by decide +kernel
theorem dX3_heatOfAll_24 : decode cX3_heatOfAll 24 = .ok (.ireturn, 1) := by decide +kernel
theorem dX3_nightPriceOfShelf_0 : decode cX3_nightPriceOfShelf 0 = .ok (.aload_n 0, 1) := by decide +kernel
theorem dX3_nightPriceOfShelf_1 : decode cX3_nightPriceOfShelf 1 = .ok (.getfield 15, 3) := by decide +kernel
theorem dX3_nightPriceOfShelf_4 : decode cX3_nightPriceOfShelf 4 = .ok (.iload_n 1, 1) := by decide +kernel
theorem dX3_nightPriceOfShelf_5 : decode cX3_nightPriceOfShelf 5 = .ok (.invokestatic 49, 3) := by decide +kernel
theorem dX3_nightPriceOfShelf_8 : decode cX3_nightPriceOfShelf 8 = .ok (.aload_n 0, 1) := by decide +kernel
theorem dX3_nightPriceOfShelf_9 : decode cX3_nightPriceOfShelf 9 = .ok (.getfield 9, 3) := by decide +kernel
theorem dX3_nightPriceOfShelf_12 : decode cX3_nightPriceOfShelf 12 = .ok (.bipush 9, 2) := by decide +kernel
theorem dX3_nightPriceOfShelf_14 : decode cX3_nightPriceOfShelf 14 = .ok (.iload_n 1, 1) := by decide +kernel
theorem dX3_nightPriceOfShelf_15 : decode cX3_nightPriceOfShelf 15 = .ok (.iadd, 1) := by decide +kernel
theorem dX3_nightPriceOfShelf_16 : decode cX3_nightPriceOfShelf 16 = .ok (.invokestatic 49, 3) := by decide +kernel
theorem dX3_nightPriceOfShelf_19 : decode cX3_nightPriceOfShelf 19 = .ok (.imul, 1) := by decide +kernel
theorem dX3_nightPriceOfShelf_20 : decode cX3_nightPriceOfShelf 20 = .ok (.ireturn, 1) := by decide +kernel
theorem dX3_countPinned_0 : decode cX3_countPinned 0 = .ok (.aload_n 0, 1) := by decide +kernel
theorem dX3_countPinned_1 : decode cX3_countPinned 1 = .ok (.invokevirtual 53, 3) := by decide +kernel
theorem dX3_countPinned_4 : decode cX3_countPinned 4 = .ok (.istore_n 1, 1) := by decide +kernel
theorem dX3_countPinned_5 : decode cX3_countPinned 5 = .ok (.iconst 0, 1) := by decide +kernel
theorem dX3_countPinned_6 : decode cX3_countPinned 6 = .ok (.istore_n 2, 1) := by decide +kernel
theorem dX3_countPinned_7 : decode cX3_countPinned 7 = .ok (.iconst 0, 1) := by decide +kernel
theorem dX3_countPinned_8 : decode cX3_countPinned 8 = .ok (.istore_n 3, 1) := by decide +kernel
theorem dX3_countPinned_9 : decode cX3_countPinned 9 = .ok (.iload_n 3, 1) := by decide +kernel
theorem dX3_countPinned_10 : decode cX3_countPinned 10 = .ok (.iload_n 1, 1) := by decide +kernel
theorem dX3_countPinned_11 : decode cX3_countPinned 11 = .ok (.if_icmp .ge 20, 3) := by decide +kernel
theorem dX3_countPinned_14 : decode cX3_countPinned 14 = .ok (.iload_n 2, 1) := by decide +kernel
theorem dX3_countPinned_15 : decode cX3_countPinned 15 = .ok (.aload_n 0, 1) := by decide +kernel
theorem dX3_countPinned_16 : decode cX3_countPinned 16 = .ok (.getfield 30, 3) := by decide +kernel
theorem dX3_countPinned_19 : decode cX3_countPinned 19 = .ok (.iload_n 3, 1) := by decide +kernel
theorem dX3_countPinned_20 : decode cX3_countPinned 20 = .ok (.invokestatic 49, 3) := by decide +kernel
theorem dX3_countPinned_23 : decode cX3_countPinned 23 = .ok (.iadd, 1) := by decide +kernel
theorem dX3_countPinned_24 : decode cX3_countPinned 24 = .ok (.istore_n 2, 1) := by decide +kernel
theorem dX3_countPinned_25 : decode cX3_countPinned 25 = .ok (.iinc 3 1, 3) := by decide +kernel
theorem dX3_countPinned_28 : decode cX3_countPinned 28 = .ok (.goto (-19), 3) := by decide +kernel
theorem dX3_countPinned_31 : decode cX3_countPinned 31 = .ok (.iload_n 2, 1) := by decide +kernel
theorem dX3_countPinned_32 : decode cX3_countPinned 32 = .ok (.ireturn, 1) := by decide +kernel
theorem dX3_addBlock_0 : decode cX3_addBlock 0 = .ok (.iload_n 1, 1) := by decide +kernel
theorem dX3_addBlock_1 : decode cX3_addBlock 1 = .ok (.iconst 1, 1) := by decide +kernel
theorem dX3_addBlock_2 : decode cX3_addBlock 2 = .ok (.if_icmp .lt 9, 3) := by decide +kernel
theorem dX3_addBlock_5 : decode cX3_addBlock 5 = .ok (.iload_n 1, 1) := by decide +kernel
theorem dX3_addBlock_6 : decode cX3_addBlock 6 = .ok (.bipush 9, 2) := by decide +kernel
theorem dX3_addBlock_8 : decode cX3_addBlock 8 = .ok (.if_icmp .le 6, 3) := by decide +kernel
theorem dX3_addBlock_11 : decode cX3_addBlock 11 = .ok (.bipush (-2), 2) := by decide +kernel
theorem dX3_addBlock_13 : decode cX3_addBlock 13 = .ok (.ireturn, 1) := by decide +kernel
theorem dX3_addBlock_14 : decode cX3_addBlock 14 = .ok (.aload_n 0, 1) := by decide +kernel
theorem dX3_addBlock_15 : decode cX3_addBlock 15 = .ok (.iload_n 1, 1) := by decide +kernel
theorem dX3_addBlock_16 : decode cX3_addBlock 16 = .ok (.invokevirtual 64, 3) := by decide +kernel
theorem dX3_addBlock_19 : decode cX3_addBlock 19 = .ok (.istore_n 2, 1) := by decide +kernel
theorem dX3_addBlock_20 : decode cX3_addBlock 20 = .ok (.aload_n 0, 1) := by decide +kernel
theorem dX3_addBlock_21 : decode cX3_addBlock 21 = .ok (.invokevirtual 53, 3) := by decide +kernel
theorem dX3_addBlock_24 : decode cX3_addBlock 24 = .ok (.istore_n 3, 1) := by decide +kernel
theorem dX3_addBlock_25 : decode cX3_addBlock 25 = .ok (.aload_n 0, 1) := by decide +kernel
theorem dX3_addBlock_26 : decode cX3_addBlock 26 = .ok (.getfield 9, 3) := by decide +kernel
theorem dX3_addBlock_29 : decode cX3_addBlock 29 = .ok (.bipush 16, 2) := by decide +kernel
theorem dX3_addBlock_31 : decode cX3_addBlock 31 = .ok (.invokestatic 49, 3) := by decide +kernel
theorem dX3_addBlock_34 : decode cX3_addBlock 34 = .ok (.istore 4, 2) := by decide +kernel
theorem dX3_addBlock_36 : decode cX3_addBlock 36 = .ok (.iload_n 3, 1) := by decide +kernel
theorem dX3_addBlock_37 : decode cX3_addBlock 37 = .ok (.bipush 24, 2) := by decide +kernel
theorem dX3_addBlock_39 : decode cX3_addBlock 39 = .ok (.if_icmp .ge 16, 3) := by decide +kernel
theorem dX3_addBlock_42 : decode cX3_addBlock 42 = .ok (.iload_n 2, 1) := by decide +kernel
theorem dX3_addBlock_43 : decode cX3_addBlock 43 = .ok (.iconst (-1), 1) := by decide +kernel
theorem dX3_addBlock_44 : decode cX3_addBlock 44 = .ok (.if_icmp .eq 11, 3) := by decide +kernel
theorem dX3_addBlock_47 : decode cX3_addBlock 47 = .ok (.iload 4, 2) := by decide +kernel
theorem dX3_addBlock_49 : decode cX3_addBlock 49 = .ok (.sipush 999, 3) := by decide +kernel
theorem dX3_addBlock_52 : decode cX3_addBlock 52 = .ok (.if_icmp .le 6, 3) := by decide +kernel
theorem dX3_addBlock_55 : decode cX3_addBlock 55 = .ok (.bipush (-3), 2) := by decide +kernel
theorem dX3_addBlock_57 : decode cX3_addBlock 57 = .ok (.ireturn, 1) := by decide +kernel
theorem dX3_addBlock_58 : decode cX3_addBlock 58 = .ok (.aload_n 0, 1) := by decide +kernel
theorem dX3_addBlock_59 : decode cX3_addBlock 59 = .ok (.getfield 18, 3) := by decide +kernel
theorem dX3_addBlock_62 : decode cX3_addBlock 62 = .ok (.iload_n 3, 1) := by decide +kernel
theorem dX3_addBlock_63 : decode cX3_addBlock 63 = .ok (.iload 4, 2) := by decide +kernel
theorem dX3_addBlock_65 : decode cX3_addBlock 65 = .ok (.invokestatic 67, 3) := by decide +kernel
theorem dX3_addBlock_68 : decode cX3_addBlock 68 = .ok (.aload_n 0, 1) := by decide +kernel
theorem dX3_addBlock_69 : decode cX3_addBlock 69 = .ok (.getfield 21, 3) := by decide +kernel
theorem dX3_addBlock_72 : decode cX3_addBlock 72 = .ok (.iload_n 3, 1) := by decide +kernel
theorem dX3_addBlock_73 : decode cX3_addBlock 73 = .ok (.iload_n 1, 1) := by decide +kernel
theorem dX3_addBlock_74 : decode cX3_addBlock 74 = .ok (.invokestatic 67, 3) := by decide +kernel
theorem dX3_addBlock_77 : decode cX3_addBlock 77 = .ok (.aload_n 0, 1) := by decide +kernel
theorem dX3_addBlock_78 : decode cX3_addBlock 78 = .ok (.getfield 24, 3) := by decide +kernel
theorem dX3_addBlock_81 : decode cX3_addBlock 81 = .ok (.iload_n 3, 1) := by decide +kernel
theorem dX3_addBlock_82 : decode cX3_addBlock 82 = .ok (.sipush 1000, 3) := by decide +kernel
theorem dX3_addBlock_85 : decode cX3_addBlock 85 = .ok (.invokestatic 67, 3) := by decide +kernel
theorem dX3_addBlock_88 : decode cX3_addBlock 88 = .ok (.aload_n 0, 1) := by decide +kernel
theorem dX3_addBlock_89 : decode cX3_addBlock 89 = .ok (.getfield 27, 3) := by decide +kernel
theorem dX3_addBlock_92 : decode cX3_addBlock 92 = .ok (.iload_n 3, 1) := by decide +kernel
theorem dX3_addBlock_93 : decode cX3_addBlock 93 = .ok (.iload_n 2, 1) := by decide +kernel
theorem dX3_addBlock_94 : decode cX3_addBlock 94 = .ok (.invokestatic 67, 3) := by decide +kernel
theorem dX3_addBlock_97 : decode cX3_addBlock 97 = .ok (.aload_n 0, 1) := by decide +kernel
theorem dX3_addBlock_98 : decode cX3_addBlock 98 = .ok (.getfield 30, 3) := by decide +kernel
theorem dX3_addBlock_101 : decode cX3_addBlock 101 = .ok (.iload_n 3, 1) := by decide +kernel
theorem dX3_addBlock_102 : decode cX3_addBlock 102 = .ok (.iconst 0, 1) := by decide +kernel
theorem dX3_addBlock_103 : decode cX3_addBlock 103 = .ok (.invokestatic 67, 3) := by decide +kernel
theorem dX3_addBlock_106 : decode cX3_addBlock 106 = .ok (.aload_n 0, 1) := by decide +kernel
theorem dX3_addBlock_107 : decode cX3_addBlock 107 = .ok (.getfield 33, 3) := by decide +kernel
theorem dX3_addBlock_110 : decode cX3_addBlock 110 = .ok (.iload_n 3, 1) := by decide +kernel
theorem dX3_addBlock_111 : decode cX3_addBlock 111 = .ok (.iconst 0, 1) := by decide +kernel
theorem dX3_addBlock_112 : decode cX3_addBlock 112 = .ok (.invokestatic 67, 3) := by decide +kernel
theorem dX3_addBlock_115 : decode cX3_addBlock 115 = .ok (.aload_n 0, 1) := by decide +kernel
theorem dX3_addBlock_116 : decode cX3_addBlock 116 = .ok (.getfield 36, 3) := by decide +kernel
theorem dX3_addBlock_119 : decode cX3_addBlock 119 = .ok (.iload_n 3, 1) := by decide +kernel
theorem dX3_addBlock_120 : decode cX3_addBlock 120 = .ok (.iconst 0, 1) := by decide +kernel
theorem dX3_addBlock_121 : decode cX3_addBlock 121 = .ok (.invokestatic 67, 3) := by decide +kernel
theorem dX3_addBlock_124 : decode cX3_addBlock 124 = .ok (.aload_n 0, 1) := by decide +kernel
theorem dX3_addBlock_125 : decode cX3_addBlock 125 = .ok (.getfield 39, 3) := by decide +kernel
theorem dX3_addBlock_128 : decode cX3_addBlock 128 = .ok (.iload_n 3, 1) := by decide +kernel
theorem dX3_addBlock_129 : decode cX3_addBlock 129 = .ok (.iconst 0, 1) := by decide +kernel
theorem dX3_addBlock_130 : decode cX3_addBlock 130 = .ok (.invokestatic 67, 3) := by decide +kernel
theorem dX3_addBlock_133 : decode cX3_addBlock 133 = .ok (.aload_n 0, 1) := by decide +kernel
theorem dX3_addBlock_134 : decode cX3_addBlock 134 = .ok (.getfield 15, 3) := by decide +kernel
theorem dX3_addBlock_137 : decode cX3_addBlock 137 = .ok (.iload_n 2, 1) := by decide +kernel
theorem dX3_addBlock_138 : decode cX3_addBlock 138 = .ok (.iload_n 1, 1) := by decide +kernel
theorem dX3_addBlock_139 : decode cX3_addBlock 139 = .ok (.invokestatic 71, 3) := by decide +kernel
theorem dX3_addBlock_142 : decode cX3_addBlock 142 = .ok (.aload_n 0, 1) := by decide +kernel
theorem dX3_addBlock_143 : decode cX3_addBlock 143 = .ok (.getfield 9, 3) := by decide +kernel
theorem dX3_addBlock_146 : decode cX3_addBlock 146 = .ok (.bipush 15, 2) := by decide +kernel
theorem dX3_addBlock_148 : decode cX3_addBlock 148 = .ok (.iconst 1, 1) := by decide +kernel
theorem dX3_addBlock_149 : decode cX3_addBlock 149 = .ok (.invokestatic 71, 3) := by decide +kernel
theorem dX3_addBlock_152 : decode cX3_addBlock 152 = .ok (.aload_n 0, 1) := by decide +kernel
theorem dX3_addBlock_153 : decode cX3_addBlock 153 = .ok (.getfield 9, 3) := by decide +kernel
theorem dX3_addBlock_156 : decode cX3_addBlock 156 = .ok (.bipush 16, 2) := by decide +kernel
theorem dX3_addBlock_158 : decode cX3_addBlock 158 = .ok (.iconst 1, 1) := by decide +kernel
theorem dX3_addBlock_159 : decode cX3_addBlock 159 = .ok (.invokestatic 71, 3) := by decide +kernel
theorem dX3_addBlock_162 : decode cX3_addBlock 162 = .ok (.iload 4, 2) := by decide +kernel
theorem dX3_addBlock_164 : decode cX3_addBlock 164 = .ok (.ireturn, 1) := by decide +kernel
theorem dX3_fastestWithRoom_0 : decode cX3_fastestWithRoom 0 = .ok (.iconst 0, 1) := by decide +kernel
theorem dX3_fastestWithRoom_1 : decode cX3_fastestWithRoom 1 = .ok (.istore_n 2, 1) := by decide +kernel
theorem dX3_fastestWithRoom_2 : decode cX3_fastestWithRoom 2 = .ok (.iload_n 2, 1) := by decide +kernel
theorem dX3_fastestWithRoom_3 : decode cX3_fastestWithRoom 3 = .ok (.iconst 3, 1) := by decide +kernel
theorem dX3_fastestWithRoom_4 : decode cX3_fastestWithRoom 4 = .ok (.if_icmp .ge 20, 3) := by decide +kernel
theorem dX3_fastestWithRoom_7 : decode cX3_fastestWithRoom 7 = .ok (.aload_n 0, 1) := by decide +kernel
theorem dX3_fastestWithRoom_8 : decode cX3_fastestWithRoom 8 = .ok (.iload_n 2, 1) := by decide +kernel
theorem dX3_fastestWithRoom_9 : decode cX3_fastestWithRoom 9 = .ok (.iload_n 1, 1) := by decide +kernel
theorem dX3_fastestWithRoom_10 : decode cX3_fastestWithRoom 10 = .ok (.invokevirtual 74, 3) := by decide +kernel
theorem dX3_fastestWithRoom_13 : decode cX3_fastestWithRoom 13 = .ok (.ifCond .eq 5, 3) := by decide +kernel
theorem dX3_fastestWithRoom_16 : decode cX3_fastestWithRoom 16 = .ok (.iload_n 2, 1) := by decide +kernel
theorem dX3_fastestWithRoom_17 : decode cX3_fastestWithRoom 17 = .ok (.ireturn, 1) := by decide +kernel
theorem dX3_fastestWithRoom_18 : decode cX3_fastestWithRoom 18 = .ok (.iinc 2 1, 3) := by decide +kernel
theorem dX3_fastestWithRoom_21 : decode cX3_fastestWithRoom 21 = .ok (.goto (-19), 3) := by decide +kernel
theorem dX3_fastestWithRoom_24 : decode cX3_fastestWithRoom 24 = .ok (.iconst (-1), 1) := by decide +kernel
theorem dX3_fastestWithRoom_25 : decode cX3_fastestWithRoom 25 = .ok (.ireturn, 1) := by decide +kernel
theorem dX3_dropBlock_0 : decode cX3_dropBlock 0 = .ok (.aload_n 0, 1) := by decide +kernel
theorem dX3_dropBlock_1 : decode cX3_dropBlock 1 = .ok (.iload_n 1, 1) := by decide +kernel
theorem dX3_dropBlock_2 : decode cX3_dropBlock 2 = .ok (.invokevirtual 78, 3) := by decide +kernel
theorem dX3_dropBlock_5 : decode cX3_dropBlock 5 = .ok (.istore_n 2, 1) := by decide +kernel
theorem dX3_dropBlock_6 : decode cX3_dropBlock 6 = .ok (.iload_n 2, 1) := by decide +kernel
theorem dX3_dropBlock_7 : decode cX3_dropBlock 7 = .ok (.iconst (-1), 1) := by decide +kernel
theorem dX3_dropBlock_8 : decode cX3_dropBlock 8 = .ok (.if_icmp .ne 5, 3) := by decide +kernel
theorem dX3_dropBlock_11 : decode cX3_dropBlock 11 = .ok (.iconst (-1), 1) := by decide +kernel
theorem dX3_dropBlock_12 : decode cX3_dropBlock 12 = .ok (.ireturn, 1) := by decide +kernel
theorem dX3_dropBlock_13 : decode cX3_dropBlock 13 = .ok (.aload_n 0, 1) := by decide +kernel
theorem dX3_dropBlock_14 : decode cX3_dropBlock 14 = .ok (.getfield 27, 3) := by decide +kernel
theorem dX3_dropBlock_17 : decode cX3_dropBlock 17 = .ok (.iload_n 2, 1) := by decide +kernel
theorem dX3_dropBlock_18 : decode cX3_dropBlock 18 = .ok (.invokestatic 49, 3) := by decide +kernel
theorem dX3_dropBlock_21 : decode cX3_dropBlock 21 = .ok (.istore_n 3, 1) := by decide +kernel
theorem dX3_dropBlock_22 : decode cX3_dropBlock 22 = .ok (.aload_n 0, 1) := by decide +kernel
theorem dX3_dropBlock_23 : decode cX3_dropBlock 23 = .ok (.getfield 15, 3) := by decide +kernel
theorem dX3_dropBlock_26 : decode cX3_dropBlock 26 = .ok (.iload_n 3, 1) := by decide +kernel
theorem dX3_dropBlock_27 : decode cX3_dropBlock 27 = .ok (.aload_n 0, 1) := by decide +kernel
theorem dX3_dropBlock_28 : decode cX3_dropBlock 28 = .ok (.getfield 21, 3) := by decide +kernel
theorem dX3_dropBlock_31 : decode cX3_dropBlock 31 = .ok (.iload_n 2, 1) := by decide +kernel
theorem dX3_dropBlock_32 : decode cX3_dropBlock 32 = .ok (.invokestatic 49, 3) := by decide +kernel
theorem dX3_dropBlock_35 : decode cX3_dropBlock 35 = .ok (.ineg, 1) := by decide +kernel
theorem dX3_dropBlock_36 : decode cX3_dropBlock 36 = .ok (.invokestatic 71, 3) := by decide +kernel
theorem dX3_dropBlock_39 : decode cX3_dropBlock 39 = .ok (.aload_n 0, 1) := by decide +kernel
theorem dX3_dropBlock_40 : decode cX3_dropBlock 40 = .ok (.getfield 9, 3) := by decide +kernel
theorem dX3_dropBlock_43 : decode cX3_dropBlock 43 = .ok (.bipush 15, 2) := by decide +kernel
theorem dX3_dropBlock_45 : decode cX3_dropBlock 45 = .ok (.iconst (-1), 1) := by decide +kernel
theorem dX3_dropBlock_46 : decode cX3_dropBlock 46 = .ok (.invokestatic 71, 3) := by decide +kernel
theorem dX3_dropBlock_49 : decode cX3_dropBlock 49 = .ok (.aload_n 0, 1) := by decide +kernel
theorem dX3_dropBlock_50 : decode cX3_dropBlock 50 = .ok (.getfield 18, 3) := by decide +kernel
theorem dX3_dropBlock_53 : decode cX3_dropBlock 53 = .ok (.iload_n 2, 1) := by decide +kernel
theorem dX3_dropBlock_54 : decode cX3_dropBlock 54 = .ok (.invokestatic 81, 3) := by decide +kernel
theorem dX3_dropBlock_57 : decode cX3_dropBlock 57 = .ok (.aload_n 0, 1) := by decide +kernel
theorem dX3_dropBlock_58 : decode cX3_dropBlock 58 = .ok (.getfield 21, 3) := by decide +kernel
theorem dX3_dropBlock_61 : decode cX3_dropBlock 61 = .ok (.iload_n 2, 1) := by decide +kernel
theorem dX3_dropBlock_62 : decode cX3_dropBlock 62 = .ok (.invokestatic 81, 3) := by decide +kernel
theorem dX3_dropBlock_65 : decode cX3_dropBlock 65 = .ok (.aload_n 0, 1) := by decide +kernel
theorem dX3_dropBlock_66 : decode cX3_dropBlock 66 = .ok (.getfield 24, 3) := by decide +kernel
theorem dX3_dropBlock_69 : decode cX3_dropBlock 69 = .ok (.iload_n 2, 1) := by decide +kernel
theorem dX3_dropBlock_70 : decode cX3_dropBlock 70 = .ok (.invokestatic 81, 3) := by decide +kernel
theorem dX3_dropBlock_73 : decode cX3_dropBlock 73 = .ok (.aload_n 0, 1) := by decide +kernel
theorem dX3_dropBlock_74 : decode cX3_dropBlock 74 = .ok (.getfield 27, 3) := by decide +kernel
theorem dX3_dropBlock_77 : decode cX3_dropBlock 77 = .ok (.iload_n 2, 1) := by decide +kernel
theorem dX3_dropBlock_78 : decode cX3_dropBlock 78 = .ok (.invokestatic 81, 3) := by decide +kernel
theorem dX3_dropBlock_81 : decode cX3_dropBlock 81 = .ok (.aload_n 0, 1) := by decide +kernel
theorem dX3_dropBlock_82 : decode cX3_dropBlock 82 = .ok (.getfield 30, 3) := by decide +kernel
theorem dX3_dropBlock_85 : decode cX3_dropBlock 85 = .ok (.iload_n 2, 1) := by decide +kernel
theorem dX3_dropBlock_86 : decode cX3_dropBlock 86 = .ok (.invokestatic 81, 3) := by decide +kernel
theorem dX3_dropBlock_89 : decode cX3_dropBlock 89 = .ok (.aload_n 0, 1) := by decide +kernel
theorem dX3_dropBlock_90 : decode cX3_dropBlock 90 = .ok (.getfield 33, 3) := by decide +kernel
theorem dX3_dropBlock_93 : decode cX3_dropBlock 93 = .ok (.iload_n 2, 1) := by decide +kernel
theorem dX3_dropBlock_94 : decode cX3_dropBlock 94 = .ok (.invokestatic 81, 3) := by decide +kernel
theorem dX3_dropBlock_97 : decode cX3_dropBlock 97 = .ok (.aload_n 0, 1) := by decide +kernel
theorem dX3_dropBlock_98 : decode cX3_dropBlock 98 = .ok (.getfield 36, 3) := by decide +kernel
theorem dX3_dropBlock_101 : decode cX3_dropBlock 101 = .ok (.iload_n 2, 1) := by decide +kernel
theorem dX3_dropBlock_102 : decode cX3_dropBlock 102 = .ok (.invokestatic 81, 3) := by decide +kernel
theorem dX3_dropBlock_105 : decode cX3_dropBlock 105 = .ok (.aload_n 0, 1) := by decide +kernel
theorem dX3_dropBlock_106 : decode cX3_dropBlock 106 = .ok (.getfield 39, 3) := by decide +kernel
theorem dX3_dropBlock_109 : decode cX3_dropBlock 109 = .ok (.iload_n 2, 1) := by decide +kernel
theorem dX3_dropBlock_110 : decode cX3_dropBlock 110 = .ok (.invokestatic 81, 3) := by decide +kernel
theorem dX3_dropBlock_113 : decode cX3_dropBlock 113 = .ok (.iload_n 3, 1) := by decide +kernel
theorem dX3_dropBlock_114 : decode cX3_dropBlock 114 = .ok (.ireturn, 1) := by decide +kernel
theorem dX3_readBlock_0 : decode cX3_readBlock 0 = .ok (.aload_n 0, 1) := by decide +kernel
theorem dX3_readBlock_1 : decode cX3_readBlock 1 = .ok (.iload_n 1, 1) := by decide +kernel
theorem dX3_readBlock_2 : decode cX3_readBlock 2 = .ok (.invokevirtual 78, 3) := by decide +kernel
theorem dX3_readBlock_5 : decode cX3_readBlock 5 = .ok (.istore_n 3, 1) := by decide +kernel
theorem dX3_readBlock_6 : decode cX3_readBlock 6 = .ok (.iload_n 3, 1) := by decide +kernel
theorem dX3_readBlock_7 : decode cX3_readBlock 7 = .ok (.iconst (-1), 1) := by decide +kernel
theorem dX3_readBlock_8 : decode cX3_readBlock 8 = .ok (.if_icmp .ne 5, 3) := by decide +kernel
theorem dX3_readBlock_11 : decode cX3_readBlock 11 = .ok (.iconst (-1), 1) := by decide +kernel
theorem dX3_readBlock_12 : decode cX3_readBlock 12 = .ok (.ireturn, 1) := by decide +kernel
theorem dX3_readBlock_13 : decode cX3_readBlock 13 = .ok (.iload_n 2, 1) := by decide +kernel
theorem dX3_readBlock_14 : decode cX3_readBlock 14 = .ok (.iconst 1, 1) := by decide +kernel
theorem dX3_readBlock_15 : decode cX3_readBlock 15 = .ok (.if_icmp .lt 9, 3) := by decide +kernel
theorem dX3_readBlock_18 : decode cX3_readBlock 18 = .ok (.iload_n 2, 1) := by decide +kernel
theorem dX3_readBlock_19 : decode cX3_readBlock 19 = .ok (.bipush 99, 2) := by decide +kernel
theorem dX3_readBlock_21 : decode cX3_readBlock 21 = .ok (.if_icmp .le 6, 3) := by decide +kernel
theorem dX3_readBlock_24 : decode cX3_readBlock 24 = .ok (.bipush (-2), 2) := by decide +kernel
theorem dX3_readBlock_26 : decode cX3_readBlock 26 = .ok (.ireturn, 1) := by decide +kernel
theorem dX3_readBlock_27 : decode cX3_readBlock 27 = .ok (.iconst 0, 1) := by decide +kernel
theorem dX3_readBlock_28 : decode cX3_readBlock 28 = .ok (.istore 4, 2) := by decide +kernel
theorem dX3_readBlock_30 : decode cX3_readBlock 30 = .ok (.iconst 0, 1) := by decide +kernel
theorem dX3_readBlock_31 : decode cX3_readBlock 31 = .ok (.istore 5, 2) := by decide +kernel
theorem dX3_readBlock_33 : decode cX3_readBlock 33 = .ok (.iload 5, 2) := by decide +kernel
theorem dX3_readBlock_35 : decode cX3_readBlock 35 = .ok (.iload_n 2, 1) := by decide +kernel
theorem dX3_readBlock_36 : decode cX3_readBlock 36 = .ok (.if_icmp .ge 19, 3) := by decide +kernel
theorem dX3_readBlock_39 : decode cX3_readBlock 39 = .ok (.iload 4, 2) := by decide +kernel
theorem dX3_readBlock_41 : decode cX3_readBlock 41 = .ok (.aload_n 0, 1) := by decide +kernel
theorem dX3_readBlock_42 : decode cX3_readBlock 42 = .ok (.iload_n 3, 1) := by decide +kernel
theorem dX3_readBlock_43 : decode cX3_readBlock 43 = .ok (.invokevirtual 85, 3) := by decide +kernel
theorem dX3_readBlock_46 : decode cX3_readBlock 46 = .ok (.iadd, 1) := by decide +kernel
theorem dX3_readBlock_47 : decode cX3_readBlock 47 = .ok (.istore 4, 2) := by decide +kernel
theorem dX3_readBlock_49 : decode cX3_readBlock 49 = .ok (.iinc 5 1, 3) := by decide +kernel
theorem dX3_readBlock_52 : decode cX3_readBlock 52 = .ok (.goto (-19), 3) := by decide +kernel
theorem dX3_readBlock_55 : decode cX3_readBlock 55 = .ok (.iload 4, 2) := by decide +kernel
theorem dX3_readBlock_57 : decode cX3_readBlock 57 = .ok (.ireturn, 1) := by decide +kernel
theorem dX3_readOnce_0 : decode cX3_readOnce 0 = .ok (.aload_n 0, 1) := by decide +kernel
theorem dX3_readOnce_1 : decode cX3_readOnce 1 = .ok (.getfield 27, 3) := by decide +kernel
theorem dX3_readOnce_4 : decode cX3_readOnce 4 = .ok (.iload_n 1, 1) := by decide +kernel
theorem dX3_readOnce_5 : decode cX3_readOnce 5 = .ok (.invokestatic 49, 3) := by decide +kernel
theorem dX3_readOnce_8 : decode cX3_readOnce 8 = .ok (.istore_n 2, 1) := by decide +kernel
theorem dX3_readOnce_9 : decode cX3_readOnce 9 = .ok (.aload_n 0, 1) := by decide +kernel
theorem dX3_readOnce_10 : decode cX3_readOnce 10 = .ok (.getfield 21, 3) := by decide +kernel
theorem dX3_readOnce_13 : decode cX3_readOnce 13 = .ok (.iload_n 1, 1) := by decide +kernel
theorem dX3_readOnce_14 : decode cX3_readOnce 14 = .ok (.invokestatic 49, 3) := by decide +kernel
theorem dX3_readOnce_17 : decode cX3_readOnce 17 = .ok (.aload_n 0, 1) := by decide +kernel
theorem dX3_readOnce_18 : decode cX3_readOnce 18 = .ok (.getfield 9, 3) := by decide +kernel
theorem dX3_readOnce_21 : decode cX3_readOnce 21 = .ok (.bipush 12, 2) := by decide +kernel
theorem dX3_readOnce_23 : decode cX3_readOnce 23 = .ok (.iload_n 2, 1) := by decide +kernel
theorem dX3_readOnce_24 : decode cX3_readOnce 24 = .ok (.iadd, 1) := by decide +kernel
theorem dX3_readOnce_25 : decode cX3_readOnce 25 = .ok (.invokestatic 49, 3) := by decide +kernel
theorem dX3_readOnce_28 : decode cX3_readOnce 28 = .ok (.imul, 1) := by decide +kernel
theorem dX3_readOnce_29 : decode cX3_readOnce 29 = .ok (.istore_n 3, 1) := by decide +kernel
theorem dX3_readOnce_30 : decode cX3_readOnce 30 = .ok (.aload_n 0, 1) := by decide +kernel
theorem dX3_readOnce_31 : decode cX3_readOnce 31 = .ok (.getfield 9, 3) := by decide +kernel
theorem dX3_readOnce_34 : decode cX3_readOnce 34 = .ok (.bipush 19, 2) := by decide +kernel
theorem dX3_readOnce_36 : decode cX3_readOnce 36 = .ok (.iload_n 3, 1) := by decide +kernel
theorem dX3_readOnce_37 : decode cX3_readOnce 37 = .ok (.invokestatic 71, 3) := by decide +kernel
theorem dX3_readOnce_40 : decode cX3_readOnce 40 = .ok (.aload_n 0, 1) := by decide +kernel
theorem dX3_readOnce_41 : decode cX3_readOnce 41 = .ok (.getfield 36, 3) := by decide +kernel
theorem dX3_readOnce_44 : decode cX3_readOnce 44 = .ok (.iload_n 1, 1) := by decide +kernel
theorem dX3_readOnce_45 : decode cX3_readOnce 45 = .ok (.iconst 1, 1) := by decide +kernel
theorem dX3_readOnce_46 : decode cX3_readOnce 46 = .ok (.invokestatic 71, 3) := by decide +kernel
theorem dX3_readOnce_49 : decode cX3_readOnce 49 = .ok (.aload_n 0, 1) := by decide +kernel
theorem dX3_readOnce_50 : decode cX3_readOnce 50 = .ok (.getfield 24, 3) := by decide +kernel
theorem dX3_readOnce_53 : decode cX3_readOnce 53 = .ok (.iload_n 1, 1) := by decide +kernel
theorem dX3_readOnce_54 : decode cX3_readOnce 54 = .ok (.aload_n 0, 1) := by decide +kernel
theorem dX3_readOnce_55 : decode cX3_readOnce 55 = .ok (.getfield 24, 3) := by decide +kernel
theorem dX3_readOnce_58 : decode cX3_readOnce 58 = .ok (.iload_n 1, 1) := by decide +kernel
theorem dX3_readOnce_59 : decode cX3_readOnce 59 = .ok (.invokestatic 49, 3) := by decide +kernel
theorem dX3_readOnce_62 : decode cX3_readOnce 62 = .ok (.sipush 1000, 3) := by decide +kernel
theorem dX3_readOnce_65 : decode cX3_readOnce 65 = .ok (.iadd, 1) := by decide +kernel
theorem dX3_readOnce_66 : decode cX3_readOnce 66 = .ok (.ldc 88, 2) := by decide +kernel
theorem dX3_readOnce_68 : decode cX3_readOnce 68 = .ok (.invokestatic 89, 3) := by decide +kernel
theorem dX3_readOnce_71 : decode cX3_readOnce 71 = .ok (.invokestatic 67, 3) := by decide +kernel
theorem dX3_readOnce_74 : decode cX3_readOnce 74 = .ok (.iload_n 2, 1) := by decide +kernel
theorem dX3_readOnce_75 : decode cX3_readOnce 75 = .ok (.iconst 2, 1) := by decide +kernel
theorem dX3_readOnce_76 : decode cX3_readOnce 76 = .ok (.if_icmp .ne 13, 3) := by decide +kernel
theorem dX3_readOnce_79 : decode cX3_readOnce 79 = .ok (.iload_n 3, 1) := by decide +kernel
theorem dX3_readOnce_80 : decode cX3_readOnce 80 = .ok (.aload_n 0, 1) := by decide +kernel
theorem dX3_readOnce_81 : decode cX3_readOnce 81 = .ok (.iload_n 1, 1) := by decide +kernel
theorem dX3_readOnce_82 : decode cX3_readOnce 82 = .ok (.invokevirtual 95, 3) := by decide +kernel
theorem dX3_readOnce_85 : decode cX3_readOnce 85 = .ok (.iadd, 1) := by decide +kernel
theorem dX3_readOnce_86 : decode cX3_readOnce 86 = .ok (.goto 4, 3) := by decide +kernel
theorem dX3_readOnce_89 : decode cX3_readOnce 89 = .ok (.iload_n 3, 1) := by decide +kernel
theorem dX3_readOnce_90 : decode cX3_readOnce 90 = .ok (.ireturn, 1) := by decide +kernel
theorem dX3_askBack_0 : decode cX3_askBack 0 = .ok (.aload_n 0, 1) := by decide +kernel
theorem dX3_askBack_1 : decode cX3_askBack 1 = .ok (.getfield 21, 3) := by decide +kernel
theorem dX3_askBack_4 : decode cX3_askBack 4 = .ok (.iload_n 1, 1) := by decide +kernel
theorem dX3_askBack_5 : decode cX3_askBack 5 = .ok (.invokestatic 49, 3) := by decide +kernel
theorem dX3_askBack_8 : decode cX3_askBack 8 = .ok (.istore_n 2, 1) := by decide +kernel
theorem dX3_askBack_9 : decode cX3_askBack 9 = .ok (.iload_n 2, 1) := by decide +kernel
theorem dX3_askBack_10 : decode cX3_askBack 10 = .ok (.aload_n 0, 1) := by decide +kernel
theorem dX3_askBack_11 : decode cX3_askBack 11 = .ok (.getfield 9, 3) := by decide +kernel
theorem dX3_askBack_14 : decode cX3_askBack 14 = .ok (.iconst 5, 1) := by decide +kernel
theorem dX3_askBack_15 : decode cX3_askBack 15 = .ok (.invokestatic 49, 3) := by decide +kernel
theorem dX3_askBack_18 : decode cX3_askBack 18 = .ok (.imul, 1) := by decide +kernel
theorem dX3_askBack_19 : decode cX3_askBack 19 = .ok (.aload_n 0, 1) := by decide +kernel
theorem dX3_askBack_20 : decode cX3_askBack 20 = .ok (.getfield 33, 3) := by decide +kernel
theorem dX3_askBack_23 : decode cX3_askBack 23 = .ok (.iload_n 1, 1) := by decide +kernel
theorem dX3_askBack_24 : decode cX3_askBack 24 = .ok (.invokestatic 49, 3) := by decide +kernel
theorem dX3_askBack_27 : decode cX3_askBack 27 = .ok (.imul, 1) := by decide +kernel
theorem dX3_askBack_28 : decode cX3_askBack 28 = .ok (.istore_n 3, 1) := by decide +kernel
theorem dX3_askBack_29 : decode cX3_askBack 29 = .ok (.aload_n 0, 1) := by decide +kernel
theorem dX3_askBack_30 : decode cX3_askBack 30 = .ok (.getfield 9, 3) := by decide +kernel
theorem dX3_askBack_33 : decode cX3_askBack 33 = .ok (.bipush 20, 2) := by decide +kernel
theorem dX3_askBack_35 : decode cX3_askBack 35 = .ok (.iload_n 3, 1) := by decide +kernel
theorem dX3_askBack_36 : decode cX3_askBack 36 = .ok (.invokestatic 71, 3) := by decide +kernel
theorem dX3_askBack_39 : decode cX3_askBack 39 = .ok (.aload_n 0, 1) := by decide +kernel
theorem dX3_askBack_40 : decode cX3_askBack 40 = .ok (.getfield 9, 3) := by decide +kernel
theorem dX3_askBack_43 : decode cX3_askBack 43 = .ok (.bipush 22, 2) := by decide +kernel
theorem dX3_askBack_45 : decode cX3_askBack 45 = .ok (.iconst 1, 1) := by decide +kernel
theorem dX3_askBack_46 : decode cX3_askBack 46 = .ok (.invokestatic 71, 3) := by decide +kernel
theorem dX3_askBack_49 : decode cX3_askBack 49 = .ok (.aload_n 0, 1) := by decide +kernel
theorem dX3_askBack_50 : decode cX3_askBack 50 = .ok (.getfield 33, 3) := by decide +kernel
theorem dX3_askBack_53 : decode cX3_askBack 53 = .ok (.iload_n 1, 1) := by decide +kernel
theorem dX3_askBack_54 : decode cX3_askBack 54 = .ok (.iconst 0, 1) := by decide +kernel
theorem dX3_askBack_55 : decode cX3_askBack 55 = .ok (.invokestatic 67, 3) := by decide +kernel
theorem dX3_askBack_58 : decode cX3_askBack 58 = .ok (.aload_n 0, 1) := by decide +kernel
theorem dX3_askBack_59 : decode cX3_askBack 59 = .ok (.iconst 0, 1) := by decide +kernel
theorem dX3_askBack_60 : decode cX3_askBack 60 = .ok (.iload_n 2, 1) := by decide +kernel
theorem dX3_askBack_61 : decode cX3_askBack 61 = .ok (.invokevirtual 74, 3) := by decide +kernel
theorem dX3_askBack_64 : decode cX3_askBack 64 = .ok (.ifCond .eq 12, 3) := by decide +kernel
theorem dX3_askBack_67 : decode cX3_askBack 67 = .ok (.aload_n 0, 1) := by decide +kernel
theorem dX3_askBack_68 : decode cX3_askBack 68 = .ok (.iload_n 1, 1) := by decide +kernel
theorem dX3_askBack_69 : decode cX3_askBack 69 = .ok (.iconst 0, 1) := by decide +kernel
theorem dX3_askBack_70 : decode cX3_askBack 70 = .ok (.invokevirtual 98, 3) := by decide +kernel
theorem dX3_askBack_73 : decode cX3_askBack 73 = .ok (.goto 18, 3) := by decide +kernel
theorem dX3_askBack_76 : decode cX3_askBack 76 = .ok (.aload_n 0, 1) := by decide +kernel
theorem dX3_askBack_77 : decode cX3_askBack 77 = .ok (.iconst 1, 1) := by decide +kernel
theorem dX3_askBack_78 : decode cX3_askBack 78 = .ok (.iload_n 2, 1) := by decide +kernel
theorem dX3_askBack_79 : decode cX3_askBack 79 = .ok (.invokevirtual 74, 3) := by decide +kernel
theorem dX3_askBack_82 : decode cX3_askBack 82 = .ok (.ifCond .eq 9, 3) := by decide +kernel
theorem dX3_askBack_85 : decode cX3_askBack 85 = .ok (.aload_n 0, 1) := by decide +kernel
theorem dX3_askBack_86 : decode cX3_askBack 86 = .ok (.iload_n 1, 1) := by decide +kernel
theorem dX3_askBack_87 : decode cX3_askBack 87 = .ok (.iconst 1, 1) := by decide +kernel
theorem dX3_askBack_88 : decode cX3_askBack 88 = .ok (.invokevirtual 98, 3) := by decide +kernel
theorem dX3_askBack_91 : decode cX3_askBack 91 = .ok (.iload_n 3, 1) := by decide +kernel
theorem dX3_askBack_92 : decode cX3_askBack 92 = .ok (.ireturn, 1) := by decide +kernel
theorem dX3_moveTo_0 : decode cX3_moveTo 0 = .ok (.aload_n 0, 1) := by decide +kernel
theorem dX3_moveTo_1 : decode cX3_moveTo 1 = .ok (.getfield 21, 3) := by decide +kernel
theorem dX3_moveTo_4 : decode cX3_moveTo 4 = .ok (.iload_n 1, 1) := by decide +kernel
theorem dX3_moveTo_5 : decode cX3_moveTo 5 = .ok (.invokestatic 49, 3) := by decide +kernel
theorem dX3_moveTo_8 : decode cX3_moveTo 8 = .ok (.istore_n 3, 1) := by decide +kernel
theorem dX3_moveTo_9 : decode cX3_moveTo 9 = .ok (.aload_n 0, 1) := by decide +kernel
theorem dX3_moveTo_10 : decode cX3_moveTo 10 = .ok (.getfield 15, 3) := by decide +kernel
theorem dX3_moveTo_13 : decode cX3_moveTo 13 = .ok (.aload_n 0, 1) := by decide +kernel
theorem dX3_moveTo_14 : decode cX3_moveTo 14 = .ok (.getfield 27, 3) := by decide +kernel
theorem dX3_moveTo_17 : decode cX3_moveTo 17 = .ok (.iload_n 1, 1) := by decide +kernel
theorem dX3_moveTo_18 : decode cX3_moveTo 18 = .ok (.invokestatic 49, 3) := by decide +kernel
theorem dX3_moveTo_21 : decode cX3_moveTo 21 = .ok (.iload_n 3, 1) := by decide +kernel
theorem dX3_moveTo_22 : decode cX3_moveTo 22 = .ok (.ineg, 1) := by decide +kernel
theorem dX3_moveTo_23 : decode cX3_moveTo 23 = .ok (.invokestatic 71, 3) := by decide +kernel
theorem dX3_moveTo_26 : decode cX3_moveTo 26 = .ok (.aload_n 0, 1) := by decide +kernel
theorem dX3_moveTo_27 : decode cX3_moveTo 27 = .ok (.getfield 15, 3) := by decide +kernel
theorem dX3_moveTo_30 : decode cX3_moveTo 30 = .ok (.iload_n 2, 1) := by decide +kernel
theorem dX3_moveTo_31 : decode cX3_moveTo 31 = .ok (.iload_n 3, 1) := by decide +kernel
theorem dX3_moveTo_32 : decode cX3_moveTo 32 = .ok (.invokestatic 71, 3) := by decide +kernel
theorem dX3_moveTo_35 : decode cX3_moveTo 35 = .ok (.aload_n 0, 1) := by decide +kernel
theorem dX3_moveTo_36 : decode cX3_moveTo 36 = .ok (.getfield 27, 3) := by decide +kernel
theorem dX3_moveTo_39 : decode cX3_moveTo 39 = .ok (.iload_n 1, 1) := by decide +kernel
theorem dX3_moveTo_40 : decode cX3_moveTo 40 = .ok (.iload_n 2, 1) := by decide +kernel
theorem dX3_moveTo_41 : decode cX3_moveTo 41 = .ok (.invokestatic 67, 3) := by decide +kernel
theorem dX3_moveTo_44 : decode cX3_moveTo 44 = .ok (.aload_n 0, 1) := by decide +kernel
theorem dX3_moveTo_45 : decode cX3_moveTo 45 = .ok (.getfield 39, 3) := by decide +kernel
theorem dX3_moveTo_48 : decode cX3_moveTo 48 = .ok (.iload_n 1, 1) := by decide +kernel
theorem dX3_moveTo_49 : decode cX3_moveTo 49 = .ok (.iconst 1, 1) := by decide +kernel
theorem dX3_moveTo_50 : decode cX3_moveTo 50 = .ok (.invokestatic 71, 3) := by decide +kernel
theorem dX3_moveTo_53 : decode cX3_moveTo 53 = .ok (.return_, 1) := by decide +kernel
theorem dX3_payNight_0 : decode cX3_payNight 0 = .ok (.aload_n 0, 1) := by decide +kernel
theorem dX3_payNight_1 : decode cX3_payNight 1 = .ok (.getfield 9, 3) := by decide +kernel
theorem dX3_payNight_4 : decode cX3_payNight 4 = .ok (.bipush 17, 2) := by decide +kernel
theorem dX3_payNight_6 : decode cX3_payNight 6 = .ok (.iconst 1, 1) := by decide +kernel
theorem dX3_payNight_7 : decode cX3_payNight 7 = .ok (.invokestatic 71, 3) := by decide +kernel
theorem dX3_payNight_10 : decode cX3_payNight 10 = .ok (.iconst 0, 1) := by decide +kernel
theorem dX3_payNight_11 : decode cX3_payNight 11 = .ok (.istore_n 1, 1) := by decide +kernel
theorem dX3_payNight_12 : decode cX3_payNight 12 = .ok (.iload_n 1, 1) := by decide +kernel
theorem dX3_payNight_13 : decode cX3_payNight 13 = .ok (.iconst 3, 1) := by decide +kernel
theorem dX3_payNight_14 : decode cX3_payNight 14 = .ok (.if_icmp .ge 23, 3) := by decide +kernel
theorem dX3_payNight_17 : decode cX3_payNight 17 = .ok (.aload_n 0, 1) := by decide +kernel
theorem dX3_payNight_18 : decode cX3_payNight 18 = .ok (.getfield 9, 3) := by decide +kernel
theorem dX3_payNight_21 : decode cX3_payNight 21 = .ok (.bipush 18, 2) := by decide +kernel
theorem dX3_payNight_23 : decode cX3_payNight 23 = .ok (.aload_n 0, 1) := by decide +kernel
theorem dX3_payNight_24 : decode cX3_payNight 24 = .ok (.iload_n 1, 1) := by decide +kernel
theorem dX3_payNight_25 : decode cX3_payNight 25 = .ok (.invokevirtual 102, 3) := by decide +kernel
theorem dX3_payNight_28 : decode cX3_payNight 28 = .ok (.invokestatic 71, 3) := by decide +kernel
theorem dX3_payNight_31 : decode cX3_payNight 31 = .ok (.iinc 1 1, 3) := by decide +kernel
theorem dX3_payNight_34 : decode cX3_payNight 34 = .ok (.goto (-22), 3) := by decide +kernel
theorem dX3_payNight_37 : decode cX3_payNight 37 = .ok (.return_, 1) := by decide +kernel
theorem dX3_fade_0 : decode cX3_fade 0 = .ok (.aload_n 0, 1) := by decide +kernel
theorem dX3_fade_1 : decode cX3_fade 1 = .ok (.invokevirtual 53, 3) := by decide +kernel
theorem dX3_fade_4 : decode cX3_fade 4 = .ok (.istore_n 1, 1) := by decide +kernel
theorem dX3_fade_5 : decode cX3_fade 5 = .ok (.aload_n 0, 1) := by decide +kernel
theorem dX3_fade_6 : decode cX3_fade 6 = .ok (.getfield 9, 3) := by decide +kernel
theorem dX3_fade_9 : decode cX3_fade 9 = .ok (.iconst 0, 1) := by decide +kernel
theorem dX3_fade_10 : decode cX3_fade 10 = .ok (.invokestatic 49, 3) := by decide +kernel
theorem dX3_fade_13 : decode cX3_fade 13 = .ok (.istore_n 2, 1) := by decide +kernel
theorem dX3_fade_14 : decode cX3_fade 14 = .ok (.iconst 0, 1) := by decide +kernel
theorem dX3_fade_15 : decode cX3_fade 15 = .ok (.istore_n 3, 1) := by decide +kernel
theorem dX3_fade_16 : decode cX3_fade 16 = .ok (.iload_n 3, 1) := by decide +kernel
theorem dX3_fade_17 : decode cX3_fade 17 = .ok (.iload_n 1, 1) := by decide +kernel
theorem dX3_fade_18 : decode cX3_fade 18 = .ok (.if_icmp .ge 52, 3) := by decide +kernel
theorem dX3_fade_21 : decode cX3_fade 21 = .ok (.aload_n 0, 1) := by decide +kernel
theorem dX3_fade_22 : decode cX3_fade 22 = .ok (.getfield 24, 3) := by decide +kernel
theorem dX3_fade_25 : decode cX3_fade 25 = .ok (.iload_n 3, 1) := by decide +kernel
theorem dX3_fade_26 : decode cX3_fade 26 = .ok (.aload_n 0, 1) := by decide +kernel
theorem dX3_fade_27 : decode cX3_fade 27 = .ok (.getfield 24, 3) := by decide +kernel
theorem dX3_fade_30 : decode cX3_fade 30 = .ok (.iload_n 3, 1) := by decide +kernel
theorem dX3_fade_31 : decode cX3_fade 31 = .ok (.invokestatic 49, 3) := by decide +kernel
theorem dX3_fade_34 : decode cX3_fade 34 = .ok (.iload_n 2, 1) := by decide +kernel
theorem dX3_fade_35 : decode cX3_fade 35 = .ok (.imul, 1) := by decide +kernel
theorem dX3_fade_36 : decode cX3_fade 36 = .ok (.bipush 100, 2) := by decide +kernel
theorem dX3_fade_38 : decode cX3_fade 38 = .ok (.idiv, 1) := by decide +kernel
theorem dX3_fade_39 : decode cX3_fade 39 = .ok (.invokestatic 67, 3) := by decide +kernel
theorem dX3_fade_42 : decode cX3_fade 42 = .ok (.aload_n 0, 1) := by decide +kernel
theorem dX3_fade_43 : decode cX3_fade 43 = .ok (.getfield 33, 3) := by decide +kernel
theorem dX3_fade_46 : decode cX3_fade 46 = .ok (.iload_n 3, 1) := by decide +kernel
theorem dX3_fade_47 : decode cX3_fade 47 = .ok (.aload_n 0, 1) := by decide +kernel
theorem dX3_fade_48 : decode cX3_fade 48 = .ok (.getfield 33, 3) := by decide +kernel
theorem dX3_fade_51 : decode cX3_fade 51 = .ok (.iload_n 3, 1) := by decide +kernel
theorem dX3_fade_52 : decode cX3_fade 52 = .ok (.invokestatic 49, 3) := by decide +kernel
theorem dX3_fade_55 : decode cX3_fade 55 = .ok (.iconst 1, 1) := by decide +kernel
theorem dX3_fade_56 : decode cX3_fade 56 = .ok (.isub, 1) := by decide +kernel
theorem dX3_fade_57 : decode cX3_fade 57 = .ok (.iconst 0, 1) := by decide +kernel
theorem dX3_fade_58 : decode cX3_fade 58 = .ok (.invokestatic 105, 3) := by decide +kernel
theorem dX3_fade_61 : decode cX3_fade 61 = .ok (.invokestatic 67, 3) := by decide +kernel
theorem dX3_fade_64 : decode cX3_fade 64 = .ok (.iinc 3 1, 3) := by decide +kernel
theorem dX3_fade_67 : decode cX3_fade 67 = .ok (.goto (-51), 3) := by decide +kernel
theorem dX3_fade_70 : decode cX3_fade 70 = .ok (.return_, 1) := by decide +kernel
theorem dX3_turnPin_0 : decode cX3_turnPin 0 = .ok (.aload_n 0, 1) := by decide +kernel
theorem dX3_turnPin_1 : decode cX3_turnPin 1 = .ok (.iload_n 1, 1) := by decide +kernel
theorem dX3_turnPin_2 : decode cX3_turnPin 2 = .ok (.invokevirtual 78, 3) := by decide +kernel
theorem dX3_turnPin_5 : decode cX3_turnPin 5 = .ok (.istore_n 3, 1) := by decide +kernel
theorem dX3_turnPin_6 : decode cX3_turnPin 6 = .ok (.iload_n 3, 1) := by decide +kernel
theorem dX3_turnPin_7 : decode cX3_turnPin 7 = .ok (.iconst (-1), 1) := by decide +kernel
theorem dX3_turnPin_8 : decode cX3_turnPin 8 = .ok (.if_icmp .ne 5, 3) := by decide +kernel
theorem dX3_turnPin_11 : decode cX3_turnPin 11 = .ok (.iconst (-1), 1) := by decide +kernel
theorem dX3_turnPin_12 : decode cX3_turnPin 12 = .ok (.ireturn, 1) := by decide +kernel
theorem dX3_turnPin_13 : decode cX3_turnPin 13 = .ok (.iload_n 2, 1) := by decide +kernel
theorem dX3_turnPin_14 : decode cX3_turnPin 14 = .ok (.ifCond .eq 7, 3) := by decide +kernel
theorem dX3_turnPin_17 : decode cX3_turnPin 17 = .ok (.iconst 1, 1) := by decide +kernel
theorem dX3_turnPin_18 : decode cX3_turnPin 18 = .ok (.goto 4, 3) := by decide +kernel
theorem dX3_turnPin_21 : decode cX3_turnPin 21 = .ok (.iconst 0, 1) := by decide +kernel
theorem dX3_turnPin_22 : decode cX3_turnPin 22 = .ok (.istore 4, 2) := by decide +kernel
theorem dX3_turnPin_24 : decode cX3_turnPin 24 = .ok (.aload_n 0, 1) := by decide +kernel
theorem dX3_turnPin_25 : decode cX3_turnPin 25 = .ok (.getfield 30, 3) := by decide +kernel
theorem dX3_turnPin_28 : decode cX3_turnPin 28 = .ok (.iload_n 3, 1) := by decide +kernel
theorem dX3_turnPin_29 : decode cX3_turnPin 29 = .ok (.invokestatic 49, 3) := by decide +kernel
theorem dX3_turnPin_32 : decode cX3_turnPin 32 = .ok (.iload 4, 2) := by decide +kernel
theorem dX3_turnPin_34 : decode cX3_turnPin 34 = .ok (.if_icmp .ne 6, 3) := by decide +kernel
theorem dX3_turnPin_37 : decode cX3_turnPin 37 = .ok (.bipush (-5), 2) := by decide +kernel
theorem dX3_turnPin_39 : decode cX3_turnPin 39 = .ok (.ireturn, 1) := by decide +kernel
theorem dX3_turnPin_40 : decode cX3_turnPin 40 = .ok (.aload_n 0, 1) := by decide +kernel
theorem dX3_turnPin_41 : decode cX3_turnPin 41 = .ok (.getfield 30, 3) := by decide +kernel
theorem dX3_turnPin_44 : decode cX3_turnPin 44 = .ok (.iload_n 3, 1) := by decide +kernel
theorem dX3_turnPin_45 : decode cX3_turnPin 45 = .ok (.iload 4, 2) := by decide +kernel
theorem dX3_turnPin_47 : decode cX3_turnPin 47 = .ok (.invokestatic 67, 3) := by decide +kernel
theorem dX3_turnPin_50 : decode cX3_turnPin 50 = .ok (.aload_n 0, 1) := by decide +kernel
theorem dX3_turnPin_51 : decode cX3_turnPin 51 = .ok (.invokevirtual 108, 3) := by decide +kernel
theorem dX3_turnPin_54 : decode cX3_turnPin 54 = .ok (.ireturn, 1) := by decide +kernel
theorem dX3_changeSetting_0 : decode cX3_changeSetting 0 = .ok (.iload_n 1, 1) := by decide +kernel
theorem dX3_changeSetting_1 : decode cX3_changeSetting 1 = .ok (.ifCond .lt 9, 3) := by decide +kernel
theorem dX3_changeSetting_4 : decode cX3_changeSetting 4 = .ok (.iload_n 1, 1) := by decide +kernel
theorem dX3_changeSetting_5 : decode cX3_changeSetting 5 = .ok (.bipush 15, 2) := by decide +kernel
theorem dX3_changeSetting_7 : decode cX3_changeSetting 7 = .ok (.if_icmp .lt 5, 3) := by decide +kernel
theorem dX3_changeSetting_10 : decode cX3_changeSetting 10 = .ok (.iconst (-1), 1) := by decide +kernel
theorem dX3_changeSetting_11 : decode cX3_changeSetting 11 = .ok (.ireturn, 1) := by decide +kernel
theorem dX3_changeSetting_12 : decode cX3_changeSetting 12 = .ok (.iload_n 2, 1) := by decide +kernel
theorem dX3_changeSetting_13 : decode cX3_changeSetting 13 = .ok (.ifCond .lt 14, 3) := by decide +kernel
theorem dX3_changeSetting_16 : decode cX3_changeSetting 16 = .ok (.iload_n 2, 1) := by decide +kernel
theorem dX3_changeSetting_17 : decode cX3_changeSetting 17 = .ok (.getstatic 115, 3) := by decide +kernel
theorem dX3_changeSetting_20 : decode cX3_changeSetting 20 = .ok (.iload_n 1, 1) := by decide +kernel
theorem dX3_changeSetting_21 : decode cX3_changeSetting 21 = .ok (.invokestatic 49, 3) := by decide +kernel
theorem dX3_changeSetting_24 : decode cX3_changeSetting 24 = .ok (.if_icmp .le 6, 3) := by decide +kernel
theorem dX3_changeSetting_27 : decode cX3_changeSetting 27 = .ok (.bipush (-2), 2) := by decide +kernel
theorem dX3_changeSetting_29 : decode cX3_changeSetting 29 = .ok (.ireturn, 1) := by decide +kernel
theorem dX3_changeSetting_30 : decode cX3_changeSetting 30 = .ok (.aload_n 0, 1) := by decide +kernel
theorem dX3_changeSetting_31 : decode cX3_changeSetting 31 = .ok (.iload_n 1, 1) := by decide +kernel
theorem dX3_changeSetting_32 : decode cX3_changeSetting 32 = .ok (.iload_n 2, 1) := by decide +kernel
theorem dX3_changeSetting_33 : decode cX3_changeSetting 33 = .ok (.invokevirtual 118, 3) := by decide +kernel
theorem dX3_changeSetting_36 : decode cX3_changeSetting 36 = .ok (.ifCond .ne 6, 3) := by decide +kernel
theorem dX3_changeSetting_39 : decode cX3_changeSetting 39 = .ok (.bipush (-4), 2) := by decide +kernel
theorem dX3_changeSetting_41 : decode cX3_changeSetting 41 = .ok (.ireturn, 1) := by decide +kernel
theorem dX3_changeSetting_42 : decode cX3_changeSetting 42 = .ok (.aload_n 0, 1) := by decide +kernel
theorem dX3_changeSetting_43 : decode cX3_changeSetting 43 = .ok (.getfield 9, 3) := by decide +kernel
theorem dX3_changeSetting_46 : decode cX3_changeSetting 46 = .ok (.iload_n 1, 1) := by decide +kernel
theorem dX3_changeSetting_47 : decode cX3_changeSetting 47 = .ok (.invokestatic 49, 3) := by decide +kernel
theorem dX3_changeSetting_50 : decode cX3_changeSetting 50 = .ok (.istore_n 3, 1) := by decide +kernel
theorem dX3_changeSetting_51 : decode cX3_changeSetting 51 = .ok (.iload_n 3, 1) := by decide +kernel
theorem dX3_changeSetting_52 : decode cX3_changeSetting 52 = .ok (.iload_n 2, 1) := by decide +kernel
theorem dX3_changeSetting_53 : decode cX3_changeSetting 53 = .ok (.if_icmp .ne 6, 3) := by decide +kernel
theorem dX3_changeSetting_56 : decode cX3_changeSetting 56 = .ok (.bipush (-5), 2) := by decide +kernel
theorem dX3_changeSetting_58 : decode cX3_changeSetting 58 = .ok (.ireturn, 1) := by decide +kernel
theorem dX3_changeSetting_59 : decode cX3_changeSetting 59 = .ok (.aload_n 0, 1) := by decide +kernel
theorem dX3_changeSetting_60 : decode cX3_changeSetting 60 = .ok (.getfield 9, 3) := by decide +kernel
theorem dX3_changeSetting_63 : decode cX3_changeSetting 63 = .ok (.iload_n 1, 1) := by decide +kernel
theorem dX3_changeSetting_64 : decode cX3_changeSetting 64 = .ok (.iload_n 2, 1) := by decide +kernel
theorem dX3_changeSetting_65 : decode cX3_changeSetting 65 = .ok (.invokestatic 67, 3) := by decide +kernel
theorem dX3_changeSetting_68 : decode cX3_changeSetting 68 = .ok (.iload_n 3, 1) := by decide +kernel
theorem dX3_changeSetting_69 : decode cX3_changeSetting 69 = .ok (.ireturn, 1) := by decide +kernel
theorem dX3_allowsSetting_0 : decode cX3_allowsSetting 0 = .ok (.iload_n 1, 1) := by decide +kernel
theorem dX3_allowsSetting_1 : decode cX3_allowsSetting 1 = .ok (.iconst 1, 1) := by decide +kernel
theorem dX3_allowsSetting_2 : decode cX3_allowsSetting 2 = .ok (.if_icmp .ne 21, 3) := by decide +kernel
theorem dX3_allowsSetting_5 : decode cX3_allowsSetting 5 = .ok (.aload_n 0, 1) := by decide +kernel
theorem dX3_allowsSetting_6 : decode cX3_allowsSetting 6 = .ok (.getfield 9, 3) := by decide +kernel
theorem dX3_allowsSetting_9 : decode cX3_allowsSetting 9 = .ok (.iconst 2, 1) := by decide +kernel
theorem dX3_allowsSetting_10 : decode cX3_allowsSetting 10 = .ok (.invokestatic 49, 3) := by decide +kernel
theorem dX3_allowsSetting_13 : decode cX3_allowsSetting 13 = .ok (.iload_n 2, 1) := by decide +kernel
theorem dX3_allowsSetting_14 : decode cX3_allowsSetting 14 = .ok (.if_icmp .gt 7, 3) := by decide +kernel
theorem dX3_allowsSetting_17 : decode cX3_allowsSetting 17 = .ok (.iconst 1, 1) := by decide +kernel
theorem dX3_allowsSetting_18 : decode cX3_allowsSetting 18 = .ok (.goto 4, 3) := by decide +kernel
theorem dX3_allowsSetting_21 : decode cX3_allowsSetting 21 = .ok (.iconst 0, 1) := by decide +kernel
theorem dX3_allowsSetting_22 : decode cX3_allowsSetting 22 = .ok (.ireturn, 1) := by decide +kernel
theorem dX3_allowsSetting_23 : decode cX3_allowsSetting 23 = .ok (.iload_n 1, 1) := by decide +kernel
theorem dX3_allowsSetting_24 : decode cX3_allowsSetting 24 = .ok (.iconst 2, 1) := by decide +kernel
theorem dX3_allowsSetting_25 : decode cX3_allowsSetting 25 = .ok (.if_icmp .ne 21, 3) := by decide +kernel
theorem dX3_allowsSetting_28 : decode cX3_allowsSetting 28 = .ok (.iload_n 2, 1) := by decide +kernel
theorem dX3_allowsSetting_29 : decode cX3_allowsSetting 29 = .ok (.aload_n 0, 1) := by decide +kernel
theorem dX3_allowsSetting_30 : decode cX3_allowsSetting 30 = .ok (.getfield 9, 3) := by decide +kernel
theorem dX3_allowsSetting_33 : decode cX3_allowsSetting 33 = .ok (.iconst 1, 1) := by decide +kernel
theorem dX3_allowsSetting_34 : decode cX3_allowsSetting 34 = .ok (.invokestatic 49, 3) := by decide +kernel
theorem dX3_allowsSetting_37 : decode cX3_allowsSetting 37 = .ok (.if_icmp .gt 7, 3) := by decide +kernel
theorem dX3_allowsSetting_40 : decode cX3_allowsSetting 40 = .ok (.iconst 1, 1) := by decide +kernel
theorem dX3_allowsSetting_41 : decode cX3_allowsSetting 41 = .ok (.goto 4, 3) := by decide +kernel
theorem dX3_allowsSetting_44 : decode cX3_allowsSetting 44 = .ok (.iconst 0, 1) := by decide +kernel
theorem dX3_allowsSetting_45 : decode cX3_allowsSetting 45 = .ok (.ireturn, 1) := by decide +kernel
theorem dX3_allowsSetting_46 : decode cX3_allowsSetting 46 = .ok (.iload_n 1, 1) := by decide +kernel
theorem dX3_allowsSetting_47 : decode cX3_allowsSetting 47 = .ok (.bipush 6, 2) := by decide +kernel
theorem dX3_allowsSetting_49 : decode cX3_allowsSetting 49 = .ok (.if_icmp .lt 30, 3) := by decide +kernel
theorem dX3_allowsSetting_52 : decode cX3_allowsSetting 52 = .ok (.iload_n 1, 1) := by decide +kernel
theorem dX3_allowsSetting_53 : decode cX3_allowsSetting 53 = .ok (.bipush 9, 2) := by decide +kernel
theorem dX3_allowsSetting_55 : decode cX3_allowsSetting 55 = .ok (.if_icmp .ge 24, 3) := by decide +kernel
theorem dX3_allowsSetting_58 : decode cX3_allowsSetting 58 = .ok (.aload_n 0, 1) := by decide +kernel
theorem dX3_allowsSetting_59 : decode cX3_allowsSetting 59 = .ok (.getfield 15, 3) := by decide +kernel
theorem dX3_allowsSetting_62 : decode cX3_allowsSetting 62 = .ok (.iload_n 1, 1) := by decide +kernel
theorem dX3_allowsSetting_63 : decode cX3_allowsSetting 63 = .ok (.bipush 6, 2) := by decide +kernel
theorem dX3_allowsSetting_65 : decode cX3_allowsSetting 65 = .ok (.isub, 1) := by decide +kernel
theorem dX3_allowsSetting_66 : decode cX3_allowsSetting 66 = .ok (.invokestatic 49, 3) := by decide +kernel
theorem dX3_allowsSetting_69 : decode cX3_allowsSetting 69 = .ok (.iload_n 2, 1) := by decide +kernel
theorem dX3_allowsSetting_70 : decode cX3_allowsSetting 70 = .ok (.if_icmp .gt 7, 3) := by decide +kernel
theorem dX3_allowsSetting_73 : decode cX3_allowsSetting 73 = .ok (.iconst 1, 1) := by decide +kernel
theorem dX3_allowsSetting_74 : decode cX3_allowsSetting 74 = .ok (.goto 4, 3) := by decide +kernel
theorem dX3_allowsSetting_77 : decode cX3_allowsSetting 77 = .ok (.iconst 0, 1) := by decide +kernel
theorem dX3_allowsSetting_78 : decode cX3_allowsSetting 78 = .ok (.ireturn, 1) := by decide +kernel
theorem dX3_allowsSetting_79 : decode cX3_allowsSetting 79 = .ok (.iconst 1, 1) := by decide +kernel
theorem dX3_allowsSetting_80 : decode cX3_allowsSetting 80 = .ok (.ireturn, 1) := by decide +kernel
theorem dJ9_abs_0f7a4_0 : decode cJ9_abs_0f7a4 0 = .ok (.iload_n 0, 1) := by decide +kernel
theorem dJ9_abs_0f7a4_1 : decode cJ9_abs_0f7a4 1 = .ok (.ifCond .ge 8, 3) := by decide +kernel
theorem dJ9_abs_0f7a4_4 : decode cJ9_abs_0f7a4 4 = .ok (.iload_n 0, 1) := by decide +kernel
theorem dJ9_abs_0f7a4_5 : decode cJ9_abs_0f7a4 5 = .ok (.ineg, 1) := by decide +kernel
theorem dJ9_abs_0f7a4_6 : decode cJ9_abs_0f7a4 6 = .ok (.goto 4, 3) := by decide +kernel
theorem dJ9_abs_0f7a4_9 : decode cJ9_abs_0f7a4 9 = .ok (.iload_n 0, 1) := by decide +kernel
theorem dJ9_abs_0f7a4_10 : decode cJ9_abs_0f7a4 10 = .ok (.ireturn, 1) := by decide +kernel
theorem dJ9_max_7cf53_0 : decode cJ9_max_7cf53 0 = .ok (.iload_n 0, 1) := by decide +kernel
theorem dJ9_max_7cf53_1 : decode cJ9_max_7cf53 1 = .ok (.iload_n 1, 1) := by decide +kernel
theorem dJ9_max_7cf53_2 : decode cJ9_max_7cf53 2 = .ok (.if_icmp .lt 7, 3) := by decide +kernel
theorem dJ9_max_7cf53_5 : decode cJ9_max_7cf53 5 = .ok (.iload_n 0, 1) := by decide +kernel
theorem dJ9_max_7cf53_6 : decode cJ9_max_7cf53 6 = .ok (.goto 4, 3) := by decide +kernel
theorem dJ9_max_7cf53_9 : decode cJ9_max_7cf53 9 = .ok (.iload_n 1, 1) := by decide +kernel
theorem dJ9_max_7cf53_10 : decode cJ9_max_7cf53 10 = .ok (.ireturn, 1) := by decide +kernel
theorem dJ9_min_7cf53_0 : decode cJ9_min_7cf53 0 = .ok (.iload_n 0, 1) := by decide +kernel
theorem dJ9_min_7cf53_1 : decode cJ9_min_7cf53 1 = .ok (.iload_n 1, 1) := by decide +kernel
theorem dJ9_min_7cf53_2 : decode cJ9_min_7cf53 2 = .ok (.if_icmp .gt 7, 3) := by decide +kernel
theorem dJ9_min_7cf53_5 : decode cJ9_min_7cf53 5 = .ok (.iload_n 0, 1) := by decide +kernel
theorem dJ9_min_7cf53_6 : decode cJ9_min_7cf53 6 = .ok (.goto 4, 3) := by decide +kernel
theorem dJ9_min_7cf53_9 : decode cJ9_min_7cf53 9 = .ok (.iload_n 1, 1) := by decide +kernel
theorem dJ9_min_7cf53_10 : decode cJ9_min_7cf53 10 = .ok (.ireturn, 1) := by decide +kernel
end
section
theorem dX4_init_0 : decode cX4_init 0 = .ok (.aload_n 0, 1) := by decide +kernel
theorem dX4_init_1 : decode cX4_init 1 = .ok (.invokespecial 1, 3) := by decide +kernel
theorem dX4_init_4 : decode cX4_init 4 = .ok (.aload_n 0, 1) := by decide +kernel
theorem dX4_init_5 : decode cX4_init 5 = .ok (.new 7, 3) := by decide +kernel
theorem dX4_init_8 : decode cX4_init 8 = .ok (.dup, 1) := by decide +kernel
theorem dX4_init_9 : decode cX4_init 9 = .ok (.invokespecial 9, 3) := by decide +kernel
theorem dX4_init_12 : decode cX4_init 12 = .ok (.putfield 10, 3) := by decide +kernel
theorem dX4_init_15 : decode cX4_init 15 = .ok (.aload_n 0, 1) := by decide +kernel
theorem dX4_init_16 : decode cX4_init 16 = .ok (.new 7, 3) := by decide +kernel
theorem dX4_init_19 : decode cX4_init 19 = .ok (.dup, 1) := by decide +kernel
theorem dX4_init_20 : decode cX4_init 20 = .ok (.invokespecial 9, 3) := by decide +kernel
theorem dX4_init_23 : decode cX4_init 23 = .ok (.putfield 16, 3) := by decide +kernel
theorem dX4_init_26 : decode cX4_init 26 = .ok (.aload_n 0, 1) := by decide +kernel
theorem dX4_init_27 : decode cX4_init 27 = .ok (.new 7, 3) := by decide +kernel
theorem dX4_init_30 : decode cX4_init 30 = .ok (.dup, 1) := by decide +kernel
theorem dX4_init_31 : decode cX4_init 31 = .ok (.invokespecial 9, 3) := by decide +kernel
theorem dX4_init_34 : decode cX4_init 34 = .ok (.putfield 19, 3) := by decide +kernel
theorem dX4_init_37 : decode cX4_init 37 = .ok (.aload_n 0, 1) := by decide +kernel
theorem dX4_init_38 : decode cX4_init 38 = .ok (.iconst 0, 1) := by decide +kernel
theorem dX4_init_39 : decode cX4_init 39 = .ok (.putfield 22, 3) := by decide +kernel
theorem dX4_init_42 : decode cX4_init 42 = .ok (.aload_n 0, 1) := by decide +kernel
theorem dX4_init_43 : decode cX4_init 43 = .ok (.new 26, 3) := by decide +kernel
theorem dX4_init_46 : decode cX4_init 46 = .ok (.dup, 1) := by decide +kernel
theorem dX4_init_47 : decode cX4_init 47 = .ok (.invokespecial 28, 3) := by decide +kernel
theorem dX4_init_50 : decode cX4_init 50 = .ok (.putfield 29, 3) := by decide +kernel
theorem dX4_init_53 : decode cX4_init 53 = .ok (.aload_n 0, 1) := by decide +kernel
theorem dX4_init_54 : decode cX4_init 54 = .ok (.new 33, 3) := by decide +kernel
theorem dX4_init_57 : decode cX4_init 57 = .ok (.dup, 1) := by decide +kernel
theorem dX4_init_58 : decode cX4_init 58 = .ok (.invokespecial 35, 3) := by decide +kernel
theorem dX4_init_61 : decode cX4_init 61 = .ok (.putfield 36, 3) := by decide +kernel
theorem dX4_init_64 : decode cX4_init 64 = .ok (.aload_n 0, 1) := by decide +kernel
theorem dX4_init_65 : decode cX4_init 65 = .ok (.new 40, 3) := by decide +kernel
theorem dX4_init_68 : decode cX4_init 68 = .ok (.dup, 1) := by decide +kernel
theorem dX4_init_69 : decode cX4_init 69 = .ok (.invokespecial 42, 3) := by decide +kernel
theorem dX4_init_72 : decode cX4_init 72 = .ok (.putfield 43, 3) := by decide +kernel
theorem dX4_init_75 : decode cX4_init 75 = .ok (.return_, 1) := by decide +kernel
theorem dX4_add_0 : decode cX4_add 0 = .ok (.aload_n 0, 1) := by decide +kernel
theorem dX4_add_1 : decode cX4_add 1 = .ok (.getfield 16, 3) := by decide +kernel
theorem dX4_add_4 : decode cX4_add 4 = .ok (.aload_n 0, 1) := by decide +kernel
theorem dX4_add_5 : decode cX4_add 5 = .ok (.getfield 10, 3) := by decide +kernel
theorem dX4_add_8 : decode cX4_add 8 = .ok (.invokevirtual 47, 3) := by decide +kernel
theorem dX4_add_11 : decode cX4_add 11 = .ok (.aload_n 0, 1) := by decide +kernel
theorem dX4_add_12 : decode cX4_add 12 = .ok (.aload_n 0, 1) := by decide +kernel
theorem dX4_add_13 : decode cX4_add 13 = .ok (.getfield 16, 3) := by decide +kernel
theorem dX4_add_16 : decode cX4_add 16 = .ok (.iload_n 1, 1) := by decide +kernel
theorem dX4_add_17 : decode cX4_add 17 = .ok (.invokevirtual 51, 3) := by decide +kernel
theorem dX4_add_20 : decode cX4_add 20 = .ok (.invokevirtual 55, 3) := by decide +kernel
theorem dX4_add_23 : decode cX4_add 23 = .ok (.ireturn, 1) := by decide +kernel
theorem dX4_remove_0 : decode cX4_remove 0 = .ok (.aload_n 0, 1) := by decide +kernel
theorem dX4_remove_1 : decode cX4_remove 1 = .ok (.getfield 16, 3) := by decide +kernel
theorem dX4_remove_4 : decode cX4_remove 4 = .ok (.aload_n 0, 1) := by decide +kernel
theorem dX4_remove_5 : decode cX4_remove 5 = .ok (.getfield 10, 3) := by decide +kernel
theorem dX4_remove_8 : decode cX4_remove 8 = .ok (.invokevirtual 47, 3) := by decide +kernel
theorem dX4_remove_11 : decode cX4_remove 11 = .ok (.aload_n 0, 1) := by decide +kernel
theorem dX4_remove_12 : decode cX4_remove 12 = .ok (.aload_n 0, 1) := by decide +kernel
theorem dX4_remove_13 : decode cX4_remove 13 = .ok (.getfield 16, 3) := by decide +kernel
theorem dX4_remove_16 : decode cX4_remove 16 = .ok (.iload_n 1, 1) := by decide +kernel
theorem dX4_remove_17 : decode cX4_remove 17 = .ok (.invokevirtual 58, 3) := by decide +kernel
theorem dX4_remove_20 : decode cX4_remove 20 = .ok (.invokevirtual 55, 3) := by decide +kernel
theorem dX4_remove_23 : decode cX4_remove 23 = .ok (.ireturn, 1) := by decide +kernel
theorem dX4_read_0 : decode cX4_read 0 = .ok (.aload_n 0, 1) := by decide +kernel
theorem dX4_read_1 : decode cX4_read 1 = .ok (.getfield 16, 3) := by decide +kernel
theorem dX4_read_4 : decode cX4_read 4 = .ok (.aload_n 0, 1) := by decide +kernel
theorem dX4_read_5 : decode cX4_read 5 = .ok (.getfield 10, 3) := by decide +kernel
theorem dX4_read_8 : decode cX4_read 8 = .ok (.invokevirtual 47, 3) := by decide +kernel
theorem dX4_read_11 : decode cX4_read 11 = .ok (.aload_n 0, 1) := by decide +kernel
theorem dX4_read_12 : decode cX4_read 12 = .ok (.aload_n 0, 1) := by decide +kernel
theorem dX4_read_13 : decode cX4_read 13 = .ok (.getfield 16, 3) := by decide +kernel
theorem dX4_read_16 : decode cX4_read 16 = .ok (.iload_n 1, 1) := by decide +kernel
theorem dX4_read_17 : decode cX4_read 17 = .ok (.iload_n 2, 1) := by decide +kernel
theorem dX4_read_18 : decode cX4_read 18 = .ok (.invokevirtual 61, 3) := by decide +kernel
theorem dX4_read_21 : decode cX4_read 21 = .ok (.invokevirtual 55, 3) := by decide +kernel
theorem dX4_read_24 : decode cX4_read 24 = .ok (.ireturn, 1) := by decide +kernel
theorem dX4_pin_0 : decode cX4_pin 0 = .ok (.aload_n 0, 1) := by decide +kernel
theorem dX4_pin_1 : decode cX4_pin 1 = .ok (.getfield 16, 3) := by decide +kernel
theorem dX4_pin_4 : decode cX4_pin 4 = .ok (.aload_n 0, 1) := by decide +kernel
theorem dX4_pin_5 : decode cX4_pin 5 = .ok (.getfield 10, 3) := by decide +kernel
theorem dX4_pin_8 : decode cX4_pin 8 = .ok (.invokevirtual 47, 3) := by decide +kernel
theorem dX4_pin_11 : decode cX4_pin 11 = .ok (.aload_n 0, 1) := by decide +kernel
theorem dX4_pin_12 : decode cX4_pin 12 = .ok (.aload_n 0, 1) := by decide +kernel
theorem dX4_pin_13 : decode cX4_pin 13 = .ok (.getfield 16, 3) := by decide +kernel
theorem dX4_pin_16 : decode cX4_pin 16 = .ok (.iload_n 1, 1) := by decide +kernel
theorem dX4_pin_17 : decode cX4_pin 17 = .ok (.iload_n 2, 1) := by decide +kernel
theorem dX4_pin_18 : decode cX4_pin 18 = .ok (.invokevirtual 65, 3) := by decide +kernel
theorem dX4_pin_21 : decode cX4_pin 21 = .ok (.invokevirtual 55, 3) := by decide +kernel
theorem dX4_pin_24 : decode cX4_pin 24 = .ok (.ireturn, 1) := by decide +kernel
theorem dX4_pass_0 : decode cX4_pass 0 = .ok (.aload_n 0, 1) := by decide +kernel
theorem dX4_pass_1 : decode cX4_pass 1 = .ok (.getfield 16, 3) := by decide +kernel
theorem dX4_pass_4 : decode cX4_pass 4 = .ok (.aload_n 0, 1) := by decide +kernel
theorem dX4_pass_5 : decode cX4_pass 5 = .ok (.getfield 10, 3) := by decide +kernel
theorem dX4_pass_8 : decode cX4_pass 8 = .ok (.invokevirtual 47, 3) := by decide +kernel
theorem dX4_pass_11 : decode cX4_pass 11 = .ok (.aload_n 0, 1) := by decide +kernel
theorem dX4_pass_12 : decode cX4_pass 12 = .ok (.aload_n 0, 1) := by decide +kernel
theorem dX4_pass_13 : decode cX4_pass 13 = .ok (.iload_n 1, 1) := by decide +kernel
theorem dX4_pass_14 : decode cX4_pass 14 = .ok (.invokevirtual 69, 3) := by decide +kernel
theorem dX4_pass_17 : decode cX4_pass 17 = .ok (.invokevirtual 55, 3) := by decide +kernel
theorem dX4_pass_20 : decode cX4_pass 20 = .ok (.ireturn, 1) := by decide +kernel
theorem dX4_set_0 : decode cX4_set 0 = .ok (.aload_n 0, 1) := by decide +kernel
theorem dX4_set_1 : decode cX4_set 1 = .ok (.getfield 16, 3) := by decide +kernel
theorem dX4_set_4 : decode cX4_set 4 = .ok (.aload_n 0, 1) := by decide +kernel
theorem dX4_set_5 : decode cX4_set 5 = .ok (.getfield 10, 3) := by decide +kernel
theorem dX4_set_8 : decode cX4_set 8 = .ok (.invokevirtual 47, 3) := by decide +kernel
theorem dX4_set_11 : decode cX4_set 11 = .ok (.aload_n 0, 1) := by decide +kernel
theorem dX4_set_12 : decode cX4_set 12 = .ok (.aload_n 0, 1) := by decide +kernel
theorem dX4_set_13 : decode cX4_set 13 = .ok (.getfield 16, 3) := by decide +kernel
theorem dX4_set_16 : decode cX4_set 16 = .ok (.iload_n 1, 1) := by decide +kernel
theorem dX4_set_17 : decode cX4_set 17 = .ok (.iload_n 2, 1) := by decide +kernel
theorem dX4_set_18 : decode cX4_set 18 = .ok (.invokevirtual 72, 3) := by decide +kernel
theorem dX4_set_21 : decode cX4_set 21 = .ok (.invokevirtual 55, 3) := by decide +kernel
theorem dX4_set_24 : decode cX4_set 24 = .ok (.ireturn, 1) := by decide +kernel
theorem dX4_undo_0 : decode cX4_undo 0 = .ok (.aload_n 0, 1) := by decide +kernel
theorem dX4_undo_1 : decode cX4_undo 1 = .ok (.getfield 29, 3) := by decide +kernel
theorem dX4_undo_4 : decode cX4_undo 4 = .ok (.aload_n 0, 1) := by decide +kernel
theorem dX4_undo_5 : decode cX4_undo 5 = .ok (.getfield 10, 3) := by decide +kernel
theorem dX4_undo_8 : decode cX4_undo 8 = .ok (.invokevirtual 93, 3) := by decide +kernel
theorem dX4_undo_11 : decode cX4_undo 11 = .ok (.ifCond .ne 6, 3) := by decide +kernel
theorem dX4_undo_14 : decode cX4_undo 14 = .ok (.bipush (-5), 2) := by decide +kernel
theorem dX4_undo_16 : decode cX4_undo 16 = .ok (.ireturn, 1) := by decide +kernel
theorem dX4_undo_17 : decode cX4_undo 17 = .ok (.aload_n 0, 1) := by decide +kernel
theorem dX4_undo_18 : decode cX4_undo 18 = .ok (.getfield 29, 3) := by decide +kernel
theorem dX4_undo_21 : decode cX4_undo 21 = .ok (.getfield 97, 3) := by decide +kernel
theorem dX4_undo_24 : decode cX4_undo 24 = .ok (.ireturn, 1) := by decide +kernel
theorem dX4_restore_0 : decode cX4_restore 0 = .ok (.aload_n 0, 1) := by decide +kernel
theorem dX4_restore_1 : decode cX4_restore 1 = .ok (.getfield 22, 3) := by decide +kernel
theorem dX4_restore_4 : decode cX4_restore 4 = .ok (.ifCond .ne 6, 3) := by decide +kernel
theorem dX4_restore_7 : decode cX4_restore 7 = .ok (.bipush (-5), 2) := by decide +kernel
theorem dX4_restore_9 : decode cX4_restore 9 = .ok (.ireturn, 1) := by decide +kernel
theorem dX4_restore_10 : decode cX4_restore 10 = .ok (.aload_n 0, 1) := by decide +kernel
theorem dX4_restore_11 : decode cX4_restore 11 = .ok (.getfield 16, 3) := by decide +kernel
theorem dX4_restore_14 : decode cX4_restore 14 = .ok (.aload_n 0, 1) := by decide +kernel
theorem dX4_restore_15 : decode cX4_restore 15 = .ok (.getfield 19, 3) := by decide +kernel
theorem dX4_restore_18 : decode cX4_restore 18 = .ok (.invokevirtual 47, 3) := by decide +kernel
theorem dX4_restore_21 : decode cX4_restore 21 = .ok (.aload_n 0, 1) := by decide +kernel
theorem dX4_restore_22 : decode cX4_restore 22 = .ok (.aload_n 0, 1) := by decide +kernel
theorem dX4_restore_23 : decode cX4_restore 23 = .ok (.getfield 19, 3) := by decide +kernel
theorem dX4_restore_26 : decode cX4_restore 26 = .ok (.invokevirtual 98, 3) := by decide +kernel
theorem dX4_restore_29 : decode cX4_restore 29 = .ok (.invokevirtual 55, 3) := by decide +kernel
theorem dX4_restore_32 : decode cX4_restore 32 = .ok (.ireturn, 1) := by decide +kernel
theorem dX4_block_0 : decode cX4_block 0 = .ok (.iload_n 1, 1) := by decide +kernel
theorem dX4_block_1 : decode cX4_block 1 = .ok (.ifCond .ge 6, 3) := by decide +kernel
theorem dX4_block_4 : decode cX4_block 4 = .ok (.bipush (-2), 2) := by decide +kernel
theorem dX4_block_6 : decode cX4_block 6 = .ok (.ireturn, 1) := by decide +kernel
theorem dX4_block_7 : decode cX4_block 7 = .ok (.aload_n 0, 1) := by decide +kernel
theorem dX4_block_8 : decode cX4_block 8 = .ok (.getfield 10, 3) := by decide +kernel
theorem dX4_block_11 : decode cX4_block 11 = .ok (.iload_n 1, 1) := by decide +kernel
theorem dX4_block_12 : decode cX4_block 12 = .ok (.invokevirtual 101, 3) := by decide +kernel
theorem dX4_block_15 : decode cX4_block 15 = .ok (.istore_n 2, 1) := by decide +kernel
theorem dX4_block_16 : decode cX4_block 16 = .ok (.iload_n 2, 1) := by decide +kernel
theorem dX4_block_17 : decode cX4_block 17 = .ok (.iconst (-1), 1) := by decide +kernel
theorem dX4_block_18 : decode cX4_block 18 = .ok (.if_icmp .ne 8, 3) := by decide +kernel
theorem dX4_block_21 : decode cX4_block 21 = .ok (.bipush (-5), 2) := by decide +kernel
theorem dX4_block_23 : decode cX4_block 23 = .ok (.goto 14, 3) := by decide +kernel
theorem dX4_block_26 : decode cX4_block 26 = .ok (.aload_n 0, 1) := by decide +kernel
theorem dX4_block_27 : decode cX4_block 27 = .ok (.getfield 10, 3) := by decide +kernel
theorem dX4_block_30 : decode cX4_block 30 = .ok (.getfield 104, 3) := by decide +kernel
theorem dX4_block_33 : decode cX4_block 33 = .ok (.iload_n 2, 1) := by decide +kernel
theorem dX4_block_34 : decode cX4_block 34 = .ok (.invokestatic 108, 3) := by decide +kernel
theorem dX4_block_37 : decode cX4_block 37 = .ok (.ireturn, 1) := by decide +kernel
theorem dX4_ofBlock_0 : decode cX4_ofBlock 0 = .ok (.aload_n 0, 1) := by decide +kernel
theorem dX4_ofBlock_1 : decode cX4_ofBlock 1 = .ok (.getfield 10, 3) := by decide +kernel
theorem dX4_ofBlock_4 : decode cX4_ofBlock 4 = .ok (.iload_n 1, 1) := by decide +kernel
theorem dX4_ofBlock_5 : decode cX4_ofBlock 5 = .ok (.invokevirtual 112, 3) := by decide +kernel
theorem dX4_ofBlock_8 : decode cX4_ofBlock 8 = .ok (.istore_n 3, 1) := by decide +kernel
theorem dX4_ofBlock_9 : decode cX4_ofBlock 9 = .ok (.iload_n 3, 1) := by decide +kernel
theorem dX4_ofBlock_10 : decode cX4_ofBlock 10 = .ok (.iconst (-1), 1) := by decide +kernel
theorem dX4_ofBlock_11 : decode cX4_ofBlock 11 = .ok (.if_icmp .ne 5, 3) := by decide +kernel
theorem dX4_ofBlock_14 : decode cX4_ofBlock 14 = .ok (.iconst (-1), 1) := by decide +kernel
theorem dX4_ofBlock_15 : decode cX4_ofBlock 15 = .ok (.ireturn, 1) := by decide +kernel
theorem dX4_ofBlock_16 : decode cX4_ofBlock 16 = .ok (.iload_n 2, 1) := by decide +kernel
theorem dX4_ofBlock_17 : decode cX4_ofBlock 17 = .ok (.tableswitch 150 0 8 #[51, 63, 75, 87, 96, 108, 120, 132, 144], 51) := by decide +kernel
theorem dX4_ofBlock_68 : decode cX4_ofBlock 68 = .ok (.aload_n 0, 1) := by decide +kernel
theorem dX4_ofBlock_69 : decode cX4_ofBlock 69 = .ok (.getfield 10, 3) := by decide +kernel
theorem dX4_ofBlock_72 : decode cX4_ofBlock 72 = .ok (.getfield 115, 3) := by decide +kernel
theorem dX4_ofBlock_75 : decode cX4_ofBlock 75 = .ok (.iload_n 3, 1) := by decide +kernel
theorem dX4_ofBlock_76 : decode cX4_ofBlock 76 = .ok (.invokestatic 108, 3) := by decide +kernel
theorem dX4_ofBlock_79 : decode cX4_ofBlock 79 = .ok (.ireturn, 1) := by decide +kernel
theorem dX4_ofBlock_80 : decode cX4_ofBlock 80 = .ok (.aload_n 0, 1) := by decide +kernel
theorem dX4_ofBlock_81 : decode cX4_ofBlock 81 = .ok (.getfield 10, 3) := by decide +kernel
theorem dX4_ofBlock_84 : decode cX4_ofBlock 84 = .ok (.getfield 118, 3) := by decide +kernel
theorem dX4_ofBlock_87 : decode cX4_ofBlock 87 = .ok (.iload_n 3, 1) := by decide +kernel
theorem dX4_ofBlock_88 : decode cX4_ofBlock 88 = .ok (.invokestatic 108, 3) := by decide +kernel
theorem dX4_ofBlock_91 : decode cX4_ofBlock 91 = .ok (.ireturn, 1) := by decide +kernel
theorem dX4_ofBlock_92 : decode cX4_ofBlock 92 = .ok (.aload_n 0, 1) := by decide +kernel
theorem dX4_ofBlock_93 : decode cX4_ofBlock 93 = .ok (.getfield 10, 3) := by decide +kernel
theorem dX4_ofBlock_96 : decode cX4_ofBlock 96 = .ok (.getfield 121, 3) := by decide +kernel
theorem dX4_ofBlock_99 : decode cX4_ofBlock 99 = .ok (.iload_n 3, 1) := by decide +kernel
theorem dX4_ofBlock_100 : decode cX4_ofBlock 100 = .ok (.invokestatic 108, 3) := by decide +kernel
theorem dX4_ofBlock_103 : decode cX4_ofBlock 103 = .ok (.ireturn, 1) := by decide +kernel
theorem dX4_ofBlock_104 : decode cX4_ofBlock 104 = .ok (.aload_n 0, 1) := by decide +kernel
theorem dX4_ofBlock_105 : decode cX4_ofBlock 105 = .ok (.getfield 10, 3) := by decide +kernel
theorem dX4_ofBlock_108 : decode cX4_ofBlock 108 = .ok (.iload_n 3, 1) := by decide +kernel
theorem dX4_ofBlock_109 : decode cX4_ofBlock 109 = .ok (.invokevirtual 124, 3) := by decide +kernel
theorem dX4_ofBlock_112 : decode cX4_ofBlock 112 = .ok (.ireturn, 1) := by decide +kernel
theorem dX4_ofBlock_113 : decode cX4_ofBlock 113 = .ok (.aload_n 0, 1) := by decide +kernel
theorem dX4_ofBlock_114 : decode cX4_ofBlock 114 = .ok (.getfield 10, 3) := by decide +kernel
theorem dX4_ofBlock_117 : decode cX4_ofBlock 117 = .ok (.getfield 127, 3) := by decide +kernel
theorem dX4_ofBlock_120 : decode cX4_ofBlock 120 = .ok (.iload_n 3, 1) := by decide +kernel
theorem dX4_ofBlock_121 : decode cX4_ofBlock 121 = .ok (.invokestatic 108, 3) := by decide +kernel
theorem dX4_ofBlock_124 : decode cX4_ofBlock 124 = .ok (.ireturn, 1) := by decide +kernel
theorem dX4_ofBlock_125 : decode cX4_ofBlock 125 = .ok (.aload_n 0, 1) := by decide +kernel
theorem dX4_ofBlock_126 : decode cX4_ofBlock 126 = .ok (.getfield 10, 3) := by decide +kernel
theorem dX4_ofBlock_129 : decode cX4_ofBlock 129 = .ok (.getfield 130, 3) := by decide +kernel
theorem dX4_ofBlock_132 : decode cX4_ofBlock 132 = .ok (.iload_n 3, 1) := by decide +kernel
theorem dX4_ofBlock_133 : decode cX4_ofBlock 133 = .ok (.invokestatic 108, 3) := by decide +kernel
theorem dX4_ofBlock_136 : decode cX4_ofBlock 136 = .ok (.ireturn, 1) := by decide +kernel
theorem dX4_ofBlock_137 : decode cX4_ofBlock 137 = .ok (.aload_n 0, 1) := by decide +kernel
theorem dX4_ofBlock_138 : decode cX4_ofBlock 138 = .ok (.getfield 10, 3) := by decide +kernel
theorem dX4_ofBlock_141 : decode cX4_ofBlock 141 = .ok (.getfield 133, 3) := by decide +kernel
theorem dX4_ofBlock_144 : decode cX4_ofBlock 144 = .ok (.iload_n 3, 1) := by decide +kernel
theorem dX4_ofBlock_145 : decode cX4_ofBlock 145 = .ok (.invokestatic 108, 3) := by decide +kernel
theorem dX4_ofBlock_148 : decode cX4_ofBlock 148 = .ok (.ireturn, 1) := by decide +kernel
theorem dX4_ofBlock_149 : decode cX4_ofBlock 149 = .ok (.aload_n 0, 1) := by decide +kernel
theorem dX4_ofBlock_150 : decode cX4_ofBlock 150 = .ok (.getfield 10, 3) := by decide +kernel
theorem dX4_ofBlock_153 : decode cX4_ofBlock 153 = .ok (.getfield 136, 3) := by decide +kernel
theorem dX4_ofBlock_156 : decode cX4_ofBlock 156 = .ok (.iload_n 3, 1) := by decide +kernel
theorem dX4_ofBlock_157 : decode cX4_ofBlock 157 = .ok (.invokestatic 108, 3) := by decide +kernel
theorem dX4_ofBlock_160 : decode cX4_ofBlock 160 = .ok (.ireturn, 1) := by decide +kernel
theorem dX4_ofBlock_161 : decode cX4_ofBlock 161 = .ok (.aload_n 0, 1) := by decide +kernel
theorem dX4_ofBlock_162 : decode cX4_ofBlock 162 = .ok (.iload_n 3, 1) := by decide +kernel
theorem dX4_ofBlock_163 : decode cX4_ofBlock 163 = .ok (.invokevirtual 139, 3) := by decide +kernel
theorem dX4_ofBlock_166 : decode cX4_ofBlock 166 = .ok (.ireturn, 1) := by decide +kernel
theorem dX4_ofBlock_167 : decode cX4_ofBlock 167 = .ok (.bipush (-2), 2) := by decide +kernel
theorem dX4_ofBlock_169 : decode cX4_ofBlock 169 = .ok (.ireturn, 1) := by decide +kernel
theorem dX4_shelf_0 : decode cX4_shelf 0 = .ok (.iload_n 1, 1) := by decide +kernel
theorem dX4_shelf_1 : decode cX4_shelf 1 = .ok (.ifCond .lt 8, 3) := by decide +kernel
theorem dX4_shelf_4 : decode cX4_shelf 4 = .ok (.iload_n 1, 1) := by decide +kernel
theorem dX4_shelf_5 : decode cX4_shelf 5 = .ok (.iconst 3, 1) := by decide +kernel
theorem dX4_shelf_6 : decode cX4_shelf 6 = .ok (.if_icmp .lt 5, 3) := by decide +kernel
theorem dX4_shelf_9 : decode cX4_shelf 9 = .ok (.iconst (-1), 1) := by decide +kernel
theorem dX4_shelf_10 : decode cX4_shelf 10 = .ok (.ireturn, 1) := by decide +kernel
theorem dX4_shelf_11 : decode cX4_shelf 11 = .ok (.iload_n 2, 1) := by decide +kernel
theorem dX4_shelf_12 : decode cX4_shelf 12 = .ok (.tableswitch 90 0 4 #[36, 51, 63, 72, 81], 36) := by decide +kernel
theorem dX4_shelf_48 : decode cX4_shelf 48 = .ok (.aload_n 0, 1) := by decide +kernel
theorem dX4_shelf_49 : decode cX4_shelf 49 = .ok (.getfield 10, 3) := by decide +kernel
theorem dX4_shelf_52 : decode cX4_shelf 52 = .ok (.getfield 142, 3) := by decide +kernel
theorem dX4_shelf_55 : decode cX4_shelf 55 = .ok (.bipush 6, 2) := by decide +kernel
theorem dX4_shelf_57 : decode cX4_shelf 57 = .ok (.iload_n 1, 1) := by decide +kernel
theorem dX4_shelf_58 : decode cX4_shelf 58 = .ok (.iadd, 1) := by decide +kernel
theorem dX4_shelf_59 : decode cX4_shelf 59 = .ok (.invokestatic 108, 3) := by decide +kernel
theorem dX4_shelf_62 : decode cX4_shelf 62 = .ok (.ireturn, 1) := by decide +kernel
theorem dX4_shelf_63 : decode cX4_shelf 63 = .ok (.aload_n 0, 1) := by decide +kernel
theorem dX4_shelf_64 : decode cX4_shelf 64 = .ok (.getfield 10, 3) := by decide +kernel
theorem dX4_shelf_67 : decode cX4_shelf 67 = .ok (.getfield 145, 3) := by decide +kernel
theorem dX4_shelf_70 : decode cX4_shelf 70 = .ok (.iload_n 1, 1) := by decide +kernel
theorem dX4_shelf_71 : decode cX4_shelf 71 = .ok (.invokestatic 108, 3) := by decide +kernel
theorem dX4_shelf_74 : decode cX4_shelf 74 = .ok (.ireturn, 1) := by decide +kernel
theorem dX4_shelf_75 : decode cX4_shelf 75 = .ok (.aload_n 0, 1) := by decide +kernel
theorem dX4_shelf_76 : decode cX4_shelf 76 = .ok (.getfield 10, 3) := by decide +kernel
theorem dX4_shelf_79 : decode cX4_shelf 79 = .ok (.iload_n 1, 1) := by decide +kernel
theorem dX4_shelf_80 : decode cX4_shelf 80 = .ok (.invokevirtual 148, 3) := by decide +kernel
theorem dX4_shelf_83 : decode cX4_shelf 83 = .ok (.ireturn, 1) := by decide +kernel
theorem dX4_shelf_84 : decode cX4_shelf 84 = .ok (.aload_n 0, 1) := by decide +kernel
theorem dX4_shelf_85 : decode cX4_shelf 85 = .ok (.getfield 10, 3) := by decide +kernel
theorem dX4_shelf_88 : decode cX4_shelf 88 = .ok (.iload_n 1, 1) := by decide +kernel
theorem dX4_shelf_89 : decode cX4_shelf 89 = .ok (.invokevirtual 151, 3) := by decide +kernel
theorem dX4_shelf_92 : decode cX4_shelf 92 = .ok (.ireturn, 1) := by decide +kernel
theorem dX4_shelf_93 : decode cX4_shelf 93 = .ok (.aload_n 0, 1) := by decide +kernel
theorem dX4_shelf_94 : decode cX4_shelf 94 = .ok (.getfield 10, 3) := by decide +kernel
theorem dX4_shelf_97 : decode cX4_shelf 97 = .ok (.iload_n 1, 1) := by decide +kernel
theorem dX4_shelf_98 : decode cX4_shelf 98 = .ok (.invokevirtual 154, 3) := by decide +kernel
theorem dX4_shelf_101 : decode cX4_shelf 101 = .ok (.ireturn, 1) := by decide +kernel
theorem dX4_shelf_102 : decode cX4_shelf 102 = .ok (.bipush (-2), 2) := by decide +kernel
theorem dX4_shelf_104 : decode cX4_shelf 104 = .ok (.ireturn, 1) := by decide +kernel
theorem dX4_total_0 : decode cX4_total 0 = .ok (.iload_n 1, 1) := by decide +kernel
theorem dX4_total_1 : decode cX4_total 1 = .ok (.ifCond .lt 21, 3) := by decide +kernel
theorem dX4_total_4 : decode cX4_total 4 = .ok (.iload_n 1, 1) := by decide +kernel
theorem dX4_total_5 : decode cX4_total 5 = .ok (.bipush 23, 2) := by decide +kernel
theorem dX4_total_7 : decode cX4_total 7 = .ok (.if_icmp .ge 15, 3) := by decide +kernel
theorem dX4_total_10 : decode cX4_total 10 = .ok (.aload_n 0, 1) := by decide +kernel
theorem dX4_total_11 : decode cX4_total 11 = .ok (.getfield 10, 3) := by decide +kernel
theorem dX4_total_14 : decode cX4_total 14 = .ok (.getfield 142, 3) := by decide +kernel
theorem dX4_total_17 : decode cX4_total 17 = .ok (.iload_n 1, 1) := by decide +kernel
theorem dX4_total_18 : decode cX4_total 18 = .ok (.invokestatic 108, 3) := by decide +kernel
theorem dX4_total_21 : decode cX4_total 21 = .ok (.ireturn, 1) := by decide +kernel
theorem dX4_total_22 : decode cX4_total 22 = .ok (.iload_n 1, 1) := by decide +kernel
theorem dX4_total_23 : decode cX4_total 23 = .ok (.tableswitch 61 23 26 #[29, 37, 45, 53], 29) := by decide +kernel
theorem dX4_total_52 : decode cX4_total 52 = .ok (.aload_n 0, 1) := by decide +kernel
theorem dX4_total_53 : decode cX4_total 53 = .ok (.getfield 10, 3) := by decide +kernel
theorem dX4_total_56 : decode cX4_total 56 = .ok (.invokevirtual 157, 3) := by decide +kernel
theorem dX4_total_59 : decode cX4_total 59 = .ok (.ireturn, 1) := by decide +kernel
theorem dX4_total_60 : decode cX4_total 60 = .ok (.aload_n 0, 1) := by decide +kernel
theorem dX4_total_61 : decode cX4_total 61 = .ok (.getfield 10, 3) := by decide +kernel
theorem dX4_total_64 : decode cX4_total 64 = .ok (.invokevirtual 160, 3) := by decide +kernel
theorem dX4_total_67 : decode cX4_total 67 = .ok (.ireturn, 1) := by decide +kernel
theorem dX4_total_68 : decode cX4_total 68 = .ok (.aload_n 0, 1) := by decide +kernel
theorem dX4_total_69 : decode cX4_total 69 = .ok (.getfield 29, 3) := by decide +kernel
theorem dX4_total_72 : decode cX4_total 72 = .ok (.getfield 97, 3) := by decide +kernel
theorem dX4_total_75 : decode cX4_total 75 = .ok (.ireturn, 1) := by decide +kernel
theorem dX4_total_76 : decode cX4_total 76 = .ok (.aload_n 0, 1) := by decide +kernel
theorem dX4_total_77 : decode cX4_total 77 = .ok (.getfield 43, 3) := by decide +kernel
theorem dX4_total_80 : decode cX4_total 80 = .ok (.getfield 163, 3) := by decide +kernel
theorem dX4_total_83 : decode cX4_total 83 = .ok (.ireturn, 1) := by decide +kernel
theorem dX4_total_84 : decode cX4_total 84 = .ok (.bipush (-2), 2) := by decide +kernel
theorem dX4_total_86 : decode cX4_total 86 = .ok (.ireturn, 1) := by decide +kernel
theorem dX4_ifPassed_0 : decode cX4_ifPassed 0 = .ok (.iload_n 1, 1) := by decide +kernel
theorem dX4_ifPassed_1 : decode cX4_ifPassed 1 = .ok (.iconst 1, 1) := by decide +kernel
theorem dX4_ifPassed_2 : decode cX4_ifPassed 2 = .ok (.if_icmp .lt 18, 3) := by decide +kernel
theorem dX4_ifPassed_5 : decode cX4_ifPassed 5 = .ok (.iload_n 1, 1) := by decide +kernel
theorem dX4_ifPassed_6 : decode cX4_ifPassed 6 = .ok (.bipush 99, 2) := by decide +kernel
theorem dX4_ifPassed_8 : decode cX4_ifPassed 8 = .ok (.if_icmp .gt 12, 3) := by decide +kernel
theorem dX4_ifPassed_11 : decode cX4_ifPassed 11 = .ok (.iload_n 2, 1) := by decide +kernel
theorem dX4_ifPassed_12 : decode cX4_ifPassed 12 = .ok (.ifCond .lt 8, 3) := by decide +kernel
theorem dX4_ifPassed_15 : decode cX4_ifPassed 15 = .ok (.iload_n 2, 1) := by decide +kernel
theorem dX4_ifPassed_16 : decode cX4_ifPassed 16 = .ok (.iconst 5, 1) := by decide +kernel
theorem dX4_ifPassed_17 : decode cX4_ifPassed 17 = .ok (.if_icmp .le 6, 3) := by decide +kernel
theorem dX4_ifPassed_20 : decode cX4_ifPassed 20 = .ok (.bipush (-2), 2) := by decide +kernel
theorem dX4_ifPassed_22 : decode cX4_ifPassed 22 = .ok (.ireturn, 1) := by decide +kernel
theorem dX4_ifPassed_23 : decode cX4_ifPassed 23 = .ok (.aload_n 0, 1) := by decide +kernel
theorem dX4_ifPassed_24 : decode cX4_ifPassed 24 = .ok (.getfield 16, 3) := by decide +kernel
theorem dX4_ifPassed_27 : decode cX4_ifPassed 27 = .ok (.aload_n 0, 1) := by decide +kernel
theorem dX4_ifPassed_28 : decode cX4_ifPassed 28 = .ok (.getfield 10, 3) := by decide +kernel
theorem dX4_ifPassed_31 : decode cX4_ifPassed 31 = .ok (.invokevirtual 47, 3) := by decide +kernel
theorem dX4_ifPassed_34 : decode cX4_ifPassed 34 = .ok (.aload_n 0, 1) := by decide +kernel
theorem dX4_ifPassed_35 : decode cX4_ifPassed 35 = .ok (.getfield 36, 3) := by decide +kernel
theorem dX4_ifPassed_38 : decode cX4_ifPassed 38 = .ok (.aload_n 0, 1) := by decide +kernel
theorem dX4_ifPassed_39 : decode cX4_ifPassed 39 = .ok (.getfield 16, 3) := by decide +kernel
theorem dX4_ifPassed_42 : decode cX4_ifPassed 42 = .ok (.iload_n 1, 1) := by decide +kernel
theorem dX4_ifPassed_43 : decode cX4_ifPassed 43 = .ok (.invokevirtual 166, 3) := by decide +kernel
theorem dX4_ifPassed_46 : decode cX4_ifPassed 46 = .ok (.istore_n 3, 1) := by decide +kernel
theorem dX4_ifPassed_47 : decode cX4_ifPassed 47 = .ok (.iload_n 2, 1) := by decide +kernel
theorem dX4_ifPassed_48 : decode cX4_ifPassed 48 = .ok (.tableswitch 43 0 2 #[28, 33, 35], 28) := by decide +kernel
theorem dX4_ifPassed_76 : decode cX4_ifPassed 76 = .ok (.aload_n 0, 1) := by decide +kernel
theorem dX4_ifPassed_77 : decode cX4_ifPassed 77 = .ok (.invokevirtual 170, 3) := by decide +kernel
theorem dX4_ifPassed_80 : decode cX4_ifPassed 80 = .ok (.ireturn, 1) := by decide +kernel
theorem dX4_ifPassed_81 : decode cX4_ifPassed 81 = .ok (.iload_n 3, 1) := by decide +kernel
theorem dX4_ifPassed_82 : decode cX4_ifPassed 82 = .ok (.ireturn, 1) := by decide +kernel
theorem dX4_ifPassed_83 : decode cX4_ifPassed 83 = .ok (.aload_n 0, 1) := by decide +kernel
theorem dX4_ifPassed_84 : decode cX4_ifPassed 84 = .ok (.getfield 16, 3) := by decide +kernel
theorem dX4_ifPassed_87 : decode cX4_ifPassed 87 = .ok (.invokevirtual 160, 3) := by decide +kernel
theorem dX4_ifPassed_90 : decode cX4_ifPassed 90 = .ok (.ireturn, 1) := by decide +kernel
theorem dX4_ifPassed_91 : decode cX4_ifPassed 91 = .ok (.aload_n 0, 1) := by decide +kernel
theorem dX4_ifPassed_92 : decode cX4_ifPassed 92 = .ok (.getfield 16, 3) := by decide +kernel
theorem dX4_ifPassed_95 : decode cX4_ifPassed 95 = .ok (.getfield 145, 3) := by decide +kernel
theorem dX4_ifPassed_98 : decode cX4_ifPassed 98 = .ok (.iload_n 2, 1) := by decide +kernel
theorem dX4_ifPassed_99 : decode cX4_ifPassed 99 = .ok (.iconst 3, 1) := by decide +kernel
theorem dX4_ifPassed_100 : decode cX4_ifPassed 100 = .ok (.isub, 1) := by decide +kernel
theorem dX4_ifPassed_101 : decode cX4_ifPassed 101 = .ok (.invokestatic 108, 3) := by decide +kernel
theorem dX4_ifPassed_104 : decode cX4_ifPassed 104 = .ok (.ireturn, 1) := by decide +kernel
theorem dX4_nextMove_0 : decode cX4_nextMove 0 = .ok (.aload_n 0, 1) := by decide +kernel
theorem dX4_nextMove_1 : decode cX4_nextMove 1 = .ok (.getfield 16, 3) := by decide +kernel
theorem dX4_nextMove_4 : decode cX4_nextMove 4 = .ok (.aload_n 0, 1) := by decide +kernel
theorem dX4_nextMove_5 : decode cX4_nextMove 5 = .ok (.getfield 10, 3) := by decide +kernel
theorem dX4_nextMove_8 : decode cX4_nextMove 8 = .ok (.invokevirtual 47, 3) := by decide +kernel
theorem dX4_nextMove_11 : decode cX4_nextMove 11 = .ok (.iconst 1, 1) := by decide +kernel
theorem dX4_nextMove_12 : decode cX4_nextMove 12 = .ok (.istore_n 1, 1) := by decide +kernel
theorem dX4_nextMove_13 : decode cX4_nextMove 13 = .ok (.iload_n 1, 1) := by decide +kernel
theorem dX4_nextMove_14 : decode cX4_nextMove 14 = .ok (.bipush 99, 2) := by decide +kernel
theorem dX4_nextMove_16 : decode cX4_nextMove 16 = .ok (.if_icmp .gt 26, 3) := by decide +kernel
theorem dX4_nextMove_19 : decode cX4_nextMove 19 = .ok (.aload_n 0, 1) := by decide +kernel
theorem dX4_nextMove_20 : decode cX4_nextMove 20 = .ok (.getfield 36, 3) := by decide +kernel
theorem dX4_nextMove_23 : decode cX4_nextMove 23 = .ok (.aload_n 0, 1) := by decide +kernel
theorem dX4_nextMove_24 : decode cX4_nextMove 24 = .ok (.getfield 16, 3) := by decide +kernel
theorem dX4_nextMove_27 : decode cX4_nextMove 27 = .ok (.iconst 1, 1) := by decide +kernel
theorem dX4_nextMove_28 : decode cX4_nextMove 28 = .ok (.invokevirtual 166, 3) := by decide +kernel
theorem dX4_nextMove_31 : decode cX4_nextMove 31 = .ok (.ifCond .le 5, 3) := by decide +kernel
theorem dX4_nextMove_34 : decode cX4_nextMove 34 = .ok (.iload_n 1, 1) := by decide +kernel
theorem dX4_nextMove_35 : decode cX4_nextMove 35 = .ok (.ireturn, 1) := by decide +kernel
theorem dX4_nextMove_36 : decode cX4_nextMove 36 = .ok (.iinc 1 1, 3) := by decide +kernel
theorem dX4_nextMove_39 : decode cX4_nextMove 39 = .ok (.goto (-26), 3) := by decide +kernel
theorem dX4_nextMove_42 : decode cX4_nextMove 42 = .ok (.bipush (-5), 2) := by decide +kernel
theorem dX4_nextMove_44 : decode cX4_nextMove 44 = .ok (.ireturn, 1) := by decide +kernel
theorem dX4_bestHot_0 : decode cX4_bestHot 0 = .ok (.iload_n 1, 1) := by decide +kernel
theorem dX4_bestHot_1 : decode cX4_bestHot 1 = .ok (.iconst 1, 1) := by decide +kernel
theorem dX4_bestHot_2 : decode cX4_bestHot 2 = .ok (.if_icmp .lt 18, 3) := by decide +kernel
theorem dX4_bestHot_5 : decode cX4_bestHot 5 = .ok (.iload_n 1, 1) := by decide +kernel
theorem dX4_bestHot_6 : decode cX4_bestHot 6 = .ok (.bipush 20, 2) := by decide +kernel
theorem dX4_bestHot_8 : decode cX4_bestHot 8 = .ok (.if_icmp .gt 12, 3) := by decide +kernel
theorem dX4_bestHot_11 : decode cX4_bestHot 11 = .ok (.iload_n 2, 1) := by decide +kernel
theorem dX4_bestHot_12 : decode cX4_bestHot 12 = .ok (.ifCond .lt 8, 3) := by decide +kernel
theorem dX4_bestHot_15 : decode cX4_bestHot 15 = .ok (.iload_n 2, 1) := by decide +kernel
theorem dX4_bestHot_16 : decode cX4_bestHot 16 = .ok (.iconst 1, 1) := by decide +kernel
theorem dX4_bestHot_17 : decode cX4_bestHot 17 = .ok (.if_icmp .le 6, 3) := by decide +kernel
theorem dX4_bestHot_20 : decode cX4_bestHot 20 = .ok (.bipush (-2), 2) := by decide +kernel
theorem dX4_bestHot_22 : decode cX4_bestHot 22 = .ok (.ireturn, 1) := by decide +kernel
theorem dX4_bestHot_23 : decode cX4_bestHot 23 = .ok (.aload_n 0, 1) := by decide +kernel
theorem dX4_bestHot_24 : decode cX4_bestHot 24 = .ok (.getfield 10, 3) := by decide +kernel
theorem dX4_bestHot_27 : decode cX4_bestHot 27 = .ok (.getfield 142, 3) := by decide +kernel
theorem dX4_bestHot_30 : decode cX4_bestHot 30 = .ok (.iconst 2, 1) := by decide +kernel
theorem dX4_bestHot_31 : decode cX4_bestHot 31 = .ok (.invokestatic 108, 3) := by decide +kernel
theorem dX4_bestHot_34 : decode cX4_bestHot 34 = .ok (.istore_n 3, 1) := by decide +kernel
theorem dX4_bestHot_35 : decode cX4_bestHot 35 = .ok (.getstatic 173, 3) := by decide +kernel
theorem dX4_bestHot_38 : decode cX4_bestHot 38 = .ok (.iconst 1, 1) := by decide +kernel
theorem dX4_bestHot_39 : decode cX4_bestHot 39 = .ok (.invokestatic 108, 3) := by decide +kernel
theorem dX4_bestHot_42 : decode cX4_bestHot 42 = .ok (.istore 4, 2) := by decide +kernel
theorem dX4_bestHot_44 : decode cX4_bestHot 44 = .ok (.iconst (-1), 1) := by decide +kernel
theorem dX4_bestHot_45 : decode cX4_bestHot 45 = .ok (.istore 5, 2) := by decide +kernel
theorem dX4_bestHot_47 : decode cX4_bestHot 47 = .ok (.iconst 0, 1) := by decide +kernel
theorem dX4_bestHot_48 : decode cX4_bestHot 48 = .ok (.istore 6, 2) := by decide +kernel
theorem dX4_bestHot_50 : decode cX4_bestHot 50 = .ok (.iconst 0, 1) := by decide +kernel
theorem dX4_bestHot_51 : decode cX4_bestHot 51 = .ok (.istore 7, 2) := by decide +kernel
theorem dX4_bestHot_53 : decode cX4_bestHot 53 = .ok (.iload 7, 2) := by decide +kernel
theorem dX4_bestHot_55 : decode cX4_bestHot 55 = .ok (.iload 4, 2) := by decide +kernel
theorem dX4_bestHot_57 : decode cX4_bestHot 57 = .ok (.if_icmp .gt 48, 3) := by decide +kernel
theorem dX4_bestHot_60 : decode cX4_bestHot 60 = .ok (.iload 7, 2) := by decide +kernel
theorem dX4_bestHot_62 : decode cX4_bestHot 62 = .ok (.iload_n 3, 1) := by decide +kernel
theorem dX4_bestHot_63 : decode cX4_bestHot 63 = .ok (.if_icmp .lt 33, 3) := by decide +kernel
theorem dX4_bestHot_66 : decode cX4_bestHot 66 = .ok (.aload_n 0, 1) := by decide +kernel
theorem dX4_bestHot_67 : decode cX4_bestHot 67 = .ok (.iload 7, 2) := by decide +kernel
theorem dX4_bestHot_69 : decode cX4_bestHot 69 = .ok (.iload_n 1, 1) := by decide +kernel
theorem dX4_bestHot_70 : decode cX4_bestHot 70 = .ok (.invokevirtual 176, 3) := by decide +kernel
theorem dX4_bestHot_73 : decode cX4_bestHot 73 = .ok (.istore 8, 2) := by decide +kernel
theorem dX4_bestHot_75 : decode cX4_bestHot 75 = .ok (.iload 5, 2) := by decide +kernel
theorem dX4_bestHot_77 : decode cX4_bestHot 77 = .ok (.iconst (-1), 1) := by decide +kernel
theorem dX4_bestHot_78 : decode cX4_bestHot 78 = .ok (.if_icmp .eq 10, 3) := by decide +kernel
theorem dX4_bestHot_81 : decode cX4_bestHot 81 = .ok (.iload 8, 2) := by decide +kernel
theorem dX4_bestHot_83 : decode cX4_bestHot 83 = .ok (.iload 6, 2) := by decide +kernel
theorem dX4_bestHot_85 : decode cX4_bestHot 85 = .ok (.if_icmp .ge 11, 3) := by decide +kernel
theorem dX4_bestHot_88 : decode cX4_bestHot 88 = .ok (.iload 7, 2) := by decide +kernel
theorem dX4_bestHot_90 : decode cX4_bestHot 90 = .ok (.istore 5, 2) := by decide +kernel
theorem dX4_bestHot_92 : decode cX4_bestHot 92 = .ok (.iload 8, 2) := by decide +kernel
theorem dX4_bestHot_94 : decode cX4_bestHot 94 = .ok (.istore 6, 2) := by decide +kernel
theorem dX4_bestHot_96 : decode cX4_bestHot 96 = .ok (.iinc 7 500, 6) := by decide +kernel
theorem dX4_bestHot_102 : decode cX4_bestHot 102 = .ok (.goto (-49), 3) := by decide +kernel
theorem dX4_bestHot_105 : decode cX4_bestHot 105 = .ok (.iload_n 2, 1) := by decide +kernel
theorem dX4_bestHot_106 : decode cX4_bestHot 106 = .ok (.ifCond .ne 8, 3) := by decide +kernel
theorem dX4_bestHot_109 : decode cX4_bestHot 109 = .ok (.iload 5, 2) := by decide +kernel
theorem dX4_bestHot_111 : decode cX4_bestHot 111 = .ok (.goto 5, 3) := by decide +kernel
theorem dX4_bestHot_114 : decode cX4_bestHot 114 = .ok (.iload 6, 2) := by decide +kernel
theorem dX4_bestHot_116 : decode cX4_bestHot 116 = .ok (.ireturn, 1) := by decide +kernel
theorem dX4_settle_0 : decode cX4_settle 0 = .ok (.iload_n 1, 1) := by decide +kernel
theorem dX4_settle_1 : decode cX4_settle 1 = .ok (.ifCond .lt 25, 3) := by decide +kernel
theorem dX4_settle_4 : decode cX4_settle 4 = .ok (.aload_n 0, 1) := by decide +kernel
theorem dX4_settle_5 : decode cX4_settle 5 = .ok (.getfield 29, 3) := by decide +kernel
theorem dX4_settle_8 : decode cX4_settle 8 = .ok (.aload_n 0, 1) := by decide +kernel
theorem dX4_settle_9 : decode cX4_settle 9 = .ok (.getfield 10, 3) := by decide +kernel
theorem dX4_settle_12 : decode cX4_settle 12 = .ok (.invokevirtual 183, 3) := by decide +kernel
theorem dX4_settle_15 : decode cX4_settle 15 = .ok (.aload_n 0, 1) := by decide +kernel
theorem dX4_settle_16 : decode cX4_settle 16 = .ok (.getfield 10, 3) := by decide +kernel
theorem dX4_settle_19 : decode cX4_settle 19 = .ok (.aload_n 0, 1) := by decide +kernel
theorem dX4_settle_20 : decode cX4_settle 20 = .ok (.getfield 16, 3) := by decide +kernel
theorem dX4_settle_23 : decode cX4_settle 23 = .ok (.invokevirtual 47, 3) := by decide +kernel
theorem dX4_settle_26 : decode cX4_settle 26 = .ok (.iload_n 1, 1) := by decide +kernel
theorem dX4_settle_27 : decode cX4_settle 27 = .ok (.ireturn, 1) := by decide +kernel
theorem dX4_passInWork_0 : decode cX4_passInWork 0 = .ok (.iload_n 1, 1) := by decide +kernel
theorem dX4_passInWork_1 : decode cX4_passInWork 1 = .ok (.iconst 1, 1) := by decide +kernel
theorem dX4_passInWork_2 : decode cX4_passInWork 2 = .ok (.if_icmp .lt 9, 3) := by decide +kernel
theorem dX4_passInWork_5 : decode cX4_passInWork 5 = .ok (.iload_n 1, 1) := by decide +kernel
theorem dX4_passInWork_6 : decode cX4_passInWork 6 = .ok (.bipush 99, 2) := by decide +kernel
theorem dX4_passInWork_8 : decode cX4_passInWork 8 = .ok (.if_icmp .le 6, 3) := by decide +kernel
theorem dX4_passInWork_11 : decode cX4_passInWork 11 = .ok (.bipush (-2), 2) := by decide +kernel
theorem dX4_passInWork_13 : decode cX4_passInWork 13 = .ok (.ireturn, 1) := by decide +kernel
theorem dX4_passInWork_14 : decode cX4_passInWork 14 = .ok (.aload_n 0, 1) := by decide +kernel
theorem dX4_passInWork_15 : decode cX4_passInWork 15 = .ok (.getfield 16, 3) := by decide +kernel
theorem dX4_passInWork_18 : decode cX4_passInWork 18 = .ok (.getfield 142, 3) := by decide +kernel
theorem dX4_passInWork_21 : decode cX4_passInWork 21 = .ok (.bipush 17, 2) := by decide +kernel
theorem dX4_passInWork_23 : decode cX4_passInWork 23 = .ok (.invokestatic 108, 3) := by decide +kernel
theorem dX4_passInWork_26 : decode cX4_passInWork 26 = .ok (.iload_n 1, 1) := by decide +kernel
theorem dX4_passInWork_27 : decode cX4_passInWork 27 = .ok (.iadd, 1) := by decide +kernel
theorem dX4_passInWork_28 : decode cX4_passInWork 28 = .ok (.sipush 5000, 3) := by decide +kernel
theorem dX4_passInWork_31 : decode cX4_passInWork 31 = .ok (.if_icmp .le 6, 3) := by decide +kernel
theorem dX4_passInWork_34 : decode cX4_passInWork 34 = .ok (.bipush (-3), 2) := by decide +kernel
theorem dX4_passInWork_36 : decode cX4_passInWork 36 = .ok (.ireturn, 1) := by decide +kernel
theorem dX4_passInWork_37 : decode cX4_passInWork 37 = .ok (.aload_n 0, 1) := by decide +kernel
theorem dX4_passInWork_38 : decode cX4_passInWork 38 = .ok (.getfield 36, 3) := by decide +kernel
theorem dX4_passInWork_41 : decode cX4_passInWork 41 = .ok (.aload_n 0, 1) := by decide +kernel
theorem dX4_passInWork_42 : decode cX4_passInWork 42 = .ok (.getfield 16, 3) := by decide +kernel
theorem dX4_passInWork_45 : decode cX4_passInWork 45 = .ok (.iload_n 1, 1) := by decide +kernel
theorem dX4_passInWork_46 : decode cX4_passInWork 46 = .ok (.invokevirtual 166, 3) := by decide +kernel
theorem dX4_passInWork_49 : decode cX4_passInWork 49 = .ok (.ireturn, 1) := by decide +kernel
theorem dX4_whyItStays_0 : decode cX4_whyItStays 0 = .ok (.aload_n 0, 1) := by decide +kernel
theorem dX4_whyItStays_1 : decode cX4_whyItStays 1 = .ok (.getfield 16, 3) := by decide +kernel
theorem dX4_whyItStays_4 : decode cX4_whyItStays 4 = .ok (.aload_n 0, 1) := by decide +kernel
theorem dX4_whyItStays_5 : decode cX4_whyItStays 5 = .ok (.getfield 10, 3) := by decide +kernel
theorem dX4_whyItStays_8 : decode cX4_whyItStays 8 = .ok (.invokevirtual 47, 3) := by decide +kernel
theorem dX4_whyItStays_11 : decode cX4_whyItStays 11 = .ok (.aload_n 0, 1) := by decide +kernel
theorem dX4_whyItStays_12 : decode cX4_whyItStays 12 = .ok (.getfield 36, 3) := by decide +kernel
theorem dX4_whyItStays_15 : decode cX4_whyItStays 15 = .ok (.aload_n 0, 1) := by decide +kernel
theorem dX4_whyItStays_16 : decode cX4_whyItStays 16 = .ok (.getfield 16, 3) := by decide +kernel
theorem dX4_whyItStays_19 : decode cX4_whyItStays 19 = .ok (.iconst 1, 1) := by decide +kernel
theorem dX4_whyItStays_20 : decode cX4_whyItStays 20 = .ok (.invokevirtual 166, 3) := by decide +kernel
theorem dX4_whyItStays_23 : decode cX4_whyItStays 23 = .ok (.pop, 1) := by decide +kernel
theorem dX4_whyItStays_24 : decode cX4_whyItStays 24 = .ok (.aload_n 0, 1) := by decide +kernel
theorem dX4_whyItStays_25 : decode cX4_whyItStays 25 = .ok (.getfield 36, 3) := by decide +kernel
theorem dX4_whyItStays_28 : decode cX4_whyItStays 28 = .ok (.getfield 198, 3) := by decide +kernel
theorem dX4_whyItStays_31 : decode cX4_whyItStays 31 = .ok (.iload_n 1, 1) := by decide +kernel
theorem dX4_whyItStays_32 : decode cX4_whyItStays 32 = .ok (.invokestatic 108, 3) := by decide +kernel
theorem dX4_whyItStays_35 : decode cX4_whyItStays 35 = .ok (.ireturn, 1) := by decide +kernel
theorem dX4_paidForNightsInWork_0 : decode cX4_paidForNightsInWork 0 = .ok (.aload_n 0, 1) := by decide +kernel
theorem dX4_paidForNightsInWork_1 : decode cX4_paidForNightsInWork 1 = .ok (.getfield 16, 3) := by decide +kernel
theorem dX4_paidForNightsInWork_4 : decode cX4_paidForNightsInWork 4 = .ok (.getfield 142, 3) := by decide +kernel
theorem dX4_paidForNightsInWork_7 : decode cX4_paidForNightsInWork 7 = .ok (.bipush 18, 2) := by decide +kernel
theorem dX4_paidForNightsInWork_9 : decode cX4_paidForNightsInWork 9 = .ok (.invokestatic 108, 3) := by decide +kernel
theorem dX4_paidForNightsInWork_12 : decode cX4_paidForNightsInWork 12 = .ok (.aload_n 0, 1) := by decide +kernel
theorem dX4_paidForNightsInWork_13 : decode cX4_paidForNightsInWork 13 = .ok (.getfield 10, 3) := by decide +kernel
theorem dX4_paidForNightsInWork_16 : decode cX4_paidForNightsInWork 16 = .ok (.getfield 142, 3) := by decide +kernel
theorem dX4_paidForNightsInWork_19 : decode cX4_paidForNightsInWork 19 = .ok (.bipush 18, 2) := by decide +kernel
theorem dX4_paidForNightsInWork_21 : decode cX4_paidForNightsInWork 21 = .ok (.invokestatic 108, 3) := by decide +kernel
theorem dX4_paidForNightsInWork_24 : decode cX4_paidForNightsInWork 24 = .ok (.isub, 1) := by decide +kernel
theorem dX4_paidForNightsInWork_25 : decode cX4_paidForNightsInWork 25 = .ok (.ireturn, 1) := by decide +kernel
theorem dX4_paidWithHot_0 : decode cX4_paidWithHot 0 = .ok (.aload_n 0, 1) := by decide +kernel
theorem dX4_paidWithHot_1 : decode cX4_paidWithHot 1 = .ok (.getfield 16, 3) := by decide +kernel
theorem dX4_paidWithHot_4 : decode cX4_paidWithHot 4 = .ok (.aload_n 0, 1) := by decide +kernel
theorem dX4_paidWithHot_5 : decode cX4_paidWithHot 5 = .ok (.getfield 10, 3) := by decide +kernel
theorem dX4_paidWithHot_8 : decode cX4_paidWithHot 8 = .ok (.invokevirtual 47, 3) := by decide +kernel
theorem dX4_paidWithHot_11 : decode cX4_paidWithHot 11 = .ok (.aload_n 0, 1) := by decide +kernel
theorem dX4_paidWithHot_12 : decode cX4_paidWithHot 12 = .ok (.getfield 16, 3) := by decide +kernel
theorem dX4_paidWithHot_15 : decode cX4_paidWithHot 15 = .ok (.getfield 142, 3) := by decide +kernel
theorem dX4_paidWithHot_18 : decode cX4_paidWithHot 18 = .ok (.iconst 1, 1) := by decide +kernel
theorem dX4_paidWithHot_19 : decode cX4_paidWithHot 19 = .ok (.iload_n 1, 1) := by decide +kernel
theorem dX4_paidWithHot_20 : decode cX4_paidWithHot 20 = .ok (.invokestatic 201, 3) := by decide +kernel
theorem dX4_paidWithHot_23 : decode cX4_paidWithHot 23 = .ok (.aload_n 0, 1) := by decide +kernel
theorem dX4_paidWithHot_24 : decode cX4_paidWithHot 24 = .ok (.getfield 36, 3) := by decide +kernel
theorem dX4_paidWithHot_27 : decode cX4_paidWithHot 27 = .ok (.aload_n 0, 1) := by decide +kernel
theorem dX4_paidWithHot_28 : decode cX4_paidWithHot 28 = .ok (.getfield 16, 3) := by decide +kernel
theorem dX4_paidWithHot_31 : decode cX4_paidWithHot 31 = .ok (.iload_n 2, 1) := by decide +kernel
theorem dX4_paidWithHot_32 : decode cX4_paidWithHot 32 = .ok (.invokevirtual 166, 3) := by decide +kernel
theorem dX4_paidWithHot_35 : decode cX4_paidWithHot 35 = .ok (.pop, 1) := by decide +kernel
theorem dX4_paidWithHot_36 : decode cX4_paidWithHot 36 = .ok (.aload_n 0, 1) := by decide +kernel
theorem dX4_paidWithHot_37 : decode cX4_paidWithHot 37 = .ok (.invokevirtual 170, 3) := by decide +kernel
theorem dX4_paidWithHot_40 : decode cX4_paidWithHot 40 = .ok (.ireturn, 1) := by decide +kernel
theorem dX4_at_0 : decode cX4_at 0 = .ok (.iload_n 1, 1) := by decide +kernel
theorem dX4_at_1 : decode cX4_at 1 = .ok (.ifCond .lt 15, 3) := by decide +kernel
theorem dX4_at_4 : decode cX4_at 4 = .ok (.iload_n 1, 1) := by decide +kernel
theorem dX4_at_5 : decode cX4_at 5 = .ok (.aload_n 0, 1) := by decide +kernel
theorem dX4_at_6 : decode cX4_at 6 = .ok (.arraylength, 1) := by decide +kernel
theorem dX4_at_7 : decode cX4_at 7 = .ok (.if_icmp .ge 9, 3) := by decide +kernel
theorem dX4_at_10 : decode cX4_at 10 = .ok (.aload_n 0, 1) := by decide +kernel
theorem dX4_at_11 : decode cX4_at 11 = .ok (.iload_n 1, 1) := by decide +kernel
theorem dX4_at_12 : decode cX4_at 12 = .ok (.iaload, 1) := by decide +kernel
theorem dX4_at_13 : decode cX4_at 13 = .ok (.goto 4, 3) := by decide +kernel
theorem dX4_at_16 : decode cX4_at 16 = .ok (.iconst 0, 1) := by decide +kernel
theorem dX4_at_17 : decode cX4_at 17 = .ok (.ireturn, 1) := by decide +kernel
theorem dX4_put_0 : decode cX4_put 0 = .ok (.iload_n 1, 1) := by decide +kernel
theorem dX4_put_1 : decode cX4_put 1 = .ok (.ifCond .lt 13, 3) := by decide +kernel
theorem dX4_put_4 : decode cX4_put 4 = .ok (.iload_n 1, 1) := by decide +kernel
theorem dX4_put_5 : decode cX4_put 5 = .ok (.aload_n 0, 1) := by decide +kernel
theorem dX4_put_6 : decode cX4_put 6 = .ok (.arraylength, 1) := by decide +kernel
theorem dX4_put_7 : decode cX4_put 7 = .ok (.if_icmp .ge 7, 3) := by decide +kernel
theorem dX4_put_10 : decode cX4_put 10 = .ok (.aload_n 0, 1) := by decide +kernel
theorem dX4_put_11 : decode cX4_put 11 = .ok (.iload_n 1, 1) := by decide +kernel
theorem dX4_put_12 : decode cX4_put 12 = .ok (.iload_n 2, 1) := by decide +kernel
theorem dX4_put_13 : decode cX4_put 13 = .ok (.iastore, 1) := by decide +kernel
theorem dX4_put_14 : decode cX4_put 14 = .ok (.return_, 1) := by decide +kernel
theorem dX4_raise_0 : decode cX4_raise 0 = .ok (.iload_n 1, 1) := by decide +kernel
theorem dX4_raise_1 : decode cX4_raise 1 = .ok (.ifCond .lt 16, 3) := by decide +kernel
theorem dX4_raise_4 : decode cX4_raise 4 = .ok (.iload_n 1, 1) := by decide +kernel
theorem dX4_raise_5 : decode cX4_raise 5 = .ok (.aload_n 0, 1) := by decide +kernel
theorem dX4_raise_6 : decode cX4_raise 6 = .ok (.arraylength, 1) := by decide +kernel
theorem dX4_raise_7 : decode cX4_raise 7 = .ok (.if_icmp .ge 10, 3) := by decide +kernel
theorem dX4_raise_10 : decode cX4_raise 10 = .ok (.aload_n 0, 1) := by decide +kernel
theorem dX4_raise_11 : decode cX4_raise 11 = .ok (.iload_n 1, 1) := by decide +kernel
theorem dX4_raise_12 : decode cX4_raise 12 = .ok (.dup2, 1) := by decide +kernel
theorem dX4_raise_13 : decode cX4_raise 13 = .ok (.iaload, 1) := by decide +kernel
theorem dX4_raise_14 : decode cX4_raise 14 = .ok (.iload_n 2, 1) := by decide +kernel
theorem dX4_raise_15 : decode cX4_raise 15 = .ok (.iadd, 1) := by decide +kernel
theorem dX4_raise_16 : decode cX4_raise 16 = .ok (.iastore, 1) := by decide +kernel
theorem dX4_raise_17 : decode cX4_raise 17 = .ok (.return_, 1) := by decide +kernel
theorem dX4_copyRow_0 : decode cX4_copyRow 0 = .ok (.aload_n 0, 1) := by decide +kernel
theorem dX4_copyRow_1 : decode cX4_copyRow 1 = .ok (.iconst 0, 1) := by decide +kernel
theorem dX4_copyRow_2 : decode cX4_copyRow 2 = .ok (.aload_n 1, 1) := by decide +kernel
theorem dX4_copyRow_3 : decode cX4_copyRow 3 = .ok (.iconst 0, 1) := by decide +kernel
theorem dX4_copyRow_4 : decode cX4_copyRow 4 = .ok (.aload_n 0, 1) := by decide +kernel
theorem dX4_copyRow_5 : decode cX4_copyRow 5 = .ok (.arraylength, 1) := by decide +kernel
theorem dX4_copyRow_6 : decode cX4_copyRow 6 = .ok (.aload_n 1, 1) := by decide +kernel
theorem dX4_copyRow_7 : decode cX4_copyRow 7 = .ok (.arraylength, 1) := by decide +kernel
theorem dX4_copyRow_8 : decode cX4_copyRow 8 = .ok (.invokestatic 205, 3) := by decide +kernel
theorem dX4_copyRow_11 : decode cX4_copyRow 11 = .ok (.invokestatic 210, 3) := by decide +kernel
theorem dX4_copyRow_14 : decode cX4_copyRow 14 = .ok (.return_, 1) := by decide +kernel
theorem dX4_closeGap_0 : decode cX4_closeGap 0 = .ok (.iload_n 1, 1) := by decide +kernel
theorem dX4_closeGap_1 : decode cX4_closeGap 1 = .ok (.iconst 0, 1) := by decide +kernel
theorem dX4_closeGap_2 : decode cX4_closeGap 2 = .ok (.invokestatic 216, 3) := by decide +kernel
theorem dX4_closeGap_5 : decode cX4_closeGap 5 = .ok (.istore_n 2, 1) := by decide +kernel
theorem dX4_closeGap_6 : decode cX4_closeGap 6 = .ok (.iload_n 2, 1) := by decide +kernel
theorem dX4_closeGap_7 : decode cX4_closeGap 7 = .ok (.iconst 1, 1) := by decide +kernel
theorem dX4_closeGap_8 : decode cX4_closeGap 8 = .ok (.iadd, 1) := by decide +kernel
theorem dX4_closeGap_9 : decode cX4_closeGap 9 = .ok (.aload_n 0, 1) := by decide +kernel
theorem dX4_closeGap_10 : decode cX4_closeGap 10 = .ok (.arraylength, 1) := by decide +kernel
theorem dX4_closeGap_11 : decode cX4_closeGap 11 = .ok (.if_icmp .ge 17, 3) := by decide +kernel
theorem dX4_closeGap_14 : decode cX4_closeGap 14 = .ok (.aload_n 0, 1) := by decide +kernel
theorem dX4_closeGap_15 : decode cX4_closeGap 15 = .ok (.iload_n 2, 1) := by decide +kernel
theorem dX4_closeGap_16 : decode cX4_closeGap 16 = .ok (.aload_n 0, 1) := by decide +kernel
theorem dX4_closeGap_17 : decode cX4_closeGap 17 = .ok (.iload_n 2, 1) := by decide +kernel
theorem dX4_closeGap_18 : decode cX4_closeGap 18 = .ok (.iconst 1, 1) := by decide +kernel
theorem dX4_closeGap_19 : decode cX4_closeGap 19 = .ok (.iadd, 1) := by decide +kernel
theorem dX4_closeGap_20 : decode cX4_closeGap 20 = .ok (.iaload, 1) := by decide +kernel
theorem dX4_closeGap_21 : decode cX4_closeGap 21 = .ok (.iastore, 1) := by decide +kernel
theorem dX4_closeGap_22 : decode cX4_closeGap 22 = .ok (.iinc 2 1, 3) := by decide +kernel
theorem dX4_closeGap_25 : decode cX4_closeGap 25 = .ok (.goto (-19), 3) := by decide +kernel
theorem dX4_closeGap_28 : decode cX4_closeGap 28 = .ok (.return_, 1) := by decide +kernel
end
section
theorem dL_cell_0 : decode cL_cell 0 = .ok (.iload_n 1, 1) := by decide +kernel
theorem dL_cell_1 : decode cL_cell 1 = .ok (.aload_n 0, 1) := by decide +kernel
theorem dL_cell_2 : decode cL_cell 2 = .ok (.arraylength, 1) := by decide +kernel
theorem dL_cell_3 : decode cL_cell 3 = .ok (.if_icmp .ge 9, 3) := by decide +kernel
theorem dL_cell_6 : decode cL_cell 6 = .ok (.aload_n 0, 1) := by decide +kernel
theorem dL_cell_7 : decode cL_cell 7 = .ok (.iload_n 1, 1) := by decide +kernel
theorem dL_cell_8 : decode cL_cell 8 = .ok (.iaload, 1) := by decide +kernel
theorem dL_cell_9 : decode cL_cell 9 = .ok (.goto 15, 3) := by decide +kernel
theorem dL_cell_12 : decode cL_cell 12 = .ok (.sipush 7919, 3) := by decide +kernel
theorem dL_cell_15 : decode cL_cell 15 = .ok (.iload_n 1, 1) := by decide +kernel
theorem dL_cell_16 : decode cL_cell 16 = .ok (.iconst 3, 1) := by decide +kernel
theorem dL_cell_17 : decode cL_cell 17 = .ok (.iadd, 1) := by decide +kernel
theorem dL_cell_18 : decode cL_cell 18 = .ok (.imul, 1) := by decide +kernel
theorem dL_cell_19 : decode cL_cell 19 = .ok (.iload_n 1, 1) := by decide +kernel
theorem dL_cell_20 : decode cL_cell 20 = .ok (.bipush 11, 2) := by decide +kernel
theorem dL_cell_22 : decode cL_cell 22 = .ok (.iadd, 1) := by decide +kernel
theorem dL_cell_23 : decode cL_cell 23 = .ok (.imul, 1) := by decide +kernel
theorem dL_cell_24 : decode cL_cell 24 = .ok (.ireturn, 1) := by decide +kernel
theorem dL_low_0 : decode cL_low 0 = .ok (.iload_n 0, 1) := by decide +kernel
theorem dL_low_1 : decode cL_low 1 = .ok (.ldc 7, 2) := by decide +kernel
theorem dL_low_3 : decode cL_low 3 = .ok (.iand, 1) := by decide +kernel
theorem dL_low_4 : decode cL_low 4 = .ok (.iload_n 1, 1) := by decide +kernel
theorem dL_low_5 : decode cL_low 5 = .ok (.irem, 1) := by decide +kernel
theorem dL_low_6 : decode cL_low 6 = .ok (.ireturn, 1) := by decide +kernel
theorem dL_areShelves_0 : decode cL_areShelves 0 = .ok (.aload_n 0, 1) := by decide +kernel
theorem dL_areShelves_1 : decode cL_areShelves 1 = .ok (.bipush 15, 2) := by decide +kernel
theorem dL_areShelves_3 : decode cL_areShelves 3 = .ok (.invokevirtual 8, 3) := by decide +kernel
theorem dL_areShelves_6 : decode cL_areShelves 6 = .ok (.istore_n 1, 1) := by decide +kernel
theorem dL_areShelves_7 : decode cL_areShelves 7 = .ok (.iconst 0, 1) := by decide +kernel
theorem dL_areShelves_8 : decode cL_areShelves 8 = .ok (.istore_n 2, 1) := by decide +kernel
theorem dL_areShelves_9 : decode cL_areShelves 9 = .ok (.iconst 0, 1) := by decide +kernel
theorem dL_areShelves_10 : decode cL_areShelves 10 = .ok (.istore_n 3, 1) := by decide +kernel
theorem dL_areShelves_11 : decode cL_areShelves 11 = .ok (.iconst 0, 1) := by decide +kernel
theorem dL_areShelves_12 : decode cL_areShelves 12 = .ok (.istore 4, 2) := by decide +kernel
theorem dL_areShelves_14 : decode cL_areShelves 14 = .ok (.iconst (-1), 1) := by decide +kernel
theorem dL_areShelves_15 : decode cL_areShelves 15 = .ok (.istore 5, 2) := by decide +kernel
theorem dL_areShelves_17 : decode cL_areShelves 17 = .ok (.ldc 14, 2) := by decide +kernel
theorem dL_areShelves_19 : decode cL_areShelves 19 = .ok (.istore 6, 2) := by decide +kernel
theorem dL_areShelves_21 : decode cL_areShelves 21 = .ok (.iconst 0, 1) := by decide +kernel
theorem dL_areShelves_22 : decode cL_areShelves 22 = .ok (.istore 7, 2) := by decide +kernel
theorem dL_areShelves_24 : decode cL_areShelves 24 = .ok (.iload 7, 2) := by decide +kernel
theorem dL_areShelves_26 : decode cL_areShelves 26 = .ok (.iload_n 1, 1) := by decide +kernel
theorem dL_areShelves_27 : decode cL_areShelves 27 = .ok (.if_icmp .ge 220, 3) := by decide +kernel
theorem dL_areShelves_30 : decode cL_areShelves 30 = .ok (.iload 7, 2) := by decide +kernel
theorem dL_areShelves_32 : decode cL_areShelves 32 = .ok (.bipush 24, 2) := by decide +kernel
theorem dL_areShelves_34 : decode cL_areShelves 34 = .ok (.if_icmp .ge 213, 3) := by decide +kernel
theorem dL_areShelves_37 : decode cL_areShelves 37 = .ok (.aload_n 0, 1) := by decide +kernel
theorem dL_areShelves_38 : decode cL_areShelves 38 = .ok (.iload 7, 2) := by decide +kernel
theorem dL_areShelves_40 : decode cL_areShelves 40 = .ok (.invokevirtual 15, 3) := by decide +kernel
theorem dL_areShelves_43 : decode cL_areShelves 43 = .ok (.istore 8, 2) := by decide +kernel
theorem dL_areShelves_45 : decode cL_areShelves 45 = .ok (.aload_n 0, 1) := by decide +kernel
theorem dL_areShelves_46 : decode cL_areShelves 46 = .ok (.iload 8, 2) := by decide +kernel
theorem dL_areShelves_48 : decode cL_areShelves 48 = .ok (.iconst 1, 1) := by decide +kernel
theorem dL_areShelves_49 : decode cL_areShelves 49 = .ok (.invokevirtual 18, 3) := by decide +kernel
theorem dL_areShelves_52 : decode cL_areShelves 52 = .ok (.istore 9, 2) := by decide +kernel
theorem dL_areShelves_54 : decode cL_areShelves 54 = .ok (.aload_n 0, 1) := by decide +kernel
theorem dL_areShelves_55 : decode cL_areShelves 55 = .ok (.iload 8, 2) := by decide +kernel
theorem dL_areShelves_57 : decode cL_areShelves 57 = .ok (.iconst 2, 1) := by decide +kernel
theorem dL_areShelves_58 : decode cL_areShelves 58 = .ok (.invokevirtual 18, 3) := by decide +kernel
theorem dL_areShelves_61 : decode cL_areShelves 61 = .ok (.istore 10, 2) := by decide +kernel
theorem dL_areShelves_63 : decode cL_areShelves 63 = .ok (.iload 9, 2) := by decide +kernel
theorem dL_areShelves_65 : decode cL_areShelves 65 = .ok (.aload_n 0, 1) := by decide +kernel
theorem dL_areShelves_66 : decode cL_areShelves 66 = .ok (.iconst 1, 1) := by decide +kernel
theorem dL_areShelves_67 : decode cL_areShelves 67 = .ok (.invokevirtual 8, 3) := by decide +kernel
theorem dL_areShelves_70 : decode cL_areShelves 70 = .ok (.if_icmp .lt 7, 3) := by decide +kernel
theorem dL_areShelves_73 : decode cL_areShelves 73 = .ok (.iconst 0, 1) := by decide +kernel
theorem dL_areShelves_74 : decode cL_areShelves 74 = .ok (.goto 18, 3) := by decide +kernel
theorem dL_areShelves_77 : decode cL_areShelves 77 = .ok (.iload 9, 2) := by decide +kernel
theorem dL_areShelves_79 : decode cL_areShelves 79 = .ok (.aload_n 0, 1) := by decide +kernel
theorem dL_areShelves_80 : decode cL_areShelves 80 = .ok (.iconst 2, 1) := by decide +kernel
theorem dL_areShelves_81 : decode cL_areShelves 81 = .ok (.invokevirtual 8, 3) := by decide +kernel
theorem dL_areShelves_84 : decode cL_areShelves 84 = .ok (.if_icmp .lt 7, 3) := by decide +kernel
theorem dL_areShelves_87 : decode cL_areShelves 87 = .ok (.iconst 1, 1) := by decide +kernel
theorem dL_areShelves_88 : decode cL_areShelves 88 = .ok (.goto 4, 3) := by decide +kernel
theorem dL_areShelves_91 : decode cL_areShelves 91 = .ok (.iconst 2, 1) := by decide +kernel
theorem dL_areShelves_92 : decode cL_areShelves 92 = .ok (.istore 11, 2) := by decide +kernel
theorem dL_areShelves_94 : decode cL_areShelves 94 = .ok (.iload 8, 2) := by decide +kernel
theorem dL_areShelves_96 : decode cL_areShelves 96 = .ok (.ifCond .lt 96, 3) := by decide +kernel
theorem dL_areShelves_99 : decode cL_areShelves 99 = .ok (.iload 8, 2) := by decide +kernel
theorem dL_areShelves_101 : decode cL_areShelves 101 = .ok (.aload_n 0, 1) := by decide +kernel
theorem dL_areShelves_102 : decode cL_areShelves 102 = .ok (.bipush 16, 2) := by decide +kernel
theorem dL_areShelves_104 : decode cL_areShelves 104 = .ok (.invokevirtual 8, 3) := by decide +kernel
theorem dL_areShelves_107 : decode cL_areShelves 107 = .ok (.if_icmp .ge 85, 3) := by decide +kernel
theorem dL_areShelves_110 : decode cL_areShelves 110 = .ok (.iload 9, 2) := by decide +kernel
theorem dL_areShelves_112 : decode cL_areShelves 112 = .ok (.ifCond .lt 80, 3) := by decide +kernel
theorem dL_areShelves_115 : decode cL_areShelves 115 = .ok (.iload 9, 2) := by decide +kernel
theorem dL_areShelves_117 : decode cL_areShelves 117 = .ok (.ldc 14, 2) := by decide +kernel
theorem dL_areShelves_119 : decode cL_areShelves 119 = .ok (.if_icmp .ge 73, 3) := by decide +kernel
theorem dL_areShelves_122 : decode cL_areShelves 122 = .ok (.iload 9, 2) := by decide +kernel
theorem dL_areShelves_124 : decode cL_areShelves 124 = .ok (.iload 6, 2) := by decide +kernel
theorem dL_areShelves_126 : decode cL_areShelves 126 = .ok (.if_icmp .lt 17, 3) := by decide +kernel
theorem dL_areShelves_129 : decode cL_areShelves 129 = .ok (.iload 9, 2) := by decide +kernel
theorem dL_areShelves_131 : decode cL_areShelves 131 = .ok (.iload 6, 2) := by decide +kernel
theorem dL_areShelves_133 : decode cL_areShelves 133 = .ok (.if_icmp .ne 59, 3) := by decide +kernel
theorem dL_areShelves_136 : decode cL_areShelves 136 = .ok (.iload 8, 2) := by decide +kernel
theorem dL_areShelves_138 : decode cL_areShelves 138 = .ok (.iload 5, 2) := by decide +kernel
theorem dL_areShelves_140 : decode cL_areShelves 140 = .ok (.if_icmp .le 52, 3) := by decide +kernel
theorem dL_areShelves_143 : decode cL_areShelves 143 = .ok (.iload 10, 2) := by decide +kernel
theorem dL_areShelves_145 : decode cL_areShelves 145 = .ok (.ifCond .lt 47, 3) := by decide +kernel
theorem dL_areShelves_148 : decode cL_areShelves 148 = .ok (.iload 10, 2) := by decide +kernel
theorem dL_areShelves_150 : decode cL_areShelves 150 = .ok (.iconst 3, 1) := by decide +kernel
theorem dL_areShelves_151 : decode cL_areShelves 151 = .ok (.if_icmp .ge 41, 3) := by decide +kernel
theorem dL_areShelves_154 : decode cL_areShelves 154 = .ok (.aload_n 0, 1) := by decide +kernel
theorem dL_areShelves_155 : decode cL_areShelves 155 = .ok (.iload 8, 2) := by decide +kernel
theorem dL_areShelves_157 : decode cL_areShelves 157 = .ok (.iconst 3, 1) := by decide +kernel
theorem dL_areShelves_158 : decode cL_areShelves 158 = .ok (.invokevirtual 18, 3) := by decide +kernel
theorem dL_areShelves_161 : decode cL_areShelves 161 = .ok (.iload 11, 2) := by decide +kernel
theorem dL_areShelves_163 : decode cL_areShelves 163 = .ok (.if_icmp .ne 29, 3) := by decide +kernel
theorem dL_areShelves_166 : decode cL_areShelves 166 = .ok (.aload_n 0, 1) := by decide +kernel
theorem dL_areShelves_167 : decode cL_areShelves 167 = .ok (.iload 8, 2) := by decide +kernel
theorem dL_areShelves_169 : decode cL_areShelves 169 = .ok (.iconst 0, 1) := by decide +kernel
theorem dL_areShelves_170 : decode cL_areShelves 170 = .ok (.invokevirtual 18, 3) := by decide +kernel
theorem dL_areShelves_173 : decode cL_areShelves 173 = .ok (.ifCond .le 19, 3) := by decide +kernel
theorem dL_areShelves_176 : decode cL_areShelves 176 = .ok (.aload_n 0, 1) := by decide +kernel
theorem dL_areShelves_177 : decode cL_areShelves 177 = .ok (.iload 8, 2) := by decide +kernel
theorem dL_areShelves_179 : decode cL_areShelves 179 = .ok (.iconst 0, 1) := by decide +kernel
theorem dL_areShelves_180 : decode cL_areShelves 180 = .ok (.invokevirtual 18, 3) := by decide +kernel
theorem dL_areShelves_183 : decode cL_areShelves 183 = .ok (.bipush 10, 2) := by decide +kernel
theorem dL_areShelves_185 : decode cL_areShelves 185 = .ok (.if_icmp .ge 7, 3) := by decide +kernel
theorem dL_areShelves_188 : decode cL_areShelves 188 = .ok (.iconst 1, 1) := by decide +kernel
theorem dL_areShelves_189 : decode cL_areShelves 189 = .ok (.goto 4, 3) := by decide +kernel
theorem dL_areShelves_192 : decode cL_areShelves 192 = .ok (.iconst 0, 1) := by decide +kernel
theorem dL_areShelves_193 : decode cL_areShelves 193 = .ok (.istore 12, 2) := by decide +kernel
theorem dL_areShelves_195 : decode cL_areShelves 195 = .ok (.iload 12, 2) := by decide +kernel
theorem dL_areShelves_197 : decode cL_areShelves 197 = .ok (.ifCond .eq 19, 3) := by decide +kernel
theorem dL_areShelves_200 : decode cL_areShelves 200 = .ok (.aload_n 0, 1) := by decide +kernel
theorem dL_areShelves_201 : decode cL_areShelves 201 = .ok (.iload 8, 2) := by decide +kernel
theorem dL_areShelves_203 : decode cL_areShelves 203 = .ok (.iconst 5, 1) := by decide +kernel
theorem dL_areShelves_204 : decode cL_areShelves 204 = .ok (.invokevirtual 18, 3) := by decide +kernel
theorem dL_areShelves_207 : decode cL_areShelves 207 = .ok (.ifCond .le 11, 3) := by decide +kernel
theorem dL_areShelves_210 : decode cL_areShelves 210 = .ok (.iload 10, 2) := by decide +kernel
theorem dL_areShelves_212 : decode cL_areShelves 212 = .ok (.iconst 2, 1) := by decide +kernel
theorem dL_areShelves_213 : decode cL_areShelves 213 = .ok (.if_icmp .eq 5, 3) := by decide +kernel
theorem dL_areShelves_216 : decode cL_areShelves 216 = .ok (.iconst 0, 1) := by decide +kernel
theorem dL_areShelves_217 : decode cL_areShelves 217 = .ok (.ireturn, 1) := by decide +kernel
theorem dL_areShelves_218 : decode cL_areShelves 218 = .ok (.iload_n 2, 1) := by decide +kernel
theorem dL_areShelves_219 : decode cL_areShelves 219 = .ok (.iload 9, 2) := by decide +kernel
theorem dL_areShelves_221 : decode cL_areShelves 221 = .ok (.iadd, 1) := by decide +kernel
theorem dL_areShelves_222 : decode cL_areShelves 222 = .ok (.istore_n 2, 1) := by decide +kernel
theorem dL_areShelves_223 : decode cL_areShelves 223 = .ok (.iload_n 3, 1) := by decide +kernel
theorem dL_areShelves_224 : decode cL_areShelves 224 = .ok (.aload_n 0, 1) := by decide +kernel
theorem dL_areShelves_225 : decode cL_areShelves 225 = .ok (.iload 8, 2) := by decide +kernel
theorem dL_areShelves_227 : decode cL_areShelves 227 = .ok (.iconst 4, 1) := by decide +kernel
theorem dL_areShelves_228 : decode cL_areShelves 228 = .ok (.invokevirtual 18, 3) := by decide +kernel
theorem dL_areShelves_231 : decode cL_areShelves 231 = .ok (.iadd, 1) := by decide +kernel
theorem dL_areShelves_232 : decode cL_areShelves 232 = .ok (.istore_n 3, 1) := by decide +kernel
theorem dL_areShelves_233 : decode cL_areShelves 233 = .ok (.iload 8, 2) := by decide +kernel
theorem dL_areShelves_235 : decode cL_areShelves 235 = .ok (.istore 5, 2) := by decide +kernel
theorem dL_areShelves_237 : decode cL_areShelves 237 = .ok (.iload 9, 2) := by decide +kernel
theorem dL_areShelves_239 : decode cL_areShelves 239 = .ok (.istore 6, 2) := by decide +kernel
theorem dL_areShelves_241 : decode cL_areShelves 241 = .ok (.iinc 7 1, 3) := by decide +kernel
theorem dL_areShelves_244 : decode cL_areShelves 244 = .ok (.goto (-220), 3) := by decide +kernel
theorem dL_areShelves_247 : decode cL_areShelves 247 = .ok (.iconst 0, 1) := by decide +kernel
theorem dL_areShelves_248 : decode cL_areShelves 248 = .ok (.istore 7, 2) := by decide +kernel
theorem dL_areShelves_250 : decode cL_areShelves 250 = .ok (.iload 7, 2) := by decide +kernel
theorem dL_areShelves_252 : decode cL_areShelves 252 = .ok (.iconst 3, 1) := by decide +kernel
theorem dL_areShelves_253 : decode cL_areShelves 253 = .ok (.if_icmp .ge 222, 3) := by decide +kernel
theorem dL_areShelves_256 : decode cL_areShelves 256 = .ok (.iconst 0, 1) := by decide +kernel
theorem dL_areShelves_257 : decode cL_areShelves 257 = .ok (.istore 8, 2) := by decide +kernel
theorem dL_areShelves_259 : decode cL_areShelves 259 = .ok (.iconst 0, 1) := by decide +kernel
theorem dL_areShelves_260 : decode cL_areShelves 260 = .ok (.istore 9, 2) := by decide +kernel
theorem dL_areShelves_262 : decode cL_areShelves 262 = .ok (.iconst 0, 1) := by decide +kernel
theorem dL_areShelves_263 : decode cL_areShelves 263 = .ok (.istore 10, 2) := by decide +kernel
theorem dL_areShelves_265 : decode cL_areShelves 265 = .ok (.iconst 0, 1) := by decide +kernel
theorem dL_areShelves_266 : decode cL_areShelves 266 = .ok (.istore 11, 2) := by decide +kernel
theorem dL_areShelves_268 : decode cL_areShelves 268 = .ok (.iload 11, 2) := by decide +kernel
theorem dL_areShelves_270 : decode cL_areShelves 270 = .ok (.iload_n 1, 1) := by decide +kernel
theorem dL_areShelves_271 : decode cL_areShelves 271 = .ok (.if_icmp .ge 100, 3) := by decide +kernel
theorem dL_areShelves_274 : decode cL_areShelves 274 = .ok (.iload 11, 2) := by decide +kernel
theorem dL_areShelves_276 : decode cL_areShelves 276 = .ok (.bipush 24, 2) := by decide +kernel
theorem dL_areShelves_278 : decode cL_areShelves 278 = .ok (.if_icmp .ge 93, 3) := by decide +kernel
theorem dL_areShelves_281 : decode cL_areShelves 281 = .ok (.aload_n 0, 1) := by decide +kernel
theorem dL_areShelves_282 : decode cL_areShelves 282 = .ok (.iload 11, 2) := by decide +kernel
theorem dL_areShelves_284 : decode cL_areShelves 284 = .ok (.invokevirtual 15, 3) := by decide +kernel
theorem dL_areShelves_287 : decode cL_areShelves 287 = .ok (.istore 12, 2) := by decide +kernel
theorem dL_areShelves_289 : decode cL_areShelves 289 = .ok (.aload_n 0, 1) := by decide +kernel
theorem dL_areShelves_290 : decode cL_areShelves 290 = .ok (.iload 12, 2) := by decide +kernel
theorem dL_areShelves_292 : decode cL_areShelves 292 = .ok (.iconst 2, 1) := by decide +kernel
theorem dL_areShelves_293 : decode cL_areShelves 293 = .ok (.invokevirtual 18, 3) := by decide +kernel
theorem dL_areShelves_296 : decode cL_areShelves 296 = .ok (.iload 7, 2) := by decide +kernel
theorem dL_areShelves_298 : decode cL_areShelves 298 = .ok (.if_icmp .ne 7, 3) := by decide +kernel
theorem dL_areShelves_301 : decode cL_areShelves 301 = .ok (.iconst 1, 1) := by decide +kernel
theorem dL_areShelves_302 : decode cL_areShelves 302 = .ok (.goto 4, 3) := by decide +kernel
theorem dL_areShelves_305 : decode cL_areShelves 305 = .ok (.iconst 0, 1) := by decide +kernel
theorem dL_areShelves_306 : decode cL_areShelves 306 = .ok (.istore 13, 2) := by decide +kernel
theorem dL_areShelves_308 : decode cL_areShelves 308 = .ok (.iload 8, 2) := by decide +kernel
theorem dL_areShelves_310 : decode cL_areShelves 310 = .ok (.iload 13, 2) := by decide +kernel
theorem dL_areShelves_312 : decode cL_areShelves 312 = .ok (.ifCond .eq 13, 3) := by decide +kernel
theorem dL_areShelves_315 : decode cL_areShelves 315 = .ok (.aload_n 0, 1) := by decide +kernel
theorem dL_areShelves_316 : decode cL_areShelves 316 = .ok (.iload 12, 2) := by decide +kernel
theorem dL_areShelves_318 : decode cL_areShelves 318 = .ok (.iconst 0, 1) := by decide +kernel
theorem dL_areShelves_319 : decode cL_areShelves 319 = .ok (.invokevirtual 18, 3) := by decide +kernel
theorem dL_areShelves_322 : decode cL_areShelves 322 = .ok (.goto 4, 3) := by decide +kernel
theorem dL_areShelves_325 : decode cL_areShelves 325 = .ok (.iconst 0, 1) := by decide +kernel
theorem dL_areShelves_326 : decode cL_areShelves 326 = .ok (.iadd, 1) := by decide +kernel
theorem dL_areShelves_327 : decode cL_areShelves 327 = .ok (.istore 8, 2) := by decide +kernel
theorem dL_areShelves_329 : decode cL_areShelves 329 = .ok (.iload 9, 2) := by decide +kernel
theorem dL_areShelves_331 : decode cL_areShelves 331 = .ok (.iload 13, 2) := by decide +kernel
theorem dL_areShelves_333 : decode cL_areShelves 333 = .ok (.ifCond .eq 7, 3) := by decide +kernel
theorem dL_areShelves_336 : decode cL_areShelves 336 = .ok (.iconst 1, 1) := by decide +kernel
theorem dL_areShelves_337 : decode cL_areShelves 337 = .ok (.goto 4, 3) := by decide +kernel
theorem dL_areShelves_340 : decode cL_areShelves 340 = .ok (.iconst 0, 1) := by decide +kernel
theorem dL_areShelves_341 : decode cL_areShelves 341 = .ok (.iadd, 1) := by decide +kernel
theorem dL_areShelves_342 : decode cL_areShelves 342 = .ok (.istore 9, 2) := by decide +kernel
theorem dL_areShelves_344 : decode cL_areShelves 344 = .ok (.iload 10, 2) := by decide +kernel
theorem dL_areShelves_346 : decode cL_areShelves 346 = .ok (.iload 13, 2) := by decide +kernel
theorem dL_areShelves_348 : decode cL_areShelves 348 = .ok (.ifCond .eq 13, 3) := by decide +kernel
theorem dL_areShelves_351 : decode cL_areShelves 351 = .ok (.aload_n 0, 1) := by decide +kernel
theorem dL_areShelves_352 : decode cL_areShelves 352 = .ok (.iload 12, 2) := by decide +kernel
theorem dL_areShelves_354 : decode cL_areShelves 354 = .ok (.iconst 1, 1) := by decide +kernel
theorem dL_areShelves_355 : decode cL_areShelves 355 = .ok (.invokevirtual 18, 3) := by decide +kernel
theorem dL_areShelves_358 : decode cL_areShelves 358 = .ok (.goto 4, 3) := by decide +kernel
theorem dL_areShelves_361 : decode cL_areShelves 361 = .ok (.iconst 0, 1) := by decide +kernel
theorem dL_areShelves_362 : decode cL_areShelves 362 = .ok (.iadd, 1) := by decide +kernel
theorem dL_areShelves_363 : decode cL_areShelves 363 = .ok (.istore 10, 2) := by decide +kernel
theorem dL_areShelves_365 : decode cL_areShelves 365 = .ok (.iinc 11 1, 3) := by decide +kernel
theorem dL_areShelves_368 : decode cL_areShelves 368 = .ok (.goto (-100), 3) := by decide +kernel
theorem dL_areShelves_371 : decode cL_areShelves 371 = .ok (.aload_n 0, 1) := by decide +kernel
theorem dL_areShelves_372 : decode cL_areShelves 372 = .ok (.iload 7, 2) := by decide +kernel
theorem dL_areShelves_374 : decode cL_areShelves 374 = .ok (.iconst 0, 1) := by decide +kernel
theorem dL_areShelves_375 : decode cL_areShelves 375 = .ok (.invokevirtual 22, 3) := by decide +kernel
theorem dL_areShelves_378 : decode cL_areShelves 378 = .ok (.aload_n 0, 1) := by decide +kernel
theorem dL_areShelves_379 : decode cL_areShelves 379 = .ok (.bipush 6, 2) := by decide +kernel
theorem dL_areShelves_381 : decode cL_areShelves 381 = .ok (.iload 7, 2) := by decide +kernel
theorem dL_areShelves_383 : decode cL_areShelves 383 = .ok (.iadd, 1) := by decide +kernel
theorem dL_areShelves_384 : decode cL_areShelves 384 = .ok (.invokevirtual 8, 3) := by decide +kernel
theorem dL_areShelves_387 : decode cL_areShelves 387 = .ok (.if_icmp .ne 73, 3) := by decide +kernel
theorem dL_areShelves_390 : decode cL_areShelves 390 = .ok (.aload_n 0, 1) := by decide +kernel
theorem dL_areShelves_391 : decode cL_areShelves 391 = .ok (.iload 7, 2) := by decide +kernel
theorem dL_areShelves_393 : decode cL_areShelves 393 = .ok (.iconst 1, 1) := by decide +kernel
theorem dL_areShelves_394 : decode cL_areShelves 394 = .ok (.invokevirtual 22, 3) := by decide +kernel
theorem dL_areShelves_397 : decode cL_areShelves 397 = .ok (.iload 8, 2) := by decide +kernel
theorem dL_areShelves_399 : decode cL_areShelves 399 = .ok (.if_icmp .ne 61, 3) := by decide +kernel
theorem dL_areShelves_402 : decode cL_areShelves 402 = .ok (.iload 8, 2) := by decide +kernel
theorem dL_areShelves_404 : decode cL_areShelves 404 = .ok (.aload_n 0, 1) := by decide +kernel
theorem dL_areShelves_405 : decode cL_areShelves 405 = .ok (.iload 7, 2) := by decide +kernel
theorem dL_areShelves_407 : decode cL_areShelves 407 = .ok (.iconst 0, 1) := by decide +kernel
theorem dL_areShelves_408 : decode cL_areShelves 408 = .ok (.invokevirtual 22, 3) := by decide +kernel
theorem dL_areShelves_411 : decode cL_areShelves 411 = .ok (.if_icmp .gt 49, 3) := by decide +kernel
theorem dL_areShelves_414 : decode cL_areShelves 414 = .ok (.aload_n 0, 1) := by decide +kernel
theorem dL_areShelves_415 : decode cL_areShelves 415 = .ok (.iload 7, 2) := by decide +kernel
theorem dL_areShelves_417 : decode cL_areShelves 417 = .ok (.iconst 2, 1) := by decide +kernel
theorem dL_areShelves_418 : decode cL_areShelves 418 = .ok (.invokevirtual 22, 3) := by decide +kernel
theorem dL_areShelves_421 : decode cL_areShelves 421 = .ok (.iload 9, 2) := by decide +kernel
theorem dL_areShelves_423 : decode cL_areShelves 423 = .ok (.if_icmp .ne 37, 3) := by decide +kernel
theorem dL_areShelves_426 : decode cL_areShelves 426 = .ok (.aload_n 0, 1) := by decide +kernel
theorem dL_areShelves_427 : decode cL_areShelves 427 = .ok (.iload 7, 2) := by decide +kernel
theorem dL_areShelves_429 : decode cL_areShelves 429 = .ok (.iconst 3, 1) := by decide +kernel
theorem dL_areShelves_430 : decode cL_areShelves 430 = .ok (.invokevirtual 22, 3) := by decide +kernel
theorem dL_areShelves_433 : decode cL_areShelves 433 = .ok (.iload 10, 2) := by decide +kernel
theorem dL_areShelves_435 : decode cL_areShelves 435 = .ok (.if_icmp .ne 25, 3) := by decide +kernel
theorem dL_areShelves_438 : decode cL_areShelves 438 = .ok (.aload_n 0, 1) := by decide +kernel
theorem dL_areShelves_439 : decode cL_areShelves 439 = .ok (.iload 7, 2) := by decide +kernel
theorem dL_areShelves_441 : decode cL_areShelves 441 = .ok (.iconst 4, 1) := by decide +kernel
theorem dL_areShelves_442 : decode cL_areShelves 442 = .ok (.invokevirtual 22, 3) := by decide +kernel
theorem dL_areShelves_445 : decode cL_areShelves 445 = .ok (.iload 8, 2) := by decide +kernel
theorem dL_areShelves_447 : decode cL_areShelves 447 = .ok (.aload_n 0, 1) := by decide +kernel
theorem dL_areShelves_448 : decode cL_areShelves 448 = .ok (.bipush 9, 2) := by decide +kernel
theorem dL_areShelves_450 : decode cL_areShelves 450 = .ok (.iload 7, 2) := by decide +kernel
theorem dL_areShelves_452 : decode cL_areShelves 452 = .ok (.iadd, 1) := by decide +kernel
theorem dL_areShelves_453 : decode cL_areShelves 453 = .ok (.invokevirtual 8, 3) := by decide +kernel
theorem dL_areShelves_456 : decode cL_areShelves 456 = .ok (.imul, 1) := by decide +kernel
theorem dL_areShelves_457 : decode cL_areShelves 457 = .ok (.if_icmp .eq 5, 3) := by decide +kernel
theorem dL_areShelves_460 : decode cL_areShelves 460 = .ok (.iconst 0, 1) := by decide +kernel
theorem dL_areShelves_461 : decode cL_areShelves 461 = .ok (.ireturn, 1) := by decide +kernel
theorem dL_areShelves_462 : decode cL_areShelves 462 = .ok (.iload 4, 2) := by decide +kernel
theorem dL_areShelves_464 : decode cL_areShelves 464 = .ok (.iload 9, 2) := by decide +kernel
theorem dL_areShelves_466 : decode cL_areShelves 466 = .ok (.iadd, 1) := by decide +kernel
theorem dL_areShelves_467 : decode cL_areShelves 467 = .ok (.istore 4, 2) := by decide +kernel
theorem dL_areShelves_469 : decode cL_areShelves 469 = .ok (.iinc 7 1, 3) := by decide +kernel
theorem dL_areShelves_472 : decode cL_areShelves 472 = .ok (.goto (-222), 3) := by decide +kernel
theorem dL_areShelves_475 : decode cL_areShelves 475 = .ok (.iload 4, 2) := by decide +kernel
theorem dL_areShelves_477 : decode cL_areShelves 477 = .ok (.iload_n 1, 1) := by decide +kernel
theorem dL_areShelves_478 : decode cL_areShelves 478 = .ok (.if_icmp .ne 66, 3) := by decide +kernel
theorem dL_areShelves_481 : decode cL_areShelves 481 = .ok (.iload_n 1, 1) := by decide +kernel
theorem dL_areShelves_482 : decode cL_areShelves 482 = .ok (.bipush 24, 2) := by decide +kernel
theorem dL_areShelves_484 : decode cL_areShelves 484 = .ok (.if_icmp .gt 60, 3) := by decide +kernel
theorem dL_areShelves_487 : decode cL_areShelves 487 = .ok (.aload_n 0, 1) := by decide +kernel
theorem dL_areShelves_488 : decode cL_areShelves 488 = .ok (.iload_n 1, 1) := by decide +kernel
theorem dL_areShelves_489 : decode cL_areShelves 489 = .ok (.invokevirtual 15, 3) := by decide +kernel
theorem dL_areShelves_492 : decode cL_areShelves 492 = .ok (.bipush (-5), 2) := by decide +kernel
theorem dL_areShelves_494 : decode cL_areShelves 494 = .ok (.if_icmp .ne 50, 3) := by decide +kernel
theorem dL_areShelves_497 : decode cL_areShelves 497 = .ok (.aload_n 0, 1) := by decide +kernel
theorem dL_areShelves_498 : decode cL_areShelves 498 = .ok (.iconst (-1), 1) := by decide +kernel
theorem dL_areShelves_499 : decode cL_areShelves 499 = .ok (.invokevirtual 15, 3) := by decide +kernel
theorem dL_areShelves_502 : decode cL_areShelves 502 = .ok (.bipush (-2), 2) := by decide +kernel
theorem dL_areShelves_504 : decode cL_areShelves 504 = .ok (.if_icmp .ne 40, 3) := by decide +kernel
theorem dL_areShelves_507 : decode cL_areShelves 507 = .ok (.aload_n 0, 1) := by decide +kernel
theorem dL_areShelves_508 : decode cL_areShelves 508 = .ok (.bipush 24, 2) := by decide +kernel
theorem dL_areShelves_510 : decode cL_areShelves 510 = .ok (.invokevirtual 8, 3) := by decide +kernel
theorem dL_areShelves_513 : decode cL_areShelves 513 = .ok (.iload_n 2, 1) := by decide +kernel
theorem dL_areShelves_514 : decode cL_areShelves 514 = .ok (.if_icmp .ne 30, 3) := by decide +kernel
theorem dL_areShelves_517 : decode cL_areShelves 517 = .ok (.aload_n 0, 1) := by decide +kernel
theorem dL_areShelves_518 : decode cL_areShelves 518 = .ok (.bipush 23, 2) := by decide +kernel
theorem dL_areShelves_520 : decode cL_areShelves 520 = .ok (.invokevirtual 8, 3) := by decide +kernel
theorem dL_areShelves_523 : decode cL_areShelves 523 = .ok (.iload_n 3, 1) := by decide +kernel
theorem dL_areShelves_524 : decode cL_areShelves 524 = .ok (.if_icmp .ne 20, 3) := by decide +kernel
theorem dL_areShelves_527 : decode cL_areShelves 527 = .ok (.aload_n 0, 1) := by decide +kernel
theorem dL_areShelves_528 : decode cL_areShelves 528 = .ok (.iconst 2, 1) := by decide +kernel
theorem dL_areShelves_529 : decode cL_areShelves 529 = .ok (.invokevirtual 8, 3) := by decide +kernel
theorem dL_areShelves_532 : decode cL_areShelves 532 = .ok (.aload_n 0, 1) := by decide +kernel
theorem dL_areShelves_533 : decode cL_areShelves 533 = .ok (.iconst 1, 1) := by decide +kernel
theorem dL_areShelves_534 : decode cL_areShelves 534 = .ok (.invokevirtual 8, 3) := by decide +kernel
theorem dL_areShelves_537 : decode cL_areShelves 537 = .ok (.if_icmp .gt 7, 3) := by decide +kernel
theorem dL_areShelves_540 : decode cL_areShelves 540 = .ok (.iconst 1, 1) := by decide +kernel
theorem dL_areShelves_541 : decode cL_areShelves 541 = .ok (.goto 4, 3) := by decide +kernel
theorem dL_areShelves_544 : decode cL_areShelves 544 = .ok (.iconst 0, 1) := by decide +kernel
theorem dL_areShelves_545 : decode cL_areShelves 545 = .ok (.ireturn, 1) := by decide +kernel
theorem dL_isNight_0 : decode cL_isNight 0 = .ok (.aload_n 0, 1) := by decide +kernel
theorem dL_isNight_1 : decode cL_isNight 1 = .ok (.bipush 15, 2) := by decide +kernel
theorem dL_isNight_3 : decode cL_isNight 3 = .ok (.invokevirtual 8, 3) := by decide +kernel
theorem dL_isNight_6 : decode cL_isNight 6 = .ok (.istore_n 3, 1) := by decide +kernel
theorem dL_isNight_7 : decode cL_isNight 7 = .ok (.aload_n 0, 1) := by decide +kernel
theorem dL_isNight_8 : decode cL_isNight 8 = .ok (.iconst 0, 1) := by decide +kernel
theorem dL_isNight_9 : decode cL_isNight 9 = .ok (.iconst 4, 1) := by decide +kernel
theorem dL_isNight_10 : decode cL_isNight 10 = .ok (.invokevirtual 22, 3) := by decide +kernel
theorem dL_isNight_13 : decode cL_isNight 13 = .ok (.aload_n 0, 1) := by decide +kernel
theorem dL_isNight_14 : decode cL_isNight 14 = .ok (.iconst 1, 1) := by decide +kernel
theorem dL_isNight_15 : decode cL_isNight 15 = .ok (.iconst 4, 1) := by decide +kernel
theorem dL_isNight_16 : decode cL_isNight 16 = .ok (.invokevirtual 22, 3) := by decide +kernel
theorem dL_isNight_19 : decode cL_isNight 19 = .ok (.iadd, 1) := by decide +kernel
theorem dL_isNight_20 : decode cL_isNight 20 = .ok (.aload_n 0, 1) := by decide +kernel
theorem dL_isNight_21 : decode cL_isNight 21 = .ok (.iconst 2, 1) := by decide +kernel
theorem dL_isNight_22 : decode cL_isNight 22 = .ok (.iconst 4, 1) := by decide +kernel
theorem dL_isNight_23 : decode cL_isNight 23 = .ok (.invokevirtual 22, 3) := by decide +kernel
theorem dL_isNight_26 : decode cL_isNight 26 = .ok (.iadd, 1) := by decide +kernel
theorem dL_isNight_27 : decode cL_isNight 27 = .ok (.istore 4, 2) := by decide +kernel
theorem dL_isNight_29 : decode cL_isNight 29 = .ok (.aload_n 0, 1) := by decide +kernel
theorem dL_isNight_30 : decode cL_isNight 30 = .ok (.bipush 18, 2) := by decide +kernel
theorem dL_isNight_32 : decode cL_isNight 32 = .ok (.invokevirtual 8, 3) := by decide +kernel
theorem dL_isNight_35 : decode cL_isNight 35 = .ok (.istore 5, 2) := by decide +kernel
theorem dL_isNight_37 : decode cL_isNight 37 = .ok (.aload_n 0, 1) := by decide +kernel
theorem dL_isNight_38 : decode cL_isNight 38 = .ok (.bipush 21, 2) := by decide +kernel
theorem dL_isNight_40 : decode cL_isNight 40 = .ok (.invokevirtual 8, 3) := by decide +kernel
theorem dL_isNight_43 : decode cL_isNight 43 = .ok (.istore 6, 2) := by decide +kernel
theorem dL_isNight_45 : decode cL_isNight 45 = .ok (.iconst 0, 1) := by decide +kernel
theorem dL_isNight_46 : decode cL_isNight 46 = .ok (.istore 7, 2) := by decide +kernel
theorem dL_isNight_48 : decode cL_isNight 48 = .ok (.iconst 0, 1) := by decide +kernel
theorem dL_isNight_49 : decode cL_isNight 49 = .ok (.istore 8, 2) := by decide +kernel
theorem dL_isNight_51 : decode cL_isNight 51 = .ok (.aload_n 0, 1) := by decide +kernel
theorem dL_isNight_52 : decode cL_isNight 52 = .ok (.bipush 17, 2) := by decide +kernel
theorem dL_isNight_54 : decode cL_isNight 54 = .ok (.invokevirtual 8, 3) := by decide +kernel
theorem dL_isNight_57 : decode cL_isNight 57 = .ok (.sipush 4900, 3) := by decide +kernel
theorem dL_isNight_60 : decode cL_isNight 60 = .ok (.if_icmp .le 5, 3) := by decide +kernel
theorem dL_isNight_63 : decode cL_isNight 63 = .ok (.iconst 1, 1) := by decide +kernel
theorem dL_isNight_64 : decode cL_isNight 64 = .ok (.ireturn, 1) := by decide +kernel
theorem dL_isNight_65 : decode cL_isNight 65 = .ok (.iconst 0, 1) := by decide +kernel
theorem dL_isNight_66 : decode cL_isNight 66 = .ok (.istore 9, 2) := by decide +kernel
theorem dL_isNight_68 : decode cL_isNight 68 = .ok (.iload 9, 2) := by decide +kernel
theorem dL_isNight_70 : decode cL_isNight 70 = .ok (.iload_n 3, 1) := by decide +kernel
theorem dL_isNight_71 : decode cL_isNight 71 = .ok (.if_icmp .ge 174, 3) := by decide +kernel
theorem dL_isNight_74 : decode cL_isNight 74 = .ok (.iload 9, 2) := by decide +kernel
theorem dL_isNight_76 : decode cL_isNight 76 = .ok (.bipush 24, 2) := by decide +kernel
theorem dL_isNight_78 : decode cL_isNight 78 = .ok (.if_icmp .ge 167, 3) := by decide +kernel
theorem dL_isNight_81 : decode cL_isNight 81 = .ok (.aload_n 0, 1) := by decide +kernel
theorem dL_isNight_82 : decode cL_isNight 82 = .ok (.iload 9, 2) := by decide +kernel
theorem dL_isNight_84 : decode cL_isNight 84 = .ok (.invokevirtual 15, 3) := by decide +kernel
theorem dL_isNight_87 : decode cL_isNight 87 = .ok (.istore 10, 2) := by decide +kernel
theorem dL_isNight_89 : decode cL_isNight 89 = .ok (.aload_n 0, 1) := by decide +kernel
theorem dL_isNight_90 : decode cL_isNight 90 = .ok (.iload 10, 2) := by decide +kernel
theorem dL_isNight_92 : decode cL_isNight 92 = .ok (.bipush 8, 2) := by decide +kernel
theorem dL_isNight_94 : decode cL_isNight 94 = .ok (.invokevirtual 18, 3) := by decide +kernel
theorem dL_isNight_97 : decode cL_isNight 97 = .ok (.istore 11, 2) := by decide +kernel
theorem dL_isNight_99 : decode cL_isNight 99 = .ok (.aload_n 1, 1) := by decide +kernel
theorem dL_isNight_100 : decode cL_isNight 100 = .ok (.iload 9, 2) := by decide +kernel
theorem dL_isNight_102 : decode cL_isNight 102 = .ok (.iload 10, 2) := by decide +kernel
theorem dL_isNight_104 : decode cL_isNight 104 = .ok (.iastore, 1) := by decide +kernel
theorem dL_isNight_105 : decode cL_isNight 105 = .ok (.aload_n 2, 1) := by decide +kernel
theorem dL_isNight_106 : decode cL_isNight 106 = .ok (.iload 9, 2) := by decide +kernel
theorem dL_isNight_108 : decode cL_isNight 108 = .ok (.bipush 8, 2) := by decide +kernel
theorem dL_isNight_110 : decode cL_isNight 110 = .ok (.aload_n 0, 1) := by decide +kernel
theorem dL_isNight_111 : decode cL_isNight 111 = .ok (.iload 10, 2) := by decide +kernel
theorem dL_isNight_113 : decode cL_isNight 113 = .ok (.bipush 7, 2) := by decide +kernel
theorem dL_isNight_115 : decode cL_isNight 115 = .ok (.invokevirtual 18, 3) := by decide +kernel
theorem dL_isNight_118 : decode cL_isNight 118 = .ok (.imul, 1) := by decide +kernel
theorem dL_isNight_119 : decode cL_isNight 119 = .ok (.iload 11, 2) := by decide +kernel
theorem dL_isNight_121 : decode cL_isNight 121 = .ok (.ifCond .ne 7, 3) := by decide +kernel
theorem dL_isNight_124 : decode cL_isNight 124 = .ok (.iconst 4, 1) := by decide +kernel
theorem dL_isNight_125 : decode cL_isNight 125 = .ok (.goto 4, 3) := by decide +kernel
theorem dL_isNight_128 : decode cL_isNight 128 = .ok (.iconst 0, 1) := by decide +kernel
theorem dL_isNight_129 : decode cL_isNight 129 = .ok (.iadd, 1) := by decide +kernel
theorem dL_isNight_130 : decode cL_isNight 130 = .ok (.aload_n 0, 1) := by decide +kernel
theorem dL_isNight_131 : decode cL_isNight 131 = .ok (.iload 10, 2) := by decide +kernel
theorem dL_isNight_133 : decode cL_isNight 133 = .ok (.iconst 2, 1) := by decide +kernel
theorem dL_isNight_134 : decode cL_isNight 134 = .ok (.invokevirtual 18, 3) := by decide +kernel
theorem dL_isNight_137 : decode cL_isNight 137 = .ok (.iadd, 1) := by decide +kernel
theorem dL_isNight_138 : decode cL_isNight 138 = .ok (.iastore, 1) := by decide +kernel
theorem dL_isNight_139 : decode cL_isNight 139 = .ok (.iload 7, 2) := by decide +kernel
theorem dL_isNight_141 : decode cL_isNight 141 = .ok (.iload 11, 2) := by decide +kernel
theorem dL_isNight_143 : decode cL_isNight 143 = .ok (.ifCond .ne 7, 3) := by decide +kernel
theorem dL_isNight_146 : decode cL_isNight 146 = .ok (.iconst 1, 1) := by decide +kernel
theorem dL_isNight_147 : decode cL_isNight 147 = .ok (.goto 4, 3) := by decide +kernel
theorem dL_isNight_150 : decode cL_isNight 150 = .ok (.iconst 0, 1) := by decide +kernel
theorem dL_isNight_151 : decode cL_isNight 151 = .ok (.iadd, 1) := by decide +kernel
theorem dL_isNight_152 : decode cL_isNight 152 = .ok (.istore 7, 2) := by decide +kernel
theorem dL_isNight_154 : decode cL_isNight 154 = .ok (.iload 8, 2) := by decide +kernel
theorem dL_isNight_156 : decode cL_isNight 156 = .ok (.aload_n 0, 1) := by decide +kernel
theorem dL_isNight_157 : decode cL_isNight 157 = .ok (.iload 10, 2) := by decide +kernel
theorem dL_isNight_159 : decode cL_isNight 159 = .ok (.iconst 1, 1) := by decide +kernel
theorem dL_isNight_160 : decode cL_isNight 160 = .ok (.invokevirtual 18, 3) := by decide +kernel
theorem dL_isNight_163 : decode cL_isNight 163 = .ok (.aload_n 0, 1) := by decide +kernel
theorem dL_isNight_164 : decode cL_isNight 164 = .ok (.iconst 0, 1) := by decide +kernel
theorem dL_isNight_165 : decode cL_isNight 165 = .ok (.invokevirtual 8, 3) := by decide +kernel
theorem dL_isNight_168 : decode cL_isNight 168 = .ok (.imul, 1) := by decide +kernel
theorem dL_isNight_169 : decode cL_isNight 169 = .ok (.bipush 100, 2) := by decide +kernel
theorem dL_isNight_171 : decode cL_isNight 171 = .ok (.idiv, 1) := by decide +kernel
theorem dL_isNight_172 : decode cL_isNight 172 = .ok (.iadd, 1) := by decide +kernel
theorem dL_isNight_173 : decode cL_isNight 173 = .ok (.istore 8, 2) := by decide +kernel
theorem dL_isNight_175 : decode cL_isNight 175 = .ok (.aload_n 0, 1) := by decide +kernel
theorem dL_isNight_176 : decode cL_isNight 176 = .ok (.iload 10, 2) := by decide +kernel
theorem dL_isNight_178 : decode cL_isNight 178 = .ok (.iconst 5, 1) := by decide +kernel
theorem dL_isNight_179 : decode cL_isNight 179 = .ok (.invokevirtual 18, 3) := by decide +kernel
theorem dL_isNight_182 : decode cL_isNight 182 = .ok (.istore 12, 2) := by decide +kernel
theorem dL_isNight_184 : decode cL_isNight 184 = .ok (.iload 11, 2) := by decide +kernel
theorem dL_isNight_186 : decode cL_isNight 186 = .ok (.ifCond .lt 51, 3) := by decide +kernel
theorem dL_isNight_189 : decode cL_isNight 189 = .ok (.iload 11, 2) := by decide +kernel
theorem dL_isNight_191 : decode cL_isNight 191 = .ok (.iconst 5, 1) := by decide +kernel
theorem dL_isNight_192 : decode cL_isNight 192 = .ok (.if_icmp .gt 45, 3) := by decide +kernel
theorem dL_isNight_195 : decode cL_isNight 195 = .ok (.iload 11, 2) := by decide +kernel
theorem dL_isNight_197 : decode cL_isNight 197 = .ok (.iconst 1, 1) := by decide +kernel
theorem dL_isNight_198 : decode cL_isNight 198 = .ok (.if_icmp .ne 7, 3) := by decide +kernel
theorem dL_isNight_201 : decode cL_isNight 201 = .ok (.iconst 1, 1) := by decide +kernel
theorem dL_isNight_202 : decode cL_isNight 202 = .ok (.goto 4, 3) := by decide +kernel
theorem dL_isNight_205 : decode cL_isNight 205 = .ok (.iconst 0, 1) := by decide +kernel
theorem dL_isNight_206 : decode cL_isNight 206 = .ok (.aload_n 0, 1) := by decide +kernel
theorem dL_isNight_207 : decode cL_isNight 207 = .ok (.iload 10, 2) := by decide +kernel
theorem dL_isNight_209 : decode cL_isNight 209 = .ok (.iconst 4, 1) := by decide +kernel
theorem dL_isNight_210 : decode cL_isNight 210 = .ok (.invokevirtual 18, 3) := by decide +kernel
theorem dL_isNight_213 : decode cL_isNight 213 = .ok (.iconst 1, 1) := by decide +kernel
theorem dL_isNight_214 : decode cL_isNight 214 = .ok (.if_icmp .ne 7, 3) := by decide +kernel
theorem dL_isNight_217 : decode cL_isNight 217 = .ok (.iconst 1, 1) := by decide +kernel
theorem dL_isNight_218 : decode cL_isNight 218 = .ok (.goto 4, 3) := by decide +kernel
theorem dL_isNight_221 : decode cL_isNight 221 = .ok (.iconst 0, 1) := by decide +kernel
theorem dL_isNight_222 : decode cL_isNight 222 = .ok (.if_icmp .ne 15, 3) := by decide +kernel
theorem dL_isNight_225 : decode cL_isNight 225 = .ok (.iload 11, 2) := by decide +kernel
theorem dL_isNight_227 : decode cL_isNight 227 = .ok (.iconst 2, 1) := by decide +kernel
theorem dL_isNight_228 : decode cL_isNight 228 = .ok (.if_icmp .ne 11, 3) := by decide +kernel
theorem dL_isNight_231 : decode cL_isNight 231 = .ok (.iload 12, 2) := by decide +kernel
theorem dL_isNight_233 : decode cL_isNight 233 = .ok (.iconst 2, 1) := by decide +kernel
theorem dL_isNight_234 : decode cL_isNight 234 = .ok (.if_icmp .ge 5, 3) := by decide +kernel
theorem dL_isNight_237 : decode cL_isNight 237 = .ok (.iconst 0, 1) := by decide +kernel
theorem dL_isNight_238 : decode cL_isNight 238 = .ok (.ireturn, 1) := by decide +kernel
theorem dL_isNight_239 : decode cL_isNight 239 = .ok (.iinc 9 1, 3) := by decide +kernel
theorem dL_isNight_242 : decode cL_isNight 242 = .ok (.goto (-174), 3) := by decide +kernel
theorem dL_isNight_245 : decode cL_isNight 245 = .ok (.aload_n 0, 1) := by decide +kernel
theorem dL_isNight_246 : decode cL_isNight 246 = .ok (.iconst 1, 1) := by decide +kernel
theorem dL_isNight_247 : decode cL_isNight 247 = .ok (.iconst 0, 1) := by decide +kernel
theorem dL_isNight_248 : decode cL_isNight 248 = .ok (.invokevirtual 25, 3) := by decide +kernel
theorem dL_isNight_251 : decode cL_isNight 251 = .ok (.iload 4, 2) := by decide +kernel
theorem dL_isNight_253 : decode cL_isNight 253 = .ok (.if_icmp .ne 61, 3) := by decide +kernel
theorem dL_isNight_256 : decode cL_isNight 256 = .ok (.aload_n 0, 1) := by decide +kernel
theorem dL_isNight_257 : decode cL_isNight 257 = .ok (.iconst 1, 1) := by decide +kernel
theorem dL_isNight_258 : decode cL_isNight 258 = .ok (.iconst 1, 1) := by decide +kernel
theorem dL_isNight_259 : decode cL_isNight 259 = .ok (.invokevirtual 25, 3) := by decide +kernel
theorem dL_isNight_262 : decode cL_isNight 262 = .ok (.iload 7, 2) := by decide +kernel
theorem dL_isNight_264 : decode cL_isNight 264 = .ok (.if_icmp .ne 50, 3) := by decide +kernel
theorem dL_isNight_267 : decode cL_isNight 267 = .ok (.aload_n 0, 1) := by decide +kernel
theorem dL_isNight_268 : decode cL_isNight 268 = .ok (.iconst 1, 1) := by decide +kernel
theorem dL_isNight_269 : decode cL_isNight 269 = .ok (.iconst 2, 1) := by decide +kernel
theorem dL_isNight_270 : decode cL_isNight 270 = .ok (.invokevirtual 25, 3) := by decide +kernel
theorem dL_isNight_273 : decode cL_isNight 273 = .ok (.iload 8, 2) := by decide +kernel
theorem dL_isNight_275 : decode cL_isNight 275 = .ok (.if_icmp .ne 39, 3) := by decide +kernel
theorem dL_isNight_278 : decode cL_isNight 278 = .ok (.aload_n 0, 1) := by decide +kernel
theorem dL_isNight_279 : decode cL_isNight 279 = .ok (.invokevirtual 28, 3) := by decide +kernel
theorem dL_isNight_282 : decode cL_isNight 282 = .ok (.iconst 1, 1) := by decide +kernel
theorem dL_isNight_283 : decode cL_isNight 283 = .ok (.if_icmp .ne 7, 3) := by decide +kernel
theorem dL_isNight_286 : decode cL_isNight 286 = .ok (.iconst 1, 1) := by decide +kernel
theorem dL_isNight_287 : decode cL_isNight 287 = .ok (.goto 4, 3) := by decide +kernel
theorem dL_isNight_290 : decode cL_isNight 290 = .ok (.iconst 0, 1) := by decide +kernel
theorem dL_isNight_291 : decode cL_isNight 291 = .ok (.iload 7, 2) := by decide +kernel
end
section
theorem dL_isNight_293 : decode cL_isNight 293 = .ok (.ifCond .le 7, 3) := by decide +kernel
theorem dL_isNight_296 : decode cL_isNight 296 = .ok (.iconst 1, 1) := by decide +kernel
theorem dL_isNight_297 : decode cL_isNight 297 = .ok (.goto 4, 3) := by decide +kernel
theorem dL_isNight_300 : decode cL_isNight 300 = .ok (.iconst 0, 1) := by decide +kernel
theorem dL_isNight_301 : decode cL_isNight 301 = .ok (.if_icmp .ne 13, 3) := by decide +kernel
theorem dL_isNight_304 : decode cL_isNight 304 = .ok (.iload 7, 2) := by decide +kernel
theorem dL_isNight_306 : decode cL_isNight 306 = .ok (.aload_n 0, 1) := by decide +kernel
theorem dL_isNight_307 : decode cL_isNight 307 = .ok (.iconst 3, 1) := by decide +kernel
theorem dL_isNight_308 : decode cL_isNight 308 = .ok (.invokevirtual 8, 3) := by decide +kernel
theorem dL_isNight_311 : decode cL_isNight 311 = .ok (.if_icmp .le 5, 3) := by decide +kernel
theorem dL_isNight_314 : decode cL_isNight 314 = .ok (.iconst 0, 1) := by decide +kernel
theorem dL_isNight_315 : decode cL_isNight 315 = .ok (.ireturn, 1) := by decide +kernel
theorem dL_isNight_316 : decode cL_isNight 316 = .ok (.aload_n 0, 1) := by decide +kernel
theorem dL_isNight_317 : decode cL_isNight 317 = .ok (.iconst 1, 1) := by decide +kernel
theorem dL_isNight_318 : decode cL_isNight 318 = .ok (.iconst 3, 1) := by decide +kernel
theorem dL_isNight_319 : decode cL_isNight 319 = .ok (.invokevirtual 25, 3) := by decide +kernel
theorem dL_isNight_322 : decode cL_isNight 322 = .ok (.istore 9, 2) := by decide +kernel
theorem dL_isNight_324 : decode cL_isNight 324 = .ok (.aload_n 0, 1) := by decide +kernel
theorem dL_isNight_325 : decode cL_isNight 325 = .ok (.iconst 1, 1) := by decide +kernel
theorem dL_isNight_326 : decode cL_isNight 326 = .ok (.iconst 5, 1) := by decide +kernel
theorem dL_isNight_327 : decode cL_isNight 327 = .ok (.invokevirtual 25, 3) := by decide +kernel
theorem dL_isNight_330 : decode cL_isNight 330 = .ok (.istore 10, 2) := by decide +kernel
theorem dL_isNight_332 : decode cL_isNight 332 = .ok (.aload_n 0, 1) := by decide +kernel
theorem dL_isNight_333 : decode cL_isNight 333 = .ok (.iconst 1, 1) := by decide +kernel
theorem dL_isNight_334 : decode cL_isNight 334 = .ok (.invokevirtual 32, 3) := by decide +kernel
theorem dL_isNight_337 : decode cL_isNight 337 = .ok (.iload 7, 2) := by decide +kernel
theorem dL_isNight_339 : decode cL_isNight 339 = .ok (.if_icmp .ne 64, 3) := by decide +kernel
theorem dL_isNight_342 : decode cL_isNight 342 = .ok (.aload_n 0, 1) := by decide +kernel
theorem dL_isNight_343 : decode cL_isNight 343 = .ok (.bipush 18, 2) := by decide +kernel
theorem dL_isNight_345 : decode cL_isNight 345 = .ok (.invokevirtual 8, 3) := by decide +kernel
theorem dL_isNight_348 : decode cL_isNight 348 = .ok (.iload 5, 2) := by decide +kernel
theorem dL_isNight_350 : decode cL_isNight 350 = .ok (.iload 4, 2) := by decide +kernel
theorem dL_isNight_352 : decode cL_isNight 352 = .ok (.iadd, 1) := by decide +kernel
theorem dL_isNight_353 : decode cL_isNight 353 = .ok (.if_icmp .ne 50, 3) := by decide +kernel
theorem dL_isNight_356 : decode cL_isNight 356 = .ok (.aload_n 0, 1) := by decide +kernel
theorem dL_isNight_357 : decode cL_isNight 357 = .ok (.bipush 21, 2) := by decide +kernel
theorem dL_isNight_359 : decode cL_isNight 359 = .ok (.invokevirtual 8, 3) := by decide +kernel
theorem dL_isNight_362 : decode cL_isNight 362 = .ok (.iload 6, 2) := by decide +kernel
theorem dL_isNight_364 : decode cL_isNight 364 = .ok (.iload 7, 2) := by decide +kernel
theorem dL_isNight_366 : decode cL_isNight 366 = .ok (.iadd, 1) := by decide +kernel
theorem dL_isNight_367 : decode cL_isNight 367 = .ok (.if_icmp .ne 36, 3) := by decide +kernel
theorem dL_isNight_370 : decode cL_isNight 370 = .ok (.aload_n 0, 1) := by decide +kernel
theorem dL_isNight_371 : decode cL_isNight 371 = .ok (.bipush 24, 2) := by decide +kernel
theorem dL_isNight_373 : decode cL_isNight 373 = .ok (.invokevirtual 8, 3) := by decide +kernel
theorem dL_isNight_376 : decode cL_isNight 376 = .ok (.iload 8, 2) := by decide +kernel
theorem dL_isNight_378 : decode cL_isNight 378 = .ok (.if_icmp .ne 25, 3) := by decide +kernel
theorem dL_isNight_381 : decode cL_isNight 381 = .ok (.aload_n 0, 1) := by decide +kernel
theorem dL_isNight_382 : decode cL_isNight 382 = .ok (.iconst 0, 1) := by decide +kernel
theorem dL_isNight_383 : decode cL_isNight 383 = .ok (.iconst 1, 1) := by decide +kernel
theorem dL_isNight_384 : decode cL_isNight 384 = .ok (.invokevirtual 22, 3) := by decide +kernel
theorem dL_isNight_387 : decode cL_isNight 387 = .ok (.iload 9, 2) := by decide +kernel
theorem dL_isNight_389 : decode cL_isNight 389 = .ok (.if_icmp .ne 14, 3) := by decide +kernel
theorem dL_isNight_392 : decode cL_isNight 392 = .ok (.aload_n 0, 1) := by decide +kernel
theorem dL_isNight_393 : decode cL_isNight 393 = .ok (.iconst 2, 1) := by decide +kernel
theorem dL_isNight_394 : decode cL_isNight 394 = .ok (.iconst 1, 1) := by decide +kernel
theorem dL_isNight_395 : decode cL_isNight 395 = .ok (.invokevirtual 22, 3) := by decide +kernel
theorem dL_isNight_398 : decode cL_isNight 398 = .ok (.iload 10, 2) := by decide +kernel
theorem dL_isNight_400 : decode cL_isNight 400 = .ok (.if_icmp .eq 5, 3) := by decide +kernel
theorem dL_isNight_403 : decode cL_isNight 403 = .ok (.iconst 0, 1) := by decide +kernel
theorem dL_isNight_404 : decode cL_isNight 404 = .ok (.ireturn, 1) := by decide +kernel
theorem dL_isNight_405 : decode cL_isNight 405 = .ok (.iconst 0, 1) := by decide +kernel
theorem dL_isNight_406 : decode cL_isNight 406 = .ok (.istore 11, 2) := by decide +kernel
theorem dL_isNight_408 : decode cL_isNight 408 = .ok (.iload 11, 2) := by decide +kernel
theorem dL_isNight_410 : decode cL_isNight 410 = .ok (.iload_n 3, 1) := by decide +kernel
theorem dL_isNight_411 : decode cL_isNight 411 = .ok (.if_icmp .ge 128, 3) := by decide +kernel
theorem dL_isNight_414 : decode cL_isNight 414 = .ok (.iload 11, 2) := by decide +kernel
theorem dL_isNight_416 : decode cL_isNight 416 = .ok (.bipush 24, 2) := by decide +kernel
theorem dL_isNight_418 : decode cL_isNight 418 = .ok (.if_icmp .ge 121, 3) := by decide +kernel
theorem dL_isNight_421 : decode cL_isNight 421 = .ok (.aload_n 0, 1) := by decide +kernel
theorem dL_isNight_422 : decode cL_isNight 422 = .ok (.aload_n 1, 1) := by decide +kernel
theorem dL_isNight_423 : decode cL_isNight 423 = .ok (.iload 11, 2) := by decide +kernel
theorem dL_isNight_425 : decode cL_isNight 425 = .ok (.iaload, 1) := by decide +kernel
theorem dL_isNight_426 : decode cL_isNight 426 = .ok (.iconst 2, 1) := by decide +kernel
theorem dL_isNight_427 : decode cL_isNight 427 = .ok (.invokevirtual 18, 3) := by decide +kernel
theorem dL_isNight_430 : decode cL_isNight 430 = .ok (.istore 12, 2) := by decide +kernel
theorem dL_isNight_432 : decode cL_isNight 432 = .ok (.aload_n 2, 1) := by decide +kernel
theorem dL_isNight_433 : decode cL_isNight 433 = .ok (.iload 11, 2) := by decide +kernel
theorem dL_isNight_435 : decode cL_isNight 435 = .ok (.iaload, 1) := by decide +kernel
theorem dL_isNight_436 : decode cL_isNight 436 = .ok (.iconst 4, 1) := by decide +kernel
theorem dL_isNight_437 : decode cL_isNight 437 = .ok (.idiv, 1) := by decide +kernel
theorem dL_isNight_438 : decode cL_isNight 438 = .ok (.iconst 2, 1) := by decide +kernel
theorem dL_isNight_439 : decode cL_isNight 439 = .ok (.irem, 1) := by decide +kernel
theorem dL_isNight_440 : decode cL_isNight 440 = .ok (.iconst 1, 1) := by decide +kernel
theorem dL_isNight_441 : decode cL_isNight 441 = .ok (.if_icmp .ne 7, 3) := by decide +kernel
theorem dL_isNight_444 : decode cL_isNight 444 = .ok (.iconst 1, 1) := by decide +kernel
theorem dL_isNight_445 : decode cL_isNight 445 = .ok (.goto 4, 3) := by decide +kernel
theorem dL_isNight_448 : decode cL_isNight 448 = .ok (.iconst 0, 1) := by decide +kernel
theorem dL_isNight_449 : decode cL_isNight 449 = .ok (.istore 13, 2) := by decide +kernel
theorem dL_isNight_451 : decode cL_isNight 451 = .ok (.aload_n 0, 1) := by decide +kernel
theorem dL_isNight_452 : decode cL_isNight 452 = .ok (.aload_n 1, 1) := by decide +kernel
theorem dL_isNight_453 : decode cL_isNight 453 = .ok (.iload 11, 2) := by decide +kernel
theorem dL_isNight_455 : decode cL_isNight 455 = .ok (.iaload, 1) := by decide +kernel
theorem dL_isNight_456 : decode cL_isNight 456 = .ok (.bipush 7, 2) := by decide +kernel
theorem dL_isNight_458 : decode cL_isNight 458 = .ok (.invokevirtual 18, 3) := by decide +kernel
theorem dL_isNight_461 : decode cL_isNight 461 = .ok (.aload_n 2, 1) := by decide +kernel
theorem dL_isNight_462 : decode cL_isNight 462 = .ok (.iload 11, 2) := by decide +kernel
theorem dL_isNight_464 : decode cL_isNight 464 = .ok (.iaload, 1) := by decide +kernel
theorem dL_isNight_465 : decode cL_isNight 465 = .ok (.bipush 8, 2) := by decide +kernel
theorem dL_isNight_467 : decode cL_isNight 467 = .ok (.idiv, 1) := by decide +kernel
theorem dL_isNight_468 : decode cL_isNight 468 = .ok (.iload 13, 2) := by decide +kernel
theorem dL_isNight_470 : decode cL_isNight 470 = .ok (.ifCond .eq 7, 3) := by decide +kernel
theorem dL_isNight_473 : decode cL_isNight 473 = .ok (.iconst 1, 1) := by decide +kernel
theorem dL_isNight_474 : decode cL_isNight 474 = .ok (.goto 4, 3) := by decide +kernel
theorem dL_isNight_477 : decode cL_isNight 477 = .ok (.iconst 0, 1) := by decide +kernel
theorem dL_isNight_478 : decode cL_isNight 478 = .ok (.iadd, 1) := by decide +kernel
theorem dL_isNight_479 : decode cL_isNight 479 = .ok (.if_icmp .ne 52, 3) := by decide +kernel
theorem dL_isNight_482 : decode cL_isNight 482 = .ok (.iload 12, 2) := by decide +kernel
theorem dL_isNight_484 : decode cL_isNight 484 = .ok (.aload_n 2, 1) := by decide +kernel
theorem dL_isNight_485 : decode cL_isNight 485 = .ok (.iload 11, 2) := by decide +kernel
theorem dL_isNight_487 : decode cL_isNight 487 = .ok (.iaload, 1) := by decide +kernel
theorem dL_isNight_488 : decode cL_isNight 488 = .ok (.iconst 4, 1) := by decide +kernel
theorem dL_isNight_489 : decode cL_isNight 489 = .ok (.irem, 1) := by decide +kernel
theorem dL_isNight_490 : decode cL_isNight 490 = .ok (.if_icmp .eq 7, 3) := by decide +kernel
theorem dL_isNight_493 : decode cL_isNight 493 = .ok (.iconst 1, 1) := by decide +kernel
theorem dL_isNight_494 : decode cL_isNight 494 = .ok (.goto 4, 3) := by decide +kernel
theorem dL_isNight_497 : decode cL_isNight 497 = .ok (.iconst 0, 1) := by decide +kernel
theorem dL_isNight_498 : decode cL_isNight 498 = .ok (.iload 13, 2) := by decide +kernel
theorem dL_isNight_500 : decode cL_isNight 500 = .ok (.if_icmp .ne 31, 3) := by decide +kernel
theorem dL_isNight_503 : decode cL_isNight 503 = .ok (.iload 13, 2) := by decide +kernel
theorem dL_isNight_505 : decode cL_isNight 505 = .ok (.ifCond .eq 28, 3) := by decide +kernel
theorem dL_isNight_508 : decode cL_isNight 508 = .ok (.iload 12, 2) := by decide +kernel
theorem dL_isNight_510 : decode cL_isNight 510 = .ok (.iconst 2, 1) := by decide +kernel
theorem dL_isNight_511 : decode cL_isNight 511 = .ok (.if_icmp .ne 22, 3) := by decide +kernel
theorem dL_isNight_514 : decode cL_isNight 514 = .ok (.aload_n 0, 1) := by decide +kernel
theorem dL_isNight_515 : decode cL_isNight 515 = .ok (.aload_n 1, 1) := by decide +kernel
theorem dL_isNight_516 : decode cL_isNight 516 = .ok (.iload 11, 2) := by decide +kernel
theorem dL_isNight_518 : decode cL_isNight 518 = .ok (.iaload, 1) := by decide +kernel
theorem dL_isNight_519 : decode cL_isNight 519 = .ok (.iconst 5, 1) := by decide +kernel
theorem dL_isNight_520 : decode cL_isNight 520 = .ok (.invokevirtual 18, 3) := by decide +kernel
theorem dL_isNight_523 : decode cL_isNight 523 = .ok (.aload_n 0, 1) := by decide +kernel
theorem dL_isNight_524 : decode cL_isNight 524 = .ok (.iconst 4, 1) := by decide +kernel
theorem dL_isNight_525 : decode cL_isNight 525 = .ok (.invokevirtual 8, 3) := by decide +kernel
theorem dL_isNight_528 : decode cL_isNight 528 = .ok (.if_icmp .eq 5, 3) := by decide +kernel
theorem dL_isNight_531 : decode cL_isNight 531 = .ok (.iconst 0, 1) := by decide +kernel
theorem dL_isNight_532 : decode cL_isNight 532 = .ok (.ireturn, 1) := by decide +kernel
theorem dL_isNight_533 : decode cL_isNight 533 = .ok (.iinc 11 1, 3) := by decide +kernel
theorem dL_isNight_536 : decode cL_isNight 536 = .ok (.goto (-128), 3) := by decide +kernel
theorem dL_isNight_539 : decode cL_isNight 539 = .ok (.iconst 1, 1) := by decide +kernel
theorem dL_isNight_540 : decode cL_isNight 540 = .ok (.ireturn, 1) := by decide +kernel
theorem dL_isRead_0 : decode cL_isRead 0 = .ok (.aload_n 0, 1) := by decide +kernel
theorem dL_isRead_1 : decode cL_isRead 1 = .ok (.iload_n 1, 1) := by decide +kernel
theorem dL_isRead_2 : decode cL_isRead 2 = .ok (.iconst 0, 1) := by decide +kernel
theorem dL_isRead_3 : decode cL_isRead 3 = .ok (.invokevirtual 18, 3) := by decide +kernel
theorem dL_isRead_6 : decode cL_isRead 6 = .ok (.ifCond .ge 19, 3) := by decide +kernel
theorem dL_isRead_9 : decode cL_isRead 9 = .ok (.aload_n 0, 1) := by decide +kernel
theorem dL_isRead_10 : decode cL_isRead 10 = .ok (.iload_n 1, 1) := by decide +kernel
theorem dL_isRead_11 : decode cL_isRead 11 = .ok (.iconst 1, 1) := by decide +kernel
theorem dL_isRead_12 : decode cL_isRead 12 = .ok (.invokevirtual 35, 3) := by decide +kernel
theorem dL_isRead_15 : decode cL_isRead 15 = .ok (.iconst (-1), 1) := by decide +kernel
theorem dL_isRead_16 : decode cL_isRead 16 = .ok (.if_icmp .ne 7, 3) := by decide +kernel
theorem dL_isRead_19 : decode cL_isRead 19 = .ok (.iconst 1, 1) := by decide +kernel
theorem dL_isRead_20 : decode cL_isRead 20 = .ok (.goto 4, 3) := by decide +kernel
theorem dL_isRead_23 : decode cL_isRead 23 = .ok (.iconst 0, 1) := by decide +kernel
theorem dL_isRead_24 : decode cL_isRead 24 = .ok (.ireturn, 1) := by decide +kernel
theorem dL_isRead_25 : decode cL_isRead 25 = .ok (.aload_n 0, 1) := by decide +kernel
theorem dL_isRead_26 : decode cL_isRead 26 = .ok (.iload_n 1, 1) := by decide +kernel
theorem dL_isRead_27 : decode cL_isRead 27 = .ok (.iconst 0, 1) := by decide +kernel
theorem dL_isRead_28 : decode cL_isRead 28 = .ok (.invokevirtual 18, 3) := by decide +kernel
theorem dL_isRead_31 : decode cL_isRead 31 = .ok (.istore_n 3, 1) := by decide +kernel
theorem dL_isRead_32 : decode cL_isRead 32 = .ok (.aload_n 0, 1) := by decide +kernel
theorem dL_isRead_33 : decode cL_isRead 33 = .ok (.iload_n 1, 1) := by decide +kernel
theorem dL_isRead_34 : decode cL_isRead 34 = .ok (.iconst 1, 1) := by decide +kernel
theorem dL_isRead_35 : decode cL_isRead 35 = .ok (.invokevirtual 18, 3) := by decide +kernel
theorem dL_isRead_38 : decode cL_isRead 38 = .ok (.istore 4, 2) := by decide +kernel
theorem dL_isRead_40 : decode cL_isRead 40 = .ok (.aload_n 0, 1) := by decide +kernel
theorem dL_isRead_41 : decode cL_isRead 41 = .ok (.iload_n 1, 1) := by decide +kernel
theorem dL_isRead_42 : decode cL_isRead 42 = .ok (.iconst 2, 1) := by decide +kernel
theorem dL_isRead_43 : decode cL_isRead 43 = .ok (.invokevirtual 18, 3) := by decide +kernel
theorem dL_isRead_46 : decode cL_isRead 46 = .ok (.istore 5, 2) := by decide +kernel
theorem dL_isRead_48 : decode cL_isRead 48 = .ok (.aload_n 0, 1) := by decide +kernel
theorem dL_isRead_49 : decode cL_isRead 49 = .ok (.iload_n 1, 1) := by decide +kernel
theorem dL_isRead_50 : decode cL_isRead 50 = .ok (.iconst 5, 1) := by decide +kernel
theorem dL_isRead_51 : decode cL_isRead 51 = .ok (.invokevirtual 18, 3) := by decide +kernel
theorem dL_isRead_54 : decode cL_isRead 54 = .ok (.istore 6, 2) := by decide +kernel
theorem dL_isRead_56 : decode cL_isRead 56 = .ok (.aload_n 0, 1) := by decide +kernel
theorem dL_isRead_57 : decode cL_isRead 57 = .ok (.iload_n 1, 1) := by decide +kernel
theorem dL_isRead_58 : decode cL_isRead 58 = .ok (.bipush 6, 2) := by decide +kernel
theorem dL_isRead_60 : decode cL_isRead 60 = .ok (.invokevirtual 18, 3) := by decide +kernel
theorem dL_isRead_63 : decode cL_isRead 63 = .ok (.istore 7, 2) := by decide +kernel
theorem dL_isRead_65 : decode cL_isRead 65 = .ok (.aload_n 0, 1) := by decide +kernel
theorem dL_isRead_66 : decode cL_isRead 66 = .ok (.bipush 19, 2) := by decide +kernel
theorem dL_isRead_68 : decode cL_isRead 68 = .ok (.invokevirtual 8, 3) := by decide +kernel
theorem dL_isRead_71 : decode cL_isRead 71 = .ok (.aload_n 0, 1) := by decide +kernel
theorem dL_isRead_72 : decode cL_isRead 72 = .ok (.bipush 20, 2) := by decide +kernel
theorem dL_isRead_74 : decode cL_isRead 74 = .ok (.invokevirtual 8, 3) := by decide +kernel
theorem dL_isRead_77 : decode cL_isRead 77 = .ok (.iadd, 1) := by decide +kernel
theorem dL_isRead_78 : decode cL_isRead 78 = .ok (.istore 8, 2) := by decide +kernel
theorem dL_isRead_80 : decode cL_isRead 80 = .ok (.aload_n 0, 1) := by decide +kernel
theorem dL_isRead_81 : decode cL_isRead 81 = .ok (.bipush 20, 2) := by decide +kernel
theorem dL_isRead_83 : decode cL_isRead 83 = .ok (.invokevirtual 8, 3) := by decide +kernel
theorem dL_isRead_86 : decode cL_isRead 86 = .ok (.istore 9, 2) := by decide +kernel
theorem dL_isRead_88 : decode cL_isRead 88 = .ok (.aload_n 0, 1) := by decide +kernel
theorem dL_isRead_89 : decode cL_isRead 89 = .ok (.bipush 22, 2) := by decide +kernel
theorem dL_isRead_91 : decode cL_isRead 91 = .ok (.invokevirtual 8, 3) := by decide +kernel
theorem dL_isRead_94 : decode cL_isRead 94 = .ok (.istore 10, 2) := by decide +kernel
theorem dL_isRead_96 : decode cL_isRead 96 = .ok (.aload_n 0, 1) := by decide +kernel
theorem dL_isRead_97 : decode cL_isRead 97 = .ok (.bipush 21, 2) := by decide +kernel
theorem dL_isRead_99 : decode cL_isRead 99 = .ok (.invokevirtual 8, 3) := by decide +kernel
theorem dL_isRead_102 : decode cL_isRead 102 = .ok (.istore 11, 2) := by decide +kernel
theorem dL_isRead_104 : decode cL_isRead 104 = .ok (.aload_n 0, 1) := by decide +kernel
theorem dL_isRead_105 : decode cL_isRead 105 = .ok (.iload_n 1, 1) := by decide +kernel
theorem dL_isRead_106 : decode cL_isRead 106 = .ok (.iload_n 2, 1) := by decide +kernel
theorem dL_isRead_107 : decode cL_isRead 107 = .ok (.invokevirtual 35, 3) := by decide +kernel
theorem dL_isRead_110 : decode cL_isRead 110 = .ok (.istore 12, 2) := by decide +kernel
theorem dL_isRead_112 : decode cL_isRead 112 = .ok (.iload 4, 2) := by decide +kernel
theorem dL_isRead_114 : decode cL_isRead 114 = .ok (.sipush 1000, 3) := by decide +kernel
theorem dL_isRead_117 : decode cL_isRead 117 = .ok (.iload_n 2, 1) := by decide +kernel
theorem dL_isRead_118 : decode cL_isRead 118 = .ok (.imul, 1) := by decide +kernel
theorem dL_isRead_119 : decode cL_isRead 119 = .ok (.iadd, 1) := by decide +kernel
theorem dL_isRead_120 : decode cL_isRead 120 = .ok (.ldc 38, 2) := by decide +kernel
theorem dL_isRead_122 : decode cL_isRead 122 = .ok (.if_icmp .le 8, 3) := by decide +kernel
theorem dL_isRead_125 : decode cL_isRead 125 = .ok (.ldc 38, 2) := by decide +kernel
theorem dL_isRead_127 : decode cL_isRead 127 = .ok (.goto 11, 3) := by decide +kernel
theorem dL_isRead_130 : decode cL_isRead 130 = .ok (.iload 4, 2) := by decide +kernel
theorem dL_isRead_132 : decode cL_isRead 132 = .ok (.sipush 1000, 3) := by decide +kernel
theorem dL_isRead_135 : decode cL_isRead 135 = .ok (.iload_n 2, 1) := by decide +kernel
theorem dL_isRead_136 : decode cL_isRead 136 = .ok (.imul, 1) := by decide +kernel
theorem dL_isRead_137 : decode cL_isRead 137 = .ok (.iadd, 1) := by decide +kernel
theorem dL_isRead_138 : decode cL_isRead 138 = .ok (.istore 13, 2) := by decide +kernel
theorem dL_isRead_140 : decode cL_isRead 140 = .ok (.iload 12, 2) := by decide +kernel
theorem dL_isRead_142 : decode cL_isRead 142 = .ok (.ifCond .lt 96, 3) := by decide +kernel
theorem dL_isRead_145 : decode cL_isRead 145 = .ok (.aload_n 0, 1) := by decide +kernel
theorem dL_isRead_146 : decode cL_isRead 146 = .ok (.bipush 19, 2) := by decide +kernel
theorem dL_isRead_148 : decode cL_isRead 148 = .ok (.invokevirtual 8, 3) := by decide +kernel
theorem dL_isRead_151 : decode cL_isRead 151 = .ok (.aload_n 0, 1) := by decide +kernel
theorem dL_isRead_152 : decode cL_isRead 152 = .ok (.bipush 20, 2) := by decide +kernel
theorem dL_isRead_154 : decode cL_isRead 154 = .ok (.invokevirtual 8, 3) := by decide +kernel
theorem dL_isRead_157 : decode cL_isRead 157 = .ok (.iadd, 1) := by decide +kernel
theorem dL_isRead_158 : decode cL_isRead 158 = .ok (.iload 8, 2) := by decide +kernel
theorem dL_isRead_160 : decode cL_isRead 160 = .ok (.iload 12, 2) := by decide +kernel
theorem dL_isRead_162 : decode cL_isRead 162 = .ok (.iadd, 1) := by decide +kernel
theorem dL_isRead_163 : decode cL_isRead 163 = .ok (.if_icmp .ne 75, 3) := by decide +kernel
theorem dL_isRead_166 : decode cL_isRead 166 = .ok (.aload_n 0, 1) := by decide +kernel
theorem dL_isRead_167 : decode cL_isRead 167 = .ok (.bipush 20, 2) := by decide +kernel
theorem dL_isRead_169 : decode cL_isRead 169 = .ok (.invokevirtual 8, 3) := by decide +kernel
theorem dL_isRead_172 : decode cL_isRead 172 = .ok (.iload 9, 2) := by decide +kernel
theorem dL_isRead_174 : decode cL_isRead 174 = .ok (.iload 5, 2) := by decide +kernel
theorem dL_isRead_176 : decode cL_isRead 176 = .ok (.iconst 2, 1) := by decide +kernel
theorem dL_isRead_177 : decode cL_isRead 177 = .ok (.if_icmp .ne 16, 3) := by decide +kernel
theorem dL_isRead_180 : decode cL_isRead 180 = .ok (.iload_n 3, 1) := by decide +kernel
theorem dL_isRead_181 : decode cL_isRead 181 = .ok (.aload_n 0, 1) := by decide +kernel
theorem dL_isRead_182 : decode cL_isRead 182 = .ok (.iconst 5, 1) := by decide +kernel
theorem dL_isRead_183 : decode cL_isRead 183 = .ok (.invokevirtual 8, 3) := by decide +kernel
theorem dL_isRead_186 : decode cL_isRead 186 = .ok (.imul, 1) := by decide +kernel
theorem dL_isRead_187 : decode cL_isRead 187 = .ok (.iload 6, 2) := by decide +kernel
theorem dL_isRead_189 : decode cL_isRead 189 = .ok (.imul, 1) := by decide +kernel
theorem dL_isRead_190 : decode cL_isRead 190 = .ok (.goto 4, 3) := by decide +kernel
theorem dL_isRead_193 : decode cL_isRead 193 = .ok (.iconst 0, 1) := by decide +kernel
theorem dL_isRead_194 : decode cL_isRead 194 = .ok (.iadd, 1) := by decide +kernel
theorem dL_isRead_195 : decode cL_isRead 195 = .ok (.if_icmp .ne 43, 3) := by decide +kernel
theorem dL_isRead_198 : decode cL_isRead 198 = .ok (.aload_n 0, 1) := by decide +kernel
theorem dL_isRead_199 : decode cL_isRead 199 = .ok (.iload_n 1, 1) := by decide +kernel
theorem dL_isRead_200 : decode cL_isRead 200 = .ok (.iconst 1, 1) := by decide +kernel
theorem dL_isRead_201 : decode cL_isRead 201 = .ok (.invokevirtual 18, 3) := by decide +kernel
theorem dL_isRead_204 : decode cL_isRead 204 = .ok (.iload 13, 2) := by decide +kernel
theorem dL_isRead_206 : decode cL_isRead 206 = .ok (.if_icmp .ne 32, 3) := by decide +kernel
theorem dL_isRead_209 : decode cL_isRead 209 = .ok (.aload_n 0, 1) := by decide +kernel
theorem dL_isRead_210 : decode cL_isRead 210 = .ok (.iload_n 1, 1) := by decide +kernel
theorem dL_isRead_211 : decode cL_isRead 211 = .ok (.bipush 6, 2) := by decide +kernel
theorem dL_isRead_213 : decode cL_isRead 213 = .ok (.invokevirtual 18, 3) := by decide +kernel
theorem dL_isRead_216 : decode cL_isRead 216 = .ok (.iload 7, 2) := by decide +kernel
theorem dL_isRead_218 : decode cL_isRead 218 = .ok (.iload_n 2, 1) := by decide +kernel
theorem dL_isRead_219 : decode cL_isRead 219 = .ok (.iadd, 1) := by decide +kernel
theorem dL_isRead_220 : decode cL_isRead 220 = .ok (.if_icmp .ne 18, 3) := by decide +kernel
theorem dL_isRead_223 : decode cL_isRead 223 = .ok (.aload_n 0, 1) := by decide +kernel
theorem dL_isRead_224 : decode cL_isRead 224 = .ok (.bipush 21, 2) := by decide +kernel
theorem dL_isRead_226 : decode cL_isRead 226 = .ok (.invokevirtual 8, 3) := by decide +kernel
theorem dL_isRead_229 : decode cL_isRead 229 = .ok (.iload 11, 2) := by decide +kernel
theorem dL_isRead_231 : decode cL_isRead 231 = .ok (.if_icmp .ne 7, 3) := by decide +kernel
theorem dL_isRead_234 : decode cL_isRead 234 = .ok (.iconst 1, 1) := by decide +kernel
theorem dL_isRead_235 : decode cL_isRead 235 = .ok (.goto 4, 3) := by decide +kernel
theorem dL_isRead_238 : decode cL_isRead 238 = .ok (.iconst 0, 1) := by decide +kernel
theorem dL_isRead_239 : decode cL_isRead 239 = .ok (.istore 14, 2) := by decide +kernel
theorem dL_isRead_241 : decode cL_isRead 241 = .ok (.aload_n 0, 1) := by decide +kernel
theorem dL_isRead_242 : decode cL_isRead 242 = .ok (.iload_n 1, 1) := by decide +kernel
theorem dL_isRead_243 : decode cL_isRead 243 = .ok (.iconst 2, 1) := by decide +kernel
theorem dL_isRead_244 : decode cL_isRead 244 = .ok (.invokevirtual 18, 3) := by decide +kernel
theorem dL_isRead_247 : decode cL_isRead 247 = .ok (.istore 15, 2) := by decide +kernel
theorem dL_isRead_249 : decode cL_isRead 249 = .ok (.iload 5, 2) := by decide +kernel
theorem dL_isRead_251 : decode cL_isRead 251 = .ok (.iconst 2, 1) := by decide +kernel
theorem dL_isRead_252 : decode cL_isRead 252 = .ok (.if_icmp .ge 50, 3) := by decide +kernel
theorem dL_isRead_255 : decode cL_isRead 255 = .ok (.iload 14, 2) := by decide +kernel
theorem dL_isRead_257 : decode cL_isRead 257 = .ok (.ifCond .eq 43, 3) := by decide +kernel
theorem dL_isRead_260 : decode cL_isRead 260 = .ok (.iload 15, 2) := by decide +kernel
theorem dL_isRead_262 : decode cL_isRead 262 = .ok (.iload 5, 2) := by decide +kernel
theorem dL_isRead_264 : decode cL_isRead 264 = .ok (.if_icmp .ne 36, 3) := by decide +kernel
theorem dL_isRead_267 : decode cL_isRead 267 = .ok (.iload 12, 2) := by decide +kernel
theorem dL_isRead_269 : decode cL_isRead 269 = .ok (.iload_n 2, 1) := by decide +kernel
theorem dL_isRead_270 : decode cL_isRead 270 = .ok (.iload_n 3, 1) := by decide +kernel
theorem dL_isRead_271 : decode cL_isRead 271 = .ok (.imul, 1) := by decide +kernel
theorem dL_isRead_272 : decode cL_isRead 272 = .ok (.aload_n 0, 1) := by decide +kernel
theorem dL_isRead_273 : decode cL_isRead 273 = .ok (.bipush 12, 2) := by decide +kernel
theorem dL_isRead_275 : decode cL_isRead 275 = .ok (.iload 5, 2) := by decide +kernel
theorem dL_isRead_277 : decode cL_isRead 277 = .ok (.iadd, 1) := by decide +kernel
theorem dL_isRead_278 : decode cL_isRead 278 = .ok (.invokevirtual 8, 3) := by decide +kernel
theorem dL_isRead_281 : decode cL_isRead 281 = .ok (.imul, 1) := by decide +kernel
theorem dL_isRead_282 : decode cL_isRead 282 = .ok (.if_icmp .ne 18, 3) := by decide +kernel
theorem dL_isRead_285 : decode cL_isRead 285 = .ok (.aload_n 0, 1) := by decide +kernel
theorem dL_isRead_286 : decode cL_isRead 286 = .ok (.bipush 22, 2) := by decide +kernel
theorem dL_isRead_288 : decode cL_isRead 288 = .ok (.invokevirtual 8, 3) := by decide +kernel
theorem dL_isRead_291 : decode cL_isRead 291 = .ok (.iload 10, 2) := by decide +kernel
theorem dL_isRead_293 : decode cL_isRead 293 = .ok (.if_icmp .ne 7, 3) := by decide +kernel
theorem dL_isRead_296 : decode cL_isRead 296 = .ok (.iconst 1, 1) := by decide +kernel
theorem dL_isRead_297 : decode cL_isRead 297 = .ok (.goto 4, 3) := by decide +kernel
theorem dL_isRead_300 : decode cL_isRead 300 = .ok (.iconst 0, 1) := by decide +kernel
theorem dL_isRead_301 : decode cL_isRead 301 = .ok (.ireturn, 1) := by decide +kernel
theorem dL_isRead_302 : decode cL_isRead 302 = .ok (.iload 14, 2) := by decide +kernel
theorem dL_isRead_304 : decode cL_isRead 304 = .ok (.ifCond .eq 85, 3) := by decide +kernel
theorem dL_isRead_307 : decode cL_isRead 307 = .ok (.aload_n 0, 1) := by decide +kernel
theorem dL_isRead_308 : decode cL_isRead 308 = .ok (.iload_n 1, 1) := by decide +kernel
theorem dL_isRead_309 : decode cL_isRead 309 = .ok (.iconst 5, 1) := by decide +kernel
theorem dL_isRead_310 : decode cL_isRead 310 = .ok (.invokevirtual 18, 3) := by decide +kernel
theorem dL_isRead_313 : decode cL_isRead 313 = .ok (.ifCond .ne 76, 3) := by decide +kernel
theorem dL_isRead_316 : decode cL_isRead 316 = .ok (.iload 15, 2) := by decide +kernel
theorem dL_isRead_318 : decode cL_isRead 318 = .ok (.iconst 2, 1) := by decide +kernel
theorem dL_isRead_319 : decode cL_isRead 319 = .ok (.if_icmp .ne 53, 3) := by decide +kernel
theorem dL_isRead_322 : decode cL_isRead 322 = .ok (.aload_n 0, 1) := by decide +kernel
theorem dL_isRead_323 : decode cL_isRead 323 = .ok (.bipush 22, 2) := by decide +kernel
theorem dL_isRead_325 : decode cL_isRead 325 = .ok (.invokevirtual 8, 3) := by decide +kernel
theorem dL_isRead_328 : decode cL_isRead 328 = .ok (.iload 10, 2) := by decide +kernel
theorem dL_isRead_330 : decode cL_isRead 330 = .ok (.iload_n 2, 1) := by decide +kernel
theorem dL_isRead_331 : decode cL_isRead 331 = .ok (.iadd, 1) := by decide +kernel
theorem dL_isRead_332 : decode cL_isRead 332 = .ok (.if_icmp .ne 57, 3) := by decide +kernel
theorem dL_isRead_335 : decode cL_isRead 335 = .ok (.aload_n 0, 1) := by decide +kernel
theorem dL_isRead_336 : decode cL_isRead 336 = .ok (.iconst 0, 1) := by decide +kernel
theorem dL_isRead_337 : decode cL_isRead 337 = .ok (.iconst 1, 1) := by decide +kernel
theorem dL_isRead_338 : decode cL_isRead 338 = .ok (.invokevirtual 22, 3) := by decide +kernel
theorem dL_isRead_341 : decode cL_isRead 341 = .ok (.iload_n 3, 1) := by decide +kernel
theorem dL_isRead_342 : decode cL_isRead 342 = .ok (.iadd, 1) := by decide +kernel
theorem dL_isRead_343 : decode cL_isRead 343 = .ok (.aload_n 0, 1) := by decide +kernel
theorem dL_isRead_344 : decode cL_isRead 344 = .ok (.iconst 0, 1) := by decide +kernel
theorem dL_isRead_345 : decode cL_isRead 345 = .ok (.iconst 0, 1) := by decide +kernel
theorem dL_isRead_346 : decode cL_isRead 346 = .ok (.invokevirtual 22, 3) := by decide +kernel
theorem dL_isRead_349 : decode cL_isRead 349 = .ok (.if_icmp .le 40, 3) := by decide +kernel
theorem dL_isRead_352 : decode cL_isRead 352 = .ok (.aload_n 0, 1) := by decide +kernel
theorem dL_isRead_353 : decode cL_isRead 353 = .ok (.iconst 1, 1) := by decide +kernel
theorem dL_isRead_354 : decode cL_isRead 354 = .ok (.iconst 1, 1) := by decide +kernel
theorem dL_isRead_355 : decode cL_isRead 355 = .ok (.invokevirtual 22, 3) := by decide +kernel
theorem dL_isRead_358 : decode cL_isRead 358 = .ok (.iload_n 3, 1) := by decide +kernel
theorem dL_isRead_359 : decode cL_isRead 359 = .ok (.iadd, 1) := by decide +kernel
theorem dL_isRead_360 : decode cL_isRead 360 = .ok (.aload_n 0, 1) := by decide +kernel
theorem dL_isRead_361 : decode cL_isRead 361 = .ok (.iconst 1, 1) := by decide +kernel
theorem dL_isRead_362 : decode cL_isRead 362 = .ok (.iconst 0, 1) := by decide +kernel
theorem dL_isRead_363 : decode cL_isRead 363 = .ok (.invokevirtual 22, 3) := by decide +kernel
theorem dL_isRead_366 : decode cL_isRead 366 = .ok (.if_icmp .le 23, 3) := by decide +kernel
theorem dL_isRead_369 : decode cL_isRead 369 = .ok (.goto 16, 3) := by decide +kernel
theorem dL_isRead_372 : decode cL_isRead 372 = .ok (.aload_n 0, 1) := by decide +kernel
theorem dL_isRead_373 : decode cL_isRead 373 = .ok (.bipush 22, 2) := by decide +kernel
theorem dL_isRead_375 : decode cL_isRead 375 = .ok (.invokevirtual 8, 3) := by decide +kernel
theorem dL_isRead_378 : decode cL_isRead 378 = .ok (.iload 10, 2) := by decide +kernel
theorem dL_isRead_380 : decode cL_isRead 380 = .ok (.iconst 1, 1) := by decide +kernel
theorem dL_isRead_381 : decode cL_isRead 381 = .ok (.iadd, 1) := by decide +kernel
theorem dL_isRead_382 : decode cL_isRead 382 = .ok (.if_icmp .ne 7, 3) := by decide +kernel
theorem dL_isRead_385 : decode cL_isRead 385 = .ok (.iconst 1, 1) := by decide +kernel
theorem dL_isRead_386 : decode cL_isRead 386 = .ok (.goto 4, 3) := by decide +kernel
theorem dL_isRead_389 : decode cL_isRead 389 = .ok (.iconst 0, 1) := by decide +kernel
theorem dL_isRead_390 : decode cL_isRead 390 = .ok (.ireturn, 1) := by decide +kernel
theorem dL_isBest_0 : decode cL_isBest 0 = .ok (.aload_n 0, 1) := by decide +kernel
theorem dL_isBest_1 : decode cL_isBest 1 = .ok (.iload_n 1, 1) := by decide +kernel
theorem dL_isBest_2 : decode cL_isBest 2 = .ok (.iconst 0, 1) := by decide +kernel
theorem dL_isBest_3 : decode cL_isBest 3 = .ok (.invokevirtual 39, 3) := by decide +kernel
theorem dL_isBest_6 : decode cL_isBest 6 = .ok (.istore_n 2, 1) := by decide +kernel
theorem dL_isBest_7 : decode cL_isBest 7 = .ok (.aload_n 0, 1) := by decide +kernel
theorem dL_isBest_8 : decode cL_isBest 8 = .ok (.iload_n 1, 1) := by decide +kernel
theorem dL_isBest_9 : decode cL_isBest 9 = .ok (.iconst 1, 1) := by decide +kernel
theorem dL_isBest_10 : decode cL_isBest 10 = .ok (.invokevirtual 39, 3) := by decide +kernel
theorem dL_isBest_13 : decode cL_isBest 13 = .ok (.istore_n 3, 1) := by decide +kernel
theorem dL_isBest_14 : decode cL_isBest 14 = .ok (.aload_n 0, 1) := by decide +kernel
theorem dL_isBest_15 : decode cL_isBest 15 = .ok (.iconst 1, 1) := by decide +kernel
theorem dL_isBest_16 : decode cL_isBest 16 = .ok (.invokevirtual 8, 3) := by decide +kernel
theorem dL_isBest_19 : decode cL_isBest 19 = .ok (.istore 4, 2) := by decide +kernel
theorem dL_isBest_21 : decode cL_isBest 21 = .ok (.iload_n 2, 1) := by decide +kernel
theorem dL_isBest_22 : decode cL_isBest 22 = .ok (.sipush 500, 3) := by decide +kernel
theorem dL_isBest_25 : decode cL_isBest 25 = .ok (.irem, 1) := by decide +kernel
theorem dL_isBest_26 : decode cL_isBest 26 = .ok (.ifCond .ne 23, 3) := by decide +kernel
theorem dL_isBest_29 : decode cL_isBest 29 = .ok (.iload_n 2, 1) := by decide +kernel
theorem dL_isBest_30 : decode cL_isBest 30 = .ok (.aload_n 0, 1) := by decide +kernel
theorem dL_isBest_31 : decode cL_isBest 31 = .ok (.iconst 2, 1) := by decide +kernel
theorem dL_isBest_32 : decode cL_isBest 32 = .ok (.invokevirtual 8, 3) := by decide +kernel
theorem dL_isBest_35 : decode cL_isBest 35 = .ok (.if_icmp .lt 14, 3) := by decide +kernel
theorem dL_isBest_38 : decode cL_isBest 38 = .ok (.iload_n 2, 1) := by decide +kernel
theorem dL_isBest_39 : decode cL_isBest 39 = .ok (.sipush 20000, 3) := by decide +kernel
theorem dL_isBest_42 : decode cL_isBest 42 = .ok (.if_icmp .gt 7, 3) := by decide +kernel
theorem dL_isBest_45 : decode cL_isBest 45 = .ok (.iconst 1, 1) := by decide +kernel
theorem dL_isBest_46 : decode cL_isBest 46 = .ok (.goto 4, 3) := by decide +kernel
theorem dL_isBest_49 : decode cL_isBest 49 = .ok (.iconst 0, 1) := by decide +kernel
theorem dL_isBest_50 : decode cL_isBest 50 = .ok (.istore 5, 2) := by decide +kernel
theorem dL_isBest_52 : decode cL_isBest 52 = .ok (.iconst 0, 1) := by decide +kernel
theorem dL_isBest_53 : decode cL_isBest 53 = .ok (.istore 6, 2) := by decide +kernel
theorem dL_isBest_55 : decode cL_isBest 55 = .ok (.iload 6, 2) := by decide +kernel
theorem dL_isBest_57 : decode cL_isBest 57 = .ok (.sipush 20000, 3) := by decide +kernel
theorem dL_isBest_60 : decode cL_isBest 60 = .ok (.if_icmp .gt 94, 3) := by decide +kernel
theorem dL_isBest_63 : decode cL_isBest 63 = .ok (.iload 5, 2) := by decide +kernel
theorem dL_isBest_65 : decode cL_isBest 65 = .ok (.ifCond .eq 89, 3) := by decide +kernel
theorem dL_isBest_68 : decode cL_isBest 68 = .ok (.iload 6, 2) := by decide +kernel
theorem dL_isBest_70 : decode cL_isBest 70 = .ok (.aload_n 0, 1) := by decide +kernel
theorem dL_isBest_71 : decode cL_isBest 71 = .ok (.iconst 2, 1) := by decide +kernel
theorem dL_isBest_72 : decode cL_isBest 72 = .ok (.invokevirtual 8, 3) := by decide +kernel
theorem dL_isBest_75 : decode cL_isBest 75 = .ok (.if_icmp .lt 70, 3) := by decide +kernel
theorem dL_isBest_78 : decode cL_isBest 78 = .ok (.aload_n 0, 1) := by decide +kernel
theorem dL_isBest_79 : decode cL_isBest 79 = .ok (.iconst 1, 1) := by decide +kernel
theorem dL_isBest_80 : decode cL_isBest 80 = .ok (.iload 6, 2) := by decide +kernel
theorem dL_isBest_82 : decode cL_isBest 82 = .ok (.invokevirtual 42, 3) := by decide +kernel
theorem dL_isBest_85 : decode cL_isBest 85 = .ok (.istore 7, 2) := by decide +kernel
theorem dL_isBest_87 : decode cL_isBest 87 = .ok (.aload_n 0, 1) := by decide +kernel
theorem dL_isBest_88 : decode cL_isBest 88 = .ok (.iload_n 1, 1) := by decide +kernel
theorem dL_isBest_89 : decode cL_isBest 89 = .ok (.iconst 0, 1) := by decide +kernel
theorem dL_isBest_90 : decode cL_isBest 90 = .ok (.invokevirtual 25, 3) := by decide +kernel
theorem dL_isBest_93 : decode cL_isBest 93 = .ok (.istore 8, 2) := by decide +kernel
theorem dL_isBest_95 : decode cL_isBest 95 = .ok (.iload 7, 2) := by decide +kernel
theorem dL_isBest_97 : decode cL_isBest 97 = .ok (.bipush (-4), 2) := by decide +kernel
theorem dL_isBest_99 : decode cL_isBest 99 = .ok (.if_icmp .eq 43, 3) := by decide +kernel
theorem dL_isBest_102 : decode cL_isBest 102 = .ok (.iload 6, 2) := by decide +kernel
theorem dL_isBest_104 : decode cL_isBest 104 = .ok (.iload_n 2, 1) := by decide +kernel
theorem dL_isBest_105 : decode cL_isBest 105 = .ok (.if_icmp .ge 12, 3) := by decide +kernel
theorem dL_isBest_108 : decode cL_isBest 108 = .ok (.iload 8, 2) := by decide +kernel
theorem dL_isBest_110 : decode cL_isBest 110 = .ok (.iload_n 3, 1) := by decide +kernel
theorem dL_isBest_111 : decode cL_isBest 111 = .ok (.if_icmp .le 31, 3) := by decide +kernel
theorem dL_isBest_114 : decode cL_isBest 114 = .ok (.goto 24, 3) := by decide +kernel
theorem dL_isBest_117 : decode cL_isBest 117 = .ok (.iload 6, 2) := by decide +kernel
theorem dL_isBest_119 : decode cL_isBest 119 = .ok (.iload_n 2, 1) := by decide +kernel
theorem dL_isBest_120 : decode cL_isBest 120 = .ok (.if_icmp .ne 12, 3) := by decide +kernel
theorem dL_isBest_123 : decode cL_isBest 123 = .ok (.iload 8, 2) := by decide +kernel
theorem dL_isBest_125 : decode cL_isBest 125 = .ok (.iload_n 3, 1) := by decide +kernel
theorem dL_isBest_126 : decode cL_isBest 126 = .ok (.if_icmp .ne 16, 3) := by decide +kernel
theorem dL_isBest_129 : decode cL_isBest 129 = .ok (.goto 9, 3) := by decide +kernel
theorem dL_isBest_132 : decode cL_isBest 132 = .ok (.iload 8, 2) := by decide +kernel
theorem dL_isBest_134 : decode cL_isBest 134 = .ok (.iload_n 3, 1) := by decide +kernel
theorem dL_isBest_135 : decode cL_isBest 135 = .ok (.if_icmp .lt 7, 3) := by decide +kernel
theorem dL_isBest_138 : decode cL_isBest 138 = .ok (.iconst 1, 1) := by decide +kernel
theorem dL_isBest_139 : decode cL_isBest 139 = .ok (.goto 4, 3) := by decide +kernel
theorem dL_isBest_142 : decode cL_isBest 142 = .ok (.iconst 0, 1) := by decide +kernel
theorem dL_isBest_143 : decode cL_isBest 143 = .ok (.istore 5, 2) := by decide +kernel
theorem dL_isBest_145 : decode cL_isBest 145 = .ok (.iinc 6 500, 6) := by decide +kernel
theorem dL_isBest_151 : decode cL_isBest 151 = .ok (.goto (-96), 3) := by decide +kernel
theorem dL_isBest_154 : decode cL_isBest 154 = .ok (.aload_n 0, 1) := by decide +kernel
theorem dL_isBest_155 : decode cL_isBest 155 = .ok (.iconst 1, 1) := by decide +kernel
theorem dL_isBest_156 : decode cL_isBest 156 = .ok (.iload 4, 2) := by decide +kernel
theorem dL_isBest_158 : decode cL_isBest 158 = .ok (.invokevirtual 42, 3) := by decide +kernel
theorem dL_isBest_161 : decode cL_isBest 161 = .ok (.istore 6, 2) := by decide +kernel
theorem dL_isBest_163 : decode cL_isBest 163 = .ok (.iload 5, 2) := by decide +kernel
theorem dL_isBest_165 : decode cL_isBest 165 = .ok (.ifCond .eq 17, 3) := by decide +kernel
theorem dL_isBest_168 : decode cL_isBest 168 = .ok (.aload_n 0, 1) := by decide +kernel
theorem dL_isBest_169 : decode cL_isBest 169 = .ok (.iconst 1, 1) := by decide +kernel
theorem dL_isBest_170 : decode cL_isBest 170 = .ok (.invokevirtual 8, 3) := by decide +kernel
theorem dL_isBest_173 : decode cL_isBest 173 = .ok (.iload 4, 2) := by decide +kernel
theorem dL_isBest_175 : decode cL_isBest 175 = .ok (.if_icmp .ne 7, 3) := by decide +kernel
theorem dL_isBest_178 : decode cL_isBest 178 = .ok (.iconst 1, 1) := by decide +kernel
theorem dL_isBest_179 : decode cL_isBest 179 = .ok (.goto 4, 3) := by decide +kernel
theorem dL_isBest_182 : decode cL_isBest 182 = .ok (.iconst 0, 1) := by decide +kernel
theorem dL_isBest_183 : decode cL_isBest 183 = .ok (.ireturn, 1) := by decide +kernel
theorem dL_does_0 : decode cL_does 0 = .ok (.aload_n 0, 1) := by decide +kernel
theorem dL_does_1 : decode cL_does 1 = .ok (.bipush 15, 2) := by decide +kernel
theorem dL_does_3 : decode cL_does 3 = .ok (.invokevirtual 8, 3) := by decide +kernel
theorem dL_does_6 : decode cL_does 6 = .ok (.istore_n 3, 1) := by decide +kernel
theorem dL_does_7 : decode cL_does 7 = .ok (.iload_n 3, 1) := by decide +kernel
theorem dL_does_8 : decode cL_does 8 = .ok (.ifCond .ne 7, 3) := by decide +kernel
theorem dL_does_11 : decode cL_does 11 = .ok (.iconst 0, 1) := by decide +kernel
theorem dL_does_12 : decode cL_does 12 = .ok (.goto 14, 3) := by decide +kernel
theorem dL_does_15 : decode cL_does 15 = .ok (.aload_n 0, 1) := by decide +kernel
theorem dL_does_16 : decode cL_does 16 = .ok (.iload_n 1, 1) := by decide +kernel
theorem dL_does_17 : decode cL_does 17 = .ok (.iconst 4, 1) := by decide +kernel
theorem dL_does_18 : decode cL_does 18 = .ok (.ishr, 1) := by decide +kernel
theorem dL_does_19 : decode cL_does 19 = .ok (.iload_n 3, 1) := by decide +kernel
theorem dL_does_20 : decode cL_does 20 = .ok (.invokestatic 45, 3) := by decide +kernel
theorem dL_does_23 : decode cL_does 23 = .ok (.invokevirtual 15, 3) := by decide +kernel
theorem dL_does_26 : decode cL_does 26 = .ok (.istore 4, 2) := by decide +kernel
theorem dL_does_28 : decode cL_does 28 = .ok (.iload_n 1, 1) := by decide +kernel
theorem dL_does_29 : decode cL_does 29 = .ok (.bipush 16, 2) := by decide +kernel
theorem dL_does_31 : decode cL_does 31 = .ok (.invokestatic 45, 3) := by decide +kernel
end
section
theorem dL_does_34 : decode cL_does 34 = .ok (.tableswitch 707 0 11 #[62, 62, 62, 62, 233, 279, 374, 374, 374, 374, 405, 628], 62) := by decide +kernel
theorem dL_does_96 : decode cL_does 96 = .ok (.iconst 1, 1) := by decide +kernel
theorem dL_does_97 : decode cL_does 97 = .ok (.iload_n 1, 1) := by decide +kernel
theorem dL_does_98 : decode cL_does 98 = .ok (.iconst 4, 1) := by decide +kernel
theorem dL_does_99 : decode cL_does 99 = .ok (.ishr, 1) := by decide +kernel
theorem dL_does_100 : decode cL_does 100 = .ok (.bipush 9, 2) := by decide +kernel
theorem dL_does_102 : decode cL_does 102 = .ok (.invokestatic 45, 3) := by decide +kernel
theorem dL_does_105 : decode cL_does 105 = .ok (.iadd, 1) := by decide +kernel
theorem dL_does_106 : decode cL_does 106 = .ok (.istore 5, 2) := by decide +kernel
theorem dL_does_108 : decode cL_does 108 = .ok (.aload_n 0, 1) := by decide +kernel
theorem dL_does_109 : decode cL_does 109 = .ok (.bipush 16, 2) := by decide +kernel
theorem dL_does_111 : decode cL_does 111 = .ok (.invokevirtual 8, 3) := by decide +kernel
theorem dL_does_114 : decode cL_does 114 = .ok (.istore 6, 2) := by decide +kernel
theorem dL_does_116 : decode cL_does 116 = .ok (.aload_n 0, 1) := by decide +kernel
theorem dL_does_117 : decode cL_does 117 = .ok (.iconst 0, 1) := by decide +kernel
theorem dL_does_118 : decode cL_does 118 = .ok (.iconst 1, 1) := by decide +kernel
theorem dL_does_119 : decode cL_does 119 = .ok (.invokevirtual 22, 3) := by decide +kernel
theorem dL_does_122 : decode cL_does 122 = .ok (.iload 5, 2) := by decide +kernel
theorem dL_does_124 : decode cL_does 124 = .ok (.iadd, 1) := by decide +kernel
theorem dL_does_125 : decode cL_does 125 = .ok (.aload_n 0, 1) := by decide +kernel
theorem dL_does_126 : decode cL_does 126 = .ok (.iconst 0, 1) := by decide +kernel
theorem dL_does_127 : decode cL_does 127 = .ok (.iconst 0, 1) := by decide +kernel
theorem dL_does_128 : decode cL_does 128 = .ok (.invokevirtual 22, 3) := by decide +kernel
theorem dL_does_131 : decode cL_does 131 = .ok (.if_icmp .gt 7, 3) := by decide +kernel
theorem dL_does_134 : decode cL_does 134 = .ok (.iconst 0, 1) := by decide +kernel
theorem dL_does_135 : decode cL_does 135 = .ok (.goto 48, 3) := by decide +kernel
theorem dL_does_138 : decode cL_does 138 = .ok (.aload_n 0, 1) := by decide +kernel
theorem dL_does_139 : decode cL_does 139 = .ok (.iconst 1, 1) := by decide +kernel
theorem dL_does_140 : decode cL_does 140 = .ok (.iconst 1, 1) := by decide +kernel
theorem dL_does_141 : decode cL_does 141 = .ok (.invokevirtual 22, 3) := by decide +kernel
theorem dL_does_144 : decode cL_does 144 = .ok (.iload 5, 2) := by decide +kernel
theorem dL_does_146 : decode cL_does 146 = .ok (.iadd, 1) := by decide +kernel
theorem dL_does_147 : decode cL_does 147 = .ok (.aload_n 0, 1) := by decide +kernel
theorem dL_does_148 : decode cL_does 148 = .ok (.iconst 1, 1) := by decide +kernel
theorem dL_does_149 : decode cL_does 149 = .ok (.iconst 0, 1) := by decide +kernel
theorem dL_does_150 : decode cL_does 150 = .ok (.invokevirtual 22, 3) := by decide +kernel
theorem dL_does_153 : decode cL_does 153 = .ok (.if_icmp .gt 7, 3) := by decide +kernel
theorem dL_does_156 : decode cL_does 156 = .ok (.iconst 1, 1) := by decide +kernel
theorem dL_does_157 : decode cL_does 157 = .ok (.goto 26, 3) := by decide +kernel
theorem dL_does_160 : decode cL_does 160 = .ok (.aload_n 0, 1) := by decide +kernel
theorem dL_does_161 : decode cL_does 161 = .ok (.iconst 2, 1) := by decide +kernel
theorem dL_does_162 : decode cL_does 162 = .ok (.iconst 1, 1) := by decide +kernel
theorem dL_does_163 : decode cL_does 163 = .ok (.invokevirtual 22, 3) := by decide +kernel
theorem dL_does_166 : decode cL_does 166 = .ok (.iload 5, 2) := by decide +kernel
theorem dL_does_168 : decode cL_does 168 = .ok (.iadd, 1) := by decide +kernel
theorem dL_does_169 : decode cL_does 169 = .ok (.aload_n 0, 1) := by decide +kernel
theorem dL_does_170 : decode cL_does 170 = .ok (.iconst 2, 1) := by decide +kernel
theorem dL_does_171 : decode cL_does 171 = .ok (.iconst 0, 1) := by decide +kernel
theorem dL_does_172 : decode cL_does 172 = .ok (.invokevirtual 22, 3) := by decide +kernel
theorem dL_does_175 : decode cL_does 175 = .ok (.if_icmp .gt 7, 3) := by decide +kernel
theorem dL_does_178 : decode cL_does 178 = .ok (.iconst 2, 1) := by decide +kernel
theorem dL_does_179 : decode cL_does 179 = .ok (.goto 4, 3) := by decide +kernel
theorem dL_does_182 : decode cL_does 182 = .ok (.iconst (-1), 1) := by decide +kernel
theorem dL_does_183 : decode cL_does 183 = .ok (.istore 7, 2) := by decide +kernel
theorem dL_does_185 : decode cL_does 185 = .ok (.aload_n 0, 1) := by decide +kernel
theorem dL_does_186 : decode cL_does 186 = .ok (.iload 5, 2) := by decide +kernel
theorem dL_does_188 : decode cL_does 188 = .ok (.invokevirtual 50, 3) := by decide +kernel
theorem dL_does_191 : decode cL_does 191 = .ok (.istore 8, 2) := by decide +kernel
theorem dL_does_193 : decode cL_does 193 = .ok (.iload_n 3, 1) := by decide +kernel
theorem dL_does_194 : decode cL_does 194 = .ok (.bipush 24, 2) := by decide +kernel
theorem dL_does_196 : decode cL_does 196 = .ok (.if_icmp .eq 8, 3) := by decide +kernel
theorem dL_does_199 : decode cL_does 199 = .ok (.iload 7, 2) := by decide +kernel
theorem dL_does_201 : decode cL_does 201 = .ok (.ifCond .ge 18, 3) := by decide +kernel
theorem dL_does_204 : decode cL_does 204 = .ok (.iload 8, 2) := by decide +kernel
theorem dL_does_206 : decode cL_does 206 = .ok (.bipush (-3), 2) := by decide +kernel
theorem dL_does_208 : decode cL_does 208 = .ok (.if_icmp .ne 7, 3) := by decide +kernel
theorem dL_does_211 : decode cL_does 211 = .ok (.iconst 1, 1) := by decide +kernel
theorem dL_does_212 : decode cL_does 212 = .ok (.goto 54, 3) := by decide +kernel
theorem dL_does_215 : decode cL_does 215 = .ok (.iconst 0, 1) := by decide +kernel
theorem dL_does_216 : decode cL_does 216 = .ok (.goto 50, 3) := by decide +kernel
theorem dL_does_219 : decode cL_does 219 = .ok (.iload 8, 2) := by decide +kernel
theorem dL_does_221 : decode cL_does 221 = .ok (.iload 6, 2) := by decide +kernel
theorem dL_does_223 : decode cL_does 223 = .ok (.if_icmp .ne 42, 3) := by decide +kernel
theorem dL_does_226 : decode cL_does 226 = .ok (.aload_n 0, 1) := by decide +kernel
theorem dL_does_227 : decode cL_does 227 = .ok (.iload 8, 2) := by decide +kernel
theorem dL_does_229 : decode cL_does 229 = .ok (.iconst 1, 1) := by decide +kernel
theorem dL_does_230 : decode cL_does 230 = .ok (.invokevirtual 18, 3) := by decide +kernel
theorem dL_does_233 : decode cL_does 233 = .ok (.sipush 1000, 3) := by decide +kernel
theorem dL_does_236 : decode cL_does 236 = .ok (.if_icmp .ne 29, 3) := by decide +kernel
theorem dL_does_239 : decode cL_does 239 = .ok (.aload_n 0, 1) := by decide +kernel
theorem dL_does_240 : decode cL_does 240 = .ok (.iload 8, 2) := by decide +kernel
theorem dL_does_242 : decode cL_does 242 = .ok (.iconst 2, 1) := by decide +kernel
theorem dL_does_243 : decode cL_does 243 = .ok (.invokevirtual 18, 3) := by decide +kernel
theorem dL_does_246 : decode cL_does 246 = .ok (.iload 7, 2) := by decide +kernel
theorem dL_does_248 : decode cL_does 248 = .ok (.if_icmp .ne 17, 3) := by decide +kernel
theorem dL_does_251 : decode cL_does 251 = .ok (.aload_n 0, 1) := by decide +kernel
theorem dL_does_252 : decode cL_does 252 = .ok (.iload 8, 2) := by decide +kernel
theorem dL_does_254 : decode cL_does 254 = .ok (.iconst 5, 1) := by decide +kernel
theorem dL_does_255 : decode cL_does 255 = .ok (.invokevirtual 18, 3) := by decide +kernel
theorem dL_does_258 : decode cL_does 258 = .ok (.ifCond .ne 7, 3) := by decide +kernel
theorem dL_does_261 : decode cL_does 261 = .ok (.iconst 1, 1) := by decide +kernel
theorem dL_does_262 : decode cL_does 262 = .ok (.goto 4, 3) := by decide +kernel
theorem dL_does_265 : decode cL_does 265 = .ok (.iconst 0, 1) := by decide +kernel
theorem dL_does_266 : decode cL_does 266 = .ok (.ireturn, 1) := by decide +kernel
theorem dL_does_267 : decode cL_does 267 = .ok (.aload_n 0, 1) := by decide +kernel
theorem dL_does_268 : decode cL_does 268 = .ok (.iload 4, 2) := by decide +kernel
theorem dL_does_270 : decode cL_does 270 = .ok (.iconst 2, 1) := by decide +kernel
theorem dL_does_271 : decode cL_does 271 = .ok (.invokevirtual 18, 3) := by decide +kernel
theorem dL_does_274 : decode cL_does 274 = .ok (.istore 9, 2) := by decide +kernel
theorem dL_does_276 : decode cL_does 276 = .ok (.iload_n 1, 1) := by decide +kernel
theorem dL_does_277 : decode cL_does 277 = .ok (.bipush 9, 2) := by decide +kernel
theorem dL_does_279 : decode cL_does 279 = .ok (.ishr, 1) := by decide +kernel
theorem dL_does_280 : decode cL_does 280 = .ok (.iconst 1, 1) := by decide +kernel
theorem dL_does_281 : decode cL_does 281 = .ok (.iand, 1) := by decide +kernel
theorem dL_does_282 : decode cL_does 282 = .ok (.ifCond .eq 25, 3) := by decide +kernel
theorem dL_does_285 : decode cL_does 285 = .ok (.aload_n 0, 1) := by decide +kernel
theorem dL_does_286 : decode cL_does 286 = .ok (.iload 4, 2) := by decide +kernel
theorem dL_does_288 : decode cL_does 288 = .ok (.invokevirtual 53, 3) := by decide +kernel
theorem dL_does_291 : decode cL_does 291 = .ok (.iload 9, 2) := by decide +kernel
theorem dL_does_293 : decode cL_does 293 = .ok (.if_icmp .ne 18, 3) := by decide +kernel
theorem dL_does_296 : decode cL_does 296 = .ok (.aload_n 0, 1) := by decide +kernel
theorem dL_does_297 : decode cL_does 297 = .ok (.iload 4, 2) := by decide +kernel
theorem dL_does_299 : decode cL_does 299 = .ok (.iconst 0, 1) := by decide +kernel
theorem dL_does_300 : decode cL_does 300 = .ok (.invokevirtual 18, 3) := by decide +kernel
theorem dL_does_303 : decode cL_does 303 = .ok (.iconst (-1), 1) := by decide +kernel
theorem dL_does_304 : decode cL_does 304 = .ok (.if_icmp .ne 7, 3) := by decide +kernel
theorem dL_does_307 : decode cL_does 307 = .ok (.iconst 1, 1) := by decide +kernel
theorem dL_does_308 : decode cL_does 308 = .ok (.goto 4, 3) := by decide +kernel
theorem dL_does_311 : decode cL_does 311 = .ok (.iconst 0, 1) := by decide +kernel
theorem dL_does_312 : decode cL_does 312 = .ok (.ireturn, 1) := by decide +kernel
theorem dL_does_313 : decode cL_does 313 = .ok (.iload_n 1, 1) := by decide +kernel
theorem dL_does_314 : decode cL_does 314 = .ok (.bipush 9, 2) := by decide +kernel
theorem dL_does_316 : decode cL_does 316 = .ok (.ishr, 1) := by decide +kernel
theorem dL_does_317 : decode cL_does 317 = .ok (.iconst 1, 1) := by decide +kernel
theorem dL_does_318 : decode cL_does 318 = .ok (.iand, 1) := by decide +kernel
theorem dL_does_319 : decode cL_does 319 = .ok (.iconst 1, 1) := by decide +kernel
theorem dL_does_320 : decode cL_does 320 = .ok (.if_icmp .ne 7, 3) := by decide +kernel
theorem dL_does_323 : decode cL_does 323 = .ok (.iconst 1, 1) := by decide +kernel
theorem dL_does_324 : decode cL_does 324 = .ok (.goto 4, 3) := by decide +kernel
theorem dL_does_327 : decode cL_does 327 = .ok (.iconst 0, 1) := by decide +kernel
theorem dL_does_328 : decode cL_does 328 = .ok (.istore 10, 2) := by decide +kernel
theorem dL_does_330 : decode cL_does 330 = .ok (.aload_n 0, 1) := by decide +kernel
theorem dL_does_331 : decode cL_does 331 = .ok (.iload 4, 2) := by decide +kernel
theorem dL_does_333 : decode cL_does 333 = .ok (.iconst 4, 1) := by decide +kernel
theorem dL_does_334 : decode cL_does 334 = .ok (.invokevirtual 18, 3) := by decide +kernel
theorem dL_does_337 : decode cL_does 337 = .ok (.istore 11, 2) := by decide +kernel
theorem dL_does_339 : decode cL_does 339 = .ok (.aload_n 0, 1) := by decide +kernel
theorem dL_does_340 : decode cL_does 340 = .ok (.bipush 23, 2) := by decide +kernel
theorem dL_does_342 : decode cL_does 342 = .ok (.invokevirtual 8, 3) := by decide +kernel
theorem dL_does_345 : decode cL_does 345 = .ok (.istore 12, 2) := by decide +kernel
theorem dL_does_347 : decode cL_does 347 = .ok (.aload_n 0, 1) := by decide +kernel
theorem dL_does_348 : decode cL_does 348 = .ok (.iload 4, 2) := by decide +kernel
theorem dL_does_350 : decode cL_does 350 = .ok (.iload 10, 2) := by decide +kernel
theorem dL_does_352 : decode cL_does 352 = .ok (.invokevirtual 56, 3) := by decide +kernel
theorem dL_does_355 : decode cL_does 355 = .ok (.iload_n 3, 1) := by decide +kernel
theorem dL_does_356 : decode cL_does 356 = .ok (.ifCond .ne 7, 3) := by decide +kernel
theorem dL_does_359 : decode cL_does 359 = .ok (.iconst (-1), 1) := by decide +kernel
theorem dL_does_360 : decode cL_does 360 = .ok (.goto 39, 3) := by decide +kernel
theorem dL_does_363 : decode cL_does 363 = .ok (.iload 11, 2) := by decide +kernel
theorem dL_does_365 : decode cL_does 365 = .ok (.iload 10, 2) := by decide +kernel
theorem dL_does_367 : decode cL_does 367 = .ok (.ifCond .eq 7, 3) := by decide +kernel
theorem dL_does_370 : decode cL_does 370 = .ok (.iconst 1, 1) := by decide +kernel
theorem dL_does_371 : decode cL_does 371 = .ok (.goto 4, 3) := by decide +kernel
theorem dL_does_374 : decode cL_does 374 = .ok (.iconst 0, 1) := by decide +kernel
theorem dL_does_375 : decode cL_does 375 = .ok (.if_icmp .ne 8, 3) := by decide +kernel
theorem dL_does_378 : decode cL_does 378 = .ok (.bipush (-5), 2) := by decide +kernel
theorem dL_does_380 : decode cL_does 380 = .ok (.goto 19, 3) := by decide +kernel
theorem dL_does_383 : decode cL_does 383 = .ok (.iload 10, 2) := by decide +kernel
theorem dL_does_385 : decode cL_does 385 = .ok (.ifCond .eq 10, 3) := by decide +kernel
theorem dL_does_388 : decode cL_does 388 = .ok (.iload 12, 2) := by decide +kernel
theorem dL_does_390 : decode cL_does 390 = .ok (.iconst 1, 1) := by decide +kernel
theorem dL_does_391 : decode cL_does 391 = .ok (.iadd, 1) := by decide +kernel
theorem dL_does_392 : decode cL_does 392 = .ok (.goto 7, 3) := by decide +kernel
theorem dL_does_395 : decode cL_does 395 = .ok (.iload 12, 2) := by decide +kernel
theorem dL_does_397 : decode cL_does 397 = .ok (.iconst 1, 1) := by decide +kernel
theorem dL_does_398 : decode cL_does 398 = .ok (.isub, 1) := by decide +kernel
theorem dL_does_399 : decode cL_does 399 = .ok (.if_icmp .ne 7, 3) := by decide +kernel
theorem dL_does_402 : decode cL_does 402 = .ok (.iconst 1, 1) := by decide +kernel
theorem dL_does_403 : decode cL_does 403 = .ok (.goto 4, 3) := by decide +kernel
theorem dL_does_406 : decode cL_does 406 = .ok (.iconst 0, 1) := by decide +kernel
theorem dL_does_407 : decode cL_does 407 = .ok (.ireturn, 1) := by decide +kernel
theorem dL_does_408 : decode cL_does 408 = .ok (.aload_n 0, 1) := by decide +kernel
theorem dL_does_409 : decode cL_does 409 = .ok (.iload 4, 2) := by decide +kernel
theorem dL_does_411 : decode cL_does 411 = .ok (.iconst 1, 1) := by decide +kernel
theorem dL_does_412 : decode cL_does 412 = .ok (.iload_n 1, 1) := by decide +kernel
theorem dL_does_413 : decode cL_does 413 = .ok (.bipush 9, 2) := by decide +kernel
theorem dL_does_415 : decode cL_does 415 = .ok (.ishr, 1) := by decide +kernel
theorem dL_does_416 : decode cL_does 416 = .ok (.iload_n 1, 1) := by decide +kernel
theorem dL_does_417 : decode cL_does 417 = .ok (.bipush 16, 2) := by decide +kernel
theorem dL_does_419 : decode cL_does 419 = .ok (.ishr, 1) := by decide +kernel
theorem dL_does_420 : decode cL_does 420 = .ok (.iconst 3, 1) := by decide +kernel
theorem dL_does_421 : decode cL_does 421 = .ok (.iand, 1) := by decide +kernel
theorem dL_does_422 : decode cL_does 422 = .ok (.ifCond .ne 8, 3) := by decide +kernel
theorem dL_does_425 : decode cL_does 425 = .ok (.bipush 12, 2) := by decide +kernel
theorem dL_does_427 : decode cL_does 427 = .ok (.goto 4, 3) := by decide +kernel
theorem dL_does_430 : decode cL_does 430 = .ok (.iconst 3, 1) := by decide +kernel
theorem dL_does_431 : decode cL_does 431 = .ok (.invokestatic 45, 3) := by decide +kernel
theorem dL_does_434 : decode cL_does 434 = .ok (.iadd, 1) := by decide +kernel
theorem dL_does_435 : decode cL_does 435 = .ok (.invokestatic 60, 3) := by decide +kernel
theorem dL_does_438 : decode cL_does 438 = .ok (.ireturn, 1) := by decide +kernel
theorem dL_does_439 : decode cL_does 439 = .ok (.iload_n 1, 1) := by decide +kernel
theorem dL_does_440 : decode cL_does 440 = .ok (.iconst 4, 1) := by decide +kernel
theorem dL_does_441 : decode cL_does 441 = .ok (.ishr, 1) := by decide +kernel
theorem dL_does_442 : decode cL_does 442 = .ok (.bipush 15, 2) := by decide +kernel
theorem dL_does_444 : decode cL_does 444 = .ok (.invokestatic 45, 3) := by decide +kernel
theorem dL_does_447 : decode cL_does 447 = .ok (.istore 13, 2) := by decide +kernel
theorem dL_does_449 : decode cL_does 449 = .ok (.iload 13, 2) := by decide +kernel
theorem dL_does_451 : decode cL_does 451 = .ok (.ifCond .ne 12, 3) := by decide +kernel
theorem dL_does_454 : decode cL_does 454 = .ok (.iload_n 2, 1) := by decide +kernel
theorem dL_does_455 : decode cL_does 455 = .ok (.bipush 101, 2) := by decide +kernel
theorem dL_does_457 : decode cL_does 457 = .ok (.invokestatic 45, 3) := by decide +kernel
theorem dL_does_460 : decode cL_does 460 = .ok (.goto 95, 3) := by decide +kernel
theorem dL_does_463 : decode cL_does 463 = .ok (.iload 13, 2) := by decide +kernel
theorem dL_does_465 : decode cL_does 465 = .ok (.iconst 1, 1) := by decide +kernel
theorem dL_does_466 : decode cL_does 466 = .ok (.if_icmp .ne 17, 3) := by decide +kernel
theorem dL_does_469 : decode cL_does 469 = .ok (.sipush 1000, 3) := by decide +kernel
theorem dL_does_472 : decode cL_does 472 = .ok (.iload_n 2, 1) := by decide +kernel
theorem dL_does_473 : decode cL_does 473 = .ok (.sipush 4000, 3) := by decide +kernel
theorem dL_does_476 : decode cL_does 476 = .ok (.invokestatic 45, 3) := by decide +kernel
theorem dL_does_479 : decode cL_does 479 = .ok (.iadd, 1) := by decide +kernel
theorem dL_does_480 : decode cL_does 480 = .ok (.goto 75, 3) := by decide +kernel
theorem dL_does_483 : decode cL_does 483 = .ok (.iload 13, 2) := by decide +kernel
theorem dL_does_485 : decode cL_does 485 = .ok (.iconst 2, 1) := by decide +kernel
theorem dL_does_486 : decode cL_does 486 = .ok (.if_icmp .ne 13, 3) := by decide +kernel
theorem dL_does_489 : decode cL_does 489 = .ok (.iload_n 2, 1) := by decide +kernel
theorem dL_does_490 : decode cL_does 490 = .ok (.sipush 1500, 3) := by decide +kernel
theorem dL_does_493 : decode cL_does 493 = .ok (.invokestatic 45, 3) := by decide +kernel
theorem dL_does_496 : decode cL_does 496 = .ok (.goto 59, 3) := by decide +kernel
theorem dL_does_499 : decode cL_does 499 = .ok (.iload 13, 2) := by decide +kernel
theorem dL_does_501 : decode cL_does 501 = .ok (.iconst 3, 1) := by decide +kernel
theorem dL_does_502 : decode cL_does 502 = .ok (.if_icmp .ne 12, 3) := by decide +kernel
theorem dL_does_505 : decode cL_does 505 = .ok (.iload_n 2, 1) := by decide +kernel
theorem dL_does_506 : decode cL_does 506 = .ok (.bipush 9, 2) := by decide +kernel
theorem dL_does_508 : decode cL_does 508 = .ok (.invokestatic 45, 3) := by decide +kernel
theorem dL_does_511 : decode cL_does 511 = .ok (.goto 44, 3) := by decide +kernel
theorem dL_does_514 : decode cL_does 514 = .ok (.iload 13, 2) := by decide +kernel
theorem dL_does_516 : decode cL_does 516 = .ok (.bipush 6, 2) := by decide +kernel
theorem dL_does_518 : decode cL_does 518 = .ok (.if_icmp .ge 12, 3) := by decide +kernel
theorem dL_does_521 : decode cL_does 521 = .ok (.iload_n 2, 1) := by decide +kernel
theorem dL_does_522 : decode cL_does 522 = .ok (.bipush 9, 2) := by decide +kernel
theorem dL_does_524 : decode cL_does 524 = .ok (.invokestatic 45, 3) := by decide +kernel
theorem dL_does_527 : decode cL_does 527 = .ok (.goto 28, 3) := by decide +kernel
theorem dL_does_530 : decode cL_does 530 = .ok (.iload 13, 2) := by decide +kernel
theorem dL_does_532 : decode cL_does 532 = .ok (.bipush 9, 2) := by decide +kernel
theorem dL_does_534 : decode cL_does 534 = .ok (.if_icmp .ge 15, 3) := by decide +kernel
theorem dL_does_537 : decode cL_does 537 = .ok (.bipush 8, 2) := by decide +kernel
theorem dL_does_539 : decode cL_does 539 = .ok (.iload_n 2, 1) := by decide +kernel
theorem dL_does_540 : decode cL_does 540 = .ok (.bipush 60, 2) := by decide +kernel
theorem dL_does_542 : decode cL_does 542 = .ok (.invokestatic 45, 3) := by decide +kernel
theorem dL_does_545 : decode cL_does 545 = .ok (.iadd, 1) := by decide +kernel
theorem dL_does_546 : decode cL_does 546 = .ok (.goto 9, 3) := by decide +kernel
theorem dL_does_549 : decode cL_does 549 = .ok (.iload_n 2, 1) := by decide +kernel
theorem dL_does_550 : decode cL_does 550 = .ok (.bipush 20, 2) := by decide +kernel
theorem dL_does_552 : decode cL_does 552 = .ok (.invokestatic 45, 3) := by decide +kernel
theorem dL_does_555 : decode cL_does 555 = .ok (.istore 14, 2) := by decide +kernel
theorem dL_does_557 : decode cL_does 557 = .ok (.aload_n 0, 1) := by decide +kernel
theorem dL_does_558 : decode cL_does 558 = .ok (.iload 13, 2) := by decide +kernel
theorem dL_does_560 : decode cL_does 560 = .ok (.invokevirtual 8, 3) := by decide +kernel
theorem dL_does_563 : decode cL_does 563 = .ok (.istore 15, 2) := by decide +kernel
theorem dL_does_565 : decode cL_does 565 = .ok (.aload_n 0, 1) := by decide +kernel
theorem dL_does_566 : decode cL_does 566 = .ok (.iload 13, 2) := by decide +kernel
theorem dL_does_568 : decode cL_does 568 = .ok (.iload 14, 2) := by decide +kernel
theorem dL_does_570 : decode cL_does 570 = .ok (.invokevirtual 42, 3) := by decide +kernel
theorem dL_does_573 : decode cL_does 573 = .ok (.istore 16, 2) := by decide +kernel
theorem dL_does_575 : decode cL_does 575 = .ok (.iload 16, 2) := by decide +kernel
theorem dL_does_577 : decode cL_does 577 = .ok (.bipush (-4), 2) := by decide +kernel
theorem dL_does_579 : decode cL_does 579 = .ok (.if_icmp .ne 47, 3) := by decide +kernel
theorem dL_does_582 : decode cL_does 582 = .ok (.aload_n 0, 1) := by decide +kernel
theorem dL_does_583 : decode cL_does 583 = .ok (.iload 13, 2) := by decide +kernel
theorem dL_does_585 : decode cL_does 585 = .ok (.invokevirtual 8, 3) := by decide +kernel
theorem dL_does_588 : decode cL_does 588 = .ok (.iload 15, 2) := by decide +kernel
theorem dL_does_590 : decode cL_does 590 = .ok (.if_icmp .ne 32, 3) := by decide +kernel
theorem dL_does_593 : decode cL_does 593 = .ok (.iload 13, 2) := by decide +kernel
theorem dL_does_595 : decode cL_does 595 = .ok (.iconst 1, 1) := by decide +kernel
theorem dL_does_596 : decode cL_does 596 = .ok (.if_icmp .eq 22, 3) := by decide +kernel
theorem dL_does_599 : decode cL_does 599 = .ok (.iload 13, 2) := by decide +kernel
theorem dL_does_601 : decode cL_does 601 = .ok (.iconst 2, 1) := by decide +kernel
theorem dL_does_602 : decode cL_does 602 = .ok (.if_icmp .eq 16, 3) := by decide +kernel
theorem dL_does_605 : decode cL_does 605 = .ok (.iload 13, 2) := by decide +kernel
theorem dL_does_607 : decode cL_does 607 = .ok (.iconst 5, 1) := by decide +kernel
theorem dL_does_608 : decode cL_does 608 = .ok (.if_icmp .le 14, 3) := by decide +kernel
theorem dL_does_611 : decode cL_does 611 = .ok (.iload 13, 2) := by decide +kernel
theorem dL_does_613 : decode cL_does 613 = .ok (.bipush 9, 2) := by decide +kernel
theorem dL_does_615 : decode cL_does 615 = .ok (.if_icmp .ge 7, 3) := by decide +kernel
theorem dL_does_618 : decode cL_does 618 = .ok (.iconst 1, 1) := by decide +kernel
theorem dL_does_619 : decode cL_does 619 = .ok (.goto 42, 3) := by decide +kernel
theorem dL_does_622 : decode cL_does 622 = .ok (.iconst 0, 1) := by decide +kernel
theorem dL_does_623 : decode cL_does 623 = .ok (.goto 38, 3) := by decide +kernel
theorem dL_does_626 : decode cL_does 626 = .ok (.iload 16, 2) := by decide +kernel
theorem dL_does_628 : decode cL_does 628 = .ok (.iload 15, 2) := by decide +kernel
theorem dL_does_630 : decode cL_does 630 = .ok (.iload 14, 2) := by decide +kernel
theorem dL_does_632 : decode cL_does 632 = .ok (.if_icmp .ne 8, 3) := by decide +kernel
theorem dL_does_635 : decode cL_does 635 = .ok (.bipush (-5), 2) := by decide +kernel
theorem dL_does_637 : decode cL_does 637 = .ok (.goto 5, 3) := by decide +kernel
theorem dL_does_640 : decode cL_does 640 = .ok (.iload 15, 2) := by decide +kernel
theorem dL_does_642 : decode cL_does 642 = .ok (.if_icmp .ne 18, 3) := by decide +kernel
theorem dL_does_645 : decode cL_does 645 = .ok (.aload_n 0, 1) := by decide +kernel
theorem dL_does_646 : decode cL_does 646 = .ok (.iload 13, 2) := by decide +kernel
theorem dL_does_648 : decode cL_does 648 = .ok (.invokevirtual 8, 3) := by decide +kernel
theorem dL_does_651 : decode cL_does 651 = .ok (.iload 14, 2) := by decide +kernel
theorem dL_does_653 : decode cL_does 653 = .ok (.if_icmp .ne 7, 3) := by decide +kernel
theorem dL_does_656 : decode cL_does 656 = .ok (.iconst 1, 1) := by decide +kernel
theorem dL_does_657 : decode cL_does 657 = .ok (.goto 4, 3) := by decide +kernel
theorem dL_does_660 : decode cL_does 660 = .ok (.iconst 0, 1) := by decide +kernel
theorem dL_does_661 : decode cL_does 661 = .ok (.ireturn, 1) := by decide +kernel
theorem dL_does_662 : decode cL_does 662 = .ok (.iconst 1, 1) := by decide +kernel
theorem dL_does_663 : decode cL_does 663 = .ok (.iload_n 2, 1) := by decide +kernel
theorem dL_does_664 : decode cL_does 664 = .ok (.bipush 9, 2) := by decide +kernel
theorem dL_does_666 : decode cL_does 666 = .ok (.invokestatic 45, 3) := by decide +kernel
theorem dL_does_669 : decode cL_does 669 = .ok (.iadd, 1) := by decide +kernel
theorem dL_does_670 : decode cL_does 670 = .ok (.istore 17, 2) := by decide +kernel
theorem dL_does_672 : decode cL_does 672 = .ok (.aload_n 0, 1) := by decide +kernel
theorem dL_does_673 : decode cL_does 673 = .ok (.iload 17, 2) := by decide +kernel
theorem dL_does_675 : decode cL_does 675 = .ok (.iconst 0, 1) := by decide +kernel
theorem dL_does_676 : decode cL_does 676 = .ok (.invokevirtual 25, 3) := by decide +kernel
theorem dL_does_679 : decode cL_does 679 = .ok (.istore 18, 2) := by decide +kernel
theorem dL_does_681 : decode cL_does 681 = .ok (.aload_n 0, 1) := by decide +kernel
theorem dL_does_682 : decode cL_does 682 = .ok (.iload 17, 2) := by decide +kernel
theorem dL_does_684 : decode cL_does 684 = .ok (.iconst 1, 1) := by decide +kernel
theorem dL_does_685 : decode cL_does 685 = .ok (.invokevirtual 25, 3) := by decide +kernel
theorem dL_does_688 : decode cL_does 688 = .ok (.istore 19, 2) := by decide +kernel
theorem dL_does_690 : decode cL_does 690 = .ok (.aload_n 0, 1) := by decide +kernel
theorem dL_does_691 : decode cL_does 691 = .ok (.bipush 18, 2) := by decide +kernel
theorem dL_does_693 : decode cL_does 693 = .ok (.invokevirtual 8, 3) := by decide +kernel
theorem dL_does_696 : decode cL_does 696 = .ok (.istore 20, 2) := by decide +kernel
theorem dL_does_698 : decode cL_does 698 = .ok (.aload_n 0, 1) := by decide +kernel
theorem dL_does_699 : decode cL_does 699 = .ok (.bipush 17, 2) := by decide +kernel
theorem dL_does_701 : decode cL_does 701 = .ok (.invokevirtual 8, 3) := by decide +kernel
theorem dL_does_704 : decode cL_does 704 = .ok (.sipush 4900, 3) := by decide +kernel
theorem dL_does_707 : decode cL_does 707 = .ok (.if_icmp .gt 28, 3) := by decide +kernel
theorem dL_does_710 : decode cL_does 710 = .ok (.aload_n 0, 1) := by decide +kernel
theorem dL_does_711 : decode cL_does 711 = .ok (.iload 17, 2) := by decide +kernel
theorem dL_does_713 : decode cL_does 713 = .ok (.invokevirtual 32, 3) := by decide +kernel
theorem dL_does_716 : decode cL_does 716 = .ok (.iload 19, 2) := by decide +kernel
theorem dL_does_718 : decode cL_does 718 = .ok (.if_icmp .ne 21, 3) := by decide +kernel
theorem dL_does_721 : decode cL_does 721 = .ok (.aload_n 0, 1) := by decide +kernel
theorem dL_does_722 : decode cL_does 722 = .ok (.bipush 18, 2) := by decide +kernel
theorem dL_does_724 : decode cL_does 724 = .ok (.invokevirtual 8, 3) := by decide +kernel
theorem dL_does_727 : decode cL_does 727 = .ok (.iload 20, 2) := by decide +kernel
theorem dL_does_729 : decode cL_does 729 = .ok (.iload 18, 2) := by decide +kernel
theorem dL_does_731 : decode cL_does 731 = .ok (.iadd, 1) := by decide +kernel
theorem dL_does_732 : decode cL_does 732 = .ok (.if_icmp .ne 7, 3) := by decide +kernel
theorem dL_does_735 : decode cL_does 735 = .ok (.iconst 1, 1) := by decide +kernel
theorem dL_does_736 : decode cL_does 736 = .ok (.goto 4, 3) := by decide +kernel
theorem dL_does_739 : decode cL_does 739 = .ok (.iconst 0, 1) := by decide +kernel
theorem dL_does_740 : decode cL_does 740 = .ok (.ireturn, 1) := by decide +kernel
theorem dL_does_741 : decode cL_does 741 = .ok (.iconst 1, 1) := by decide +kernel
theorem dL_does_742 : decode cL_does 742 = .ok (.ireturn, 1) := by decide +kernel
theorem dL_law_0 : decode cL_law 0 = .ok (.new 9, 3) := by decide +kernel
theorem dL_law_3 : decode cL_law 3 = .ok (.dup, 1) := by decide +kernel
theorem dL_law_4 : decode cL_law 4 = .ok (.invokespecial 64, 3) := by decide +kernel
theorem dL_law_7 : decode cL_law 7 = .ok (.astore_n 1, 1) := by decide +kernel
theorem dL_law_8 : decode cL_law 8 = .ok (.bipush 24, 2) := by decide +kernel
theorem dL_law_10 : decode cL_law 10 = .ok (.newarray .int, 2) := by decide +kernel
theorem dL_law_12 : decode cL_law 12 = .ok (.astore_n 2, 1) := by decide +kernel
theorem dL_law_13 : decode cL_law 13 = .ok (.bipush 24, 2) := by decide +kernel
theorem dL_law_15 : decode cL_law 15 = .ok (.newarray .int, 2) := by decide +kernel
theorem dL_law_17 : decode cL_law 17 = .ok (.astore_n 3, 1) := by decide +kernel
theorem dL_law_18 : decode cL_law 18 = .ok (.aload_n 1, 1) := by decide +kernel
theorem dL_law_19 : decode cL_law 19 = .ok (.invokestatic 65, 3) := by decide +kernel
theorem dL_law_22 : decode cL_law 22 = .ok (.ifCond .eq 41, 3) := by decide +kernel
theorem dL_law_25 : decode cL_law 25 = .ok (.aload_n 1, 1) := by decide +kernel
theorem dL_law_26 : decode cL_law 26 = .ok (.iconst 1, 1) := by decide +kernel
theorem dL_law_27 : decode cL_law 27 = .ok (.invokevirtual 8, 3) := by decide +kernel
theorem dL_law_30 : decode cL_law 30 = .ok (.sipush 3000, 3) := by decide +kernel
theorem dL_law_33 : decode cL_law 33 = .ok (.if_icmp .ne 30, 3) := by decide +kernel
theorem dL_law_36 : decode cL_law 36 = .ok (.aload_n 1, 1) := by decide +kernel
theorem dL_law_37 : decode cL_law 37 = .ok (.invokevirtual 28, 3) := by decide +kernel
theorem dL_law_40 : decode cL_law 40 = .ok (.bipush (-5), 2) := by decide +kernel
theorem dL_law_42 : decode cL_law 42 = .ok (.if_icmp .ne 21, 3) := by decide +kernel
theorem dL_law_45 : decode cL_law 45 = .ok (.aload_n 1, 1) := by decide +kernel
theorem dL_law_46 : decode cL_law 46 = .ok (.invokevirtual 69, 3) := by decide +kernel
theorem dL_law_49 : decode cL_law 49 = .ok (.bipush (-5), 2) := by decide +kernel
theorem dL_law_51 : decode cL_law 51 = .ok (.if_icmp .ne 12, 3) := by decide +kernel
theorem dL_law_54 : decode cL_law 54 = .ok (.aload_n 1, 1) := by decide +kernel
theorem dL_law_55 : decode cL_law 55 = .ok (.invokevirtual 72, 3) := by decide +kernel
theorem dL_law_58 : decode cL_law 58 = .ok (.bipush (-5), 2) := by decide +kernel
theorem dL_law_60 : decode cL_law 60 = .ok (.if_icmp .eq 5, 3) := by decide +kernel
theorem dL_law_63 : decode cL_law 63 = .ok (.iconst 0, 1) := by decide +kernel
theorem dL_law_64 : decode cL_law 64 = .ok (.ireturn, 1) := by decide +kernel
theorem dL_law_65 : decode cL_law 65 = .ok (.iconst 0, 1) := by decide +kernel
theorem dL_law_66 : decode cL_law 66 = .ok (.istore 4, 2) := by decide +kernel
theorem dL_law_68 : decode cL_law 68 = .ok (.iload 4, 2) := by decide +kernel
theorem dL_law_70 : decode cL_law 70 = .ok (.bipush 70, 2) := by decide +kernel
theorem dL_law_72 : decode cL_law 72 = .ok (.if_icmp .ge 92, 3) := by decide +kernel
theorem dL_law_75 : decode cL_law 75 = .ok (.aload_n 0, 1) := by decide +kernel
theorem dL_law_76 : decode cL_law 76 = .ok (.iconst 2, 1) := by decide +kernel
theorem dL_law_77 : decode cL_law 77 = .ok (.iload 4, 2) := by decide +kernel
theorem dL_law_79 : decode cL_law 79 = .ok (.imul, 1) := by decide +kernel
theorem dL_law_80 : decode cL_law 80 = .ok (.invokestatic 75, 3) := by decide +kernel
theorem dL_law_83 : decode cL_law 83 = .ok (.istore 5, 2) := by decide +kernel
theorem dL_law_85 : decode cL_law 85 = .ok (.aload_n 1, 1) := by decide +kernel
theorem dL_law_86 : decode cL_law 86 = .ok (.iload 5, 2) := by decide +kernel
theorem dL_law_88 : decode cL_law 88 = .ok (.aload_n 0, 1) := by decide +kernel
theorem dL_law_89 : decode cL_law 89 = .ok (.iconst 2, 1) := by decide +kernel
theorem dL_law_90 : decode cL_law 90 = .ok (.iload 4, 2) := by decide +kernel
theorem dL_law_92 : decode cL_law 92 = .ok (.imul, 1) := by decide +kernel
theorem dL_law_93 : decode cL_law 93 = .ok (.iconst 1, 1) := by decide +kernel
theorem dL_law_94 : decode cL_law 94 = .ok (.iadd, 1) := by decide +kernel
theorem dL_law_95 : decode cL_law 95 = .ok (.invokestatic 75, 3) := by decide +kernel
theorem dL_law_98 : decode cL_law 98 = .ok (.invokestatic 79, 3) := by decide +kernel
theorem dL_law_101 : decode cL_law 101 = .ok (.ifCond .eq 55, 3) := by decide +kernel
theorem dL_law_104 : decode cL_law 104 = .ok (.aload_n 1, 1) := by decide +kernel
theorem dL_law_105 : decode cL_law 105 = .ok (.invokestatic 65, 3) := by decide +kernel
theorem dL_law_108 : decode cL_law 108 = .ok (.ifCond .eq 48, 3) := by decide +kernel
theorem dL_law_111 : decode cL_law 111 = .ok (.iload 4, 2) := by decide +kernel
theorem dL_law_113 : decode cL_law 113 = .ok (.iconst 3, 1) := by decide +kernel
theorem dL_law_114 : decode cL_law 114 = .ok (.irem, 1) := by decide +kernel
theorem dL_law_115 : decode cL_law 115 = .ok (.iconst 2, 1) := by decide +kernel
theorem dL_law_116 : decode cL_law 116 = .ok (.if_icmp .ne 12, 3) := by decide +kernel
theorem dL_law_119 : decode cL_law 119 = .ok (.aload_n 1, 1) := by decide +kernel
theorem dL_law_120 : decode cL_law 120 = .ok (.aload_n 2, 1) := by decide +kernel
theorem dL_law_121 : decode cL_law 121 = .ok (.aload_n 3, 1) := by decide +kernel
theorem dL_law_122 : decode cL_law 122 = .ok (.invokestatic 82, 3) := by decide +kernel
theorem dL_law_125 : decode cL_law 125 = .ok (.ifCond .eq 31, 3) := by decide +kernel
theorem dL_law_128 : decode cL_law 128 = .ok (.iload 4, 2) := by decide +kernel
theorem dL_law_130 : decode cL_law 130 = .ok (.bipush 30, 2) := by decide +kernel
theorem dL_law_132 : decode cL_law 132 = .ok (.irem, 1) := by decide +kernel
theorem dL_law_133 : decode cL_law 133 = .ok (.bipush 19, 2) := by decide +kernel
theorem dL_law_135 : decode cL_law 135 = .ok (.if_icmp .ne 23, 3) := by decide +kernel
theorem dL_law_138 : decode cL_law 138 = .ok (.aload_n 1, 1) := by decide +kernel
theorem dL_law_139 : decode cL_law 139 = .ok (.iconst 1, 1) := by decide +kernel
theorem dL_law_140 : decode cL_law 140 = .ok (.iload 5, 2) := by decide +kernel
theorem dL_law_142 : decode cL_law 142 = .ok (.iconst 4, 1) := by decide +kernel
theorem dL_law_143 : decode cL_law 143 = .ok (.ishr, 1) := by decide +kernel
theorem dL_law_144 : decode cL_law 144 = .ok (.bipush 8, 2) := by decide +kernel
theorem dL_law_146 : decode cL_law 146 = .ok (.invokestatic 45, 3) := by decide +kernel
theorem dL_law_149 : decode cL_law 149 = .ok (.iadd, 1) := by decide +kernel
theorem dL_law_150 : decode cL_law 150 = .ok (.invokestatic 86, 3) := by decide +kernel
theorem dL_law_153 : decode cL_law 153 = .ok (.ifCond .ne 5, 3) := by decide +kernel
theorem dL_law_156 : decode cL_law 156 = .ok (.iconst 0, 1) := by decide +kernel
theorem dL_law_157 : decode cL_law 157 = .ok (.ireturn, 1) := by decide +kernel
theorem dL_law_158 : decode cL_law 158 = .ok (.iinc 4 1, 3) := by decide +kernel
theorem dL_law_161 : decode cL_law 161 = .ok (.goto (-93), 3) := by decide +kernel
theorem dL_law_164 : decode cL_law 164 = .ok (.aload_n 1, 1) := by decide +kernel
theorem dL_law_165 : decode cL_law 165 = .ok (.bipush 10, 2) := by decide +kernel
theorem dL_law_167 : decode cL_law 167 = .ok (.invokevirtual 50, 3) := by decide +kernel
theorem dL_law_170 : decode cL_law 170 = .ok (.bipush (-2), 2) := by decide +kernel
theorem dL_law_172 : decode cL_law 172 = .ok (.if_icmp .ne 84, 3) := by decide +kernel
theorem dL_law_175 : decode cL_law 175 = .ok (.aload_n 1, 1) := by decide +kernel
theorem dL_law_176 : decode cL_law 176 = .ok (.iconst 0, 1) := by decide +kernel
theorem dL_law_177 : decode cL_law 177 = .ok (.invokevirtual 32, 3) := by decide +kernel
theorem dL_law_180 : decode cL_law 180 = .ok (.bipush (-2), 2) := by decide +kernel
theorem dL_law_182 : decode cL_law 182 = .ok (.if_icmp .ne 74, 3) := by decide +kernel
theorem dL_law_185 : decode cL_law 185 = .ok (.aload_n 1, 1) := by decide +kernel
theorem dL_law_186 : decode cL_law 186 = .ok (.bipush 100, 2) := by decide +kernel
theorem dL_law_188 : decode cL_law 188 = .ok (.invokevirtual 32, 3) := by decide +kernel
theorem dL_law_191 : decode cL_law 191 = .ok (.bipush (-2), 2) := by decide +kernel
theorem dL_law_193 : decode cL_law 193 = .ok (.if_icmp .ne 63, 3) := by decide +kernel
theorem dL_law_196 : decode cL_law 196 = .ok (.aload_n 1, 1) := by decide +kernel
theorem dL_law_197 : decode cL_law 197 = .ok (.bipush 15, 2) := by decide +kernel
theorem dL_law_199 : decode cL_law 199 = .ok (.iconst 0, 1) := by decide +kernel
theorem dL_law_200 : decode cL_law 200 = .ok (.invokevirtual 42, 3) := by decide +kernel
theorem dL_law_203 : decode cL_law 203 = .ok (.iconst (-1), 1) := by decide +kernel
theorem dL_law_204 : decode cL_law 204 = .ok (.if_icmp .ne 52, 3) := by decide +kernel
theorem dL_law_207 : decode cL_law 207 = .ok (.aload_n 1, 1) := by decide +kernel
theorem dL_law_208 : decode cL_law 208 = .ok (.iconst 0, 1) := by decide +kernel
theorem dL_law_209 : decode cL_law 209 = .ok (.bipush 101, 2) := by decide +kernel
theorem dL_law_211 : decode cL_law 211 = .ok (.invokevirtual 42, 3) := by decide +kernel
theorem dL_law_214 : decode cL_law 214 = .ok (.bipush (-2), 2) := by decide +kernel
theorem dL_law_216 : decode cL_law 216 = .ok (.if_icmp .ne 40, 3) := by decide +kernel
theorem dL_law_219 : decode cL_law 219 = .ok (.aload_n 1, 1) := by decide +kernel
theorem dL_law_220 : decode cL_law 220 = .ok (.bipush 27, 2) := by decide +kernel
theorem dL_law_222 : decode cL_law 222 = .ok (.invokevirtual 8, 3) := by decide +kernel
theorem dL_law_225 : decode cL_law 225 = .ok (.bipush (-2), 2) := by decide +kernel
theorem dL_law_227 : decode cL_law 227 = .ok (.if_icmp .ne 29, 3) := by decide +kernel
theorem dL_law_230 : decode cL_law 230 = .ok (.aload_n 1, 1) := by decide +kernel
theorem dL_law_231 : decode cL_law 231 = .ok (.iconst 3, 1) := by decide +kernel
theorem dL_law_232 : decode cL_law 232 = .ok (.iconst 0, 1) := by decide +kernel
theorem dL_law_233 : decode cL_law 233 = .ok (.invokevirtual 22, 3) := by decide +kernel
theorem dL_law_236 : decode cL_law 236 = .ok (.iconst (-1), 1) := by decide +kernel
theorem dL_law_237 : decode cL_law 237 = .ok (.if_icmp .ne 19, 3) := by decide +kernel
theorem dL_law_240 : decode cL_law 240 = .ok (.aload_n 1, 1) := by decide +kernel
theorem dL_law_241 : decode cL_law 241 = .ok (.bipush 21, 2) := by decide +kernel
theorem dL_law_243 : decode cL_law 243 = .ok (.iconst 0, 1) := by decide +kernel
theorem dL_law_244 : decode cL_law 244 = .ok (.invokevirtual 39, 3) := by decide +kernel
theorem dL_law_247 : decode cL_law 247 = .ok (.bipush (-2), 2) := by decide +kernel
theorem dL_law_249 : decode cL_law 249 = .ok (.if_icmp .ne 7, 3) := by decide +kernel
theorem dL_law_252 : decode cL_law 252 = .ok (.iconst 1, 1) := by decide +kernel
theorem dL_law_253 : decode cL_law 253 = .ok (.goto 4, 3) := by decide +kernel
theorem dL_law_256 : decode cL_law 256 = .ok (.iconst 0, 1) := by decide +kernel
theorem dL_law_257 : decode cL_law 257 = .ok (.ireturn, 1) := by decide +kernel
end
section
/-- the words that every method here may use: those of the law's tables that stay -/
def xT : List Cond := lw_tbl.filter goodWord
theorem xT_of {w : Cond} (h : w ∈ lw_tbl) (hg : goodWord w = true) : w ∈ xT := List.mem_filter.mpr ⟨h, hg⟩
theorem xT_in {w : Cond} (h : w ∈ xT) : w ∈ lw_tbl := (List.mem_filter.mp h).1
theorem xT_good {w : Cond} (h : w ∈ xT) : (w.onTables && w.keeps) = true ∨ ∃ ty, w = .arrayClass ty := good_of_word (List.mem_filter.mp h).2
/-! A layer over the kit's rows: memory is two functions of cell number and place (whole numbers, references), values on the stack and in the locals are whole numbers or cell numbers; addresses and the machine's state are hidden in the judgement 'X'. -/
abbrev xAV : Type := Int ⊕ Option Nat
abbrev ii (z : Int) : xAV := Sum.inl z
abbrev rr (c : Nat) : xAV := Sum.inr (some c)
abbrev xG : Type := Nat × (Nat → ClassId) × (Nat → Nat → Nat) × Nat × Nat
abbrev xK : Type := MethodName × ByteArray × Nat × Option FieldType
abbrev xI : Type := Nat → Nat → Int
abbrev xR : Type := Nat → Nat → Option Nat
abbrev xQ : Type := Option xAV → Nat → xI → xR → Prop
def x_ad (G : xG) (c : Nat) : Nat := if c = 100 then G.2.2.2.1 else if c = 101 then G.2.2.2.2 else G.1 + c
def x_v (G : xG) : xAV → Value
  | .inl z => .int (Int32.ofInt z)
  | .inr o => va_rf (o.map (x_ad G))
theorem x_cat (G : xG) (v : xAV) : (x_v G v).category = 1 := by
  rcases v with z | o
  · rfl
  · cases o <;> rfl
/-- the shape: which cell is what: (0, n) a row of n numbers, (1, n) a row of n references, (2, k) an object of kind k -/
def x_shL : List (Nat × Nat) := [(2, 4), (2, 3), (0, 23), (0, 3), (0, 24), (0, 24), (0, 24), (0, 24), (0, 24), (0, 24), (0, 24), (0, 24), (2, 3), (0, 23), (0, 3), (0, 24), (0, 24), (0, 24), (0, 24), (0, 24), (0, 24), (0, 24), (0, 24), (2, 3), (0, 23), (0, 3), (0, 24), (0, 24), (0, 24), (0, 24), (0, 24), (0, 24), (0, 24), (0, 24), (2, 0), (1, 4), (2, 3), (0, 23), (0, 3), (0, 24), (0, 24), (0, 24), (0, 24), (0, 24), (0, 24), (0, 24), (0, 24), (2, 3), (0, 23), (0, 3), (0, 24), (0, 24), (0, 24), (0, 24), (0, 24), (0, 24), (0, 24), (0, 24), (2, 3), (0, 23), (0, 3), (0, 24), (0, 24), (0, 24), (0, 24), (0, 24), (0, 24), (0, 24), (0, 24), (2, 3), (0, 23), (0, 3), (0, 24), (0, 24), (0, 24), (0, 24), (0, 24), (0, 24), (0, 24), (0, 24), (2, 1), (0, 24), (0, 24), (2, 2), (0, 60), (0, 30), (0, 30), (0, 30), (0, 24), (0, 24)]
def x_sh (c : Nat) : Nat × Nat := if c = 100 ∨ c = 101 then (0, 15) else x_shL.getD c (9, 0)
def x_ir (ci k : Nat) : Bool := match ci, k with
  | 0, 0 => true
  | 1, _ => true
  | 2, 0 => true
  | 2, 2 => true
  | 2, 3 => true
  | 2, 4 => true
  | 3, _ => true
  | 4, 3 => false
  | 4, _ => true
  | 5, 0 => true
  | 5, 1 => true
  | 5, 3 => true
  | 5, 5 => true
  | 5, 7 => true
  | _, _ => false
def x_nf (ci : Nat) : Nat := match ci with
  | 0 => 3
  | 1 => 2
  | 2 => 7
  | 3 => 10
  | 4 => 7
  | 5 => 8
  | _ => 0
def x_fv (G : xG) (I : xI) (Rf : xR) (c ci k : Nat) : Value := if x_ir ci k = true then va_rf ((Rf c k).map (x_ad G)) else .int (Int32.ofInt (I c k))
def x_cell (G : xG) (I : xI) (Rf : xR) (U : State) (H : Heap) (c : Nat) : Prop :=
  ((x_sh c).1 = 0 → va_X (x_ad G c) (x_sh c).2 (fun j => Int32.ofInt (I c j)) U H) ∧
  ((x_sh c).1 = 1 → ∃ cS : ClassId, H[x_ad G c]? = some (arrV cS (x_sh c).2 (fun j => va_rf ((Rf c j).map (x_ad G)))) ∧ ArrOfT U cS (.object "HeatShelves$State") ∧ va_RA U cS (.object "HeatShelves$State")) ∧
  ((x_sh c).1 = 2 → t_OB (x_ad G c) (G.2.1 (x_sh c).2) (x_nf (x_sh c).2) (G.2.2.1 (x_sh c).2) H (x_fv G I Rf c (x_sh c).2))
def x_live (N c : Nat) : Prop := c < N ∨ c = 100 ∨ c = 101
def x_P (G : xG) (N : Nat) (I : xI) (Rf : xR) (U : State) (H : Heap) : Prop := N ≤ 90 ∧ H.size = G.1 + N ∧ G.2.2.2.1 < G.1 ∧ G.2.2.2.2 < G.1 ∧ ∀ c, x_live N c → x_cell G I Rf U H c
def x_A (G : xG) : Nat → Prop := fun q => G.1 ≤ q
def x_NTf : List (String × Nat × String × String × String × String) := [("HeatShelves$State", 42, "HeatShelves", "FIRST_VALUES", "[I", "HeatShelves"), ("HeatShelves$Night", 18, "HeatShelves$State", "numbers", "[I", "HeatShelves"), ("HeatShelves", 142, "HeatShelves$State", "numbers", "[I", "HeatShelves"), ("HeatShelves", 145, "HeatShelves$State", "taken", "[I", "HeatShelves"), ("HeatShelves", 104, "HeatShelves$State", "names", "[I", "HeatShelves"), ("HeatShelves$Night", 84, "HeatShelves$State", "sizes", "[I", "HeatShelves"), ("HeatShelves", 115, "HeatShelves$State", "sizes", "[I", "HeatShelves"), ("HeatShelves$Night", 81, "HeatShelves$State", "heats", "[I", "HeatShelves"), ("HeatShelves", 118, "HeatShelves$State", "heats", "[I", "HeatShelves"), ("HeatShelves$Night", 62, "HeatShelves$State", "shelves", "[I", "HeatShelves"), ("HeatShelves", 121, "HeatShelves$State", "shelves", "[I", "HeatShelves"), ("HeatShelves$Night", 56, "HeatShelves$State", "pins", "[I", "HeatShelves"), ("HeatShelves", 127, "HeatShelves$State", "pins", "[I", "HeatShelves"), ("HeatShelves$Night", 59, "HeatShelves$State", "promises", "[I", "HeatShelves"), ("HeatShelves", 130, "HeatShelves$State", "promises", "[I", "HeatShelves"), ("HeatShelves", 133, "HeatShelves$State", "readings", "[I", "HeatShelves"), ("HeatShelves", 136, "HeatShelves$State", "moves", "[I", "HeatShelves"), ("HeatShelves", 97, "HeatShelves$History", "count", "I", "HeatShelves"), ("HeatShelves", 198, "HeatShelves$Night", "reasons", "[I", "HeatShelves"), ("HeatShelves", 163, "HeatShelves$Orders", "length", "I", "HeatShelves"), ("HeatShelves$State", 115, "HeatShelves", "GREATEST_VALUES", "[I", "HeatShelves")]
def x_NTm : List (String × Nat × MethodName × String) := [("HeatShelves", 9, ⟨"HeatShelves$State", "<init>", "()V"⟩, "HeatShelves"), ("HeatShelves", 28, ⟨"HeatShelves$History", "<init>", "()V"⟩, "HeatShelves"), ("HeatShelves$History", 24, ⟨"HeatShelves$State", "<init>", "()V"⟩, "HeatShelves"), ("HeatShelves", 35, ⟨"HeatShelves$Night", "<init>", "()V"⟩, "HeatShelves"), ("HeatShelves", 42, ⟨"HeatShelves$Orders", "<init>", "()V"⟩, "HeatShelves"), ("HeatShelves", 47, ⟨"HeatShelves$State", "copyFrom", "(LHeatShelves$State;)V"⟩, "HeatShelves"), ("HeatShelves$State", 45, ⟨"HeatShelves", "copyRow", "([I[I)V"⟩, "HeatShelves"), ("HeatShelves", 51, ⟨"HeatShelves$State", "addBlock", "(I)I"⟩, "HeatShelves"), ("HeatShelves$State", 49, ⟨"HeatShelves", "at", "([II)I"⟩, "HeatShelves"), ("HeatShelves$State", 67, ⟨"HeatShelves", "put", "([III)V"⟩, "HeatShelves"), ("HeatShelves$State", 71, ⟨"HeatShelves", "raise", "([III)V"⟩, "HeatShelves"), ("HeatShelves", 183, ⟨"HeatShelves$History", "record", "(LHeatShelves$State;)V"⟩, "HeatShelves"), ("HeatShelves$History", 29, ⟨"HeatShelves$State", "copyFrom", "(LHeatShelves$State;)V"⟩, "HeatShelves"), ("HeatShelves", 166, ⟨"HeatShelves$Night", "letPass", "(LHeatShelves$State;I)I"⟩, "HeatShelves"), ("HeatShelves$Night", 23, ⟨"HeatShelves", "at", "([II)I"⟩, "HeatShelves"), ("HeatShelves$Night", 27, ⟨"HeatShelves$State", "payNight", "()V"⟩, "HeatShelves"), ("HeatShelves$Night", 30, ⟨"HeatShelves$State", "fade", "()V"⟩, "HeatShelves"), ("HeatShelves$Night", 45, ⟨"HeatShelves$State", "countBlocks", "()I"⟩, "HeatShelves"), ("HeatShelves$Night", 49, ⟨"HeatShelves$State", "wantedShelf", "(I)I"⟩, "HeatShelves"), ("HeatShelves$Night", 53, ⟨"HeatShelves", "put", "([III)V"⟩, "HeatShelves"), ("HeatShelves$Night", 87, ⟨"HeatShelves$State", "hasRoom", "(II)Z"⟩, "HeatShelves"), ("HeatShelves$Night", 73, ⟨"HeatShelves$State", "moveTo", "(II)V"⟩, "HeatShelves"), ("HeatShelves$Night", 41, ⟨"HeatShelves", "raise", "([III)V"⟩, "HeatShelves"), ("HeatShelves", 72, ⟨"HeatShelves$State", "changeSetting", "(II)I"⟩, "HeatShelves"), ("HeatShelves", 93, ⟨"HeatShelves$History", "takeLatest", "(LHeatShelves$State;)Z"⟩, "HeatShelves"), ("HeatShelves", 98, ⟨"HeatShelves$State", "countBlocks", "()I"⟩, "HeatShelves"), ("HeatShelves", 148, ⟨"HeatShelves$State", "countOnShelf", "(I)I"⟩, "HeatShelves"), ("HeatShelves", 151, ⟨"HeatShelves$State", "heatOnShelf", "(I)I"⟩, "HeatShelves"), ("HeatShelves", 154, ⟨"HeatShelves$State", "nightPriceOfShelf", "(I)I"⟩, "HeatShelves"), ("HeatShelves", 157, ⟨"HeatShelves$State", "countPinned", "()I"⟩, "HeatShelves"), ("HeatShelves", 160, ⟨"HeatShelves$State", "heatOfAll", "()I"⟩, "HeatShelves"), ("HeatShelves", 101, ⟨"HeatShelves$State", "placeOfRank", "(I)I"⟩, "HeatShelves"), ("HeatShelves", 112, ⟨"HeatShelves$State", "find", "(I)I"⟩, "HeatShelves"), ("HeatShelves", 124, ⟨"HeatShelves$State", "wantedShelf", "(I)I"⟩, "HeatShelves"), ("HeatShelves", 58, ⟨"HeatShelves$State", "dropBlock", "(I)I"⟩, "HeatShelves"), ("HeatShelves$State", 81, ⟨"HeatShelves", "closeGap", "([II)V"⟩, "HeatShelves"), ("HeatShelves", 65, ⟨"HeatShelves$State", "turnPin", "(IZ)I"⟩, "HeatShelves"), ("HeatShelves", 61, ⟨"HeatShelves$State", "readBlock", "(II)I"⟩, "HeatShelves")]
def x_KF (G : xG) (U : State) : Prop := (∀ (ci : Nat) (q : vw_C), vwCl[ci]? = some q → u_Kn U q.1 q.2.1 q.2.2 (G.2.1 ci) (G.2.2.1 ci)) ∧ (∀ w ∈ x_NTf, va_Nw (.fieldLinkNest w.1 w.2.1 w.2.2.1 w.2.2.2.1 w.2.2.2.2.1 w.2.2.2.2.2) U) ∧ (∀ w ∈ x_NTm, va_Nw (.methodLinkNest w.1 w.2.1 w.2.2.1 w.2.2.2) U) ∧ va_Z "HeatShelves" "FIRST_VALUES" "[I" (.ref G.2.2.2.1) (x_A G) U U.heap ∧ va_Z "HeatShelves" "GREATEST_VALUES" "[I" (.ref G.2.2.2.2) (x_A G) U U.heap ∧ va_AO "HeatShelves$State" U
theorem x_live_lt {N c : Nat} {G : xG} {I : xI} {Rf : xR} {U : State} {H : Heap} (h : x_P G N I Rf U H) (hc : x_live N c) : x_ad G c < H.size := by
  obtain ⟨h1, h2, h3, h4, -⟩ := h
  unfold x_ad
  rcases hc with hc | hc | hc
  · rw [if_neg (by omega), if_neg (by omega)]; omega
  · subst hc; simp; omega
  · subst hc; simp; omega
theorem x_ad_lt {N c : Nat} {G : xG} (hN : N ≤ 90) (hc : c < N) : x_ad G c = G.1 + c := by
  unfold x_ad
  rw [if_neg (by omega), if_neg (by omega)]
theorem x_ad_ne {N c c' : Nat} {G : xG} {I : xI} {Rf : xR} {U : State} {H : Heap} (h : x_P G N I Rf U H) (hc : c < N) (hc' : x_live N c') (hne : c' ≠ c) : x_ad G c' ≠ x_ad G c := by
  obtain ⟨h1, h2, h3, h4, -⟩ := h
  rw [x_ad_lt h1 hc]
  rcases hc' with q | q | q
  · rw [x_ad_lt h1 q]; omega
  · subst q; show (if (100 : Nat) = 100 then _ else _) ≠ _; rw [if_pos rfl]; omega
  · subst q; show (if (101 : Nat) = 100 then _ else if (101 : Nat) = 101 then _ else _) ≠ _; rw [if_neg (by decide), if_pos rfl]; omega
theorem x_cell.kept {G : xG} {I I' : xI} {Rf Rf' : xR} {U : State} {H H' : Heap} {c : Nat} (h : x_cell G I Rf U H c) (hq : H'[x_ad G c]? = H[x_ad G c]?) (hI : I' c = I c) (hR : Rf' c = Rf c) : x_cell G I' Rf' U H' c := by
  obtain ⟨h1, h2, h3⟩ := h
  refine ⟨fun k => ?_, fun k => ?_, fun k => ?_⟩
  · rw [hI]; exact (h1 k).kept hq
  · obtain ⟨cS, a, b⟩ := h2 k
    exact ⟨cS, by rw [hq, hR]; exact a, b⟩
  · have e : x_fv G I' Rf' c (x_sh c).2 = x_fv G I Rf c (x_sh c).2 := by funext j; unfold x_fv; rw [hI, hR]
    rw [e]
    exact (h3 k).kept hq
theorem x_cell.moved {G : xG} {I : xI} {Rf : xR} {u U : State} {H : Heap} {c : Nat} (hvm : u.vm.Alike U.vm) (h : x_cell G I Rf u H c) : x_cell G I Rf U H c := by
  obtain ⟨h1, h2, h3⟩ := h
  refine ⟨fun k => (h1 k).moved hvm, fun k => ?_, h3⟩
  obtain ⟨cS, a, b, d⟩ := h2 k
  exact ⟨cS, a, arrOfT_moved hvm b, d.moved hvm⟩
theorem x_P.moved {G : xG} {N : Nat} {I : xI} {Rf : xR} {u U : State} {H : Heap} (hvm : u.vm.Alike U.vm) (h : x_P G N I Rf u H) : x_P G N I Rf U H := ⟨h.1, h.2.1, h.2.2.1, h.2.2.2.1, fun c hc => (h.2.2.2.2 c hc).moved hvm⟩
theorem x_P.set {G : xG} {N : Nat} {I I' : xI} {Rf Rf' : xR} {U : State} {H H' : Heap} {c : Nat} (h : x_P G N I Rf U H) (hc : c < N) (hI : ∀ c', c' ≠ c → I' c' = I c') (hR : ∀ c', c' ≠ c → Rf' c' = Rf c') (hcell : x_cell G I' Rf' U H' c) (hz : H'.size = H.size) (oq : ∀ q, q ≠ x_ad G c → H'[q]? = H[q]?) : x_P G N I' Rf' U H' := by
  refine ⟨h.1, by rw [hz]; exact h.2.1, h.2.2.1, h.2.2.2.1, fun c' hc' => ?_⟩
  by_cases e : c' = c
  · subst e; exact hcell
  · exact (h.2.2.2.2 c' hc').kept (oq _ (x_ad_ne h hc hc' e)) (hI c' e) (hR c' e)
theorem x_P.push {G : xG} {N : Nat} {I I' : xI} {Rf Rf' : xR} {U : State} {H H' : Heap} (h : x_P G N I Rf U H) (hN : N < 90) (hI : ∀ c', c' ≠ N → I' c' = I c') (hR : ∀ c', c' ≠ N → Rf' c' = Rf c') (hcell : x_cell G I' Rf' U H' N) (hz : H'.size = H.size + 1) (oq : ∀ q, q < H.size → H'[q]? = H[q]?) : x_P G (N + 1) I' Rf' U H' := by
  refine ⟨by omega, by rw [hz, h.2.1]; omega, h.2.2.1, h.2.2.2.1, fun c' hc' => ?_⟩
  by_cases e : c' = N
  · subst e; exact hcell
  · have hl : x_live N c' := by
      rcases hc' with q | q
      · exact Or.inl (by omega)
      · exact Or.inr q
    exact (h.2.2.2.2 c' hl).kept (oq _ (x_live_lt h hl)) (hI c' e) (hR c' e)
def x_up (I : xI) (c j : Nat) (z : Int) : xI := fun c' j' => if c' = c ∧ j' = j then z else I c' j'
def x_upR (R : xR) (c j : Nat) (z : Option Nat) : xR := fun c' j' => if c' = c ∧ j' = j then z else R c' j'
theorem x_up_ne {I : xI} {c j : Nat} {z : Int} {c' : Nat} (h : c' ≠ c) : x_up I c j z c' = I c' := by funext j'; simp [x_up, h]
theorem x_upR_ne {I : xR} {c j : Nat} {z : Option Nat} {c' : Nat} (h : c' ≠ c) : x_upR I c j z c' = I c' := by funext j'; simp [x_upR, h]
/-- the locals: those that hold something known -/
def x_L (G : xG) (nL : Nat) (ls : Array Slot) (L : List (Option xAV)) : Prop := ls.size = nL ∧ lv_wf ls ∧ L.length = nL ∧ ∀ (i : Nat) (a : xAV), L[i]? = some (some a) → ls[i]? = some (.val (x_v G a))
def x_as (G : xG) (L : List (Option xAV)) : List (Nat × Value) := (List.range L.length).filterMap (fun i => match L[i]? with
  | some (some a) => some (i, x_v G a)
  | _ => none)
theorem x_as_mem {G : xG} {L : List (Option xAV)} {i : Nat} {v : Value} : (i, v) ∈ x_as G L ↔ ∃ a, L[i]? = some (some a) ∧ v = x_v G a := by
  unfold x_as
  rw [List.mem_filterMap]
  constructor
  · rintro ⟨j, -, h⟩
    split at h
    · rename_i a e
      cases h
      exact ⟨a, e, rfl⟩
    · cases h
  · rintro ⟨a, e, rfl⟩
    refine ⟨i, List.mem_range.mpr (List.getElem?_eq_some_iff.mp e).1, ?_⟩
    rw [e]
theorem x_L.has {G : xG} {nL : Nat} {ls : Array Slot} {L : List (Option xAV)} (h : x_L G nL ls L) : lv_has ls nL (x_as G L) := by
  refine ⟨h.1, h.2.1, fun q hq => ?_⟩
  obtain ⟨a, e, hv⟩ := x_as_mem.mp (show (q.1, q.2) ∈ x_as G L from hq)
  rw [hv]
  exact h.2.2.2 _ _ e
theorem x_L.stored {G : xG} {nL : Nat} {ls ls' : Array Slot} {L : List (Option xAV)} {i : Nat} {a : xAV} (h : x_L G nL ls L) (hi : i < nL) (h' : lv_has ls' nL ((i, x_v G a) :: (x_as G L).filter (fun q => !(q.1 == i) && !(q.1 + 1 == i && q.2.category == 2)))) : x_L G nL ls' (L.set i (some a)) := by
  refine ⟨h'.1, h'.2.1, by rw [List.length_set]; exact h.2.2.1, fun j b hb => ?_⟩
  by_cases e : j = i
  · subst e
    rw [List.getElem?_set_self (by rw [h.2.2.1]; exact hi)] at hb
    cases hb
    exact h'.2.2 (j, x_v G a) List.mem_cons_self
  · rw [List.getElem?_set_ne (Ne.symm e)] at hb
    refine h'.2.2 (j, x_v G b) (List.mem_cons_of_mem _ (List.mem_filter.mpr ⟨x_as_mem.mpr ⟨b, hb, rfl⟩, ?_⟩))
    simp [e, x_cat]
def x_C (κ : xK) (G : xG) (p : Program) (s : State) (m : MethodId) (args : Array Value) (meth : Method) (c : Code) : Prop :=
  p.tables.exec = Jvm.exec ∧ c.code = κ.2.1 ∧ c.maxLocals = κ.2.2.1 ∧ s.vm.findClass κ.1.cls = some m.cls ∧ (∀ w ∈ xT, w.before args s = true) ∧ x_KF G s ∧ meth.name = κ.1.name ∧ G.1 ≤ s.heap.size
/-- an end of the method: which answer leaves by which instruction -/
def x_ret (κ : xK) (pc : Nat) (ro : Option xAV) (st : List xAV) : Prop :=
  (∃ z : Int, ro = some (ii z) ∧ st = [ii z] ∧ decode κ.2.1 pc = .ok (.ireturn, 1) ∧ (κ.2.2.2 = some .int ∨ (κ.2.2.2 = some .boolean ∧ (z = 0 ∨ z = 1)))) ∨
  (ro = none ∧ st = [] ∧ decode κ.2.1 pc = .ok (.return_, 1) ∧ κ.2.2.2 = none) ∨
  (∃ o : Option Nat, ro = some (.inr o) ∧ st = [.inr o] ∧ decode κ.2.1 pc = .ok (.areturn, 1) ∧ κ.2.2.2 = some (.object "HeatShelves$State"))
def x_end (κ : xK) (G : xG) (p : Program) (l : Launch) (e : Env) (Rm : Room) (s : State) (m : MethodId) (args : Array Value) (below : List Frame) (meth : Method) (c : Code) (mc ms : Nat) (Z : State → Prop) (Q : xQ) : Prop :=
  ∀ (ro : Option xAV) (N : Nat) (I : xI) (Rf : xR) (H : Heap) (locs : List Loc) (cells slots pc : Nat) (ls : Array Slot) (st : List xAV), Q ro N I Rf → x_P G N I Rf s H → va_S (x_A G) s.heap H locs → cells ≤ mc → slots ≤ ms → x_ret κ pc ro st →
    W p l e Rm s m args below meth c H locs cells slots Z (F0 m pc ls (st.map (x_v G)))
/-- the judgement: from here (method κ at pc, locals L, stack st, N cells made, memory I and Rf; d frames and bc cells with bs places left) the method comes to an end with Q -/
def X (κ : xK) (d bc bs pc : Nat) (L : List (Option xAV)) (st : List xAV) (N : Nat) (I : xI) (Rf : xR) (Q : xQ) : Prop :=
  ∀ ⦃G : xG⦄ ⦃p : Program⦄ ⦃l : Launch⦄ ⦃e : Env⦄ ⦃Rm : Room⦄ ⦃s : State⦄ ⦃m : MethodId⦄ ⦃args : Array Value⦄ ⦃below : List Frame⦄ ⦃meth : Method⦄ ⦃c : Code⦄ ⦃H : Heap⦄ ⦃locs : List Loc⦄ ⦃cells slots mc ms : Nat⦄ ⦃ls : Array Slot⦄ ⦃Z : State → Prop⦄,
    x_C κ G p s m args meth c → d ≤ Rm.frames → 40 * d ≤ Rm.locals → mc ≤ Rm.cells → ms ≤ Rm.slots → x_end κ G p l e Rm s m args below meth c mc ms Z Q → x_P G N I Rf s H → va_S (x_A G) s.heap H locs → cells + bc ≤ mc → slots + bs ≤ ms → x_L G κ.2.2.1 ls L →
    W p l e Rm s m args below meth c H locs cells slots Z (F0 m pc ls (st.map (x_v G)))
def x_room (d mc ms : Nat) : Room := { frames := d, cells := mc, slots := ms, locals := 40 * d }
def x_pre (G : xG) (as : List xAV) (N : Nat) (I : xI) (Rf : xR) : Array Value → State → Prop := fun v U => v = (as.map (x_v G)).toArray ∧ x_P G N I Rf U U.heap ∧ x_KF G U ∧ G.1 ≤ U.heap.size
def x_post (G : xG) (Q : xQ) : Array Value → State → Outcome → State → Prop := fun _ st o t => (∃ (ro : Option xAV) (N : Nat) (I : xI) (Rf : xR), o = .returned (ro.map (x_v G)) ∧ Q ro N I Rf ∧ x_P G N I Rf t t.heap) ∧ va_F (x_A G) st t
def x_ws (κ : xK) : List Cond := .code κ.1 κ.2.1 κ.2.2.1 κ.2.2.2 :: xT
/-- a method's contract: called with 'as' in memory (N, I, Rf) it returns, and Q holds of the answer and the memory -/
def Sp (κ : xK) (d mc ms : Nat) (as : List xAV) (N : Nat) (I : xI) (Rf : xR) (Q : xQ) : Prop :=
  ∀ (G : xG) (l : Launch), Met l κ.1 (x_ws κ) (x_room d mc ms) (x_pre G as N I Rf) (x_post G Q) mc ms (x_A G)
end
section
theorem x_sh_lt (c : Nat) : (x_sh c).2 < 1000 := by
  unfold x_sh
  split
  · decide
  · rw [List.getD_eq_getElem?_getD]
    cases h : x_shL[c]? with
    | none => decide
    | some q =>
      have hm := List.mem_of_getElem? h
      have ha : ∀ q ∈ x_shL, q.2 < 1000 := by decide
      exact ha q hm
/-- what a getfield, putfield, getstatic, a call needs of the tables -/
def x_GF (own : String) (idx ci k : Nat) : Prop := ∃ (C : String) (T : u_T) (Nf : Nat), vwCl[ci]? = some (C, T, Nf) ∧ x_nf ci = Nf ∧ k < Nf ∧ (∀ w ∈ u_ws C T Nf, w ∈ xT) ∧ (Cond.fieldLink own idx (T k).1 (T k).2.1 (T k).2.2.1 ∈ xT ∨ ∃ host, (own, idx, (T k).1, (T k).2.1, (T k).2.2.1, host) ∈ x_NTf)
def x_PF (own : String) (idx ci k : Nat) (ty : FieldType) (fin : Bool) : Prop := ∃ (C : String) (T : u_T) (Nf : Nat) (ty0 : Nat → FieldType), vwCl[ci]? = some (C, T, Nf) ∧ x_nf ci = Nf ∧ k < Nf ∧ (∀ w ∈ u_ws C T Nf, w ∈ xT) ∧ Cond.fieldLink own idx (T k).1 (T k).2.1 (T k).2.2.1 ∈ xT ∧ (∀ j, j < Nf → parseFieldDescriptor (T j).2.2.1 = some (ty0 j)) ∧ (∀ a, a < Nf → ∀ b, b < Nf → a ≠ b → (T a).2.1 ≠ (T b).2.1) ∧ (T k).2.2.2 = fin ∧ ty0 k = ty ∧ (T k).1 = own
def x_GS (own : String) (idx : Nat) (nm : String) : Prop := Cond.fieldLink own idx "HeatShelves" nm "[I" ∈ xT ∨ ∃ host, (own, idx, "HeatShelves", nm, "[I", host) ∈ x_NTf
def x_lnk (own : String) (idx : Nat) (κ : xK) : Prop := Cond.methodLink own idx κ.1 ∈ xT ∨ ∃ host, (own, idx, κ.1, host) ∈ x_NTm
def x_cal (κ : xK) (n : Nat) : Prop := Cond.code κ.1 κ.2.1 κ.2.2.1 κ.2.2.2 ∈ xT ∧ Cond.initialized κ.1.cls ∈ xT ∧ (κ.1.cls ≠ "java/lang/invoke/MethodHandle" ∧ κ.1.cls ≠ "java/lang/invoke/VarHandle" ∧ (parseMethodDescriptor κ.1.desc).map (fun d => d.parameters.length) = some n) ∧ κ.2.2.1 ≤ 21
def x_CV (own : String) (idx : Nat) (κ : xK) (n ci : Nat) : Prop := x_lnk own idx κ ∧ x_cal κ n ∧ Cond.instanceMethod κ.1 ∈ xT ∧ Cond.selects κ.1.cls κ.1 κ.1 ∈ xT ∧ ∃ T Nf, vwCl[ci]? = some (κ.1.cls, T, Nf)
def x_CS (own : String) (idx : Nat) (κ : xK) (n : Nat) : Prop := x_lnk own idx κ ∧ x_cal κ n ∧ Cond.static κ.1 ∈ xT
def x_CC (own : String) (idx : Nat) (κ : xK) (n : Nat) : Prop := x_lnk own idx κ ∧ x_cal κ n ∧ Cond.instanceMethod κ.1 ∈ xT ∧ κ.1.name = "<init>" ∧ κ.2.2.2 = none
def x_cp (I : xI) (c0 c1 n : Nat) : xI := fun c j => if c = c1 ∧ j < n then I c0 j else I c j
def x_z (I : xI) (N : Nat) : xI := fun c j => if c = N then 0 else I c j
def x_zR (Rf : xR) (N : Nat) : xR := fun c j => if c = N then none else Rf c j
theorem xw_min_static : Cond.static Lib.Math.min.name ∈ xT := xT_of (List.mem_append_right _ (List.mem_of_getElem? (i := 169) rfl)) rfl
theorem xw_min_code : Cond.code Lib.Math.min.name Lib.Math.min.code 2 (some .int) ∈ xT := xT_of (List.mem_append_right _ (List.mem_of_getElem? (i := 170) rfl)) rfl
theorem xw_max_static : Cond.static Lib.Math.max.name ∈ xT := xT_of (List.mem_append_right _ (List.mem_of_getElem? (i := 239) rfl)) rfl
theorem xw_max_code : Cond.code Lib.Math.max.name Lib.Math.max.code 2 (some .int) ∈ xT := xT_of (List.mem_append_right _ (List.mem_of_getElem? (i := 240) rfl)) rfl
theorem xw_abs_static : Cond.static Lib.Math.abs.name ∈ xT := xT_of (List.mem_append_right _ (List.mem_of_getElem? (i := 265) rfl)) rfl
theorem xw_abs_code : Cond.code Lib.Math.abs.name Lib.Math.abs.code 1 (some .int) ∈ xT := xT_of (List.mem_append_right _ (List.mem_of_getElem? (i := 266) rfl)) rfl
theorem xw_math_init : Cond.initialized "java/lang/Math" ∈ xT := xT_of (List.mem_append_right _ (List.mem_of_getElem? (i := 6) rfl)) rfl
theorem xw_sys_init : Cond.initialized "java/lang/System" ∈ xT := xT_of (List.mem_append_right _ (List.mem_of_getElem? (i := 7) rfl)) rfl
theorem xw_acp_native : Cond.native arraycopyName ∈ xT := xT_of (List.mem_append_right _ (List.mem_of_getElem? (i := 173) rfl)) rfl
theorem xw_acp_static : Cond.static arraycopyName ∈ xT := xT_of (List.mem_append_right _ (List.mem_of_getElem? (i := 172) rfl)) rfl
theorem xw_obj_inst : Cond.instanceMethod Lib.objectInit ∈ xT := xT_of (List.mem_append_right _ (List.mem_of_getElem? (i := 14) rfl)) rfl
theorem xw_obj_code : Cond.code Lib.objectInit ⟨#[0xb1]⟩ 1 none ∈ xT := xT_of (List.mem_append_right _ (List.mem_of_getElem? (i := 15) rfl)) rfl
theorem xw_arr_int : Cond.arrayClass (newarray.typeOf .int) ∈ xT := xT_of (List.mem_append_right _ (List.mem_of_getElem? (i := 71) rfl)) rfl
/-! numbers -/
theorem x_ti {z : Int} (h : -2147483648 ≤ z ∧ z ≤ 2147483647) : (Int32.ofInt z).toInt = z := Int32.toInt_ofInt_of_le (by omega) (by omega)
theorem x_lt {a b : Int} (ha : -2147483648 ≤ a ∧ a ≤ 2147483647) (hb : -2147483648 ≤ b ∧ b ≤ 2147483647) : Int32.ofInt a < Int32.ofInt b ↔ a < b := by rw [Int32.lt_iff_toInt_lt, x_ti ha, x_ti hb]
theorem x_le {a b : Int} (ha : -2147483648 ≤ a ∧ a ≤ 2147483647) (hb : -2147483648 ≤ b ∧ b ≤ 2147483647) : Int32.ofInt a ≤ Int32.ofInt b ↔ a ≤ b := by rw [Int32.le_iff_toInt_le, x_ti ha, x_ti hb]
theorem x_eq {a b : Int} (ha : -2147483648 ≤ a ∧ a ≤ 2147483647) (hb : -2147483648 ≤ b ∧ b ≤ 2147483647) : Int32.ofInt a = Int32.ofInt b ↔ a = b := by rw [← Int32.toInt_inj, x_ti ha, x_ti hb]
theorem x_zero : (0 : Int32) = Int32.ofInt 0 := rfl
theorem x_in {i : Int} {n : Nat} (h : 0 ≤ i ∧ i < n) (hn : n < 2147483648) : vp_in (Int32.ofInt i) n := by
  rw [vp_in_iff, x_ti (by omega)]
  exact h
theorem x_cl {i : Int} (h : 0 ≤ i ∧ i ≤ 2147483647) : (Int32.ofInt i).toNatClampNeg = i.toNat := Int32.toNatClampNeg_ofInt_of_le (by omega) (by omega)
theorem x_bi {n : Int} (h : -128 ≤ n ∧ n ≤ 127) : (Int8.ofInt n).toInt32 = Int32.ofInt n := by
  rw [← Int32.toInt_inj, Int8.toInt_toInt32, Int8.toInt_ofInt_of_le (by omega) (by omega), x_ti (by omega)]
theorem x_si {n : Int} (h : -32768 ≤ n ∧ n ≤ 32767) : (Int16.ofInt n).toInt32 = Int32.ofInt n := by
  rw [← Int32.toInt_inj, Int16.toInt_toInt32, Int16.toInt_ofInt_of_le (by omega) (by omega), x_ti (by omega)]
theorem x_nI (n : Nat) : nI n = Int32.ofInt (n : Int) := (Int32.ofInt_eq_ofNat).symm
theorem x_div {a b : Int} (ha : 0 ≤ a ∧ a ≤ 2147483647) (hb : 0 < b ∧ b ≤ 2147483647) : Int32.ofInt a / Int32.ofInt b = Int32.ofInt (a / b) := by
  obtain ⟨n, rfl⟩ := Int.eq_ofNat_of_zero_le ha.1
  obtain ⟨k, rfl⟩ := Int.eq_ofNat_of_zero_le (by omega : 0 ≤ b)
  have h := pk_div (a := n) (d := k) (by omega) (by omega) (by omega)
  rw [x_nI, x_nI, x_nI] at h
  rw [h]
  rfl
theorem x_rem {a b : Int} (ha : 0 ≤ a ∧ a ≤ 2147483647) (hb : 0 < b ∧ b ≤ 2147483647) : Int32.ofInt a - Int32.ofInt a / Int32.ofInt b * Int32.ofInt b = Int32.ofInt (a % b) := by
  obtain ⟨n, rfl⟩ := Int.eq_ofNat_of_zero_le ha.1
  obtain ⟨k, rfl⟩ := Int.eq_ofNat_of_zero_le (by omega : 0 ≤ b)
  have h := pk_rem (a := n) (d := k) (by omega) (by omega) (by omega)
  rw [x_nI, x_nI, x_nI] at h
  rw [h]
  rfl
theorem x_bits (z : Int) : ((Int32.ofInt z).toBitVec.toNat : Int) = z % 4294967296 := by
  have h : (Int32.ofInt z).toBitVec = BitVec.ofInt 32 z := rfl
  rw [h, BitVec.toNat_ofInt]
  omega
theorem x_char (z : Int) : ((Int32.ofInt z).toUInt32 % 65536).toInt32 = Int32.ofInt (z % 65536) := by
  rw [pk_char, x_nI]
  have h := x_bits z
  congr 1
  omega
theorem x_and31 (z : Int) : Int32.ofInt z &&& 31 = Int32.ofInt (z % 32) := by
  rw [pk_and (Int32.ofInt z) 5 (by decide), x_nI]
  have h := x_bits z
  congr 1
  omega
/-! the rules: one an instruction -/
section XR
variable {κ : xK} {d bc bs pc : Nat} {L : List (Option xAV)} {st : List xAV} {N : Nat} {I : xI} {Rf : xR} {Q : xQ}
theorem X_iconst {n : Int} (hd : decode κ.2.1 pc = .ok (.iconst n, 1)) (kk : X κ d bc bs (pc + 1) L (ii n :: st) N I Rf Q) : X κ d bc bs pc L st N I Rf Q := by
  intro G p l e Rm s m args below meth c H locs cells slots mc ms ls Z hC h1 h2 h3 h4 hE hP hS h5 h6 hL
  exact lv_iconst (v := Int32.ofInt n) hC.1 hC.2.1 hd rfl (kk hC h1 h2 h3 h4 hE hP hS h5 h6 hL)
theorem X_bipush {n : Int} (hd : decode κ.2.1 pc = .ok (.bipush n, 2)) (hn : -128 ≤ n ∧ n ≤ 127) (kk : X κ d bc bs (pc + 2) L (ii n :: st) N I Rf Q) : X κ d bc bs pc L st N I Rf Q := by
  intro G p l e Rm s m args below meth c H locs cells slots mc ms ls Z hC h1 h2 h3 h4 hE hP hS h5 h6 hL
  exact lv_bipush (v := Int32.ofInt n) hC.1 hC.2.1 hd (x_bi hn) (kk hC h1 h2 h3 h4 hE hP hS h5 h6 hL)
theorem X_sipush {n : Int} (hd : decode κ.2.1 pc = .ok (.sipush n, 3)) (hn : -32768 ≤ n ∧ n ≤ 32767) (kk : X κ d bc bs (pc + 3) L (ii n :: st) N I Rf Q) : X κ d bc bs pc L st N I Rf Q := by
  intro G p l e Rm s m args below meth c H locs cells slots mc ms ls Z hC h1 h2 h3 h4 hE hP hS h5 h6 hL
  exact lv_sipush (v := Int32.ofInt n) hC.1 hC.2.1 hd (x_si hn) (kk hC h1 h2 h3 h4 hE hP hS h5 h6 hL)
theorem X_ldc {own : String} {index : Nat} {v : Int32} {z : Int} (hd : decode κ.2.1 pc = .ok (.ldc index, 2)) (ho : κ.1.cls = own) (hw : Cond.constant own index v ∈ xT) (hv : v = Int32.ofInt z) (kk : X κ d bc bs (pc + 2) L (ii z :: st) N I Rf Q) : X κ d bc bs pc L st N I Rf Q := by
  intro G p l e Rm s m args below meth c H locs cells slots mc ms ls Z hC h1 h2 h3 h4 hE hP hS h5 h6 hL
  subst hv; subst ho
  exact lv_ldc (v := Int32.ofInt z) hC.1 hC.2.1 hC.2.2.2.1 (hC.2.2.2.2.1 _ hw) hd (kk hC h1 h2 h3 h4 hE hP hS h5 h6 hL)
theorem X_iload {k : Fin 4} {z : Int} (hd : decode κ.2.1 pc = .ok (.iload_n k, 1)) (hl : L[(k : Nat)]? = some (some (ii z))) (kk : X κ d bc bs (pc + 1) L (ii z :: st) N I Rf Q) : X κ d bc bs pc L st N I Rf Q := by
  intro G p l e Rm s m args below meth c H locs cells slots mc ms ls Z hC h1 h2 h3 h4 hE hP hS h5 h6 hL
  exact lv_iload_n (x := Int32.ofInt z) hC.1 hC.2.1 hd rfl (hL.2.2.2 _ _ hl) (kk hC h1 h2 h3 h4 hE hP hS h5 h6 hL)
theorem X_iloadW {k : Nat} {z : Int} (hd : decode κ.2.1 pc = .ok (.iload k, 2)) (hl : L[k]? = some (some (ii z))) (kk : X κ d bc bs (pc + 2) L (ii z :: st) N I Rf Q) : X κ d bc bs pc L st N I Rf Q := by
  intro G p l e Rm s m args below meth c H locs cells slots mc ms ls Z hC h1 h2 h3 h4 hE hP hS h5 h6 hL
  exact lv_iload (x := Int32.ofInt z) hC.1 hC.2.1 hd (hL.2.2.2 _ _ hl) (kk hC h1 h2 h3 h4 hE hP hS h5 h6 hL)
theorem X_aload {k : Fin 4} {z : Nat} (hd : decode κ.2.1 pc = .ok (.aload_n k, 1)) (hl : L[(k : Nat)]? = some (some (rr z))) (kk : X κ d bc bs (pc + 1) L (rr z :: st) N I Rf Q) : X κ d bc bs pc L st N I Rf Q := by
  intro G p l e Rm s m args below meth c H locs cells slots mc ms ls Z hC h1 h2 h3 h4 hE hP hS h5 h6 hL
  exact lv_aload_n (x := x_ad G z) hC.1 hC.2.1 hd rfl (hL.2.2.2 _ _ hl) (kk hC h1 h2 h3 h4 hE hP hS h5 h6 hL)
theorem X_istore {k : Fin 4} {z : Int} (hd : decode κ.2.1 pc = .ok (.istore_n k, 1)) (hk : (k : Nat) < κ.2.2.1) (kk : X κ d bc bs (pc + 1) (L.set (k : Nat) (some (ii z))) st N I Rf Q) : X κ d bc bs pc L (ii z :: st) N I Rf Q := by
  intro G p l e Rm s m args below meth c H locs cells slots mc ms ls Z hC h1 h2 h3 h4 hE hP hS h5 h6 hL
  exact lv_istore_n (x := Int32.ofInt z) hC.1 hC.2.1 hd rfl hL.has hk rfl (fun ls' h' => kk hC h1 h2 h3 h4 hE hP hS h5 h6 (hL.stored (a := ii z) hk h'))
theorem X_istoreW {k : Nat} {z : Int} (hd : decode κ.2.1 pc = .ok (.istore k, 2)) (hk : k < κ.2.2.1) (kk : X κ d bc bs (pc + 2) (L.set k (some (ii z))) st N I Rf Q) : X κ d bc bs pc L (ii z :: st) N I Rf Q := by
  intro G p l e Rm s m args below meth c H locs cells slots mc ms ls Z hC h1 h2 h3 h4 hE hP hS h5 h6 hL
  exact lv_istore (x := Int32.ofInt z) hC.1 hC.2.1 hd hL.has hk rfl (fun ls' h' => kk hC h1 h2 h3 h4 hE hP hS h5 h6 (hL.stored (a := ii z) hk h'))
theorem X_astore {k : Fin 4} {z : Nat} (hd : decode κ.2.1 pc = .ok (.astore_n k, 1)) (hk : (k : Nat) < κ.2.2.1) (kk : X κ d bc bs (pc + 1) (L.set (k : Nat) (some (rr z))) st N I Rf Q) : X κ d bc bs pc L (rr z :: st) N I Rf Q := by
  intro G p l e Rm s m args below meth c H locs cells slots mc ms ls Z hC h1 h2 h3 h4 hE hP hS h5 h6 hL
  exact lv_astore_n (x := x_ad G z) hC.1 hC.2.1 hd rfl hL.has hk rfl (fun ls' h' => kk hC h1 h2 h3 h4 hE hP hS h5 h6 (hL.stored (a := rr z) hk h'))
theorem X_iinc {k : Nat} {n z : Int} (hd : decode κ.2.1 pc = .ok (.iinc k n, 3)) (hl : L[k]? = some (some (ii z))) (kk : X κ d bc bs (pc + 3) (L.set k (some (ii (z + n)))) st N I Rf Q) : X κ d bc bs pc L st N I Rf Q := by
  intro G p l e Rm s m args below meth c H locs cells slots mc ms ls Z hC h1 h2 h3 h4 hE hP hS h5 h6 hL
  have hk : k < κ.2.2.1 := by rw [← hL.2.2.1]; exact (List.getElem?_eq_some_iff.mp hl).1
  obtain ⟨j, hj⟩ := List.getElem?_of_mem (x_as_mem (G := G).mpr ⟨_, hl, rfl⟩)
  exact lv_iinc (x := Int32.ofInt z) (v := Int32.ofInt (z + n)) hC.1 hC.2.1 hd hL.has hj (Int32.ofInt_add z n).symm hk rfl (fun ls' h' => kk hC h1 h2 h3 h4 hE hP hS h5 h6 (hL.stored (a := ii (z + n)) hk h'))
theorem X_iincW {k : Nat} {n z : Int} (hd : decode κ.2.1 pc = .ok (.iinc k n, 6)) (hl : L[k]? = some (some (ii z))) (kk : X κ d bc bs (pc + 6) (L.set k (some (ii (z + n)))) st N I Rf Q) : X κ d bc bs pc L st N I Rf Q := by
  intro G p l e Rm s m args below meth c H locs cells slots mc ms ls Z hC h1 h2 h3 h4 hE hP hS h5 h6 hL
  have hk : k < κ.2.2.1 := by rw [← hL.2.2.1]; exact (List.getElem?_eq_some_iff.mp hl).1
  obtain ⟨j, hj⟩ := List.getElem?_of_mem (x_as_mem (G := G).mpr ⟨_, hl, rfl⟩)
  exact lv_iincW (x := Int32.ofInt z) (v := Int32.ofInt (z + n)) hC.1 hC.2.1 hd hL.has hj (Int32.ofInt_add z n).symm hk rfl (fun ls' h' => kk hC h1 h2 h3 h4 hE hP hS h5 h6 (hL.stored (a := ii (z + n)) hk h'))
theorem X_iadd {a b : Int} (hd : decode κ.2.1 pc = .ok (.iadd, 1)) (kk : X κ d bc bs (pc + 1) L (ii (a + b) :: st) N I Rf Q) : X κ d bc bs pc L (ii b :: ii a :: st) N I Rf Q := by
  intro G p l e Rm s m args below meth c H locs cells slots mc ms ls Z hC h1 h2 h3 h4 hE hP hS h5 h6 hL
  refine lv_iadd (x := Int32.ofInt a) (y := Int32.ofInt b) hC.1 hC.2.1 hd ?_
  rw [← Int32.ofInt_add]
  exact kk hC h1 h2 h3 h4 hE hP hS h5 h6 hL
theorem X_isub {a b : Int} (hd : decode κ.2.1 pc = .ok (.isub, 1)) (kk : X κ d bc bs (pc + 1) L (ii (a - b) :: st) N I Rf Q) : X κ d bc bs pc L (ii b :: ii a :: st) N I Rf Q := by
  intro G p l e Rm s m args below meth c H locs cells slots mc ms ls Z hC h1 h2 h3 h4 hE hP hS h5 h6 hL
  refine lv_isub (x := Int32.ofInt a) (y := Int32.ofInt b) hC.1 hC.2.1 hd ?_
  rw [← Int32.ofInt_sub]
  exact kk hC h1 h2 h3 h4 hE hP hS h5 h6 hL
theorem X_imul {a b : Int} (hd : decode κ.2.1 pc = .ok (.imul, 1)) (kk : X κ d bc bs (pc + 1) L (ii (a * b) :: st) N I Rf Q) : X κ d bc bs pc L (ii b :: ii a :: st) N I Rf Q := by
  intro G p l e Rm s m args below meth c H locs cells slots mc ms ls Z hC h1 h2 h3 h4 hE hP hS h5 h6 hL
  refine lv_imul (x := Int32.ofInt a) (y := Int32.ofInt b) hC.1 hC.2.1 hd ?_
  rw [← Int32.ofInt_mul]
  exact kk hC h1 h2 h3 h4 hE hP hS h5 h6 hL
theorem X_ineg {a : Int} (hd : decode κ.2.1 pc = .ok (.ineg, 1)) (kk : X κ d bc bs (pc + 1) L (ii (-a) :: st) N I Rf Q) : X κ d bc bs pc L (ii a :: st) N I Rf Q := by
  intro G p l e Rm s m args below meth c H locs cells slots mc ms ls Z hC h1 h2 h3 h4 hE hP hS h5 h6 hL
  refine lv_ineg (x := Int32.ofInt a) hC.1 hC.2.1 hd ?_
  rw [← Int32.ofInt_neg]
  exact kk hC h1 h2 h3 h4 hE hP hS h5 h6 hL
theorem X_iand31 {a : Int} (hd : decode κ.2.1 pc = .ok (.iand, 1)) (kk : X κ d bc bs (pc + 1) L (ii (a % 32) :: st) N I Rf Q) : X κ d bc bs pc L (ii 31 :: ii a :: st) N I Rf Q := by
  intro G p l e Rm s m args below meth c H locs cells slots mc ms ls Z hC h1 h2 h3 h4 hE hP hS h5 h6 hL
  refine lv_iand (x := Int32.ofInt a) (y := Int32.ofInt 31) hC.1 hC.2.1 hd ?_
  rw [show Int32.ofInt a &&& Int32.ofInt 31 = Int32.ofInt (a % 32) from x_and31 a]
  exact kk hC h1 h2 h3 h4 hE hP hS h5 h6 hL
theorem X_idiv {a b : Int} (hd : decode κ.2.1 pc = .ok (.idiv, 1)) (ha : 0 ≤ a ∧ a ≤ 2147483647) (hb : 0 < b ∧ b ≤ 2147483647) (kk : X κ d bc bs (pc + 1) L (ii (a / b) :: st) N I Rf Q) : X κ d bc bs pc L (ii b :: ii a :: st) N I Rf Q := by
  intro G p l e Rm s m args below meth c H locs cells slots mc ms ls Z hC h1 h2 h3 h4 hE hP hS h5 h6 hL
  refine lv_idiv (x := Int32.ofInt a) (y := Int32.ofInt b) hC.1 hC.2.1 hd (by rw [x_zero, x_eq (by omega) (by omega)]; omega) ?_
  rw [x_div ha hb]
  exact kk hC h1 h2 h3 h4 hE hP hS h5 h6 hL
theorem X_irem {a b : Int} (hd : decode κ.2.1 pc = .ok (.irem, 1)) (ha : 0 ≤ a ∧ a ≤ 2147483647) (hb : 0 < b ∧ b ≤ 2147483647) (kk : X κ d bc bs (pc + 1) L (ii (a % b) :: st) N I Rf Q) : X κ d bc bs pc L (ii b :: ii a :: st) N I Rf Q := by
  intro G p l e Rm s m args below meth c H locs cells slots mc ms ls Z hC h1 h2 h3 h4 hE hP hS h5 h6 hL
  refine lv_irem (x := Int32.ofInt a) (y := Int32.ofInt b) hC.1 hC.2.1 hd (by rw [x_zero, x_eq (by omega) (by omega)]; omega) ?_
  rw [x_rem ha hb]
  exact kk hC h1 h2 h3 h4 hE hP hS h5 h6 hL
theorem X_i2c {a : Int} (hd : decode κ.2.1 pc = .ok (.i2c, 1)) (kk : X κ d bc bs (pc + 1) L (ii (a % 65536) :: st) N I Rf Q) : X κ d bc bs pc L (ii a :: st) N I Rf Q := by
  intro G p l e Rm s m args below meth c H locs cells slots mc ms ls Z hC h1 h2 h3 h4 hE hP hS h5 h6 hL
  exact lv_i2c (x := Int32.ofInt a) (v := Int32.ofInt (a % 65536)) hC.1 hC.2.1 hd (x_char a) (kk hC h1 h2 h3 h4 hE hP hS h5 h6 hL)
theorem X_dup {a : xAV} (hd : decode κ.2.1 pc = .ok (.dup, 1)) (kk : X κ d bc bs (pc + 1) L (a :: a :: st) N I Rf Q) : X κ d bc bs pc L (a :: st) N I Rf Q := by
  intro G p l e Rm s m args below meth c H locs cells slots mc ms ls Z hC h1 h2 h3 h4 hE hP hS h5 h6 hL
  exact lv_dup (va := x_v G a) hC.1 hC.2.1 hd (x_cat G a) (kk hC h1 h2 h3 h4 hE hP hS h5 h6 hL)
theorem X_dup2 {a b : xAV} (hd : decode κ.2.1 pc = .ok (.dup2, 1)) (kk : X κ d bc bs (pc + 1) L (a :: b :: a :: b :: st) N I Rf Q) : X κ d bc bs pc L (a :: b :: st) N I Rf Q := by
  intro G p l e Rm s m args below meth c H locs cells slots mc ms ls Z hC h1 h2 h3 h4 hE hP hS h5 h6 hL
  exact lv_dup2_11 (va := x_v G a) (vb := x_v G b) hC.1 hC.2.1 hd (x_cat G a) (x_cat G b) (kk hC h1 h2 h3 h4 hE hP hS h5 h6 hL)
theorem X_pop {a : xAV} (hd : decode κ.2.1 pc = .ok (.pop, 1)) (kk : X κ d bc bs (pc + 1) L st N I Rf Q) : X κ d bc bs pc L (a :: st) N I Rf Q := by
  intro G p l e Rm s m args below meth c H locs cells slots mc ms ls Z hC h1 h2 h3 h4 hE hP hS h5 h6 hL
  exact lv_pop (va := x_v G a) hC.1 hC.2.1 hd (x_cat G a) (kk hC h1 h2 h3 h4 hE hP hS h5 h6 hL)
theorem X_goto {off : Int} {tgt : Nat} (hd : decode κ.2.1 pc = .ok (.goto off, 3)) (ht : (pc : Int) + off = (tgt : Int)) (kk : X κ d bc bs tgt L st N I Rf Q) : X κ d bc bs pc L st N I Rf Q := by
  intro G p l e Rm s m args below meth c H locs cells slots mc ms ls Z hC h1 h2 h3 h4 hE hP hS h5 h6 hL
  exact lv_goto hC.1 hC.2.1 hd ht (kk hC h1 h2 h3 h4 hE hP hS h5 h6 hL)
theorem X_null (hd : decode κ.2.1 pc = .ok (.aconst_null, 1)) (kk : X κ d bc bs (pc + 1) L (.inr none :: st) N I Rf Q) : X κ d bc bs pc L st N I Rf Q := by
  intro G p l e Rm s m args below meth c H locs cells slots mc ms ls Z hC h1 h2 h3 h4 hE hP hS h5 h6 hL
  exact lv_null hC.1 hC.2.1 hd (kk hC h1 h2 h3 h4 hE hP hS h5 h6 hL)
theorem X_ifnonnull {z : Nat} {off : Int} {tgt : Nat} (hd : decode κ.2.1 pc = .ok (.ifnonnull off, 3)) (ht : (pc : Int) + off = (tgt : Int)) (kk : X κ d bc bs tgt L st N I Rf Q) : X κ d bc bs pc L (rr z :: st) N I Rf Q := by
  intro G p l e Rm s m args below meth c H locs cells slots mc ms ls Z hC h1 h2 h3 h4 hE hP hS h5 h6 hL
  exact lv_ifnonnull (x := x_ad G z) hC.1 hC.2.1 hd ht (kk hC h1 h2 h3 h4 hE hP hS h5 h6 hL)
theorem X_ifnull {z : Nat} {off : Int} (hd : decode κ.2.1 pc = .ok (.ifnull off, 3)) (kk : X κ d bc bs (pc + 3) L st N I Rf Q) : X κ d bc bs pc L (rr z :: st) N I Rf Q := by
  intro G p l e Rm s m args below meth c H locs cells slots mc ms ls Z hC h1 h2 h3 h4 hE hP hS h5 h6 hL
  exact lv_ifnull (x := x_ad G z) hC.1 hC.2.1 hd (kk hC h1 h2 h3 h4 hE hP hS h5 h6 hL)
theorem X_icmp_eq {a b off : Int} {tgt : Nat} (hd : decode κ.2.1 pc = .ok (.if_icmp .eq off, 3)) (ht : (pc : Int) + off = (tgt : Int)) (hr : (-2147483648 ≤ a ∧ a ≤ 2147483647) ∧ (-2147483648 ≤ b ∧ b ≤ 2147483647)) (kt : a = b → X κ d bc bs tgt L st N I Rf Q) (kf : ¬ a = b → X κ d bc bs (pc + 3) L st N I Rf Q) : X κ d bc bs pc L (ii b :: ii a :: st) N I Rf Q := by
  intro G p l e Rm s m args below meth c H locs cells slots mc ms ls Z hC h1 h2 h3 h4 hE hP hS h5 h6 hL
  exact lv_icmp_eq (x := Int32.ofInt a) (y := Int32.ofInt b) hC.1 hC.2.1 hd ht (fun q => kt ((x_eq hr.1 hr.2).mp q) hC h1 h2 h3 h4 hE hP hS h5 h6 hL) (fun q => kf (fun z => q ((x_eq hr.1 hr.2).mpr z)) hC h1 h2 h3 h4 hE hP hS h5 h6 hL)
theorem X_if_eq {a off : Int} {tgt : Nat} (hd : decode κ.2.1 pc = .ok (.ifCond .eq off, 3)) (ht : (pc : Int) + off = (tgt : Int)) (ha : -2147483648 ≤ a ∧ a ≤ 2147483647) (kt : a = 0 → X κ d bc bs tgt L st N I Rf Q) (kf : ¬ a = 0 → X κ d bc bs (pc + 3) L st N I Rf Q) : X κ d bc bs pc L (ii a :: st) N I Rf Q := by
  intro G p l e Rm s m args below meth c H locs cells slots mc ms ls Z hC h1 h2 h3 h4 hE hP hS h5 h6 hL
  have hr : (-2147483648 ≤ a ∧ a ≤ 2147483647) ∧ (-2147483648 ≤ (0 : Int) ∧ (0 : Int) ≤ 2147483647) := ⟨ha, by omega⟩
  exact lv_if_eq (x := Int32.ofInt a) hC.1 hC.2.1 hd ht (fun q => kt ((x_eq hr.1 hr.2).mp q) hC h1 h2 h3 h4 hE hP hS h5 h6 hL) (fun q => kf (fun z => q ((x_eq hr.1 hr.2).mpr z)) hC h1 h2 h3 h4 hE hP hS h5 h6 hL)
theorem X_icmp_ne {a b off : Int} {tgt : Nat} (hd : decode κ.2.1 pc = .ok (.if_icmp .ne off, 3)) (ht : (pc : Int) + off = (tgt : Int)) (hr : (-2147483648 ≤ a ∧ a ≤ 2147483647) ∧ (-2147483648 ≤ b ∧ b ≤ 2147483647)) (kt : ¬ a = b → X κ d bc bs tgt L st N I Rf Q) (kf : a = b → X κ d bc bs (pc + 3) L st N I Rf Q) : X κ d bc bs pc L (ii b :: ii a :: st) N I Rf Q := by
  intro G p l e Rm s m args below meth c H locs cells slots mc ms ls Z hC h1 h2 h3 h4 hE hP hS h5 h6 hL
  exact lv_icmp_ne (x := Int32.ofInt a) (y := Int32.ofInt b) hC.1 hC.2.1 hd ht (fun q => kt (fun z => q ((x_eq hr.1 hr.2).mpr z)) hC h1 h2 h3 h4 hE hP hS h5 h6 hL) (fun q => kf ((x_eq hr.1 hr.2).mp q) hC h1 h2 h3 h4 hE hP hS h5 h6 hL)
theorem X_if_ne {a off : Int} {tgt : Nat} (hd : decode κ.2.1 pc = .ok (.ifCond .ne off, 3)) (ht : (pc : Int) + off = (tgt : Int)) (ha : -2147483648 ≤ a ∧ a ≤ 2147483647) (kt : ¬ a = 0 → X κ d bc bs tgt L st N I Rf Q) (kf : a = 0 → X κ d bc bs (pc + 3) L st N I Rf Q) : X κ d bc bs pc L (ii a :: st) N I Rf Q := by
  intro G p l e Rm s m args below meth c H locs cells slots mc ms ls Z hC h1 h2 h3 h4 hE hP hS h5 h6 hL
  have hr : (-2147483648 ≤ a ∧ a ≤ 2147483647) ∧ (-2147483648 ≤ (0 : Int) ∧ (0 : Int) ≤ 2147483647) := ⟨ha, by omega⟩
  exact lv_if_ne (x := Int32.ofInt a) hC.1 hC.2.1 hd ht (fun q => kt (fun z => q ((x_eq hr.1 hr.2).mpr z)) hC h1 h2 h3 h4 hE hP hS h5 h6 hL) (fun q => kf ((x_eq hr.1 hr.2).mp q) hC h1 h2 h3 h4 hE hP hS h5 h6 hL)
theorem X_icmp_lt {a b off : Int} {tgt : Nat} (hd : decode κ.2.1 pc = .ok (.if_icmp .lt off, 3)) (ht : (pc : Int) + off = (tgt : Int)) (hr : (-2147483648 ≤ a ∧ a ≤ 2147483647) ∧ (-2147483648 ≤ b ∧ b ≤ 2147483647)) (kt : a < b → X κ d bc bs tgt L st N I Rf Q) (kf : b ≤ a → X κ d bc bs (pc + 3) L st N I Rf Q) : X κ d bc bs pc L (ii b :: ii a :: st) N I Rf Q := by
  intro G p l e Rm s m args below meth c H locs cells slots mc ms ls Z hC h1 h2 h3 h4 hE hP hS h5 h6 hL
  exact lv_icmp_lt (x := Int32.ofInt a) (y := Int32.ofInt b) hC.1 hC.2.1 hd ht (fun q => kt ((x_lt hr.1 hr.2).mp q) hC h1 h2 h3 h4 hE hP hS h5 h6 hL) (fun q => kf (Int.not_lt.mp fun z => q ((x_lt hr.1 hr.2).mpr z)) hC h1 h2 h3 h4 hE hP hS h5 h6 hL)
theorem X_if_lt {a off : Int} {tgt : Nat} (hd : decode κ.2.1 pc = .ok (.ifCond .lt off, 3)) (ht : (pc : Int) + off = (tgt : Int)) (ha : -2147483648 ≤ a ∧ a ≤ 2147483647) (kt : a < 0 → X κ d bc bs tgt L st N I Rf Q) (kf : 0 ≤ a → X κ d bc bs (pc + 3) L st N I Rf Q) : X κ d bc bs pc L (ii a :: st) N I Rf Q := by
  intro G p l e Rm s m args below meth c H locs cells slots mc ms ls Z hC h1 h2 h3 h4 hE hP hS h5 h6 hL
  have hr : (-2147483648 ≤ a ∧ a ≤ 2147483647) ∧ (-2147483648 ≤ (0 : Int) ∧ (0 : Int) ≤ 2147483647) := ⟨ha, by omega⟩
  exact lv_if_lt (x := Int32.ofInt a) hC.1 hC.2.1 hd ht (fun q => kt ((x_lt hr.1 hr.2).mp q) hC h1 h2 h3 h4 hE hP hS h5 h6 hL) (fun q => kf (Int.not_lt.mp fun z => q ((x_lt hr.1 hr.2).mpr z)) hC h1 h2 h3 h4 hE hP hS h5 h6 hL)
theorem X_icmp_ge {a b off : Int} {tgt : Nat} (hd : decode κ.2.1 pc = .ok (.if_icmp .ge off, 3)) (ht : (pc : Int) + off = (tgt : Int)) (hr : (-2147483648 ≤ a ∧ a ≤ 2147483647) ∧ (-2147483648 ≤ b ∧ b ≤ 2147483647)) (kt : b ≤ a → X κ d bc bs tgt L st N I Rf Q) (kf : a < b → X κ d bc bs (pc + 3) L st N I Rf Q) : X κ d bc bs pc L (ii b :: ii a :: st) N I Rf Q := by
  intro G p l e Rm s m args below meth c H locs cells slots mc ms ls Z hC h1 h2 h3 h4 hE hP hS h5 h6 hL
  exact lv_icmp_ge (x := Int32.ofInt a) (y := Int32.ofInt b) hC.1 hC.2.1 hd ht (fun q => kt ((x_le hr.2 hr.1).mp q) hC h1 h2 h3 h4 hE hP hS h5 h6 hL) (fun q => kf (Int.not_le.mp fun z => q ((x_le hr.2 hr.1).mpr z)) hC h1 h2 h3 h4 hE hP hS h5 h6 hL)
theorem X_if_ge {a off : Int} {tgt : Nat} (hd : decode κ.2.1 pc = .ok (.ifCond .ge off, 3)) (ht : (pc : Int) + off = (tgt : Int)) (ha : -2147483648 ≤ a ∧ a ≤ 2147483647) (kt : 0 ≤ a → X κ d bc bs tgt L st N I Rf Q) (kf : a < 0 → X κ d bc bs (pc + 3) L st N I Rf Q) : X κ d bc bs pc L (ii a :: st) N I Rf Q := by
  intro G p l e Rm s m args below meth c H locs cells slots mc ms ls Z hC h1 h2 h3 h4 hE hP hS h5 h6 hL
  have hr : (-2147483648 ≤ a ∧ a ≤ 2147483647) ∧ (-2147483648 ≤ (0 : Int) ∧ (0 : Int) ≤ 2147483647) := ⟨ha, by omega⟩
  exact lv_if_ge (x := Int32.ofInt a) hC.1 hC.2.1 hd ht (fun q => kt ((x_le hr.2 hr.1).mp q) hC h1 h2 h3 h4 hE hP hS h5 h6 hL) (fun q => kf (Int.not_le.mp fun z => q ((x_le hr.2 hr.1).mpr z)) hC h1 h2 h3 h4 hE hP hS h5 h6 hL)
theorem X_icmp_gt {a b off : Int} {tgt : Nat} (hd : decode κ.2.1 pc = .ok (.if_icmp .gt off, 3)) (ht : (pc : Int) + off = (tgt : Int)) (hr : (-2147483648 ≤ a ∧ a ≤ 2147483647) ∧ (-2147483648 ≤ b ∧ b ≤ 2147483647)) (kt : b < a → X κ d bc bs tgt L st N I Rf Q) (kf : a ≤ b → X κ d bc bs (pc + 3) L st N I Rf Q) : X κ d bc bs pc L (ii b :: ii a :: st) N I Rf Q := by
  intro G p l e Rm s m args below meth c H locs cells slots mc ms ls Z hC h1 h2 h3 h4 hE hP hS h5 h6 hL
  exact lv_icmp_gt (x := Int32.ofInt a) (y := Int32.ofInt b) hC.1 hC.2.1 hd ht (fun q => kt ((x_lt hr.2 hr.1).mp q) hC h1 h2 h3 h4 hE hP hS h5 h6 hL) (fun q => kf (Int.not_lt.mp fun z => q ((x_lt hr.2 hr.1).mpr z)) hC h1 h2 h3 h4 hE hP hS h5 h6 hL)
theorem X_if_gt {a off : Int} {tgt : Nat} (hd : decode κ.2.1 pc = .ok (.ifCond .gt off, 3)) (ht : (pc : Int) + off = (tgt : Int)) (ha : -2147483648 ≤ a ∧ a ≤ 2147483647) (kt : 0 < a → X κ d bc bs tgt L st N I Rf Q) (kf : a ≤ 0 → X κ d bc bs (pc + 3) L st N I Rf Q) : X κ d bc bs pc L (ii a :: st) N I Rf Q := by
  intro G p l e Rm s m args below meth c H locs cells slots mc ms ls Z hC h1 h2 h3 h4 hE hP hS h5 h6 hL
  have hr : (-2147483648 ≤ a ∧ a ≤ 2147483647) ∧ (-2147483648 ≤ (0 : Int) ∧ (0 : Int) ≤ 2147483647) := ⟨ha, by omega⟩
  exact lv_if_gt (x := Int32.ofInt a) hC.1 hC.2.1 hd ht (fun q => kt ((x_lt hr.2 hr.1).mp q) hC h1 h2 h3 h4 hE hP hS h5 h6 hL) (fun q => kf (Int.not_lt.mp fun z => q ((x_lt hr.2 hr.1).mpr z)) hC h1 h2 h3 h4 hE hP hS h5 h6 hL)
theorem X_icmp_le {a b off : Int} {tgt : Nat} (hd : decode κ.2.1 pc = .ok (.if_icmp .le off, 3)) (ht : (pc : Int) + off = (tgt : Int)) (hr : (-2147483648 ≤ a ∧ a ≤ 2147483647) ∧ (-2147483648 ≤ b ∧ b ≤ 2147483647)) (kt : a ≤ b → X κ d bc bs tgt L st N I Rf Q) (kf : b < a → X κ d bc bs (pc + 3) L st N I Rf Q) : X κ d bc bs pc L (ii b :: ii a :: st) N I Rf Q := by
  intro G p l e Rm s m args below meth c H locs cells slots mc ms ls Z hC h1 h2 h3 h4 hE hP hS h5 h6 hL
  exact lv_icmp_le (x := Int32.ofInt a) (y := Int32.ofInt b) hC.1 hC.2.1 hd ht (fun q => kt ((x_le hr.1 hr.2).mp q) hC h1 h2 h3 h4 hE hP hS h5 h6 hL) (fun q => kf (Int.not_le.mp fun z => q ((x_le hr.1 hr.2).mpr z)) hC h1 h2 h3 h4 hE hP hS h5 h6 hL)
theorem X_if_le {a off : Int} {tgt : Nat} (hd : decode κ.2.1 pc = .ok (.ifCond .le off, 3)) (ht : (pc : Int) + off = (tgt : Int)) (ha : -2147483648 ≤ a ∧ a ≤ 2147483647) (kt : a ≤ 0 → X κ d bc bs tgt L st N I Rf Q) (kf : 0 < a → X κ d bc bs (pc + 3) L st N I Rf Q) : X κ d bc bs pc L (ii a :: st) N I Rf Q := by
  intro G p l e Rm s m args below meth c H locs cells slots mc ms ls Z hC h1 h2 h3 h4 hE hP hS h5 h6 hL
  have hr : (-2147483648 ≤ a ∧ a ≤ 2147483647) ∧ (-2147483648 ≤ (0 : Int) ∧ (0 : Int) ≤ 2147483647) := ⟨ha, by omega⟩
  exact lv_if_le (x := Int32.ofInt a) hC.1 hC.2.1 hd ht (fun q => kt ((x_le hr.1 hr.2).mp q) hC h1 h2 h3 h4 hE hP hS h5 h6 hL) (fun q => kf (Int.not_le.mp fun z => q ((x_le hr.1 hr.2).mpr z)) hC h1 h2 h3 h4 hE hP hS h5 h6 hL)
theorem X_tswIn {dflt lo hi : Int} {offs : Array Int} {len : Nat} {z v : Int} {off : Int} {tgt : Nat} (hd : decode κ.2.1 pc = .ok (.tableswitch dflt lo hi offs, len)) (hz : z = v) (hv : -2147483648 ≤ v ∧ v ≤ 2147483647) (h1' : ¬ v < lo) (h2' : ¬ hi < v) (ho : offs[(v - lo).toNat]? = some off) (ht : (pc : Int) + off = (tgt : Int)) (kk : X κ d bc bs tgt L st N I Rf Q) : X κ d bc bs pc L (ii z :: st) N I Rf Q := by
  intro G p l e Rm s m args below meth c H locs cells slots mc ms ls Z hC h1 h2 h3 h4 hE hP hS h5 h6 hL
  subst hz
  exact lv_tableIn (x := Int32.ofInt z) hC.1 hC.2.1 hd (by rw [x_ti hv]; exact h1') (by rw [x_ti hv]; exact h2') (by rw [x_ti hv]; exact ho) ht (kk hC h1 h2 h3 h4 hE hP hS h5 h6 hL)
theorem X_tswOut {dflt lo hi : Int} {offs : Array Int} {len : Nat} {z : Int} {tgt : Nat} (hd : decode κ.2.1 pc = .ok (.tableswitch dflt lo hi offs, len)) (hz : -2147483648 ≤ z ∧ z ≤ 2147483647) (h : z < lo ∨ hi < z) (ht : (pc : Int) + dflt = (tgt : Int)) (kk : X κ d bc bs tgt L st N I Rf Q) : X κ d bc bs pc L (ii z :: st) N I Rf Q := by
  intro G p l e Rm s m args below meth c H locs cells slots mc ms ls Z hC h1 h2 h3 h4 hE hP hS h5 h6 hL
  exact lv_tableOut (x := Int32.ofInt z) hC.1 hC.2.1 hd (by rw [x_ti hz]; exact h) ht (kk hC h1 h2 h3 h4 hE hP hS h5 h6 hL)
theorem X_lsw {dflt : Int} {ps : Array (Int × Int)} {len : Nat} {z off : Int} {tgt : Nat} (hd : decode κ.2.1 pc = .ok (.lookupswitch dflt ps, len)) (hp : (ps.toList.zip (ps.toList.drop 1)).all (fun (a, next) => a.1 < next.1) = true) (hz : -2147483648 ≤ z ∧ z ≤ 2147483647) (ho : Op.lookupswitch.offset ps.toList dflt z = off) (ht : (pc : Int) + off = (tgt : Int)) (kk : X κ d bc bs tgt L st N I Rf Q) : X κ d bc bs pc L (ii z :: st) N I Rf Q := by
  intro G p l e Rm s m args below meth c H locs cells slots mc ms ls Z hC h1 h2 h3 h4 hE hP hS h5 h6 hL
  exact lv_lookup (x := Int32.ofInt z) hC.1 hC.2.1 hd hp (by rw [x_ti hz]; exact ho) ht (kk hC h1 h2 h3 h4 hE hP hS h5 h6 hL)
/-! answers -/
theorem X_iret {z : Int} (hd : decode κ.2.1 pc = .ok (.ireturn, 1)) (hr : κ.2.2.2 = some .int ∨ (κ.2.2.2 = some .boolean ∧ (z = 0 ∨ z = 1))) (h : Q (some (ii z)) N I Rf) : X κ d bc bs pc L [ii z] N I Rf Q := by
  intro G p l e Rm s m args below meth c H locs cells slots mc ms ls Z hC h1 h2 h3 h4 hE hP hS h5 h6 hL
  exact hE _ _ _ _ _ _ _ _ _ _ _ h hP hS (by omega) (by omega) (Or.inl ⟨z, rfl, rfl, hd, hr⟩)
theorem X_vret (hd : decode κ.2.1 pc = .ok (.return_, 1)) (hr : κ.2.2.2 = none) (h : Q none N I Rf) : X κ d bc bs pc L [] N I Rf Q := by
  intro G p l e Rm s m args below meth c H locs cells slots mc ms ls Z hC h1 h2 h3 h4 hE hP hS h5 h6 hL
  exact hE _ _ _ _ _ _ _ _ _ _ _ h hP hS (by omega) (by omega) (Or.inr (Or.inl ⟨rfl, rfl, hd, hr⟩))
theorem X_aret {o : Option Nat} (hd : decode κ.2.1 pc = .ok (.areturn, 1)) (hr : κ.2.2.2 = some (.object "HeatShelves$State")) (h : Q (some (.inr o)) N I Rf) : X κ d bc bs pc L [.inr o] N I Rf Q := by
  intro G p l e Rm s m args below meth c H locs cells slots mc ms ls Z hC h1 h2 h3 h4 hE hP hS h5 h6 hL
  exact hE _ _ _ _ _ _ _ _ _ _ _ h hP hS (by omega) (by omega) (Or.inr (Or.inr ⟨o, rfl, rfl, hd, hr⟩))
/-! the memory changes only what is asked: another memory that is the same where it matters -/
theorem X_weaken {Q' : xQ} (h : X κ d bc bs pc L st N I Rf Q) (hq : ∀ ro N' I' R', Q ro N' I' R' → Q' ro N' I' R') : X κ d bc bs pc L st N I Rf Q' := by
  intro G p l e Rm s m args below meth c H locs cells slots mc ms ls Z hC h1 h2 h3 h4 hE hP hS h5 h6 hL
  exact h hC h1 h2 h3 h4 (fun ro N' I' R' H' locs' cells' slots' pc' ls' st' hQ => hE ro N' I' R' H' locs' cells' slots' pc' ls' st' (hq _ _ _ _ hQ)) hP hS h5 h6 hL
theorem X_locals {L' : List (Option xAV)} (h : X κ d bc bs pc L' st N I Rf Q) (hlen : L'.length = L.length) (hs : ∀ (i : Nat) (a : xAV), L'[i]? = some (some a) → L[i]? = some (some a)) : X κ d bc bs pc L st N I Rf Q := by
  intro G p l e Rm s m args below meth c H locs cells slots mc ms ls Z hC h1 h2 h3 h4 hE hP hS h5 h6 hL
  exact h hC h1 h2 h3 h4 hE hP hS h5 h6 ⟨hL.1, hL.2.1, hlen.trans hL.2.2.1, fun i a ha => hL.2.2.2 i a (hs i a ha)⟩
end XR
end
section
section XR
variable {κ : xK} {d bc bs pc : Nat} {L : List (Option xAV)} {st : List xAV} {N : Nat} {I : xI} {Rf : xR} {Q : xQ}
/-! fields -/
theorem X_get {own : String} {idx ci k c : Nat} (hd : decode κ.2.1 pc = .ok (.getfield idx, 3)) (ho : κ.1.cls = own) (hg : x_GF own idx ci k) (hsh : x_sh c = (2, ci)) (hN : c < N) (kk : X κ d bc bs (pc + 3) L ((if x_ir ci k = true then .inr (Rf c k) else .inl (I c k)) :: st) N I Rf Q) : X κ d bc bs pc L (rr c :: st) N I Rf Q := by
  intro G p l e Rm s m args below meth c' H locs cells slots mc ms ls Z hC h1 h2 h3 h4 hE hP hS h5 h6 hL
  subst ho
  obtain ⟨C, T, Nf, hc, hnf, hk, hin, hlk⟩ := hg
  obtain ⟨hSl, hfc, kC, hkC, hkind⟩ := hC.2.2.2.2.2.1.1 ci _ hc
  obtain ⟨cf, kf, fi, f, hfi, hsl⟩ := hSl k hk
  have hts : ∀ w ∈ xT, w.before args s = true := hC.2.2.2.2.1
  have hob := (hP.2.2.2.2 c (Or.inl hN)).2.2 (by rw [hsh])
  rw [hsh] at hob
  obtain ⟨cell, q1, q2, q3, q4⟩ := hob
  have hst := (u_facts hfc hkC (u_lays hts hin hk) hfi).1
  have hv := q4 k (by show k < x_nf ci; rw [hnf]; exact hk)
  have e : x_fv G I Rf c ci k = x_v G (if x_ir ci k = true then .inr (Rf c k) else .inl (I c k)) := by
    unfold x_fv
    split <;> rfl
  rw [show x_fv G I Rf c (2, ci).2 k = x_fv G I Rf c ci k from rfl, e] at hv
  rcases hlk with hlk | ⟨host, hlk⟩
  · exact W.getf hC.1 hC.2.1 hC.2.2.2.1 (hts _ hlk) hfi hst q1 (by rw [q3]; exact fun h => by cases h) (by rw [hsl]; exact hv) rfl rfl hd (kk hC h1 h2 h3 h4 hE hP hS h5 h6 hL)
  · exact va_Wgetf hC.1 hC.2.1 hC.2.2.2.1 (va_Nw.use rfl (hC.2.2.2.2.2.1.2.1 _ hlk)) hfi hst q1 (by rw [q3]; exact fun h => by cases h) (by rw [hsl]; exact hv) rfl rfl hd (kk hC h1 h2 h3 h4 hE hP hS h5 h6 hL)
theorem X_getI {own : String} {idx ci k c : Nat} (hd : decode κ.2.1 pc = .ok (.getfield idx, 3)) (ho : κ.1.cls = own) (hg : x_GF own idx ci k) (hsh : x_sh c = (2, ci)) (hN : c < N) (hi : x_ir ci k = false) (kk : X κ d bc bs (pc + 3) L (ii (I c k) :: st) N I Rf Q) : X κ d bc bs pc L (rr c :: st) N I Rf Q := by
  refine X_get hd ho hg hsh hN ?_
  rw [if_neg (by rw [hi]; decide)]
  exact kk
theorem X_getR {own : String} {idx ci k c c' : Nat} (hd : decode κ.2.1 pc = .ok (.getfield idx, 3)) (ho : κ.1.cls = own) (hg : x_GF own idx ci k) (hsh : x_sh c = (2, ci)) (hN : c < N) (hi : x_ir ci k = true) (hr : Rf c k = some c') (kk : X κ d bc bs (pc + 3) L (rr c' :: st) N I Rf Q) : X κ d bc bs pc L (rr c :: st) N I Rf Q := by
  refine X_get hd ho hg hsh hN ?_
  rw [if_pos hi, hr]
  exact kk
theorem x_fv_set {G : xG} {I : xI} {Rf : xR} {c ci k : Nat} {z : Int} (hi : x_ir ci k = false) (j : Nat) : updV (x_fv G I Rf c ci) k (.int (Int32.ofInt z)) j = x_fv G (x_up I c k z) Rf c ci j := by
  unfold updV x_fv x_up
  by_cases h : j = k
  · subst h; simp [hi]
  · simp [h]
theorem x_fv_setR {G : xG} {I : xI} {Rf : xR} {c ci k : Nat} {o : Option Nat} (hi : x_ir ci k = true) (j : Nat) : updV (x_fv G I Rf c ci) k (va_rf (o.map (x_ad G))) j = x_fv G I (x_upR Rf c k o) c ci j := by
  unfold updV x_fv x_upR
  by_cases h : j = k
  · subst h; simp [hi]
  · simp [h]
theorem X_putI {own : String} {idx ci k c : Nat} {ty : FieldType} {z : Int} (hd : decode κ.2.1 pc = .ok (.putfield idx, 3)) (ho : κ.1.cls = own) (hg : x_PF own idx ci k ty false) (hsh : x_sh c = (2, ci)) (hN : c < N) (hi : x_ir ci k = false) (hz : ty = .int ∨ (ty = .boolean ∧ (z = 0 ∨ z = 1))) (kk : X κ d bc bs (pc + 3) L st N (x_up I c k z) Rf Q) : X κ d bc bs pc L (ii z :: rr c :: st) N I Rf Q := by
  intro G p l e Rm s m args below meth c' H locs cells slots mc ms ls Z hC h1 h2 h3 h4 hE hP hS h5 h6 hL
  subst ho
  obtain ⟨C, T, Nf, ty0, hc, hnf, hk, hin, hlk, hty0, hnm, hfin, htk, -⟩ := hg
  have hts : ∀ w ∈ xT, w.before args s = true := hC.2.2.2.2.1
  obtain ⟨hSl, hfc, kC, hkC, hkind⟩ := hC.2.2.2.2.2.1.1 ci _ hc
  have hap : ∀ x y, x < Nf → y < Nf → x ≠ y → (G.2.2.1 ci) x ≠ (G.2.2.1 ci) y := by
    intro x y hx hy hne
    obtain ⟨_, _, _, fa, hia, ea⟩ := hSl x hx
    obtain ⟨_, _, _, fb, hib, eb⟩ := hSl y hy
    rw [← ea, ← eb]
    refine u_apart (u_lays hts hin hx) (u_lays hts hin hy) hia hib ?_
    rw [(State.fieldFound?_type hia (hty0 x hx)).1, (State.fieldFound?_type hib (hty0 y hy)).1]
    exact hnm x hx y hy hne
  obtain ⟨cf, kf, fi, f, hfi, hsl⟩ := hSl k hk
  have hob := (hP.2.2.2.2 c (Or.inl hN)).2.2 (by rw [hsh])
  rw [hsh] at hob
  have hob : t_OB (x_ad G c) (G.2.1 ci) (x_nf ci) (G.2.2.1 ci) H (x_fv G I Rf c ci) := hob
  rw [hnf] at hob
  obtain ⟨cell, q1, q2, q3, q4⟩ := hob
  have hlay := hts _ (hin _ (u_in_lay hk))
  unfold u_lay at hlay
  rw [if_neg (by rw [hfin]; decide)] at hlay
  have hst := (u_facts hfc hkC (u_lays hts hin hk) hfi).1
  have hnf2 : narrow ty (.int (Int32.ofInt z)) = .int (Int32.ofInt z) ∧ fits ty (.int (Int32.ofInt z)) = true := by
    rcases hz with rfl | ⟨rfl, rfl | rfl⟩
    · exact ⟨rfl, rfl⟩
    · exact ⟨rfl, rfl⟩
    · exact ⟨rfl, rfl⟩
  have hk6 : k2_Sd s f (G.2.1 ci) (.int (Int32.ofInt z)) := u_store hfc hkC hkind hlay hfi (by rw [hty0 k hk, htk]) hnf2.1 hnf2.2
  refine W.putK (v := .int (Int32.ofInt z)) hC.1 hC.2.1 (f := f) ⟨hC.2.2.2.1, hts _ hlk, ⟨_, _, _, hfi⟩, hst⟩ (by rw [q2]; exact hk6) q1 q3 (by rw [hsl]; exact k2_hasslot (q4 k hk)) rfl rfl hd fun H' e1 e2 e3 => ?_
  rw [hsl] at e1 ⊢
  refine kk hC h1 h2 h3 h4 hE (hP.set hN (fun c' h => x_up_ne h) (fun _ _ => rfl) ⟨fun h => ?_, fun h => ?_, fun _ => ?_⟩ e2 e3) (hS.put e2 e3 ?_) h5 h6 hL
  · rw [hsh] at h; simp at h
  · rw [hsh] at h; simp at h
  · rw [hsh]
    show t_OB (x_ad G c) (G.2.1 ci) (x_nf ci) (G.2.2.1 ci) H' (x_fv G (x_up I c k z) Rf c ci)
    rw [hnf]
    exact t_OB.to (V := updV (x_fv G I Rf c ci) k (.int (Int32.ofInt z))) ⟨_, e1, q2, q3, t_set q4 hap hk _⟩ (fun j _ => x_fv_set hi j)
  · show G.1 ≤ x_ad G c
    rw [x_ad_lt hP.1 hN]; omega
/-- a final field, in a constructor -/
theorem X_putF {own : String} {idx ci k c : Nat} {ty : FieldType} {v : xAV} {I' : xI} {Rf' : xR} (hd : decode κ.2.1 pc = .ok (.putfield idx, 3)) (ho : κ.1.cls = own) (hinit : κ.1.name = "<init>") (hg : x_PF own idx ci k ty true) (hsh : x_sh c = (2, ci)) (hN : c < N) {o : Option Nat} (hv : v = .inr o) (hi : x_ir ci k = true) (hr : refKind ty = true) (hI : I' = I) (hR : Rf' = x_upR Rf c k o) (kk : X κ d bc bs (pc + 3) L st N I' Rf' Q) : X κ d bc bs pc L (v :: rr c :: st) N I Rf Q := by
  intro G p l e Rm s m args below meth c' H locs cells slots mc ms ls Z hC h1 h2 h3 h4 hE hP hS h5 h6 hL
  subst ho; subst hv; subst hI; subst hR
  obtain ⟨C, T, Nf, ty0, hc, hnf, hk, hin, hlk, hty0, hnm, hfin, htk, hdecl⟩ := hg
  have hts : ∀ w ∈ xT, w.before args s = true := hC.2.2.2.2.1
  obtain ⟨hSl, hfc, kC, hkC, hkind⟩ := hC.2.2.2.2.2.1.1 ci _ hc
  have hap : ∀ x y, x < Nf → y < Nf → x ≠ y → (G.2.2.1 ci) x ≠ (G.2.2.1 ci) y := by
    intro x y hx hy hne
    obtain ⟨_, _, _, fa, hia, ea⟩ := hSl x hx
    obtain ⟨_, _, _, fb, hib, eb⟩ := hSl y hy
    rw [← ea, ← eb]
    refine u_apart (u_lays hts hin hx) (u_lays hts hin hy) hia hib ?_
    rw [(State.fieldFound?_type hia (hty0 x hx)).1, (State.fieldFound?_type hib (hty0 y hy)).1]
    exact hnm x hx y hy hne
  obtain ⟨cf, kf, fi, f, hfi, hsl⟩ := hSl k hk
  have hob := (hP.2.2.2.2 c (Or.inl hN)).2.2 (by rw [hsh])
  rw [hsh] at hob
  have hob : t_OB (x_ad G c) (G.2.1 ci) (x_nf ci) (G.2.2.1 ci) H (x_fv G I' Rf c ci) := hob
  rw [hnf] at hob
  obtain ⟨cell, q1, q2, q3, q4⟩ := hob
  have hlay := hts _ (hin _ (u_in_lay hk))
  unfold u_lay at hlay
  rw [if_pos hfin] at hlay
  have hst := (u_facts hfc hkC (u_lays hts hin hk) hfi).1
  have hcf : m.cls = cf := by
    obtain ⟨_, _, c', _, _, _, -, -, hf', -, -, -, hown2, -⟩ := Cond.laysFinal_spec hlay
    have e1 : c' = cf := by have := hfi.symm.trans hf'; simp at this; exact this.1.symm
    rw [hdecl] at hown2
    rw [← e1]; exact Option.some.inj (hC.2.2.2.1.symm.trans hown2)
  have hnf2 : narrow ty (va_rf (o.map (x_ad G))) = va_rf (o.map (x_ad G)) ∧ fits ty (va_rf (o.map (x_ad G))) = true := by
    cases ty <;> first | (exact absurd hr (by decide)) | (cases o <;> exact ⟨rfl, rfl⟩)
  have hk6 := u_fits hfc hkC hkind (Or.inr hlay) hfi (by rw [hty0 k hk, htk]) hnf2.1 hnf2.2
  refine W.putFinK (v := va_rf (o.map (x_ad G))) hC.1 hC.2.1 hC.2.2.2.1 (hts _ hlk) hfi hst hcf (hC.2.2.2.2.2.2.1.trans hinit) (by rw [q2]; exact hk6) q1 q3 (by rw [hsl]; exact k2_hasslot (q4 k hk)) rfl rfl hd fun H' e1 e2 e3 => ?_
  rw [hsl] at e1 ⊢
  refine kk hC h1 h2 h3 h4 hE (hP.set hN (fun _ _ => rfl) (fun c' h => x_upR_ne h) ⟨fun h => ?_, fun h => ?_, fun _ => ?_⟩ e2 e3) (hS.put e2 e3 ?_) h5 h6 hL
  · rw [hsh] at h; simp at h
  · rw [hsh] at h; simp at h
  · rw [hsh]
    show t_OB (x_ad G c) (G.2.1 ci) (x_nf ci) (G.2.2.1 ci) H' (x_fv G I' (x_upR Rf c k o) c ci)
    rw [hnf]
    exact t_OB.to (V := updV (x_fv G I' Rf c ci) k (va_rf (o.map (x_ad G)))) ⟨_, e1, q2, q3, t_set q4 hap hk _⟩ (fun j _ => x_fv_setR hi j)
  · show G.1 ≤ x_ad G c
    rw [x_ad_lt hP.1 hN]; omega
theorem X_getsF {own : String} {idx : Nat} (hd : decode κ.2.1 pc = .ok (.getstatic idx, 3)) (ho : κ.1.cls = own) (hg : x_GS own idx "FIRST_VALUES") (kk : X κ d bc bs (pc + 3) L (rr 100 :: st) N I Rf Q) : X κ d bc bs pc L st N I Rf Q := by
  intro G p l e Rm s m args below meth c' H locs cells slots mc ms ls Z hC h1 h2 h3 h4 hE hP hS h5 h6 hL
  subst ho
  have hw : x_v G (rr 100) = .ref G.2.2.2.1 := by show Value.ref (x_ad G 100) = _; unfold x_ad; rw [if_pos rfl]
  have kk2 := kk hC h1 h2 h3 h4 hE hP hS h5 h6 hL
  rw [List.map_cons, hw] at kk2
  rcases hg with hlk | ⟨host, hlk⟩
  · exact va_gets hC.1 hC.2.1 hC.2.2.2.2.2.1.2.2.2.1 hS hC.2.2.2.1 (hC.2.2.2.2.1 _ hlk) (fun _ h => h) hd kk2
  · exact va_getsN hC.1 hC.2.1 hC.2.2.2.2.2.1.2.2.2.1 hS hC.2.2.2.1 (va_Nw.use rfl (hC.2.2.2.2.2.1.2.1 _ hlk)) (fun _ h => h) hd kk2
theorem X_getsG {own : String} {idx : Nat} (hd : decode κ.2.1 pc = .ok (.getstatic idx, 3)) (ho : κ.1.cls = own) (hg : x_GS own idx "GREATEST_VALUES") (kk : X κ d bc bs (pc + 3) L (rr 101 :: st) N I Rf Q) : X κ d bc bs pc L st N I Rf Q := by
  intro G p l e Rm s m args below meth c' H locs cells slots mc ms ls Z hC h1 h2 h3 h4 hE hP hS h5 h6 hL
  subst ho
  have hw : x_v G (rr 101) = .ref G.2.2.2.2 := by show Value.ref (x_ad G 101) = _; unfold x_ad; rw [if_neg (by decide), if_pos rfl]
  have kk2 := kk hC h1 h2 h3 h4 hE hP hS h5 h6 hL
  rw [List.map_cons, hw] at kk2
  rcases hg with hlk | ⟨host, hlk⟩
  · exact va_gets hC.1 hC.2.1 hC.2.2.2.2.2.1.2.2.2.2.1 hS hC.2.2.2.1 (hC.2.2.2.2.1 _ hlk) (fun _ h => h) hd kk2
  · exact va_getsN hC.1 hC.2.1 hC.2.2.2.2.2.1.2.2.2.2.1 hS hC.2.2.2.1 (va_Nw.use rfl (hC.2.2.2.2.2.1.2.1 _ hlk)) (fun _ h => h) hd kk2
/-! rows -/
theorem X_iald {c n : Nat} {i : Int} (hd : decode κ.2.1 pc = .ok (.iaload, 1)) (hsh : x_sh c = (0, n)) (hlive : x_live N c) (hi : 0 ≤ i ∧ i < n) (kk : X κ d bc bs (pc + 1) L (ii (I c i.toNat) :: st) N I Rf Q) : X κ d bc bs pc L (ii i :: rr c :: st) N I Rf Q := by
  intro G p l e Rm s m args below meth c' H locs cells slots mc ms ls Z hC h1 h2 h3 h4 hE hP hS h5 h6 hL
  have hX := (hP.2.2.2.2 c hlive).1 (by rw [hsh])
  have hn : n < 1000 := by have := x_sh_lt c; rw [hsh] at this; exact this
  rw [hsh] at hX
  obtain ⟨scr, a1, a2, a3, a4, a5⟩ := hX
  have a4 : scr.slots.size = n := a4
  exact W.iald (v := .int (Int32.ofInt (I c i.toNat))) hC.1 hC.2.1 a1 a2 a3 (by rw [a4]; exact x_in hi (by omega)) (by rw [x_cl (by omega)]; exact a5 _ (by show i.toNat < n; omega)) rfl rfl hd (kk hC h1 h2 h3 h4 hE hP hS h5 h6 hL)
theorem X_iast {c n : Nat} {i z : Int} (hd : decode κ.2.1 pc = .ok (.iastore, 1)) (hsh : x_sh c = (0, n)) (hN : c < N) (hi : 0 ≤ i ∧ i < n) (kk : X κ d bc bs (pc + 1) L st N (x_up I c i.toNat z) Rf Q) : X κ d bc bs pc L (ii z :: ii i :: rr c :: st) N I Rf Q := by
  intro G p l e Rm s m args below meth c' H locs cells slots mc ms ls Z hC h1 h2 h3 h4 hE hP hS h5 h6 hL
  have hX := (hP.2.2.2.2 c (Or.inl hN)).1 (by rw [hsh])
  have hn : n < 1000 := by have := x_sh_lt c; rw [hsh] at this; exact this
  rw [hsh] at hX
  obtain ⟨scr, a1, a2, a3, a4, a5⟩ := hX
  have a4 : scr.slots.size = n := a4
  refine W.iast (x := Int32.ofInt z) (j := Int32.ofInt i) hC.1 hC.2.1 a1 a2 a3 (by rw [a4]; exact x_in hi (by omega)) rfl rfl hd (fun H' e1 e2 e3 => ?_)
  rw [x_cl (by omega)] at e1
  refine kk hC h1 h2 h3 h4 hE (hP.set hN (fun c' h => x_up_ne h) (fun _ _ => rfl) ⟨fun _ => ?_, fun h => ?_, fun h => ?_⟩ e2 e3) (hS.put e2 e3 ?_) h5 h6 hL
  · rw [hsh]
    refine ⟨_, e1, a2, a3, by show (scr.slots.setIfInBounds _ _).size = n; rw [Array.size_setIfInBounds]; exact a4, fun j hj => ?_⟩
    have hj : j < n := hj
    show (scr.slots.setIfInBounds _ _)[j]? = _
    by_cases h : j = i.toNat
    · subst h
      rw [Array.getElem?_setIfInBounds_self_of_lt (by rw [a4]; exact hj)]
      simp [x_up]
    · rw [Array.getElem?_setIfInBounds_ne (Ne.symm h), a5 j hj]
      simp [x_up, h]
  · rw [hsh] at h; simp at h
  · rw [hsh] at h; simp at h
  · show G.1 ≤ x_ad G c
    rw [x_ad_lt hP.1 hN]; omega
theorem X_alen {c n : Nat} (hd : decode κ.2.1 pc = .ok (.arraylength, 1)) (hsh : x_sh c = (0, n)) (hlive : x_live N c) (kk : X κ d bc bs (pc + 1) L (ii (n : Int) :: st) N I Rf Q) : X κ d bc bs pc L (rr c :: st) N I Rf Q := by
  intro G p l e Rm s m args below meth c' H locs cells slots mc ms ls Z hC h1 h2 h3 h4 hE hP hS h5 h6 hL
  have hX := (hP.2.2.2.2 c hlive).1 (by rw [hsh])
  rw [hsh] at hX
  obtain ⟨scr, a1, a2, a3, a4, a5⟩ := hX
  have a4 : scr.slots.size = n := a4
  exact W.alen (n := Int32.ofInt (n : Int)) hC.1 hC.2.1 a1 a2 (by rw [a4]; exact (Int32.ofInt_eq_ofNat).symm) rfl rfl hd (kk hC h1 h2 h3 h4 hE hP hS h5 h6 hL)
theorem X_alenR {c n : Nat} (hd : decode κ.2.1 pc = .ok (.arraylength, 1)) (hsh : x_sh c = (1, n)) (hlive : x_live N c) (kk : X κ d bc bs (pc + 1) L (ii (n : Int) :: st) N I Rf Q) : X κ d bc bs pc L (rr c :: st) N I Rf Q := by
  intro G p l e Rm s m args below meth c' H locs cells slots mc ms ls Z hC h1 h2 h3 h4 hE hP hS h5 h6 hL
  obtain ⟨cS, a1, a2, a3⟩ := (hP.2.2.2.2 c hlive).2.1 (by rw [hsh])
  rw [hsh] at a1
  exact W.alen (n := Int32.ofInt (n : Int)) hC.1 hC.2.1 a1 (a2 _ _) (by rw [arrV_size]; exact (Int32.ofInt_eq_ofNat).symm) rfl rfl hd (kk hC h1 h2 h3 h4 hE hP hS h5 h6 hL)
theorem X_aald {c n c1 : Nat} {i : Int} (hd : decode κ.2.1 pc = .ok (.aaload, 1)) (hsh : x_sh c = (1, n)) (hlive : x_live N c) (hi : 0 ≤ i ∧ i < n) (hr : Rf c i.toNat = some c1) (kk : X κ d bc bs (pc + 1) L (rr c1 :: st) N I Rf Q) : X κ d bc bs pc L (ii i :: rr c :: st) N I Rf Q := by
  intro G p l e Rm s m args below meth c' H locs cells slots mc ms ls Z hC h1 h2 h3 h4 hE hP hS h5 h6 hL
  obtain ⟨cS, a1, a2, a3⟩ := (hP.2.2.2.2 c hlive).2.1 (by rw [hsh])
  have hn : n < 1000 := by have := x_sh_lt c; rw [hsh] at this; exact this
  rw [hsh] at a1
  exact W.aald (v := .ref (x_ad G c1)) (ty := .object "HeatShelves$State") hC.1 hC.2.1 a1 (a2 _ _) rfl (fun q => by cases q) (by rw [arrV_size]; exact x_in hi (by omega)) (by rw [x_cl (by omega), arrV_read _ _ (by show i.toNat < n; omega), hr]; rfl) rfl rfl hd (kk hC h1 h2 h3 h4 hE hP hS h5 h6 hL)
theorem X_aast {c n c1 ci : Nat} {i : Int} (hd : decode κ.2.1 pc = .ok (.aastore, 1)) (hsh : x_sh c = (1, n)) (hN : c < N) (hi : 0 ≤ i ∧ i < n) (hsh1 : x_sh c1 = (2, 3)) (hN1 : c1 < N) (kk : X κ d bc bs (pc + 1) L st N I (x_upR Rf c i.toNat (some c1)) Q) : X κ d bc bs pc L (rr c1 :: ii i :: rr c :: st) N I Rf Q := by
  intro G p l e Rm s m args below meth c' H locs cells slots mc ms ls Z hC h1 h2 h3 h4 hE hP hS h5 h6 hL
  obtain ⟨cS, a1, a2, a3⟩ := (hP.2.2.2.2 c (Or.inl hN)).2.1 (by rw [hsh])
  have hn : n < 1000 := by have := x_sh_lt c; rw [hsh] at this; exact this
  rw [hsh] at a1
  have hob := (hP.2.2.2.2 c1 (Or.inl hN1)).2.2 (by rw [hsh1])
  rw [hsh1] at hob
  obtain ⟨cellV, g1, g2, g3, -⟩ := hob
  have hcls : ClassAt s "HeatShelves$State" (G.2.1 3) := (hC.2.2.2.2.2.1.1 3 _ rfl).2
  obtain ⟨kA, comp, k1, k2, k3, k4⟩ := a3
  have hcomp : comp = G.2.1 3 := Option.some.inj (k3.symm.trans hcls.1)
  subst hcomp
  obtain ⟨kC, hkC, hkk⟩ := id hcls.2
  have hi2 := x_in hi (by omega : n < 2147483648)
  refine W.aast (j := Int32.ofInt i) hC.1 hC.2.1 a1 (fun q h => by cases h) (fun h => by cases h) k1 k2 rfl hkC ⟨fun q => hi2 (Or.inl q), by rw [arrV_size]; exact Nat.not_le.mp fun q => hi2 (Or.inr q)⟩ g1 (fun q h => by rw [g3] at h; cases h) (by rw [g2]; exact hkC) (by rw [g2]; exact va_assign hcls) rfl rfl hd fun H' e1 e2 e3 => ?_
  rw [x_cl (by omega), arrV_store] at e1
  refine kk hC h1 h2 h3 h4 hE (hP.set hN (fun _ _ => rfl) (fun c' h => x_upR_ne h) ⟨fun h => ?_, fun _ => ?_, fun h => ?_⟩ e2 e3) (hS.put e2 e3 ?_) h5 h6 hL
  · rw [hsh] at h; simp at h
  · rw [hsh]
    refine ⟨cS, ?_, a2, kA, G.2.1 3, k1, k2, k3, k4⟩
    rw [e1]
    congr 2
    funext q
    unfold updV x_upR
    by_cases h : q = i.toNat
    · subst h; simp [va_rf]
    · simp [h]
  · rw [hsh] at h; simp at h
  · show G.1 ≤ x_ad G c
    rw [x_ad_lt hP.1 hN]; omega
/-! the library's own: min, max, abs, copies of rows -/
theorem x_rsum {G : xG} {rest : List xAV} (h : rest.length ≤ 8) : ((rest.map (x_v G)).map fun v => v.category).sum ≤ 8 := by
  have e : ∀ l : List xAV, ((l.map (x_v G)).map fun v => v.category).sum = l.length := by
    intro l
    induction l with
    | nil => rfl
    | cons a l ih => rw [List.map_cons, List.map_cons, List.sum_cons, ih, x_cat, List.length_cons]; omega
  rw [e]; exact h
theorem X_min {own : String} {idx : Nat} {a b : Int} (hd : decode κ.2.1 pc = .ok (.invokestatic idx, 3)) (ho : κ.1.cls = own) (hl : Cond.methodLink own idx Lib.Math.min.name ∈ xT) (ha : -2147483648 ≤ a ∧ a ≤ 2147483647) (hb : -2147483648 ≤ b ∧ b ≤ 2147483647) (hd1 : 1 ≤ d) (hr : st.length ≤ 8) (kk : X κ d bc bs (pc + 3) L (ii (min a b) :: st) N I Rf Q) : X κ d bc bs pc L (ii b :: ii a :: st) N I Rf Q := by
  intro G p l e Rm s m args below meth c' H locs cells slots mc ms ls Z hC h1 h2 h3 h4 hE hP hS h5 h6 hL
  subst ho
  refine va_mmin (x := Int32.ofInt a) (y := Int32.ofInt b) hC.1 hC.2.1 (hC.2.2.1.trans hL.1.symm) hC.2.2.2.1 (hC.2.2.2.2.1 _ hl) (hC.2.2.2.2.1 _ xw_min_static) (hC.2.2.2.2.1 _ xw_math_init) (hC.2.2.2.2.1 _ xw_min_code) (by omega) (by have := x_rsum (G := G) hr; omega) (by omega) (by omega) hd ?_
  have e : (if Int32.ofInt b < Int32.ofInt a then Int32.ofInt b else Int32.ofInt a) = Int32.ofInt (min a b) := by
    by_cases h : b < a
    · rw [if_pos ((x_lt hb ha).mpr h)]; congr 1; omega
    · rw [if_neg (fun q => h ((x_lt hb ha).mp q))]; congr 1; omega
  rw [e]
  exact kk hC h1 h2 h3 h4 hE hP hS h5 h6 hL
theorem X_max {own : String} {idx : Nat} {a b : Int} (hd : decode κ.2.1 pc = .ok (.invokestatic idx, 3)) (ho : κ.1.cls = own) (hl : Cond.methodLink own idx Lib.Math.max.name ∈ xT) (ha : -2147483648 ≤ a ∧ a ≤ 2147483647) (hb : -2147483648 ≤ b ∧ b ≤ 2147483647) (hd1 : 1 ≤ d) (hr : st.length ≤ 8) (kk : X κ d bc bs (pc + 3) L (ii (max a b) :: st) N I Rf Q) : X κ d bc bs pc L (ii b :: ii a :: st) N I Rf Q := by
  intro G p l e Rm s m args below meth c' H locs cells slots mc ms ls Z hC h1 h2 h3 h4 hE hP hS h5 h6 hL
  subst ho
  refine va_mmax (x := Int32.ofInt a) (y := Int32.ofInt b) hC.1 hC.2.1 (hC.2.2.1.trans hL.1.symm) hC.2.2.2.1 (hC.2.2.2.2.1 _ hl) (hC.2.2.2.2.1 _ xw_max_static) (hC.2.2.2.2.1 _ xw_math_init) (hC.2.2.2.2.1 _ xw_max_code) (by omega) (by have := x_rsum (G := G) hr; omega) (by omega) (by omega) hd ?_
  have e : (if Int32.ofInt a < Int32.ofInt b then Int32.ofInt b else Int32.ofInt a) = Int32.ofInt (max a b) := by
    by_cases h : a < b
    · rw [if_pos ((x_lt ha hb).mpr h)]; congr 1; omega
    · rw [if_neg (fun q => h ((x_lt ha hb).mp q))]; congr 1; omega
  rw [e]
  exact kk hC h1 h2 h3 h4 hE hP hS h5 h6 hL
theorem X_abs {own : String} {idx : Nat} {a : Int} (hd : decode κ.2.1 pc = .ok (.invokestatic idx, 3)) (ho : κ.1.cls = own) (hl : Cond.methodLink own idx Lib.Math.abs.name ∈ xT) (ha : -2147483647 ≤ a ∧ a ≤ 2147483647) (hd1 : 1 ≤ d) (hr : st.length ≤ 8) (kk : X κ d bc bs (pc + 3) L (ii (if 0 ≤ a then a else -a) :: st) N I Rf Q) : X κ d bc bs pc L (ii a :: st) N I Rf Q := by
  intro G p l e Rm s m args below meth c' H locs cells slots mc ms ls Z hC h1 h2 h3 h4 hE hP hS h5 h6 hL
  subst ho
  refine va_mabs (x := Int32.ofInt a) hC.1 hC.2.1 (hC.2.2.1.trans hL.1.symm) hC.2.2.2.1 (hC.2.2.2.2.1 _ hl) (hC.2.2.2.2.1 _ xw_abs_static) (hC.2.2.2.2.1 _ xw_math_init) (hC.2.2.2.2.1 _ xw_abs_code) (by omega) (by have := x_rsum (G := G) hr; omega) (by omega) (by omega) hd ?_
  have e : (if 0 ≤ Int32.ofInt a then Int32.ofInt a else 0 - Int32.ofInt a) = Int32.ofInt (if 0 ≤ a then a else -a) := by
    rw [x_zero]
    by_cases h : 0 ≤ a
    · rw [if_pos ((x_le (by omega) (by omega)).mpr h), if_pos h]
    · rw [if_neg (fun q => h ((x_le (by omega) (by omega)).mp q)), if_neg h, ← Int32.ofInt_sub]; congr 1; omega
  rw [e]
  exact kk hC h1 h2 h3 h4 hE hP hS h5 h6 hL
theorem X_copy {own : String} {idx c0 c1 n0 n1 : Nat} {n : Int} (hd : decode κ.2.1 pc = .ok (.invokestatic idx, 3)) (ho : κ.1.cls = own) (hl : Cond.methodLink own idx arraycopyName ∈ xT) (hsh0 : x_sh c0 = (0, n0)) (hl0 : x_live N c0) (hsh1 : x_sh c1 = (0, n1)) (hN : c1 < N) (hn : 0 ≤ n ∧ n ≤ n0 ∧ n ≤ n1) (hd1 : 1 ≤ d) (hr : st.length ≤ 8) (kk : X κ d bc bs (pc + 3) L st N (x_cp I c0 c1 n.toNat) Rf Q) : X κ d bc bs pc L (ii n :: ii 0 :: rr c1 :: ii 0 :: rr c0 :: st) N I Rf Q := by
  intro G p l e Rm s m args below meth c' H locs cells slots mc ms ls Z hC h1 h2 h3 h4 hE hP hS h5 h6 hL
  subst ho
  have hn0 : n0 < 1000 := by have := x_sh_lt c0; rw [hsh0] at this; exact this
  have hn1 : n1 < 1000 := by have := x_sh_lt c1; rw [hsh1] at this; exact this
  have hX0 := (hP.2.2.2.2 c0 hl0).1 (by rw [hsh0])
  have hX1 := (hP.2.2.2.2 c1 (Or.inl hN)).1 (by rw [hsh1])
  rw [hsh0] at hX0
  rw [hsh1] at hX1
  obtain ⟨s0, a1, a2, a3, a4, a5⟩ := hX0
  obtain ⟨s1, b1, b2, b3, b4, b5⟩ := hX1
  have a4 : s0.slots.size = n0 := a4
  have b4 : s1.slots.size = n1 := b4
  have ez : (Int32.ofInt 0).toNatClampNeg = 0 := rfl
  have en : (Int32.ofInt n).toNatClampNeg = n.toNat := x_cl (by omega)
  have hst0 : (s0.stretch 0 n.toNat).length = n.toNat := by simp [Cell.stretch]
  obtain ⟨ho1, k0, hk0, cm0, hkk0⟩ := id a2
  obtain ⟨ho2, k1, hk1, cm1, hkk1⟩ := id b2
  intro T hT Xs
  obtain ⟨vm', X', step⟩ := Xs.arraycopy hC.1 hC.2.2.2.1 (hC.2.2.2.2.1 _ hl) (hC.2.2.2.2.1 _ xw_acp_native) (hC.2.2.2.2.1 _ xw_acp_static) (hC.2.2.2.2.1 _ xw_sys_init) (src := x_ad G c0) (dst := x_ad G c1) (cs := s0) (cd := s1) (srcPos := Int32.ofInt 0) (destPos := Int32.ofInt 0) (n := Int32.ofInt n) (by rw [hT]; exact a1) (by rw [hT]; exact b1) ho1 ho2 a3 b3 hk0 hk1 hkk0 hkk1 rfl (by decide) (by decide) (fun q => by rw [x_zero, x_lt (by omega) (by omega)] at q; omega)
    (by rw [x_ti (by omega), x_ti (by omega), a4]; omega) (by rw [x_ti (by omega), x_ti (by omega), b4]; omega)
    (fun vm₁ _ i hi => by
      rw [en] at hi
      have e : s0.slots.getD ((Int32.ofInt 0).toNatClampNeg + i) .null = .int (Int32.ofInt (I c0 i)) := by
        rw [ez, Nat.zero_add, Array.getD_eq_getD_getElem?, a5 i (by show i < n0; omega)]
        rfl
      rw [e]
      exact ⟨rfl, trivial⟩)
    (g := F0 m pc ls ((ii n :: ii 0 :: rr c1 :: ii 0 :: rr c0 :: st).map (x_v G))) rfl (by rw [hC.2.2.1]; exact hL.1) (rest := st.map (x_v G)) rfl (by rw [hC.2.1]; exact hd) (by omega) (by
      have h9 := x_rsum (G := G) hr
      have h8 : nativeFrameWords "java/lang/System" "arraycopy" 5 ≤ 10 := by decide
      show 2 * 0 + _ + _ ≤ _
      omega)
  have hl1 : x_ad G c1 < H.size := (Array.getElem?_eq_some_iff.mp b1).1
  have ecop : copied s0 s1 (Int32.ofInt 0) (Int32.ofInt 0) (Int32.ofInt n) = s1.storeRun 0 (s0.stretch 0 n.toNat) := by
    show s1.storeRun (Int32.ofInt 0).toNatClampNeg (s0.stretch (Int32.ofInt 0).toNatClampNeg (Int32.ofInt n).toNatClampNeg) = _
    rw [ez, en]
  rw [ecop] at X' step
  generalize hcc : s1.storeRun 0 (s0.stretch 0 n.toNat) = s2 at X' step
  obtain ⟨f1, f2, f3, -, -⟩ := Cell.storeRun_facts s1 0 (s0.stretch 0 n.toNat)
  rw [hcc] at f1 f2 f3
  have hget : ∀ j : Nat, s2.slots[j]? = if 0 ≤ j ∧ j < 0 + (s0.stretch 0 n.toNat).length then (s0.stretch 0 n.toNat)[j - 0]? else s1.slots[j]? := fun j => by
    rw [← hcc]
    exact Cell.storeRun_get s1 0 _ j (by rw [hst0, b4]; omega)
  have hheap : ((T.setVm vm').setCell (x_ad G c1) s2).heap = H.setIfInBounds (x_ad G c1) s2 := by rw [← hT]; rfl
  have oq : ∀ q : Nat, q ≠ x_ad G c1 → (H.setIfInBounds (x_ad G c1) s2)[q]? = H[q]? := fun q hq => by simp [Array.getElem?_setIfInBounds, Ne.symm hq]
  have hAd : x_A G (x_ad G c1) := by
    show G.1 ≤ x_ad G c1
    rw [x_ad_lt hP.1 hN]; omega
  have hcell : x_cell G (x_cp I c0 c1 n.toNat) Rf s (H.setIfInBounds (x_ad G c1) s2) c1 := by
    refine ⟨fun _ => ?_, fun h => ?_, fun h => ?_⟩
    · rw [hsh1]
      refine ⟨s2, by simp [Array.getElem?_setIfInBounds, hl1], ?_, by rw [f2]; exact b3, by rw [f3]; exact b4, fun j hj => ?_⟩
      · show (∀ k, s2.vm ≠ .statics k) ∧ _
        rw [f2, f1]
        exact b2
      · have hj : j < n1 := hj
        rw [hget j, hst0]
        by_cases h : j < n.toNat
        · rw [if_pos (by omega)]
          show ((List.range n.toNat).map fun i => s0.slots.getD (0 + i) .null)[j - 0]? = _
          rw [List.getElem?_map, List.getElem?_range (by omega), Option.map_some, Array.getD_eq_getD_getElem?, Nat.zero_add, Nat.sub_zero, a5 j (by show j < n0; omega)]
          simp [x_cp, h]
        · rw [if_neg (by omega), b5 j hj]
          simp [x_cp, h]
    · rw [hsh1] at h; simp at h
    · rw [hsh1] at h; simp at h
  obtain ⟨t, t1, t2⟩ := kk hC h1 h2 h3 h4 hE (hP.set (H' := H.setIfInBounds (x_ad G c1) s2) hN (fun c' h => by funext j; simp [x_cp, h]) (fun _ _ => rfl) hcell (by simp) oq) ⟨by simp; exact hS.1, fun q g1 g2 => by
      rw [oq q (fun e => g2 (by rw [e]; exact hAd))]
      exact hS.2.1 q g1 g2, fun q hq => by
      rcases List.mem_append.mp hq with h | h
      · exact hS.2.2 q h
      · obtain ⟨z, -, hz⟩ := List.mem_map.mp h
        rw [← hz]
        exact hAd⟩ h5 h6 hL _ hheap X'
  exact ⟨t, step t t1, t2⟩
end XR
end
section
section XR
variable {κ : xK} {d bc bs pc : Nat} {L : List (Option xAV)} {st : List xAV} {N : Nat} {I : xI} {Rf : xR} {Q : xQ}
/-! calls -/
theorem x_blind (G : xG) (as : List xAV) (N : Nat) (I : xI) (Rf : xR) : FrameBlind (x_pre G as N I Rf) := by
  intro a U g mk h
  obtain ⟨h1, h2, ⟨k1, k2, k3, k4, k5, k6⟩, h4⟩ := h
  have hA : U.vm.Alike (U.calling g mk a).vm := Vm.Alike.refl U.vm
  refine ⟨h1, h2.moved hA, ⟨fun ci q hq => u_Kn_moved hA (k1 ci q hq), fun w hw => va_Nw.same rfl rfl (k2 w hw), fun w hw => va_Nw.same rfl rfl (k3 w hw), k4.moved hA, k5.moved hA, k6.moved hA⟩, h4⟩
theorem x_KF.at {G : xG} {s U : State} {H : Heap} {locs : List Loc} (hK : x_KF G s) (hS : va_S (x_A G) s.heap H locs) (hU : U.heap = H) (hW : s.WarmedH U.vm) : x_KF G U := by
  obtain ⟨k1, k2, k3, k4, k5, k6⟩ := hK
  have hq : ∀ a : Nat, a < s.heap.size → ¬ x_A G a → U.heap[a]? = s.heap[a]? := fun a h1 h2 => by rw [hU]; exact hS.2.1 a h1 h2
  exact ⟨fun ci q hq => u_Kn_moved hW.alike (k1 ci q hq), fun w hw => va_Nw.warmF hW (k2 w hw), fun w hw => va_Nw.warmM hW (k3 w hw), (k4.kept hq).moved hW.alike, (k5.kept hq).moved hW.alike, k6.moved hW.alike⟩
theorem x_good (κ : xK) (h : Cond.code κ.1 κ.2.1 κ.2.2.1 κ.2.2.2 ∈ xT) : GoodIn xT (x_ws κ) := by
  intro w hw
  rcases List.mem_cons.mp hw with rfl | hw
  · exact ⟨h, xT_good h⟩
  · exact ⟨hw, xT_good hw⟩
/-- behind a call -/
theorem x_back {rest : List xAV} {mc1 ms1 : Nat} {Q1 : xQ} {a : Array Value} {G : xG} {p : Program} {l : Launch} {e : Env} {Rm : Room} {s : State} {m : MethodId} {args : Array Value} {below : List Frame} {meth : Method} {c : Code} {H : Heap} {locs : List Loc} {cells slots : Nat} {ls : Array Slot} {Z : State → Prop} {st0 : List Value}
    (hr : va_Run p l e Rm s m args below meth c H locs cells slots mc1 ms1 (F0 m pc ls st0) (rest.map (x_v G)) (x_post G Q1 a) (x_A G)) (hS : va_S (x_A G) s.heap H locs)
    (kk : ∀ (ro : Option xAV) (N1 : Nat) (I1 : xI) (R1 : xR) (H1 : Heap) (locs1 : List Loc), Q1 ro N1 I1 R1 → x_P G N1 I1 R1 s H1 → va_S (x_A G) s.heap H1 locs1 → W p l e Rm s m args below meth c H1 locs1 (cells + mc1) (slots + ms1) Z (F0 m (pc + 3) ls ((ro.toList ++ rest).map (x_v G)))) :
    W p l e Rm s m args below meth c H locs cells slots Z (F0 m pc ls st0) := by
  intro T hT Xs
  obtain ⟨v, st₀, t, T', L1, h0, X', hL1, e1, e2, ⟨⟨ro, N1, I1, R1, hv, hq, hp⟩, hz, hk⟩, step⟩ := hr T hT Xs
  cases hv
  rw [h0] at hz hk
  have hal : t.vm.Alike s.vm := by rw [← e2]; exact X'.warmed.alike.symm
  have hS1 : va_S (x_A G) s.heap T'.heap (locs ++ L1) := ⟨Nat.le_trans hS.1 (by rw [e1]; exact hz), fun q g1 g2 => by rw [e1, hk q (Nat.lt_of_lt_of_le g1 hS.1) g2]; exact hS.2.1 q g1 g2, fun q hq => by
      rcases List.mem_append.mp hq with h | h
      · exact hS.2.2 q h
      · exact hL1 q h⟩
  have hst : (ro.map (x_v G)).toList ++ rest.map (x_v G) = (ro.toList ++ rest).map (x_v G) := by
    cases ro <;> simp
  obtain ⟨t2, a1, b1⟩ := kk ro N1 I1 R1 T'.heap (locs ++ L1) hq (by rw [e1]; exact hp.moved hal) hS1 T' rfl X'
  refine ⟨t2, step t2 ?_, b1⟩
  show Steps p.tables e below (T'.setTop { F0 m pc ls st0 with pc := pc + 3, stack := (ro.map (x_v G)).toList ++ rest.map (x_v G) }) t2
  rw [hst]
  exact a1
theorem X_callV {κ1 : xK} {own : String} {idx n ci c1 d1 mc1 ms1 : Nat} {as rest : List xAV} {Q1 : xQ} (hd : decode κ.2.1 pc = .ok (.invokevirtual idx, 3)) (ho : κ.1.cls = own) (hc : x_CV own idx κ1 n ci) (hsh : x_sh c1 = (2, ci)) (hN : c1 < N) (hsp : Sp κ1 d1 mc1 ms1 (rr c1 :: as) N I Rf Q1) (hst : st = as.reverse ++ rr c1 :: rest) (hn : as.length = n) (hdd : d1 + 1 ≤ d) (hrest : rest.length ≤ 8) (hbc : mc1 ≤ bc) (hbs : ms1 ≤ bs)
    (kk : ∀ ro N1 I1 R1, Q1 ro N1 I1 R1 → X κ d (bc - mc1) (bs - ms1) (pc + 3) L (ro.toList ++ rest) N1 I1 R1 Q) : X κ d bc bs pc L st N I Rf Q := by
  intro G p l e Rm s m args below meth c H locs cells slots mc ms ls Z hC h1 h2 h3 h4 hE hP hS h5 h6 hL
  subst ho; subst hst
  obtain ⟨hlk, ⟨hcode, hini, hdsc, hnl⟩, hinst, hsel, T, Nf, hcl⟩ := hc
  have hts : ∀ w ∈ xT, w.before args s = true := hC.2.2.2.2.1
  have hob := (hP.2.2.2.2 c1 (Or.inl hN)).2.2 (by rw [hsh])
  rw [hsh] at hob
  obtain ⟨cellB, q1, q2, q3, -⟩ := hob
  have hfc := (hC.2.2.2.2.2.1.1 ci _ hcl).2.1
  have hpre : PreV s H κ1.1.cls (x_ad G c1) (x_pre G (rr c1 :: as) N I Rf) (as.map (x_v G)) := ⟨x_blind G _ N I Rf, ⟨cellB, q1, by rw [q3]; rfl, by rw [q2]; exact hfc⟩, fun U hU hW => ⟨rfl, by rw [hU]; exact hP.moved hW.alike, hC.2.2.2.2.2.1.at hS hU hW, by rw [hU]; exact Nat.le_trans hC.2.2.2.2.2.2.2 hS.1⟩⟩
  have hroom : (x_room d1 mc1 ms1).frames + 1 ≤ Rm.frames ∧ 8 + (κ1.2.2.1 + 11) + (x_room d1 mc1 ms1).locals ≤ Rm.locals := ⟨by show d1 + 1 ≤ _; omega, by show 8 + (κ1.2.2.1 + 11) + 40 * d1 ≤ _; omega⟩
  have hrun : va_Run p l e Rm s m args below meth c H locs cells slots mc1 ms1 (F0 m pc ls ((as.reverse ++ rr c1 :: rest).map (x_v G))) (rest.map (x_v G)) (x_post G Q1 (Value.ref (x_ad G c1) :: as.map (x_v G)).toArray) (x_A G) := by
    have hw := x_rsum (G := G) hrest
    have hstk : (as.reverse ++ rr c1 :: rest).map (x_v G) = (as.map (x_v G)).reverse ++ .ref (x_ad G c1) :: rest.map (x_v G) := by rw [List.map_append, List.map_reverse, List.map_cons]; rfl
    rcases hlk with hlk | ⟨host, hlk⟩
    · exact va_runV ⟨hC.1, hC.2.1, hC.2.2.1, hC.2.2.2.1, hts⟩ (hsp G l) ⟨callB_of n hts (x_good κ1 hcode) rfl rfl rfl (hts _ hini) (hts _ hlk) hdsc hroom, hts _ hinst, hts _ hsel⟩ hpre rfl (by rw [List.length_map]; exact hn) (hL.1) hstk (by show 2 * 0 + _ ≤ 8; omega) hd ⟨by omega, by omega⟩
    · exact va_runVN ⟨hC.1, hC.2.1, hC.2.2.1, hC.2.2.2.1, hts⟩ (hsp G l) ⟨va_cnB n hts (x_good κ1 hcode) rfl rfl rfl (hC.2.2.2.2.2.1.2.2.1 _ hlk) (hts _ hini) hdsc hroom, hts _ hinst, hts _ hsel⟩ hpre rfl (by rw [List.length_map]; exact hn) (hL.1) hstk (by show 2 * 0 + _ ≤ 8; omega) hd ⟨by omega, by omega⟩
  exact x_back hrun hS (fun ro N1 I1 R1 H1 locs1 hq hp1 hS1 => kk ro N1 I1 R1 hq hC h1 h2 h3 h4 hE hp1 hS1 (by omega) (by omega) hL)
theorem X_callS {κ1 : xK} {own : String} {idx n d1 mc1 ms1 : Nat} {as rest : List xAV} {Q1 : xQ} (hd : decode κ.2.1 pc = .ok (.invokestatic idx, 3)) (ho : κ.1.cls = own) (hc : x_CS own idx κ1 n) (hsp : Sp κ1 d1 mc1 ms1 as N I Rf Q1) (hst : st = as.reverse ++ rest) (hn : as.length = n) (hdd : d1 + 1 ≤ d) (hrest : rest.length ≤ 8) (hbc : mc1 ≤ bc) (hbs : ms1 ≤ bs)
    (kk : ∀ ro N1 I1 R1, Q1 ro N1 I1 R1 → X κ d (bc - mc1) (bs - ms1) (pc + 3) L (ro.toList ++ rest) N1 I1 R1 Q) : X κ d bc bs pc L st N I Rf Q := by
  intro G p l e Rm s m args below meth c H locs cells slots mc ms ls Z hC h1 h2 h3 h4 hE hP hS h5 h6 hL
  subst ho; subst hst
  obtain ⟨hlk, ⟨hcode, hini, hdsc, hnl⟩, hstat⟩ := hc
  have hts : ∀ w ∈ xT, w.before args s = true := hC.2.2.2.2.1
  have hpre : PreS s H (x_pre G as N I Rf) (as.map (x_v G)) := ⟨x_blind G _ N I Rf, fun U hU hW => ⟨rfl, by rw [hU]; exact hP.moved hW.alike, hC.2.2.2.2.2.1.at hS hU hW, by rw [hU]; exact Nat.le_trans hC.2.2.2.2.2.2.2 hS.1⟩⟩
  have hroom : (x_room d1 mc1 ms1).frames + 1 ≤ Rm.frames ∧ 8 + (κ1.2.2.1 + 11) + (x_room d1 mc1 ms1).locals ≤ Rm.locals := ⟨by show d1 + 1 ≤ _; omega, by show 8 + (κ1.2.2.1 + 11) + 40 * d1 ≤ _; omega⟩
  have hrun : va_Run p l e Rm s m args below meth c H locs cells slots mc1 ms1 (F0 m pc ls ((as.reverse ++ rest).map (x_v G))) (rest.map (x_v G)) (x_post G Q1 (as.map (x_v G)).toArray) (x_A G) := by
    have hw := x_rsum (G := G) hrest
    have hstk : (as.reverse ++ rest).map (x_v G) = (as.map (x_v G)).reverse ++ rest.map (x_v G) := by rw [List.map_append, List.map_reverse]
    rcases hlk with hlk | ⟨host, hlk⟩
    · exact va_runS ⟨hC.1, hC.2.1, hC.2.2.1, hC.2.2.2.1, hts⟩ (hsp G l) ⟨callB_of n hts (x_good κ1 hcode) rfl rfl rfl (hts _ hini) (hts _ hlk) hdsc hroom, hts _ hstat⟩ hpre rfl (by rw [List.length_map]; exact hn) (hL.1) hstk (by show 2 * 0 + _ ≤ 8; omega) hd ⟨by omega, by omega⟩
    · exact va_runSN ⟨hC.1, hC.2.1, hC.2.2.1, hC.2.2.2.1, hts⟩ (hsp G l) ⟨va_cnB n hts (x_good κ1 hcode) rfl rfl rfl (hC.2.2.2.2.2.1.2.2.1 _ hlk) (hts _ hini) hdsc hroom, hts _ hstat, trivial⟩ hpre rfl (by rw [List.length_map]; exact hn) (hL.1) hstk (by show 2 * 0 + _ ≤ 8; omega) hd ⟨by omega, by omega⟩
  exact x_back hrun hS (fun ro N1 I1 R1 H1 locs1 hq hp1 hS1 => kk ro N1 I1 R1 hq hC h1 h2 h3 h4 hE hp1 hS1 (by omega) (by omega) hL)
/-- a constructor's call -/
theorem X_callC {y1 : MethodName} {b1 : ByteArray} {l1 : Nat} {own : String} {idx n c1 d1 mc1 ms1 : Nat} {as rest : List xAV} {Q1 : xQ} (hd : decode κ.2.1 pc = .ok (.invokespecial idx, 3)) (ho : κ.1.cls = own) (hc : x_CC own idx (y1, b1, l1, none) n) (hsp : Sp (y1, b1, l1, none) d1 mc1 ms1 (rr c1 :: as) N I Rf Q1) (hst : st = as.reverse ++ rr c1 :: rest) (hn : as.length = n) (hdd : d1 + 1 ≤ d) (hrest : rest.length ≤ 8) (hbc : mc1 ≤ bc) (hbs : ms1 ≤ bs)
    (kk : ∀ ro N1 I1 R1, Q1 ro N1 I1 R1 → X κ d (bc - mc1) (bs - ms1) (pc + 3) L (ro.toList ++ rest) N1 I1 R1 Q) : X κ d bc bs pc L st N I Rf Q := by
  intro G p l e Rm s m args below meth c H locs cells slots mc ms ls Z hC h1 h2 h3 h4 hE hP hS h5 h6 hL
  subst ho; subst hst
  obtain ⟨hlk, ⟨hcode, hini, hdsc, hnl⟩, hinst, hnm, -⟩ := hc
  have hts : ∀ w ∈ xT, w.before args s = true := hC.2.2.2.2.1
  have hpre : PreS s H (x_pre G (rr c1 :: as) N I Rf) (.ref (x_ad G c1) :: as.map (x_v G)) := ⟨x_blind G _ N I Rf, fun U hU hW => ⟨rfl, by rw [hU]; exact hP.moved hW.alike, hC.2.2.2.2.2.1.at hS hU hW, by rw [hU]; exact Nat.le_trans hC.2.2.2.2.2.2.2 hS.1⟩⟩
  have hroom : (x_room d1 mc1 ms1).frames + 1 ≤ Rm.frames ∧ 8 + (l1 + 11) + (x_room d1 mc1 ms1).locals ≤ Rm.locals := ⟨by show d1 + 1 ≤ _; omega, by
    have hnl : l1 ≤ 21 := hnl
    show 8 + (l1 + 11) + 40 * d1 ≤ _; omega⟩
  have hrun : va_Run p l e Rm s m args below meth c H locs cells slots mc1 ms1 (F0 m pc ls ((as.reverse ++ rr c1 :: rest).map (x_v G))) (rest.map (x_v G)) (x_post G Q1 (Value.ref (x_ad G c1) :: as.map (x_v G)).toArray) (x_A G) := by
    have hw := x_rsum (G := G) hrest
    have hstk : (as.reverse ++ rr c1 :: rest).map (x_v G) = (as.map (x_v G)).reverse ++ .ref (x_ad G c1) :: rest.map (x_v G) := by rw [List.map_append, List.map_reverse, List.map_cons]; rfl
    rcases hlk with hlk | ⟨host, hlk⟩
    · exact va_runI ⟨hC.1, hC.2.1, hC.2.2.1, hC.2.2.2.1, hts⟩ (hsp G l) ⟨callB_of n hts (x_good (y1, b1, l1, none) hcode) rfl rfl rfl (hts _ hini) (hts _ hlk) hdsc hroom, hnm, hts _ hinst⟩ hpre rfl (by rw [List.length_map]; exact hn) (hL.1) hstk (by show 2 * 0 + _ ≤ 8; omega) hd ⟨by omega, by omega⟩
    · exact va_runIN ⟨hC.1, hC.2.1, hC.2.2.1, hC.2.2.2.1, hts⟩ (hsp G l) ⟨va_cnB n hts (x_good (y1, b1, l1, none) hcode) rfl rfl rfl (hC.2.2.2.2.2.1.2.2.1 _ hlk) (hts _ hini) hdsc hroom, hnm, hts _ hinst⟩ hpre rfl (by rw [List.length_map]; exact hn) (hL.1) hstk (by show 2 * 0 + _ ≤ 8; omega) hd ⟨by omega, by omega⟩
  exact x_back hrun hS (fun ro N1 I1 R1 H1 locs1 hq hp1 hS1 => kk ro N1 I1 R1 hq hC h1 h2 h3 h4 hE hp1 hS1 (by omega) (by omega) hL)
theorem X_objInit {own : String} {idx : Nat} {c1 : Nat} (hd : decode κ.2.1 pc = .ok (.invokespecial idx, 3)) (ho : κ.1.cls = own) (hl : Cond.methodLink own idx Lib.objectInit ∈ xT) (hd1 : 1 ≤ d) (hr : st.length ≤ 8) (kk : X κ d bc bs (pc + 3) L st N I Rf Q) : X κ d bc bs pc L (rr c1 :: st) N I Rf Q := by
  intro G p l e Rm s m args below meth c H locs cells slots mc ms ls Z hC h1 h2 h3 h4 hE hP hS h5 h6 hL
  subst ho
  have hw := x_rsum (G := G) hr
  exact W.objInit hC.1 hC.2.1 hC.2.2.2.1 (hC.2.2.2.2.1 _ hl) (hC.2.2.2.2.1 _ xw_obj_inst) (hC.2.2.2.2.1 _ xw_obj_code) rfl (by rw [hC.2.2.1]; exact hL.1) rfl hd (by omega) (by show 2 * 0 + _ + 12 ≤ _; omega) (kk hC h1 h2 h3 h4 hE hP hS h5 h6 hL)
/-! making cells -/
theorem X_new {own : String} {idx ci : Nat} {C : String} {T : u_T} {Nf : Nat} (ty : Nat → FieldType) (hd : decode κ.2.1 pc = .ok (.new idx, 3)) (ho : κ.1.cls = own) (hc : vwCl[ci]? = some (C, T, Nf)) (hnf : x_nf ci = Nf) (hin : ∀ w ∈ u_ws C T Nf, w ∈ xT) (hty : ∀ k, k < Nf → parseFieldDescriptor (T k).2.2.1 = some (ty k)) (hcl : Cond.classLink own idx C ∈ xT) (hins : Cond.instantiable C Nf ∈ xT) (hini : Cond.initialized C ∈ xT) (hsh : x_sh N = (2, ci)) (hN : N < 90) (hfs : ∀ j, j < Nf → defaultValue (ty j) = if x_ir ci j = true then .null else .int 0) {bc' bs' : Nat} (hbc : bc = bc' + 1) (hbs : bs = bs' + Nf)
    (kk : X κ d bc' bs' (pc + 3) L (rr N :: st) (N + 1) (x_z I N) (x_zR Rf N) Q) : X κ d bc bs pc L st N I Rf Q := by
  intro G p l e Rm s m args below meth c H locs cells slots mc ms ls Z hC h1 h2 h3 h4 hE hP hS h5 h6 hL
  subst ho; subst hbc; subst hbs
  have hts : ∀ w ∈ xT, w.before args s = true := hC.2.2.2.2.1
  have hKn := hC.2.2.2.2.2.1.1 ci _ hc
  refine W.newcK hC.1 hC.2.1 hC.2.2.2.1 (hts _ hcl) (hts _ hins) (hts _ hini) rfl hd (by omega) (by omega) hKn.2.1 rfl fun H' kC hkC e1 e2 e3 => ?_
  have had : H.size = x_ad G N := by rw [x_ad_lt (N := N + 1) (by omega) (by omega)]; exact hP.2.1
  rw [had] at e1
  have hcell : x_cell G (x_z I N) (x_zR Rf N) s H' N := by
    refine ⟨fun h => ?_, fun h => ?_, fun _ => ?_⟩
    · rw [hsh] at h; simp at h
    · rw [hsh] at h; simp at h
    · rw [hsh]
      show t_OB (x_ad G N) (G.2.1 ci) (x_nf ci) (G.2.2.1 ci) H' (x_fv G (x_z I N) (x_zR Rf N) N ci)
      rw [hnf]
      refine (u_born ty hts hin hKn hkC e1 hty).to (fun j hj => ?_)
      rw [hfs j hj]
      unfold x_fv x_z x_zR
      split
      · simp [va_rf]
      · simp
  have hP' := hP.push (I' := x_z I N) (Rf' := x_zR Rf N) hN (fun c' h => by funext j; simp [x_z, h]) (fun c' h => by funext j; simp [x_zR, h]) hcell e2 e3
  have kk2 := kk hC h1 h2 h3 h4 hE hP' (H := H') (locs := locs) (cells := cells + 1) (slots := slots + Nf) ⟨Nat.le_trans hS.1 (by omega), fun q g1 g2 => (e3 q (Nat.lt_of_lt_of_le g1 hS.1)).trans (hS.2.1 q g1 g2), hS.2.2⟩ (by omega) (by omega) hL
  rw [had]
  exact kk2
theorem X_newI {n : Int} {n' : Nat} (hd : decode κ.2.1 pc = .ok (.newarray .int, 2)) (hn : n = (n' : Int)) (hsh : x_sh N = (0, n')) (hN : N < 90) {bc' bs' : Nat} (hbc : bc = bc' + 1) (hbs : bs = bs' + n')
    (kk : X κ d bc' bs' (pc + 2) L (rr N :: st) (N + 1) (x_z I N) (x_zR Rf N) Q) : X κ d bc bs pc L (ii n :: st) N I Rf Q := by
  intro G p l e Rm s m args below meth c H locs cells slots mc ms ls Z hC h1 h2 h3 h4 hE hP hS h5 h6 hL
  subst hbc; subst hbs; subst hn
  have hn0 : n' < 1000 := by have := x_sh_lt N; rw [hsh] at this; exact this
  have hts : ∀ w ∈ xT, w.before args s = true := hC.2.2.2.2.1
  have had : H.size = x_ad G N := by rw [x_ad_lt (N := N + 1) (by omega) (by omega)]; exact hP.2.1
  refine va_newaK (atype := .int) hC.1 hC.2.1 (hts _ xw_arr_int) rfl hd (n := Int32.ofInt (n' : Int)) (N := n') (rest := st.map (x_v G)) rfl (fun q => by rw [x_zero, x_lt (by omega) (by omega)] at q; omega) (by rw [x_cl (by omega)]; omega) (by show n' * 4 ≤ _; omega) (by omega) (by omega) had fun H' cA e1 e2 e3 hAr _ => ?_
  have hcell : x_cell G (x_z I N) (x_zR Rf N) s H' N := by
    refine ⟨fun _ => ?_, fun h => ?_, fun h => ?_⟩
    · rw [hsh]
      refine ⟨_, e1, hAr _ _, fun h => (by cases h), by rw [arrV_size], fun j hj => ?_⟩
      rw [arrV_read _ _ hj]
      simp [x_z]
      rfl
    · rw [hsh] at h; simp at h
    · rw [hsh] at h; simp at h
  have hP' := hP.push (I' := x_z I N) (Rf' := x_zR Rf N) hN (fun c' h => by funext j; simp [x_z, h]) (fun c' h => by funext j; simp [x_zR, h]) hcell (by rw [e2, had]) (fun q hq => e3 q (by rw [← had]; exact hq))
  exact kk hC h1 h2 h3 h4 hE hP' (H := H') (locs := locs) (cells := cells + 1) (slots := slots + n') ⟨Nat.le_trans hS.1 (by omega), fun q g1 g2 => (e3 q (by rw [← had]; exact Nat.lt_of_lt_of_le g1 hS.1)).trans (hS.2.1 q g1 g2), hS.2.2⟩ (by omega) (by omega) hL
theorem X_newR {own : String} {idx : Nat} {n : Int} {n' : Nat} (hd : decode κ.2.1 pc = .ok (.anewarray idx, 3)) (ho : κ.1.cls = own) (hcl : Cond.classLink own idx "HeatShelves$State" ∈ xT) (hn : n = (n' : Int)) (hsh : x_sh N = (1, n')) (hN : N < 90) {bc' bs' : Nat} (hbc : bc = bc' + 1) (hbs : bs = bs' + n')
    (kk : X κ d bc' bs' (pc + 3) L (rr N :: st) (N + 1) (x_z I N) (x_zR Rf N) Q) : X κ d bc bs pc L (ii n :: st) N I Rf Q := by
  intro G p l e Rm s m args below meth c H locs cells slots mc ms ls Z hC h1 h2 h3 h4 hE hP hS h5 h6 hL
  subst hbc; subst hbs; subst hn; subst ho
  have hn0 : n' < 1000 := by have := x_sh_lt N; rw [hsh] at this; exact this
  have hts : ∀ w ∈ xT, w.before args s = true := hC.2.2.2.2.1
  have had : H.size = x_ad G N := by rw [x_ad_lt (N := N + 1) (by omega) (by omega)]; exact hP.2.1
  have hcl2 : (Int32.ofInt (n' : Int)).toNatClampNeg = n' := by rw [x_cl (by omega)]; omega
  refine W.anew hC.1 hC.2.1 hC.2.2.2.1 (hts _ hcl) (va_AO.use hC.2.2.2.2.2.1.2.2.2.2.2) rfl hd (n := Int32.ofInt (n' : Int)) (rest := st.map (x_v G)) rfl (fun q => by rw [x_zero, x_lt (by omega) (by omega)] at q; omega) (by rw [hcl2]; omega) (by omega) (by rw [hcl2]; omega) fun cA kA comp f1 f2 f3 f4 => ?_
  rw [hcl2]
  generalize hH1 : H.push ({ cls := cA, slots := Array.replicate n' .null, vm := .none } : Cell) = H'
  have e2 : H'.size = H.size + 1 := by rw [← hH1, Array.size_push]
  have e1 : H'[H.size]? = some (arrV cA n' (fun _ => .null)) := by rw [← hH1, Array.getElem?_push_size, ← arrV_new]
  have e3 : ∀ q : Nat, q < H.size → H'[q]? = H[q]? := fun q hq => by rw [← hH1, Array.getElem?_push, if_neg (Nat.ne_of_lt hq)]
  have hAr : ArrOfT s cA (.object "HeatShelves$State") := fun N z => ⟨(fun k h => by cases h), kA, f2, comp, f3⟩
  have hcell : x_cell G (x_z I N) (x_zR Rf N) s H' N := by
    refine ⟨fun h => ?_, fun _ => ?_, fun h => ?_⟩
    · rw [hsh] at h; simp at h
    · rw [hsh, ← had]
      refine ⟨cA, ?_, hAr, kA, comp, f2, f3, f4, f1⟩
      rw [e1]
      congr 2
      funext q
      simp [x_zR, va_rf]
    · rw [hsh] at h; simp at h
  have hP' := hP.push (I' := x_z I N) (Rf' := x_zR Rf N) hN (fun c' h => by funext j; simp [x_z, h]) (fun c' h => by funext j; simp [x_zR, h]) hcell e2 e3
  have kk2 := kk hC h1 h2 h3 h4 hE hP' (H := H') (locs := locs) (cells := cells + 1) (slots := slots + n') ⟨Nat.le_trans hS.1 (by omega), fun q g1 g2 => (e3 q (Nat.lt_of_lt_of_le g1 hS.1)).trans (hS.2.1 q g1 g2), hS.2.2⟩ (by omega) (by omega) hL
  rw [had]
  exact kk2
/-! a method's contract out of its body -/
theorem x_args (vs : List Value) (h : ∀ v ∈ vs, v.category = 1) : ∀ (i j : Nat) (v : Value), vs[j]? = some v → (i + j, v) ∈ lv_args i vs := by
  induction vs with
  | nil => intro i j v hv; simp at hv
  | cons a vs ih =>
    intro i j v hv
    have ha : ¬ a.category = 2 := by rw [h a List.mem_cons_self]; decide
    cases j with
    | zero =>
      simp at hv
      subst hv
      exact List.mem_cons_self
    | succ j =>
      rw [List.getElem?_cons_succ] at hv
      have h1 := ih (fun v hv => h v (List.mem_cons_of_mem _ hv)) (i + 1) j v hv
      show _ ∈ (i, a) :: lv_args (if a.category = 2 then i + 2 else i + 1) vs
      rw [if_neg ha]
      exact List.mem_cons_of_mem _ (by rw [show i + (j + 1) = i + 1 + j by omega]; exact h1)
theorem x_sl (G : xG) (as : List xAV) : (lg_sl (as.map (x_v G))).length = as.length := by
  induction as with
  | nil => rfl
  | cons a as ih =>
    show ((if (x_v G a).category = 2 then [Slot.val (x_v G a), Slot.second] else [Slot.val (x_v G a)]) ++ lg_sl (as.map (x_v G))).length = _
    rw [if_neg (by rw [x_cat]; decide), List.length_append, ih]
    show 1 + as.length = as.length + 1
    omega
theorem x_start (G : xG) (as : List xAV) {nL : Nat} (h : as.length ≤ nL) : x_L G nL ((lg_sl (as.map (x_v G)) ++ List.replicate (nL - (lg_sl (as.map (x_v G))).length) Slot.unset).toArray) (as.map some ++ List.replicate (nL - as.length) none) := by
  have h1 := lv_entry (as.map (x_v G)) (n := nL) (by rw [x_sl]; exact h)
  refine ⟨h1.1, h1.2.1, by simp; omega, fun i a ha => ?_⟩
  have hlt : i < as.length := by
    rcases Nat.lt_or_ge i as.length with q | q
    · exact q
    · rw [List.getElem?_append_right (by simpa using q)] at ha
      have h2 := List.mem_of_getElem? ha
      rw [List.mem_replicate] at h2
      exact absurd h2.2 (by simp)
  rw [List.getElem?_append_left (by simpa using hlt), List.getElem?_map] at ha
  have ha2 : as[i]? = some a := by
    cases h3 : as[i]? with
    | none => rw [h3] at ha; cases ha
    | some b => rw [h3] at ha; simp at ha; rw [ha]
  have h4 := x_args (as.map (x_v G)) (fun v hv => by obtain ⟨b, -, rfl⟩ := List.mem_map.mp hv; exact x_cat G b) 0 i (x_v G a) (by rw [List.getElem?_map, ha2]; rfl)
  rw [Nat.zero_add] at h4
  exact h1.2.2 _ h4
theorem Sp_intro {mc ms : Nat} {as : List xAV} (hpl : plainName κ.1.cls = true) (hlen : as.length ≤ κ.2.2.1) (body : X κ d mc ms 0 (as.map some ++ List.replicate (κ.2.2.1 - as.length) none) [] N I Rf Q) : Sp κ d mc ms as N I Rf Q := by
  intro G l
  refine Met.ofW (cc := κ.2.1) (maxL := κ.2.2.1) (ret := κ.2.2.2) hpl rfl ?_
  intro p e s m args below meth c s₁ B hml hv
  obtain ⟨rfl, hP, hKF, hsz⟩ := hv
  have hts := atoms_spec (ws := x_ws κ) B.pre
  have hlocks := B.notSynchronized
  rw [lg_entry_eq]
  have hL := x_start G as hlen
  generalize (lg_sl (as.map (x_v G)) ++ List.replicate (κ.2.2.1 - (lg_sl (as.map (x_v G))).length) Slot.unset).toArray = ls at hL ⊢
  refine body (G := G) ⟨B.exec, B.bytes, hml, findClass_of_methodNamed B.named, fun w hw => hts w (List.mem_cons_of_mem _ hw), hKF, (name_of_methodNamed B.named B.method).1, hsz⟩ (Nat.le_refl d) (Nat.le_refl _) (Nat.le_refl mc) (Nat.le_refl ms) ?_ hP va_S.rf (by omega) (by omega) hL
  intro ro N' I' Rf' H' locs' cells' slots' pc' ls' st' hQ hP' hS' g1 g2 hret
  refine W.widen (k := mc) (n := ms) g1 g2 ?_
  rcases hret with ⟨z, rfl, rfl, hd, hr⟩ | ⟨rfl, rfl, hd, hr⟩ | ⟨o, rfl, rfl, hd, hr⟩
  · rcases hr with hr | ⟨hr, hz⟩
    · exact W.iret (v := Int32.ofInt z) B.exec B.bytes (B.returns.trans hr) (fun t ht hW => ⟨⟨some (ii z), N', I', Rf', rfl, hQ, by rw [ht]; exact hP'.moved hW.alike⟩, hS'.F ht⟩) hS'.2.2 hd hlocks
    · exact W.zret (v := Int32.ofInt z) (ty := .boolean) B.exec B.bytes (B.returns.trans hr) (by rcases hz with rfl | rfl <;> rfl) (fun t ht hW => ⟨⟨some (ii z), N', I', Rf', rfl, hQ, by rw [ht]; exact hP'.moved hW.alike⟩, hS'.F ht⟩) hS'.2.2 hd hlocks
  · exact W.vret B.exec B.bytes (B.returns.trans hr) (fun t ht hW => ⟨⟨none, N', I', Rf', rfl, hQ, by rw [ht]; exact hP'.moved hW.alike⟩, hS'.F ht⟩) hS'.2.2 hd hlocks
  · exact W.aret (v := va_rf (o.map (x_ad G))) B.exec B.bytes (B.returns.trans hr) (Or.inl ⟨_, rfl⟩) (by cases o <;> simp [va_rf]) (fun t ht hW => ⟨⟨some (.inr o), N', I', Rf', rfl, hQ, by rw [ht]; exact hP'.moved hW.alike⟩, hS'.F ht⟩) hS'.2.2 hd hlocks
end XR
end
section
/-! the methods, and what their instructions link -/
theorem inX0 : ∀ w ∈ u_ws RX0 TX0 3, w ∈ xT := fun w h => xT_of ((by decide +kernel : ∀ w ∈ u_ws RX0 TX0 3, w ∈ lw_tbl) w h) (List.all_eq_true.mp (by decide +kernel : (u_ws RX0 TX0 3).all goodWord = true) w h)
theorem inX1 : ∀ w ∈ u_ws RX1 TX1 2, w ∈ xT := fun w h => xT_of ((by decide +kernel : ∀ w ∈ u_ws RX1 TX1 2, w ∈ lw_tbl) w h) (List.all_eq_true.mp (by decide +kernel : (u_ws RX1 TX1 2).all goodWord = true) w h)
theorem inX2 : ∀ w ∈ u_ws RX2 TX2 7, w ∈ xT := fun w h => xT_of ((by decide +kernel : ∀ w ∈ u_ws RX2 TX2 7, w ∈ lw_tbl) w h) (List.all_eq_true.mp (by decide +kernel : (u_ws RX2 TX2 7).all goodWord = true) w h)
theorem inX3 : ∀ w ∈ u_ws RX3 TX3 10, w ∈ xT := fun w h => xT_of ((by decide +kernel : ∀ w ∈ u_ws RX3 TX3 10, w ∈ lw_tbl) w h) (List.all_eq_true.mp (by decide +kernel : (u_ws RX3 TX3 10).all goodWord = true) w h)
theorem inX4 : ∀ w ∈ u_ws RX4 TX4 7, w ∈ xT := fun w h => xT_of ((by decide +kernel : ∀ w ∈ u_ws RX4 TX4 7, w ∈ lw_tbl) w h) (List.all_eq_true.mp (by decide +kernel : (u_ws RX4 TX4 7).all goodWord = true) w h)
abbrev kX0_init : xK := (yX0_init, cX0_init, 2, none)
abbrev kX0_stateAt : xK := (yX0_stateAt, cX0_stateAt, 3, (some (.object "HeatShelves$State")))
abbrev kX0_record : xK := (yX0_record, cX0_record, 3, none)
abbrev kX0_takeLatest : xK := (yX0_takeLatest, cX0_takeLatest, 3, (some .boolean))
abbrev kX1_init : xK := (yX1_init, cX1_init, 1, none)
abbrev kX1_letPass : xK := (yX1_letPass, cX1_letPass, 7, (some .int))
abbrev kX1_findWhoMayMove : xK := (yX1_findWhoMayMove, cX1_findWhoMayMove, 5, none)
abbrev kX1_moveInTurn : xK := (yX1_moveInTurn, cX1_moveInTurn, 8, (some .int))
abbrev kX1_nextInTurn : xK := (yX1_nextInTurn, cX1_nextInTurn, 9, (some .int))
abbrev kX1_shelfToMoveTo : xK := (yX1_shelfToMoveTo, cX1_shelfToMoveTo, 6, (some .int))
abbrev kX1_promiseIfDeep : xK := (yX1_promiseIfDeep, cX1_promiseIfDeep, 3, none)
abbrev kX2_init : xK := (yX2_init, cX2_init, 1, none)
abbrev kX3_init : xK := (yX3_init, cX3_init, 2, none)
abbrev kX3_copyFrom : xK := (yX3_copyFrom, cX3_copyFrom, 2, none)
abbrev kX3_countBlocks : xK := (yX3_countBlocks, cX3_countBlocks, 1, (some .int))
abbrev kX3_find : xK := (yX3_find, cX3_find, 4, (some .int))
abbrev kX3_placeOfRank : xK := (yX3_placeOfRank, cX3_placeOfRank, 4, (some .int))
abbrev kX3_countHotter : xK := (yX3_countHotter, cX3_countHotter, 7, (some .int))
abbrev kX3_wantedShelf : xK := (yX3_wantedShelf, cX3_wantedShelf, 3, (some .int))
abbrev kX3_hasRoom : xK := (yX3_hasRoom, cX3_hasRoom, 3, (some .boolean))
abbrev kX3_countOnShelf : xK := (yX3_countOnShelf, cX3_countOnShelf, 5, (some .int))
abbrev kX3_heatOnShelf : xK := (yX3_heatOnShelf, cX3_heatOnShelf, 5, (some .int))
abbrev kX3_heatOfAll : xK := (yX3_heatOfAll, cX3_heatOfAll, 3, (some .int))
abbrev kX3_nightPriceOfShelf : xK := (yX3_nightPriceOfShelf, cX3_nightPriceOfShelf, 2, (some .int))
abbrev kX3_countPinned : xK := (yX3_countPinned, cX3_countPinned, 4, (some .int))
abbrev kX3_addBlock : xK := (yX3_addBlock, cX3_addBlock, 5, (some .int))
abbrev kX3_fastestWithRoom : xK := (yX3_fastestWithRoom, cX3_fastestWithRoom, 3, (some .int))
abbrev kX3_dropBlock : xK := (yX3_dropBlock, cX3_dropBlock, 4, (some .int))
abbrev kX3_readBlock : xK := (yX3_readBlock, cX3_readBlock, 6, (some .int))
abbrev kX3_readOnce : xK := (yX3_readOnce, cX3_readOnce, 4, (some .int))
abbrev kX3_askBack : xK := (yX3_askBack, cX3_askBack, 4, (some .int))
abbrev kX3_moveTo : xK := (yX3_moveTo, cX3_moveTo, 4, none)
abbrev kX3_payNight : xK := (yX3_payNight, cX3_payNight, 2, none)
abbrev kX3_fade : xK := (yX3_fade, cX3_fade, 4, none)
abbrev kX3_turnPin : xK := (yX3_turnPin, cX3_turnPin, 5, (some .int))
abbrev kX3_changeSetting : xK := (yX3_changeSetting, cX3_changeSetting, 4, (some .int))
abbrev kX3_allowsSetting : xK := (yX3_allowsSetting, cX3_allowsSetting, 3, (some .boolean))
abbrev kX4_init : xK := (yX4_init, cX4_init, 1, none)
abbrev kX4_add : xK := (yX4_add, cX4_add, 2, (some .int))
abbrev kX4_remove : xK := (yX4_remove, cX4_remove, 2, (some .int))
abbrev kX4_read : xK := (yX4_read, cX4_read, 3, (some .int))
abbrev kX4_pin : xK := (yX4_pin, cX4_pin, 3, (some .int))
abbrev kX4_pass : xK := (yX4_pass, cX4_pass, 2, (some .int))
abbrev kX4_set : xK := (yX4_set, cX4_set, 3, (some .int))
abbrev kX4_undo : xK := (yX4_undo, cX4_undo, 1, (some .int))
abbrev kX4_restore : xK := (yX4_restore, cX4_restore, 1, (some .int))
abbrev kX4_block : xK := (yX4_block, cX4_block, 3, (some .int))
abbrev kX4_ofBlock : xK := (yX4_ofBlock, cX4_ofBlock, 4, (some .int))
abbrev kX4_shelf : xK := (yX4_shelf, cX4_shelf, 3, (some .int))
abbrev kX4_total : xK := (yX4_total, cX4_total, 2, (some .int))
abbrev kX4_ifPassed : xK := (yX4_ifPassed, cX4_ifPassed, 4, (some .int))
abbrev kX4_nextMove : xK := (yX4_nextMove, cX4_nextMove, 2, (some .int))
abbrev kX4_bestHot : xK := (yX4_bestHot, cX4_bestHot, 9, (some .int))
abbrev kX4_settle : xK := (yX4_settle, cX4_settle, 2, (some .int))
abbrev kX4_passInWork : xK := (yX4_passInWork, cX4_passInWork, 2, (some .int))
abbrev kX4_whyItStays : xK := (yX4_whyItStays, cX4_whyItStays, 2, (some .int))
abbrev kX4_paidForNightsInWork : xK := (yX4_paidForNightsInWork, cX4_paidForNightsInWork, 1, (some .int))
abbrev kX4_paidWithHot : xK := (yX4_paidWithHot, cX4_paidWithHot, 3, (some .int))
abbrev kX4_at : xK := (yX4_at, cX4_at, 2, (some .int))
abbrev kX4_put : xK := (yX4_put, cX4_put, 3, none)
abbrev kX4_raise : xK := (yX4_raise, cX4_raise, 3, none)
abbrev kX4_copyRow : xK := (yX4_copyRow, cX4_copyRow, 2, none)
abbrev kX4_closeGap : xK := (yX4_closeGap, cX4_closeGap, 3, none)
abbrev kL_cell : xK := (yL_cell, cL_cell, 2, (some .int))
abbrev kL_low : xK := (yL_low, cL_low, 2, (some .int))
abbrev kL_areShelves : xK := (yL_areShelves, cL_areShelves, 14, (some .boolean))
abbrev kL_isNight : xK := (yL_isNight, cL_isNight, 14, (some .boolean))
abbrev kL_isRead : xK := (yL_isRead, cL_isRead, 16, (some .boolean))
abbrev kL_isBest : xK := (yL_isBest, cL_isBest, 9, (some .boolean))
abbrev kL_does : xK := (yL_does, cL_does, 21, (some .boolean))
abbrev kL_law : xK := (yL_law, cL_law, 6, (some .boolean))
set_option maxRecDepth 20000 in
theorem ck_L_areShelves : x_cal kL_areShelves 1 := ⟨(xT_of (List.mem_append_right _ (List.mem_of_getElem? (i := 356) rfl)) rfl), (xT_of (List.mem_append_right _ (List.mem_of_getElem? (i := 0) rfl)) rfl), ⟨by decide, by decide, by decide +kernel⟩, by decide⟩
set_option maxRecDepth 20000 in
theorem ck_L_cell : x_cal kL_cell 2 := ⟨(xT_of (List.mem_append_right _ (List.mem_of_getElem? (i := 349) rfl)) rfl), (xT_of (List.mem_append_right _ (List.mem_of_getElem? (i := 0) rfl)) rfl), ⟨by decide, by decide, by decide +kernel⟩, by decide⟩
set_option maxRecDepth 20000 in
theorem ck_L_does : x_cal kL_does 3 := ⟨(xT_of (List.mem_append_right _ (List.mem_of_getElem? (i := 395) rfl)) rfl), (xT_of (List.mem_append_right _ (List.mem_of_getElem? (i := 0) rfl)) rfl), ⟨by decide, by decide, by decide +kernel⟩, by decide⟩
set_option maxRecDepth 20000 in
theorem ck_L_isBest : x_cal kL_isBest 2 := ⟨(xT_of (List.mem_append_right _ (List.mem_of_getElem? (i := 392) rfl)) rfl), (xT_of (List.mem_append_right _ (List.mem_of_getElem? (i := 0) rfl)) rfl), ⟨by decide, by decide, by decide +kernel⟩, by decide⟩
set_option maxRecDepth 20000 in
theorem ck_L_isNight : x_cal kL_isNight 3 := ⟨(xT_of (List.mem_append_right _ (List.mem_of_getElem? (i := 385) rfl)) rfl), (xT_of (List.mem_append_right _ (List.mem_of_getElem? (i := 0) rfl)) rfl), ⟨by decide, by decide, by decide +kernel⟩, by decide⟩
set_option maxRecDepth 20000 in
theorem ck_L_isRead : x_cal kL_isRead 3 := ⟨(xT_of (List.mem_append_right _ (List.mem_of_getElem? (i := 420) rfl)) rfl), (xT_of (List.mem_append_right _ (List.mem_of_getElem? (i := 0) rfl)) rfl), ⟨by decide, by decide, by decide +kernel⟩, by decide⟩
set_option maxRecDepth 20000 in
theorem ck_L_low : x_cal kL_low 2 := ⟨(xT_of (List.mem_append_right _ (List.mem_of_getElem? (i := 352) rfl)) rfl), (xT_of (List.mem_append_right _ (List.mem_of_getElem? (i := 0) rfl)) rfl), ⟨by decide, by decide, by decide +kernel⟩, by decide⟩
theorem ck_X0_init : x_cal kX0_init 0 := ⟨(xT_of (List.mem_append_right _ (List.mem_of_getElem? (i := 76) rfl)) rfl), (xT_of (List.mem_append_right _ (List.mem_of_getElem? (i := 3) rfl)) rfl), ⟨by decide, by decide, by decide +kernel⟩, by decide⟩
theorem ck_X0_record : x_cal kX0_record 1 := ⟨(xT_of (List.mem_append_right _ (List.mem_of_getElem? (i := 206) rfl)) rfl), (xT_of (List.mem_append_right _ (List.mem_of_getElem? (i := 3) rfl)) rfl), ⟨by decide, by decide, by decide +kernel⟩, by decide⟩
theorem ck_X0_stateAt : x_cal kX0_stateAt 1 := ⟨(xT_of (List.mem_append_right _ (List.mem_of_getElem? (i := 210) rfl)) rfl), (xT_of (List.mem_append_right _ (List.mem_of_getElem? (i := 3) rfl)) rfl), ⟨by decide, by decide, by decide +kernel⟩, by decide⟩
theorem ck_X0_takeLatest : x_cal kX0_takeLatest 1 := ⟨(xT_of (List.mem_append_right _ (List.mem_of_getElem? (i := 297) rfl)) rfl), (xT_of (List.mem_append_right _ (List.mem_of_getElem? (i := 3) rfl)) rfl), ⟨by decide, by decide, by decide +kernel⟩, by decide⟩
theorem ck_X1_findWhoMayMove : x_cal kX1_findWhoMayMove 1 := ⟨(xT_of (List.mem_append_right _ (List.mem_of_getElem? (i := 244) rfl)) rfl), (xT_of (List.mem_append_right _ (List.mem_of_getElem? (i := 4) rfl)) rfl), ⟨by decide, by decide, by decide +kernel⟩, by decide⟩
theorem ck_X1_init : x_cal kX1_init 0 := ⟨(xT_of (List.mem_append_right _ (List.mem_of_getElem? (i := 96) rfl)) rfl), (xT_of (List.mem_append_right _ (List.mem_of_getElem? (i := 4) rfl)) rfl), ⟨by decide, by decide, by decide +kernel⟩, by decide⟩
theorem ck_X1_letPass : x_cal kX1_letPass 2 := ⟨(xT_of (List.mem_append_right _ (List.mem_of_getElem? (i := 224) rfl)) rfl), (xT_of (List.mem_append_right _ (List.mem_of_getElem? (i := 4) rfl)) rfl), ⟨by decide, by decide, by decide +kernel⟩, by decide⟩
theorem ck_X1_moveInTurn : x_cal kX1_moveInTurn 3 := ⟨(xT_of (List.mem_append_right _ (List.mem_of_getElem? (i := 254) rfl)) rfl), (xT_of (List.mem_append_right _ (List.mem_of_getElem? (i := 4) rfl)) rfl), ⟨by decide, by decide, by decide +kernel⟩, by decide⟩
theorem ck_X1_nextInTurn : x_cal kX1_nextInTurn 2 := ⟨(xT_of (List.mem_append_right _ (List.mem_of_getElem? (i := 258) rfl)) rfl), (xT_of (List.mem_append_right _ (List.mem_of_getElem? (i := 4) rfl)) rfl), ⟨by decide, by decide, by decide +kernel⟩, by decide⟩
theorem ck_X1_promiseIfDeep : x_cal kX1_promiseIfDeep 2 := ⟨(xT_of (List.mem_append_right _ (List.mem_of_getElem? (i := 274) rfl)) rfl), (xT_of (List.mem_append_right _ (List.mem_of_getElem? (i := 4) rfl)) rfl), ⟨by decide, by decide, by decide +kernel⟩, by decide⟩
theorem ck_X1_shelfToMoveTo : x_cal kX1_shelfToMoveTo 2 := ⟨(xT_of (List.mem_append_right _ (List.mem_of_getElem? (i := 262) rfl)) rfl), (xT_of (List.mem_append_right _ (List.mem_of_getElem? (i := 4) rfl)) rfl), ⟨by decide, by decide, by decide +kernel⟩, by decide⟩
theorem ck_X2_init : x_cal kX2_init 0 := ⟨(xT_of (List.mem_append_right _ (List.mem_of_getElem? (i := 110) rfl)) rfl), (xT_of (List.mem_append_right _ (List.mem_of_getElem? (i := 5) rfl)) rfl), ⟨by decide, by decide, by decide +kernel⟩, by decide⟩
theorem ck_X3_addBlock : x_cal kX3_addBlock 1 := ⟨(xT_of (List.mem_append_right _ (List.mem_of_getElem? (i := 177) rfl)) rfl), (xT_of (List.mem_append_right _ (List.mem_of_getElem? (i := 2) rfl)) rfl), ⟨by decide, by decide, by decide +kernel⟩, by decide⟩
theorem ck_X3_allowsSetting : x_cal kX3_allowsSetting 2 := ⟨(xT_of (List.mem_append_right _ (List.mem_of_getElem? (i := 289) rfl)) rfl), (xT_of (List.mem_append_right _ (List.mem_of_getElem? (i := 2) rfl)) rfl), ⟨by decide, by decide, by decide +kernel⟩, by decide⟩
set_option maxRecDepth 20000 in
theorem ck_X3_askBack : x_cal kX3_askBack 1 := ⟨(xT_of (List.mem_append_right _ (List.mem_of_getElem? (i := 438) rfl)) rfl), (xT_of (List.mem_append_right _ (List.mem_of_getElem? (i := 2) rfl)) rfl), ⟨by decide, by decide, by decide +kernel⟩, by decide⟩
theorem ck_X3_changeSetting : x_cal kX3_changeSetting 2 := ⟨(xT_of (List.mem_append_right _ (List.mem_of_getElem? (i := 283) rfl)) rfl), (xT_of (List.mem_append_right _ (List.mem_of_getElem? (i := 2) rfl)) rfl), ⟨by decide, by decide, by decide +kernel⟩, by decide⟩
theorem ck_X3_copyFrom : x_cal kX3_copyFrom 1 := ⟨(xT_of (List.mem_append_right _ (List.mem_of_getElem? (i := 164) rfl)) rfl), (xT_of (List.mem_append_right _ (List.mem_of_getElem? (i := 2) rfl)) rfl), ⟨by decide, by decide, by decide +kernel⟩, by decide⟩
theorem ck_X3_countBlocks : x_cal kX3_countBlocks 0 := ⟨(xT_of (List.mem_append_right _ (List.mem_of_getElem? (i := 189) rfl)) rfl), (xT_of (List.mem_append_right _ (List.mem_of_getElem? (i := 2) rfl)) rfl), ⟨by decide, by decide, by decide +kernel⟩, by decide⟩
set_option maxRecDepth 20000 in
theorem ck_X3_countHotter : x_cal kX3_countHotter 1 := ⟨(xT_of (List.mem_append_right _ (List.mem_of_getElem? (i := 369) rfl)) rfl), (xT_of (List.mem_append_right _ (List.mem_of_getElem? (i := 2) rfl)) rfl), ⟨by decide, by decide, by decide +kernel⟩, by decide⟩
set_option maxRecDepth 20000 in
theorem ck_X3_countOnShelf : x_cal kX3_countOnShelf 1 := ⟨(xT_of (List.mem_append_right _ (List.mem_of_getElem? (i := 310) rfl)) rfl), (xT_of (List.mem_append_right _ (List.mem_of_getElem? (i := 2) rfl)) rfl), ⟨by decide, by decide, by decide +kernel⟩, by decide⟩
set_option maxRecDepth 20000 in
theorem ck_X3_countPinned : x_cal kX3_countPinned 0 := ⟨(xT_of (List.mem_append_right _ (List.mem_of_getElem? (i := 323) rfl)) rfl), (xT_of (List.mem_append_right _ (List.mem_of_getElem? (i := 2) rfl)) rfl), ⟨by decide, by decide, by decide +kernel⟩, by decide⟩
set_option maxRecDepth 20000 in
theorem ck_X3_dropBlock : x_cal kX3_dropBlock 1 := ⟨(xT_of (List.mem_append_right _ (List.mem_of_getElem? (i := 403) rfl)) rfl), (xT_of (List.mem_append_right _ (List.mem_of_getElem? (i := 2) rfl)) rfl), ⟨by decide, by decide, by decide +kernel⟩, by decide⟩
theorem ck_X3_fade : x_cal kX3_fade 0 := ⟨(xT_of (List.mem_append_right _ (List.mem_of_getElem? (i := 237) rfl)) rfl), (xT_of (List.mem_append_right _ (List.mem_of_getElem? (i := 2) rfl)) rfl), ⟨by decide, by decide, by decide +kernel⟩, by decide⟩
theorem ck_X3_fastestWithRoom : x_cal kX3_fastestWithRoom 1 := ⟨(xT_of (List.mem_append_right _ (List.mem_of_getElem? (i := 181) rfl)) rfl), (xT_of (List.mem_append_right _ (List.mem_of_getElem? (i := 2) rfl)) rfl), ⟨by decide, by decide, by decide +kernel⟩, by decide⟩
set_option maxRecDepth 20000 in
theorem ck_X3_find : x_cal kX3_find 1 := ⟨(xT_of (List.mem_append_right _ (List.mem_of_getElem? (i := 377) rfl)) rfl), (xT_of (List.mem_append_right _ (List.mem_of_getElem? (i := 2) rfl)) rfl), ⟨by decide, by decide, by decide +kernel⟩, by decide⟩
theorem ck_X3_hasRoom : x_cal kX3_hasRoom 2 := ⟨(xT_of (List.mem_append_right _ (List.mem_of_getElem? (i := 185) rfl)) rfl), (xT_of (List.mem_append_right _ (List.mem_of_getElem? (i := 2) rfl)) rfl), ⟨by decide, by decide, by decide +kernel⟩, by decide⟩
set_option maxRecDepth 20000 in
theorem ck_X3_heatOfAll : x_cal kX3_heatOfAll 0 := ⟨(xT_of (List.mem_append_right _ (List.mem_of_getElem? (i := 327) rfl)) rfl), (xT_of (List.mem_append_right _ (List.mem_of_getElem? (i := 2) rfl)) rfl), ⟨by decide, by decide, by decide +kernel⟩, by decide⟩
set_option maxRecDepth 20000 in
theorem ck_X3_heatOnShelf : x_cal kX3_heatOnShelf 1 := ⟨(xT_of (List.mem_append_right _ (List.mem_of_getElem? (i := 314) rfl)) rfl), (xT_of (List.mem_append_right _ (List.mem_of_getElem? (i := 2) rfl)) rfl), ⟨by decide, by decide, by decide +kernel⟩, by decide⟩
theorem ck_X3_init : x_cal kX3_init 0 := ⟨(xT_of (List.mem_append_right _ (List.mem_of_getElem? (i := 20) rfl)) rfl), (xT_of (List.mem_append_right _ (List.mem_of_getElem? (i := 2) rfl)) rfl), ⟨by decide, by decide, by decide +kernel⟩, by decide⟩
theorem ck_X3_moveTo : x_cal kX3_moveTo 2 := ⟨(xT_of (List.mem_append_right _ (List.mem_of_getElem? (i := 270) rfl)) rfl), (xT_of (List.mem_append_right _ (List.mem_of_getElem? (i := 2) rfl)) rfl), ⟨by decide, by decide, by decide +kernel⟩, by decide⟩
theorem ck_X3_nightPriceOfShelf : x_cal kX3_nightPriceOfShelf 1 := ⟨(xT_of (List.mem_append_right _ (List.mem_of_getElem? (i := 233) rfl)) rfl), (xT_of (List.mem_append_right _ (List.mem_of_getElem? (i := 2) rfl)) rfl), ⟨by decide, by decide, by decide +kernel⟩, by decide⟩
theorem ck_X3_payNight : x_cal kX3_payNight 0 := ⟨(xT_of (List.mem_append_right _ (List.mem_of_getElem? (i := 229) rfl)) rfl), (xT_of (List.mem_append_right _ (List.mem_of_getElem? (i := 2) rfl)) rfl), ⟨by decide, by decide, by decide +kernel⟩, by decide⟩
set_option maxRecDepth 20000 in
theorem ck_X3_placeOfRank : x_cal kX3_placeOfRank 1 := ⟨(xT_of (List.mem_append_right _ (List.mem_of_getElem? (i := 365) rfl)) rfl), (xT_of (List.mem_append_right _ (List.mem_of_getElem? (i := 2) rfl)) rfl), ⟨by decide, by decide, by decide +kernel⟩, by decide⟩
set_option maxRecDepth 20000 in
theorem ck_X3_readBlock : x_cal kX3_readBlock 2 := ⟨(xT_of (List.mem_append_right _ (List.mem_of_getElem? (i := 428) rfl)) rfl), (xT_of (List.mem_append_right _ (List.mem_of_getElem? (i := 2) rfl)) rfl), ⟨by decide, by decide, by decide +kernel⟩, by decide⟩
set_option maxRecDepth 20000 in
theorem ck_X3_readOnce : x_cal kX3_readOnce 1 := ⟨(xT_of (List.mem_append_right _ (List.mem_of_getElem? (i := 432) rfl)) rfl), (xT_of (List.mem_append_right _ (List.mem_of_getElem? (i := 2) rfl)) rfl), ⟨by decide, by decide, by decide +kernel⟩, by decide⟩
set_option maxRecDepth 20000 in
theorem ck_X3_turnPin : x_cal kX3_turnPin 2 := ⟨(xT_of (List.mem_append_right _ (List.mem_of_getElem? (i := 416) rfl)) rfl), (xT_of (List.mem_append_right _ (List.mem_of_getElem? (i := 2) rfl)) rfl), ⟨by decide, by decide, by decide +kernel⟩, by decide⟩
theorem ck_X3_wantedShelf : x_cal kX3_wantedShelf 1 := ⟨(xT_of (List.mem_append_right _ (List.mem_of_getElem? (i := 249) rfl)) rfl), (xT_of (List.mem_append_right _ (List.mem_of_getElem? (i := 2) rfl)) rfl), ⟨by decide, by decide, by decide +kernel⟩, by decide⟩
theorem ck_X4_add : x_cal kX4_add 1 := ⟨(xT_of (List.mem_append_right _ (List.mem_of_getElem? (i := 160) rfl)) rfl), (xT_of (List.mem_append_right _ (List.mem_of_getElem? (i := 1) rfl)) rfl), ⟨by decide, by decide, by decide +kernel⟩, by decide⟩
theorem ck_X4_at : x_cal kX4_at 2 := ⟨(xT_of (List.mem_append_right _ (List.mem_of_getElem? (i := 192) rfl)) rfl), (xT_of (List.mem_append_right _ (List.mem_of_getElem? (i := 1) rfl)) rfl), ⟨by decide, by decide, by decide +kernel⟩, by decide⟩
set_option maxRecDepth 20000 in
theorem ck_X4_bestHot : x_cal kX4_bestHot 2 := ⟨(xT_of (List.mem_append_right _ (List.mem_of_getElem? (i := 336) rfl)) rfl), (xT_of (List.mem_append_right _ (List.mem_of_getElem? (i := 1) rfl)) rfl), ⟨by decide, by decide, by decide +kernel⟩, by decide⟩
set_option maxRecDepth 20000 in
theorem ck_X4_block : x_cal kX4_block 1 := ⟨(xT_of (List.mem_append_right _ (List.mem_of_getElem? (i := 361) rfl)) rfl), (xT_of (List.mem_append_right _ (List.mem_of_getElem? (i := 1) rfl)) rfl), ⟨by decide, by decide, by decide +kernel⟩, by decide⟩
set_option maxRecDepth 20000 in
theorem ck_X4_closeGap : x_cal kX4_closeGap 2 := ⟨(xT_of (List.mem_append_right _ (List.mem_of_getElem? (i := 407) rfl)) rfl), (xT_of (List.mem_append_right _ (List.mem_of_getElem? (i := 1) rfl)) rfl), ⟨by decide, by decide, by decide +kernel⟩, by decide⟩
theorem ck_X4_copyRow : x_cal kX4_copyRow 2 := ⟨(xT_of (List.mem_append_right _ (List.mem_of_getElem? (i := 167) rfl)) rfl), (xT_of (List.mem_append_right _ (List.mem_of_getElem? (i := 1) rfl)) rfl), ⟨by decide, by decide, by decide +kernel⟩, by decide⟩
set_option maxRecDepth 20000 in
theorem ck_X4_ifPassed : x_cal kX4_ifPassed 2 := ⟨(xT_of (List.mem_append_right _ (List.mem_of_getElem? (i := 389) rfl)) rfl), (xT_of (List.mem_append_right _ (List.mem_of_getElem? (i := 1) rfl)) rfl), ⟨by decide, by decide, by decide +kernel⟩, by decide⟩
theorem ck_X4_init : x_cal kX4_init 0 := ⟨(xT_of (List.mem_append_right _ (List.mem_of_getElem? (i := 12) rfl)) rfl), (xT_of (List.mem_append_right _ (List.mem_of_getElem? (i := 1) rfl)) rfl), ⟨by decide, by decide, by decide +kernel⟩, by decide⟩
set_option maxRecDepth 20000 in
theorem ck_X4_nextMove : x_cal kX4_nextMove 0 := ⟨(xT_of (List.mem_append_right _ (List.mem_of_getElem? (i := 332) rfl)) rfl), (xT_of (List.mem_append_right _ (List.mem_of_getElem? (i := 1) rfl)) rfl), ⟨by decide, by decide, by decide +kernel⟩, by decide⟩
set_option maxRecDepth 20000 in
theorem ck_X4_ofBlock : x_cal kX4_ofBlock 2 := ⟨(xT_of (List.mem_append_right _ (List.mem_of_getElem? (i := 373) rfl)) rfl), (xT_of (List.mem_append_right _ (List.mem_of_getElem? (i := 1) rfl)) rfl), ⟨by decide, by decide, by decide +kernel⟩, by decide⟩
set_option maxRecDepth 20000 in
theorem ck_X4_paidForNightsInWork : x_cal kX4_paidForNightsInWork 0 := ⟨(xT_of (List.mem_append_right _ (List.mem_of_getElem? (i := 346) rfl)) rfl), (xT_of (List.mem_append_right _ (List.mem_of_getElem? (i := 1) rfl)) rfl), ⟨by decide, by decide, by decide +kernel⟩, by decide⟩
set_option maxRecDepth 20000 in
theorem ck_X4_paidWithHot : x_cal kX4_paidWithHot 2 := ⟨(xT_of (List.mem_append_right _ (List.mem_of_getElem? (i := 341) rfl)) rfl), (xT_of (List.mem_append_right _ (List.mem_of_getElem? (i := 1) rfl)) rfl), ⟨by decide, by decide, by decide +kernel⟩, by decide⟩
theorem ck_X4_pass : x_cal kX4_pass 1 := ⟨(xT_of (List.mem_append_right _ (List.mem_of_getElem? (i := 215) rfl)) rfl), (xT_of (List.mem_append_right _ (List.mem_of_getElem? (i := 1) rfl)) rfl), ⟨by decide, by decide, by decide +kernel⟩, by decide⟩
theorem ck_X4_passInWork : x_cal kX4_passInWork 1 := ⟨(xT_of (List.mem_append_right _ (List.mem_of_getElem? (i := 219) rfl)) rfl), (xT_of (List.mem_append_right _ (List.mem_of_getElem? (i := 1) rfl)) rfl), ⟨by decide, by decide, by decide +kernel⟩, by decide⟩
set_option maxRecDepth 20000 in
theorem ck_X4_pin : x_cal kX4_pin 2 := ⟨(xT_of (List.mem_append_right _ (List.mem_of_getElem? (i := 412) rfl)) rfl), (xT_of (List.mem_append_right _ (List.mem_of_getElem? (i := 1) rfl)) rfl), ⟨by decide, by decide, by decide +kernel⟩, by decide⟩
theorem ck_X4_put : x_cal kX4_put 3 := ⟨(xT_of (List.mem_append_right _ (List.mem_of_getElem? (i := 195) rfl)) rfl), (xT_of (List.mem_append_right _ (List.mem_of_getElem? (i := 1) rfl)) rfl), ⟨by decide, by decide, by decide +kernel⟩, by decide⟩
theorem ck_X4_raise : x_cal kX4_raise 3 := ⟨(xT_of (List.mem_append_right _ (List.mem_of_getElem? (i := 198) rfl)) rfl), (xT_of (List.mem_append_right _ (List.mem_of_getElem? (i := 1) rfl)) rfl), ⟨by decide, by decide, by decide +kernel⟩, by decide⟩
set_option maxRecDepth 20000 in
theorem ck_X4_read : x_cal kX4_read 2 := ⟨(xT_of (List.mem_append_right _ (List.mem_of_getElem? (i := 424) rfl)) rfl), (xT_of (List.mem_append_right _ (List.mem_of_getElem? (i := 1) rfl)) rfl), ⟨by decide, by decide, by decide +kernel⟩, by decide⟩
set_option maxRecDepth 20000 in
theorem ck_X4_remove : x_cal kX4_remove 1 := ⟨(xT_of (List.mem_append_right _ (List.mem_of_getElem? (i := 399) rfl)) rfl), (xT_of (List.mem_append_right _ (List.mem_of_getElem? (i := 1) rfl)) rfl), ⟨by decide, by decide, by decide +kernel⟩, by decide⟩
set_option maxRecDepth 20000 in
theorem ck_X4_restore : x_cal kX4_restore 0 := ⟨(xT_of (List.mem_append_right _ (List.mem_of_getElem? (i := 301) rfl)) rfl), (xT_of (List.mem_append_right _ (List.mem_of_getElem? (i := 1) rfl)) rfl), ⟨by decide, by decide, by decide +kernel⟩, by decide⟩
theorem ck_X4_set : x_cal kX4_set 2 := ⟨(xT_of (List.mem_append_right _ (List.mem_of_getElem? (i := 279) rfl)) rfl), (xT_of (List.mem_append_right _ (List.mem_of_getElem? (i := 1) rfl)) rfl), ⟨by decide, by decide, by decide +kernel⟩, by decide⟩
theorem ck_X4_settle : x_cal kX4_settle 1 := ⟨(xT_of (List.mem_append_right _ (List.mem_of_getElem? (i := 202) rfl)) rfl), (xT_of (List.mem_append_right _ (List.mem_of_getElem? (i := 1) rfl)) rfl), ⟨by decide, by decide, by decide +kernel⟩, by decide⟩
set_option maxRecDepth 20000 in
theorem ck_X4_shelf : x_cal kX4_shelf 2 := ⟨(xT_of (List.mem_append_right _ (List.mem_of_getElem? (i := 306) rfl)) rfl), (xT_of (List.mem_append_right _ (List.mem_of_getElem? (i := 1) rfl)) rfl), ⟨by decide, by decide, by decide +kernel⟩, by decide⟩
set_option maxRecDepth 20000 in
theorem ck_X4_total : x_cal kX4_total 1 := ⟨(xT_of (List.mem_append_right _ (List.mem_of_getElem? (i := 319) rfl)) rfl), (xT_of (List.mem_append_right _ (List.mem_of_getElem? (i := 1) rfl)) rfl), ⟨by decide, by decide, by decide +kernel⟩, by decide⟩
theorem ck_X4_undo : x_cal kX4_undo 0 := ⟨(xT_of (List.mem_append_right _ (List.mem_of_getElem? (i := 293) rfl)) rfl), (xT_of (List.mem_append_right _ (List.mem_of_getElem? (i := 1) rfl)) rfl), ⟨by decide, by decide, by decide +kernel⟩, by decide⟩
set_option maxRecDepth 20000 in
theorem ck_X4_whyItStays : x_cal kX4_whyItStays 1 := ⟨(xT_of (List.mem_append_right _ (List.mem_of_getElem? (i := 382) rfl)) rfl), (xT_of (List.mem_append_right _ (List.mem_of_getElem? (i := 1) rfl)) rfl), ⟨by decide, by decide, by decide +kernel⟩, by decide⟩
set_option maxRecDepth 20000 in
theorem cv_L_15 : x_CV RL 15 kX4_block 1 4 := ⟨Or.inl (xT_of (List.mem_append_right _ (List.mem_of_getElem? (i := 358) rfl)) rfl), ck_X4_block, (xT_of (List.mem_append_right _ (List.mem_of_getElem? (i := 359) rfl)) rfl), (xT_of (List.mem_append_right _ (List.mem_of_getElem? (i := 360) rfl)) rfl), TX4, 7, rfl⟩
set_option maxRecDepth 20000 in
theorem cv_L_18 : x_CV RL 18 kX4_ofBlock 2 4 := ⟨Or.inl (xT_of (List.mem_append_right _ (List.mem_of_getElem? (i := 370) rfl)) rfl), ck_X4_ofBlock, (xT_of (List.mem_append_right _ (List.mem_of_getElem? (i := 371) rfl)) rfl), (xT_of (List.mem_append_right _ (List.mem_of_getElem? (i := 372) rfl)) rfl), TX4, 7, rfl⟩
set_option maxRecDepth 20000 in
theorem cv_L_22 : x_CV RL 22 kX4_shelf 2 4 := ⟨Or.inl (xT_of (List.mem_append_right _ (List.mem_of_getElem? (i := 303) rfl)) rfl), ck_X4_shelf, (xT_of (List.mem_append_right _ (List.mem_of_getElem? (i := 304) rfl)) rfl), (xT_of (List.mem_append_right _ (List.mem_of_getElem? (i := 305) rfl)) rfl), TX4, 7, rfl⟩
set_option maxRecDepth 20000 in
theorem cv_L_25 : x_CV RL 25 kX4_ifPassed 2 4 := ⟨Or.inl (xT_of (List.mem_append_right _ (List.mem_of_getElem? (i := 386) rfl)) rfl), ck_X4_ifPassed, (xT_of (List.mem_append_right _ (List.mem_of_getElem? (i := 387) rfl)) rfl), (xT_of (List.mem_append_right _ (List.mem_of_getElem? (i := 388) rfl)) rfl), TX4, 7, rfl⟩
set_option maxRecDepth 20000 in
theorem cv_L_28 : x_CV RL 28 kX4_nextMove 0 4 := ⟨Or.inl (xT_of (List.mem_append_right _ (List.mem_of_getElem? (i := 329) rfl)) rfl), ck_X4_nextMove, (xT_of (List.mem_append_right _ (List.mem_of_getElem? (i := 330) rfl)) rfl), (xT_of (List.mem_append_right _ (List.mem_of_getElem? (i := 331) rfl)) rfl), TX4, 7, rfl⟩
theorem cv_L_32 : x_CV RL 32 kX4_pass 1 4 := ⟨Or.inl (xT_of (List.mem_append_right _ (List.mem_of_getElem? (i := 212) rfl)) rfl), ck_X4_pass, (xT_of (List.mem_append_right _ (List.mem_of_getElem? (i := 213) rfl)) rfl), (xT_of (List.mem_append_right _ (List.mem_of_getElem? (i := 214) rfl)) rfl), TX4, 7, rfl⟩
set_option maxRecDepth 20000 in
theorem cv_L_35 : x_CV RL 35 kX4_read 2 4 := ⟨Or.inl (xT_of (List.mem_append_right _ (List.mem_of_getElem? (i := 421) rfl)) rfl), ck_X4_read, (xT_of (List.mem_append_right _ (List.mem_of_getElem? (i := 422) rfl)) rfl), (xT_of (List.mem_append_right _ (List.mem_of_getElem? (i := 423) rfl)) rfl), TX4, 7, rfl⟩
set_option maxRecDepth 20000 in
theorem cv_L_39 : x_CV RL 39 kX4_bestHot 2 4 := ⟨Or.inl (xT_of (List.mem_append_right _ (List.mem_of_getElem? (i := 333) rfl)) rfl), ck_X4_bestHot, (xT_of (List.mem_append_right _ (List.mem_of_getElem? (i := 334) rfl)) rfl), (xT_of (List.mem_append_right _ (List.mem_of_getElem? (i := 335) rfl)) rfl), TX4, 7, rfl⟩
theorem cv_L_42 : x_CV RL 42 kX4_set 2 4 := ⟨Or.inl (xT_of (List.mem_append_right _ (List.mem_of_getElem? (i := 276) rfl)) rfl), ck_X4_set, (xT_of (List.mem_append_right _ (List.mem_of_getElem? (i := 277) rfl)) rfl), (xT_of (List.mem_append_right _ (List.mem_of_getElem? (i := 278) rfl)) rfl), TX4, 7, rfl⟩
set_option maxRecDepth 20000 in
theorem cs_L_45 : x_CS RL 45 kL_low 2 := ⟨Or.inl (xT_of (List.mem_append_right _ (List.mem_of_getElem? (i := 350) rfl)) rfl), ck_L_low, (xT_of (List.mem_append_right _ (List.mem_of_getElem? (i := 351) rfl)) rfl)⟩
theorem cv_L_50 : x_CV RL 50 kX4_add 1 4 := ⟨Or.inl (xT_of (List.mem_append_right _ (List.mem_of_getElem? (i := 157) rfl)) rfl), ck_X4_add, (xT_of (List.mem_append_right _ (List.mem_of_getElem? (i := 158) rfl)) rfl), (xT_of (List.mem_append_right _ (List.mem_of_getElem? (i := 159) rfl)) rfl), TX4, 7, rfl⟩
set_option maxRecDepth 20000 in
theorem cv_L_53 : x_CV RL 53 kX4_remove 1 4 := ⟨Or.inl (xT_of (List.mem_append_right _ (List.mem_of_getElem? (i := 396) rfl)) rfl), ck_X4_remove, (xT_of (List.mem_append_right _ (List.mem_of_getElem? (i := 397) rfl)) rfl), (xT_of (List.mem_append_right _ (List.mem_of_getElem? (i := 398) rfl)) rfl), TX4, 7, rfl⟩
set_option maxRecDepth 20000 in
theorem cv_L_56 : x_CV RL 56 kX4_pin 2 4 := ⟨Or.inl (xT_of (List.mem_append_right _ (List.mem_of_getElem? (i := 409) rfl)) rfl), ck_X4_pin, (xT_of (List.mem_append_right _ (List.mem_of_getElem? (i := 410) rfl)) rfl), (xT_of (List.mem_append_right _ (List.mem_of_getElem? (i := 411) rfl)) rfl), TX4, 7, rfl⟩
set_option maxRecDepth 20000 in
theorem cs_L_60 : x_CS RL 60 kL_isRead 3 := ⟨Or.inl (xT_of (List.mem_append_right _ (List.mem_of_getElem? (i := 418) rfl)) rfl), ck_L_isRead, (xT_of (List.mem_append_right _ (List.mem_of_getElem? (i := 419) rfl)) rfl)⟩
theorem cc_L_64 : x_CC RL 64 kX4_init 0 := ⟨Or.inl (xT_of (List.mem_append_right _ (List.mem_of_getElem? (i := 10) rfl)) rfl), ck_X4_init, (xT_of (List.mem_append_right _ (List.mem_of_getElem? (i := 11) rfl)) rfl), rfl, rfl⟩
set_option maxRecDepth 20000 in
theorem cs_L_65 : x_CS RL 65 kL_areShelves 1 := ⟨Or.inl (xT_of (List.mem_append_right _ (List.mem_of_getElem? (i := 354) rfl)) rfl), ck_L_areShelves, (xT_of (List.mem_append_right _ (List.mem_of_getElem? (i := 355) rfl)) rfl)⟩
theorem cv_L_69 : x_CV RL 69 kX4_undo 0 4 := ⟨Or.inl (xT_of (List.mem_append_right _ (List.mem_of_getElem? (i := 290) rfl)) rfl), ck_X4_undo, (xT_of (List.mem_append_right _ (List.mem_of_getElem? (i := 291) rfl)) rfl), (xT_of (List.mem_append_right _ (List.mem_of_getElem? (i := 292) rfl)) rfl), TX4, 7, rfl⟩
theorem cv_L_72 : x_CV RL 72 kX4_restore 0 4 := ⟨Or.inl (xT_of (List.mem_append_right _ (List.mem_of_getElem? (i := 298) rfl)) rfl), ck_X4_restore, (xT_of (List.mem_append_right _ (List.mem_of_getElem? (i := 299) rfl)) rfl), (xT_of (List.mem_append_right _ (List.mem_of_getElem? (i := 300) rfl)) rfl), TX4, 7, rfl⟩
set_option maxRecDepth 20000 in
theorem cs_L_75 : x_CS RL 75 kL_cell 2 := ⟨Or.inl (xT_of (List.mem_append_right _ (List.mem_of_getElem? (i := 347) rfl)) rfl), ck_L_cell, (xT_of (List.mem_append_right _ (List.mem_of_getElem? (i := 348) rfl)) rfl)⟩
set_option maxRecDepth 20000 in
theorem cs_L_79 : x_CS RL 79 kL_does 3 := ⟨Or.inl (xT_of (List.mem_append_right _ (List.mem_of_getElem? (i := 393) rfl)) rfl), ck_L_does, (xT_of (List.mem_append_right _ (List.mem_of_getElem? (i := 394) rfl)) rfl)⟩
set_option maxRecDepth 20000 in
theorem cv_L_8 : x_CV RL 8 kX4_total 1 4 := ⟨Or.inl (xT_of (List.mem_append_right _ (List.mem_of_getElem? (i := 316) rfl)) rfl), ck_X4_total, (xT_of (List.mem_append_right _ (List.mem_of_getElem? (i := 317) rfl)) rfl), (xT_of (List.mem_append_right _ (List.mem_of_getElem? (i := 318) rfl)) rfl), TX4, 7, rfl⟩
set_option maxRecDepth 20000 in
theorem cs_L_82 : x_CS RL 82 kL_isNight 3 := ⟨Or.inl (xT_of (List.mem_append_right _ (List.mem_of_getElem? (i := 383) rfl)) rfl), ck_L_isNight, (xT_of (List.mem_append_right _ (List.mem_of_getElem? (i := 384) rfl)) rfl)⟩
set_option maxRecDepth 20000 in
theorem cs_L_86 : x_CS RL 86 kL_isBest 2 := ⟨Or.inl (xT_of (List.mem_append_right _ (List.mem_of_getElem? (i := 390) rfl)) rfl), ck_L_isBest, (xT_of (List.mem_append_right _ (List.mem_of_getElem? (i := 391) rfl)) rfl)⟩
theorem cc_X0_24 : x_CC RX0 24 kX3_init 0 := ⟨Or.inr ⟨"HeatShelves", List.mem_of_getElem? (i := 2) rfl⟩, ck_X3_init, (xT_of (List.mem_append_right _ (List.mem_of_getElem? (i := 19) rfl)) rfl), rfl, rfl⟩
theorem cv_X0_25 : x_CV RX0 25 kX0_stateAt 1 0 := ⟨Or.inl (xT_of (List.mem_append_right _ (List.mem_of_getElem? (i := 207) rfl)) rfl), ck_X0_stateAt, (xT_of (List.mem_append_right _ (List.mem_of_getElem? (i := 209) rfl)) rfl), (xT_of (List.mem_append_left _ (List.mem_of_getElem? (i := 7) rfl)) rfl), TX0, 3, rfl⟩
theorem cv_X0_29 : x_CV RX0 29 kX3_copyFrom 1 3 := ⟨Or.inr ⟨"HeatShelves", List.mem_of_getElem? (i := 12) rfl⟩, ck_X3_copyFrom, (xT_of (List.mem_append_right _ (List.mem_of_getElem? (i := 163) rfl)) rfl), (xT_of (List.mem_append_left _ (List.mem_of_getElem? (i := 0) rfl)) rfl), TX3, 10, rfl⟩
theorem lk_X0_3 : Cond.methodLink RX0 3 Lib.objectInit ∈ xT := (xT_of (List.mem_append_right _ (List.mem_of_getElem? (i := 77) rfl)) rfl)
theorem cs_X1_23 : x_CS RX1 23 kX4_at 2 := ⟨Or.inr ⟨"HeatShelves", List.mem_of_getElem? (i := 14) rfl⟩, ck_X4_at, (xT_of (List.mem_append_right _ (List.mem_of_getElem? (i := 191) rfl)) rfl)⟩
theorem cv_X1_27 : x_CV RX1 27 kX3_payNight 0 3 := ⟨Or.inr ⟨"HeatShelves", List.mem_of_getElem? (i := 15) rfl⟩, ck_X3_payNight, (xT_of (List.mem_append_right _ (List.mem_of_getElem? (i := 228) rfl)) rfl), (xT_of (List.mem_append_left _ (List.mem_of_getElem? (i := 10) rfl)) rfl), TX3, 10, rfl⟩
theorem lk_X1_3 : Cond.methodLink RX1 3 Lib.objectInit ∈ xT := (xT_of (List.mem_append_right _ (List.mem_of_getElem? (i := 97) rfl)) rfl)
theorem cv_X1_30 : x_CV RX1 30 kX3_fade 0 3 := ⟨Or.inr ⟨"HeatShelves", List.mem_of_getElem? (i := 16) rfl⟩, ck_X3_fade, (xT_of (List.mem_append_right _ (List.mem_of_getElem? (i := 236) rfl)) rfl), (xT_of (List.mem_append_left _ (List.mem_of_getElem? (i := 12) rfl)) rfl), TX3, 10, rfl⟩
theorem cv_X1_33 : x_CV RX1 33 kX1_findWhoMayMove 1 1 := ⟨Or.inl (xT_of (List.mem_append_right _ (List.mem_of_getElem? (i := 241) rfl)) rfl), ck_X1_findWhoMayMove, (xT_of (List.mem_append_right _ (List.mem_of_getElem? (i := 243) rfl)) rfl), (xT_of (List.mem_append_left _ (List.mem_of_getElem? (i := 13) rfl)) rfl), TX1, 2, rfl⟩
theorem cv_X1_37 : x_CV RX1 37 kX1_moveInTurn 3 1 := ⟨Or.inl (xT_of (List.mem_append_right _ (List.mem_of_getElem? (i := 251) rfl)) rfl), ck_X1_moveInTurn, (xT_of (List.mem_append_right _ (List.mem_of_getElem? (i := 253) rfl)) rfl), (xT_of (List.mem_append_left _ (List.mem_of_getElem? (i := 15) rfl)) rfl), TX1, 2, rfl⟩
theorem cs_X1_41 : x_CS RX1 41 kX4_raise 3 := ⟨Or.inr ⟨"HeatShelves", List.mem_of_getElem? (i := 22) rfl⟩, ck_X4_raise, (xT_of (List.mem_append_right _ (List.mem_of_getElem? (i := 197) rfl)) rfl)⟩
theorem cv_X1_45 : x_CV RX1 45 kX3_countBlocks 0 3 := ⟨Or.inr ⟨"HeatShelves", List.mem_of_getElem? (i := 17) rfl⟩, ck_X3_countBlocks, (xT_of (List.mem_append_right _ (List.mem_of_getElem? (i := 188) rfl)) rfl), (xT_of (List.mem_append_left _ (List.mem_of_getElem? (i := 4) rfl)) rfl), TX3, 10, rfl⟩
theorem cv_X1_49 : x_CV RX1 49 kX3_wantedShelf 1 3 := ⟨Or.inr ⟨"HeatShelves", List.mem_of_getElem? (i := 18) rfl⟩, ck_X3_wantedShelf, (xT_of (List.mem_append_right _ (List.mem_of_getElem? (i := 248) rfl)) rfl), (xT_of (List.mem_append_left _ (List.mem_of_getElem? (i := 14) rfl)) rfl), TX3, 10, rfl⟩
theorem cs_X1_53 : x_CS RX1 53 kX4_put 3 := ⟨Or.inr ⟨"HeatShelves", List.mem_of_getElem? (i := 19) rfl⟩, ck_X4_put, (xT_of (List.mem_append_right _ (List.mem_of_getElem? (i := 194) rfl)) rfl)⟩
theorem cv_X1_65 : x_CV RX1 65 kX1_nextInTurn 2 1 := ⟨Or.inl (xT_of (List.mem_append_right _ (List.mem_of_getElem? (i := 255) rfl)) rfl), ck_X1_nextInTurn, (xT_of (List.mem_append_right _ (List.mem_of_getElem? (i := 257) rfl)) rfl), (xT_of (List.mem_append_left _ (List.mem_of_getElem? (i := 16) rfl)) rfl), TX1, 2, rfl⟩
theorem cv_X1_69 : x_CV RX1 69 kX1_shelfToMoveTo 2 1 := ⟨Or.inl (xT_of (List.mem_append_right _ (List.mem_of_getElem? (i := 259) rfl)) rfl), ck_X1_shelfToMoveTo, (xT_of (List.mem_append_right _ (List.mem_of_getElem? (i := 261) rfl)) rfl), (xT_of (List.mem_append_left _ (List.mem_of_getElem? (i := 17) rfl)) rfl), TX1, 2, rfl⟩
theorem cv_X1_73 : x_CV RX1 73 kX3_moveTo 2 3 := ⟨Or.inr ⟨"HeatShelves", List.mem_of_getElem? (i := 21) rfl⟩, ck_X3_moveTo, (xT_of (List.mem_append_right _ (List.mem_of_getElem? (i := 269) rfl)) rfl), (xT_of (List.mem_append_left _ (List.mem_of_getElem? (i := 18) rfl)) rfl), TX3, 10, rfl⟩
theorem cv_X1_77 : x_CV RX1 77 kX1_promiseIfDeep 2 1 := ⟨Or.inl (xT_of (List.mem_append_right _ (List.mem_of_getElem? (i := 271) rfl)) rfl), ck_X1_promiseIfDeep, (xT_of (List.mem_append_right _ (List.mem_of_getElem? (i := 273) rfl)) rfl), (xT_of (List.mem_append_left _ (List.mem_of_getElem? (i := 19) rfl)) rfl), TX1, 2, rfl⟩
theorem cv_X1_87 : x_CV RX1 87 kX3_hasRoom 2 3 := ⟨Or.inr ⟨"HeatShelves", List.mem_of_getElem? (i := 20) rfl⟩, ck_X3_hasRoom, (xT_of (List.mem_append_right _ (List.mem_of_getElem? (i := 184) rfl)) rfl), (xT_of (List.mem_append_left _ (List.mem_of_getElem? (i := 3) rfl)) rfl), TX3, 10, rfl⟩
theorem lk_X1_91 : Cond.methodLink RX1 91 Lib.Math.abs.name ∈ xT := (xT_of (List.mem_append_right _ (List.mem_of_getElem? (i := 264) rfl)) rfl)
theorem lk_X2_3 : Cond.methodLink RX2 3 Lib.objectInit ∈ xT := (xT_of (List.mem_append_right _ (List.mem_of_getElem? (i := 111) rfl)) rfl)
theorem cv_X3_102 : x_CV RX3 102 kX3_nightPriceOfShelf 1 3 := ⟨Or.inl (xT_of (List.mem_append_right _ (List.mem_of_getElem? (i := 230) rfl)) rfl), ck_X3_nightPriceOfShelf, (xT_of (List.mem_append_right _ (List.mem_of_getElem? (i := 232) rfl)) rfl), (xT_of (List.mem_append_left _ (List.mem_of_getElem? (i := 11) rfl)) rfl), TX3, 10, rfl⟩
theorem lk_X3_105 : Cond.methodLink RX3 105 Lib.Math.max.name ∈ xT := (xT_of (List.mem_append_right _ (List.mem_of_getElem? (i := 238) rfl)) rfl)
set_option maxRecDepth 20000 in
theorem cv_X3_108 : x_CV RX3 108 kX3_countPinned 0 3 := ⟨Or.inl (xT_of (List.mem_append_right _ (List.mem_of_getElem? (i := 417) rfl)) rfl), ck_X3_countPinned, (xT_of (List.mem_append_right _ (List.mem_of_getElem? (i := 322) rfl)) rfl), (xT_of (List.mem_append_left _ (List.mem_of_getElem? (i := 25) rfl)) rfl), TX3, 10, rfl⟩
theorem cv_X3_118 : x_CV RX3 118 kX3_allowsSetting 2 3 := ⟨Or.inl (xT_of (List.mem_append_right _ (List.mem_of_getElem? (i := 286) rfl)) rfl), ck_X3_allowsSetting, (xT_of (List.mem_append_right _ (List.mem_of_getElem? (i := 288) rfl)) rfl), (xT_of (List.mem_append_left _ (List.mem_of_getElem? (i := 21) rfl)) rfl), TX3, 10, rfl⟩
theorem lk_X3_3 : Cond.methodLink RX3 3 Lib.objectInit ∈ xT := (xT_of (List.mem_append_right _ (List.mem_of_getElem? (i := 21) rfl)) rfl)
theorem cs_X3_45 : x_CS RX3 45 kX4_copyRow 2 := ⟨Or.inr ⟨"HeatShelves", List.mem_of_getElem? (i := 6) rfl⟩, ck_X4_copyRow, (xT_of (List.mem_append_right _ (List.mem_of_getElem? (i := 166) rfl)) rfl)⟩
theorem cs_X3_49 : x_CS RX3 49 kX4_at 2 := ⟨Or.inr ⟨"HeatShelves", List.mem_of_getElem? (i := 8) rfl⟩, ck_X4_at, (xT_of (List.mem_append_right _ (List.mem_of_getElem? (i := 191) rfl)) rfl)⟩
theorem cv_X3_53 : x_CV RX3 53 kX3_countBlocks 0 3 := ⟨Or.inl (xT_of (List.mem_append_right _ (List.mem_of_getElem? (i := 186) rfl)) rfl), ck_X3_countBlocks, (xT_of (List.mem_append_right _ (List.mem_of_getElem? (i := 188) rfl)) rfl), (xT_of (List.mem_append_left _ (List.mem_of_getElem? (i := 4) rfl)) rfl), TX3, 10, rfl⟩
set_option maxRecDepth 20000 in
theorem cv_X3_57 : x_CV RX3 57 kX3_countHotter 1 3 := ⟨Or.inl (xT_of (List.mem_append_right _ (List.mem_of_getElem? (i := 366) rfl)) rfl), ck_X3_countHotter, (xT_of (List.mem_append_right _ (List.mem_of_getElem? (i := 368) rfl)) rfl), (xT_of (List.mem_append_left _ (List.mem_of_getElem? (i := 30) rfl)) rfl), TX3, 10, rfl⟩
set_option maxRecDepth 20000 in
theorem cv_X3_61 : x_CV RX3 61 kX3_heatOnShelf 1 3 := ⟨Or.inl (xT_of (List.mem_append_right _ (List.mem_of_getElem? (i := 328) rfl)) rfl), ck_X3_heatOnShelf, (xT_of (List.mem_append_right _ (List.mem_of_getElem? (i := 313) rfl)) rfl), (xT_of (List.mem_append_left _ (List.mem_of_getElem? (i := 24) rfl)) rfl), TX3, 10, rfl⟩
theorem cv_X3_64 : x_CV RX3 64 kX3_fastestWithRoom 1 3 := ⟨Or.inl (xT_of (List.mem_append_right _ (List.mem_of_getElem? (i := 178) rfl)) rfl), ck_X3_fastestWithRoom, (xT_of (List.mem_append_right _ (List.mem_of_getElem? (i := 180) rfl)) rfl), (xT_of (List.mem_append_left _ (List.mem_of_getElem? (i := 2) rfl)) rfl), TX3, 10, rfl⟩
theorem cs_X3_67 : x_CS RX3 67 kX4_put 3 := ⟨Or.inr ⟨"HeatShelves", List.mem_of_getElem? (i := 9) rfl⟩, ck_X4_put, (xT_of (List.mem_append_right _ (List.mem_of_getElem? (i := 194) rfl)) rfl)⟩
theorem cs_X3_71 : x_CS RX3 71 kX4_raise 3 := ⟨Or.inr ⟨"HeatShelves", List.mem_of_getElem? (i := 10) rfl⟩, ck_X4_raise, (xT_of (List.mem_append_right _ (List.mem_of_getElem? (i := 197) rfl)) rfl)⟩
theorem cv_X3_74 : x_CV RX3 74 kX3_hasRoom 2 3 := ⟨Or.inl (xT_of (List.mem_append_right _ (List.mem_of_getElem? (i := 182) rfl)) rfl), ck_X3_hasRoom, (xT_of (List.mem_append_right _ (List.mem_of_getElem? (i := 184) rfl)) rfl), (xT_of (List.mem_append_left _ (List.mem_of_getElem? (i := 3) rfl)) rfl), TX3, 10, rfl⟩
set_option maxRecDepth 20000 in
theorem cv_X3_78 : x_CV RX3 78 kX3_find 1 3 := ⟨Or.inl (xT_of (List.mem_append_right _ (List.mem_of_getElem? (i := 404) rfl)) rfl), ck_X3_find, (xT_of (List.mem_append_right _ (List.mem_of_getElem? (i := 376) rfl)) rfl), (xT_of (List.mem_append_left _ (List.mem_of_getElem? (i := 31) rfl)) rfl), TX3, 10, rfl⟩
set_option maxRecDepth 20000 in
theorem cs_X3_81 : x_CS RX3 81 kX4_closeGap 2 := ⟨Or.inr ⟨"HeatShelves", List.mem_of_getElem? (i := 35) rfl⟩, ck_X4_closeGap, (xT_of (List.mem_append_right _ (List.mem_of_getElem? (i := 406) rfl)) rfl)⟩
set_option maxRecDepth 20000 in
theorem cv_X3_85 : x_CV RX3 85 kX3_readOnce 1 3 := ⟨Or.inl (xT_of (List.mem_append_right _ (List.mem_of_getElem? (i := 429) rfl)) rfl), ck_X3_readOnce, (xT_of (List.mem_append_right _ (List.mem_of_getElem? (i := 431) rfl)) rfl), (xT_of (List.mem_append_left _ (List.mem_of_getElem? (i := 36) rfl)) rfl), TX3, 10, rfl⟩
set_option maxRecDepth 20000 in
theorem lk_X3_89 : Cond.methodLink RX3 89 Lib.Math.min.name ∈ xT := (xT_of (List.mem_append_right _ (List.mem_of_getElem? (i := 434) rfl)) rfl)
set_option maxRecDepth 20000 in
theorem cv_X3_95 : x_CV RX3 95 kX3_askBack 1 3 := ⟨Or.inl (xT_of (List.mem_append_right _ (List.mem_of_getElem? (i := 435) rfl)) rfl), ck_X3_askBack, (xT_of (List.mem_append_right _ (List.mem_of_getElem? (i := 437) rfl)) rfl), (xT_of (List.mem_append_left _ (List.mem_of_getElem? (i := 37) rfl)) rfl), TX3, 10, rfl⟩
set_option maxRecDepth 20000 in
theorem cv_X3_98 : x_CV RX3 98 kX3_moveTo 2 3 := ⟨Or.inl (xT_of (List.mem_append_right _ (List.mem_of_getElem? (i := 439) rfl)) rfl), ck_X3_moveTo, (xT_of (List.mem_append_right _ (List.mem_of_getElem? (i := 269) rfl)) rfl), (xT_of (List.mem_append_left _ (List.mem_of_getElem? (i := 18) rfl)) rfl), TX3, 10, rfl⟩
theorem lk_X4_1 : Cond.methodLink RX4 1 Lib.objectInit ∈ xT := (xT_of (List.mem_append_right _ (List.mem_of_getElem? (i := 13) rfl)) rfl)
set_option maxRecDepth 20000 in
theorem cv_X4_101 : x_CV RX4 101 kX3_placeOfRank 1 3 := ⟨Or.inr ⟨"HeatShelves", List.mem_of_getElem? (i := 31) rfl⟩, ck_X3_placeOfRank, (xT_of (List.mem_append_right _ (List.mem_of_getElem? (i := 364) rfl)) rfl), (xT_of (List.mem_append_left _ (List.mem_of_getElem? (i := 29) rfl)) rfl), TX3, 10, rfl⟩
theorem cs_X4_108 : x_CS RX4 108 kX4_at 2 := ⟨Or.inl (xT_of (List.mem_append_right _ (List.mem_of_getElem? (i := 220) rfl)) rfl), ck_X4_at, (xT_of (List.mem_append_right _ (List.mem_of_getElem? (i := 191) rfl)) rfl)⟩
set_option maxRecDepth 20000 in
theorem cv_X4_112 : x_CV RX4 112 kX3_find 1 3 := ⟨Or.inr ⟨"HeatShelves", List.mem_of_getElem? (i := 32) rfl⟩, ck_X3_find, (xT_of (List.mem_append_right _ (List.mem_of_getElem? (i := 376) rfl)) rfl), (xT_of (List.mem_append_left _ (List.mem_of_getElem? (i := 31) rfl)) rfl), TX3, 10, rfl⟩
theorem cv_X4_124 : x_CV RX4 124 kX3_wantedShelf 1 3 := ⟨Or.inr ⟨"HeatShelves", List.mem_of_getElem? (i := 33) rfl⟩, ck_X3_wantedShelf, (xT_of (List.mem_append_right _ (List.mem_of_getElem? (i := 248) rfl)) rfl), (xT_of (List.mem_append_left _ (List.mem_of_getElem? (i := 14) rfl)) rfl), TX3, 10, rfl⟩
set_option maxRecDepth 20000 in
theorem cv_X4_139 : x_CV RX4 139 kX4_whyItStays 1 4 := ⟨Or.inl (xT_of (List.mem_append_right _ (List.mem_of_getElem? (i := 379) rfl)) rfl), ck_X4_whyItStays, (xT_of (List.mem_append_right _ (List.mem_of_getElem? (i := 381) rfl)) rfl), (xT_of (List.mem_append_left _ (List.mem_of_getElem? (i := 32) rfl)) rfl), TX4, 7, rfl⟩
set_option maxRecDepth 20000 in
theorem cv_X4_148 : x_CV RX4 148 kX3_countOnShelf 1 3 := ⟨Or.inr ⟨"HeatShelves", List.mem_of_getElem? (i := 26) rfl⟩, ck_X3_countOnShelf, (xT_of (List.mem_append_right _ (List.mem_of_getElem? (i := 309) rfl)) rfl), (xT_of (List.mem_append_left _ (List.mem_of_getElem? (i := 23) rfl)) rfl), TX3, 10, rfl⟩
set_option maxRecDepth 20000 in
theorem cv_X4_151 : x_CV RX4 151 kX3_heatOnShelf 1 3 := ⟨Or.inr ⟨"HeatShelves", List.mem_of_getElem? (i := 27) rfl⟩, ck_X3_heatOnShelf, (xT_of (List.mem_append_right _ (List.mem_of_getElem? (i := 313) rfl)) rfl), (xT_of (List.mem_append_left _ (List.mem_of_getElem? (i := 24) rfl)) rfl), TX3, 10, rfl⟩
theorem cv_X4_154 : x_CV RX4 154 kX3_nightPriceOfShelf 1 3 := ⟨Or.inr ⟨"HeatShelves", List.mem_of_getElem? (i := 28) rfl⟩, ck_X3_nightPriceOfShelf, (xT_of (List.mem_append_right _ (List.mem_of_getElem? (i := 232) rfl)) rfl), (xT_of (List.mem_append_left _ (List.mem_of_getElem? (i := 11) rfl)) rfl), TX3, 10, rfl⟩
set_option maxRecDepth 20000 in
theorem cv_X4_157 : x_CV RX4 157 kX3_countPinned 0 3 := ⟨Or.inr ⟨"HeatShelves", List.mem_of_getElem? (i := 29) rfl⟩, ck_X3_countPinned, (xT_of (List.mem_append_right _ (List.mem_of_getElem? (i := 322) rfl)) rfl), (xT_of (List.mem_append_left _ (List.mem_of_getElem? (i := 25) rfl)) rfl), TX3, 10, rfl⟩
set_option maxRecDepth 20000 in
theorem cv_X4_160 : x_CV RX4 160 kX3_heatOfAll 0 3 := ⟨Or.inr ⟨"HeatShelves", List.mem_of_getElem? (i := 30) rfl⟩, ck_X3_heatOfAll, (xT_of (List.mem_append_right _ (List.mem_of_getElem? (i := 326) rfl)) rfl), (xT_of (List.mem_append_left _ (List.mem_of_getElem? (i := 26) rfl)) rfl), TX3, 10, rfl⟩
theorem cv_X4_166 : x_CV RX4 166 kX1_letPass 2 1 := ⟨Or.inr ⟨"HeatShelves", List.mem_of_getElem? (i := 13) rfl⟩, ck_X1_letPass, (xT_of (List.mem_append_right _ (List.mem_of_getElem? (i := 223) rfl)) rfl), (xT_of (List.mem_append_left _ (List.mem_of_getElem? (i := 9) rfl)) rfl), TX1, 2, rfl⟩
set_option maxRecDepth 20000 in
theorem cv_X4_170 : x_CV RX4 170 kX4_paidForNightsInWork 0 4 := ⟨Or.inl (xT_of (List.mem_append_right _ (List.mem_of_getElem? (i := 343) rfl)) rfl), ck_X4_paidForNightsInWork, (xT_of (List.mem_append_right _ (List.mem_of_getElem? (i := 345) rfl)) rfl), (xT_of (List.mem_append_left _ (List.mem_of_getElem? (i := 28) rfl)) rfl), TX4, 7, rfl⟩
set_option maxRecDepth 20000 in
theorem cv_X4_176 : x_CV RX4 176 kX4_paidWithHot 2 4 := ⟨Or.inl (xT_of (List.mem_append_right _ (List.mem_of_getElem? (i := 338) rfl)) rfl), ck_X4_paidWithHot, (xT_of (List.mem_append_right _ (List.mem_of_getElem? (i := 340) rfl)) rfl), (xT_of (List.mem_append_left _ (List.mem_of_getElem? (i := 27) rfl)) rfl), TX4, 7, rfl⟩
theorem cv_X4_183 : x_CV RX4 183 kX0_record 1 0 := ⟨Or.inr ⟨"HeatShelves", List.mem_of_getElem? (i := 11) rfl⟩, ck_X0_record, (xT_of (List.mem_append_right _ (List.mem_of_getElem? (i := 205) rfl)) rfl), (xT_of (List.mem_append_left _ (List.mem_of_getElem? (i := 6) rfl)) rfl), TX0, 3, rfl⟩
set_option maxRecDepth 20000 in
theorem cs_X4_201 : x_CS RX4 201 kX4_put 3 := ⟨Or.inl (xT_of (List.mem_append_right _ (List.mem_of_getElem? (i := 342) rfl)) rfl), ck_X4_put, (xT_of (List.mem_append_right _ (List.mem_of_getElem? (i := 194) rfl)) rfl)⟩
theorem lk_X4_205 : Cond.methodLink RX4 205 Lib.Math.min.name ∈ xT := (xT_of (List.mem_append_right _ (List.mem_of_getElem? (i := 168) rfl)) rfl)
theorem lk_X4_210 : Cond.methodLink RX4 210 arraycopyName ∈ xT := (xT_of (List.mem_append_right _ (List.mem_of_getElem? (i := 171) rfl)) rfl)
set_option maxRecDepth 20000 in
theorem lk_X4_216 : Cond.methodLink RX4 216 Lib.Math.max.name ∈ xT := (xT_of (List.mem_append_right _ (List.mem_of_getElem? (i := 408) rfl)) rfl)
theorem cc_X4_28 : x_CC RX4 28 kX0_init 0 := ⟨Or.inr ⟨"HeatShelves", List.mem_of_getElem? (i := 1) rfl⟩, ck_X0_init, (xT_of (List.mem_append_right _ (List.mem_of_getElem? (i := 75) rfl)) rfl), rfl, rfl⟩
theorem cc_X4_35 : x_CC RX4 35 kX1_init 0 := ⟨Or.inr ⟨"HeatShelves", List.mem_of_getElem? (i := 3) rfl⟩, ck_X1_init, (xT_of (List.mem_append_right _ (List.mem_of_getElem? (i := 95) rfl)) rfl), rfl, rfl⟩
theorem cc_X4_42 : x_CC RX4 42 kX2_init 0 := ⟨Or.inr ⟨"HeatShelves", List.mem_of_getElem? (i := 4) rfl⟩, ck_X2_init, (xT_of (List.mem_append_right _ (List.mem_of_getElem? (i := 109) rfl)) rfl), rfl, rfl⟩
theorem cv_X4_47 : x_CV RX4 47 kX3_copyFrom 1 3 := ⟨Or.inr ⟨"HeatShelves", List.mem_of_getElem? (i := 5) rfl⟩, ck_X3_copyFrom, (xT_of (List.mem_append_right _ (List.mem_of_getElem? (i := 163) rfl)) rfl), (xT_of (List.mem_append_left _ (List.mem_of_getElem? (i := 0) rfl)) rfl), TX3, 10, rfl⟩
theorem cv_X4_51 : x_CV RX4 51 kX3_addBlock 1 3 := ⟨Or.inr ⟨"HeatShelves", List.mem_of_getElem? (i := 7) rfl⟩, ck_X3_addBlock, (xT_of (List.mem_append_right _ (List.mem_of_getElem? (i := 176) rfl)) rfl), (xT_of (List.mem_append_left _ (List.mem_of_getElem? (i := 1) rfl)) rfl), TX3, 10, rfl⟩
theorem cv_X4_55 : x_CV RX4 55 kX4_settle 1 4 := ⟨Or.inl (xT_of (List.mem_append_right _ (List.mem_of_getElem? (i := 199) rfl)) rfl), ck_X4_settle, (xT_of (List.mem_append_right _ (List.mem_of_getElem? (i := 201) rfl)) rfl), (xT_of (List.mem_append_left _ (List.mem_of_getElem? (i := 5) rfl)) rfl), TX4, 7, rfl⟩
set_option maxRecDepth 20000 in
theorem cv_X4_58 : x_CV RX4 58 kX3_dropBlock 1 3 := ⟨Or.inr ⟨"HeatShelves", List.mem_of_getElem? (i := 34) rfl⟩, ck_X3_dropBlock, (xT_of (List.mem_append_right _ (List.mem_of_getElem? (i := 402) rfl)) rfl), (xT_of (List.mem_append_left _ (List.mem_of_getElem? (i := 33) rfl)) rfl), TX3, 10, rfl⟩
set_option maxRecDepth 20000 in
theorem cv_X4_61 : x_CV RX4 61 kX3_readBlock 2 3 := ⟨Or.inr ⟨"HeatShelves", List.mem_of_getElem? (i := 37) rfl⟩, ck_X3_readBlock, (xT_of (List.mem_append_right _ (List.mem_of_getElem? (i := 427) rfl)) rfl), (xT_of (List.mem_append_left _ (List.mem_of_getElem? (i := 35) rfl)) rfl), TX3, 10, rfl⟩
set_option maxRecDepth 20000 in
theorem cv_X4_65 : x_CV RX4 65 kX3_turnPin 2 3 := ⟨Or.inr ⟨"HeatShelves", List.mem_of_getElem? (i := 36) rfl⟩, ck_X3_turnPin, (xT_of (List.mem_append_right _ (List.mem_of_getElem? (i := 415) rfl)) rfl), (xT_of (List.mem_append_left _ (List.mem_of_getElem? (i := 34) rfl)) rfl), TX3, 10, rfl⟩
theorem cv_X4_69 : x_CV RX4 69 kX4_passInWork 1 4 := ⟨Or.inl (xT_of (List.mem_append_right _ (List.mem_of_getElem? (i := 216) rfl)) rfl), ck_X4_passInWork, (xT_of (List.mem_append_right _ (List.mem_of_getElem? (i := 218) rfl)) rfl), (xT_of (List.mem_append_left _ (List.mem_of_getElem? (i := 8) rfl)) rfl), TX4, 7, rfl⟩
theorem cv_X4_72 : x_CV RX4 72 kX3_changeSetting 2 3 := ⟨Or.inr ⟨"HeatShelves", List.mem_of_getElem? (i := 23) rfl⟩, ck_X3_changeSetting, (xT_of (List.mem_append_right _ (List.mem_of_getElem? (i := 282) rfl)) rfl), (xT_of (List.mem_append_left _ (List.mem_of_getElem? (i := 20) rfl)) rfl), TX3, 10, rfl⟩
theorem cc_X4_9 : x_CC RX4 9 kX3_init 0 := ⟨Or.inr ⟨"HeatShelves", List.mem_of_getElem? (i := 0) rfl⟩, ck_X3_init, (xT_of (List.mem_append_right _ (List.mem_of_getElem? (i := 19) rfl)) rfl), rfl, rfl⟩
theorem cv_X4_93 : x_CV RX4 93 kX0_takeLatest 1 0 := ⟨Or.inr ⟨"HeatShelves", List.mem_of_getElem? (i := 24) rfl⟩, ck_X0_takeLatest, (xT_of (List.mem_append_right _ (List.mem_of_getElem? (i := 296) rfl)) rfl), (xT_of (List.mem_append_left _ (List.mem_of_getElem? (i := 22) rfl)) rfl), TX0, 3, rfl⟩
theorem cv_X4_98 : x_CV RX4 98 kX3_countBlocks 0 3 := ⟨Or.inr ⟨"HeatShelves", List.mem_of_getElem? (i := 25) rfl⟩, ck_X3_countBlocks, (xT_of (List.mem_append_right _ (List.mem_of_getElem? (i := 188) rfl)) rfl), (xT_of (List.mem_append_left _ (List.mem_of_getElem? (i := 4) rfl)) rfl), TX3, 10, rfl⟩
set_option maxRecDepth 20000 in
theorem lw_L_7 : Cond.constant RL 7 (2147483647 : Int32) ∈ xT := (xT_of (List.mem_append_right _ (List.mem_of_getElem? (i := 353) rfl)) rfl)
set_option maxRecDepth 20000 in
theorem lw_L_14 : Cond.constant RL 14 (100000 : Int32) ∈ xT := (xT_of (List.mem_append_right _ (List.mem_of_getElem? (i := 357) rfl)) rfl)
set_option maxRecDepth 20000 in
theorem lw_X3_88 : Cond.constant RX3 88 (99999 : Int32) ∈ xT := (xT_of (List.mem_append_right _ (List.mem_of_getElem? (i := 433) rfl)) rfl)
set_option maxRecDepth 20000 in
theorem lw_L_38 : Cond.constant RL 38 (99999 : Int32) ∈ xT := (xT_of (List.mem_append_right _ (List.mem_of_getElem? (i := 440) rfl)) rfl)
theorem gf_X4_10 : x_GF RX4 10 4 0 := ⟨RX4, TX4, 7, rfl, rfl, by decide, inX4, Or.inl (xT_of (List.mem_append_right _ (List.mem_of_getElem? (i := 135) rfl)) rfl)⟩
theorem pf_X4_10 : x_PF RX4 10 4 0 (.object "HeatShelves$State") true := ⟨RX4, TX4, 7, tyX4, rfl, rfl, by decide, inX4, (xT_of (List.mem_append_right _ (List.mem_of_getElem? (i := 135) rfl)) rfl), tyX4_ok, nmX4, rfl, rfl, rfl⟩
theorem gf_X4_16 : x_GF RX4 16 4 1 := ⟨RX4, TX4, 7, rfl, rfl, by decide, inX4, Or.inl (xT_of (List.mem_append_right _ (List.mem_of_getElem? (i := 136) rfl)) rfl)⟩
theorem pf_X4_16 : x_PF RX4 16 4 1 (.object "HeatShelves$State") true := ⟨RX4, TX4, 7, tyX4, rfl, rfl, by decide, inX4, (xT_of (List.mem_append_right _ (List.mem_of_getElem? (i := 136) rfl)) rfl), tyX4_ok, nmX4, rfl, rfl, rfl⟩
theorem gf_X4_19 : x_GF RX4 19 4 2 := ⟨RX4, TX4, 7, rfl, rfl, by decide, inX4, Or.inl (xT_of (List.mem_append_right _ (List.mem_of_getElem? (i := 137) rfl)) rfl)⟩
theorem pf_X4_19 : x_PF RX4 19 4 2 (.object "HeatShelves$State") true := ⟨RX4, TX4, 7, tyX4, rfl, rfl, by decide, inX4, (xT_of (List.mem_append_right _ (List.mem_of_getElem? (i := 137) rfl)) rfl), tyX4_ok, nmX4, rfl, rfl, rfl⟩
theorem gf_X4_22 : x_GF RX4 22 4 3 := ⟨RX4, TX4, 7, rfl, rfl, by decide, inX4, Or.inl (xT_of (List.mem_append_right _ (List.mem_of_getElem? (i := 138) rfl)) rfl)⟩
theorem pf_X4_22 : x_PF RX4 22 4 3 .boolean false := ⟨RX4, TX4, 7, tyX4, rfl, rfl, by decide, inX4, (xT_of (List.mem_append_right _ (List.mem_of_getElem? (i := 138) rfl)) rfl), tyX4_ok, nmX4, rfl, rfl, rfl⟩
theorem gf_X4_29 : x_GF RX4 29 4 4 := ⟨RX4, TX4, 7, rfl, rfl, by decide, inX4, Or.inl (xT_of (List.mem_append_right _ (List.mem_of_getElem? (i := 139) rfl)) rfl)⟩
theorem pf_X4_29 : x_PF RX4 29 4 4 (.object "HeatShelves$History") true := ⟨RX4, TX4, 7, tyX4, rfl, rfl, by decide, inX4, (xT_of (List.mem_append_right _ (List.mem_of_getElem? (i := 139) rfl)) rfl), tyX4_ok, nmX4, rfl, rfl, rfl⟩
theorem gf_X4_36 : x_GF RX4 36 4 5 := ⟨RX4, TX4, 7, rfl, rfl, by decide, inX4, Or.inl (xT_of (List.mem_append_right _ (List.mem_of_getElem? (i := 140) rfl)) rfl)⟩
theorem pf_X4_36 : x_PF RX4 36 4 5 (.object "HeatShelves$Night") true := ⟨RX4, TX4, 7, tyX4, rfl, rfl, by decide, inX4, (xT_of (List.mem_append_right _ (List.mem_of_getElem? (i := 140) rfl)) rfl), tyX4_ok, nmX4, rfl, rfl, rfl⟩
theorem gf_X4_43 : x_GF RX4 43 4 6 := ⟨RX4, TX4, 7, rfl, rfl, by decide, inX4, Or.inl (xT_of (List.mem_append_right _ (List.mem_of_getElem? (i := 141) rfl)) rfl)⟩
theorem pf_X4_43 : x_PF RX4 43 4 6 (.object "HeatShelves$Orders") true := ⟨RX4, TX4, 7, tyX4, rfl, rfl, by decide, inX4, (xT_of (List.mem_append_right _ (List.mem_of_getElem? (i := 141) rfl)) rfl), tyX4_ok, nmX4, rfl, rfl, rfl⟩
theorem gf_X4_97 : x_GF RX4 97 0 2 := ⟨RX0, TX0, 3, rfl, rfl, by decide, inX0, Or.inr ⟨"HeatShelves", List.mem_of_getElem? (i := 17) rfl⟩⟩
theorem gf_X4_104 : x_GF RX4 104 3 2 := ⟨RX3, TX3, 10, rfl, rfl, by decide, inX3, Or.inr ⟨"HeatShelves", List.mem_of_getElem? (i := 4) rfl⟩⟩
theorem gf_X4_115 : x_GF RX4 115 3 3 := ⟨RX3, TX3, 10, rfl, rfl, by decide, inX3, Or.inr ⟨"HeatShelves", List.mem_of_getElem? (i := 6) rfl⟩⟩
theorem gf_X4_118 : x_GF RX4 118 3 4 := ⟨RX3, TX3, 10, rfl, rfl, by decide, inX3, Or.inr ⟨"HeatShelves", List.mem_of_getElem? (i := 8) rfl⟩⟩
theorem gf_X4_121 : x_GF RX4 121 3 5 := ⟨RX3, TX3, 10, rfl, rfl, by decide, inX3, Or.inr ⟨"HeatShelves", List.mem_of_getElem? (i := 10) rfl⟩⟩
theorem gf_X4_127 : x_GF RX4 127 3 6 := ⟨RX3, TX3, 10, rfl, rfl, by decide, inX3, Or.inr ⟨"HeatShelves", List.mem_of_getElem? (i := 12) rfl⟩⟩
theorem gf_X4_130 : x_GF RX4 130 3 7 := ⟨RX3, TX3, 10, rfl, rfl, by decide, inX3, Or.inr ⟨"HeatShelves", List.mem_of_getElem? (i := 14) rfl⟩⟩
theorem gf_X4_133 : x_GF RX4 133 3 8 := ⟨RX3, TX3, 10, rfl, rfl, by decide, inX3, Or.inr ⟨"HeatShelves", List.mem_of_getElem? (i := 15) rfl⟩⟩
theorem gf_X4_136 : x_GF RX4 136 3 9 := ⟨RX3, TX3, 10, rfl, rfl, by decide, inX3, Or.inr ⟨"HeatShelves", List.mem_of_getElem? (i := 16) rfl⟩⟩
theorem gf_X4_142 : x_GF RX4 142 3 0 := ⟨RX3, TX3, 10, rfl, rfl, by decide, inX3, Or.inr ⟨"HeatShelves", List.mem_of_getElem? (i := 2) rfl⟩⟩
theorem gf_X4_145 : x_GF RX4 145 3 1 := ⟨RX3, TX3, 10, rfl, rfl, by decide, inX3, Or.inr ⟨"HeatShelves", List.mem_of_getElem? (i := 3) rfl⟩⟩
theorem gf_X4_163 : x_GF RX4 163 2 1 := ⟨RX2, TX2, 7, rfl, rfl, by decide, inX2, Or.inr ⟨"HeatShelves", List.mem_of_getElem? (i := 19) rfl⟩⟩
set_option maxRecDepth 20000 in
theorem gs_X4_173 : x_GS RX4 173 "GREATEST_VALUES" := Or.inl (xT_of (List.mem_append_right _ (List.mem_of_getElem? (i := 337) rfl)) rfl)
theorem gf_X4_198 : x_GF RX4 198 1 1 := ⟨RX1, TX1, 2, rfl, rfl, by decide, inX1, Or.inr ⟨"HeatShelves", List.mem_of_getElem? (i := 18) rfl⟩⟩
theorem gf_X0_11 : x_GF RX0 11 0 0 := ⟨RX0, TX0, 3, rfl, rfl, by decide, inX0, Or.inl (xT_of (List.mem_append_right _ (List.mem_of_getElem? (i := 81) rfl)) rfl)⟩
theorem pf_X0_11 : x_PF RX0 11 0 0 (.array (.object "HeatShelves$State")) true := ⟨RX0, TX0, 3, tyX0, rfl, rfl, by decide, inX0, (xT_of (List.mem_append_right _ (List.mem_of_getElem? (i := 81) rfl)) rfl), tyX0_ok, nmX0, rfl, rfl, rfl⟩
theorem gf_X0_17 : x_GF RX0 17 0 1 := ⟨RX0, TX0, 3, rfl, rfl, by decide, inX0, Or.inl (xT_of (List.mem_append_right _ (List.mem_of_getElem? (i := 82) rfl)) rfl)⟩
theorem pf_X0_17 : x_PF RX0 17 0 1 .int false := ⟨RX0, TX0, 3, tyX0, rfl, rfl, by decide, inX0, (xT_of (List.mem_append_right _ (List.mem_of_getElem? (i := 82) rfl)) rfl), tyX0_ok, nmX0, rfl, rfl, rfl⟩
theorem gf_X0_21 : x_GF RX0 21 0 2 := ⟨RX0, TX0, 3, rfl, rfl, by decide, inX0, Or.inl (xT_of (List.mem_append_right _ (List.mem_of_getElem? (i := 83) rfl)) rfl)⟩
theorem pf_X0_21 : x_PF RX0 21 0 2 .int false := ⟨RX0, TX0, 3, tyX0, rfl, rfl, by decide, inX0, (xT_of (List.mem_append_right _ (List.mem_of_getElem? (i := 83) rfl)) rfl), tyX0_ok, nmX0, rfl, rfl, rfl⟩
theorem gf_X1_9 : x_GF RX1 9 1 0 := ⟨RX1, TX1, 2, rfl, rfl, by decide, inX1, Or.inl (xT_of (List.mem_append_right _ (List.mem_of_getElem? (i := 98) rfl)) rfl)⟩
theorem pf_X1_9 : x_PF RX1 9 1 0 (.array .int) true := ⟨RX1, TX1, 2, tyX1, rfl, rfl, by decide, inX1, (xT_of (List.mem_append_right _ (List.mem_of_getElem? (i := 98) rfl)) rfl), tyX1_ok, nmX1, rfl, rfl, rfl⟩
theorem gf_X1_15 : x_GF RX1 15 1 1 := ⟨RX1, TX1, 2, rfl, rfl, by decide, inX1, Or.inl (xT_of (List.mem_append_right _ (List.mem_of_getElem? (i := 99) rfl)) rfl)⟩
theorem pf_X1_15 : x_PF RX1 15 1 1 (.array .int) true := ⟨RX1, TX1, 2, tyX1, rfl, rfl, by decide, inX1, (xT_of (List.mem_append_right _ (List.mem_of_getElem? (i := 99) rfl)) rfl), tyX1_ok, nmX1, rfl, rfl, rfl⟩
theorem gf_X1_18 : x_GF RX1 18 3 0 := ⟨RX3, TX3, 10, rfl, rfl, by decide, inX3, Or.inr ⟨"HeatShelves", List.mem_of_getElem? (i := 1) rfl⟩⟩
theorem gf_X1_56 : x_GF RX1 56 3 6 := ⟨RX3, TX3, 10, rfl, rfl, by decide, inX3, Or.inr ⟨"HeatShelves", List.mem_of_getElem? (i := 11) rfl⟩⟩
theorem gf_X1_59 : x_GF RX1 59 3 7 := ⟨RX3, TX3, 10, rfl, rfl, by decide, inX3, Or.inr ⟨"HeatShelves", List.mem_of_getElem? (i := 13) rfl⟩⟩
theorem gf_X1_62 : x_GF RX1 62 3 5 := ⟨RX3, TX3, 10, rfl, rfl, by decide, inX3, Or.inr ⟨"HeatShelves", List.mem_of_getElem? (i := 9) rfl⟩⟩
theorem gf_X1_81 : x_GF RX1 81 3 4 := ⟨RX3, TX3, 10, rfl, rfl, by decide, inX3, Or.inr ⟨"HeatShelves", List.mem_of_getElem? (i := 7) rfl⟩⟩
theorem gf_X1_84 : x_GF RX1 84 3 3 := ⟨RX3, TX3, 10, rfl, rfl, by decide, inX3, Or.inr ⟨"HeatShelves", List.mem_of_getElem? (i := 5) rfl⟩⟩
theorem gf_X2_9 : x_GF RX2 9 2 0 := ⟨RX2, TX2, 7, rfl, rfl, by decide, inX2, Or.inl (xT_of (List.mem_append_right _ (List.mem_of_getElem? (i := 112) rfl)) rfl)⟩
theorem pf_X2_9 : x_PF RX2 9 2 0 (.array .int) true := ⟨RX2, TX2, 7, tyX2, rfl, rfl, by decide, inX2, (xT_of (List.mem_append_right _ (List.mem_of_getElem? (i := 112) rfl)) rfl), tyX2_ok, nmX2, rfl, rfl, rfl⟩
theorem gf_X2_15 : x_GF RX2 15 2 1 := ⟨RX2, TX2, 7, rfl, rfl, by decide, inX2, Or.inl (xT_of (List.mem_append_right _ (List.mem_of_getElem? (i := 113) rfl)) rfl)⟩
theorem pf_X2_15 : x_PF RX2 15 2 1 .int false := ⟨RX2, TX2, 7, tyX2, rfl, rfl, by decide, inX2, (xT_of (List.mem_append_right _ (List.mem_of_getElem? (i := 113) rfl)) rfl), tyX2_ok, nmX2, rfl, rfl, rfl⟩
theorem gf_X2_19 : x_GF RX2 19 2 2 := ⟨RX2, TX2, 7, rfl, rfl, by decide, inX2, Or.inl (xT_of (List.mem_append_right _ (List.mem_of_getElem? (i := 115) rfl)) rfl)⟩
theorem pf_X2_19 : x_PF RX2 19 2 2 (.array .int) true := ⟨RX2, TX2, 7, tyX2, rfl, rfl, by decide, inX2, (xT_of (List.mem_append_right _ (List.mem_of_getElem? (i := 115) rfl)) rfl), tyX2_ok, nmX2, rfl, rfl, rfl⟩
theorem gf_X2_22 : x_GF RX2 22 2 3 := ⟨RX2, TX2, 7, rfl, rfl, by decide, inX2, Or.inl (xT_of (List.mem_append_right _ (List.mem_of_getElem? (i := 116) rfl)) rfl)⟩
theorem pf_X2_22 : x_PF RX2 22 2 3 (.array .int) true := ⟨RX2, TX2, 7, tyX2, rfl, rfl, by decide, inX2, (xT_of (List.mem_append_right _ (List.mem_of_getElem? (i := 116) rfl)) rfl), tyX2_ok, nmX2, rfl, rfl, rfl⟩
theorem gf_X2_25 : x_GF RX2 25 2 4 := ⟨RX2, TX2, 7, rfl, rfl, by decide, inX2, Or.inl (xT_of (List.mem_append_right _ (List.mem_of_getElem? (i := 117) rfl)) rfl)⟩
theorem pf_X2_25 : x_PF RX2 25 2 4 (.array .int) true := ⟨RX2, TX2, 7, tyX2, rfl, rfl, by decide, inX2, (xT_of (List.mem_append_right _ (List.mem_of_getElem? (i := 117) rfl)) rfl), tyX2_ok, nmX2, rfl, rfl, rfl⟩
theorem gf_X2_28 : x_GF RX2 28 2 5 := ⟨RX2, TX2, 7, rfl, rfl, by decide, inX2, Or.inl (xT_of (List.mem_append_right _ (List.mem_of_getElem? (i := 118) rfl)) rfl)⟩
theorem pf_X2_28 : x_PF RX2 28 2 5 .int false := ⟨RX2, TX2, 7, tyX2, rfl, rfl, by decide, inX2, (xT_of (List.mem_append_right _ (List.mem_of_getElem? (i := 118) rfl)) rfl), tyX2_ok, nmX2, rfl, rfl, rfl⟩
theorem gf_X2_31 : x_GF RX2 31 2 6 := ⟨RX2, TX2, 7, rfl, rfl, by decide, inX2, Or.inl (xT_of (List.mem_append_right _ (List.mem_of_getElem? (i := 119) rfl)) rfl)⟩
theorem pf_X2_31 : x_PF RX2 31 2 6 .int false := ⟨RX2, TX2, 7, tyX2, rfl, rfl, by decide, inX2, (xT_of (List.mem_append_right _ (List.mem_of_getElem? (i := 119) rfl)) rfl), tyX2_ok, nmX2, rfl, rfl, rfl⟩
theorem gf_X3_9 : x_GF RX3 9 3 0 := ⟨RX3, TX3, 10, rfl, rfl, by decide, inX3, Or.inl (xT_of (List.mem_append_right _ (List.mem_of_getElem? (i := 24) rfl)) rfl)⟩
theorem pf_X3_9 : x_PF RX3 9 3 0 (.array .int) true := ⟨RX3, TX3, 10, tyX3, rfl, rfl, by decide, inX3, (xT_of (List.mem_append_right _ (List.mem_of_getElem? (i := 24) rfl)) rfl), tyX3_ok, nmX3, rfl, rfl, rfl⟩
theorem gf_X3_15 : x_GF RX3 15 3 1 := ⟨RX3, TX3, 10, rfl, rfl, by decide, inX3, Or.inl (xT_of (List.mem_append_right _ (List.mem_of_getElem? (i := 27) rfl)) rfl)⟩
theorem pf_X3_15 : x_PF RX3 15 3 1 (.array .int) true := ⟨RX3, TX3, 10, tyX3, rfl, rfl, by decide, inX3, (xT_of (List.mem_append_right _ (List.mem_of_getElem? (i := 27) rfl)) rfl), tyX3_ok, nmX3, rfl, rfl, rfl⟩
theorem gf_X3_18 : x_GF RX3 18 3 2 := ⟨RX3, TX3, 10, rfl, rfl, by decide, inX3, Or.inl (xT_of (List.mem_append_right _ (List.mem_of_getElem? (i := 29) rfl)) rfl)⟩
theorem pf_X3_18 : x_PF RX3 18 3 2 (.array .int) true := ⟨RX3, TX3, 10, tyX3, rfl, rfl, by decide, inX3, (xT_of (List.mem_append_right _ (List.mem_of_getElem? (i := 29) rfl)) rfl), tyX3_ok, nmX3, rfl, rfl, rfl⟩
theorem gf_X3_21 : x_GF RX3 21 3 3 := ⟨RX3, TX3, 10, rfl, rfl, by decide, inX3, Or.inl (xT_of (List.mem_append_right _ (List.mem_of_getElem? (i := 31) rfl)) rfl)⟩
theorem pf_X3_21 : x_PF RX3 21 3 3 (.array .int) true := ⟨RX3, TX3, 10, tyX3, rfl, rfl, by decide, inX3, (xT_of (List.mem_append_right _ (List.mem_of_getElem? (i := 31) rfl)) rfl), tyX3_ok, nmX3, rfl, rfl, rfl⟩
theorem gf_X3_24 : x_GF RX3 24 3 4 := ⟨RX3, TX3, 10, rfl, rfl, by decide, inX3, Or.inl (xT_of (List.mem_append_right _ (List.mem_of_getElem? (i := 34) rfl)) rfl)⟩
theorem pf_X3_24 : x_PF RX3 24 3 4 (.array .int) true := ⟨RX3, TX3, 10, tyX3, rfl, rfl, by decide, inX3, (xT_of (List.mem_append_right _ (List.mem_of_getElem? (i := 34) rfl)) rfl), tyX3_ok, nmX3, rfl, rfl, rfl⟩
theorem gf_X3_27 : x_GF RX3 27 3 5 := ⟨RX3, TX3, 10, rfl, rfl, by decide, inX3, Or.inl (xT_of (List.mem_append_right _ (List.mem_of_getElem? (i := 37) rfl)) rfl)⟩
theorem pf_X3_27 : x_PF RX3 27 3 5 (.array .int) true := ⟨RX3, TX3, 10, tyX3, rfl, rfl, by decide, inX3, (xT_of (List.mem_append_right _ (List.mem_of_getElem? (i := 37) rfl)) rfl), tyX3_ok, nmX3, rfl, rfl, rfl⟩
theorem gf_X3_30 : x_GF RX3 30 3 6 := ⟨RX3, TX3, 10, rfl, rfl, by decide, inX3, Or.inl (xT_of (List.mem_append_right _ (List.mem_of_getElem? (i := 40) rfl)) rfl)⟩
theorem pf_X3_30 : x_PF RX3 30 3 6 (.array .int) true := ⟨RX3, TX3, 10, tyX3, rfl, rfl, by decide, inX3, (xT_of (List.mem_append_right _ (List.mem_of_getElem? (i := 40) rfl)) rfl), tyX3_ok, nmX3, rfl, rfl, rfl⟩
theorem gf_X3_33 : x_GF RX3 33 3 7 := ⟨RX3, TX3, 10, rfl, rfl, by decide, inX3, Or.inl (xT_of (List.mem_append_right _ (List.mem_of_getElem? (i := 43) rfl)) rfl)⟩
theorem pf_X3_33 : x_PF RX3 33 3 7 (.array .int) true := ⟨RX3, TX3, 10, tyX3, rfl, rfl, by decide, inX3, (xT_of (List.mem_append_right _ (List.mem_of_getElem? (i := 43) rfl)) rfl), tyX3_ok, nmX3, rfl, rfl, rfl⟩
theorem gf_X3_36 : x_GF RX3 36 3 8 := ⟨RX3, TX3, 10, rfl, rfl, by decide, inX3, Or.inl (xT_of (List.mem_append_right _ (List.mem_of_getElem? (i := 46) rfl)) rfl)⟩
theorem pf_X3_36 : x_PF RX3 36 3 8 (.array .int) true := ⟨RX3, TX3, 10, tyX3, rfl, rfl, by decide, inX3, (xT_of (List.mem_append_right _ (List.mem_of_getElem? (i := 46) rfl)) rfl), tyX3_ok, nmX3, rfl, rfl, rfl⟩
theorem gf_X3_39 : x_GF RX3 39 3 9 := ⟨RX3, TX3, 10, rfl, rfl, by decide, inX3, Or.inl (xT_of (List.mem_append_right _ (List.mem_of_getElem? (i := 48) rfl)) rfl)⟩
theorem pf_X3_39 : x_PF RX3 39 3 9 (.array .int) true := ⟨RX3, TX3, 10, tyX3, rfl, rfl, by decide, inX3, (xT_of (List.mem_append_right _ (List.mem_of_getElem? (i := 48) rfl)) rfl), tyX3_ok, nmX3, rfl, rfl, rfl⟩
theorem gs_X3_42 : x_GS RX3 42 "FIRST_VALUES" := Or.inr ⟨"HeatShelves", List.mem_of_getElem? (i := 0) rfl⟩
theorem gs_X3_115 : x_GS RX3 115 "GREATEST_VALUES" := Or.inr ⟨"HeatShelves", List.mem_of_getElem? (i := 20) rfl⟩
end
section
/-! the shape after the constructors: which cell refers to which -/
def xR0 : xR := fun c k =>
  if c = 0 then [some 1, some 12, some 23, none, some 34, some 80, some 83].getD k none
  else if c = 34 then (if k = 0 then some 35 else none)
  else if c = 35 then (if k < 4 then some (36 + 11 * k) else none)
  else if c = 80 then (if k < 2 then some (81 + k) else none)
  else if c = 83 then [some 84, none, some 85, some 86, some 87].getD k none
  else if c = 1 ∨ c = 12 ∨ c = 23 ∨ c = 36 ∨ c = 47 ∨ c = 58 ∨ c = 69 then (if k < 10 then some (c + 1 + k) else none)
  else none
/-- the first cell of a State, its rows are the next ten -/
def x_st (c : Nat) : Prop := c = 1 ∨ c = 12 ∨ c = 23 ∨ c = 36 ∨ c = 47 ∨ c = 58 ∨ c = 69
theorem st_lt {c : Nat} (h : x_st c) : c + 10 < 90 := by unfold x_st at h; omega
theorem sh_0 : x_sh 0 = (2, 4) := rfl
theorem sh_1 : x_sh 1 = (2, 3) := rfl
theorem sh_2 : x_sh 2 = (0, 23) := rfl
theorem sh_3 : x_sh 3 = (0, 3) := rfl
theorem sh_4 : x_sh 4 = (0, 24) := rfl
theorem sh_5 : x_sh 5 = (0, 24) := rfl
theorem sh_6 : x_sh 6 = (0, 24) := rfl
theorem sh_7 : x_sh 7 = (0, 24) := rfl
theorem sh_8 : x_sh 8 = (0, 24) := rfl
theorem sh_9 : x_sh 9 = (0, 24) := rfl
theorem sh_10 : x_sh 10 = (0, 24) := rfl
theorem sh_11 : x_sh 11 = (0, 24) := rfl
theorem sh_12 : x_sh 12 = (2, 3) := rfl
theorem sh_13 : x_sh 13 = (0, 23) := rfl
theorem sh_14 : x_sh 14 = (0, 3) := rfl
theorem sh_15 : x_sh 15 = (0, 24) := rfl
theorem sh_16 : x_sh 16 = (0, 24) := rfl
theorem sh_17 : x_sh 17 = (0, 24) := rfl
theorem sh_18 : x_sh 18 = (0, 24) := rfl
theorem sh_19 : x_sh 19 = (0, 24) := rfl
theorem sh_20 : x_sh 20 = (0, 24) := rfl
theorem sh_21 : x_sh 21 = (0, 24) := rfl
theorem sh_22 : x_sh 22 = (0, 24) := rfl
theorem sh_23 : x_sh 23 = (2, 3) := rfl
theorem sh_24 : x_sh 24 = (0, 23) := rfl
theorem sh_25 : x_sh 25 = (0, 3) := rfl
theorem sh_26 : x_sh 26 = (0, 24) := rfl
theorem sh_27 : x_sh 27 = (0, 24) := rfl
theorem sh_28 : x_sh 28 = (0, 24) := rfl
theorem sh_29 : x_sh 29 = (0, 24) := rfl
theorem sh_30 : x_sh 30 = (0, 24) := rfl
theorem sh_31 : x_sh 31 = (0, 24) := rfl
theorem sh_32 : x_sh 32 = (0, 24) := rfl
theorem sh_33 : x_sh 33 = (0, 24) := rfl
theorem sh_34 : x_sh 34 = (2, 0) := rfl
theorem sh_35 : x_sh 35 = (1, 4) := rfl
theorem sh_36 : x_sh 36 = (2, 3) := rfl
theorem sh_47 : x_sh 47 = (2, 3) := rfl
theorem sh_58 : x_sh 58 = (2, 3) := rfl
theorem sh_69 : x_sh 69 = (2, 3) := rfl
theorem sh_80 : x_sh 80 = (2, 1) := rfl
theorem sh_81 : x_sh 81 = (0, 24) := rfl
theorem sh_82 : x_sh 82 = (0, 24) := rfl
theorem sh_83 : x_sh 83 = (2, 2) := rfl
theorem sh_84 : x_sh 84 = (0, 60) := rfl
theorem sh_85 : x_sh 85 = (0, 30) := rfl
theorem sh_86 : x_sh 86 = (0, 30) := rfl
theorem sh_87 : x_sh 87 = (0, 30) := rfl
theorem sh_88 : x_sh 88 = (0, 24) := rfl
theorem sh_89 : x_sh 89 = (0, 24) := rfl
theorem sh_100 : x_sh 100 = (0, 15) := rfl
theorem sh_101 : x_sh 101 = (0, 15) := rfl
theorem rf_0_0 : xR0 0 0 = some 1 := rfl
theorem rf_0_1 : xR0 0 1 = some 12 := rfl
theorem rf_0_2 : xR0 0 2 = some 23 := rfl
theorem rf_0_4 : xR0 0 4 = some 34 := rfl
theorem rf_0_5 : xR0 0 5 = some 80 := rfl
theorem rf_0_6 : xR0 0 6 = some 83 := rfl
theorem rf_34_0 : xR0 34 0 = some 35 := rfl
theorem rf_80_0 : xR0 80 0 = some 81 := rfl
theorem rf_80_1 : xR0 80 1 = some 82 := rfl
theorem rf_83_0 : xR0 83 0 = some 84 := rfl
theorem rf_83_2 : xR0 83 2 = some 85 := rfl
theorem rf_83_3 : xR0 83 3 = some 86 := rfl
theorem rf_83_4 : xR0 83 4 = some 87 := rfl
theorem rf_1_0 : xR0 1 0 = some 2 := rfl
theorem rf_1_1 : xR0 1 1 = some 3 := rfl
theorem rf_1_2 : xR0 1 2 = some 4 := rfl
theorem rf_1_3 : xR0 1 3 = some 5 := rfl
theorem rf_1_4 : xR0 1 4 = some 6 := rfl
theorem rf_1_5 : xR0 1 5 = some 7 := rfl
theorem rf_1_6 : xR0 1 6 = some 8 := rfl
theorem rf_1_7 : xR0 1 7 = some 9 := rfl
theorem rf_1_8 : xR0 1 8 = some 10 := rfl
theorem rf_1_9 : xR0 1 9 = some 11 := rfl
theorem rf_12_0 : xR0 12 0 = some 13 := rfl
theorem rf_12_1 : xR0 12 1 = some 14 := rfl
theorem rf_12_2 : xR0 12 2 = some 15 := rfl
theorem rf_12_3 : xR0 12 3 = some 16 := rfl
theorem rf_12_4 : xR0 12 4 = some 17 := rfl
theorem rf_12_5 : xR0 12 5 = some 18 := rfl
theorem rf_12_6 : xR0 12 6 = some 19 := rfl
theorem rf_12_7 : xR0 12 7 = some 20 := rfl
theorem rf_12_8 : xR0 12 8 = some 21 := rfl
theorem rf_12_9 : xR0 12 9 = some 22 := rfl
theorem rf_23_0 : xR0 23 0 = some 24 := rfl
theorem rf_23_1 : xR0 23 1 = some 25 := rfl
theorem rf_23_2 : xR0 23 2 = some 26 := rfl
theorem rf_23_3 : xR0 23 3 = some 27 := rfl
theorem rf_23_4 : xR0 23 4 = some 28 := rfl
theorem rf_23_5 : xR0 23 5 = some 29 := rfl
theorem rf_23_6 : xR0 23 6 = some 30 := rfl
theorem rf_23_7 : xR0 23 7 = some 31 := rfl
theorem rf_23_8 : xR0 23 8 = some 32 := rfl
theorem rf_23_9 : xR0 23 9 = some 33 := rfl
theorem rf_36_0 : xR0 36 0 = some 37 := rfl
theorem rf_36_1 : xR0 36 1 = some 38 := rfl
theorem rf_36_2 : xR0 36 2 = some 39 := rfl
theorem rf_36_3 : xR0 36 3 = some 40 := rfl
theorem rf_36_4 : xR0 36 4 = some 41 := rfl
theorem rf_36_5 : xR0 36 5 = some 42 := rfl
theorem rf_36_6 : xR0 36 6 = some 43 := rfl
theorem rf_36_7 : xR0 36 7 = some 44 := rfl
theorem rf_36_8 : xR0 36 8 = some 45 := rfl
theorem rf_36_9 : xR0 36 9 = some 46 := rfl
theorem rf_47_0 : xR0 47 0 = some 48 := rfl
theorem rf_47_1 : xR0 47 1 = some 49 := rfl
theorem rf_47_2 : xR0 47 2 = some 50 := rfl
theorem rf_47_3 : xR0 47 3 = some 51 := rfl
theorem rf_47_4 : xR0 47 4 = some 52 := rfl
theorem rf_47_5 : xR0 47 5 = some 53 := rfl
theorem rf_47_6 : xR0 47 6 = some 54 := rfl
theorem rf_47_7 : xR0 47 7 = some 55 := rfl
theorem rf_47_8 : xR0 47 8 = some 56 := rfl
theorem rf_47_9 : xR0 47 9 = some 57 := rfl
theorem rf_58_0 : xR0 58 0 = some 59 := rfl
theorem rf_58_1 : xR0 58 1 = some 60 := rfl
theorem rf_58_2 : xR0 58 2 = some 61 := rfl
theorem rf_58_3 : xR0 58 3 = some 62 := rfl
theorem rf_58_4 : xR0 58 4 = some 63 := rfl
theorem rf_58_5 : xR0 58 5 = some 64 := rfl
theorem rf_58_6 : xR0 58 6 = some 65 := rfl
theorem rf_58_7 : xR0 58 7 = some 66 := rfl
theorem rf_58_8 : xR0 58 8 = some 67 := rfl
theorem rf_58_9 : xR0 58 9 = some 68 := rfl
theorem rf_69_0 : xR0 69 0 = some 70 := rfl
theorem rf_69_1 : xR0 69 1 = some 71 := rfl
theorem rf_69_2 : xR0 69 2 = some 72 := rfl
theorem rf_69_3 : xR0 69 3 = some 73 := rfl
theorem rf_69_4 : xR0 69 4 = some 74 := rfl
theorem rf_69_5 : xR0 69 5 = some 75 := rfl
theorem rf_69_6 : xR0 69 6 = some 76 := rfl
theorem rf_69_7 : xR0 69 7 = some 77 := rfl
theorem rf_69_8 : xR0 69 8 = some 78 := rfl
theorem rf_69_9 : xR0 69 9 = some 79 := rfl
theorem sh_st {c : Nat} (h : x_st c) : x_sh c = (2, 3) := by rcases h with h | h | h | h | h | h | h <;> subst h <;> rfl
theorem sh_st0 {c : Nat} (h : x_st c) : x_sh (c + 1) = (0, 23) := by rcases h with h | h | h | h | h | h | h <;> subst h <;> rfl
theorem rf_st0 {c : Nat} (h : x_st c) : xR0 c 0 = some (c + 1) := by rcases h with h | h | h | h | h | h | h <;> subst h <;> rfl
theorem sh_st1 {c : Nat} (h : x_st c) : x_sh (c + 2) = (0, 3) := by rcases h with h | h | h | h | h | h | h <;> subst h <;> rfl
theorem rf_st1 {c : Nat} (h : x_st c) : xR0 c 1 = some (c + 2) := by rcases h with h | h | h | h | h | h | h <;> subst h <;> rfl
theorem sh_st2 {c : Nat} (h : x_st c) : x_sh (c + 3) = (0, 24) := by rcases h with h | h | h | h | h | h | h <;> subst h <;> rfl
theorem rf_st2 {c : Nat} (h : x_st c) : xR0 c 2 = some (c + 3) := by rcases h with h | h | h | h | h | h | h <;> subst h <;> rfl
theorem sh_st3 {c : Nat} (h : x_st c) : x_sh (c + 4) = (0, 24) := by rcases h with h | h | h | h | h | h | h <;> subst h <;> rfl
theorem rf_st3 {c : Nat} (h : x_st c) : xR0 c 3 = some (c + 4) := by rcases h with h | h | h | h | h | h | h <;> subst h <;> rfl
theorem sh_st4 {c : Nat} (h : x_st c) : x_sh (c + 5) = (0, 24) := by rcases h with h | h | h | h | h | h | h <;> subst h <;> rfl
theorem rf_st4 {c : Nat} (h : x_st c) : xR0 c 4 = some (c + 5) := by rcases h with h | h | h | h | h | h | h <;> subst h <;> rfl
theorem sh_st5 {c : Nat} (h : x_st c) : x_sh (c + 6) = (0, 24) := by rcases h with h | h | h | h | h | h | h <;> subst h <;> rfl
theorem rf_st5 {c : Nat} (h : x_st c) : xR0 c 5 = some (c + 6) := by rcases h with h | h | h | h | h | h | h <;> subst h <;> rfl
theorem sh_st6 {c : Nat} (h : x_st c) : x_sh (c + 7) = (0, 24) := by rcases h with h | h | h | h | h | h | h <;> subst h <;> rfl
theorem rf_st6 {c : Nat} (h : x_st c) : xR0 c 6 = some (c + 7) := by rcases h with h | h | h | h | h | h | h <;> subst h <;> rfl
theorem sh_st7 {c : Nat} (h : x_st c) : x_sh (c + 8) = (0, 24) := by rcases h with h | h | h | h | h | h | h <;> subst h <;> rfl
theorem rf_st7 {c : Nat} (h : x_st c) : xR0 c 7 = some (c + 8) := by rcases h with h | h | h | h | h | h | h <;> subst h <;> rfl
theorem sh_st8 {c : Nat} (h : x_st c) : x_sh (c + 9) = (0, 24) := by rcases h with h | h | h | h | h | h | h <;> subst h <;> rfl
theorem rf_st8 {c : Nat} (h : x_st c) : xR0 c 8 = some (c + 9) := by rcases h with h | h | h | h | h | h | h <;> subst h <;> rfl
theorem sh_st9 {c : Nat} (h : x_st c) : x_sh (c + 10) = (0, 24) := by rcases h with h | h | h | h | h | h | h <;> subst h <;> rfl
theorem rf_st9 {c : Nat} (h : x_st c) : xR0 c 9 = some (c + 10) := by rcases h with h | h | h | h | h | h | h <;> subst h <;> rfl
theorem x_up_app {I : xI} {c j : Nat} {z : Int} {c' j' : Nat} : x_up I c j z c' j' = if c' = c ∧ j' = j then z else I c' j' := rfl
theorem x_up_same {I : xI} {c j : Nat} {z : Int} : x_up I c j z c j = z := by simp [x_up]
theorem x_up_off {I : xI} {c j : Nat} {z : Int} {c' j' : Nat} (h : c' ≠ c) : x_up I c j z c' j' = I c' j' := by simp [x_up, h]
theorem x_up_offj {I : xI} {c j : Nat} {z : Int} {c' j' : Nat} (h : j' ≠ j) : x_up I c j z c' j' = I c' j' := by simp [x_up, h]
abbrev Y (κ : xK) (d pc : Nat) (L : List (Option xAV)) (st : List xAV) (I : xI) (Q : xQ) : Prop := X κ d 0 0 pc L st 90 I xR0 Q
abbrev S (κ : xK) (d : Nat) (as : List xAV) (I : xI) (Q : xQ) : Prop := Sp κ d 0 0 as 90 I xR0 Q
def q_p (v : xAV) (I : xI) : xQ := fun ro N' I' R' => ro = some v ∧ N' = 90 ∧ I' = I ∧ R' = xR0
def q_v (P : xI → Prop) : xQ := fun ro N' I' R' => ro = none ∧ N' = 90 ∧ R' = xR0 ∧ P I'
def q_i (P : Int → xI → Prop) : xQ := fun ro N' I' R' => N' = 90 ∧ R' = xR0 ∧ ∃ z, ro = some (ii z) ∧ P z I'
theorem X_drop {κ : xK} {d bc bs pc : Nat} {L : List (Option xAV)} {st : List xAV} {N : Nat} {I : xI} {Rf : xR} {Q : xQ} (j : Nat) (h : X κ d bc bs pc (L.set j none) st N I Rf Q) : X κ d bc bs pc L st N I Rf Q := by
  refine X_locals h (List.length_set) (fun i a hi => ?_)
  by_cases e : j = i
  · subst e
    by_cases q : j < L.length
    · rw [List.getElem?_set_self q] at hi; cases hi
    · rw [List.getElem?_eq_none (by rw [List.length_set]; omega)] at hi; cases hi
  · rw [List.getElem?_set_ne e] at hi; exact hi
section XY
variable {κ : xK} {d pc : Nat} {L : List (Option xAV)} {st : List xAV} {I : xI} {Q : xQ}
theorem Y_pS {κ1 : xK} {idx n d1 : Nat} {as rest : List xAV} {v : xAV} (hd : decode κ.2.1 pc = .ok (.invokestatic idx, 3)) (hc : x_CS κ.1.cls idx κ1 n) (hsp : S κ1 d1 as I (q_p v I)) (hst : st = as.reverse ++ rest) (kk : Y κ d (pc + 3) L (v :: rest) I Q) (hn : as.length = n := by rfl) (hdd : d1 + 1 ≤ d := by exact Nat.le_of_ble_eq_true rfl) (hrest : rest.length ≤ 8 := by exact Nat.le_of_ble_eq_true rfl) : Y κ d pc L st I Q :=
  X_callS hd rfl hc hsp hst hn hdd hrest (Nat.le_refl 0) (Nat.le_refl 0) (fun ro N1 I1 R1 h => by obtain ⟨rfl, rfl, rfl, rfl⟩ := h; exact kk)
theorem Y_vS {κ1 : xK} {idx n d1 : Nat} {as rest : List xAV} {P : xI → Prop} (hd : decode κ.2.1 pc = .ok (.invokestatic idx, 3)) (hc : x_CS κ.1.cls idx κ1 n) (hsp : S κ1 d1 as I (q_v P)) (hst : st = as.reverse ++ rest) (kk : ∀ I1, P I1 → Y κ d (pc + 3) L rest I1 Q) (hn : as.length = n := by rfl) (hdd : d1 + 1 ≤ d := by exact Nat.le_of_ble_eq_true rfl) (hrest : rest.length ≤ 8 := by exact Nat.le_of_ble_eq_true rfl) : Y κ d pc L st I Q :=
  X_callS hd rfl hc hsp hst hn hdd hrest (Nat.le_refl 0) (Nat.le_refl 0) (fun ro N1 I1 R1 h => by obtain ⟨rfl, rfl, rfl, h⟩ := h; exact kk _ h)
theorem Y_iS {κ1 : xK} {idx n d1 : Nat} {as rest : List xAV} {P : Int → xI → Prop} (hd : decode κ.2.1 pc = .ok (.invokestatic idx, 3)) (hc : x_CS κ.1.cls idx κ1 n) (hsp : S κ1 d1 as I (q_i P)) (hst : st = as.reverse ++ rest) (kk : ∀ z I1, P z I1 → Y κ d (pc + 3) L (ii z :: rest) I1 Q) (hn : as.length = n := by rfl) (hdd : d1 + 1 ≤ d := by exact Nat.le_of_ble_eq_true rfl) (hrest : rest.length ≤ 8 := by exact Nat.le_of_ble_eq_true rfl) : Y κ d pc L st I Q :=
  X_callS hd rfl hc hsp hst hn hdd hrest (Nat.le_refl 0) (Nat.le_refl 0) (fun ro N1 I1 R1 h => by obtain ⟨rfl, rfl, z, rfl, h⟩ := h; exact kk _ _ h)
theorem Y_pV {κ1 : xK} {idx n ci c1 d1 : Nat} {as rest : List xAV} {v : xAV} (hd : decode κ.2.1 pc = .ok (.invokevirtual idx, 3)) (hc : x_CV κ.1.cls idx κ1 n ci) (hsh : x_sh c1 = (2, ci)) (hN : c1 < 90) (hsp : S κ1 d1 (rr c1 :: as) I (q_p v I)) (hst : st = as.reverse ++ rr c1 :: rest) (kk : Y κ d (pc + 3) L (v :: rest) I Q) (hn : as.length = n := by rfl) (hdd : d1 + 1 ≤ d := by exact Nat.le_of_ble_eq_true rfl) (hrest : rest.length ≤ 8 := by exact Nat.le_of_ble_eq_true rfl) : Y κ d pc L st I Q :=
  X_callV hd rfl hc hsh hN hsp hst hn hdd hrest (Nat.le_refl 0) (Nat.le_refl 0) (fun ro N1 I1 R1 h => by obtain ⟨rfl, rfl, rfl, rfl⟩ := h; exact kk)
theorem Y_vV {κ1 : xK} {idx n ci c1 d1 : Nat} {as rest : List xAV} {P : xI → Prop} (hd : decode κ.2.1 pc = .ok (.invokevirtual idx, 3)) (hc : x_CV κ.1.cls idx κ1 n ci) (hsh : x_sh c1 = (2, ci)) (hN : c1 < 90) (hsp : S κ1 d1 (rr c1 :: as) I (q_v P)) (hst : st = as.reverse ++ rr c1 :: rest) (kk : ∀ I1, P I1 → Y κ d (pc + 3) L rest I1 Q) (hn : as.length = n := by rfl) (hdd : d1 + 1 ≤ d := by exact Nat.le_of_ble_eq_true rfl) (hrest : rest.length ≤ 8 := by exact Nat.le_of_ble_eq_true rfl) : Y κ d pc L st I Q :=
  X_callV hd rfl hc hsh hN hsp hst hn hdd hrest (Nat.le_refl 0) (Nat.le_refl 0) (fun ro N1 I1 R1 h => by obtain ⟨rfl, rfl, rfl, h⟩ := h; exact kk _ h)
theorem Y_iV {κ1 : xK} {idx n ci c1 d1 : Nat} {as rest : List xAV} {P : Int → xI → Prop} (hd : decode κ.2.1 pc = .ok (.invokevirtual idx, 3)) (hc : x_CV κ.1.cls idx κ1 n ci) (hsh : x_sh c1 = (2, ci)) (hN : c1 < 90) (hsp : S κ1 d1 (rr c1 :: as) I (q_i P)) (hst : st = as.reverse ++ rr c1 :: rest) (kk : ∀ z I1, P z I1 → Y κ d (pc + 3) L (ii z :: rest) I1 Q) (hn : as.length = n := by rfl) (hdd : d1 + 1 ≤ d := by exact Nat.le_of_ble_eq_true rfl) (hrest : rest.length ≤ 8 := by exact Nat.le_of_ble_eq_true rfl) : Y κ d pc L st I Q :=
  X_callV hd rfl hc hsh hN hsp hst hn hdd hrest (Nat.le_refl 0) (Nat.le_refl 0) (fun ro N1 I1 R1 h => by obtain ⟨rfl, rfl, z, rfl, h⟩ := h; exact kk _ _ h)
theorem x_met_mono {κ : xK} {d mc ms : Nat} {as : List xAV} {N : Nat} {I : xI} {Rf : xR} {Q Q' : xQ} (h : Sp κ d mc ms as N I Rf Q) (hq : ∀ ro N' I' R', Q ro N' I' R' → Q' ro N' I' R') : Sp κ d mc ms as N I Rf Q' := by
  intro G l p e ha hcc hk s m args below hf happ hpre hkk
  obtain ⟨k, o, h1, h2, h3, h4, h5⟩ := h G l p e ha hcc hk s m args below hf happ hpre hkk
  obtain ⟨⟨ro, N1, I1, R1, e1, e2, e3⟩, e4⟩ := h4
  exact ⟨k, o, h1, h2, h3, ⟨⟨ro, N1, I1, R1, e1, hq _ _ _ _ e2, e3⟩, e4⟩, h5⟩
theorem S_monoV {as : List xAV} {P P' : xI → Prop} (h : S κ d as I (q_v P)) (hq : ∀ I1, P I1 → P' I1) : S κ d as I (q_v P') := x_met_mono h (fun ro N' I' R' e => ⟨e.1, e.2.1, e.2.2.1, hq _ e.2.2.2⟩)
theorem S_monoI {as : List xAV} {P P' : Int → xI → Prop} (h : S κ d as I (q_i P)) (hq : ∀ z I1, P z I1 → P' z I1) : S κ d as I (q_i P') := x_met_mono h (fun ro N' I' R' e => ⟨e.1, e.2.1, by obtain ⟨z, h1, h2⟩ := e.2.2; exact ⟨z, h1, hq _ _ h2⟩⟩)
end XY
end
section
/-! the small functions on rows: at, put, raise, copyRow, closeGap -/
set_option maxRecDepth 20000 in
set_option maxHeartbeats 4000000 in
theorem t_at {a n : Nat} (ha : x_sh a = (0, n)) (la2 : x_live 90 a) (I : xI) (i : Int) (hi : -2147483648 ≤ i ∧ i ≤ 2147483647) : S kX4_at 0 [rr a, ii i] I (q_p (ii (if 0 ≤ i ∧ i < n then I a i.toNat else 0)) I) := by
  have hn : n < 1000 := by have := x_sh_lt a; rw [ha] at this; exact this
  refine Sp_intro (by decide +kernel) (Nat.le_of_ble_eq_true rfl) ?_
  show Y kX4_at 0 0 [some (rr a), some (ii i)] [] I _
  refine X_iload dX4_at_0 rfl ?_
  refine X_if_lt (tgt := 16) dX4_at_1 (by decide) (by omega) (fun c_1 => ?_) (fun c_1 => ?_)
  · refine X_iconst dX4_at_16 ?_
    refine X_iret dX4_at_17 (Or.inl rfl) ?_
    exact ⟨congrArg (fun z => some (ii z)) (by first | rw [if_pos (by omega)] | rw [if_neg (by omega)]), rfl, rfl, rfl⟩
  · refine X_iload dX4_at_4 rfl ?_
    refine X_aload dX4_at_5 rfl ?_
    refine X_alen dX4_at_6 ha la2 ?_
    refine X_icmp_ge (tgt := 16) dX4_at_7 (by decide) (by omega) (fun c_7 => ?_) (fun c_7 => ?_)
    · refine X_iconst dX4_at_16 ?_
      refine X_iret dX4_at_17 (Or.inl rfl) ?_
      exact ⟨congrArg (fun z => some (ii z)) (by first | rw [if_pos (by omega)] | rw [if_neg (by omega)]), rfl, rfl, rfl⟩
    · refine X_aload dX4_at_10 rfl ?_
      refine X_iload dX4_at_11 rfl ?_
      refine X_iald dX4_at_12 ha la2 (by omega) ?_
      refine X_goto (tgt := 17) dX4_at_13 (by decide) ?_
      refine X_iret dX4_at_17 (Or.inl rfl) ?_
      exact ⟨congrArg (fun z => some (ii z)) (by first | rw [if_pos (by omega)] | rw [if_neg (by omega)]), rfl, rfl, rfl⟩
theorem t_atk {a n : Nat} (ha : x_sh a = (0, n)) (la2 : x_live 90 a) (I : xI) (k : Nat) (hk : k < n) {i : Int} (hi : i = (k : Int)) : S kX4_at 0 [rr a, ii i] I (q_p (ii (I a k)) I) := by
  have hn : n < 1000 := by have := x_sh_lt a; rw [ha] at this; exact this
  subst hi
  have h := t_at ha la2 I (k : Int) (by omega)
  rw [if_pos (by omega), Int.toNat_natCast] at h
  exact h
set_option maxRecDepth 20000 in
set_option maxHeartbeats 4000000 in
theorem t_putk {a n : Nat} (ha : x_sh a = (0, n)) (la : a < 90) (I : xI) (k : Nat) (hk : k < n) {i : Int} (hi : i = (k : Int)) (z : Int) : S kX4_put 0 [rr a, ii i, ii z] I (q_v (fun I1 => I1 = x_up I a k z)) := by
  have hn : n < 1000 := by have := x_sh_lt a; rw [ha] at this; exact this
  have la2 : x_live 90 a := Or.inl la
  subst hi
  refine Sp_intro (by decide +kernel) (Nat.le_of_ble_eq_true rfl) ?_
  show Y kX4_put 0 0 [some (rr a), some (ii (k : Int)), some (ii z)] [] I _
  refine X_iload dX4_put_0 rfl ?_
  refine X_if_lt (tgt := 14) dX4_put_1 (by decide) (by omega) (fun c_1 => absurd c_1 (by omega)) (fun c_1 => ?_)
  refine X_iload dX4_put_4 rfl ?_
  refine X_aload dX4_put_5 rfl ?_
  refine X_alen dX4_put_6 ha la2 ?_
  refine X_icmp_ge (tgt := 14) dX4_put_7 (by decide) (by omega) (fun c_7 => absurd c_7 (by omega)) (fun c_7 => ?_)
  refine X_aload dX4_put_10 rfl ?_
  refine X_iload dX4_put_11 rfl ?_
  refine X_iload dX4_put_12 rfl ?_
  refine X_iast dX4_put_13 ha la (by omega) ?_
  refine X_vret dX4_put_14 rfl ?_
  exact ⟨rfl, rfl, rfl, by rw [Int.toNat_natCast]⟩
set_option maxRecDepth 20000 in
set_option maxHeartbeats 4000000 in
theorem t_raisek {a n : Nat} (ha : x_sh a = (0, n)) (la : a < 90) (I : xI) (k : Nat) (hk : k < n) {i : Int} (hi : i = (k : Int)) (z : Int) : S kX4_raise 0 [rr a, ii i, ii z] I (q_v (fun I1 => I1 = x_up I a k (I a k + z))) := by
  have hn : n < 1000 := by have := x_sh_lt a; rw [ha] at this; exact this
  have la2 : x_live 90 a := Or.inl la
  subst hi
  refine Sp_intro (by decide +kernel) (Nat.le_of_ble_eq_true rfl) ?_
  show Y kX4_raise 0 0 [some (rr a), some (ii (k : Int)), some (ii z)] [] I _
  refine X_iload dX4_raise_0 rfl ?_
  refine X_if_lt (tgt := 17) dX4_raise_1 (by decide) (by omega) (fun c_1 => absurd c_1 (by omega)) (fun c_1 => ?_)
  refine X_iload dX4_raise_4 rfl ?_
  refine X_aload dX4_raise_5 rfl ?_
  refine X_alen dX4_raise_6 ha la2 ?_
  refine X_icmp_ge (tgt := 17) dX4_raise_7 (by decide) (by omega) (fun c_7 => absurd c_7 (by omega)) (fun c_7 => ?_)
  refine X_aload dX4_raise_10 rfl ?_
  refine X_iload dX4_raise_11 rfl ?_
  refine X_dup2 dX4_raise_12 ?_
  refine X_iald dX4_raise_13 ha la2 (by omega) ?_
  refine X_iload dX4_raise_14 rfl ?_
  refine X_iadd dX4_raise_15 ?_
  refine X_iast dX4_raise_16 ha la (by omega) ?_
  refine X_vret dX4_raise_17 rfl ?_
  exact ⟨rfl, rfl, rfl, by rw [Int.toNat_natCast]⟩
set_option maxRecDepth 20000 in
set_option maxHeartbeats 4000000 in
theorem t_copyRow {a b n m : Nat} (ha : x_sh a = (0, n)) (la2 : x_live 90 a) (hb : x_sh b = (0, m)) (lb : b < 90) (I : xI) : S kX4_copyRow 1 [rr a, rr b] I (q_v (fun I1 => I1 = x_cp I a b (min n m))) := by
  have hn : n < 1000 := by have := x_sh_lt a; rw [ha] at this; exact this
  have hm : m < 1000 := by have := x_sh_lt b; rw [hb] at this; exact this
  have lb2 : x_live 90 b := Or.inl lb
  refine Sp_intro (by decide +kernel) (Nat.le_of_ble_eq_true rfl) ?_
  show Y kX4_copyRow 1 0 [some (rr a), some (rr b)] [] I _
  refine X_aload dX4_copyRow_0 rfl ?_
  refine X_iconst dX4_copyRow_1 ?_
  refine X_aload dX4_copyRow_2 rfl ?_
  refine X_iconst dX4_copyRow_3 ?_
  refine X_aload dX4_copyRow_4 rfl ?_
  refine X_alen dX4_copyRow_5 ha la2 ?_
  refine X_aload dX4_copyRow_6 rfl ?_
  refine X_alen dX4_copyRow_7 hb lb2 ?_
  refine X_min dX4_copyRow_8 rfl lk_X4_205 (by omega) (by omega) (by decide) (Nat.le_of_ble_eq_true rfl) ?_
  refine X_copy dX4_copyRow_11 rfl lk_X4_210 ha la2 hb lb (by omega) (by decide) (Nat.le_of_ble_eq_true rfl) ?_
  refine X_vret dX4_copyRow_14 rfl ?_
  exact ⟨rfl, rfl, rfl, by congr 1; omega⟩
def x_cg (I : xI) (a k i : Nat) : xI := fun c j => if c = a ∧ k ≤ j ∧ j < i then I a (j + 1) else I c j
theorem x_cg_next (I : xI) (a k i : Nat) (h : k ≤ i) : x_up (x_cg I a k i) a i (I a (i + 1)) = x_cg I a k (i + 1) := by
  funext c j
  unfold x_up x_cg
  by_cases h1 : c = a
  · subst h1
    by_cases h2 : j = i
    · subst h2; rw [if_pos ⟨rfl, rfl⟩, if_pos (by omega)]
    · rw [if_neg (by omega)]
      by_cases h3 : k ≤ j ∧ j < i
      · rw [if_pos (by omega), if_pos (by omega)]
      · rw [if_neg (by omega), if_neg (by omega)]
  · rw [if_neg (by omega), if_neg (by omega), if_neg (by omega)]
set_option maxRecDepth 20000 in
set_option maxHeartbeats 4000000 in
theorem t_closeGap_loop {a n : Nat} (ha : x_sh a = (0, n)) (la : a < 90) (I : xI) (k : Nat) : ∀ (m i : Nat), i + 1 + m = n → k ≤ i → Y kX4_closeGap 1 6 [some (rr a), some (ii (k : Int)), some (ii (i : Int))] [] (x_cg I a k i) (q_v (fun I1 => I1 = x_cg I a k (n - 1))) := by
  have hn : n < 1000 := by have := x_sh_lt a; rw [ha] at this; exact this
  have la2 : x_live 90 a := Or.inl la
  intro m
  induction m with
  | zero =>
    intro i hi hk
    refine X_iload dX4_closeGap_6 rfl ?_
    refine X_iconst dX4_closeGap_7 ?_
    refine X_iadd dX4_closeGap_8 ?_
    refine X_aload dX4_closeGap_9 rfl ?_
    refine X_alen dX4_closeGap_10 ha la2 ?_
    refine X_icmp_ge (tgt := 28) dX4_closeGap_11 (by decide) (by omega) (fun c_11 => ?_) (fun c_11 => absurd c_11 (by omega))
    refine X_vret dX4_closeGap_28 rfl ?_
    exact ⟨rfl, rfl, rfl, by rw [show n - 1 = i by omega]⟩
  | succ m ih =>
    intro i hi hk
    refine X_iload dX4_closeGap_6 rfl ?_
    refine X_iconst dX4_closeGap_7 ?_
    refine X_iadd dX4_closeGap_8 ?_
    refine X_aload dX4_closeGap_9 rfl ?_
    refine X_alen dX4_closeGap_10 ha la2 ?_
    refine X_icmp_ge (tgt := 28) dX4_closeGap_11 (by decide) (by omega) (fun c_11 => absurd c_11 (by omega)) (fun c_11 => ?_)
    refine X_aload dX4_closeGap_14 rfl ?_
    refine X_iload dX4_closeGap_15 rfl ?_
    refine X_aload dX4_closeGap_16 rfl ?_
    refine X_iload dX4_closeGap_17 rfl ?_
    refine X_iconst dX4_closeGap_18 ?_
    refine X_iadd dX4_closeGap_19 ?_
    refine X_iald dX4_closeGap_20 ha la2 (by omega) ?_
    refine X_iast dX4_closeGap_21 ha la (by omega) ?_
    refine X_iinc dX4_closeGap_22 rfl ?_
    dsimp only [List.set]
    refine X_goto (tgt := 6) dX4_closeGap_25 (by decide) ?_
    have e : ((i : Int) + 1).toNat = i + 1 := by omega
    have e2 : x_cg I a k i a (i + 1) = I a (i + 1) := by unfold x_cg; rw [if_neg (by omega)]
    rw [e, e2, Int.toNat_natCast, x_cg_next I a k i hk]
    exact ih (i + 1) (by omega) (by omega)
set_option maxRecDepth 20000 in
set_option maxHeartbeats 4000000 in
theorem t_closeGap {a n : Nat} (ha : x_sh a = (0, n)) (la : a < 90) (I : xI) (k : Nat) (hk : k < n) {i : Int} (hi : i = (k : Int)) : S kX4_closeGap 1 [rr a, ii i] I (q_v (fun I1 => I1 = x_cg I a k (n - 1))) := by
  have hn : n < 1000 := by have := x_sh_lt a; rw [ha] at this; exact this
  have la2 : x_live 90 a := Or.inl la
  subst hi
  refine Sp_intro (by decide +kernel) (Nat.le_of_ble_eq_true rfl) ?_
  show Y kX4_closeGap 1 0 [some (rr a), some (ii (k : Int)), none] [] I _
  refine X_iload dX4_closeGap_0 rfl ?_
  refine X_iconst dX4_closeGap_1 ?_
  refine X_max dX4_closeGap_2 rfl lk_X4_216 (by omega) (by omega) (by decide) (Nat.le_of_ble_eq_true rfl) ?_
  refine X_istore dX4_closeGap_5 (by decide) ?_
  dsimp only [List.set]
  rw [show max (k : Int) 0 = (k : Int) by omega]
  have h0 : x_cg I a k k = I := by funext c j; unfold x_cg; rw [if_neg (by omega)]
  have h := t_closeGap_loop ha la I k (n - 1 - k) k (by omega) (Nat.le_refl k)
  rw [h0] at h
  exact h
end
section
/-! the state as one row of numbers: 23 numbers of the whole, then eight of each block; what is asked of it -/
def sm (f : Nat → Int) : Nat → Int
  | 0 => 0
  | k + 1 => sm f k + f k
def gb (g : Nat → Int) (k j : Nat) : Int := g (23 + 8 * k + j)
def onF (g : Nat → Int) (n : Nat) (sh : Int) (w : Nat) : Int := sm (fun k => if gb g k 3 = sh then (if w = 0 then 1 else gb g k w) else 0) n
/-- what every state keeps to -/
def GI (g : Nat → Int) (n : Nat) : Prop := n ≤ 24 ∧ g 15 = n ∧ (0 ≤ g 0 ∧ g 0 ≤ 100) ∧ (0 ≤ g 1 ∧ g 1 ≤ 20000) ∧ (0 ≤ g 2 ∧ g 2 ≤ 20000) ∧ (0 ≤ g 3 ∧ g 3 ≤ 24) ∧ (0 ≤ g 4 ∧ g 4 ≤ 30) ∧ (0 ≤ g 5 ∧ g 5 ≤ 50) ∧ (∀ j, j < 3 → 0 ≤ g (6 + j) ∧ g (6 + j) ≤ 200) ∧ (∀ j, j < 6 → 0 ≤ g (9 + j) ∧ g (9 + j) ≤ 50) ∧ (0 ≤ g 16 ∧ g 16 ≤ 1000) ∧
  ∀ k, k < n → (0 ≤ gb g k 0 ∧ gb g k 0 ≤ 999) ∧ (1 ≤ gb g k 1 ∧ gb g k 1 ≤ 9) ∧ (0 ≤ gb g k 2 ∧ gb g k 2 ≤ 99999) ∧ (0 ≤ gb g k 3 ∧ gb g k 3 ≤ 2) ∧ (0 ≤ gb g k 4 ∧ gb g k 4 ≤ 1) ∧ (0 ≤ gb g k 5 ∧ gb g k 5 ≤ 30)
/-- a State at c holds g: its numbers, its blocks, and what is taken on each shelf -/
def RS (I : xI) (c : Nat) (g : Nat → Int) (n : Nat) : Prop := (∀ j, j < 23 → I (c + 1) j = g j) ∧ (∀ k, k < n → ∀ j, j < 8 → I (c + 3 + j) k = gb g k j) ∧ (∀ sh : Nat, sh < 3 → I (c + 2) sh = onF g n sh 1)
theorem sm_congr {f h : Nat → Int} : ∀ {n : Nat}, (∀ k, k < n → f k = h k) → sm f n = sm h n
  | 0, _ => rfl
  | n + 1, e => by
    show sm f n + f n = sm h n + h n
    rw [sm_congr (fun k hk => e k (by omega)), e n (by omega)]
theorem sm_bounds {f : Nat → Int} {lo hi : Int} : ∀ {n : Nat}, (∀ k, k < n → lo ≤ f k ∧ f k ≤ hi) → lo * n ≤ sm f n ∧ sm f n ≤ hi * n
  | 0, _ => by simp [sm]
  | n + 1, e => by
    have h1 := sm_bounds (n := n) (fun k hk => e k (by omega))
    have h2 := e n (by omega)
    show lo * ((n + 1 : Nat) : Int) ≤ sm f n + f n ∧ sm f n + f n ≤ hi * ((n + 1 : Nat) : Int)
    rw [Int.natCast_add, Int.mul_add, Int.mul_add]
    omega
/-- one term of a sum changed -/
theorem sm_one {f h : Nat → Int} {k : Nat} : ∀ {n : Nat}, k < n → (∀ q, q < n → q ≠ k → f q = h q) → sm f n = sm h n - h k + f k
  | 0, hk, _ => absurd hk (Nat.not_lt_zero k)
  | n + 1, hk, e => by
    show sm f n + f n = sm h n + h n - h k + f k
    by_cases q : k = n
    · subst q
      rw [sm_congr (fun j hj => e j (by omega) (by omega))]
      omega
    · rw [sm_one (n := n) (by omega) (fun j hj hne => e j (by omega) hne), e n (by omega) (fun z => q z.symm)]
      omega
def oi (o : Option Nat) (d : Int) : Int := match o with
  | none => d
  | some k => k
/-- the place of the block of a number -/
def plF (g : Nat → Int) (b : Int) : Nat → Nat → Option Nat
  | 0, _ => none
  | m + 1, i => if gb g i 0 = b then some i else plF g b m (i + 1)
def pl (g : Nat → Int) (n : Nat) (b : Int) : Option Nat := plF g b n 0
theorem plF_lt {g : Nat → Int} {b : Int} : ∀ {m i k : Nat}, plF g b m i = some k → i ≤ k ∧ k < i + m
  | 0, i, k, h => by cases h
  | m + 1, i, k, h => by
    unfold plF at h
    split at h
    · cases h; omega
    · have := plF_lt h; omega
theorem pl_lt {g : Nat → Int} {n : Nat} {b : Int} {k : Nat} (h : pl g n b = some k) : k < n := by have := plF_lt h; omega
/-- how many blocks stand ahead of one, by heat and number -/
def hot (g : Nat → Int) (n k : Nat) : Int := sm (fun q => if gb g k 2 < gb g q 2 ∨ (gb g q 2 = gb g k 2 ∧ q < k) then 1 else 0) n
def rkF (g : Nat → Int) (n : Nat) (r : Int) : Nat → Nat → Option Nat
  | 0, _ => none
  | m + 1, i => if hot g n i = r then some i else rkF g n r m (i + 1)
def rk (g : Nat → Int) (n : Nat) (r : Int) : Option Nat := rkF g n r n 0
theorem rkF_lt {g : Nat → Int} {n : Nat} {r : Int} : ∀ {m i k : Nat}, rkF g n r m i = some k → i ≤ k ∧ k < i + m
  | 0, i, k, h => by cases h
  | m + 1, i, k, h => by
    unfold rkF at h
    split at h
    · cases h; omega
    · have := rkF_lt h; omega
def wt (g : Nat → Int) (k : Nat) : Int := if g 1 ≤ gb g k 2 then 0 else if g 2 ≤ gb g k 2 then 1 else 2
/-- room for so much on a shelf -/
def rm (g : Nat → Int) (n : Nat) (sh : Nat) (z : Int) : Prop := onF g n sh 1 + z ≤ g (6 + sh)
def rmB (g : Nat → Int) (n : Nat) (sh : Nat) (z : Int) : Bool := decide (onF g n sh 1 + z ≤ g (6 + sh))
def fr (g : Nat → Int) (n : Nat) (z : Int) : Option Nat := if rmB g n 0 z then some 0 else if rmB g n 1 z then some 1 else if rmB g n 2 z then some 2 else none
def pins (g : Nat → Int) (n : Nat) : Int := sm (fun k => gb g k 4) n
theorem GI.n24 {g : Nat → Int} {n : Nat} (h : GI g n) : n ≤ 24 := h.1
theorem GI.g15 {g : Nat → Int} {n : Nat} (h : GI g n) : g 15 = n := h.2.1
theorem GI.s0 {g : Nat → Int} {n : Nat} (h : GI g n) : 0 ≤ g 0 ∧ g 0 ≤ 100 := h.2.2.1
theorem GI.s1 {g : Nat → Int} {n : Nat} (h : GI g n) : 0 ≤ g 1 ∧ g 1 ≤ 20000 := h.2.2.2.1
theorem GI.s2 {g : Nat → Int} {n : Nat} (h : GI g n) : 0 ≤ g 2 ∧ g 2 ≤ 20000 := h.2.2.2.2.1
theorem GI.s3 {g : Nat → Int} {n : Nat} (h : GI g n) : 0 ≤ g 3 ∧ g 3 ≤ 24 := h.2.2.2.2.2.1
theorem GI.s4 {g : Nat → Int} {n : Nat} (h : GI g n) : 0 ≤ g 4 ∧ g 4 ≤ 30 := h.2.2.2.2.2.2.1
theorem GI.s5 {g : Nat → Int} {n : Nat} (h : GI g n) : 0 ≤ g 5 ∧ g 5 ≤ 50 := h.2.2.2.2.2.2.2.1
theorem GI.s6 {g : Nat → Int} {n : Nat} (h : GI g n) {j : Nat} (hj : j < 3) : 0 ≤ g (6 + j) ∧ g (6 + j) ≤ 200 := h.2.2.2.2.2.2.2.2.1 j hj
theorem GI.s9 {g : Nat → Int} {n : Nat} (h : GI g n) {j : Nat} (hj : j < 6) : 0 ≤ g (9 + j) ∧ g (9 + j) ≤ 50 := h.2.2.2.2.2.2.2.2.2.1 j hj
theorem GI.s16 {g : Nat → Int} {n : Nat} (h : GI g n) : 0 ≤ g 16 ∧ g 16 ≤ 1000 := h.2.2.2.2.2.2.2.2.2.2.1
theorem GI.b {g : Nat → Int} {n : Nat} (h : GI g n) {k : Nat} (hk : k < n) : (0 ≤ gb g k 0 ∧ gb g k 0 ≤ 999) ∧ (1 ≤ gb g k 1 ∧ gb g k 1 ≤ 9) ∧ (0 ≤ gb g k 2 ∧ gb g k 2 ≤ 99999) ∧ (0 ≤ gb g k 3 ∧ gb g k 3 ≤ 2) ∧ (0 ≤ gb g k 4 ∧ gb g k 4 ≤ 1) ∧ (0 ≤ gb g k 5 ∧ gb g k 5 ≤ 30) := h.2.2.2.2.2.2.2.2.2.2.2 k hk
theorem on_bounds {g : Nat → Int} {n : Nat} (h : GI g n) (sh : Int) : 0 ≤ onF g n sh 1 ∧ onF g n sh 1 ≤ 216 := by
  have h1 := sm_bounds (f := fun k => if gb g k 3 = sh then (if 1 = 0 then 1 else gb g k 1) else 0) (lo := 0) (hi := 9) (n := n) (fun k hk => by
    have := (h.b hk).2.1
    split
    · rw [if_neg (by decide)]; omega
    · omega)
  have h2 := h.n24
  unfold onF
  omega
theorem on0_bounds {g : Nat → Int} {n : Nat} (h : GI g n) (sh : Int) (w : Nat) (hw : w = 0 ∨ w = 2) : 0 ≤ onF g n sh w ∧ onF g n sh w ≤ 2399976 := by
  have h1 := sm_bounds (f := fun k => if gb g k 3 = sh then (if w = 0 then 1 else gb g k w) else 0) (lo := 0) (hi := 99999) (n := n) (fun k hk => by
    have := (h.b hk).2.2.1
    split
    · rcases hw with rfl | rfl
      · rw [if_pos rfl]; omega
      · rw [if_neg (by decide)]; omega
    · omega)
  have h2 := h.n24
  unfold onF
  omega
theorem hot_bounds {g : Nat → Int} {n : Nat} (h : n ≤ 24) (k : Nat) : 0 ≤ hot g n k ∧ hot g n k ≤ 24 := by
  have h1 := sm_bounds (f := fun q => if gb g k 2 < gb g q 2 ∨ (gb g q 2 = gb g k 2 ∧ q < k) then 1 else 0) (lo := 0) (hi := 1) (n := n) (fun q hq => by
    split <;> omega)
  unfold hot
  omega
theorem pins_bounds {g : Nat → Int} {n : Nat} (h : GI g n) : 0 ≤ pins g n ∧ pins g n ≤ 24 := by
  have h1 := sm_bounds (f := fun q => gb g q 4) (lo := 0) (hi := 1) (n := n) (fun q hq => (h.b hq).2.2.2.2.1)
  have h2 := h.n24
  unfold pins
  omega
theorem RS.b0 {I : xI} {c : Nat} {g : Nat → Int} {n : Nat} (h : RS I c g n) {k : Nat} (hk : k < n) : I (c + 3) k = gb g k 0 := h.2.1 k hk 0 (by decide)
theorem t_blk0 {I : xI} {c : Nat} {g : Nat → Int} {n : Nat} (hc : x_st c) (hR : RS I c g n) (hn : n ≤ 24) (k : Nat) (hk : k < n) {i : Int} (hi : i = (k : Int)) : S kX4_at 0 [rr (c + 3), ii i] I (q_p (ii (gb g k 0)) I) := by
  rw [← hR.b0 hk]
  exact t_atk (sh_st2 hc) (Or.inl (by have := st_lt hc; omega)) I k (by omega) hi
theorem RS.b1 {I : xI} {c : Nat} {g : Nat → Int} {n : Nat} (h : RS I c g n) {k : Nat} (hk : k < n) : I (c + 4) k = gb g k 1 := h.2.1 k hk 1 (by decide)
theorem t_blk1 {I : xI} {c : Nat} {g : Nat → Int} {n : Nat} (hc : x_st c) (hR : RS I c g n) (hn : n ≤ 24) (k : Nat) (hk : k < n) {i : Int} (hi : i = (k : Int)) : S kX4_at 0 [rr (c + 4), ii i] I (q_p (ii (gb g k 1)) I) := by
  rw [← hR.b1 hk]
  exact t_atk (sh_st3 hc) (Or.inl (by have := st_lt hc; omega)) I k (by omega) hi
theorem RS.b2 {I : xI} {c : Nat} {g : Nat → Int} {n : Nat} (h : RS I c g n) {k : Nat} (hk : k < n) : I (c + 5) k = gb g k 2 := h.2.1 k hk 2 (by decide)
theorem t_blk2 {I : xI} {c : Nat} {g : Nat → Int} {n : Nat} (hc : x_st c) (hR : RS I c g n) (hn : n ≤ 24) (k : Nat) (hk : k < n) {i : Int} (hi : i = (k : Int)) : S kX4_at 0 [rr (c + 5), ii i] I (q_p (ii (gb g k 2)) I) := by
  rw [← hR.b2 hk]
  exact t_atk (sh_st4 hc) (Or.inl (by have := st_lt hc; omega)) I k (by omega) hi
theorem RS.b3 {I : xI} {c : Nat} {g : Nat → Int} {n : Nat} (h : RS I c g n) {k : Nat} (hk : k < n) : I (c + 6) k = gb g k 3 := h.2.1 k hk 3 (by decide)
theorem t_blk3 {I : xI} {c : Nat} {g : Nat → Int} {n : Nat} (hc : x_st c) (hR : RS I c g n) (hn : n ≤ 24) (k : Nat) (hk : k < n) {i : Int} (hi : i = (k : Int)) : S kX4_at 0 [rr (c + 6), ii i] I (q_p (ii (gb g k 3)) I) := by
  rw [← hR.b3 hk]
  exact t_atk (sh_st5 hc) (Or.inl (by have := st_lt hc; omega)) I k (by omega) hi
theorem RS.b4 {I : xI} {c : Nat} {g : Nat → Int} {n : Nat} (h : RS I c g n) {k : Nat} (hk : k < n) : I (c + 7) k = gb g k 4 := h.2.1 k hk 4 (by decide)
theorem t_blk4 {I : xI} {c : Nat} {g : Nat → Int} {n : Nat} (hc : x_st c) (hR : RS I c g n) (hn : n ≤ 24) (k : Nat) (hk : k < n) {i : Int} (hi : i = (k : Int)) : S kX4_at 0 [rr (c + 7), ii i] I (q_p (ii (gb g k 4)) I) := by
  rw [← hR.b4 hk]
  exact t_atk (sh_st6 hc) (Or.inl (by have := st_lt hc; omega)) I k (by omega) hi
theorem RS.b5 {I : xI} {c : Nat} {g : Nat → Int} {n : Nat} (h : RS I c g n) {k : Nat} (hk : k < n) : I (c + 8) k = gb g k 5 := h.2.1 k hk 5 (by decide)
theorem t_blk5 {I : xI} {c : Nat} {g : Nat → Int} {n : Nat} (hc : x_st c) (hR : RS I c g n) (hn : n ≤ 24) (k : Nat) (hk : k < n) {i : Int} (hi : i = (k : Int)) : S kX4_at 0 [rr (c + 8), ii i] I (q_p (ii (gb g k 5)) I) := by
  rw [← hR.b5 hk]
  exact t_atk (sh_st7 hc) (Or.inl (by have := st_lt hc; omega)) I k (by omega) hi
theorem RS.b6 {I : xI} {c : Nat} {g : Nat → Int} {n : Nat} (h : RS I c g n) {k : Nat} (hk : k < n) : I (c + 9) k = gb g k 6 := h.2.1 k hk 6 (by decide)
theorem t_blk6 {I : xI} {c : Nat} {g : Nat → Int} {n : Nat} (hc : x_st c) (hR : RS I c g n) (hn : n ≤ 24) (k : Nat) (hk : k < n) {i : Int} (hi : i = (k : Int)) : S kX4_at 0 [rr (c + 9), ii i] I (q_p (ii (gb g k 6)) I) := by
  rw [← hR.b6 hk]
  exact t_atk (sh_st8 hc) (Or.inl (by have := st_lt hc; omega)) I k (by omega) hi
theorem RS.b7 {I : xI} {c : Nat} {g : Nat → Int} {n : Nat} (h : RS I c g n) {k : Nat} (hk : k < n) : I (c + 10) k = gb g k 7 := h.2.1 k hk 7 (by decide)
theorem t_blk7 {I : xI} {c : Nat} {g : Nat → Int} {n : Nat} (hc : x_st c) (hR : RS I c g n) (hn : n ≤ 24) (k : Nat) (hk : k < n) {i : Int} (hi : i = (k : Int)) : S kX4_at 0 [rr (c + 10), ii i] I (q_p (ii (gb g k 7)) I) := by
  rw [← hR.b7 hk]
  exact t_atk (sh_st9 hc) (Or.inl (by have := st_lt hc; omega)) I k (by omega) hi
theorem t_num {I : xI} {c : Nat} {g : Nat → Int} {n : Nat} (hc : x_st c) (hR : RS I c g n) (j : Nat) (hj : j < 23) {i : Int} (hi : i = (j : Int)) : S kX4_at 0 [rr (c + 1), ii i] I (q_p (ii (g j)) I) := by
  rw [← hR.1 j hj]
  exact t_atk (sh_st0 hc) (Or.inl (by have := st_lt hc; omega)) I j hj hi
theorem t_tak {I : xI} {c : Nat} {g : Nat → Int} {n : Nat} (hc : x_st c) (hR : RS I c g n) (j : Nat) (hj : j < 3) {i : Int} (hi : i = (j : Int)) : S kX4_at 0 [rr (c + 2), ii i] I (q_p (ii (onF g n j 1)) I) := by
  rw [← hR.2.2 j hj]
  exact t_atk (sh_st1 hc) (Or.inl (by have := st_lt hc; omega)) I j hj hi
end
section
/-! State: what it is asked -/
set_option maxRecDepth 20000 in
set_option maxHeartbeats 4000000 in
theorem t_countBlocks {I : xI} {c : Nat} {g : Nat → Int} {n : Nat} (hc : x_st c) (hR : RS I c g n) (hG : GI g n) : S kX3_countBlocks 1 [rr c] I (q_p (ii (n : Int)) I) := by
  have lc := st_lt hc
  have hn24 := hG.n24
  refine Sp_intro (by decide +kernel) (Nat.le_of_ble_eq_true rfl) ?_
  show Y kX3_countBlocks 1 0 [some (rr c)] [] I _
  refine X_aload dX3_countBlocks_0 rfl ?_
  refine X_getR dX3_countBlocks_1 rfl gf_X3_9 (sh_st hc) (by omega) rfl (rf_st0 hc) ?_
  refine X_bipush dX3_countBlocks_4 (by decide) ?_
  refine Y_pS dX3_countBlocks_6 cs_X3_49 (t_num hc hR 15 (by decide) rfl) rfl ?_
  refine X_iret dX3_countBlocks_9 (Or.inl rfl) ?_
  exact ⟨by rw [hG.g15], rfl, rfl, rfl⟩
set_option maxRecDepth 20000 in
set_option maxHeartbeats 4000000 in
theorem t_find_loop {I : xI} {c : Nat} {g : Nat → Int} {n : Nat} (hc : x_st c) (hR : RS I c g n) (hG : GI g n) (b : Int) (hb : -2147483648 ≤ b ∧ b ≤ 2147483647) : ∀ (m k : Nat), k + m = n → Y kX3_find 2 7 [some (rr c), some (ii b), some (ii (n : Int)), some (ii (k : Int))] [] I (q_p (ii (oi (plF g b m k) (-1))) I) := by
  have lc := st_lt hc
  have hn24 := hG.n24
  intro m
  induction m with
  | zero =>
    intro k hk
    refine X_iload dX3_find_7 rfl ?_
    refine X_iload dX3_find_8 rfl ?_
    refine X_icmp_ge (tgt := 32) dX3_find_9 (by decide) (by omega) (fun c_9 => ?_) (fun c_9 => absurd c_9 (by omega))
    refine X_iconst dX3_find_32 ?_
    refine X_iret dX3_find_33 (Or.inl rfl) ?_
    exact ⟨rfl, rfl, rfl, rfl⟩
  | succ m ih =>
    intro k hk
    unfold plF
    refine X_iload dX3_find_7 rfl ?_
    refine X_iload dX3_find_8 rfl ?_
    refine X_icmp_ge (tgt := 32) dX3_find_9 (by decide) (by omega) (fun c_9 => absurd c_9 (by omega)) (fun c_9 => ?_)
    refine X_aload dX3_find_12 rfl ?_
    refine X_getR dX3_find_13 rfl gf_X3_18 (sh_st hc) (by omega) rfl (rf_st2 hc) ?_
    refine X_iload dX3_find_16 rfl ?_
    refine Y_pS dX3_find_17 cs_X3_49 (t_blk0 hc hR hn24 k (by omega) rfl) rfl ?_
    refine X_iload dX3_find_20 rfl ?_
    have hb0 := (hG.b (k := k) (by omega)).1
    refine X_icmp_ne (tgt := 26) dX3_find_21 (by decide) (by omega) (fun c_21 => ?_) (fun c_21 => ?_)
    · rw [if_neg c_21]
      refine X_iinc dX3_find_26 rfl ?_
      dsimp only [List.set]
      refine X_goto (tgt := 7) dX3_find_29 (by decide) ?_
      exact ih (k + 1) (by omega)
    · rw [if_pos c_21]
      refine X_iload dX3_find_24 rfl ?_
      refine X_iret dX3_find_25 (Or.inl rfl) ?_
      exact ⟨rfl, rfl, rfl, rfl⟩
set_option maxRecDepth 20000 in
set_option maxHeartbeats 4000000 in
theorem t_find {I : xI} {c : Nat} {g : Nat → Int} {n : Nat} (hc : x_st c) (hR : RS I c g n) (hG : GI g n) (b : Int) (hb : -2147483648 ≤ b ∧ b ≤ 2147483647) : S kX3_find 2 [rr c, ii b] I (q_p (ii (oi (pl g n b) (-1))) I) := by
  have lc := st_lt hc
  have hn24 := hG.n24
  refine Sp_intro (by decide +kernel) (Nat.le_of_ble_eq_true rfl) ?_
  show Y kX3_find 2 0 [some (rr c), some (ii b), none, none] [] I _
  refine X_aload dX3_find_0 rfl ?_
  refine Y_pV dX3_find_1 cv_X3_53 (sh_st hc) (by omega) (t_countBlocks hc hR hG) rfl ?_
  refine X_istore dX3_find_4 (by decide) ?_
  dsimp only [List.set]
  refine X_iconst dX3_find_5 ?_
  refine X_istore dX3_find_6 (by decide) ?_
  dsimp only [List.set]
  exact t_find_loop hc hR hG b hb n 0 (by omega)
set_option maxRecDepth 20000 in
set_option maxHeartbeats 4000000 in
theorem t_countHotter_loop {I : xI} {c : Nat} {g : Nat → Int} {n : Nat} (hc : x_st c) (hR : RS I c g n) (hG : GI g n) (k : Nat) (hk : k < n) (F : Nat → Int) (hF : F = fun q => if gb g k 2 < gb g q 2 ∨ (gb g q 2 = gb g k 2 ∧ q < k) then 1 else 0) : ∀ (m q : Nat), q + m = n → Y kX3_countHotter 2 20 [some (rr c), some (ii (k : Int)), some (ii (n : Int)), some (ii (gb g k 2)), some (ii (sm F q)), some (ii (q : Int)), none] [] I (q_p (ii (sm F n)) I) := by
  have lc := st_lt hc
  have hn24 := hG.n24
  subst hF
  generalize hF : (fun q => if gb g k 2 < gb g q 2 ∨ (gb g q 2 = gb g k 2 ∧ q < k) then (1 : Int) else 0) = F
  have hF' : ∀ q, F q = if gb g k 2 < gb g q 2 ∨ (gb g q 2 = gb g k 2 ∧ q < k) then (1 : Int) else 0 := fun q => by rw [← hF]
  intro m
  induction m with
  | zero =>
    intro q hq
    refine X_iloadW dX3_countHotter_20 rfl ?_
    refine X_iload dX3_countHotter_22 rfl ?_
    refine X_icmp_ge (tgt := 64) dX3_countHotter_23 (by decide) (by omega) (fun c_23 => ?_) (fun c_23 => absurd c_23 (by omega))
    refine X_iloadW dX3_countHotter_64 rfl ?_
    refine X_iret dX3_countHotter_66 (Or.inl rfl) ?_
    exact ⟨by rw [show n = q by omega], rfl, rfl, rfl⟩
  | succ m ih =>
    intro q hq
    refine X_iloadW dX3_countHotter_20 rfl ?_
    refine X_iload dX3_countHotter_22 rfl ?_
    refine X_icmp_ge (tgt := 64) dX3_countHotter_23 (by decide) (by omega) (fun c_23 => absurd c_23 (by omega)) (fun c_23 => ?_)
    refine X_aload dX3_countHotter_26 rfl ?_
    refine X_getR dX3_countHotter_27 rfl gf_X3_24 (sh_st hc) (by omega) rfl (rf_st4 hc) ?_
    refine X_iloadW dX3_countHotter_30 rfl ?_
    refine Y_pS dX3_countHotter_32 cs_X3_49 (t_blk2 hc hR hn24 q (by omega) rfl) rfl ?_
    refine X_istoreW dX3_countHotter_35 (by decide) ?_
    dsimp only [List.set]
    refine X_iloadW dX3_countHotter_37 rfl ?_
    refine X_iload dX3_countHotter_39 rfl ?_
    have h1 := (hG.b (k := k) hk).2.2.1
    have h2 := (hG.b (k := q) (by omega)).2.2.1
    refine X_icmp_gt (tgt := 55) dX3_countHotter_40 (by decide) (by omega) (fun c_40 => ?_) (fun c_40 => ?_)
    · refine X_iinc dX3_countHotter_55 rfl ?_
      dsimp only [List.set]
      refine X_iinc dX3_countHotter_58 rfl ?_
      dsimp only [List.set]
      refine X_goto (tgt := 20) dX3_countHotter_61 (by decide) ?_
      refine X_drop 6 ?_
      dsimp only [List.set]
      first
        | (have e : sm F (q + 1) = sm F q + 1 := by
             show sm F q + F q = _; rw [hF' q]
             rw [if_pos (by omega)]
           rw [← e]
           exact ih (q + 1) (by omega))
        | (have e : sm F (q + 1) = sm F q := by
             show sm F q + F q = _; rw [hF' q]
             rw [if_neg (by omega)]
             omega
           rw [← e]
           exact ih (q + 1) (by omega))
    · refine X_iloadW dX3_countHotter_43 rfl ?_
      refine X_iload dX3_countHotter_45 rfl ?_
      refine X_icmp_ne (tgt := 58) dX3_countHotter_46 (by decide) (by omega) (fun c_46 => ?_) (fun c_46 => ?_)
      · refine X_iinc dX3_countHotter_58 rfl ?_
        dsimp only [List.set]
        refine X_goto (tgt := 20) dX3_countHotter_61 (by decide) ?_
        refine X_drop 6 ?_
        dsimp only [List.set]
        first
          | (have e : sm F (q + 1) = sm F q + 1 := by
               show sm F q + F q = _; rw [hF' q]
               rw [if_pos (by omega)]
             rw [← e]
             exact ih (q + 1) (by omega))
          | (have e : sm F (q + 1) = sm F q := by
               show sm F q + F q = _; rw [hF' q]
               rw [if_neg (by omega)]
               omega
             rw [← e]
             exact ih (q + 1) (by omega))
      · refine X_iloadW dX3_countHotter_49 rfl ?_
        refine X_iload dX3_countHotter_51 rfl ?_
        refine X_icmp_ge (tgt := 58) dX3_countHotter_52 (by decide) (by omega) (fun c_52 => ?_) (fun c_52 => ?_)
        · refine X_iinc dX3_countHotter_58 rfl ?_
          dsimp only [List.set]
          refine X_goto (tgt := 20) dX3_countHotter_61 (by decide) ?_
          refine X_drop 6 ?_
          dsimp only [List.set]
          first
            | (have e : sm F (q + 1) = sm F q + 1 := by
                 show sm F q + F q = _; rw [hF' q]
                 rw [if_pos (by omega)]
               rw [← e]
               exact ih (q + 1) (by omega))
            | (have e : sm F (q + 1) = sm F q := by
                 show sm F q + F q = _; rw [hF' q]
                 rw [if_neg (by omega)]
                 omega
               rw [← e]
               exact ih (q + 1) (by omega))
        · refine X_iinc dX3_countHotter_55 rfl ?_
          dsimp only [List.set]
          refine X_iinc dX3_countHotter_58 rfl ?_
          dsimp only [List.set]
          refine X_goto (tgt := 20) dX3_countHotter_61 (by decide) ?_
          refine X_drop 6 ?_
          dsimp only [List.set]
          first
            | (have e : sm F (q + 1) = sm F q + 1 := by
                 show sm F q + F q = _; rw [hF' q]
                 rw [if_pos (by omega)]
               rw [← e]
               exact ih (q + 1) (by omega))
            | (have e : sm F (q + 1) = sm F q := by
                 show sm F q + F q = _; rw [hF' q]
                 rw [if_neg (by omega)]
                 omega
               rw [← e]
               exact ih (q + 1) (by omega))
set_option maxRecDepth 20000 in
set_option maxHeartbeats 4000000 in
theorem t_countHotter {I : xI} {c : Nat} {g : Nat → Int} {n : Nat} (hc : x_st c) (hR : RS I c g n) (hG : GI g n) (k : Nat) (hk : k < n) : S kX3_countHotter 2 [rr c, ii (k : Int)] I (q_p (ii (hot g n k)) I) := by
  have lc := st_lt hc
  have hn24 := hG.n24
  refine Sp_intro (by decide +kernel) (Nat.le_of_ble_eq_true rfl) ?_
  show Y kX3_countHotter 2 0 [some (rr c), some (ii (k : Int)), none, none, none, none, none] [] I _
  refine X_aload dX3_countHotter_0 rfl ?_
  refine Y_pV dX3_countHotter_1 cv_X3_53 (sh_st hc) (by omega) (t_countBlocks hc hR hG) rfl ?_
  refine X_istore dX3_countHotter_4 (by decide) ?_
  dsimp only [List.set]
  refine X_aload dX3_countHotter_5 rfl ?_
  refine X_getR dX3_countHotter_6 rfl gf_X3_24 (sh_st hc) (by omega) rfl (rf_st4 hc) ?_
  refine X_iload dX3_countHotter_9 rfl ?_
  refine Y_pS dX3_countHotter_10 cs_X3_49 (t_blk2 hc hR hn24 k (by omega) rfl) rfl ?_
  refine X_istore dX3_countHotter_13 (by decide) ?_
  dsimp only [List.set]
  refine X_iconst dX3_countHotter_14 ?_
  refine X_istoreW dX3_countHotter_15 (by decide) ?_
  dsimp only [List.set]
  refine X_iconst dX3_countHotter_17 ?_
  refine X_istoreW dX3_countHotter_18 (by decide) ?_
  dsimp only [List.set]
  exact X_locals (t_countHotter_loop hc hR hG k hk _ rfl n 0 (by omega)) rfl (fun i a h => h)
set_option maxRecDepth 20000 in
set_option maxHeartbeats 4000000 in
theorem t_placeOfRank_loop {I : xI} {c : Nat} {g : Nat → Int} {n : Nat} (hc : x_st c) (hR : RS I c g n) (hG : GI g n) (b : Int) (hb : -2147483648 ≤ b ∧ b ≤ 2147483647) : ∀ (m k : Nat), k + m = n → Y kX3_placeOfRank 3 7 [some (rr c), some (ii b), some (ii (n : Int)), some (ii (k : Int))] [] I (q_p (ii (oi (rkF g n b m k) (-1))) I) := by
  have lc := st_lt hc
  have hn24 := hG.n24
  intro m
  induction m with
  | zero =>
    intro k hk
    refine X_iload dX3_placeOfRank_7 rfl ?_
    refine X_iload dX3_placeOfRank_8 rfl ?_
    refine X_icmp_ge (tgt := 29) dX3_placeOfRank_9 (by decide) (by omega) (fun c_9 => ?_) (fun c_9 => absurd c_9 (by omega))
    refine X_iconst dX3_placeOfRank_29 ?_
    refine X_iret dX3_placeOfRank_30 (Or.inl rfl) ?_
    exact ⟨rfl, rfl, rfl, rfl⟩
  | succ m ih =>
    intro k hk
    unfold rkF
    refine X_iload dX3_placeOfRank_7 rfl ?_
    refine X_iload dX3_placeOfRank_8 rfl ?_
    refine X_icmp_ge (tgt := 29) dX3_placeOfRank_9 (by decide) (by omega) (fun c_9 => absurd c_9 (by omega)) (fun c_9 => ?_)
    refine X_aload dX3_placeOfRank_12 rfl ?_
    refine X_iload dX3_placeOfRank_13 rfl ?_
    refine Y_pV dX3_placeOfRank_14 cv_X3_57 (sh_st hc) (by omega) (t_countHotter hc hR hG k (by omega)) rfl ?_
    refine X_iload dX3_placeOfRank_17 rfl ?_
    have hb0 := hot_bounds (g := g) hn24 k
    refine X_icmp_ne (tgt := 23) dX3_placeOfRank_18 (by decide) (by omega) (fun c_18 => ?_) (fun c_18 => ?_)
    · rw [if_neg c_18]
      refine X_iinc dX3_placeOfRank_23 rfl ?_
      dsimp only [List.set]
      refine X_goto (tgt := 7) dX3_placeOfRank_26 (by decide) ?_
      exact ih (k + 1) (by omega)
    · rw [if_pos c_18]
      refine X_iload dX3_placeOfRank_21 rfl ?_
      refine X_iret dX3_placeOfRank_22 (Or.inl rfl) ?_
      exact ⟨rfl, rfl, rfl, rfl⟩
set_option maxRecDepth 20000 in
set_option maxHeartbeats 4000000 in
theorem t_placeOfRank {I : xI} {c : Nat} {g : Nat → Int} {n : Nat} (hc : x_st c) (hR : RS I c g n) (hG : GI g n) (b : Int) (hb : -2147483648 ≤ b ∧ b ≤ 2147483647) : S kX3_placeOfRank 3 [rr c, ii b] I (q_p (ii (oi (rk g n b) (-1))) I) := by
  have lc := st_lt hc
  have hn24 := hG.n24
  refine Sp_intro (by decide +kernel) (Nat.le_of_ble_eq_true rfl) ?_
  show Y kX3_placeOfRank 3 0 [some (rr c), some (ii b), none, none] [] I _
  refine X_aload dX3_placeOfRank_0 rfl ?_
  refine Y_pV dX3_placeOfRank_1 cv_X3_53 (sh_st hc) (by omega) (t_countBlocks hc hR hG) rfl ?_
  refine X_istore dX3_placeOfRank_4 (by decide) ?_
  dsimp only [List.set]
  refine X_iconst dX3_placeOfRank_5 ?_
  refine X_istore dX3_placeOfRank_6 (by decide) ?_
  dsimp only [List.set]
  exact t_placeOfRank_loop hc hR hG b hb n 0 (by omega)
set_option maxRecDepth 20000 in
set_option maxHeartbeats 4000000 in
theorem t_wantedShelf {I : xI} {c : Nat} {g : Nat → Int} {n : Nat} (hc : x_st c) (hR : RS I c g n) (hG : GI g n) (k : Nat) (hk : k < n) {i : Int} (hi : i = (k : Int)) : S kX3_wantedShelf 1 [rr c, ii i] I (q_p (ii (wt g k)) I) := by
  have lc := st_lt hc
  have hn24 := hG.n24
  subst hi
  refine Sp_intro (by decide +kernel) (Nat.le_of_ble_eq_true rfl) ?_
  show Y kX3_wantedShelf 1 0 [some (rr c), some (ii (k : Int)), none] [] I _
  refine X_aload dX3_wantedShelf_0 rfl ?_
  refine X_getR dX3_wantedShelf_1 rfl gf_X3_24 (sh_st hc) (by omega) rfl (rf_st4 hc) ?_
  refine X_iload dX3_wantedShelf_4 rfl ?_
  refine Y_pS dX3_wantedShelf_5 cs_X3_49 (t_blk2 hc hR hn24 k (by omega) rfl) rfl ?_
  refine X_istore dX3_wantedShelf_8 (by decide) ?_
  dsimp only [List.set]
  refine X_iload dX3_wantedShelf_9 rfl ?_
  refine X_aload dX3_wantedShelf_10 rfl ?_
  refine X_getR dX3_wantedShelf_11 rfl gf_X3_9 (sh_st hc) (by omega) rfl (rf_st0 hc) ?_
  refine X_iconst dX3_wantedShelf_14 ?_
  refine Y_pS dX3_wantedShelf_15 cs_X3_49 (t_num hc hR 1 (by decide) rfl) rfl ?_
  have h1 := (hG.b (k := k) hk).2.2.1
  have h2 := hG.s1
  have h3 := hG.s2
  refine X_icmp_lt (tgt := 23) dX3_wantedShelf_18 (by decide) (by omega) (fun c_18 => ?_) (fun c_18 => ?_)
  · refine X_iload dX3_wantedShelf_23 rfl ?_
    refine X_aload dX3_wantedShelf_24 rfl ?_
    refine X_getR dX3_wantedShelf_25 rfl gf_X3_9 (sh_st hc) (by omega) rfl (rf_st0 hc) ?_
    refine X_iconst dX3_wantedShelf_28 ?_
    refine Y_pS dX3_wantedShelf_29 cs_X3_49 (t_num hc hR 2 (by decide) rfl) rfl ?_
    refine X_icmp_lt (tgt := 39) dX3_wantedShelf_32 (by decide) (by omega) (fun c_32 => ?_) (fun c_32 => ?_)
    · refine X_iconst dX3_wantedShelf_39 ?_
      refine X_iret dX3_wantedShelf_40 (Or.inl rfl) ?_
      refine ⟨?_, rfl, rfl, rfl⟩
      unfold wt
      first | rw [if_pos (by omega)] | rw [if_neg (by omega), if_pos (by omega)] | rw [if_neg (by omega), if_neg (by omega)]
    · refine X_iconst dX3_wantedShelf_35 ?_
      refine X_goto (tgt := 40) dX3_wantedShelf_36 (by decide) ?_
      refine X_iret dX3_wantedShelf_40 (Or.inl rfl) ?_
      refine ⟨?_, rfl, rfl, rfl⟩
      unfold wt
      first | rw [if_pos (by omega)] | rw [if_neg (by omega), if_pos (by omega)] | rw [if_neg (by omega), if_neg (by omega)]
  · refine X_iconst dX3_wantedShelf_21 ?_
    refine X_iret dX3_wantedShelf_22 (Or.inl rfl) ?_
    refine ⟨?_, rfl, rfl, rfl⟩
    unfold wt
    first | rw [if_pos (by omega)] | rw [if_neg (by omega), if_pos (by omega)] | rw [if_neg (by omega), if_neg (by omega)]
set_option maxRecDepth 20000 in
set_option maxHeartbeats 4000000 in
theorem t_hasRoom {I : xI} {c : Nat} {g : Nat → Int} {n : Nat} (hc : x_st c) (hR : RS I c g n) (hG : GI g n) (sh : Nat) (hsh : sh < 3) {i : Int} (hi : i = (sh : Int)) (z : Int) (hz : 0 ≤ z ∧ z ≤ 1000) : S kX3_hasRoom 0 [rr c, ii i, ii z] I (q_p (ii (if rmB g n sh z then 1 else 0)) I) := by
  have lc := st_lt hc
  have hn24 := hG.n24
  subst hi
  refine Sp_intro (by decide +kernel) (Nat.le_of_ble_eq_true rfl) ?_
  show Y kX3_hasRoom 0 0 [some (rr c), some (ii (sh : Int)), some (ii z)] [] I _
  refine X_iload dX3_hasRoom_0 rfl ?_
  refine X_if_lt (tgt := 33) dX3_hasRoom_1 (by decide) (by omega) (fun c_1 => absurd c_1 (by omega)) (fun c_1 => ?_)
  refine X_iload dX3_hasRoom_4 rfl ?_
  refine X_iconst dX3_hasRoom_5 ?_
  refine X_icmp_ge (tgt := 33) dX3_hasRoom_6 (by decide) (by omega) (fun c_6 => absurd c_6 (by omega)) (fun c_6 => ?_)
  refine X_aload dX3_hasRoom_9 rfl ?_
  refine X_getR dX3_hasRoom_10 rfl gf_X3_15 (sh_st hc) (by omega) rfl (rf_st1 hc) ?_
  refine X_iload dX3_hasRoom_13 rfl ?_
  refine X_iald dX3_hasRoom_14 (sh_st1 hc) (Or.inl (by omega)) (by omega) ?_
  refine X_iload dX3_hasRoom_15 rfl ?_
  refine X_iadd dX3_hasRoom_16 ?_
  refine X_aload dX3_hasRoom_17 rfl ?_
  refine X_getR dX3_hasRoom_18 rfl gf_X3_9 (sh_st hc) (by omega) rfl (rf_st0 hc) ?_
  refine X_bipush dX3_hasRoom_21 (by decide) ?_
  refine X_iload dX3_hasRoom_23 rfl ?_
  refine X_iadd dX3_hasRoom_24 ?_
  refine X_iald dX3_hasRoom_25 (sh_st0 hc) (Or.inl (by omega)) (by omega) ?_
  have e1 : ((6 : Int) + (sh : Int)).toNat = 6 + sh := by omega
  rw [e1, Int.toNat_natCast, hR.2.2 sh hsh, hR.1 (6 + sh) (by omega)]
  have h1 := on_bounds hG sh
  have h2 := hG.s6 hsh
  refine X_icmp_gt (tgt := 33) dX3_hasRoom_26 (by decide) (by omega) (fun c_26 => ?_) (fun c_26 => ?_)
  · refine X_iconst dX3_hasRoom_33 ?_
    refine X_iret dX3_hasRoom_34 (Or.inr ⟨rfl, by omega⟩) ?_
    refine ⟨?_, rfl, rfl, rfl⟩
    unfold rmB
    first | rw [decide_eq_true (by omega)]; rfl | rw [decide_eq_false (by omega)]; rfl
  · refine X_iconst dX3_hasRoom_29 ?_
    refine X_goto (tgt := 34) dX3_hasRoom_30 (by decide) ?_
    refine X_iret dX3_hasRoom_34 (Or.inr ⟨rfl, by omega⟩) ?_
    refine ⟨?_, rfl, rfl, rfl⟩
    unfold rmB
    first | rw [decide_eq_true (by omega)]; rfl | rw [decide_eq_false (by omega)]; rfl
set_option maxRecDepth 20000 in
set_option maxHeartbeats 4000000 in
theorem t_countOnShelf_loop {I : xI} {c : Nat} {g : Nat → Int} {n : Nat} (hc : x_st c) (hR : RS I c g n) (hG : GI g n) (sh : Nat) (hsh : sh < 3) : ∀ (m k : Nat), k + m = n → Y kX3_countOnShelf 2 10 [some (rr c), some (ii (sh : Int)), some (ii (n : Int)), some (ii (onF g k sh 0)), some (ii (k : Int))] [] I (q_p (ii (onF g n sh 0)) I) := by
  have lc := st_lt hc
  have hn24 := hG.n24
  intro m
  induction m with
  | zero =>
    intro k hk
    refine X_iloadW dX3_countOnShelf_10 rfl ?_
    refine X_iload dX3_countOnShelf_12 rfl ?_
    refine X_icmp_ge (tgt := 38) dX3_countOnShelf_13 (by decide) (by omega) (fun c_13 => ?_) (fun c_13 => absurd c_13 (by omega))
    refine X_iload dX3_countOnShelf_38 rfl ?_
    refine X_iret dX3_countOnShelf_39 (Or.inl rfl) ?_
    exact ⟨by rw [show n = k by omega], rfl, rfl, rfl⟩
  | succ m ih =>
    intro k hk
    refine X_iloadW dX3_countOnShelf_10 rfl ?_
    refine X_iload dX3_countOnShelf_12 rfl ?_
    refine X_icmp_ge (tgt := 38) dX3_countOnShelf_13 (by decide) (by omega) (fun c_13 => absurd c_13 (by omega)) (fun c_13 => ?_)
    refine X_aload dX3_countOnShelf_16 rfl ?_
    refine X_getR dX3_countOnShelf_17 rfl gf_X3_27 (sh_st hc) (by omega) rfl (rf_st5 hc) ?_
    refine X_iloadW dX3_countOnShelf_20 rfl ?_
    refine Y_pS dX3_countOnShelf_22 cs_X3_49 (t_blk3 hc hR hn24 k (by omega) rfl) rfl ?_
    refine X_iload dX3_countOnShelf_25 rfl ?_
    have h1 := (hG.b (k := k) (by omega)).2.2.2.1
    refine X_icmp_ne (tgt := 32) dX3_countOnShelf_26 (by decide) (by omega) (fun c_26 => ?_) (fun c_26 => ?_)
    · refine X_iinc dX3_countOnShelf_32 rfl ?_
      dsimp only [List.set]
      refine X_goto (tgt := 10) dX3_countOnShelf_35 (by decide) ?_
      first
        | (have e : onF g (k + 1) sh 0 = onF g k sh 0 + 1 := by
             show onF g k sh 0 + (if gb g k 3 = (sh : Int) then (if 0 = 0 then 1 else gb g k 0) else 0) = _
             rw [if_pos (by omega)]; rfl
           rw [← e]
           exact ih (k + 1) (by omega))
        | (have e : onF g (k + 1) sh 0 = onF g k sh 0 := by
             show onF g k sh 0 + (if gb g k 3 = (sh : Int) then (if 0 = 0 then 1 else gb g k 0) else 0) = _
             rw [if_neg (by omega)]; omega
           rw [← e]
           exact ih (k + 1) (by omega))
    · refine X_iinc dX3_countOnShelf_29 rfl ?_
      dsimp only [List.set]
      refine X_iinc dX3_countOnShelf_32 rfl ?_
      dsimp only [List.set]
      refine X_goto (tgt := 10) dX3_countOnShelf_35 (by decide) ?_
      first
        | (have e : onF g (k + 1) sh 0 = onF g k sh 0 + 1 := by
             show onF g k sh 0 + (if gb g k 3 = (sh : Int) then (if 0 = 0 then 1 else gb g k 0) else 0) = _
             rw [if_pos (by omega)]; rfl
           rw [← e]
           exact ih (k + 1) (by omega))
        | (have e : onF g (k + 1) sh 0 = onF g k sh 0 := by
             show onF g k sh 0 + (if gb g k 3 = (sh : Int) then (if 0 = 0 then 1 else gb g k 0) else 0) = _
             rw [if_neg (by omega)]; omega
           rw [← e]
           exact ih (k + 1) (by omega))
set_option maxRecDepth 20000 in
set_option maxHeartbeats 4000000 in
theorem t_countOnShelf {I : xI} {c : Nat} {g : Nat → Int} {n : Nat} (hc : x_st c) (hR : RS I c g n) (hG : GI g n) (sh : Nat) (hsh : sh < 3) {i : Int} (hi : i = (sh : Int)) : S kX3_countOnShelf 2 [rr c, ii i] I (q_p (ii (onF g n sh 0)) I) := by
  have lc := st_lt hc
  have hn24 := hG.n24
  subst hi
  refine Sp_intro (by decide +kernel) (Nat.le_of_ble_eq_true rfl) ?_
  show Y kX3_countOnShelf 2 0 [some (rr c), some (ii (sh : Int)), none, none, none] [] I _
  refine X_aload dX3_countOnShelf_0 rfl ?_
  refine Y_pV dX3_countOnShelf_1 cv_X3_53 (sh_st hc) (by omega) (t_countBlocks hc hR hG) rfl ?_
  refine X_istore dX3_countOnShelf_4 (by decide) ?_
  dsimp only [List.set]
  refine X_iconst dX3_countOnShelf_5 ?_
  refine X_istore dX3_countOnShelf_6 (by decide) ?_
  dsimp only [List.set]
  refine X_iconst dX3_countOnShelf_7 ?_
  refine X_istoreW dX3_countOnShelf_8 (by decide) ?_
  dsimp only [List.set]
  exact t_countOnShelf_loop hc hR hG sh hsh n 0 (by omega)
set_option maxRecDepth 20000 in
set_option maxHeartbeats 4000000 in
theorem t_heatOnShelf_loop {I : xI} {c : Nat} {g : Nat → Int} {n : Nat} (hc : x_st c) (hR : RS I c g n) (hG : GI g n) (sh : Nat) (hsh : sh < 3) : ∀ (m k : Nat), k + m = n → Y kX3_heatOnShelf 2 10 [some (rr c), some (ii (sh : Int)), some (ii (n : Int)), some (ii (onF g k sh 2)), some (ii (k : Int))] [] I (q_p (ii (onF g n sh 2)) I) := by
  have lc := st_lt hc
  have hn24 := hG.n24
  intro m
  induction m with
  | zero =>
    intro k hk
    refine X_iloadW dX3_heatOnShelf_10 rfl ?_
    refine X_iload dX3_heatOnShelf_12 rfl ?_
    refine X_icmp_ge (tgt := 47) dX3_heatOnShelf_13 (by decide) (by omega) (fun c_13 => ?_) (fun c_13 => absurd c_13 (by omega))
    refine X_iload dX3_heatOnShelf_47 rfl ?_
    refine X_iret dX3_heatOnShelf_48 (Or.inl rfl) ?_
    exact ⟨by rw [show n = k by omega], rfl, rfl, rfl⟩
  | succ m ih =>
    intro k hk
    refine X_iloadW dX3_heatOnShelf_10 rfl ?_
    refine X_iload dX3_heatOnShelf_12 rfl ?_
    refine X_icmp_ge (tgt := 47) dX3_heatOnShelf_13 (by decide) (by omega) (fun c_13 => absurd c_13 (by omega)) (fun c_13 => ?_)
    refine X_aload dX3_heatOnShelf_16 rfl ?_
    refine X_getR dX3_heatOnShelf_17 rfl gf_X3_27 (sh_st hc) (by omega) rfl (rf_st5 hc) ?_
    refine X_iloadW dX3_heatOnShelf_20 rfl ?_
    refine Y_pS dX3_heatOnShelf_22 cs_X3_49 (t_blk3 hc hR hn24 k (by omega) rfl) rfl ?_
    refine X_iload dX3_heatOnShelf_25 rfl ?_
    have h1 := (hG.b (k := k) (by omega)).2.2.2.1
    refine X_icmp_ne (tgt := 41) dX3_heatOnShelf_26 (by decide) (by omega) (fun c_26 => ?_) (fun c_26 => ?_)
    · refine X_iinc dX3_heatOnShelf_41 rfl ?_
      dsimp only [List.set]
      refine X_goto (tgt := 10) dX3_heatOnShelf_44 (by decide) ?_
      first
        | (have e : onF g (k + 1) sh 2 = onF g k sh 2 + gb g k 2 := by
             show onF g k sh 2 + (if gb g k 3 = (sh : Int) then (if 2 = 0 then 1 else gb g k 2) else 0) = _
             rw [if_pos (by omega)]; rfl
           rw [← e]
           exact ih (k + 1) (by omega))
        | (have e : onF g (k + 1) sh 2 = onF g k sh 2 := by
             show onF g k sh 2 + (if gb g k 3 = (sh : Int) then (if 2 = 0 then 1 else gb g k 2) else 0) = _
             rw [if_neg (by omega)]; omega
           rw [← e]
           exact ih (k + 1) (by omega))
    · refine X_iload dX3_heatOnShelf_29 rfl ?_
      refine X_aload dX3_heatOnShelf_30 rfl ?_
      refine X_getR dX3_heatOnShelf_31 rfl gf_X3_24 (sh_st hc) (by omega) rfl (rf_st4 hc) ?_
      refine X_iloadW dX3_heatOnShelf_34 rfl ?_
      refine Y_pS dX3_heatOnShelf_36 cs_X3_49 (t_blk2 hc hR hn24 k (by omega) rfl) rfl ?_
      refine X_iadd dX3_heatOnShelf_39 ?_
      refine X_istore dX3_heatOnShelf_40 (by decide) ?_
      dsimp only [List.set]
      refine X_iinc dX3_heatOnShelf_41 rfl ?_
      dsimp only [List.set]
      refine X_goto (tgt := 10) dX3_heatOnShelf_44 (by decide) ?_
      first
        | (have e : onF g (k + 1) sh 2 = onF g k sh 2 + gb g k 2 := by
             show onF g k sh 2 + (if gb g k 3 = (sh : Int) then (if 2 = 0 then 1 else gb g k 2) else 0) = _
             rw [if_pos (by omega)]; rfl
           rw [← e]
           exact ih (k + 1) (by omega))
        | (have e : onF g (k + 1) sh 2 = onF g k sh 2 := by
             show onF g k sh 2 + (if gb g k 3 = (sh : Int) then (if 2 = 0 then 1 else gb g k 2) else 0) = _
             rw [if_neg (by omega)]; omega
           rw [← e]
           exact ih (k + 1) (by omega))
set_option maxRecDepth 20000 in
set_option maxHeartbeats 4000000 in
theorem t_heatOnShelf {I : xI} {c : Nat} {g : Nat → Int} {n : Nat} (hc : x_st c) (hR : RS I c g n) (hG : GI g n) (sh : Nat) (hsh : sh < 3) {i : Int} (hi : i = (sh : Int)) : S kX3_heatOnShelf 2 [rr c, ii i] I (q_p (ii (onF g n sh 2)) I) := by
  have lc := st_lt hc
  have hn24 := hG.n24
  subst hi
  refine Sp_intro (by decide +kernel) (Nat.le_of_ble_eq_true rfl) ?_
  show Y kX3_heatOnShelf 2 0 [some (rr c), some (ii (sh : Int)), none, none, none] [] I _
  refine X_aload dX3_heatOnShelf_0 rfl ?_
  refine Y_pV dX3_heatOnShelf_1 cv_X3_53 (sh_st hc) (by omega) (t_countBlocks hc hR hG) rfl ?_
  refine X_istore dX3_heatOnShelf_4 (by decide) ?_
  dsimp only [List.set]
  refine X_iconst dX3_heatOnShelf_5 ?_
  refine X_istore dX3_heatOnShelf_6 (by decide) ?_
  dsimp only [List.set]
  refine X_iconst dX3_heatOnShelf_7 ?_
  refine X_istoreW dX3_heatOnShelf_8 (by decide) ?_
  dsimp only [List.set]
  exact t_heatOnShelf_loop hc hR hG sh hsh n 0 (by omega)
def htA (g : Nat → Int) (n : Nat) : Int := onF g n 0 2 + onF g n 1 2 + onF g n 2 2
set_option maxRecDepth 20000 in
set_option maxHeartbeats 4000000 in
theorem t_heatOfAll_loop {I : xI} {c : Nat} {g : Nat → Int} {n : Nat} (hc : x_st c) (hR : RS I c g n) (hG : GI g n) : ∀ (m k : Nat), k + m = 3 → Y kX3_heatOfAll 3 4 [some (rr c), some (ii (sm (fun s => onF g n (s : Int) 2) k)), some (ii (k : Int))] [] I (q_p (ii (htA g n)) I) := by
  have lc := st_lt hc
  have hn24 := hG.n24
  intro m
  induction m with
  | zero =>
    intro k hk
    refine X_iload dX3_heatOfAll_4 rfl ?_
    refine X_iconst dX3_heatOfAll_5 ?_
    refine X_icmp_ge (tgt := 23) dX3_heatOfAll_6 (by decide) (by omega) (fun c_6 => ?_) (fun c_6 => absurd c_6 (by omega))
    refine X_iload dX3_heatOfAll_23 rfl ?_
    refine X_iret dX3_heatOfAll_24 (Or.inl rfl) ?_
    exact ⟨by rw [show k = 3 by omega]; unfold htA; show some (ii (0 + onF g n 0 2 + onF g n 1 2 + onF g n 2 2)) = _; rw [Int.zero_add], rfl, rfl, rfl⟩
  | succ m ih =>
    intro k hk
    refine X_iload dX3_heatOfAll_4 rfl ?_
    refine X_iconst dX3_heatOfAll_5 ?_
    refine X_icmp_ge (tgt := 23) dX3_heatOfAll_6 (by decide) (by omega) (fun c_6 => absurd c_6 (by omega)) (fun c_6 => ?_)
    refine X_iload dX3_heatOfAll_9 rfl ?_
    refine X_aload dX3_heatOfAll_10 rfl ?_
    refine X_iload dX3_heatOfAll_11 rfl ?_
    refine Y_pV dX3_heatOfAll_12 cv_X3_61 (sh_st hc) (by omega) (t_heatOnShelf hc hR hG k (by omega) rfl) rfl ?_
    refine X_iadd dX3_heatOfAll_15 ?_
    refine X_istore dX3_heatOfAll_16 (by decide) ?_
    dsimp only [List.set]
    refine X_iinc dX3_heatOfAll_17 rfl ?_
    dsimp only [List.set]
    refine X_goto (tgt := 4) dX3_heatOfAll_20 (by decide) ?_
    exact ih (k + 1) (by omega)
set_option maxRecDepth 20000 in
set_option maxHeartbeats 4000000 in
theorem t_heatOfAll {I : xI} {c : Nat} {g : Nat → Int} {n : Nat} (hc : x_st c) (hR : RS I c g n) (hG : GI g n) : S kX3_heatOfAll 3 [rr c] I (q_p (ii (htA g n)) I) := by
  have lc := st_lt hc
  have hn24 := hG.n24
  refine Sp_intro (by decide +kernel) (Nat.le_of_ble_eq_true rfl) ?_
  show Y kX3_heatOfAll 3 0 [some (rr c), none, none] [] I _
  refine X_iconst dX3_heatOfAll_0 ?_
  refine X_istore dX3_heatOfAll_1 (by decide) ?_
  dsimp only [List.set]
  refine X_iconst dX3_heatOfAll_2 ?_
  refine X_istore dX3_heatOfAll_3 (by decide) ?_
  dsimp only [List.set]
  exact t_heatOfAll_loop hc hR hG 3 0 (by omega)
set_option maxRecDepth 20000 in
set_option maxHeartbeats 4000000 in
theorem t_nightPriceOfShelf {I : xI} {c : Nat} {g : Nat → Int} {n : Nat} (hc : x_st c) (hR : RS I c g n) (hG : GI g n) (sh : Nat) (hsh : sh < 3) {i : Int} (hi : i = (sh : Int)) : S kX3_nightPriceOfShelf 1 [rr c, ii i] I (q_p (ii (onF g n sh 1 * g (9 + sh))) I) := by
  have lc := st_lt hc
  have hn24 := hG.n24
  subst hi
  refine Sp_intro (by decide +kernel) (Nat.le_of_ble_eq_true rfl) ?_
  show Y kX3_nightPriceOfShelf 1 0 [some (rr c), some (ii (sh : Int))] [] I _
  refine X_aload dX3_nightPriceOfShelf_0 rfl ?_
  refine X_getR dX3_nightPriceOfShelf_1 rfl gf_X3_15 (sh_st hc) (by omega) rfl (rf_st1 hc) ?_
  refine X_iload dX3_nightPriceOfShelf_4 rfl ?_
  refine Y_pS dX3_nightPriceOfShelf_5 cs_X3_49 (t_tak hc hR sh (by omega) rfl) rfl ?_
  refine X_aload dX3_nightPriceOfShelf_8 rfl ?_
  refine X_getR dX3_nightPriceOfShelf_9 rfl gf_X3_9 (sh_st hc) (by omega) rfl (rf_st0 hc) ?_
  refine X_bipush dX3_nightPriceOfShelf_12 (by decide) ?_
  refine X_iload dX3_nightPriceOfShelf_14 rfl ?_
  refine X_iadd dX3_nightPriceOfShelf_15 ?_
  refine Y_pS dX3_nightPriceOfShelf_16 cs_X3_49 (t_num hc hR (9 + sh) (by omega) (by omega)) rfl ?_
  refine X_imul dX3_nightPriceOfShelf_19 ?_
  refine X_iret dX3_nightPriceOfShelf_20 (Or.inl rfl) ?_
  exact ⟨rfl, rfl, rfl, rfl⟩
set_option maxRecDepth 20000 in
set_option maxHeartbeats 4000000 in
theorem t_countPinned_loop {I : xI} {c : Nat} {g : Nat → Int} {n : Nat} (hc : x_st c) (hR : RS I c g n) (hG : GI g n) : ∀ (m k : Nat), k + m = n → Y kX3_countPinned 2 9 [some (rr c), some (ii (n : Int)), some (ii (pins g k)), some (ii (k : Int))] [] I (q_p (ii (pins g n)) I) := by
  have lc := st_lt hc
  have hn24 := hG.n24
  intro m
  induction m with
  | zero =>
    intro k hk
    refine X_iload dX3_countPinned_9 rfl ?_
    refine X_iload dX3_countPinned_10 rfl ?_
    refine X_icmp_ge (tgt := 31) dX3_countPinned_11 (by decide) (by omega) (fun c_11 => ?_) (fun c_11 => absurd c_11 (by omega))
    refine X_iload dX3_countPinned_31 rfl ?_
    refine X_iret dX3_countPinned_32 (Or.inl rfl) ?_
    exact ⟨by rw [show n = k by omega], rfl, rfl, rfl⟩
  | succ m ih =>
    intro k hk
    refine X_iload dX3_countPinned_9 rfl ?_
    refine X_iload dX3_countPinned_10 rfl ?_
    refine X_icmp_ge (tgt := 31) dX3_countPinned_11 (by decide) (by omega) (fun c_11 => absurd c_11 (by omega)) (fun c_11 => ?_)
    refine X_iload dX3_countPinned_14 rfl ?_
    refine X_aload dX3_countPinned_15 rfl ?_
    refine X_getR dX3_countPinned_16 rfl gf_X3_30 (sh_st hc) (by omega) rfl (rf_st6 hc) ?_
    refine X_iload dX3_countPinned_19 rfl ?_
    refine Y_pS dX3_countPinned_20 cs_X3_49 (t_blk4 hc hR hn24 k (by omega) rfl) rfl ?_
    refine X_iadd dX3_countPinned_23 ?_
    refine X_istore dX3_countPinned_24 (by decide) ?_
    dsimp only [List.set]
    refine X_iinc dX3_countPinned_25 rfl ?_
    dsimp only [List.set]
    refine X_goto (tgt := 9) dX3_countPinned_28 (by decide) ?_
    exact ih (k + 1) (by omega)
set_option maxRecDepth 20000 in
set_option maxHeartbeats 4000000 in
theorem t_countPinned {I : xI} {c : Nat} {g : Nat → Int} {n : Nat} (hc : x_st c) (hR : RS I c g n) (hG : GI g n) : S kX3_countPinned 2 [rr c] I (q_p (ii (pins g n)) I) := by
  have lc := st_lt hc
  have hn24 := hG.n24
  refine Sp_intro (by decide +kernel) (Nat.le_of_ble_eq_true rfl) ?_
  show Y kX3_countPinned 2 0 [some (rr c), none, none, none] [] I _
  refine X_aload dX3_countPinned_0 rfl ?_
  refine Y_pV dX3_countPinned_1 cv_X3_53 (sh_st hc) (by omega) (t_countBlocks hc hR hG) rfl ?_
  refine X_istore dX3_countPinned_4 (by decide) ?_
  dsimp only [List.set]
  refine X_iconst dX3_countPinned_5 ?_
  refine X_istore dX3_countPinned_6 (by decide) ?_
  dsimp only [List.set]
  refine X_iconst dX3_countPinned_7 ?_
  refine X_istore dX3_countPinned_8 (by decide) ?_
  dsimp only [List.set]
  exact t_countPinned_loop hc hR hG n 0 (by omega)
def frF (g : Nat → Int) (n : Nat) (z : Int) : Nat → Nat → Option Nat
  | 0, _ => none
  | m + 1, i => if rmB g n i z = true then some i else frF g n z m (i + 1)
theorem fr_eq (g : Nat → Int) (n : Nat) (z : Int) : fr g n z = frF g n z 3 0 := rfl
set_option maxRecDepth 20000 in
set_option maxHeartbeats 4000000 in
theorem t_fastestWithRoom_loop {I : xI} {c : Nat} {g : Nat → Int} {n : Nat} (hc : x_st c) (hR : RS I c g n) (hG : GI g n) (z : Int) (hz : 0 ≤ z ∧ z ≤ 1000) : ∀ (m k : Nat), k + m = 3 → Y kX3_fastestWithRoom 1 2 [some (rr c), some (ii z), some (ii (k : Int))] [] I (q_p (ii (oi (frF g n z m k) (-1))) I) := by
  have lc := st_lt hc
  have hn24 := hG.n24
  intro m
  induction m with
  | zero =>
    intro k hk
    refine X_iload dX3_fastestWithRoom_2 rfl ?_
    refine X_iconst dX3_fastestWithRoom_3 ?_
    refine X_icmp_ge (tgt := 24) dX3_fastestWithRoom_4 (by decide) (by omega) (fun c_4 => ?_) (fun c_4 => absurd c_4 (by omega))
    refine X_iconst dX3_fastestWithRoom_24 ?_
    refine X_iret dX3_fastestWithRoom_25 (Or.inl rfl) ?_
    exact ⟨rfl, rfl, rfl, rfl⟩
  | succ m ih =>
    intro k hk
    unfold frF
    refine X_iload dX3_fastestWithRoom_2 rfl ?_
    refine X_iconst dX3_fastestWithRoom_3 ?_
    refine X_icmp_ge (tgt := 24) dX3_fastestWithRoom_4 (by decide) (by omega) (fun c_4 => absurd c_4 (by omega)) (fun c_4 => ?_)
    refine X_aload dX3_fastestWithRoom_7 rfl ?_
    refine X_iload dX3_fastestWithRoom_8 rfl ?_
    refine X_iload dX3_fastestWithRoom_9 rfl ?_
    refine Y_pV dX3_fastestWithRoom_10 cv_X3_74 (sh_st hc) (by omega) (t_hasRoom hc hR hG k (by omega) rfl z (by omega)) rfl ?_
    have hb : (if rmB g n k z = true then (1 : Int) else 0) = 1 ∨ (if rmB g n k z = true then (1 : Int) else 0) = 0 := by split <;> simp
    refine X_if_eq (tgt := 18) dX3_fastestWithRoom_13 (by decide) (by omega) (fun c_13 => ?_) (fun c_13 => ?_)
    · have r : ¬ rmB g n k z = true := fun q => by rw [if_pos q] at c_13; omega
      rw [if_neg r]
      refine X_iinc dX3_fastestWithRoom_18 rfl ?_
      dsimp only [List.set]
      refine X_goto (tgt := 2) dX3_fastestWithRoom_21 (by decide) ?_
      exact ih (k + 1) (by omega)
    · have r : rmB g n k z = true := by
        by_cases q : rmB g n k z = true
        · exact q
        · rw [if_neg q] at c_13; omega
      rw [if_pos r]
      refine X_iload dX3_fastestWithRoom_16 rfl ?_
      refine X_iret dX3_fastestWithRoom_17 (Or.inl rfl) ?_
      exact ⟨rfl, rfl, rfl, rfl⟩
set_option maxRecDepth 20000 in
set_option maxHeartbeats 4000000 in
theorem t_fastestWithRoom {I : xI} {c : Nat} {g : Nat → Int} {n : Nat} (hc : x_st c) (hR : RS I c g n) (hG : GI g n) (z : Int) (hz : 0 ≤ z ∧ z ≤ 1000) : S kX3_fastestWithRoom 1 [rr c, ii z] I (q_p (ii (oi (fr g n z) (-1))) I) := by
  have lc := st_lt hc
  have hn24 := hG.n24
  refine Sp_intro (by decide +kernel) (Nat.le_of_ble_eq_true rfl) ?_
  show Y kX3_fastestWithRoom 1 0 [some (rr c), some (ii z), none] [] I _
  refine X_iconst dX3_fastestWithRoom_0 ?_
  refine X_istore dX3_fastestWithRoom_1 (by decide) ?_
  dsimp only [List.set]
  rw [fr_eq]
  exact t_fastestWithRoom_loop hc hR hG z hz 3 0 (by omega)
end
section
/-! changes of the state: a number, an attribute of a block, a move, a new block, a block less -/
def gN (g : Nat → Int) (j : Nat) (z : Int) : Nat → Int := fun i => if i = j then z else g i
def gB (g : Nat → Int) (k j : Nat) (z : Int) : Nat → Int := fun i => if i = 23 + 8 * k + j then z else g i
theorem gN_num {g : Nat → Int} {j i : Nat} {z : Int} : gN g j z i = if i = j then z else g i := rfl
theorem gN_gb {g : Nat → Int} {j k i : Nat} {z : Int} (hj : j < 23) : gb (gN g j z) k i = gb g k i := by
  unfold gb gN; rw [if_neg (by omega)]
theorem gB_num {g : Nat → Int} {k j i : Nat} {z : Int} (hi : i < 23) : gB g k j z i = g i := by
  unfold gB; rw [if_neg (by omega)]
theorem gB_gb {g : Nat → Int} {k j q i : Nat} {z : Int} (hj : j < 8) (hi : i < 8) : gb (gB g k j z) q i = if q = k ∧ i = j then z else gb g q i := by
  unfold gb gB
  by_cases h : q = k ∧ i = j
  · rw [if_pos h, if_pos (by omega)]
  · rw [if_neg h, if_neg (by omega)]
theorem gB_ne {g : Nat → Int} {k j q i : Nat} {z : Int} (hj : j < 8) (hi : i < 8) (h : i ≠ j) : gb (gB g k j z) q i = gb g q i := by
  rw [gB_gb hj hi, if_neg (by omega)]
theorem gB_nek {g : Nat → Int} {k j q i : Nat} {z : Int} (hj : j < 8) (hi : i < 8) (h : q ≠ k) : gb (gB g k j z) q i = gb g q i := by
  rw [gB_gb hj hi, if_neg (by omega)]
theorem gB_eq {g : Nat → Int} {k j : Nat} {z : Int} (hj : j < 8) : gb (gB g k j z) k j = z := by
  rw [gB_gb hj hj, if_pos ⟨rfl, rfl⟩]
/-- the same state, where it counts -/
def SameG (g g' : Nat → Int) (n : Nat) : Prop := (∀ j, j < 23 → g j = g' j) ∧ ∀ k, k < n → ∀ j, j < 8 → gb g k j = gb g' k j
theorem SameG.rf {g : Nat → Int} {n : Nat} : SameG g g n := ⟨fun _ _ => rfl, fun _ _ _ _ => rfl⟩
theorem SameG.symm {g g' : Nat → Int} {n : Nat} (h : SameG g g' n) : SameG g' g n := ⟨fun j hj => (h.1 j hj).symm, fun k hk j hj => (h.2 k hk j hj).symm⟩
theorem SameG.trans {g g' g'' : Nat → Int} {n : Nat} (h : SameG g g' n) (h' : SameG g' g'' n) : SameG g g'' n := ⟨fun j hj => (h.1 j hj).trans (h'.1 j hj), fun k hk j hj => (h.2 k hk j hj).trans (h'.2 k hk j hj)⟩
theorem on_congr {g g' : Nat → Int} {n : Nat} {sh : Int} {w : Nat} (hw : w < 8) (h : ∀ k, k < n → gb g k 3 = gb g' k 3 ∧ gb g k w = gb g' k w) : onF g n sh w = onF g' n sh w := by
  unfold onF
  refine sm_congr (fun k hk => ?_)
  rw [(h k hk).1, (h k hk).2]
theorem SameG.on {g g' : Nat → Int} {n : Nat} (h : SameG g g' n) {sh : Int} {w : Nat} (hw : w < 8) : onF g n sh w = onF g' n sh w := on_congr hw (fun k hk => ⟨h.2 k hk 3 (by decide), h.2 k hk w hw⟩)
theorem RS.same {I : xI} {c : Nat} {g g' : Nat → Int} {n : Nat} (h : RS I c g n) (e : SameG g g' n) : RS I c g' n := ⟨fun j hj => (h.1 j hj).trans (e.1 j hj), fun k hk j hj => (h.2.1 k hk j hj).trans (e.2 k hk j hj), fun s hs => (h.2.2 s hs).trans (e.on (by decide))⟩
theorem GI.same {g g' : Nat → Int} {n : Nat} (h : GI g n) (e : SameG g g' n) : GI g' n := by
  obtain ⟨h1, h2, h3, h4, h5, h6, h7, h8, h9, h10, h11, h12⟩ := h
  have f := fun j hj => (e.1 j hj).symm
  refine ⟨h1, by rw [f 15 (by decide)]; exact h2, by rw [f 0 (by decide)]; exact h3, by rw [f 1 (by decide)]; exact h4, by rw [f 2 (by decide)]; exact h5, by rw [f 3 (by decide)]; exact h6, by rw [f 4 (by decide)]; exact h7, by rw [f 5 (by decide)]; exact h8, fun j hj => by rw [f _ (by omega)]; exact h9 j hj, fun j hj => by rw [f _ (by omega)]; exact h10 j hj, by rw [f 16 (by decide)]; exact h11, fun k hk => ?_⟩
  have q := fun j hj => (e.2 k hk j hj).symm
  rw [q 0 (by decide), q 1 (by decide), q 2 (by decide), q 3 (by decide), q 4 (by decide), q 5 (by decide)]
  exact h12 k hk
/-- what a method on the State at c leaves alone -/
def FR (I I1 : xI) (c : Nat) : Prop := ∀ q, (q ≤ c ∨ c + 11 ≤ q) → I1 q = I q
theorem FR.rf {I : xI} {c : Nat} : FR I I c := fun _ _ => rfl
theorem FR.trans {I I1 I2 : xI} {c : Nat} (h : FR I I1 c) (h' : FR I1 I2 c) : FR I I2 c := fun q hq => (h' q hq).trans (h q hq)
theorem FR.up {I I1 : xI} {c : Nat} (h : FR I I1 c) {d j : Nat} {z : Int} (h1 : c < d) (h2 : d < c + 11) : FR I (x_up I1 d j z) c := fun q hq => by rw [x_up_ne (by omega)]; exact h q hq
theorem FR.cg {I I1 : xI} {c : Nat} (h : FR I I1 c) {d k i : Nat} (h1 : c < d) (h2 : d < c + 11) : FR I (x_cg I1 d k i) c := fun q hq => by
  have e : x_cg I1 d k i q = I1 q := by funext j; unfold x_cg; rw [if_neg (by omega)]
  rw [e]; exact h q hq
theorem FR.cp {I I1 : xI} {c : Nat} (h : FR I I1 c) {s d m : Nat} (h1 : c < d) (h2 : d < c + 11) : FR I (x_cp I1 s d m) c := fun q hq => by
  have e : x_cp I1 s d m q = I1 q := by funext j; unfold x_cp; rw [if_neg (by omega)]
  rw [e]; exact h q hq
/-- an attribute that is neither size nor shelf -/
theorem RS.setB {I : xI} {c : Nat} {g : Nat → Int} {n : Nat} (h : RS I c g n) {k j : Nat} (hj : j < 8) (h1 : j ≠ 1) (h3 : j ≠ 3) (z : Int) : RS (x_up I (c + 3 + j) k z) c (gB g k j z) n := by
  refine ⟨fun i hi => ?_, fun q hq i hi => ?_, fun s hs => ?_⟩
  · rw [x_up_off (by omega), gB_num hi]; exact h.1 i hi
  · rw [gB_gb hj hi, x_up_app]
    by_cases e : q = k ∧ i = j
    · rw [if_pos e, if_pos (by omega)]
    · rw [if_neg e, if_neg (by omega)]; exact h.2.1 q hq i hi
  · rw [x_up_off (by omega), h.2.2 s hs]
    exact on_congr (by decide) (fun q hq => ⟨(gB_ne hj (by decide) (Ne.symm h3)).symm, (gB_ne hj (by decide) (Ne.symm h1)).symm⟩)
theorem RS.setN {I : xI} {c : Nat} {g : Nat → Int} {n : Nat} (h : RS I c g n) {j : Nat} (hj : j < 23) (z : Int) : RS (x_up I (c + 1) j z) c (gN g j z) n := by
  refine ⟨fun i hi => ?_, fun q hq i hi => ?_, fun s hs => ?_⟩
  · rw [x_up_app, gN_num]
    by_cases e : i = j
    · rw [if_pos e, if_pos ⟨rfl, e⟩]
    · rw [if_neg e, if_neg (by omega)]; exact h.1 i hi
  · rw [gN_gb hj, x_up_off (by omega)]; exact h.2.1 q hq i hi
  · rw [x_up_off (by omega), h.2.2 s hs]
    exact on_congr (by decide) (fun q hq => ⟨(gN_gb hj).symm, (gN_gb hj).symm⟩)
theorem GI.setB {g : Nat → Int} {n : Nat} (h : GI g n) {k j : Nat} (hj : j < 8) {z : Int} (hz : (j = 0 → 0 ≤ z ∧ z ≤ 999) ∧ (j = 1 → 1 ≤ z ∧ z ≤ 9) ∧ (j = 2 → 0 ≤ z ∧ z ≤ 99999) ∧ (j = 3 → 0 ≤ z ∧ z ≤ 2) ∧ (j = 4 → 0 ≤ z ∧ z ≤ 1) ∧ (j = 5 → 0 ≤ z ∧ z ≤ 30)) : GI (gB g k j z) n := by
  obtain ⟨h1, h2, h3, h4, h5, h6, h7, h8, h9, h10, h11, h12⟩ := h
  refine ⟨h1, by rw [gB_num (by decide)]; exact h2, by rw [gB_num (by decide)]; exact h3, by rw [gB_num (by decide)]; exact h4, by rw [gB_num (by decide)]; exact h5, by rw [gB_num (by decide)]; exact h6, by rw [gB_num (by decide)]; exact h7, by rw [gB_num (by decide)]; exact h8, fun i hi => by rw [gB_num (by omega)]; exact h9 i hi, fun i hi => by rw [gB_num (by omega)]; exact h10 i hi, by rw [gB_num (by decide)]; exact h11, fun q hq => ?_⟩
  obtain ⟨b0, b1, b2, b3, b4, b5⟩ := h12 q hq
  obtain ⟨z0, z1, z2, z3, z4, z5⟩ := hz
  rw [gB_gb hj (by decide), gB_gb hj (by decide), gB_gb hj (by decide), gB_gb hj (by decide), gB_gb hj (by decide), gB_gb hj (by decide)]
  refine ⟨?_, ?_, ?_, ?_, ?_, ?_⟩
  · split
    · exact z0 (by omega)
    · exact b0
  · split
    · exact z1 (by omega)
    · exact b1
  · split
    · exact z2 (by omega)
    · exact b2
  · split
    · exact z3 (by omega)
    · exact b3
  · split
    · exact z4 (by omega)
    · exact b4
  · split
    · exact z5 (by omega)
    · exact b5
theorem GI.setN {g : Nat → Int} {n : Nat} (h : GI g n) {j : Nat} (hj : j < 23) {z : Int} (hz : j ≠ 15 ∧ (j = 0 → 0 ≤ z ∧ z ≤ 100) ∧ (j = 1 → 0 ≤ z ∧ z ≤ 20000) ∧ (j = 2 → 0 ≤ z ∧ z ≤ 20000) ∧ (j = 3 → 0 ≤ z ∧ z ≤ 24) ∧ (j = 4 → 0 ≤ z ∧ z ≤ 30) ∧ (j = 5 → 0 ≤ z ∧ z ≤ 50) ∧ (6 ≤ j ∧ j < 9 → 0 ≤ z ∧ z ≤ 200) ∧ (9 ≤ j ∧ j < 15 → 0 ≤ z ∧ z ≤ 50) ∧ (j = 16 → 0 ≤ z ∧ z ≤ 1000)) : GI (gN g j z) n := by
  obtain ⟨h1, h2, h3, h4, h5, h6, h7, h8, h9, h10, h11, h12⟩ := h
  obtain ⟨z15, z0, z1, z2, z3, z4, z5, z6, z9, z16⟩ := hz
  refine ⟨h1, by rw [gN_num, if_neg (by omega)]; exact h2, ?_, ?_, ?_, ?_, ?_, ?_, fun i hi => ?_, fun i hi => ?_, ?_, fun q hq => ?_⟩
  · rw [gN_num]; split
    · exact z0 (by omega)
    · exact h3
  · rw [gN_num]; split
    · exact z1 (by omega)
    · exact h4
  · rw [gN_num]; split
    · exact z2 (by omega)
    · exact h5
  · rw [gN_num]; split
    · exact z3 (by omega)
    · exact h6
  · rw [gN_num]; split
    · exact z4 (by omega)
    · exact h7
  · rw [gN_num]; split
    · exact z5 (by omega)
    · exact h8
  · rw [gN_num]; split
    · exact z6 (by omega)
    · exact h9 i hi
  · rw [gN_num]; split
    · exact z9 (by omega)
    · exact h10 i hi
  · rw [gN_num]; split
    · exact z16 (by omega)
    · exact h11
  · rw [gN_gb hj, gN_gb hj, gN_gb hj, gN_gb hj, gN_gb hj, gN_gb hj]
    exact h12 q hq
/-- an accumulator: no bound -/
theorem GI.acc {g : Nat → Int} {n : Nat} (h : GI g n) {j : Nat} (hj : 17 ≤ j ∧ j < 23) (z : Int) : GI (gN g j z) n := h.setN hj.2 ⟨by omega, by omega, by omega, by omega, by omega, by omega, by omega, by omega, by omega, by omega⟩
/-! a move to another shelf -/
def mv (g : Nat → Int) (k : Nat) (sh : Int) : Nat → Int := gB (gB g k 3 sh) k 7 (gb g k 7 + 1)
theorem mv_num {g : Nat → Int} {k : Nat} {sh : Int} {j : Nat} (hj : j < 23) : mv g k sh j = g j := by unfold mv; rw [gB_num hj, gB_num hj]
theorem mv_gb {g : Nat → Int} {k : Nat} {sh : Int} {q j : Nat} (hj : j < 8) : gb (mv g k sh) q j = if q = k ∧ j = 3 then sh else if q = k ∧ j = 7 then gb g k 7 + 1 else gb g q j := by
  unfold mv
  rw [gB_gb (by decide) hj, gB_gb (by decide) hj]
  by_cases h3 : q = k ∧ j = 3
  · rw [if_neg (by omega), if_pos h3, if_pos h3]
  · by_cases h7 : q = k ∧ j = 7
    · rw [if_pos h7, if_neg h3, if_pos h7]
    · rw [if_neg h7, if_neg h3, if_neg h3, if_neg h7]
theorem on_one {g h : Nat → Int} {n k : Nat} (hk : k < n) (sh : Int) (w : Nat) (e : ∀ q, q < n → q ≠ k → gb g q 3 = gb h q 3 ∧ gb g q w = gb h q w) : onF g n sh w = onF h n sh w - (if gb h k 3 = sh then (if w = 0 then 1 else gb h k w) else 0) + (if gb g k 3 = sh then (if w = 0 then 1 else gb g k w) else 0) := by
  unfold onF
  exact sm_one hk (fun q hq hne => by rw [(e q hq hne).1, (e q hq hne).2])
theorem mv_on {g : Nat → Int} {n k : Nat} (hk : k < n) (sh s : Int) : onF (mv g k sh) n s 1 = onF g n s 1 - (if gb g k 3 = s then gb g k 1 else 0) + (if sh = s then gb g k 1 else 0) := by
  have h := on_one (g := mv g k sh) (h := g) hk s 1 (fun q hq hne => ⟨by rw [mv_gb (by decide), if_neg (by omega), if_neg (by omega)], by rw [mv_gb (by decide), if_neg (by omega), if_neg (by omega)]⟩)
  have e1 : gb (mv g k sh) k 3 = sh := by rw [mv_gb (by decide), if_pos (by omega)]
  have e2 : gb (mv g k sh) k 1 = gb g k 1 := by rw [mv_gb (by decide), if_neg (by omega), if_neg (by omega)]
  rw [h, e1, e2]
  rfl
theorem GI.setM {g : Nat → Int} {n k : Nat} {sh : Int} (h : GI g n) (hs : 0 ≤ sh ∧ sh ≤ 2) : GI (mv g k sh) n :=
  (h.setB (k := k) (j := 3) (z := sh) (by decide) ⟨by omega, by omega, by omega, fun _ => hs, by omega, by omega⟩).setB (by decide) ⟨by omega, by omega, by omega, by omega, by omega, by omega⟩
theorem RS.setM {I : xI} {c : Nat} {g : Nat → Int} {n k o sh : Nat} (h : RS I c g n) (hk : k < n) (ho : gb g k 3 = (o : Int)) (ho3 : o < 3) (hs3 : sh < 3) {I1 I2 I3 I4 : xI} (e1 : I1 = x_up I (c + 2) o (I (c + 2) o + -(gb g k 1))) (e2 : I2 = x_up I1 (c + 2) sh (I1 (c + 2) sh + gb g k 1)) (e3 : I3 = x_up I2 (c + 6) k (sh : Int)) (e4 : I4 = x_up I3 (c + 10) k (I3 (c + 10) k + 1)) : RS I4 c (mv g k (sh : Int)) n := by
  have a1 : ∀ q, q ≠ c + 2 → I2 q = I q := fun q hq => by rw [e2, x_up_ne hq, e1, x_up_ne hq]
  have a2 : ∀ q, q ≠ c + 2 → q ≠ c + 6 → q ≠ c + 10 → I4 q = I q := fun q h1 h2 h3 => by rw [e4, x_up_ne h3, e3, x_up_ne h2, a1 q h1]
  refine ⟨fun i hi => ?_, fun q hq i hi => ?_, fun s hs => ?_⟩
  · rw [a2 _ (by omega) (by omega) (by omega), mv_num hi]; exact h.1 i hi
  · rw [mv_gb hi]
    by_cases h3 : i = 3
    · subst h3
      rw [e4, x_up_ne (by omega), e3, x_up_app]
      by_cases e : q = k
      · rw [if_pos ⟨by omega, e⟩, if_pos ⟨e, rfl⟩]
      · rw [if_neg (by omega), if_neg (by omega), if_neg (by omega), a1 _ (by omega)]; exact h.2.1 q hq 3 hi
    · by_cases h7 : i = 7
      · subst h7
        rw [e4, x_up_app, e3, x_up_ne (by omega), a1 (c + 10) (by omega)]
        by_cases e : q = k
        · rw [if_pos ⟨by omega, e⟩, if_neg (by omega), if_pos ⟨e, rfl⟩, ← h.b7 hk]
        · rw [if_neg (by omega), if_neg (by omega), if_neg (by omega)]; exact h.2.1 q hq 7 hi
      · rw [a2 _ (by omega) (by omega) (by omega), if_neg (by omega), if_neg (by omega)]; exact h.2.1 q hq i hi
  · have e5 : I4 (c + 2) s = I2 (c + 2) s := by rw [e4, x_up_ne (by omega), e3, x_up_ne (by omega)]
    rw [e5, mv_on hk, e2, x_up_app, e1, ho]
    simp only [x_up_app, true_and]
    have b1 := h.2.2 s hs
    have b2 := h.2.2 o ho3
    have b3 := h.2.2 sh hs3
    by_cases q1 : s = sh
    · subst q1
      by_cases q2 : s = o
      · subst q2
        rw [if_pos rfl, if_pos rfl, if_pos rfl]
        omega
      · rw [if_pos rfl, if_neg q2, if_neg (by omega), if_pos rfl]
        omega
    · by_cases q2 : s = o
      · subst q2
        rw [if_neg q1, if_pos rfl, if_pos rfl, if_neg (by omega)]
        omega
      · rw [if_neg q1, if_neg q2, if_neg (by omega), if_neg (by omega)]
        omega

theorem t_putB0 {I : xI} {c : Nat} {g : Nat → Int} {n : Nat} (hc : x_st c) (hR : RS I c g n) (hn : n ≤ 24) (k : Nat) (hk : k < n) {i : Int} (hi : i = (k : Int)) (z : Int) : S kX4_put 0 [rr (c + 3), ii i, ii z] I (q_v (fun I1 => RS I1 c (gB g k 0 (z)) n ∧ FR I I1 c)) := by
  have lc := st_lt hc
  refine S_monoV (t_putk (sh_st2 hc) (by omega) I k (by omega) hi z) (fun I1 h => ?_)
  rw [h]
  exact ⟨hR.setB (j := 0) (by decide) (by decide) (by decide) _, FR.rf.up (by omega) (by omega)⟩
theorem t_putB2 {I : xI} {c : Nat} {g : Nat → Int} {n : Nat} (hc : x_st c) (hR : RS I c g n) (hn : n ≤ 24) (k : Nat) (hk : k < n) {i : Int} (hi : i = (k : Int)) (z : Int) : S kX4_put 0 [rr (c + 5), ii i, ii z] I (q_v (fun I1 => RS I1 c (gB g k 2 (z)) n ∧ FR I I1 c)) := by
  have lc := st_lt hc
  refine S_monoV (t_putk (sh_st4 hc) (by omega) I k (by omega) hi z) (fun I1 h => ?_)
  rw [h]
  exact ⟨hR.setB (j := 2) (by decide) (by decide) (by decide) _, FR.rf.up (by omega) (by omega)⟩
theorem t_putB4 {I : xI} {c : Nat} {g : Nat → Int} {n : Nat} (hc : x_st c) (hR : RS I c g n) (hn : n ≤ 24) (k : Nat) (hk : k < n) {i : Int} (hi : i = (k : Int)) (z : Int) : S kX4_put 0 [rr (c + 7), ii i, ii z] I (q_v (fun I1 => RS I1 c (gB g k 4 (z)) n ∧ FR I I1 c)) := by
  have lc := st_lt hc
  refine S_monoV (t_putk (sh_st6 hc) (by omega) I k (by omega) hi z) (fun I1 h => ?_)
  rw [h]
  exact ⟨hR.setB (j := 4) (by decide) (by decide) (by decide) _, FR.rf.up (by omega) (by omega)⟩
theorem t_putB5 {I : xI} {c : Nat} {g : Nat → Int} {n : Nat} (hc : x_st c) (hR : RS I c g n) (hn : n ≤ 24) (k : Nat) (hk : k < n) {i : Int} (hi : i = (k : Int)) (z : Int) : S kX4_put 0 [rr (c + 8), ii i, ii z] I (q_v (fun I1 => RS I1 c (gB g k 5 (z)) n ∧ FR I I1 c)) := by
  have lc := st_lt hc
  refine S_monoV (t_putk (sh_st7 hc) (by omega) I k (by omega) hi z) (fun I1 h => ?_)
  rw [h]
  exact ⟨hR.setB (j := 5) (by decide) (by decide) (by decide) _, FR.rf.up (by omega) (by omega)⟩
theorem t_putB6 {I : xI} {c : Nat} {g : Nat → Int} {n : Nat} (hc : x_st c) (hR : RS I c g n) (hn : n ≤ 24) (k : Nat) (hk : k < n) {i : Int} (hi : i = (k : Int)) (z : Int) : S kX4_put 0 [rr (c + 9), ii i, ii z] I (q_v (fun I1 => RS I1 c (gB g k 6 (z)) n ∧ FR I I1 c)) := by
  have lc := st_lt hc
  refine S_monoV (t_putk (sh_st8 hc) (by omega) I k (by omega) hi z) (fun I1 h => ?_)
  rw [h]
  exact ⟨hR.setB (j := 6) (by decide) (by decide) (by decide) _, FR.rf.up (by omega) (by omega)⟩
theorem t_putB7 {I : xI} {c : Nat} {g : Nat → Int} {n : Nat} (hc : x_st c) (hR : RS I c g n) (hn : n ≤ 24) (k : Nat) (hk : k < n) {i : Int} (hi : i = (k : Int)) (z : Int) : S kX4_put 0 [rr (c + 10), ii i, ii z] I (q_v (fun I1 => RS I1 c (gB g k 7 (z)) n ∧ FR I I1 c)) := by
  have lc := st_lt hc
  refine S_monoV (t_putk (sh_st9 hc) (by omega) I k (by omega) hi z) (fun I1 h => ?_)
  rw [h]
  exact ⟨hR.setB (j := 7) (by decide) (by decide) (by decide) _, FR.rf.up (by omega) (by omega)⟩
theorem t_putN {I : xI} {c : Nat} {g : Nat → Int} {n : Nat} (hc : x_st c) (hR : RS I c g n) (j : Nat) (hj : j < 23) {i : Int} (hi : i = (j : Int)) (z : Int) : S kX4_put 0 [rr (c + 1), ii i, ii z] I (q_v (fun I1 => RS I1 c (gN g j (z)) n ∧ FR I I1 c)) := by
  have lc := st_lt hc
  refine S_monoV (t_putk (sh_st0 hc) (by omega) I j hj hi z) (fun I1 h => ?_)
  rw [h]
  exact ⟨hR.setN hj _, FR.rf.up (by omega) (by omega)⟩
theorem t_raiseB0 {I : xI} {c : Nat} {g : Nat → Int} {n : Nat} (hc : x_st c) (hR : RS I c g n) (hn : n ≤ 24) (k : Nat) (hk : k < n) {i : Int} (hi : i = (k : Int)) (z : Int) : S kX4_raise 0 [rr (c + 3), ii i, ii z] I (q_v (fun I1 => RS I1 c (gB g k 0 (gb g k 0 + z)) n ∧ FR I I1 c)) := by
  have lc := st_lt hc
  refine S_monoV (t_raisek (sh_st2 hc) (by omega) I k (by omega) hi z) (fun I1 h => ?_)
  rw [h, hR.b0 hk]
  exact ⟨hR.setB (j := 0) (by decide) (by decide) (by decide) _, FR.rf.up (by omega) (by omega)⟩
theorem t_raiseB2 {I : xI} {c : Nat} {g : Nat → Int} {n : Nat} (hc : x_st c) (hR : RS I c g n) (hn : n ≤ 24) (k : Nat) (hk : k < n) {i : Int} (hi : i = (k : Int)) (z : Int) : S kX4_raise 0 [rr (c + 5), ii i, ii z] I (q_v (fun I1 => RS I1 c (gB g k 2 (gb g k 2 + z)) n ∧ FR I I1 c)) := by
  have lc := st_lt hc
  refine S_monoV (t_raisek (sh_st4 hc) (by omega) I k (by omega) hi z) (fun I1 h => ?_)
  rw [h, hR.b2 hk]
  exact ⟨hR.setB (j := 2) (by decide) (by decide) (by decide) _, FR.rf.up (by omega) (by omega)⟩
theorem t_raiseB4 {I : xI} {c : Nat} {g : Nat → Int} {n : Nat} (hc : x_st c) (hR : RS I c g n) (hn : n ≤ 24) (k : Nat) (hk : k < n) {i : Int} (hi : i = (k : Int)) (z : Int) : S kX4_raise 0 [rr (c + 7), ii i, ii z] I (q_v (fun I1 => RS I1 c (gB g k 4 (gb g k 4 + z)) n ∧ FR I I1 c)) := by
  have lc := st_lt hc
  refine S_monoV (t_raisek (sh_st6 hc) (by omega) I k (by omega) hi z) (fun I1 h => ?_)
  rw [h, hR.b4 hk]
  exact ⟨hR.setB (j := 4) (by decide) (by decide) (by decide) _, FR.rf.up (by omega) (by omega)⟩
theorem t_raiseB5 {I : xI} {c : Nat} {g : Nat → Int} {n : Nat} (hc : x_st c) (hR : RS I c g n) (hn : n ≤ 24) (k : Nat) (hk : k < n) {i : Int} (hi : i = (k : Int)) (z : Int) : S kX4_raise 0 [rr (c + 8), ii i, ii z] I (q_v (fun I1 => RS I1 c (gB g k 5 (gb g k 5 + z)) n ∧ FR I I1 c)) := by
  have lc := st_lt hc
  refine S_monoV (t_raisek (sh_st7 hc) (by omega) I k (by omega) hi z) (fun I1 h => ?_)
  rw [h, hR.b5 hk]
  exact ⟨hR.setB (j := 5) (by decide) (by decide) (by decide) _, FR.rf.up (by omega) (by omega)⟩
theorem t_raiseB6 {I : xI} {c : Nat} {g : Nat → Int} {n : Nat} (hc : x_st c) (hR : RS I c g n) (hn : n ≤ 24) (k : Nat) (hk : k < n) {i : Int} (hi : i = (k : Int)) (z : Int) : S kX4_raise 0 [rr (c + 9), ii i, ii z] I (q_v (fun I1 => RS I1 c (gB g k 6 (gb g k 6 + z)) n ∧ FR I I1 c)) := by
  have lc := st_lt hc
  refine S_monoV (t_raisek (sh_st8 hc) (by omega) I k (by omega) hi z) (fun I1 h => ?_)
  rw [h, hR.b6 hk]
  exact ⟨hR.setB (j := 6) (by decide) (by decide) (by decide) _, FR.rf.up (by omega) (by omega)⟩
theorem t_raiseB7 {I : xI} {c : Nat} {g : Nat → Int} {n : Nat} (hc : x_st c) (hR : RS I c g n) (hn : n ≤ 24) (k : Nat) (hk : k < n) {i : Int} (hi : i = (k : Int)) (z : Int) : S kX4_raise 0 [rr (c + 10), ii i, ii z] I (q_v (fun I1 => RS I1 c (gB g k 7 (gb g k 7 + z)) n ∧ FR I I1 c)) := by
  have lc := st_lt hc
  refine S_monoV (t_raisek (sh_st9 hc) (by omega) I k (by omega) hi z) (fun I1 h => ?_)
  rw [h, hR.b7 hk]
  exact ⟨hR.setB (j := 7) (by decide) (by decide) (by decide) _, FR.rf.up (by omega) (by omega)⟩
theorem t_raiseN {I : xI} {c : Nat} {g : Nat → Int} {n : Nat} (hc : x_st c) (hR : RS I c g n) (j : Nat) (hj : j < 23) {i : Int} (hi : i = (j : Int)) (z : Int) : S kX4_raise 0 [rr (c + 1), ii i, ii z] I (q_v (fun I1 => RS I1 c (gN g j (g j + z)) n ∧ FR I I1 c)) := by
  have lc := st_lt hc
  refine S_monoV (t_raisek (sh_st0 hc) (by omega) I j hj hi z) (fun I1 h => ?_)
  rw [h, hR.1 j hj]
  exact ⟨hR.setN hj _, FR.rf.up (by omega) (by omega)⟩
end
section
/-! State: what is done to it -/
set_option maxRecDepth 20000 in
set_option maxHeartbeats 4000000 in
theorem t_moveTo {I : xI} {c : Nat} {g : Nat → Int} {n : Nat} (hc : x_st c) (hR : RS I c g n) (hG : GI g n) (k : Nat) (hk : k < n) {i : Int} (hi : i = (k : Int)) (sh : Nat) (hsh : sh < 3) {i2 : Int} (hi2 : i2 = (sh : Int)) : S kX3_moveTo 1 [rr c, ii i, ii i2] I (q_v (fun I1 => RS I1 c (mv g k (sh : Int)) n ∧ FR I I1 c)) := by
  have lc := st_lt hc
  have hn24 := hG.n24
  subst hi; subst hi2
  have hb := (hG.b hk).2.2.2.1
  obtain ⟨o, ho⟩ := Int.eq_ofNat_of_zero_le hb.1
  refine Sp_intro (by decide +kernel) (Nat.le_of_ble_eq_true rfl) ?_
  show Y kX3_moveTo 1 0 [some (rr c), some (ii (k : Int)), some (ii (sh : Int)), none] [] I _
  refine X_aload dX3_moveTo_0 rfl ?_
  refine X_getR dX3_moveTo_1 rfl gf_X3_21 (sh_st hc) (by omega) rfl (rf_st3 hc) ?_
  refine X_iload dX3_moveTo_4 rfl ?_
  refine Y_pS dX3_moveTo_5 cs_X3_49 (t_blk1 hc hR hn24 k (by omega) rfl) rfl ?_
  refine X_istore dX3_moveTo_8 (by decide) ?_
  dsimp only [List.set]
  refine X_aload dX3_moveTo_9 rfl ?_
  refine X_getR dX3_moveTo_10 rfl gf_X3_15 (sh_st hc) (by omega) rfl (rf_st1 hc) ?_
  refine X_aload dX3_moveTo_13 rfl ?_
  refine X_getR dX3_moveTo_14 rfl gf_X3_27 (sh_st hc) (by omega) rfl (rf_st5 hc) ?_
  refine X_iload dX3_moveTo_17 rfl ?_
  refine Y_pS dX3_moveTo_18 cs_X3_49 (t_blk3 hc hR hn24 k (by omega) rfl) rfl ?_
  refine X_iload dX3_moveTo_21 rfl ?_
  refine X_ineg dX3_moveTo_22 ?_
  refine Y_vS dX3_moveTo_23 cs_X3_71 (t_raisek (sh_st1 hc) (by omega) _ o (by omega) ho _) rfl (fun I1 e1 => ?_)
  refine X_aload dX3_moveTo_26 rfl ?_
  refine X_getR dX3_moveTo_27 rfl gf_X3_15 (sh_st hc) (by omega) rfl (rf_st1 hc) ?_
  refine X_iload dX3_moveTo_30 rfl ?_
  refine X_iload dX3_moveTo_31 rfl ?_
  refine Y_vS dX3_moveTo_32 cs_X3_71 (t_raisek (sh_st1 hc) (by omega) _ sh (by omega) rfl _) rfl (fun I2 e2 => ?_)
  refine X_aload dX3_moveTo_35 rfl ?_
  refine X_getR dX3_moveTo_36 rfl gf_X3_27 (sh_st hc) (by omega) rfl (rf_st5 hc) ?_
  refine X_iload dX3_moveTo_39 rfl ?_
  refine X_iload dX3_moveTo_40 rfl ?_
  refine Y_vS dX3_moveTo_41 cs_X3_67 (t_putk (sh_st5 hc) (by omega) _ k (by omega) rfl _) rfl (fun I3 e3 => ?_)
  refine X_aload dX3_moveTo_44 rfl ?_
  refine X_getR dX3_moveTo_45 rfl gf_X3_39 (sh_st hc) (by omega) rfl (rf_st9 hc) ?_
  refine X_iload dX3_moveTo_48 rfl ?_
  refine X_iconst dX3_moveTo_49 ?_
  refine Y_vS dX3_moveTo_50 cs_X3_71 (t_raisek (sh_st9 hc) (by omega) _ k (by omega) rfl _) rfl (fun I4 e4 => ?_)
  refine X_vret dX3_moveTo_53 rfl ?_
  refine ⟨rfl, rfl, rfl, hR.setM hk ho (by omega) hsh e1 e2 e3 e4, ?_⟩
  subst e1; subst e2; subst e3; subst e4
  exact (((FR.rf.up (by omega) (by omega)).up (by omega) (by omega)).up (by omega) (by omega)).up (by omega) (by omega)
def abP (g : Nat → Int) (k : Nat) : Int := gb g k 1 * g 5 * gb g k 5
def abG1 (g : Nat → Int) (k : Nat) : Nat → Int := gN g 20 (g 20 + abP g k)
def abG2 (g : Nat → Int) (k : Nat) : Nat → Int := gN (abG1 g k) 22 (abG1 g k 22 + 1)
def abG3 (g : Nat → Int) (k : Nat) : Nat → Int := gB (abG2 g k) k 5 0
def abG (g : Nat → Int) (n k : Nat) : Nat → Int := if rmB (abG3 g k) n 0 (gb g k 1) = true then mv (abG3 g k) k ((0 : Nat) : Int) else if rmB (abG3 g k) n 1 (gb g k 1) = true then mv (abG3 g k) k ((1 : Nat) : Int) else abG3 g k
theorem GI.ab3 {g : Nat → Int} {n k : Nat} (h : GI g n) : GI (abG3 g k) n := ((h.acc (by decide) _).acc (by decide) _).setB (by decide) ⟨by omega, by omega, by omega, by omega, by omega, by omega⟩
theorem GI.ab {g : Nat → Int} {n k : Nat} (h : GI g n) : GI (abG g n k) n := by
  unfold abG
  split
  · exact h.ab3.setM (by omega)
  · split
    · exact h.ab3.setM (by omega)
    · exact h.ab3
set_option maxRecDepth 20000 in
set_option maxHeartbeats 4000000 in
theorem t_askBack {I : xI} {c : Nat} {g : Nat → Int} {n : Nat} (hc : x_st c) (hR : RS I c g n) (hG : GI g n) (k : Nat) (hk : k < n) {i : Int} (hi : i = (k : Int)) : S kX3_askBack 2 [rr c, ii i] I (q_i (fun z I1 => z = abP g k ∧ RS I1 c (abG g n k) n ∧ FR I I1 c)) := by
  have lc := st_lt hc
  have hn24 := hG.n24
  have hF : FR I I c := FR.rf
  subst hi
  have hz := (hG.b hk).2.1
  refine Sp_intro (by decide +kernel) (Nat.le_of_ble_eq_true rfl) ?_
  show Y kX3_askBack 2 0 [some (rr c), some (ii (k : Int)), none, none] [] I _
  refine X_aload dX3_askBack_0 rfl ?_
  refine X_getR dX3_askBack_1 rfl gf_X3_21 (sh_st hc) (by omega) rfl (rf_st3 hc) ?_
  refine X_iload dX3_askBack_4 rfl ?_
  refine Y_pS dX3_askBack_5 cs_X3_49 (t_blk1 hc hR hn24 k (by omega) rfl) rfl ?_
  refine X_istore dX3_askBack_8 (by decide) ?_
  dsimp only [List.set]
  refine X_iload dX3_askBack_9 rfl ?_
  refine X_aload dX3_askBack_10 rfl ?_
  refine X_getR dX3_askBack_11 rfl gf_X3_9 (sh_st hc) (by omega) rfl (rf_st0 hc) ?_
  refine X_iconst dX3_askBack_14 ?_
  refine Y_pS dX3_askBack_15 cs_X3_49 (t_num hc hR 5 (by decide) rfl) rfl ?_
  refine X_imul dX3_askBack_18 ?_
  refine X_aload dX3_askBack_19 rfl ?_
  refine X_getR dX3_askBack_20 rfl gf_X3_33 (sh_st hc) (by omega) rfl (rf_st7 hc) ?_
  refine X_iload dX3_askBack_23 rfl ?_
  refine Y_pS dX3_askBack_24 cs_X3_49 (t_blk5 hc hR hn24 k (by omega) rfl) rfl ?_
  refine X_imul dX3_askBack_27 ?_
  refine X_istore dX3_askBack_28 (by decide) ?_
  dsimp only [List.set]
  refine X_aload dX3_askBack_29 rfl ?_
  refine X_getR dX3_askBack_30 rfl gf_X3_9 (sh_st hc) (by omega) rfl (rf_st0 hc) ?_
  refine X_bipush dX3_askBack_33 (by decide) ?_
  refine X_iload dX3_askBack_35 rfl ?_
  refine Y_vS dX3_askBack_36 cs_X3_71 (t_raiseN hc hR 20 (by decide) rfl _) rfl (fun I36 hq36 => ?_)
  obtain ⟨hR, hF36⟩ := hq36
  have hF := hF.trans hF36
  change RS _ c (abG1 g k) n at hR
  have hG := hG.acc (j := 20) (by decide) (g 20 + abP g k)
  change GI (abG1 g k) n at hG
  refine X_aload dX3_askBack_39 rfl ?_
  refine X_getR dX3_askBack_40 rfl gf_X3_9 (sh_st hc) (by omega) rfl (rf_st0 hc) ?_
  refine X_bipush dX3_askBack_43 (by decide) ?_
  refine X_iconst dX3_askBack_45 ?_
  refine Y_vS dX3_askBack_46 cs_X3_71 (t_raiseN hc hR 22 (by decide) rfl _) rfl (fun I46 hq46 => ?_)
  obtain ⟨hR, hF46⟩ := hq46
  have hF := hF.trans hF46
  change RS _ c (abG2 g k) n at hR
  have hG := hG.acc (j := 22) (by decide) (abG1 g k 22 + 1)
  change GI (abG2 g k) n at hG
  refine X_aload dX3_askBack_49 rfl ?_
  refine X_getR dX3_askBack_50 rfl gf_X3_33 (sh_st hc) (by omega) rfl (rf_st7 hc) ?_
  refine X_iload dX3_askBack_53 rfl ?_
  refine X_iconst dX3_askBack_54 ?_
  refine Y_vS dX3_askBack_55 cs_X3_67 (t_putB5 hc hR hn24 k (by omega) rfl _) rfl (fun I55 hq55 => ?_)
  obtain ⟨hR, hF55⟩ := hq55
  have hF := hF.trans hF55
  change RS _ c (abG3 g k) n at hR
  have hG := hG.setB (k := k) (j := 5) (z := 0) (by decide) ⟨by omega, by omega, by omega, by omega, by omega, by omega⟩
  change GI (abG3 g k) n at hG
  refine X_aload dX3_askBack_58 rfl ?_
  refine X_iconst dX3_askBack_59 ?_
  refine X_iload dX3_askBack_60 rfl ?_
  refine Y_pV dX3_askBack_61 cv_X3_74 (sh_st hc) (by omega) (t_hasRoom hc hR hG 0 (by decide) rfl (gb g k 1) (by omega)) rfl ?_
  have hb : (if rmB (abG3 g k) n 0 (gb g k 1) = true then (1 : Int) else 0) = 1 ∨ (if rmB (abG3 g k) n 0 (gb g k 1) = true then (1 : Int) else 0) = 0 := by split <;> simp
  refine X_if_eq (tgt := 76) dX3_askBack_64 (by decide) (by omega) (fun c_64 => ?_) (fun c_64 => ?_)
  · have r0 : ¬ rmB (abG3 g k) n 0 (gb g k 1) = true := fun q => by rw [if_pos q] at c_64; omega
    refine X_aload dX3_askBack_76 rfl ?_
    refine X_iconst dX3_askBack_77 ?_
    refine X_iload dX3_askBack_78 rfl ?_
    refine Y_pV dX3_askBack_79 cv_X3_74 (sh_st hc) (by omega) (t_hasRoom hc hR hG 1 (by decide) rfl (gb g k 1) (by omega)) rfl ?_
    have hb : (if rmB (abG3 g k) n 1 (gb g k 1) = true then (1 : Int) else 0) = 1 ∨ (if rmB (abG3 g k) n 1 (gb g k 1) = true then (1 : Int) else 0) = 0 := by split <;> simp
    refine X_if_eq (tgt := 91) dX3_askBack_82 (by decide) (by omega) (fun c_82 => ?_) (fun c_82 => ?_)
    · have r1 : ¬ rmB (abG3 g k) n 1 (gb g k 1) = true := fun q => by rw [if_pos q] at c_82; omega
      refine X_iload dX3_askBack_91 rfl ?_
      refine X_iret dX3_askBack_92 (Or.inl rfl) ?_
      refine ⟨rfl, rfl, _, rfl, rfl, ?_⟩
      unfold abG
      first
        | (rw [if_pos r0]; exact ⟨hm.1, hF.trans hm.2⟩)
        | (rw [if_neg r0, if_pos r1]; exact ⟨hm.1, hF.trans hm.2⟩)
        | (rw [if_neg r0, if_neg r1]; exact ⟨hR, hF⟩)
    · have r1 : rmB (abG3 g k) n 1 (gb g k 1) = true := by
        by_cases q : rmB (abG3 g k) n 1 (gb g k 1) = true
        · exact q
        · rw [if_neg q] at c_82; omega
      refine X_aload dX3_askBack_85 rfl ?_
      refine X_iload dX3_askBack_86 rfl ?_
      refine X_iconst dX3_askBack_87 ?_
      refine Y_vV dX3_askBack_88 cv_X3_98 (sh_st hc) (by omega) (t_moveTo hc hR hG k hk rfl 1 (by decide) rfl) rfl (fun Im hm => ?_)
      refine X_iload dX3_askBack_91 rfl ?_
      refine X_iret dX3_askBack_92 (Or.inl rfl) ?_
      refine ⟨rfl, rfl, _, rfl, rfl, ?_⟩
      unfold abG
      first
        | (rw [if_pos r0]; exact ⟨hm.1, hF.trans hm.2⟩)
        | (rw [if_neg r0, if_pos r1]; exact ⟨hm.1, hF.trans hm.2⟩)
        | (rw [if_neg r0, if_neg r1]; exact ⟨hR, hF⟩)
  · have r0 : rmB (abG3 g k) n 0 (gb g k 1) = true := by
      by_cases q : rmB (abG3 g k) n 0 (gb g k 1) = true
      · exact q
      · rw [if_neg q] at c_64; omega
    refine X_aload dX3_askBack_67 rfl ?_
    refine X_iload dX3_askBack_68 rfl ?_
    refine X_iconst dX3_askBack_69 ?_
    refine Y_vV dX3_askBack_70 cv_X3_98 (sh_st hc) (by omega) (t_moveTo hc hR hG k hk rfl 0 (by decide) rfl) rfl (fun Im hm => ?_)
    refine X_goto (tgt := 91) dX3_askBack_73 (by decide) ?_
    refine X_iload dX3_askBack_91 rfl ?_
    refine X_iret dX3_askBack_92 (Or.inl rfl) ?_
    refine ⟨rfl, rfl, _, rfl, rfl, ?_⟩
    unfold abG
    first
      | (rw [if_pos r0]; exact ⟨hm.1, hF.trans hm.2⟩)
      | (rw [if_neg r0, if_pos r1]; exact ⟨hm.1, hF.trans hm.2⟩)
      | (rw [if_neg r0, if_neg r1]; exact ⟨hR, hF⟩)
def rdC (g : Nat → Int) (k : Nat) : Int := gb g k 1 * g (12 + (gb g k 3).toNat)
def rdG1 (g : Nat → Int) (k : Nat) : Nat → Int := gN g 19 (g 19 + rdC g k)
def rdG2 (g : Nat → Int) (k : Nat) : Nat → Int := gB (rdG1 g k) k 6 (gb (rdG1 g k) k 6 + 1)
def rdG3 (g : Nat → Int) (k : Nat) : Nat → Int := gB (rdG2 g k) k 2 (min (gb (rdG2 g k) k 2 + 1000) 99999)
def rd1P (g : Nat → Int) (k : Nat) : Int := if gb g k 3 = 2 then rdC g k + abP (rdG3 g k) k else rdC g k
def rd1G (g : Nat → Int) (n k : Nat) : Nat → Int := if gb g k 3 = 2 then abG (rdG3 g k) n k else rdG3 g k
theorem GI.rd2 {g : Nat → Int} {n k : Nat} (h : GI g n) : GI (rdG2 g k) n := (h.acc (j := 19) (by decide) _).setB (by decide) ⟨by omega, by omega, by omega, by omega, by omega, by omega⟩
theorem GI.rd3 {g : Nat → Int} {n k : Nat} (h : GI g n) (hk : k < n) : GI (rdG3 g k) n := by
  have h2 := (h.rd2 (k := k)).b hk
  exact h.rd2.setB (by decide) ⟨by omega, by omega, by omega, by omega, by omega, by omega⟩
theorem GI.rd {g : Nat → Int} {n k : Nat} (h : GI g n) (hk : k < n) : GI (rd1G g n k) n := by
  unfold rd1G
  split
  · exact (h.rd3 hk).ab
  · exact h.rd3 hk
def rbG (g : Nat → Int) (n k : Nat) : Nat → (Nat → Int)
  | 0 => g
  | t + 1 => rd1G (rbG g n k t) n k
def rbP (g : Nat → Int) (n k : Nat) : Nat → Int
  | 0 => 0
  | t + 1 => rbP g n k t + rd1P (rbG g n k t) k
theorem GI.rb {g : Nat → Int} {n k : Nat} (h : GI g n) (hk : k < n) : ∀ t, GI (rbG g n k t) n
  | 0 => h
  | t + 1 => (GI.rb h hk t).rd hk
set_option maxRecDepth 20000 in
set_option maxHeartbeats 4000000 in
theorem t_readOnce {I : xI} {c : Nat} {g : Nat → Int} {n : Nat} (hc : x_st c) (hR : RS I c g n) (hG : GI g n) (k : Nat) (hk : k < n) {i : Int} (hi : i = (k : Int)) : S kX3_readOnce 3 [rr c, ii i] I (q_i (fun z I1 => z = rd1P g k ∧ RS I1 c (rd1G g n k) n ∧ FR I I1 c)) := by
  have lc := st_lt hc
  have hn24 := hG.n24
  have hF : FR I I c := FR.rf
  subst hi
  have hb := (hG.b hk).2.2.2.1
  obtain ⟨o, ho⟩ := Int.eq_ofNat_of_zero_le hb.1
  have ho2 : (gb g k 3).toNat = o := by omega
  have hrc : rdC g k = gb g k 1 * g (12 + o) := by unfold rdC; rw [ho2]
  refine Sp_intro (by decide +kernel) (Nat.le_of_ble_eq_true rfl) ?_
  show Y kX3_readOnce 3 0 [some (rr c), some (ii (k : Int)), none, none] [] I _
  refine X_aload dX3_readOnce_0 rfl ?_
  refine X_getR dX3_readOnce_1 rfl gf_X3_27 (sh_st hc) (by omega) rfl (rf_st5 hc) ?_
  refine X_iload dX3_readOnce_4 rfl ?_
  refine Y_pS dX3_readOnce_5 cs_X3_49 (t_blk3 hc hR hn24 k (by omega) rfl) rfl ?_
  refine X_istore dX3_readOnce_8 (by decide) ?_
  dsimp only [List.set]
  refine X_aload dX3_readOnce_9 rfl ?_
  refine X_getR dX3_readOnce_10 rfl gf_X3_21 (sh_st hc) (by omega) rfl (rf_st3 hc) ?_
  refine X_iload dX3_readOnce_13 rfl ?_
  refine Y_pS dX3_readOnce_14 cs_X3_49 (t_blk1 hc hR hn24 k (by omega) rfl) rfl ?_
  refine X_aload dX3_readOnce_17 rfl ?_
  refine X_getR dX3_readOnce_18 rfl gf_X3_9 (sh_st hc) (by omega) rfl (rf_st0 hc) ?_
  refine X_bipush dX3_readOnce_21 (by decide) ?_
  refine X_iload dX3_readOnce_23 rfl ?_
  refine X_iadd dX3_readOnce_24 ?_
  refine Y_pS dX3_readOnce_25 cs_X3_49 (t_num hc hR (12 + o) (by omega) (by omega)) rfl ?_
  refine X_imul dX3_readOnce_28 ?_
  rw [← hrc]
  refine X_istore dX3_readOnce_29 (by decide) ?_
  dsimp only [List.set]
  refine X_aload dX3_readOnce_30 rfl ?_
  refine X_getR dX3_readOnce_31 rfl gf_X3_9 (sh_st hc) (by omega) rfl (rf_st0 hc) ?_
  refine X_bipush dX3_readOnce_34 (by decide) ?_
  refine X_iload dX3_readOnce_36 rfl ?_
  refine Y_vS dX3_readOnce_37 cs_X3_71 (t_raiseN hc hR 19 (by decide) rfl _) rfl (fun I37 hq37 => ?_)
  obtain ⟨hR, hF37⟩ := hq37
  have hF := hF.trans hF37
  change RS _ c (rdG1 g k) n at hR
  refine X_aload dX3_readOnce_40 rfl ?_
  refine X_getR dX3_readOnce_41 rfl gf_X3_36 (sh_st hc) (by omega) rfl (rf_st8 hc) ?_
  refine X_iload dX3_readOnce_44 rfl ?_
  refine X_iconst dX3_readOnce_45 ?_
  refine Y_vS dX3_readOnce_46 cs_X3_71 (t_raiseB6 hc hR hn24 k (by omega) rfl _) rfl (fun I46 hq46 => ?_)
  obtain ⟨hR, hF46⟩ := hq46
  have hF := hF.trans hF46
  change RS _ c (rdG2 g k) n at hR
  have hG2 := hG.rd2 (k := k)
  have hh := (hG2.b hk).2.2.1
  refine X_aload dX3_readOnce_49 rfl ?_
  refine X_getR dX3_readOnce_50 rfl gf_X3_24 (sh_st hc) (by omega) rfl (rf_st4 hc) ?_
  refine X_iload dX3_readOnce_53 rfl ?_
  refine X_aload dX3_readOnce_54 rfl ?_
  refine X_getR dX3_readOnce_55 rfl gf_X3_24 (sh_st hc) (by omega) rfl (rf_st4 hc) ?_
  refine X_iload dX3_readOnce_58 rfl ?_
  refine Y_pS dX3_readOnce_59 cs_X3_49 (t_blk2 hc hR hn24 k (by omega) rfl) rfl ?_
  refine X_sipush dX3_readOnce_62 (by decide) ?_
  refine X_iadd dX3_readOnce_65 ?_
  refine X_ldc (z := 99999) dX3_readOnce_66 rfl lw_X3_88 (by decide) ?_
  refine X_min dX3_readOnce_68 rfl lk_X3_89 (by omega) (by omega) (by decide) (Nat.le_of_ble_eq_true rfl) ?_
  refine Y_vS dX3_readOnce_71 cs_X3_67 (t_putB2 hc hR hn24 k (by omega) rfl _) rfl (fun I71 hq71 => ?_)
  obtain ⟨hR, hF71⟩ := hq71
  have hF := hF.trans hF71
  change RS _ c (rdG3 g k) n at hR
  have hG := hG.rd3 hk
  refine X_iload dX3_readOnce_74 rfl ?_
  refine X_iconst dX3_readOnce_75 ?_
  refine X_icmp_ne (tgt := 89) dX3_readOnce_76 (by decide) (by omega) (fun c_76 => ?_) (fun c_76 => ?_)
  · rw [rd1P, rd1G, if_neg c_76, if_neg c_76]
    refine X_iload dX3_readOnce_89 rfl ?_
    refine X_iret dX3_readOnce_90 (Or.inl rfl) ?_
    exact ⟨rfl, rfl, _, rfl, rfl, hR, hF⟩
  · rw [rd1P, rd1G, if_pos c_76, if_pos c_76]
    refine X_iload dX3_readOnce_79 rfl ?_
    refine X_aload dX3_readOnce_80 rfl ?_
    refine X_iload dX3_readOnce_81 rfl ?_
    refine Y_iV dX3_readOnce_82 cv_X3_95 (sh_st hc) (by omega) (t_askBack hc hR hG k hk rfl) rfl (fun z82 I82 h82 => ?_)
    obtain ⟨rfl, hR, hF82⟩ := h82
    have hF := hF.trans hF82
    refine X_iadd dX3_readOnce_85 ?_
    refine X_goto (tgt := 90) dX3_readOnce_86 (by decide) ?_
    refine X_iret dX3_readOnce_90 (Or.inl rfl) ?_
    exact ⟨rfl, rfl, _, rfl, rfl, hR, hF⟩
def rbZ (g : Nat → Int) (n : Nat) (b t : Int) : Int := match pl g n b with
  | none => -1
  | some k => if 1 ≤ t ∧ t ≤ 99 then rbP g n k t.toNat else -2
set_option maxRecDepth 20000 in
set_option maxHeartbeats 4000000 in
theorem t_readBlock_loop {I : xI} {c : Nat} {g0 : Nat → Int} {n : Nat} (hc : x_st c) (hG0 : GI g0 n) (b : Int) (k : Nat) (hk : k < n) (t : Nat) (ht : t ≤ 99) : ∀ (m j : Nat), j + m = t → ∀ (I1 : xI), RS I1 c (rbG g0 n k j) n → FR I I1 c → Y kX3_readBlock 4 33 [some (rr c), some (ii b), some (ii (t : Int)), some (ii (k : Int)), some (ii (rbP g0 n k j)), some (ii (j : Int))] [] I1 (q_i (fun z I2 => z = rbP g0 n k t ∧ RS I2 c (rbG g0 n k t) n ∧ FR I I2 c)) := by
  have lc := st_lt hc
  have hn24 := hG0.n24
  intro m
  induction m with
  | zero =>
    intro j hj I1 hR hF
    refine X_iloadW dX3_readBlock_33 rfl ?_
    refine X_iload dX3_readBlock_35 rfl ?_
    refine X_icmp_ge (tgt := 55) dX3_readBlock_36 (by decide) (by omega) (fun c_36 => ?_) (fun c_36 => absurd c_36 (by omega))
    refine X_iloadW dX3_readBlock_55 rfl ?_
    refine X_iret dX3_readBlock_57 (Or.inl rfl) ?_
    rw [show t = j by omega]
    exact ⟨rfl, rfl, _, rfl, rfl, hR, hF⟩
  | succ m ih =>
    intro j hj I1 hR hF
    have hG := hG0.rb hk j
    refine X_iloadW dX3_readBlock_33 rfl ?_
    refine X_iload dX3_readBlock_35 rfl ?_
    refine X_icmp_ge (tgt := 55) dX3_readBlock_36 (by decide) (by omega) (fun c_36 => absurd c_36 (by omega)) (fun c_36 => ?_)
    refine X_iloadW dX3_readBlock_39 rfl ?_
    refine X_aload dX3_readBlock_41 rfl ?_
    refine X_iload dX3_readBlock_42 rfl ?_
    refine Y_iV dX3_readBlock_43 cv_X3_85 (sh_st hc) (by omega) (t_readOnce hc hR hG k hk rfl) rfl (fun z43 I43 h43 => ?_)
    obtain ⟨rfl, hR, hF43⟩ := h43
    have hF := hF.trans hF43
    refine X_iadd dX3_readBlock_46 ?_
    refine X_istoreW dX3_readBlock_47 (by decide) ?_
    dsimp only [List.set]
    refine X_iinc dX3_readBlock_49 rfl ?_
    dsimp only [List.set]
    refine X_goto (tgt := 33) dX3_readBlock_52 (by decide) ?_
    exact ih (j + 1) (by omega) _ hR hF
set_option maxRecDepth 20000 in
set_option maxHeartbeats 4000000 in
theorem t_readBlock {I : xI} {c : Nat} {g : Nat → Int} {n : Nat} (hc : x_st c) (hR : RS I c g n) (hG : GI g n) (b : Int) (hb : -2147483648 ≤ b ∧ b ≤ 2147483647) (t : Int) (ht : -2147483648 ≤ t ∧ t ≤ 2147483647) : S kX3_readBlock 4 [rr c, ii b, ii t] I (q_i (fun z I1 => z = rbZ g n b t ∧ FR I I1 c ∧ (∀ k, pl g n b = some k → 1 ≤ t ∧ t ≤ 99 → RS I1 c (rbG g n k t.toNat) n))) := by
  have lc := st_lt hc
  have hn24 := hG.n24
  have hF : FR I I c := FR.rf
  refine Sp_intro (by decide +kernel) (Nat.le_of_ble_eq_true rfl) ?_
  show Y kX3_readBlock 4 0 [some (rr c), some (ii b), some (ii t), none, none, none] [] I _

  rcases hp : pl g n b with _ | k
  · have hfd := t_find hc hR hG b hb
    rw [hp] at hfd
    change S _ _ _ _ (q_p (ii (-1)) I) at hfd
    refine X_aload dX3_readBlock_0 rfl ?_
    refine X_iload dX3_readBlock_1 rfl ?_
    refine Y_pV dX3_readBlock_2 cv_X3_78 (sh_st hc) (by omega) hfd rfl ?_
    refine X_istore dX3_readBlock_5 (by decide) ?_
    dsimp only [List.set]
    refine X_iload dX3_readBlock_6 rfl ?_
    refine X_iconst dX3_readBlock_7 ?_
    refine X_icmp_ne (tgt := 13) dX3_readBlock_8 (by decide) (by omega) (fun c_8 => absurd c_8 (by omega)) (fun c_8 => ?_)
    refine X_iconst dX3_readBlock_11 ?_
    refine X_iret dX3_readBlock_12 (Or.inl rfl) ?_
    exact ⟨rfl, rfl, _, rfl, by unfold rbZ; rw [hp], hF, fun k h => by cases h⟩
  · have hk := pl_lt hp
    have hfd := t_find hc hR hG b hb
    rw [hp] at hfd
    change S _ _ _ _ (q_p (ii ((k : Nat) : Int)) I) at hfd
    refine X_aload dX3_readBlock_0 rfl ?_
    refine X_iload dX3_readBlock_1 rfl ?_
    refine Y_pV dX3_readBlock_2 cv_X3_78 (sh_st hc) (by omega) hfd rfl ?_
    refine X_istore dX3_readBlock_5 (by decide) ?_
    dsimp only [List.set]
    refine X_iload dX3_readBlock_6 rfl ?_
    refine X_iconst dX3_readBlock_7 ?_
    refine X_icmp_ne (tgt := 13) dX3_readBlock_8 (by decide) (by omega) (fun c_8 => ?_) (fun c_8 => absurd c_8 (by omega))
    refine X_iload dX3_readBlock_13 rfl ?_
    refine X_iconst dX3_readBlock_14 ?_
    refine X_icmp_lt (tgt := 24) dX3_readBlock_15 (by decide) (by omega) (fun c_15 => ?_) (fun c_15 => ?_)
    · refine X_bipush dX3_readBlock_24 (by decide) ?_
      refine X_iret dX3_readBlock_26 (Or.inl rfl) ?_
      exact ⟨rfl, rfl, _, rfl, by unfold rbZ; rw [hp]; show _ = if 1 ≤ t ∧ t ≤ 99 then _ else _; rw [if_neg (by omega)], hF, fun k h1 h2 => absurd h2 (by omega)⟩
    · refine X_iload dX3_readBlock_18 rfl ?_
      refine X_bipush dX3_readBlock_19 (by decide) ?_
      refine X_icmp_le (tgt := 27) dX3_readBlock_21 (by decide) (by omega) (fun c_21 => ?_) (fun c_21 => ?_)
      · refine X_iconst dX3_readBlock_27 ?_
        refine X_istoreW dX3_readBlock_28 (by decide) ?_
        dsimp only [List.set]
        refine X_iconst dX3_readBlock_30 ?_
        refine X_istoreW dX3_readBlock_31 (by decide) ?_
        dsimp only [List.set]
        obtain ⟨u, rfl⟩ := Int.eq_ofNat_of_zero_le (show 0 ≤ t by omega)
        refine X_weaken (t_readBlock_loop hc hG b k hk u (by omega) u 0 (by omega) I hR hF) (fun ro N1 I1 R1 h => ?_)
        obtain ⟨h1, h2, z, h3, h4, h5, h6⟩ := h
        refine ⟨h1, h2, z, h3, ?_, h6, fun k1 h7 _ => ?_⟩
        · unfold rbZ; rw [hp]; show _ = if 1 ≤ (u : Int) ∧ (u : Int) ≤ 99 then _ else _; rw [if_pos (by omega)]; exact h4
        · cases h7; exact h5
      · refine X_bipush dX3_readBlock_24 (by decide) ?_
        refine X_iret dX3_readBlock_26 (Or.inl rfl) ?_
        exact ⟨rfl, rfl, _, rfl, by unfold rbZ; rw [hp]; show _ = if 1 ≤ t ∧ t ≤ 99 then _ else _; rw [if_neg (by omega)], hF, fun k h1 h2 => absurd h2 (by omega)⟩
def pyF (g : Nat → Int) (n : Nat) : Nat → (Nat → Int)
  | 0 => gN g 17 (g 17 + 1)
  | s + 1 => gN (pyF g n s) 18 (pyF g n s 18 + onF (pyF g n s) n (s : Int) 1 * pyF g n s (9 + s))
theorem GI.py {g : Nat → Int} {n : Nat} (h : GI g n) : ∀ s, GI (pyF g n s) n
  | 0 => h.acc (by decide) _
  | s + 1 => (GI.py h s).acc (by decide) _
set_option maxRecDepth 20000 in
set_option maxHeartbeats 4000000 in
theorem t_payNight_loop {I : xI} {c : Nat} {g0 : Nat → Int} {n : Nat} (hc : x_st c) (hG0 : GI g0 n) : ∀ (m k : Nat), k + m = 3 → ∀ (I1 : xI), RS I1 c (pyF g0 n k) n → FR I I1 c → Y kX3_payNight 2 12 [some (rr c), some (ii (k : Int))] [] I1 (q_v (fun I2 => RS I2 c (pyF g0 n 3) n ∧ FR I I2 c)) := by
  have lc := st_lt hc
  have hn24 := hG0.n24
  intro m
  induction m with
  | zero =>
    intro k hk I1 hR hF
    refine X_iload dX3_payNight_12 rfl ?_
    refine X_iconst dX3_payNight_13 ?_
    refine X_icmp_ge (tgt := 37) dX3_payNight_14 (by decide) (by omega) (fun c_14 => ?_) (fun c_14 => absurd c_14 (by omega))
    refine X_vret dX3_payNight_37 rfl ?_
    rw [show k = 3 by omega] at hR
    exact ⟨rfl, rfl, rfl, hR, hF⟩
  | succ m ih =>
    intro k hk I1 hR hF
    have hG := hG0.py k
    refine X_iload dX3_payNight_12 rfl ?_
    refine X_iconst dX3_payNight_13 ?_
    refine X_icmp_ge (tgt := 37) dX3_payNight_14 (by decide) (by omega) (fun c_14 => absurd c_14 (by omega)) (fun c_14 => ?_)
    refine X_aload dX3_payNight_17 rfl ?_
    refine X_getR dX3_payNight_18 rfl gf_X3_9 (sh_st hc) (by omega) rfl (rf_st0 hc) ?_
    refine X_bipush dX3_payNight_21 (by decide) ?_
    refine X_aload dX3_payNight_23 rfl ?_
    refine X_iload dX3_payNight_24 rfl ?_
    refine Y_pV dX3_payNight_25 cv_X3_102 (sh_st hc) (by omega) (t_nightPriceOfShelf hc hR hG k (by omega) rfl) rfl ?_
    refine Y_vS dX3_payNight_28 cs_X3_71 (t_raiseN hc hR 18 (by decide) rfl _) rfl (fun I28 hq28 => ?_)
    obtain ⟨hR, hF28⟩ := hq28
    have hF := hF.trans hF28
    refine X_iinc dX3_payNight_31 rfl ?_
    dsimp only [List.set]
    refine X_goto (tgt := 12) dX3_payNight_34 (by decide) ?_
    exact ih (k + 1) (by omega) _ hR hF
set_option maxRecDepth 20000 in
set_option maxHeartbeats 4000000 in
theorem t_payNight {I : xI} {c : Nat} {g : Nat → Int} {n : Nat} (hc : x_st c) (hR : RS I c g n) (hG : GI g n) : S kX3_payNight 2 [rr c] I (q_v (fun I1 => RS I1 c (pyF g n 3) n ∧ FR I I1 c)) := by
  have lc := st_lt hc
  have hn24 := hG.n24
  have hF : FR I I c := FR.rf
  refine Sp_intro (by decide +kernel) (Nat.le_of_ble_eq_true rfl) ?_
  show Y kX3_payNight 2 0 [some (rr c), none] [] I _
  refine X_aload dX3_payNight_0 rfl ?_
  refine X_getR dX3_payNight_1 rfl gf_X3_9 (sh_st hc) (by omega) rfl (rf_st0 hc) ?_
  refine X_bipush dX3_payNight_4 (by decide) ?_
  refine X_iconst dX3_payNight_6 ?_
  refine Y_vS dX3_payNight_7 cs_X3_71 (t_raiseN hc hR 17 (by decide) rfl _) rfl (fun I7 hq7 => ?_)
  obtain ⟨hR, hF7⟩ := hq7
  have hF := hF.trans hF7
  refine X_iconst dX3_payNight_10 ?_
  refine X_istore dX3_payNight_11 (by decide) ?_
  dsimp only [List.set]
  exact t_payNight_loop hc hG 3 0 (by omega) _ hR hF
def fdH (g : Nat → Int) (k : Nat) (f : Int) : Nat → Int := gB g k 2 (gb g k 2 * f / 100)
def fd1 (g : Nat → Int) (k : Nat) (f : Int) : Nat → Int := gB (fdH g k f) k 5 (max (gb (fdH g k f) k 5 - 1) 0)
def fdF (g : Nat → Int) : Nat → (Nat → Int)
  | 0 => g
  | k + 1 => fd1 (fdF g k) k (g 0)
theorem GI.fdh {g : Nat → Int} {n k : Nat} (h : GI g n) (hk : k < n) {f : Int} (hf : 0 ≤ f ∧ f ≤ 100) : 0 ≤ gb g k 2 * f ∧ gb g k 2 * f ≤ 9999900 := by
  have h2 := (h.b hk).2.2.1
  have a := Int.mul_nonneg h2.1 hf.1
  have b := Int.mul_le_mul h2.2 hf.2 hf.1 (by omega)
  omega
theorem GI.fadeH {g : Nat → Int} {n k : Nat} (h : GI g n) (hk : k < n) {f : Int} (hf : 0 ≤ f ∧ f ≤ 100) : GI (fdH g k f) n := by
  have h2 := h.fdh hk hf
  exact h.setB (by decide) ⟨by omega, by omega, by omega, by omega, by omega, by omega⟩
theorem GI.fade1 {g : Nat → Int} {n k : Nat} (h : GI g n) (hk : k < n) {f : Int} (hf : 0 ≤ f ∧ f ≤ 100) : GI (fd1 g k f) n := by
  have h5 := ((h.fadeH hk hf).b hk).2.2.2.2.2
  exact (h.fadeH hk hf).setB (by decide) ⟨by omega, by omega, by omega, by omega, by omega, by omega⟩
theorem GI.fd {g : Nat → Int} {n : Nat} (h : GI g n) : ∀ k, k ≤ n → GI (fdF g k) n
  | 0, _ => h
  | k + 1, hk => (GI.fd h k (by omega)).fade1 (by omega) h.s0
set_option maxRecDepth 20000 in
set_option maxHeartbeats 4000000 in
theorem t_fade_loop {I : xI} {c : Nat} {g0 : Nat → Int} {n : Nat} (hc : x_st c) (hG0 : GI g0 n) : ∀ (m k : Nat), k + m = n → ∀ (I1 : xI), RS I1 c (fdF g0 k) n → FR I I1 c → Y kX3_fade 2 16 [some (rr c), some (ii (n : Int)), some (ii (g0 0)), some (ii (k : Int))] [] I1 (q_v (fun I2 => RS I2 c (fdF g0 n) n ∧ FR I I2 c)) := by
  have lc := st_lt hc
  have hn24 := hG0.n24
  intro m
  induction m with
  | zero =>
    intro k hk I1 hR hF
    refine X_iload dX3_fade_16 rfl ?_
    refine X_iload dX3_fade_17 rfl ?_
    refine X_icmp_ge (tgt := 70) dX3_fade_18 (by decide) (by omega) (fun c_18 => ?_) (fun c_18 => absurd c_18 (by omega))
    refine X_vret dX3_fade_70 rfl ?_
    rw [show k = n by omega] at hR
    exact ⟨rfl, rfl, rfl, hR, hF⟩
  | succ m ih =>
    intro k hk I1 hR hF
    have hG := hG0.fd k (by omega)
    refine X_iload dX3_fade_16 rfl ?_
    refine X_iload dX3_fade_17 rfl ?_
    refine X_icmp_ge (tgt := 70) dX3_fade_18 (by decide) (by omega) (fun c_18 => absurd c_18 (by omega)) (fun c_18 => ?_)
    refine X_aload dX3_fade_21 rfl ?_
    refine X_getR dX3_fade_22 rfl gf_X3_24 (sh_st hc) (by omega) rfl (rf_st4 hc) ?_
    refine X_iload dX3_fade_25 rfl ?_
    refine X_aload dX3_fade_26 rfl ?_
    refine X_getR dX3_fade_27 rfl gf_X3_24 (sh_st hc) (by omega) rfl (rf_st4 hc) ?_
    refine X_iload dX3_fade_30 rfl ?_
    refine Y_pS dX3_fade_31 cs_X3_49 (t_blk2 hc hR hn24 k (by omega) rfl) rfl ?_
    refine X_iload dX3_fade_34 rfl ?_
    refine X_imul dX3_fade_35 ?_
    refine X_bipush dX3_fade_36 (by decide) ?_
    have hm := hG.fdh (k := k) (by omega) hG0.s0
    refine X_idiv dX3_fade_38 (by omega) (by omega) ?_
    refine Y_vS dX3_fade_39 cs_X3_67 (t_putB2 hc hR hn24 k (by omega) rfl _) rfl (fun I39 hq39 => ?_)
    obtain ⟨hR, hF39⟩ := hq39
    have hF := hF.trans hF39
    change RS _ c (fdH (fdF g0 k) k (g0 0)) n at hR
    have hG := hG.fadeH (k := k) (by omega) hG0.s0
    have h5 := (hG.b (k := k) (by omega)).2.2.2.2.2
    refine X_aload dX3_fade_42 rfl ?_
    refine X_getR dX3_fade_43 rfl gf_X3_33 (sh_st hc) (by omega) rfl (rf_st7 hc) ?_
    refine X_iload dX3_fade_46 rfl ?_
    refine X_aload dX3_fade_47 rfl ?_
    refine X_getR dX3_fade_48 rfl gf_X3_33 (sh_st hc) (by omega) rfl (rf_st7 hc) ?_
    refine X_iload dX3_fade_51 rfl ?_
    refine Y_pS dX3_fade_52 cs_X3_49 (t_blk5 hc hR hn24 k (by omega) rfl) rfl ?_
    refine X_iconst dX3_fade_55 ?_
    refine X_isub dX3_fade_56 ?_
    refine X_iconst dX3_fade_57 ?_
    refine X_max dX3_fade_58 rfl lk_X3_105 (by omega) (by omega) (by decide) (Nat.le_of_ble_eq_true rfl) ?_
    refine Y_vS dX3_fade_61 cs_X3_67 (t_putB5 hc hR hn24 k (by omega) rfl _) rfl (fun I61 hq61 => ?_)
    obtain ⟨hR, hF61⟩ := hq61
    have hF := hF.trans hF61
    refine X_iinc dX3_fade_64 rfl ?_
    dsimp only [List.set]
    refine X_goto (tgt := 16) dX3_fade_67 (by decide) ?_
    exact ih (k + 1) (by omega) _ hR hF
set_option maxRecDepth 20000 in
set_option maxHeartbeats 4000000 in
theorem t_fade {I : xI} {c : Nat} {g : Nat → Int} {n : Nat} (hc : x_st c) (hR : RS I c g n) (hG : GI g n) : S kX3_fade 2 [rr c] I (q_v (fun I1 => RS I1 c (fdF g n) n ∧ FR I I1 c)) := by
  have lc := st_lt hc
  have hn24 := hG.n24
  have hF : FR I I c := FR.rf
  refine Sp_intro (by decide +kernel) (Nat.le_of_ble_eq_true rfl) ?_
  show Y kX3_fade 2 0 [some (rr c), none, none, none] [] I _
  refine X_aload dX3_fade_0 rfl ?_
  refine Y_pV dX3_fade_1 cv_X3_53 (sh_st hc) (by omega) (t_countBlocks hc hR hG) rfl ?_
  refine X_istore dX3_fade_4 (by decide) ?_
  dsimp only [List.set]
  refine X_aload dX3_fade_5 rfl ?_
  refine X_getR dX3_fade_6 rfl gf_X3_9 (sh_st hc) (by omega) rfl (rf_st0 hc) ?_
  refine X_iconst dX3_fade_9 ?_
  refine Y_pS dX3_fade_10 cs_X3_49 (t_num hc hR 0 (by decide) rfl) rfl ?_
  refine X_istore dX3_fade_13 (by decide) ?_
  dsimp only [List.set]
  refine X_iconst dX3_fade_14 ?_
  refine X_istore dX3_fade_15 (by decide) ?_
  dsimp only [List.set]
  exact t_fade_loop hc hG n 0 (by omega) _ hR hF
def tpZ (g : Nat → Int) (n : Nat) (b p : Int) : Int := match pl g n b with
  | none => -1
  | some k => if gb g k 4 = p then -5 else pins (gB g k 4 p) n
set_option maxRecDepth 20000 in
set_option maxHeartbeats 4000000 in
theorem t_turnPin0 {I : xI} {c : Nat} {g : Nat → Int} {n : Nat} (hc : x_st c) (hR : RS I c g n) (hG : GI g n) (b : Int) (hb : -2147483648 ≤ b ∧ b ≤ 2147483647) : S kX3_turnPin 3 [rr c, ii b, ii 0] I (q_i (fun z I1 => z = tpZ g n b 0 ∧ FR I I1 c ∧ (∀ k, pl g n b = some k → ¬ gb g k 4 = 0 → RS I1 c (gB g k 4 0) n))) := by
  have lc := st_lt hc
  have hn24 := hG.n24
  have hF : FR I I c := FR.rf
  refine Sp_intro (by decide +kernel) (Nat.le_of_ble_eq_true rfl) ?_
  show Y kX3_turnPin 3 0 [some (rr c), some (ii b), some (ii 0), none, none] [] I _

  rcases hp : pl g n b with _ | k
  · have hfd := t_find hc hR hG b hb
    rw [hp] at hfd
    change S _ _ _ _ (q_p (ii (-1)) I) at hfd
    refine X_aload dX3_turnPin_0 rfl ?_
    refine X_iload dX3_turnPin_1 rfl ?_
    refine Y_pV dX3_turnPin_2 cv_X3_78 (sh_st hc) (by omega) hfd rfl ?_
    refine X_istore dX3_turnPin_5 (by decide) ?_
    dsimp only [List.set]
    refine X_iload dX3_turnPin_6 rfl ?_
    refine X_iconst dX3_turnPin_7 ?_
    refine X_icmp_ne (tgt := 13) dX3_turnPin_8 (by decide) (by omega) (fun c_8 => absurd c_8 (by omega)) (fun c_8 => ?_)
    refine X_iconst dX3_turnPin_11 ?_
    refine X_iret dX3_turnPin_12 (Or.inl rfl) ?_
    exact ⟨rfl, rfl, _, rfl, by unfold tpZ; rw [hp], hF, fun k h => by cases h⟩
  · have hk := pl_lt hp
    have hfd := t_find hc hR hG b hb
    rw [hp] at hfd
    change S _ _ _ _ (q_p (ii ((k : Nat) : Int)) I) at hfd
    refine X_aload dX3_turnPin_0 rfl ?_
    refine X_iload dX3_turnPin_1 rfl ?_
    refine Y_pV dX3_turnPin_2 cv_X3_78 (sh_st hc) (by omega) hfd rfl ?_
    refine X_istore dX3_turnPin_5 (by decide) ?_
    dsimp only [List.set]
    refine X_iload dX3_turnPin_6 rfl ?_
    refine X_iconst dX3_turnPin_7 ?_
    refine X_icmp_ne (tgt := 13) dX3_turnPin_8 (by decide) (by omega) (fun c_8 => ?_) (fun c_8 => absurd c_8 (by omega))
    refine X_iload dX3_turnPin_13 rfl ?_
    refine X_if_eq (tgt := 21) dX3_turnPin_14 (by decide) (by omega) (fun c_14 => ?_) (fun c_14 => absurd c_14 (by omega))
    refine X_iconst dX3_turnPin_21 ?_
    refine X_istoreW dX3_turnPin_22 (by decide) ?_
    dsimp only [List.set]
    refine X_aload dX3_turnPin_24 rfl ?_
    refine X_getR dX3_turnPin_25 rfl gf_X3_30 (sh_st hc) (by omega) rfl (rf_st6 hc) ?_
    refine X_iload dX3_turnPin_28 rfl ?_
    refine Y_pS dX3_turnPin_29 cs_X3_49 (t_blk4 hc hR hn24 k (by omega) rfl) rfl ?_
    refine X_iloadW dX3_turnPin_32 rfl ?_
    have hb4 := (hG.b hk).2.2.2.2.1
    refine X_icmp_ne (tgt := 40) dX3_turnPin_34 (by decide) (by omega) (fun c_34 => ?_) (fun c_34 => ?_)
    · refine X_aload dX3_turnPin_40 rfl ?_
      refine X_getR dX3_turnPin_41 rfl gf_X3_30 (sh_st hc) (by omega) rfl (rf_st6 hc) ?_
      refine X_iload dX3_turnPin_44 rfl ?_
      refine X_iloadW dX3_turnPin_45 rfl ?_
      refine Y_vS dX3_turnPin_47 cs_X3_67 (t_putB4 hc hR hn24 k (by omega) rfl _) rfl (fun I47 hq47 => ?_)
      obtain ⟨hR, hF47⟩ := hq47
      have hF := hF.trans hF47
      have hG := hG.setB (k := k) (j := 4) (z := 0) (by decide) ⟨by omega, by omega, by omega, by omega, by omega, by omega⟩
      refine X_aload dX3_turnPin_50 rfl ?_
      refine Y_pV dX3_turnPin_51 cv_X3_108 (sh_st hc) (by omega) (t_countPinned hc hR hG) rfl ?_
      refine X_iret dX3_turnPin_54 (Or.inl rfl) ?_
      exact ⟨rfl, rfl, _, rfl, by unfold tpZ; rw [hp]; show _ = if _ then _ else _; rw [if_neg c_34], hF, fun k1 h h2 => by cases h; exact hR⟩
    · refine X_bipush dX3_turnPin_37 (by decide) ?_
      refine X_iret dX3_turnPin_39 (Or.inl rfl) ?_
      exact ⟨rfl, rfl, _, rfl, by unfold tpZ; rw [hp]; show _ = if _ then _ else _; rw [if_pos c_34], hF, fun k1 h h2 => by cases h; exact absurd c_34 h2⟩
set_option maxRecDepth 20000 in
set_option maxHeartbeats 4000000 in
theorem t_turnPin1 {I : xI} {c : Nat} {g : Nat → Int} {n : Nat} (hc : x_st c) (hR : RS I c g n) (hG : GI g n) (b : Int) (hb : -2147483648 ≤ b ∧ b ≤ 2147483647) : S kX3_turnPin 3 [rr c, ii b, ii 1] I (q_i (fun z I1 => z = tpZ g n b 1 ∧ FR I I1 c ∧ (∀ k, pl g n b = some k → ¬ gb g k 4 = 1 → RS I1 c (gB g k 4 1) n))) := by
  have lc := st_lt hc
  have hn24 := hG.n24
  have hF : FR I I c := FR.rf
  refine Sp_intro (by decide +kernel) (Nat.le_of_ble_eq_true rfl) ?_
  show Y kX3_turnPin 3 0 [some (rr c), some (ii b), some (ii 1), none, none] [] I _

  rcases hp : pl g n b with _ | k
  · have hfd := t_find hc hR hG b hb
    rw [hp] at hfd
    change S _ _ _ _ (q_p (ii (-1)) I) at hfd
    refine X_aload dX3_turnPin_0 rfl ?_
    refine X_iload dX3_turnPin_1 rfl ?_
    refine Y_pV dX3_turnPin_2 cv_X3_78 (sh_st hc) (by omega) hfd rfl ?_
    refine X_istore dX3_turnPin_5 (by decide) ?_
    dsimp only [List.set]
    refine X_iload dX3_turnPin_6 rfl ?_
    refine X_iconst dX3_turnPin_7 ?_
    refine X_icmp_ne (tgt := 13) dX3_turnPin_8 (by decide) (by omega) (fun c_8 => absurd c_8 (by omega)) (fun c_8 => ?_)
    refine X_iconst dX3_turnPin_11 ?_
    refine X_iret dX3_turnPin_12 (Or.inl rfl) ?_
    exact ⟨rfl, rfl, _, rfl, by unfold tpZ; rw [hp], hF, fun k h => by cases h⟩
  · have hk := pl_lt hp
    have hfd := t_find hc hR hG b hb
    rw [hp] at hfd
    change S _ _ _ _ (q_p (ii ((k : Nat) : Int)) I) at hfd
    refine X_aload dX3_turnPin_0 rfl ?_
    refine X_iload dX3_turnPin_1 rfl ?_
    refine Y_pV dX3_turnPin_2 cv_X3_78 (sh_st hc) (by omega) hfd rfl ?_
    refine X_istore dX3_turnPin_5 (by decide) ?_
    dsimp only [List.set]
    refine X_iload dX3_turnPin_6 rfl ?_
    refine X_iconst dX3_turnPin_7 ?_
    refine X_icmp_ne (tgt := 13) dX3_turnPin_8 (by decide) (by omega) (fun c_8 => ?_) (fun c_8 => absurd c_8 (by omega))
    refine X_iload dX3_turnPin_13 rfl ?_
    refine X_if_eq (tgt := 21) dX3_turnPin_14 (by decide) (by omega) (fun c_14 => absurd c_14 (by omega)) (fun c_14 => ?_)
    refine X_iconst dX3_turnPin_17 ?_
    refine X_goto (tgt := 22) dX3_turnPin_18 (by decide) ?_
    refine X_istoreW dX3_turnPin_22 (by decide) ?_
    dsimp only [List.set]
    refine X_aload dX3_turnPin_24 rfl ?_
    refine X_getR dX3_turnPin_25 rfl gf_X3_30 (sh_st hc) (by omega) rfl (rf_st6 hc) ?_
    refine X_iload dX3_turnPin_28 rfl ?_
    refine Y_pS dX3_turnPin_29 cs_X3_49 (t_blk4 hc hR hn24 k (by omega) rfl) rfl ?_
    refine X_iloadW dX3_turnPin_32 rfl ?_
    have hb4 := (hG.b hk).2.2.2.2.1
    refine X_icmp_ne (tgt := 40) dX3_turnPin_34 (by decide) (by omega) (fun c_34 => ?_) (fun c_34 => ?_)
    · refine X_aload dX3_turnPin_40 rfl ?_
      refine X_getR dX3_turnPin_41 rfl gf_X3_30 (sh_st hc) (by omega) rfl (rf_st6 hc) ?_
      refine X_iload dX3_turnPin_44 rfl ?_
      refine X_iloadW dX3_turnPin_45 rfl ?_
      refine Y_vS dX3_turnPin_47 cs_X3_67 (t_putB4 hc hR hn24 k (by omega) rfl _) rfl (fun I47 hq47 => ?_)
      obtain ⟨hR, hF47⟩ := hq47
      have hF := hF.trans hF47
      have hG := hG.setB (k := k) (j := 4) (z := 1) (by decide) ⟨by omega, by omega, by omega, by omega, by omega, by omega⟩
      refine X_aload dX3_turnPin_50 rfl ?_
      refine Y_pV dX3_turnPin_51 cv_X3_108 (sh_st hc) (by omega) (t_countPinned hc hR hG) rfl ?_
      refine X_iret dX3_turnPin_54 (Or.inl rfl) ?_
      exact ⟨rfl, rfl, _, rfl, by unfold tpZ; rw [hp]; show _ = if _ then _ else _; rw [if_neg c_34], hF, fun k1 h h2 => by cases h; exact hR⟩
    · refine X_bipush dX3_turnPin_37 (by decide) ?_
      refine X_iret dX3_turnPin_39 (Or.inl rfl) ?_
      exact ⟨rfl, rfl, _, rfl, by unfold tpZ; rw [hp]; show _ = if _ then _ else _; rw [if_pos c_34], hF, fun k1 h h2 => by cases h; exact absurd c_34 h2⟩
theorem t_turnPin {I : xI} {c : Nat} {g : Nat → Int} {n : Nat} (hc : x_st c) (hR : RS I c g n) (hG : GI g n) (b : Int) (hb : -2147483648 ≤ b ∧ b ≤ 2147483647) (p : Int) (hp : p = 0 ∨ p = 1) : S kX3_turnPin 3 [rr c, ii b, ii p] I (q_i (fun z I1 => z = tpZ g n b p ∧ FR I I1 c ∧ (∀ k, pl g n b = some k → ¬ gb g k 4 = p → RS I1 c (gB g k 4 p) n))) := by
  rcases hp with rfl | rfl
  · exact t_turnPin0 hc hR hG b hb
  · exact t_turnPin1 hc hR hG b hb
end
section
/-! State: settings, copies, a new block, a block less -/
def mx (j : Nat) : Int := [100, 20000, 20000, 24, 30, 50, 200, 200, 200, 50, 50, 50, 50, 50, 50].getD j 0
def alS (g : Nat → Int) (n : Nat) (s : Nat) (v : Int) : Prop := (s = 1 → g 2 ≤ v) ∧ (s = 2 → v ≤ g 1) ∧ (6 ≤ s ∧ s < 9 → onF g n ((s - 6 : Nat) : Int) 1 ≤ v)
def alD (g : Nat → Int) (n : Nat) (s : Nat) (v : Int) : Bool := (decide (s ≠ 1) || decide (g 2 ≤ v)) && (decide (s ≠ 2) || decide (v ≤ g 1)) && (decide (¬ (6 ≤ s ∧ s < 9)) || decide (onF g n ((s - 6 : Nat) : Int) 1 ≤ v))
theorem alD_iff {g : Nat → Int} {n s : Nat} {v : Int} : alD g n s v = true ↔ alS g n s v := by
  unfold alD alS
  simp only [Bool.and_eq_true, Bool.or_eq_true, decide_eq_true_eq]
  constructor
  · rintro ⟨⟨h1, h2⟩, h3⟩
    exact ⟨fun e => h1.resolve_left (fun q => q e), fun e => h2.resolve_left (fun q => q e), fun e => h3.resolve_left (fun q => q e)⟩
  · rintro ⟨h1, h2, h3⟩
    refine ⟨⟨?_, ?_⟩, ?_⟩
    · by_cases e : s = 1
      · exact Or.inr (h1 e)
      · exact Or.inl e
    · by_cases e : s = 2
      · exact Or.inr (h2 e)
      · exact Or.inl e
    · by_cases e : 6 ≤ s ∧ s < 9
      · exact Or.inr (h3 e)
      · exact Or.inl e
set_option maxRecDepth 20000 in
set_option maxHeartbeats 4000000 in
theorem t_allowsSetting {I : xI} {c : Nat} {g : Nat → Int} {n : Nat} (hc : x_st c) (hR : RS I c g n) (hG : GI g n) (s : Nat) (hs : s < 15) {i : Int} (hi : i = (s : Int)) (v : Int) (hv : 0 ≤ v ∧ v ≤ 20000) : S kX3_allowsSetting 1 [rr c, ii i, ii v] I (q_p (ii (if alD g n s v = true then 1 else 0)) I) := by
  have lc := st_lt hc
  have hn24 := hG.n24
  subst hi
  refine Sp_intro (by decide +kernel) (Nat.le_of_ble_eq_true rfl) ?_
  show Y kX3_allowsSetting 1 0 [some (rr c), some (ii (s : Int)), some (ii v)] [] I _
  refine X_iload dX3_allowsSetting_0 rfl ?_
  refine X_iconst dX3_allowsSetting_1 ?_
  refine X_icmp_ne (tgt := 23) dX3_allowsSetting_2 (by decide) (by omega) (fun c_2 => ?_) (fun c_2 => ?_)
  · refine X_iload dX3_allowsSetting_23 rfl ?_
    refine X_iconst dX3_allowsSetting_24 ?_
    refine X_icmp_ne (tgt := 46) dX3_allowsSetting_25 (by decide) (by omega) (fun c_25 => ?_) (fun c_25 => ?_)
    · refine X_iload dX3_allowsSetting_46 rfl ?_
      refine X_bipush dX3_allowsSetting_47 (by decide) ?_
      refine X_icmp_lt (tgt := 79) dX3_allowsSetting_49 (by decide) (by omega) (fun c_49 => ?_) (fun c_49 => ?_)
      · refine X_iconst dX3_allowsSetting_79 ?_
        refine X_iret dX3_allowsSetting_80 (Or.inr ⟨rfl, by omega⟩) ?_
        refine ⟨?_, rfl, rfl, rfl⟩
        first
          | (rw [if_pos (alD_iff.mpr ⟨by omega, by omega, by omega⟩)])
          | (rw [if_neg (fun q => by obtain ⟨q1, q2, q3⟩ := alD_iff.mp q; omega)])
      · refine X_iload dX3_allowsSetting_52 rfl ?_
        refine X_bipush dX3_allowsSetting_53 (by decide) ?_
        refine X_icmp_ge (tgt := 79) dX3_allowsSetting_55 (by decide) (by omega) (fun c_55 => ?_) (fun c_55 => ?_)
        · refine X_iconst dX3_allowsSetting_79 ?_
          refine X_iret dX3_allowsSetting_80 (Or.inr ⟨rfl, by omega⟩) ?_
          refine ⟨?_, rfl, rfl, rfl⟩
          first
            | (rw [if_pos (alD_iff.mpr ⟨by omega, by omega, by omega⟩)])
            | (rw [if_neg (fun q => by obtain ⟨q1, q2, q3⟩ := alD_iff.mp q; omega)])
        · refine X_aload dX3_allowsSetting_58 rfl ?_
          refine X_getR dX3_allowsSetting_59 rfl gf_X3_15 (sh_st hc) (by omega) rfl (rf_st1 hc) ?_
          refine X_iload dX3_allowsSetting_62 rfl ?_
          refine X_bipush dX3_allowsSetting_63 (by decide) ?_
          refine X_isub dX3_allowsSetting_65 ?_
          refine Y_pS dX3_allowsSetting_66 cs_X3_49 (t_tak hc hR (s - 6) (by omega) (by omega)) rfl ?_
          refine X_iload dX3_allowsSetting_69 rfl ?_
          have h3 := on_bounds hG ((s - 6 : Nat) : Int)
          refine X_icmp_gt (tgt := 77) dX3_allowsSetting_70 (by decide) (by omega) (fun c_70 => ?_) (fun c_70 => ?_)
          · refine X_iconst dX3_allowsSetting_77 ?_
            refine X_iret dX3_allowsSetting_78 (Or.inr ⟨rfl, by omega⟩) ?_
            refine ⟨?_, rfl, rfl, rfl⟩
            first
              | (rw [if_pos (alD_iff.mpr ⟨by omega, by omega, by omega⟩)])
              | (rw [if_neg (fun q => by obtain ⟨q1, q2, q3⟩ := alD_iff.mp q; omega)])
          · refine X_iconst dX3_allowsSetting_73 ?_
            refine X_goto (tgt := 78) dX3_allowsSetting_74 (by decide) ?_
            refine X_iret dX3_allowsSetting_78 (Or.inr ⟨rfl, by omega⟩) ?_
            refine ⟨?_, rfl, rfl, rfl⟩
            first
              | (rw [if_pos (alD_iff.mpr ⟨by omega, by omega, by omega⟩)])
              | (rw [if_neg (fun q => by obtain ⟨q1, q2, q3⟩ := alD_iff.mp q; omega)])
    · refine X_iload dX3_allowsSetting_28 rfl ?_
      refine X_aload dX3_allowsSetting_29 rfl ?_
      refine X_getR dX3_allowsSetting_30 rfl gf_X3_9 (sh_st hc) (by omega) rfl (rf_st0 hc) ?_
      refine X_iconst dX3_allowsSetting_33 ?_
      refine Y_pS dX3_allowsSetting_34 cs_X3_49 (t_num hc hR 1 (by decide) rfl) rfl ?_
      have h1 := hG.s1
      refine X_icmp_gt (tgt := 44) dX3_allowsSetting_37 (by decide) (by omega) (fun c_37 => ?_) (fun c_37 => ?_)
      · refine X_iconst dX3_allowsSetting_44 ?_
        refine X_iret dX3_allowsSetting_45 (Or.inr ⟨rfl, by omega⟩) ?_
        refine ⟨?_, rfl, rfl, rfl⟩
        first
          | (rw [if_pos (alD_iff.mpr ⟨by omega, by omega, by omega⟩)])
          | (rw [if_neg (fun q => by obtain ⟨q1, q2, q3⟩ := alD_iff.mp q; omega)])
      · refine X_iconst dX3_allowsSetting_40 ?_
        refine X_goto (tgt := 45) dX3_allowsSetting_41 (by decide) ?_
        refine X_iret dX3_allowsSetting_45 (Or.inr ⟨rfl, by omega⟩) ?_
        refine ⟨?_, rfl, rfl, rfl⟩
        first
          | (rw [if_pos (alD_iff.mpr ⟨by omega, by omega, by omega⟩)])
          | (rw [if_neg (fun q => by obtain ⟨q1, q2, q3⟩ := alD_iff.mp q; omega)])
  · refine X_aload dX3_allowsSetting_5 rfl ?_
    refine X_getR dX3_allowsSetting_6 rfl gf_X3_9 (sh_st hc) (by omega) rfl (rf_st0 hc) ?_
    refine X_iconst dX3_allowsSetting_9 ?_
    refine Y_pS dX3_allowsSetting_10 cs_X3_49 (t_num hc hR 2 (by decide) rfl) rfl ?_
    refine X_iload dX3_allowsSetting_13 rfl ?_
    have h2 := hG.s2
    refine X_icmp_gt (tgt := 21) dX3_allowsSetting_14 (by decide) (by omega) (fun c_14 => ?_) (fun c_14 => ?_)
    · refine X_iconst dX3_allowsSetting_21 ?_
      refine X_iret dX3_allowsSetting_22 (Or.inr ⟨rfl, by omega⟩) ?_
      refine ⟨?_, rfl, rfl, rfl⟩
      first
        | (rw [if_pos (alD_iff.mpr ⟨by omega, by omega, by omega⟩)])
        | (rw [if_neg (fun q => by obtain ⟨q1, q2, q3⟩ := alD_iff.mp q; omega)])
    · refine X_iconst dX3_allowsSetting_17 ?_
      refine X_goto (tgt := 22) dX3_allowsSetting_18 (by decide) ?_
      refine X_iret dX3_allowsSetting_22 (Or.inr ⟨rfl, by omega⟩) ?_
      refine ⟨?_, rfl, rfl, rfl⟩
      first
        | (rw [if_pos (alD_iff.mpr ⟨by omega, by omega, by omega⟩)])
        | (rw [if_neg (fun q => by obtain ⟨q1, q2, q3⟩ := alD_iff.mp q; omega)])
theorem mx_bounds {j : Nat} (h : j < 15) : 0 ≤ mx j ∧ mx j ≤ 20000 := by
  have : ∀ j, j < 15 → 0 ≤ mx j ∧ mx j ≤ 20000 := by decide
  exact this j h
def csZ (g : Nat → Int) (n : Nat) (s v : Int) : Int := if s < 0 ∨ 15 ≤ s then -1 else if v < 0 ∨ mx s.toNat < v then -2 else if alD g n s.toNat v = true then (if g s.toNat = v then -5 else g s.toNat) else -4
/-- the static rows -/
def ST (I : xI) : Prop := (∀ j, j < 15 → I 101 j = mx j) ∧ (∀ j, j < 15 → I 100 j = [80, 3000, 500, 4, 5, 2, 20, 40, 200, 10, 4, 1, 0, 2, 9].getD j 0)
theorem t_mx {I : xI} (h : ST I) (k : Nat) (hk : k < 15) {i : Int} (hi : i = (k : Int)) : S kX4_at 0 [rr 101, ii i] I (q_p (ii (mx k)) I) := by
  rw [← h.1 k hk]
  exact t_atk sh_101 (Or.inr (Or.inr rfl)) I k hk hi
theorem set_bounds {g : Nat → Int} {n : Nat} (h : GI g n) {s : Nat} (hs : s < 15) : 0 ≤ g s ∧ g s ≤ 20000 := by
  obtain ⟨h1, h2, h3, h4, h5, h6, h7, h8, h9, h10, h11, h12⟩ := h
  by_cases a : s < 6
  · rcases (by omega : s = 0 ∨ s = 1 ∨ s = 2 ∨ s = 3 ∨ s = 4 ∨ s = 5) with q | q | q | q | q | q <;> subst q <;> omega
  · by_cases b : s < 9
    · have := h9 (s - 6) (by omega)
      rw [show 6 + (s - 6) = s by omega] at this
      omega
    · have := h10 (s - 9) (by omega)
      rw [show 9 + (s - 9) = s by omega] at this
      omega
set_option maxRecDepth 20000 in
set_option maxHeartbeats 4000000 in
theorem t_changeSetting {I : xI} {c : Nat} {g : Nat → Int} {n : Nat} (hc : x_st c) (hR : RS I c g n) (hG : GI g n) (hS : ST I) (s : Int) (hs : -2147483648 ≤ s ∧ s ≤ 2147483647) (v : Int) (hv : -2147483648 ≤ v ∧ v ≤ 2147483647) : S kX3_changeSetting 2 [rr c, ii s, ii v] I (q_i (fun z I1 => z = csZ g n s v ∧ FR I I1 c ∧ (0 ≤ z → RS I1 c (gN g s.toNat v) n))) := by
  have lc := st_lt hc
  have hn24 := hG.n24
  have hF : FR I I c := FR.rf
  refine Sp_intro (by decide +kernel) (Nat.le_of_ble_eq_true rfl) ?_
  show Y kX3_changeSetting 2 0 [some (rr c), some (ii s), some (ii v), none] [] I _
  refine X_iload dX3_changeSetting_0 rfl ?_
  refine X_if_lt (tgt := 10) dX3_changeSetting_1 (by decide) (by omega) (fun c_1 => ?_) (fun c_1 => ?_)
  · refine X_iconst dX3_changeSetting_10 ?_
    refine X_iret dX3_changeSetting_11 (Or.inl rfl) ?_
    exact ⟨rfl, rfl, _, rfl, by unfold csZ; rw [if_pos (by omega)], hF, fun h => absurd h (by decide)⟩
  · refine X_iload dX3_changeSetting_4 rfl ?_
    refine X_bipush dX3_changeSetting_5 (by decide) ?_
    refine X_icmp_lt (tgt := 12) dX3_changeSetting_7 (by decide) (by omega) (fun c_7 => ?_) (fun c_7 => ?_)
    · obtain ⟨k, rfl⟩ := Int.eq_ofNat_of_zero_le (show 0 ≤ s by omega)
      have hm := mx_bounds (j := k) (by omega)
      have hgs := set_bounds hG (s := k) (by omega)
      have e1 : (k : Int).toNat = k := rfl
      refine X_iload dX3_changeSetting_12 rfl ?_
      refine X_if_lt (tgt := 27) dX3_changeSetting_13 (by decide) (by omega) (fun c_13 => ?_) (fun c_13 => ?_)
      · refine X_bipush dX3_changeSetting_27 (by decide) ?_
        refine X_iret dX3_changeSetting_29 (Or.inl rfl) ?_
        exact ⟨rfl, rfl, _, rfl, by unfold csZ; rw [e1, if_neg (by omega), if_pos (by omega)], hF, fun h => absurd h (by decide)⟩
      · refine X_iload dX3_changeSetting_16 rfl ?_
        refine X_getsG dX3_changeSetting_17 rfl gs_X3_115 ?_
        refine X_iload dX3_changeSetting_20 rfl ?_
        refine Y_pS dX3_changeSetting_21 cs_X3_49 (t_mx hS k (by omega) rfl) rfl ?_
        refine X_icmp_le (tgt := 30) dX3_changeSetting_24 (by decide) (by omega) (fun c_24 => ?_) (fun c_24 => ?_)
        · refine X_aload dX3_changeSetting_30 rfl ?_
          refine X_iload dX3_changeSetting_31 rfl ?_
          refine X_iload dX3_changeSetting_32 rfl ?_
          refine Y_pV dX3_changeSetting_33 cv_X3_118 (sh_st hc) (by omega) (t_allowsSetting hc hR hG k (by omega) rfl v (by omega)) rfl ?_
          have hb : (if alD g n k v = true then (1 : Int) else 0) = 1 ∨ (if alD g n k v = true then (1 : Int) else 0) = 0 := by split <;> simp
          refine X_if_ne (tgt := 42) dX3_changeSetting_36 (by decide) (by omega) (fun c_36 => ?_) (fun c_36 => ?_)
          · have ha : alD g n k v = true := by
              by_cases q : alD g n k v = true
              · exact q
              · rw [if_neg q] at c_36; omega
            refine X_aload dX3_changeSetting_42 rfl ?_
            refine X_getR dX3_changeSetting_43 rfl gf_X3_9 (sh_st hc) (by omega) rfl (rf_st0 hc) ?_
            refine X_iload dX3_changeSetting_46 rfl ?_
            refine Y_pS dX3_changeSetting_47 cs_X3_49 (t_num hc hR k (by omega) rfl) rfl ?_
            refine X_istore dX3_changeSetting_50 (by decide) ?_
            dsimp only [List.set]
            refine X_iload dX3_changeSetting_51 rfl ?_
            refine X_iload dX3_changeSetting_52 rfl ?_
            refine X_icmp_ne (tgt := 59) dX3_changeSetting_53 (by decide) (by omega) (fun c_53 => ?_) (fun c_53 => ?_)
            · refine X_aload dX3_changeSetting_59 rfl ?_
              refine X_getR dX3_changeSetting_60 rfl gf_X3_9 (sh_st hc) (by omega) rfl (rf_st0 hc) ?_
              refine X_iload dX3_changeSetting_63 rfl ?_
              refine X_iload dX3_changeSetting_64 rfl ?_
              refine Y_vS dX3_changeSetting_65 cs_X3_67 (t_putN hc hR k (by omega) rfl _) rfl (fun I65 hq65 => ?_)
              obtain ⟨hR, hF65⟩ := hq65
              have hF := hF.trans hF65
              refine X_iload dX3_changeSetting_68 rfl ?_
              refine X_iret dX3_changeSetting_69 (Or.inl rfl) ?_
              exact ⟨rfl, rfl, _, rfl, by unfold csZ; rw [e1, if_neg (by omega), if_neg (by omega), if_pos ha, if_neg c_53], hF, fun _ => hR⟩
            · refine X_bipush dX3_changeSetting_56 (by decide) ?_
              refine X_iret dX3_changeSetting_58 (Or.inl rfl) ?_
              exact ⟨rfl, rfl, _, rfl, by unfold csZ; rw [e1, if_neg (by omega), if_neg (by omega), if_pos ha, if_pos c_53], hF, fun h => absurd h (by decide)⟩
          · have ha : ¬ alD g n k v = true := fun q => by rw [if_pos q] at c_36; omega
            refine X_bipush dX3_changeSetting_39 (by decide) ?_
            refine X_iret dX3_changeSetting_41 (Or.inl rfl) ?_
            exact ⟨rfl, rfl, _, rfl, by unfold csZ; rw [e1, if_neg (by omega), if_neg (by omega), if_neg ha], hF, fun h => absurd h (by decide)⟩
        · refine X_bipush dX3_changeSetting_27 (by decide) ?_
          refine X_iret dX3_changeSetting_29 (Or.inl rfl) ?_
          exact ⟨rfl, rfl, _, rfl, by unfold csZ; rw [e1, if_neg (by omega), if_pos (by omega)], hF, fun h => absurd h (by decide)⟩
    · refine X_iconst dX3_changeSetting_10 ?_
      refine X_iret dX3_changeSetting_11 (Or.inl rfl) ?_
      exact ⟨rfl, rfl, _, rfl, by unfold csZ; rw [if_pos (by omega)], hF, fun h => absurd h (by decide)⟩
def rl (m : Nat) : Nat := if m = 0 then 23 else if m = 1 then 3 else 24
/-- the first m rows of a State copied -/
def CPm (I I1 : xI) (c o m : Nat) : Prop := (∀ q, q < m → ∀ j, j < rl q → I1 (c + 1 + q) j = I (o + 1 + q) j) ∧ ∀ q, (q < c + 1 ∨ c + 1 + m ≤ q) → I1 q = I q
theorem CPm.step {I I1 : xI} {c o m : Nat} (h : CPm I I1 c o m) (hd : c + 11 ≤ o ∨ o + 11 ≤ c) (hm : m < 10) {a b : Nat} (ha : a = o + 1 + m) (hb : b = c + 1 + m) {l : Nat} (hl : l = rl m) : CPm I (x_cp I1 a b l) c o (m + 1) := by
  subst ha; subst hb; subst hl
  refine ⟨fun q hq j hj => ?_, fun q hq => ?_⟩
  · unfold x_cp
    by_cases e : q = m
    · subst e
      rw [if_pos ⟨rfl, hj⟩, h.2 _ (by omega)]
    · rw [if_neg (by omega)]
      exact h.1 q (by omega) j hj
  · have e : x_cp I1 (o + 1 + m) (c + 1 + m) (rl m) q = I1 q := by funext j; unfold x_cp; rw [if_neg (by omega)]
    rw [e]; exact h.2 q (by omega)
theorem CPm.rs {I I1 : xI} {c o : Nat} {g : Nat → Int} {n : Nat} (h : CPm I I1 c o 10) (hR : RS I o g n) (hn : n ≤ 24) : RS I1 c g n ∧ FR I I1 c := by
  refine ⟨⟨fun j hj => ?_, fun k hk j hj => ?_, fun s hs => ?_⟩, fun q hq => h.2 q (by omega)⟩
  · exact (h.1 0 (by decide) j hj).trans (hR.1 j hj)
  · have e : I1 (c + 3 + j) k = I (o + 3 + j) k := by
      have := h.1 (j + 2) (by omega) k (by unfold rl; rw [if_neg (by omega), if_neg (by omega)]; omega)
      rw [show c + 1 + (j + 2) = c + 3 + j by omega, show o + 1 + (j + 2) = o + 3 + j by omega] at this
      exact this
    rw [e]; exact hR.2.1 k hk j hj
  · exact (h.1 1 (by decide) s hs).trans (hR.2.2 s hs)
theorem x_st_apart {c o : Nat} (hc : x_st c) (ho : x_st o) (h : c ≠ o) : c + 11 ≤ o ∨ o + 11 ≤ c := by unfold x_st at hc ho; omega
set_option maxRecDepth 20000 in
set_option maxHeartbeats 4000000 in
theorem t_copyFrom {I : xI} {c o : Nat} {g : Nat → Int} {n : Nat} (hc : x_st c) (ho : x_st o) (hne : c ≠ o) (hR : RS I o g n) (hn24 : n ≤ 24) : S kX3_copyFrom 2 [rr c, rr o] I (q_v (fun I1 => RS I1 c g n ∧ FR I I1 c)) := by
  have lc := st_lt hc
  have lo := st_lt ho
  have hd := x_st_apart hc ho hne
  have hm : CPm I I c o 0 := ⟨fun q hq => absurd hq (Nat.not_lt_zero q), fun _ _ => rfl⟩
  refine Sp_intro (by decide +kernel) (Nat.le_of_ble_eq_true rfl) ?_
  show Y kX3_copyFrom 2 0 [some (rr c), some (rr o)] [] I _
  refine X_aload dX3_copyFrom_0 rfl ?_
  refine X_getR dX3_copyFrom_1 rfl gf_X3_9 (sh_st ho) (by omega) rfl (rf_st0 ho) ?_
  refine X_aload dX3_copyFrom_4 rfl ?_
  refine X_getR dX3_copyFrom_5 rfl gf_X3_9 (sh_st hc) (by omega) rfl (rf_st0 hc) ?_
  refine Y_vS dX3_copyFrom_8 cs_X3_45 (t_copyRow (sh_st0 ho) (Or.inl (by omega)) (sh_st0 hc) (by omega) _) rfl (fun I8 e8 => ?_)
  rw [Nat.min_self] at e8
  subst e8
  have hm := hm.step hd (by decide) (a := o + 1) (b := c + 1) (by omega) (by omega) (l := 23) rfl
  refine X_aload dX3_copyFrom_11 rfl ?_
  refine X_getR dX3_copyFrom_12 rfl gf_X3_15 (sh_st ho) (by omega) rfl (rf_st1 ho) ?_
  refine X_aload dX3_copyFrom_15 rfl ?_
  refine X_getR dX3_copyFrom_16 rfl gf_X3_15 (sh_st hc) (by omega) rfl (rf_st1 hc) ?_
  refine Y_vS dX3_copyFrom_19 cs_X3_45 (t_copyRow (sh_st1 ho) (Or.inl (by omega)) (sh_st1 hc) (by omega) _) rfl (fun I19 e19 => ?_)
  rw [Nat.min_self] at e19
  subst e19
  have hm := hm.step hd (by decide) (a := o + 2) (b := c + 2) (by omega) (by omega) (l := 3) rfl
  refine X_aload dX3_copyFrom_22 rfl ?_
  refine X_getR dX3_copyFrom_23 rfl gf_X3_18 (sh_st ho) (by omega) rfl (rf_st2 ho) ?_
  refine X_aload dX3_copyFrom_26 rfl ?_
  refine X_getR dX3_copyFrom_27 rfl gf_X3_18 (sh_st hc) (by omega) rfl (rf_st2 hc) ?_
  refine Y_vS dX3_copyFrom_30 cs_X3_45 (t_copyRow (sh_st2 ho) (Or.inl (by omega)) (sh_st2 hc) (by omega) _) rfl (fun I30 e30 => ?_)
  rw [Nat.min_self] at e30
  subst e30
  have hm := hm.step hd (by decide) (a := o + 3) (b := c + 3) (by omega) (by omega) (l := 24) rfl
  refine X_aload dX3_copyFrom_33 rfl ?_
  refine X_getR dX3_copyFrom_34 rfl gf_X3_21 (sh_st ho) (by omega) rfl (rf_st3 ho) ?_
  refine X_aload dX3_copyFrom_37 rfl ?_
  refine X_getR dX3_copyFrom_38 rfl gf_X3_21 (sh_st hc) (by omega) rfl (rf_st3 hc) ?_
  refine Y_vS dX3_copyFrom_41 cs_X3_45 (t_copyRow (sh_st3 ho) (Or.inl (by omega)) (sh_st3 hc) (by omega) _) rfl (fun I41 e41 => ?_)
  rw [Nat.min_self] at e41
  subst e41
  have hm := hm.step hd (by decide) (a := o + 4) (b := c + 4) (by omega) (by omega) (l := 24) rfl
  refine X_aload dX3_copyFrom_44 rfl ?_
  refine X_getR dX3_copyFrom_45 rfl gf_X3_24 (sh_st ho) (by omega) rfl (rf_st4 ho) ?_
  refine X_aload dX3_copyFrom_48 rfl ?_
  refine X_getR dX3_copyFrom_49 rfl gf_X3_24 (sh_st hc) (by omega) rfl (rf_st4 hc) ?_
  refine Y_vS dX3_copyFrom_52 cs_X3_45 (t_copyRow (sh_st4 ho) (Or.inl (by omega)) (sh_st4 hc) (by omega) _) rfl (fun I52 e52 => ?_)
  rw [Nat.min_self] at e52
  subst e52
  have hm := hm.step hd (by decide) (a := o + 5) (b := c + 5) (by omega) (by omega) (l := 24) rfl
  refine X_aload dX3_copyFrom_55 rfl ?_
  refine X_getR dX3_copyFrom_56 rfl gf_X3_27 (sh_st ho) (by omega) rfl (rf_st5 ho) ?_
  refine X_aload dX3_copyFrom_59 rfl ?_
  refine X_getR dX3_copyFrom_60 rfl gf_X3_27 (sh_st hc) (by omega) rfl (rf_st5 hc) ?_
  refine Y_vS dX3_copyFrom_63 cs_X3_45 (t_copyRow (sh_st5 ho) (Or.inl (by omega)) (sh_st5 hc) (by omega) _) rfl (fun I63 e63 => ?_)
  rw [Nat.min_self] at e63
  subst e63
  have hm := hm.step hd (by decide) (a := o + 6) (b := c + 6) (by omega) (by omega) (l := 24) rfl
  refine X_aload dX3_copyFrom_66 rfl ?_
  refine X_getR dX3_copyFrom_67 rfl gf_X3_30 (sh_st ho) (by omega) rfl (rf_st6 ho) ?_
  refine X_aload dX3_copyFrom_70 rfl ?_
  refine X_getR dX3_copyFrom_71 rfl gf_X3_30 (sh_st hc) (by omega) rfl (rf_st6 hc) ?_
  refine Y_vS dX3_copyFrom_74 cs_X3_45 (t_copyRow (sh_st6 ho) (Or.inl (by omega)) (sh_st6 hc) (by omega) _) rfl (fun I74 e74 => ?_)
  rw [Nat.min_self] at e74
  subst e74
  have hm := hm.step hd (by decide) (a := o + 7) (b := c + 7) (by omega) (by omega) (l := 24) rfl
  refine X_aload dX3_copyFrom_77 rfl ?_
  refine X_getR dX3_copyFrom_78 rfl gf_X3_33 (sh_st ho) (by omega) rfl (rf_st7 ho) ?_
  refine X_aload dX3_copyFrom_81 rfl ?_
  refine X_getR dX3_copyFrom_82 rfl gf_X3_33 (sh_st hc) (by omega) rfl (rf_st7 hc) ?_
  refine Y_vS dX3_copyFrom_85 cs_X3_45 (t_copyRow (sh_st7 ho) (Or.inl (by omega)) (sh_st7 hc) (by omega) _) rfl (fun I85 e85 => ?_)
  rw [Nat.min_self] at e85
  subst e85
  have hm := hm.step hd (by decide) (a := o + 8) (b := c + 8) (by omega) (by omega) (l := 24) rfl
  refine X_aload dX3_copyFrom_88 rfl ?_
  refine X_getR dX3_copyFrom_89 rfl gf_X3_36 (sh_st ho) (by omega) rfl (rf_st8 ho) ?_
  refine X_aload dX3_copyFrom_92 rfl ?_
  refine X_getR dX3_copyFrom_93 rfl gf_X3_36 (sh_st hc) (by omega) rfl (rf_st8 hc) ?_
  refine Y_vS dX3_copyFrom_96 cs_X3_45 (t_copyRow (sh_st8 ho) (Or.inl (by omega)) (sh_st8 hc) (by omega) _) rfl (fun I96 e96 => ?_)
  rw [Nat.min_self] at e96
  subst e96
  have hm := hm.step hd (by decide) (a := o + 9) (b := c + 9) (by omega) (by omega) (l := 24) rfl
  refine X_aload dX3_copyFrom_99 rfl ?_
  refine X_getR dX3_copyFrom_100 rfl gf_X3_39 (sh_st ho) (by omega) rfl (rf_st9 ho) ?_
  refine X_aload dX3_copyFrom_103 rfl ?_
  refine X_getR dX3_copyFrom_104 rfl gf_X3_39 (sh_st hc) (by omega) rfl (rf_st9 hc) ?_
  refine Y_vS dX3_copyFrom_107 cs_X3_45 (t_copyRow (sh_st9 ho) (Or.inl (by omega)) (sh_st9 hc) (by omega) _) rfl (fun I107 e107 => ?_)
  rw [Nat.min_self] at e107
  subst e107
  have hm := hm.step hd (by decide) (a := o + 10) (b := c + 10) (by omega) (by omega) (l := 24) rfl
  refine X_vret dX3_copyFrom_110 rfl ?_
  exact ⟨rfl, rfl, rfl, hm.rs hR hn24⟩
def adG (g : Nat → Int) (n : Nat) (z : Int) (sh : Nat) : Nat → Int := fun i => if i < 23 then (if i = 15 then g 15 + 1 else if i = 16 then g 16 + 1 else g i) else if i < 23 + 8 * n then g i else if i = 23 + 8 * n then g 16 else if i = 24 + 8 * n then z else if i = 25 + 8 * n then 1000 else if i = 26 + 8 * n then (sh : Int) else 0
theorem adG_num {g : Nat → Int} {n : Nat} {z : Int} {sh i : Nat} (hi : i < 23) : adG g n z sh i = if i = 15 then g 15 + 1 else if i = 16 then g 16 + 1 else g i := by unfold adG; rw [if_pos hi]
theorem adG_old {g : Nat → Int} {n : Nat} {z : Int} {sh k j : Nat} (hk : k < n) (hj : j < 8) : gb (adG g n z sh) k j = gb g k j := by
  unfold gb adG; rw [if_neg (by omega), if_pos (by omega)]
theorem adG_new {g : Nat → Int} {n : Nat} {z : Int} {sh j : Nat} (hj : j < 8) : gb (adG g n z sh) n j = if j = 0 then g 16 else if j = 1 then z else if j = 2 then 1000 else if j = 3 then (sh : Int) else 0 := by
  unfold gb adG; rw [if_neg (by omega), if_neg (by omega)]
  rcases (by omega : j = 0 ∨ j = 1 ∨ j = 2 ∨ j = 3 ∨ 3 < j) with q | q | q | q | q
  · subst q; rw [if_pos (by omega), if_pos rfl]
  · subst q; rw [if_neg (by omega), if_pos (by omega), if_neg (by decide), if_pos rfl]
  · subst q; rw [if_neg (by omega), if_neg (by omega), if_pos (by omega), if_neg (by decide), if_neg (by decide), if_pos rfl]
  · subst q; rw [if_neg (by omega), if_neg (by omega), if_neg (by omega), if_pos (by omega), if_neg (by decide), if_neg (by decide), if_neg (by decide), if_pos rfl]
  · rw [if_neg (by omega), if_neg (by omega), if_neg (by omega), if_neg (by omega), if_neg (by omega), if_neg (by omega), if_neg (by omega), if_neg (by omega)]
theorem GI.ad {g : Nat → Int} {n : Nat} {z : Int} {sh : Nat} (h : GI g n) (hn : n < 24) (hz : 1 ≤ z ∧ z ≤ 9) (hs : sh < 3) (h16 : g 16 ≤ 999) : GI (adG g n z sh) (n + 1) := by
  obtain ⟨h1, h2, h3, h4, h5, h6, h7, h8, h9, h10, h11, h12⟩ := h
  have f : ∀ j, j < 23 → j ≠ 15 → j ≠ 16 → adG g n z sh j = g j := fun j a b d => by rw [adG_num a, if_neg b, if_neg d]
  refine ⟨by omega, by rw [adG_num (by decide), if_pos rfl, h2]; omega, by rw [f 0 (by decide) (by decide) (by decide)]; exact h3, by rw [f 1 (by decide) (by decide) (by decide)]; exact h4, by rw [f 2 (by decide) (by decide) (by decide)]; exact h5, by rw [f 3 (by decide) (by decide) (by decide)]; exact h6, by rw [f 4 (by decide) (by decide) (by decide)]; exact h7, by rw [f 5 (by decide) (by decide) (by decide)]; exact h8, fun j hj => by rw [f _ (by omega) (by omega) (by omega)]; exact h9 j hj, fun j hj => by rw [f _ (by omega) (by omega) (by omega)]; exact h10 j hj, by rw [adG_num (by decide), if_neg (by decide), if_pos rfl]; omega, fun k hk => ?_⟩
  by_cases e : k < n
  · rw [adG_old e (by decide), adG_old e (by decide), adG_old e (by decide), adG_old e (by decide), adG_old e (by decide), adG_old e (by decide)]
    exact h12 k e
  · have e2 : k = n := by omega
    subst e2
    have q0 : gb (adG g k z sh) k 0 = g 16 := by rw [adG_new (by decide), if_pos rfl]
    have q1 : gb (adG g k z sh) k 1 = z := by rw [adG_new (by decide)]; rfl
    have q2 : gb (adG g k z sh) k 2 = 1000 := by rw [adG_new (by decide)]; rfl
    have q3 : gb (adG g k z sh) k 3 = sh := by rw [adG_new (by decide)]; rfl
    have q4 : gb (adG g k z sh) k 4 = 0 := by rw [adG_new (by decide)]; rfl
    have q5 : gb (adG g k z sh) k 5 = 0 := by rw [adG_new (by decide)]; rfl
    rw [q0, q1, q2, q3, q4, q5]
    omega
theorem adG_on {g : Nat → Int} {n : Nat} {z : Int} {sh : Nat} (s : Int) : onF (adG g n z sh) (n + 1) s 1 = onF g n s 1 + (if (sh : Int) = s then z else 0) := by
  show onF (adG g n z sh) n s 1 + (if gb (adG g n z sh) n 3 = s then (if (1 : Nat) = 0 then 1 else gb (adG g n z sh) n 1) else 0) = _
  rw [on_congr (g' := g) (by decide) (fun k hk => ⟨adG_old hk (by decide), adG_old hk (by decide)⟩), adG_new (by decide), adG_new (by decide)]
  rfl
def adZ (g : Nat → Int) (n : Nat) (z : Int) : Int := if z < 1 ∨ 9 < z then -2 else match fr g n z with
  | none => -3
  | some _ => if n = 24 ∨ 999 < g 16 then -3 else g 16
theorem fr_lt {g : Nat → Int} {n : Nat} {z : Int} {s : Nat} (h : fr g n z = some s) : s < 3 := by
  unfold fr at h
  split at h
  · cases h; decide
  · split at h
    · cases h; decide
    · split at h
      · cases h; decide
      · cases h
theorem RS.ad {I : xI} {c : Nat} {g : Nat → Int} {n sh : Nat} {z : Int} (h : RS I c g n) (hs : sh < 3) {I1 I2 I3 I4 I5 I6 I7 I8 I9 Ia Ib : xI} (e1 : I1 = x_up I (c + 3) n (g 16)) (e2 : I2 = x_up I1 (c + 4) n z) (e3 : I3 = x_up I2 (c + 5) n 1000) (e4 : I4 = x_up I3 (c + 6) n (sh : Int)) (e5 : I5 = x_up I4 (c + 7) n 0) (e6 : I6 = x_up I5 (c + 8) n 0) (e7 : I7 = x_up I6 (c + 9) n 0) (e8 : I8 = x_up I7 (c + 10) n 0) (e9 : I9 = x_up I8 (c + 2) sh (I8 (c + 2) sh + z)) (ea : Ia = x_up I9 (c + 1) 15 (I9 (c + 1) 15 + 1)) (eb : Ib = x_up Ia (c + 1) 16 (Ia (c + 1) 16 + 1)) : RS Ib c (adG g n z sh) (n + 1) := by
  have a1 : I8 (c + 1) = I (c + 1) := by rw [e8, x_up_ne (by omega), e7, x_up_ne (by omega), e6, x_up_ne (by omega), e5, x_up_ne (by omega), e4, x_up_ne (by omega), e3, x_up_ne (by omega), e2, x_up_ne (by omega), e1, x_up_ne (by omega)]
  have a2 : I8 (c + 2) = I (c + 2) := by rw [e8, x_up_ne (by omega), e7, x_up_ne (by omega), e6, x_up_ne (by omega), e5, x_up_ne (by omega), e4, x_up_ne (by omega), e3, x_up_ne (by omega), e2, x_up_ne (by omega), e1, x_up_ne (by omega)]
  have a3 : ∀ q, q ≠ c + 1 → q ≠ c + 2 → Ib q = I8 q := fun q h1 h2 => by rw [eb, x_up_ne h1, ea, x_up_ne h1, e9, x_up_ne h2]
  have a4 : I9 (c + 1) = I (c + 1) := by rw [e9, x_up_ne (by omega), a1]
  refine ⟨fun i hi => ?_, fun k hk j hj => ?_, fun s hs2 => ?_⟩
  · rw [adG_num hi, eb, x_up_app, ea]
    simp only [x_up_app, true_and]
    rw [a4, h.1 i hi, h.1 15 (by decide), h.1 16 (by decide)]
    by_cases q : i = 15
    · subst q; rfl
    · by_cases q2 : i = 16
      · subst q2; rfl
      · rw [if_neg q2, if_neg q, if_neg q, if_neg q2]
  · rw [a3 _ (by omega) (by omega)]
    by_cases e : k < n
    · rw [adG_old e hj, e8, x_up_offj (by omega), e7, x_up_offj (by omega), e6, x_up_offj (by omega), e5, x_up_offj (by omega), e4, x_up_offj (by omega), e3, x_up_offj (by omega), e2, x_up_offj (by omega), e1, x_up_offj (by omega)]
      exact h.2.1 k e j hj
    · have e0 : k = n := by omega
      subst e0
      rw [adG_new hj, e8, e7, e6, e5, e4, e3, e2, e1]
      match j, hj with
      | 0, _ => simp [x_up]
      | 1, _ => simp [x_up]
      | 2, _ => simp [x_up]
      | 3, _ => simp [x_up]
      | 4, _ => simp [x_up]
      | 5, _ => simp [x_up]
      | 6, _ => simp [x_up]
      | 7, _ => simp [x_up]
      | j + 8, hj => omega
  · rw [adG_on, eb, x_up_ne (by omega), ea, x_up_ne (by omega), e9, x_up_app, a2, h.2.2 s hs2, h.2.2 sh hs]
    by_cases q : s = sh
    · subst q; rw [if_pos ⟨rfl, rfl⟩, if_pos rfl]
    · rw [if_neg (by omega), if_neg (by omega)]; omega
set_option maxRecDepth 20000 in
set_option maxHeartbeats 4000000 in
theorem t_addBlock {I : xI} {c : Nat} {g : Nat → Int} {n : Nat} (hc : x_st c) (hR : RS I c g n) (hG : GI g n) (z : Int) (hz : -2147483648 ≤ z ∧ z ≤ 2147483647) : S kX3_addBlock 2 [rr c, ii z] I (q_i (fun a I1 => a = adZ g n z ∧ FR I I1 c ∧ (∀ s, 0 ≤ adZ g n z → fr g n z = some s → RS I1 c (adG g n z s) (n + 1)))) := by
  have lc := st_lt hc
  have hn24 := hG.n24
  have hF : FR I I c := FR.rf
  have h16 := hG.s16
  refine Sp_intro (by decide +kernel) (Nat.le_of_ble_eq_true rfl) ?_
  show Y kX3_addBlock 2 0 [some (rr c), some (ii z), none, none, none] [] I _
  rcases hf : fr g n z with _ | s
  · refine X_iload dX3_addBlock_0 rfl ?_
    refine X_iconst dX3_addBlock_1 ?_
    refine X_icmp_lt (tgt := 11) dX3_addBlock_2 (by decide) (by omega) (fun c_2 => ?_) (fun c_2 => ?_)
    · refine X_bipush dX3_addBlock_11 (by decide) ?_
      refine X_iret dX3_addBlock_13 (Or.inl rfl) ?_
      exact ⟨rfl, rfl, _, rfl, by unfold adZ; rw [if_pos (by omega)], hF, fun s h => absurd h (by unfold adZ; rw [if_pos (by omega)]; decide)⟩
    · refine X_iload dX3_addBlock_5 rfl ?_
      refine X_bipush dX3_addBlock_6 (by decide) ?_
      refine X_icmp_le (tgt := 14) dX3_addBlock_8 (by decide) (by omega) (fun c_8 => ?_) (fun c_8 => ?_)
      · have hfr := t_fastestWithRoom hc hR hG z (by omega)
        rw [hf] at hfr
        change S _ _ _ _ (q_p (ii (-1)) I) at hfr
        refine X_aload dX3_addBlock_14 rfl ?_
        refine X_iload dX3_addBlock_15 rfl ?_
        refine Y_pV dX3_addBlock_16 cv_X3_64 (sh_st hc) (by omega) hfr rfl ?_
        refine X_istore dX3_addBlock_19 (by decide) ?_
        dsimp only [List.set]
        refine X_aload dX3_addBlock_20 rfl ?_
        refine Y_pV dX3_addBlock_21 cv_X3_53 (sh_st hc) (by omega) (t_countBlocks hc hR hG) rfl ?_
        refine X_istore dX3_addBlock_24 (by decide) ?_
        dsimp only [List.set]
        refine X_aload dX3_addBlock_25 rfl ?_
        refine X_getR dX3_addBlock_26 rfl gf_X3_9 (sh_st hc) (by omega) rfl (rf_st0 hc) ?_
        refine X_bipush dX3_addBlock_29 (by decide) ?_
        refine Y_pS dX3_addBlock_31 cs_X3_49 (t_num hc hR 16 (by decide) rfl) rfl ?_
        refine X_istoreW dX3_addBlock_34 (by decide) ?_
        dsimp only [List.set]
        refine X_iload dX3_addBlock_36 rfl ?_
        refine X_bipush dX3_addBlock_37 (by decide) ?_
        refine X_icmp_ge (tgt := 55) dX3_addBlock_39 (by decide) (by omega) (fun c_39 => ?_) (fun c_39 => ?_)
        · refine X_bipush dX3_addBlock_55 (by decide) ?_
          refine X_iret dX3_addBlock_57 (Or.inl rfl) ?_
          exact ⟨rfl, rfl, _, rfl, by unfold adZ; rw [if_neg (by omega), hf], hF, fun s h => absurd h (by unfold adZ; rw [if_neg (by omega), hf]; show ¬ (0 : Int) ≤ -3; decide)⟩
        · refine X_iload dX3_addBlock_42 rfl ?_
          refine X_iconst dX3_addBlock_43 ?_
          refine X_icmp_eq (tgt := 55) dX3_addBlock_44 (by decide) (by omega) (fun c_44 => ?_) (fun c_44 => absurd c_44 (by omega))
          refine X_bipush dX3_addBlock_55 (by decide) ?_
          refine X_iret dX3_addBlock_57 (Or.inl rfl) ?_
          exact ⟨rfl, rfl, _, rfl, by unfold adZ; rw [if_neg (by omega), hf], hF, fun s h => absurd h (by unfold adZ; rw [if_neg (by omega), hf]; show ¬ (0 : Int) ≤ -3; decide)⟩
      · refine X_bipush dX3_addBlock_11 (by decide) ?_
        refine X_iret dX3_addBlock_13 (Or.inl rfl) ?_
        exact ⟨rfl, rfl, _, rfl, by unfold adZ; rw [if_pos (by omega)], hF, fun s h => absurd h (by unfold adZ; rw [if_pos (by omega)]; decide)⟩
  · have hs3 := fr_lt hf
    refine X_iload dX3_addBlock_0 rfl ?_
    refine X_iconst dX3_addBlock_1 ?_
    refine X_icmp_lt (tgt := 11) dX3_addBlock_2 (by decide) (by omega) (fun c_2 => ?_) (fun c_2 => ?_)
    · refine X_bipush dX3_addBlock_11 (by decide) ?_
      refine X_iret dX3_addBlock_13 (Or.inl rfl) ?_
      exact ⟨rfl, rfl, _, rfl, by unfold adZ; rw [if_pos (by omega)], hF, fun s h => absurd h (by unfold adZ; rw [if_pos (by omega)]; decide)⟩
    · refine X_iload dX3_addBlock_5 rfl ?_
      refine X_bipush dX3_addBlock_6 (by decide) ?_
      refine X_icmp_le (tgt := 14) dX3_addBlock_8 (by decide) (by omega) (fun c_8 => ?_) (fun c_8 => ?_)
      · have hfr := t_fastestWithRoom hc hR hG z (by omega)
        rw [hf] at hfr
        change S _ _ _ _ (q_p (ii ((s : Nat) : Int)) I) at hfr
        refine X_aload dX3_addBlock_14 rfl ?_
        refine X_iload dX3_addBlock_15 rfl ?_
        refine Y_pV dX3_addBlock_16 cv_X3_64 (sh_st hc) (by omega) hfr rfl ?_
        refine X_istore dX3_addBlock_19 (by decide) ?_
        dsimp only [List.set]
        refine X_aload dX3_addBlock_20 rfl ?_
        refine Y_pV dX3_addBlock_21 cv_X3_53 (sh_st hc) (by omega) (t_countBlocks hc hR hG) rfl ?_
        refine X_istore dX3_addBlock_24 (by decide) ?_
        dsimp only [List.set]
        refine X_aload dX3_addBlock_25 rfl ?_
        refine X_getR dX3_addBlock_26 rfl gf_X3_9 (sh_st hc) (by omega) rfl (rf_st0 hc) ?_
        refine X_bipush dX3_addBlock_29 (by decide) ?_
        refine Y_pS dX3_addBlock_31 cs_X3_49 (t_num hc hR 16 (by decide) rfl) rfl ?_
        refine X_istoreW dX3_addBlock_34 (by decide) ?_
        dsimp only [List.set]
        refine X_iload dX3_addBlock_36 rfl ?_
        refine X_bipush dX3_addBlock_37 (by decide) ?_
        refine X_icmp_ge (tgt := 55) dX3_addBlock_39 (by decide) (by omega) (fun c_39 => ?_) (fun c_39 => ?_)
        · refine X_bipush dX3_addBlock_55 (by decide) ?_
          refine X_iret dX3_addBlock_57 (Or.inl rfl) ?_
          exact ⟨rfl, rfl, _, rfl, by unfold adZ; rw [if_neg (by omega), hf]; show _ = if _ then _ else _; rw [if_pos (by omega)], hF, fun s h => absurd h (by unfold adZ; rw [if_neg (by omega), hf]; show ¬ (0 : Int) ≤ if _ then _ else _; rw [if_pos (by omega)]; decide)⟩
        · refine X_iload dX3_addBlock_42 rfl ?_
          refine X_iconst dX3_addBlock_43 ?_
          refine X_icmp_eq (tgt := 55) dX3_addBlock_44 (by decide) (by omega) (fun c_44 => absurd c_44 (by omega)) (fun c_44 => ?_)
          refine X_iloadW dX3_addBlock_47 rfl ?_
          refine X_sipush dX3_addBlock_49 (by decide) ?_
          refine X_icmp_le (tgt := 58) dX3_addBlock_52 (by decide) (by omega) (fun c_52 => ?_) (fun c_52 => ?_)
          · refine X_aload dX3_addBlock_58 rfl ?_
            refine X_getR dX3_addBlock_59 rfl gf_X3_18 (sh_st hc) (by omega) rfl (rf_st2 hc) ?_
            refine X_iload dX3_addBlock_62 rfl ?_
            refine X_iloadW dX3_addBlock_63 rfl ?_
            refine Y_vS dX3_addBlock_65 cs_X3_67 (t_putk (sh_st2 hc) (by omega) _ n (by omega) rfl _) rfl (fun J1 e1 => ?_)
            refine X_aload dX3_addBlock_68 rfl ?_
            refine X_getR dX3_addBlock_69 rfl gf_X3_21 (sh_st hc) (by omega) rfl (rf_st3 hc) ?_
            refine X_iload dX3_addBlock_72 rfl ?_
            refine X_iload dX3_addBlock_73 rfl ?_
            refine Y_vS dX3_addBlock_74 cs_X3_67 (t_putk (sh_st3 hc) (by omega) _ n (by omega) rfl _) rfl (fun J2 e2 => ?_)
            refine X_aload dX3_addBlock_77 rfl ?_
            refine X_getR dX3_addBlock_78 rfl gf_X3_24 (sh_st hc) (by omega) rfl (rf_st4 hc) ?_
            refine X_iload dX3_addBlock_81 rfl ?_
            refine X_sipush dX3_addBlock_82 (by decide) ?_
            refine Y_vS dX3_addBlock_85 cs_X3_67 (t_putk (sh_st4 hc) (by omega) _ n (by omega) rfl _) rfl (fun J3 e3 => ?_)
            refine X_aload dX3_addBlock_88 rfl ?_
            refine X_getR dX3_addBlock_89 rfl gf_X3_27 (sh_st hc) (by omega) rfl (rf_st5 hc) ?_
            refine X_iload dX3_addBlock_92 rfl ?_
            refine X_iload dX3_addBlock_93 rfl ?_
            refine Y_vS dX3_addBlock_94 cs_X3_67 (t_putk (sh_st5 hc) (by omega) _ n (by omega) rfl _) rfl (fun J4 e4 => ?_)
            refine X_aload dX3_addBlock_97 rfl ?_
            refine X_getR dX3_addBlock_98 rfl gf_X3_30 (sh_st hc) (by omega) rfl (rf_st6 hc) ?_
            refine X_iload dX3_addBlock_101 rfl ?_
            refine X_iconst dX3_addBlock_102 ?_
            refine Y_vS dX3_addBlock_103 cs_X3_67 (t_putk (sh_st6 hc) (by omega) _ n (by omega) rfl _) rfl (fun J5 e5 => ?_)
            refine X_aload dX3_addBlock_106 rfl ?_
            refine X_getR dX3_addBlock_107 rfl gf_X3_33 (sh_st hc) (by omega) rfl (rf_st7 hc) ?_
            refine X_iload dX3_addBlock_110 rfl ?_
            refine X_iconst dX3_addBlock_111 ?_
            refine Y_vS dX3_addBlock_112 cs_X3_67 (t_putk (sh_st7 hc) (by omega) _ n (by omega) rfl _) rfl (fun J6 e6 => ?_)
            refine X_aload dX3_addBlock_115 rfl ?_
            refine X_getR dX3_addBlock_116 rfl gf_X3_36 (sh_st hc) (by omega) rfl (rf_st8 hc) ?_
            refine X_iload dX3_addBlock_119 rfl ?_
            refine X_iconst dX3_addBlock_120 ?_
            refine Y_vS dX3_addBlock_121 cs_X3_67 (t_putk (sh_st8 hc) (by omega) _ n (by omega) rfl _) rfl (fun J7 e7 => ?_)
            refine X_aload dX3_addBlock_124 rfl ?_
            refine X_getR dX3_addBlock_125 rfl gf_X3_39 (sh_st hc) (by omega) rfl (rf_st9 hc) ?_
            refine X_iload dX3_addBlock_128 rfl ?_
            refine X_iconst dX3_addBlock_129 ?_
            refine Y_vS dX3_addBlock_130 cs_X3_67 (t_putk (sh_st9 hc) (by omega) _ n (by omega) rfl _) rfl (fun J8 e8 => ?_)
            refine X_aload dX3_addBlock_133 rfl ?_
            refine X_getR dX3_addBlock_134 rfl gf_X3_15 (sh_st hc) (by omega) rfl (rf_st1 hc) ?_
            refine X_iload dX3_addBlock_137 rfl ?_
            refine X_iload dX3_addBlock_138 rfl ?_
            refine Y_vS dX3_addBlock_139 cs_X3_71 (t_raisek (sh_st1 hc) (by omega) _ s (by omega) rfl _) rfl (fun J9 e9 => ?_)
            refine X_aload dX3_addBlock_142 rfl ?_
            refine X_getR dX3_addBlock_143 rfl gf_X3_9 (sh_st hc) (by omega) rfl (rf_st0 hc) ?_
            refine X_bipush dX3_addBlock_146 (by decide) ?_
            refine X_iconst dX3_addBlock_148 ?_
            refine Y_vS dX3_addBlock_149 cs_X3_71 (t_raisek (sh_st0 hc) (by omega) _ 15 (by decide) rfl _) rfl (fun Ja ea => ?_)
            refine X_aload dX3_addBlock_152 rfl ?_
            refine X_getR dX3_addBlock_153 rfl gf_X3_9 (sh_st hc) (by omega) rfl (rf_st0 hc) ?_
            refine X_bipush dX3_addBlock_156 (by decide) ?_
            refine X_iconst dX3_addBlock_158 ?_
            refine Y_vS dX3_addBlock_159 cs_X3_71 (t_raisek (sh_st0 hc) (by omega) _ 16 (by decide) rfl _) rfl (fun Jb eb => ?_)
            refine X_iloadW dX3_addBlock_162 rfl ?_
            refine X_iret dX3_addBlock_164 (Or.inl rfl) ?_
            have hF2 : FR I Jb c := by
              subst e1; subst e2; subst e3; subst e4; subst e5; subst e6; subst e7; subst e8; subst e9; subst ea; subst eb
              exact ((((((((((FR.rf.up (by omega) (by omega)).up (by omega) (by omega)).up (by omega) (by omega)).up (by omega) (by omega)).up (by omega) (by omega)).up (by omega) (by omega)).up (by omega) (by omega)).up (by omega) (by omega)).up (by omega) (by omega)).up (by omega) (by omega)).up (by omega) (by omega)
            refine ⟨rfl, rfl, _, rfl, by unfold adZ; rw [if_neg (by omega), hf]; show _ = if _ then _ else _; rw [if_neg (by omega)], hF2, fun s1 _ h2 => ?_⟩
            cases h2
            exact hR.ad hs3 e1 e2 e3 e4 e5 e6 e7 e8 e9 ea eb
          · refine X_bipush dX3_addBlock_55 (by decide) ?_
            refine X_iret dX3_addBlock_57 (Or.inl rfl) ?_
            exact ⟨rfl, rfl, _, rfl, by unfold adZ; rw [if_neg (by omega), hf]; show _ = if _ then _ else _; rw [if_pos (by omega)], hF, fun s h => absurd h (by unfold adZ; rw [if_neg (by omega), hf]; show ¬ (0 : Int) ≤ if _ then _ else _; rw [if_pos (by omega)]; decide)⟩
      · refine X_bipush dX3_addBlock_11 (by decide) ?_
        refine X_iret dX3_addBlock_13 (Or.inl rfl) ?_
        exact ⟨rfl, rfl, _, rfl, by unfold adZ; rw [if_pos (by omega)], hF, fun s h => absurd h (by unfold adZ; rw [if_pos (by omega)]; decide)⟩
def rmG (g : Nat → Int) (k : Nat) : Nat → Int := fun i => if i < 23 then (if i = 15 then g 15 - 1 else g i) else if i < 23 + 8 * k then g i else g (i + 8)
theorem rmG_num {g : Nat → Int} {k i : Nat} (hi : i < 23) : rmG g k i = if i = 15 then g 15 - 1 else g i := by unfold rmG; rw [if_pos hi]
theorem rmG_lo {g : Nat → Int} {k q j : Nat} (hq : q < k) (hj : j < 8) : gb (rmG g k) q j = gb g q j := by
  unfold gb rmG; rw [if_neg (by omega), if_pos (by omega)]
theorem rmG_hi {g : Nat → Int} {k q j : Nat} (hq : k ≤ q) (hj : j < 8) : gb (rmG g k) q j = gb g (q + 1) j := by
  unfold gb rmG; rw [if_neg (by omega), if_neg (by omega)]; congr 1; omega
theorem sm_rm {f h : Nat → Int} {k : Nat} : ∀ {m : Nat}, k ≤ m → (∀ q, q < k → h q = f q) → (∀ q, k ≤ q → h q = f (q + 1)) → sm h m = sm f (m + 1) - f k
  | 0, hk, _, _ => by
    have : k = 0 := by omega
    subst this
    show (0 : Int) = 0 + f 0 - f 0
    omega
  | m + 1, hk, h1, h2 => by
    show sm h m + h m = sm f (m + 1) + f (m + 1) - f k
    by_cases e : k ≤ m
    · rw [sm_rm e h1 h2, h2 m e]; omega
    · have e2 : k = m + 1 := by omega
      subst e2
      rw [sm_congr (f := h) (h := f) (fun q hq => h1 q (by omega)), h1 m (by omega)]
      show sm f m + f m = sm f m + f m + f (m + 1) - f (m + 1)
      omega
theorem rmG_on {g : Nat → Int} {n k : Nat} (hk : k < n) (s : Int) (w : Nat) (hw : w < 8) : onF (rmG g k) (n - 1) s w = onF g n s w - (if gb g k 3 = s then (if w = 0 then 1 else gb g k w) else 0) := by
  obtain ⟨m, rfl⟩ : ∃ m, n = m + 1 := ⟨n - 1, by omega⟩
  unfold onF
  rw [show m + 1 - 1 = m by omega]
  exact sm_rm (f := fun k => if gb g k 3 = s then (if w = 0 then 1 else gb g k w) else 0) (by omega) (fun q hq => by rw [rmG_lo hq (by decide), rmG_lo hq hw]) (fun q hq => by rw [rmG_hi hq (by decide), rmG_hi hq hw])
theorem GI.rm {g : Nat → Int} {n k : Nat} (h : GI g n) (hk : k < n) : GI (rmG g k) (n - 1) := by
  obtain ⟨h1, h2, h3, h4, h5, h6, h7, h8, h9, h10, h11, h12⟩ := h
  have f : ∀ j, j < 23 → j ≠ 15 → rmG g k j = g j := fun j a b => by rw [rmG_num a, if_neg b]
  refine ⟨by omega, by rw [rmG_num (by decide), if_pos rfl, h2]; omega, by rw [f 0 (by decide) (by decide)]; exact h3, by rw [f 1 (by decide) (by decide)]; exact h4, by rw [f 2 (by decide) (by decide)]; exact h5, by rw [f 3 (by decide) (by decide)]; exact h6, by rw [f 4 (by decide) (by decide)]; exact h7, by rw [f 5 (by decide) (by decide)]; exact h8, fun j hj => by rw [f _ (by omega) (by omega)]; exact h9 j hj, fun j hj => by rw [f _ (by omega) (by omega)]; exact h10 j hj, by rw [f 16 (by decide) (by decide)]; exact h11, fun q hq => ?_⟩
  by_cases e : q < k
  · rw [rmG_lo e (by decide), rmG_lo e (by decide), rmG_lo e (by decide), rmG_lo e (by decide), rmG_lo e (by decide), rmG_lo e (by decide)]
    exact h12 q (by omega)
  · rw [rmG_hi (by omega) (by decide), rmG_hi (by omega) (by decide), rmG_hi (by omega) (by decide), rmG_hi (by omega) (by decide), rmG_hi (by omega) (by decide), rmG_hi (by omega) (by decide)]
    exact h12 (q + 1) (by omega)
def rmZ (g : Nat → Int) (n : Nat) (b : Int) : Int := match pl g n b with
  | none => -1
  | some k => gb g k 3
/-- the rows of attributes from j on, not yet closed; those ahead of j closed -/
def CGm (I I1 : xI) (c k m : Nat) : Prop := (∀ q, q < m → I1 (c + 3 + q) = x_cg I (c + 3 + q) k 23 (c + 3 + q)) ∧ ∀ q, (q < c + 3 ∨ c + 3 + m ≤ q) → I1 q = I q
theorem CGm.step {I I1 : xI} {c k m : Nat} (h : CGm I I1 c k m) {a : Nat} (ha : a = c + 3 + m) : CGm I (x_cg I1 a k 23) c k (m + 1) := by
  subst ha
  refine ⟨fun q hq => ?_, fun q hq => ?_⟩
  · by_cases e : q = m
    · subst e
      funext j
      unfold x_cg
      rw [h.2 (c + 3 + q) (by omega)]
    · have e2 : x_cg I1 (c + 3 + m) k 23 (c + 3 + q) = I1 (c + 3 + q) := by funext j; unfold x_cg; rw [if_neg (by omega)]
      rw [e2]; exact h.1 q (by omega)
  · have e2 : x_cg I1 (c + 3 + m) k 23 q = I1 q := by funext j; unfold x_cg; rw [if_neg (by omega)]
    rw [e2]; exact h.2 q (by omega)
theorem RS.rm {I : xI} {c : Nat} {g : Nat → Int} {n k o : Nat} (h : RS I c g n) (hn : n ≤ 24) (hk : k < n) (ho : gb g k 3 = (o : Int)) (ho3 : o < 3) {I1 I2 I3 : xI} (e1 : I1 = x_up I (c + 2) o (I (c + 2) o + -(gb g k 1))) (e2 : I2 = x_up I1 (c + 1) 15 (I1 (c + 1) 15 + -1)) (h3 : CGm I2 I3 c k 8) : RS I3 c (rmG g k) (n - 1) ∧ FR I I3 c := by
  refine ⟨⟨fun i hi => ?_, fun q hq j hj => ?_, fun s hs => ?_⟩, fun q hq => ?_⟩
  · rw [h3.2 _ (by omega), rmG_num hi, e2, x_up_app, e1, x_up_ne (by omega)]
    simp only [true_and]
    by_cases e : i = 15
    · subst e; rw [if_pos rfl, if_pos rfl, h.1 15 (by decide)]; omega
    · rw [if_neg e, if_neg e]; exact h.1 i hi
  · rw [h3.1 j hj]
    have e3 : I2 (c + 3 + j) = I (c + 3 + j) := by rw [e2, x_up_ne (by omega), e1, x_up_ne (by omega)]
    unfold x_cg
    rw [e3]
    by_cases e : q < k
    · rw [if_neg (by omega), rmG_lo e hj]; exact h.2.1 q (by omega) j hj
    · rw [if_pos (by omega), rmG_hi (by omega) hj]; exact h.2.1 (q + 1) (by omega) j hj
  · rw [h3.2 _ (by omega), rmG_on hk s 1 (by decide), e2, x_up_ne (by omega), e1, x_up_app, ho]
    simp only [true_and]
    by_cases e : s = o
    · subst e; rw [if_pos rfl, if_pos rfl, h.2.2 s hs]; rw [if_neg (by decide)]; omega
    · rw [if_neg e, if_neg (by omega), h.2.2 s hs]; omega
  · rw [h3.2 _ (by omega), e2, x_up_ne (by omega), e1, x_up_ne (by omega)]
set_option maxRecDepth 20000 in
set_option maxHeartbeats 4000000 in
theorem t_dropBlock {I : xI} {c : Nat} {g : Nat → Int} {n : Nat} (hc : x_st c) (hR : RS I c g n) (hG : GI g n) (b : Int) (hb : -2147483648 ≤ b ∧ b ≤ 2147483647) : S kX3_dropBlock 3 [rr c, ii b] I (q_i (fun z I1 => z = rmZ g n b ∧ FR I I1 c ∧ (∀ k, pl g n b = some k → RS I1 c (rmG g k) (n - 1)))) := by
  have lc := st_lt hc
  have hn24 := hG.n24
  have hF : FR I I c := FR.rf
  refine Sp_intro (by decide +kernel) (Nat.le_of_ble_eq_true rfl) ?_
  show Y kX3_dropBlock 3 0 [some (rr c), some (ii b), none, none] [] I _

  rcases hp : pl g n b with _ | k
  · have hfd := t_find hc hR hG b hb
    rw [hp] at hfd
    change S _ _ _ _ (q_p (ii (-1)) I) at hfd
    refine X_aload dX3_dropBlock_0 rfl ?_
    refine X_iload dX3_dropBlock_1 rfl ?_
    refine Y_pV dX3_dropBlock_2 cv_X3_78 (sh_st hc) (by omega) hfd rfl ?_
    refine X_istore dX3_dropBlock_5 (by decide) ?_
    dsimp only [List.set]
    refine X_iload dX3_dropBlock_6 rfl ?_
    refine X_iconst dX3_dropBlock_7 ?_
    refine X_icmp_ne (tgt := 13) dX3_dropBlock_8 (by decide) (by omega) (fun c_8 => absurd c_8 (by omega)) (fun c_8 => ?_)
    refine X_iconst dX3_dropBlock_11 ?_
    refine X_iret dX3_dropBlock_12 (Or.inl rfl) ?_
    exact ⟨rfl, rfl, _, rfl, by unfold rmZ; rw [hp], hF, fun k h => by cases h⟩
  · have hk := pl_lt hp
    have hb3 := (hG.b hk).2.2.2.1
    obtain ⟨o, ho⟩ := Int.eq_ofNat_of_zero_le hb3.1
    have hfd := t_find hc hR hG b hb
    rw [hp] at hfd
    change S _ _ _ _ (q_p (ii ((k : Nat) : Int)) I) at hfd
    refine X_aload dX3_dropBlock_0 rfl ?_
    refine X_iload dX3_dropBlock_1 rfl ?_
    refine Y_pV dX3_dropBlock_2 cv_X3_78 (sh_st hc) (by omega) hfd rfl ?_
    refine X_istore dX3_dropBlock_5 (by decide) ?_
    dsimp only [List.set]
    refine X_iload dX3_dropBlock_6 rfl ?_
    refine X_iconst dX3_dropBlock_7 ?_
    refine X_icmp_ne (tgt := 13) dX3_dropBlock_8 (by decide) (by omega) (fun c_8 => ?_) (fun c_8 => absurd c_8 (by omega))
    refine X_aload dX3_dropBlock_13 rfl ?_
    refine X_getR dX3_dropBlock_14 rfl gf_X3_27 (sh_st hc) (by omega) rfl (rf_st5 hc) ?_
    refine X_iload dX3_dropBlock_17 rfl ?_
    refine Y_pS dX3_dropBlock_18 cs_X3_49 (t_blk3 hc hR hn24 k (by omega) rfl) rfl ?_
    refine X_istore dX3_dropBlock_21 (by decide) ?_
    dsimp only [List.set]
    refine X_aload dX3_dropBlock_22 rfl ?_
    refine X_getR dX3_dropBlock_23 rfl gf_X3_15 (sh_st hc) (by omega) rfl (rf_st1 hc) ?_
    refine X_iload dX3_dropBlock_26 rfl ?_
    refine X_aload dX3_dropBlock_27 rfl ?_
    refine X_getR dX3_dropBlock_28 rfl gf_X3_21 (sh_st hc) (by omega) rfl (rf_st3 hc) ?_
    refine X_iload dX3_dropBlock_31 rfl ?_
    refine Y_pS dX3_dropBlock_32 cs_X3_49 (t_blk1 hc hR hn24 k (by omega) rfl) rfl ?_
    refine X_ineg dX3_dropBlock_35 ?_
    refine Y_vS dX3_dropBlock_36 cs_X3_71 (t_raisek (sh_st1 hc) (by omega) _ o (by omega) ho _) rfl (fun I1 e1 => ?_)
    refine X_aload dX3_dropBlock_39 rfl ?_
    refine X_getR dX3_dropBlock_40 rfl gf_X3_9 (sh_st hc) (by omega) rfl (rf_st0 hc) ?_
    refine X_bipush dX3_dropBlock_43 (by decide) ?_
    refine X_iconst dX3_dropBlock_45 ?_
    refine Y_vS dX3_dropBlock_46 cs_X3_71 (t_raisek (sh_st0 hc) (by omega) _ 15 (by decide) rfl _) rfl (fun I2 e2 => ?_)
    have hm : CGm I2 I2 c k 0 := ⟨fun q hq => absurd hq (Nat.not_lt_zero q), fun _ _ => rfl⟩
    refine X_aload dX3_dropBlock_49 rfl ?_
    refine X_getR dX3_dropBlock_50 rfl gf_X3_18 (sh_st hc) (by omega) rfl (rf_st2 hc) ?_
    refine X_iload dX3_dropBlock_53 rfl ?_
    refine Y_vS dX3_dropBlock_54 cs_X3_81 (t_closeGap (sh_st2 hc) (by omega) _ k (by omega) rfl) rfl (fun I54 q54 => ?_)
    subst q54
    have hm := hm.step (a := c + 3) (by omega)
    refine X_aload dX3_dropBlock_57 rfl ?_
    refine X_getR dX3_dropBlock_58 rfl gf_X3_21 (sh_st hc) (by omega) rfl (rf_st3 hc) ?_
    refine X_iload dX3_dropBlock_61 rfl ?_
    refine Y_vS dX3_dropBlock_62 cs_X3_81 (t_closeGap (sh_st3 hc) (by omega) _ k (by omega) rfl) rfl (fun I62 q62 => ?_)
    subst q62
    have hm := hm.step (a := c + 4) (by omega)
    refine X_aload dX3_dropBlock_65 rfl ?_
    refine X_getR dX3_dropBlock_66 rfl gf_X3_24 (sh_st hc) (by omega) rfl (rf_st4 hc) ?_
    refine X_iload dX3_dropBlock_69 rfl ?_
    refine Y_vS dX3_dropBlock_70 cs_X3_81 (t_closeGap (sh_st4 hc) (by omega) _ k (by omega) rfl) rfl (fun I70 q70 => ?_)
    subst q70
    have hm := hm.step (a := c + 5) (by omega)
    refine X_aload dX3_dropBlock_73 rfl ?_
    refine X_getR dX3_dropBlock_74 rfl gf_X3_27 (sh_st hc) (by omega) rfl (rf_st5 hc) ?_
    refine X_iload dX3_dropBlock_77 rfl ?_
    refine Y_vS dX3_dropBlock_78 cs_X3_81 (t_closeGap (sh_st5 hc) (by omega) _ k (by omega) rfl) rfl (fun I78 q78 => ?_)
    subst q78
    have hm := hm.step (a := c + 6) (by omega)
    refine X_aload dX3_dropBlock_81 rfl ?_
    refine X_getR dX3_dropBlock_82 rfl gf_X3_30 (sh_st hc) (by omega) rfl (rf_st6 hc) ?_
    refine X_iload dX3_dropBlock_85 rfl ?_
    refine Y_vS dX3_dropBlock_86 cs_X3_81 (t_closeGap (sh_st6 hc) (by omega) _ k (by omega) rfl) rfl (fun I86 q86 => ?_)
    subst q86
    have hm := hm.step (a := c + 7) (by omega)
    refine X_aload dX3_dropBlock_89 rfl ?_
    refine X_getR dX3_dropBlock_90 rfl gf_X3_33 (sh_st hc) (by omega) rfl (rf_st7 hc) ?_
    refine X_iload dX3_dropBlock_93 rfl ?_
    refine Y_vS dX3_dropBlock_94 cs_X3_81 (t_closeGap (sh_st7 hc) (by omega) _ k (by omega) rfl) rfl (fun I94 q94 => ?_)
    subst q94
    have hm := hm.step (a := c + 8) (by omega)
    refine X_aload dX3_dropBlock_97 rfl ?_
    refine X_getR dX3_dropBlock_98 rfl gf_X3_36 (sh_st hc) (by omega) rfl (rf_st8 hc) ?_
    refine X_iload dX3_dropBlock_101 rfl ?_
    refine Y_vS dX3_dropBlock_102 cs_X3_81 (t_closeGap (sh_st8 hc) (by omega) _ k (by omega) rfl) rfl (fun I102 q102 => ?_)
    subst q102
    have hm := hm.step (a := c + 9) (by omega)
    refine X_aload dX3_dropBlock_105 rfl ?_
    refine X_getR dX3_dropBlock_106 rfl gf_X3_39 (sh_st hc) (by omega) rfl (rf_st9 hc) ?_
    refine X_iload dX3_dropBlock_109 rfl ?_
    refine Y_vS dX3_dropBlock_110 cs_X3_81 (t_closeGap (sh_st9 hc) (by omega) _ k (by omega) rfl) rfl (fun I110 q110 => ?_)
    subst q110
    have hm := hm.step (a := c + 10) (by omega)
    refine X_iload dX3_dropBlock_113 rfl ?_
    refine X_iret dX3_dropBlock_114 (Or.inl rfl) ?_
    have hfin := hR.rm hn24 hk ho (by omega) e1 e2 hm
    exact ⟨rfl, rfl, _, rfl, by unfold rmZ; rw [hp], hfin.2, fun k1 h => by cases h; exact hfin.1⟩
end
section
/-! a night: who may move, whose turn is next, where a block moves to, the turns -/
def rs (g : Nat → Int) (k : Nat) : Int := if gb g k 4 = 0 then (if gb g k 5 ≤ 0 then (if wt g k = gb g k 3 then 3 else 4) else 2) else 1
theorem rs_bounds (g : Nat → Int) (k : Nat) : 0 ≤ rs g k ∧ rs g k ≤ 5 := by unfold rs; split <;> (try split) <;> (try split) <;> omega
theorem wt_bounds (g : Nat → Int) (k : Nat) : 0 ≤ wt g k ∧ wt g k ≤ 2 := by unfold wt; split <;> (try split) <;> omega
/-- whether k is better than the best so far -/
def btr (g : Nat → Int) (dn : Bool) (k : Nat) (r : Option Nat) : Bool := match r with
  | none => true
  | some q => if dn = true then decide (gb g k 2 < gb g q 2) else decide (gb g q 2 < gb g k 2)
def cnd (w g y : Nat → Int) (dn : Bool) (k : Nat) : Bool := decide (y k = 4) && (decide (gb g k 3 < w k) == dn)
def nxF (w g y : Nat → Int) (dn : Bool) : Nat → Option Nat
  | 0 => none
  | k + 1 => if (cnd w g y dn k && btr g dn k (nxF w g y dn k)) = true then some k else nxF w g y dn k
theorem nxF_lt {w g y : Nat → Int} {dn : Bool} : ∀ {m k : Nat}, nxF w g y dn m = some k → k < m ∧ cnd w g y dn k = true
  | 0, k, h => by cases h
  | m + 1, k, h => by
    unfold nxF at h
    split at h
    · rename_i h1
      cases h
      rw [Bool.and_eq_true] at h1
      exact ⟨Nat.lt_succ_self m, h1.1⟩
    · have := nxF_lt h
      exact ⟨by omega, this.2⟩
theorem nxF_none {w g y : Nat → Int} {dn : Bool} : ∀ {m : Nat}, nxF w g y dn m = none → ∀ k, k < m → cnd w g y dn k = false
  | 0, _, k, hk => absurd hk (Nat.not_lt_zero k)
  | m + 1, h, k, hk => by
    unfold nxF at h
    split at h
    · cases h
    · rename_i h1
      by_cases e : k = m
      · subst e
        rw [h] at h1
        simpa [btr] using h1
      · exact nxF_none h k (by omega)
def yu (y : Nat → Int) (k : Nat) (v : Int) : Nat → Int := fun i => if i = k then v else y i
def tg (w g : Nat → Int) (n k : Nat) : Option Nat := if rmB g n (w k).toNat (gb g k 1) = true then some (w k).toNat else if (w k - gb g k 3 = 2 ∨ gb g k 3 - w k = 2) ∧ rmB g n 1 (gb g k 1) = true then some 1 else none
def mp (g : Nat → Int) (k sh : Nat) : Nat → Int := if sh = 2 then gB (mv g k (sh : Int)) k 5 (mv g k (sh : Int) 4) else mv g k (sh : Int)
def tn (w : Nat → Int) (n : Nat) (most : Int) (dn : Bool) : Nat → (Nat → Int) → (Nat → Int) → Int → (Nat → Int) × (Nat → Int) × Int
  | 0, g, y, m => (g, y, m)
  | f + 1, g, y, m => if m < most then (match nxF w g y dn n with
    | none => (g, y, m)
    | some k => match tg w g n k with
      | none => tn w n most dn f g (yu y k 5) m
      | some sh => tn w n most dn f (mp g k sh) (yu y k 0) (m + 1)) else (g, y, m)
theorem tg_lt {w g : Nat → Int} {n k sh : Nat} (hw : 0 ≤ w k ∧ w k ≤ 2) (h : tg w g n k = some sh) : sh < 3 := by
  unfold tg at h
  split at h
  · cases h; omega
  · split at h
    · cases h; decide
    · cases h
theorem mp_num {g : Nat → Int} {k sh j : Nat} (hj : j < 23) : mp g k sh j = g j := by
  unfold mp
  split
  · rw [gB_num hj, mv_num hj]
  · rw [mv_num hj]
theorem GI.setP {g : Nat → Int} {n k sh : Nat} (h : GI g n) (hs : sh < 3) : GI (mp g k sh) n := by
  have h4 := h.s4
  have h1 := h.setM (k := k) (sh := (sh : Int)) (by omega)
  unfold mp
  split
  · have e : mv g k (sh : Int) 4 = g 4 := mv_num (by decide)
    exact h1.setB (by decide) ⟨by omega, by omega, by omega, by omega, by omega, by omega⟩
  · exact h1
theorem GI.setT {w : Nat → Int} {n : Nat} {most : Int} {dn : Bool} (hw : ∀ k, k < n → 0 ≤ w k ∧ w k ≤ 2) : ∀ (f : Nat) (g y : Nat → Int) (m : Int), GI g n → GI (tn w n most dn f g y m).1 n
  | 0, g, y, m, h => h
  | f + 1, g, y, m, h => by
    show GI (if m < most then _ else _ : (Nat → Int) × (Nat → Int) × Int).1 n
    split
    · cases hk : nxF w g y dn n with
      | none => exact h
      | some k =>
        cases ht : tg w g n k with
        | none => simp only [ht]; exact GI.setT hw f g _ m h
        | some sh => simp only [ht]; exact GI.setT hw f _ _ _ (h.setP (tg_lt (hw k (nxF_lt hk).1) ht))
    · exact h
theorem tn_y {w : Nat → Int} {n : Nat} {most : Int} {dn : Bool} : ∀ (f : Nat) (g y : Nat → Int) (m : Int), (∀ k, k < n → 0 ≤ y k ∧ y k ≤ 5) → ∀ k, k < n → 0 ≤ (tn w n most dn f g y m).2.1 k ∧ (tn w n most dn f g y m).2.1 k ≤ 5
  | 0, g, y, m, h => h
  | f + 1, g, y, m, h => by
    show ∀ k, k < n → 0 ≤ (if m < most then _ else _ : (Nat → Int) × (Nat → Int) × Int).2.1 k ∧ (if m < most then _ else _ : (Nat → Int) × (Nat → Int) × Int).2.1 k ≤ 5
    have hu : ∀ (q : Nat) (v : Int), 0 ≤ v ∧ v ≤ 5 → ∀ k, k < n → 0 ≤ yu y q v k ∧ yu y q v k ≤ 5 := by
      intro q v hv k hk
      unfold yu
      split
      · exact hv
      · exact h k hk
    split
    · cases hk : nxF w g y dn n with
      | none => exact h
      | some k =>
        cases ht : tg w g n k with
        | none => simp only [ht]; exact tn_y f g _ m (hu k 5 (by decide))
        | some sh => simp only [ht]; exact tn_y f _ _ _ (hu k 0 (by decide))
    · exact h
theorem tn_m {w : Nat → Int} {n : Nat} {most : Int} {dn : Bool} : ∀ (f : Nat) (g y : Nat → Int) (m : Int), m ≤ (tn w n most dn f g y m).2.2 ∧ (tn w n most dn f g y m).2.2 ≤ m + f ∧ (m ≤ most → (tn w n most dn f g y m).2.2 ≤ most)
  | 0, g, y, m => by show m ≤ m ∧ m ≤ m + (0 : Nat) ∧ (m ≤ most → m ≤ most); omega
  | f + 1, g, y, m => by
    show m ≤ (if m < most then _ else _ : (Nat → Int) × (Nat → Int) × Int).2.2 ∧ (if m < most then _ else _ : (Nat → Int) × (Nat → Int) × Int).2.2 ≤ m + ((f + 1 : Nat) : Int) ∧ (m ≤ most → (if m < most then _ else _ : (Nat → Int) × (Nat → Int) × Int).2.2 ≤ most)
    split
    · rename_i hlt
      cases hk : nxF w g y dn n with
      | none => dsimp only; omega
      | some k =>
        cases ht : tg w g n k with
        | none =>
          simp only [ht]
          have := tn_m (w := w) (n := n) (most := most) (dn := dn) f g (yu y k 5) m
          omega
        | some sh =>
          simp only [ht]
          have := tn_m (w := w) (n := n) (most := most) (dn := dn) f (mp g k sh) (yu y k 0) (m + 1)
          omega
    · dsimp only; omega
theorem mp_gb1 {g : Nat → Int} {k sh q : Nat} : gb (mp g k sh) q 2 = gb g q 2 ∧ gb (mp g k sh) q 1 = gb g q 1 ∧ gb (mp g k sh) q 0 = gb g q 0 ∧ gb (mp g k sh) q 4 = gb g q 4 ∧ gb (mp g k sh) q 6 = gb g q 6 := by
  unfold mp
  split
  · refine ⟨?_, ?_, ?_, ?_, ?_⟩ <;> rw [gB_ne (by decide) (by decide) (by decide), mv_gb (by decide), if_neg (by omega), if_neg (by omega)]
  · refine ⟨?_, ?_, ?_, ?_, ?_⟩ <;> rw [mv_gb (by decide), if_neg (by omega), if_neg (by omega)]
/-- what a night gives: the state, why each block stays, how many move; 'MOVED' not yet counted -/
def nt1 (g : Nat → Int) (n : Nat) : Nat → Int := fdF (pyF g n 3) n
def ntD (g : Nat → Int) (n : Nat) (most : Int) : (Nat → Int) × (Nat → Int) × Int := tn (wt (nt1 g n)) n most true 24 (nt1 g n) (rs (nt1 g n)) 0
def ntU (g : Nat → Int) (n : Nat) (most : Int) : (Nat → Int) × (Nat → Int) × Int := tn (wt (nt1 g n)) n (most - (ntD g n most).2.2) false 24 (ntD g n most).1 (ntD g n most).2.1 0
def ntM (g : Nat → Int) (n : Nat) (most : Int) : Int := (ntD g n most).2.2 + (ntU g n most).2.2
theorem GI.n1 {g : Nat → Int} {n : Nat} (h : GI g n) : GI (nt1 g n) n := (h.py 3).fd n (Nat.le_refl n)
theorem GI.nD {g : Nat → Int} {n : Nat} (h : GI g n) (most : Int) : GI (ntD g n most).1 n := GI.setT (fun k _ => wt_bounds _ k) _ _ _ _ h.n1
theorem GI.nU {g : Nat → Int} {n : Nat} (h : GI g n) (most : Int) : GI (ntU g n most).1 n := GI.setT (fun k _ => wt_bounds _ k) _ _ _ _ (h.nD most)
/-- nights, one after the other -/
def nsG (g : Nat → Int) (n : Nat) (most : Int) : Nat → (Nat → Int)
  | 0 => g
  | i + 1 => (ntU (nsG g n most i) n most).1
def nsM (g : Nat → Int) (n : Nat) (most : Int) : Nat → Int
  | 0 => 0
  | i + 1 => nsM g n most i + ntM (nsG g n most i) n most
theorem GI.ns {g : Nat → Int} {n : Nat} (h : GI g n) (most : Int) : ∀ i, GI (nsG g n most i) n
  | 0 => h
  | i + 1 => (GI.ns h most i).nU most
def npG (g : Nat → Int) (n : Nat) (i : Nat) : Nat → Int := gN (nsG g n (g 3) i) 21 (nsG g n (g 3) i 21 + nsM g n (g 3) i)
theorem GI.np {g : Nat → Int} {n : Nat} (h : GI g n) (i : Nat) : GI (npG g n i) n := (h.ns (g 3) i).acc (by decide) _
theorem ntM_bounds (g : Nat → Int) (n : Nat) (most : Int) : 0 ≤ ntM g n most ∧ ntM g n most ≤ 48 := by
  have h1 := tn_m (w := wt (nt1 g n)) (n := n) (most := most) (dn := true) 24 (nt1 g n) (rs (nt1 g n)) 0
  have h2 := tn_m (w := wt (nt1 g n)) (n := n) (most := most - (ntD g n most).2.2) (dn := false) 24 (ntD g n most).1 (ntD g n most).2.1 0
  unfold ntM
  have e1 : (ntD g n most).2.2 = (tn (wt (nt1 g n)) n most true 24 (nt1 g n) (rs (nt1 g n)) 0).2.2 := rfl
  have e2 : (ntU g n most).2.2 = (tn (wt (nt1 g n)) n (most - (ntD g n most).2.2) false 24 (ntD g n most).1 (ntD g n most).2.1 0).2.2 := rfl
  omega
theorem nsM_bounds (g : Nat → Int) (n : Nat) (most : Int) : ∀ i : Nat, 0 ≤ nsM g n most i ∧ nsM g n most i ≤ 48 * i
  | 0 => by show (0 : Int) ≤ 0 ∧ (0 : Int) ≤ 48 * (0 : Nat); omega
  | i + 1 => by
    have h1 := nsM_bounds g n most i
    have h2 := ntM_bounds (nsG g n most i) n most
    show 0 ≤ nsM g n most i + ntM (nsG g n most i) n most ∧ nsM g n most i + ntM (nsG g n most i) n most ≤ 48 * ((i + 1 : Nat) : Int)
    omega
/-- the Night's rows hold what is wanted and why -/
def WR (I : xI) (n : Nat) (w y : Nat → Int) : Prop := ∀ k, k < n → I 81 k = w k ∧ I 82 k = y k
/-- what a method of Night leaves alone -/
def FT (I I1 : xI) (c : Nat) : Prop := ∀ q, (q ≤ c ∨ c + 11 ≤ q) → q ≠ 81 → q ≠ 82 → I1 q = I q
theorem FT.rf {I : xI} {c : Nat} : FT I I c := fun _ _ _ _ => rfl
theorem FT.trans {I I1 I2 : xI} {c : Nat} (h : FT I I1 c) (h' : FT I1 I2 c) : FT I I2 c := fun q a b d => (h' q a b d).trans (h q a b d)
theorem FR.t {I I1 : xI} {c : Nat} (h : FR I I1 c) : FT I I1 c := fun q a _ _ => h q a
theorem RS.keep {I I1 : xI} {c : Nat} {g : Nat → Int} {n : Nat} (h : RS I c g n) (e : ∀ q, c + 1 ≤ q → q ≤ c + 10 → I1 q = I q) : RS I1 c g n :=
  ⟨fun j hj => by rw [e _ (by omega) (by omega)]; exact h.1 j hj, fun k hk j hj => by rw [e _ (by omega) (by omega)]; exact h.2.1 k hk j hj, fun s hs => by rw [e _ (by omega) (by omega)]; exact h.2.2 s hs⟩
theorem st_low {c : Nat} (h : x_st c) : c + 10 < 80 := by unfold x_st at h; omega
theorem RS.up81 {I : xI} {c : Nat} {g : Nat → Int} {n : Nat} (hc : x_st c) (h : RS I c g n) {q j : Nat} {z : Int} (hq : q = 81 ∨ q = 82) : RS (x_up I q j z) c g n := by
  have := st_low hc
  exact h.keep (fun p h1 h2 => x_up_ne (by omega))
theorem FT.up81 {I I1 : xI} {c : Nat} (h : FT I I1 c) {q j : Nat} {z : Int} (hq : q = 81 ∨ q = 82) : FT I (x_up I1 q j z) c := fun p a b d => by
  rw [x_up_ne (by omega)]; exact h p a b d
theorem WR.fr {I I1 : xI} {c n : Nat} {w y : Nat → Int} (hc : x_st c) (h : WR I n w y) (hF : FR I I1 c) : WR I1 n w y := by
  have := st_low hc
  intro k hk
  rw [hF 81 (by omega), hF 82 (by omega)]
  exact h k hk
theorem WR.setY {I : xI} {n : Nat} {w y : Nat → Int} (h : WR I n w y) (k : Nat) (v : Int) : WR (x_up I 82 k v) n w (yu y k v) := by
  intro q hq
  refine ⟨by rw [x_up_off (by decide)]; exact (h q hq).1, ?_⟩
  rw [x_up_app]
  unfold yu
  by_cases e : q = k
  · rw [if_pos ⟨rfl, e⟩, if_pos e]
  · rw [if_neg (by omega), if_neg e]; exact (h q hq).2
end
section
/-! Night: its methods -/
theorem WR.add {I : xI} {k : Nat} {w y : Nat → Int} (h : WR I k w y) {a b : Int} (ha : a = w k) (hb : b = y k) : WR (x_up (x_up I 81 k a) 82 k b) (k + 1) w y := by
  intro q hq
  by_cases e : q = k
  · subst e
    rw [x_up_off (by decide), x_up_same, x_up_same]; exact ⟨ha, hb⟩
  · rw [x_up_off (by decide), x_up_offj e, x_up_offj e, x_up_off (by decide)]
    exact h q (by omega)
def FN (I I1 : xI) : Prop := ∀ q, q ≠ 81 → q ≠ 82 → I1 q = I q
set_option maxRecDepth 20000 in
set_option maxHeartbeats 4000000 in
theorem t_findWho_loop {I : xI} {c : Nat} {g : Nat → Int} {n : Nat} (hc : x_st c) (hG : GI g n) : ∀ (m k : Nat), k + m = n → ∀ (I1 : xI), RS I1 c g n → WR I1 k (wt g) (rs g) → FN I I1 → Y kX1_findWhoMayMove 2 7 [some (rr 80), some (rr c), some (ii (n : Int)), some (ii (k : Int)), none] [] I1 (q_v (fun I2 => RS I2 c g n ∧ WR I2 n (wt g) (rs g) ∧ FN I I2)) := by
  have lc := st_lt hc
  have lw := st_low hc
  have hn24 := hG.n24
  intro m
  induction m with
  | zero =>
    intro k hk I1 hR hW hF
    refine X_iload dX1_findWhoMayMove_7 rfl ?_
    refine X_iload dX1_findWhoMayMove_8 rfl ?_
    refine X_icmp_ge (tgt := 100) dX1_findWhoMayMove_9 (by decide) (by omega) (fun c_9 => ?_) (fun c_9 => absurd c_9 (by omega))
    refine X_vret dX1_findWhoMayMove_100 rfl ?_
    rw [show n = k by omega]
    exact ⟨rfl, rfl, rfl, by rw [← show n = k by omega]; exact hR, hW, hF⟩
  | succ m ih =>
    intro k hk I1 hR hW hF
    refine X_iload dX1_findWhoMayMove_7 rfl ?_
    refine X_iload dX1_findWhoMayMove_8 rfl ?_
    refine X_icmp_ge (tgt := 100) dX1_findWhoMayMove_9 (by decide) (by omega) (fun c_9 => absurd c_9 (by omega)) (fun c_9 => ?_)
    refine X_iconst dX1_findWhoMayMove_12 ?_
    refine X_istoreW dX1_findWhoMayMove_13 (by decide) ?_
    dsimp only [List.set]
    refine X_aload dX1_findWhoMayMove_15 rfl ?_
    refine X_getR dX1_findWhoMayMove_16 rfl gf_X1_9 sh_80 (by decide) rfl rf_80_0 ?_
    refine X_iload dX1_findWhoMayMove_19 rfl ?_
    refine X_aload dX1_findWhoMayMove_20 rfl ?_
    refine X_iload dX1_findWhoMayMove_21 rfl ?_
    refine Y_pV dX1_findWhoMayMove_22 cv_X1_49 (sh_st hc) (by omega) (t_wantedShelf hc hR hG k (by omega) rfl) rfl ?_
    refine Y_vS dX1_findWhoMayMove_25 cs_X1_53 (t_putk sh_81 (by decide) _ k (by omega) rfl _) rfl (fun I25 e25 => ?_)
    subst e25
    have hR := hR.up81 (q := 81) (j := k) (z := wt g k) hc (Or.inl rfl)
    refine X_aload dX1_findWhoMayMove_28 rfl ?_
    refine X_getR dX1_findWhoMayMove_29 rfl gf_X1_56 (sh_st hc) (by omega) rfl (rf_st6 hc) ?_
    refine X_iload dX1_findWhoMayMove_32 rfl ?_
    refine Y_pS dX1_findWhoMayMove_33 cs_X1_23 (t_blk4 hc hR hn24 k (by omega) rfl) rfl ?_
    have hb4 := (hG.b (k := k) (by omega)).2.2.2.2
    have hb3 := (hG.b (k := k) (by omega)).2.2.2.1
    have hw := wt_bounds g k
    refine X_if_eq (tgt := 45) dX1_findWhoMayMove_36 (by decide) (by omega) (fun c_36 => ?_) (fun c_36 => ?_)
    · refine X_aload dX1_findWhoMayMove_45 rfl ?_
      refine X_getR dX1_findWhoMayMove_46 rfl gf_X1_59 (sh_st hc) (by omega) rfl (rf_st7 hc) ?_
      refine X_iload dX1_findWhoMayMove_49 rfl ?_
      refine Y_pS dX1_findWhoMayMove_50 cs_X1_23 (t_blk5 hc hR hn24 k (by omega) rfl) rfl ?_
      refine X_if_le (tgt := 62) dX1_findWhoMayMove_53 (by decide) (by omega) (fun c_53 => ?_) (fun c_53 => ?_)
      · refine X_aload dX1_findWhoMayMove_62 rfl ?_
        refine X_getR dX1_findWhoMayMove_63 rfl gf_X1_9 sh_80 (by decide) rfl rf_80_0 ?_
        refine X_iload dX1_findWhoMayMove_66 rfl ?_
        refine Y_pS dX1_findWhoMayMove_67 cs_X1_23 (t_atk sh_81 (Or.inl (by decide)) _ k (by omega) rfl) rfl ?_
        rw [x_up_same]
        refine X_aload dX1_findWhoMayMove_70 rfl ?_
        refine X_getR dX1_findWhoMayMove_71 rfl gf_X1_62 (sh_st hc) (by omega) rfl (rf_st5 hc) ?_
        refine X_iload dX1_findWhoMayMove_74 rfl ?_
        refine Y_pS dX1_findWhoMayMove_75 cs_X1_23 (t_blk3 hc hR hn24 k (by omega) rfl) rfl ?_
        refine X_icmp_ne (tgt := 84) dX1_findWhoMayMove_78 (by decide) (by omega) (fun c_78 => ?_) (fun c_78 => ?_)
        · have er : rs g k = 4 := by
            unfold rs
            first
              | rw [if_neg (by omega)]
              | rw [if_pos (by omega), if_neg (by omega)]
              | rw [if_pos (by omega), if_pos (by omega), if_pos (by omega)]
              | rw [if_pos (by omega), if_pos (by omega), if_neg (by omega)]
          refine X_aload dX1_findWhoMayMove_84 rfl ?_
          refine X_getR dX1_findWhoMayMove_85 rfl gf_X1_15 sh_80 (by decide) rfl rf_80_1 ?_
          refine X_iload dX1_findWhoMayMove_88 rfl ?_
          refine X_iloadW dX1_findWhoMayMove_89 rfl ?_
          refine Y_vS dX1_findWhoMayMove_91 cs_X1_53 (t_putk sh_82 (by decide) _ k (by omega) rfl _) rfl (fun I91 e91 => ?_)
          subst e91
          have hR := hR.up81 (q := 82) (j := k) (z := 4) hc (Or.inr rfl)
          refine X_iinc dX1_findWhoMayMove_94 rfl ?_
          dsimp only [List.set]
          refine X_goto (tgt := 7) dX1_findWhoMayMove_97 (by decide) ?_
          refine X_drop 4 ?_
          dsimp only [List.set]
          exact ih (k + 1) (by omega) _ hR (hW.add rfl er.symm) (fun q a b => by rw [x_up_ne b, x_up_ne a]; exact hF q a b)
        · refine X_iconst dX1_findWhoMayMove_81 ?_
          refine X_istoreW dX1_findWhoMayMove_82 (by decide) ?_
          dsimp only [List.set]
          have er : rs g k = 3 := by
            unfold rs
            first
              | rw [if_neg (by omega)]
              | rw [if_pos (by omega), if_neg (by omega)]
              | rw [if_pos (by omega), if_pos (by omega), if_pos (by omega)]
              | rw [if_pos (by omega), if_pos (by omega), if_neg (by omega)]
          refine X_aload dX1_findWhoMayMove_84 rfl ?_
          refine X_getR dX1_findWhoMayMove_85 rfl gf_X1_15 sh_80 (by decide) rfl rf_80_1 ?_
          refine X_iload dX1_findWhoMayMove_88 rfl ?_
          refine X_iloadW dX1_findWhoMayMove_89 rfl ?_
          refine Y_vS dX1_findWhoMayMove_91 cs_X1_53 (t_putk sh_82 (by decide) _ k (by omega) rfl _) rfl (fun I91 e91 => ?_)
          subst e91
          have hR := hR.up81 (q := 82) (j := k) (z := 3) hc (Or.inr rfl)
          refine X_iinc dX1_findWhoMayMove_94 rfl ?_
          dsimp only [List.set]
          refine X_goto (tgt := 7) dX1_findWhoMayMove_97 (by decide) ?_
          refine X_drop 4 ?_
          dsimp only [List.set]
          exact ih (k + 1) (by omega) _ hR (hW.add rfl er.symm) (fun q a b => by rw [x_up_ne b, x_up_ne a]; exact hF q a b)
      · refine X_iconst dX1_findWhoMayMove_56 ?_
        refine X_istoreW dX1_findWhoMayMove_57 (by decide) ?_
        dsimp only [List.set]
        refine X_goto (tgt := 84) dX1_findWhoMayMove_59 (by decide) ?_
        have er : rs g k = 2 := by
          unfold rs
          first
            | rw [if_neg (by omega)]
            | rw [if_pos (by omega), if_neg (by omega)]
            | rw [if_pos (by omega), if_pos (by omega), if_pos (by omega)]
            | rw [if_pos (by omega), if_pos (by omega), if_neg (by omega)]
        refine X_aload dX1_findWhoMayMove_84 rfl ?_
        refine X_getR dX1_findWhoMayMove_85 rfl gf_X1_15 sh_80 (by decide) rfl rf_80_1 ?_
        refine X_iload dX1_findWhoMayMove_88 rfl ?_
        refine X_iloadW dX1_findWhoMayMove_89 rfl ?_
        refine Y_vS dX1_findWhoMayMove_91 cs_X1_53 (t_putk sh_82 (by decide) _ k (by omega) rfl _) rfl (fun I91 e91 => ?_)
        subst e91
        have hR := hR.up81 (q := 82) (j := k) (z := 2) hc (Or.inr rfl)
        refine X_iinc dX1_findWhoMayMove_94 rfl ?_
        dsimp only [List.set]
        refine X_goto (tgt := 7) dX1_findWhoMayMove_97 (by decide) ?_
        refine X_drop 4 ?_
        dsimp only [List.set]
        exact ih (k + 1) (by omega) _ hR (hW.add rfl er.symm) (fun q a b => by rw [x_up_ne b, x_up_ne a]; exact hF q a b)
    · refine X_iconst dX1_findWhoMayMove_39 ?_
      refine X_istoreW dX1_findWhoMayMove_40 (by decide) ?_
      dsimp only [List.set]
      refine X_goto (tgt := 84) dX1_findWhoMayMove_42 (by decide) ?_
      have er : rs g k = 1 := by
        unfold rs
        first
          | rw [if_neg (by omega)]
          | rw [if_pos (by omega), if_neg (by omega)]
          | rw [if_pos (by omega), if_pos (by omega), if_pos (by omega)]
          | rw [if_pos (by omega), if_pos (by omega), if_neg (by omega)]
      refine X_aload dX1_findWhoMayMove_84 rfl ?_
      refine X_getR dX1_findWhoMayMove_85 rfl gf_X1_15 sh_80 (by decide) rfl rf_80_1 ?_
      refine X_iload dX1_findWhoMayMove_88 rfl ?_
      refine X_iloadW dX1_findWhoMayMove_89 rfl ?_
      refine Y_vS dX1_findWhoMayMove_91 cs_X1_53 (t_putk sh_82 (by decide) _ k (by omega) rfl _) rfl (fun I91 e91 => ?_)
      subst e91
      have hR := hR.up81 (q := 82) (j := k) (z := 1) hc (Or.inr rfl)
      refine X_iinc dX1_findWhoMayMove_94 rfl ?_
      dsimp only [List.set]
      refine X_goto (tgt := 7) dX1_findWhoMayMove_97 (by decide) ?_
      refine X_drop 4 ?_
      dsimp only [List.set]
      exact ih (k + 1) (by omega) _ hR (hW.add rfl er.symm) (fun q a b => by rw [x_up_ne b, x_up_ne a]; exact hF q a b)
set_option maxRecDepth 20000 in
set_option maxHeartbeats 4000000 in
theorem t_findWho {I : xI} {c : Nat} {g : Nat → Int} {n : Nat} (hc : x_st c) (hR : RS I c g n) (hG : GI g n) : S kX1_findWhoMayMove 2 [rr 80, rr c] I (q_v (fun I2 => RS I2 c g n ∧ WR I2 n (wt g) (rs g) ∧ FN I I2)) := by
  have lc := st_lt hc
  have lw := st_low hc
  have hn24 := hG.n24
  refine Sp_intro (by decide +kernel) (Nat.le_of_ble_eq_true rfl) ?_
  show Y kX1_findWhoMayMove 2 0 [some (rr 80), some (rr c), none, none, none] [] I _
  refine X_aload dX1_findWhoMayMove_0 rfl ?_
  refine Y_pV dX1_findWhoMayMove_1 cv_X1_45 (sh_st hc) (by omega) (t_countBlocks hc hR hG) rfl ?_
  refine X_istore dX1_findWhoMayMove_4 (by decide) ?_
  dsimp only [List.set]
  refine X_iconst dX1_findWhoMayMove_5 ?_
  refine X_istore dX1_findWhoMayMove_6 (by decide) ?_
  dsimp only [List.set]
  exact t_findWho_loop hc hG n 0 (by omega) I hR (fun k hk => absurd hk (Nat.not_lt_zero k)) (fun _ _ _ => rfl)
def lst (g : Nat → Int) (dn : Bool) (r : Option Nat) : Int := match r with
  | none => 0
  | some q => if dn = true then gb g q 2 else -(gb g q 2)
set_option maxRecDepth 20000 in
set_option maxHeartbeats 4000000 in
theorem t_nextInTurn1_loop {I : xI} {c : Nat} {g : Nat → Int} {n : Nat} (hc : x_st c) (hR : RS I c g n) (hG : GI g n) {w y : Nat → Int} (hW : WR I n w y) (hw : ∀ k, k < n → 0 ≤ w k ∧ w k ≤ 2) (hy : ∀ k, k < n → 0 ≤ y k ∧ y k ≤ 5) : ∀ (m k : Nat), k + m = n → Y kX1_nextInTurn 2 19 [some (rr 80), some (rr c), some (ii 1), some (ii (n : Int)), some (ii (oi (nxF w g y true k) (-1))), some (ii (lst g true (nxF w g y true k))), some (ii (k : Int)), none, none] [] I (q_p (ii (oi (nxF w g y true n) (-1))) I) := by
  have lc := st_lt hc
  have lw := st_low hc
  have hn24 := hG.n24
  intro m
  induction m with
  | zero =>
    intro k hk
    refine X_iloadW dX1_nextInTurn_19 rfl ?_
    refine X_iload dX1_nextInTurn_21 rfl ?_
    refine X_icmp_ge (tgt := 127) dX1_nextInTurn_22 (by decide) (by omega) (fun c_22 => ?_) (fun c_22 => absurd c_22 (by omega))
    refine X_iloadW dX1_nextInTurn_127 rfl ?_
    refine X_iret dX1_nextInTurn_129 (Or.inl rfl) ?_
    exact ⟨by rw [show n = k by omega], rfl, rfl, rfl⟩
  | succ m ih =>
    intro k hk
    rcases hr : nxF w g y true k with _ | q
    · change Y _ _ _ [some (rr 80), some (rr c), some (ii 1), some (ii (n : Int)), some (ii (-1)), some (ii 0), some (ii (k : Int)), none, none] _ _ _
      refine X_iloadW dX1_nextInTurn_19 rfl ?_
      refine X_iload dX1_nextInTurn_21 rfl ?_
      refine X_icmp_ge (tgt := 127) dX1_nextInTurn_22 (by decide) (by omega) (fun c_22 => absurd c_22 (by omega)) (fun c_22 => ?_)
      refine X_aload dX1_nextInTurn_25 rfl ?_
      refine X_getR dX1_nextInTurn_26 rfl gf_X1_9 sh_80 (by decide) rfl rf_80_0 ?_
      refine X_iloadW dX1_nextInTurn_29 rfl ?_
      refine Y_pS dX1_nextInTurn_31 cs_X1_23 (t_atk sh_81 (Or.inl (by decide)) _ k (by omega) rfl) rfl ?_
      rw [(hW k (by omega)).1]
      refine X_aload dX1_nextInTurn_34 rfl ?_
      refine X_getR dX1_nextInTurn_35 rfl gf_X1_62 (sh_st hc) (by omega) rfl (rf_st5 hc) ?_
      refine X_iloadW dX1_nextInTurn_38 rfl ?_
      refine Y_pS dX1_nextInTurn_40 cs_X1_23 (t_blk3 hc hR hn24 k (by omega) rfl) rfl ?_
      have hb3 := (hG.b (k := k) (by omega)).2.2.2.1
      have hb2 := (hG.b (k := k) (by omega)).2.2.1
      have hwk := hw k (by omega)
      have hyk := hy k (by omega)
      refine X_icmp_le (tgt := 50) dX1_nextInTurn_43 (by decide) (by omega) (fun c_43 => ?_) (fun c_43 => ?_)
      · refine X_iconst dX1_nextInTurn_50 ?_
        refine X_istoreW dX1_nextInTurn_51 (by decide) ?_
        dsimp only [List.set]
        refine X_aload dX1_nextInTurn_53 rfl ?_
        refine X_getR dX1_nextInTurn_54 rfl gf_X1_15 sh_80 (by decide) rfl rf_80_1 ?_
        refine X_iloadW dX1_nextInTurn_57 rfl ?_
        refine Y_pS dX1_nextInTurn_59 cs_X1_23 (t_atk sh_82 (Or.inl (by decide)) _ k (by omega) rfl) rfl ?_
        rw [(hW k (by omega)).2]
        refine X_iconst dX1_nextInTurn_62 ?_
        refine X_icmp_ne (tgt := 121) dX1_nextInTurn_63 (by decide) (by omega) (fun c_63 => ?_) (fun c_63 => ?_)
        · refine X_drop 7 ?_
          dsimp only [List.set]
          refine X_drop 8 ?_
          dsimp only [List.set]
          refine X_iinc dX1_nextInTurn_121 rfl ?_
          dsimp only [List.set]
          refine X_goto (tgt := 19) dX1_nextInTurn_124 (by decide) ?_
          have e : nxF w g y true (k + 1) = nxF w g y true k := by
            show (if _ then _ else _) = _
            rw [if_neg (by simp only [cnd, btr, hr, Bool.and_eq_true, decide_eq_true_eq, beq_iff_eq, decide_eq_false_iff_not]; first | omega | (simp; omega))]
          rw [hr] at e
          have h9 := ih (k + 1) (by omega)
          rw [e] at h9
          exact h9
        · refine X_iloadW dX1_nextInTurn_66 rfl ?_
          refine X_iload dX1_nextInTurn_68 rfl ?_
          refine X_icmp_ne (tgt := 121) dX1_nextInTurn_69 (by decide) (by omega) (fun c_69 => ?_) (fun c_69 => ?_)
          · refine X_drop 7 ?_
            dsimp only [List.set]
            refine X_drop 8 ?_
            dsimp only [List.set]
            refine X_iinc dX1_nextInTurn_121 rfl ?_
            dsimp only [List.set]
            refine X_goto (tgt := 19) dX1_nextInTurn_124 (by decide) ?_
            have e : nxF w g y true (k + 1) = nxF w g y true k := by
              show (if _ then _ else _) = _
              rw [if_neg (by simp only [cnd, btr, hr, Bool.and_eq_true, decide_eq_true_eq, beq_iff_eq, decide_eq_false_iff_not]; first | omega | (simp; omega))]
            rw [hr] at e
            have h9 := ih (k + 1) (by omega)
            rw [e] at h9
            exact h9
          · refine X_iload dX1_nextInTurn_72 rfl ?_
            refine X_if_eq (tgt := 88) dX1_nextInTurn_73 (by decide) (by omega) (fun c_73 => absurd c_73 (by omega)) (fun c_73 => ?_)
            refine X_aload dX1_nextInTurn_76 rfl ?_
            refine X_getR dX1_nextInTurn_77 rfl gf_X1_81 (sh_st hc) (by omega) rfl (rf_st4 hc) ?_
            refine X_iloadW dX1_nextInTurn_80 rfl ?_
            refine Y_pS dX1_nextInTurn_82 cs_X1_23 (t_blk2 hc hR hn24 k (by omega) rfl) rfl ?_
            refine X_goto (tgt := 98) dX1_nextInTurn_85 (by decide) ?_
            refine X_istoreW dX1_nextInTurn_98 (by decide) ?_
            dsimp only [List.set]
            refine X_iloadW dX1_nextInTurn_100 rfl ?_
            refine X_iconst dX1_nextInTurn_102 ?_
            refine X_icmp_eq (tgt := 113) dX1_nextInTurn_103 (by decide) (by omega) (fun c_103 => ?_) (fun c_103 => absurd c_103 (by omega))
            refine X_iloadW dX1_nextInTurn_113 rfl ?_
            refine X_istoreW dX1_nextInTurn_115 (by decide) ?_
            dsimp only [List.set]
            refine X_iloadW dX1_nextInTurn_117 rfl ?_
            refine X_istoreW dX1_nextInTurn_119 (by decide) ?_
            dsimp only [List.set]
            refine X_drop 7 ?_
            dsimp only [List.set]
            refine X_drop 8 ?_
            dsimp only [List.set]
            refine X_iinc dX1_nextInTurn_121 rfl ?_
            dsimp only [List.set]
            refine X_goto (tgt := 19) dX1_nextInTurn_124 (by decide) ?_
            have e : nxF w g y true (k + 1) = some k := by
              show (if _ then _ else _) = _
              rw [if_pos (by simp only [cnd, btr, hr, Bool.and_eq_true, decide_eq_true_eq, beq_iff_eq, decide_eq_false_iff_not]; first | omega | exact ⟨⟨by omega, by omega⟩, rfl⟩ | (simp; omega))]
            have h9 := ih (k + 1) (by omega)
            rw [e] at h9
            exact h9
      · refine X_iconst dX1_nextInTurn_46 ?_
        refine X_goto (tgt := 51) dX1_nextInTurn_47 (by decide) ?_
        refine X_istoreW dX1_nextInTurn_51 (by decide) ?_
        dsimp only [List.set]
        refine X_aload dX1_nextInTurn_53 rfl ?_
        refine X_getR dX1_nextInTurn_54 rfl gf_X1_15 sh_80 (by decide) rfl rf_80_1 ?_
        refine X_iloadW dX1_nextInTurn_57 rfl ?_
        refine Y_pS dX1_nextInTurn_59 cs_X1_23 (t_atk sh_82 (Or.inl (by decide)) _ k (by omega) rfl) rfl ?_
        rw [(hW k (by omega)).2]
        refine X_iconst dX1_nextInTurn_62 ?_
        refine X_icmp_ne (tgt := 121) dX1_nextInTurn_63 (by decide) (by omega) (fun c_63 => ?_) (fun c_63 => ?_)
        · refine X_drop 7 ?_
          dsimp only [List.set]
          refine X_drop 8 ?_
          dsimp only [List.set]
          refine X_iinc dX1_nextInTurn_121 rfl ?_
          dsimp only [List.set]
          refine X_goto (tgt := 19) dX1_nextInTurn_124 (by decide) ?_
          have e : nxF w g y true (k + 1) = nxF w g y true k := by
            show (if _ then _ else _) = _
            rw [if_neg (by simp only [cnd, btr, hr, Bool.and_eq_true, decide_eq_true_eq, beq_iff_eq, decide_eq_false_iff_not]; first | omega | (simp; omega))]
          rw [hr] at e
          have h9 := ih (k + 1) (by omega)
          rw [e] at h9
          exact h9
        · refine X_iloadW dX1_nextInTurn_66 rfl ?_
          refine X_iload dX1_nextInTurn_68 rfl ?_
          refine X_icmp_ne (tgt := 121) dX1_nextInTurn_69 (by decide) (by omega) (fun c_69 => ?_) (fun c_69 => ?_)
          · refine X_drop 7 ?_
            dsimp only [List.set]
            refine X_drop 8 ?_
            dsimp only [List.set]
            refine X_iinc dX1_nextInTurn_121 rfl ?_
            dsimp only [List.set]
            refine X_goto (tgt := 19) dX1_nextInTurn_124 (by decide) ?_
            have e : nxF w g y true (k + 1) = nxF w g y true k := by
              show (if _ then _ else _) = _
              rw [if_neg (by simp only [cnd, btr, hr, Bool.and_eq_true, decide_eq_true_eq, beq_iff_eq, decide_eq_false_iff_not]; first | omega | (simp; omega))]
            rw [hr] at e
            have h9 := ih (k + 1) (by omega)
            rw [e] at h9
            exact h9
          · refine X_iload dX1_nextInTurn_72 rfl ?_
            refine X_if_eq (tgt := 88) dX1_nextInTurn_73 (by decide) (by omega) (fun c_73 => absurd c_73 (by omega)) (fun c_73 => ?_)
            refine X_aload dX1_nextInTurn_76 rfl ?_
            refine X_getR dX1_nextInTurn_77 rfl gf_X1_81 (sh_st hc) (by omega) rfl (rf_st4 hc) ?_
            refine X_iloadW dX1_nextInTurn_80 rfl ?_
            refine Y_pS dX1_nextInTurn_82 cs_X1_23 (t_blk2 hc hR hn24 k (by omega) rfl) rfl ?_
            refine X_goto (tgt := 98) dX1_nextInTurn_85 (by decide) ?_
            refine X_istoreW dX1_nextInTurn_98 (by decide) ?_
            dsimp only [List.set]
            refine X_iloadW dX1_nextInTurn_100 rfl ?_
            refine X_iconst dX1_nextInTurn_102 ?_
            refine X_icmp_eq (tgt := 113) dX1_nextInTurn_103 (by decide) (by omega) (fun c_103 => ?_) (fun c_103 => absurd c_103 (by omega))
            refine X_iloadW dX1_nextInTurn_113 rfl ?_
            refine X_istoreW dX1_nextInTurn_115 (by decide) ?_
            dsimp only [List.set]
            refine X_iloadW dX1_nextInTurn_117 rfl ?_
            refine X_istoreW dX1_nextInTurn_119 (by decide) ?_
            dsimp only [List.set]
            refine X_drop 7 ?_
            dsimp only [List.set]
            refine X_drop 8 ?_
            dsimp only [List.set]
            refine X_iinc dX1_nextInTurn_121 rfl ?_
            dsimp only [List.set]
            refine X_goto (tgt := 19) dX1_nextInTurn_124 (by decide) ?_
            have e : nxF w g y true (k + 1) = some k := by
              show (if _ then _ else _) = _
              rw [if_pos (by simp only [cnd, btr, hr, Bool.and_eq_true, decide_eq_true_eq, beq_iff_eq, decide_eq_false_iff_not]; first | omega | exact ⟨⟨by omega, by omega⟩, rfl⟩ | (simp; omega))]
            have h9 := ih (k + 1) (by omega)
            rw [e] at h9
            exact h9
    · have hq : q < n := by have := (nxF_lt hr).1; omega
      change Y _ _ _ [some (rr 80), some (rr c), some (ii 1), some (ii (n : Int)), some (ii ((q : Nat) : Int)), some (ii (gb g q 2)), some (ii (k : Int)), none, none] _ _ _
      refine X_iloadW dX1_nextInTurn_19 rfl ?_
      refine X_iload dX1_nextInTurn_21 rfl ?_
      refine X_icmp_ge (tgt := 127) dX1_nextInTurn_22 (by decide) (by omega) (fun c_22 => absurd c_22 (by omega)) (fun c_22 => ?_)
      refine X_aload dX1_nextInTurn_25 rfl ?_
      refine X_getR dX1_nextInTurn_26 rfl gf_X1_9 sh_80 (by decide) rfl rf_80_0 ?_
      refine X_iloadW dX1_nextInTurn_29 rfl ?_
      refine Y_pS dX1_nextInTurn_31 cs_X1_23 (t_atk sh_81 (Or.inl (by decide)) _ k (by omega) rfl) rfl ?_
      rw [(hW k (by omega)).1]
      refine X_aload dX1_nextInTurn_34 rfl ?_
      refine X_getR dX1_nextInTurn_35 rfl gf_X1_62 (sh_st hc) (by omega) rfl (rf_st5 hc) ?_
      refine X_iloadW dX1_nextInTurn_38 rfl ?_
      refine Y_pS dX1_nextInTurn_40 cs_X1_23 (t_blk3 hc hR hn24 k (by omega) rfl) rfl ?_
      have hb3 := (hG.b (k := k) (by omega)).2.2.2.1
      have hb2 := (hG.b (k := k) (by omega)).2.2.1
      have hwk := hw k (by omega)
      have hyk := hy k (by omega)
      refine X_icmp_le (tgt := 50) dX1_nextInTurn_43 (by decide) (by omega) (fun c_43 => ?_) (fun c_43 => ?_)
      · refine X_iconst dX1_nextInTurn_50 ?_
        refine X_istoreW dX1_nextInTurn_51 (by decide) ?_
        dsimp only [List.set]
        refine X_aload dX1_nextInTurn_53 rfl ?_
        refine X_getR dX1_nextInTurn_54 rfl gf_X1_15 sh_80 (by decide) rfl rf_80_1 ?_
        refine X_iloadW dX1_nextInTurn_57 rfl ?_
        refine Y_pS dX1_nextInTurn_59 cs_X1_23 (t_atk sh_82 (Or.inl (by decide)) _ k (by omega) rfl) rfl ?_
        rw [(hW k (by omega)).2]
        refine X_iconst dX1_nextInTurn_62 ?_
        refine X_icmp_ne (tgt := 121) dX1_nextInTurn_63 (by decide) (by omega) (fun c_63 => ?_) (fun c_63 => ?_)
        · refine X_drop 7 ?_
          dsimp only [List.set]
          refine X_drop 8 ?_
          dsimp only [List.set]
          refine X_iinc dX1_nextInTurn_121 rfl ?_
          dsimp only [List.set]
          refine X_goto (tgt := 19) dX1_nextInTurn_124 (by decide) ?_
          have e : nxF w g y true (k + 1) = nxF w g y true k := by
            show (if _ then _ else _) = _
            rw [if_neg (by simp only [cnd, btr, hr, Bool.and_eq_true, decide_eq_true_eq, beq_iff_eq, decide_eq_false_iff_not]; first | omega | (simp; omega))]
          rw [hr] at e
          have h9 := ih (k + 1) (by omega)
          rw [e] at h9
          exact h9
        · refine X_iloadW dX1_nextInTurn_66 rfl ?_
          refine X_iload dX1_nextInTurn_68 rfl ?_
          refine X_icmp_ne (tgt := 121) dX1_nextInTurn_69 (by decide) (by omega) (fun c_69 => ?_) (fun c_69 => ?_)
          · refine X_drop 7 ?_
            dsimp only [List.set]
            refine X_drop 8 ?_
            dsimp only [List.set]
            refine X_iinc dX1_nextInTurn_121 rfl ?_
            dsimp only [List.set]
            refine X_goto (tgt := 19) dX1_nextInTurn_124 (by decide) ?_
            have e : nxF w g y true (k + 1) = nxF w g y true k := by
              show (if _ then _ else _) = _
              rw [if_neg (by simp only [cnd, btr, hr, Bool.and_eq_true, decide_eq_true_eq, beq_iff_eq, decide_eq_false_iff_not]; first | omega | (simp; omega))]
            rw [hr] at e
            have h9 := ih (k + 1) (by omega)
            rw [e] at h9
            exact h9
          · refine X_iload dX1_nextInTurn_72 rfl ?_
            refine X_if_eq (tgt := 88) dX1_nextInTurn_73 (by decide) (by omega) (fun c_73 => absurd c_73 (by omega)) (fun c_73 => ?_)
            refine X_aload dX1_nextInTurn_76 rfl ?_
            refine X_getR dX1_nextInTurn_77 rfl gf_X1_81 (sh_st hc) (by omega) rfl (rf_st4 hc) ?_
            refine X_iloadW dX1_nextInTurn_80 rfl ?_
            refine Y_pS dX1_nextInTurn_82 cs_X1_23 (t_blk2 hc hR hn24 k (by omega) rfl) rfl ?_
            refine X_goto (tgt := 98) dX1_nextInTurn_85 (by decide) ?_
            refine X_istoreW dX1_nextInTurn_98 (by decide) ?_
            dsimp only [List.set]
            refine X_iloadW dX1_nextInTurn_100 rfl ?_
            refine X_iconst dX1_nextInTurn_102 ?_
            refine X_icmp_eq (tgt := 113) dX1_nextInTurn_103 (by decide) (by omega) (fun c_103 => absurd c_103 (by omega)) (fun c_103 => ?_)
            refine X_iloadW dX1_nextInTurn_106 rfl ?_
            refine X_iloadW dX1_nextInTurn_108 rfl ?_
            have hq2 := (hG.b (k := q) hq).2.2.1
            refine X_icmp_ge (tgt := 121) dX1_nextInTurn_110 (by decide) (by omega) (fun c_110 => ?_) (fun c_110 => ?_)
            · refine X_drop 7 ?_
              dsimp only [List.set]
              refine X_drop 8 ?_
              dsimp only [List.set]
              refine X_iinc dX1_nextInTurn_121 rfl ?_
              dsimp only [List.set]
              refine X_goto (tgt := 19) dX1_nextInTurn_124 (by decide) ?_
              have e : nxF w g y true (k + 1) = nxF w g y true k := by
                show (if _ then _ else _) = _
                rw [if_neg (by simp only [cnd, btr, hr, Bool.and_eq_true, decide_eq_true_eq, beq_iff_eq, decide_eq_false_iff_not]; first | omega | (simp; omega))]
              rw [hr] at e
              have h9 := ih (k + 1) (by omega)
              rw [e] at h9
              exact h9
            · refine X_iloadW dX1_nextInTurn_113 rfl ?_
              refine X_istoreW dX1_nextInTurn_115 (by decide) ?_
              dsimp only [List.set]
              refine X_iloadW dX1_nextInTurn_117 rfl ?_
              refine X_istoreW dX1_nextInTurn_119 (by decide) ?_
              dsimp only [List.set]
              refine X_drop 7 ?_
              dsimp only [List.set]
              refine X_drop 8 ?_
              dsimp only [List.set]
              refine X_iinc dX1_nextInTurn_121 rfl ?_
              dsimp only [List.set]
              refine X_goto (tgt := 19) dX1_nextInTurn_124 (by decide) ?_
              have e : nxF w g y true (k + 1) = some k := by
                show (if _ then _ else _) = _
                rw [if_pos (by simp only [cnd, btr, hr, Bool.and_eq_true, decide_eq_true_eq, beq_iff_eq, decide_eq_false_iff_not]; first | omega | exact ⟨⟨by omega, by omega⟩, rfl⟩ | (simp; omega))]
              have h9 := ih (k + 1) (by omega)
              rw [e] at h9
              exact h9
      · refine X_iconst dX1_nextInTurn_46 ?_
        refine X_goto (tgt := 51) dX1_nextInTurn_47 (by decide) ?_
        refine X_istoreW dX1_nextInTurn_51 (by decide) ?_
        dsimp only [List.set]
        refine X_aload dX1_nextInTurn_53 rfl ?_
        refine X_getR dX1_nextInTurn_54 rfl gf_X1_15 sh_80 (by decide) rfl rf_80_1 ?_
        refine X_iloadW dX1_nextInTurn_57 rfl ?_
        refine Y_pS dX1_nextInTurn_59 cs_X1_23 (t_atk sh_82 (Or.inl (by decide)) _ k (by omega) rfl) rfl ?_
        rw [(hW k (by omega)).2]
        refine X_iconst dX1_nextInTurn_62 ?_
        refine X_icmp_ne (tgt := 121) dX1_nextInTurn_63 (by decide) (by omega) (fun c_63 => ?_) (fun c_63 => ?_)
        · refine X_drop 7 ?_
          dsimp only [List.set]
          refine X_drop 8 ?_
          dsimp only [List.set]
          refine X_iinc dX1_nextInTurn_121 rfl ?_
          dsimp only [List.set]
          refine X_goto (tgt := 19) dX1_nextInTurn_124 (by decide) ?_
          have e : nxF w g y true (k + 1) = nxF w g y true k := by
            show (if _ then _ else _) = _
            rw [if_neg (by simp only [cnd, btr, hr, Bool.and_eq_true, decide_eq_true_eq, beq_iff_eq, decide_eq_false_iff_not]; first | omega | (simp; omega))]
          rw [hr] at e
          have h9 := ih (k + 1) (by omega)
          rw [e] at h9
          exact h9
        · refine X_iloadW dX1_nextInTurn_66 rfl ?_
          refine X_iload dX1_nextInTurn_68 rfl ?_
          refine X_icmp_ne (tgt := 121) dX1_nextInTurn_69 (by decide) (by omega) (fun c_69 => ?_) (fun c_69 => ?_)
          · refine X_drop 7 ?_
            dsimp only [List.set]
            refine X_drop 8 ?_
            dsimp only [List.set]
            refine X_iinc dX1_nextInTurn_121 rfl ?_
            dsimp only [List.set]
            refine X_goto (tgt := 19) dX1_nextInTurn_124 (by decide) ?_
            have e : nxF w g y true (k + 1) = nxF w g y true k := by
              show (if _ then _ else _) = _
              rw [if_neg (by simp only [cnd, btr, hr, Bool.and_eq_true, decide_eq_true_eq, beq_iff_eq, decide_eq_false_iff_not]; first | omega | (simp; omega))]
            rw [hr] at e
            have h9 := ih (k + 1) (by omega)
            rw [e] at h9
            exact h9
          · refine X_iload dX1_nextInTurn_72 rfl ?_
            refine X_if_eq (tgt := 88) dX1_nextInTurn_73 (by decide) (by omega) (fun c_73 => absurd c_73 (by omega)) (fun c_73 => ?_)
            refine X_aload dX1_nextInTurn_76 rfl ?_
            refine X_getR dX1_nextInTurn_77 rfl gf_X1_81 (sh_st hc) (by omega) rfl (rf_st4 hc) ?_
            refine X_iloadW dX1_nextInTurn_80 rfl ?_
            refine Y_pS dX1_nextInTurn_82 cs_X1_23 (t_blk2 hc hR hn24 k (by omega) rfl) rfl ?_
            refine X_goto (tgt := 98) dX1_nextInTurn_85 (by decide) ?_
            refine X_istoreW dX1_nextInTurn_98 (by decide) ?_
            dsimp only [List.set]
            refine X_iloadW dX1_nextInTurn_100 rfl ?_
            refine X_iconst dX1_nextInTurn_102 ?_
            refine X_icmp_eq (tgt := 113) dX1_nextInTurn_103 (by decide) (by omega) (fun c_103 => absurd c_103 (by omega)) (fun c_103 => ?_)
            refine X_iloadW dX1_nextInTurn_106 rfl ?_
            refine X_iloadW dX1_nextInTurn_108 rfl ?_
            have hq2 := (hG.b (k := q) hq).2.2.1
            refine X_icmp_ge (tgt := 121) dX1_nextInTurn_110 (by decide) (by omega) (fun c_110 => ?_) (fun c_110 => ?_)
            · refine X_drop 7 ?_
              dsimp only [List.set]
              refine X_drop 8 ?_
              dsimp only [List.set]
              refine X_iinc dX1_nextInTurn_121 rfl ?_
              dsimp only [List.set]
              refine X_goto (tgt := 19) dX1_nextInTurn_124 (by decide) ?_
              have e : nxF w g y true (k + 1) = nxF w g y true k := by
                show (if _ then _ else _) = _
                rw [if_neg (by simp only [cnd, btr, hr, Bool.and_eq_true, decide_eq_true_eq, beq_iff_eq, decide_eq_false_iff_not]; first | omega | (simp; omega))]
              rw [hr] at e
              have h9 := ih (k + 1) (by omega)
              rw [e] at h9
              exact h9
            · refine X_iloadW dX1_nextInTurn_113 rfl ?_
              refine X_istoreW dX1_nextInTurn_115 (by decide) ?_
              dsimp only [List.set]
              refine X_iloadW dX1_nextInTurn_117 rfl ?_
              refine X_istoreW dX1_nextInTurn_119 (by decide) ?_
              dsimp only [List.set]
              refine X_drop 7 ?_
              dsimp only [List.set]
              refine X_drop 8 ?_
              dsimp only [List.set]
              refine X_iinc dX1_nextInTurn_121 rfl ?_
              dsimp only [List.set]
              refine X_goto (tgt := 19) dX1_nextInTurn_124 (by decide) ?_
              have e : nxF w g y true (k + 1) = some k := by
                show (if _ then _ else _) = _
                rw [if_pos (by simp only [cnd, btr, hr, Bool.and_eq_true, decide_eq_true_eq, beq_iff_eq, decide_eq_false_iff_not]; first | omega | exact ⟨⟨by omega, by omega⟩, rfl⟩ | (simp; omega))]
              have h9 := ih (k + 1) (by omega)
              rw [e] at h9
              exact h9
set_option maxRecDepth 20000 in
set_option maxHeartbeats 4000000 in
theorem t_nextInTurn1 {I : xI} {c : Nat} {g : Nat → Int} {n : Nat} (hc : x_st c) (hR : RS I c g n) (hG : GI g n) {w y : Nat → Int} (hW : WR I n w y) (hw : ∀ k, k < n → 0 ≤ w k ∧ w k ≤ 2) (hy : ∀ k, k < n → 0 ≤ y k ∧ y k ≤ 5) : S kX1_nextInTurn 2 [rr 80, rr c, ii 1] I (q_p (ii (oi (nxF w g y true n) (-1))) I) := by
  have lc := st_lt hc
  have lw := st_low hc
  have hn24 := hG.n24
  refine Sp_intro (by decide +kernel) (Nat.le_of_ble_eq_true rfl) ?_
  show Y kX1_nextInTurn 2 0 [some (rr 80), some (rr c), some (ii 1), none, none, none, none, none, none] [] I _
  refine X_aload dX1_nextInTurn_0 rfl ?_
  refine X_getR dX1_nextInTurn_1 rfl gf_X1_18 (sh_st hc) (by omega) rfl (rf_st0 hc) ?_
  refine X_bipush dX1_nextInTurn_4 (by decide) ?_
  refine Y_pS dX1_nextInTurn_6 cs_X1_23 (t_num hc hR 15 (by decide) rfl) rfl ?_
  refine X_istore dX1_nextInTurn_9 (by decide) ?_
  dsimp only [List.set]
  refine X_iconst dX1_nextInTurn_10 ?_
  refine X_istoreW dX1_nextInTurn_11 (by decide) ?_
  dsimp only [List.set]
  refine X_iconst dX1_nextInTurn_13 ?_
  refine X_istoreW dX1_nextInTurn_14 (by decide) ?_
  dsimp only [List.set]
  refine X_iconst dX1_nextInTurn_16 ?_
  refine X_istoreW dX1_nextInTurn_17 (by decide) ?_
  dsimp only [List.set]
  rw [hG.g15]
  exact t_nextInTurn1_loop hc hR hG hW hw hy n 0 (by omega)
set_option maxRecDepth 20000 in
set_option maxHeartbeats 4000000 in
theorem t_nextInTurn0_loop {I : xI} {c : Nat} {g : Nat → Int} {n : Nat} (hc : x_st c) (hR : RS I c g n) (hG : GI g n) {w y : Nat → Int} (hW : WR I n w y) (hw : ∀ k, k < n → 0 ≤ w k ∧ w k ≤ 2) (hy : ∀ k, k < n → 0 ≤ y k ∧ y k ≤ 5) : ∀ (m k : Nat), k + m = n → Y kX1_nextInTurn 2 19 [some (rr 80), some (rr c), some (ii 0), some (ii (n : Int)), some (ii (oi (nxF w g y false k) (-1))), some (ii (lst g false (nxF w g y false k))), some (ii (k : Int)), none, none] [] I (q_p (ii (oi (nxF w g y false n) (-1))) I) := by
  have lc := st_lt hc
  have lw := st_low hc
  have hn24 := hG.n24
  intro m
  induction m with
  | zero =>
    intro k hk
    refine X_iloadW dX1_nextInTurn_19 rfl ?_
    refine X_iload dX1_nextInTurn_21 rfl ?_
    refine X_icmp_ge (tgt := 127) dX1_nextInTurn_22 (by decide) (by omega) (fun c_22 => ?_) (fun c_22 => absurd c_22 (by omega))
    refine X_iloadW dX1_nextInTurn_127 rfl ?_
    refine X_iret dX1_nextInTurn_129 (Or.inl rfl) ?_
    exact ⟨by rw [show n = k by omega], rfl, rfl, rfl⟩
  | succ m ih =>
    intro k hk
    rcases hr : nxF w g y false k with _ | q
    · change Y _ _ _ [some (rr 80), some (rr c), some (ii 0), some (ii (n : Int)), some (ii (-1)), some (ii 0), some (ii (k : Int)), none, none] _ _ _
      refine X_iloadW dX1_nextInTurn_19 rfl ?_
      refine X_iload dX1_nextInTurn_21 rfl ?_
      refine X_icmp_ge (tgt := 127) dX1_nextInTurn_22 (by decide) (by omega) (fun c_22 => absurd c_22 (by omega)) (fun c_22 => ?_)
      refine X_aload dX1_nextInTurn_25 rfl ?_
      refine X_getR dX1_nextInTurn_26 rfl gf_X1_9 sh_80 (by decide) rfl rf_80_0 ?_
      refine X_iloadW dX1_nextInTurn_29 rfl ?_
      refine Y_pS dX1_nextInTurn_31 cs_X1_23 (t_atk sh_81 (Or.inl (by decide)) _ k (by omega) rfl) rfl ?_
      rw [(hW k (by omega)).1]
      refine X_aload dX1_nextInTurn_34 rfl ?_
      refine X_getR dX1_nextInTurn_35 rfl gf_X1_62 (sh_st hc) (by omega) rfl (rf_st5 hc) ?_
      refine X_iloadW dX1_nextInTurn_38 rfl ?_
      refine Y_pS dX1_nextInTurn_40 cs_X1_23 (t_blk3 hc hR hn24 k (by omega) rfl) rfl ?_
      have hb3 := (hG.b (k := k) (by omega)).2.2.2.1
      have hb2 := (hG.b (k := k) (by omega)).2.2.1
      have hwk := hw k (by omega)
      have hyk := hy k (by omega)
      refine X_icmp_le (tgt := 50) dX1_nextInTurn_43 (by decide) (by omega) (fun c_43 => ?_) (fun c_43 => ?_)
      · refine X_iconst dX1_nextInTurn_50 ?_
        refine X_istoreW dX1_nextInTurn_51 (by decide) ?_
        dsimp only [List.set]
        refine X_aload dX1_nextInTurn_53 rfl ?_
        refine X_getR dX1_nextInTurn_54 rfl gf_X1_15 sh_80 (by decide) rfl rf_80_1 ?_
        refine X_iloadW dX1_nextInTurn_57 rfl ?_
        refine Y_pS dX1_nextInTurn_59 cs_X1_23 (t_atk sh_82 (Or.inl (by decide)) _ k (by omega) rfl) rfl ?_
        rw [(hW k (by omega)).2]
        refine X_iconst dX1_nextInTurn_62 ?_
        refine X_icmp_ne (tgt := 121) dX1_nextInTurn_63 (by decide) (by omega) (fun c_63 => ?_) (fun c_63 => ?_)
        · refine X_drop 7 ?_
          dsimp only [List.set]
          refine X_drop 8 ?_
          dsimp only [List.set]
          refine X_iinc dX1_nextInTurn_121 rfl ?_
          dsimp only [List.set]
          refine X_goto (tgt := 19) dX1_nextInTurn_124 (by decide) ?_
          have e : nxF w g y false (k + 1) = nxF w g y false k := by
            show (if _ then _ else _) = _
            rw [if_neg (by simp only [cnd, btr, hr, Bool.and_eq_true, decide_eq_true_eq, beq_iff_eq, decide_eq_false_iff_not]; first | omega | (simp; omega))]
          rw [hr] at e
          have h9 := ih (k + 1) (by omega)
          rw [e] at h9
          exact h9
        · refine X_iloadW dX1_nextInTurn_66 rfl ?_
          refine X_iload dX1_nextInTurn_68 rfl ?_
          refine X_icmp_ne (tgt := 121) dX1_nextInTurn_69 (by decide) (by omega) (fun c_69 => ?_) (fun c_69 => ?_)
          · refine X_drop 7 ?_
            dsimp only [List.set]
            refine X_drop 8 ?_
            dsimp only [List.set]
            refine X_iinc dX1_nextInTurn_121 rfl ?_
            dsimp only [List.set]
            refine X_goto (tgt := 19) dX1_nextInTurn_124 (by decide) ?_
            have e : nxF w g y false (k + 1) = nxF w g y false k := by
              show (if _ then _ else _) = _
              rw [if_neg (by simp only [cnd, btr, hr, Bool.and_eq_true, decide_eq_true_eq, beq_iff_eq, decide_eq_false_iff_not]; first | omega | (simp; omega))]
            rw [hr] at e
            have h9 := ih (k + 1) (by omega)
            rw [e] at h9
            exact h9
          · refine X_iload dX1_nextInTurn_72 rfl ?_
            refine X_if_eq (tgt := 88) dX1_nextInTurn_73 (by decide) (by omega) (fun c_73 => ?_) (fun c_73 => absurd c_73 (by omega))
            refine X_aload dX1_nextInTurn_88 rfl ?_
            refine X_getR dX1_nextInTurn_89 rfl gf_X1_81 (sh_st hc) (by omega) rfl (rf_st4 hc) ?_
            refine X_iloadW dX1_nextInTurn_92 rfl ?_
            refine Y_pS dX1_nextInTurn_94 cs_X1_23 (t_blk2 hc hR hn24 k (by omega) rfl) rfl ?_
            refine X_ineg dX1_nextInTurn_97 ?_
            refine X_istoreW dX1_nextInTurn_98 (by decide) ?_
            dsimp only [List.set]
            refine X_iloadW dX1_nextInTurn_100 rfl ?_
            refine X_iconst dX1_nextInTurn_102 ?_
            refine X_icmp_eq (tgt := 113) dX1_nextInTurn_103 (by decide) (by omega) (fun c_103 => ?_) (fun c_103 => absurd c_103 (by omega))
            refine X_iloadW dX1_nextInTurn_113 rfl ?_
            refine X_istoreW dX1_nextInTurn_115 (by decide) ?_
            dsimp only [List.set]
            refine X_iloadW dX1_nextInTurn_117 rfl ?_
            refine X_istoreW dX1_nextInTurn_119 (by decide) ?_
            dsimp only [List.set]
            refine X_drop 7 ?_
            dsimp only [List.set]
            refine X_drop 8 ?_
            dsimp only [List.set]
            refine X_iinc dX1_nextInTurn_121 rfl ?_
            dsimp only [List.set]
            refine X_goto (tgt := 19) dX1_nextInTurn_124 (by decide) ?_
            have e : nxF w g y false (k + 1) = some k := by
              show (if _ then _ else _) = _
              rw [if_pos (by simp only [cnd, btr, hr, Bool.and_eq_true, decide_eq_true_eq, beq_iff_eq, decide_eq_false_iff_not]; first | omega | exact ⟨⟨by omega, by omega⟩, rfl⟩ | (simp; omega))]
            have h9 := ih (k + 1) (by omega)
            rw [e] at h9
            exact h9
      · refine X_iconst dX1_nextInTurn_46 ?_
        refine X_goto (tgt := 51) dX1_nextInTurn_47 (by decide) ?_
        refine X_istoreW dX1_nextInTurn_51 (by decide) ?_
        dsimp only [List.set]
        refine X_aload dX1_nextInTurn_53 rfl ?_
        refine X_getR dX1_nextInTurn_54 rfl gf_X1_15 sh_80 (by decide) rfl rf_80_1 ?_
        refine X_iloadW dX1_nextInTurn_57 rfl ?_
        refine Y_pS dX1_nextInTurn_59 cs_X1_23 (t_atk sh_82 (Or.inl (by decide)) _ k (by omega) rfl) rfl ?_
        rw [(hW k (by omega)).2]
        refine X_iconst dX1_nextInTurn_62 ?_
        refine X_icmp_ne (tgt := 121) dX1_nextInTurn_63 (by decide) (by omega) (fun c_63 => ?_) (fun c_63 => ?_)
        · refine X_drop 7 ?_
          dsimp only [List.set]
          refine X_drop 8 ?_
          dsimp only [List.set]
          refine X_iinc dX1_nextInTurn_121 rfl ?_
          dsimp only [List.set]
          refine X_goto (tgt := 19) dX1_nextInTurn_124 (by decide) ?_
          have e : nxF w g y false (k + 1) = nxF w g y false k := by
            show (if _ then _ else _) = _
            rw [if_neg (by simp only [cnd, btr, hr, Bool.and_eq_true, decide_eq_true_eq, beq_iff_eq, decide_eq_false_iff_not]; first | omega | (simp; omega))]
          rw [hr] at e
          have h9 := ih (k + 1) (by omega)
          rw [e] at h9
          exact h9
        · refine X_iloadW dX1_nextInTurn_66 rfl ?_
          refine X_iload dX1_nextInTurn_68 rfl ?_
          refine X_icmp_ne (tgt := 121) dX1_nextInTurn_69 (by decide) (by omega) (fun c_69 => ?_) (fun c_69 => ?_)
          · refine X_drop 7 ?_
            dsimp only [List.set]
            refine X_drop 8 ?_
            dsimp only [List.set]
            refine X_iinc dX1_nextInTurn_121 rfl ?_
            dsimp only [List.set]
            refine X_goto (tgt := 19) dX1_nextInTurn_124 (by decide) ?_
            have e : nxF w g y false (k + 1) = nxF w g y false k := by
              show (if _ then _ else _) = _
              rw [if_neg (by simp only [cnd, btr, hr, Bool.and_eq_true, decide_eq_true_eq, beq_iff_eq, decide_eq_false_iff_not]; first | omega | (simp; omega))]
            rw [hr] at e
            have h9 := ih (k + 1) (by omega)
            rw [e] at h9
            exact h9
          · refine X_iload dX1_nextInTurn_72 rfl ?_
            refine X_if_eq (tgt := 88) dX1_nextInTurn_73 (by decide) (by omega) (fun c_73 => ?_) (fun c_73 => absurd c_73 (by omega))
            refine X_aload dX1_nextInTurn_88 rfl ?_
            refine X_getR dX1_nextInTurn_89 rfl gf_X1_81 (sh_st hc) (by omega) rfl (rf_st4 hc) ?_
            refine X_iloadW dX1_nextInTurn_92 rfl ?_
            refine Y_pS dX1_nextInTurn_94 cs_X1_23 (t_blk2 hc hR hn24 k (by omega) rfl) rfl ?_
            refine X_ineg dX1_nextInTurn_97 ?_
            refine X_istoreW dX1_nextInTurn_98 (by decide) ?_
            dsimp only [List.set]
            refine X_iloadW dX1_nextInTurn_100 rfl ?_
            refine X_iconst dX1_nextInTurn_102 ?_
            refine X_icmp_eq (tgt := 113) dX1_nextInTurn_103 (by decide) (by omega) (fun c_103 => ?_) (fun c_103 => absurd c_103 (by omega))
            refine X_iloadW dX1_nextInTurn_113 rfl ?_
            refine X_istoreW dX1_nextInTurn_115 (by decide) ?_
            dsimp only [List.set]
            refine X_iloadW dX1_nextInTurn_117 rfl ?_
            refine X_istoreW dX1_nextInTurn_119 (by decide) ?_
            dsimp only [List.set]
            refine X_drop 7 ?_
            dsimp only [List.set]
            refine X_drop 8 ?_
            dsimp only [List.set]
            refine X_iinc dX1_nextInTurn_121 rfl ?_
            dsimp only [List.set]
            refine X_goto (tgt := 19) dX1_nextInTurn_124 (by decide) ?_
            have e : nxF w g y false (k + 1) = some k := by
              show (if _ then _ else _) = _
              rw [if_pos (by simp only [cnd, btr, hr, Bool.and_eq_true, decide_eq_true_eq, beq_iff_eq, decide_eq_false_iff_not]; first | omega | exact ⟨⟨by omega, by omega⟩, rfl⟩ | (simp; omega))]
            have h9 := ih (k + 1) (by omega)
            rw [e] at h9
            exact h9
    · have hq : q < n := by have := (nxF_lt hr).1; omega
      change Y _ _ _ [some (rr 80), some (rr c), some (ii 0), some (ii (n : Int)), some (ii ((q : Nat) : Int)), some (ii (-(gb g q 2))), some (ii (k : Int)), none, none] _ _ _
      refine X_iloadW dX1_nextInTurn_19 rfl ?_
      refine X_iload dX1_nextInTurn_21 rfl ?_
      refine X_icmp_ge (tgt := 127) dX1_nextInTurn_22 (by decide) (by omega) (fun c_22 => absurd c_22 (by omega)) (fun c_22 => ?_)
      refine X_aload dX1_nextInTurn_25 rfl ?_
      refine X_getR dX1_nextInTurn_26 rfl gf_X1_9 sh_80 (by decide) rfl rf_80_0 ?_
      refine X_iloadW dX1_nextInTurn_29 rfl ?_
      refine Y_pS dX1_nextInTurn_31 cs_X1_23 (t_atk sh_81 (Or.inl (by decide)) _ k (by omega) rfl) rfl ?_
      rw [(hW k (by omega)).1]
      refine X_aload dX1_nextInTurn_34 rfl ?_
      refine X_getR dX1_nextInTurn_35 rfl gf_X1_62 (sh_st hc) (by omega) rfl (rf_st5 hc) ?_
      refine X_iloadW dX1_nextInTurn_38 rfl ?_
      refine Y_pS dX1_nextInTurn_40 cs_X1_23 (t_blk3 hc hR hn24 k (by omega) rfl) rfl ?_
      have hb3 := (hG.b (k := k) (by omega)).2.2.2.1
      have hb2 := (hG.b (k := k) (by omega)).2.2.1
      have hwk := hw k (by omega)
      have hyk := hy k (by omega)
      refine X_icmp_le (tgt := 50) dX1_nextInTurn_43 (by decide) (by omega) (fun c_43 => ?_) (fun c_43 => ?_)
      · refine X_iconst dX1_nextInTurn_50 ?_
        refine X_istoreW dX1_nextInTurn_51 (by decide) ?_
        dsimp only [List.set]
        refine X_aload dX1_nextInTurn_53 rfl ?_
        refine X_getR dX1_nextInTurn_54 rfl gf_X1_15 sh_80 (by decide) rfl rf_80_1 ?_
        refine X_iloadW dX1_nextInTurn_57 rfl ?_
        refine Y_pS dX1_nextInTurn_59 cs_X1_23 (t_atk sh_82 (Or.inl (by decide)) _ k (by omega) rfl) rfl ?_
        rw [(hW k (by omega)).2]
        refine X_iconst dX1_nextInTurn_62 ?_
        refine X_icmp_ne (tgt := 121) dX1_nextInTurn_63 (by decide) (by omega) (fun c_63 => ?_) (fun c_63 => ?_)
        · refine X_drop 7 ?_
          dsimp only [List.set]
          refine X_drop 8 ?_
          dsimp only [List.set]
          refine X_iinc dX1_nextInTurn_121 rfl ?_
          dsimp only [List.set]
          refine X_goto (tgt := 19) dX1_nextInTurn_124 (by decide) ?_
          have e : nxF w g y false (k + 1) = nxF w g y false k := by
            show (if _ then _ else _) = _
            rw [if_neg (by simp only [cnd, btr, hr, Bool.and_eq_true, decide_eq_true_eq, beq_iff_eq, decide_eq_false_iff_not]; first | omega | (simp; omega))]
          rw [hr] at e
          have h9 := ih (k + 1) (by omega)
          rw [e] at h9
          exact h9
        · refine X_iloadW dX1_nextInTurn_66 rfl ?_
          refine X_iload dX1_nextInTurn_68 rfl ?_
          refine X_icmp_ne (tgt := 121) dX1_nextInTurn_69 (by decide) (by omega) (fun c_69 => ?_) (fun c_69 => ?_)
          · refine X_drop 7 ?_
            dsimp only [List.set]
            refine X_drop 8 ?_
            dsimp only [List.set]
            refine X_iinc dX1_nextInTurn_121 rfl ?_
            dsimp only [List.set]
            refine X_goto (tgt := 19) dX1_nextInTurn_124 (by decide) ?_
            have e : nxF w g y false (k + 1) = nxF w g y false k := by
              show (if _ then _ else _) = _
              rw [if_neg (by simp only [cnd, btr, hr, Bool.and_eq_true, decide_eq_true_eq, beq_iff_eq, decide_eq_false_iff_not]; first | omega | (simp; omega))]
            rw [hr] at e
            have h9 := ih (k + 1) (by omega)
            rw [e] at h9
            exact h9
          · refine X_iload dX1_nextInTurn_72 rfl ?_
            refine X_if_eq (tgt := 88) dX1_nextInTurn_73 (by decide) (by omega) (fun c_73 => ?_) (fun c_73 => absurd c_73 (by omega))
            refine X_aload dX1_nextInTurn_88 rfl ?_
            refine X_getR dX1_nextInTurn_89 rfl gf_X1_81 (sh_st hc) (by omega) rfl (rf_st4 hc) ?_
            refine X_iloadW dX1_nextInTurn_92 rfl ?_
            refine Y_pS dX1_nextInTurn_94 cs_X1_23 (t_blk2 hc hR hn24 k (by omega) rfl) rfl ?_
            refine X_ineg dX1_nextInTurn_97 ?_
            refine X_istoreW dX1_nextInTurn_98 (by decide) ?_
            dsimp only [List.set]
            refine X_iloadW dX1_nextInTurn_100 rfl ?_
            refine X_iconst dX1_nextInTurn_102 ?_
            refine X_icmp_eq (tgt := 113) dX1_nextInTurn_103 (by decide) (by omega) (fun c_103 => absurd c_103 (by omega)) (fun c_103 => ?_)
            refine X_iloadW dX1_nextInTurn_106 rfl ?_
            refine X_iloadW dX1_nextInTurn_108 rfl ?_
            have hq2 := (hG.b (k := q) hq).2.2.1
            refine X_icmp_ge (tgt := 121) dX1_nextInTurn_110 (by decide) (by omega) (fun c_110 => ?_) (fun c_110 => ?_)
            · refine X_drop 7 ?_
              dsimp only [List.set]
              refine X_drop 8 ?_
              dsimp only [List.set]
              refine X_iinc dX1_nextInTurn_121 rfl ?_
              dsimp only [List.set]
              refine X_goto (tgt := 19) dX1_nextInTurn_124 (by decide) ?_
              have e : nxF w g y false (k + 1) = nxF w g y false k := by
                show (if _ then _ else _) = _
                rw [if_neg (by simp only [cnd, btr, hr, Bool.and_eq_true, decide_eq_true_eq, beq_iff_eq, decide_eq_false_iff_not]; first | omega | (simp; omega))]
              rw [hr] at e
              have h9 := ih (k + 1) (by omega)
              rw [e] at h9
              exact h9
            · refine X_iloadW dX1_nextInTurn_113 rfl ?_
              refine X_istoreW dX1_nextInTurn_115 (by decide) ?_
              dsimp only [List.set]
              refine X_iloadW dX1_nextInTurn_117 rfl ?_
              refine X_istoreW dX1_nextInTurn_119 (by decide) ?_
              dsimp only [List.set]
              refine X_drop 7 ?_
              dsimp only [List.set]
              refine X_drop 8 ?_
              dsimp only [List.set]
              refine X_iinc dX1_nextInTurn_121 rfl ?_
              dsimp only [List.set]
              refine X_goto (tgt := 19) dX1_nextInTurn_124 (by decide) ?_
              have e : nxF w g y false (k + 1) = some k := by
                show (if _ then _ else _) = _
                rw [if_pos (by simp only [cnd, btr, hr, Bool.and_eq_true, decide_eq_true_eq, beq_iff_eq, decide_eq_false_iff_not]; first | omega | exact ⟨⟨by omega, by omega⟩, rfl⟩ | (simp; omega))]
              have h9 := ih (k + 1) (by omega)
              rw [e] at h9
              exact h9
      · refine X_iconst dX1_nextInTurn_46 ?_
        refine X_goto (tgt := 51) dX1_nextInTurn_47 (by decide) ?_
        refine X_istoreW dX1_nextInTurn_51 (by decide) ?_
        dsimp only [List.set]
        refine X_aload dX1_nextInTurn_53 rfl ?_
        refine X_getR dX1_nextInTurn_54 rfl gf_X1_15 sh_80 (by decide) rfl rf_80_1 ?_
        refine X_iloadW dX1_nextInTurn_57 rfl ?_
        refine Y_pS dX1_nextInTurn_59 cs_X1_23 (t_atk sh_82 (Or.inl (by decide)) _ k (by omega) rfl) rfl ?_
        rw [(hW k (by omega)).2]
        refine X_iconst dX1_nextInTurn_62 ?_
        refine X_icmp_ne (tgt := 121) dX1_nextInTurn_63 (by decide) (by omega) (fun c_63 => ?_) (fun c_63 => ?_)
        · refine X_drop 7 ?_
          dsimp only [List.set]
          refine X_drop 8 ?_
          dsimp only [List.set]
          refine X_iinc dX1_nextInTurn_121 rfl ?_
          dsimp only [List.set]
          refine X_goto (tgt := 19) dX1_nextInTurn_124 (by decide) ?_
          have e : nxF w g y false (k + 1) = nxF w g y false k := by
            show (if _ then _ else _) = _
            rw [if_neg (by simp only [cnd, btr, hr, Bool.and_eq_true, decide_eq_true_eq, beq_iff_eq, decide_eq_false_iff_not]; first | omega | (simp; omega))]
          rw [hr] at e
          have h9 := ih (k + 1) (by omega)
          rw [e] at h9
          exact h9
        · refine X_iloadW dX1_nextInTurn_66 rfl ?_
          refine X_iload dX1_nextInTurn_68 rfl ?_
          refine X_icmp_ne (tgt := 121) dX1_nextInTurn_69 (by decide) (by omega) (fun c_69 => ?_) (fun c_69 => ?_)
          · refine X_drop 7 ?_
            dsimp only [List.set]
            refine X_drop 8 ?_
            dsimp only [List.set]
            refine X_iinc dX1_nextInTurn_121 rfl ?_
            dsimp only [List.set]
            refine X_goto (tgt := 19) dX1_nextInTurn_124 (by decide) ?_
            have e : nxF w g y false (k + 1) = nxF w g y false k := by
              show (if _ then _ else _) = _
              rw [if_neg (by simp only [cnd, btr, hr, Bool.and_eq_true, decide_eq_true_eq, beq_iff_eq, decide_eq_false_iff_not]; first | omega | (simp; omega))]
            rw [hr] at e
            have h9 := ih (k + 1) (by omega)
            rw [e] at h9
            exact h9
          · refine X_iload dX1_nextInTurn_72 rfl ?_
            refine X_if_eq (tgt := 88) dX1_nextInTurn_73 (by decide) (by omega) (fun c_73 => ?_) (fun c_73 => absurd c_73 (by omega))
            refine X_aload dX1_nextInTurn_88 rfl ?_
            refine X_getR dX1_nextInTurn_89 rfl gf_X1_81 (sh_st hc) (by omega) rfl (rf_st4 hc) ?_
            refine X_iloadW dX1_nextInTurn_92 rfl ?_
            refine Y_pS dX1_nextInTurn_94 cs_X1_23 (t_blk2 hc hR hn24 k (by omega) rfl) rfl ?_
            refine X_ineg dX1_nextInTurn_97 ?_
            refine X_istoreW dX1_nextInTurn_98 (by decide) ?_
            dsimp only [List.set]
            refine X_iloadW dX1_nextInTurn_100 rfl ?_
            refine X_iconst dX1_nextInTurn_102 ?_
            refine X_icmp_eq (tgt := 113) dX1_nextInTurn_103 (by decide) (by omega) (fun c_103 => absurd c_103 (by omega)) (fun c_103 => ?_)
            refine X_iloadW dX1_nextInTurn_106 rfl ?_
            refine X_iloadW dX1_nextInTurn_108 rfl ?_
            have hq2 := (hG.b (k := q) hq).2.2.1
            refine X_icmp_ge (tgt := 121) dX1_nextInTurn_110 (by decide) (by omega) (fun c_110 => ?_) (fun c_110 => ?_)
            · refine X_drop 7 ?_
              dsimp only [List.set]
              refine X_drop 8 ?_
              dsimp only [List.set]
              refine X_iinc dX1_nextInTurn_121 rfl ?_
              dsimp only [List.set]
              refine X_goto (tgt := 19) dX1_nextInTurn_124 (by decide) ?_
              have e : nxF w g y false (k + 1) = nxF w g y false k := by
                show (if _ then _ else _) = _
                rw [if_neg (by simp only [cnd, btr, hr, Bool.and_eq_true, decide_eq_true_eq, beq_iff_eq, decide_eq_false_iff_not]; first | omega | (simp; omega))]
              rw [hr] at e
              have h9 := ih (k + 1) (by omega)
              rw [e] at h9
              exact h9
            · refine X_iloadW dX1_nextInTurn_113 rfl ?_
              refine X_istoreW dX1_nextInTurn_115 (by decide) ?_
              dsimp only [List.set]
              refine X_iloadW dX1_nextInTurn_117 rfl ?_
              refine X_istoreW dX1_nextInTurn_119 (by decide) ?_
              dsimp only [List.set]
              refine X_drop 7 ?_
              dsimp only [List.set]
              refine X_drop 8 ?_
              dsimp only [List.set]
              refine X_iinc dX1_nextInTurn_121 rfl ?_
              dsimp only [List.set]
              refine X_goto (tgt := 19) dX1_nextInTurn_124 (by decide) ?_
              have e : nxF w g y false (k + 1) = some k := by
                show (if _ then _ else _) = _
                rw [if_pos (by simp only [cnd, btr, hr, Bool.and_eq_true, decide_eq_true_eq, beq_iff_eq, decide_eq_false_iff_not]; first | omega | exact ⟨⟨by omega, by omega⟩, rfl⟩ | (simp; omega))]
              have h9 := ih (k + 1) (by omega)
              rw [e] at h9
              exact h9
set_option maxRecDepth 20000 in
set_option maxHeartbeats 4000000 in
theorem t_nextInTurn0 {I : xI} {c : Nat} {g : Nat → Int} {n : Nat} (hc : x_st c) (hR : RS I c g n) (hG : GI g n) {w y : Nat → Int} (hW : WR I n w y) (hw : ∀ k, k < n → 0 ≤ w k ∧ w k ≤ 2) (hy : ∀ k, k < n → 0 ≤ y k ∧ y k ≤ 5) : S kX1_nextInTurn 2 [rr 80, rr c, ii 0] I (q_p (ii (oi (nxF w g y false n) (-1))) I) := by
  have lc := st_lt hc
  have lw := st_low hc
  have hn24 := hG.n24
  refine Sp_intro (by decide +kernel) (Nat.le_of_ble_eq_true rfl) ?_
  show Y kX1_nextInTurn 2 0 [some (rr 80), some (rr c), some (ii 0), none, none, none, none, none, none] [] I _
  refine X_aload dX1_nextInTurn_0 rfl ?_
  refine X_getR dX1_nextInTurn_1 rfl gf_X1_18 (sh_st hc) (by omega) rfl (rf_st0 hc) ?_
  refine X_bipush dX1_nextInTurn_4 (by decide) ?_
  refine Y_pS dX1_nextInTurn_6 cs_X1_23 (t_num hc hR 15 (by decide) rfl) rfl ?_
  refine X_istore dX1_nextInTurn_9 (by decide) ?_
  dsimp only [List.set]
  refine X_iconst dX1_nextInTurn_10 ?_
  refine X_istoreW dX1_nextInTurn_11 (by decide) ?_
  dsimp only [List.set]
  refine X_iconst dX1_nextInTurn_13 ?_
  refine X_istoreW dX1_nextInTurn_14 (by decide) ?_
  dsimp only [List.set]
  refine X_iconst dX1_nextInTurn_16 ?_
  refine X_istoreW dX1_nextInTurn_17 (by decide) ?_
  dsimp only [List.set]
  rw [hG.g15]
  exact t_nextInTurn0_loop hc hR hG hW hw hy n 0 (by omega)
set_option maxRecDepth 20000 in
set_option maxHeartbeats 4000000 in
theorem t_shelfToMoveTo {I : xI} {c : Nat} {g : Nat → Int} {n : Nat} (hc : x_st c) (hR : RS I c g n) (hG : GI g n) {w y : Nat → Int} (hW : WR I n w y) (hw : ∀ k, k < n → 0 ≤ w k ∧ w k ≤ 2) (hy : ∀ k, k < n → 0 ≤ y k ∧ y k ≤ 5) (k : Nat) (hk : k < n) {i : Int} (hi : i = (k : Int)) : S kX1_shelfToMoveTo 1 [rr 80, rr c, ii i] I (q_p (ii (oi (tg w g n k) (-1))) I) := by
  have lc := st_lt hc
  have lw := st_low hc
  have hn24 := hG.n24
  subst hi
  have hwk := hw k hk
  obtain ⟨s0, hs0⟩ := Int.eq_ofNat_of_zero_le hwk.1
  have et : (w k).toNat = s0 := by omega
  have hb1 := (hG.b hk).2.1
  have hb3 := (hG.b hk).2.2.2.1
  refine Sp_intro (by decide +kernel) (Nat.le_of_ble_eq_true rfl) ?_
  show Y kX1_shelfToMoveTo 1 0 [some (rr 80), some (rr c), some (ii (k : Int)), none, none, none] [] I _
  refine X_aload dX1_shelfToMoveTo_0 rfl ?_
  refine X_getR dX1_shelfToMoveTo_1 rfl gf_X1_84 (sh_st hc) (by omega) rfl (rf_st3 hc) ?_
  refine X_iload dX1_shelfToMoveTo_4 rfl ?_
  refine Y_pS dX1_shelfToMoveTo_5 cs_X1_23 (t_blk1 hc hR hn24 k (by omega) rfl) rfl ?_
  refine X_istore dX1_shelfToMoveTo_8 (by decide) ?_
  dsimp only [List.set]
  refine X_aload dX1_shelfToMoveTo_9 rfl ?_
  refine X_getR dX1_shelfToMoveTo_10 rfl gf_X1_9 sh_80 (by decide) rfl rf_80_0 ?_
  refine X_iload dX1_shelfToMoveTo_13 rfl ?_
  refine Y_pS dX1_shelfToMoveTo_14 cs_X1_23 (t_atk sh_81 (Or.inl (by decide)) _ k (by omega) rfl) rfl ?_
  rw [(hW k (by omega)).1]
  refine X_istoreW dX1_shelfToMoveTo_17 (by decide) ?_
  dsimp only [List.set]
  refine X_aload dX1_shelfToMoveTo_19 rfl ?_
  refine X_iloadW dX1_shelfToMoveTo_20 rfl ?_
  refine X_iload dX1_shelfToMoveTo_22 rfl ?_
  refine Y_pV dX1_shelfToMoveTo_23 cv_X1_87 (sh_st hc) (by omega) (t_hasRoom hc hR hG s0 (by omega) hs0 (gb g k 1) (by omega)) rfl ?_
  have hb : (if rmB g n s0 (gb g k 1) = true then (1 : Int) else 0) = 1 ∨ (if rmB g n s0 (gb g k 1) = true then (1 : Int) else 0) = 0 := by split <;> simp
  refine X_if_eq (tgt := 32) dX1_shelfToMoveTo_26 (by decide) (by omega) (fun c_26 => ?_) (fun c_26 => ?_)
  · have r26 : ¬ rmB g n s0 (gb g k 1) = true := fun q => by rw [if_pos q] at c_26; omega
    refine X_iloadW dX1_shelfToMoveTo_32 rfl ?_
    refine X_aload dX1_shelfToMoveTo_34 rfl ?_
    refine X_getR dX1_shelfToMoveTo_35 rfl gf_X1_62 (sh_st hc) (by omega) rfl (rf_st5 hc) ?_
    refine X_iload dX1_shelfToMoveTo_38 rfl ?_
    refine Y_pS dX1_shelfToMoveTo_39 cs_X1_23 (t_blk3 hc hR hn24 k (by omega) rfl) rfl ?_
    refine X_isub dX1_shelfToMoveTo_42 ?_
    refine X_abs dX1_shelfToMoveTo_43 rfl lk_X1_91 (by omega) (by decide) (Nat.le_of_ble_eq_true rfl) ?_
    have habs : ∃ v : Int, (if 0 ≤ w k - gb g k 3 then w k - gb g k 3 else -(w k - gb g k 3)) = v ∧ 0 ≤ v ∧ v ≤ 2 ∧ (v = 2 ↔ (w k - gb g k 3 = 2 ∨ gb g k 3 - w k = 2)) := by split <;> exact ⟨_, rfl, by omega, by omega, by omega⟩
    obtain ⟨v, ev, v0, v2, v3⟩ := habs
    rw [ev]
    refine X_iconst dX1_shelfToMoveTo_46 ?_
    refine X_icmp_ne (tgt := 54) dX1_shelfToMoveTo_47 (by decide) (by omega) (fun c_47 => ?_) (fun c_47 => ?_)
    · refine X_iconst dX1_shelfToMoveTo_54 ?_
      refine X_istoreW dX1_shelfToMoveTo_55 (by decide) ?_
      dsimp only [List.set]
      refine X_iloadW dX1_shelfToMoveTo_57 rfl ?_
      refine X_if_eq (tgt := 75) dX1_shelfToMoveTo_59 (by decide) (by omega) (fun c_59 => ?_) (fun c_59 => ?_)
      · refine X_iconst dX1_shelfToMoveTo_75 ?_
        refine X_iret dX1_shelfToMoveTo_76 (Or.inl rfl) ?_
        refine ⟨?_, rfl, rfl, rfl⟩
        unfold tg
        rw [et, if_neg r26]
        first | (rw [if_pos ⟨by omega, r68⟩]; rfl) | (rw [if_neg (fun q => r68 q.2)]; rfl) | (rw [if_neg (fun q => by have := q.1; omega)]; rfl)
      · refine X_aload dX1_shelfToMoveTo_62 rfl ?_
        refine X_iconst dX1_shelfToMoveTo_63 ?_
        refine X_iload dX1_shelfToMoveTo_64 rfl ?_
        refine Y_pV dX1_shelfToMoveTo_65 cv_X1_87 (sh_st hc) (by omega) (t_hasRoom hc hR hG 1 (by decide) rfl (gb g k 1) (by omega)) rfl ?_
        have hb : (if rmB g n 1 (gb g k 1) = true then (1 : Int) else 0) = 1 ∨ (if rmB g n 1 (gb g k 1) = true then (1 : Int) else 0) = 0 := by split <;> simp
        refine X_if_eq (tgt := 75) dX1_shelfToMoveTo_68 (by decide) (by omega) (fun c_68 => ?_) (fun c_68 => ?_)
        · have r68 : ¬ rmB g n 1 (gb g k 1) = true := fun q => by rw [if_pos q] at c_68; omega
          refine X_iconst dX1_shelfToMoveTo_75 ?_
          refine X_iret dX1_shelfToMoveTo_76 (Or.inl rfl) ?_
          refine ⟨?_, rfl, rfl, rfl⟩
          unfold tg
          rw [et, if_neg r26]
          first | (rw [if_pos ⟨by omega, r68⟩]; rfl) | (rw [if_neg (fun q => r68 q.2)]; rfl) | (rw [if_neg (fun q => by have := q.1; omega)]; rfl)
        · have r68 : rmB g n 1 (gb g k 1) = true := by
            by_cases q : rmB g n 1 (gb g k 1) = true
            · exact q
            · rw [if_neg q] at c_68; omega
          refine X_iconst dX1_shelfToMoveTo_71 ?_
          refine X_goto (tgt := 76) dX1_shelfToMoveTo_72 (by decide) ?_
          refine X_iret dX1_shelfToMoveTo_76 (Or.inl rfl) ?_
          refine ⟨?_, rfl, rfl, rfl⟩
          unfold tg
          rw [et, if_neg r26]
          first | (rw [if_pos ⟨by omega, r68⟩]; rfl) | (rw [if_neg (fun q => r68 q.2)]; rfl) | (rw [if_neg (fun q => by have := q.1; omega)]; rfl)
    · refine X_iconst dX1_shelfToMoveTo_50 ?_
      refine X_goto (tgt := 55) dX1_shelfToMoveTo_51 (by decide) ?_
      refine X_istoreW dX1_shelfToMoveTo_55 (by decide) ?_
      dsimp only [List.set]
      refine X_iloadW dX1_shelfToMoveTo_57 rfl ?_
      refine X_if_eq (tgt := 75) dX1_shelfToMoveTo_59 (by decide) (by omega) (fun c_59 => ?_) (fun c_59 => ?_)
      · refine X_iconst dX1_shelfToMoveTo_75 ?_
        refine X_iret dX1_shelfToMoveTo_76 (Or.inl rfl) ?_
        refine ⟨?_, rfl, rfl, rfl⟩
        unfold tg
        rw [et, if_neg r26]
        first | (rw [if_pos ⟨by omega, r68⟩]; rfl) | (rw [if_neg (fun q => r68 q.2)]; rfl) | (rw [if_neg (fun q => by have := q.1; omega)]; rfl)
      · refine X_aload dX1_shelfToMoveTo_62 rfl ?_
        refine X_iconst dX1_shelfToMoveTo_63 ?_
        refine X_iload dX1_shelfToMoveTo_64 rfl ?_
        refine Y_pV dX1_shelfToMoveTo_65 cv_X1_87 (sh_st hc) (by omega) (t_hasRoom hc hR hG 1 (by decide) rfl (gb g k 1) (by omega)) rfl ?_
        have hb : (if rmB g n 1 (gb g k 1) = true then (1 : Int) else 0) = 1 ∨ (if rmB g n 1 (gb g k 1) = true then (1 : Int) else 0) = 0 := by split <;> simp
        refine X_if_eq (tgt := 75) dX1_shelfToMoveTo_68 (by decide) (by omega) (fun c_68 => ?_) (fun c_68 => ?_)
        · have r68 : ¬ rmB g n 1 (gb g k 1) = true := fun q => by rw [if_pos q] at c_68; omega
          refine X_iconst dX1_shelfToMoveTo_75 ?_
          refine X_iret dX1_shelfToMoveTo_76 (Or.inl rfl) ?_
          refine ⟨?_, rfl, rfl, rfl⟩
          unfold tg
          rw [et, if_neg r26]
          first | (rw [if_pos ⟨by omega, r68⟩]; rfl) | (rw [if_neg (fun q => r68 q.2)]; rfl) | (rw [if_neg (fun q => by have := q.1; omega)]; rfl)
        · have r68 : rmB g n 1 (gb g k 1) = true := by
            by_cases q : rmB g n 1 (gb g k 1) = true
            · exact q
            · rw [if_neg q] at c_68; omega
          refine X_iconst dX1_shelfToMoveTo_71 ?_
          refine X_goto (tgt := 76) dX1_shelfToMoveTo_72 (by decide) ?_
          refine X_iret dX1_shelfToMoveTo_76 (Or.inl rfl) ?_
          refine ⟨?_, rfl, rfl, rfl⟩
          unfold tg
          rw [et, if_neg r26]
          first | (rw [if_pos ⟨by omega, r68⟩]; rfl) | (rw [if_neg (fun q => r68 q.2)]; rfl) | (rw [if_neg (fun q => by have := q.1; omega)]; rfl)
  · have r26 : rmB g n s0 (gb g k 1) = true := by
      by_cases q : rmB g n s0 (gb g k 1) = true
      · exact q
      · rw [if_neg q] at c_26; omega
    refine X_iloadW dX1_shelfToMoveTo_29 rfl ?_
    refine X_iret dX1_shelfToMoveTo_31 (Or.inl rfl) ?_
    refine ⟨?_, rfl, rfl, rfl⟩
    unfold tg
    rw [et, if_pos r26, hs0]
    rfl
def pdG (g : Nat → Int) (k : Nat) : Nat → Int := if gb g k 3 = 2 then gB g k 5 (g 4) else g
set_option maxRecDepth 20000 in
set_option maxHeartbeats 4000000 in
theorem t_promiseIfDeep {I : xI} {c : Nat} {g : Nat → Int} {n : Nat} (hc : x_st c) (hR : RS I c g n) (hG : GI g n) (k : Nat) (hk : k < n) {i : Int} (hi : i = (k : Int)) : S kX1_promiseIfDeep 1 [rr 80, rr c, ii i] I (q_v (fun I1 => RS I1 c (pdG g k) n ∧ FR I I1 c)) := by
  have lc := st_lt hc
  have lw := st_low hc
  have hn24 := hG.n24
  have hF : FR I I c := FR.rf
  subst hi
  have hb3 := (hG.b hk).2.2.2.1
  refine Sp_intro (by decide +kernel) (Nat.le_of_ble_eq_true rfl) ?_
  show Y kX1_promiseIfDeep 1 0 [some (rr 80), some (rr c), some (ii (k : Int))] [] I _
  refine X_aload dX1_promiseIfDeep_0 rfl ?_
  refine X_getR dX1_promiseIfDeep_1 rfl gf_X1_62 (sh_st hc) (by omega) rfl (rf_st5 hc) ?_
  refine X_iload dX1_promiseIfDeep_4 rfl ?_
  refine Y_pS dX1_promiseIfDeep_5 cs_X1_23 (t_blk3 hc hR hn24 k (by omega) rfl) rfl ?_
  refine X_iconst dX1_promiseIfDeep_8 ?_
  refine X_icmp_ne (tgt := 28) dX1_promiseIfDeep_9 (by decide) (by omega) (fun c_9 => ?_) (fun c_9 => ?_)
  · rw [pdG, if_neg c_9]
    refine X_vret dX1_promiseIfDeep_28 rfl ?_
    exact ⟨rfl, rfl, rfl, hR, hF⟩
  · rw [pdG, if_pos c_9]
    refine X_aload dX1_promiseIfDeep_12 rfl ?_
    refine X_getR dX1_promiseIfDeep_13 rfl gf_X1_59 (sh_st hc) (by omega) rfl (rf_st7 hc) ?_
    refine X_iload dX1_promiseIfDeep_16 rfl ?_
    refine X_aload dX1_promiseIfDeep_17 rfl ?_
    refine X_getR dX1_promiseIfDeep_18 rfl gf_X1_18 (sh_st hc) (by omega) rfl (rf_st0 hc) ?_
    refine X_iconst dX1_promiseIfDeep_21 ?_
    refine Y_pS dX1_promiseIfDeep_22 cs_X1_23 (t_num hc hR 4 (by decide) rfl) rfl ?_
    refine Y_vS dX1_promiseIfDeep_25 cs_X1_53 (t_putB5 hc hR hn24 k (by omega) rfl _) rfl (fun I25 hq25 => ?_)
    obtain ⟨hR, hF25⟩ := hq25
    have hF := hF.trans hF25
    refine X_vret dX1_promiseIfDeep_28 rfl ?_
    exact ⟨rfl, rfl, rfl, hR, hF⟩
end
section
/-! Night: the turns, and nights one after the other -/
theorem pd_mv {g : Nat → Int} {k sh : Nat} : pdG (mv g k (sh : Int)) k = mp g k sh := by
  have e : gb (mv g k (sh : Int)) k 3 = sh := by rw [mv_gb (by decide), if_pos (by omega)]
  unfold pdG mp
  rw [e]
  by_cases h : sh = 2
  · rw [if_pos h, if_pos (by omega)]
  · rw [if_neg h, if_neg (by omega)]
section TN
variable {w : Nat → Int} {n : Nat} {most : Int} {dn : Bool} {f : Nat} {g y : Nat → Int} {m : Int}
theorem tn_stop (h : most ≤ m) : tn w n most dn (f + 1) g y m = (g, y, m) := by
  show (if m < most then _ else _ : (Nat → Int) × (Nat → Int) × Int) = _
  rw [if_neg (by omega)]
theorem tn_none (h : m < most) (hr : nxF w g y dn n = none) : tn w n most dn (f + 1) g y m = (g, y, m) := by
  show (if m < most then _ else _ : (Nat → Int) × (Nat → Int) × Int) = _
  rw [if_pos h, hr]
theorem tn_stay {k : Nat} (h : m < most) (hr : nxF w g y dn n = some k) (ht : tg w g n k = none) : tn w n most dn (f + 1) g y m = tn w n most dn f g (yu y k 5) m := by
  show (if m < most then _ else _ : (Nat → Int) × (Nat → Int) × Int) = _
  rw [if_pos h, hr]
  simp only [ht]
theorem tn_go {k sh : Nat} (h : m < most) (hr : nxF w g y dn n = some k) (ht : tg w g n k = some sh) : tn w n most dn (f + 1) g y m = tn w n most dn f (mp g k sh) (yu y k 0) (m + 1) := by
  show (if m < most then _ else _ : (Nat → Int) × (Nat → Int) × Int) = _
  rw [if_pos h, hr]
  simp only [ht]
end TN
set_option maxRecDepth 20000 in
set_option maxHeartbeats 4000000 in
theorem t_moveInTurn1_loop {I : xI} {c : Nat} {n : Nat} (hc : x_st c) (hn24 : n ≤ 24) {w : Nat → Int} (hw : ∀ k, k < n → 0 ≤ w k ∧ w k ≤ 2) (most : Int) (hmo : -100 ≤ most ∧ most ≤ 100) : ∀ (f i : Nat) (g y : Nat → Int) (m : Int) (I1 : xI), i + f = 24 → RS I1 c g n → GI g n → WR I1 n w y → (∀ k, k < n → 0 ≤ y k ∧ y k ≤ 5) → 0 ≤ m ∧ m ≤ i → FT I I1 c → Y kX1_moveInTurn 3 6 [some (rr 80), some (rr c), some (ii 1), some (ii most), some (ii m), some (ii (i : Int)), none, none] [] I1 (q_i (fun z I2 => z = (tn w n most true f g y m).2.2 ∧ RS I2 c (tn w n most true f g y m).1 n ∧ WR I2 n w (tn w n most true f g y m).2.1 ∧ FT I I2 c)) := by
  have lc := st_lt hc
  have lw := st_low hc
  intro f
  induction f with
  | zero =>
    intro i g y m I1 hi hR hG hW hy hm hF
    refine X_iloadW dX1_moveInTurn_6 rfl ?_
    refine X_bipush dX1_moveInTurn_8 (by decide) ?_
    refine X_icmp_ge (tgt := 98) dX1_moveInTurn_10 (by decide) (by omega) (fun c_10 => ?_) (fun c_10 => absurd c_10 (by omega))
    refine X_iloadW dX1_moveInTurn_98 rfl ?_
    refine X_iret dX1_moveInTurn_100 (Or.inl rfl) ?_
    exact ⟨rfl, rfl, _, rfl, rfl, hR, hW, hF⟩
  | succ f ih =>
    intro i g y m I1 hi hR hG hW hy hm hF
    have hG0 := hG
    have hfd := t_nextInTurn1 hc hR hG hW hw hy
    rcases hr : nxF w g y true n with _ | k
    · rw [hr] at hfd
      change S _ _ _ _ (q_p (ii (-1)) I1) at hfd
      refine X_iloadW dX1_moveInTurn_6 rfl ?_
      refine X_bipush dX1_moveInTurn_8 (by decide) ?_
      refine X_icmp_ge (tgt := 98) dX1_moveInTurn_10 (by decide) (by omega) (fun c_10 => absurd c_10 (by omega)) (fun c_10 => ?_)
      refine X_iloadW dX1_moveInTurn_13 rfl ?_
      refine X_iload dX1_moveInTurn_15 rfl ?_
      refine X_icmp_ge (tgt := 98) dX1_moveInTurn_16 (by decide) (by omega) (fun c_16 => ?_) (fun c_16 => ?_)
      · refine X_iloadW dX1_moveInTurn_98 rfl ?_
        refine X_iret dX1_moveInTurn_100 (Or.inl rfl) ?_
        rw [tn_stop c_16]
        exact ⟨rfl, rfl, _, rfl, rfl, hR, hW, hF⟩
      · refine X_aload dX1_moveInTurn_19 rfl ?_
        refine X_aload dX1_moveInTurn_20 rfl ?_
        refine X_iload dX1_moveInTurn_21 rfl ?_
        refine Y_pV dX1_moveInTurn_22 cv_X1_65 sh_80 (by decide) hfd rfl ?_
        refine X_istoreW dX1_moveInTurn_25 (by decide) ?_
        dsimp only [List.set]
        refine X_iloadW dX1_moveInTurn_27 rfl ?_
        refine X_iconst dX1_moveInTurn_29 ?_
        refine X_icmp_ne (tgt := 36) dX1_moveInTurn_30 (by decide) (by omega) (fun c_30 => absurd c_30 (by omega)) (fun c_30 => ?_)
        refine X_iloadW dX1_moveInTurn_33 rfl ?_
        refine X_iret dX1_moveInTurn_35 (Or.inl rfl) ?_
        rw [tn_none c_16 hr]
        exact ⟨rfl, rfl, _, rfl, rfl, hR, hW, hF⟩
    · have hk := (nxF_lt hr).1
      rw [hr] at hfd
      change S _ _ _ _ (q_p (ii ((k : Nat) : Int)) I1) at hfd
      have hst := t_shelfToMoveTo hc hR hG hW hw hy k hk rfl
      rcases ht : tg w g n k with _ | sh
      · rw [ht] at hst
        change S _ _ _ _ (q_p (ii (-1)) I1) at hst
        refine X_iloadW dX1_moveInTurn_6 rfl ?_
        refine X_bipush dX1_moveInTurn_8 (by decide) ?_
        refine X_icmp_ge (tgt := 98) dX1_moveInTurn_10 (by decide) (by omega) (fun c_10 => absurd c_10 (by omega)) (fun c_10 => ?_)
        refine X_iloadW dX1_moveInTurn_13 rfl ?_
        refine X_iload dX1_moveInTurn_15 rfl ?_
        refine X_icmp_ge (tgt := 98) dX1_moveInTurn_16 (by decide) (by omega) (fun c_16 => ?_) (fun c_16 => ?_)
        · refine X_iloadW dX1_moveInTurn_98 rfl ?_
          refine X_iret dX1_moveInTurn_100 (Or.inl rfl) ?_
          rw [tn_stop c_16]
          exact ⟨rfl, rfl, _, rfl, rfl, hR, hW, hF⟩
        · refine X_aload dX1_moveInTurn_19 rfl ?_
          refine X_aload dX1_moveInTurn_20 rfl ?_
          refine X_iload dX1_moveInTurn_21 rfl ?_
          refine Y_pV dX1_moveInTurn_22 cv_X1_65 sh_80 (by decide) hfd rfl ?_
          refine X_istoreW dX1_moveInTurn_25 (by decide) ?_
          dsimp only [List.set]
          refine X_iloadW dX1_moveInTurn_27 rfl ?_
          refine X_iconst dX1_moveInTurn_29 ?_
          refine X_icmp_ne (tgt := 36) dX1_moveInTurn_30 (by decide) (by omega) (fun c_30 => ?_) (fun c_30 => absurd c_30 (by omega))
          refine X_aload dX1_moveInTurn_36 rfl ?_
          refine X_aload dX1_moveInTurn_37 rfl ?_
          refine X_iloadW dX1_moveInTurn_38 rfl ?_
          refine Y_pV dX1_moveInTurn_40 cv_X1_69 sh_80 (by decide) hst rfl ?_
          refine X_istoreW dX1_moveInTurn_43 (by decide) ?_
          dsimp only [List.set]
          refine X_iloadW dX1_moveInTurn_45 rfl ?_
          refine X_iconst dX1_moveInTurn_47 ?_
          refine X_icmp_ne (tgt := 64) dX1_moveInTurn_48 (by decide) (by omega) (fun c_48 => absurd c_48 (by omega)) (fun c_48 => ?_)
          refine X_aload dX1_moveInTurn_51 rfl ?_
          refine X_getR dX1_moveInTurn_52 rfl gf_X1_15 sh_80 (by decide) rfl rf_80_1 ?_
          refine X_iloadW dX1_moveInTurn_55 rfl ?_
          refine X_iconst dX1_moveInTurn_57 ?_
          refine Y_vS dX1_moveInTurn_58 cs_X1_53 (t_putk sh_82 (by decide) _ k (by omega) rfl _) rfl (fun I58 e58 => ?_)
          subst e58
          have hR := hR.up81 (q := 82) (j := k) (z := 5) hc (Or.inr rfl)
          have hW := hW.setY k 5
          have hF := hF.up81 (q := 82) (j := k) (z := 5) (Or.inr rfl)
          have hy : ∀ q, q < n → 0 ≤ yu y k 5 q ∧ yu y k 5 q ≤ 5 := by
            intro q hq
            unfold yu
            split
            · omega
            · exact hy q hq
          refine X_goto (tgt := 92) dX1_moveInTurn_61 (by decide) ?_
          refine X_iinc dX1_moveInTurn_92 rfl ?_
          dsimp only [List.set]
          refine X_goto (tgt := 6) dX1_moveInTurn_95 (by decide) ?_
          refine X_drop 6 ?_
          dsimp only [List.set]
          refine X_drop 7 ?_
          dsimp only [List.set]
          rw [tn_stay c_16 hr ht]
          exact ih (i + 1) g (yu y k 5) m _ (by omega) hR hG hW hy (by omega) hF
      · have hsh := tg_lt (hw k hk) ht
        rw [ht] at hst
        change S _ _ _ _ (q_p (ii ((sh : Nat) : Int)) I1) at hst
        refine X_iloadW dX1_moveInTurn_6 rfl ?_
        refine X_bipush dX1_moveInTurn_8 (by decide) ?_
        refine X_icmp_ge (tgt := 98) dX1_moveInTurn_10 (by decide) (by omega) (fun c_10 => absurd c_10 (by omega)) (fun c_10 => ?_)
        refine X_iloadW dX1_moveInTurn_13 rfl ?_
        refine X_iload dX1_moveInTurn_15 rfl ?_
        refine X_icmp_ge (tgt := 98) dX1_moveInTurn_16 (by decide) (by omega) (fun c_16 => ?_) (fun c_16 => ?_)
        · refine X_iloadW dX1_moveInTurn_98 rfl ?_
          refine X_iret dX1_moveInTurn_100 (Or.inl rfl) ?_
          rw [tn_stop c_16]
          exact ⟨rfl, rfl, _, rfl, rfl, hR, hW, hF⟩
        · refine X_aload dX1_moveInTurn_19 rfl ?_
          refine X_aload dX1_moveInTurn_20 rfl ?_
          refine X_iload dX1_moveInTurn_21 rfl ?_
          refine Y_pV dX1_moveInTurn_22 cv_X1_65 sh_80 (by decide) hfd rfl ?_
          refine X_istoreW dX1_moveInTurn_25 (by decide) ?_
          dsimp only [List.set]
          refine X_iloadW dX1_moveInTurn_27 rfl ?_
          refine X_iconst dX1_moveInTurn_29 ?_
          refine X_icmp_ne (tgt := 36) dX1_moveInTurn_30 (by decide) (by omega) (fun c_30 => ?_) (fun c_30 => absurd c_30 (by omega))
          refine X_aload dX1_moveInTurn_36 rfl ?_
          refine X_aload dX1_moveInTurn_37 rfl ?_
          refine X_iloadW dX1_moveInTurn_38 rfl ?_
          refine Y_pV dX1_moveInTurn_40 cv_X1_69 sh_80 (by decide) hst rfl ?_
          refine X_istoreW dX1_moveInTurn_43 (by decide) ?_
          dsimp only [List.set]
          refine X_iloadW dX1_moveInTurn_45 rfl ?_
          refine X_iconst dX1_moveInTurn_47 ?_
          refine X_icmp_ne (tgt := 64) dX1_moveInTurn_48 (by decide) (by omega) (fun c_48 => ?_) (fun c_48 => absurd c_48 (by omega))
          refine X_aload dX1_moveInTurn_64 rfl ?_
          refine X_getR dX1_moveInTurn_65 rfl gf_X1_15 sh_80 (by decide) rfl rf_80_1 ?_
          refine X_iloadW dX1_moveInTurn_68 rfl ?_
          refine X_iconst dX1_moveInTurn_70 ?_
          refine Y_vS dX1_moveInTurn_71 cs_X1_53 (t_putk sh_82 (by decide) _ k (by omega) rfl _) rfl (fun I58 e58 => ?_)
          subst e58
          have hR := hR.up81 (q := 82) (j := k) (z := 0) hc (Or.inr rfl)
          have hW := hW.setY k 0
          have hF := hF.up81 (q := 82) (j := k) (z := 0) (Or.inr rfl)
          have hy : ∀ q, q < n → 0 ≤ yu y k 0 q ∧ yu y k 0 q ≤ 5 := by
            intro q hq
            unfold yu
            split
            · omega
            · exact hy q hq
          refine X_aload dX1_moveInTurn_74 rfl ?_
          refine X_iloadW dX1_moveInTurn_75 rfl ?_
          refine X_iloadW dX1_moveInTurn_77 rfl ?_
          refine Y_vV dX1_moveInTurn_79 cv_X1_73 (sh_st hc) (by omega) (t_moveTo hc hR hG k hk rfl sh hsh rfl) rfl (fun I79 h79 => ?_)
          obtain ⟨hR, hF79⟩ := h79
          have hG := hG.setM (k := k) (sh := (sh : Int)) (by omega)
          have hW := hW.fr hc hF79
          have hF := hF.trans hF79.t
          refine X_aload dX1_moveInTurn_82 rfl ?_
          refine X_aload dX1_moveInTurn_83 rfl ?_
          refine X_iloadW dX1_moveInTurn_84 rfl ?_
          refine Y_vV dX1_moveInTurn_86 cv_X1_77 sh_80 (by decide) (t_promiseIfDeep hc hR hG k hk rfl) rfl (fun I86 h86 => ?_)
          obtain ⟨hR, hF86⟩ := h86
          rw [pd_mv] at hR
          have hW := hW.fr hc hF86
          have hF := hF.trans hF86.t
          have hG := hG0.setP (k := k) hsh
          refine X_iinc dX1_moveInTurn_89 rfl ?_
          dsimp only [List.set]
          refine X_iinc dX1_moveInTurn_92 rfl ?_
          dsimp only [List.set]
          refine X_goto (tgt := 6) dX1_moveInTurn_95 (by decide) ?_
          refine X_drop 6 ?_
          dsimp only [List.set]
          refine X_drop 7 ?_
          dsimp only [List.set]
          rw [tn_go c_16 hr ht]
          exact ih (i + 1) (mp g k sh) (yu y k 0) (m + 1) _ (by omega) hR hG hW hy (by omega) hF
set_option maxRecDepth 20000 in
set_option maxHeartbeats 4000000 in
theorem t_moveInTurn1 {I : xI} {c : Nat} {g : Nat → Int} {n : Nat} (hc : x_st c) (hR : RS I c g n) (hG : GI g n) {w y : Nat → Int} (hW : WR I n w y) (hw : ∀ k, k < n → 0 ≤ w k ∧ w k ≤ 2) (hy : ∀ k, k < n → 0 ≤ y k ∧ y k ≤ 5) (most : Int) (hmo : -100 ≤ most ∧ most ≤ 100) : S kX1_moveInTurn 3 [rr 80, rr c, ii 1, ii most] I (q_i (fun z I2 => z = (tn w n most true 24 g y 0).2.2 ∧ RS I2 c (tn w n most true 24 g y 0).1 n ∧ WR I2 n w (tn w n most true 24 g y 0).2.1 ∧ FT I I2 c)) := by
  have lc := st_lt hc
  have lw := st_low hc
  have hn24 := hG.n24
  refine Sp_intro (by decide +kernel) (Nat.le_of_ble_eq_true rfl) ?_
  show Y kX1_moveInTurn 3 0 [some (rr 80), some (rr c), some (ii 1), some (ii most), none, none, none, none] [] I _
  refine X_iconst dX1_moveInTurn_0 ?_
  refine X_istoreW dX1_moveInTurn_1 (by decide) ?_
  dsimp only [List.set]
  refine X_iconst dX1_moveInTurn_3 ?_
  refine X_istoreW dX1_moveInTurn_4 (by decide) ?_
  dsimp only [List.set]
  exact t_moveInTurn1_loop hc hn24 hw most hmo 24 0 g y 0 I (by omega) hR hG hW hy (by omega) FT.rf
set_option maxRecDepth 20000 in
set_option maxHeartbeats 4000000 in
theorem t_moveInTurn0_loop {I : xI} {c : Nat} {n : Nat} (hc : x_st c) (hn24 : n ≤ 24) {w : Nat → Int} (hw : ∀ k, k < n → 0 ≤ w k ∧ w k ≤ 2) (most : Int) (hmo : -100 ≤ most ∧ most ≤ 100) : ∀ (f i : Nat) (g y : Nat → Int) (m : Int) (I1 : xI), i + f = 24 → RS I1 c g n → GI g n → WR I1 n w y → (∀ k, k < n → 0 ≤ y k ∧ y k ≤ 5) → 0 ≤ m ∧ m ≤ i → FT I I1 c → Y kX1_moveInTurn 3 6 [some (rr 80), some (rr c), some (ii 0), some (ii most), some (ii m), some (ii (i : Int)), none, none] [] I1 (q_i (fun z I2 => z = (tn w n most false f g y m).2.2 ∧ RS I2 c (tn w n most false f g y m).1 n ∧ WR I2 n w (tn w n most false f g y m).2.1 ∧ FT I I2 c)) := by
  have lc := st_lt hc
  have lw := st_low hc
  intro f
  induction f with
  | zero =>
    intro i g y m I1 hi hR hG hW hy hm hF
    refine X_iloadW dX1_moveInTurn_6 rfl ?_
    refine X_bipush dX1_moveInTurn_8 (by decide) ?_
    refine X_icmp_ge (tgt := 98) dX1_moveInTurn_10 (by decide) (by omega) (fun c_10 => ?_) (fun c_10 => absurd c_10 (by omega))
    refine X_iloadW dX1_moveInTurn_98 rfl ?_
    refine X_iret dX1_moveInTurn_100 (Or.inl rfl) ?_
    exact ⟨rfl, rfl, _, rfl, rfl, hR, hW, hF⟩
  | succ f ih =>
    intro i g y m I1 hi hR hG hW hy hm hF
    have hG0 := hG
    have hfd := t_nextInTurn0 hc hR hG hW hw hy
    rcases hr : nxF w g y false n with _ | k
    · rw [hr] at hfd
      change S _ _ _ _ (q_p (ii (-1)) I1) at hfd
      refine X_iloadW dX1_moveInTurn_6 rfl ?_
      refine X_bipush dX1_moveInTurn_8 (by decide) ?_
      refine X_icmp_ge (tgt := 98) dX1_moveInTurn_10 (by decide) (by omega) (fun c_10 => absurd c_10 (by omega)) (fun c_10 => ?_)
      refine X_iloadW dX1_moveInTurn_13 rfl ?_
      refine X_iload dX1_moveInTurn_15 rfl ?_
      refine X_icmp_ge (tgt := 98) dX1_moveInTurn_16 (by decide) (by omega) (fun c_16 => ?_) (fun c_16 => ?_)
      · refine X_iloadW dX1_moveInTurn_98 rfl ?_
        refine X_iret dX1_moveInTurn_100 (Or.inl rfl) ?_
        rw [tn_stop c_16]
        exact ⟨rfl, rfl, _, rfl, rfl, hR, hW, hF⟩
      · refine X_aload dX1_moveInTurn_19 rfl ?_
        refine X_aload dX1_moveInTurn_20 rfl ?_
        refine X_iload dX1_moveInTurn_21 rfl ?_
        refine Y_pV dX1_moveInTurn_22 cv_X1_65 sh_80 (by decide) hfd rfl ?_
        refine X_istoreW dX1_moveInTurn_25 (by decide) ?_
        dsimp only [List.set]
        refine X_iloadW dX1_moveInTurn_27 rfl ?_
        refine X_iconst dX1_moveInTurn_29 ?_
        refine X_icmp_ne (tgt := 36) dX1_moveInTurn_30 (by decide) (by omega) (fun c_30 => absurd c_30 (by omega)) (fun c_30 => ?_)
        refine X_iloadW dX1_moveInTurn_33 rfl ?_
        refine X_iret dX1_moveInTurn_35 (Or.inl rfl) ?_
        rw [tn_none c_16 hr]
        exact ⟨rfl, rfl, _, rfl, rfl, hR, hW, hF⟩
    · have hk := (nxF_lt hr).1
      rw [hr] at hfd
      change S _ _ _ _ (q_p (ii ((k : Nat) : Int)) I1) at hfd
      have hst := t_shelfToMoveTo hc hR hG hW hw hy k hk rfl
      rcases ht : tg w g n k with _ | sh
      · rw [ht] at hst
        change S _ _ _ _ (q_p (ii (-1)) I1) at hst
        refine X_iloadW dX1_moveInTurn_6 rfl ?_
        refine X_bipush dX1_moveInTurn_8 (by decide) ?_
        refine X_icmp_ge (tgt := 98) dX1_moveInTurn_10 (by decide) (by omega) (fun c_10 => absurd c_10 (by omega)) (fun c_10 => ?_)
        refine X_iloadW dX1_moveInTurn_13 rfl ?_
        refine X_iload dX1_moveInTurn_15 rfl ?_
        refine X_icmp_ge (tgt := 98) dX1_moveInTurn_16 (by decide) (by omega) (fun c_16 => ?_) (fun c_16 => ?_)
        · refine X_iloadW dX1_moveInTurn_98 rfl ?_
          refine X_iret dX1_moveInTurn_100 (Or.inl rfl) ?_
          rw [tn_stop c_16]
          exact ⟨rfl, rfl, _, rfl, rfl, hR, hW, hF⟩
        · refine X_aload dX1_moveInTurn_19 rfl ?_
          refine X_aload dX1_moveInTurn_20 rfl ?_
          refine X_iload dX1_moveInTurn_21 rfl ?_
          refine Y_pV dX1_moveInTurn_22 cv_X1_65 sh_80 (by decide) hfd rfl ?_
          refine X_istoreW dX1_moveInTurn_25 (by decide) ?_
          dsimp only [List.set]
          refine X_iloadW dX1_moveInTurn_27 rfl ?_
          refine X_iconst dX1_moveInTurn_29 ?_
          refine X_icmp_ne (tgt := 36) dX1_moveInTurn_30 (by decide) (by omega) (fun c_30 => ?_) (fun c_30 => absurd c_30 (by omega))
          refine X_aload dX1_moveInTurn_36 rfl ?_
          refine X_aload dX1_moveInTurn_37 rfl ?_
          refine X_iloadW dX1_moveInTurn_38 rfl ?_
          refine Y_pV dX1_moveInTurn_40 cv_X1_69 sh_80 (by decide) hst rfl ?_
          refine X_istoreW dX1_moveInTurn_43 (by decide) ?_
          dsimp only [List.set]
          refine X_iloadW dX1_moveInTurn_45 rfl ?_
          refine X_iconst dX1_moveInTurn_47 ?_
          refine X_icmp_ne (tgt := 64) dX1_moveInTurn_48 (by decide) (by omega) (fun c_48 => absurd c_48 (by omega)) (fun c_48 => ?_)
          refine X_aload dX1_moveInTurn_51 rfl ?_
          refine X_getR dX1_moveInTurn_52 rfl gf_X1_15 sh_80 (by decide) rfl rf_80_1 ?_
          refine X_iloadW dX1_moveInTurn_55 rfl ?_
          refine X_iconst dX1_moveInTurn_57 ?_
          refine Y_vS dX1_moveInTurn_58 cs_X1_53 (t_putk sh_82 (by decide) _ k (by omega) rfl _) rfl (fun I58 e58 => ?_)
          subst e58
          have hR := hR.up81 (q := 82) (j := k) (z := 5) hc (Or.inr rfl)
          have hW := hW.setY k 5
          have hF := hF.up81 (q := 82) (j := k) (z := 5) (Or.inr rfl)
          have hy : ∀ q, q < n → 0 ≤ yu y k 5 q ∧ yu y k 5 q ≤ 5 := by
            intro q hq
            unfold yu
            split
            · omega
            · exact hy q hq
          refine X_goto (tgt := 92) dX1_moveInTurn_61 (by decide) ?_
          refine X_iinc dX1_moveInTurn_92 rfl ?_
          dsimp only [List.set]
          refine X_goto (tgt := 6) dX1_moveInTurn_95 (by decide) ?_
          refine X_drop 6 ?_
          dsimp only [List.set]
          refine X_drop 7 ?_
          dsimp only [List.set]
          rw [tn_stay c_16 hr ht]
          exact ih (i + 1) g (yu y k 5) m _ (by omega) hR hG hW hy (by omega) hF
      · have hsh := tg_lt (hw k hk) ht
        rw [ht] at hst
        change S _ _ _ _ (q_p (ii ((sh : Nat) : Int)) I1) at hst
        refine X_iloadW dX1_moveInTurn_6 rfl ?_
        refine X_bipush dX1_moveInTurn_8 (by decide) ?_
        refine X_icmp_ge (tgt := 98) dX1_moveInTurn_10 (by decide) (by omega) (fun c_10 => absurd c_10 (by omega)) (fun c_10 => ?_)
        refine X_iloadW dX1_moveInTurn_13 rfl ?_
        refine X_iload dX1_moveInTurn_15 rfl ?_
        refine X_icmp_ge (tgt := 98) dX1_moveInTurn_16 (by decide) (by omega) (fun c_16 => ?_) (fun c_16 => ?_)
        · refine X_iloadW dX1_moveInTurn_98 rfl ?_
          refine X_iret dX1_moveInTurn_100 (Or.inl rfl) ?_
          rw [tn_stop c_16]
          exact ⟨rfl, rfl, _, rfl, rfl, hR, hW, hF⟩
        · refine X_aload dX1_moveInTurn_19 rfl ?_
          refine X_aload dX1_moveInTurn_20 rfl ?_
          refine X_iload dX1_moveInTurn_21 rfl ?_
          refine Y_pV dX1_moveInTurn_22 cv_X1_65 sh_80 (by decide) hfd rfl ?_
          refine X_istoreW dX1_moveInTurn_25 (by decide) ?_
          dsimp only [List.set]
          refine X_iloadW dX1_moveInTurn_27 rfl ?_
          refine X_iconst dX1_moveInTurn_29 ?_
          refine X_icmp_ne (tgt := 36) dX1_moveInTurn_30 (by decide) (by omega) (fun c_30 => ?_) (fun c_30 => absurd c_30 (by omega))
          refine X_aload dX1_moveInTurn_36 rfl ?_
          refine X_aload dX1_moveInTurn_37 rfl ?_
          refine X_iloadW dX1_moveInTurn_38 rfl ?_
          refine Y_pV dX1_moveInTurn_40 cv_X1_69 sh_80 (by decide) hst rfl ?_
          refine X_istoreW dX1_moveInTurn_43 (by decide) ?_
          dsimp only [List.set]
          refine X_iloadW dX1_moveInTurn_45 rfl ?_
          refine X_iconst dX1_moveInTurn_47 ?_
          refine X_icmp_ne (tgt := 64) dX1_moveInTurn_48 (by decide) (by omega) (fun c_48 => ?_) (fun c_48 => absurd c_48 (by omega))
          refine X_aload dX1_moveInTurn_64 rfl ?_
          refine X_getR dX1_moveInTurn_65 rfl gf_X1_15 sh_80 (by decide) rfl rf_80_1 ?_
          refine X_iloadW dX1_moveInTurn_68 rfl ?_
          refine X_iconst dX1_moveInTurn_70 ?_
          refine Y_vS dX1_moveInTurn_71 cs_X1_53 (t_putk sh_82 (by decide) _ k (by omega) rfl _) rfl (fun I58 e58 => ?_)
          subst e58
          have hR := hR.up81 (q := 82) (j := k) (z := 0) hc (Or.inr rfl)
          have hW := hW.setY k 0
          have hF := hF.up81 (q := 82) (j := k) (z := 0) (Or.inr rfl)
          have hy : ∀ q, q < n → 0 ≤ yu y k 0 q ∧ yu y k 0 q ≤ 5 := by
            intro q hq
            unfold yu
            split
            · omega
            · exact hy q hq
          refine X_aload dX1_moveInTurn_74 rfl ?_
          refine X_iloadW dX1_moveInTurn_75 rfl ?_
          refine X_iloadW dX1_moveInTurn_77 rfl ?_
          refine Y_vV dX1_moveInTurn_79 cv_X1_73 (sh_st hc) (by omega) (t_moveTo hc hR hG k hk rfl sh hsh rfl) rfl (fun I79 h79 => ?_)
          obtain ⟨hR, hF79⟩ := h79
          have hG := hG.setM (k := k) (sh := (sh : Int)) (by omega)
          have hW := hW.fr hc hF79
          have hF := hF.trans hF79.t
          refine X_aload dX1_moveInTurn_82 rfl ?_
          refine X_aload dX1_moveInTurn_83 rfl ?_
          refine X_iloadW dX1_moveInTurn_84 rfl ?_
          refine Y_vV dX1_moveInTurn_86 cv_X1_77 sh_80 (by decide) (t_promiseIfDeep hc hR hG k hk rfl) rfl (fun I86 h86 => ?_)
          obtain ⟨hR, hF86⟩ := h86
          rw [pd_mv] at hR
          have hW := hW.fr hc hF86
          have hF := hF.trans hF86.t
          have hG := hG0.setP (k := k) hsh
          refine X_iinc dX1_moveInTurn_89 rfl ?_
          dsimp only [List.set]
          refine X_iinc dX1_moveInTurn_92 rfl ?_
          dsimp only [List.set]
          refine X_goto (tgt := 6) dX1_moveInTurn_95 (by decide) ?_
          refine X_drop 6 ?_
          dsimp only [List.set]
          refine X_drop 7 ?_
          dsimp only [List.set]
          rw [tn_go c_16 hr ht]
          exact ih (i + 1) (mp g k sh) (yu y k 0) (m + 1) _ (by omega) hR hG hW hy (by omega) hF
set_option maxRecDepth 20000 in
set_option maxHeartbeats 4000000 in
theorem t_moveInTurn0 {I : xI} {c : Nat} {g : Nat → Int} {n : Nat} (hc : x_st c) (hR : RS I c g n) (hG : GI g n) {w y : Nat → Int} (hW : WR I n w y) (hw : ∀ k, k < n → 0 ≤ w k ∧ w k ≤ 2) (hy : ∀ k, k < n → 0 ≤ y k ∧ y k ≤ 5) (most : Int) (hmo : -100 ≤ most ∧ most ≤ 100) : S kX1_moveInTurn 3 [rr 80, rr c, ii 0, ii most] I (q_i (fun z I2 => z = (tn w n most false 24 g y 0).2.2 ∧ RS I2 c (tn w n most false 24 g y 0).1 n ∧ WR I2 n w (tn w n most false 24 g y 0).2.1 ∧ FT I I2 c)) := by
  have lc := st_lt hc
  have lw := st_low hc
  have hn24 := hG.n24
  refine Sp_intro (by decide +kernel) (Nat.le_of_ble_eq_true rfl) ?_
  show Y kX1_moveInTurn 3 0 [some (rr 80), some (rr c), some (ii 0), some (ii most), none, none, none, none] [] I _
  refine X_iconst dX1_moveInTurn_0 ?_
  refine X_istoreW dX1_moveInTurn_1 (by decide) ?_
  dsimp only [List.set]
  refine X_iconst dX1_moveInTurn_3 ?_
  refine X_istoreW dX1_moveInTurn_4 (by decide) ?_
  dsimp only [List.set]
  exact t_moveInTurn0_loop hc hn24 hw most hmo 24 0 g y 0 I (by omega) hR hG hW hy (by omega) FT.rf
set_option maxRecDepth 20000 in
set_option maxHeartbeats 4000000 in
theorem t_letPass_loop {I : xI} {c : Nat} {g : Nat → Int} {n : Nat} (hc : x_st c) (hGG : GI g n) (t : Nat) (ht : t ≤ 100) : ∀ (m k : Nat), k + m = t → ∀ (I1 : xI), RS I1 c (nsG g n (g 3) k) n → (∀ k1, k = k1 + 1 → ∀ q, q < n → I1 82 q = (ntU (nsG g n (g 3) k1) n (g 3)).2.1 q) → FT I I1 c → Y kX1_letPass 4 15 [some (rr 80), some (rr c), some (ii (t : Int)), some (ii (g 3)), some (ii (nsM g n (g 3) k)), some (ii (k : Int)), none] [] I1 (q_i (fun z I2 => z = nsM g n (g 3) t ∧ RS I2 c (npG g n t) n ∧ FT I I2 c ∧ (∀ k, t = k + 1 → ∀ q, q < n → I2 82 q = (ntU (nsG g n (g 3) k) n (g 3)).2.1 q))) := by
  have lc := st_lt hc
  have lw := st_low hc
  have hn24 := hGG.n24
  have h3 := hGG.s3
  intro m
  induction m with
  | zero =>
    intro k hk I1 hR hY hF
    refine X_iloadW dX1_letPass_15 rfl ?_
    refine X_iload dX1_letPass_17 rfl ?_
    refine X_icmp_ge (tgt := 67) dX1_letPass_18 (by decide) (by omega) (fun c_18 => ?_) (fun c_18 => absurd c_18 (by omega))
    refine X_aload dX1_letPass_67 rfl ?_
    refine X_getR dX1_letPass_68 rfl gf_X1_18 (sh_st hc) (by omega) rfl (rf_st0 hc) ?_
    refine X_bipush dX1_letPass_71 (by decide) ?_
    refine X_iloadW dX1_letPass_73 rfl ?_
    refine Y_vS dX1_letPass_75 cs_X1_41 (t_raiseN hc hR 21 (by decide) rfl _) rfl (fun I75 h75 => ?_)
    obtain ⟨hR, hF75⟩ := h75
    refine X_iloadW dX1_letPass_78 rfl ?_
    refine X_iret dX1_letPass_80 (Or.inl rfl) ?_
    have lw := st_low hc
    have e : t = k := by omega
    subst e
    exact ⟨rfl, rfl, _, rfl, rfl, hR, hF.trans hF75.t, fun k1 hk1 q hq => by rw [hF75 82 (by omega)]; exact hY k1 hk1 q hq⟩
  | succ m ih =>
    intro k hk I1 hR hY hF
    have hG := hGG.ns (g 3) k
    have hG0 := hG
    refine X_iloadW dX1_letPass_15 rfl ?_
    refine X_iload dX1_letPass_17 rfl ?_
    refine X_icmp_ge (tgt := 67) dX1_letPass_18 (by decide) (by omega) (fun c_18 => absurd c_18 (by omega)) (fun c_18 => ?_)
    refine X_aload dX1_letPass_21 rfl ?_
    refine Y_vV dX1_letPass_22 cv_X1_27 (sh_st hc) (by omega) (t_payNight hc hR hG) rfl (fun I22 h22 => ?_)
    obtain ⟨hR, hF22⟩ := h22
    have hF := hF.trans hF22.t
    have hG := hG.py 3
    refine X_aload dX1_letPass_25 rfl ?_
    refine Y_vV dX1_letPass_26 cv_X1_30 (sh_st hc) (by omega) (t_fade hc hR hG) rfl (fun I26 h26 => ?_)
    obtain ⟨hR, hF26⟩ := h26
    have hF := hF.trans hF26.t
    have hG := hG.fd n (Nat.le_refl n)
    change RS _ c (nt1 (nsG g n (g 3) k) n) n at hR
    change GI (nt1 (nsG g n (g 3) k) n) n at hG
    refine X_aload dX1_letPass_29 rfl ?_
    refine X_aload dX1_letPass_30 rfl ?_
    refine Y_vV dX1_letPass_31 cv_X1_33 sh_80 (by decide) (t_findWho hc hR hG) rfl (fun I31 h31 => ?_)
    obtain ⟨hR, hW, hF31⟩ := h31
    have hF := hF.trans (fun q _ b d => hF31 q b d : FT _ I31 c)
    refine X_aload dX1_letPass_34 rfl ?_
    refine X_aload dX1_letPass_35 rfl ?_
    refine X_iconst dX1_letPass_36 ?_
    refine X_iload dX1_letPass_37 rfl ?_
    refine Y_iV dX1_letPass_38 cv_X1_37 sh_80 (by decide) (t_moveInTurn1 hc hR hG hW (fun q _ => wt_bounds _ q) (fun q _ => rs_bounds _ q) (g 3) (by omega)) rfl (fun z38 I38 h38 => ?_)
    obtain ⟨rfl, hR, hW, hF38⟩ := h38
    have hF := hF.trans hF38
    have hG := hG0.nD (g 3)
    change RS _ c (ntD (nsG g n (g 3) k) n (g 3)).1 n at hR
    change WR _ n _ (ntD (nsG g n (g 3) k) n (g 3)).2.1 at hW
    have hd := tn_m (w := wt (nt1 (nsG g n (g 3) k) n)) (n := n) (most := g 3) (dn := true) 24 (nt1 (nsG g n (g 3) k) n) (rs (nt1 (nsG g n (g 3) k) n)) 0
    have hyy := tn_y (w := wt (nt1 (nsG g n (g 3) k) n)) (n := n) (most := g 3) (dn := true) 24 (nt1 (nsG g n (g 3) k) n) (rs (nt1 (nsG g n (g 3) k) n)) 0 (fun q _ => rs_bounds _ q)
    change 0 ≤ (ntD (nsG g n (g 3) k) n (g 3)).2.2 ∧ (ntD (nsG g n (g 3) k) n (g 3)).2.2 ≤ 0 + ((24 : Nat) : Int) ∧ _ at hd
    refine X_istoreW dX1_letPass_41 (by decide) ?_
    dsimp only [List.set]
    refine X_iloadW dX1_letPass_43 rfl ?_
    refine X_iloadW dX1_letPass_45 rfl ?_
    refine X_aload dX1_letPass_47 rfl ?_
    refine X_aload dX1_letPass_48 rfl ?_
    refine X_iconst dX1_letPass_49 ?_
    refine X_iload dX1_letPass_50 rfl ?_
    refine X_iloadW dX1_letPass_51 rfl ?_
    refine X_isub dX1_letPass_53 ?_
    refine Y_iV dX1_letPass_54 cv_X1_37 sh_80 (by decide) (t_moveInTurn0 hc hR hG hW (fun q _ => wt_bounds _ q) hyy (g 3 - (ntD (nsG g n (g 3) k) n (g 3)).2.2) (by omega)) rfl (fun z54 I54 h54 => ?_)
    obtain ⟨rfl, hR, hW, hF54⟩ := h54
    have hF := hF.trans hF54
    refine X_iadd dX1_letPass_57 ?_
    refine X_iadd dX1_letPass_58 ?_
    refine X_istoreW dX1_letPass_59 (by decide) ?_
    dsimp only [List.set]
    refine X_iinc dX1_letPass_61 rfl ?_
    dsimp only [List.set]
    refine X_goto (tgt := 15) dX1_letPass_64 (by decide) ?_
    refine X_drop 6 ?_
    dsimp only [List.set]
    exact ih (k + 1) (by omega) _ hR (fun k1 e => by cases e; exact fun q hq => (hW q hq).2) hF
set_option maxRecDepth 20000 in
set_option maxHeartbeats 4000000 in
theorem t_letPass {I : xI} {c : Nat} {g : Nat → Int} {n : Nat} (hc : x_st c) (hR : RS I c g n) (hG : GI g n) (t : Nat) (ht : t ≤ 100) : S kX1_letPass 4 [rr 80, rr c, ii (t : Int)] I (q_i (fun z I2 => z = nsM g n (g 3) t ∧ RS I2 c (npG g n t) n ∧ FT I I2 c ∧ (∀ k, t = k + 1 → ∀ q, q < n → I2 82 q = (ntU (nsG g n (g 3) k) n (g 3)).2.1 q))) := by
  have lc := st_lt hc
  have lw := st_low hc
  have hn24 := hG.n24
  refine Sp_intro (by decide +kernel) (Nat.le_of_ble_eq_true rfl) ?_
  show Y kX1_letPass 4 0 [some (rr 80), some (rr c), some (ii (t : Int)), none, none, none, none] [] I _
  refine X_aload dX1_letPass_0 rfl ?_
  refine X_getR dX1_letPass_1 rfl gf_X1_18 (sh_st hc) (by omega) rfl (rf_st0 hc) ?_
  refine X_iconst dX1_letPass_4 ?_
  refine Y_pS dX1_letPass_5 cs_X1_23 (t_num hc hR 3 (by decide) rfl) rfl ?_
  refine X_istore dX1_letPass_8 (by decide) ?_
  dsimp only [List.set]
  refine X_iconst dX1_letPass_9 ?_
  refine X_istoreW dX1_letPass_10 (by decide) ?_
  dsimp only [List.set]
  refine X_iconst dX1_letPass_12 ?_
  refine X_istoreW dX1_letPass_13 (by decide) ?_
  dsimp only [List.set]
  exact t_letPass_loop hc hG t ht t 0 (by omega) I hR (fun k1 e => by omega) FT.rf
end
section
/-! what each call does to the whole, as numbers alone -/
abbrev xS : Type := (Nat → Int) × Nat
def SG (s : xS) : Prop := GI s.1 s.2 ∧ 0 ≤ s.1 17 ∧ s.1 17 ≤ 5000
def oAdd (s : xS) (z : Int) : Int × xS := (adZ s.1 s.2 z, match fr s.1 s.2 z with
  | none => s
  | some sh => (adG s.1 s.2 z sh, s.2 + 1))
def oRem (s : xS) (b : Int) : Int × xS := (rmZ s.1 s.2 b, match pl s.1 s.2 b with
  | none => s
  | some k => (rmG s.1 k, s.2 - 1))
def oRead (s : xS) (b t : Int) : Int × xS := (rbZ s.1 s.2 b t, match pl s.1 s.2 b with
  | none => s
  | some k => (rbG s.1 s.2 k t.toNat, s.2))
def oPin (s : xS) (b p : Int) : Int × xS := (tpZ s.1 s.2 b p, match pl s.1 s.2 b with
  | none => s
  | some k => (gB s.1 k 4 p, s.2))
def oPass (s : xS) (t : Int) : Int × xS := (if t < 1 ∨ 99 < t then -2 else if 5000 < s.1 17 + t then -3 else nsM s.1 s.2 (s.1 3) t.toNat, (npG s.1 s.2 t.toNat, s.2))
def oSet (s : xS) (a v : Int) : Int × xS := (csZ s.1 s.2 a v, (gN s.1 a.toNat v, s.2))
/-- the text: nothing was ever typed -/
def TB (tx : Nat → Int) (len : Nat) : Prop := len ≤ 60 ∧ ∀ j, j < len → 0 ≤ tx j ∧ tx j ≤ 65535
def pushH (hs : List xS) (s : xS) : List xS := (if hs.length = 4 then hs.tail else hs) ++ [s]
def nxS (s : xS) (r : Int × xS) : xS := if 0 ≤ r.1 then r.2 else s
def nxH (s : xS) (hs : List xS) (r : Int × xS) : List xS := if 0 ≤ r.1 then pushH hs s else hs
/-! the count of nights -/
theorem mv17 {g : Nat → Int} {k : Nat} {sh : Int} : mv g k sh 17 = g 17 := mv_num (by decide)
theorem ab17 {g : Nat → Int} {n k : Nat} : abG g n k 17 = g 17 := by
  have e : abG3 g k 17 = g 17 := by unfold abG3; rw [gB_num (by decide)]; unfold abG2; rw [gN_num, if_neg (by decide)]; unfold abG1; rw [gN_num, if_neg (by decide)]
  unfold abG
  split
  · rw [mv17, e]
  · split
    · rw [mv17, e]
    · exact e
theorem rd17 {g : Nat → Int} {n k : Nat} : rd1G g n k 17 = g 17 := by
  have e : rdG3 g k 17 = g 17 := by unfold rdG3; rw [gB_num (by decide)]; unfold rdG2; rw [gB_num (by decide)]; unfold rdG1; rw [gN_num, if_neg (by decide)]
  unfold rd1G
  split
  · rw [ab17, e]
  · exact e
theorem rb17 {g : Nat → Int} {n k : Nat} : ∀ t, rbG g n k t 17 = g 17
  | 0 => rfl
  | t + 1 => (rd17 (g := rbG g n k t)).trans (rb17 t)
theorem fd_num {g : Nat → Int} {j : Nat} (hj : j < 23) : ∀ k, fdF g k j = g j
  | 0 => rfl
  | k + 1 => by
    show fd1 (fdF g k) k (g 0) j = g j
    unfold fd1 fdH
    rw [gB_num hj, gB_num hj, fd_num hj k]
theorem tn_num {w : Nat → Int} {n : Nat} {most : Int} {dn : Bool} {j : Nat} (hj : j < 23) : ∀ (f : Nat) (g y : Nat → Int) (m : Int), (tn w n most dn f g y m).1 j = g j
  | 0, g, y, m => rfl
  | f + 1, g, y, m => by
    by_cases h : m < most
    · cases hr : nxF w g y dn n with
      | none => rw [tn_none h hr]
      | some k =>
        cases ht : tg w g n k with
        | none => rw [tn_stay h hr ht]; exact tn_num hj f g _ m
        | some sh => rw [tn_go h hr ht, tn_num hj f]; exact mp_num hj
    · rw [tn_stop (by omega)]
theorem ns17 {g : Nat → Int} {n : Nat} {most : Int} : ∀ i : Nat, nsG g n most i 17 = g 17 + i
  | 0 => by show g 17 = g 17 + ((0 : Nat) : Int); omega
  | i + 1 => by
    show (ntU (nsG g n most i) n most).1 17 = _
    unfold ntU ntD
    rw [tn_num (by decide), tn_num (by decide)]
    unfold nt1
    rw [fd_num (by decide)]
    show pyF (nsG g n most i) n 3 17 = _
    unfold pyF pyF pyF pyF
    rw [gN_num, if_neg (by decide), gN_num, if_neg (by decide), gN_num, if_neg (by decide), gN_num, if_pos rfl, ns17 i]
    omega
theorem np17 {g : Nat → Int} {n i : Nat} : npG g n i 17 = g 17 + i := by
  unfold npG
  rw [gN_num, if_neg (by decide)]
  exact ns17 i
/-! what is paid for a reading is no error -/
theorem rdC_bounds {g : Nat → Int} {n k : Nat} (h : GI g n) (hk : k < n) : 0 ≤ rdC g k ∧ rdC g k ≤ 450 := by
  have hb := h.b hk
  obtain ⟨o, ho⟩ := Int.eq_ofNat_of_zero_le hb.2.2.2.1.1
  have e : (gb g k 3).toNat = o := by omega
  have h9 := h.s9 (j := 3 + o) (by omega)
  rw [show 9 + (3 + o) = 12 + o by omega] at h9
  unfold rdC
  rw [e]
  have a := Int.mul_nonneg (a := gb g k 1) (b := g (12 + o)) (by omega) h9.1
  have b := Int.mul_le_mul hb.2.1.2 h9.2 h9.1 (by omega)
  omega
theorem abP_bounds {g : Nat → Int} {n k : Nat} (h : GI g n) (hk : k < n) : 0 ≤ abP g k ∧ abP g k ≤ 13500 := by
  have hb := h.b hk
  have h5 := h.s5
  unfold abP
  have a := Int.mul_nonneg (a := gb g k 1) (b := g 5) (by omega) h5.1
  have b := Int.mul_le_mul hb.2.1.2 h5.2 h5.1 (by omega)
  have c := Int.mul_nonneg a hb.2.2.2.2.2.1
  have d := Int.mul_le_mul b hb.2.2.2.2.2.2 hb.2.2.2.2.2.1 (by omega)
  omega
theorem rd1P_bounds {g : Nat → Int} {n k : Nat} (h : GI g n) (hk : k < n) : 0 ≤ rd1P g k ∧ rd1P g k ≤ 13950 := by
  have a := rdC_bounds h hk
  have b := abP_bounds (h.rd3 hk) hk
  unfold rd1P
  split <;> omega
theorem rbP_bounds {g : Nat → Int} {n k : Nat} (h : GI g n) (hk : k < n) : ∀ t : Nat, 0 ≤ rbP g n k t ∧ rbP g n k t ≤ 13950 * t
  | 0 => by show (0 : Int) ≤ 0 ∧ (0 : Int) ≤ 13950 * ((0 : Nat) : Int); omega
  | t + 1 => by
    have a := rbP_bounds h hk t
    have b := rd1P_bounds (h.rb hk t) hk
    show 0 ≤ rbP g n k t + rd1P (rbG g n k t) k ∧ rbP g n k t + rd1P (rbG g n k t) k ≤ 13950 * ((t + 1 : Nat) : Int)
    omega
/-! each change keeps what every state keeps to; its answer is small -/
def small (z : Int) : Prop := -100000 ≤ z ∧ z ≤ 2000000
theorem oAdd_ok {s : xS} (h : SG s) (z : Int) : small (oAdd s z).1 ∧ (0 ≤ (oAdd s z).1 → SG (oAdd s z).2) := by
  obtain ⟨hG, h17⟩ := h
  have h16 := hG.s16
  have hn := hG.n24
  unfold oAdd adZ small
  dsimp only
  cases hf : fr s.1 s.2 z with
  | none =>
    dsimp only
    split
    · exact ⟨by omega, fun q => by omega⟩
    · exact ⟨by omega, fun q => by omega⟩
  | some sh =>
    dsimp only
    split
    · exact ⟨by omega, fun q => by omega⟩
    · split
      · exact ⟨by omega, fun q => by omega⟩
      · refine ⟨by omega, fun _ => ⟨hG.ad (by omega) (by omega) (fr_lt hf) (by omega), ?_⟩⟩
        show 0 ≤ adG s.1 s.2 z sh 17 ∧ adG s.1 s.2 z sh 17 ≤ 5000
        rw [adG_num (by decide), if_neg (by decide), if_neg (by decide)]
        exact h17
theorem oRem_ok {s : xS} (h : SG s) (b : Int) : small (oRem s b).1 ∧ (0 ≤ (oRem s b).1 → SG (oRem s b).2) := by
  obtain ⟨hG, h17⟩ := h
  unfold oRem rmZ small
  cases hp : pl s.1 s.2 b with
  | none => exact ⟨(by decide : -100000 ≤ (-1 : Int) ∧ (-1 : Int) ≤ 2000000), fun q => absurd q (by show ¬ (0 : Int) ≤ -1; decide)⟩
  | some k =>
    have hk := pl_lt hp
    have hb := (hG.b hk).2.2.2.1
    dsimp only
    refine ⟨by omega, fun _ => ⟨hG.rm hk, ?_⟩⟩
    show 0 ≤ rmG s.1 k 17 ∧ rmG s.1 k 17 ≤ 5000
    rw [rmG_num (by decide), if_neg (by decide)]
    exact h17
theorem oRead_ok {s : xS} (h : SG s) (b t : Int) : small (oRead s b t).1 ∧ (0 ≤ (oRead s b t).1 → SG (oRead s b t).2) := by
  obtain ⟨hG, h17⟩ := h
  unfold oRead rbZ small
  cases hp : pl s.1 s.2 b with
  | none => exact ⟨(by decide : -100000 ≤ (-1 : Int) ∧ (-1 : Int) ≤ 2000000), fun q => absurd q (by show ¬ (0 : Int) ≤ -1; decide)⟩
  | some k =>
    have hk := pl_lt hp
    have hb := rbP_bounds hG hk t.toNat
    dsimp only
    split
    · refine ⟨by omega, fun _ => ⟨hG.rb hk _, ?_⟩⟩
      show 0 ≤ rbG s.1 s.2 k t.toNat 17 ∧ rbG s.1 s.2 k t.toNat 17 ≤ 5000
      rw [rb17]
      exact h17
    · exact ⟨by omega, fun q => absurd q (by decide)⟩
theorem oPin_ok {s : xS} (h : SG s) (b p : Int) (hp : p = 0 ∨ p = 1) : small (oPin s b p).1 ∧ (0 ≤ (oPin s b p).1 → SG (oPin s b p).2) := by
  obtain ⟨hG, h17⟩ := h
  unfold oPin tpZ small
  cases hq : pl s.1 s.2 b with
  | none => exact ⟨(by decide : -100000 ≤ (-1 : Int) ∧ (-1 : Int) ≤ 2000000), fun q => absurd q (by show ¬ (0 : Int) ≤ -1; decide)⟩
  | some k =>
    have hG2 := hG.setB (k := k) (j := 4) (z := p) (by decide) ⟨by omega, by omega, by omega, by omega, by omega, by omega⟩
    have hb := pins_bounds hG2
    dsimp only
    split
    · exact ⟨by omega, fun q => absurd q (by decide)⟩
    · refine ⟨by omega, fun _ => ⟨hG2, ?_⟩⟩
      show 0 ≤ gB s.1 k 4 p 17 ∧ gB s.1 k 4 p 17 ≤ 5000
      rw [gB_num (by decide)]
      exact h17
theorem oPass_ok {s : xS} (h : SG s) (t : Int) : small (oPass s t).1 ∧ (0 ≤ (oPass s t).1 → SG (oPass s t).2) := by
  obtain ⟨hG, h17⟩ := h
  unfold oPass small
  have hb := nsM_bounds s.1 s.2 (s.1 3) t.toNat
  dsimp only
  split
  · exact ⟨by omega, fun q => by omega⟩
  · split
    · exact ⟨by omega, fun q => by omega⟩
    · refine ⟨by omega, fun _ => ⟨hG.np _, ?_⟩⟩
      show 0 ≤ npG s.1 s.2 t.toNat 17 ∧ npG s.1 s.2 t.toNat 17 ≤ 5000
      rw [np17]
      omega
theorem set_ok {g : Nat → Int} {n k : Nat} (h : GI g n) (hk : k < 15) {v : Int} (hv : 0 ≤ v ∧ v ≤ mx k) : GI (gN g k v) n := by
  have e : ∀ j, j < 15 → mx j = [100, 20000, 20000, 24, 30, 50, 200, 200, 200, 50, 50, 50, 50, 50, 50].getD j 0 := fun j _ => rfl
  rw [e k hk] at hv
  refine h.setN (by omega) ⟨by omega, ?_, ?_, ?_, ?_, ?_, ?_, ?_, ?_, by omega⟩
  · intro q; subst q; exact hv
  · intro q; subst q; exact hv
  · intro q; subst q; exact hv
  · intro q; subst q; exact hv
  · intro q; subst q; exact hv
  · intro q; subst q; exact hv
  · intro q
    rcases (by omega : k = 6 ∨ k = 7 ∨ k = 8) with q | q | q <;> subst q <;> exact hv
  · intro q
    rcases (by omega : k = 9 ∨ k = 10 ∨ k = 11 ∨ k = 12 ∨ k = 13 ∨ k = 14) with q | q | q | q | q | q <;> subst q <;> exact hv
theorem oSet_ok {s : xS} (h : SG s) (a v : Int) : small (oSet s a v).1 ∧ (0 ≤ (oSet s a v).1 → SG (oSet s a v).2) := by
  obtain ⟨hG, h17⟩ := h
  unfold oSet csZ small
  dsimp only
  split
  · exact ⟨by omega, fun q => by omega⟩
  · have hb := set_bounds hG (s := a.toNat) (by omega)
    split
    · exact ⟨by omega, fun q => by omega⟩
    · split
      · split
        · exact ⟨by omega, fun q => by omega⟩
        · refine ⟨by omega, fun _ => ⟨set_ok hG (by omega) (by omega), ?_⟩⟩
          show 0 ≤ gN s.1 a.toNat v 17 ∧ gN s.1 a.toNat v 17 ≤ 5000
          rw [gN_num, if_neg (by omega)]
          exact h17
      · exact ⟨by omega, fun q => by omega⟩
theorem nxS_ok {s : xS} {r : Int × xS} (h : SG s) (hr : 0 ≤ r.1 → SG r.2) : SG (nxS s r) := by
  unfold nxS
  split
  · exact hr (by assumption)
  · exact h
def HG (hs : List xS) : Prop := hs.length ≤ 4 ∧ ∀ s ∈ hs, SG s
theorem HG.push {hs : List xS} {s : xS} (h : HG hs) (hs' : SG s) : HG (pushH hs s) := by
  unfold pushH
  refine ⟨?_, fun q hq => ?_⟩
  · have := h.1
    split
    · rw [List.length_append, List.length_tail]; simp; omega
    · rw [List.length_append]; simp; omega
  · rcases List.mem_append.mp hq with a | a
    · split at a
      · exact h.2 q (List.mem_of_mem_tail a)
      · exact h.2 q a
    · rw [List.mem_singleton.mp a]; exact hs'
theorem nxH_ok {s : xS} {hs : List xS} {r : Int × xS} (h : HG hs) (hs' : SG s) : HG (nxH s hs r) := by
  unfold nxH
  split
  · exact h.push hs'
  · exact h
end
section
/-! History: a ring of four states -/
def hB (i : Nat) : Nat := 36 + 11 * i
theorem hB_st {i : Nat} (h : i < 4) : x_st (hB i) := by
  unfold hB x_st
  rcases (by omega : i = 0 ∨ i = 1 ∨ i = 2 ∨ i = 3) with q | q | q | q <;> subst q <;> decide
theorem rf_35 {k : Nat} (h : k < 4) : xR0 35 k = some (hB k) := by
  rcases (by omega : k = 0 ∨ k = 1 ∨ k = 2 ∨ k = 3) with q | q | q | q <;> subst q <;> rfl
def HIx (I : xI) (f : Nat) (hs : List xS) : Prop := f < 4 ∧ I 34 1 = f ∧ I 34 2 = hs.length ∧ ∀ (j : Nat) (s : xS), hs[j]? = some s → RS I (hB ((f + j) % 4)) s.1 s.2
def HI (I : xI) (hs : List xS) : Prop := ∃ f, HIx I f hs
/-- outside the history -/
def FH (I I1 : xI) : Prop := ∀ q, (q < 34 ∨ 80 ≤ q) → I1 q = I q
theorem HIx.keep {I I1 : xI} {f : Nat} {hs : List xS} (h : HIx I f hs) (e : ∀ q, 34 ≤ q → q < 80 → I1 q = I q) : HIx I1 f hs := by
  obtain ⟨h1, h2, h3, h4⟩ := h
  refine ⟨h1, by rw [e 34 (by decide) (by decide)]; exact h2, by rw [e 34 (by decide) (by decide)]; exact h3, fun j s hj => (h4 j s hj).keep (fun q a b => e q ?_ ?_)⟩
  · have hm : (f + j) % 4 < 4 := Nat.mod_lt _ (by decide)
    unfold hB at a; omega
  · have hm : (f + j) % 4 < 4 := Nat.mod_lt _ (by decide)
    unfold hB at b; omega
set_option maxRecDepth 20000 in
set_option maxHeartbeats 4000000 in
theorem t_stateAt {I : xI} {f a : Nat} (hf : I 34 1 = f) (hf4 : f < 4) (ha : a ≤ 4) {i : Int} (hi : i = (a : Int)) : S kX0_stateAt 0 [rr 34, ii i] I (q_p (rr (hB ((f + a) % 4))) I) := by
  subst hi
  refine Sp_intro (by decide +kernel) (Nat.le_of_ble_eq_true rfl) ?_
  show Y kX0_stateAt 0 0 [some (rr 34), some (ii (a : Int)), none] [] I _
  refine X_aload dX0_stateAt_0 rfl ?_
  refine X_getI dX0_stateAt_1 rfl gf_X0_17 sh_34 (by decide) rfl ?_
  rw [hf]
  refine X_iload dX0_stateAt_4 rfl ?_
  refine X_iadd dX0_stateAt_5 ?_
  refine X_iconst dX0_stateAt_6 ?_
  refine X_irem dX0_stateAt_7 (by omega) (by omega) ?_
  have e4 : ((f : Int) + (a : Int)) % 4 = (((f + a) % 4 : Nat) : Int) := by omega
  rw [e4]
  have hm : (f + a) % 4 < 4 := Nat.mod_lt _ (by decide)
  generalize (f + a) % 4 = m at hm ⊢
  refine X_istore dX0_stateAt_8 (by decide) ?_
  dsimp only [List.set]
  refine X_iload dX0_stateAt_9 rfl ?_
  refine X_if_lt (tgt := 31) dX0_stateAt_10 (by decide) (by omega) (fun c_10 => absurd c_10 (by omega)) (fun c_10 => ?_)
  refine X_iload dX0_stateAt_13 rfl ?_
  refine X_aload dX0_stateAt_14 rfl ?_
  refine X_getR dX0_stateAt_15 rfl gf_X0_11 sh_34 (by decide) rfl rf_34_0 ?_
  refine X_alenR dX0_stateAt_18 sh_35 (Or.inl (by decide)) ?_
  refine X_icmp_ge (tgt := 31) dX0_stateAt_19 (by decide) (by omega) (fun c_19 => absurd c_19 (by omega)) (fun c_19 => ?_)
  refine X_aload dX0_stateAt_22 rfl ?_
  refine X_getR dX0_stateAt_23 rfl gf_X0_11 sh_34 (by decide) rfl rf_34_0 ?_
  refine X_iload dX0_stateAt_26 rfl ?_
  refine X_aald dX0_stateAt_27 sh_35 (Or.inl (by decide)) (by omega) (rf_35 (k := m) hm) ?_
  refine X_goto (tgt := 32) dX0_stateAt_28 (by decide) ?_
  refine X_aret dX0_stateAt_32 rfl ?_
  exact ⟨rfl, rfl, rfl, rfl⟩
theorem hs_push {J K : xI} {f : Nat} {hs : List xS} {s : xS} (h : HIx J f hs) (hl : hs.length < 4) (hR : RS K (hB ((f + hs.length) % 4)) s.1 s.2) (hF : FR J K (hB ((f + hs.length) % 4))) : HIx (x_up K 34 2 ((hs.length : Int) + 1)) f (hs ++ [s]) := by
  obtain ⟨h1, h2, h3, h4⟩ := h
  have hm : (f + hs.length) % 4 < 4 := Nat.mod_lt _ (by decide)
  have k34 : ∀ (i : Nat), i < 4 → ∀ (g : Nat → Int) (n : Nat), RS K (hB i) g n → RS (x_up K 34 2 ((hs.length : Int) + 1)) (hB i) g n := fun i hi g n hr => hr.keep (fun q a b => x_up_ne (by unfold hB at a; omega))
  refine ⟨h1, by rw [x_up_offj (by decide), hF 34 (by unfold hB; omega)]; exact h2, by rw [x_up_same, List.length_append]; rfl, fun j q hj => ?_⟩
  have hm2 : (f + j) % 4 < 4 := Nat.mod_lt _ (by decide)
  refine k34 _ hm2 _ _ ?_
  by_cases e : j < hs.length
  · rw [List.getElem?_append_left e] at hj
    refine (h4 j q hj).keep (fun p a b => hF p ?_)
    unfold hB at a b ⊢
    omega
  · have hlt := (List.getElem?_eq_some_iff.mp hj).1
    rw [List.length_append] at hlt
    have e2 : j = hs.length := by simp at hlt; omega
    subst e2
    rw [List.getElem?_append_right (Nat.le_refl _), Nat.sub_self] at hj
    cases hj
    exact hR
theorem hs_drop {I : xI} {f : Nat} {hs : List xS} (h : HIx I f hs) (hl : hs.length = 4) : HIx (x_up (x_up I 34 1 (((f : Int) + 1) % 4)) 34 2 ((hs.length : Int) - 1)) ((f + 1) % 4) hs.tail := by
  obtain ⟨h1, h2, h3, h4⟩ := h
  refine ⟨Nat.mod_lt _ (by decide), by rw [x_up_offj (by decide), x_up_same]; omega, by rw [x_up_same, List.length_tail]; omega, fun j s hj => ?_⟩
  have hm2 : ((f + 1) % 4 + j) % 4 < 4 := Nat.mod_lt _ (by decide)
  rw [List.getElem?_tail] at hj
  have := h4 (j + 1) s hj
  rw [show (f + (j + 1)) % 4 = ((f + 1) % 4 + j) % 4 by omega] at this
  exact this.keep (fun q a b => by rw [x_up_ne (by unfold hB at a; omega), x_up_ne (by unfold hB at a; omega)])
set_option maxRecDepth 20000 in
set_option maxHeartbeats 4000000 in
theorem t_record_tail {J : xI} {f : Nat} {hs : List xS} {g : Nat → Int} {n : Nat} (h : HIx J f hs) (hl : hs.length < 4) (hR : RS J 1 g n) (hn24 : n ≤ 24) : Y kX0_record 3 30 [some (rr 34), some (rr 1), none] [] J (q_v (fun K => HIx K f (hs ++ [(g, n)]) ∧ FH J K)) := by
  obtain ⟨h1, h2, h3, h4⟩ := h
  refine X_aload dX0_record_30 rfl ?_
  refine X_aload dX0_record_31 rfl ?_
  refine X_getI dX0_record_32 rfl gf_X0_21 sh_34 (by decide) rfl ?_
  rw [h3]
  refine Y_pV dX0_record_35 cv_X0_25 sh_34 (by decide) (t_stateAt h2 h1 (by omega) rfl) rfl ?_
  have hm4 : (f + hs.length) % 4 < 4 := Nat.mod_lt _ (by decide)
  have hC := hB_st hm4
  have lC := st_lt hC
  have hlo : 36 ≤ hB ((f + hs.length) % 4) ∧ hB ((f + hs.length) % 4) ≤ 69 := by unfold hB; omega
  obtain ⟨C, eC⟩ : ∃ C, C = hB ((f + hs.length) % 4) := ⟨_, rfl⟩
  rw [← eC] at hC lC hlo ⊢
  refine X_astore dX0_record_38 (by decide) ?_
  dsimp only [List.set]
  refine X_aload dX0_record_39 rfl ?_
  refine X_ifnull dX0_record_40 ?_
  refine X_aload dX0_record_43 rfl ?_
  refine X_aload dX0_record_44 rfl ?_
  refine Y_vV dX0_record_45 cv_X0_29 (sh_st hC) (by omega) (t_copyFrom hC (Or.inl rfl) (by omega) hR hn24) rfl (fun K hK => ?_)
  obtain ⟨hRK, hFK⟩ := hK
  refine X_aload dX0_record_48 rfl ?_
  refine X_dup dX0_record_49 ?_
  refine X_getI dX0_record_50 rfl gf_X0_21 sh_34 (by decide) rfl ?_
  rw [hFK 34 (by omega), h3]
  refine X_iconst dX0_record_53 ?_
  refine X_iadd dX0_record_54 ?_
  refine X_putI dX0_record_55 rfl pf_X0_21 sh_34 (by decide) rfl (Or.inl rfl) ?_
  refine X_vret dX0_record_58 rfl ?_
  refine ⟨rfl, rfl, rfl, hs_push ⟨h1, h2, h3, h4⟩ hl (eC ▸ hRK) (eC ▸ hFK), fun q hq => ?_⟩
  rw [x_up_ne (by omega)]
  exact hFK q (by omega)
set_option maxRecDepth 20000 in
set_option maxHeartbeats 4000000 in
theorem t_record {I : xI} {hs : List xS} {g : Nat → Int} {n : Nat} (hh : HI I hs) (hl4 : hs.length ≤ 4) (hR : RS I 1 g n) (hn24 : n ≤ 24) : S kX0_record 3 [rr 34, rr 1] I (q_v (fun K => HI K (pushH hs (g, n)) ∧ FH I K)) := by
  obtain ⟨f, h⟩ := hh
  have hf4 := h.1
  refine Sp_intro (by decide +kernel) (Nat.le_of_ble_eq_true rfl) ?_
  show Y kX0_record 3 0 [some (rr 34), some (rr 1), none] [] I _
  by_cases h4l : hs.length = 4
  · refine X_aload dX0_record_0 rfl ?_
    refine X_getI dX0_record_1 rfl gf_X0_21 sh_34 (by decide) rfl ?_
    rw [h.2.2.1]
    refine X_iconst dX0_record_4 ?_
    refine X_icmp_lt (tgt := 30) dX0_record_5 (by decide) (by omega) (fun c_5 => absurd c_5 (by omega)) (fun c_5 => ?_)
    refine X_aload dX0_record_8 rfl ?_
    refine X_aload dX0_record_9 rfl ?_
    refine X_getI dX0_record_10 rfl gf_X0_17 sh_34 (by decide) rfl ?_
    rw [h.2.1]
    refine X_iconst dX0_record_13 ?_
    refine X_iadd dX0_record_14 ?_
    refine X_iconst dX0_record_15 ?_
    refine X_irem dX0_record_16 (by omega) (by omega) ?_
    refine X_putI dX0_record_17 rfl pf_X0_17 sh_34 (by decide) rfl (Or.inl rfl) ?_
    refine X_aload dX0_record_20 rfl ?_
    refine X_dup dX0_record_21 ?_
    refine X_getI dX0_record_22 rfl gf_X0_21 sh_34 (by decide) rfl ?_
    rw [x_up_offj (by decide), h.2.2.1]
    refine X_iconst dX0_record_25 ?_
    refine X_isub dX0_record_26 ?_
    refine X_putI dX0_record_27 rfl pf_X0_21 sh_34 (by decide) rfl (Or.inl rfl) ?_
    have hd := hs_drop h h4l
    refine X_weaken (t_record_tail hd (by rw [List.length_tail]; omega) (hR.keep (fun q a b => by rw [x_up_ne (by omega), x_up_ne (by omega)])) hn24) (fun ro N1 I1 R1 q => ?_)
    obtain ⟨q1, q2, q3, q4, q5⟩ := q
    refine ⟨q1, q2, q3, ⟨(f + 1) % 4, ?_⟩, fun p hp => ?_⟩
    · unfold pushH
      rw [if_pos h4l]
      exact q4
    · rw [q5 p hp, x_up_ne (by omega), x_up_ne (by omega)]
  · refine X_aload dX0_record_0 rfl ?_
    refine X_getI dX0_record_1 rfl gf_X0_21 sh_34 (by decide) rfl ?_
    rw [h.2.2.1]
    refine X_iconst dX0_record_4 ?_
    refine X_icmp_lt (tgt := 30) dX0_record_5 (by decide) (by omega) (fun c_5 => ?_) (fun c_5 => absurd c_5 (by omega))
    refine X_weaken (t_record_tail h (by omega) hR hn24) (fun ro N1 I1 R1 q => ?_)
    obtain ⟨q1, q2, q3, q4, q5⟩ := q
    refine ⟨q1, q2, q3, ⟨f, ?_⟩, q5⟩
    unfold pushH
    rw [if_neg h4l]
    exact q4
theorem hs_pop {I K : xI} {f : Nat} {hs : List xS} {s : xS} (h : HIx I f (hs ++ [s])) (hF : FR I K 1) : HIx (x_up K 34 2 ((hs.length : Nat) : Int)) f hs := by
  obtain ⟨h1, h2, h3, h4⟩ := h
  refine ⟨h1, by rw [x_up_offj (by decide), hF 34 (by omega)]; exact h2, x_up_same, fun j q hj => ?_⟩
  have hm2 : (f + j) % 4 < 4 := Nat.mod_lt _ (by decide)
  have hlt := (List.getElem?_eq_some_iff.mp hj).1
  have := h4 j q (by rw [List.getElem?_append_left hlt]; exact hj)
  exact this.keep (fun p a b => by rw [x_up_ne (by unfold hB at a; omega)]; exact hF p (by unfold hB at a; omega))
set_option maxRecDepth 20000 in
set_option maxHeartbeats 4000000 in
theorem t_take0 {I : xI} (hh : HI I []) : S kX0_takeLatest 3 [rr 34, rr 1] I (q_i (fun z K => z = 0 ∧ K = I)) := by
  obtain ⟨f, h⟩ := hh
  refine Sp_intro (by decide +kernel) (Nat.le_of_ble_eq_true rfl) ?_
  show Y kX0_takeLatest 3 0 [some (rr 34), some (rr 1), none] [] I _
  have h32 := h.2.2.1
  change I 34 2 = ((0 : Nat) : Int) at h32
  refine X_aload dX0_takeLatest_0 rfl ?_
  refine X_getI dX0_takeLatest_1 rfl gf_X0_21 sh_34 (by decide) rfl ?_
  rw [show I 34 2 = (0 : Int) from h32]
  refine X_if_gt (tgt := 9) dX0_takeLatest_4 (by decide) (by decide) (fun c_4 => absurd c_4 (by decide)) (fun c_4 => ?_)
  refine X_iconst dX0_takeLatest_7 ?_
  refine X_iret dX0_takeLatest_8 (Or.inr ⟨rfl, by omega⟩) ?_
  exact ⟨rfl, rfl, _, rfl, rfl, rfl⟩
set_option maxRecDepth 20000 in
set_option maxHeartbeats 4000000 in
theorem t_take1 {I : xI} {hs : List xS} {s : xS} (hh : HI I (hs ++ [s])) (hl : hs.length < 4) (hn24 : s.2 ≤ 24) : S kX0_takeLatest 3 [rr 34, rr 1] I (q_i (fun z K => z = 1 ∧ RS K 1 s.1 s.2 ∧ HI K hs ∧ (∀ q, (q < 1 ∨ 12 ≤ q) → q ≠ 34 → K q = I q))) := by
  obtain ⟨f, h⟩ := hh
  have hf4 := h.1
  have hlen : (hs ++ [s]).length = hs.length + 1 := by rw [List.length_append]; rfl
  have hL := h.2.2.2 hs.length s (by rw [List.getElem?_append_right (Nat.le_refl _), Nat.sub_self]; rfl)
  refine Sp_intro (by decide +kernel) (Nat.le_of_ble_eq_true rfl) ?_
  show Y kX0_takeLatest 3 0 [some (rr 34), some (rr 1), none] [] I _
  refine X_aload dX0_takeLatest_0 rfl ?_
  refine X_getI dX0_takeLatest_1 rfl gf_X0_21 sh_34 (by decide) rfl ?_
  rw [h.2.2.1, hlen]
  refine X_if_gt (tgt := 9) dX0_takeLatest_4 (by decide) (by omega) (fun c_4 => ?_) (fun c_4 => absurd c_4 (by omega))
  refine X_aload dX0_takeLatest_9 rfl ?_
  refine X_aload dX0_takeLatest_10 rfl ?_
  refine X_getI dX0_takeLatest_11 rfl gf_X0_21 sh_34 (by decide) rfl ?_
  rw [h.2.2.1, hlen]
  refine X_iconst dX0_takeLatest_14 ?_
  refine X_isub dX0_takeLatest_15 ?_
  have e5 : ((hs.length + 1 : Nat) : Int) - 1 = ((hs.length : Nat) : Int) := by omega
  rw [e5]
  refine Y_pV dX0_takeLatest_16 cv_X0_25 sh_34 (by decide) (t_stateAt h.2.1 h.1 (by omega) rfl) rfl ?_
  have hm4 : (f + hs.length) % 4 < 4 := Nat.mod_lt _ (by decide)
  have hC := hB_st hm4
  have lC := st_lt hC
  have hlo : 36 ≤ hB ((f + hs.length) % 4) ∧ hB ((f + hs.length) % 4) ≤ 69 := by unfold hB; omega
  obtain ⟨C, eC⟩ : ∃ C, C = hB ((f + hs.length) % 4) := ⟨_, rfl⟩
  rw [← eC] at hC lC hlo hL ⊢
  refine X_astore dX0_takeLatest_19 (by decide) ?_
  dsimp only [List.set]
  refine X_aload dX0_takeLatest_20 rfl ?_
  refine X_ifnonnull (tgt := 26) dX0_takeLatest_21 (by decide) ?_
  refine X_aload dX0_takeLatest_26 rfl ?_
  refine X_aload dX0_takeLatest_27 rfl ?_
  refine Y_vV dX0_takeLatest_28 cv_X0_29 sh_1 (by decide) (t_copyFrom (Or.inl rfl) hC (by omega) hL hn24) rfl (fun K hK => ?_)
  obtain ⟨hRK, hFK⟩ := hK
  refine X_aload dX0_takeLatest_31 rfl ?_
  refine X_dup dX0_takeLatest_32 ?_
  refine X_getI dX0_takeLatest_33 rfl gf_X0_21 sh_34 (by decide) rfl ?_
  rw [hFK 34 (by omega), h.2.2.1, hlen]
  refine X_iconst dX0_takeLatest_36 ?_
  refine X_isub dX0_takeLatest_37 ?_
  refine X_putI dX0_takeLatest_38 rfl pf_X0_21 sh_34 (by decide) rfl (Or.inl rfl) ?_
  refine X_iconst dX0_takeLatest_41 ?_
  refine X_iret dX0_takeLatest_42 (Or.inr ⟨rfl, by omega⟩) ?_
  refine ⟨rfl, rfl, _, rfl, rfl, hRK.keep (fun q a b => x_up_ne (by omega)), ⟨f, ?_⟩, fun q a b => by rw [x_up_ne b]; exact hFK q (by omega)⟩
  have e5 : ((hs.length + 1 : Nat) : Int) - 1 = ((hs.length : Nat) : Int) := by omega
  rw [e5]
  exact hs_pop h hFK
end
section
/-! HeatShelves: what all its cells hold, and the calls that change the state -/
theorem st1 : x_st 1 := Or.inl rfl
theorem st12 : x_st 12 := Or.inr (Or.inl rfl)
theorem st23 : x_st 23 := Or.inr (Or.inr (Or.inl rfl))
def SN (I : xI) (sn : Option xS) : Prop := match sn with
  | none => I 0 3 = 0
  | some s => I 0 3 = 1 ∧ RS I 23 s.1 s.2
def CI (I : xI) (s : xS) (hs : List xS) (sn : Option xS) (tx : Nat → Int) (len : Nat) : Prop := ST I ∧ RS I 1 s.1 s.2 ∧ HI I hs ∧ SN I sn ∧ I 83 1 = len ∧ ∀ j, j < len → I 84 j = tx j
/-- what holds of the numbers themselves -/
def CG (s : xS) (hs : List xS) (sn : Option xS) (tx : Nat → Int) (len : Nat) : Prop := SG s ∧ HG hs ∧ (∀ q, sn = some q → SG q) ∧ TB tx len
/-- only work, the night's rows and the orders' scratch may change -/
def SF (I I1 : xI) : Prop := (∀ q, (q < 12 ∨ (23 ≤ q ∧ q < 81) ∨ q = 84 ∨ 88 ≤ q) → I1 q = I q) ∧ I1 83 1 = I 83 1
def FX (I I1 : xI) : Prop := ∀ q, 88 ≤ q → I1 q = I q
theorem SF.rf {I : xI} : SF I I := ⟨fun _ _ => rfl, rfl⟩
theorem SF.trans {I I1 I2 : xI} (h : SF I I1) (h' : SF I1 I2) : SF I I2 := ⟨fun q hq => (h'.1 q hq).trans (h.1 q hq), h'.2.trans h.2⟩
theorem SF.fx {I I1 : xI} (h : SF I I1) : FX I I1 := fun q hq => h.1 q (by omega)
theorem FX.trans {I I1 I2 : xI} (h : FX I I1) (h' : FX I1 I2) : FX I I2 := fun q hq => (h' q hq).trans (h q hq)
theorem FR.sf {I I1 : xI} (h : FR I I1 12) : SF I I1 := ⟨fun q hq => h q (by omega), by rw [h 83 (by omega)]⟩
theorem FT.sf {I I1 : xI} (h : FT I I1 12) : SF I I1 := ⟨fun q hq => h q (by omega) (by omega) (by omega), by rw [h 83 (by omega) (by decide) (by decide)]⟩
theorem CI.sc {I I1 : xI} {s : xS} {hs : List xS} {sn : Option xS} {tx : Nat → Int} {len : Nat} (h : CI I s hs sn tx len) (e : SF I I1) : CI I1 s hs sn tx len := by
  obtain ⟨⟨h1, h1'⟩, h2, ⟨f, h3⟩, h4, h5, h6⟩ := h
  refine ⟨⟨fun j hj => by rw [e.1 101 (by omega)]; exact h1 j hj, fun j hj => by rw [e.1 100 (by omega)]; exact h1' j hj⟩, h2.keep (fun q a b => e.1 q (by omega)), ⟨f, h3.keep (fun q a b => e.1 q (by omega))⟩, ?_, by rw [e.2]; exact h5, fun j hj => by rw [e.1 84 (by omega)]; exact h6 j hj⟩
  unfold SN at h4 ⊢
  split
  · rw [e.1 0 (by omega)]; exact h4
  · exact ⟨by rw [e.1 0 (by omega)]; exact h4.1, h4.2.keep (fun q a b => e.1 q (by omega))⟩
theorem SN.keep {I I1 : xI} {sn : Option xS} (h : SN I sn) (e : ∀ q, (q = 0 ∨ (24 ≤ q ∧ q ≤ 33)) → I1 q = I q) : SN I1 sn := by
  unfold SN at h ⊢
  split
  · rw [e 0 (by omega)]; exact h
  · exact ⟨by rw [e 0 (by omega)]; exact h.1, h.2.keep (fun q a b => e q (by omega))⟩
theorem ST.keep {I I1 : xI} (h : ST I) (e : FX I I1) : ST I1 := ⟨fun j hj => by rw [e 101 (by decide)]; exact h.1 j hj, fun j hj => by rw [e 100 (by decide)]; exact h.2 j hj⟩
theorem HI.keep {I I1 : xI} {hs : List xS} (h : HI I hs) (e : ∀ q, 34 ≤ q → q < 80 → I1 q = I q) : HI I1 hs := by
  obtain ⟨f, h⟩ := h
  exact ⟨f, h.keep e⟩
/-- an operation done in the work state -/
def opQ (I : xI) (r : Int × xS) (z : Int) (I1 : xI) : Prop := z = r.1 ∧ FT I I1 12 ∧ (0 ≤ r.1 → RS I1 12 r.2.1 r.2.2)
theorem w_add {I : xI} {s : xS} (hR : RS I 12 s.1 s.2) (hS : SG s) (z : Int) (hz : -2147483648 ≤ z ∧ z ≤ 2147483647) : S kX3_addBlock 2 [rr 12, ii z] I (q_i (opQ I (oAdd s z))) :=
  S_monoI (t_addBlock st12 hR hS.1 z hz) (fun a I1 h => ⟨h.1, h.2.1.t, fun q => by
    unfold oAdd at q ⊢
    dsimp only at q ⊢
    cases hf : fr s.1 s.2 z with
    | none => unfold adZ at q; rw [hf] at q; dsimp only at q; split at q <;> omega
    | some sh => exact h.2.2 sh q hf⟩)
theorem w_rem {I : xI} {s : xS} (hR : RS I 12 s.1 s.2) (hS : SG s) (b : Int) (hb : -2147483648 ≤ b ∧ b ≤ 2147483647) : S kX3_dropBlock 3 [rr 12, ii b] I (q_i (opQ I (oRem s b))) :=
  S_monoI (t_dropBlock st12 hR hS.1 b hb) (fun a I1 h => ⟨h.1, h.2.1.t, fun q => by
    unfold oRem at q ⊢
    dsimp only at q ⊢
    cases hf : pl s.1 s.2 b with
    | none => unfold rmZ at q; rw [hf] at q; exact absurd q (by show ¬ (0 : Int) ≤ -1; decide)
    | some k => exact h.2.2 k hf⟩)
theorem w_read {I : xI} {s : xS} (hR : RS I 12 s.1 s.2) (hS : SG s) (b : Int) (hb : -2147483648 ≤ b ∧ b ≤ 2147483647) (t : Int) (ht : -2147483648 ≤ t ∧ t ≤ 2147483647) : S kX3_readBlock 4 [rr 12, ii b, ii t] I (q_i (opQ I (oRead s b t))) :=
  S_monoI (t_readBlock st12 hR hS.1 b hb t ht) (fun a I1 h => ⟨h.1, h.2.1.t, fun q => by
    unfold oRead at q ⊢
    dsimp only at q ⊢
    cases hf : pl s.1 s.2 b with
    | none => unfold rbZ at q; rw [hf] at q; exact absurd q (by show ¬ (0 : Int) ≤ -1; decide)
    | some k =>
      unfold rbZ at q
      rw [hf] at q
      dsimp only at q
      split at q
      · exact h.2.2 k hf (by assumption)
      · exact absurd q (by decide)⟩)
theorem pin_ok {I1 : xI} {s : xS} {b p : Int} (h : ∀ k, pl s.1 s.2 b = some k → ¬ gb s.1 k 4 = p → RS I1 12 (gB s.1 k 4 p) s.2) : 0 ≤ (oPin s b p).1 → RS I1 12 (oPin s b p).2.1 (oPin s b p).2.2 := by
  intro q
  unfold oPin at q ⊢
  dsimp only at q ⊢
  cases hf : pl s.1 s.2 b with
  | none => unfold tpZ at q; rw [hf] at q; exact absurd q (by show ¬ (0 : Int) ≤ -1; decide)
  | some k =>
    unfold tpZ at q
    rw [hf] at q
    dsimp only at q
    split at q
    · exact absurd q (by decide)
    · exact h k hf (by assumption)
theorem w_pin {I : xI} {s : xS} (hR : RS I 12 s.1 s.2) (hS : SG s) (b : Int) (hb : -2147483648 ≤ b ∧ b ≤ 2147483647) (p : Int) (hp : p = 0 ∨ p = 1) : S kX3_turnPin 3 [rr 12, ii b, ii p] I (q_i (opQ I (oPin s b p))) :=
  S_monoI (t_turnPin st12 hR hS.1 b hb p hp) (fun a I1 h => ⟨h.1, h.2.1.t, pin_ok h.2.2⟩)
theorem w_set {I : xI} {s : xS} (hR : RS I 12 s.1 s.2) (hS : SG s) (hst : ST I) (a : Int) (ha : -2147483648 ≤ a ∧ a ≤ 2147483647) (v : Int) (hv : -2147483648 ≤ v ∧ v ≤ 2147483647) : S kX3_changeSetting 2 [rr 12, ii a, ii v] I (q_i (opQ I (oSet s a v))) :=
  S_monoI (t_changeSetting st12 hR hS.1 hst a ha v hv) (fun z I1 h => ⟨h.1, h.2.1.t, fun q => h.2.2 (by rw [h.1]; exact q)⟩)
set_option maxRecDepth 20000 in
set_option maxHeartbeats 4000000 in
theorem w_pass {I : xI} {s : xS} (hR : RS I 12 s.1 s.2) (hS : SG s) (t : Int) (ht : -2147483648 ≤ t ∧ t ≤ 2147483647) : S kX4_passInWork 5 [rr 0, ii t] I (q_i (opQ I (oPass s t))) := by
  have h17 := hS.2
  refine Sp_intro (by decide +kernel) (Nat.le_of_ble_eq_true rfl) ?_
  show Y kX4_passInWork 5 0 [some (rr 0), some (ii t)] [] I _
  refine X_iload dX4_passInWork_0 rfl ?_
  refine X_iconst dX4_passInWork_1 ?_
  refine X_icmp_lt (tgt := 11) dX4_passInWork_2 (by decide) (by omega) (fun c_2 => ?_) (fun c_2 => ?_)
  · refine X_bipush dX4_passInWork_11 (by decide) ?_
    refine X_iret dX4_passInWork_13 (Or.inl rfl) ?_
    exact ⟨rfl, rfl, _, rfl, by unfold oPass; dsimp only; rw [if_pos (by omega)], FT.rf, fun q => absurd q (by unfold oPass; dsimp only; rw [if_pos (by omega)]; decide)⟩
  · refine X_iload dX4_passInWork_5 rfl ?_
    refine X_bipush dX4_passInWork_6 (by decide) ?_
    refine X_icmp_le (tgt := 14) dX4_passInWork_8 (by decide) (by omega) (fun c_8 => ?_) (fun c_8 => ?_)
    · refine X_aload dX4_passInWork_14 rfl ?_
      refine X_getR dX4_passInWork_15 rfl gf_X4_16 sh_0 (by decide) rfl rf_0_1 ?_
      refine X_getR dX4_passInWork_18 rfl gf_X4_142 sh_12 (by decide) rfl rf_12_0 ?_
      refine X_bipush dX4_passInWork_21 (by decide) ?_
      refine Y_pS dX4_passInWork_23 cs_X4_108 (t_num st12 hR 17 (by decide) rfl) rfl ?_
      refine X_iload dX4_passInWork_26 rfl ?_
      refine X_iadd dX4_passInWork_27 ?_
      refine X_sipush dX4_passInWork_28 (by decide) ?_
      refine X_icmp_le (tgt := 37) dX4_passInWork_31 (by decide) (by omega) (fun c_31 => ?_) (fun c_31 => ?_)
      · refine X_aload dX4_passInWork_37 rfl ?_
        refine X_getR dX4_passInWork_38 rfl gf_X4_36 sh_0 (by decide) rfl rf_0_5 ?_
        refine X_aload dX4_passInWork_41 rfl ?_
        refine X_getR dX4_passInWork_42 rfl gf_X4_16 sh_0 (by decide) rfl rf_0_1 ?_
        refine X_iload dX4_passInWork_45 rfl ?_
        obtain ⟨u, rfl⟩ := Int.eq_ofNat_of_zero_le (show 0 ≤ t by omega)
        refine Y_iV dX4_passInWork_46 cv_X4_166 sh_80 (by decide) (t_letPass st12 hR hS.1 u (by omega)) rfl (fun z46 I46 h46 => ?_)
        refine X_iret dX4_passInWork_49 (Or.inl rfl) ?_
        exact ⟨rfl, rfl, _, rfl, by unfold oPass; dsimp only; rw [if_neg (by omega), if_neg (by omega)]; exact h46.1, h46.2.2.1, fun _ => h46.2.1⟩
      · refine X_bipush dX4_passInWork_34 (by decide) ?_
        refine X_iret dX4_passInWork_36 (Or.inl rfl) ?_
        exact ⟨rfl, rfl, _, rfl, by unfold oPass; dsimp only; rw [if_neg (by omega), if_pos (by omega)], FT.rf, fun q => absurd q (by unfold oPass; dsimp only; rw [if_neg (by omega), if_pos (by omega)]; decide)⟩
    · refine X_bipush dX4_passInWork_11 (by decide) ?_
      refine X_iret dX4_passInWork_13 (Or.inl rfl) ?_
      exact ⟨rfl, rfl, _, rfl, by unfold oPass; dsimp only; rw [if_pos (by omega)], FT.rf, fun q => absurd q (by unfold oPass; dsimp only; rw [if_pos (by omega)]; decide)⟩
theorem settle_ok {I K K2 : xI} {s s' : xS} {hs : List xS} {sn : Option xS} {tx : Nat → Int} {len : Nat} (hC : CI I s hs sn tx len) (h1 : HI K (pushH hs s)) (h2 : FH I K) (h3 : RS K2 1 s'.1 s'.2) (h4 : FR K K2 1) : CI K2 s' (pushH hs s) sn tx len := by
  obtain ⟨c1, c2, c3, c4, c5, c6⟩ := hC
  have e : ∀ q, (q = 0 ∨ 12 ≤ q) → (q < 34 ∨ 80 ≤ q) → K2 q = I q := fun q a b => by rw [h4 q (by omega)]; exact h2 q b
  exact ⟨c1.keep (fun q hq => e q (by omega) (by omega)), h3, h1.keep (fun q a b => h4 q (by omega)), c4.keep (fun q hq => e q (by omega) (by omega)), by rw [e 83 (by omega) (by omega)]; exact c5, fun j hj => by rw [e 84 (by omega) (by omega)]; exact c6 j hj⟩
set_option maxRecDepth 20000 in
set_option maxHeartbeats 4000000 in
theorem t_settle {I : xI} {s : xS} {hs : List xS} {sn : Option xS} {tx : Nat → Int} {len : Nat} (hC : CI I s hs sn tx len) (hg : CG s hs sn tx len) (r : Int × xS) (hsm : small r.1) (hr : 0 ≤ r.1 → RS I 12 r.2.1 r.2.2 ∧ r.2.2 ≤ 24) : S kX4_settle 4 [rr 0, ii r.1] I (q_i (fun ans I1 => ans = (r).1 ∧ CI I1 (nxS s (r)) (nxH s hs (r)) sn tx len ∧ FX I I1)) := by
  refine Sp_intro (by decide +kernel) (Nat.le_of_ble_eq_true rfl) ?_
  show Y kX4_settle 4 0 [some (rr 0), some (ii r.1)] [] I _
  refine X_iload dX4_settle_0 rfl ?_
  refine X_if_lt (tgt := 26) dX4_settle_1 (by decide) (by unfold small at hsm; omega) (fun c_1 => ?_) (fun c_1 => ?_)
  · refine X_iload dX4_settle_26 rfl ?_
    refine X_iret dX4_settle_27 (Or.inl rfl) ?_
    first
      | (refine ⟨rfl, rfl, _, rfl, rfl, ?_, fun q hq => ?_⟩
         · unfold nxS nxH
           rw [if_pos c_1, if_pos c_1]
           exact settle_ok hC hK.1 hK.2 hK2.1 hK2.2
         · rw [hK2.2 q (by omega)]; exact hK.2 q (by omega))
      | exact ⟨rfl, rfl, _, rfl, rfl, by unfold nxS nxH; rw [if_neg (by omega), if_neg (by omega)]; exact hC, fun _ _ => rfl⟩
  · refine X_aload dX4_settle_4 rfl ?_
    refine X_getR dX4_settle_5 rfl gf_X4_29 sh_0 (by decide) rfl rf_0_4 ?_
    refine X_aload dX4_settle_8 rfl ?_
    refine X_getR dX4_settle_9 rfl gf_X4_10 sh_0 (by decide) rfl rf_0_0 ?_
    refine Y_vV dX4_settle_12 cv_X4_183 sh_34 (by decide) (t_record hC.2.2.1 hg.2.1.1 hC.2.1 hg.1.1.n24) rfl (fun K hK => ?_)
    have hr12 := (hr c_1).1.keep (I1 := K) (fun q a b => hK.2 q (by omega))
    refine X_aload dX4_settle_15 rfl ?_
    refine X_getR dX4_settle_16 rfl gf_X4_10 sh_0 (by decide) rfl rf_0_0 ?_
    refine X_aload dX4_settle_19 rfl ?_
    refine X_getR dX4_settle_20 rfl gf_X4_16 sh_0 (by decide) rfl rf_0_1 ?_
    refine Y_vV dX4_settle_23 cv_X4_47 sh_1 (by decide) (t_copyFrom st1 st12 (by decide) hr12 (hr c_1).2) rfl (fun K2 hK2 => ?_)
    refine X_iload dX4_settle_26 rfl ?_
    refine X_iret dX4_settle_27 (Or.inl rfl) ?_
    first
      | (refine ⟨rfl, rfl, _, rfl, rfl, ?_, fun q hq => ?_⟩
         · unfold nxS nxH
           rw [if_pos c_1, if_pos c_1]
           exact settle_ok hC hK.1 hK.2 hK2.1 hK2.2
         · rw [hK2.2 q (by omega)]; exact hK.2 q (by omega))
      | exact ⟨rfl, rfl, _, rfl, rfl, by unfold nxS nxH; rw [if_neg (by omega), if_neg (by omega)]; exact hC, fun _ _ => rfl⟩
set_option maxRecDepth 20000 in
set_option maxHeartbeats 4000000 in
theorem pu_add {I : xI} {s : xS} {hs : List xS} {sn : Option xS} {tx : Nat → Int} {len : Nat} (hC : CI I s hs sn tx len) (hg : CG s hs sn tx len) (z : Int) (hz : -2147483648 ≤ z ∧ z ≤ 2147483647) : S kX4_add 5 [rr 0, ii z] I (q_i (fun ans I1 => ans = (oAdd s z).1 ∧ CI I1 (nxS s (oAdd s z)) (nxH s hs (oAdd s z)) sn tx len ∧ FX I I1)) := by
  refine Sp_intro (by decide +kernel) (Nat.le_of_ble_eq_true rfl) ?_
  show Y kX4_add 5 0 [some (rr 0), some (ii z)] [] I _
  refine X_aload dX4_add_0 rfl ?_
  refine X_getR dX4_add_1 rfl gf_X4_16 sh_0 (by decide) rfl rf_0_1 ?_
  refine X_aload dX4_add_4 rfl ?_
  refine X_getR dX4_add_5 rfl gf_X4_10 sh_0 (by decide) rfl rf_0_0 ?_
  refine Y_vV dX4_add_8 cv_X4_47 sh_12 (by decide) (t_copyFrom st12 st1 (by decide) hC.2.1 hg.1.1.n24) rfl (fun I8 h8 => ?_)
  have hC8 := hC.sc h8.2.sf
  have hR8 := h8.1
  refine X_aload dX4_add_11 rfl ?_
  refine X_aload dX4_add_12 rfl ?_
  refine X_getR dX4_add_13 rfl gf_X4_16 sh_0 (by decide) rfl rf_0_1 ?_
  refine X_iload dX4_add_16 rfl ?_
  refine Y_iV dX4_add_17 cv_X4_51 sh_12 (by decide) (w_add hR8 hg.1 z hz) rfl (fun z1 I1 h1 => ?_)
  obtain ⟨rfl, hF1, hRR⟩ := h1
  have hok := oAdd_ok hg.1 z
  have hC1 := hC8.sc hF1.sf
  refine Y_iV dX4_add_20 cv_X4_55 sh_0 (by decide) (t_settle hC1 hg (oAdd s z) hok.1 (fun q => ⟨hRR q, (hok.2 q).1.n24⟩)) rfl (fun z2 I2 h2 => ?_)
  exact X_iret dX4_add_23 (Or.inl rfl) ⟨rfl, rfl, _, rfl, h2.1, h2.2.1, (h8.2.sf.trans hF1.sf).fx.trans h2.2.2⟩
set_option maxRecDepth 20000 in
set_option maxHeartbeats 4000000 in
theorem pu_remove {I : xI} {s : xS} {hs : List xS} {sn : Option xS} {tx : Nat → Int} {len : Nat} (hC : CI I s hs sn tx len) (hg : CG s hs sn tx len) (b : Int) (hb : -2147483648 ≤ b ∧ b ≤ 2147483647) : S kX4_remove 5 [rr 0, ii b] I (q_i (fun ans I1 => ans = (oRem s b).1 ∧ CI I1 (nxS s (oRem s b)) (nxH s hs (oRem s b)) sn tx len ∧ FX I I1)) := by
  refine Sp_intro (by decide +kernel) (Nat.le_of_ble_eq_true rfl) ?_
  show Y kX4_remove 5 0 [some (rr 0), some (ii b)] [] I _
  refine X_aload dX4_remove_0 rfl ?_
  refine X_getR dX4_remove_1 rfl gf_X4_16 sh_0 (by decide) rfl rf_0_1 ?_
  refine X_aload dX4_remove_4 rfl ?_
  refine X_getR dX4_remove_5 rfl gf_X4_10 sh_0 (by decide) rfl rf_0_0 ?_
  refine Y_vV dX4_remove_8 cv_X4_47 sh_12 (by decide) (t_copyFrom st12 st1 (by decide) hC.2.1 hg.1.1.n24) rfl (fun I8 h8 => ?_)
  have hC8 := hC.sc h8.2.sf
  have hR8 := h8.1
  refine X_aload dX4_remove_11 rfl ?_
  refine X_aload dX4_remove_12 rfl ?_
  refine X_getR dX4_remove_13 rfl gf_X4_16 sh_0 (by decide) rfl rf_0_1 ?_
  refine X_iload dX4_remove_16 rfl ?_
  refine Y_iV dX4_remove_17 cv_X4_58 sh_12 (by decide) (w_rem hR8 hg.1 b hb) rfl (fun z1 I1 h1 => ?_)
  obtain ⟨rfl, hF1, hRR⟩ := h1
  have hok := oRem_ok hg.1 b
  have hC1 := hC8.sc hF1.sf
  refine Y_iV dX4_remove_20 cv_X4_55 sh_0 (by decide) (t_settle hC1 hg (oRem s b) hok.1 (fun q => ⟨hRR q, (hok.2 q).1.n24⟩)) rfl (fun z2 I2 h2 => ?_)
  exact X_iret dX4_remove_23 (Or.inl rfl) ⟨rfl, rfl, _, rfl, h2.1, h2.2.1, (h8.2.sf.trans hF1.sf).fx.trans h2.2.2⟩
set_option maxRecDepth 20000 in
set_option maxHeartbeats 4000000 in
theorem pu_read {I : xI} {s : xS} {hs : List xS} {sn : Option xS} {tx : Nat → Int} {len : Nat} (hC : CI I s hs sn tx len) (hg : CG s hs sn tx len) (b : Int) (hb : -2147483648 ≤ b ∧ b ≤ 2147483647) (t : Int) (ht : -2147483648 ≤ t ∧ t ≤ 2147483647) : S kX4_read 5 [rr 0, ii b, ii t] I (q_i (fun ans I1 => ans = (oRead s b t).1 ∧ CI I1 (nxS s (oRead s b t)) (nxH s hs (oRead s b t)) sn tx len ∧ FX I I1)) := by
  refine Sp_intro (by decide +kernel) (Nat.le_of_ble_eq_true rfl) ?_
  show Y kX4_read 5 0 [some (rr 0), some (ii b), some (ii t)] [] I _
  refine X_aload dX4_read_0 rfl ?_
  refine X_getR dX4_read_1 rfl gf_X4_16 sh_0 (by decide) rfl rf_0_1 ?_
  refine X_aload dX4_read_4 rfl ?_
  refine X_getR dX4_read_5 rfl gf_X4_10 sh_0 (by decide) rfl rf_0_0 ?_
  refine Y_vV dX4_read_8 cv_X4_47 sh_12 (by decide) (t_copyFrom st12 st1 (by decide) hC.2.1 hg.1.1.n24) rfl (fun I8 h8 => ?_)
  have hC8 := hC.sc h8.2.sf
  have hR8 := h8.1
  refine X_aload dX4_read_11 rfl ?_
  refine X_aload dX4_read_12 rfl ?_
  refine X_getR dX4_read_13 rfl gf_X4_16 sh_0 (by decide) rfl rf_0_1 ?_
  refine X_iload dX4_read_16 rfl ?_
  refine X_iload dX4_read_17 rfl ?_
  refine Y_iV dX4_read_18 cv_X4_61 sh_12 (by decide) (w_read hR8 hg.1 b hb t ht) rfl (fun z1 I1 h1 => ?_)
  obtain ⟨rfl, hF1, hRR⟩ := h1
  have hok := oRead_ok hg.1 b t
  have hC1 := hC8.sc hF1.sf
  refine Y_iV dX4_read_21 cv_X4_55 sh_0 (by decide) (t_settle hC1 hg (oRead s b t) hok.1 (fun q => ⟨hRR q, (hok.2 q).1.n24⟩)) rfl (fun z2 I2 h2 => ?_)
  exact X_iret dX4_read_24 (Or.inl rfl) ⟨rfl, rfl, _, rfl, h2.1, h2.2.1, (h8.2.sf.trans hF1.sf).fx.trans h2.2.2⟩
set_option maxRecDepth 20000 in
set_option maxHeartbeats 4000000 in
theorem pu_pin {I : xI} {s : xS} {hs : List xS} {sn : Option xS} {tx : Nat → Int} {len : Nat} (hC : CI I s hs sn tx len) (hg : CG s hs sn tx len) (b : Int) (hb : -2147483648 ≤ b ∧ b ≤ 2147483647) (p : Int) (hp : p = 0 ∨ p = 1) : S kX4_pin 5 [rr 0, ii b, ii p] I (q_i (fun ans I1 => ans = (oPin s b p).1 ∧ CI I1 (nxS s (oPin s b p)) (nxH s hs (oPin s b p)) sn tx len ∧ FX I I1)) := by
  refine Sp_intro (by decide +kernel) (Nat.le_of_ble_eq_true rfl) ?_
  show Y kX4_pin 5 0 [some (rr 0), some (ii b), some (ii p)] [] I _
  refine X_aload dX4_pin_0 rfl ?_
  refine X_getR dX4_pin_1 rfl gf_X4_16 sh_0 (by decide) rfl rf_0_1 ?_
  refine X_aload dX4_pin_4 rfl ?_
  refine X_getR dX4_pin_5 rfl gf_X4_10 sh_0 (by decide) rfl rf_0_0 ?_
  refine Y_vV dX4_pin_8 cv_X4_47 sh_12 (by decide) (t_copyFrom st12 st1 (by decide) hC.2.1 hg.1.1.n24) rfl (fun I8 h8 => ?_)
  have hC8 := hC.sc h8.2.sf
  have hR8 := h8.1
  refine X_aload dX4_pin_11 rfl ?_
  refine X_aload dX4_pin_12 rfl ?_
  refine X_getR dX4_pin_13 rfl gf_X4_16 sh_0 (by decide) rfl rf_0_1 ?_
  refine X_iload dX4_pin_16 rfl ?_
  refine X_iload dX4_pin_17 rfl ?_
  refine Y_iV dX4_pin_18 cv_X4_65 sh_12 (by decide) (w_pin hR8 hg.1 b hb p hp) rfl (fun z1 I1 h1 => ?_)
  obtain ⟨rfl, hF1, hRR⟩ := h1
  have hok := oPin_ok hg.1 b p hp
  have hC1 := hC8.sc hF1.sf
  refine Y_iV dX4_pin_21 cv_X4_55 sh_0 (by decide) (t_settle hC1 hg (oPin s b p) hok.1 (fun q => ⟨hRR q, (hok.2 q).1.n24⟩)) rfl (fun z2 I2 h2 => ?_)
  exact X_iret dX4_pin_24 (Or.inl rfl) ⟨rfl, rfl, _, rfl, h2.1, h2.2.1, (h8.2.sf.trans hF1.sf).fx.trans h2.2.2⟩
set_option maxRecDepth 20000 in
set_option maxHeartbeats 4000000 in
theorem pu_pass {I : xI} {s : xS} {hs : List xS} {sn : Option xS} {tx : Nat → Int} {len : Nat} (hC : CI I s hs sn tx len) (hg : CG s hs sn tx len) (t : Int) (ht : -2147483648 ≤ t ∧ t ≤ 2147483647) : S kX4_pass 6 [rr 0, ii t] I (q_i (fun ans I1 => ans = (oPass s t).1 ∧ CI I1 (nxS s (oPass s t)) (nxH s hs (oPass s t)) sn tx len ∧ FX I I1)) := by
  refine Sp_intro (by decide +kernel) (Nat.le_of_ble_eq_true rfl) ?_
  show Y kX4_pass 6 0 [some (rr 0), some (ii t)] [] I _
  refine X_aload dX4_pass_0 rfl ?_
  refine X_getR dX4_pass_1 rfl gf_X4_16 sh_0 (by decide) rfl rf_0_1 ?_
  refine X_aload dX4_pass_4 rfl ?_
  refine X_getR dX4_pass_5 rfl gf_X4_10 sh_0 (by decide) rfl rf_0_0 ?_
  refine Y_vV dX4_pass_8 cv_X4_47 sh_12 (by decide) (t_copyFrom st12 st1 (by decide) hC.2.1 hg.1.1.n24) rfl (fun I8 h8 => ?_)
  have hC8 := hC.sc h8.2.sf
  have hR8 := h8.1
  refine X_aload dX4_pass_11 rfl ?_
  refine X_aload dX4_pass_12 rfl ?_
  refine X_iload dX4_pass_13 rfl ?_
  refine Y_iV dX4_pass_14 cv_X4_69 sh_0 (by decide) (w_pass hR8 hg.1 t ht) rfl (fun z1 I1 h1 => ?_)
  obtain ⟨rfl, hF1, hRR⟩ := h1
  have hok := oPass_ok hg.1 t
  have hC1 := hC8.sc hF1.sf
  refine Y_iV dX4_pass_17 cv_X4_55 sh_0 (by decide) (t_settle hC1 hg (oPass s t) hok.1 (fun q => ⟨hRR q, (hok.2 q).1.n24⟩)) rfl (fun z2 I2 h2 => ?_)
  exact X_iret dX4_pass_20 (Or.inl rfl) ⟨rfl, rfl, _, rfl, h2.1, h2.2.1, (h8.2.sf.trans hF1.sf).fx.trans h2.2.2⟩
set_option maxRecDepth 20000 in
set_option maxHeartbeats 4000000 in
theorem pu_set {I : xI} {s : xS} {hs : List xS} {sn : Option xS} {tx : Nat → Int} {len : Nat} (hC : CI I s hs sn tx len) (hg : CG s hs sn tx len) (a : Int) (ha : -2147483648 ≤ a ∧ a ≤ 2147483647) (v : Int) (hv : -2147483648 ≤ v ∧ v ≤ 2147483647) : S kX4_set 5 [rr 0, ii a, ii v] I (q_i (fun ans I1 => ans = (oSet s a v).1 ∧ CI I1 (nxS s (oSet s a v)) (nxH s hs (oSet s a v)) sn tx len ∧ FX I I1)) := by
  refine Sp_intro (by decide +kernel) (Nat.le_of_ble_eq_true rfl) ?_
  show Y kX4_set 5 0 [some (rr 0), some (ii a), some (ii v)] [] I _
  refine X_aload dX4_set_0 rfl ?_
  refine X_getR dX4_set_1 rfl gf_X4_16 sh_0 (by decide) rfl rf_0_1 ?_
  refine X_aload dX4_set_4 rfl ?_
  refine X_getR dX4_set_5 rfl gf_X4_10 sh_0 (by decide) rfl rf_0_0 ?_
  refine Y_vV dX4_set_8 cv_X4_47 sh_12 (by decide) (t_copyFrom st12 st1 (by decide) hC.2.1 hg.1.1.n24) rfl (fun I8 h8 => ?_)
  have hC8 := hC.sc h8.2.sf
  have hR8 := h8.1
  refine X_aload dX4_set_11 rfl ?_
  refine X_aload dX4_set_12 rfl ?_
  refine X_getR dX4_set_13 rfl gf_X4_16 sh_0 (by decide) rfl rf_0_1 ?_
  refine X_iload dX4_set_16 rfl ?_
  refine X_iload dX4_set_17 rfl ?_
  refine Y_iV dX4_set_18 cv_X4_72 sh_12 (by decide) (w_set hR8 hg.1 hC8.1 a ha v hv) rfl (fun z1 I1 h1 => ?_)
  obtain ⟨rfl, hF1, hRR⟩ := h1
  have hok := oSet_ok hg.1 a v
  have hC1 := hC8.sc hF1.sf
  refine Y_iV dX4_set_21 cv_X4_55 sh_0 (by decide) (t_settle hC1 hg (oSet s a v) hok.1 (fun q => ⟨hRR q, (hok.2 q).1.n24⟩)) rfl (fun z2 I2 h2 => ?_)
  exact X_iret dX4_set_24 (Or.inl rfl) ⟨rfl, rfl, _, rfl, h2.1, h2.2.1, (h8.2.sf.trans hF1.sf).fx.trans h2.2.2⟩
end
section
/-! HeatShelves: texts, history -/
set_option maxRecDepth 20000 in
set_option maxHeartbeats 4000000 in
theorem pu_undo0 {I : xI} {s : xS} {sn : Option xS} {tx : Nat → Int} {len : Nat} (hC : CI I s [] sn tx len) : S kX4_undo 4 [rr 0] I (q_i (fun ans I1 => ans = -5 ∧ CI I1 s [] sn tx len ∧ FX I I1)) := by
  refine Sp_intro (by decide +kernel) (Nat.le_of_ble_eq_true rfl) ?_
  show Y kX4_undo 4 0 [some (rr 0)] [] I _
  refine X_aload dX4_undo_0 rfl ?_
  refine X_getR dX4_undo_1 rfl gf_X4_29 sh_0 (by decide) rfl rf_0_4 ?_
  refine X_aload dX4_undo_4 rfl ?_
  refine X_getR dX4_undo_5 rfl gf_X4_10 sh_0 (by decide) rfl rf_0_0 ?_
  refine Y_iV dX4_undo_8 cv_X4_93 sh_34 (by decide) (t_take0 hC.2.2.1) rfl (fun z8 I8 h8 => ?_)
  obtain ⟨rfl, rfl⟩ := h8
  refine X_if_ne (tgt := 17) dX4_undo_11 (by decide) (by decide) (fun c_11 => absurd rfl c_11) (fun c_11 => ?_)
  refine X_bipush dX4_undo_14 (by decide) ?_
  refine X_iret dX4_undo_16 (Or.inl rfl) ?_
  exact ⟨rfl, rfl, _, rfl, rfl, hC, fun _ _ => rfl⟩
set_option maxRecDepth 20000 in
set_option maxHeartbeats 4000000 in
theorem pu_restore0 {I : xI} {s : xS} {hs : List xS} {tx : Nat → Int} {len : Nat} (hC : CI I s hs none tx len) : S kX4_restore 5 [rr 0] I (q_i (fun ans I1 => ans = -5 ∧ CI I1 s hs none tx len ∧ FX I I1)) := by
  refine Sp_intro (by decide +kernel) (Nat.le_of_ble_eq_true rfl) ?_
  show Y kX4_restore 5 0 [some (rr 0)] [] I _
  refine X_aload dX4_restore_0 rfl ?_
  refine X_getI dX4_restore_1 rfl gf_X4_22 sh_0 (by decide) rfl ?_
  rw [show I 0 3 = 0 from hC.2.2.2.1]
  refine X_if_ne (tgt := 10) dX4_restore_4 (by decide) (by decide) (fun c_4 => absurd rfl c_4) (fun c_4 => ?_)
  refine X_bipush dX4_restore_7 (by decide) ?_
  refine X_iret dX4_restore_9 (Or.inl rfl) ?_
  exact ⟨rfl, rfl, _, rfl, rfl, hC, fun _ _ => rfl⟩
end
section
/-! HeatShelves: what it is asked -/
theorem py_gb {g : Nat → Int} {n k j : Nat} : ∀ s, gb (pyF g n s) k j = gb g k j
  | 0 => gN_gb (by decide)
  | s + 1 => (gN_gb (by decide)).trans (py_gb s)
theorem py_num {g : Nat → Int} {n j : Nat} (h17 : j ≠ 17) (h18 : j ≠ 18) : ∀ s, pyF g n s j = g j
  | 0 => by unfold pyF; rw [gN_num, if_neg h17]
  | s + 1 => by unfold pyF; rw [gN_num, if_neg h18]; exact py_num h17 h18 s
theorem py_on {g : Nat → Int} {n : Nat} {sh : Int} {w : Nat} (hw : w < 8) (s : Nat) : onF (pyF g n s) n sh w = onF g n sh w := on_congr hw (fun k _ => ⟨py_gb s, py_gb s⟩)
theorem py18 {g : Nat → Int} {n : Nat} (s : Nat) (hs : s < 3) : pyF g n (s + 1) 18 = pyF g n s 18 + onF g n s 1 * g (9 + s) := by
  show gN _ 18 _ 18 = _
  rw [gN_num, if_pos rfl, py_on (by decide), py_num (j := 9 + s) (by omega) (by omega)]
theorem cost_bounds {g : Nat → Int} {n : Nat} (h : GI g n) {s : Nat} (hs : s < 3) : 0 ≤ onF g n s 1 * g (9 + s) ∧ onF g n s 1 * g (9 + s) ≤ 10800 := by
  have h1 := on_bounds h s
  have h2 := h.s9 (j := s) (by omega)
  have a := Int.mul_nonneg h1.1 h2.1
  have b := Int.mul_le_mul h1.2 h2.2 h2.1 (by omega)
  omega
theorem py18_all {g : Nat → Int} {n : Nat} : pyF g n 3 18 = g 18 + onF g n (0 : Nat) 1 * g 9 + onF g n (1 : Nat) 1 * g 10 + onF g n (2 : Nat) 1 * g 11 := by
  rw [py18 2 (by decide), py18 1 (by decide), py18 0 (by decide)]
  show gN g 17 (g 17 + 1) 18 + _ + _ + _ = _
  rw [gN_num, if_neg (by decide)]
theorem nt18 {g : Nat → Int} {n : Nat} {most : Int} : (ntU g n most).1 18 = pyF g n 3 18 := by
  unfold ntU ntD
  rw [tn_num (by decide), tn_num (by decide)]
  unfold nt1
  rw [fd_num (by decide)]
theorem ns18 {g : Nat → Int} {n : Nat} {most : Int} (h : GI g n) : ∀ i : Nat, 0 ≤ nsG g n most i 18 - g 18 ∧ nsG g n most i 18 - g 18 ≤ 32400 * i
  | 0 => by show 0 ≤ g 18 - g 18 ∧ g 18 - g 18 ≤ 32400 * ((0 : Nat) : Int); omega
  | i + 1 => by
    have h1 := ns18 (most := most) h i
    have h2 := h.ns most i
    have c0 := cost_bounds h2 (s := 0) (by decide)
    have c1 := cost_bounds h2 (s := 1) (by decide)
    have c2 := cost_bounds h2 (s := 2) (by decide)
    show 0 ≤ (ntU (nsG g n most i) n most).1 18 - g 18 ∧ (ntU (nsG g n most i) n most).1 18 - g 18 ≤ 32400 * ((i + 1 : Nat) : Int)
    rw [nt18, py18_all]
    simp only [Nat.add_zero, Nat.reduceAdd] at c0 c1 c2
    omega
def pwH (s : xS) (hot : Int) (t : Nat) : Int := npG (gN s.1 1 hot) s.2 t 18 - s.1 18
theorem GI.hot {g : Nat → Int} {n : Nat} (h : GI g n) {z : Int} (hz : 0 ≤ z ∧ z ≤ 20000) : GI (gN g 1 z) n := h.setN (by decide) ⟨by decide, fun q => absurd q (by decide), fun _ => hz, fun q => absurd q (by decide), fun q => absurd q (by decide), fun q => absurd q (by decide), fun q => absurd q (by decide), fun q => absurd q (by decide), fun q => absurd q (by decide), fun q => absurd q (by decide)⟩
theorem np18 {g : Nat → Int} {n i : Nat} : npG g n i 18 = nsG g n (g 3) i 18 := by unfold npG; rw [gN_num, if_neg (by decide)]
theorem pwH_bounds {s : xS} (h : SG s) {hot : Int} (hh : 0 ≤ hot ∧ hot ≤ 20000) (t : Nat) : 0 ≤ pwH s hot t ∧ pwH s hot t ≤ 32400 * t := by
  have h1 := ns18 (most := gN s.1 1 hot 3) (h.1.hot hh) t
  unfold pwH
  rw [np18]
  rw [show gN s.1 1 hot 18 = s.1 18 from rfl] at h1
  exact h1
def hbF (s : xS) (t : Nat) : Nat → Option (Int × Int)
  | 0 => none
  | i + 1 => if 500 * (i : Int) < s.1 2 then hbF s t i else match hbF s t i with
    | none => some (500 * (i : Int), pwH s (500 * (i : Int)) t)
    | some (b, l) => if pwH s (500 * (i : Int)) t < l then some (500 * (i : Int), pwH s (500 * (i : Int)) t) else some (b, l)
theorem hbF_ok {s : xS} (h : SG s) {t : Nat} (ht : t ≤ 20) : ∀ {i : Nat}, i ≤ 41 → ∀ {b l : Int}, hbF s t i = some (b, l) → 0 ≤ b ∧ b ≤ 20000 ∧ 0 ≤ l ∧ l ≤ 648000
  | 0, _, b, l, e => by cases e
  | i + 1, hi, b, l, e => by
    have hp := pwH_bounds h (hot := 500 * (i : Int)) (by omega) t
    unfold hbF at e
    split at e
    · exact hbF_ok h ht (by omega) e
    · split at e
      · cases e; omega
      · rename_i b1 l1 h1
        split at e
        · cases e; omega
        · cases e; exact hbF_ok h ht (by omega) h1
theorem hbF_someK {s : xS} (t i : Nat) (h2 : s.1 2 ≤ 500 * (i : Int)) : ∃ q, hbF s t (i + 1) = some q := by
  unfold hbF
  rw [if_neg (by omega)]
  split
  · exact ⟨_, rfl⟩
  · split <;> exact ⟨_, rfl⟩
theorem hbF_some {s : xS} (h : SG s) (t : Nat) : ∃ q, hbF s t 41 = some q := hbF_someK t 40 (by have h2 := h.1.s2; have e : ((40 : Nat) : Int) = 40 := rfl; rw [e]; omega)
def nvG (s : xS) : Nat → (Nat → Int)
  | 0 => s.1
  | k + 1 => npG (nvG s k) s.2 1
theorem GI.nv {s : xS} (h : GI s.1 s.2) : ∀ k, GI (nvG s k) s.2
  | 0 => h
  | k + 1 => (GI.nv h k).np 1
def nvM (s : xS) (k : Nat) : Int := nsM (nvG s k) s.2 (nvG s k 3) 1
def nxM (s : xS) : Nat → Nat → Int
  | 0, _ => -5
  | m + 1, k => if 0 < nvM s k then ((k + 1 : Nat) : Int) else nxM s m (k + 1)
def qBlock (s : xS) (r : Int) : Int := if r < 0 then -2 else match rk s.1 s.2 r with
  | none => -5
  | some k => gb s.1 k 0
def qOf (s : xS) (b w : Int) : Int := match pl s.1 s.2 b with
  | none => -1
  | some k => if w = 0 then gb s.1 k 1 else if w = 1 then gb s.1 k 2 else if w = 2 then gb s.1 k 3 else if w = 3 then wt s.1 k else if w = 4 then gb s.1 k 4 else if w = 5 then gb s.1 k 5 else if w = 6 then gb s.1 k 6 else if w = 7 then gb s.1 k 7 else if w = 8 then (ntU s.1 s.2 (s.1 3)).2.1 k else -2
def qShelf (s : xS) (sh w : Int) : Int := if sh < 0 ∨ 3 ≤ sh then -1 else if w = 0 then s.1 (6 + sh.toNat) else if w = 1 then onF s.1 s.2 sh 1 else if w = 2 then onF s.1 s.2 sh 0 else if w = 3 then onF s.1 s.2 sh 2 else if w = 4 then onF s.1 s.2 sh 1 * s.1 (9 + sh.toNat) else -2
def qTotal (s : xS) (hl len : Nat) (w : Int) : Int := if 0 ≤ w ∧ w < 23 then s.1 w.toNat else if w = 23 then pins s.1 s.2 else if w = 24 then htA s.1 s.2 else if w = 25 then (hl : Int) else if w = 26 then (len : Int) else -2
def qIf (s : xS) (t w : Int) : Int := if t < 1 ∨ 99 < t ∨ w < 0 ∨ 5 < w then -2 else if w = 0 then npG s.1 s.2 t.toNat 18 - s.1 18 else if w = 1 then nsM s.1 s.2 (s.1 3) t.toNat else if w = 2 then htA (npG s.1 s.2 t.toNat) s.2 else onF (npG s.1 s.2 t.toNat) s.2 (w - 3) 1
def qNext (s : xS) : Int := nxM s 99 0
def qHot (s : xS) (t w : Int) : Int := if t < 1 ∨ 20 < t ∨ w < 0 ∨ 1 < w then -2 else match hbF s t.toNat 41 with
  | none => -5
  | some (b, l) => if w = 0 then b else l
set_option maxRecDepth 20000 in
set_option maxHeartbeats 4000000 in
theorem pu_block {I : xI} {s : xS} {hs : List xS} {sn : Option xS} {tx : Nat → Int} {len : Nat} (hC : CI I s hs sn tx len) (hg : CG s hs sn tx len) (r : Int) (hr : -2147483648 ≤ r ∧ r ≤ 2147483647) : S kX4_block 4 [rr 0, ii r] I (q_p (ii (qBlock s r)) I) := by
  refine Sp_intro (by decide +kernel) (Nat.le_of_ble_eq_true rfl) ?_
  show Y kX4_block 4 0 [some (rr 0), some (ii r), none] [] I _
  rcases hp : rk s.1 s.2 r with _ | k
  · have hfd := t_placeOfRank st1 hC.2.1 hg.1.1 r hr
    rw [hp] at hfd
    change S _ _ _ _ (q_p (ii (-1)) I) at hfd
    refine X_iload dX4_block_0 rfl ?_
    refine X_if_ge (tgt := 7) dX4_block_1 (by decide) (by omega) (fun c_1 => ?_) (fun c_1 => ?_)
    · refine X_aload dX4_block_7 rfl ?_
      refine X_getR dX4_block_8 rfl gf_X4_10 sh_0 (by decide) rfl rf_0_0 ?_
      refine X_iload dX4_block_11 rfl ?_
      refine Y_pV dX4_block_12 cv_X4_101 sh_1 (by decide) hfd rfl ?_
      refine X_istore dX4_block_15 (by decide) ?_
      dsimp only [List.set]
      refine X_iload dX4_block_16 rfl ?_
      refine X_iconst dX4_block_17 ?_
      refine X_icmp_ne (tgt := 26) dX4_block_18 (by decide) (by omega) (fun c_18 => absurd c_18 (by omega)) (fun c_18 => ?_)
      refine X_bipush dX4_block_21 (by decide) ?_
      refine X_goto (tgt := 37) dX4_block_23 (by decide) ?_
      refine X_iret dX4_block_37 (Or.inl rfl) ?_
      exact ⟨by unfold qBlock; rw [if_neg (by omega), hp], rfl, rfl, rfl⟩
    · refine X_bipush dX4_block_4 (by decide) ?_
      refine X_iret dX4_block_6 (Or.inl rfl) ?_
      exact ⟨by unfold qBlock; rw [if_pos (by omega)], rfl, rfl, rfl⟩
  · have hk : k < s.2 := by have := rkF_lt hp; omega
    have h24 := hg.1.1.n24
    have hfd := t_placeOfRank st1 hC.2.1 hg.1.1 r hr
    rw [hp] at hfd
    change S _ _ _ _ (q_p (ii ((k : Nat) : Int)) I) at hfd
    refine X_iload dX4_block_0 rfl ?_
    refine X_if_ge (tgt := 7) dX4_block_1 (by decide) (by omega) (fun c_1 => ?_) (fun c_1 => ?_)
    · refine X_aload dX4_block_7 rfl ?_
      refine X_getR dX4_block_8 rfl gf_X4_10 sh_0 (by decide) rfl rf_0_0 ?_
      refine X_iload dX4_block_11 rfl ?_
      refine Y_pV dX4_block_12 cv_X4_101 sh_1 (by decide) hfd rfl ?_
      refine X_istore dX4_block_15 (by decide) ?_
      dsimp only [List.set]
      refine X_iload dX4_block_16 rfl ?_
      refine X_iconst dX4_block_17 ?_
      refine X_icmp_ne (tgt := 26) dX4_block_18 (by decide) (by omega) (fun c_18 => ?_) (fun c_18 => absurd c_18 (by omega))
      refine X_aload dX4_block_26 rfl ?_
      refine X_getR dX4_block_27 rfl gf_X4_10 sh_0 (by decide) rfl rf_0_0 ?_
      refine X_getR dX4_block_30 rfl gf_X4_104 sh_1 (by decide) rfl rf_1_2 ?_
      refine X_iload dX4_block_33 rfl ?_
      refine Y_pS dX4_block_34 cs_X4_108 (t_blk0 st1 hC.2.1 hg.1.1.n24 k hk rfl) rfl ?_
      refine X_iret dX4_block_37 (Or.inl rfl) ?_
      exact ⟨by unfold qBlock; rw [if_neg (by omega), hp], rfl, rfl, rfl⟩
    · refine X_bipush dX4_block_4 (by decide) ?_
      refine X_iret dX4_block_6 (Or.inl rfl) ?_
      exact ⟨by unfold qBlock; rw [if_pos (by omega)], rfl, rfl, rfl⟩
set_option maxRecDepth 20000 in
set_option maxHeartbeats 4000000 in
theorem pu_why {I : xI} {s : xS} {hs : List xS} {sn : Option xS} {tx : Nat → Int} {len : Nat} (hC : CI I s hs sn tx len) (hg : CG s hs sn tx len) (k : Nat) (hk : k < s.2) {i : Int} (hi : i = (k : Int)) : S kX4_whyItStays 5 [rr 0, ii i] I (q_i (fun ans I1 => ans = (ntU s.1 s.2 (s.1 3)).2.1 k ∧ SF I I1)) := by
  subst hi
  refine Sp_intro (by decide +kernel) (Nat.le_of_ble_eq_true rfl) ?_
  show Y kX4_whyItStays 5 0 [some (rr 0), some (ii (k : Int))] [] I _
  refine X_aload dX4_whyItStays_0 rfl ?_
  refine X_getR dX4_whyItStays_1 rfl gf_X4_16 sh_0 (by decide) rfl rf_0_1 ?_
  refine X_aload dX4_whyItStays_4 rfl ?_
  refine X_getR dX4_whyItStays_5 rfl gf_X4_10 sh_0 (by decide) rfl rf_0_0 ?_
  refine Y_vV dX4_whyItStays_8 cv_X4_47 sh_12 (by decide) (t_copyFrom st12 st1 (by decide) hC.2.1 hg.1.1.n24) rfl (fun I8 h8 => ?_)
  refine X_aload dX4_whyItStays_11 rfl ?_
  refine X_getR dX4_whyItStays_12 rfl gf_X4_36 sh_0 (by decide) rfl rf_0_5 ?_
  refine X_aload dX4_whyItStays_15 rfl ?_
  refine X_getR dX4_whyItStays_16 rfl gf_X4_16 sh_0 (by decide) rfl rf_0_1 ?_
  refine X_iconst dX4_whyItStays_19 ?_
  refine Y_iV dX4_whyItStays_20 cv_X4_166 sh_80 (by decide) (t_letPass st12 h8.1 hg.1.1 1 (by decide)) rfl (fun z20 I20 h20 => ?_)
  refine X_pop dX4_whyItStays_23 ?_
  refine X_aload dX4_whyItStays_24 rfl ?_
  refine X_getR dX4_whyItStays_25 rfl gf_X4_36 sh_0 (by decide) rfl rf_0_5 ?_
  refine X_getR dX4_whyItStays_28 rfl gf_X4_198 sh_80 (by decide) rfl rf_80_1 ?_
  refine X_iload dX4_whyItStays_31 rfl ?_
  refine Y_pS dX4_whyItStays_32 cs_X4_108 (t_atk sh_82 (Or.inl (by decide)) _ k (by have := hg.1.1.n24; omega) rfl) rfl ?_
  rw [h20.2.2.2 0 rfl k hk]
  refine X_iret dX4_whyItStays_35 (Or.inl rfl) ?_
  exact ⟨rfl, rfl, _, rfl, rfl, h8.2.sf.trans h20.2.2.1.sf⟩
set_option maxRecDepth 20000 in
set_option maxHeartbeats 4000000 in
theorem pu_ofBlock {I : xI} {s : xS} {hs : List xS} {sn : Option xS} {tx : Nat → Int} {len : Nat} (hC : CI I s hs sn tx len) (hg : CG s hs sn tx len) (b : Int) (hb : -2147483648 ≤ b ∧ b ≤ 2147483647) (w : Int) (hw : -2147483648 ≤ w ∧ w ≤ 2147483647) : S kX4_ofBlock 6 [rr 0, ii b, ii w] I (q_i (fun ans I1 => ans = qOf s b w ∧ SF I I1)) := by
  refine Sp_intro (by decide +kernel) (Nat.le_of_ble_eq_true rfl) ?_
  show Y kX4_ofBlock 6 0 [some (rr 0), some (ii b), some (ii w), none] [] I _
  rcases hp : pl s.1 s.2 b with _ | k
  · have hfd := t_find st1 hC.2.1 hg.1.1 b hb
    rw [hp] at hfd
    change S _ _ _ _ (q_p (ii (-1)) I) at hfd
    refine X_aload dX4_ofBlock_0 rfl ?_
    refine X_getR dX4_ofBlock_1 rfl gf_X4_10 sh_0 (by decide) rfl rf_0_0 ?_
    refine X_iload dX4_ofBlock_4 rfl ?_
    refine Y_pV dX4_ofBlock_5 cv_X4_112 sh_1 (by decide) hfd rfl ?_
    refine X_istore dX4_ofBlock_8 (by decide) ?_
    dsimp only [List.set]
    refine X_iload dX4_ofBlock_9 rfl ?_
    refine X_iconst dX4_ofBlock_10 ?_
    refine X_icmp_ne (tgt := 16) dX4_ofBlock_11 (by decide) (by omega) (fun c_11 => absurd c_11 (by omega)) (fun c_11 => ?_)
    refine X_iconst dX4_ofBlock_14 ?_
    refine X_iret dX4_ofBlock_15 (Or.inl rfl) ?_
    exact ⟨rfl, rfl, _, rfl, by unfold qOf; rw [hp], SF.rf⟩
  · have hk : k < s.2 := by have := pl_lt hp; omega
    have h24 := hg.1.1.n24
    have hfd := t_find st1 hC.2.1 hg.1.1 b hb
    rw [hp] at hfd
    change S _ _ _ _ (q_p (ii ((k : Nat) : Int)) I) at hfd
    refine X_aload dX4_ofBlock_0 rfl ?_
    refine X_getR dX4_ofBlock_1 rfl gf_X4_10 sh_0 (by decide) rfl rf_0_0 ?_
    refine X_iload dX4_ofBlock_4 rfl ?_
    refine Y_pV dX4_ofBlock_5 cv_X4_112 sh_1 (by decide) hfd rfl ?_
    refine X_istore dX4_ofBlock_8 (by decide) ?_
    dsimp only [List.set]
    refine X_iload dX4_ofBlock_9 rfl ?_
    refine X_iconst dX4_ofBlock_10 ?_
    refine X_icmp_ne (tgt := 16) dX4_ofBlock_11 (by decide) (by omega) (fun c_11 => ?_) (fun c_11 => absurd c_11 (by omega))
    refine X_iload dX4_ofBlock_16 rfl ?_
    by_cases w_0 : w = 0
    · refine X_tswIn (v := 0) (tgt := 68) dX4_ofBlock_17 w_0 (by decide) (by decide) (by decide) rfl (by decide) ?_
      refine X_aload dX4_ofBlock_68 rfl ?_
      refine X_getR dX4_ofBlock_69 rfl gf_X4_10 sh_0 (by decide) rfl rf_0_0 ?_
      refine X_getR dX4_ofBlock_72 rfl gf_X4_115 sh_1 (by decide) rfl rf_1_3 ?_
      refine X_iload dX4_ofBlock_75 rfl ?_
      refine Y_pS dX4_ofBlock_76 cs_X4_108 (t_blk1 st1 hC.2.1 hg.1.1.n24 k hk rfl) rfl ?_
      refine X_iret dX4_ofBlock_79 (Or.inl rfl) ?_
      refine ⟨rfl, rfl, _, rfl, ?_, SF.rf⟩
      unfold qOf
      rw [hp]
      dsimp only
      rw [if_pos (by omega)]
    by_cases w_1 : w = 1
    · refine X_tswIn (v := 1) (tgt := 80) dX4_ofBlock_17 w_1 (by decide) (by decide) (by decide) rfl (by decide) ?_
      refine X_aload dX4_ofBlock_80 rfl ?_
      refine X_getR dX4_ofBlock_81 rfl gf_X4_10 sh_0 (by decide) rfl rf_0_0 ?_
      refine X_getR dX4_ofBlock_84 rfl gf_X4_118 sh_1 (by decide) rfl rf_1_4 ?_
      refine X_iload dX4_ofBlock_87 rfl ?_
      refine Y_pS dX4_ofBlock_88 cs_X4_108 (t_blk2 st1 hC.2.1 hg.1.1.n24 k hk rfl) rfl ?_
      refine X_iret dX4_ofBlock_91 (Or.inl rfl) ?_
      refine ⟨rfl, rfl, _, rfl, ?_, SF.rf⟩
      unfold qOf
      rw [hp]
      dsimp only
      rw [if_neg (by omega), if_pos (by omega)]
    by_cases w_2 : w = 2
    · refine X_tswIn (v := 2) (tgt := 92) dX4_ofBlock_17 w_2 (by decide) (by decide) (by decide) rfl (by decide) ?_
      refine X_aload dX4_ofBlock_92 rfl ?_
      refine X_getR dX4_ofBlock_93 rfl gf_X4_10 sh_0 (by decide) rfl rf_0_0 ?_
      refine X_getR dX4_ofBlock_96 rfl gf_X4_121 sh_1 (by decide) rfl rf_1_5 ?_
      refine X_iload dX4_ofBlock_99 rfl ?_
      refine Y_pS dX4_ofBlock_100 cs_X4_108 (t_blk3 st1 hC.2.1 hg.1.1.n24 k hk rfl) rfl ?_
      refine X_iret dX4_ofBlock_103 (Or.inl rfl) ?_
      refine ⟨rfl, rfl, _, rfl, ?_, SF.rf⟩
      unfold qOf
      rw [hp]
      dsimp only
      rw [if_neg (by omega), if_neg (by omega), if_pos (by omega)]
    by_cases w_3 : w = 3
    · refine X_tswIn (v := 3) (tgt := 104) dX4_ofBlock_17 w_3 (by decide) (by decide) (by decide) rfl (by decide) ?_
      refine X_aload dX4_ofBlock_104 rfl ?_
      refine X_getR dX4_ofBlock_105 rfl gf_X4_10 sh_0 (by decide) rfl rf_0_0 ?_
      refine X_iload dX4_ofBlock_108 rfl ?_
      refine Y_pV dX4_ofBlock_109 cv_X4_124 sh_1 (by decide) (t_wantedShelf st1 hC.2.1 hg.1.1 k hk rfl) rfl ?_
      refine X_iret dX4_ofBlock_112 (Or.inl rfl) ?_
      refine ⟨rfl, rfl, _, rfl, ?_, SF.rf⟩
      unfold qOf
      rw [hp]
      dsimp only
      rw [if_neg (by omega), if_neg (by omega), if_neg (by omega), if_pos (by omega)]
    by_cases w_4 : w = 4
    · refine X_tswIn (v := 4) (tgt := 113) dX4_ofBlock_17 w_4 (by decide) (by decide) (by decide) rfl (by decide) ?_
      refine X_aload dX4_ofBlock_113 rfl ?_
      refine X_getR dX4_ofBlock_114 rfl gf_X4_10 sh_0 (by decide) rfl rf_0_0 ?_
      refine X_getR dX4_ofBlock_117 rfl gf_X4_127 sh_1 (by decide) rfl rf_1_6 ?_
      refine X_iload dX4_ofBlock_120 rfl ?_
      refine Y_pS dX4_ofBlock_121 cs_X4_108 (t_blk4 st1 hC.2.1 hg.1.1.n24 k hk rfl) rfl ?_
      refine X_iret dX4_ofBlock_124 (Or.inl rfl) ?_
      refine ⟨rfl, rfl, _, rfl, ?_, SF.rf⟩
      unfold qOf
      rw [hp]
      dsimp only
      rw [if_neg (by omega), if_neg (by omega), if_neg (by omega), if_neg (by omega), if_pos (by omega)]
    by_cases w_5 : w = 5
    · refine X_tswIn (v := 5) (tgt := 125) dX4_ofBlock_17 w_5 (by decide) (by decide) (by decide) rfl (by decide) ?_
      refine X_aload dX4_ofBlock_125 rfl ?_
      refine X_getR dX4_ofBlock_126 rfl gf_X4_10 sh_0 (by decide) rfl rf_0_0 ?_
      refine X_getR dX4_ofBlock_129 rfl gf_X4_130 sh_1 (by decide) rfl rf_1_7 ?_
      refine X_iload dX4_ofBlock_132 rfl ?_
      refine Y_pS dX4_ofBlock_133 cs_X4_108 (t_blk5 st1 hC.2.1 hg.1.1.n24 k hk rfl) rfl ?_
      refine X_iret dX4_ofBlock_136 (Or.inl rfl) ?_
      refine ⟨rfl, rfl, _, rfl, ?_, SF.rf⟩
      unfold qOf
      rw [hp]
      dsimp only
      rw [if_neg (by omega), if_neg (by omega), if_neg (by omega), if_neg (by omega), if_neg (by omega), if_pos (by omega)]
    by_cases w_6 : w = 6
    · refine X_tswIn (v := 6) (tgt := 137) dX4_ofBlock_17 w_6 (by decide) (by decide) (by decide) rfl (by decide) ?_
      refine X_aload dX4_ofBlock_137 rfl ?_
      refine X_getR dX4_ofBlock_138 rfl gf_X4_10 sh_0 (by decide) rfl rf_0_0 ?_
      refine X_getR dX4_ofBlock_141 rfl gf_X4_133 sh_1 (by decide) rfl rf_1_8 ?_
      refine X_iload dX4_ofBlock_144 rfl ?_
      refine Y_pS dX4_ofBlock_145 cs_X4_108 (t_blk6 st1 hC.2.1 hg.1.1.n24 k hk rfl) rfl ?_
      refine X_iret dX4_ofBlock_148 (Or.inl rfl) ?_
      refine ⟨rfl, rfl, _, rfl, ?_, SF.rf⟩
      unfold qOf
      rw [hp]
      dsimp only
      rw [if_neg (by omega), if_neg (by omega), if_neg (by omega), if_neg (by omega), if_neg (by omega), if_neg (by omega), if_pos (by omega)]
    by_cases w_7 : w = 7
    · refine X_tswIn (v := 7) (tgt := 149) dX4_ofBlock_17 w_7 (by decide) (by decide) (by decide) rfl (by decide) ?_
      refine X_aload dX4_ofBlock_149 rfl ?_
      refine X_getR dX4_ofBlock_150 rfl gf_X4_10 sh_0 (by decide) rfl rf_0_0 ?_
      refine X_getR dX4_ofBlock_153 rfl gf_X4_136 sh_1 (by decide) rfl rf_1_9 ?_
      refine X_iload dX4_ofBlock_156 rfl ?_
      refine Y_pS dX4_ofBlock_157 cs_X4_108 (t_blk7 st1 hC.2.1 hg.1.1.n24 k hk rfl) rfl ?_
      refine X_iret dX4_ofBlock_160 (Or.inl rfl) ?_
      refine ⟨rfl, rfl, _, rfl, ?_, SF.rf⟩
      unfold qOf
      rw [hp]
      dsimp only
      rw [if_neg (by omega), if_neg (by omega), if_neg (by omega), if_neg (by omega), if_neg (by omega), if_neg (by omega), if_neg (by omega), if_pos (by omega)]
    by_cases w_8 : w = 8
    · refine X_tswIn (v := 8) (tgt := 161) dX4_ofBlock_17 w_8 (by decide) (by decide) (by decide) rfl (by decide) ?_
      refine X_aload dX4_ofBlock_161 rfl ?_
      refine X_iload dX4_ofBlock_162 rfl ?_
      refine Y_iV dX4_ofBlock_163 cv_X4_139 sh_0 (by decide) (pu_why hC hg k hk rfl) rfl (fun z163 I163 h163 => ?_)
      refine X_iret dX4_ofBlock_166 (Or.inl rfl) ?_
      refine ⟨rfl, rfl, _, rfl, ?_, h163.2⟩
      unfold qOf
      rw [hp, h163.1]
      dsimp only
      rw [if_neg (by omega), if_neg (by omega), if_neg (by omega), if_neg (by omega), if_neg (by omega), if_neg (by omega), if_neg (by omega), if_neg (by omega), if_pos (by omega)]
    refine X_tswOut (tgt := 167) dX4_ofBlock_17 (by omega) (by omega) (by decide) ?_
    refine X_bipush dX4_ofBlock_167 (by decide) ?_
    refine X_iret dX4_ofBlock_169 (Or.inl rfl) ?_
    refine ⟨rfl, rfl, _, rfl, ?_, SF.rf⟩
    unfold qOf
    rw [hp]
    dsimp only
    rw [if_neg (by omega), if_neg (by omega), if_neg (by omega), if_neg (by omega), if_neg (by omega), if_neg (by omega), if_neg (by omega), if_neg (by omega), if_neg (by omega)]
set_option maxRecDepth 20000 in
set_option maxHeartbeats 4000000 in
theorem pu_shelf {I : xI} {s : xS} {hs : List xS} {sn : Option xS} {tx : Nat → Int} {len : Nat} (hC : CI I s hs sn tx len) (hg : CG s hs sn tx len) (sh : Int) (hsh : -2147483648 ≤ sh ∧ sh ≤ 2147483647) (w : Int) (hw : -2147483648 ≤ w ∧ w ≤ 2147483647) : S kX4_shelf 3 [rr 0, ii sh, ii w] I (q_p (ii (qShelf s sh w)) I) := by
  refine Sp_intro (by decide +kernel) (Nat.le_of_ble_eq_true rfl) ?_
  show Y kX4_shelf 3 0 [some (rr 0), some (ii sh), some (ii w)] [] I _
  refine X_iload dX4_shelf_0 rfl ?_
  refine X_if_lt (tgt := 9) dX4_shelf_1 (by decide) (by omega) (fun c_1 => ?_) (fun c_1 => ?_)
  · refine X_iconst dX4_shelf_9 ?_
    refine X_iret dX4_shelf_10 (Or.inl rfl) ?_
    exact ⟨by unfold qShelf; rw [if_pos (by omega)], rfl, rfl, rfl⟩
  · refine X_iload dX4_shelf_4 rfl ?_
    refine X_iconst dX4_shelf_5 ?_
    refine X_icmp_lt (tgt := 11) dX4_shelf_6 (by decide) (by omega) (fun c_6 => ?_) (fun c_6 => ?_)
    · refine X_iload dX4_shelf_11 rfl ?_
      obtain ⟨u, rfl⟩ := Int.eq_ofNat_of_zero_le (show 0 ≤ sh by omega)
      have eu : (u : Int).toNat = u := rfl
      by_cases w_0 : w = 0
      · refine X_tswIn (v := 0) (tgt := 48) dX4_shelf_12 w_0 (by decide) (by decide) (by decide) rfl (by decide) ?_
        refine X_aload dX4_shelf_48 rfl ?_
        refine X_getR dX4_shelf_49 rfl gf_X4_10 sh_0 (by decide) rfl rf_0_0 ?_
        refine X_getR dX4_shelf_52 rfl gf_X4_142 sh_1 (by decide) rfl rf_1_0 ?_
        refine X_bipush dX4_shelf_55 (by decide) ?_
        refine X_iload dX4_shelf_57 rfl ?_
        refine X_iadd dX4_shelf_58 ?_
        refine Y_pS dX4_shelf_59 cs_X4_108 (t_num st1 hC.2.1 (6 + u) (by omega) (by omega)) rfl ?_
        refine X_iret dX4_shelf_62 (Or.inl rfl) ?_
        refine ⟨?_, rfl, rfl, rfl⟩
        unfold qShelf
        rw [if_neg (by omega), if_pos (by omega)]
        try rfl
      by_cases w_1 : w = 1
      · refine X_tswIn (v := 1) (tgt := 63) dX4_shelf_12 w_1 (by decide) (by decide) (by decide) rfl (by decide) ?_
        refine X_aload dX4_shelf_63 rfl ?_
        refine X_getR dX4_shelf_64 rfl gf_X4_10 sh_0 (by decide) rfl rf_0_0 ?_
        refine X_getR dX4_shelf_67 rfl gf_X4_145 sh_1 (by decide) rfl rf_1_1 ?_
        refine X_iload dX4_shelf_70 rfl ?_
        refine Y_pS dX4_shelf_71 cs_X4_108 (t_tak st1 hC.2.1 u (by omega) rfl) rfl ?_
        refine X_iret dX4_shelf_74 (Or.inl rfl) ?_
        refine ⟨?_, rfl, rfl, rfl⟩
        unfold qShelf
        rw [if_neg (by omega), if_neg (by omega), if_pos (by omega)]
        try rfl
      by_cases w_2 : w = 2
      · refine X_tswIn (v := 2) (tgt := 75) dX4_shelf_12 w_2 (by decide) (by decide) (by decide) rfl (by decide) ?_
        refine X_aload dX4_shelf_75 rfl ?_
        refine X_getR dX4_shelf_76 rfl gf_X4_10 sh_0 (by decide) rfl rf_0_0 ?_
        refine X_iload dX4_shelf_79 rfl ?_
        refine Y_pV dX4_shelf_80 cv_X4_148 sh_1 (by decide) (t_countOnShelf st1 hC.2.1 hg.1.1 u (by omega) rfl) rfl ?_
        refine X_iret dX4_shelf_83 (Or.inl rfl) ?_
        refine ⟨?_, rfl, rfl, rfl⟩
        unfold qShelf
        rw [if_neg (by omega), if_neg (by omega), if_neg (by omega), if_pos (by omega)]
        try rfl
      by_cases w_3 : w = 3
      · refine X_tswIn (v := 3) (tgt := 84) dX4_shelf_12 w_3 (by decide) (by decide) (by decide) rfl (by decide) ?_
        refine X_aload dX4_shelf_84 rfl ?_
        refine X_getR dX4_shelf_85 rfl gf_X4_10 sh_0 (by decide) rfl rf_0_0 ?_
        refine X_iload dX4_shelf_88 rfl ?_
        refine Y_pV dX4_shelf_89 cv_X4_151 sh_1 (by decide) (t_heatOnShelf st1 hC.2.1 hg.1.1 u (by omega) rfl) rfl ?_
        refine X_iret dX4_shelf_92 (Or.inl rfl) ?_
        refine ⟨?_, rfl, rfl, rfl⟩
        unfold qShelf
        rw [if_neg (by omega), if_neg (by omega), if_neg (by omega), if_neg (by omega), if_pos (by omega)]
        try rfl
      by_cases w_4 : w = 4
      · refine X_tswIn (v := 4) (tgt := 93) dX4_shelf_12 w_4 (by decide) (by decide) (by decide) rfl (by decide) ?_
        refine X_aload dX4_shelf_93 rfl ?_
        refine X_getR dX4_shelf_94 rfl gf_X4_10 sh_0 (by decide) rfl rf_0_0 ?_
        refine X_iload dX4_shelf_97 rfl ?_
        refine Y_pV dX4_shelf_98 cv_X4_154 sh_1 (by decide) (t_nightPriceOfShelf st1 hC.2.1 hg.1.1 u (by omega) rfl) rfl ?_
        refine X_iret dX4_shelf_101 (Or.inl rfl) ?_
        refine ⟨?_, rfl, rfl, rfl⟩
        unfold qShelf
        rw [if_neg (by omega), if_neg (by omega), if_neg (by omega), if_neg (by omega), if_neg (by omega), if_pos (by omega)]
        try rfl
      refine X_tswOut (tgt := 102) dX4_shelf_12 (by omega) (by omega) (by decide) ?_
      refine X_bipush dX4_shelf_102 (by decide) ?_
      refine X_iret dX4_shelf_104 (Or.inl rfl) ?_
      refine ⟨?_, rfl, rfl, rfl⟩
      unfold qShelf
      rw [if_neg (by omega), if_neg (by omega), if_neg (by omega), if_neg (by omega), if_neg (by omega), if_neg (by omega)]
      try rfl
    · refine X_iconst dX4_shelf_9 ?_
      refine X_iret dX4_shelf_10 (Or.inl rfl) ?_
      exact ⟨by unfold qShelf; rw [if_pos (by omega)], rfl, rfl, rfl⟩
set_option maxRecDepth 20000 in
set_option maxHeartbeats 4000000 in
theorem pu_total {I : xI} {s : xS} {hs : List xS} {sn : Option xS} {tx : Nat → Int} {len : Nat} (hC : CI I s hs sn tx len) (hg : CG s hs sn tx len) (w : Int) (hw : -2147483648 ≤ w ∧ w ≤ 2147483647) : S kX4_total 4 [rr 0, ii w] I (q_p (ii (qTotal s hs.length len w)) I) := by
  refine Sp_intro (by decide +kernel) (Nat.le_of_ble_eq_true rfl) ?_
  show Y kX4_total 4 0 [some (rr 0), some (ii w)] [] I _
  refine X_iload dX4_total_0 rfl ?_
  refine X_if_lt (tgt := 22) dX4_total_1 (by decide) (by omega) (fun c_1 => ?_) (fun c_1 => ?_)
  · refine X_iload dX4_total_22 rfl ?_
    by_cases w_23 : w = 23
    · refine X_tswIn (v := 23) (tgt := 52) dX4_total_23 w_23 (by decide) (by decide) (by decide) rfl (by decide) ?_
      refine X_aload dX4_total_52 rfl ?_
      refine X_getR dX4_total_53 rfl gf_X4_10 sh_0 (by decide) rfl rf_0_0 ?_
      refine Y_pV dX4_total_56 cv_X4_157 sh_1 (by decide) (t_countPinned st1 hC.2.1 hg.1.1) rfl ?_
      refine X_iret dX4_total_59 (Or.inl rfl) ?_
      refine ⟨?_, rfl, rfl, rfl⟩
      unfold qTotal
      rw [if_neg (by omega), if_pos (by omega)]
    by_cases w_24 : w = 24
    · refine X_tswIn (v := 24) (tgt := 60) dX4_total_23 w_24 (by decide) (by decide) (by decide) rfl (by decide) ?_
      refine X_aload dX4_total_60 rfl ?_
      refine X_getR dX4_total_61 rfl gf_X4_10 sh_0 (by decide) rfl rf_0_0 ?_
      refine Y_pV dX4_total_64 cv_X4_160 sh_1 (by decide) (t_heatOfAll st1 hC.2.1 hg.1.1) rfl ?_
      refine X_iret dX4_total_67 (Or.inl rfl) ?_
      refine ⟨?_, rfl, rfl, rfl⟩
      unfold qTotal
      rw [if_neg (by omega), if_neg (by omega), if_pos (by omega)]
    by_cases w_25 : w = 25
    · refine X_tswIn (v := 25) (tgt := 68) dX4_total_23 w_25 (by decide) (by decide) (by decide) rfl (by decide) ?_
      refine X_aload dX4_total_68 rfl ?_
      refine X_getR dX4_total_69 rfl gf_X4_29 sh_0 (by decide) rfl rf_0_4 ?_
      refine X_getI dX4_total_72 rfl gf_X4_97 sh_34 (by decide) rfl ?_
      obtain ⟨f, hf⟩ := hC.2.2.1
      rw [hf.2.2.1]
      refine X_iret dX4_total_75 (Or.inl rfl) ?_
      refine ⟨?_, rfl, rfl, rfl⟩
      unfold qTotal
      rw [if_neg (by omega), if_neg (by omega), if_neg (by omega), if_pos (by omega)]
    by_cases w_26 : w = 26
    · refine X_tswIn (v := 26) (tgt := 76) dX4_total_23 w_26 (by decide) (by decide) (by decide) rfl (by decide) ?_
      refine X_aload dX4_total_76 rfl ?_
      refine X_getR dX4_total_77 rfl gf_X4_43 sh_0 (by decide) rfl rf_0_6 ?_
      refine X_getI dX4_total_80 rfl gf_X4_163 sh_83 (by decide) rfl ?_
      rw [hC.2.2.2.2.1]
      refine X_iret dX4_total_83 (Or.inl rfl) ?_
      refine ⟨?_, rfl, rfl, rfl⟩
      unfold qTotal
      rw [if_neg (by omega), if_neg (by omega), if_neg (by omega), if_neg (by omega), if_pos (by omega)]
    refine X_tswOut (tgt := 84) dX4_total_23 (by omega) (by omega) (by decide) ?_
    refine X_bipush dX4_total_84 (by decide) ?_
    refine X_iret dX4_total_86 (Or.inl rfl) ?_
    refine ⟨?_, rfl, rfl, rfl⟩
    unfold qTotal
    rw [if_neg (by omega), if_neg (by omega), if_neg (by omega), if_neg (by omega), if_neg (by omega)]
  · refine X_iload dX4_total_4 rfl ?_
    refine X_bipush dX4_total_5 (by decide) ?_
    refine X_icmp_ge (tgt := 22) dX4_total_7 (by decide) (by omega) (fun c_7 => ?_) (fun c_7 => ?_)
    · refine X_iload dX4_total_22 rfl ?_
      by_cases w_23 : w = 23
      · refine X_tswIn (v := 23) (tgt := 52) dX4_total_23 w_23 (by decide) (by decide) (by decide) rfl (by decide) ?_
        refine X_aload dX4_total_52 rfl ?_
        refine X_getR dX4_total_53 rfl gf_X4_10 sh_0 (by decide) rfl rf_0_0 ?_
        refine Y_pV dX4_total_56 cv_X4_157 sh_1 (by decide) (t_countPinned st1 hC.2.1 hg.1.1) rfl ?_
        refine X_iret dX4_total_59 (Or.inl rfl) ?_
        refine ⟨?_, rfl, rfl, rfl⟩
        unfold qTotal
        rw [if_neg (by omega), if_pos (by omega)]
      by_cases w_24 : w = 24
      · refine X_tswIn (v := 24) (tgt := 60) dX4_total_23 w_24 (by decide) (by decide) (by decide) rfl (by decide) ?_
        refine X_aload dX4_total_60 rfl ?_
        refine X_getR dX4_total_61 rfl gf_X4_10 sh_0 (by decide) rfl rf_0_0 ?_
        refine Y_pV dX4_total_64 cv_X4_160 sh_1 (by decide) (t_heatOfAll st1 hC.2.1 hg.1.1) rfl ?_
        refine X_iret dX4_total_67 (Or.inl rfl) ?_
        refine ⟨?_, rfl, rfl, rfl⟩
        unfold qTotal
        rw [if_neg (by omega), if_neg (by omega), if_pos (by omega)]
      by_cases w_25 : w = 25
      · refine X_tswIn (v := 25) (tgt := 68) dX4_total_23 w_25 (by decide) (by decide) (by decide) rfl (by decide) ?_
        refine X_aload dX4_total_68 rfl ?_
        refine X_getR dX4_total_69 rfl gf_X4_29 sh_0 (by decide) rfl rf_0_4 ?_
        refine X_getI dX4_total_72 rfl gf_X4_97 sh_34 (by decide) rfl ?_
        obtain ⟨f, hf⟩ := hC.2.2.1
        rw [hf.2.2.1]
        refine X_iret dX4_total_75 (Or.inl rfl) ?_
        refine ⟨?_, rfl, rfl, rfl⟩
        unfold qTotal
        rw [if_neg (by omega), if_neg (by omega), if_neg (by omega), if_pos (by omega)]
      by_cases w_26 : w = 26
      · refine X_tswIn (v := 26) (tgt := 76) dX4_total_23 w_26 (by decide) (by decide) (by decide) rfl (by decide) ?_
        refine X_aload dX4_total_76 rfl ?_
        refine X_getR dX4_total_77 rfl gf_X4_43 sh_0 (by decide) rfl rf_0_6 ?_
        refine X_getI dX4_total_80 rfl gf_X4_163 sh_83 (by decide) rfl ?_
        rw [hC.2.2.2.2.1]
        refine X_iret dX4_total_83 (Or.inl rfl) ?_
        refine ⟨?_, rfl, rfl, rfl⟩
        unfold qTotal
        rw [if_neg (by omega), if_neg (by omega), if_neg (by omega), if_neg (by omega), if_pos (by omega)]
      refine X_tswOut (tgt := 84) dX4_total_23 (by omega) (by omega) (by decide) ?_
      refine X_bipush dX4_total_84 (by decide) ?_
      refine X_iret dX4_total_86 (Or.inl rfl) ?_
      refine ⟨?_, rfl, rfl, rfl⟩
      unfold qTotal
      rw [if_neg (by omega), if_neg (by omega), if_neg (by omega), if_neg (by omega), if_neg (by omega)]
    · refine X_aload dX4_total_10 rfl ?_
      refine X_getR dX4_total_11 rfl gf_X4_10 sh_0 (by decide) rfl rf_0_0 ?_
      refine X_getR dX4_total_14 rfl gf_X4_142 sh_1 (by decide) rfl rf_1_0 ?_
      refine X_iload dX4_total_17 rfl ?_
      obtain ⟨u, rfl⟩ := Int.eq_ofNat_of_zero_le (show 0 ≤ w by omega)
      refine Y_pS dX4_total_18 cs_X4_108 (t_num st1 hC.2.1 u (by omega) rfl) rfl ?_
      refine X_iret dX4_total_21 (Or.inl rfl) ?_
      refine ⟨?_, rfl, rfl, rfl⟩
      unfold qTotal
      rw [if_pos (by omega)]
      rfl
set_option maxRecDepth 20000 in
set_option maxHeartbeats 4000000 in
theorem t_paid {I : xI} {s : xS} {hs : List xS} {sn : Option xS} {tx : Nat → Int} {len : Nat} (hC : CI I s hs sn tx len) {g : Nat → Int} {n : Nat} (hW : RS I 12 g n) : S kX4_paidForNightsInWork 1 [rr 0] I (q_p (ii (g 18 - s.1 18)) I) := by
  refine Sp_intro (by decide +kernel) (Nat.le_of_ble_eq_true rfl) ?_
  show Y kX4_paidForNightsInWork 1 0 [some (rr 0)] [] I _
  refine X_aload dX4_paidForNightsInWork_0 rfl ?_
  refine X_getR dX4_paidForNightsInWork_1 rfl gf_X4_16 sh_0 (by decide) rfl rf_0_1 ?_
  refine X_getR dX4_paidForNightsInWork_4 rfl gf_X4_142 sh_12 (by decide) rfl rf_12_0 ?_
  refine X_bipush dX4_paidForNightsInWork_7 (by decide) ?_
  refine Y_pS dX4_paidForNightsInWork_9 cs_X4_108 (t_num st12 hW 18 (by decide) rfl) rfl ?_
  refine X_aload dX4_paidForNightsInWork_12 rfl ?_
  refine X_getR dX4_paidForNightsInWork_13 rfl gf_X4_10 sh_0 (by decide) rfl rf_0_0 ?_
  refine X_getR dX4_paidForNightsInWork_16 rfl gf_X4_142 sh_1 (by decide) rfl rf_1_0 ?_
  refine X_bipush dX4_paidForNightsInWork_19 (by decide) ?_
  refine Y_pS dX4_paidForNightsInWork_21 cs_X4_108 (t_num st1 hC.2.1 18 (by decide) rfl) rfl ?_
  refine X_isub dX4_paidForNightsInWork_24 ?_
  refine X_iret dX4_paidForNightsInWork_25 (Or.inl rfl) ?_
  exact ⟨rfl, rfl, rfl, rfl⟩
set_option maxRecDepth 20000 in
set_option maxHeartbeats 4000000 in
theorem pu_ifPassed {I : xI} {s : xS} {hs : List xS} {sn : Option xS} {tx : Nat → Int} {len : Nat} (hC : CI I s hs sn tx len) (hg : CG s hs sn tx len) (t : Int) (ht : -2147483648 ≤ t ∧ t ≤ 2147483647) (w : Int) (hw : -2147483648 ≤ w ∧ w ≤ 2147483647) : S kX4_ifPassed 5 [rr 0, ii t, ii w] I (q_i (fun ans I1 => ans = qIf s t w ∧ SF I I1)) := by
  refine Sp_intro (by decide +kernel) (Nat.le_of_ble_eq_true rfl) ?_
  show Y kX4_ifPassed 5 0 [some (rr 0), some (ii t), some (ii w), none] [] I _
  refine X_iload dX4_ifPassed_0 rfl ?_
  refine X_iconst dX4_ifPassed_1 ?_
  refine X_icmp_lt (tgt := 20) dX4_ifPassed_2 (by decide) (by omega) (fun c_2 => ?_) (fun c_2 => ?_)
  · refine X_bipush dX4_ifPassed_20 (by decide) ?_
    refine X_iret dX4_ifPassed_22 (Or.inl rfl) ?_
    exact ⟨rfl, rfl, _, rfl, by unfold qIf; rw [if_pos (by omega)], SF.rf⟩
  · refine X_iload dX4_ifPassed_5 rfl ?_
    refine X_bipush dX4_ifPassed_6 (by decide) ?_
    refine X_icmp_gt (tgt := 20) dX4_ifPassed_8 (by decide) (by omega) (fun c_8 => ?_) (fun c_8 => ?_)
    · refine X_bipush dX4_ifPassed_20 (by decide) ?_
      refine X_iret dX4_ifPassed_22 (Or.inl rfl) ?_
      exact ⟨rfl, rfl, _, rfl, by unfold qIf; rw [if_pos (by omega)], SF.rf⟩
    · refine X_iload dX4_ifPassed_11 rfl ?_
      refine X_if_lt (tgt := 20) dX4_ifPassed_12 (by decide) (by omega) (fun c_12 => ?_) (fun c_12 => ?_)
      · refine X_bipush dX4_ifPassed_20 (by decide) ?_
        refine X_iret dX4_ifPassed_22 (Or.inl rfl) ?_
        exact ⟨rfl, rfl, _, rfl, by unfold qIf; rw [if_pos (by omega)], SF.rf⟩
      · refine X_iload dX4_ifPassed_15 rfl ?_
        refine X_iconst dX4_ifPassed_16 ?_
        refine X_icmp_le (tgt := 23) dX4_ifPassed_17 (by decide) (by omega) (fun c_17 => ?_) (fun c_17 => ?_)
        · refine X_aload dX4_ifPassed_23 rfl ?_
          refine X_getR dX4_ifPassed_24 rfl gf_X4_16 sh_0 (by decide) rfl rf_0_1 ?_
          refine X_aload dX4_ifPassed_27 rfl ?_
          refine X_getR dX4_ifPassed_28 rfl gf_X4_10 sh_0 (by decide) rfl rf_0_0 ?_
          refine Y_vV dX4_ifPassed_31 cv_X4_47 sh_12 (by decide) (t_copyFrom st12 st1 (by decide) hC.2.1 hg.1.1.n24) rfl (fun I8 h8 => ?_)
          have hC8 := hC.sc h8.2.sf
          refine X_aload dX4_ifPassed_34 rfl ?_
          refine X_getR dX4_ifPassed_35 rfl gf_X4_36 sh_0 (by decide) rfl rf_0_5 ?_
          refine X_aload dX4_ifPassed_38 rfl ?_
          refine X_getR dX4_ifPassed_39 rfl gf_X4_16 sh_0 (by decide) rfl rf_0_1 ?_
          refine X_iload dX4_ifPassed_42 rfl ?_
          obtain ⟨u, rfl⟩ := Int.eq_ofNat_of_zero_le (show 0 ≤ t by omega)
          have eu : (u : Int).toNat = u := rfl
          refine Y_iV dX4_ifPassed_43 cv_X4_166 sh_80 (by decide) (t_letPass st12 h8.1 hg.1.1 u (by omega)) rfl (fun z43 I43 h43 => ?_)
          obtain ⟨rfl, hR43, hF43, -⟩ := h43
          have hC43 := hC8.sc hF43.sf
          have hsf := h8.2.sf.trans hF43.sf
          refine X_istore dX4_ifPassed_46 (by decide) ?_
          dsimp only [List.set]
          refine X_iload dX4_ifPassed_47 rfl ?_
          by_cases w_0 : w = 0
          · refine X_tswIn (v := 0) (tgt := 76) dX4_ifPassed_48 w_0 (by decide) (by decide) (by decide) rfl (by decide) ?_
            refine X_aload dX4_ifPassed_76 rfl ?_
            refine Y_pV dX4_ifPassed_77 cv_X4_170 sh_0 (by decide) (t_paid hC43 hR43) rfl ?_
            refine X_iret dX4_ifPassed_80 (Or.inl rfl) ?_
            refine ⟨rfl, rfl, _, rfl, ?_, hsf⟩
            unfold qIf
            rw [if_neg (by omega), if_pos (by omega)]
            try rfl
          by_cases w_1 : w = 1
          · refine X_tswIn (v := 1) (tgt := 81) dX4_ifPassed_48 w_1 (by decide) (by decide) (by decide) rfl (by decide) ?_
            refine X_iload dX4_ifPassed_81 rfl ?_
            refine X_iret dX4_ifPassed_82 (Or.inl rfl) ?_
            refine ⟨rfl, rfl, _, rfl, ?_, hsf⟩
            unfold qIf
            rw [if_neg (by omega), if_neg (by omega), if_pos (by omega)]
            try rfl
          by_cases w_2 : w = 2
          · refine X_tswIn (v := 2) (tgt := 83) dX4_ifPassed_48 w_2 (by decide) (by decide) (by decide) rfl (by decide) ?_
            refine X_aload dX4_ifPassed_83 rfl ?_
            refine X_getR dX4_ifPassed_84 rfl gf_X4_16 sh_0 (by decide) rfl rf_0_1 ?_
            refine Y_pV dX4_ifPassed_87 cv_X4_160 sh_12 (by decide) (t_heatOfAll st12 hR43 (hg.1.1.np u)) rfl ?_
            refine X_iret dX4_ifPassed_90 (Or.inl rfl) ?_
            refine ⟨rfl, rfl, _, rfl, ?_, hsf⟩
            unfold qIf
            rw [if_neg (by omega), if_neg (by omega), if_neg (by omega), if_pos (by omega)]
            try rfl
          refine X_tswOut (tgt := 91) dX4_ifPassed_48 (by omega) (by omega) (by decide) ?_
          refine X_aload dX4_ifPassed_91 rfl ?_
          refine X_getR dX4_ifPassed_92 rfl gf_X4_16 sh_0 (by decide) rfl rf_0_1 ?_
          refine X_getR dX4_ifPassed_95 rfl gf_X4_145 sh_12 (by decide) rfl rf_12_1 ?_
          refine X_iload dX4_ifPassed_98 rfl ?_
          refine X_iconst dX4_ifPassed_99 ?_
          refine X_isub dX4_ifPassed_100 ?_
          obtain ⟨v, hv⟩ := Int.eq_ofNat_of_zero_le (show 0 ≤ w - 3 by omega)
          refine Y_pS dX4_ifPassed_101 cs_X4_108 (t_tak st12 hR43 v (by omega) hv) rfl ?_
          refine X_iret dX4_ifPassed_104 (Or.inl rfl) ?_
          refine ⟨rfl, rfl, _, rfl, ?_, hsf⟩
          unfold qIf
          rw [if_neg (by omega), if_neg (by omega), if_neg (by omega), if_neg (by omega)]
          rw [hv]
          rfl
        · refine X_bipush dX4_ifPassed_20 (by decide) ?_
          refine X_iret dX4_ifPassed_22 (Or.inl rfl) ?_
          exact ⟨rfl, rfl, _, rfl, by unfold qIf; rw [if_pos (by omega)], SF.rf⟩
set_option maxRecDepth 20000 in
set_option maxHeartbeats 4000000 in
theorem pu_next_loop {I : xI} {s : xS} {hs : List xS} {sn : Option xS} {tx : Nat → Int} {len : Nat} (hg : CG s hs sn tx len) : ∀ (m k : Nat), k + m = 99 → ∀ (I1 : xI), RS I1 12 (nvG s k) s.2 → SF I I1 → Y kX4_nextMove 5 13 [some (rr 0), some (ii ((k + 1 : Nat) : Int))] [] I1 (q_i (fun ans I2 => ans = nxM s m k ∧ SF I I2)) := by
  intro m
  induction m with
  | zero =>
    intro k hk I1 hR hX
    refine X_iload dX4_nextMove_13 rfl ?_
    refine X_bipush dX4_nextMove_14 (by decide) ?_
    refine X_icmp_gt (tgt := 42) dX4_nextMove_16 (by decide) (by omega) (fun c_16 => ?_) (fun c_16 => absurd c_16 (by omega))
    refine X_bipush dX4_nextMove_42 (by decide) ?_
    refine X_iret dX4_nextMove_44 (Or.inl rfl) ?_
    exact ⟨rfl, rfl, _, rfl, rfl, hX⟩
  | succ m ih =>
    intro k hk I1 hR hX
    refine X_iload dX4_nextMove_13 rfl ?_
    refine X_bipush dX4_nextMove_14 (by decide) ?_
    refine X_icmp_gt (tgt := 42) dX4_nextMove_16 (by decide) (by omega) (fun c_16 => absurd c_16 (by omega)) (fun c_16 => ?_)
    refine X_aload dX4_nextMove_19 rfl ?_
    refine X_getR dX4_nextMove_20 rfl gf_X4_36 sh_0 (by decide) rfl rf_0_5 ?_
    refine X_aload dX4_nextMove_23 rfl ?_
    refine X_getR dX4_nextMove_24 rfl gf_X4_16 sh_0 (by decide) rfl rf_0_1 ?_
    refine X_iconst dX4_nextMove_27 ?_
    refine Y_iV dX4_nextMove_28 cv_X4_166 sh_80 (by decide) (t_letPass st12 hR (hg.1.1.nv k) 1 (by decide)) rfl (fun z28 I28 h28 => ?_)
    obtain ⟨rfl, hR28, hF28, -⟩ := h28
    change Y _ _ _ _ [ii (nvM s k)] _ _
    have hmb : 0 ≤ nvM s k ∧ nvM s k ≤ 48 := by have := nsM_bounds (nvG s k) s.2 (nvG s k 3) 1; unfold nvM; omega
    refine X_if_le (tgt := 36) dX4_nextMove_31 (by decide) (by omega) (fun c_31 => ?_) (fun c_31 => ?_)
    · refine X_iinc dX4_nextMove_36 rfl ?_
      dsimp only [List.set]
      refine X_goto (tgt := 13) dX4_nextMove_39 (by decide) ?_
      have e1 : nxM s (m + 1) k = nxM s m (k + 1) := by show (if _ then _ else _ : Int) = _; rw [if_neg (by omega)]
      rw [e1]
      exact ih (k + 1) (by omega) _ hR28 (hX.trans hF28.sf)
    · refine X_iload dX4_nextMove_34 rfl ?_
      refine X_iret dX4_nextMove_35 (Or.inl rfl) ?_
      refine ⟨rfl, rfl, _, rfl, ?_, hX.trans hF28.sf⟩
      show _ = if _ then _ else _
      rw [if_pos c_31]
set_option maxRecDepth 20000 in
set_option maxHeartbeats 4000000 in
theorem pu_nextMove {I : xI} {s : xS} {hs : List xS} {sn : Option xS} {tx : Nat → Int} {len : Nat} (hC : CI I s hs sn tx len) (hg : CG s hs sn tx len) : S kX4_nextMove 5 [rr 0] I (q_i (fun ans I1 => ans = qNext s ∧ SF I I1)) := by
  refine Sp_intro (by decide +kernel) (Nat.le_of_ble_eq_true rfl) ?_
  show Y kX4_nextMove 5 0 [some (rr 0), none] [] I _
  refine X_aload dX4_nextMove_0 rfl ?_
  refine X_getR dX4_nextMove_1 rfl gf_X4_16 sh_0 (by decide) rfl rf_0_1 ?_
  refine X_aload dX4_nextMove_4 rfl ?_
  refine X_getR dX4_nextMove_5 rfl gf_X4_10 sh_0 (by decide) rfl rf_0_0 ?_
  refine Y_vV dX4_nextMove_8 cv_X4_47 sh_12 (by decide) (t_copyFrom st12 st1 (by decide) hC.2.1 hg.1.1.n24) rfl (fun I8 h8 => ?_)
  have hC8 := hC.sc h8.2.sf
  refine X_iconst dX4_nextMove_11 ?_
  refine X_istore dX4_nextMove_12 (by decide) ?_
  dsimp only [List.set]
  exact pu_next_loop hg 99 0 (by decide) _ h8.1 h8.2.sf
set_option maxRecDepth 20000 in
set_option maxHeartbeats 4000000 in
theorem pu_paidWithHot {I : xI} {s : xS} {hs : List xS} {sn : Option xS} {tx : Nat → Int} {len : Nat} (hC : CI I s hs sn tx len) (hg : CG s hs sn tx len) (hot : Int) (hh : 0 ≤ hot ∧ hot ≤ 20000) (t : Nat) (ht : t ≤ 100) : S kX4_paidWithHot 5 [rr 0, ii hot, ii (t : Int)] I (q_i (fun ans I1 => ans = pwH s hot t ∧ SF I I1)) := by
  refine Sp_intro (by decide +kernel) (Nat.le_of_ble_eq_true rfl) ?_
  show Y kX4_paidWithHot 5 0 [some (rr 0), some (ii hot), some (ii (t : Int))] [] I _
  refine X_aload dX4_paidWithHot_0 rfl ?_
  refine X_getR dX4_paidWithHot_1 rfl gf_X4_16 sh_0 (by decide) rfl rf_0_1 ?_
  refine X_aload dX4_paidWithHot_4 rfl ?_
  refine X_getR dX4_paidWithHot_5 rfl gf_X4_10 sh_0 (by decide) rfl rf_0_0 ?_
  refine Y_vV dX4_paidWithHot_8 cv_X4_47 sh_12 (by decide) (t_copyFrom st12 st1 (by decide) hC.2.1 hg.1.1.n24) rfl (fun I8 h8 => ?_)
  have hC8 := hC.sc h8.2.sf
  refine X_aload dX4_paidWithHot_11 rfl ?_
  refine X_getR dX4_paidWithHot_12 rfl gf_X4_16 sh_0 (by decide) rfl rf_0_1 ?_
  refine X_getR dX4_paidWithHot_15 rfl gf_X4_142 sh_12 (by decide) rfl rf_12_0 ?_
  refine X_iconst dX4_paidWithHot_18 ?_
  refine X_iload dX4_paidWithHot_19 rfl ?_
  refine Y_vS dX4_paidWithHot_20 cs_X4_201 (t_putN st12 h8.1 1 (by decide) rfl _) rfl (fun I20 h20 => ?_)
  refine X_aload dX4_paidWithHot_23 rfl ?_
  refine X_getR dX4_paidWithHot_24 rfl gf_X4_36 sh_0 (by decide) rfl rf_0_5 ?_
  refine X_aload dX4_paidWithHot_27 rfl ?_
  refine X_getR dX4_paidWithHot_28 rfl gf_X4_16 sh_0 (by decide) rfl rf_0_1 ?_
  refine X_iload dX4_paidWithHot_31 rfl ?_
  refine Y_iV dX4_paidWithHot_32 cv_X4_166 sh_80 (by decide) (t_letPass st12 h20.1 (hg.1.1.hot hh) t ht) rfl (fun z32 I32 h32 => ?_)
  obtain ⟨-, hR32, hF32, -⟩ := h32
  have hC32 := (hC8.sc h20.2.sf).sc hF32.sf
  refine X_pop dX4_paidWithHot_35 ?_
  refine X_aload dX4_paidWithHot_36 rfl ?_
  refine Y_pV dX4_paidWithHot_37 cv_X4_170 sh_0 (by decide) (t_paid hC32 hR32) rfl ?_
  refine X_iret dX4_paidWithHot_40 (Or.inl rfl) ?_
  exact ⟨rfl, rfl, _, rfl, rfl, (h8.2.sf.trans h20.2.sf).trans hF32.sf⟩
def hbB (o : Option (Int × Int)) : Int := match o with
  | none => -1
  | some (b, _) => b
def hbL (o : Option (Int × Int)) : Int := match o with
  | none => 0
  | some (_, l) => l
set_option maxRecDepth 20000 in
set_option maxHeartbeats 4000000 in
theorem pu_best_loop {I : xI} {s : xS} {hs : List xS} {sn : Option xS} {tx : Nat → Int} {len : Nat} (hg : CG s hs sn tx len) (t : Nat) (ht : 1 ≤ t ∧ t ≤ 20) (w : Int) (hw : 0 ≤ w ∧ w ≤ 1) : ∀ (m i : Nat), i + m = 41 → ∀ (I1 : xI), CI I1 s hs sn tx len → SF I I1 → Y kX4_bestHot 6 53 [some (rr 0), some (ii (t : Int)), some (ii w), some (ii (s.1 2)), some (ii 20000), some (ii (hbB (hbF s t i))), some (ii (hbL (hbF s t i))), some (ii (500 * (i : Int))), none] [] I1 (q_i (fun ans I2 => ans = (if w = 0 then hbB (hbF s t 41) else hbL (hbF s t 41)) ∧ SF I I2)) := by
  have h2 := hg.1.1.s2
  intro m
  induction m with
  | zero =>
    intro i hi I1 hC hX
    have hi41 : i = 41 := by omega
    subst hi41
    refine X_iloadW dX4_bestHot_53 rfl ?_
    refine X_iloadW dX4_bestHot_55 rfl ?_
    refine X_icmp_gt (tgt := 105) dX4_bestHot_57 (by decide) (by omega) (fun c_57 => ?_) (fun c_57 => absurd c_57 (by omega))
    refine X_iload dX4_bestHot_105 rfl ?_
    refine X_if_ne (tgt := 114) dX4_bestHot_106 (by decide) (by omega) (fun c_106 => ?_) (fun c_106 => ?_)
    · refine X_iloadW dX4_bestHot_114 rfl ?_
      refine X_iret dX4_bestHot_116 (Or.inl rfl) ?_
      refine ⟨rfl, rfl, _, rfl, ?_, hX⟩
      first | rw [if_pos (by omega)] | rw [if_neg (by omega)]
    · refine X_iloadW dX4_bestHot_109 rfl ?_
      refine X_goto (tgt := 116) dX4_bestHot_111 (by decide) ?_
      refine X_iret dX4_bestHot_116 (Or.inl rfl) ?_
      refine ⟨rfl, rfl, _, rfl, ?_, hX⟩
      first | rw [if_pos (by omega)] | rw [if_neg (by omega)]
  | succ m ih =>
    intro i hi I1 hC hX
    rcases hr : hbF s t i with _ | ⟨b, l⟩
    · change Y _ _ _ [some (rr 0), some (ii (t : Int)), some (ii w), some (ii (s.1 2)), some (ii 20000), some (ii (-1)), some (ii (0)), some (ii (500 * (i : Int))), none] _ _ _
      refine X_iloadW dX4_bestHot_53 rfl ?_
      refine X_iloadW dX4_bestHot_55 rfl ?_
      refine X_icmp_gt (tgt := 105) dX4_bestHot_57 (by decide) (by omega) (fun c_57 => absurd c_57 (by omega)) (fun c_57 => ?_)
      refine X_iloadW dX4_bestHot_60 rfl ?_
      refine X_iload dX4_bestHot_62 rfl ?_
      refine X_icmp_lt (tgt := 96) dX4_bestHot_63 (by decide) (by omega) (fun c_63 => ?_) (fun c_63 => ?_)
      · refine X_iincW dX4_bestHot_96 rfl ?_
        dsimp only [List.set]
        refine X_goto (tgt := 53) dX4_bestHot_102 (by decide) ?_
        refine X_drop 8 ?_
        dsimp only [List.set]
        have e5 : 500 * (i : Int) + 500 = 500 * ((i + 1 : Nat) : Int) := by omega
        rw [e5]
        have e6 : hbF s t (i + 1) = hbF s t i := by
          show (if _ then _ else _ : Option (Int × Int)) = _
          rw [if_pos (by omega)]
        rw [hr] at e6
        have h9 := ih (i + 1) (by omega) _ hC hX
        rw [e6] at h9
        exact h9
      · refine X_aload dX4_bestHot_66 rfl ?_
        refine X_iloadW dX4_bestHot_67 rfl ?_
        refine X_iload dX4_bestHot_69 rfl ?_
        refine Y_iV dX4_bestHot_70 cv_X4_176 sh_0 (by decide) (pu_paidWithHot hC hg (500 * (i : Int)) (by omega) t (by omega)) rfl (fun z70 I70 h70 => ?_)
        obtain ⟨rfl, hF70⟩ := h70
        have hC := hC.sc hF70
        have hX := hX.trans hF70
        have hpb := pwH_bounds hg.1 (hot := 500 * (i : Int)) (by omega) t
        refine X_istoreW dX4_bestHot_73 (by decide) ?_
        dsimp only [List.set]
        refine X_iloadW dX4_bestHot_75 rfl ?_
        refine X_iconst dX4_bestHot_77 ?_
        refine X_icmp_eq (tgt := 88) dX4_bestHot_78 (by decide) (by omega) (fun c_78 => ?_) (fun c_78 => absurd c_78 (by omega))
        refine X_iloadW dX4_bestHot_88 rfl ?_
        refine X_istoreW dX4_bestHot_90 (by decide) ?_
        dsimp only [List.set]
        refine X_iloadW dX4_bestHot_92 rfl ?_
        refine X_istoreW dX4_bestHot_94 (by decide) ?_
        dsimp only [List.set]
        refine X_iincW dX4_bestHot_96 rfl ?_
        dsimp only [List.set]
        refine X_goto (tgt := 53) dX4_bestHot_102 (by decide) ?_
        refine X_drop 8 ?_
        dsimp only [List.set]
        have e5 : 500 * (i : Int) + 500 = 500 * ((i + 1 : Nat) : Int) := by omega
        rw [e5]
        have e6 : hbF s t (i + 1) = some (500 * (i : Int), pwH s (500 * (i : Int)) t) := by
          show (if _ then _ else _ : Option (Int × Int)) = _
          rw [if_neg (by omega), hr]
        have h9 := ih (i + 1) (by omega) _ hC hX
        rw [e6] at h9
        exact h9
    · have hbl := hbF_ok hg.1 ht.2 (by omega) hr
      change Y _ _ _ [some (rr 0), some (ii (t : Int)), some (ii w), some (ii (s.1 2)), some (ii 20000), some (ii (b)), some (ii (l)), some (ii (500 * (i : Int))), none] _ _ _
      refine X_iloadW dX4_bestHot_53 rfl ?_
      refine X_iloadW dX4_bestHot_55 rfl ?_
      refine X_icmp_gt (tgt := 105) dX4_bestHot_57 (by decide) (by omega) (fun c_57 => absurd c_57 (by omega)) (fun c_57 => ?_)
      refine X_iloadW dX4_bestHot_60 rfl ?_
      refine X_iload dX4_bestHot_62 rfl ?_
      refine X_icmp_lt (tgt := 96) dX4_bestHot_63 (by decide) (by omega) (fun c_63 => ?_) (fun c_63 => ?_)
      · refine X_iincW dX4_bestHot_96 rfl ?_
        dsimp only [List.set]
        refine X_goto (tgt := 53) dX4_bestHot_102 (by decide) ?_
        refine X_drop 8 ?_
        dsimp only [List.set]
        have e5 : 500 * (i : Int) + 500 = 500 * ((i + 1 : Nat) : Int) := by omega
        rw [e5]
        have e6 : hbF s t (i + 1) = hbF s t i := by
          show (if _ then _ else _ : Option (Int × Int)) = _
          rw [if_pos (by omega)]
        rw [hr] at e6
        have h9 := ih (i + 1) (by omega) _ hC hX
        rw [e6] at h9
        exact h9
      · refine X_aload dX4_bestHot_66 rfl ?_
        refine X_iloadW dX4_bestHot_67 rfl ?_
        refine X_iload dX4_bestHot_69 rfl ?_
        refine Y_iV dX4_bestHot_70 cv_X4_176 sh_0 (by decide) (pu_paidWithHot hC hg (500 * (i : Int)) (by omega) t (by omega)) rfl (fun z70 I70 h70 => ?_)
        obtain ⟨rfl, hF70⟩ := h70
        have hC := hC.sc hF70
        have hX := hX.trans hF70
        have hpb := pwH_bounds hg.1 (hot := 500 * (i : Int)) (by omega) t
        refine X_istoreW dX4_bestHot_73 (by decide) ?_
        dsimp only [List.set]
        refine X_iloadW dX4_bestHot_75 rfl ?_
        refine X_iconst dX4_bestHot_77 ?_
        refine X_icmp_eq (tgt := 88) dX4_bestHot_78 (by decide) (by omega) (fun c_78 => absurd c_78 (by omega)) (fun c_78 => ?_)
        refine X_iloadW dX4_bestHot_81 rfl ?_
        refine X_iloadW dX4_bestHot_83 rfl ?_
        refine X_icmp_ge (tgt := 96) dX4_bestHot_85 (by decide) (by omega) (fun c_85 => ?_) (fun c_85 => ?_)
        · refine X_iincW dX4_bestHot_96 rfl ?_
          dsimp only [List.set]
          refine X_goto (tgt := 53) dX4_bestHot_102 (by decide) ?_
          refine X_drop 8 ?_
          dsimp only [List.set]
          have e5 : 500 * (i : Int) + 500 = 500 * ((i + 1 : Nat) : Int) := by omega
          rw [e5]
          have e6 : hbF s t (i + 1) = some (b, l) := by
            show (if _ then _ else _ : Option (Int × Int)) = _
            rw [if_neg (by omega), hr]; show (if _ then _ else _ : Option (Int × Int)) = _; rw [if_neg (by omega)]
          have h9 := ih (i + 1) (by omega) _ hC hX
          rw [e6] at h9
          exact h9
        · refine X_iloadW dX4_bestHot_88 rfl ?_
          refine X_istoreW dX4_bestHot_90 (by decide) ?_
          dsimp only [List.set]
          refine X_iloadW dX4_bestHot_92 rfl ?_
          refine X_istoreW dX4_bestHot_94 (by decide) ?_
          dsimp only [List.set]
          refine X_iincW dX4_bestHot_96 rfl ?_
          dsimp only [List.set]
          refine X_goto (tgt := 53) dX4_bestHot_102 (by decide) ?_
          refine X_drop 8 ?_
          dsimp only [List.set]
          have e5 : 500 * (i : Int) + 500 = 500 * ((i + 1 : Nat) : Int) := by omega
          rw [e5]
          have e6 : hbF s t (i + 1) = some (500 * (i : Int), pwH s (500 * (i : Int)) t) := by
            show (if _ then _ else _ : Option (Int × Int)) = _
            rw [if_neg (by omega), hr]; show (if _ then _ else _ : Option (Int × Int)) = _; rw [if_pos (by omega)]
          have h9 := ih (i + 1) (by omega) _ hC hX
          rw [e6] at h9
          exact h9
set_option maxRecDepth 20000 in
set_option maxHeartbeats 4000000 in
theorem pu_bestHot {I : xI} {s : xS} {hs : List xS} {sn : Option xS} {tx : Nat → Int} {len : Nat} (hC : CI I s hs sn tx len) (hg : CG s hs sn tx len) (t : Int) (ht : -2147483648 ≤ t ∧ t ≤ 2147483647) (w : Int) (hw : -2147483648 ≤ w ∧ w ≤ 2147483647) : S kX4_bestHot 6 [rr 0, ii t, ii w] I (q_i (fun ans I1 => ans = qHot s t w ∧ SF I I1)) := by
  refine Sp_intro (by decide +kernel) (Nat.le_of_ble_eq_true rfl) ?_
  show Y kX4_bestHot 6 0 [some (rr 0), some (ii t), some (ii w), none, none, none, none, none, none] [] I _
  refine X_iload dX4_bestHot_0 rfl ?_
  refine X_iconst dX4_bestHot_1 ?_
  refine X_icmp_lt (tgt := 20) dX4_bestHot_2 (by decide) (by omega) (fun c_2 => ?_) (fun c_2 => ?_)
  · refine X_bipush dX4_bestHot_20 (by decide) ?_
    refine X_iret dX4_bestHot_22 (Or.inl rfl) ?_
    exact ⟨rfl, rfl, _, rfl, by unfold qHot; rw [if_pos (by omega)], SF.rf⟩
  · refine X_iload dX4_bestHot_5 rfl ?_
    refine X_bipush dX4_bestHot_6 (by decide) ?_
    refine X_icmp_gt (tgt := 20) dX4_bestHot_8 (by decide) (by omega) (fun c_8 => ?_) (fun c_8 => ?_)
    · refine X_bipush dX4_bestHot_20 (by decide) ?_
      refine X_iret dX4_bestHot_22 (Or.inl rfl) ?_
      exact ⟨rfl, rfl, _, rfl, by unfold qHot; rw [if_pos (by omega)], SF.rf⟩
    · refine X_iload dX4_bestHot_11 rfl ?_
      refine X_if_lt (tgt := 20) dX4_bestHot_12 (by decide) (by omega) (fun c_12 => ?_) (fun c_12 => ?_)
      · refine X_bipush dX4_bestHot_20 (by decide) ?_
        refine X_iret dX4_bestHot_22 (Or.inl rfl) ?_
        exact ⟨rfl, rfl, _, rfl, by unfold qHot; rw [if_pos (by omega)], SF.rf⟩
      · refine X_iload dX4_bestHot_15 rfl ?_
        refine X_iconst dX4_bestHot_16 ?_
        refine X_icmp_le (tgt := 23) dX4_bestHot_17 (by decide) (by omega) (fun c_17 => ?_) (fun c_17 => ?_)
        · obtain ⟨u, rfl⟩ := Int.eq_ofNat_of_zero_le (show 0 ≤ t by omega)
          refine X_aload dX4_bestHot_23 rfl ?_
          refine X_getR dX4_bestHot_24 rfl gf_X4_10 sh_0 (by decide) rfl rf_0_0 ?_
          refine X_getR dX4_bestHot_27 rfl gf_X4_142 sh_1 (by decide) rfl rf_1_0 ?_
          refine X_iconst dX4_bestHot_30 ?_
          refine Y_pS dX4_bestHot_31 cs_X4_108 (t_num st1 hC.2.1 2 (by decide) rfl) rfl ?_
          refine X_istore dX4_bestHot_34 (by decide) ?_
          dsimp only [List.set]
          refine X_getsG dX4_bestHot_35 rfl gs_X4_173 ?_
          refine X_iconst dX4_bestHot_38 ?_
          refine Y_pS dX4_bestHot_39 cs_X4_108 (t_mx hC.1 1 (by decide) rfl) rfl ?_
          rw [show mx 1 = 20000 from rfl]
          refine X_istoreW dX4_bestHot_42 (by decide) ?_
          dsimp only [List.set]
          refine X_iconst dX4_bestHot_44 ?_
          refine X_istoreW dX4_bestHot_45 (by decide) ?_
          dsimp only [List.set]
          refine X_iconst dX4_bestHot_47 ?_
          refine X_istoreW dX4_bestHot_48 (by decide) ?_
          dsimp only [List.set]
          refine X_iconst dX4_bestHot_50 ?_
          refine X_istoreW dX4_bestHot_51 (by decide) ?_
          dsimp only [List.set]
          refine X_weaken (pu_best_loop hg u (by omega) w (by omega) 41 0 (by decide) I hC SF.rf) (fun ro N1 I1 R1 h => ?_)
          obtain ⟨h1, h2, z, h3, h4, h5⟩ := h
          refine ⟨h1, h2, z, h3, ?_, h5⟩
          unfold qHot
          rw [if_neg (by omega), h4]
          obtain ⟨q, hq⟩ := hbF_some hg.1 u
          rw [show (u : Int).toNat = u from rfl, hq]
          rfl
        · refine X_bipush dX4_bestHot_20 (by decide) ?_
          refine X_iret dX4_bestHot_22 (Or.inl rfl) ?_
          exact ⟨rfl, rfl, _, rfl, by unfold qHot; rw [if_pos (by omega)], SF.rf⟩
end
section
/-! sums; the ranks are the places in another order -/
theorem sm_add (f h : Nat → Int) : ∀ n : Nat, sm (fun k => f k + h k) n = sm f n + sm h n
  | 0 => rfl
  | n + 1 => by
    show sm (fun k => f k + h k) n + (f n + h n) = sm f n + f n + (sm h n + h n)
    rw [sm_add f h n]
    omega
theorem sm_zero : ∀ n : Nat, sm (fun _ => 0) n = 0
  | 0 => rfl
  | n + 1 => by
    show sm (fun _ => 0) n + 0 = 0
    rw [sm_zero n]
    rfl
theorem sm_ones : ∀ n : Nat, sm (fun _ => 1) n = n
  | 0 => rfl
  | n + 1 => by
    show sm (fun _ => 1) n + 1 = ((n + 1 : Nat) : Int)
    rw [sm_ones n]
    omega
theorem sm_swap (a : Nat → Nat → Int) (n : Nat) : ∀ m : Nat, sm (fun r => sm (fun k => a r k) n) m = sm (fun k => sm (fun r => a r k) m) n
  | 0 => (sm_zero n).symm
  | m + 1 => by
    show sm (fun r => sm (fun k => a r k) n) m + sm (fun k => a m k) n = sm (fun k => sm (fun r => a r k) m + a m k) n
    rw [sm_add, sm_swap a n m]
theorem sm_pick {f : Nat → Int} {k0 : Nat} : ∀ {n : Nat}, k0 < n → (∀ k, k < n → k ≠ k0 → f k = 0) → sm f n = f k0
  | 0, h, _ => absurd h (Nat.not_lt_zero _)
  | n + 1, h, e => by
    show sm f n + f n = f k0
    by_cases q : k0 = n
    · subst q
      rw [sm_congr (h := fun _ => 0) (fun k hk => e k (by omega) (by omega)), sm_zero]
      omega
    · rw [sm_pick (n := n) (by omega) (fun k hk hne => e k (by omega) hne), e n (by omega) (fun z => q z.symm)]
      omega
theorem sm_le {a b : Nat → Int} : ∀ {n : Nat}, (∀ k, k < n → a k ≤ b k) → sm a n ≤ sm b n
  | 0, _ => Int.le_refl 0
  | n + 1, e => by
    have h1 := sm_le (n := n) (fun k hk => e k (by omega))
    have h2 := e n (by omega)
    show sm a n + a n ≤ sm b n + b n
    omega
theorem sm_lt {a b : Nat → Int} {q : Nat} : ∀ {n : Nat}, (∀ k, k < n → a k ≤ b k) → q < n → a q + 1 ≤ b q → sm a n + 1 ≤ sm b n
  | 0, _, h, _ => absurd h (Nat.not_lt_zero _)
  | n + 1, e, h, s => by
    have h2 := e n (by omega)
    show sm a n + a n + 1 ≤ sm b n + b n
    by_cases z : q = n
    · subst z
      have h1 := sm_le (n := q) (fun k hk => e k (by omega))
      omega
    · have h1 := sm_lt (n := n) (fun k hk => e k (by omega)) (by omega) s
      omega
/-- q stands ahead of k -/
abbrev ah (g : Nat → Int) (q k : Nat) : Prop := gb g k 2 < gb g q 2 ∨ (gb g q 2 = gb g k 2 ∧ q < k)
theorem hot_ah (g : Nat → Int) (n k : Nat) : hot g n k = sm (fun q => if ah g q k then 1 else 0) n := rfl
theorem ah_tot {g : Nat → Int} {q k : Nat} (h : q ≠ k) : ah g q k ∨ ah g k q := by unfold ah; omega
theorem hot_lt {g : Nat → Int} {n q k : Nat} (hq : q < n) (h : ah g q k) : hot g n q + 1 ≤ hot g n k := by
  rw [hot_ah, hot_ah]
  refine sm_lt (q := q) (fun j _ => ?_) hq ?_
  · by_cases e : ah g j q
    · rw [if_pos e, if_pos (by unfold ah at *; omega)]
      exact Int.le_refl 1
    · rw [if_neg e]
      split <;> omega
  · show (if ah g q q then (1 : Int) else 0) + 1 ≤ if ah g q k then 1 else 0
    rw [if_neg (by unfold ah; omega), if_pos h]
    exact Int.le_refl 1
theorem hot_rev {g : Nat → Int} {n q k : Nat} (hk : k < n) (h : hot g n q < hot g n k) : ah g q k := by
  by_cases e : q = k
  · subst e; omega
  · rcases ah_tot (g := g) e with a | a
    · exact a
    · have := hot_lt (n := n) hk a
      omega
theorem hot_inj {g : Nat → Int} {n q k : Nat} (hq : q < n) (hk : k < n) (h : hot g n q = hot g n k) : q = k := by
  by_cases e : q = k
  · exact e
  · rcases ah_tot (g := g) e with a | a
    · have := hot_lt (n := n) hq a; omega
    · have := hot_lt (n := n) hk a; omega
theorem hot_n {g : Nat → Int} {n k : Nat} (hk : k < n) : 0 ≤ hot g n k ∧ hot g n k < n := by
  constructor
  · have h1 := sm_bounds (f := fun q => if ah g q k then 1 else 0) (lo := 0) (hi := 1) (n := n) (fun q hq => by split <;> omega)
    rw [hot_ah]
    omega
  · have h1 : sm (fun q => if ah g q k then 1 else 0) n + 1 ≤ sm (fun _ => 1) n := sm_lt (q := k) (fun j _ => by split <;> omega) hk (by
      show (if ah g k k then (1 : Int) else 0) + 1 ≤ 1
      rw [if_neg (by unfold ah; omega)]
      exact Int.le_refl 1)
    rw [sm_ones] at h1
    rw [hot_ah]
    omega
/-- every rank has its place -/
theorem hot_sur {g : Nat → Int} {n r : Nat} (hr : r < n) : ∃ k, k < n ∧ hot g n k = r := by
  apply Classical.byContradiction
  intro hno
  have h0 : ∀ k, k < n → hot g n k ≠ r := fun k hk e => hno ⟨k, hk, e⟩
  have h1 : sm (fun r : Nat => sm (fun k => if hot g n k = (r : Int) then (1 : Int) else 0) n) n = n := by
    rw [sm_swap]
    rw [sm_congr (h := fun _ => 1) (fun k hk => ?_), sm_ones]
    have hk2 := hot_n (g := g) hk
    rw [sm_pick (k0 := (hot g n k).toNat) (by omega) (fun q hq hne => if_neg (by omega))]
    exact if_pos (by omega)
  have h2 : sm (fun r : Nat => sm (fun k => if hot g n k = (r : Int) then (1 : Int) else 0) n) n + 1 ≤ sm (fun _ => 1) n := by
    refine sm_lt (q := r) (fun q _ => ?_) hr ?_
    · by_cases e : ∃ k, k < n ∧ hot g n k = q
      · obtain ⟨k, hk, e⟩ := e
        rw [sm_pick (k0 := k) hk (fun j hj hne => if_neg (fun z => hne (hot_inj hj hk (z.trans e.symm))))]
        split <;> omega
      · rw [sm_congr (h := fun _ => 0) (fun k hk => if_neg (fun z => e ⟨k, hk, z⟩)), sm_zero]
        decide
    · show sm (fun k => if hot g n k = (r : Int) then (1 : Int) else 0) n + 1 ≤ 1
      rw [sm_congr (h := fun _ => 0) (fun k hk => if_neg (h0 k hk)), sm_zero]
      decide
  rw [h1, sm_ones] at h2
  omega
theorem rkF_some {g : Nat → Int} {n : Nat} {r : Int} : ∀ {m i k : Nat}, i ≤ k → k < i + m → hot g n k = r → ∃ q, rkF g n r m i = some q ∧ i ≤ q ∧ q < i + m ∧ hot g n q = r
  | 0, i, k, h1, h2, _ => by omega
  | m + 1, i, k, h1, h2, h3 => by
    by_cases e : hot g n i = r
    · exact ⟨i, by unfold rkF; rw [if_pos e], Nat.le_refl i, by omega, e⟩
    · obtain ⟨q, a, b, c, d⟩ := rkF_some (g := g) (n := n) (r := r) (m := m) (i := i + 1) (k := k) (by
        have : i ≠ k := fun z => e (z ▸ h3)
        omega) (by omega) h3
      exact ⟨q, by unfold rkF; rw [if_neg e]; exact a, by omega, by omega, d⟩
theorem rkF_none {g : Nat → Int} {n : Nat} {r : Int} : ∀ {m i : Nat}, (∀ k, i ≤ k → k < i + m → hot g n k ≠ r) → rkF g n r m i = none
  | 0, i, _ => rfl
  | m + 1, i, h => by
    unfold rkF
    rw [if_neg (h i (Nat.le_refl i) (by omega))]
    exact rkF_none (fun k a b => h k (by omega) (by omega))
/-- the place of a rank -/
def rp (g : Nat → Int) (n r : Nat) : Nat := (rk g n (r : Int)).getD 0
theorem rp_ok {g : Nat → Int} {n r : Nat} (hr : r < n) : rk g n (r : Int) = some (rp g n r) ∧ rp g n r < n ∧ hot g n (rp g n r) = r := by
  obtain ⟨k, hk, h⟩ := hot_sur (g := g) hr
  obtain ⟨q, a, b, c, d⟩ := rkF_some (m := n) (i := 0) (Nat.zero_le k) (by omega) h
  have e : rk g n (r : Int) = some q := a
  have e2 : rp g n r = q := by unfold rp; rw [e]; rfl
  rw [e2]
  exact ⟨e, by omega, d⟩
theorem rk_end {g : Nat → Int} {n : Nat} : rk g n (n : Int) = none := rkF_none (fun k _ b => by have := hot_n (g := g) (n := n) (k := k) (by omega); omega)
theorem rp_sum {g : Nat → Int} {n : Nat} (f : Nat → Int) : sm (fun r => f (rp g n r)) n = sm f n := by
  rw [sm_congr (h := fun r : Nat => sm (fun k => if hot g n k = (r : Int) then f k else 0) n) (fun r hr => ?_), sm_swap]
  · refine sm_congr (fun k hk => ?_)
    have hk2 := hot_n (g := g) hk
    rw [sm_pick (k0 := (hot g n k).toNat) (by omega) (fun q hq hne => if_neg (by omega))]
    exact if_pos (by omega)
  · have hr2 := rp_ok (g := g) hr
    rw [sm_pick (k0 := rp g n r) hr2.2.1 (fun j hj hne => if_neg (fun z => hne (hot_inj hj hr2.2.1 (z.trans hr2.2.2.symm))))]
    exact (if_pos hr2.2.2).symm
theorem rp_next {g : Nat → Int} {n r : Nat} (hr : r + 1 < n) : ah g (rp g n r) (rp g n (r + 1)) := by
  have h1 := rp_ok (g := g) (n := n) (r := r) (by omega)
  have h2 := rp_ok (g := g) hr
  exact hot_rev h2.2.1 (by rw [h1.2.2, h2.2.2]; omega)
/-- the numbers of blocks grow with their places -/
def NU (g : Nat → Int) (n : Nat) : Prop := ∀ i j, i < j → j < n → gb g i 0 < gb g j 0
theorem plF_none {g : Nat → Int} {b : Int} : ∀ {m i : Nat}, (∀ k, i ≤ k → k < i + m → gb g k 0 ≠ b) → plF g b m i = none
  | 0, i, _ => rfl
  | m + 1, i, h => by
    unfold plF
    rw [if_neg (h i (Nat.le_refl i) (by omega))]
    exact plF_none (fun k a b => h k (by omega) (by omega))
theorem plF_some {g : Nat → Int} {b : Int} : ∀ {m i k : Nat}, i ≤ k → k < i + m → gb g k 0 = b → (∀ q, i ≤ q → q < k → gb g q 0 ≠ b) → plF g b m i = some k
  | 0, i, k, h1, h2, _, _ => by omega
  | m + 1, i, k, h1, h2, h3, h4 => by
    by_cases e : i = k
    · subst e
      unfold plF
      rw [if_pos h3]
    · unfold plF
      rw [if_neg (h4 i (Nat.le_refl i) (by omega))]
      exact plF_some (by omega) (by omega) h3 (fun q a b => h4 q (by omega) b)
theorem pl_nu {g : Nat → Int} {n k : Nat} (h : NU g n) (hk : k < n) : pl g n (gb g k 0) = some k :=
  plF_some (Nat.zero_le k) (by omega) rfl (fun q _ b => by have := h q k b hk; omega)
theorem pl_no {g : Nat → Int} {n : Nat} {b : Int} (h : ∀ k, k < n → gb g k 0 ≠ b) : pl g n b = none := plF_none (fun k _ hk => h k (by omega))
theorem plF_eq {g : Nat → Int} {b : Int} : ∀ {m i k : Nat}, plF g b m i = some k → gb g k 0 = b
  | 0, i, k, h => by cases h
  | m + 1, i, k, h => by
    unfold plF at h
    split at h
    · cases h; assumption
    · exact plF_eq h
theorem pl_eq {g : Nat → Int} {n k : Nat} {b : Int} (h : pl g n b = some k) : gb g k 0 = b := plF_eq h
end
section
/-! what the law asks of a state, beyond what every state keeps to -/
def RM (g : Nat → Int) (n : Nat) : Prop := ∀ sh : Nat, sh < 3 → onF g n sh 1 ≤ g (6 + sh)
def IV (g : Nat → Int) (n : Nat) : Prop := RM g n ∧ g 2 ≤ g 1 ∧ NU g n ∧ (∀ k, k < n → gb g k 0 < g 16) ∧ (∀ k, k < n → 0 < gb g k 5 → gb g k 3 = 2) ∧ (∀ k, k < n → 0 ≤ gb g k 7 ∧ gb g k 7 ≤ g 17 + g 22)
theorem RM.eqv {g g' : Nat → Int} {n : Nat} (h : RM g n) (e1 : ∀ j, 6 ≤ j → j < 9 → g' j = g j) (e2 : ∀ k, k < n → gb g' k 3 = gb g k 3 ∧ gb g' k 1 = gb g k 1) : RM g' n := fun sh hs => by
  rw [on_congr (g' := g) (by decide) e2, e1 (6 + sh) (by omega) (by omega)]
  exact h sh hs
theorem NU.eqv {g g' : Nat → Int} {n : Nat} (h : NU g n) (e2 : ∀ k, k < n → gb g' k 0 = gb g k 0) : NU g' n := fun i j hi hj => by
  rw [e2 i (by omega), e2 j hj]
  exact h i j hi hj
theorem IV.eqv {g g' : Nat → Int} {n : Nat} (h : IV g n) (e1 : ∀ j, j = 1 ∨ j = 2 ∨ (6 ≤ j ∧ j < 9) ∨ j = 16 ∨ j = 17 ∨ j = 22 → g' j = g j) (e2 : ∀ k, k < n → ∀ j, j = 0 ∨ j = 1 ∨ j = 3 ∨ j = 5 ∨ j = 7 → gb g' k j = gb g k j) : IV g' n := by
  obtain ⟨h1, h2, h3, h4, h5, h6⟩ := h
  refine ⟨h1.eqv (fun j a b => e1 j (by omega)) (fun k hk => ⟨e2 k hk 3 (by omega), e2 k hk 1 (by omega)⟩), ?_, h3.eqv (fun k hk => e2 k hk 0 (by omega)), fun k hk => ?_, fun k hk => ?_, fun k hk => ?_⟩
  · rw [e1 1 (by omega), e1 2 (by omega)]; exact h2
  · rw [e2 k hk 0 (by omega), e1 16 (by omega)]; exact h4 k hk
  · rw [e2 k hk 5 (by omega), e2 k hk 3 (by omega)]; exact h5 k hk
  · rw [e2 k hk 7 (by omega), e1 17 (by omega), e1 22 (by omega)]; exact h6 k hk
theorem RM.mv {g : Nat → Int} {n k sh : Nat} (h : RM g n) (hG : GI g n) (hk : k < n) (hr : onF g n sh 1 + gb g k 1 ≤ g (6 + sh)) : RM (mv g k (sh : Int)) n := by
  intro s hs
  have h1 := h s hs
  have hb := (hG.b hk).2.1
  rw [mv_on hk, mv_num (by omega)]
  by_cases e : sh = s
  · subst e
    rw [if_pos rfl]
    split <;> omega
  · rw [if_neg (show ¬ (sh : Int) = (s : Int) by omega)]
    split <;> omega
theorem fr_rm {g : Nat → Int} {n : Nat} {z : Int} {sh : Nat} (h : fr g n z = some sh) : onF g n sh 1 + z ≤ g (6 + sh) := by
  unfold fr rmB at h
  split at h
  · rename_i a; cases h; exact of_decide_eq_true a
  · split at h
    · rename_i a; cases h; exact of_decide_eq_true a
    · split at h
      · rename_i a; cases h; exact of_decide_eq_true a
      · cases h
theorem IV.ad {g : Nat → Int} {n : Nat} {z : Int} {sh : Nat} (h : IV g n) (hs : sh < 3) (hz : 1 ≤ z) (hr : onF g n sh 1 + z ≤ g (6 + sh)) (h17 : 0 ≤ g 17 + g 22) : IV (adG g n z sh) (n + 1) := by
  obtain ⟨h1, h2, h3, h4, h5, h6⟩ := h
  have hnum : ∀ j, j < 23 → j ≠ 15 → j ≠ 16 → adG g n z sh j = g j := fun j a b c => by rw [adG_num a, if_neg b, if_neg c]
  refine ⟨fun s hs3 => ?_, ?_, fun i j hi hj => ?_, fun k hk => ?_, fun k hk => ?_, fun k hk => ?_⟩
  · have := h1 s hs3
    rw [adG_on, hnum _ (by omega) (by omega) (by omega)]
    by_cases e : sh = s
    · subst e
      rw [if_pos rfl]
      exact hr
    · rw [if_neg (show ¬ (sh : Int) = (s : Int) by omega)]
      omega
  · rw [hnum 1 (by decide) (by decide) (by decide), hnum 2 (by decide) (by decide) (by decide)]; exact h2
  · rw [adG_old (by omega) (by decide)]
    by_cases e : j < n
    · rw [adG_old e (by decide)]; exact h3 i j hi e
    · rw [show j = n by omega, adG_new (by decide), if_pos rfl]; exact h4 i (by omega)
  · rw [adG_num (by decide), if_neg (by decide), if_pos rfl]
    by_cases e : k < n
    · have := h4 k e
      rw [adG_old e (by decide)]; omega
    · rw [show k = n by omega, adG_new (by decide), if_pos rfl]; omega
  · by_cases e : k < n
    · rw [adG_old e (by decide), adG_old e (by decide)]; exact h5 k e
    · rw [show k = n by omega, adG_new (by decide), if_neg (by decide), if_neg (by decide), if_neg (by decide), if_neg (by decide)]; omega
  · rw [hnum 17 (by decide) (by decide) (by decide), hnum 22 (by decide) (by decide) (by decide)]
    by_cases e : k < n
    · rw [adG_old e (by decide)]; exact h6 k e
    · rw [show k = n by omega, adG_new (by decide), if_neg (by decide), if_neg (by decide), if_neg (by decide), if_neg (by decide)]; omega
theorem rm_gb {g : Nat → Int} {k q j : Nat} (hj : j < 8) : gb (rmG g k) q j = gb g (if q < k then q else q + 1) j := by
  by_cases e : q < k
  · rw [rmG_lo e hj, if_pos e]
  · rw [rmG_hi (by omega) hj, if_neg e]
theorem IV.rm {g : Nat → Int} {n k : Nat} (h : IV g n) (hG : GI g n) (hk : k < n) : IV (rmG g k) (n - 1) := by
  obtain ⟨h1, h2, h3, h4, h5, h6⟩ := h
  have hnum : ∀ j, j < 23 → j ≠ 15 → rmG g k j = g j := fun j a b => by rw [rmG_num a, if_neg b]
  have hq : ∀ q, q < n - 1 → (if q < k then q else q + 1) < n := fun q hq => by split <;> omega
  refine ⟨fun s hs3 => ?_, ?_, fun i j hi hj => ?_, fun q hq1 => ?_, fun q hq1 => ?_, fun q hq1 => ?_⟩
  · have := h1 s hs3
    have hb := (hG.b hk).2.1
    rw [rmG_on hk _ _ (by decide), hnum _ (by omega) (by omega), if_neg (show ¬ (1 : Nat) = 0 by decide)]
    split <;> omega
  · rw [hnum 1 (by decide) (by decide), hnum 2 (by decide) (by decide)]; exact h2
  · rw [rm_gb (by decide), rm_gb (by decide)]
    exact h3 _ _ (by split <;> split <;> omega) (hq j hj)
  · rw [rm_gb (by decide), hnum 16 (by decide) (by decide)]; exact h4 _ (hq q hq1)
  · rw [rm_gb (by decide), rm_gb (by decide)]; exact h5 _ (hq q hq1)
  · rw [rm_gb (by decide), hnum 17 (by decide) (by decide), hnum 22 (by decide) (by decide)]; exact h6 _ (hq q hq1)
theorem rm_no {g : Nat → Int} {n k : Nat} (h : NU g n) (hk : k < n) : pl (rmG g k) (n - 1) (gb g k 0) = none := pl_no (fun q hq => by
  rw [rm_gb (by decide)]
  by_cases e : q < k
  · rw [if_pos e]
    have := h q k e hk; omega
  · rw [if_neg e]
    have := h k (q + 1) (by omega) (by omega); omega)
theorem IV.set {g : Nat → Int} {n a : Nat} {v : Int} (h : IV g n) (ha : a < 15) (hal : alS g n a v) : IV (gN g a v) n := by
  obtain ⟨h1, h2, h3, h4, h5, h6⟩ := h
  obtain ⟨a1, a2, a3⟩ := hal
  refine ⟨fun s hs3 => ?_, ?_, fun i j hi hj => ?_, fun q hq1 => ?_, fun q hq1 => ?_, fun q hq1 => ?_⟩
  · have := h1 s hs3
    rw [on_congr (g' := g) (by decide) (fun k hk => ⟨gN_gb (by omega), gN_gb (by omega)⟩), gN_num]
    by_cases e : 6 + s = a
    · rw [if_pos e]
      have h9 := a3 (by omega)
      rw [show a - 6 = s by omega] at h9
      exact h9
    · rw [if_neg e]; exact this
  · rw [gN_num, gN_num]
    by_cases e1 : a = 1
    · rw [if_neg (by omega), if_pos e1.symm]; exact a1 e1
    · rw [if_neg (show ¬ 1 = a by omega)]
      by_cases e2 : a = 2
      · rw [if_pos e2.symm]; exact a2 e2
      · rw [if_neg (show ¬ 2 = a by omega)]; exact h2
  · rw [gN_gb (by omega), gN_gb (by omega)]; exact h3 i j hi hj
  · rw [gN_gb (by omega), gN_num, if_neg (by omega)]; exact h4 q hq1
  · rw [gN_gb (by omega), gN_gb (by omega)]; exact h5 q hq1
  · rw [gN_gb (by omega), gN_num, if_neg (by omega), gN_num, if_neg (by omega)]; exact h6 q hq1
theorem IV.pin {g : Nat → Int} {n k : Nat} {p : Int} (h : IV g n) : IV (gB g k 4 p) n :=
  h.eqv (fun j hj => gB_num (by omega)) (fun q _ j hj => gB_ne (by decide) (by omega) (by omega))
end
section
/-! a night, block by block -/
def y0 (y : Nat → Int) (n : Nat) : Int := sm (fun k => if y k = 0 then 1 else 0) n
theorem mp_gb {g : Nat → Int} {k sh q j : Nat} (hj : j < 8) : gb (mp g k sh) q j = if q = k ∧ j = 3 then (sh : Int) else if q = k ∧ j = 7 then gb g k 7 + 1 else if q = k ∧ j = 5 ∧ sh = 2 then g 4 else gb g q j := by
  unfold mp
  by_cases e : sh = 2
  · rw [if_pos e, gB_gb (by decide) hj, mv_num (by decide), mv_gb hj]
    by_cases e5 : q = k ∧ j = 5
    · rw [if_pos e5, if_neg (by omega), if_neg (by omega), if_pos ⟨e5.1, e5.2, e⟩]
    · rw [if_neg e5, if_neg (show ¬ (q = k ∧ j = 5 ∧ sh = 2) by omega)]
  · rw [if_neg e, mv_gb hj, if_neg (show ¬ (q = k ∧ j = 5 ∧ sh = 2) by omega)]
/-- what the turns keep: row by row, with why each block stays -/
def NTk (gF g y : Nat → Int) (k : Nat) : Prop := (gb g k 0 = gb gF k 0 ∧ gb g k 1 = gb gF k 1 ∧ gb g k 2 = gb gF k 2 ∧ gb g k 4 = gb gF k 4) ∧
  ((y k ≠ 0 ∧ gb g k 3 = gb gF k 3 ∧ gb g k 5 = gb gF k 5 ∧ gb g k 7 = gb gF k 7 ∧ (y k = rs gF k ∨ (rs gF k = 4 ∧ y k = 5))) ∨
   (y k = 0 ∧ rs gF k = 4 ∧ gb g k 3 ≠ gb gF k 3 ∧ 0 ≤ gb g k 3 ∧ gb g k 3 ≤ 2 ∧ gb g k 7 = gb gF k 7 + 1 ∧ gb g k 5 = (if gb g k 3 = 2 then gF 4 else gb gF k 5)))
def NTr (gF : Nat → Int) (n : Nat) (g y : Nat → Int) : Prop := (∀ j, j < 23 → g j = gF j) ∧ RM g n ∧ ∀ k, k < n → NTk gF g y k
theorem rs_ne (g : Nat → Int) (k : Nat) : rs g k ≠ 0 := by unfold rs; split <;> (try split) <;> (try split) <;> omega
theorem rs4 {g : Nat → Int} {k : Nat} (h : rs g k = 4) : gb g k 4 = 0 ∧ gb g k 5 ≤ 0 ∧ wt g k ≠ gb g k 3 := by
  unfold rs at h
  split at h
  · split at h
    · split at h
      · omega
      · exact ⟨by assumption, by assumption, by assumption⟩
    · omega
  · omega
theorem NTr.start {gF : Nat → Int} {n : Nat} (h : RM gF n) : NTr gF n gF (rs gF) := ⟨fun _ _ => rfl, h, fun k _ => ⟨⟨rfl, rfl, rfl, rfl⟩, Or.inl ⟨rs_ne gF k, rfl, rfl, rfl, Or.inl rfl⟩⟩⟩
theorem tg_ok {w g : Nat → Int} {n k sh : Nat} (h : tg w g n k = some sh) (hw : 0 ≤ w k ∧ w k ≤ 2) (h3 : 0 ≤ gb g k 3 ∧ gb g k 3 ≤ 2) (hne : w k ≠ gb g k 3) : onF g n sh 1 + gb g k 1 ≤ g (6 + sh) ∧ sh < 3 ∧ (sh : Int) ≠ gb g k 3 := by
  unfold tg rmB at h
  split at h
  · rename_i a
    cases h
    exact ⟨of_decide_eq_true a, by omega, by omega⟩
  · split at h
    · rename_i a
      cases h
      refine ⟨of_decide_eq_true a.2, by decide, ?_⟩
      have := a.1
      show ((1 : Nat) : Int) ≠ gb g k 3
      omega
    · cases h
/-- one move -/
theorem NTr.go {gF g y : Nat → Int} {n k sh : Nat} (h : NTr gF n g y) (hG : GI g n) (hk : k < n) (hy : y k = 4) (hr : onF g n sh 1 + gb g k 1 ≤ g (6 + sh)) (hs : sh < 3) (hne : (sh : Int) ≠ gb g k 3) : NTr gF n (mp g k sh) (yu y k 0) := by
  obtain ⟨h1, h2, h3⟩ := h
  refine ⟨fun j hj => (mp_num hj).trans (h1 j hj), ?_, fun q hq => ?_⟩
  · refine (RM.mv h2 hG hk hr).eqv (fun j a b => ?_) (fun q hq => ?_)
    · rw [mp_num (by omega), mv_num (by omega)]
    · rw [mp_gb (by decide), mp_gb (by decide), mv_gb (by decide), mv_gb (by decide)]
      exact ⟨by rw [if_neg (show ¬ (q = k ∧ 3 = 5 ∧ sh = 2) by omega)], by rw [if_neg (show ¬ (q = k ∧ 1 = 5 ∧ sh = 2) by omega)]⟩
  · have hq3 := h3 q hq
    unfold NTk at hq3 ⊢
    unfold yu
    by_cases e : q = k
    · subst e
      have hq4 : rs gF q = 4 ∧ gb g q 3 = gb gF q 3 ∧ gb g q 5 = gb gF q 5 ∧ gb g q 7 = gb gF q 7 := by
        rcases hq3.2 with a | a
        · exact ⟨by omega, a.2.1, a.2.2.1, a.2.2.2.1⟩
        · omega
      have m3 : gb (mp g q sh) q 3 = (sh : Int) := by rw [mp_gb (by decide), if_pos ⟨rfl, rfl⟩]
      have m7 : gb (mp g q sh) q 7 = gb g q 7 + 1 := by rw [mp_gb (by decide), if_neg (by omega), if_pos ⟨rfl, rfl⟩]
      have m5 : gb (mp g q sh) q 5 = if sh = 2 then g 4 else gb g q 5 := by
        rw [mp_gb (by decide), if_neg (by omega), if_neg (by omega)]
        by_cases e2 : sh = 2
        · rw [if_pos ⟨rfl, rfl, e2⟩, if_pos e2]
        · rw [if_neg (by omega), if_neg e2]
      have hm : ∀ j, j < 8 → j ≠ 3 → j ≠ 7 → j ≠ 5 → gb (mp g q sh) q j = gb g q j := fun j a b c d => by
        rw [mp_gb a, if_neg (by omega), if_neg (by omega), if_neg (by omega)]
      rw [if_pos rfl, m3, m7, m5, hm 0 (by decide) (by decide) (by decide) (by decide), hm 1 (by decide) (by decide) (by decide) (by decide), hm 2 (by decide) (by decide) (by decide) (by decide), hm 4 (by decide) (by decide) (by decide) (by decide)]
      refine ⟨hq3.1, Or.inr ⟨rfl, hq4.1, by rw [← hq4.2.1]; exact hne, by omega, by omega, by rw [hq4.2.2.2], ?_⟩⟩
      by_cases e2 : sh = 2
      · rw [if_pos e2, if_pos (by omega)]; exact h1 4 (by decide)
      · rw [if_neg e2, if_neg (by omega)]; exact hq4.2.2.1
    · have hm : ∀ j, j < 8 → gb (mp g k sh) q j = gb g q j := fun j a => by
        rw [mp_gb a, if_neg (by omega), if_neg (by omega), if_neg (by omega)]
      rw [if_neg e, hm 0 (by decide), hm 1 (by decide), hm 2 (by decide), hm 3 (by decide), hm 4 (by decide), hm 5 (by decide), hm 7 (by decide)]
      exact hq3
theorem NTr.stay {gF g y : Nat → Int} {n k : Nat} (h : NTr gF n g y) (hk : k < n) (hy : y k = 4) : NTr gF n g (yu y k 5) := by
  obtain ⟨h1, h2, h3⟩ := h
  refine ⟨h1, h2, fun q hq => ?_⟩
  have hq3 := h3 q hq
  unfold NTk at hq3 ⊢
  unfold yu
  by_cases e : q = k
  · subst e
    rw [if_pos rfl]
    refine ⟨hq3.1, Or.inl ?_⟩
    rcases hq3.2 with a | a
    · exact ⟨by decide, a.2.1, a.2.2.1, a.2.2.2.1, Or.inr ⟨by omega, rfl⟩⟩
    · omega
  · rw [if_neg e]
    exact hq3
theorem y0_yu {y : Nat → Int} {n k : Nat} {v : Int} (hk : k < n) (hy : y k ≠ 0) : y0 (yu y k v) n = y0 y n + (if v = 0 then 1 else 0) := by
  unfold y0
  rw [sm_one (h := fun k => if y k = 0 then 1 else 0) hk (fun q _ hne => by unfold yu; rw [if_neg hne])]
  show _ - (if y k = 0 then (1 : Int) else 0) + (if yu y k v k = 0 then 1 else 0) = _
  rw [if_neg hy]
  unfold yu
  rw [if_pos rfl]
  omega
/-- the turns -/
theorem NTr.turns {gF : Nat → Int} {n : Nat} {most : Int} {dn : Bool} : ∀ (f : Nat) (g y : Nat → Int) (m : Int), GI g n → NTr gF n g y → NTr gF n (tn (wt gF) n most dn f g y m).1 (tn (wt gF) n most dn f g y m).2.1 ∧ y0 (tn (wt gF) n most dn f g y m).2.1 n = y0 y n + ((tn (wt gF) n most dn f g y m).2.2 - m)
  | 0, g, y, m, hG, h => ⟨h, by show y0 y n = y0 y n + (m - m); omega⟩
  | f + 1, g, y, m, hG, h => by
    by_cases hm : m < most
    · cases hr : nxF (wt gF) g y dn n with
      | none => rw [tn_none hm hr]; exact ⟨h, by show y0 y n = y0 y n + (m - m); omega⟩
      | some k =>
        obtain ⟨hk, hc⟩ := nxF_lt hr
        unfold cnd at hc
        rw [Bool.and_eq_true] at hc
        have hy : y k = 4 := of_decide_eq_true hc.1
        have hq := (h.2.2 k hk).2
        have hb := (hG.b hk).2.2.2.1
        have hw := wt_bounds gF k
        have h4 : rs gF k = 4 ∧ gb g k 3 = gb gF k 3 := by
          rcases hq with a | a
          · exact ⟨by omega, a.2.1⟩
          · omega
        have h5 := rs4 h4.1
        cases ht : tg (wt gF) g n k with
        | none =>
          rw [tn_stay hm hr ht]
          have ih := NTr.turns (most := most) (dn := dn) f g (yu y k 5) m hG (h.stay hk hy)
          refine ⟨ih.1, ?_⟩
          rw [ih.2, y0_yu hk (by omega), if_neg (by decide)]
          omega
        | some sh =>
          rw [tn_go hm hr ht]
          have ht2 := tg_ok ht hw hb (by rw [h4.2]; exact h5.2.2)
          have ih := NTr.turns (most := most) (dn := dn) f (mp g k sh) (yu y k 0) (m + 1) (hG.setP ht2.2.1) (h.go hG hk hy ht2.1 ht2.2.1 ht2.2.2)
          refine ⟨ih.1, ?_⟩
          rw [ih.2, y0_yu hk (by omega), if_pos rfl]
          omega
    · rw [tn_stop (by omega)]; exact ⟨h, by show y0 y n = y0 y n + (m - m); omega⟩
/-- a whole night's turns -/
theorem NTr.night {g : Nat → Int} {n : Nat} {most : Int} (hG : GI g n) (h : RM (nt1 g n) n) : NTr (nt1 g n) n (ntU g n most).1 (ntU g n most).2.1 ∧ y0 (ntU g n most).2.1 n = ntM g n most := by
  have h0 : y0 (rs (nt1 g n)) n = 0 := by
    unfold y0
    rw [sm_congr (h := fun _ => 0) (fun k _ => if_neg (rs_ne _ k)), sm_zero]
  have h1 := NTr.turns (most := most) (dn := true) 24 (nt1 g n) (rs (nt1 g n)) 0 hG.n1 (NTr.start h)
  have h2 := NTr.turns (most := most - (ntD g n most).2.2) (dn := false) 24 (ntD g n most).1 (ntD g n most).2.1 0 (hG.nD most) h1.1
  refine ⟨h2.1, ?_⟩
  have h3 := h1.2
  have h4 := h2.2
  show y0 (tn (wt (nt1 g n)) n (most - (ntD g n most).2.2) false 24 (ntD g n most).1 (ntD g n most).2.1 0).2.1 n = (ntD g n most).2.2 + (ntU g n most).2.2
  rw [h4]
  change y0 (ntD g n most).2.1 n = y0 (rs (nt1 g n)) n + ((ntD g n most).2.2 - 0) at h3
  rw [h3, h0]
  show 0 + ((ntD g n most).2.2 - 0) + ((ntU g n most).2.2 - 0) = _
  omega
theorem ntM_most {g : Nat → Int} {n : Nat} {most : Int} (h : 0 ≤ most) : ntM g n most ≤ most := by
  have h1 := tn_m (w := wt (nt1 g n)) (n := n) (most := most) (dn := true) 24 (nt1 g n) (rs (nt1 g n)) 0
  have h2 := tn_m (w := wt (nt1 g n)) (n := n) (most := most - (ntD g n most).2.2) (dn := false) 24 (ntD g n most).1 (ntD g n most).2.1 0
  have e1 : (ntD g n most).2.2 = (tn (wt (nt1 g n)) n most true 24 (nt1 g n) (rs (nt1 g n)) 0).2.2 := rfl
  have e2 : (ntU g n most).2.2 = (tn (wt (nt1 g n)) n (most - (ntD g n most).2.2) false 24 (ntD g n most).1 (ntD g n most).2.1 0).2.2 := rfl
  unfold ntM
  omega
/-! the start of a night: prices and fading -/
theorem fd1_gb {g : Nat → Int} {k q j : Nat} {f : Int} (hj : j < 8) : gb (fd1 g k f) q j = if q = k ∧ j = 2 then gb g k 2 * f / 100 else if q = k ∧ j = 5 then max (gb g k 5 - 1) 0 else gb g q j := by
  unfold fd1 fdH
  rw [gB_gb (by decide) hj, gB_ne (by decide) (by decide) (by decide), gB_gb (by decide) hj]
  by_cases e : q = k ∧ j = 5
  · rw [if_pos e, if_neg (by omega), if_pos e]
  · rw [if_neg e, if_neg e]
theorem fdF_gb {g : Nat → Int} {q j : Nat} (hj : j < 8) : ∀ k : Nat, gb (fdF g k) q j = if q < k ∧ j = 2 then gb g q 2 * g 0 / 100 else if q < k ∧ j = 5 then max (gb g q 5 - 1) 0 else gb g q j
  | 0 => by
    rw [if_neg (by omega), if_neg (by omega)]
    rfl
  | k + 1 => by
    show gb (fd1 (fdF g k) k (g 0)) q j = _
    rw [fd1_gb hj]
    by_cases e : q = k
    · subst e
      by_cases e2 : j = 2
      · rw [if_pos ⟨rfl, e2⟩, if_pos ⟨by omega, e2⟩, fdF_gb (by decide) q, if_neg (by omega), if_neg (by omega)]
      · rw [if_neg (by omega), if_neg (show ¬ (q < q + 1 ∧ j = 2) by omega)]
        by_cases e5 : j = 5
        · rw [if_pos ⟨rfl, e5⟩, if_pos ⟨by omega, e5⟩, fdF_gb (by decide) q, if_neg (by omega), if_neg (by omega)]
        · rw [if_neg (by omega), if_neg (by omega), fdF_gb hj q, if_neg (by omega), if_neg (by omega)]
    · rw [if_neg (by omega), if_neg (by omega), fdF_gb hj k]
      by_cases e2 : q < k ∧ j = 2
      · rw [if_pos e2, if_pos (by omega)]
      · rw [if_neg e2, if_neg (show ¬ (q < k + 1 ∧ j = 2) by omega)]
        by_cases e5 : q < k ∧ j = 5
        · rw [if_pos e5, if_pos (by omega)]
        · rw [if_neg e5, if_neg (by omega)]
theorem n1_gb {g : Nat → Int} {n q j : Nat} (hj : j < 8) (hq : q < n) : gb (nt1 g n) q j = if j = 2 then gb g q 2 * g 0 / 100 else if j = 5 then max (gb g q 5 - 1) 0 else gb g q j := by
  unfold nt1
  rw [fdF_gb hj, py_gb, py_gb, py_gb, py_num (by decide) (by decide)]
  by_cases e2 : j = 2
  · rw [if_pos ⟨hq, e2⟩, if_pos e2]
  · rw [if_neg (by omega), if_neg e2]
    by_cases e5 : j = 5
    · rw [if_pos ⟨hq, e5⟩, if_pos e5]
    · rw [if_neg (by omega), if_neg e5]
theorem n1_num {g : Nat → Int} {n j : Nat} (hj : j < 23) (h17 : j ≠ 17) (h18 : j ≠ 18) : nt1 g n j = g j := by
  unfold nt1
  rw [fd_num hj, py_num h17 h18]
theorem n1_17 {g : Nat → Int} {n : Nat} : nt1 g n 17 = g 17 + 1 := by
  unfold nt1
  rw [fd_num (by decide)]
  unfold pyF pyF pyF pyF
  rw [gN_num, if_neg (by decide), gN_num, if_neg (by decide), gN_num, if_neg (by decide), gN_num, if_pos rfl]
theorem RM.n1 {g : Nat → Int} {n : Nat} (h : RM g n) : RM (nt1 g n) n := h.eqv (fun j a b => n1_num (by omega) (by omega) (by omega)) (fun k hk => ⟨by rw [n1_gb (by decide) hk, if_neg (by decide), if_neg (by decide)], by rw [n1_gb (by decide) hk, if_neg (by decide), if_neg (by decide)]⟩)
/-- after a night: what the law sees of each block -/
theorem night_k {g : Nat → Int} {n k : Nat} {most : Int} (hG : GI g n) (hI : IV g n) (hk : k < n) : gb (ntU g n most).1 k 0 = gb g k 0 ∧ gb (ntU g n most).1 k 1 = gb g k 1 ∧ gb (ntU g n most).1 k 2 = gb g k 2 * g 0 / 100 ∧ (0 ≤ (ntU g n most).2.1 k ∧ (ntU g n most).2.1 k ≤ 5) ∧ ((ntU g n most).2.1 k = 1 ↔ gb g k 4 = 1) ∧ ((ntU g n most).2.1 k = 2 → 2 ≤ gb g k 5) ∧
    (((ntU g n most).2.1 k ≠ 0 ∧ gb (ntU g n most).1 k 3 = gb g k 3 ∧ gb (ntU g n most).1 k 7 = gb g k 7 ∧ gb (ntU g n most).1 k 5 = max (gb g k 5 - 1) 0) ∨
     ((ntU g n most).2.1 k = 0 ∧ gb (ntU g n most).1 k 3 ≠ gb g k 3 ∧ gb (ntU g n most).1 k 7 = gb g k 7 + 1 ∧ (gb (ntU g n most).1 k 3 = 2 → gb (ntU g n most).1 k 5 = g 4) ∧ (gb (ntU g n most).1 k 3 ≠ 2 → gb (ntU g n most).1 k 5 = 0))) := by
  have hN := (NTr.night (most := most) hG hI.1.n1).1
  have hb := hG.b hk
  obtain ⟨⟨q0, q1, q2, q4⟩, q⟩ := hN.2.2 k hk
  generalize hg2 : (ntU g n most).1 = g2 at *
  generalize hy2 : (ntU g n most).2.1 = y2 at *
  rw [n1_gb (by decide) hk, if_neg (by decide), if_neg (by decide)] at q0 q1 q4
  rw [n1_gb (by decide) hk, if_pos rfl] at q2
  have f3 : gb (nt1 g n) k 3 = gb g k 3 := by rw [n1_gb (by decide) hk, if_neg (by decide), if_neg (by decide)]
  have f4 : gb (nt1 g n) k 4 = gb g k 4 := by rw [n1_gb (by decide) hk, if_neg (by decide), if_neg (by decide)]
  have f7 : gb (nt1 g n) k 7 = gb g k 7 := by rw [n1_gb (by decide) hk, if_neg (by decide), if_neg (by decide)]
  have f5 : gb (nt1 g n) k 5 = max (gb g k 5 - 1) 0 := by rw [n1_gb (by decide) hk, if_neg (by decide), if_pos rfl]
  have fn4 : nt1 g n 4 = g 4 := n1_num (by decide) (by decide) (by decide)
  have hrs : rs (nt1 g n) k = if gb g k 4 = 0 then (if max (gb g k 5 - 1) 0 ≤ 0 then (if wt (nt1 g n) k = gb g k 3 then 3 else 4) else 2) else 1 := by
    unfold rs
    rw [f3, f4, f5]
  rw [f3, f5, f7] at q
  rw [fn4] at q
  refine ⟨q0, q1, q2, ?_⟩
  have hr : (gb g k 4 = 1 ∧ rs (nt1 g n) k = 1) ∨ (gb g k 4 = 0 ∧ 2 ≤ gb g k 5 ∧ rs (nt1 g n) k = 2) ∨ (gb g k 4 = 0 ∧ gb g k 5 ≤ 1 ∧ (rs (nt1 g n) k = 3 ∨ rs (nt1 g n) k = 4)) := by
    rw [hrs]
    by_cases e4 : gb g k 4 = 0
    · rw [if_pos e4]
      by_cases e5 : max (gb g k 5 - 1) 0 ≤ 0
      · rw [if_pos e5]
        refine Or.inr (Or.inr ⟨e4, by omega, ?_⟩)
        split
        · exact Or.inl rfl
        · exact Or.inr rfl
      · rw [if_neg e5]
        exact Or.inr (Or.inl ⟨e4, by omega, rfl⟩)
    · rw [if_neg e4]
      exact Or.inl ⟨by omega, rfl⟩
  rcases q with ⟨a1, a2, a3, a4, a5⟩ | ⟨a1, a2, a3, a4, a5, a6, a7⟩
  · exact ⟨by omega, by omega, by omega, Or.inl ⟨a1, a2, a4, a3⟩⟩
  · refine ⟨by omega, by omega, by omega, Or.inr ⟨a1, a3, a6, fun e => by rw [if_pos e] at a7; exact a7, fun e => ?_⟩⟩
    rw [if_neg e] at a7
    omega
theorem IV.nU {g : Nat → Int} {n : Nat} {most : Int} (hG : GI g n) (h : IV g n) : IV (ntU g n most).1 n := by
  have hN := (NTr.night (most := most) hG h.1.n1).1
  have hnum : ∀ j, j < 23 → j ≠ 17 → j ≠ 18 → (ntU g n most).1 j = g j := fun j a b c => (hN.1 j a).trans (n1_num a b c)
  have h17 : (ntU g n most).1 17 = g 17 + 1 := (hN.1 17 (by decide)).trans n1_17
  obtain ⟨h1, h2, h3, h4, h5, h6⟩ := id h
  refine ⟨hN.2.1, ?_, h3.eqv (fun k hk => (night_k hG h hk).1), fun k hk => ?_, fun k hk => ?_, fun k hk => ?_⟩
  · rw [hnum 1 (by decide) (by decide) (by decide), hnum 2 (by decide) (by decide) (by decide)]; exact h2
  · rw [(night_k hG h hk).1, hnum 16 (by decide) (by decide) (by decide)]; exact h4 k hk
  · obtain ⟨-, -, -, -, -, -, q⟩ := night_k (most := most) hG h hk
    have h5k := h5 k hk
    intro hp
    rcases q with ⟨a1, a2, a3, a4⟩ | ⟨a1, a2, a3, a4, a5⟩
    · rw [a2]
      refine h5k ?_
      rw [a4] at hp
      omega
    · exact Classical.byContradiction (fun z => by have := a5 z; omega)
  · obtain ⟨-, -, -, -, -, -, q⟩ := night_k (most := most) hG h hk
    have h6k := h6 k hk
    rw [h17, hnum 22 (by decide) (by decide) (by decide)]
    rcases q with ⟨a1, a2, a3, a4⟩ | ⟨a1, a2, a3, a4, a5⟩ <;> omega
theorem IV.ns {g : Nat → Int} {n : Nat} {most : Int} (hG : GI g n) (h : IV g n) : ∀ i, IV (nsG g n most i) n
  | 0 => h
  | i + 1 => (IV.ns hG h i).nU (hG.ns most i)
theorem IV.np {g : Nat → Int} {n : Nat} (hG : GI g n) (h : IV g n) (i : Nat) : IV (npG g n i) n :=
  (IV.ns hG h i).eqv (fun j hj => by unfold npG; rw [gN_num, if_neg (by omega)]) (fun k _ j _ => by unfold npG; exact gN_gb (by decide))
theorem ns_num {g : Nat → Int} {n : Nat} {most : Int} (hG : GI g n) (h : IV g n) {j : Nat} (hj : j < 23) (h17 : j ≠ 17) (h18 : j ≠ 18) : ∀ i, nsG g n most i j = g j
  | 0 => rfl
  | i + 1 => by
    have hN := (NTr.night (most := most) (hG.ns most i) (IV.ns (most := most) hG h i).1.n1).1
    exact ((hN.1 j hj).trans (n1_num hj h17 h18)).trans (ns_num hG h hj h17 h18 i)
theorem np_num {g : Nat → Int} {n i j : Nat} (hG : GI g n) (h : IV g n) (hj : j < 23) (h17 : j ≠ 17) (h18 : j ≠ 18) (h21 : j ≠ 21) : npG g n i j = g j := by
  unfold npG
  rw [gN_num, if_neg h21]
  exact ns_num hG h hj h17 h18 i
theorem np21 {g : Nat → Int} {n i : Nat} (hG : GI g n) (h : IV g n) : npG g n i 21 = g 21 + nsM g n (g 3) i := by
  unfold npG
  rw [gN_num, if_pos rfl, ns_num hG h (by decide) (by decide) (by decide)]
end
section
/-! readings -/
theorem min_step (x : Int) : min (min x 99999 + 1000) 99999 = min (x + 1000) 99999 := by omega
theorem rd3_num {g : Nat → Int} {k j : Nat} (hj : j < 23) : rdG3 g k j = if j = 19 then g 19 + rdC g k else g j := by
  unfold rdG3 rdG2 rdG1
  rw [gB_num hj, gB_num hj, gN_num]
theorem rd3_gb {g : Nat → Int} {k q j : Nat} (hj : j < 8) : gb (rdG3 g k) q j = if q = k ∧ j = 2 then min (gb g k 2 + 1000) 99999 else if q = k ∧ j = 6 then gb g k 6 + 1 else gb g q j := by
  unfold rdG3 rdG2 rdG1
  rw [gB_gb (by decide) hj, gB_ne (by decide) (by decide) (by decide), gB_gb (by decide) hj, gN_gb (by decide), gN_gb (by decide), gN_gb (by decide)]
theorem rd3_on {g : Nat → Int} {n k : Nat} {sh : Int} : onF (rdG3 g k) n sh 1 = onF g n sh 1 := on_congr (by decide) (fun q _ => ⟨by rw [rd3_gb (by decide), if_neg (by omega), if_neg (by omega)], by rw [rd3_gb (by decide), if_neg (by omega), if_neg (by omega)]⟩)
theorem ab3_num {g : Nat → Int} {k j : Nat} (hj : j < 23) : abG3 g k j = if j = 20 then g 20 + abP g k else if j = 22 then g 22 + 1 else g j := by
  unfold abG3 abG2 abG1
  rw [gB_num hj, gN_num, gN_num, gN_num]
  by_cases e : j = 22
  · rw [if_pos e, if_neg (by decide), if_neg (by omega), if_pos e]
  · rw [if_neg e, if_neg e]
theorem ab3_gb {g : Nat → Int} {k q j : Nat} (hj : j < 8) : gb (abG3 g k) q j = if q = k ∧ j = 5 then 0 else gb g q j := by
  unfold abG3 abG2 abG1
  rw [gB_gb (by decide) hj, gN_gb (by decide), gN_gb (by decide)]
theorem ab3_on {g : Nat → Int} {n k : Nat} {sh : Int} : onF (abG3 g k) n sh 1 = onF g n sh 1 := on_congr (by decide) (fun q _ => ⟨by rw [ab3_gb (by decide), if_neg (by omega)], by rw [ab3_gb (by decide), if_neg (by omega)]⟩)
theorem rmB_iff {g : Nat → Int} {n sh : Nat} {z : Int} : rmB g n sh z = true ↔ onF g n sh 1 + z ≤ g (6 + sh) := by
  unfold rmB
  exact decide_eq_true_iff
theorem ab_num {g : Nat → Int} {n k j : Nat} (hj : j < 23) : abG g n k j = if j = 20 then g 20 + abP g k else if j = 22 then g 22 + 1 else g j := by
  unfold abG
  split
  · rw [mv_num hj, ab3_num hj]
  · split
    · rw [mv_num hj, ab3_num hj]
    · exact ab3_num hj
theorem ab_gb {g : Nat → Int} {n k q j : Nat} (hj : j < 8) (h : q ≠ k ∨ (j ≠ 3 ∧ j ≠ 7)) : gb (abG g n k) q j = if q = k ∧ j = 5 then 0 else gb g q j := by
  unfold abG
  split
  · rw [mv_gb hj, if_neg (by omega), if_neg (by omega), ab3_gb hj]
  · split
    · rw [mv_gb hj, if_neg (by omega), if_neg (by omega), ab3_gb hj]
    · exact ab3_gb hj
/-- asked back: it goes up where there is room, else it stays -/
theorem ab_way {g : Nat → Int} {n k : Nat} : (∃ sh : Nat, sh < 2 ∧ onF g n sh 1 + gb g k 1 ≤ g (6 + sh) ∧ abG g n k = mv (abG3 g k) k (sh : Int)) ∨ (g 6 < onF g n (0 : Nat) 1 + gb g k 1 ∧ g 7 < onF g n (1 : Nat) 1 + gb g k 1 ∧ abG g n k = abG3 g k) := by
  have e0 := rmB_iff (g := abG3 g k) (n := n) (sh := 0) (z := gb g k 1)
  have e1 := rmB_iff (g := abG3 g k) (n := n) (sh := 1) (z := gb g k 1)
  rw [ab3_on, ab3_num (by decide), if_neg (by decide), if_neg (by decide)] at e0 e1
  unfold abG
  by_cases h0 : rmB (abG3 g k) n 0 (gb g k 1) = true
  · rw [if_pos h0]
    exact Or.inl ⟨0, by decide, e0.mp h0, rfl⟩
  · rw [if_neg h0]
    by_cases h1 : rmB (abG3 g k) n 1 (gb g k 1) = true
    · rw [if_pos h1]
      exact Or.inl ⟨1, by decide, e1.mp h1, rfl⟩
    · rw [if_neg h1]
      refine Or.inr ⟨?_, ?_, rfl⟩
      · exact Int.not_le.mp (fun z => h0 (e0.mpr z))
      · exact Int.not_le.mp (fun z => h1 (e1.mpr z))
theorem IV.rd3 {g : Nat → Int} {n k : Nat} (h : IV g n) : IV (rdG3 g k) n := h.eqv (fun j hj => by rw [rd3_num (by omega), if_neg (by omega)]) (fun q _ j hj => by rw [rd3_gb (by omega), if_neg (by omega), if_neg (by omega)])
theorem IV.ab {g : Nat → Int} {n k : Nat} (hG : GI g n) (h : IV g n) (hk : k < n) : IV (abG g n k) n := by
  obtain ⟨h1, h2, h3, h4, h5, h6⟩ := id h
  have hRM : RM (abG3 g k) n := h1.eqv (fun j a b => by rw [ab3_num (by omega), if_neg (by omega), if_neg (by omega)]) (fun q _ => ⟨by rw [ab3_gb (by decide), if_neg (by omega)], by rw [ab3_gb (by decide), if_neg (by omega)]⟩)
  have h7 : ∀ q, q < n → 0 ≤ gb (abG g n k) q 7 ∧ gb (abG g n k) q 7 ≤ gb g q 7 + 1 := fun q hq => by
    have := h6 q hq
    rcases ab_way (g := g) (n := n) (k := k) with ⟨sh, -, -, e⟩ | ⟨-, -, e⟩
    · by_cases z : q = k
      · subst z
        rw [e, mv_gb (by decide), if_neg (by omega), if_pos ⟨rfl, rfl⟩, ab3_gb (by decide), if_neg (by omega)]
        omega
      · rw [e, mv_gb (by decide), if_neg (by omega), if_neg (by omega), ab3_gb (by decide), if_neg (by omega)]
        omega
    · rw [e, ab3_gb (by decide), if_neg (by omega)]
      omega
  refine ⟨?_, ?_, h3.eqv (fun q _ => by rw [ab_gb (by decide) (by omega), if_neg (by omega)]), fun q hq => ?_, fun q hq => ?_, fun q hq => ?_⟩
  · rcases ab_way (g := g) (n := n) (k := k) with ⟨sh, hs, hr, e⟩ | ⟨-, -, e⟩
    · rw [e]
      refine RM.mv hRM hG.ab3 hk ?_
      rw [ab3_on, ab3_gb (by decide), if_neg (by omega), ab3_num (by omega), if_neg (by omega), if_neg (by omega)]
      exact hr
    · rw [e]; exact hRM
  · rw [ab_num (by decide), if_neg (by decide), if_neg (by decide), ab_num (by decide), if_neg (by decide), if_neg (by decide)]; exact h2
  · rw [ab_gb (by decide) (by omega), if_neg (by omega), ab_num (by decide), if_neg (by decide), if_neg (by decide)]; exact h4 q hq
  · rw [ab_gb (by decide) (by omega)]
    by_cases e : q = k
    · rw [if_pos ⟨e, rfl⟩]; omega
    · rw [if_neg (by omega), ab_gb (by decide) (Or.inl e), if_neg (by omega)]; exact h5 q hq
  · have := h7 q hq
    have := h6 q hq
    rw [ab_num (j := 17) (by decide), if_neg (by decide), if_neg (by decide), ab_num (j := 22) (by decide), if_neg (by decide), if_pos rfl]
    omega
theorem IV.rd {g : Nat → Int} {n k : Nat} (hG : GI g n) (h : IV g n) (hk : k < n) : IV (rd1G g n k) n := by
  unfold rd1G
  split
  · exact IV.ab (hG.rd3 hk) h.rd3 hk
  · exact h.rd3
theorem IV.rb {g : Nat → Int} {n k : Nat} (hG : GI g n) (h : IV g n) (hk : k < n) : ∀ t, IV (rbG g n k t) n
  | 0 => h
  | t + 1 => IV.rd (hG.rb hk t) (IV.rb hG h hk t) hk
/-- one reading: off the deep shelf -/
theorem rd_lo {g : Nat → Int} {n k : Nat} (h3 : gb g k 3 ≠ 2) : rd1G g n k = rdG3 g k ∧ rd1P g k = rdC g k := by
  unfold rd1G rd1P
  rw [if_neg h3, if_neg h3]
  exact ⟨rfl, rfl⟩
/-- the block is not on the deep shelf -/
theorem read_lo {g : Nat → Int} {n k : Nat} (h3 : 0 ≤ gb g k 3 ∧ gb g k 3 < 2) (h2 : gb g k 2 ≤ 99999) : ∀ t : Nat, (∀ j, j < 23 → j ≠ 19 → rbG g n k t j = g j) ∧ rbG g n k t 19 = g 19 + rbP g n k t ∧ rbP g n k t = t * (gb g k 1 * g (12 + (gb g k 3).toNat)) ∧ (∀ q j, j < 8 → (q ≠ k ∨ (j ≠ 2 ∧ j ≠ 6)) → gb (rbG g n k t) q j = gb g q j) ∧ gb (rbG g n k t) k 6 = gb g k 6 + t ∧ gb (rbG g n k t) k 2 = min (gb g k 2 + 1000 * t) 99999
  | 0 => ⟨fun _ _ _ => rfl, by show g 19 = g 19 + 0; omega, by show (0 : Int) = ((0 : Nat) : Int) * _; rw [Int.natCast_zero, Int.zero_mul], fun _ _ _ _ => rfl, by show gb g k 6 = gb g k 6 + ((0 : Nat) : Int); omega, by show gb g k 2 = min (gb g k 2 + 1000 * ((0 : Nat) : Int)) 99999; omega⟩
  | t + 1 => by
    obtain ⟨a1, a2, a3, a4, a5, a6⟩ := read_lo h3 h2 t
    have e3 : gb (rbG g n k t) k 3 = gb g k 3 := a4 k 3 (by decide) (by omega)
    have eC : rdC (rbG g n k t) k = gb g k 1 * g (12 + (gb g k 3).toNat) := by
      unfold rdC
      rw [e3, a4 k 1 (by decide) (by omega), a1 _ (by omega) (by omega)]
    obtain ⟨b1, b2⟩ := rd_lo (g := rbG g n k t) (n := n) (k := k) (by omega)
    have eG : rbG g n k (t + 1) = rdG3 (rbG g n k t) k := b1
    have eP : rbP g n k (t + 1) = rbP g n k t + gb g k 1 * g (12 + (gb g k 3).toNat) := by
      show rbP g n k t + rd1P (rbG g n k t) k = _
      rw [b2, eC]
    rw [eG, eP]
    refine ⟨fun j hj hne => ?_, ?_, ?_, fun q j hj hh => ?_, ?_, ?_⟩
    · rw [rd3_num hj, if_neg hne]; exact a1 j hj hne
    · rw [rd3_num (by decide), if_pos rfl, a2, eC]; omega
    · rw [a3, Int.natCast_add, Int.add_mul]; omega
    · rw [rd3_gb hj, if_neg (by omega), if_neg (by omega)]; exact a4 q j hj hh
    · rw [rd3_gb (by decide), if_neg (by omega), if_pos ⟨rfl, rfl⟩, a5]; omega
    · rw [rd3_gb (by decide), if_pos ⟨rfl, rfl⟩, a6, min_step, show gb g k 2 + 1000 * (t : Int) + 1000 = gb g k 2 + 1000 * ((t + 1 : Nat) : Int) by omega]
/-- one reading on the deep shelf -/
theorem rd_hi {g : Nat → Int} {n k : Nat} (h3 : gb g k 3 = 2) : (∀ j, j < 23 → j ≠ 19 → j ≠ 20 → j ≠ 22 → rd1G g n k j = g j) ∧ rd1G g n k 19 = g 19 + rdC g k ∧ rd1G g n k 20 = g 20 + gb g k 1 * g 5 * gb g k 5 ∧ rd1G g n k 22 = g 22 + 1 ∧ rd1P g k = rdC g k + gb g k 1 * g 5 * gb g k 5 ∧
    gb (rd1G g n k) k 0 = gb g k 0 ∧ gb (rd1G g n k) k 1 = gb g k 1 ∧ gb (rd1G g n k) k 5 = 0 ∧ gb (rd1G g n k) k 6 = gb g k 6 + 1 ∧ gb (rd1G g n k) k 2 = min (gb g k 2 + 1000) 99999 ∧
    ((∃ sh : Nat, sh < 2 ∧ onF g n sh 1 + gb g k 1 ≤ g (6 + sh) ∧ gb (rd1G g n k) k 3 = (sh : Int)) ∨ (g 6 < onF g n (0 : Nat) 1 + gb g k 1 ∧ g 7 < onF g n (1 : Nat) 1 + gb g k 1 ∧ gb (rd1G g n k) k 3 = 2 ∧ ∀ s : Int, onF (rd1G g n k) n s 1 = onF g n s 1)) := by
  have eG : rd1G g n k = abG (rdG3 g k) n k := by unfold rd1G; rw [if_pos h3]
  have f1 : gb (rdG3 g k) k 1 = gb g k 1 := by rw [rd3_gb (by decide), if_neg (by omega), if_neg (by omega)]
  have f5 : gb (rdG3 g k) k 5 = gb g k 5 := by rw [rd3_gb (by decide), if_neg (by omega), if_neg (by omega)]
  have eA : abP (rdG3 g k) k = gb g k 1 * g 5 * gb g k 5 := by
    unfold abP
    rw [f1, f5, rd3_num (by decide), if_neg (by decide)]
  have eP : rd1P g k = rdC g k + gb g k 1 * g 5 * gb g k 5 := by unfold rd1P; rw [if_pos h3, eA]
  rw [eG, eP]
  refine ⟨fun j hj h1 h2 h4 => ?_, ?_, ?_, ?_, rfl, ?_, ?_, ?_, ?_, ?_, ?_⟩
  · rw [ab_num hj, if_neg h2, if_neg h4, rd3_num hj, if_neg h1]
  · rw [ab_num (by decide), if_neg (by decide), if_neg (by decide), rd3_num (by decide), if_pos rfl]
  · rw [ab_num (by decide), if_pos rfl, rd3_num (by decide), if_neg (by decide), eA]
  · rw [ab_num (by decide), if_neg (by decide), if_pos rfl, rd3_num (by decide), if_neg (by decide)]
  · rw [ab_gb (by decide) (by omega), if_neg (by omega), rd3_gb (by decide), if_neg (by omega), if_neg (by omega)]
  · rw [ab_gb (by decide) (by omega), if_neg (by omega), f1]
  · rw [ab_gb (by decide) (by omega), if_pos ⟨rfl, rfl⟩]
  · rw [ab_gb (by decide) (by omega), if_neg (by omega), rd3_gb (by decide), if_neg (by omega), if_pos ⟨rfl, rfl⟩]
  · rw [ab_gb (by decide) (by omega), if_neg (by omega), rd3_gb (by decide), if_pos ⟨rfl, rfl⟩]
  · have hw := ab_way (g := rdG3 g k) (n := n) (k := k)
    rw [f1] at hw
    rcases hw with ⟨sh, hs, hr, e⟩ | ⟨w0, w1, e⟩
    · rw [rd3_on, rd3_num (by omega), if_neg (by omega)] at hr
      refine Or.inl ⟨sh, hs, hr, ?_⟩
      rw [e, mv_gb (by decide), if_pos ⟨rfl, rfl⟩]
    · rw [rd3_on, rd3_num (by decide), if_neg (by decide)] at w0 w1
      refine Or.inr ⟨w0, w1, ?_, fun s => ?_⟩
      · rw [e, ab3_gb (by decide), if_neg (by omega), rd3_gb (by decide), if_neg (by omega), if_neg (by omega)]; exact h3
      · rw [e, ab3_on, rd3_on]
/-- the block was on the deep shelf -/
theorem read_hi {g : Nat → Int} {n k : Nat} (h3 : gb g k 3 = 2) (h2 : gb g k 2 ≤ 99999) : ∀ t : Nat, (∀ j, j < 23 → j ≠ 19 → j ≠ 20 → j ≠ 22 → rbG g n k (t + 1) j = g j) ∧ rbG g n k (t + 1) 20 = g 20 + gb g k 1 * g 5 * gb g k 5 ∧ rbG g n k (t + 1) 19 + rbG g n k (t + 1) 20 = g 19 + g 20 + rbP g n k (t + 1) ∧
    gb (rbG g n k (t + 1)) k 0 = gb g k 0 ∧ gb (rbG g n k (t + 1)) k 1 = gb g k 1 ∧ gb (rbG g n k (t + 1)) k 5 = 0 ∧ gb (rbG g n k (t + 1)) k 6 = gb g k 6 + ((t + 1 : Nat) : Int) ∧ gb (rbG g n k (t + 1)) k 2 = min (gb g k 2 + 1000 * ((t + 1 : Nat) : Int)) 99999 ∧
    ((0 ≤ gb (rbG g n k (t + 1)) k 3 ∧ gb (rbG g n k (t + 1)) k 3 < 2 ∧ rbG g n k (t + 1) 22 = g 22 + 1) ∨ (gb (rbG g n k (t + 1)) k 3 = 2 ∧ rbG g n k (t + 1) 22 = g 22 + ((t + 1 : Nat) : Int) ∧ g 6 < onF (rbG g n k (t + 1)) n (0 : Nat) 1 + gb g k 1 ∧ g 7 < onF (rbG g n k (t + 1)) n (1 : Nat) 1 + gb g k 1))
  | 0 => by
    obtain ⟨a1, a2, a3, a4, a5, a6, a7, a8, a9, a10, a11⟩ := rd_hi (n := n) h3
    have eG : rbG g n k (0 + 1) = rd1G g n k := rfl
    have eP : rbP g n k (0 + 1) = 0 + rd1P g k := rfl
    rw [eG, eP]
    refine ⟨a1, a3, by rw [a2, a3, a5]; omega, a6, a7, a8, by rw [a9]; rfl, by rw [a10]; rfl, ?_⟩
    rcases a11 with ⟨sh, hs, -, e⟩ | ⟨w0, w1, e, eo⟩
    · exact Or.inl ⟨by omega, by omega, a4⟩
    · exact Or.inr ⟨e, by rw [a4]; rfl, by rw [eo]; exact w0, by rw [eo]; exact w1⟩
  | t + 1 => by
    obtain ⟨b1, b2, b3, b4, b5, b6, b7, b8, b9⟩ := read_hi h3 h2 t
    have eG : rbG g n k (t + 1 + 1) = rd1G (rbG g n k (t + 1)) n k := rfl
    have eP : rbP g n k (t + 1 + 1) = rbP g n k (t + 1) + rd1P (rbG g n k (t + 1)) k := rfl
    rw [eG, eP]
    generalize rbG g n k (t + 1) = g1 at *
    generalize rbP g n k (t + 1) = p1 at *
    rcases b9 with ⟨c1, c2, c3⟩ | ⟨c1, c2, c3, c4⟩
    · obtain ⟨d1, d2⟩ := rd_lo (g := g1) (n := n) (k := k) (by omega)
      rw [d1, d2]
      refine ⟨fun j hj n1 n2 n3 => ?_, ?_, ?_, ?_, ?_, ?_, ?_, ?_, Or.inl ⟨?_, ?_, ?_⟩⟩
      · rw [rd3_num hj, if_neg n1]; exact b1 j hj n1 n2 n3
      · rw [rd3_num (by decide), if_neg (by decide)]; exact b2
      · rw [rd3_num (by decide), if_pos rfl, rd3_num (by decide), if_neg (by decide)]; omega
      · rw [rd3_gb (by decide), if_neg (by omega), if_neg (by omega)]; exact b4
      · rw [rd3_gb (by decide), if_neg (by omega), if_neg (by omega)]; exact b5
      · rw [rd3_gb (by decide), if_neg (by omega), if_neg (by omega)]; exact b6
      · rw [rd3_gb (by decide), if_neg (by omega), if_pos ⟨rfl, rfl⟩, b7]; omega
      · rw [rd3_gb (by decide), if_pos ⟨rfl, rfl⟩, b8, min_step, show gb g k 2 + 1000 * ((t + 1 : Nat) : Int) + 1000 = gb g k 2 + 1000 * ((t + 1 + 1 : Nat) : Int) by omega]
      · rw [rd3_gb (by decide), if_neg (by omega), if_neg (by omega)]; exact c1
      · rw [rd3_gb (by decide), if_neg (by omega), if_neg (by omega)]; exact c2
      · rw [rd3_num (by decide), if_neg (by decide)]; exact c3
    · obtain ⟨a1, a2, a3, a4, a5, a6, a7, a8, a9, a10, a11⟩ := rd_hi (n := n) c1
      rw [b6, Int.mul_zero] at a3 a5
      have e6 : g1 6 = g 6 := b1 6 (by decide) (by decide) (by decide) (by decide)
      have e7 : g1 7 = g 7 := b1 7 (by decide) (by decide) (by decide) (by decide)
      refine ⟨fun j hj n1 n2 n3 => (a1 j hj n1 n2 n3).trans (b1 j hj n1 n2 n3), by rw [a3, b2]; omega, by rw [a2, a3, a5]; omega, a6.trans b4, a7.trans b5, a8, by rw [a9, b7]; omega, by rw [a10, b8, min_step, show gb g k 2 + 1000 * ((t + 1 : Nat) : Int) + 1000 = gb g k 2 + 1000 * ((t + 1 + 1 : Nat) : Int) from by clear a11; omega], ?_⟩
      rcases a11 with ⟨sh, hs, hr, e⟩ | ⟨w0, w1, e, eo⟩
      · exfalso
        rw [b5] at hr
        rcases (by omega : sh = 0 ∨ sh = 1) with z | z
        · subst z
          change onF g1 n ((0 : Nat) : Int) 1 + gb g k 1 ≤ g1 6 at hr
          omega
        · subst z
          change onF g1 n ((1 : Nat) : Int) 1 + gb g k 1 ≤ g1 7 at hr
          omega
      · exact Or.inr ⟨e, by rw [a4, c2]; omega, by rw [eo]; exact c3, by rw [eo]; exact c4⟩
end
section
/-! what the calls answer, as the law sees it -/
theorem on3 {g : Nat → Int} {n : Nat} (hG : GI g n) (w : Nat) : onF g n 0 w + onF g n 1 w + onF g n 2 w = sm (fun k => if w = 0 then 1 else gb g k w) n := by
  unfold onF
  rw [← sm_add, ← sm_add]
  refine sm_congr (fun k hk => ?_)
  have h3 := (hG.b hk).2.2.2.1
  show (if gb g k 3 = 0 then (if w = 0 then (1 : Int) else gb g k w) else 0) + (if gb g k 3 = 1 then (if w = 0 then (1 : Int) else gb g k w) else 0) + (if gb g k 3 = 2 then (if w = 0 then (1 : Int) else gb g k w) else 0) = (if w = 0 then (1 : Int) else gb g k w)
  rcases (by omega : gb g k 3 = 0 ∨ gb g k 3 = 1 ∨ gb g k 3 = 2) with e | e | e
  · rw [if_pos e, if_neg (show ¬ gb g k 3 = 1 by omega), if_neg (show ¬ gb g k 3 = 2 by omega)]; omega
  · rw [if_neg (show ¬ gb g k 3 = 0 by omega), if_pos e, if_neg (show ¬ gb g k 3 = 2 by omega)]; omega
  · rw [if_neg (show ¬ gb g k 3 = 0 by omega), if_neg (show ¬ gb g k 3 = 1 by omega), if_pos e]; omega
theorem ht_sm {g : Nat → Int} {n : Nat} (hG : GI g n) : htA g n = sm (fun k => gb g k 2) n := by
  have h := on3 hG 2
  unfold htA
  rw [h]
  exact sm_congr (fun k _ => if_neg (by decide))
theorem on_n {g : Nat → Int} {n : Nat} (hG : GI g n) : onF g n 0 0 + onF g n 1 0 + onF g n 2 0 = n := by
  have h := on3 hG 0
  rw [h, sm_congr (h := fun _ => 1) (fun k _ => if_pos rfl), sm_ones]
theorem np1_gb {g : Nat → Int} {n k j : Nat} : gb (npG g n 1) k j = gb (ntU g n (g 3)).1 k j := by
  unfold npG
  exact gN_gb (by decide)
theorem np1_on {g : Nat → Int} {n : Nat} {sh : Int} {w : Nat} (hw : w < 8) : onF (npG g n 1) n sh w = onF (ntU g n (g 3)).1 n sh w := on_congr hw (fun k _ => ⟨np1_gb, np1_gb⟩)
theorem np1_18 {g : Nat → Int} {n : Nat} : npG g n 1 18 = g 18 + (onF g n (0 : Nat) 1 * g 9 + onF g n (1 : Nat) 1 * g 10 + onF g n (2 : Nat) 1 * g 11) := by
  rw [np18]
  show (ntU g n (g 3)).1 18 = _
  rw [nt18, py18_all]
  omega
theorem ns1 {g : Nat → Int} {n : Nat} (hG : GI g n) (hI : IV g n) : nsM g n (g 3) 1 = y0 (ntU g n (g 3)).2.1 n := by
  rw [(NTr.night hG hI.1.n1).2]
  show 0 + ntM g n (g 3) = _
  omega
theorem np1_ht {g : Nat → Int} {n : Nat} (hG : GI g n) (hI : IV g n) : htA (npG g n 1) n = sm (fun k => gb g k 2 * g 0 / 100) n := by
  rw [ht_sm (hG.np 1)]
  exact sm_congr (fun k hk => by rw [np1_gb]; exact (night_k hG hI hk).2.2.1)
theorem nx_late (s : xS) : ∀ m k : Nat, nxM s m (k + 1) ≠ 1
  | 0, k => by show (-5 : Int) ≠ 1; decide
  | m + 1, k => by
    have e : nxM s (m + 1) (k + 1) = if 0 < nvM s (k + 1) then ((k + 1 + 1 : Nat) : Int) else nxM s m (k + 1 + 1) := rfl
    rw [e]
    split
    · omega
    · exact nx_late s m (k + 1)
theorem nx_1 (s : xS) : qNext s = 1 ↔ 0 < nsM s.1 s.2 (s.1 3) 1 := by
  unfold qNext
  show (if 0 < nvM s 0 then ((0 + 1 : Nat) : Int) else nxM s 98 (0 + 1)) = 1 ↔ _
  have e : nvM s 0 = nsM s.1 s.2 (s.1 3) 1 := rfl
  rw [e]
  by_cases h : 0 < nsM s.1 s.2 (s.1 3) 1
  · rw [if_pos h]
    exact ⟨fun _ => h, fun _ => rfl⟩
  · rw [if_neg h]
    exact ⟨fun q => absurd q (nx_late s 98 0), fun q => absurd q h⟩
theorem nx_bounds (s : xS) : ∀ m k : Nat, -5 ≤ nxM s m k ∧ nxM s m k ≤ k + m
  | 0, k => by show (-5 : Int) ≤ -5 ∧ (-5 : Int) ≤ (k : Int) + ((0 : Nat) : Int); omega
  | m + 1, k => by
    have h := nx_bounds s m (k + 1)
    have e : nxM s (m + 1) k = if 0 < nvM s k then ((k + 1 : Nat) : Int) else nxM s m (k + 1) := rfl
    rw [e]
    split <;> omega
/-! the best bound of heat -/
theorem hb_best {s : xS} {t : Nat} : ∀ {i : Nat}, match hbF s t i with
    | none => ∀ q : Nat, q < i → 500 * (q : Int) < s.1 2
    | some (b, l) => (∃ q : Nat, q < i ∧ b = 500 * (q : Int)) ∧ s.1 2 ≤ b ∧ l = pwH s b t ∧ ∀ q : Nat, q < i → s.1 2 ≤ 500 * (q : Int) → (500 * (q : Int) < b → l < pwH s (500 * (q : Int)) t) ∧ (b ≤ 500 * (q : Int) → l ≤ pwH s (500 * (q : Int)) t)
  | 0 => fun q h => absurd h (Nat.not_lt_zero q)
  | i + 1 => by
    have ih := hb_best (s := s) (t := t) (i := i)
    by_cases h2 : 500 * (i : Int) < s.1 2
    · have e : hbF s t (i + 1) = hbF s t i := by show (if _ then _ else _) = _; rw [if_pos h2]
      rw [e]
      cases hh : hbF s t i with
      | none =>
        rw [hh] at ih
        intro q hq
        by_cases z : q = i
        · rw [z]; exact h2
        · exact ih q (by omega)
      | some bl =>
        obtain ⟨b, l⟩ := bl
        rw [hh] at ih
        obtain ⟨⟨q0, a1, a2⟩, a3, a4, a5⟩ := ih
        refine ⟨⟨q0, by omega, a2⟩, a3, a4, fun q hq hq2 => ?_⟩
        by_cases z : q = i
        · subst z; omega
        · exact a5 q (by omega) hq2
    · cases hh : hbF s t i with
      | none =>
        have e : hbF s t (i + 1) = some (500 * (i : Int), pwH s (500 * (i : Int)) t) := by show (if _ then _ else _) = _; rw [if_neg h2, hh]
        rw [hh] at ih
        rw [e]
        refine ⟨⟨i, by omega, rfl⟩, by omega, rfl, fun q hq hq2 => ?_⟩
        by_cases z : q = i
        · subst z; exact ⟨fun w => by omega, fun _ => Int.le_refl _⟩
        · have := ih q (by omega); omega
      | some bl =>
        obtain ⟨b, l⟩ := bl
        rw [hh] at ih
        obtain ⟨⟨q0, a1, a2⟩, a3, a4, a5⟩ := ih
        by_cases hl : pwH s (500 * (i : Int)) t < l
        · have e : hbF s t (i + 1) = some (500 * (i : Int), pwH s (500 * (i : Int)) t) := by show (if _ then _ else _) = _; rw [if_neg h2, hh]; show (if _ then _ else _) = _; rw [if_pos hl]
          rw [e]
          refine ⟨⟨i, by omega, rfl⟩, by omega, rfl, fun q hq hq2 => ?_⟩
          by_cases z : q = i
          · subst z; exact ⟨fun w => by omega, fun _ => Int.le_refl _⟩
          · have hq3 := a5 q (by omega) hq2
            refine ⟨fun w => ?_, fun w => by omega⟩
            rcases (by omega : 500 * (q : Int) < b ∨ b ≤ 500 * (q : Int)) with v | v
            · have := hq3.1 v; omega
            · have := hq3.2 v; omega
        · have e : hbF s t (i + 1) = some (b, l) := by show (if _ then _ else _) = _; rw [if_neg h2, hh]; show (if _ then _ else _) = _; rw [if_neg hl]
          rw [e]
          refine ⟨⟨q0, by omega, a2⟩, a3, a4, fun q hq hq2 => ?_⟩
          by_cases z : q = i
          · subst z; exact ⟨fun w => by omega, fun w => by omega⟩
          · exact a5 q (by omega) hq2
theorem gN_gN {g : Nat → Int} {a b : Int} : gN (gN g 1 a) 1 b = gN g 1 b := by
  funext i
  unfold gN
  by_cases e : i = 1
  · rw [if_pos e, if_pos e]
  · rw [if_neg e, if_neg e, if_neg e]
theorem gN_self {g : Nat → Int} {a : Nat} : gN g a (g a) = g := by
  funext i
  unfold gN
  by_cases e : i = a
  · rw [if_pos e, e]
  · rw [if_neg e]
theorem pw_eq {g : Nat → Int} {n t : Nat} {hot : Int} : npG (gN g 1 hot) n t 18 - gN g 1 hot 18 = pwH (g, n) hot t := by
  unfold pwH
  rw [gN_num (i := 18), if_neg (by decide)]
end
section
/-! the constructors -/
def fv (j : Nat) : Int := [80, 3000, 500, 4, 5, 2, 20, 40, 200, 10, 4, 1, 0, 2, 9].getD j 0
theorem fv_far {j : Nat} (h : 15 ≤ j) : fv j = 0 := by
  unfold fv
  rw [List.getD_eq_getElem?_getD, List.getElem?_eq_none (by simpa using h)]
  rfl
/-- what the cells hold when all is made -/
def iv (q j : Nat) : Int := if q = 2 ∨ q = 13 ∨ q = 24 ∨ q = 37 ∨ q = 48 ∨ q = 59 ∨ q = 70 then fv j else 0
theorem iv_no {q j : Nat} (h : ¬ (q = 2 ∨ q = 13 ∨ q = 24 ∨ q = 37 ∨ q = 48 ∨ q = 59 ∨ q = 70)) : iv q j = 0 := if_neg h
theorem iv_nu {c j : Nat} (h : x_st c) : iv (c + 1) j = fv j := by unfold x_st at h; unfold iv; exact if_pos (by omega)
def JJ (J : xI) : Prop := (∀ q, q < 90 → ∀ j, J q j = iv q j) ∧ ∀ j, j < 15 → J 100 j = fv j
/-- cells below B as they were; of the object at c the first k fields are laid; behind it all is laid -/
def rK (B : xR) (c k : Nat) : xR := fun q j => if q < c then B q j else if q = c ∧ ¬ j < k then none else xR0 q j
def rB (B : xR) (c : Nat) : xR := fun q j => if q < c then B q j else xR0 q j
def q_n (N : Nat) (I : xI) (R : xR) : xQ := fun ro N' I' R' => ro = none ∧ N' = N ∧ I' = I ∧ R' = R
theorem x_z_id {I : xI} {N : Nat} (h : ∀ j, I N j = 0) : I = x_z I N := by
  funext q j
  unfold x_z
  by_cases e : q = N
  · subst e; rw [if_pos rfl]; exact h j
  · rw [if_neg e]
theorem x_up_id {I : xI} {c j : Nat} {z : Int} (h : I c j = z) : x_up I c j z = I := by
  funext q k
  unfold x_up
  by_cases e : q = c ∧ k = j
  · rw [if_pos e, e.1, e.2]; exact h.symm
  · rw [if_neg e]
theorem xR0_no {q : Nat} (h : q ≠ 0 ∧ q ≠ 34 ∧ q ≠ 35 ∧ q ≠ 80 ∧ q ≠ 83 ∧ q ≠ 88 ∧ ¬ x_st q) (j : Nat) : xR0 q j = none := by
  unfold x_st at h
  unfold xR0
  rw [if_neg (by omega), if_neg (by omega), if_neg (by omega), if_neg (by omega), if_neg (by omega), if_neg (by omega)]
theorem rK_put {B : xR} {c k N : Nat} (k' v : Nat) (hcN : c < N) (hkk : k < k') (hv : xR0 c k = some v) (hmid : ∀ j, k < j → j < k' → xR0 c j = none) (hz : ∀ j, xR0 N j = none) : rK B c k' = x_upR (x_zR (rK B c k) N) c k (some v) := by
  funext q j
  unfold x_upR x_zR rK
  by_cases h1 : q = c
  · subst h1
    rw [if_neg (Nat.lt_irrefl q), if_neg (show ¬ q = N by omega), if_neg (Nat.lt_irrefl q)]
    by_cases h2 : j = k
    · subst h2
      rw [if_neg (by omega), if_pos ⟨rfl, rfl⟩]
      exact hv
    · rw [if_neg (show ¬ (q = q ∧ j = k) by omega)]
      by_cases h3 : j < k
      · rw [if_neg (by omega), if_neg (by omega)]
      · rw [if_pos (show q = q ∧ ¬ j < k from ⟨rfl, h3⟩)]
        by_cases h4 : j < k'
        · rw [if_neg (by omega)]
          exact hmid j (by omega) h4
        · rw [if_pos ⟨rfl, h4⟩]
  · rw [if_neg (show ¬ (q = c ∧ j = k) by omega)]
    by_cases h2 : q < c
    · rw [if_pos h2, if_neg (show ¬ q = N by omega), if_pos h2]
    · rw [if_neg h2, if_neg (show ¬ (q = c ∧ ¬ j < k') by omega)]
      by_cases h3 : q = N
      · rw [if_pos h3, h3]; exact hz j
      · rw [if_neg h3, if_neg h2, if_neg (show ¬ (q = c ∧ ¬ j < k) by omega)]
/-- the same for a child that a constructor has just filled -/
theorem rK_put2 {B : xR} {o k : Nat} (k' c : Nat) (hkk : k < k') (hv : xR0 o k = some c) (hmid : ∀ j, k < j → j < k' → xR0 o j = none) : rK B o k' = x_upR (rK B o k) o k (some c) := by
  funext q j
  unfold x_upR rK
  by_cases h1 : q = o
  · subst h1
    rw [if_neg (Nat.lt_irrefl q), if_neg (Nat.lt_irrefl q)]
    by_cases h2 : j = k
    · subst h2
      rw [if_neg (by omega), if_pos ⟨rfl, rfl⟩]
      exact hv
    · rw [if_neg (show ¬ (q = q ∧ j = k) by omega)]
      by_cases h3 : j < k
      · rw [if_neg (by omega), if_neg (by omega)]
      · rw [if_pos (show q = q ∧ ¬ j < k from ⟨rfl, h3⟩)]
        by_cases h4 : j < k'
        · rw [if_neg (by omega)]
          exact hmid j (by omega) h4
        · rw [if_pos ⟨rfl, h4⟩]
  · rw [if_neg (show ¬ (q = o ∧ j = k) by omega)]
    by_cases h2 : q < o
    · rw [if_pos h2, if_pos h2]
    · rw [if_neg h2, if_neg h2, if_neg (show ¬ (q = o ∧ ¬ j < k') by omega), if_neg (show ¬ (q = o ∧ ¬ j < k) by omega)]
theorem rB_id {R : xR} {c : Nat} (h : ∀ q, c ≤ q → R q = xR0 q) : rB R c = R := by
  funext q j
  unfold rB
  by_cases e : q < c
  · rw [if_pos e]
  · rw [if_neg e, h q (by omega)]
theorem zR_rK {R : xR} {c : Nat} (h : ∀ q, c ≤ q → R q = xR0 q) : x_zR R c = rK R c 0 := by
  funext q j
  unfold x_zR rK
  by_cases e : q = c
  · rw [if_pos e, if_neg (by omega), if_pos ⟨e, Nat.not_lt_zero j⟩]
  · rw [if_neg e]
    by_cases e2 : q < c
    · rw [if_pos e2]
    · rw [if_neg e2, if_neg (by omega), h q (by omega)]
theorem rK_far {B : xR} {o k c : Nat} (h : o < c) : ∀ q, c ≤ q → rK B o k q = xR0 q := by
  intro q hq
  funext j
  unfold rK
  rw [if_neg (by omega), if_neg (by omega)]
theorem rK_end {B : xR} {c k : Nat} (h : ∀ j, k ≤ j → xR0 c j = none) : rB B c = rK B c k := by
  funext q j
  unfold rB rK
  by_cases e : q < c
  · rw [if_pos e, if_pos e]
  · rw [if_neg e, if_neg e]
    by_cases e2 : q = c ∧ ¬ j < k
    · rw [if_pos e2, e2.1]; exact h j (by omega)
    · rw [if_neg e2]

theorem fsX0 : ∀ j, j < 3 → defaultValue (tyX0 j) = if x_ir 0 j = true then .null else .int 0 := by
  intro j hj
  rcases (show j = 0 ∨ j = 1 ∨ j = 2 by omega) with rfl | rfl | rfl <;> rfl
theorem fsX1 : ∀ j, j < 2 → defaultValue (tyX1 j) = if x_ir 1 j = true then .null else .int 0 := by
  intro j hj
  rcases (show j = 0 ∨ j = 1 by omega) with rfl | rfl <;> rfl
theorem fsX2 : ∀ j, j < 7 → defaultValue (tyX2 j) = if x_ir 2 j = true then .null else .int 0 := by
  intro j hj
  rcases (show j = 0 ∨ j = 1 ∨ j = 2 ∨ j = 3 ∨ j = 4 ∨ j = 5 ∨ j = 6 by omega) with rfl | rfl | rfl | rfl | rfl | rfl | rfl <;> rfl
theorem fsX3 : ∀ j, j < 10 → defaultValue (tyX3 j) = if x_ir 3 j = true then .null else .int 0 := by
  intro j hj
  rcases (show j = 0 ∨ j = 1 ∨ j = 2 ∨ j = 3 ∨ j = 4 ∨ j = 5 ∨ j = 6 ∨ j = 7 ∨ j = 8 ∨ j = 9 by omega) with rfl | rfl | rfl | rfl | rfl | rfl | rfl | rfl | rfl | rfl <;> rfl
theorem fsX4 : ∀ j, j < 7 → defaultValue (tyX4 j) = if x_ir 4 j = true then .null else .int 0 := by
  intro j hj
  rcases (show j = 0 ∨ j = 1 ∨ j = 2 ∨ j = 3 ∨ j = 4 ∨ j = 5 ∨ j = 6 by omega) with rfl | rfl | rfl | rfl | rfl | rfl | rfl <;> rfl
theorem xR0_st {c k : Nat} (h : x_st c) (hk : k < 10) : xR0 c k = some (c + 1 + k) := by
  rcases h with h | h | h | h | h | h | h <;> subst h <;> (show (if k < 10 then _ else _) = _) <;> rw [if_pos hk]
theorem xR0_stz {c : Nat} (h : x_st c) {k : Nat} (hk : 10 ≤ k) : xR0 c k = none := by
  rcases h with h | h | h | h | h | h | h <;> subst h <;> (show (if k < 10 then _ else _) = _) <;> rw [if_neg (by omega)]
/-- the first k numbers of the state at c are laid -/
def nF (J : xI) (c k : Nat) : xI := fun q j => if q = c + 1 ∧ k ≤ j then 0 else J q j
theorem nF_0 (J : xI) (c : Nat) : x_z J (c + 1) = nF J c 0 := by
  funext q j
  unfold x_z nF
  by_cases e : q = c + 1
  · rw [if_pos e, if_pos ⟨e, Nat.zero_le j⟩]
  · rw [if_neg e, if_neg (fun z => e z.1)]
theorem nF_15 {J : xI} (hJ : JJ J) {c : Nat} (hc : x_st c) : nF J c 15 = J := by
  have hlt := st_lt hc
  funext q j
  unfold nF
  by_cases e : q = c + 1 ∧ 15 ≤ j
  · rw [if_pos e, e.1, hJ.1 (c + 1) (by omega) j, iv_nu hc, fv_far e.2]
  · rw [if_neg e]
theorem nF_put {J : xI} (hJ : JJ J) {c k : Nat} (hc : x_st c) (hk : k < 15) : x_up (nF J c k) (c + 1) k (nF J c k 100 k) = nF J c (k + 1) := by
  have hlt := st_lt hc
  have e100 : nF J c k 100 k = fv k := by
    unfold nF
    rw [if_neg (by omega)]
    exact hJ.2 k hk
  rw [e100]
  funext q j
  unfold x_up nF
  by_cases e : q = c + 1
  · subst e
    by_cases e2 : j = k
    · subst e2
      rw [if_pos ⟨rfl, rfl⟩, if_neg (by omega), hJ.1 (c + 1) (by omega) j, iv_nu hc]
    · rw [if_neg (by omega)]
      by_cases e3 : k ≤ j
      · rw [if_pos ⟨rfl, e3⟩, if_pos ⟨rfl, by omega⟩]
      · rw [if_neg (by omega), if_neg (by omega)]
  · rw [if_neg (fun z => e z.1), if_neg (fun z => e z.1), if_neg (fun z => e z.1)]
set_option maxRecDepth 20000 in
set_option maxHeartbeats 4000000 in
theorem n_State_loop {c : Nat} (hc : x_st c) {J : xI} (hJ : JJ J) (B : xR) : ∀ m i : Nat, i + m = 15 → X kX3_init 2 0 0 85 [some (rr c), some (ii (i : Int))] [] (c + 11) (nF J c i) (rK B c 10) (q_n (c + 11) J (rB B c)) := by
  have hlt := st_lt hc
  intro m
  induction m with
  | zero =>
    intro i hi
    have e : i = 15 := by omega
    subst e
    refine X_iload dX3_init_85 rfl ?_
    refine X_getsF dX3_init_86 rfl gs_X3_42 ?_
    refine X_alen dX3_init_89 sh_100 (Or.inr (Or.inl rfl)) ?_
    refine X_icmp_ge (tgt := 119) dX3_init_90 (by decide) (by omega) (fun c_90 => ?_) (fun c_90 => absurd c_90 (by omega))
    refine X_vret dX3_init_119 rfl ?_
    exact ⟨rfl, rfl, nF_15 hJ hc, (rK_end (fun j hj => xR0_stz hc hj)).symm⟩
  | succ m ih =>
    intro i hi
    refine X_iload dX3_init_85 rfl ?_
    refine X_getsF dX3_init_86 rfl gs_X3_42 ?_
    refine X_alen dX3_init_89 sh_100 (Or.inr (Or.inl rfl)) ?_
    refine X_icmp_ge (tgt := 119) dX3_init_90 (by decide) (by omega) (fun c_90 => absurd c_90 (by omega)) (fun c_90 => ?_)
    refine X_iload dX3_init_93 rfl ?_
    refine X_aload dX3_init_94 rfl ?_
    refine X_getR dX3_init_95 rfl gf_X3_9 (sh_st hc) (by omega) rfl (show rK B c 10 c 0 = some (c + 1) by unfold rK; rw [if_neg (Nat.lt_irrefl c), if_neg (by omega)]; exact xR0_st hc (by omega)) ?_
    refine X_alen dX3_init_98 (sh_st0 hc) (Or.inl (by omega)) ?_
    refine X_icmp_ge (tgt := 119) dX3_init_99 (by decide) (by omega) (fun c_99 => absurd c_99 (by omega)) (fun c_99 => ?_)
    refine X_aload dX3_init_102 rfl ?_
    refine X_getR dX3_init_103 rfl gf_X3_9 (sh_st hc) (by omega) rfl (show rK B c 10 c 0 = some (c + 1) by unfold rK; rw [if_neg (Nat.lt_irrefl c), if_neg (by omega)]; exact xR0_st hc (by omega)) ?_
    refine X_iload dX3_init_106 rfl ?_
    refine X_getsF dX3_init_107 rfl gs_X3_42 ?_
    refine X_iload dX3_init_110 rfl ?_
    refine X_iald dX3_init_111 sh_100 (Or.inr (Or.inl rfl)) (by omega) ?_
    refine X_iast dX3_init_112 (sh_st0 hc) (by omega) (by omega) ?_
    rw [Int.toNat_natCast, nF_put hJ hc (by omega)]
    refine X_iinc dX3_init_113 rfl ?_
    refine X_goto (tgt := 85) dX3_init_116 (by decide) ?_
    exact ih (i + 1) (by omega)
set_option maxRecDepth 20000 in
set_option maxHeartbeats 4000000 in
theorem n_State {c : Nat} (hc : x_st c) {J : xI} (hJ : JJ J) (B : xR) : Sp kX3_init 2 10 218 [rr c] (c + 1) J (rK B c 0) (q_n (c + 11) J (rB B c)) := by
  have hlt := st_lt hc
  have hrow : ∀ q, c < q → q < c + 11 → q ≠ 0 ∧ q ≠ 34 ∧ q ≠ 35 ∧ q ≠ 80 ∧ q ≠ 83 ∧ q ≠ 88 ∧ ¬ x_st q := by
    intro q h1 h2
    unfold x_st at hc ⊢
    omega
  have hM : ∀ q, c + 1 < q → q < c + 11 → ∀ j, x_z J (c + 1) q j = 0 := by
    intro q h1 h2 j
    unfold x_z
    rw [if_neg (by omega), hJ.1 q (by omega) j]
    unfold x_st at hc
    exact iv_no (by omega)
  refine Sp_intro (by decide +kernel) (Nat.le_of_ble_eq_true rfl) ?_
  show X kX3_init 2 10 218 0 [some (rr c), none] [] (c + 1) J (rK B c 0) _
  refine X_aload dX3_init_0 rfl ?_
  refine X_objInit dX3_init_1 rfl lk_X3_3 (by decide) (Nat.le_of_ble_eq_true rfl) ?_
  refine X_aload dX3_init_4 rfl ?_
  refine X_bipush dX3_init_5 (by decide) ?_
  refine X_newI (n' := 23) (bc' := 9) (bs' := 195) dX3_init_7 rfl (sh_st0 hc) (by omega) rfl rfl ?_
  refine X_putF (I' := x_z J (c + 1)) (Rf' := rK B c 1) dX3_init_9 rfl rfl pf_X3_9 (sh_st hc) (by omega) rfl rfl rfl rfl (rK_put 1 (c + 1 + 0) (by omega) (by omega) (xR0_st hc (by omega)) (by omega) (xR0_no (hrow _ (by omega) (by omega)))) ?_
  show X kX3_init 2 9 195 12 [some (rr c), none] [] (c + 2) (x_z J (c + 1)) (rK B c 1) _
  refine X_aload dX3_init_12 rfl ?_
  refine X_iconst dX3_init_13 ?_
  refine X_newI (n' := 3) (bc' := 8) (bs' := 192) dX3_init_14 rfl (sh_st1 hc) (by omega) rfl rfl ?_
  refine X_putF (I' := x_z J (c + 1)) (Rf' := rK B c 2) dX3_init_16 rfl rfl pf_X3_15 (sh_st hc) (by omega) rfl rfl rfl (x_z_id (hM _ (by omega) (by omega))) (rK_put 2 (c + 1 + 1) (by omega) (by omega) (xR0_st hc (by omega)) (by omega) (xR0_no (hrow _ (by omega) (by omega)))) ?_
  show X kX3_init 2 8 192 19 [some (rr c), none] [] (c + 3) (x_z J (c + 1)) (rK B c 2) _
  refine X_aload dX3_init_19 rfl ?_
  refine X_bipush dX3_init_20 (by decide) ?_
  refine X_newI (n' := 24) (bc' := 7) (bs' := 168) dX3_init_22 rfl (sh_st2 hc) (by omega) rfl rfl ?_
  refine X_putF (I' := x_z J (c + 1)) (Rf' := rK B c 3) dX3_init_24 rfl rfl pf_X3_18 (sh_st hc) (by omega) rfl rfl rfl (x_z_id (hM _ (by omega) (by omega))) (rK_put 3 (c + 1 + 2) (by omega) (by omega) (xR0_st hc (by omega)) (by omega) (xR0_no (hrow _ (by omega) (by omega)))) ?_
  show X kX3_init 2 7 168 27 [some (rr c), none] [] (c + 4) (x_z J (c + 1)) (rK B c 3) _
  refine X_aload dX3_init_27 rfl ?_
  refine X_bipush dX3_init_28 (by decide) ?_
  refine X_newI (n' := 24) (bc' := 6) (bs' := 144) dX3_init_30 rfl (sh_st3 hc) (by omega) rfl rfl ?_
  refine X_putF (I' := x_z J (c + 1)) (Rf' := rK B c 4) dX3_init_32 rfl rfl pf_X3_21 (sh_st hc) (by omega) rfl rfl rfl (x_z_id (hM _ (by omega) (by omega))) (rK_put 4 (c + 1 + 3) (by omega) (by omega) (xR0_st hc (by omega)) (by omega) (xR0_no (hrow _ (by omega) (by omega)))) ?_
  show X kX3_init 2 6 144 35 [some (rr c), none] [] (c + 5) (x_z J (c + 1)) (rK B c 4) _
  refine X_aload dX3_init_35 rfl ?_
  refine X_bipush dX3_init_36 (by decide) ?_
  refine X_newI (n' := 24) (bc' := 5) (bs' := 120) dX3_init_38 rfl (sh_st4 hc) (by omega) rfl rfl ?_
  refine X_putF (I' := x_z J (c + 1)) (Rf' := rK B c 5) dX3_init_40 rfl rfl pf_X3_24 (sh_st hc) (by omega) rfl rfl rfl (x_z_id (hM _ (by omega) (by omega))) (rK_put 5 (c + 1 + 4) (by omega) (by omega) (xR0_st hc (by omega)) (by omega) (xR0_no (hrow _ (by omega) (by omega)))) ?_
  show X kX3_init 2 5 120 43 [some (rr c), none] [] (c + 6) (x_z J (c + 1)) (rK B c 5) _
  refine X_aload dX3_init_43 rfl ?_
  refine X_bipush dX3_init_44 (by decide) ?_
  refine X_newI (n' := 24) (bc' := 4) (bs' := 96) dX3_init_46 rfl (sh_st5 hc) (by omega) rfl rfl ?_
  refine X_putF (I' := x_z J (c + 1)) (Rf' := rK B c 6) dX3_init_48 rfl rfl pf_X3_27 (sh_st hc) (by omega) rfl rfl rfl (x_z_id (hM _ (by omega) (by omega))) (rK_put 6 (c + 1 + 5) (by omega) (by omega) (xR0_st hc (by omega)) (by omega) (xR0_no (hrow _ (by omega) (by omega)))) ?_
  show X kX3_init 2 4 96 51 [some (rr c), none] [] (c + 7) (x_z J (c + 1)) (rK B c 6) _
  refine X_aload dX3_init_51 rfl ?_
  refine X_bipush dX3_init_52 (by decide) ?_
  refine X_newI (n' := 24) (bc' := 3) (bs' := 72) dX3_init_54 rfl (sh_st6 hc) (by omega) rfl rfl ?_
  refine X_putF (I' := x_z J (c + 1)) (Rf' := rK B c 7) dX3_init_56 rfl rfl pf_X3_30 (sh_st hc) (by omega) rfl rfl rfl (x_z_id (hM _ (by omega) (by omega))) (rK_put 7 (c + 1 + 6) (by omega) (by omega) (xR0_st hc (by omega)) (by omega) (xR0_no (hrow _ (by omega) (by omega)))) ?_
  show X kX3_init 2 3 72 59 [some (rr c), none] [] (c + 8) (x_z J (c + 1)) (rK B c 7) _
  refine X_aload dX3_init_59 rfl ?_
  refine X_bipush dX3_init_60 (by decide) ?_
  refine X_newI (n' := 24) (bc' := 2) (bs' := 48) dX3_init_62 rfl (sh_st7 hc) (by omega) rfl rfl ?_
  refine X_putF (I' := x_z J (c + 1)) (Rf' := rK B c 8) dX3_init_64 rfl rfl pf_X3_33 (sh_st hc) (by omega) rfl rfl rfl (x_z_id (hM _ (by omega) (by omega))) (rK_put 8 (c + 1 + 7) (by omega) (by omega) (xR0_st hc (by omega)) (by omega) (xR0_no (hrow _ (by omega) (by omega)))) ?_
  show X kX3_init 2 2 48 67 [some (rr c), none] [] (c + 9) (x_z J (c + 1)) (rK B c 8) _
  refine X_aload dX3_init_67 rfl ?_
  refine X_bipush dX3_init_68 (by decide) ?_
  refine X_newI (n' := 24) (bc' := 1) (bs' := 24) dX3_init_70 rfl (sh_st8 hc) (by omega) rfl rfl ?_
  refine X_putF (I' := x_z J (c + 1)) (Rf' := rK B c 9) dX3_init_72 rfl rfl pf_X3_36 (sh_st hc) (by omega) rfl rfl rfl (x_z_id (hM _ (by omega) (by omega))) (rK_put 9 (c + 1 + 8) (by omega) (by omega) (xR0_st hc (by omega)) (by omega) (xR0_no (hrow _ (by omega) (by omega)))) ?_
  show X kX3_init 2 1 24 75 [some (rr c), none] [] (c + 10) (x_z J (c + 1)) (rK B c 9) _
  refine X_aload dX3_init_75 rfl ?_
  refine X_bipush dX3_init_76 (by decide) ?_
  refine X_newI (n' := 24) (bc' := 0) (bs' := 0) dX3_init_78 rfl (sh_st9 hc) (by omega) rfl rfl ?_
  refine X_putF (I' := x_z J (c + 1)) (Rf' := rK B c 10) dX3_init_80 rfl rfl pf_X3_39 (sh_st hc) (by omega) rfl rfl rfl (x_z_id (hM _ (by omega) (by omega))) (rK_put 10 (c + 1 + 9) (by omega) (by omega) (xR0_st hc (by omega)) (by omega) (xR0_no (hrow _ (by omega) (by omega)))) ?_
  show X kX3_init 2 0 0 83 [some (rr c), none] [] (c + 11) (x_z J (c + 1)) (rK B c 10) _
  refine X_iconst dX3_init_83 ?_
  refine X_istore dX3_init_84 (by decide) ?_
  rw [nF_0]
  exact n_State_loop hc hJ B 15 0 rfl
set_option maxRecDepth 20000 in
set_option maxHeartbeats 4000000 in
theorem n_Night {J : xI} (hJ : JJ J) (B : xR) : Sp kX1_init 1 2 48 [rr 80] 81 J (rK B 80 0) (q_n 83 J (rB B 80)) := by
  refine Sp_intro (by decide +kernel) (Nat.le_of_ble_eq_true rfl) ?_
  show X kX1_init 1 2 48 0 [some (rr 80)] [] 81 J (rK B 80 0) _
  refine X_aload dX1_init_0 rfl ?_
  refine X_objInit dX1_init_1 rfl lk_X1_3 (by decide) (Nat.le_of_ble_eq_true rfl) ?_
  refine X_aload dX1_init_4 rfl ?_
  refine X_bipush dX1_init_5 (by decide) ?_
  refine X_newI (n' := 24) (bc' := 1) (bs' := 24) dX1_init_7 rfl sh_81 (by omega) rfl rfl ?_
  refine X_putF (I' := J) (Rf' := rK B 80 1) dX1_init_9 rfl rfl pf_X1_9 sh_80 (by omega) rfl rfl rfl (x_z_id (fun j => (hJ.1 81 (by omega) j).trans (iv_no (by omega)))) (rK_put 1 81 (by omega) (by omega) rfl (by omega) (xR0_no (by unfold x_st; omega))) ?_
  show X kX1_init 1 1 24 12 [some (rr 80)] [] 82 J (rK B 80 1) _
  refine X_aload dX1_init_12 rfl ?_
  refine X_bipush dX1_init_13 (by decide) ?_
  refine X_newI (n' := 24) (bc' := 0) (bs' := 0) dX1_init_15 rfl sh_82 (by omega) rfl rfl ?_
  refine X_putF (I' := J) (Rf' := rK B 80 2) dX1_init_17 rfl rfl pf_X1_15 sh_80 (by omega) rfl rfl rfl (x_z_id (fun j => (hJ.1 82 (by omega) j).trans (iv_no (by omega)))) (rK_put 2 82 (by omega) (by omega) rfl (by omega) (xR0_no (by unfold x_st; omega))) ?_
  show X kX1_init 1 0 0 20 [some (rr 80)] [] 83 J (rK B 80 2) _
  refine X_vret dX1_init_20 rfl ?_
  exact ⟨rfl, rfl, rfl, (rK_end (c := 80) (k := 2) (fun j hj => (show (if j < 2 then some (81 + j) else none) = none by rw [if_neg (by omega)]))).symm⟩
set_option maxRecDepth 20000 in
set_option maxHeartbeats 4000000 in
theorem n_Orders {J : xI} (hJ : JJ J) (B : xR) : Sp kX2_init 1 4 150 [rr 83] 84 J (rK B 83 0) (q_n 88 J (rB B 83)) := by
  refine Sp_intro (by decide +kernel) (Nat.le_of_ble_eq_true rfl) ?_
  show X kX2_init 1 4 150 0 [some (rr 83)] [] 84 J (rK B 83 0) _
  refine X_aload dX2_init_0 rfl ?_
  refine X_objInit dX2_init_1 rfl lk_X2_3 (by decide) (Nat.le_of_ble_eq_true rfl) ?_
  refine X_aload dX2_init_4 rfl ?_
  refine X_bipush dX2_init_5 (by decide) ?_
  refine X_newI (n' := 60) (bc' := 3) (bs' := 90) dX2_init_7 rfl sh_84 (by omega) rfl rfl ?_
  refine X_putF (I' := J) (Rf' := rK B 83 2) dX2_init_9 rfl rfl pf_X2_9 sh_83 (by omega) rfl rfl rfl (x_z_id (fun j => (hJ.1 84 (by omega) j).trans (iv_no (by omega)))) (rK_put 2 84 (by omega) (by omega) rfl (by intro j h1 h2; rcases (show j = 1 by omega) with rfl <;> rfl) (xR0_no (by unfold x_st; omega))) ?_
  show X kX2_init 1 3 90 12 [some (rr 83)] [] 85 J (rK B 83 2) _
  refine X_aload dX2_init_12 rfl ?_
  refine X_iconst dX2_init_13 ?_
  refine X_putI dX2_init_14 rfl pf_X2_15 sh_83 (by omega) rfl (Or.inl rfl) ?_
  rw [x_up_id ((hJ.1 83 (by omega) 1).trans (iv_no (by omega)))]
  refine X_aload dX2_init_17 rfl ?_
  refine X_bipush dX2_init_18 (by decide) ?_
  refine X_newI (n' := 30) (bc' := 2) (bs' := 60) dX2_init_20 rfl sh_85 (by omega) rfl rfl ?_
  refine X_putF (I' := J) (Rf' := rK B 83 3) dX2_init_22 rfl rfl pf_X2_19 sh_83 (by omega) rfl rfl rfl (x_z_id (fun j => (hJ.1 85 (by omega) j).trans (iv_no (by omega)))) (rK_put 3 85 (by omega) (by omega) rfl (by omega) (xR0_no (by unfold x_st; omega))) ?_
  show X kX2_init 1 2 60 25 [some (rr 83)] [] 86 J (rK B 83 3) _
  refine X_aload dX2_init_25 rfl ?_
  refine X_bipush dX2_init_26 (by decide) ?_
  refine X_newI (n' := 30) (bc' := 1) (bs' := 30) dX2_init_28 rfl sh_86 (by omega) rfl rfl ?_
  refine X_putF (I' := J) (Rf' := rK B 83 4) dX2_init_30 rfl rfl pf_X2_22 sh_83 (by omega) rfl rfl rfl (x_z_id (fun j => (hJ.1 86 (by omega) j).trans (iv_no (by omega)))) (rK_put 4 86 (by omega) (by omega) rfl (by omega) (xR0_no (by unfold x_st; omega))) ?_
  show X kX2_init 1 1 30 33 [some (rr 83)] [] 87 J (rK B 83 4) _
  refine X_aload dX2_init_33 rfl ?_
  refine X_bipush dX2_init_34 (by decide) ?_
  refine X_newI (n' := 30) (bc' := 0) (bs' := 0) dX2_init_36 rfl sh_87 (by omega) rfl rfl ?_
  refine X_putF (I' := J) (Rf' := rK B 83 7) dX2_init_38 rfl rfl pf_X2_25 sh_83 (by omega) rfl rfl rfl (x_z_id (fun j => (hJ.1 87 (by omega) j).trans (iv_no (by omega)))) (rK_put 7 87 (by omega) (by omega) rfl (by intro j h1 h2; rcases (show j = 5 ∨ j = 6 by omega) with rfl | rfl <;> rfl) (xR0_no (by unfold x_st; omega))) ?_
  show X kX2_init 1 0 0 41 [some (rr 83)] [] 88 J (rK B 83 7) _
  refine X_aload dX2_init_41 rfl ?_
  refine X_iconst dX2_init_42 ?_
  refine X_putI dX2_init_43 rfl pf_X2_28 sh_83 (by omega) rfl (Or.inl rfl) ?_
  rw [x_up_id ((hJ.1 83 (by omega) 5).trans (iv_no (by omega)))]
  refine X_aload dX2_init_46 rfl ?_
  refine X_iconst dX2_init_47 ?_
  refine X_putI dX2_init_48 rfl pf_X2_31 sh_83 (by omega) rfl (Or.inl rfl) ?_
  rw [x_up_id ((hJ.1 83 (by omega) 6).trans (iv_no (by omega)))]
  refine X_vret dX2_init_51 rfl ?_
  exact ⟨rfl, rfl, rfl, (rK_end (c := 83) (k := 7) (fun j hj => (show [some 84, none, some 85, some 86, some 87].getD j none = none by rw [List.getD_eq_getElem?_getD, List.getElem?_eq_none (by simp; omega)]; rfl))).symm⟩
def rH (B : xR) (i : Nat) : xR := fun q j => if q < 34 then B q j else if q = 35 ∧ ¬ j < i then none else xR0 q j
theorem rH_far {B : xR} {i c : Nat} (h : 36 ≤ c) : ∀ q, c ≤ q → rH B i q = xR0 q := by
  intro q hq
  funext j
  unfold rH
  rw [if_neg (by omega), if_neg (by omega)]
theorem rH_put {B : xR} {i : Nat} (h : i < 4) : x_upR (rH B i) 35 i (some (hB i)) = rH B (i + 1) := by
  funext q j
  unfold x_upR rH
  by_cases e : q = 35
  · subst e
    by_cases e2 : j = i
    · subst e2
      rw [if_pos ⟨rfl, rfl⟩, if_neg (by decide), if_neg (by omega)]
      exact (rf_35 h).symm
    · rw [if_neg (by omega)]
      by_cases e3 : j < i
      · rw [if_neg (by decide), if_neg (by omega), if_neg (by decide), if_neg (by omega)]
      · rw [if_neg (by decide), if_pos ⟨rfl, e3⟩, if_neg (by decide), if_pos ⟨rfl, by omega⟩]
  · rw [if_neg (by omega)]
    by_cases e2 : q < 34
    · rw [if_pos e2, if_pos e2]
    · rw [if_neg e2, if_neg e2, if_neg (by omega), if_neg (by omega)]
theorem rH_end (B : xR) : rH B 4 = rB B 34 := by
  funext q j
  unfold rH rB
  by_cases e : q < 34
  · rw [if_pos e, if_pos e]
  · rw [if_neg e, if_neg e]
    by_cases e2 : q = 35 ∧ ¬ j < 4
    · rw [if_pos e2, e2.1]
      show none = if j < 4 then _ else none
      rw [if_neg e2.2]
    · rw [if_neg e2]
theorem rH_0 (B : xR) : rH B 0 = x_upR (x_zR (rK B 34 0) 35) 34 0 (some 35) := by
  funext q j
  unfold rH x_upR x_zR rK
  by_cases e : q = 34
  · subst e
    rw [if_neg (by decide), if_neg (by omega)]
    by_cases e2 : j = 0
    · subst e2
      rw [if_pos ⟨rfl, rfl⟩]
      rfl
    · rw [if_neg (by omega), if_neg (by decide), if_neg (by decide), if_pos ⟨rfl, Nat.not_lt_zero j⟩]
      show (if j = 0 then _ else none) = none
      rw [if_neg e2]
  · rw [if_neg (show ¬ (q = 34 ∧ j = 0) by omega)]
    by_cases e2 : q < 34
    · rw [if_pos e2, if_neg (show ¬ q = 35 by omega), if_pos e2]
    · rw [if_neg e2]
      by_cases e3 : q = 35
      · rw [if_pos ⟨e3, Nat.not_lt_zero j⟩, if_pos e3]
      · rw [if_neg (by omega), if_neg e3, if_neg e2, if_neg (by omega)]
set_option maxRecDepth 20000 in
set_option maxHeartbeats 4000000 in
theorem n_Hist_loop {J : xI} (hJ : JJ J) (B : xR) : ∀ m i : Nat, i + m = 4 → X kX0_init 3 (11 * m) (228 * m) 24 [some (rr 34), some (ii (i : Int))] [] (hB i) J (rH B i) (q_n 80 J (rB B 34)) := by
  intro m
  induction m with
  | zero =>
    intro i hi
    have e : i = 4 := by omega
    subst e
    refine X_iload dX0_init_24 rfl ?_
    refine X_aload dX0_init_25 rfl ?_
    refine X_getR dX0_init_26 rfl gf_X0_11 sh_34 (by unfold hB; omega) rfl rfl ?_
    refine X_alenR dX0_init_29 sh_35 (Or.inl (by unfold hB; omega)) ?_
    refine X_icmp_ge (tgt := 52) dX0_init_30 (by decide) (by omega) (fun c_30 => ?_) (fun c_30 => absurd c_30 (by omega))
    refine X_vret dX0_init_52 rfl ?_
    exact ⟨rfl, rfl, rfl, rH_end B⟩
  | succ m ih =>
    intro i hi
    have hst := hB_st (show i < 4 by omega)
    have e1 : hB (i + 1) = hB i + 11 := by unfold hB; omega
    have e0 : 36 ≤ hB i ∧ hB i ≤ 69 := by unfold hB; omega
    refine X_iload dX0_init_24 rfl ?_
    refine X_aload dX0_init_25 rfl ?_
    refine X_getR dX0_init_26 rfl gf_X0_11 sh_34 (by omega) rfl rfl ?_
    refine X_alenR dX0_init_29 sh_35 (Or.inl (by omega)) ?_
    refine X_icmp_ge (tgt := 52) dX0_init_30 (by decide) (by omega) (fun c_30 => absurd c_30 (by omega)) (fun c_30 => ?_)
    refine X_aload dX0_init_33 rfl ?_
    refine X_getR dX0_init_34 rfl gf_X0_11 sh_34 (by omega) rfl rfl ?_
    refine X_iload dX0_init_37 rfl ?_
    refine X_new (bc' := 11 * m + 10) (bs' := 228 * m + 218) tyX3 dX0_init_38 rfl (show vwCl[3]? = some (RX3, TX3, 10) from rfl) rfl inX3 tyX3_ok (xT_of (List.mem_append_right _ (List.mem_of_getElem? (i := 78) rfl)) rfl) (xT_of (List.mem_append_right _ (List.mem_of_getElem? (i := 17) rfl)) rfl) (xT_of (List.mem_append_right _ (List.mem_of_getElem? (i := 2) rfl)) rfl) (sh_st hst) (by omega) fsX3 (by omega) (by omega) ?_
    rw [← x_z_id (fun j => (hJ.1 _ (by omega) j).trans (iv_no (by unfold hB; omega))), zR_rK (rH_far e0.1)]
    refine X_dup dX0_init_41 ?_
    refine X_callC (as := []) (rest := [rr (hB i), ii (i : Int), rr 35]) dX0_init_42 rfl cc_X0_24 (n_State hst hJ (rH B i)) rfl rfl (by decide) (Nat.le_of_ble_eq_true rfl) (by omega) (by omega) (fun ro N1 I1 R1 h => ?_)
    obtain ⟨rfl, rfl, h3, h4⟩ := h
    rw [h3, h4, rB_id (rH_far e0.1), show 11 * m + 10 - 10 = 11 * m by omega, show 228 * m + 218 - 218 = 228 * m by omega, ← e1]
    refine X_aast (ci := 0) dX0_init_45 sh_35 (by omega) (by omega) (sh_st hst) (by omega) ?_
    rw [Int.toNat_natCast, rH_put (by omega)]
    refine X_iinc dX0_init_46 rfl ?_
    refine X_goto (tgt := 24) dX0_init_49 (by decide) ?_
    exact ih (i + 1) (by omega)
set_option maxRecDepth 20000 in
set_option maxHeartbeats 4000000 in
theorem n_Hist {J : xI} (hJ : JJ J) (B : xR) : Sp kX0_init 3 45 916 [rr 34] 35 J (rK B 34 0) (q_n 80 J (rB B 34)) := by
  refine Sp_intro (by decide +kernel) (Nat.le_of_ble_eq_true rfl) ?_
  show X kX0_init 3 45 916 0 [some (rr 34), none] [] 35 J (rK B 34 0) _
  refine X_aload dX0_init_0 rfl ?_
  refine X_objInit dX0_init_1 rfl lk_X0_3 (by decide) (Nat.le_of_ble_eq_true rfl) ?_
  refine X_aload dX0_init_4 rfl ?_
  refine X_iconst dX0_init_5 ?_
  refine X_newR (n' := 4) (bc' := 44) (bs' := 912) dX0_init_6 rfl (xT_of (List.mem_append_right _ (List.mem_of_getElem? (i := 78) rfl)) rfl) rfl sh_35 (by omega) rfl rfl ?_
  refine X_putF (I' := J) (Rf' := rH B 0) dX0_init_9 rfl rfl pf_X0_11 sh_34 (by omega) rfl rfl rfl (x_z_id (fun j => (hJ.1 35 (by omega) j).trans (iv_no (by omega)))) (rH_0 B) ?_
  show X kX0_init 3 44 912 12 [some (rr 34), none] [] 36 J (rH B 0) _
  refine X_aload dX0_init_12 rfl ?_
  refine X_iconst dX0_init_13 ?_
  refine X_putI dX0_init_14 rfl pf_X0_17 sh_34 (by omega) rfl (Or.inl rfl) ?_
  rw [x_up_id ((hJ.1 34 (by omega) 1).trans (iv_no (by omega)))]
  refine X_aload dX0_init_17 rfl ?_
  refine X_iconst dX0_init_18 ?_
  refine X_putI dX0_init_19 rfl pf_X0_21 sh_34 (by omega) rfl (Or.inl rfl) ?_
  rw [x_up_id ((hJ.1 34 (by omega) 2).trans (iv_no (by omega)))]
  refine X_iconst dX0_init_22 ?_
  refine X_istore dX0_init_23 (by decide) ?_
  exact n_Hist_loop hJ B 4 0 rfl
set_option maxRecDepth 20000 in
set_option maxHeartbeats 4000000 in
theorem n_Shelves {J : xI} (hJ : JJ J) (B : xR) : Sp kX4_init 4 87 1810 [rr 0] 1 J (rK B 0 0) (q_n 88 J (rB B 0)) := by
  refine Sp_intro (by decide +kernel) (Nat.le_of_ble_eq_true rfl) ?_
  show X kX4_init 4 87 1810 0 [some (rr 0)] [] 1 J (rK B 0 0) _
  refine X_aload dX4_init_0 rfl ?_
  refine X_objInit dX4_init_1 rfl lk_X4_1 (by decide) (Nat.le_of_ble_eq_true rfl) ?_
  refine X_aload dX4_init_4 rfl ?_
  refine X_new (bc' := 86) (bs' := 1800) tyX3 dX4_init_5 rfl (show vwCl[3]? = some (RX3, TX3, 10) from rfl) rfl inX3 tyX3_ok (xT_of (List.mem_append_right _ (List.mem_of_getElem? (i := 16) rfl)) rfl) (xT_of (List.mem_append_right _ (List.mem_of_getElem? (i := 17) rfl)) rfl) (xT_of (List.mem_append_right _ (List.mem_of_getElem? (i := 2) rfl)) rfl) rfl (by omega) fsX3 rfl rfl ?_
  rw [← x_z_id (fun j => (hJ.1 1 (by omega) j).trans (iv_no (by omega))), zR_rK (rK_far (by omega))]
  refine X_dup dX4_init_8 ?_
  refine X_callC (as := []) (rest := [rr 1, rr 0]) dX4_init_9 rfl cc_X4_9 (n_State (show x_st 1 by unfold x_st; omega) hJ (rK B 0 0)) rfl rfl (by decide) (by decide) (by decide) (by decide) (fun ro N1 I1 R1 h => ?_)
  obtain ⟨rfl, rfl, h3, h4⟩ := h
  rw [h3, h4, rB_id (rK_far (by omega))]
  refine X_putF (I' := J) (Rf' := rK B 0 1) dX4_init_12 rfl rfl pf_X4_10 sh_0 (by omega) rfl rfl rfl rfl (rK_put2 1 1 (by omega) rfl (by omega)) ?_
  show X kX4_init 4 76 1582 15 [some (rr 0)] [] 12 J (rK B 0 1) _
  refine X_aload dX4_init_15 rfl ?_
  refine X_new (bc' := 75) (bs' := 1572) tyX3 dX4_init_16 rfl (show vwCl[3]? = some (RX3, TX3, 10) from rfl) rfl inX3 tyX3_ok (xT_of (List.mem_append_right _ (List.mem_of_getElem? (i := 16) rfl)) rfl) (xT_of (List.mem_append_right _ (List.mem_of_getElem? (i := 17) rfl)) rfl) (xT_of (List.mem_append_right _ (List.mem_of_getElem? (i := 2) rfl)) rfl) rfl (by omega) fsX3 rfl rfl ?_
  rw [← x_z_id (fun j => (hJ.1 12 (by omega) j).trans (iv_no (by omega))), zR_rK (rK_far (by omega))]
  refine X_dup dX4_init_19 ?_
  refine X_callC (as := []) (rest := [rr 12, rr 0]) dX4_init_20 rfl cc_X4_9 (n_State (show x_st 12 by unfold x_st; omega) hJ (rK B 0 1)) rfl rfl (by decide) (by decide) (by decide) (by decide) (fun ro N1 I1 R1 h => ?_)
  obtain ⟨rfl, rfl, h3, h4⟩ := h
  rw [h3, h4, rB_id (rK_far (by omega))]
  refine X_putF (I' := J) (Rf' := rK B 0 2) dX4_init_23 rfl rfl pf_X4_16 sh_0 (by omega) rfl rfl rfl rfl (rK_put2 2 12 (by omega) rfl (by omega)) ?_
  show X kX4_init 4 65 1354 26 [some (rr 0)] [] 23 J (rK B 0 2) _
  refine X_aload dX4_init_26 rfl ?_
  refine X_new (bc' := 64) (bs' := 1344) tyX3 dX4_init_27 rfl (show vwCl[3]? = some (RX3, TX3, 10) from rfl) rfl inX3 tyX3_ok (xT_of (List.mem_append_right _ (List.mem_of_getElem? (i := 16) rfl)) rfl) (xT_of (List.mem_append_right _ (List.mem_of_getElem? (i := 17) rfl)) rfl) (xT_of (List.mem_append_right _ (List.mem_of_getElem? (i := 2) rfl)) rfl) rfl (by omega) fsX3 rfl rfl ?_
  rw [← x_z_id (fun j => (hJ.1 23 (by omega) j).trans (iv_no (by omega))), zR_rK (rK_far (by omega))]
  refine X_dup dX4_init_30 ?_
  refine X_callC (as := []) (rest := [rr 23, rr 0]) dX4_init_31 rfl cc_X4_9 (n_State (show x_st 23 by unfold x_st; omega) hJ (rK B 0 2)) rfl rfl (by decide) (by decide) (by decide) (by decide) (fun ro N1 I1 R1 h => ?_)
  obtain ⟨rfl, rfl, h3, h4⟩ := h
  rw [h3, h4, rB_id (rK_far (by omega))]
  refine X_putF (I' := J) (Rf' := rK B 0 4) dX4_init_34 rfl rfl pf_X4_19 sh_0 (by omega) rfl rfl rfl rfl (rK_put2 4 23 (by omega) rfl (by intro j h1 h2; rcases (show j = 3 by omega) with rfl <;> rfl)) ?_
  show X kX4_init 4 54 1126 37 [some (rr 0)] [] 34 J (rK B 0 4) _
  refine X_aload dX4_init_37 rfl ?_
  refine X_iconst dX4_init_38 ?_
  refine X_putI dX4_init_39 rfl pf_X4_22 sh_0 (by omega) rfl (Or.inr ⟨rfl, Or.inl rfl⟩) ?_
  rw [x_up_id ((hJ.1 0 (by omega) 3).trans (iv_no (by omega)))]
  refine X_aload dX4_init_42 rfl ?_
  refine X_new (bc' := 53) (bs' := 1123) tyX0 dX4_init_43 rfl (show vwCl[0]? = some (RX0, TX0, 3) from rfl) rfl inX0 tyX0_ok (xT_of (List.mem_append_right _ (List.mem_of_getElem? (i := 72) rfl)) rfl) (xT_of (List.mem_append_right _ (List.mem_of_getElem? (i := 73) rfl)) rfl) (xT_of (List.mem_append_right _ (List.mem_of_getElem? (i := 3) rfl)) rfl) rfl (by omega) fsX0 rfl rfl ?_
  rw [← x_z_id (fun j => (hJ.1 34 (by omega) j).trans (iv_no (by omega))), zR_rK (rK_far (by omega))]
  refine X_dup dX4_init_46 ?_
  refine X_callC (as := []) (rest := [rr 34, rr 0]) dX4_init_47 rfl cc_X4_28 (n_Hist hJ (rK B 0 4)) rfl rfl (by decide) (by decide) (by decide) (by decide) (fun ro N1 I1 R1 h => ?_)
  obtain ⟨rfl, rfl, h3, h4⟩ := h
  rw [h3, h4, rB_id (rK_far (by omega))]
  refine X_putF (I' := J) (Rf' := rK B 0 5) dX4_init_50 rfl rfl pf_X4_29 sh_0 (by omega) rfl rfl rfl rfl (rK_put2 5 34 (by omega) rfl (by omega)) ?_
  show X kX4_init 4 8 207 53 [some (rr 0)] [] 80 J (rK B 0 5) _
  refine X_aload dX4_init_53 rfl ?_
  refine X_new (bc' := 7) (bs' := 205) tyX1 dX4_init_54 rfl (show vwCl[1]? = some (RX1, TX1, 2) from rfl) rfl inX1 tyX1_ok (xT_of (List.mem_append_right _ (List.mem_of_getElem? (i := 92) rfl)) rfl) (xT_of (List.mem_append_right _ (List.mem_of_getElem? (i := 93) rfl)) rfl) (xT_of (List.mem_append_right _ (List.mem_of_getElem? (i := 4) rfl)) rfl) rfl (by omega) fsX1 rfl rfl ?_
  rw [← x_z_id (fun j => (hJ.1 80 (by omega) j).trans (iv_no (by omega))), zR_rK (rK_far (by omega))]
  refine X_dup dX4_init_57 ?_
  refine X_callC (as := []) (rest := [rr 80, rr 0]) dX4_init_58 rfl cc_X4_35 (n_Night hJ (rK B 0 5)) rfl rfl (by decide) (by decide) (by decide) (by decide) (fun ro N1 I1 R1 h => ?_)
  obtain ⟨rfl, rfl, h3, h4⟩ := h
  rw [h3, h4, rB_id (rK_far (by omega))]
  refine X_putF (I' := J) (Rf' := rK B 0 6) dX4_init_61 rfl rfl pf_X4_36 sh_0 (by omega) rfl rfl rfl rfl (rK_put2 6 80 (by omega) rfl (by omega)) ?_
  show X kX4_init 4 5 157 64 [some (rr 0)] [] 83 J (rK B 0 6) _
  refine X_aload dX4_init_64 rfl ?_
  refine X_new (bc' := 4) (bs' := 150) tyX2 dX4_init_65 rfl (show vwCl[2]? = some (RX2, TX2, 7) from rfl) rfl inX2 tyX2_ok (xT_of (List.mem_append_right _ (List.mem_of_getElem? (i := 106) rfl)) rfl) (xT_of (List.mem_append_right _ (List.mem_of_getElem? (i := 107) rfl)) rfl) (xT_of (List.mem_append_right _ (List.mem_of_getElem? (i := 5) rfl)) rfl) rfl (by omega) fsX2 rfl rfl ?_
  rw [← x_z_id (fun j => (hJ.1 83 (by omega) j).trans (iv_no (by omega))), zR_rK (rK_far (by omega))]
  refine X_dup dX4_init_68 ?_
  refine X_callC (as := []) (rest := [rr 83, rr 0]) dX4_init_69 rfl cc_X4_42 (n_Orders hJ (rK B 0 6)) rfl rfl (by decide) (by decide) (by decide) (by decide) (fun ro N1 I1 R1 h => ?_)
  obtain ⟨rfl, rfl, h3, h4⟩ := h
  rw [h3, h4, rB_id (rK_far (by omega))]
  refine X_putF (I' := J) (Rf' := rK B 0 7) dX4_init_72 rfl rfl pf_X4_43 sh_0 (by omega) rfl rfl rfl rfl (rK_put2 7 83 (by omega) rfl (by omega)) ?_
  show X kX4_init 4 0 0 75 [some (rr 0)] [] 88 J (rK B 0 7) _
  refine X_vret dX4_init_75 rfl ?_
  exact ⟨rfl, rfl, rfl, (rK_end (c := 0) (k := 7) (fun j hj => (show [some 1, some 12, some 23, none, some 34, some 80, some 83].getD j none = none by rw [List.getD_eq_getElem?_getD, List.getElem?_eq_none (by simp; omega)]; rfl))).symm⟩
end
