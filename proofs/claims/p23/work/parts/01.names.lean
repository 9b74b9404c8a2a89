-- ===== PART A: goes FIRST, ahead of the names: the tables' words, and 'selects' of the private methods out of them =====
/-- a private method of a class that the tables say can be made, by its rows of tables_1 -/
def lw_okq (q : MethodName × Nat) : Prop := (q.1.cls ≠ "java/lang/invoke/MethodHandle" ∧ q.1.cls ≠ "java/lang/invoke/VarHandle") ∧ Cond.instantiable q.1.cls q.2 ∈ tables_1 ∧ Cond.privateMethod q.1 ∈ tables_1 ∧ Cond.instanceMethod q.1 ∈ tables_1
theorem lw_p0 : lw_okq (⟨"HeatShelves$State", "copyFrom", "(LHeatShelves$State;)V"⟩, 10) := ⟨⟨by decide +kernel, by decide +kernel⟩, List.mem_of_getElem? (i := 17) (by decide +kernel), List.mem_of_getElem? (i := 162) (by decide +kernel), List.mem_of_getElem? (i := 163) (by decide +kernel)⟩
theorem lw_p1 : lw_okq (⟨"HeatShelves$State", "addBlock", "(I)I"⟩, 10) := ⟨⟨by decide +kernel, by decide +kernel⟩, List.mem_of_getElem? (i := 17) (by decide +kernel), List.mem_of_getElem? (i := 175) (by decide +kernel), List.mem_of_getElem? (i := 176) (by decide +kernel)⟩
theorem lw_p2 : lw_okq (⟨"HeatShelves$State", "fastestWithRoom", "(I)I"⟩, 10) := ⟨⟨by decide +kernel, by decide +kernel⟩, List.mem_of_getElem? (i := 17) (by decide +kernel), List.mem_of_getElem? (i := 179) (by decide +kernel), List.mem_of_getElem? (i := 180) (by decide +kernel)⟩
theorem lw_p3 : lw_okq (⟨"HeatShelves$State", "hasRoom", "(II)Z"⟩, 10) := ⟨⟨by decide +kernel, by decide +kernel⟩, List.mem_of_getElem? (i := 17) (by decide +kernel), List.mem_of_getElem? (i := 183) (by decide +kernel), List.mem_of_getElem? (i := 184) (by decide +kernel)⟩
theorem lw_p4 : lw_okq (⟨"HeatShelves$State", "countBlocks", "()I"⟩, 10) := ⟨⟨by decide +kernel, by decide +kernel⟩, List.mem_of_getElem? (i := 17) (by decide +kernel), List.mem_of_getElem? (i := 187) (by decide +kernel), List.mem_of_getElem? (i := 188) (by decide +kernel)⟩
theorem lw_p5 : lw_okq (⟨"HeatShelves", "settle", "(I)I"⟩, 7) := ⟨⟨by decide +kernel, by decide +kernel⟩, List.mem_of_getElem? (i := 9) (by decide +kernel), List.mem_of_getElem? (i := 200) (by decide +kernel), List.mem_of_getElem? (i := 201) (by decide +kernel)⟩
theorem lw_p6 : lw_okq (⟨"HeatShelves$History", "record", "(LHeatShelves$State;)V"⟩, 3) := ⟨⟨by decide +kernel, by decide +kernel⟩, List.mem_of_getElem? (i := 73) (by decide +kernel), List.mem_of_getElem? (i := 204) (by decide +kernel), List.mem_of_getElem? (i := 205) (by decide +kernel)⟩
theorem lw_p7 : lw_okq (⟨"HeatShelves$History", "stateAt", "(I)LHeatShelves$State;"⟩, 3) := ⟨⟨by decide +kernel, by decide +kernel⟩, List.mem_of_getElem? (i := 73) (by decide +kernel), List.mem_of_getElem? (i := 208) (by decide +kernel), List.mem_of_getElem? (i := 209) (by decide +kernel)⟩
theorem lw_p8 : lw_okq (⟨"HeatShelves", "passInWork", "(I)I"⟩, 7) := ⟨⟨by decide +kernel, by decide +kernel⟩, List.mem_of_getElem? (i := 9) (by decide +kernel), List.mem_of_getElem? (i := 217) (by decide +kernel), List.mem_of_getElem? (i := 218) (by decide +kernel)⟩
theorem lw_p9 : lw_okq (⟨"HeatShelves$Night", "letPass", "(LHeatShelves$State;I)I"⟩, 2) := ⟨⟨by decide +kernel, by decide +kernel⟩, List.mem_of_getElem? (i := 93) (by decide +kernel), List.mem_of_getElem? (i := 222) (by decide +kernel), List.mem_of_getElem? (i := 223) (by decide +kernel)⟩
theorem lw_p10 : lw_okq (⟨"HeatShelves$State", "payNight", "()V"⟩, 10) := ⟨⟨by decide +kernel, by decide +kernel⟩, List.mem_of_getElem? (i := 17) (by decide +kernel), List.mem_of_getElem? (i := 227) (by decide +kernel), List.mem_of_getElem? (i := 228) (by decide +kernel)⟩
theorem lw_p11 : lw_okq (⟨"HeatShelves$State", "nightPriceOfShelf", "(I)I"⟩, 10) := ⟨⟨by decide +kernel, by decide +kernel⟩, List.mem_of_getElem? (i := 17) (by decide +kernel), List.mem_of_getElem? (i := 231) (by decide +kernel), List.mem_of_getElem? (i := 232) (by decide +kernel)⟩
theorem lw_p12 : lw_okq (⟨"HeatShelves$State", "fade", "()V"⟩, 10) := ⟨⟨by decide +kernel, by decide +kernel⟩, List.mem_of_getElem? (i := 17) (by decide +kernel), List.mem_of_getElem? (i := 235) (by decide +kernel), List.mem_of_getElem? (i := 236) (by decide +kernel)⟩
theorem lw_p13 : lw_okq (⟨"HeatShelves$Night", "findWhoMayMove", "(LHeatShelves$State;)V"⟩, 2) := ⟨⟨by decide +kernel, by decide +kernel⟩, List.mem_of_getElem? (i := 93) (by decide +kernel), List.mem_of_getElem? (i := 242) (by decide +kernel), List.mem_of_getElem? (i := 243) (by decide +kernel)⟩
theorem lw_p14 : lw_okq (⟨"HeatShelves$State", "wantedShelf", "(I)I"⟩, 10) := ⟨⟨by decide +kernel, by decide +kernel⟩, List.mem_of_getElem? (i := 17) (by decide +kernel), List.mem_of_getElem? (i := 247) (by decide +kernel), List.mem_of_getElem? (i := 248) (by decide +kernel)⟩
theorem lw_p15 : lw_okq (⟨"HeatShelves$Night", "moveInTurn", "(LHeatShelves$State;ZI)I"⟩, 2) := ⟨⟨by decide +kernel, by decide +kernel⟩, List.mem_of_getElem? (i := 93) (by decide +kernel), List.mem_of_getElem? (i := 252) (by decide +kernel), List.mem_of_getElem? (i := 253) (by decide +kernel)⟩
def lw_privs_1 : List (MethodName × Nat) := [(⟨"HeatShelves$State", "copyFrom", "(LHeatShelves$State;)V"⟩, 10), (⟨"HeatShelves$State", "addBlock", "(I)I"⟩, 10), (⟨"HeatShelves$State", "fastestWithRoom", "(I)I"⟩, 10), (⟨"HeatShelves$State", "hasRoom", "(II)Z"⟩, 10), (⟨"HeatShelves$State", "countBlocks", "()I"⟩, 10), (⟨"HeatShelves", "settle", "(I)I"⟩, 7), (⟨"HeatShelves$History", "record", "(LHeatShelves$State;)V"⟩, 3), (⟨"HeatShelves$History", "stateAt", "(I)LHeatShelves$State;"⟩, 3), (⟨"HeatShelves", "passInWork", "(I)I"⟩, 7), (⟨"HeatShelves$Night", "letPass", "(LHeatShelves$State;I)I"⟩, 2), (⟨"HeatShelves$State", "payNight", "()V"⟩, 10), (⟨"HeatShelves$State", "nightPriceOfShelf", "(I)I"⟩, 10), (⟨"HeatShelves$State", "fade", "()V"⟩, 10), (⟨"HeatShelves$Night", "findWhoMayMove", "(LHeatShelves$State;)V"⟩, 2), (⟨"HeatShelves$State", "wantedShelf", "(I)I"⟩, 10), (⟨"HeatShelves$Night", "moveInTurn", "(LHeatShelves$State;ZI)I"⟩, 2)]
theorem lw_r1 : ∀ q ∈ lw_privs_1, lw_okq q := List.forall_mem_cons.mpr ⟨lw_p0, List.forall_mem_cons.mpr ⟨lw_p1, List.forall_mem_cons.mpr ⟨lw_p2, List.forall_mem_cons.mpr ⟨lw_p3, List.forall_mem_cons.mpr ⟨lw_p4, List.forall_mem_cons.mpr ⟨lw_p5, List.forall_mem_cons.mpr ⟨lw_p6, List.forall_mem_cons.mpr ⟨lw_p7, List.forall_mem_cons.mpr ⟨lw_p8, List.forall_mem_cons.mpr ⟨lw_p9, List.forall_mem_cons.mpr ⟨lw_p10, List.forall_mem_cons.mpr ⟨lw_p11, List.forall_mem_cons.mpr ⟨lw_p12, List.forall_mem_cons.mpr ⟨lw_p13, List.forall_mem_cons.mpr ⟨lw_p14, List.forall_mem_cons.mpr ⟨lw_p15, fun _ h => absurd h List.not_mem_nil⟩⟩⟩⟩⟩⟩⟩⟩⟩⟩⟩⟩⟩⟩⟩⟩
theorem lw_p16 : lw_okq (⟨"HeatShelves$Night", "nextInTurn", "(LHeatShelves$State;Z)I"⟩, 2) := ⟨⟨by decide +kernel, by decide +kernel⟩, List.mem_of_getElem? (i := 93) (by decide +kernel), List.mem_of_getElem? (i := 256) (by decide +kernel), List.mem_of_getElem? (i := 257) (by decide +kernel)⟩
theorem lw_p17 : lw_okq (⟨"HeatShelves$Night", "shelfToMoveTo", "(LHeatShelves$State;I)I"⟩, 2) := ⟨⟨by decide +kernel, by decide +kernel⟩, List.mem_of_getElem? (i := 93) (by decide +kernel), List.mem_of_getElem? (i := 260) (by decide +kernel), List.mem_of_getElem? (i := 261) (by decide +kernel)⟩
theorem lw_p18 : lw_okq (⟨"HeatShelves$State", "moveTo", "(II)V"⟩, 10) := ⟨⟨by decide +kernel, by decide +kernel⟩, List.mem_of_getElem? (i := 17) (by decide +kernel), List.mem_of_getElem? (i := 268) (by decide +kernel), List.mem_of_getElem? (i := 269) (by decide +kernel)⟩
theorem lw_p19 : lw_okq (⟨"HeatShelves$Night", "promiseIfDeep", "(LHeatShelves$State;I)V"⟩, 2) := ⟨⟨by decide +kernel, by decide +kernel⟩, List.mem_of_getElem? (i := 93) (by decide +kernel), List.mem_of_getElem? (i := 272) (by decide +kernel), List.mem_of_getElem? (i := 273) (by decide +kernel)⟩
theorem lw_p20 : lw_okq (⟨"HeatShelves$State", "changeSetting", "(II)I"⟩, 10) := ⟨⟨by decide +kernel, by decide +kernel⟩, List.mem_of_getElem? (i := 17) (by decide +kernel), List.mem_of_getElem? (i := 281) (by decide +kernel), List.mem_of_getElem? (i := 282) (by decide +kernel)⟩
theorem lw_p21 : lw_okq (⟨"HeatShelves$State", "allowsSetting", "(II)Z"⟩, 10) := ⟨⟨by decide +kernel, by decide +kernel⟩, List.mem_of_getElem? (i := 17) (by decide +kernel), List.mem_of_getElem? (i := 287) (by decide +kernel), List.mem_of_getElem? (i := 288) (by decide +kernel)⟩
theorem lw_p22 : lw_okq (⟨"HeatShelves$History", "takeLatest", "(LHeatShelves$State;)Z"⟩, 3) := ⟨⟨by decide +kernel, by decide +kernel⟩, List.mem_of_getElem? (i := 73) (by decide +kernel), List.mem_of_getElem? (i := 295) (by decide +kernel), List.mem_of_getElem? (i := 296) (by decide +kernel)⟩
theorem lw_p23 : lw_okq (⟨"HeatShelves$State", "countOnShelf", "(I)I"⟩, 10) := ⟨⟨by decide +kernel, by decide +kernel⟩, List.mem_of_getElem? (i := 17) (by decide +kernel), List.mem_of_getElem? (i := 308) (by decide +kernel), List.mem_of_getElem? (i := 309) (by decide +kernel)⟩
theorem lw_p24 : lw_okq (⟨"HeatShelves$State", "heatOnShelf", "(I)I"⟩, 10) := ⟨⟨by decide +kernel, by decide +kernel⟩, List.mem_of_getElem? (i := 17) (by decide +kernel), List.mem_of_getElem? (i := 312) (by decide +kernel), List.mem_of_getElem? (i := 313) (by decide +kernel)⟩
theorem lw_p25 : lw_okq (⟨"HeatShelves$State", "countPinned", "()I"⟩, 10) := ⟨⟨by decide +kernel, by decide +kernel⟩, List.mem_of_getElem? (i := 17) (by decide +kernel), List.mem_of_getElem? (i := 321) (by decide +kernel), List.mem_of_getElem? (i := 322) (by decide +kernel)⟩
theorem lw_p26 : lw_okq (⟨"HeatShelves$State", "heatOfAll", "()I"⟩, 10) := ⟨⟨by decide +kernel, by decide +kernel⟩, List.mem_of_getElem? (i := 17) (by decide +kernel), List.mem_of_getElem? (i := 325) (by decide +kernel), List.mem_of_getElem? (i := 326) (by decide +kernel)⟩
theorem lw_p27 : lw_okq (⟨"HeatShelves", "paidWithHot", "(II)I"⟩, 7) := ⟨⟨by decide +kernel, by decide +kernel⟩, List.mem_of_getElem? (i := 9) (by decide +kernel), List.mem_of_getElem? (i := 339) (by decide +kernel), List.mem_of_getElem? (i := 340) (by decide +kernel)⟩
theorem lw_p28 : lw_okq (⟨"HeatShelves", "paidForNightsInWork", "()I"⟩, 7) := ⟨⟨by decide +kernel, by decide +kernel⟩, List.mem_of_getElem? (i := 9) (by decide +kernel), List.mem_of_getElem? (i := 344) (by decide +kernel), List.mem_of_getElem? (i := 345) (by decide +kernel)⟩
theorem lw_p29 : lw_okq (⟨"HeatShelves$State", "placeOfRank", "(I)I"⟩, 10) := ⟨⟨by decide +kernel, by decide +kernel⟩, List.mem_of_getElem? (i := 17) (by decide +kernel), List.mem_of_getElem? (i := 363) (by decide +kernel), List.mem_of_getElem? (i := 364) (by decide +kernel)⟩
theorem lw_p30 : lw_okq (⟨"HeatShelves$State", "countHotter", "(I)I"⟩, 10) := ⟨⟨by decide +kernel, by decide +kernel⟩, List.mem_of_getElem? (i := 17) (by decide +kernel), List.mem_of_getElem? (i := 367) (by decide +kernel), List.mem_of_getElem? (i := 368) (by decide +kernel)⟩
theorem lw_p31 : lw_okq (⟨"HeatShelves$State", "find", "(I)I"⟩, 10) := ⟨⟨by decide +kernel, by decide +kernel⟩, List.mem_of_getElem? (i := 17) (by decide +kernel), List.mem_of_getElem? (i := 375) (by decide +kernel), List.mem_of_getElem? (i := 376) (by decide +kernel)⟩
def lw_privs_2 : List (MethodName × Nat) := [(⟨"HeatShelves$Night", "nextInTurn", "(LHeatShelves$State;Z)I"⟩, 2), (⟨"HeatShelves$Night", "shelfToMoveTo", "(LHeatShelves$State;I)I"⟩, 2), (⟨"HeatShelves$State", "moveTo", "(II)V"⟩, 10), (⟨"HeatShelves$Night", "promiseIfDeep", "(LHeatShelves$State;I)V"⟩, 2), (⟨"HeatShelves$State", "changeSetting", "(II)I"⟩, 10), (⟨"HeatShelves$State", "allowsSetting", "(II)Z"⟩, 10), (⟨"HeatShelves$History", "takeLatest", "(LHeatShelves$State;)Z"⟩, 3), (⟨"HeatShelves$State", "countOnShelf", "(I)I"⟩, 10), (⟨"HeatShelves$State", "heatOnShelf", "(I)I"⟩, 10), (⟨"HeatShelves$State", "countPinned", "()I"⟩, 10), (⟨"HeatShelves$State", "heatOfAll", "()I"⟩, 10), (⟨"HeatShelves", "paidWithHot", "(II)I"⟩, 7), (⟨"HeatShelves", "paidForNightsInWork", "()I"⟩, 7), (⟨"HeatShelves$State", "placeOfRank", "(I)I"⟩, 10), (⟨"HeatShelves$State", "countHotter", "(I)I"⟩, 10), (⟨"HeatShelves$State", "find", "(I)I"⟩, 10)]
theorem lw_r2 : ∀ q ∈ lw_privs_2, lw_okq q := List.forall_mem_cons.mpr ⟨lw_p16, List.forall_mem_cons.mpr ⟨lw_p17, List.forall_mem_cons.mpr ⟨lw_p18, List.forall_mem_cons.mpr ⟨lw_p19, List.forall_mem_cons.mpr ⟨lw_p20, List.forall_mem_cons.mpr ⟨lw_p21, List.forall_mem_cons.mpr ⟨lw_p22, List.forall_mem_cons.mpr ⟨lw_p23, List.forall_mem_cons.mpr ⟨lw_p24, List.forall_mem_cons.mpr ⟨lw_p25, List.forall_mem_cons.mpr ⟨lw_p26, List.forall_mem_cons.mpr ⟨lw_p27, List.forall_mem_cons.mpr ⟨lw_p28, List.forall_mem_cons.mpr ⟨lw_p29, List.forall_mem_cons.mpr ⟨lw_p30, List.forall_mem_cons.mpr ⟨lw_p31, fun _ h => absurd h List.not_mem_nil⟩⟩⟩⟩⟩⟩⟩⟩⟩⟩⟩⟩⟩⟩⟩⟩
theorem lw_p32 : lw_okq (⟨"HeatShelves", "whyItStays", "(I)I"⟩, 7) := ⟨⟨by decide +kernel, by decide +kernel⟩, List.mem_of_getElem? (i := 9) (by decide +kernel), List.mem_of_getElem? (i := 380) (by decide +kernel), List.mem_of_getElem? (i := 381) (by decide +kernel)⟩
theorem lw_p33 : lw_okq (⟨"HeatShelves$State", "dropBlock", "(I)I"⟩, 10) := ⟨⟨by decide +kernel, by decide +kernel⟩, List.mem_of_getElem? (i := 17) (by decide +kernel), List.mem_of_getElem? (i := 401) (by decide +kernel), List.mem_of_getElem? (i := 402) (by decide +kernel)⟩
theorem lw_p34 : lw_okq (⟨"HeatShelves$State", "turnPin", "(IZ)I"⟩, 10) := ⟨⟨by decide +kernel, by decide +kernel⟩, List.mem_of_getElem? (i := 17) (by decide +kernel), List.mem_of_getElem? (i := 414) (by decide +kernel), List.mem_of_getElem? (i := 415) (by decide +kernel)⟩
theorem lw_p35 : lw_okq (⟨"HeatShelves$State", "readBlock", "(II)I"⟩, 10) := ⟨⟨by decide +kernel, by decide +kernel⟩, List.mem_of_getElem? (i := 17) (by decide +kernel), List.mem_of_getElem? (i := 426) (by decide +kernel), List.mem_of_getElem? (i := 427) (by decide +kernel)⟩
theorem lw_p36 : lw_okq (⟨"HeatShelves$State", "readOnce", "(I)I"⟩, 10) := ⟨⟨by decide +kernel, by decide +kernel⟩, List.mem_of_getElem? (i := 17) (by decide +kernel), List.mem_of_getElem? (i := 430) (by decide +kernel), List.mem_of_getElem? (i := 431) (by decide +kernel)⟩
theorem lw_p37 : lw_okq (⟨"HeatShelves$State", "askBack", "(I)I"⟩, 10) := ⟨⟨by decide +kernel, by decide +kernel⟩, List.mem_of_getElem? (i := 17) (by decide +kernel), List.mem_of_getElem? (i := 436) (by decide +kernel), List.mem_of_getElem? (i := 437) (by decide +kernel)⟩
def lw_privs_3 : List (MethodName × Nat) := [(⟨"HeatShelves", "whyItStays", "(I)I"⟩, 7), (⟨"HeatShelves$State", "dropBlock", "(I)I"⟩, 10), (⟨"HeatShelves$State", "turnPin", "(IZ)I"⟩, 10), (⟨"HeatShelves$State", "readBlock", "(II)I"⟩, 10), (⟨"HeatShelves$State", "readOnce", "(I)I"⟩, 10), (⟨"HeatShelves$State", "askBack", "(I)I"⟩, 10)]
theorem lw_r3 : ∀ q ∈ lw_privs_3, lw_okq q := List.forall_mem_cons.mpr ⟨lw_p32, List.forall_mem_cons.mpr ⟨lw_p33, List.forall_mem_cons.mpr ⟨lw_p34, List.forall_mem_cons.mpr ⟨lw_p35, List.forall_mem_cons.mpr ⟨lw_p36, List.forall_mem_cons.mpr ⟨lw_p37, fun _ h => absurd h List.not_mem_nil⟩⟩⟩⟩⟩⟩
def lw_privs : List (MethodName × Nat) := lw_privs_1 ++ (lw_privs_2 ++ (lw_privs_3))
def lw_tbl : List Cond := k2_sels lw_privs ++ tables_1
theorem lw_privs_ok : ∀ q ∈ lw_privs, lw_okq q := by
  show ∀ q ∈ lw_privs_1 ++ (lw_privs_2 ++ (lw_privs_3)), lw_okq q
  exact List.forall_mem_append.mpr ⟨lw_r1, List.forall_mem_append.mpr ⟨lw_r2, lw_r3⟩⟩
-- ===== end of PART A; then your names; then what follows =====
/-! ===== BEGIN words of one list among another's, by their places ===== -/
theorem goodIn_r {big : List Cond} (ws : List Cond) (ps : List Nat) (hp : ws = ps.filterMap (fun i => big[i]?)) (h : ws.all goodWord = true) : GoodIn big ws := by
  intro w hw
  have h1 := List.all_eq_true.mp h w hw
  rw [hp] at hw
  obtain ⟨i, -, hi⟩ := List.mem_filterMap.mp hw
  have hm : w ∈ big := by first | exact List.mem_of_getElem? hi | exact List.getElem?_mem hi
  exact ⟨hm, good_of_word h1⟩
theorem goodIn_app {big a b : List Cond} (ha : GoodIn big a) (hb : GoodIn big b) : GoodIn big (a ++ b) := fun w h => (List.mem_append.mp h).elim (ha w) (hb w)
theorem goodIn_ca {big a b : List Cond} {c : Cond} (ha : GoodIn big (c :: a)) (hb : GoodIn big b) : GoodIn big (c :: (a ++ b)) := fun w h => (List.mem_cons.mp h).elim (fun e => ha w (List.mem_cons.mpr (Or.inl e))) (fun h => (List.mem_append.mp h).elim (fun h => ha w (List.mem_cons.mpr (Or.inr h))) (hb w))
theorem goodIn_sub {big ws : List Cond} (hm : ∀ w ∈ ws, w ∈ big) (h : ws.all goodWord = true) : GoodIn big ws := fun w hw => ⟨hm w hw, good_of_word (List.all_eq_true.mp h w hw)⟩
/-! ===== END ===== -/

/-! ===== BEGIN printed: names, fields, word lists, decode rows ===== -/
def RX0 : String := "HeatShelves$History"
def TX0 : u_T := fun k => match k with
  | 0 => ("HeatShelves$History", "states", "[LHeatShelves$State;", true)
  | 1 => ("HeatShelves$History", "first", "I", false)
  | _ => ("HeatShelves$History", "count", "I", false)
def tyX0 : Nat → FieldType := fun k => match k with
  | 0 => .array (.object "HeatShelves$State")
  | 1 => .int
  | _ => .int
abbrev wsX00 : List Cond := u_ws RX0 TX0 3
theorem nmX0 : ∀ a, a < 3 → ∀ b, b < 3 → a ≠ b → (TX0 a).2.1 ≠ (TX0 b).2.1 := by decide +kernel
theorem tyX0_ok : ∀ k, k < 3 → parseFieldDescriptor (TX0 k).2.2.1 = some (tyX0 k) := by decide +kernel
abbrev cX0_init : ByteArray := prog_2_method_1_code
def yX0_init : MethodName := ⟨RX0, "<init>", "()V"⟩
abbrev cX0_stateAt : ByteArray := prog_2_method_2_code
def yX0_stateAt : MethodName := ⟨RX0, "stateAt", "(I)LHeatShelves$State;"⟩
abbrev cX0_record : ByteArray := prog_2_method_3_code
def yX0_record : MethodName := ⟨RX0, "record", "(LHeatShelves$State;)V"⟩
abbrev cX0_takeLatest : ByteArray := prog_2_method_4_code
def yX0_takeLatest : MethodName := ⟨RX0, "takeLatest", "(LHeatShelves$State;)Z"⟩
def RX1 : String := "HeatShelves$Night"
def TX1 : u_T := fun k => match k with
  | 0 => ("HeatShelves$Night", "wanted", "[I", true)
  | _ => ("HeatShelves$Night", "reasons", "[I", true)
def tyX1 : Nat → FieldType := fun k => match k with
  | 0 => .array .int
  | _ => .array .int
abbrev wsX10 : List Cond := u_ws RX1 TX1 2
theorem nmX1 : ∀ a, a < 2 → ∀ b, b < 2 → a ≠ b → (TX1 a).2.1 ≠ (TX1 b).2.1 := by decide +kernel
theorem tyX1_ok : ∀ k, k < 2 → parseFieldDescriptor (TX1 k).2.2.1 = some (tyX1 k) := by decide +kernel
abbrev cX1_init : ByteArray := prog_3_method_1_code
def yX1_init : MethodName := ⟨RX1, "<init>", "()V"⟩
abbrev cX1_letPass : ByteArray := prog_3_method_2_code
def yX1_letPass : MethodName := ⟨RX1, "letPass", "(LHeatShelves$State;I)I"⟩
abbrev cX1_findWhoMayMove : ByteArray := prog_3_method_3_code
def yX1_findWhoMayMove : MethodName := ⟨RX1, "findWhoMayMove", "(LHeatShelves$State;)V"⟩
abbrev cX1_moveInTurn : ByteArray := prog_3_method_4_code
def yX1_moveInTurn : MethodName := ⟨RX1, "moveInTurn", "(LHeatShelves$State;ZI)I"⟩
abbrev cX1_nextInTurn : ByteArray := prog_3_method_5_code
def yX1_nextInTurn : MethodName := ⟨RX1, "nextInTurn", "(LHeatShelves$State;Z)I"⟩
abbrev cX1_shelfToMoveTo : ByteArray := prog_3_method_6_code
def yX1_shelfToMoveTo : MethodName := ⟨RX1, "shelfToMoveTo", "(LHeatShelves$State;I)I"⟩
abbrev cX1_promiseIfDeep : ByteArray := prog_3_method_7_code
def yX1_promiseIfDeep : MethodName := ⟨RX1, "promiseIfDeep", "(LHeatShelves$State;I)V"⟩
def RX2 : String := "HeatShelves$Orders"
def TX2 : u_T := fun k => match k with
  | 0 => ("HeatShelves$Orders", "signs", "[I", true)
  | 1 => ("HeatShelves$Orders", "length", "I", false)
  | 2 => ("HeatShelves$Orders", "kinds", "[I", true)
  | 3 => ("HeatShelves$Orders", "values", "[I", true)
  | 4 => ("HeatShelves$Orders", "times", "[I", true)
  | 5 => ("HeatShelves$Orders", "count", "I", false)
  | _ => ("HeatShelves$Orders", "place", "I", false)
def tyX2 : Nat → FieldType := fun k => match k with
  | 0 => .array .int
  | 1 => .int
  | 2 => .array .int
  | 3 => .array .int
  | 4 => .array .int
  | 5 => .int
  | _ => .int
abbrev wsX20 : List Cond := u_ws RX2 TX2 7
theorem nmX2 : ∀ a, a < 7 → ∀ b, b < 7 → a ≠ b → (TX2 a).2.1 ≠ (TX2 b).2.1 := by decide +kernel
theorem tyX2_ok : ∀ k, k < 7 → parseFieldDescriptor (TX2 k).2.2.1 = some (tyX2 k) := by decide +kernel
abbrev cX2_init : ByteArray := prog_4_method_1_code
def yX2_init : MethodName := ⟨RX2, "<init>", "()V"⟩
def RX3 : String := "HeatShelves$State"
def TX3 : u_T := fun k => match k with
  | 0 => ("HeatShelves$State", "numbers", "[I", true)
  | 1 => ("HeatShelves$State", "taken", "[I", true)
  | 2 => ("HeatShelves$State", "names", "[I", true)
  | 3 => ("HeatShelves$State", "sizes", "[I", true)
  | 4 => ("HeatShelves$State", "heats", "[I", true)
  | 5 => ("HeatShelves$State", "shelves", "[I", true)
  | 6 => ("HeatShelves$State", "pins", "[I", true)
  | 7 => ("HeatShelves$State", "promises", "[I", true)
  | 8 => ("HeatShelves$State", "readings", "[I", true)
  | _ => ("HeatShelves$State", "moves", "[I", true)
def tyX3 : Nat → FieldType := fun k => match k with
  | 0 => .array .int
  | 1 => .array .int
  | 2 => .array .int
  | 3 => .array .int
  | 4 => .array .int
  | 5 => .array .int
  | 6 => .array .int
  | 7 => .array .int
  | 8 => .array .int
  | _ => .array .int
abbrev wsX30 : List Cond := u_ws RX3 TX3 10
theorem nmX3 : ∀ a, a < 10 → ∀ b, b < 10 → a ≠ b → (TX3 a).2.1 ≠ (TX3 b).2.1 := by decide +kernel
theorem tyX3_ok : ∀ k, k < 10 → parseFieldDescriptor (TX3 k).2.2.1 = some (tyX3 k) := by decide +kernel
abbrev cX3_init : ByteArray := prog_5_method_1_code
def yX3_init : MethodName := ⟨RX3, "<init>", "()V"⟩
abbrev cX3_copyFrom : ByteArray := prog_5_method_2_code
def yX3_copyFrom : MethodName := ⟨RX3, "copyFrom", "(LHeatShelves$State;)V"⟩
abbrev cX3_countBlocks : ByteArray := prog_5_method_3_code
def yX3_countBlocks : MethodName := ⟨RX3, "countBlocks", "()I"⟩
abbrev cX3_find : ByteArray := prog_5_method_4_code
def yX3_find : MethodName := ⟨RX3, "find", "(I)I"⟩
abbrev cX3_placeOfRank : ByteArray := prog_5_method_5_code
def yX3_placeOfRank : MethodName := ⟨RX3, "placeOfRank", "(I)I"⟩
abbrev cX3_countHotter : ByteArray := prog_5_method_6_code
def yX3_countHotter : MethodName := ⟨RX3, "countHotter", "(I)I"⟩
abbrev cX3_wantedShelf : ByteArray := prog_5_method_7_code
def yX3_wantedShelf : MethodName := ⟨RX3, "wantedShelf", "(I)I"⟩
abbrev cX3_hasRoom : ByteArray := prog_5_method_8_code
def yX3_hasRoom : MethodName := ⟨RX3, "hasRoom", "(II)Z"⟩
abbrev cX3_countOnShelf : ByteArray := prog_5_method_9_code
def yX3_countOnShelf : MethodName := ⟨RX3, "countOnShelf", "(I)I"⟩
abbrev cX3_heatOnShelf : ByteArray := prog_5_method_10_code
def yX3_heatOnShelf : MethodName := ⟨RX3, "heatOnShelf", "(I)I"⟩
abbrev cX3_heatOfAll : ByteArray := prog_5_method_11_code
def yX3_heatOfAll : MethodName := ⟨RX3, "heatOfAll", "()I"⟩
abbrev cX3_nightPriceOfShelf : ByteArray := prog_5_method_12_code
def yX3_nightPriceOfShelf : MethodName := ⟨RX3, "nightPriceOfShelf", "(I)I"⟩
abbrev cX3_countPinned : ByteArray := prog_5_method_13_code
def yX3_countPinned : MethodName := ⟨RX3, "countPinned", "()I"⟩
abbrev cX3_addBlock : ByteArray := prog_5_method_14_code
def yX3_addBlock : MethodName := ⟨RX3, "addBlock", "(I)I"⟩
abbrev cX3_fastestWithRoom : ByteArray := prog_5_method_15_code
def yX3_fastestWithRoom : MethodName := ⟨RX3, "fastestWithRoom", "(I)I"⟩
abbrev cX3_dropBlock : ByteArray := prog_5_method_16_code
def yX3_dropBlock : MethodName := ⟨RX3, "dropBlock", "(I)I"⟩
abbrev cX3_readBlock : ByteArray := prog_5_method_17_code
def yX3_readBlock : MethodName := ⟨RX3, "readBlock", "(II)I"⟩
abbrev cX3_readOnce : ByteArray := prog_5_method_18_code
def yX3_readOnce : MethodName := ⟨RX3, "readOnce", "(I)I"⟩
abbrev cX3_askBack : ByteArray := prog_5_method_19_code
def yX3_askBack : MethodName := ⟨RX3, "askBack", "(I)I"⟩
abbrev cX3_moveTo : ByteArray := prog_5_method_20_code
def yX3_moveTo : MethodName := ⟨RX3, "moveTo", "(II)V"⟩
abbrev cX3_payNight : ByteArray := prog_5_method_21_code
def yX3_payNight : MethodName := ⟨RX3, "payNight", "()V"⟩
abbrev cX3_fade : ByteArray := prog_5_method_22_code
def yX3_fade : MethodName := ⟨RX3, "fade", "()V"⟩
abbrev cX3_turnPin : ByteArray := prog_5_method_23_code
def yX3_turnPin : MethodName := ⟨RX3, "turnPin", "(IZ)I"⟩
abbrev cX3_changeSetting : ByteArray := prog_5_method_25_code
def yX3_changeSetting : MethodName := ⟨RX3, "changeSetting", "(II)I"⟩
abbrev cX3_allowsSetting : ByteArray := prog_5_method_26_code
def yX3_allowsSetting : MethodName := ⟨RX3, "allowsSetting", "(II)Z"⟩
def RX4 : String := "HeatShelves"
def TX4 : u_T := fun k => match k with
  | 0 => ("HeatShelves", "state", "LHeatShelves$State;", true)
  | 1 => ("HeatShelves", "work", "LHeatShelves$State;", true)
  | 2 => ("HeatShelves", "snapshot", "LHeatShelves$State;", true)
  | 3 => ("HeatShelves", "hasSnapshot", "Z", false)
  | 4 => ("HeatShelves", "history", "LHeatShelves$History;", true)
  | 5 => ("HeatShelves", "night", "LHeatShelves$Night;", true)
  | _ => ("HeatShelves", "orders", "LHeatShelves$Orders;", true)
def tyX4 : Nat → FieldType := fun k => match k with
  | 0 => .object "HeatShelves$State"
  | 1 => .object "HeatShelves$State"
  | 2 => .object "HeatShelves$State"
  | 3 => .boolean
  | 4 => .object "HeatShelves$History"
  | 5 => .object "HeatShelves$Night"
  | _ => .object "HeatShelves$Orders"
abbrev wsX40 : List Cond := u_ws RX4 TX4 7
theorem nmX4 : ∀ a, a < 7 → ∀ b, b < 7 → a ≠ b → (TX4 a).2.1 ≠ (TX4 b).2.1 := by decide +kernel
theorem tyX4_ok : ∀ k, k < 7 → parseFieldDescriptor (TX4 k).2.2.1 = some (tyX4 k) := by decide +kernel
abbrev cX4_init : ByteArray := prog_1_method_1_code
def yX4_init : MethodName := ⟨RX4, "<init>", "()V"⟩
abbrev cX4_add : ByteArray := prog_1_method_2_code
def yX4_add : MethodName := ⟨RX4, "add", "(I)I"⟩
abbrev cX4_remove : ByteArray := prog_1_method_3_code
def yX4_remove : MethodName := ⟨RX4, "remove", "(I)I"⟩
abbrev cX4_read : ByteArray := prog_1_method_4_code
def yX4_read : MethodName := ⟨RX4, "read", "(II)I"⟩
abbrev cX4_pin : ByteArray := prog_1_method_5_code
def yX4_pin : MethodName := ⟨RX4, "pin", "(IZ)I"⟩
abbrev cX4_pass : ByteArray := prog_1_method_6_code
def yX4_pass : MethodName := ⟨RX4, "pass", "(I)I"⟩
abbrev cX4_set : ByteArray := prog_1_method_7_code
def yX4_set : MethodName := ⟨RX4, "set", "(II)I"⟩
abbrev cX4_undo : ByteArray := prog_1_method_11_code
def yX4_undo : MethodName := ⟨RX4, "undo", "()I"⟩
abbrev cX4_restore : ByteArray := prog_1_method_13_code
def yX4_restore : MethodName := ⟨RX4, "restore", "()I"⟩
abbrev cX4_block : ByteArray := prog_1_method_14_code
def yX4_block : MethodName := ⟨RX4, "block", "(I)I"⟩
abbrev cX4_ofBlock : ByteArray := prog_1_method_15_code
def yX4_ofBlock : MethodName := ⟨RX4, "ofBlock", "(II)I"⟩
abbrev cX4_shelf : ByteArray := prog_1_method_16_code
def yX4_shelf : MethodName := ⟨RX4, "shelf", "(II)I"⟩
abbrev cX4_total : ByteArray := prog_1_method_17_code
def yX4_total : MethodName := ⟨RX4, "total", "(I)I"⟩
abbrev cX4_ifPassed : ByteArray := prog_1_method_18_code
def yX4_ifPassed : MethodName := ⟨RX4, "ifPassed", "(II)I"⟩
abbrev cX4_nextMove : ByteArray := prog_1_method_19_code
def yX4_nextMove : MethodName := ⟨RX4, "nextMove", "()I"⟩
abbrev cX4_bestHot : ByteArray := prog_1_method_20_code
def yX4_bestHot : MethodName := ⟨RX4, "bestHot", "(II)I"⟩
abbrev cX4_settle : ByteArray := prog_1_method_22_code
def yX4_settle : MethodName := ⟨RX4, "settle", "(I)I"⟩
abbrev cX4_passInWork : ByteArray := prog_1_method_23_code
def yX4_passInWork : MethodName := ⟨RX4, "passInWork", "(I)I"⟩
abbrev cX4_whyItStays : ByteArray := prog_1_method_25_code
def yX4_whyItStays : MethodName := ⟨RX4, "whyItStays", "(I)I"⟩
abbrev cX4_paidForNightsInWork : ByteArray := prog_1_method_26_code
def yX4_paidForNightsInWork : MethodName := ⟨RX4, "paidForNightsInWork", "()I"⟩
abbrev cX4_paidWithHot : ByteArray := prog_1_method_27_code
def yX4_paidWithHot : MethodName := ⟨RX4, "paidWithHot", "(II)I"⟩
abbrev cX4_at : ByteArray := prog_1_method_29_code
def yX4_at : MethodName := ⟨RX4, "at", "([II)I"⟩
abbrev cX4_put : ByteArray := prog_1_method_30_code
def yX4_put : MethodName := ⟨RX4, "put", "([III)V"⟩
abbrev cX4_raise : ByteArray := prog_1_method_31_code
def yX4_raise : MethodName := ⟨RX4, "raise", "([III)V"⟩
abbrev cX4_copyRow : ByteArray := prog_1_method_32_code
def yX4_copyRow : MethodName := ⟨RX4, "copyRow", "([I[I)V"⟩
abbrev cX4_closeGap : ByteArray := prog_1_method_33_code
def yX4_closeGap : MethodName := ⟨RX4, "closeGap", "([II)V"⟩
def RX5 : String := "HeatShelvesModel"
def TX5 : u_T := fun k => match k with
  | _ => ("", "", "", false)
def tyX5 : Nat → FieldType := fun k => match k with
  | _ => .int
abbrev wsX50 : List Cond := u_ws RX5 TX5 0
theorem nmX5 : ∀ a, a < 0 → ∀ b, b < 0 → a ≠ b → (TX5 a).2.1 ≠ (TX5 b).2.1 := by decide +kernel
theorem tyX5_ok : ∀ k, k < 0 → parseFieldDescriptor (TX5 k).2.2.1 = some (tyX5 k) := by decide +kernel
def RJ9 : String := "java/lang/Math"
def TJ9 : u_T := fun k => match k with
  | _ => ("", "", "", false)
def tyJ9 : Nat → FieldType := fun k => match k with
  | _ => .int
abbrev wsJ90 : List Cond := u_ws RJ9 TJ9 0
theorem nmJ9 : ∀ a, a < 0 → ∀ b, b < 0 → a ≠ b → (TJ9 a).2.1 ≠ (TJ9 b).2.1 := by decide +kernel
theorem tyJ9_ok : ∀ k, k < 0 → parseFieldDescriptor (TJ9 k).2.2.1 = some (tyJ9 k) := by decide +kernel
abbrev cJ9_abs_0f7a4 : ByteArray := prog_8_method_59_code
def yJ9_abs_0f7a4 : MethodName := ⟨RJ9, "abs", "(I)I"⟩
abbrev cJ9_max_7cf53 : ByteArray := prog_8_method_65_code
def yJ9_max_7cf53 : MethodName := ⟨RJ9, "max", "(II)I"⟩
abbrev cJ9_min_7cf53 : ByteArray := prog_8_method_69_code
def yJ9_min_7cf53 : MethodName := ⟨RJ9, "min", "(II)I"⟩
def RJ10 : String := "java/lang/System"
def TJ10 : u_T := fun k => match k with
  | _ => ("", "", "", false)
def tyJ10 : Nat → FieldType := fun k => match k with
  | _ => .int
abbrev wsJ100 : List Cond := u_ws RJ10 TJ10 0
theorem nmJ10 : ∀ a, a < 0 → ∀ b, b < 0 → a ≠ b → (TJ10 a).2.1 ≠ (TJ10 b).2.1 := by decide +kernel
theorem tyJ10_ok : ∀ k, k < 0 → parseFieldDescriptor (TJ10 k).2.2.1 = some (tyJ10 k) := by decide +kernel
def RL : String := "HeatShelvesLaw"
abbrev cL_cell : ByteArray := method_2_code
def yL_cell : MethodName := ⟨RL, "cell", "([II)I"⟩
abbrev cL_low : ByteArray := method_3_code
def yL_low : MethodName := ⟨RL, "low", "(II)I"⟩
abbrev cL_areShelves : ByteArray := method_4_code
def yL_areShelves : MethodName := ⟨RL, "areShelves", "(LHeatShelves;)Z"⟩
abbrev cL_isNight : ByteArray := method_5_code
def yL_isNight : MethodName := ⟨RL, "isNight", "(LHeatShelves;[I[I)Z"⟩
abbrev cL_isRead : ByteArray := method_6_code
def yL_isRead : MethodName := ⟨RL, "isRead", "(LHeatShelves;II)Z"⟩
abbrev cL_isBest : ByteArray := method_7_code
def yL_isBest : MethodName := ⟨RL, "isBest", "(LHeatShelves;I)Z"⟩
abbrev cL_does : ByteArray := method_8_code
def yL_does : MethodName := ⟨RL, "does", "(LHeatShelves;II)Z"⟩
abbrev cL_law : ByteArray := code
def yL_law : MethodName := ⟨RL, "law", "([I)Z"⟩
def wsX3_init : List Cond := .code yX3_init cX3_init 2 none :: ([.methodLink RX3 3 objectInit, .instanceMethod objectInit, .code objectInit ⟨#[0xb1]⟩ 1 none, .arrayClass .int, .fieldLink RX3 9 "HeatShelves$State" "numbers" "[I", .fieldLink RX3 15 "HeatShelves$State" "taken" "[I", .fieldLink RX3 18 "HeatShelves$State" "names" "[I", .fieldLink RX3 21 "HeatShelves$State" "sizes" "[I", .fieldLink RX3 24 "HeatShelves$State" "heats" "[I", .fieldLink RX3 27 "HeatShelves$State" "shelves" "[I", .fieldLink RX3 30 "HeatShelves$State" "pins" "[I", .fieldLink RX3 33 "HeatShelves$State" "promises" "[I", .fieldLink RX3 36 "HeatShelves$State" "readings" "[I", .fieldLink RX3 39 "HeatShelves$State" "moves" "[I"] ++ wsX30)
def wsX0_init : List Cond := .code yX0_init cX0_init 2 none :: ([.methodLink RX0 3 objectInit, .instanceMethod objectInit, .code objectInit ⟨#[0xb1]⟩ 1 none, .classLink RX0 9 RX3, .fieldLink RX0 11 "HeatShelves$History" "states" "[LHeatShelves$State;", .fieldLink RX0 17 "HeatShelves$History" "first" "I", .fieldLink RX0 21 "HeatShelves$History" "count" "I", .instantiable RX3 10, .initialized RX3, .instanceMethod yX3_init, .code yX3_init cX3_init 2 none, .methodLink RX3 3 objectInit, .arrayClass .int, .fieldLink RX3 9 "HeatShelves$State" "numbers" "[I", .fieldLink RX3 15 "HeatShelves$State" "taken" "[I", .fieldLink RX3 18 "HeatShelves$State" "names" "[I", .fieldLink RX3 21 "HeatShelves$State" "sizes" "[I", .fieldLink RX3 24 "HeatShelves$State" "heats" "[I", .fieldLink RX3 27 "HeatShelves$State" "shelves" "[I", .fieldLink RX3 30 "HeatShelves$State" "pins" "[I", .fieldLink RX3 33 "HeatShelves$State" "promises" "[I", .fieldLink RX3 36 "HeatShelves$State" "readings" "[I", .fieldLink RX3 39 "HeatShelves$State" "moves" "[I"] ++ wsX00 ++ wsX30)
def wsX0_stateAt : List Cond := .code yX0_stateAt cX0_stateAt 3 (some (.object "HeatShelves$State")) :: ([.fieldLink RX0 17 "HeatShelves$History" "first" "I", .fieldLink RX0 11 "HeatShelves$History" "states" "[LHeatShelves$State;"] ++ wsX00)
abbrev vwCl : List vw_C := [(RX0, TX0, 3), (RX1, TX1, 2), (RX2, TX2, 7), (RX3, TX3, 10), (RX4, TX4, 7)]
