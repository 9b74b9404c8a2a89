/-! the rules for the law: beside the memory stands the script, at an old cell, and the law's local 0 is that cell -/
def XS (G : xG) (s : State) (ls : Array Slot) (sb Ln : Nat) (xs : Nat → Int) : Prop := ls[0]? = some (.val (.ref sb)) ∧ sb < s.heap.size ∧ ¬ x_A G sb ∧ va_X sb Ln (fun j => Int32.ofInt (xs j)) s s.heap
def XL (sb Ln : Nat) (xs : Nat → Int) (κ : xK) (d bc bs pc : Nat) (L : List (Option xAV)) (st : List xAV) (N : Nat) (I : xI) (Rf : xR) (Q : xQ) : Prop :=
  ∀ ⦃G : xG⦄ ⦃p : Program⦄ ⦃l : Launch⦄ ⦃e : Env⦄ ⦃Rm : Room⦄ ⦃s : State⦄ ⦃m : MethodId⦄ ⦃args : Array Value⦄ ⦃below : List Frame⦄ ⦃meth : Method⦄ ⦃c : Code⦄ ⦃H : Heap⦄ ⦃locs : List Loc⦄ ⦃cells slots mc ms : Nat⦄ ⦃ls : Array Slot⦄ ⦃Z : State → Prop⦄,
    x_C κ G p s m args meth c → d ≤ Rm.frames → 40 * d ≤ Rm.locals → mc ≤ Rm.cells → ms ≤ Rm.slots → x_end κ G p l e Rm s m args below meth c mc ms Z Q → x_P G N I Rf s H → va_S (x_A G) s.heap H locs → cells + bc ≤ mc → slots + bs ≤ ms → x_L G κ.2.2.1 ls L → XS G s ls sb Ln xs →
    W p l e Rm s m args below meth c H locs cells slots Z (F0 m pc ls (st.map (x_v G)))
section XLR
variable {sb Ln : Nat} {xs : Nat → Int} {κ : xK} {d bc bs pc : Nat} {L : List (Option xAV)} {st st2 : List xAV} {N : Nat} {I : xI} {Rf : xR} {Q : xQ}
theorem XL_iconst {n : Int} (hd : decode κ.2.1 pc = .ok (.iconst n, 1)) (kk : XL sb Ln xs κ d bc bs (pc + 1) L (ii n :: st) N I Rf Q) : XL sb Ln xs κ d bc bs pc L st N I Rf Q := by
  intro G p l e Rm s m args below meth c H locs cells slots mc ms ls Z hC h1 h2 h3 h4 hE hP hS h5 h6 hL hB
  exact lv_iconst (v := Int32.ofInt n) hC.1 hC.2.1 hd rfl (kk hC h1 h2 h3 h4 hE hP hS h5 h6 hL hB)
theorem XL_bipush {n : Int} (hd : decode κ.2.1 pc = .ok (.bipush n, 2)) (hn : -128 ≤ n ∧ n ≤ 127) (kk : XL sb Ln xs κ d bc bs (pc + 2) L (ii n :: st) N I Rf Q) : XL sb Ln xs κ d bc bs pc L st N I Rf Q := by
  intro G p l e Rm s m args below meth c H locs cells slots mc ms ls Z hC h1 h2 h3 h4 hE hP hS h5 h6 hL hB
  exact lv_bipush (v := Int32.ofInt n) hC.1 hC.2.1 hd (x_bi hn) (kk hC h1 h2 h3 h4 hE hP hS h5 h6 hL hB)
theorem XL_sipush {n : Int} (hd : decode κ.2.1 pc = .ok (.sipush n, 3)) (hn : -32768 ≤ n ∧ n ≤ 32767) (kk : XL sb Ln xs κ d bc bs (pc + 3) L (ii n :: st) N I Rf Q) : XL sb Ln xs κ d bc bs pc L st N I Rf Q := by
  intro G p l e Rm s m args below meth c H locs cells slots mc ms ls Z hC h1 h2 h3 h4 hE hP hS h5 h6 hL hB
  exact lv_sipush (v := Int32.ofInt n) hC.1 hC.2.1 hd (x_si hn) (kk hC h1 h2 h3 h4 hE hP hS h5 h6 hL hB)
theorem XL_iload {k : Fin 4} {z : Int} (hd : decode κ.2.1 pc = .ok (.iload_n k, 1)) (hl : L[(k : Nat)]? = some (some (ii z))) (kk : XL sb Ln xs κ d bc bs (pc + 1) L (ii z :: st) N I Rf Q) : XL sb Ln xs κ d bc bs pc L st N I Rf Q := by
  intro G p l e Rm s m args below meth c H locs cells slots mc ms ls Z hC h1 h2 h3 h4 hE hP hS h5 h6 hL hB
  exact lv_iload_n (x := Int32.ofInt z) hC.1 hC.2.1 hd rfl (hL.2.2.2 _ _ hl) (kk hC h1 h2 h3 h4 hE hP hS h5 h6 hL hB)
theorem XL_iloadW {k : Nat} {z : Int} (hd : decode κ.2.1 pc = .ok (.iload k, 2)) (hl : L[k]? = some (some (ii z))) (kk : XL sb Ln xs κ d bc bs (pc + 2) L (ii z :: st) N I Rf Q) : XL sb Ln xs κ d bc bs pc L st N I Rf Q := by
  intro G p l e Rm s m args below meth c H locs cells slots mc ms ls Z hC h1 h2 h3 h4 hE hP hS h5 h6 hL hB
  exact lv_iload (x := Int32.ofInt z) hC.1 hC.2.1 hd (hL.2.2.2 _ _ hl) (kk hC h1 h2 h3 h4 hE hP hS h5 h6 hL hB)
theorem XL_aload {k : Fin 4} {z : Nat} (hd : decode κ.2.1 pc = .ok (.aload_n k, 1)) (hl : L[(k : Nat)]? = some (some (rr z))) (kk : XL sb Ln xs κ d bc bs (pc + 1) L (rr z :: st) N I Rf Q) : XL sb Ln xs κ d bc bs pc L st N I Rf Q := by
  intro G p l e Rm s m args below meth c H locs cells slots mc ms ls Z hC h1 h2 h3 h4 hE hP hS h5 h6 hL hB
  exact lv_aload_n (x := x_ad G z) hC.1 hC.2.1 hd rfl (hL.2.2.2 _ _ hl) (kk hC h1 h2 h3 h4 hE hP hS h5 h6 hL hB)
theorem XL_iadd {a b : Int} (hd : decode κ.2.1 pc = .ok (.iadd, 1)) (kk : XL sb Ln xs κ d bc bs (pc + 1) L (ii (a + b) :: st) N I Rf Q) : XL sb Ln xs κ d bc bs pc L (ii b :: ii a :: st) N I Rf Q := by
  intro G p l e Rm s m args below meth c H locs cells slots mc ms ls Z hC h1 h2 h3 h4 hE hP hS h5 h6 hL hB
  refine lv_iadd (x := Int32.ofInt a) (y := Int32.ofInt b) hC.1 hC.2.1 hd ?_
  rw [← Int32.ofInt_add]
  exact kk hC h1 h2 h3 h4 hE hP hS h5 h6 hL hB
theorem XL_imul {a b : Int} (hd : decode κ.2.1 pc = .ok (.imul, 1)) (kk : XL sb Ln xs κ d bc bs (pc + 1) L (ii (a * b) :: st) N I Rf Q) : XL sb Ln xs κ d bc bs pc L (ii b :: ii a :: st) N I Rf Q := by
  intro G p l e Rm s m args below meth c H locs cells slots mc ms ls Z hC h1 h2 h3 h4 hE hP hS h5 h6 hL hB
  refine lv_imul (x := Int32.ofInt a) (y := Int32.ofInt b) hC.1 hC.2.1 hd ?_
  rw [← Int32.ofInt_mul]
  exact kk hC h1 h2 h3 h4 hE hP hS h5 h6 hL hB
theorem XL_irem {a b : Int} (hd : decode κ.2.1 pc = .ok (.irem, 1)) (ha : 0 ≤ a ∧ a ≤ 2147483647) (hb : 0 < b ∧ b ≤ 2147483647) (kk : XL sb Ln xs κ d bc bs (pc + 1) L (ii (a % b) :: st) N I Rf Q) : XL sb Ln xs κ d bc bs pc L (ii b :: ii a :: st) N I Rf Q := by
  intro G p l e Rm s m args below meth c H locs cells slots mc ms ls Z hC h1 h2 h3 h4 hE hP hS h5 h6 hL hB
  refine lv_irem (x := Int32.ofInt a) (y := Int32.ofInt b) hC.1 hC.2.1 hd (by rw [x_zero, x_eq (by omega) (by omega)]; omega) ?_
  rw [x_rem ha hb]
  exact kk hC h1 h2 h3 h4 hE hP hS h5 h6 hL hB
theorem XL_ishr {a b : Int} (hd : decode κ.2.1 pc = .ok (.ishr, 1)) (kk : ∀ z : Int, -2147483648 ≤ z ∧ z ≤ 2147483647 → XL sb Ln xs κ d bc bs (pc + 1) L (ii z :: st) N I Rf Q) : XL sb Ln xs κ d bc bs pc L (ii b :: ii a :: st) N I Rf Q := by
  intro G p l e Rm s m args below meth c H locs cells slots mc ms ls Z hC h1 h2 h3 h4 hE hP hS h5 h6 hL hB
  refine lv_ishr (x := Int32.ofInt a) (y := Int32.ofInt b) hC.1 hC.2.1 hd ?_
  rw [← Int32.ofInt_toInt (Int32.ofInt a >>> (Int32.ofInt b &&& 31))]
  exact kk _ ⟨Int32.le_toInt _, Int.le_of_lt_add_one (Int32.toInt_lt _)⟩ hC h1 h2 h3 h4 hE hP hS h5 h6 hL hB
theorem XL_dup {a : xAV} (hd : decode κ.2.1 pc = .ok (.dup, 1)) (kk : XL sb Ln xs κ d bc bs (pc + 1) L (a :: a :: st) N I Rf Q) : XL sb Ln xs κ d bc bs pc L (a :: st) N I Rf Q := by
  intro G p l e Rm s m args below meth c H locs cells slots mc ms ls Z hC h1 h2 h3 h4 hE hP hS h5 h6 hL hB
  exact lv_dup (va := x_v G a) hC.1 hC.2.1 hd (x_cat G a) (kk hC h1 h2 h3 h4 hE hP hS h5 h6 hL hB)
theorem XL_goto {off : Int} {tgt : Nat} (hd : decode κ.2.1 pc = .ok (.goto off, 3)) (ht : (pc : Int) + off = (tgt : Int)) (kk : XL sb Ln xs κ d bc bs tgt L st N I Rf Q) : XL sb Ln xs κ d bc bs pc L st N I Rf Q := by
  intro G p l e Rm s m args below meth c H locs cells slots mc ms ls Z hC h1 h2 h3 h4 hE hP hS h5 h6 hL hB
  exact lv_goto hC.1 hC.2.1 hd ht (kk hC h1 h2 h3 h4 hE hP hS h5 h6 hL hB)
theorem XL_icmp_ge {a b off : Int} {tgt : Nat} (hd : decode κ.2.1 pc = .ok (.if_icmp .ge off, 3)) (ht : (pc : Int) + off = (tgt : Int)) (hr : (-2147483648 ≤ a ∧ a ≤ 2147483647) ∧ (-2147483648 ≤ b ∧ b ≤ 2147483647)) (kt : b ≤ a → XL sb Ln xs κ d bc bs tgt L st N I Rf Q) (kf : a < b → XL sb Ln xs κ d bc bs (pc + 3) L st N I Rf Q) : XL sb Ln xs κ d bc bs pc L (ii b :: ii a :: st) N I Rf Q := by
  intro G p l e Rm s m args below meth c H locs cells slots mc ms ls Z hC h1 h2 h3 h4 hE hP hS h5 h6 hL hB
  exact lv_icmp_ge (x := Int32.ofInt a) (y := Int32.ofInt b) hC.1 hC.2.1 hd ht (fun q => kt ((x_le hr.2 hr.1).mp q) hC h1 h2 h3 h4 hE hP hS h5 h6 hL hB) (fun q => kf (Int.not_le.mp fun z => q ((x_le hr.2 hr.1).mpr z)) hC h1 h2 h3 h4 hE hP hS h5 h6 hL hB)
theorem XL_icmp_ne {a b off : Int} {tgt : Nat} (hd : decode κ.2.1 pc = .ok (.if_icmp .ne off, 3)) (ht : (pc : Int) + off = (tgt : Int)) (hr : (-2147483648 ≤ a ∧ a ≤ 2147483647) ∧ (-2147483648 ≤ b ∧ b ≤ 2147483647)) (kt : ¬ a = b → XL sb Ln xs κ d bc bs tgt L st N I Rf Q) (kf : a = b → XL sb Ln xs κ d bc bs (pc + 3) L st N I Rf Q) : XL sb Ln xs κ d bc bs pc L (ii b :: ii a :: st) N I Rf Q := by
  intro G p l e Rm s m args below meth c H locs cells slots mc ms ls Z hC h1 h2 h3 h4 hE hP hS h5 h6 hL hB
  exact lv_icmp_ne (x := Int32.ofInt a) (y := Int32.ofInt b) hC.1 hC.2.1 hd ht (fun q => kt (fun z => q ((x_eq hr.1 hr.2).mpr z)) hC h1 h2 h3 h4 hE hP hS h5 h6 hL hB) (fun q => kf ((x_eq hr.1 hr.2).mp q) hC h1 h2 h3 h4 hE hP hS h5 h6 hL hB)
theorem XL_icmp_eq {a b off : Int} {tgt : Nat} (hd : decode κ.2.1 pc = .ok (.if_icmp .eq off, 3)) (ht : (pc : Int) + off = (tgt : Int)) (hr : (-2147483648 ≤ a ∧ a ≤ 2147483647) ∧ (-2147483648 ≤ b ∧ b ≤ 2147483647)) (kt : a = b → XL sb Ln xs κ d bc bs tgt L st N I Rf Q) (kf : ¬ a = b → XL sb Ln xs κ d bc bs (pc + 3) L st N I Rf Q) : XL sb Ln xs κ d bc bs pc L (ii b :: ii a :: st) N I Rf Q := by
  intro G p l e Rm s m args below meth c H locs cells slots mc ms ls Z hC h1 h2 h3 h4 hE hP hS h5 h6 hL hB
  exact lv_icmp_eq (x := Int32.ofInt a) (y := Int32.ofInt b) hC.1 hC.2.1 hd ht (fun q => kt ((x_eq hr.1 hr.2).mp q) hC h1 h2 h3 h4 hE hP hS h5 h6 hL hB) (fun q => kf (fun z => q ((x_eq hr.1 hr.2).mpr z)) hC h1 h2 h3 h4 hE hP hS h5 h6 hL hB)
theorem XL_if_eq {a off : Int} {tgt : Nat} (hd : decode κ.2.1 pc = .ok (.ifCond .eq off, 3)) (ht : (pc : Int) + off = (tgt : Int)) (ha : -2147483648 ≤ a ∧ a ≤ 2147483647) (kt : a = 0 → XL sb Ln xs κ d bc bs tgt L st N I Rf Q) (kf : ¬ a = 0 → XL sb Ln xs κ d bc bs (pc + 3) L st N I Rf Q) : XL sb Ln xs κ d bc bs pc L (ii a :: st) N I Rf Q := by
  intro G p l e Rm s m args below meth c H locs cells slots mc ms ls Z hC h1 h2 h3 h4 hE hP hS h5 h6 hL hB
  have hr : (-2147483648 ≤ a ∧ a ≤ 2147483647) ∧ (-2147483648 ≤ (0 : Int) ∧ (0 : Int) ≤ 2147483647) := ⟨ha, by omega⟩
  exact lv_if_eq (x := Int32.ofInt a) hC.1 hC.2.1 hd ht (fun q => kt ((x_eq hr.1 hr.2).mp q) hC h1 h2 h3 h4 hE hP hS h5 h6 hL hB) (fun q => kf (fun z => q ((x_eq hr.1 hr.2).mpr z)) hC h1 h2 h3 h4 hE hP hS h5 h6 hL hB)
theorem XL_if_ne {a off : Int} {tgt : Nat} (hd : decode κ.2.1 pc = .ok (.ifCond .ne off, 3)) (ht : (pc : Int) + off = (tgt : Int)) (ha : -2147483648 ≤ a ∧ a ≤ 2147483647) (kt : ¬ a = 0 → XL sb Ln xs κ d bc bs tgt L st N I Rf Q) (kf : a = 0 → XL sb Ln xs κ d bc bs (pc + 3) L st N I Rf Q) : XL sb Ln xs κ d bc bs pc L (ii a :: st) N I Rf Q := by
  intro G p l e Rm s m args below meth c H locs cells slots mc ms ls Z hC h1 h2 h3 h4 hE hP hS h5 h6 hL hB
  have hr : (-2147483648 ≤ a ∧ a ≤ 2147483647) ∧ (-2147483648 ≤ (0 : Int) ∧ (0 : Int) ≤ 2147483647) := ⟨ha, by omega⟩
  exact lv_if_ne (x := Int32.ofInt a) hC.1 hC.2.1 hd ht (fun q => kt (fun z => q ((x_eq hr.1 hr.2).mpr z)) hC h1 h2 h3 h4 hE hP hS h5 h6 hL hB) (fun q => kf ((x_eq hr.1 hr.2).mp q) hC h1 h2 h3 h4 hE hP hS h5 h6 hL hB)
theorem XL_iret {z : Int} (hd : decode κ.2.1 pc = .ok (.ireturn, 1)) (hr : κ.2.2.2 = some .int ∨ (κ.2.2.2 = some .boolean ∧ (z = 0 ∨ z = 1))) (h : Q (some (ii z)) N I Rf) : XL sb Ln xs κ d bc bs pc L [ii z] N I Rf Q := by
  intro G p l e Rm s m args below meth c H locs cells slots mc ms ls Z hC h1 h2 h3 h4 hE hP hS h5 h6 hL hB
  exact hE _ _ _ _ _ _ _ _ _ _ _ h hP hS (by omega) (by omega) (Or.inl ⟨z, rfl, rfl, hd, hr⟩)
theorem XL_same_eq {a b off : Int} {tgt : Nat} (hd : decode κ.2.1 pc = .ok (.if_icmp .eq off, 3)) (ht : (pc : Int) + off = (tgt : Int)) (e : b = a) (kk : XL sb Ln xs κ d bc bs tgt L st N I Rf Q) : XL sb Ln xs κ d bc bs pc L (ii b :: ii a :: st) N I Rf Q := by
  subst e
  intro G p l e Rm s m args below meth c H locs cells slots mc ms ls Z hC h1 h2 h3 h4 hE hP hS h5 h6 hL hB
  exact lv_icmp_eq (x := Int32.ofInt b) (y := Int32.ofInt b) hC.1 hC.2.1 hd ht (fun q => kk hC h1 h2 h3 h4 hE hP hS h5 h6 hL hB) (fun q => absurd rfl q)
theorem XL_same_ne {a b off : Int} {tgt : Nat} (hd : decode κ.2.1 pc = .ok (.if_icmp .ne off, 3)) (ht : (pc : Int) + off = (tgt : Int)) (e : b = a) (kk : XL sb Ln xs κ d bc bs (pc + 3) L st N I Rf Q) : XL sb Ln xs κ d bc bs pc L (ii b :: ii a :: st) N I Rf Q := by
  subst e
  intro G p l e Rm s m args below meth c H locs cells slots mc ms ls Z hC h1 h2 h3 h4 hE hP hS h5 h6 hL hB
  exact lv_icmp_ne (x := Int32.ofInt b) (y := Int32.ofInt b) hC.1 hC.2.1 hd ht (fun q => absurd rfl q) (fun q => kk hC h1 h2 h3 h4 hE hP hS h5 h6 hL hB)
theorem XL_callS {κ1 : xK} {own : String} {idx n d1 mc1 ms1 : Nat} {as rest : List xAV} {Q1 : xQ} (hd : decode κ.2.1 pc = .ok (.invokestatic idx, 3)) (ho : κ.1.cls = own) (hc : x_CS own idx κ1 n) (hsp : Sp κ1 d1 mc1 ms1 as N I Rf Q1) (hst : st = as.reverse ++ rest) (hn : as.length = n) (hdd : d1 + 1 ≤ d) (hrest : rest.length ≤ 8) (hbc : mc1 ≤ bc) (hbs : ms1 ≤ bs)
    (kk : ∀ ro N1 I1 R1, Q1 ro N1 I1 R1 → XL sb Ln xs κ d (bc - mc1) (bs - ms1) (pc + 3) L (ro.toList ++ rest) N1 I1 R1 Q) : XL sb Ln xs κ d bc bs pc L st N I Rf Q := by
  intro G p l e Rm s m args below meth c H locs cells slots mc ms ls Z hC h1 h2 h3 h4 hE hP hS h5 h6 hL hB
  subst ho; subst hst
  obtain ⟨hlk, ⟨hcode, hini, hdsc, hnl⟩, hstat⟩ := hc
  have hts : ∀ w ∈ xT, w.before args s = true := hC.2.2.2.2.1
  have hpre : PreS s H (x_pre G as N I Rf) (as.map (x_v G)) := ⟨x_blind G _ N I Rf, fun U hU hW => ⟨rfl, by rw [hU]; exact hP.moved hW.alike, hC.2.2.2.2.2.1.at hS hU hW, by rw [hU]; exact Nat.le_trans hC.2.2.2.2.2.2.2 hS.1⟩⟩
  have hroom : (x_room d1 mc1 ms1).frames + 1 ≤ Rm.frames ∧ 8 + (κ1.2.2.1 + 11) + (x_room d1 mc1 ms1).locals ≤ Rm.locals := ⟨by show d1 + 1 ≤ _; omega, by show 8 + (κ1.2.2.1 + 11) + 40 * d1 ≤ _; omega⟩
  have hrun : va_Run p l e Rm s m args below meth c H locs cells slots mc1 ms1 (F0 m pc ls ((as.reverse ++ rest).map (x_v G))) (rest.map (x_v G)) (x_post G Q1 (as.map (x_v G)).toArray) (x_A G) := by
    have hw := x_rsum (G := G) hrest
    have hstk : (as.reverse ++ rest).map (x_v G) = (as.map (x_v G)).reverse ++ rest.map (x_v G) := by rw [List.map_append, List.map_reverse]
    rcases hlk with hlk | ⟨host, hlk⟩
    · exact va_runS ⟨hC.1, hC.2.1, hC.2.2.1, hC.2.2.2.1, hts⟩ (hsp G l) ⟨callB_of n hts (x_good κ1 hcode) rfl rfl rfl (hts _ hini) (hts _ hlk) hdsc hroom, hts _ hstat⟩ hpre rfl (by rw [List.length_map]; exact hn) (hL.1) hstk (by show 2 * 0 + _ ≤ 8; omega) hd ⟨by omega, by omega⟩
    · exact va_runSN ⟨hC.1, hC.2.1, hC.2.2.1, hC.2.2.2.1, hts⟩ (hsp G l) ⟨va_cnB n hts (x_good κ1 hcode) rfl rfl rfl (hC.2.2.2.2.2.1.2.2.1 _ hlk) (hts _ hini) hdsc hroom, hts _ hstat, trivial⟩ hpre rfl (by rw [List.length_map]; exact hn) (hL.1) hstk (by show 2 * 0 + _ ≤ 8; omega) hd ⟨by omega, by omega⟩
  exact x_back hrun hS (fun ro N1 I1 R1 H1 locs1 hq hp1 hS1 => kk ro N1 I1 R1 hq hC h1 h2 h3 h4 hE hp1 hS1 (by omega) (by omega) hL hB)
theorem XL_callV {κ1 : xK} {own : String} {idx n ci c1 d1 mc1 ms1 : Nat} {as rest : List xAV} {Q1 : xQ} (hd : decode κ.2.1 pc = .ok (.invokevirtual idx, 3)) (ho : κ.1.cls = own) (hc : x_CV own idx κ1 n ci) (hsh : x_sh c1 = (2, ci)) (hN : c1 < N) (hsp : Sp κ1 d1 mc1 ms1 (rr c1 :: as) N I Rf Q1) (hst : st = as.reverse ++ rr c1 :: rest) (hn : as.length = n) (hdd : d1 + 1 ≤ d) (hrest : rest.length ≤ 8) (hbc : mc1 ≤ bc) (hbs : ms1 ≤ bs)
    (kk : ∀ ro N1 I1 R1, Q1 ro N1 I1 R1 → XL sb Ln xs κ d (bc - mc1) (bs - ms1) (pc + 3) L (ro.toList ++ rest) N1 I1 R1 Q) : XL sb Ln xs κ d bc bs pc L st N I Rf Q := by
  intro G p l e Rm s m args below meth c H locs cells slots mc ms ls Z hC h1 h2 h3 h4 hE hP hS h5 h6 hL hB
  subst ho; subst hst
  obtain ⟨hlk, ⟨hcode, hini, hdsc, hnl⟩, hinst, hsel, T, Nf, hcl⟩ := hc
  have hts : ∀ w ∈ xT, w.before args s = true := hC.2.2.2.2.1
  have hob := (hP.2.2.2.2 c1 (Or.inl hN)).2.2 (by rw [hsh])
  rw [hsh] at hob
  obtain ⟨cellB, q1, q2, q3, -⟩ := hob
  have hfc := (hC.2.2.2.2.2.1.1 ci _ hcl).2.1
  have hpre : PreV s H κ1.1.cls (x_ad G c1) (x_pre G (rr c1 :: as) N I Rf) (as.map (x_v G)) := ⟨x_blind G _ N I Rf, ⟨cellB, q1, by rw [q3]; rfl, by rw [q2]; exact hfc⟩, fun U hU hW => ⟨rfl, by rw [hU]; exact hP.moved hW.alike, hC.2.2.2.2.2.1.at hS hU hW, by rw [hU]; exact Nat.le_trans hC.2.2.2.2.2.2.2 hS.1⟩⟩
  have hroom : (x_room d1 mc1 ms1).frames + 1 ≤ Rm.frames ∧ 8 + (κ1.2.2.1 + 11) + (x_room d1 mc1 ms1).locals ≤ Rm.locals := ⟨by show d1 + 1 ≤ _; omega, by show 8 + (κ1.2.2.1 + 11) + 40 * d1 ≤ _; omega⟩
  have hrun : va_Run p l e Rm s m args below meth c H locs cells slots mc1 ms1 (F0 m pc ls ((as.reverse ++ rr c1 :: rest).map (x_v G))) (rest.map (x_v G)) (x_post G Q1 (Value.ref (x_ad G c1) :: as.map (x_v G)).toArray) (x_A G) := by
    have hw := x_rsum (G := G) hrest
    have hstk : (as.reverse ++ rr c1 :: rest).map (x_v G) = (as.map (x_v G)).reverse ++ .ref (x_ad G c1) :: rest.map (x_v G) := by rw [List.map_append, List.map_reverse, List.map_cons]; rfl
    rcases hlk with hlk | ⟨host, hlk⟩
    · exact va_runV ⟨hC.1, hC.2.1, hC.2.2.1, hC.2.2.2.1, hts⟩ (hsp G l) ⟨callB_of n hts (x_good κ1 hcode) rfl rfl rfl (hts _ hini) (hts _ hlk) hdsc hroom, hts _ hinst, hts _ hsel⟩ hpre rfl (by rw [List.length_map]; exact hn) (hL.1) hstk (by show 2 * 0 + _ ≤ 8; omega) hd ⟨by omega, by omega⟩
    · exact va_runVN ⟨hC.1, hC.2.1, hC.2.2.1, hC.2.2.2.1, hts⟩ (hsp G l) ⟨va_cnB n hts (x_good κ1 hcode) rfl rfl rfl (hC.2.2.2.2.2.1.2.2.1 _ hlk) (hts _ hini) hdsc hroom, hts _ hinst, hts _ hsel⟩ hpre rfl (by rw [List.length_map]; exact hn) (hL.1) hstk (by show 2 * 0 + _ ≤ 8; omega) hd ⟨by omega, by omega⟩
  exact x_back hrun hS (fun ro N1 I1 R1 H1 locs1 hq hp1 hS1 => kk ro N1 I1 R1 hq hC h1 h2 h3 h4 hE hp1 hS1 (by omega) (by omega) hL hB)
theorem XL_callC {y1 : MethodName} {b1 : ByteArray} {l1 : Nat} {own : String} {idx n c1 d1 mc1 ms1 : Nat} {as rest : List xAV} {Q1 : xQ} (hd : decode κ.2.1 pc = .ok (.invokespecial idx, 3)) (ho : κ.1.cls = own) (hc : x_CC own idx (y1, b1, l1, none) n) (hsp : Sp (y1, b1, l1, none) d1 mc1 ms1 (rr c1 :: as) N I Rf Q1) (hst : st = as.reverse ++ rr c1 :: rest) (hn : as.length = n) (hdd : d1 + 1 ≤ d) (hrest : rest.length ≤ 8) (hbc : mc1 ≤ bc) (hbs : ms1 ≤ bs)
    (kk : ∀ ro N1 I1 R1, Q1 ro N1 I1 R1 → XL sb Ln xs κ d (bc - mc1) (bs - ms1) (pc + 3) L (ro.toList ++ rest) N1 I1 R1 Q) : XL sb Ln xs κ d bc bs pc L st N I Rf Q := by
  intro G p l e Rm s m args below meth c H locs cells slots mc ms ls Z hC h1 h2 h3 h4 hE hP hS h5 h6 hL hB
  subst ho; subst hst
  obtain ⟨hlk, ⟨hcode, hini, hdsc, hnl⟩, hinst, hnm, -⟩ := hc
  have hts : ∀ w ∈ xT, w.before args s = true := hC.2.2.2.2.1
  have hpre : PreS s H (x_pre G (rr c1 :: as) N I Rf) (.ref (x_ad G c1) :: as.map (x_v G)) := ⟨x_blind G _ N I Rf, fun U hU hW => ⟨rfl, by rw [hU]; exact hP.moved hW.alike, hC.2.2.2.2.2.1.at hS hU hW, by rw [hU]; exact Nat.le_trans hC.2.2.2.2.2.2.2 hS.1⟩⟩
  have hroom : (x_room d1 mc1 ms1).frames + 1 ≤ Rm.frames ∧ 8 + (l1 + 11) + (x_room d1 mc1 ms1).locals ≤ Rm.locals := ⟨by show d1 + 1 ≤ _; omega, by
    have hnl : l1 ≤ 21 := hnl
    show 8 + (l1 + 11) + 40 * d1 ≤ _; omega⟩
  have hrun : va_Run p l e Rm s m args below meth c H locs cells slots mc1 ms1 (F0 m pc ls ((as.reverse ++ rr c1 :: rest).map (x_v G))) (rest.map (x_v G)) (x_post G Q1 (Value.ref (x_ad G c1) :: as.map (x_v G)).toArray) (x_A G) := by
    have hw := x_rsum (G := G) hrest
    have hstk : (as.reverse ++ rr c1 :: rest).map (x_v G) = (as.map (x_v G)).reverse ++ .ref (x_ad G c1) :: rest.map (x_v G) := by rw [List.map_append, List.map_reverse, List.map_cons]; rfl
    rcases hlk with hlk | ⟨host, hlk⟩
    · exact va_runI ⟨hC.1, hC.2.1, hC.2.2.1, hC.2.2.2.1, hts⟩ (hsp G l) ⟨callB_of n hts (x_good (y1, b1, l1, none) hcode) rfl rfl rfl (hts _ hini) (hts _ hlk) hdsc hroom, hnm, hts _ hinst⟩ hpre rfl (by rw [List.length_map]; exact hn) (hL.1) hstk (by show 2 * 0 + _ ≤ 8; omega) hd ⟨by omega, by omega⟩
    · exact va_runIN ⟨hC.1, hC.2.1, hC.2.2.1, hC.2.2.2.1, hts⟩ (hsp G l) ⟨va_cnB n hts (x_good (y1, b1, l1, none) hcode) rfl rfl rfl (hC.2.2.2.2.2.1.2.2.1 _ hlk) (hts _ hini) hdsc hroom, hnm, hts _ hinst⟩ hpre rfl (by rw [List.length_map]; exact hn) (hL.1) hstk (by show 2 * 0 + _ ≤ 8; omega) hd ⟨by omega, by omega⟩
  exact x_back hrun hS (fun ro N1 I1 R1 H1 locs1 hq hp1 hS1 => kk ro N1 I1 R1 hq hC h1 h2 h3 h4 hE hp1 hS1 (by omega) (by omega) hL hB)
theorem XL_new {own : String} {idx ci : Nat} {C : String} {T : u_T} {Nf : Nat} (ty : Nat → FieldType) (hd : decode κ.2.1 pc = .ok (.new idx, 3)) (ho : κ.1.cls = own) (hc : vwCl[ci]? = some (C, T, Nf)) (hnf : x_nf ci = Nf) (hin : ∀ w ∈ u_ws C T Nf, w ∈ xT) (hty : ∀ k, k < Nf → parseFieldDescriptor (T k).2.2.1 = some (ty k)) (hcl : Cond.classLink own idx C ∈ xT) (hins : Cond.instantiable C Nf ∈ xT) (hini : Cond.initialized C ∈ xT) (hsh : x_sh N = (2, ci)) (hN : N < 90) (hfs : ∀ j, j < Nf → defaultValue (ty j) = if x_ir ci j = true then .null else .int 0) {bc' bs' : Nat} (hbc : bc = bc' + 1) (hbs : bs = bs' + Nf)
    (kk : XL sb Ln xs κ d bc' bs' (pc + 3) L (rr N :: st) (N + 1) (x_z I N) (x_zR Rf N) Q) : XL sb Ln xs κ d bc bs pc L st N I Rf Q := by
  intro G p l e Rm s m args below meth c H locs cells slots mc ms ls Z hC h1 h2 h3 h4 hE hP hS h5 h6 hL hB
  subst ho; subst hbc; subst hbs
  have hts : ∀ w ∈ xT, w.before args s = true := hC.2.2.2.2.1
  have hKn := hC.2.2.2.2.2.1.1 ci _ hc
  refine W.newcK hC.1 hC.2.1 hC.2.2.2.1 (hts _ hcl) (hts _ hins) (hts _ hini) rfl hd (by omega) (by omega) hKn.2.1 rfl fun H' kC hkC e1 e2 e3 => ?_
  have had : H.size = x_ad G N := by rw [x_ad_lt (N := N + 1) (by omega) (by omega)]; exact hP.2.1
  rw [had] at e1
  have hcell : x_cell G (x_z I N) (x_zR Rf N) s H' N := by
    refine ⟨fun h => ?_, fun h => ?_, fun _ => ?_⟩
    · rw [hsh] at h; simp at h
    · rw [hsh] at h; simp at h
    · rw [hsh]
      show t_OB (x_ad G N) (G.2.1 ci) (x_nf ci) (G.2.2.1 ci) H' (x_fv G (x_z I N) (x_zR Rf N) N ci)
      rw [hnf]
      refine (u_born ty hts hin hKn hkC e1 hty).to (fun j hj => ?_)
      rw [hfs j hj]
      unfold x_fv x_z x_zR
      split
      · simp [va_rf]
      · simp
  have hP' := hP.push (I' := x_z I N) (Rf' := x_zR Rf N) hN (fun c' h => by funext j; simp [x_z, h]) (fun c' h => by funext j; simp [x_zR, h]) hcell e2 e3
  have kk2 := kk hC h1 h2 h3 h4 hE hP' (H := H') (locs := locs) (cells := cells + 1) (slots := slots + Nf) ⟨Nat.le_trans hS.1 (by omega), fun q g1 g2 => (e3 q (Nat.lt_of_lt_of_le g1 hS.1)).trans (hS.2.1 q g1 g2), hS.2.2⟩ (by omega) (by omega) hL hB
  rw [had]
  exact kk2
theorem XL_newI {n : Int} {n' : Nat} (hd : decode κ.2.1 pc = .ok (.newarray .int, 2)) (hn : n = (n' : Int)) (hsh : x_sh N = (0, n')) (hN : N < 90) {bc' bs' : Nat} (hbc : bc = bc' + 1) (hbs : bs = bs' + n')
    (kk : XL sb Ln xs κ d bc' bs' (pc + 2) L (rr N :: st) (N + 1) (x_z I N) (x_zR Rf N) Q) : XL sb Ln xs κ d bc bs pc L (ii n :: st) N I Rf Q := by
  intro G p l e Rm s m args below meth c H locs cells slots mc ms ls Z hC h1 h2 h3 h4 hE hP hS h5 h6 hL hB
  subst hbc; subst hbs; subst hn
  have hn0 : n' < 1000 := by have := x_sh_lt N; rw [hsh] at this; exact this
  have hts : ∀ w ∈ xT, w.before args s = true := hC.2.2.2.2.1
  have had : H.size = x_ad G N := by rw [x_ad_lt (N := N + 1) (by omega) (by omega)]; exact hP.2.1
  refine va_newaK (atype := .int) hC.1 hC.2.1 (hts _ xw_arr_int) rfl hd (n := Int32.ofInt (n' : Int)) (N := n') (rest := st.map (x_v G)) rfl (fun q => by rw [x_zero, x_lt (by omega) (by omega)] at q; omega) (by rw [x_cl (by omega)]; omega) (by show n' * 4 ≤ _; omega) (by omega) (by omega) had fun H' cA e1 e2 e3 hAr _ => ?_
  have hcell : x_cell G (x_z I N) (x_zR Rf N) s H' N := by
    refine ⟨fun _ => ?_, fun h => ?_, fun h => ?_⟩
    · rw [hsh]
      refine ⟨_, e1, hAr _ _, fun h => (by cases h), by rw [arrV_size], fun j hj => ?_⟩
      rw [arrV_read _ _ hj]
      simp [x_z]
      rfl
    · rw [hsh] at h; simp at h
    · rw [hsh] at h; simp at h
  have hP' := hP.push (I' := x_z I N) (Rf' := x_zR Rf N) hN (fun c' h => by funext j; simp [x_z, h]) (fun c' h => by funext j; simp [x_zR, h]) hcell (by rw [e2, had]) (fun q hq => e3 q (by rw [← had]; exact hq))
  exact kk hC h1 h2 h3 h4 hE hP' (H := H') (locs := locs) (cells := cells + 1) (slots := slots + n') ⟨Nat.le_trans hS.1 (by omega), fun q g1 g2 => (e3 q (by rw [← had]; exact Nat.lt_of_lt_of_le g1 hS.1)).trans (hS.2.1 q g1 g2), hS.2.2⟩ (by omega) (by omega) hL hB
/-- a store leaves the script's local as it is -/
theorem XS.has {G : xG} {s : State} {ls : Array Slot} (h : XS G s ls sb Ln xs) {nL : Nat} (hL : x_L G nL ls L) : lv_has ls nL ((0, .ref sb) :: x_as G L) := by
  refine ⟨hL.1, hL.2.1, fun q hq => ?_⟩
  rcases List.mem_cons.mp hq with rfl | hq
  · exact h.1
  · exact hL.has.2.2 q hq
theorem x_keep0 {i : Nat} (h : i ≠ 0) (l : List (Nat × Value)) : ((0, Value.ref sb) :: l).filter (fun q => !(q.1 == i) && !(q.1 + 1 == i && q.2.category == 2)) = (0, Value.ref sb) :: l.filter (fun q => !(q.1 == i) && !(q.1 + 1 == i && q.2.category == 2)) := by
  have hc : ((Value.ref sb).category == 2) = false := rfl
  have h0 : ((0 : Nat) == i) = false := by simpa using fun z => h z.symm
  rw [List.filter_cons]
  simp only [h0, hc, Bool.and_false, Bool.not_false, Bool.and_self, if_true]
theorem XS.put {G : xG} {s : State} {ls ls' : Array Slot} (h : XS G s ls sb Ln xs) {nL i : Nat} {v : Value} {l : List (Nat × Value)} (h' : lv_has ls' nL ((i, v) :: (0, .ref sb) :: l)) : XS G s ls' sb Ln xs ∧ lv_has ls' nL ((i, v) :: l) := by
  refine ⟨⟨h'.2.2 (0, .ref sb) (List.mem_cons_of_mem _ List.mem_cons_self), h.2⟩, h'.1, h'.2.1, fun q hq => h'.2.2 q ?_⟩
  rcases List.mem_cons.mp hq with rfl | hq
  · exact List.mem_cons_self
  · exact List.mem_cons_of_mem _ (List.mem_cons_of_mem _ hq)
theorem XL_istore {k : Fin 4} {z : Int} (hd : decode κ.2.1 pc = .ok (.istore_n k, 1)) (hk : (k : Nat) < κ.2.2.1) (kk : XL sb Ln xs κ d bc bs (pc + 1) (L.set (k : Nat) (some (ii z))) st N I Rf Q) (hk0 : (k : Nat) ≠ 0 := by decide) : XL sb Ln xs κ d bc bs pc L (ii z :: st) N I Rf Q := by
  intro G p l e Rm s m args below meth c H locs cells slots mc ms ls Z hC h1 h2 h3 h4 hE hP hS h5 h6 hL hB
  exact lv_istore_n (x := Int32.ofInt z) hC.1 hC.2.1 hd rfl (hB.has hL) hk rfl (fun ls' h' => by
    rw [x_keep0 hk0] at h'
    obtain ⟨hB2, h9⟩ := hB.put h'
    exact kk hC h1 h2 h3 h4 hE hP hS h5 h6 (hL.stored (a := ii z) hk h9) hB2)
theorem XL_istoreW {k : Nat} {z : Int} (hd : decode κ.2.1 pc = .ok (.istore k, 2)) (hk : k < κ.2.2.1) (kk : XL sb Ln xs κ d bc bs (pc + 2) (L.set k (some (ii z))) st N I Rf Q) (hk0 : k ≠ 0 := by decide) : XL sb Ln xs κ d bc bs pc L (ii z :: st) N I Rf Q := by
  intro G p l e Rm s m args below meth c H locs cells slots mc ms ls Z hC h1 h2 h3 h4 hE hP hS h5 h6 hL hB
  exact lv_istore (x := Int32.ofInt z) hC.1 hC.2.1 hd (hB.has hL) hk rfl (fun ls' h' => by
    rw [x_keep0 hk0] at h'
    obtain ⟨hB2, h9⟩ := hB.put h'
    exact kk hC h1 h2 h3 h4 hE hP hS h5 h6 (hL.stored (a := ii z) hk h9) hB2)
theorem XL_astore {k : Fin 4} {z : Nat} (hd : decode κ.2.1 pc = .ok (.astore_n k, 1)) (hk : (k : Nat) < κ.2.2.1) (kk : XL sb Ln xs κ d bc bs (pc + 1) (L.set (k : Nat) (some (rr z))) st N I Rf Q) (hk0 : (k : Nat) ≠ 0 := by decide) : XL sb Ln xs κ d bc bs pc L (rr z :: st) N I Rf Q := by
  intro G p l e Rm s m args below meth c H locs cells slots mc ms ls Z hC h1 h2 h3 h4 hE hP hS h5 h6 hL hB
  exact lv_astore_n (x := x_ad G z) hC.1 hC.2.1 hd rfl (hB.has hL) hk rfl (fun ls' h' => by
    rw [x_keep0 hk0] at h'
    obtain ⟨hB2, h9⟩ := hB.put h'
    exact kk hC h1 h2 h3 h4 hE hP hS h5 h6 (hL.stored (a := rr z) hk h9) hB2)
theorem XL_iinc {k : Nat} {n z : Int} (hd : decode κ.2.1 pc = .ok (.iinc k n, 3)) (hl : L[k]? = some (some (ii z))) (kk : XL sb Ln xs κ d bc bs (pc + 3) (L.set k (some (ii (z + n)))) st N I Rf Q) (hk0 : k ≠ 0 := by decide) : XL sb Ln xs κ d bc bs pc L st N I Rf Q := by
  intro G p l e Rm s m args below meth c H locs cells slots mc ms ls Z hC h1 h2 h3 h4 hE hP hS h5 h6 hL hB
  have hk : k < κ.2.2.1 := by rw [← hL.2.2.1]; exact (List.getElem?_eq_some_iff.mp hl).1
  obtain ⟨j, hj⟩ := List.getElem?_of_mem (List.mem_cons_of_mem ((0 : Nat), Value.ref sb) (x_as_mem (G := G).mpr ⟨_, hl, rfl⟩))
  exact lv_iinc (x := Int32.ofInt z) (v := Int32.ofInt (z + n)) hC.1 hC.2.1 hd (hB.has hL) hj (Int32.ofInt_add z n).symm hk rfl (fun ls' h' => by
    rw [x_keep0 hk0] at h'
    obtain ⟨hB2, h9⟩ := hB.put h'
    exact kk hC h1 h2 h3 h4 hE hP hS h5 h6 (hL.stored (a := ii (z + n)) hk h9) hB2)
/-- the script's length -/
theorem XL_slen (hd1 : decode κ.2.1 pc = .ok (.aload_n 0, 1)) (hd2 : decode κ.2.1 (pc + 1) = .ok (.arraylength, 1)) (kk : XL sb Ln xs κ d bc bs (pc + 1 + 1) L (ii (Ln : Int) :: st) N I Rf Q) : XL sb Ln xs κ d bc bs pc L st N I Rf Q := by
  intro G p l e Rm s m args below meth c H locs cells slots mc ms ls Z hC h1 h2 h3 h4 hE hP hS h5 h6 hL hB
  refine lv_aload_n (x := sb) hC.1 hC.2.1 hd1 rfl hB.1 ?_
  refine va_slen hC.1 hC.2.1 hB.2.2.2 hB.2.1 hB.2.2.1 hS hd2 ?_
  rw [show Int32.ofNat Ln = Int32.ofInt (Ln : Int) from (Int32.ofInt_eq_ofNat).symm]
  exact kk hC h1 h2 h3 h4 hE hP hS h5 h6 hL hB
/-- a number of the script -/
theorem XL_sld {z : Int} (hd1 : decode κ.2.1 pc = .ok (.aload_n 0, 1)) (hd2 : decode κ.2.1 (pc + 1) = .ok (.iload_n 1, 1)) (hd3 : decode κ.2.1 (pc + 1 + 1) = .ok (.iaload, 1)) (hl : L[1]? = some (some (ii z))) (hr : 0 ≤ z ∧ z < Ln) (hLn : Ln ≤ 260) (kk : XL sb Ln xs κ d bc bs (pc + 1 + 1 + 1) L (ii (xs z.toNat) :: st) N I Rf Q) : XL sb Ln xs κ d bc bs pc L st N I Rf Q := by
  intro G p l e Rm s m args below meth c H locs cells slots mc ms ls Z hC h1 h2 h3 h4 hE hP hS h5 h6 hL hB
  refine lv_aload_n (x := sb) hC.1 hC.2.1 hd1 rfl hB.1 ?_
  refine lv_iload_n (x := Int32.ofInt z) hC.1 hC.2.1 hd2 rfl (hL.2.2.2 _ _ hl) ?_
  refine va_sld hC.1 hC.2.1 hB.2.2.2 hB.2.1 hB.2.2.1 hS (x_in hr (by omega)) hd3 ?_
  rw [x_cl (by omega)]
  exact kk hC h1 h2 h3 h4 hE hP hS h5 h6 hL hB
theorem XL_drop (j : Nat) (h : XL sb Ln xs κ d bc bs pc (L.set j none) st N I Rf Q) : XL sb Ln xs κ d bc bs pc L st N I Rf Q := by
  intro G p l e Rm s m args below meth c H locs cells slots mc ms ls Z hC h1 h2 h3 h4 hE hP hS h5 h6 hL hB
  refine h hC h1 h2 h3 h4 hE hP hS h5 h6 ⟨hL.1, hL.2.1, by rw [List.length_set]; exact hL.2.2.1, fun i a hi => ?_⟩ hB
  by_cases e : j = i
  · subst e
    by_cases q : j < L.length
    · rw [List.getElem?_set_self q] at hi; cases hi
    · rw [List.getElem?_eq_none (by rw [List.length_set]; omega)] at hi; cases hi
  · rw [List.getElem?_set_ne e] at hi
    exact hL.2.2.2 i a hi
/-- the same with the script on the stack: st above it, st2 below -/
def XM (sb Ln : Nat) (xs : Nat → Int) (κ : xK) (d bc bs pc : Nat) (L : List (Option xAV)) (st st2 : List xAV) (N : Nat) (I : xI) (Rf : xR) (Q : xQ) : Prop :=
  ∀ ⦃G : xG⦄ ⦃p : Program⦄ ⦃l : Launch⦄ ⦃e : Env⦄ ⦃Rm : Room⦄ ⦃s : State⦄ ⦃m : MethodId⦄ ⦃args : Array Value⦄ ⦃below : List Frame⦄ ⦃meth : Method⦄ ⦃c : Code⦄ ⦃H : Heap⦄ ⦃locs : List Loc⦄ ⦃cells slots mc ms : Nat⦄ ⦃ls : Array Slot⦄ ⦃Z : State → Prop⦄,
    x_C κ G p s m args meth c → d ≤ Rm.frames → 40 * d ≤ Rm.locals → mc ≤ Rm.cells → ms ≤ Rm.slots → x_end κ G p l e Rm s m args below meth c mc ms Z Q → x_P G N I Rf s H → va_S (x_A G) s.heap H locs → cells + bc ≤ mc → slots + bs ≤ ms → x_L G κ.2.2.1 ls L → XS G s ls sb Ln xs →
    W p l e Rm s m args below meth c H locs cells slots Z (F0 m pc ls (st.map (x_v G) ++ Value.ref sb :: st2.map (x_v G)))
theorem XM_iconst {n : Int} (hd : decode κ.2.1 pc = .ok (.iconst n, 1)) (kk : XM sb Ln xs κ d bc bs (pc + 1) L (ii n :: st) st2 N I Rf Q) : XM sb Ln xs κ d bc bs pc L st st2 N I Rf Q := by
  intro G p l e Rm s m args below meth c H locs cells slots mc ms ls Z hC h1 h2 h3 h4 hE hP hS h5 h6 hL hB
  exact lv_iconst (v := Int32.ofInt n) hC.1 hC.2.1 hd rfl (kk hC h1 h2 h3 h4 hE hP hS h5 h6 hL hB)
theorem XM_iload {k : Fin 4} {z : Int} (hd : decode κ.2.1 pc = .ok (.iload_n k, 1)) (hl : L[(k : Nat)]? = some (some (ii z))) (kk : XM sb Ln xs κ d bc bs (pc + 1) L (ii z :: st) st2 N I Rf Q) : XM sb Ln xs κ d bc bs pc L st st2 N I Rf Q := by
  intro G p l e Rm s m args below meth c H locs cells slots mc ms ls Z hC h1 h2 h3 h4 hE hP hS h5 h6 hL hB
  exact lv_iload_n (x := Int32.ofInt z) hC.1 hC.2.1 hd rfl (hL.2.2.2 _ _ hl) (kk hC h1 h2 h3 h4 hE hP hS h5 h6 hL hB)
theorem XM_iloadW {k : Nat} {z : Int} (hd : decode κ.2.1 pc = .ok (.iload k, 2)) (hl : L[k]? = some (some (ii z))) (kk : XM sb Ln xs κ d bc bs (pc + 2) L (ii z :: st) st2 N I Rf Q) : XM sb Ln xs κ d bc bs pc L st st2 N I Rf Q := by
  intro G p l e Rm s m args below meth c H locs cells slots mc ms ls Z hC h1 h2 h3 h4 hE hP hS h5 h6 hL hB
  exact lv_iload (x := Int32.ofInt z) hC.1 hC.2.1 hd (hL.2.2.2 _ _ hl) (kk hC h1 h2 h3 h4 hE hP hS h5 h6 hL hB)
theorem XM_imul {a b : Int} (hd : decode κ.2.1 pc = .ok (.imul, 1)) (kk : XM sb Ln xs κ d bc bs (pc + 1) L (ii (a * b) :: st) st2 N I Rf Q) : XM sb Ln xs κ d bc bs pc L (ii b :: ii a :: st) st2 N I Rf Q := by
  intro G p l e Rm s m args below meth c H locs cells slots mc ms ls Z hC h1 h2 h3 h4 hE hP hS h5 h6 hL hB
  refine lv_imul (x := Int32.ofInt a) (y := Int32.ofInt b) hC.1 hC.2.1 hd ?_
  rw [← Int32.ofInt_mul]
  exact kk hC h1 h2 h3 h4 hE hP hS h5 h6 hL hB
theorem XM_iadd {a b : Int} (hd : decode κ.2.1 pc = .ok (.iadd, 1)) (kk : XM sb Ln xs κ d bc bs (pc + 1) L (ii (a + b) :: st) st2 N I Rf Q) : XM sb Ln xs κ d bc bs pc L (ii b :: ii a :: st) st2 N I Rf Q := by
  intro G p l e Rm s m args below meth c H locs cells slots mc ms ls Z hC h1 h2 h3 h4 hE hP hS h5 h6 hL hB
  refine lv_iadd (x := Int32.ofInt a) (y := Int32.ofInt b) hC.1 hC.2.1 hd ?_
  rw [← Int32.ofInt_add]
  exact kk hC h1 h2 h3 h4 hE hP hS h5 h6 hL hB
/-- the script is laid on the stack -/
theorem XL_script (hd : decode κ.2.1 pc = .ok (.aload_n 0, 1)) (kk : XM sb Ln xs κ d bc bs (pc + 1) L [] st N I Rf Q) : XL sb Ln xs κ d bc bs pc L st N I Rf Q := by
  intro G p l e Rm s m args below meth c H locs cells slots mc ms ls Z hC h1 h2 h3 h4 hE hP hS h5 h6 hL hB
  exact lv_aload_n (x := sb) hC.1 hC.2.1 hd rfl hB.1 (kk hC h1 h2 h3 h4 hE hP hS h5 h6 hL hB)
end XLR
section XLC
variable {sb Ln : Nat} {xs : Nat → Int} {κ : xK} {d pc : Nat} {L : List (Option xAV)} {st : List xAV} {I : xI} {Q : xQ}
abbrev YL (sb Ln : Nat) (xs : Nat → Int) (κ : xK) (d pc : Nat) (L : List (Option xAV)) (st : List xAV) (I : xI) (Q : xQ) : Prop := XL sb Ln xs κ d 0 0 pc L st 90 I xR0 Q
theorem YL_pV {κ1 : xK} {idx n ci c1 d1 : Nat} {as rest : List xAV} {v : xAV} (hd : decode κ.2.1 pc = .ok (.invokevirtual idx, 3)) (hc : x_CV κ.1.cls idx κ1 n ci) (hsh : x_sh c1 = (2, ci)) (hN : c1 < 90) (hsp : S κ1 d1 (rr c1 :: as) I (q_p v I)) (hst : st = as.reverse ++ rr c1 :: rest) (kk : YL sb Ln xs κ d (pc + 3) L (v :: rest) I Q) (hn : as.length = n := by rfl) (hdd : d1 + 1 ≤ d := by exact Nat.le_of_ble_eq_true rfl) (hrest : rest.length ≤ 8 := by exact Nat.le_of_ble_eq_true rfl) : YL sb Ln xs κ d pc L st I Q :=
  XL_callV hd rfl hc hsh hN hsp hst hn hdd hrest (Nat.le_refl 0) (Nat.le_refl 0) (fun ro N1 I1 R1 h => by obtain ⟨rfl, rfl, rfl, rfl⟩ := h; exact kk)
theorem YL_iV {κ1 : xK} {idx n ci c1 d1 : Nat} {as rest : List xAV} {P : Int → xI → Prop} (hd : decode κ.2.1 pc = .ok (.invokevirtual idx, 3)) (hc : x_CV κ.1.cls idx κ1 n ci) (hsh : x_sh c1 = (2, ci)) (hN : c1 < 90) (hsp : S κ1 d1 (rr c1 :: as) I (q_i P)) (hst : st = as.reverse ++ rr c1 :: rest) (kk : ∀ z I1, P z I1 → YL sb Ln xs κ d (pc + 3) L (ii z :: rest) I1 Q) (hn : as.length = n := by rfl) (hdd : d1 + 1 ≤ d := by exact Nat.le_of_ble_eq_true rfl) (hrest : rest.length ≤ 8 := by exact Nat.le_of_ble_eq_true rfl) : YL sb Ln xs κ d pc L st I Q :=
  XL_callV hd rfl hc hsh hN hsp hst hn hdd hrest (Nat.le_refl 0) (Nat.le_refl 0) (fun ro N1 I1 R1 h => by obtain ⟨rfl, rfl, z, rfl, h⟩ := h; exact kk _ _ h)
theorem YL_iS {κ1 : xK} {idx n d1 : Nat} {as rest : List xAV} {P : Int → xI → Prop} (hd : decode κ.2.1 pc = .ok (.invokestatic idx, 3)) (hc : x_CS κ.1.cls idx κ1 n) (hsp : S κ1 d1 as I (q_i P)) (hst : st = as.reverse ++ rest) (kk : ∀ z I1, P z I1 → YL sb Ln xs κ d (pc + 3) L (ii z :: rest) I1 Q) (hn : as.length = n := by rfl) (hdd : d1 + 1 ≤ d := by exact Nat.le_of_ble_eq_true rfl) (hrest : rest.length ≤ 8 := by exact Nat.le_of_ble_eq_true rfl) : YL sb Ln xs κ d pc L st I Q :=
  XL_callS hd rfl hc hsp hst hn hdd hrest (Nat.le_refl 0) (Nat.le_refl 0) (fun ro N1 I1 R1 h => by obtain ⟨rfl, rfl, z, rfl, h⟩ := h; exact kk _ _ h)
end XLC
