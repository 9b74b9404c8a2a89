theorem x_sh_lt (c : Nat) : (x_sh c).2 < 1000 := by
  unfold x_sh
  split
  · decide
  · rw [List.getD_eq_getElem?_getD]
    cases h : x_shL[c]? with
    | none => decide
    | some q =>
      have hm := List.mem_of_getElem? h
      have ha : ∀ q ∈ x_shL, q.2 < 1000 := by decide
      exact ha q hm
/-- what a getfield, putfield, getstatic, a call needs of the tables -/
def x_GF (own : String) (idx ci k : Nat) : Prop := ∃ (C : String) (T : u_T) (Nf : Nat), vwCl[ci]? = some (C, T, Nf) ∧ x_nf ci = Nf ∧ k < Nf ∧ (∀ w ∈ u_ws C T Nf, w ∈ xT) ∧ (Cond.fieldLink own idx (T k).1 (T k).2.1 (T k).2.2.1 ∈ xT ∨ ∃ host, (own, idx, (T k).1, (T k).2.1, (T k).2.2.1, host) ∈ x_NTf)
def x_PF (own : String) (idx ci k : Nat) (ty : FieldType) (fin : Bool) : Prop := ∃ (C : String) (T : u_T) (Nf : Nat) (ty0 : Nat → FieldType), vwCl[ci]? = some (C, T, Nf) ∧ x_nf ci = Nf ∧ k < Nf ∧ (∀ w ∈ u_ws C T Nf, w ∈ xT) ∧ Cond.fieldLink own idx (T k).1 (T k).2.1 (T k).2.2.1 ∈ xT ∧ (∀ j, j < Nf → parseFieldDescriptor (T j).2.2.1 = some (ty0 j)) ∧ (∀ a, a < Nf → ∀ b, b < Nf → a ≠ b → (T a).2.1 ≠ (T b).2.1) ∧ (T k).2.2.2 = fin ∧ ty0 k = ty ∧ (T k).1 = own
def x_GS (own : String) (idx : Nat) (nm : String) : Prop := Cond.fieldLink own idx "HeatShelves" nm "[I" ∈ xT ∨ ∃ host, (own, idx, "HeatShelves", nm, "[I", host) ∈ x_NTf
def x_lnk (own : String) (idx : Nat) (κ : xK) : Prop := Cond.methodLink own idx κ.1 ∈ xT ∨ ∃ host, (own, idx, κ.1, host) ∈ x_NTm
def x_cal (κ : xK) (n : Nat) : Prop := Cond.code κ.1 κ.2.1 κ.2.2.1 κ.2.2.2 ∈ xT ∧ Cond.initialized κ.1.cls ∈ xT ∧ (κ.1.cls ≠ "java/lang/invoke/MethodHandle" ∧ κ.1.cls ≠ "java/lang/invoke/VarHandle" ∧ (parseMethodDescriptor κ.1.desc).map (fun d => d.parameters.length) = some n) ∧ κ.2.2.1 ≤ 21
def x_CV (own : String) (idx : Nat) (κ : xK) (n ci : Nat) : Prop := x_lnk own idx κ ∧ x_cal κ n ∧ Cond.instanceMethod κ.1 ∈ xT ∧ Cond.selects κ.1.cls κ.1 κ.1 ∈ xT ∧ ∃ T Nf, vwCl[ci]? = some (κ.1.cls, T, Nf)
def x_CS (own : String) (idx : Nat) (κ : xK) (n : Nat) : Prop := x_lnk own idx κ ∧ x_cal κ n ∧ Cond.static κ.1 ∈ xT
def x_CC (own : String) (idx : Nat) (κ : xK) (n : Nat) : Prop := x_lnk own idx κ ∧ x_cal κ n ∧ Cond.instanceMethod κ.1 ∈ xT ∧ κ.1.name = "<init>" ∧ κ.2.2.2 = none
def x_cp (I : xI) (c0 c1 n : Nat) : xI := fun c j => if c = c1 ∧ j < n then I c0 j else I c j
def x_z (I : xI) (N : Nat) : xI := fun c j => if c = N then 0 else I c j
def x_zR (Rf : xR) (N : Nat) : xR := fun c j => if c = N then none else Rf c j
theorem xw_min_static : Cond.static Lib.Math.min.name ∈ xT := xT_of (List.mem_append_right _ (List.mem_of_getElem? (i := 169) rfl)) rfl
theorem xw_min_code : Cond.code Lib.Math.min.name Lib.Math.min.code 2 (some .int) ∈ xT := xT_of (List.mem_append_right _ (List.mem_of_getElem? (i := 170) rfl)) rfl
theorem xw_max_static : Cond.static Lib.Math.max.name ∈ xT := xT_of (List.mem_append_right _ (List.mem_of_getElem? (i := 239) rfl)) rfl
theorem xw_max_code : Cond.code Lib.Math.max.name Lib.Math.max.code 2 (some .int) ∈ xT := xT_of (List.mem_append_right _ (List.mem_of_getElem? (i := 240) rfl)) rfl
theorem xw_abs_static : Cond.static Lib.Math.abs.name ∈ xT := xT_of (List.mem_append_right _ (List.mem_of_getElem? (i := 265) rfl)) rfl
theorem xw_abs_code : Cond.code Lib.Math.abs.name Lib.Math.abs.code 1 (some .int) ∈ xT := xT_of (List.mem_append_right _ (List.mem_of_getElem? (i := 266) rfl)) rfl
theorem xw_math_init : Cond.initialized "java/lang/Math" ∈ xT := xT_of (List.mem_append_right _ (List.mem_of_getElem? (i := 6) rfl)) rfl
theorem xw_sys_init : Cond.initialized "java/lang/System" ∈ xT := xT_of (List.mem_append_right _ (List.mem_of_getElem? (i := 7) rfl)) rfl
theorem xw_acp_native : Cond.native arraycopyName ∈ xT := xT_of (List.mem_append_right _ (List.mem_of_getElem? (i := 173) rfl)) rfl
theorem xw_acp_static : Cond.static arraycopyName ∈ xT := xT_of (List.mem_append_right _ (List.mem_of_getElem? (i := 172) rfl)) rfl
theorem xw_obj_inst : Cond.instanceMethod Lib.objectInit ∈ xT := xT_of (List.mem_append_right _ (List.mem_of_getElem? (i := 14) rfl)) rfl
theorem xw_obj_code : Cond.code Lib.objectInit ⟨#[0xb1]⟩ 1 none ∈ xT := xT_of (List.mem_append_right _ (List.mem_of_getElem? (i := 15) rfl)) rfl
theorem xw_arr_int : Cond.arrayClass (newarray.typeOf .int) ∈ xT := xT_of (List.mem_append_right _ (List.mem_of_getElem? (i := 71) rfl)) rfl
/-! numbers -/
theorem x_ti {z : Int} (h : -2147483648 ≤ z ∧ z ≤ 2147483647) : (Int32.ofInt z).toInt = z := Int32.toInt_ofInt_of_le (by omega) (by omega)
theorem x_lt {a b : Int} (ha : -2147483648 ≤ a ∧ a ≤ 2147483647) (hb : -2147483648 ≤ b ∧ b ≤ 2147483647) : Int32.ofInt a < Int32.ofInt b ↔ a < b := by rw [Int32.lt_iff_toInt_lt, x_ti ha, x_ti hb]
theorem x_le {a b : Int} (ha : -2147483648 ≤ a ∧ a ≤ 2147483647) (hb : -2147483648 ≤ b ∧ b ≤ 2147483647) : Int32.ofInt a ≤ Int32.ofInt b ↔ a ≤ b := by rw [Int32.le_iff_toInt_le, x_ti ha, x_ti hb]
theorem x_eq {a b : Int} (ha : -2147483648 ≤ a ∧ a ≤ 2147483647) (hb : -2147483648 ≤ b ∧ b ≤ 2147483647) : Int32.ofInt a = Int32.ofInt b ↔ a = b := by rw [← Int32.toInt_inj, x_ti ha, x_ti hb]
theorem x_zero : (0 : Int32) = Int32.ofInt 0 := rfl
theorem x_in {i : Int} {n : Nat} (h : 0 ≤ i ∧ i < n) (hn : n < 2147483648) : vp_in (Int32.ofInt i) n := by
  rw [vp_in_iff, x_ti (by omega)]
  exact h
theorem x_cl {i : Int} (h : 0 ≤ i ∧ i ≤ 2147483647) : (Int32.ofInt i).toNatClampNeg = i.toNat := Int32.toNatClampNeg_ofInt_of_le (by omega) (by omega)
theorem x_bi {n : Int} (h : -128 ≤ n ∧ n ≤ 127) : (Int8.ofInt n).toInt32 = Int32.ofInt n := by
  rw [← Int32.toInt_inj, Int8.toInt_toInt32, Int8.toInt_ofInt_of_le (by omega) (by omega), x_ti (by omega)]
theorem x_si {n : Int} (h : -32768 ≤ n ∧ n ≤ 32767) : (Int16.ofInt n).toInt32 = Int32.ofInt n := by
  rw [← Int32.toInt_inj, Int16.toInt_toInt32, Int16.toInt_ofInt_of_le (by omega) (by omega), x_ti (by omega)]
theorem x_nI (n : Nat) : nI n = Int32.ofInt (n : Int) := (Int32.ofInt_eq_ofNat).symm
theorem x_div {a b : Int} (ha : 0 ≤ a ∧ a ≤ 2147483647) (hb : 0 < b ∧ b ≤ 2147483647) : Int32.ofInt a / Int32.ofInt b = Int32.ofInt (a / b) := by
  obtain ⟨n, rfl⟩ := Int.eq_ofNat_of_zero_le ha.1
  obtain ⟨k, rfl⟩ := Int.eq_ofNat_of_zero_le (by omega : 0 ≤ b)
  have h := pk_div (a := n) (d := k) (by omega) (by omega) (by omega)
  rw [x_nI, x_nI, x_nI] at h
  rw [h]
  rfl
theorem x_rem {a b : Int} (ha : 0 ≤ a ∧ a ≤ 2147483647) (hb : 0 < b ∧ b ≤ 2147483647) : Int32.ofInt a - Int32.ofInt a / Int32.ofInt b * Int32.ofInt b = Int32.ofInt (a % b) := by
  obtain ⟨n, rfl⟩ := Int.eq_ofNat_of_zero_le ha.1
  obtain ⟨k, rfl⟩ := Int.eq_ofNat_of_zero_le (by omega : 0 ≤ b)
  have h := pk_rem (a := n) (d := k) (by omega) (by omega) (by omega)
  rw [x_nI, x_nI, x_nI] at h
  rw [h]
  rfl
theorem x_bits (z : Int) : ((Int32.ofInt z).toBitVec.toNat : Int) = z % 4294967296 := by
  have h : (Int32.ofInt z).toBitVec = BitVec.ofInt 32 z := rfl
  rw [h, BitVec.toNat_ofInt]
  omega
theorem x_char (z : Int) : ((Int32.ofInt z).toUInt32 % 65536).toInt32 = Int32.ofInt (z % 65536) := by
  rw [pk_char, x_nI]
  have h := x_bits z
  congr 1
  omega
theorem x_and31 (z : Int) : Int32.ofInt z &&& 31 = Int32.ofInt (z % 32) := by
  rw [pk_and (Int32.ofInt z) 5 (by decide), x_nI]
  have h := x_bits z
  congr 1
  omega
/-! the rules: one an instruction -/
section XR
variable {κ : xK} {d bc bs pc : Nat} {L : List (Option xAV)} {st : List xAV} {N : Nat} {I : xI} {Rf : xR} {Q : xQ}
theorem X_iconst {n : Int} (hd : decode κ.2.1 pc = .ok (.iconst n, 1)) (kk : X κ d bc bs (pc + 1) L (ii n :: st) N I Rf Q) : X κ d bc bs pc L st N I Rf Q := by
  intro G p l e Rm s m args below meth c H locs cells slots mc ms ls Z hC h1 h2 h3 h4 hE hP hS h5 h6 hL
  exact lv_iconst (v := Int32.ofInt n) hC.1 hC.2.1 hd rfl (kk hC h1 h2 h3 h4 hE hP hS h5 h6 hL)
theorem X_bipush {n : Int} (hd : decode κ.2.1 pc = .ok (.bipush n, 2)) (hn : -128 ≤ n ∧ n ≤ 127) (kk : X κ d bc bs (pc + 2) L (ii n :: st) N I Rf Q) : X κ d bc bs pc L st N I Rf Q := by
  intro G p l e Rm s m args below meth c H locs cells slots mc ms ls Z hC h1 h2 h3 h4 hE hP hS h5 h6 hL
  exact lv_bipush (v := Int32.ofInt n) hC.1 hC.2.1 hd (x_bi hn) (kk hC h1 h2 h3 h4 hE hP hS h5 h6 hL)
theorem X_sipush {n : Int} (hd : decode κ.2.1 pc = .ok (.sipush n, 3)) (hn : -32768 ≤ n ∧ n ≤ 32767) (kk : X κ d bc bs (pc + 3) L (ii n :: st) N I Rf Q) : X κ d bc bs pc L st N I Rf Q := by
  intro G p l e Rm s m args below meth c H locs cells slots mc ms ls Z hC h1 h2 h3 h4 hE hP hS h5 h6 hL
  exact lv_sipush (v := Int32.ofInt n) hC.1 hC.2.1 hd (x_si hn) (kk hC h1 h2 h3 h4 hE hP hS h5 h6 hL)
theorem X_ldc {own : String} {index : Nat} {v : Int32} {z : Int} (hd : decode κ.2.1 pc = .ok (.ldc index, 2)) (ho : κ.1.cls = own) (hw : Cond.constant own index v ∈ xT) (hv : v = Int32.ofInt z) (kk : X κ d bc bs (pc + 2) L (ii z :: st) N I Rf Q) : X κ d bc bs pc L st N I Rf Q := by
  intro G p l e Rm s m args below meth c H locs cells slots mc ms ls Z hC h1 h2 h3 h4 hE hP hS h5 h6 hL
  subst hv; subst ho
  exact lv_ldc (v := Int32.ofInt z) hC.1 hC.2.1 hC.2.2.2.1 (hC.2.2.2.2.1 _ hw) hd (kk hC h1 h2 h3 h4 hE hP hS h5 h6 hL)
theorem X_iload {k : Fin 4} {z : Int} (hd : decode κ.2.1 pc = .ok (.iload_n k, 1)) (hl : L[(k : Nat)]? = some (some (ii z))) (kk : X κ d bc bs (pc + 1) L (ii z :: st) N I Rf Q) : X κ d bc bs pc L st N I Rf Q := by
  intro G p l e Rm s m args below meth c H locs cells slots mc ms ls Z hC h1 h2 h3 h4 hE hP hS h5 h6 hL
  exact lv_iload_n (x := Int32.ofInt z) hC.1 hC.2.1 hd rfl (hL.2.2.2 _ _ hl) (kk hC h1 h2 h3 h4 hE hP hS h5 h6 hL)
theorem X_iloadW {k : Nat} {z : Int} (hd : decode κ.2.1 pc = .ok (.iload k, 2)) (hl : L[k]? = some (some (ii z))) (kk : X κ d bc bs (pc + 2) L (ii z :: st) N I Rf Q) : X κ d bc bs pc L st N I Rf Q := by
  intro G p l e Rm s m args below meth c H locs cells slots mc ms ls Z hC h1 h2 h3 h4 hE hP hS h5 h6 hL
  exact lv_iload (x := Int32.ofInt z) hC.1 hC.2.1 hd (hL.2.2.2 _ _ hl) (kk hC h1 h2 h3 h4 hE hP hS h5 h6 hL)
theorem X_aload {k : Fin 4} {z : Nat} (hd : decode κ.2.1 pc = .ok (.aload_n k, 1)) (hl : L[(k : Nat)]? = some (some (rr z))) (kk : X κ d bc bs (pc + 1) L (rr z :: st) N I Rf Q) : X κ d bc bs pc L st N I Rf Q := by
  intro G p l e Rm s m args below meth c H locs cells slots mc ms ls Z hC h1 h2 h3 h4 hE hP hS h5 h6 hL
  exact lv_aload_n (x := x_ad G z) hC.1 hC.2.1 hd rfl (hL.2.2.2 _ _ hl) (kk hC h1 h2 h3 h4 hE hP hS h5 h6 hL)
theorem X_istore {k : Fin 4} {z : Int} (hd : decode κ.2.1 pc = .ok (.istore_n k, 1)) (hk : (k : Nat) < κ.2.2.1) (kk : X κ d bc bs (pc + 1) (L.set (k : Nat) (some (ii z))) st N I Rf Q) : X κ d bc bs pc L (ii z :: st) N I Rf Q := by
  intro G p l e Rm s m args below meth c H locs cells slots mc ms ls Z hC h1 h2 h3 h4 hE hP hS h5 h6 hL
  exact lv_istore_n (x := Int32.ofInt z) hC.1 hC.2.1 hd rfl hL.has hk rfl (fun ls' h' => kk hC h1 h2 h3 h4 hE hP hS h5 h6 (hL.stored (a := ii z) hk h'))
theorem X_istoreW {k : Nat} {z : Int} (hd : decode κ.2.1 pc = .ok (.istore k, 2)) (hk : k < κ.2.2.1) (kk : X κ d bc bs (pc + 2) (L.set k (some (ii z))) st N I Rf Q) : X κ d bc bs pc L (ii z :: st) N I Rf Q := by
  intro G p l e Rm s m args below meth c H locs cells slots mc ms ls Z hC h1 h2 h3 h4 hE hP hS h5 h6 hL
  exact lv_istore (x := Int32.ofInt z) hC.1 hC.2.1 hd hL.has hk rfl (fun ls' h' => kk hC h1 h2 h3 h4 hE hP hS h5 h6 (hL.stored (a := ii z) hk h'))
theorem X_astore {k : Fin 4} {z : Nat} (hd : decode κ.2.1 pc = .ok (.astore_n k, 1)) (hk : (k : Nat) < κ.2.2.1) (kk : X κ d bc bs (pc + 1) (L.set (k : Nat) (some (rr z))) st N I Rf Q) : X κ d bc bs pc L (rr z :: st) N I Rf Q := by
  intro G p l e Rm s m args below meth c H locs cells slots mc ms ls Z hC h1 h2 h3 h4 hE hP hS h5 h6 hL
  exact lv_astore_n (x := x_ad G z) hC.1 hC.2.1 hd rfl hL.has hk rfl (fun ls' h' => kk hC h1 h2 h3 h4 hE hP hS h5 h6 (hL.stored (a := rr z) hk h'))
theorem X_iinc {k : Nat} {n z : Int} (hd : decode κ.2.1 pc = .ok (.iinc k n, 3)) (hl : L[k]? = some (some (ii z))) (kk : X κ d bc bs (pc + 3) (L.set k (some (ii (z + n)))) st N I Rf Q) : X κ d bc bs pc L st N I Rf Q := by
  intro G p l e Rm s m args below meth c H locs cells slots mc ms ls Z hC h1 h2 h3 h4 hE hP hS h5 h6 hL
  have hk : k < κ.2.2.1 := by rw [← hL.2.2.1]; exact (List.getElem?_eq_some_iff.mp hl).1
  obtain ⟨j, hj⟩ := List.getElem?_of_mem (x_as_mem (G := G).mpr ⟨_, hl, rfl⟩)
  exact lv_iinc (x := Int32.ofInt z) (v := Int32.ofInt (z + n)) hC.1 hC.2.1 hd hL.has hj (Int32.ofInt_add z n).symm hk rfl (fun ls' h' => kk hC h1 h2 h3 h4 hE hP hS h5 h6 (hL.stored (a := ii (z + n)) hk h'))
theorem X_iincW {k : Nat} {n z : Int} (hd : decode κ.2.1 pc = .ok (.iinc k n, 6)) (hl : L[k]? = some (some (ii z))) (kk : X κ d bc bs (pc + 6) (L.set k (some (ii (z + n)))) st N I Rf Q) : X κ d bc bs pc L st N I Rf Q := by
  intro G p l e Rm s m args below meth c H locs cells slots mc ms ls Z hC h1 h2 h3 h4 hE hP hS h5 h6 hL
  have hk : k < κ.2.2.1 := by rw [← hL.2.2.1]; exact (List.getElem?_eq_some_iff.mp hl).1
  obtain ⟨j, hj⟩ := List.getElem?_of_mem (x_as_mem (G := G).mpr ⟨_, hl, rfl⟩)
  exact lv_iincW (x := Int32.ofInt z) (v := Int32.ofInt (z + n)) hC.1 hC.2.1 hd hL.has hj (Int32.ofInt_add z n).symm hk rfl (fun ls' h' => kk hC h1 h2 h3 h4 hE hP hS h5 h6 (hL.stored (a := ii (z + n)) hk h'))
theorem X_iadd {a b : Int} (hd : decode κ.2.1 pc = .ok (.iadd, 1)) (kk : X κ d bc bs (pc + 1) L (ii (a + b) :: st) N I Rf Q) : X κ d bc bs pc L (ii b :: ii a :: st) N I Rf Q := by
  intro G p l e Rm s m args below meth c H locs cells slots mc ms ls Z hC h1 h2 h3 h4 hE hP hS h5 h6 hL
  refine lv_iadd (x := Int32.ofInt a) (y := Int32.ofInt b) hC.1 hC.2.1 hd ?_
  rw [← Int32.ofInt_add]
  exact kk hC h1 h2 h3 h4 hE hP hS h5 h6 hL
theorem X_isub {a b : Int} (hd : decode κ.2.1 pc = .ok (.isub, 1)) (kk : X κ d bc bs (pc + 1) L (ii (a - b) :: st) N I Rf Q) : X κ d bc bs pc L (ii b :: ii a :: st) N I Rf Q := by
  intro G p l e Rm s m args below meth c H locs cells slots mc ms ls Z hC h1 h2 h3 h4 hE hP hS h5 h6 hL
  refine lv_isub (x := Int32.ofInt a) (y := Int32.ofInt b) hC.1 hC.2.1 hd ?_
  rw [← Int32.ofInt_sub]
  exact kk hC h1 h2 h3 h4 hE hP hS h5 h6 hL
theorem X_imul {a b : Int} (hd : decode κ.2.1 pc = .ok (.imul, 1)) (kk : X κ d bc bs (pc + 1) L (ii (a * b) :: st) N I Rf Q) : X κ d bc bs pc L (ii b :: ii a :: st) N I Rf Q := by
  intro G p l e Rm s m args below meth c H locs cells slots mc ms ls Z hC h1 h2 h3 h4 hE hP hS h5 h6 hL
  refine lv_imul (x := Int32.ofInt a) (y := Int32.ofInt b) hC.1 hC.2.1 hd ?_
  rw [← Int32.ofInt_mul]
  exact kk hC h1 h2 h3 h4 hE hP hS h5 h6 hL
theorem X_ineg {a : Int} (hd : decode κ.2.1 pc = .ok (.ineg, 1)) (kk : X κ d bc bs (pc + 1) L (ii (-a) :: st) N I Rf Q) : X κ d bc bs pc L (ii a :: st) N I Rf Q := by
  intro G p l e Rm s m args below meth c H locs cells slots mc ms ls Z hC h1 h2 h3 h4 hE hP hS h5 h6 hL
  refine lv_ineg (x := Int32.ofInt a) hC.1 hC.2.1 hd ?_
  rw [← Int32.ofInt_neg]
  exact kk hC h1 h2 h3 h4 hE hP hS h5 h6 hL
theorem X_iand31 {a : Int} (hd : decode κ.2.1 pc = .ok (.iand, 1)) (kk : X κ d bc bs (pc + 1) L (ii (a % 32) :: st) N I Rf Q) : X κ d bc bs pc L (ii 31 :: ii a :: st) N I Rf Q := by
  intro G p l e Rm s m args below meth c H locs cells slots mc ms ls Z hC h1 h2 h3 h4 hE hP hS h5 h6 hL
  refine lv_iand (x := Int32.ofInt a) (y := Int32.ofInt 31) hC.1 hC.2.1 hd ?_
  rw [show Int32.ofInt a &&& Int32.ofInt 31 = Int32.ofInt (a % 32) from x_and31 a]
  exact kk hC h1 h2 h3 h4 hE hP hS h5 h6 hL
theorem X_idiv {a b : Int} (hd : decode κ.2.1 pc = .ok (.idiv, 1)) (ha : 0 ≤ a ∧ a ≤ 2147483647) (hb : 0 < b ∧ b ≤ 2147483647) (kk : X κ d bc bs (pc + 1) L (ii (a / b) :: st) N I Rf Q) : X κ d bc bs pc L (ii b :: ii a :: st) N I Rf Q := by
  intro G p l e Rm s m args below meth c H locs cells slots mc ms ls Z hC h1 h2 h3 h4 hE hP hS h5 h6 hL
  refine lv_idiv (x := Int32.ofInt a) (y := Int32.ofInt b) hC.1 hC.2.1 hd (by rw [x_zero, x_eq (by omega) (by omega)]; omega) ?_
  rw [x_div ha hb]
  exact kk hC h1 h2 h3 h4 hE hP hS h5 h6 hL
theorem X_irem {a b : Int} (hd : decode κ.2.1 pc = .ok (.irem, 1)) (ha : 0 ≤ a ∧ a ≤ 2147483647) (hb : 0 < b ∧ b ≤ 2147483647) (kk : X κ d bc bs (pc + 1) L (ii (a % b) :: st) N I Rf Q) : X κ d bc bs pc L (ii b :: ii a :: st) N I Rf Q := by
  intro G p l e Rm s m args below meth c H locs cells slots mc ms ls Z hC h1 h2 h3 h4 hE hP hS h5 h6 hL
  refine lv_irem (x := Int32.ofInt a) (y := Int32.ofInt b) hC.1 hC.2.1 hd (by rw [x_zero, x_eq (by omega) (by omega)]; omega) ?_
  rw [x_rem ha hb]
  exact kk hC h1 h2 h3 h4 hE hP hS h5 h6 hL
theorem X_i2c {a : Int} (hd : decode κ.2.1 pc = .ok (.i2c, 1)) (kk : X κ d bc bs (pc + 1) L (ii (a % 65536) :: st) N I Rf Q) : X κ d bc bs pc L (ii a :: st) N I Rf Q := by
  intro G p l e Rm s m args below meth c H locs cells slots mc ms ls Z hC h1 h2 h3 h4 hE hP hS h5 h6 hL
  exact lv_i2c (x := Int32.ofInt a) (v := Int32.ofInt (a % 65536)) hC.1 hC.2.1 hd (x_char a) (kk hC h1 h2 h3 h4 hE hP hS h5 h6 hL)
theorem X_dup {a : xAV} (hd : decode κ.2.1 pc = .ok (.dup, 1)) (kk : X κ d bc bs (pc + 1) L (a :: a :: st) N I Rf Q) : X κ d bc bs pc L (a :: st) N I Rf Q := by
  intro G p l e Rm s m args below meth c H locs cells slots mc ms ls Z hC h1 h2 h3 h4 hE hP hS h5 h6 hL
  exact lv_dup (va := x_v G a) hC.1 hC.2.1 hd (x_cat G a) (kk hC h1 h2 h3 h4 hE hP hS h5 h6 hL)
theorem X_dup2 {a b : xAV} (hd : decode κ.2.1 pc = .ok (.dup2, 1)) (kk : X κ d bc bs (pc + 1) L (a :: b :: a :: b :: st) N I Rf Q) : X κ d bc bs pc L (a :: b :: st) N I Rf Q := by
  intro G p l e Rm s m args below meth c H locs cells slots mc ms ls Z hC h1 h2 h3 h4 hE hP hS h5 h6 hL
  exact lv_dup2_11 (va := x_v G a) (vb := x_v G b) hC.1 hC.2.1 hd (x_cat G a) (x_cat G b) (kk hC h1 h2 h3 h4 hE hP hS h5 h6 hL)
theorem X_pop {a : xAV} (hd : decode κ.2.1 pc = .ok (.pop, 1)) (kk : X κ d bc bs (pc + 1) L st N I Rf Q) : X κ d bc bs pc L (a :: st) N I Rf Q := by
  intro G p l e Rm s m args below meth c H locs cells slots mc ms ls Z hC h1 h2 h3 h4 hE hP hS h5 h6 hL
  exact lv_pop (va := x_v G a) hC.1 hC.2.1 hd (x_cat G a) (kk hC h1 h2 h3 h4 hE hP hS h5 h6 hL)
theorem X_goto {off : Int} {tgt : Nat} (hd : decode κ.2.1 pc = .ok (.goto off, 3)) (ht : (pc : Int) + off = (tgt : Int)) (kk : X κ d bc bs tgt L st N I Rf Q) : X κ d bc bs pc L st N I Rf Q := by
  intro G p l e Rm s m args below meth c H locs cells slots mc ms ls Z hC h1 h2 h3 h4 hE hP hS h5 h6 hL
  exact lv_goto hC.1 hC.2.1 hd ht (kk hC h1 h2 h3 h4 hE hP hS h5 h6 hL)
theorem X_null (hd : decode κ.2.1 pc = .ok (.aconst_null, 1)) (kk : X κ d bc bs (pc + 1) L (.inr none :: st) N I Rf Q) : X κ d bc bs pc L st N I Rf Q := by
  intro G p l e Rm s m args below meth c H locs cells slots mc ms ls Z hC h1 h2 h3 h4 hE hP hS h5 h6 hL
  exact lv_null hC.1 hC.2.1 hd (kk hC h1 h2 h3 h4 hE hP hS h5 h6 hL)
theorem X_ifnonnull {z : Nat} {off : Int} {tgt : Nat} (hd : decode κ.2.1 pc = .ok (.ifnonnull off, 3)) (ht : (pc : Int) + off = (tgt : Int)) (kk : X κ d bc bs tgt L st N I Rf Q) : X κ d bc bs pc L (rr z :: st) N I Rf Q := by
  intro G p l e Rm s m args below meth c H locs cells slots mc ms ls Z hC h1 h2 h3 h4 hE hP hS h5 h6 hL
  exact lv_ifnonnull (x := x_ad G z) hC.1 hC.2.1 hd ht (kk hC h1 h2 h3 h4 hE hP hS h5 h6 hL)
theorem X_ifnull {z : Nat} {off : Int} (hd : decode κ.2.1 pc = .ok (.ifnull off, 3)) (kk : X κ d bc bs (pc + 3) L st N I Rf Q) : X κ d bc bs pc L (rr z :: st) N I Rf Q := by
  intro G p l e Rm s m args below meth c H locs cells slots mc ms ls Z hC h1 h2 h3 h4 hE hP hS h5 h6 hL
  exact lv_ifnull (x := x_ad G z) hC.1 hC.2.1 hd (kk hC h1 h2 h3 h4 hE hP hS h5 h6 hL)
theorem X_icmp_eq {a b off : Int} {tgt : Nat} (hd : decode κ.2.1 pc = .ok (.if_icmp .eq off, 3)) (ht : (pc : Int) + off = (tgt : Int)) (hr : (-2147483648 ≤ a ∧ a ≤ 2147483647) ∧ (-2147483648 ≤ b ∧ b ≤ 2147483647)) (kt : a = b → X κ d bc bs tgt L st N I Rf Q) (kf : ¬ a = b → X κ d bc bs (pc + 3) L st N I Rf Q) : X κ d bc bs pc L (ii b :: ii a :: st) N I Rf Q := by
  intro G p l e Rm s m args below meth c H locs cells slots mc ms ls Z hC h1 h2 h3 h4 hE hP hS h5 h6 hL
  exact lv_icmp_eq (x := Int32.ofInt a) (y := Int32.ofInt b) hC.1 hC.2.1 hd ht (fun q => kt ((x_eq hr.1 hr.2).mp q) hC h1 h2 h3 h4 hE hP hS h5 h6 hL) (fun q => kf (fun z => q ((x_eq hr.1 hr.2).mpr z)) hC h1 h2 h3 h4 hE hP hS h5 h6 hL)
theorem X_if_eq {a off : Int} {tgt : Nat} (hd : decode κ.2.1 pc = .ok (.ifCond .eq off, 3)) (ht : (pc : Int) + off = (tgt : Int)) (ha : -2147483648 ≤ a ∧ a ≤ 2147483647) (kt : a = 0 → X κ d bc bs tgt L st N I Rf Q) (kf : ¬ a = 0 → X κ d bc bs (pc + 3) L st N I Rf Q) : X κ d bc bs pc L (ii a :: st) N I Rf Q := by
  intro G p l e Rm s m args below meth c H locs cells slots mc ms ls Z hC h1 h2 h3 h4 hE hP hS h5 h6 hL
  have hr : (-2147483648 ≤ a ∧ a ≤ 2147483647) ∧ (-2147483648 ≤ (0 : Int) ∧ (0 : Int) ≤ 2147483647) := ⟨ha, by omega⟩
  exact lv_if_eq (x := Int32.ofInt a) hC.1 hC.2.1 hd ht (fun q => kt ((x_eq hr.1 hr.2).mp q) hC h1 h2 h3 h4 hE hP hS h5 h6 hL) (fun q => kf (fun z => q ((x_eq hr.1 hr.2).mpr z)) hC h1 h2 h3 h4 hE hP hS h5 h6 hL)
theorem X_icmp_ne {a b off : Int} {tgt : Nat} (hd : decode κ.2.1 pc = .ok (.if_icmp .ne off, 3)) (ht : (pc : Int) + off = (tgt : Int)) (hr : (-2147483648 ≤ a ∧ a ≤ 2147483647) ∧ (-2147483648 ≤ b ∧ b ≤ 2147483647)) (kt : ¬ a = b → X κ d bc bs tgt L st N I Rf Q) (kf : a = b → X κ d bc bs (pc + 3) L st N I Rf Q) : X κ d bc bs pc L (ii b :: ii a :: st) N I Rf Q := by
  intro G p l e Rm s m args below meth c H locs cells slots mc ms ls Z hC h1 h2 h3 h4 hE hP hS h5 h6 hL
  exact lv_icmp_ne (x := Int32.ofInt a) (y := Int32.ofInt b) hC.1 hC.2.1 hd ht (fun q => kt (fun z => q ((x_eq hr.1 hr.2).mpr z)) hC h1 h2 h3 h4 hE hP hS h5 h6 hL) (fun q => kf ((x_eq hr.1 hr.2).mp q) hC h1 h2 h3 h4 hE hP hS h5 h6 hL)
theorem X_if_ne {a off : Int} {tgt : Nat} (hd : decode κ.2.1 pc = .ok (.ifCond .ne off, 3)) (ht : (pc : Int) + off = (tgt : Int)) (ha : -2147483648 ≤ a ∧ a ≤ 2147483647) (kt : ¬ a = 0 → X κ d bc bs tgt L st N I Rf Q) (kf : a = 0 → X κ d bc bs (pc + 3) L st N I Rf Q) : X κ d bc bs pc L (ii a :: st) N I Rf Q := by
  intro G p l e Rm s m args below meth c H locs cells slots mc ms ls Z hC h1 h2 h3 h4 hE hP hS h5 h6 hL
  have hr : (-2147483648 ≤ a ∧ a ≤ 2147483647) ∧ (-2147483648 ≤ (0 : Int) ∧ (0 : Int) ≤ 2147483647) := ⟨ha, by omega⟩
  exact lv_if_ne (x := Int32.ofInt a) hC.1 hC.2.1 hd ht (fun q => kt (fun z => q ((x_eq hr.1 hr.2).mpr z)) hC h1 h2 h3 h4 hE hP hS h5 h6 hL) (fun q => kf ((x_eq hr.1 hr.2).mp q) hC h1 h2 h3 h4 hE hP hS h5 h6 hL)
theorem X_icmp_lt {a b off : Int} {tgt : Nat} (hd : decode κ.2.1 pc = .ok (.if_icmp .lt off, 3)) (ht : (pc : Int) + off = (tgt : Int)) (hr : (-2147483648 ≤ a ∧ a ≤ 2147483647) ∧ (-2147483648 ≤ b ∧ b ≤ 2147483647)) (kt : a < b → X κ d bc bs tgt L st N I Rf Q) (kf : b ≤ a → X κ d bc bs (pc + 3) L st N I Rf Q) : X κ d bc bs pc L (ii b :: ii a :: st) N I Rf Q := by
  intro G p l e Rm s m args below meth c H locs cells slots mc ms ls Z hC h1 h2 h3 h4 hE hP hS h5 h6 hL
  exact lv_icmp_lt (x := Int32.ofInt a) (y := Int32.ofInt b) hC.1 hC.2.1 hd ht (fun q => kt ((x_lt hr.1 hr.2).mp q) hC h1 h2 h3 h4 hE hP hS h5 h6 hL) (fun q => kf (Int.not_lt.mp fun z => q ((x_lt hr.1 hr.2).mpr z)) hC h1 h2 h3 h4 hE hP hS h5 h6 hL)
theorem X_if_lt {a off : Int} {tgt : Nat} (hd : decode κ.2.1 pc = .ok (.ifCond .lt off, 3)) (ht : (pc : Int) + off = (tgt : Int)) (ha : -2147483648 ≤ a ∧ a ≤ 2147483647) (kt : a < 0 → X κ d bc bs tgt L st N I Rf Q) (kf : 0 ≤ a → X κ d bc bs (pc + 3) L st N I Rf Q) : X κ d bc bs pc L (ii a :: st) N I Rf Q := by
  intro G p l e Rm s m args below meth c H locs cells slots mc ms ls Z hC h1 h2 h3 h4 hE hP hS h5 h6 hL
  have hr : (-2147483648 ≤ a ∧ a ≤ 2147483647) ∧ (-2147483648 ≤ (0 : Int) ∧ (0 : Int) ≤ 2147483647) := ⟨ha, by omega⟩
  exact lv_if_lt (x := Int32.ofInt a) hC.1 hC.2.1 hd ht (fun q => kt ((x_lt hr.1 hr.2).mp q) hC h1 h2 h3 h4 hE hP hS h5 h6 hL) (fun q => kf (Int.not_lt.mp fun z => q ((x_lt hr.1 hr.2).mpr z)) hC h1 h2 h3 h4 hE hP hS h5 h6 hL)
theorem X_icmp_ge {a b off : Int} {tgt : Nat} (hd : decode κ.2.1 pc = .ok (.if_icmp .ge off, 3)) (ht : (pc : Int) + off = (tgt : Int)) (hr : (-2147483648 ≤ a ∧ a ≤ 2147483647) ∧ (-2147483648 ≤ b ∧ b ≤ 2147483647)) (kt : b ≤ a → X κ d bc bs tgt L st N I Rf Q) (kf : a < b → X κ d bc bs (pc + 3) L st N I Rf Q) : X κ d bc bs pc L (ii b :: ii a :: st) N I Rf Q := by
  intro G p l e Rm s m args below meth c H locs cells slots mc ms ls Z hC h1 h2 h3 h4 hE hP hS h5 h6 hL
  exact lv_icmp_ge (x := Int32.ofInt a) (y := Int32.ofInt b) hC.1 hC.2.1 hd ht (fun q => kt ((x_le hr.2 hr.1).mp q) hC h1 h2 h3 h4 hE hP hS h5 h6 hL) (fun q => kf (Int.not_le.mp fun z => q ((x_le hr.2 hr.1).mpr z)) hC h1 h2 h3 h4 hE hP hS h5 h6 hL)
theorem X_if_ge {a off : Int} {tgt : Nat} (hd : decode κ.2.1 pc = .ok (.ifCond .ge off, 3)) (ht : (pc : Int) + off = (tgt : Int)) (ha : -2147483648 ≤ a ∧ a ≤ 2147483647) (kt : 0 ≤ a → X κ d bc bs tgt L st N I Rf Q) (kf : a < 0 → X κ d bc bs (pc + 3) L st N I Rf Q) : X κ d bc bs pc L (ii a :: st) N I Rf Q := by
  intro G p l e Rm s m args below meth c H locs cells slots mc ms ls Z hC h1 h2 h3 h4 hE hP hS h5 h6 hL
  have hr : (-2147483648 ≤ a ∧ a ≤ 2147483647) ∧ (-2147483648 ≤ (0 : Int) ∧ (0 : Int) ≤ 2147483647) := ⟨ha, by omega⟩
  exact lv_if_ge (x := Int32.ofInt a) hC.1 hC.2.1 hd ht (fun q => kt ((x_le hr.2 hr.1).mp q) hC h1 h2 h3 h4 hE hP hS h5 h6 hL) (fun q => kf (Int.not_le.mp fun z => q ((x_le hr.2 hr.1).mpr z)) hC h1 h2 h3 h4 hE hP hS h5 h6 hL)
theorem X_icmp_gt {a b off : Int} {tgt : Nat} (hd : decode κ.2.1 pc = .ok (.if_icmp .gt off, 3)) (ht : (pc : Int) + off = (tgt : Int)) (hr : (-2147483648 ≤ a ∧ a ≤ 2147483647) ∧ (-2147483648 ≤ b ∧ b ≤ 2147483647)) (kt : b < a → X κ d bc bs tgt L st N I Rf Q) (kf : a ≤ b → X κ d bc bs (pc + 3) L st N I Rf Q) : X κ d bc bs pc L (ii b :: ii a :: st) N I Rf Q := by
  intro G p l e Rm s m args below meth c H locs cells slots mc ms ls Z hC h1 h2 h3 h4 hE hP hS h5 h6 hL
  exact lv_icmp_gt (x := Int32.ofInt a) (y := Int32.ofInt b) hC.1 hC.2.1 hd ht (fun q => kt ((x_lt hr.2 hr.1).mp q) hC h1 h2 h3 h4 hE hP hS h5 h6 hL) (fun q => kf (Int.not_lt.mp fun z => q ((x_lt hr.2 hr.1).mpr z)) hC h1 h2 h3 h4 hE hP hS h5 h6 hL)
theorem X_if_gt {a off : Int} {tgt : Nat} (hd : decode κ.2.1 pc = .ok (.ifCond .gt off, 3)) (ht : (pc : Int) + off = (tgt : Int)) (ha : -2147483648 ≤ a ∧ a ≤ 2147483647) (kt : 0 < a → X κ d bc bs tgt L st N I Rf Q) (kf : a ≤ 0 → X κ d bc bs (pc + 3) L st N I Rf Q) : X κ d bc bs pc L (ii a :: st) N I Rf Q := by
  intro G p l e Rm s m args below meth c H locs cells slots mc ms ls Z hC h1 h2 h3 h4 hE hP hS h5 h6 hL
  have hr : (-2147483648 ≤ a ∧ a ≤ 2147483647) ∧ (-2147483648 ≤ (0 : Int) ∧ (0 : Int) ≤ 2147483647) := ⟨ha, by omega⟩
  exact lv_if_gt (x := Int32.ofInt a) hC.1 hC.2.1 hd ht (fun q => kt ((x_lt hr.2 hr.1).mp q) hC h1 h2 h3 h4 hE hP hS h5 h6 hL) (fun q => kf (Int.not_lt.mp fun z => q ((x_lt hr.2 hr.1).mpr z)) hC h1 h2 h3 h4 hE hP hS h5 h6 hL)
theorem X_icmp_le {a b off : Int} {tgt : Nat} (hd : decode κ.2.1 pc = .ok (.if_icmp .le off, 3)) (ht : (pc : Int) + off = (tgt : Int)) (hr : (-2147483648 ≤ a ∧ a ≤ 2147483647) ∧ (-2147483648 ≤ b ∧ b ≤ 2147483647)) (kt : a ≤ b → X κ d bc bs tgt L st N I Rf Q) (kf : b < a → X κ d bc bs (pc + 3) L st N I Rf Q) : X κ d bc bs pc L (ii b :: ii a :: st) N I Rf Q := by
  intro G p l e Rm s m args below meth c H locs cells slots mc ms ls Z hC h1 h2 h3 h4 hE hP hS h5 h6 hL
  exact lv_icmp_le (x := Int32.ofInt a) (y := Int32.ofInt b) hC.1 hC.2.1 hd ht (fun q => kt ((x_le hr.1 hr.2).mp q) hC h1 h2 h3 h4 hE hP hS h5 h6 hL) (fun q => kf (Int.not_le.mp fun z => q ((x_le hr.1 hr.2).mpr z)) hC h1 h2 h3 h4 hE hP hS h5 h6 hL)
theorem X_if_le {a off : Int} {tgt : Nat} (hd : decode κ.2.1 pc = .ok (.ifCond .le off, 3)) (ht : (pc : Int) + off = (tgt : Int)) (ha : -2147483648 ≤ a ∧ a ≤ 2147483647) (kt : a ≤ 0 → X κ d bc bs tgt L st N I Rf Q) (kf : 0 < a → X κ d bc bs (pc + 3) L st N I Rf Q) : X κ d bc bs pc L (ii a :: st) N I Rf Q := by
  intro G p l e Rm s m args below meth c H locs cells slots mc ms ls Z hC h1 h2 h3 h4 hE hP hS h5 h6 hL
  have hr : (-2147483648 ≤ a ∧ a ≤ 2147483647) ∧ (-2147483648 ≤ (0 : Int) ∧ (0 : Int) ≤ 2147483647) := ⟨ha, by omega⟩
  exact lv_if_le (x := Int32.ofInt a) hC.1 hC.2.1 hd ht (fun q => kt ((x_le hr.1 hr.2).mp q) hC h1 h2 h3 h4 hE hP hS h5 h6 hL) (fun q => kf (Int.not_le.mp fun z => q ((x_le hr.1 hr.2).mpr z)) hC h1 h2 h3 h4 hE hP hS h5 h6 hL)
theorem X_tswIn {dflt lo hi : Int} {offs : Array Int} {len : Nat} {z v : Int} {off : Int} {tgt : Nat} (hd : decode κ.2.1 pc = .ok (.tableswitch dflt lo hi offs, len)) (hz : z = v) (hv : -2147483648 ≤ v ∧ v ≤ 2147483647) (h1' : ¬ v < lo) (h2' : ¬ hi < v) (ho : offs[(v - lo).toNat]? = some off) (ht : (pc : Int) + off = (tgt : Int)) (kk : X κ d bc bs tgt L st N I Rf Q) : X κ d bc bs pc L (ii z :: st) N I Rf Q := by
  intro G p l e Rm s m args below meth c H locs cells slots mc ms ls Z hC h1 h2 h3 h4 hE hP hS h5 h6 hL
  subst hz
  exact lv_tableIn (x := Int32.ofInt z) hC.1 hC.2.1 hd (by rw [x_ti hv]; exact h1') (by rw [x_ti hv]; exact h2') (by rw [x_ti hv]; exact ho) ht (kk hC h1 h2 h3 h4 hE hP hS h5 h6 hL)
theorem X_tswOut {dflt lo hi : Int} {offs : Array Int} {len : Nat} {z : Int} {tgt : Nat} (hd : decode κ.2.1 pc = .ok (.tableswitch dflt lo hi offs, len)) (hz : -2147483648 ≤ z ∧ z ≤ 2147483647) (h : z < lo ∨ hi < z) (ht : (pc : Int) + dflt = (tgt : Int)) (kk : X κ d bc bs tgt L st N I Rf Q) : X κ d bc bs pc L (ii z :: st) N I Rf Q := by
  intro G p l e Rm s m args below meth c H locs cells slots mc ms ls Z hC h1 h2 h3 h4 hE hP hS h5 h6 hL
  exact lv_tableOut (x := Int32.ofInt z) hC.1 hC.2.1 hd (by rw [x_ti hz]; exact h) ht (kk hC h1 h2 h3 h4 hE hP hS h5 h6 hL)
theorem X_lsw {dflt : Int} {ps : Array (Int × Int)} {len : Nat} {z off : Int} {tgt : Nat} (hd : decode κ.2.1 pc = .ok (.lookupswitch dflt ps, len)) (hp : (ps.toList.zip (ps.toList.drop 1)).all (fun (a, next) => a.1 < next.1) = true) (hz : -2147483648 ≤ z ∧ z ≤ 2147483647) (ho : Op.lookupswitch.offset ps.toList dflt z = off) (ht : (pc : Int) + off = (tgt : Int)) (kk : X κ d bc bs tgt L st N I Rf Q) : X κ d bc bs pc L (ii z :: st) N I Rf Q := by
  intro G p l e Rm s m args below meth c H locs cells slots mc ms ls Z hC h1 h2 h3 h4 hE hP hS h5 h6 hL
  exact lv_lookup (x := Int32.ofInt z) hC.1 hC.2.1 hd hp (by rw [x_ti hz]; exact ho) ht (kk hC h1 h2 h3 h4 hE hP hS h5 h6 hL)
/-! answers -/
theorem X_iret {z : Int} (hd : decode κ.2.1 pc = .ok (.ireturn, 1)) (hr : κ.2.2.2 = some .int ∨ (κ.2.2.2 = some .boolean ∧ (z = 0 ∨ z = 1))) (h : Q (some (ii z)) N I Rf) : X κ d bc bs pc L [ii z] N I Rf Q := by
  intro G p l e Rm s m args below meth c H locs cells slots mc ms ls Z hC h1 h2 h3 h4 hE hP hS h5 h6 hL
  exact hE _ _ _ _ _ _ _ _ _ _ _ h hP hS (by omega) (by omega) (Or.inl ⟨z, rfl, rfl, hd, hr⟩)
theorem X_vret (hd : decode κ.2.1 pc = .ok (.return_, 1)) (hr : κ.2.2.2 = none) (h : Q none N I Rf) : X κ d bc bs pc L [] N I Rf Q := by
  intro G p l e Rm s m args below meth c H locs cells slots mc ms ls Z hC h1 h2 h3 h4 hE hP hS h5 h6 hL
  exact hE _ _ _ _ _ _ _ _ _ _ _ h hP hS (by omega) (by omega) (Or.inr (Or.inl ⟨rfl, rfl, hd, hr⟩))
theorem X_aret {o : Option Nat} (hd : decode κ.2.1 pc = .ok (.areturn, 1)) (hr : κ.2.2.2 = some (.object "HeatShelves$State")) (h : Q (some (.inr o)) N I Rf) : X κ d bc bs pc L [.inr o] N I Rf Q := by
  intro G p l e Rm s m args below meth c H locs cells slots mc ms ls Z hC h1 h2 h3 h4 hE hP hS h5 h6 hL
  exact hE _ _ _ _ _ _ _ _ _ _ _ h hP hS (by omega) (by omega) (Or.inr (Or.inr ⟨o, rfl, rfl, hd, hr⟩))
/-! the memory changes only what is asked: another memory that is the same where it matters -/
theorem X_weaken {Q' : xQ} (h : X κ d bc bs pc L st N I Rf Q) (hq : ∀ ro N' I' R', Q ro N' I' R' → Q' ro N' I' R') : X κ d bc bs pc L st N I Rf Q' := by
  intro G p l e Rm s m args below meth c H locs cells slots mc ms ls Z hC h1 h2 h3 h4 hE hP hS h5 h6 hL
  exact h hC h1 h2 h3 h4 (fun ro N' I' R' H' locs' cells' slots' pc' ls' st' hQ => hE ro N' I' R' H' locs' cells' slots' pc' ls' st' (hq _ _ _ _ hQ)) hP hS h5 h6 hL
theorem X_locals {L' : List (Option xAV)} (h : X κ d bc bs pc L' st N I Rf Q) (hlen : L'.length = L.length) (hs : ∀ (i : Nat) (a : xAV), L'[i]? = some (some a) → L[i]? = some (some a)) : X κ d bc bs pc L st N I Rf Q := by
  intro G p l e Rm s m args below meth c H locs cells slots mc ms ls Z hC h1 h2 h3 h4 hE hP hS h5 h6 hL
  exact h hC h1 h2 h3 h4 hE hP hS h5 h6 ⟨hL.1, hL.2.1, hlen.trans hL.2.2.1, fun i a ha => hL.2.2.2 i a (hs i a ha)⟩
end XR
