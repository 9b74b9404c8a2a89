/-! the shape after the constructors: which cell refers to which -/
def xR0 : xR := fun c k =>
  if c = 0 then [some 1, some 12, some 23, none, some 34, some 80, some 83].getD k none
  else if c = 34 then (if k = 0 then some 35 else none)
  else if c = 35 then (if k < 4 then some (36 + 11 * k) else none)
  else if c = 80 then (if k < 2 then some (81 + k) else none)
  else if c = 83 then [some 84, none, some 85, some 86, some 87].getD k none
  else if c = 1 ∨ c = 12 ∨ c = 23 ∨ c = 36 ∨ c = 47 ∨ c = 58 ∨ c = 69 then (if k < 10 then some (c + 1 + k) else none)
  else none
/-- the first cell of a State, its rows are the next ten -/
def x_st (c : Nat) : Prop := c = 1 ∨ c = 12 ∨ c = 23 ∨ c = 36 ∨ c = 47 ∨ c = 58 ∨ c = 69
theorem st_lt {c : Nat} (h : x_st c) : c + 10 < 90 := by unfold x_st at h; omega
theorem sh_0 : x_sh 0 = (2, 4) := rfl
theorem sh_1 : x_sh 1 = (2, 3) := rfl
theorem sh_2 : x_sh 2 = (0, 23) := rfl
theorem sh_3 : x_sh 3 = (0, 3) := rfl
theorem sh_4 : x_sh 4 = (0, 24) := rfl
theorem sh_5 : x_sh 5 = (0, 24) := rfl
theorem sh_6 : x_sh 6 = (0, 24) := rfl
theorem sh_7 : x_sh 7 = (0, 24) := rfl
theorem sh_8 : x_sh 8 = (0, 24) := rfl
theorem sh_9 : x_sh 9 = (0, 24) := rfl
theorem sh_10 : x_sh 10 = (0, 24) := rfl
theorem sh_11 : x_sh 11 = (0, 24) := rfl
theorem sh_12 : x_sh 12 = (2, 3) := rfl
theorem sh_13 : x_sh 13 = (0, 23) := rfl
theorem sh_14 : x_sh 14 = (0, 3) := rfl
theorem sh_15 : x_sh 15 = (0, 24) := rfl
theorem sh_16 : x_sh 16 = (0, 24) := rfl
theorem sh_17 : x_sh 17 = (0, 24) := rfl
theorem sh_18 : x_sh 18 = (0, 24) := rfl
theorem sh_19 : x_sh 19 = (0, 24) := rfl
theorem sh_20 : x_sh 20 = (0, 24) := rfl
theorem sh_21 : x_sh 21 = (0, 24) := rfl
theorem sh_22 : x_sh 22 = (0, 24) := rfl
theorem sh_23 : x_sh 23 = (2, 3) := rfl
theorem sh_24 : x_sh 24 = (0, 23) := rfl
theorem sh_25 : x_sh 25 = (0, 3) := rfl
theorem sh_26 : x_sh 26 = (0, 24) := rfl
theorem sh_27 : x_sh 27 = (0, 24) := rfl
theorem sh_28 : x_sh 28 = (0, 24) := rfl
theorem sh_29 : x_sh 29 = (0, 24) := rfl
theorem sh_30 : x_sh 30 = (0, 24) := rfl
theorem sh_31 : x_sh 31 = (0, 24) := rfl
theorem sh_32 : x_sh 32 = (0, 24) := rfl
theorem sh_33 : x_sh 33 = (0, 24) := rfl
theorem sh_34 : x_sh 34 = (2, 0) := rfl
theorem sh_35 : x_sh 35 = (1, 4) := rfl
theorem sh_36 : x_sh 36 = (2, 3) := rfl
theorem sh_47 : x_sh 47 = (2, 3) := rfl
theorem sh_58 : x_sh 58 = (2, 3) := rfl
theorem sh_69 : x_sh 69 = (2, 3) := rfl
theorem sh_80 : x_sh 80 = (2, 1) := rfl
theorem sh_81 : x_sh 81 = (0, 24) := rfl
theorem sh_82 : x_sh 82 = (0, 24) := rfl
theorem sh_83 : x_sh 83 = (2, 2) := rfl
theorem sh_84 : x_sh 84 = (0, 60) := rfl
theorem sh_85 : x_sh 85 = (0, 30) := rfl
theorem sh_86 : x_sh 86 = (0, 30) := rfl
theorem sh_87 : x_sh 87 = (0, 30) := rfl
theorem sh_88 : x_sh 88 = (0, 24) := rfl
theorem sh_89 : x_sh 89 = (0, 24) := rfl
theorem sh_100 : x_sh 100 = (0, 15) := rfl
theorem sh_101 : x_sh 101 = (0, 15) := rfl
theorem rf_0_0 : xR0 0 0 = some 1 := rfl
theorem rf_0_1 : xR0 0 1 = some 12 := rfl
theorem rf_0_2 : xR0 0 2 = some 23 := rfl
theorem rf_0_4 : xR0 0 4 = some 34 := rfl
theorem rf_0_5 : xR0 0 5 = some 80 := rfl
theorem rf_0_6 : xR0 0 6 = some 83 := rfl
theorem rf_34_0 : xR0 34 0 = some 35 := rfl
theorem rf_80_0 : xR0 80 0 = some 81 := rfl
theorem rf_80_1 : xR0 80 1 = some 82 := rfl
theorem rf_83_0 : xR0 83 0 = some 84 := rfl
theorem rf_83_2 : xR0 83 2 = some 85 := rfl
theorem rf_83_3 : xR0 83 3 = some 86 := rfl
theorem rf_83_4 : xR0 83 4 = some 87 := rfl
theorem rf_1_0 : xR0 1 0 = some 2 := rfl
theorem rf_1_1 : xR0 1 1 = some 3 := rfl
theorem rf_1_2 : xR0 1 2 = some 4 := rfl
theorem rf_1_3 : xR0 1 3 = some 5 := rfl
theorem rf_1_4 : xR0 1 4 = some 6 := rfl
theorem rf_1_5 : xR0 1 5 = some 7 := rfl
theorem rf_1_6 : xR0 1 6 = some 8 := rfl
theorem rf_1_7 : xR0 1 7 = some 9 := rfl
theorem rf_1_8 : xR0 1 8 = some 10 := rfl
theorem rf_1_9 : xR0 1 9 = some 11 := rfl
theorem rf_12_0 : xR0 12 0 = some 13 := rfl
theorem rf_12_1 : xR0 12 1 = some 14 := rfl
theorem rf_12_2 : xR0 12 2 = some 15 := rfl
theorem rf_12_3 : xR0 12 3 = some 16 := rfl
theorem rf_12_4 : xR0 12 4 = some 17 := rfl
theorem rf_12_5 : xR0 12 5 = some 18 := rfl
theorem rf_12_6 : xR0 12 6 = some 19 := rfl
theorem rf_12_7 : xR0 12 7 = some 20 := rfl
theorem rf_12_8 : xR0 12 8 = some 21 := rfl
theorem rf_12_9 : xR0 12 9 = some 22 := rfl
theorem rf_23_0 : xR0 23 0 = some 24 := rfl
theorem rf_23_1 : xR0 23 1 = some 25 := rfl
theorem rf_23_2 : xR0 23 2 = some 26 := rfl
theorem rf_23_3 : xR0 23 3 = some 27 := rfl
theorem rf_23_4 : xR0 23 4 = some 28 := rfl
theorem rf_23_5 : xR0 23 5 = some 29 := rfl
theorem rf_23_6 : xR0 23 6 = some 30 := rfl
theorem rf_23_7 : xR0 23 7 = some 31 := rfl
theorem rf_23_8 : xR0 23 8 = some 32 := rfl
theorem rf_23_9 : xR0 23 9 = some 33 := rfl
theorem rf_36_0 : xR0 36 0 = some 37 := rfl
theorem rf_36_1 : xR0 36 1 = some 38 := rfl
theorem rf_36_2 : xR0 36 2 = some 39 := rfl
theorem rf_36_3 : xR0 36 3 = some 40 := rfl
theorem rf_36_4 : xR0 36 4 = some 41 := rfl
theorem rf_36_5 : xR0 36 5 = some 42 := rfl
theorem rf_36_6 : xR0 36 6 = some 43 := rfl
theorem rf_36_7 : xR0 36 7 = some 44 := rfl
theorem rf_36_8 : xR0 36 8 = some 45 := rfl
theorem rf_36_9 : xR0 36 9 = some 46 := rfl
theorem rf_47_0 : xR0 47 0 = some 48 := rfl
theorem rf_47_1 : xR0 47 1 = some 49 := rfl
theorem rf_47_2 : xR0 47 2 = some 50 := rfl
theorem rf_47_3 : xR0 47 3 = some 51 := rfl
theorem rf_47_4 : xR0 47 4 = some 52 := rfl
theorem rf_47_5 : xR0 47 5 = some 53 := rfl
theorem rf_47_6 : xR0 47 6 = some 54 := rfl
theorem rf_47_7 : xR0 47 7 = some 55 := rfl
theorem rf_47_8 : xR0 47 8 = some 56 := rfl
theorem rf_47_9 : xR0 47 9 = some 57 := rfl
theorem rf_58_0 : xR0 58 0 = some 59 := rfl
theorem rf_58_1 : xR0 58 1 = some 60 := rfl
theorem rf_58_2 : xR0 58 2 = some 61 := rfl
theorem rf_58_3 : xR0 58 3 = some 62 := rfl
theorem rf_58_4 : xR0 58 4 = some 63 := rfl
theorem rf_58_5 : xR0 58 5 = some 64 := rfl
theorem rf_58_6 : xR0 58 6 = some 65 := rfl
theorem rf_58_7 : xR0 58 7 = some 66 := rfl
theorem rf_58_8 : xR0 58 8 = some 67 := rfl
theorem rf_58_9 : xR0 58 9 = some 68 := rfl
theorem rf_69_0 : xR0 69 0 = some 70 := rfl
theorem rf_69_1 : xR0 69 1 = some 71 := rfl
theorem rf_69_2 : xR0 69 2 = some 72 := rfl
theorem rf_69_3 : xR0 69 3 = some 73 := rfl
theorem rf_69_4 : xR0 69 4 = some 74 := rfl
theorem rf_69_5 : xR0 69 5 = some 75 := rfl
theorem rf_69_6 : xR0 69 6 = some 76 := rfl
theorem rf_69_7 : xR0 69 7 = some 77 := rfl
theorem rf_69_8 : xR0 69 8 = some 78 := rfl
theorem rf_69_9 : xR0 69 9 = some 79 := rfl
theorem sh_st {c : Nat} (h : x_st c) : x_sh c = (2, 3) := by rcases h with h | h | h | h | h | h | h <;> subst h <;> rfl
theorem sh_st0 {c : Nat} (h : x_st c) : x_sh (c + 1) = (0, 23) := by rcases h with h | h | h | h | h | h | h <;> subst h <;> rfl
theorem rf_st0 {c : Nat} (h : x_st c) : xR0 c 0 = some (c + 1) := by rcases h with h | h | h | h | h | h | h <;> subst h <;> rfl
theorem sh_st1 {c : Nat} (h : x_st c) : x_sh (c + 2) = (0, 3) := by rcases h with h | h | h | h | h | h | h <;> subst h <;> rfl
theorem rf_st1 {c : Nat} (h : x_st c) : xR0 c 1 = some (c + 2) := by rcases h with h | h | h | h | h | h | h <;> subst h <;> rfl
theorem sh_st2 {c : Nat} (h : x_st c) : x_sh (c + 3) = (0, 24) := by rcases h with h | h | h | h | h | h | h <;> subst h <;> rfl
theorem rf_st2 {c : Nat} (h : x_st c) : xR0 c 2 = some (c + 3) := by rcases h with h | h | h | h | h | h | h <;> subst h <;> rfl
theorem sh_st3 {c : Nat} (h : x_st c) : x_sh (c + 4) = (0, 24) := by rcases h with h | h | h | h | h | h | h <;> subst h <;> rfl
theorem rf_st3 {c : Nat} (h : x_st c) : xR0 c 3 = some (c + 4) := by rcases h with h | h | h | h | h | h | h <;> subst h <;> rfl
theorem sh_st4 {c : Nat} (h : x_st c) : x_sh (c + 5) = (0, 24) := by rcases h with h | h | h | h | h | h | h <;> subst h <;> rfl
theorem rf_st4 {c : Nat} (h : x_st c) : xR0 c 4 = some (c + 5) := by rcases h with h | h | h | h | h | h | h <;> subst h <;> rfl
theorem sh_st5 {c : Nat} (h : x_st c) : x_sh (c + 6) = (0, 24) := by rcases h with h | h | h | h | h | h | h <;> subst h <;> rfl
theorem rf_st5 {c : Nat} (h : x_st c) : xR0 c 5 = some (c + 6) := by rcases h with h | h | h | h | h | h | h <;> subst h <;> rfl
theorem sh_st6 {c : Nat} (h : x_st c) : x_sh (c + 7) = (0, 24) := by rcases h with h | h | h | h | h | h | h <;> subst h <;> rfl
theorem rf_st6 {c : Nat} (h : x_st c) : xR0 c 6 = some (c + 7) := by rcases h with h | h | h | h | h | h | h <;> subst h <;> rfl
theorem sh_st7 {c : Nat} (h : x_st c) : x_sh (c + 8) = (0, 24) := by rcases h with h | h | h | h | h | h | h <;> subst h <;> rfl
theorem rf_st7 {c : Nat} (h : x_st c) : xR0 c 7 = some (c + 8) := by rcases h with h | h | h | h | h | h | h <;> subst h <;> rfl
theorem sh_st8 {c : Nat} (h : x_st c) : x_sh (c + 9) = (0, 24) := by rcases h with h | h | h | h | h | h | h <;> subst h <;> rfl
theorem rf_st8 {c : Nat} (h : x_st c) : xR0 c 8 = some (c + 9) := by rcases h with h | h | h | h | h | h | h <;> subst h <;> rfl
theorem sh_st9 {c : Nat} (h : x_st c) : x_sh (c + 10) = (0, 24) := by rcases h with h | h | h | h | h | h | h <;> subst h <;> rfl
theorem rf_st9 {c : Nat} (h : x_st c) : xR0 c 9 = some (c + 10) := by rcases h with h | h | h | h | h | h | h <;> subst h <;> rfl
theorem x_up_app {I : xI} {c j : Nat} {z : Int} {c' j' : Nat} : x_up I c j z c' j' = if c' = c ∧ j' = j then z else I c' j' := rfl
theorem x_up_same {I : xI} {c j : Nat} {z : Int} : x_up I c j z c j = z := by simp [x_up]
theorem x_up_off {I : xI} {c j : Nat} {z : Int} {c' j' : Nat} (h : c' ≠ c) : x_up I c j z c' j' = I c' j' := by simp [x_up, h]
theorem x_up_offj {I : xI} {c j : Nat} {z : Int} {c' j' : Nat} (h : j' ≠ j) : x_up I c j z c' j' = I c' j' := by simp [x_up, h]
abbrev Y (κ : xK) (d pc : Nat) (L : List (Option xAV)) (st : List xAV) (I : xI) (Q : xQ) : Prop := X κ d 0 0 pc L st 90 I xR0 Q
abbrev S (κ : xK) (d : Nat) (as : List xAV) (I : xI) (Q : xQ) : Prop := Sp κ d 0 0 as 90 I xR0 Q
def q_p (v : xAV) (I : xI) : xQ := fun ro N' I' R' => ro = some v ∧ N' = 90 ∧ I' = I ∧ R' = xR0
def q_v (P : xI → Prop) : xQ := fun ro N' I' R' => ro = none ∧ N' = 90 ∧ R' = xR0 ∧ P I'
def q_i (P : Int → xI → Prop) : xQ := fun ro N' I' R' => N' = 90 ∧ R' = xR0 ∧ ∃ z, ro = some (ii z) ∧ P z I'
theorem X_drop {κ : xK} {d bc bs pc : Nat} {L : List (Option xAV)} {st : List xAV} {N : Nat} {I : xI} {Rf : xR} {Q : xQ} (j : Nat) (h : X κ d bc bs pc (L.set j none) st N I Rf Q) : X κ d bc bs pc L st N I Rf Q := by
  refine X_locals h (List.length_set) (fun i a hi => ?_)
  by_cases e : j = i
  · subst e
    by_cases q : j < L.length
    · rw [List.getElem?_set_self q] at hi; cases hi
    · rw [List.getElem?_eq_none (by rw [List.length_set]; omega)] at hi; cases hi
  · rw [List.getElem?_set_ne e] at hi; exact hi
section XY
variable {κ : xK} {d pc : Nat} {L : List (Option xAV)} {st : List xAV} {I : xI} {Q : xQ}
theorem Y_pS {κ1 : xK} {idx n d1 : Nat} {as rest : List xAV} {v : xAV} (hd : decode κ.2.1 pc = .ok (.invokestatic idx, 3)) (hc : x_CS κ.1.cls idx κ1 n) (hsp : S κ1 d1 as I (q_p v I)) (hst : st = as.reverse ++ rest) (kk : Y κ d (pc + 3) L (v :: rest) I Q) (hn : as.length = n := by rfl) (hdd : d1 + 1 ≤ d := by exact Nat.le_of_ble_eq_true rfl) (hrest : rest.length ≤ 8 := by exact Nat.le_of_ble_eq_true rfl) : Y κ d pc L st I Q :=
  X_callS hd rfl hc hsp hst hn hdd hrest (Nat.le_refl 0) (Nat.le_refl 0) (fun ro N1 I1 R1 h => by obtain ⟨rfl, rfl, rfl, rfl⟩ := h; exact kk)
theorem Y_vS {κ1 : xK} {idx n d1 : Nat} {as rest : List xAV} {P : xI → Prop} (hd : decode κ.2.1 pc = .ok (.invokestatic idx, 3)) (hc : x_CS κ.1.cls idx κ1 n) (hsp : S κ1 d1 as I (q_v P)) (hst : st = as.reverse ++ rest) (kk : ∀ I1, P I1 → Y κ d (pc + 3) L rest I1 Q) (hn : as.length = n := by rfl) (hdd : d1 + 1 ≤ d := by exact Nat.le_of_ble_eq_true rfl) (hrest : rest.length ≤ 8 := by exact Nat.le_of_ble_eq_true rfl) : Y κ d pc L st I Q :=
  X_callS hd rfl hc hsp hst hn hdd hrest (Nat.le_refl 0) (Nat.le_refl 0) (fun ro N1 I1 R1 h => by obtain ⟨rfl, rfl, rfl, h⟩ := h; exact kk _ h)
theorem Y_iS {κ1 : xK} {idx n d1 : Nat} {as rest : List xAV} {P : Int → xI → Prop} (hd : decode κ.2.1 pc = .ok (.invokestatic idx, 3)) (hc : x_CS κ.1.cls idx κ1 n) (hsp : S κ1 d1 as I (q_i P)) (hst : st = as.reverse ++ rest) (kk : ∀ z I1, P z I1 → Y κ d (pc + 3) L (ii z :: rest) I1 Q) (hn : as.length = n := by rfl) (hdd : d1 + 1 ≤ d := by exact Nat.le_of_ble_eq_true rfl) (hrest : rest.length ≤ 8 := by exact Nat.le_of_ble_eq_true rfl) : Y κ d pc L st I Q :=
  X_callS hd rfl hc hsp hst hn hdd hrest (Nat.le_refl 0) (Nat.le_refl 0) (fun ro N1 I1 R1 h => by obtain ⟨rfl, rfl, z, rfl, h⟩ := h; exact kk _ _ h)
theorem Y_pV {κ1 : xK} {idx n ci c1 d1 : Nat} {as rest : List xAV} {v : xAV} (hd : decode κ.2.1 pc = .ok (.invokevirtual idx, 3)) (hc : x_CV κ.1.cls idx κ1 n ci) (hsh : x_sh c1 = (2, ci)) (hN : c1 < 90) (hsp : S κ1 d1 (rr c1 :: as) I (q_p v I)) (hst : st = as.reverse ++ rr c1 :: rest) (kk : Y κ d (pc + 3) L (v :: rest) I Q) (hn : as.length = n := by rfl) (hdd : d1 + 1 ≤ d := by exact Nat.le_of_ble_eq_true rfl) (hrest : rest.length ≤ 8 := by exact Nat.le_of_ble_eq_true rfl) : Y κ d pc L st I Q :=
  X_callV hd rfl hc hsh hN hsp hst hn hdd hrest (Nat.le_refl 0) (Nat.le_refl 0) (fun ro N1 I1 R1 h => by obtain ⟨rfl, rfl, rfl, rfl⟩ := h; exact kk)
theorem Y_vV {κ1 : xK} {idx n ci c1 d1 : Nat} {as rest : List xAV} {P : xI → Prop} (hd : decode κ.2.1 pc = .ok (.invokevirtual idx, 3)) (hc : x_CV κ.1.cls idx κ1 n ci) (hsh : x_sh c1 = (2, ci)) (hN : c1 < 90) (hsp : S κ1 d1 (rr c1 :: as) I (q_v P)) (hst : st = as.reverse ++ rr c1 :: rest) (kk : ∀ I1, P I1 → Y κ d (pc + 3) L rest I1 Q) (hn : as.length = n := by rfl) (hdd : d1 + 1 ≤ d := by exact Nat.le_of_ble_eq_true rfl) (hrest : rest.length ≤ 8 := by exact Nat.le_of_ble_eq_true rfl) : Y κ d pc L st I Q :=
  X_callV hd rfl hc hsh hN hsp hst hn hdd hrest (Nat.le_refl 0) (Nat.le_refl 0) (fun ro N1 I1 R1 h => by obtain ⟨rfl, rfl, rfl, h⟩ := h; exact kk _ h)
theorem Y_iV {κ1 : xK} {idx n ci c1 d1 : Nat} {as rest : List xAV} {P : Int → xI → Prop} (hd : decode κ.2.1 pc = .ok (.invokevirtual idx, 3)) (hc : x_CV κ.1.cls idx κ1 n ci) (hsh : x_sh c1 = (2, ci)) (hN : c1 < 90) (hsp : S κ1 d1 (rr c1 :: as) I (q_i P)) (hst : st = as.reverse ++ rr c1 :: rest) (kk : ∀ z I1, P z I1 → Y κ d (pc + 3) L (ii z :: rest) I1 Q) (hn : as.length = n := by rfl) (hdd : d1 + 1 ≤ d := by exact Nat.le_of_ble_eq_true rfl) (hrest : rest.length ≤ 8 := by exact Nat.le_of_ble_eq_true rfl) : Y κ d pc L st I Q :=
  X_callV hd rfl hc hsh hN hsp hst hn hdd hrest (Nat.le_refl 0) (Nat.le_refl 0) (fun ro N1 I1 R1 h => by obtain ⟨rfl, rfl, z, rfl, h⟩ := h; exact kk _ _ h)
theorem x_met_mono {κ : xK} {d mc ms : Nat} {as : List xAV} {N : Nat} {I : xI} {Rf : xR} {Q Q' : xQ} (h : Sp κ d mc ms as N I Rf Q) (hq : ∀ ro N' I' R', Q ro N' I' R' → Q' ro N' I' R') : Sp κ d mc ms as N I Rf Q' := by
  intro G l p e ha hcc hk s m args below hf happ hpre hkk
  obtain ⟨k, o, h1, h2, h3, h4, h5⟩ := h G l p e ha hcc hk s m args below hf happ hpre hkk
  obtain ⟨⟨ro, N1, I1, R1, e1, e2, e3⟩, e4⟩ := h4
  exact ⟨k, o, h1, h2, h3, ⟨⟨ro, N1, I1, R1, e1, hq _ _ _ _ e2, e3⟩, e4⟩, h5⟩
theorem S_monoV {as : List xAV} {P P' : xI → Prop} (h : S κ d as I (q_v P)) (hq : ∀ I1, P I1 → P' I1) : S κ d as I (q_v P') := x_met_mono h (fun ro N' I' R' e => ⟨e.1, e.2.1, e.2.2.1, hq _ e.2.2.2⟩)
theorem S_monoI {as : List xAV} {P P' : Int → xI → Prop} (h : S κ d as I (q_i P)) (hq : ∀ z I1, P z I1 → P' z I1) : S κ d as I (q_i P') := x_met_mono h (fun ro N' I' R' e => ⟨e.1, e.2.1, by obtain ⟨z, h1, h2⟩ := e.2.2; exact ⟨z, h1, hq _ _ h2⟩⟩)
end XY
