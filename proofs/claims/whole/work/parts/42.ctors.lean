/-! the constructors -/
def fv (j : Nat) : Int := [80, 3000, 500, 4, 5, 2, 20, 40, 200, 10, 4, 1, 0, 2, 9].getD j 0
theorem fv_far {j : Nat} (h : 15 ≤ j) : fv j = 0 := by
  unfold fv
  rw [List.getD_eq_getElem?_getD, List.getElem?_eq_none (by simpa using h)]
  rfl
/-- what the cells hold when all is made -/
def iv (q j : Nat) : Int := if q = 2 ∨ q = 13 ∨ q = 24 ∨ q = 37 ∨ q = 48 ∨ q = 59 ∨ q = 70 ∨ q = 89 then fv j else 0
theorem iv_no {q j : Nat} (h : ¬ (q = 2 ∨ q = 13 ∨ q = 24 ∨ q = 37 ∨ q = 48 ∨ q = 59 ∨ q = 70 ∨ q = 89)) : iv q j = 0 := if_neg h
theorem iv_nu {c j : Nat} (h : x_st c) : iv (c + 1) j = fv j := by unfold x_st at h; unfold iv; exact if_pos (by omega)
def JJ (J : xI) : Prop := (∀ q, q < 94 → ∀ j, J q j = iv q j) ∧ ∀ j, j < 15 → J 100 j = fv j
/-- cells below B as they were; of the object at c the first k fields are laid; behind it all is laid -/
def rK (B : xR) (c k : Nat) : xR := fun q j => if q < c then B q j else if q = c ∧ ¬ j < k then none else xR0 q j
def rB (B : xR) (c : Nat) : xR := fun q j => if q < c then B q j else xR0 q j
def q_n (N : Nat) (I : xI) (R : xR) : xQ := fun ro N' I' R' => ro = none ∧ N' = N ∧ I' = I ∧ R' = R
theorem x_z_id {I : xI} {N : Nat} (h : ∀ j, I N j = 0) : I = x_z I N := by
  funext q j
  unfold x_z
  by_cases e : q = N
  · subst e; rw [if_pos rfl]; exact h j
  · rw [if_neg e]
theorem x_up_id {I : xI} {c j : Nat} {z : Int} (h : I c j = z) : x_up I c j z = I := by
  funext q k
  unfold x_up
  by_cases e : q = c ∧ k = j
  · rw [if_pos e, e.1, e.2]; exact h.symm
  · rw [if_neg e]
theorem xR0_no {q : Nat} (h : q ≠ 0 ∧ q ≠ 34 ∧ q ≠ 35 ∧ q ≠ 80 ∧ q ≠ 83 ∧ q ≠ 88 ∧ ¬ x_st q) (j : Nat) : xR0 q j = none := by
  unfold x_st at h
  unfold xR0
  rw [if_neg (by omega), if_neg (by omega), if_neg (by omega), if_neg (by omega), if_neg (by omega), if_neg (by omega), if_neg (by omega)]
theorem rK_put {B : xR} {c k N : Nat} (k' v : Nat) (hcN : c < N) (hkk : k < k') (hv : xR0 c k = some v) (hmid : ∀ j, k < j → j < k' → xR0 c j = none) (hz : ∀ j, xR0 N j = none) : rK B c k' = x_upR (x_zR (rK B c k) N) c k (some v) := by
  funext q j
  unfold x_upR x_zR rK
  by_cases h1 : q = c
  · subst h1
    rw [if_neg (Nat.lt_irrefl q), if_neg (show ¬ q = N by omega), if_neg (Nat.lt_irrefl q)]
    by_cases h2 : j = k
    · subst h2
      rw [if_neg (by omega), if_pos ⟨rfl, rfl⟩]
      exact hv
    · rw [if_neg (show ¬ (q = q ∧ j = k) by omega)]
      by_cases h3 : j < k
      · rw [if_neg (by omega), if_neg (by omega)]
      · rw [if_pos (show q = q ∧ ¬ j < k from ⟨rfl, h3⟩)]
        by_cases h4 : j < k'
        · rw [if_neg (by omega)]
          exact hmid j (by omega) h4
        · rw [if_pos ⟨rfl, h4⟩]
  · rw [if_neg (show ¬ (q = c ∧ j = k) by omega)]
    by_cases h2 : q < c
    · rw [if_pos h2, if_neg (show ¬ q = N by omega), if_pos h2]
    · rw [if_neg h2, if_neg (show ¬ (q = c ∧ ¬ j < k') by omega)]
      by_cases h3 : q = N
      · rw [if_pos h3, h3]; exact hz j
      · rw [if_neg h3, if_neg h2, if_neg (show ¬ (q = c ∧ ¬ j < k) by omega)]
/-- the same for a child that a constructor has just filled -/
theorem rK_put2 {B : xR} {o k : Nat} (k' c : Nat) (hkk : k < k') (hv : xR0 o k = some c) (hmid : ∀ j, k < j → j < k' → xR0 o j = none) : rK B o k' = x_upR (rK B o k) o k (some c) := by
  funext q j
  unfold x_upR rK
  by_cases h1 : q = o
  · subst h1
    rw [if_neg (Nat.lt_irrefl q), if_neg (Nat.lt_irrefl q)]
    by_cases h2 : j = k
    · subst h2
      rw [if_neg (by omega), if_pos ⟨rfl, rfl⟩]
      exact hv
    · rw [if_neg (show ¬ (q = q ∧ j = k) by omega)]
      by_cases h3 : j < k
      · rw [if_neg (by omega), if_neg (by omega)]
      · rw [if_pos (show q = q ∧ ¬ j < k from ⟨rfl, h3⟩)]
        by_cases h4 : j < k'
        · rw [if_neg (by omega)]
          exact hmid j (by omega) h4
        · rw [if_pos ⟨rfl, h4⟩]
  · rw [if_neg (show ¬ (q = o ∧ j = k) by omega)]
    by_cases h2 : q < o
    · rw [if_pos h2, if_pos h2]
    · rw [if_neg h2, if_neg h2, if_neg (show ¬ (q = o ∧ ¬ j < k') by omega), if_neg (show ¬ (q = o ∧ ¬ j < k) by omega)]
theorem rB_id {R : xR} {c : Nat} (h : ∀ q, c ≤ q → R q = xR0 q) : rB R c = R := by
  funext q j
  unfold rB
  by_cases e : q < c
  · rw [if_pos e]
  · rw [if_neg e, h q (by omega)]
theorem zR_rK {R : xR} {c : Nat} (h : ∀ q, c ≤ q → R q = xR0 q) : x_zR R c = rK R c 0 := by
  funext q j
  unfold x_zR rK
  by_cases e : q = c
  · rw [if_pos e, if_neg (by omega), if_pos ⟨e, Nat.not_lt_zero j⟩]
  · rw [if_neg e]
    by_cases e2 : q < c
    · rw [if_pos e2]
    · rw [if_neg e2, if_neg (by omega), h q (by omega)]
theorem rK_far {B : xR} {o k c : Nat} (h : o < c) : ∀ q, c ≤ q → rK B o k q = xR0 q := by
  intro q hq
  funext j
  unfold rK
  rw [if_neg (by omega), if_neg (by omega)]
theorem rK_end {B : xR} {c k : Nat} (h : ∀ j, k ≤ j → xR0 c j = none) : rB B c = rK B c k := by
  funext q j
  unfold rB rK
  by_cases e : q < c
  · rw [if_pos e, if_pos e]
  · rw [if_neg e, if_neg e]
    by_cases e2 : q = c ∧ ¬ j < k
    · rw [if_pos e2, e2.1]; exact h j (by omega)
    · rw [if_neg e2]

theorem fsX0 : ∀ j, j < 3 → defaultValue (tyX0 j) = if x_ir 0 j = true then .null else .int 0 := by
  intro j hj
  rcases (show j = 0 ∨ j = 1 ∨ j = 2 by omega) with rfl | rfl | rfl <;> rfl
theorem fsX1 : ∀ j, j < 2 → defaultValue (tyX1 j) = if x_ir 1 j = true then .null else .int 0 := by
  intro j hj
  rcases (show j = 0 ∨ j = 1 by omega) with rfl | rfl <;> rfl
theorem fsX2 : ∀ j, j < 7 → defaultValue (tyX2 j) = if x_ir 2 j = true then .null else .int 0 := by
  intro j hj
  rcases (show j = 0 ∨ j = 1 ∨ j = 2 ∨ j = 3 ∨ j = 4 ∨ j = 5 ∨ j = 6 by omega) with rfl | rfl | rfl | rfl | rfl | rfl | rfl <;> rfl
theorem fsX3 : ∀ j, j < 10 → defaultValue (tyX3 j) = if x_ir 3 j = true then .null else .int 0 := by
  intro j hj
  rcases (show j = 0 ∨ j = 1 ∨ j = 2 ∨ j = 3 ∨ j = 4 ∨ j = 5 ∨ j = 6 ∨ j = 7 ∨ j = 8 ∨ j = 9 by omega) with rfl | rfl | rfl | rfl | rfl | rfl | rfl | rfl | rfl | rfl <;> rfl
theorem fsX4 : ∀ j, j < 7 → defaultValue (tyX4 j) = if x_ir 4 j = true then .null else .int 0 := by
  intro j hj
  rcases (show j = 0 ∨ j = 1 ∨ j = 2 ∨ j = 3 ∨ j = 4 ∨ j = 5 ∨ j = 6 by omega) with rfl | rfl | rfl | rfl | rfl | rfl | rfl <;> rfl
theorem fsX5 : ∀ j, j < 8 → defaultValue (tyX5 j) = if x_ir 5 j = true then .null else .int 0 := by
  intro j hj
  rcases (show j = 0 ∨ j = 1 ∨ j = 2 ∨ j = 3 ∨ j = 4 ∨ j = 5 ∨ j = 6 ∨ j = 7 by omega) with rfl | rfl | rfl | rfl | rfl | rfl | rfl | rfl <;> rfl
theorem xR0_st {c k : Nat} (h : x_st c) (hk : k < 10) : xR0 c k = some (c + 1 + k) := by
  rcases h with h | h | h | h | h | h | h <;> subst h <;> (show (if k < 10 then _ else _) = _) <;> rw [if_pos hk]
theorem xR0_stz {c : Nat} (h : x_st c) {k : Nat} (hk : 10 ≤ k) : xR0 c k = none := by
  rcases h with h | h | h | h | h | h | h <;> subst h <;> (show (if k < 10 then _ else _) = _) <;> rw [if_neg (by omega)]
/-- the first k numbers of the state at c are laid -/
def nF (J : xI) (c k : Nat) : xI := fun q j => if q = c + 1 ∧ k ≤ j then 0 else J q j
theorem nF_0 (J : xI) (c : Nat) : x_z J (c + 1) = nF J c 0 := by
  funext q j
  unfold x_z nF
  by_cases e : q = c + 1
  · rw [if_pos e, if_pos ⟨e, Nat.zero_le j⟩]
  · rw [if_neg e, if_neg (fun z => e z.1)]
theorem nF_15 {J : xI} (hJ : JJ J) {c : Nat} (hc : x_st c) : nF J c 15 = J := by
  have hlt := st_lt hc
  funext q j
  unfold nF
  by_cases e : q = c + 1 ∧ 15 ≤ j
  · rw [if_pos e, e.1, hJ.1 (c + 1) (by omega) j, iv_nu hc, fv_far e.2]
  · rw [if_neg e]
theorem nF_put {J : xI} (hJ : JJ J) {c k : Nat} (hc : x_st c) (hk : k < 15) : x_up (nF J c k) (c + 1) k (nF J c k 100 k) = nF J c (k + 1) := by
  have hlt := st_lt hc
  have e100 : nF J c k 100 k = fv k := by
    unfold nF
    rw [if_neg (by omega)]
    exact hJ.2 k hk
  rw [e100]
  funext q j
  unfold x_up nF
  by_cases e : q = c + 1
  · subst e
    by_cases e2 : j = k
    · subst e2
      rw [if_pos ⟨rfl, rfl⟩, if_neg (by omega), hJ.1 (c + 1) (by omega) j, iv_nu hc]
    · rw [if_neg (by omega)]
      by_cases e3 : k ≤ j
      · rw [if_pos ⟨rfl, e3⟩, if_pos ⟨rfl, by omega⟩]
      · rw [if_neg (by omega), if_neg (by omega)]
  · rw [if_neg (fun z => e z.1), if_neg (fun z => e z.1), if_neg (fun z => e z.1)]
set_option maxRecDepth 20000 in
set_option maxHeartbeats 4000000 in
theorem n_State_loop {c : Nat} (hc : x_st c) {J : xI} (hJ : JJ J) (B : xR) : ∀ m i : Nat, i + m = 15 → X kX3_init 2 0 0 85 [some (rr c), some (ii (i : Int))] [] (c + 11) (nF J c i) (rK B c 10) (q_n (c + 11) J (rB B c)) := by
  have hlt := st_lt hc
  intro m
  induction m with
  | zero =>
    intro i hi
    have e : i = 15 := by omega
    subst e
    refine X_iload dX3_init_85 rfl ?_
    refine X_getsF dX3_init_86 rfl gs_X3_42 ?_
    refine X_alen dX3_init_89 sh_100 (Or.inr (Or.inl rfl)) ?_
    refine X_icmp_ge (tgt := 119) dX3_init_90 (by decide) (by omega) (fun c_90 => ?_) (fun c_90 => absurd c_90 (by omega))
    refine X_vret dX3_init_119 rfl ?_
    exact ⟨rfl, rfl, nF_15 hJ hc, (rK_end (fun j hj => xR0_stz hc hj)).symm⟩
  | succ m ih =>
    intro i hi
    refine X_iload dX3_init_85 rfl ?_
    refine X_getsF dX3_init_86 rfl gs_X3_42 ?_
    refine X_alen dX3_init_89 sh_100 (Or.inr (Or.inl rfl)) ?_
    refine X_icmp_ge (tgt := 119) dX3_init_90 (by decide) (by omega) (fun c_90 => absurd c_90 (by omega)) (fun c_90 => ?_)
    refine X_iload dX3_init_93 rfl ?_
    refine X_aload dX3_init_94 rfl ?_
    refine X_getR dX3_init_95 rfl gf_X3_9 (sh_st hc) (by omega) rfl (show rK B c 10 c 0 = some (c + 1) by unfold rK; rw [if_neg (Nat.lt_irrefl c), if_neg (by omega)]; exact xR0_st hc (by omega)) ?_
    refine X_alen dX3_init_98 (sh_st0 hc) (Or.inl (by omega)) ?_
    refine X_icmp_ge (tgt := 119) dX3_init_99 (by decide) (by omega) (fun c_99 => absurd c_99 (by omega)) (fun c_99 => ?_)
    refine X_aload dX3_init_102 rfl ?_
    refine X_getR dX3_init_103 rfl gf_X3_9 (sh_st hc) (by omega) rfl (show rK B c 10 c 0 = some (c + 1) by unfold rK; rw [if_neg (Nat.lt_irrefl c), if_neg (by omega)]; exact xR0_st hc (by omega)) ?_
    refine X_iload dX3_init_106 rfl ?_
    refine X_getsF dX3_init_107 rfl gs_X3_42 ?_
    refine X_iload dX3_init_110 rfl ?_
    refine X_iald dX3_init_111 sh_100 (Or.inr (Or.inl rfl)) (by omega) ?_
    refine X_iast dX3_init_112 (sh_st0 hc) (by omega) (by omega) ?_
    rw [Int.toNat_natCast, nF_put hJ hc (by omega)]
    refine X_iinc dX3_init_113 rfl ?_
    refine X_goto (tgt := 85) dX3_init_116 (by decide) ?_
    exact ih (i + 1) (by omega)
set_option maxRecDepth 20000 in
set_option maxHeartbeats 4000000 in
theorem n_State {c : Nat} (hc : x_st c) {J : xI} (hJ : JJ J) (B : xR) : Sp kX3_init 2 10 218 [rr c] (c + 1) J (rK B c 0) (q_n (c + 11) J (rB B c)) := by
  have hlt := st_lt hc
  have hrow : ∀ q, c < q → q < c + 11 → q ≠ 0 ∧ q ≠ 34 ∧ q ≠ 35 ∧ q ≠ 80 ∧ q ≠ 83 ∧ q ≠ 88 ∧ ¬ x_st q := by
    intro q h1 h2
    unfold x_st at hc ⊢
    omega
  have hM : ∀ q, c + 1 < q → q < c + 11 → ∀ j, x_z J (c + 1) q j = 0 := by
    intro q h1 h2 j
    unfold x_z
    rw [if_neg (by omega), hJ.1 q (by omega) j]
    unfold x_st at hc
    exact iv_no (by omega)
  refine Sp_intro (by decide +kernel) (Nat.le_of_ble_eq_true rfl) ?_
  show X kX3_init 2 10 218 0 [some (rr c), none] [] (c + 1) J (rK B c 0) _
  refine X_aload dX3_init_0 rfl ?_
  refine X_objInit dX3_init_1 rfl lk_X3_3 (by decide) (Nat.le_of_ble_eq_true rfl) ?_
  refine X_aload dX3_init_4 rfl ?_
  refine X_bipush dX3_init_5 (by decide) ?_
  refine X_newI (n' := 23) (bc' := 9) (bs' := 195) dX3_init_7 rfl (sh_st0 hc) (by omega) rfl rfl ?_
  refine X_putF (I' := x_z J (c + 1)) (Rf' := rK B c 1) dX3_init_9 rfl rfl pf_X3_9 (sh_st hc) (by omega) rfl rfl rfl rfl (rK_put 1 (c + 1 + 0) (by omega) (by omega) (xR0_st hc (by omega)) (by omega) (xR0_no (hrow _ (by omega) (by omega)))) ?_
  show X kX3_init 2 9 195 12 [some (rr c), none] [] (c + 2) (x_z J (c + 1)) (rK B c 1) _
  refine X_aload dX3_init_12 rfl ?_
  refine X_iconst dX3_init_13 ?_
  refine X_newI (n' := 3) (bc' := 8) (bs' := 192) dX3_init_14 rfl (sh_st1 hc) (by omega) rfl rfl ?_
  refine X_putF (I' := x_z J (c + 1)) (Rf' := rK B c 2) dX3_init_16 rfl rfl pf_X3_15 (sh_st hc) (by omega) rfl rfl rfl (x_z_id (hM _ (by omega) (by omega))) (rK_put 2 (c + 1 + 1) (by omega) (by omega) (xR0_st hc (by omega)) (by omega) (xR0_no (hrow _ (by omega) (by omega)))) ?_
  show X kX3_init 2 8 192 19 [some (rr c), none] [] (c + 3) (x_z J (c + 1)) (rK B c 2) _
  refine X_aload dX3_init_19 rfl ?_
  refine X_bipush dX3_init_20 (by decide) ?_
  refine X_newI (n' := 24) (bc' := 7) (bs' := 168) dX3_init_22 rfl (sh_st2 hc) (by omega) rfl rfl ?_
  refine X_putF (I' := x_z J (c + 1)) (Rf' := rK B c 3) dX3_init_24 rfl rfl pf_X3_18 (sh_st hc) (by omega) rfl rfl rfl (x_z_id (hM _ (by omega) (by omega))) (rK_put 3 (c + 1 + 2) (by omega) (by omega) (xR0_st hc (by omega)) (by omega) (xR0_no (hrow _ (by omega) (by omega)))) ?_
  show X kX3_init 2 7 168 27 [some (rr c), none] [] (c + 4) (x_z J (c + 1)) (rK B c 3) _
  refine X_aload dX3_init_27 rfl ?_
  refine X_bipush dX3_init_28 (by decide) ?_
  refine X_newI (n' := 24) (bc' := 6) (bs' := 144) dX3_init_30 rfl (sh_st3 hc) (by omega) rfl rfl ?_
  refine X_putF (I' := x_z J (c + 1)) (Rf' := rK B c 4) dX3_init_32 rfl rfl pf_X3_21 (sh_st hc) (by omega) rfl rfl rfl (x_z_id (hM _ (by omega) (by omega))) (rK_put 4 (c + 1 + 3) (by omega) (by omega) (xR0_st hc (by omega)) (by omega) (xR0_no (hrow _ (by omega) (by omega)))) ?_
  show X kX3_init 2 6 144 35 [some (rr c), none] [] (c + 5) (x_z J (c + 1)) (rK B c 4) _
  refine X_aload dX3_init_35 rfl ?_
  refine X_bipush dX3_init_36 (by decide) ?_
  refine X_newI (n' := 24) (bc' := 5) (bs' := 120) dX3_init_38 rfl (sh_st4 hc) (by omega) rfl rfl ?_
  refine X_putF (I' := x_z J (c + 1)) (Rf' := rK B c 5) dX3_init_40 rfl rfl pf_X3_24 (sh_st hc) (by omega) rfl rfl rfl (x_z_id (hM _ (by omega) (by omega))) (rK_put 5 (c + 1 + 4) (by omega) (by omega) (xR0_st hc (by omega)) (by omega) (xR0_no (hrow _ (by omega) (by omega)))) ?_
  show X kX3_init 2 5 120 43 [some (rr c), none] [] (c + 6) (x_z J (c + 1)) (rK B c 5) _
  refine X_aload dX3_init_43 rfl ?_
  refine X_bipush dX3_init_44 (by decide) ?_
  refine X_newI (n' := 24) (bc' := 4) (bs' := 96) dX3_init_46 rfl (sh_st5 hc) (by omega) rfl rfl ?_
  refine X_putF (I' := x_z J (c + 1)) (Rf' := rK B c 6) dX3_init_48 rfl rfl pf_X3_27 (sh_st hc) (by omega) rfl rfl rfl (x_z_id (hM _ (by omega) (by omega))) (rK_put 6 (c + 1 + 5) (by omega) (by omega) (xR0_st hc (by omega)) (by omega) (xR0_no (hrow _ (by omega) (by omega)))) ?_
  show X kX3_init 2 4 96 51 [some (rr c), none] [] (c + 7) (x_z J (c + 1)) (rK B c 6) _
  refine X_aload dX3_init_51 rfl ?_
  refine X_bipush dX3_init_52 (by decide) ?_
  refine X_newI (n' := 24) (bc' := 3) (bs' := 72) dX3_init_54 rfl (sh_st6 hc) (by omega) rfl rfl ?_
  refine X_putF (I' := x_z J (c + 1)) (Rf' := rK B c 7) dX3_init_56 rfl rfl pf_X3_30 (sh_st hc) (by omega) rfl rfl rfl (x_z_id (hM _ (by omega) (by omega))) (rK_put 7 (c + 1 + 6) (by omega) (by omega) (xR0_st hc (by omega)) (by omega) (xR0_no (hrow _ (by omega) (by omega)))) ?_
  show X kX3_init 2 3 72 59 [some (rr c), none] [] (c + 8) (x_z J (c + 1)) (rK B c 7) _
  refine X_aload dX3_init_59 rfl ?_
  refine X_bipush dX3_init_60 (by decide) ?_
  refine X_newI (n' := 24) (bc' := 2) (bs' := 48) dX3_init_62 rfl (sh_st7 hc) (by omega) rfl rfl ?_
  refine X_putF (I' := x_z J (c + 1)) (Rf' := rK B c 8) dX3_init_64 rfl rfl pf_X3_33 (sh_st hc) (by omega) rfl rfl rfl (x_z_id (hM _ (by omega) (by omega))) (rK_put 8 (c + 1 + 7) (by omega) (by omega) (xR0_st hc (by omega)) (by omega) (xR0_no (hrow _ (by omega) (by omega)))) ?_
  show X kX3_init 2 2 48 67 [some (rr c), none] [] (c + 9) (x_z J (c + 1)) (rK B c 8) _
  refine X_aload dX3_init_67 rfl ?_
  refine X_bipush dX3_init_68 (by decide) ?_
  refine X_newI (n' := 24) (bc' := 1) (bs' := 24) dX3_init_70 rfl (sh_st8 hc) (by omega) rfl rfl ?_
  refine X_putF (I' := x_z J (c + 1)) (Rf' := rK B c 9) dX3_init_72 rfl rfl pf_X3_36 (sh_st hc) (by omega) rfl rfl rfl (x_z_id (hM _ (by omega) (by omega))) (rK_put 9 (c + 1 + 8) (by omega) (by omega) (xR0_st hc (by omega)) (by omega) (xR0_no (hrow _ (by omega) (by omega)))) ?_
  show X kX3_init 2 1 24 75 [some (rr c), none] [] (c + 10) (x_z J (c + 1)) (rK B c 9) _
  refine X_aload dX3_init_75 rfl ?_
  refine X_bipush dX3_init_76 (by decide) ?_
  refine X_newI (n' := 24) (bc' := 0) (bs' := 0) dX3_init_78 rfl (sh_st9 hc) (by omega) rfl rfl ?_
  refine X_putF (I' := x_z J (c + 1)) (Rf' := rK B c 10) dX3_init_80 rfl rfl pf_X3_39 (sh_st hc) (by omega) rfl rfl rfl (x_z_id (hM _ (by omega) (by omega))) (rK_put 10 (c + 1 + 9) (by omega) (by omega) (xR0_st hc (by omega)) (by omega) (xR0_no (hrow _ (by omega) (by omega)))) ?_
  show X kX3_init 2 0 0 83 [some (rr c), none] [] (c + 11) (x_z J (c + 1)) (rK B c 10) _
  refine X_iconst dX3_init_83 ?_
  refine X_istore dX3_init_84 (by decide) ?_
  rw [nF_0]
  exact n_State_loop hc hJ B 15 0 rfl
set_option maxRecDepth 20000 in
set_option maxHeartbeats 4000000 in
theorem n_Night {J : xI} (hJ : JJ J) (B : xR) : Sp kX1_init 1 2 48 [rr 80] 81 J (rK B 80 0) (q_n 83 J (rB B 80)) := by
  refine Sp_intro (by decide +kernel) (Nat.le_of_ble_eq_true rfl) ?_
  show X kX1_init 1 2 48 0 [some (rr 80)] [] 81 J (rK B 80 0) _
  refine X_aload dX1_init_0 rfl ?_
  refine X_objInit dX1_init_1 rfl lk_X1_3 (by decide) (Nat.le_of_ble_eq_true rfl) ?_
  refine X_aload dX1_init_4 rfl ?_
  refine X_bipush dX1_init_5 (by decide) ?_
  refine X_newI (n' := 24) (bc' := 1) (bs' := 24) dX1_init_7 rfl sh_81 (by omega) rfl rfl ?_
  refine X_putF (I' := J) (Rf' := rK B 80 1) dX1_init_9 rfl rfl pf_X1_9 sh_80 (by omega) rfl rfl rfl (x_z_id (fun j => (hJ.1 81 (by omega) j).trans (iv_no (by omega)))) (rK_put 1 81 (by omega) (by omega) rfl (by omega) (xR0_no (by unfold x_st; omega))) ?_
  show X kX1_init 1 1 24 12 [some (rr 80)] [] 82 J (rK B 80 1) _
  refine X_aload dX1_init_12 rfl ?_
  refine X_bipush dX1_init_13 (by decide) ?_
  refine X_newI (n' := 24) (bc' := 0) (bs' := 0) dX1_init_15 rfl sh_82 (by omega) rfl rfl ?_
  refine X_putF (I' := J) (Rf' := rK B 80 2) dX1_init_17 rfl rfl pf_X1_15 sh_80 (by omega) rfl rfl rfl (x_z_id (fun j => (hJ.1 82 (by omega) j).trans (iv_no (by omega)))) (rK_put 2 82 (by omega) (by omega) rfl (by omega) (xR0_no (by unfold x_st; omega))) ?_
  show X kX1_init 1 0 0 20 [some (rr 80)] [] 83 J (rK B 80 2) _
  refine X_vret dX1_init_20 rfl ?_
  exact ⟨rfl, rfl, rfl, (rK_end (c := 80) (k := 2) (fun j hj => (show (if j < 2 then some (81 + j) else none) = none by rw [if_neg (by omega)]))).symm⟩
set_option maxRecDepth 20000 in
set_option maxHeartbeats 4000000 in
theorem n_Orders {J : xI} (hJ : JJ J) (B : xR) : Sp kX2_init 1 4 150 [rr 83] 84 J (rK B 83 0) (q_n 88 J (rB B 83)) := by
  refine Sp_intro (by decide +kernel) (Nat.le_of_ble_eq_true rfl) ?_
  show X kX2_init 1 4 150 0 [some (rr 83)] [] 84 J (rK B 83 0) _
  refine X_aload dX2_init_0 rfl ?_
  refine X_objInit dX2_init_1 rfl lk_X2_3 (by decide) (Nat.le_of_ble_eq_true rfl) ?_
  refine X_aload dX2_init_4 rfl ?_
  refine X_bipush dX2_init_5 (by decide) ?_
  refine X_newI (n' := 60) (bc' := 3) (bs' := 90) dX2_init_7 rfl sh_84 (by omega) rfl rfl ?_
  refine X_putF (I' := J) (Rf' := rK B 83 2) dX2_init_9 rfl rfl pf_X2_9 sh_83 (by omega) rfl rfl rfl (x_z_id (fun j => (hJ.1 84 (by omega) j).trans (iv_no (by omega)))) (rK_put 2 84 (by omega) (by omega) rfl (by intro j h1 h2; rcases (show j = 1 by omega) with rfl <;> rfl) (xR0_no (by unfold x_st; omega))) ?_
  show X kX2_init 1 3 90 12 [some (rr 83)] [] 85 J (rK B 83 2) _
  refine X_aload dX2_init_12 rfl ?_
  refine X_iconst dX2_init_13 ?_
  refine X_putI dX2_init_14 rfl pf_X2_15 sh_83 (by omega) rfl (Or.inl rfl) ?_
  rw [x_up_id ((hJ.1 83 (by omega) 1).trans (iv_no (by omega)))]
  refine X_aload dX2_init_17 rfl ?_
  refine X_bipush dX2_init_18 (by decide) ?_
  refine X_newI (n' := 30) (bc' := 2) (bs' := 60) dX2_init_20 rfl sh_85 (by omega) rfl rfl ?_
  refine X_putF (I' := J) (Rf' := rK B 83 3) dX2_init_22 rfl rfl pf_X2_19 sh_83 (by omega) rfl rfl rfl (x_z_id (fun j => (hJ.1 85 (by omega) j).trans (iv_no (by omega)))) (rK_put 3 85 (by omega) (by omega) rfl (by omega) (xR0_no (by unfold x_st; omega))) ?_
  show X kX2_init 1 2 60 25 [some (rr 83)] [] 86 J (rK B 83 3) _
  refine X_aload dX2_init_25 rfl ?_
  refine X_bipush dX2_init_26 (by decide) ?_
  refine X_newI (n' := 30) (bc' := 1) (bs' := 30) dX2_init_28 rfl sh_86 (by omega) rfl rfl ?_
  refine X_putF (I' := J) (Rf' := rK B 83 4) dX2_init_30 rfl rfl pf_X2_22 sh_83 (by omega) rfl rfl rfl (x_z_id (fun j => (hJ.1 86 (by omega) j).trans (iv_no (by omega)))) (rK_put 4 86 (by omega) (by omega) rfl (by omega) (xR0_no (by unfold x_st; omega))) ?_
  show X kX2_init 1 1 30 33 [some (rr 83)] [] 87 J (rK B 83 4) _
  refine X_aload dX2_init_33 rfl ?_
  refine X_bipush dX2_init_34 (by decide) ?_
  refine X_newI (n' := 30) (bc' := 0) (bs' := 0) dX2_init_36 rfl sh_87 (by omega) rfl rfl ?_
  refine X_putF (I' := J) (Rf' := rK B 83 7) dX2_init_38 rfl rfl pf_X2_25 sh_83 (by omega) rfl rfl rfl (x_z_id (fun j => (hJ.1 87 (by omega) j).trans (iv_no (by omega)))) (rK_put 7 87 (by omega) (by omega) rfl (by intro j h1 h2; rcases (show j = 5 ∨ j = 6 by omega) with rfl | rfl <;> rfl) (xR0_no (by unfold x_st; omega))) ?_
  show X kX2_init 1 0 0 41 [some (rr 83)] [] 88 J (rK B 83 7) _
  refine X_aload dX2_init_41 rfl ?_
  refine X_iconst dX2_init_42 ?_
  refine X_putI dX2_init_43 rfl pf_X2_28 sh_83 (by omega) rfl (Or.inl rfl) ?_
  rw [x_up_id ((hJ.1 83 (by omega) 5).trans (iv_no (by omega)))]
  refine X_aload dX2_init_46 rfl ?_
  refine X_iconst dX2_init_47 ?_
  refine X_putI dX2_init_48 rfl pf_X2_31 sh_83 (by omega) rfl (Or.inl rfl) ?_
  rw [x_up_id ((hJ.1 83 (by omega) 6).trans (iv_no (by omega)))]
  refine X_vret dX2_init_51 rfl ?_
  exact ⟨rfl, rfl, rfl, (rK_end (c := 83) (k := 7) (fun j hj => (show [some 84, none, some 85, some 86, some 87].getD j none = none by rw [List.getD_eq_getElem?_getD, List.getElem?_eq_none (by simp; omega)]; rfl))).symm⟩
def rH (B : xR) (i : Nat) : xR := fun q j => if q < 34 then B q j else if q = 35 ∧ ¬ j < i then none else xR0 q j
theorem rH_far {B : xR} {i c : Nat} (h : 36 ≤ c) : ∀ q, c ≤ q → rH B i q = xR0 q := by
  intro q hq
  funext j
  unfold rH
  rw [if_neg (by omega), if_neg (by omega)]
theorem rH_put {B : xR} {i : Nat} (h : i < 4) : x_upR (rH B i) 35 i (some (hB i)) = rH B (i + 1) := by
  funext q j
  unfold x_upR rH
  by_cases e : q = 35
  · subst e
    by_cases e2 : j = i
    · subst e2
      rw [if_pos ⟨rfl, rfl⟩, if_neg (by decide), if_neg (by omega)]
      exact (rf_35 h).symm
    · rw [if_neg (by omega)]
      by_cases e3 : j < i
      · rw [if_neg (by decide), if_neg (by omega), if_neg (by decide), if_neg (by omega)]
      · rw [if_neg (by decide), if_pos ⟨rfl, e3⟩, if_neg (by decide), if_pos ⟨rfl, by omega⟩]
  · rw [if_neg (by omega)]
    by_cases e2 : q < 34
    · rw [if_pos e2, if_pos e2]
    · rw [if_neg e2, if_neg e2, if_neg (by omega), if_neg (by omega)]
theorem rH_end (B : xR) : rH B 4 = rB B 34 := by
  funext q j
  unfold rH rB
  by_cases e : q < 34
  · rw [if_pos e, if_pos e]
  · rw [if_neg e, if_neg e]
    by_cases e2 : q = 35 ∧ ¬ j < 4
    · rw [if_pos e2, e2.1]
      show none = if j < 4 then _ else none
      rw [if_neg e2.2]
    · rw [if_neg e2]
theorem rH_0 (B : xR) : rH B 0 = x_upR (x_zR (rK B 34 0) 35) 34 0 (some 35) := by
  funext q j
  unfold rH x_upR x_zR rK
  by_cases e : q = 34
  · subst e
    rw [if_neg (by decide), if_neg (by omega)]
    by_cases e2 : j = 0
    · subst e2
      rw [if_pos ⟨rfl, rfl⟩]
      rfl
    · rw [if_neg (by omega), if_neg (by decide), if_neg (by decide), if_pos ⟨rfl, Nat.not_lt_zero j⟩]
      show (if j = 0 then _ else none) = none
      rw [if_neg e2]
  · rw [if_neg (show ¬ (q = 34 ∧ j = 0) by omega)]
    by_cases e2 : q < 34
    · rw [if_pos e2, if_neg (show ¬ q = 35 by omega), if_pos e2]
    · rw [if_neg e2]
      by_cases e3 : q = 35
      · rw [if_pos ⟨e3, Nat.not_lt_zero j⟩, if_pos e3]
      · rw [if_neg (by omega), if_neg e3, if_neg e2, if_neg (by omega)]
set_option maxRecDepth 20000 in
set_option maxHeartbeats 4000000 in
theorem n_Hist_loop {J : xI} (hJ : JJ J) (B : xR) : ∀ m i : Nat, i + m = 4 → X kX0_init 3 (11 * m) (228 * m) 24 [some (rr 34), some (ii (i : Int))] [] (hB i) J (rH B i) (q_n 80 J (rB B 34)) := by
  intro m
  induction m with
  | zero =>
    intro i hi
    have e : i = 4 := by omega
    subst e
    refine X_iload dX0_init_24 rfl ?_
    refine X_aload dX0_init_25 rfl ?_
    refine X_getR dX0_init_26 rfl gf_X0_11 sh_34 (by unfold hB; omega) rfl rfl ?_
    refine X_alenR dX0_init_29 sh_35 (Or.inl (by unfold hB; omega)) ?_
    refine X_icmp_ge (tgt := 52) dX0_init_30 (by decide) (by omega) (fun c_30 => ?_) (fun c_30 => absurd c_30 (by omega))
    refine X_vret dX0_init_52 rfl ?_
    exact ⟨rfl, rfl, rfl, rH_end B⟩
  | succ m ih =>
    intro i hi
    have hst := hB_st (show i < 4 by omega)
    have e1 : hB (i + 1) = hB i + 11 := by unfold hB; omega
    have e0 : 36 ≤ hB i ∧ hB i ≤ 69 := by unfold hB; omega
    refine X_iload dX0_init_24 rfl ?_
    refine X_aload dX0_init_25 rfl ?_
    refine X_getR dX0_init_26 rfl gf_X0_11 sh_34 (by omega) rfl rfl ?_
    refine X_alenR dX0_init_29 sh_35 (Or.inl (by omega)) ?_
    refine X_icmp_ge (tgt := 52) dX0_init_30 (by decide) (by omega) (fun c_30 => absurd c_30 (by omega)) (fun c_30 => ?_)
    refine X_aload dX0_init_33 rfl ?_
    refine X_getR dX0_init_34 rfl gf_X0_11 sh_34 (by omega) rfl rfl ?_
    refine X_iload dX0_init_37 rfl ?_
    refine X_new (bc' := 11 * m + 10) (bs' := 228 * m + 218) tyX3 dX0_init_38 rfl (show vwCl[3]? = some (RX3, TX3, 10) from rfl) rfl inX3 tyX3_ok (xT_of (List.mem_append_right _ (List.mem_of_getElem? (i := 79) rfl)) rfl) (xT_of (List.mem_append_right _ (List.mem_of_getElem? (i := 18) rfl)) rfl) (xT_of (List.mem_append_right _ (List.mem_of_getElem? (i := 2) rfl)) rfl) (sh_st hst) (by omega) fsX3 (by omega) (by omega) ?_
    rw [← x_z_id (fun j => (hJ.1 _ (by omega) j).trans (iv_no (by unfold hB; omega))), zR_rK (rH_far e0.1)]
    refine X_dup dX0_init_41 ?_
    refine X_callC (as := []) (rest := [rr (hB i), ii (i : Int), rr 35]) dX0_init_42 rfl cc_X0_24 (n_State hst hJ (rH B i)) rfl rfl (by decide) (Nat.le_of_ble_eq_true rfl) (by omega) (by omega) (fun ro N1 I1 R1 h => ?_)
    obtain ⟨rfl, rfl, h3, h4⟩ := h
    rw [h3, h4, rB_id (rH_far e0.1), show 11 * m + 10 - 10 = 11 * m by omega, show 228 * m + 218 - 218 = 228 * m by omega, ← e1]
    refine X_aast (ci := 0) dX0_init_45 sh_35 (by omega) (by omega) (sh_st hst) (by omega) ?_
    rw [Int.toNat_natCast, rH_put (by omega)]
    refine X_iinc dX0_init_46 rfl ?_
    refine X_goto (tgt := 24) dX0_init_49 (by decide) ?_
    exact ih (i + 1) (by omega)
set_option maxRecDepth 20000 in
set_option maxHeartbeats 4000000 in
theorem n_Hist {J : xI} (hJ : JJ J) (B : xR) : Sp kX0_init 3 45 916 [rr 34] 35 J (rK B 34 0) (q_n 80 J (rB B 34)) := by
  refine Sp_intro (by decide +kernel) (Nat.le_of_ble_eq_true rfl) ?_
  show X kX0_init 3 45 916 0 [some (rr 34), none] [] 35 J (rK B 34 0) _
  refine X_aload dX0_init_0 rfl ?_
  refine X_objInit dX0_init_1 rfl lk_X0_3 (by decide) (Nat.le_of_ble_eq_true rfl) ?_
  refine X_aload dX0_init_4 rfl ?_
  refine X_iconst dX0_init_5 ?_
  refine X_newR (n' := 4) (bc' := 44) (bs' := 912) dX0_init_6 rfl (xT_of (List.mem_append_right _ (List.mem_of_getElem? (i := 79) rfl)) rfl) rfl sh_35 (by omega) rfl rfl ?_
  refine X_putF (I' := J) (Rf' := rH B 0) dX0_init_9 rfl rfl pf_X0_11 sh_34 (by omega) rfl rfl rfl (x_z_id (fun j => (hJ.1 35 (by omega) j).trans (iv_no (by omega)))) (rH_0 B) ?_
  show X kX0_init 3 44 912 12 [some (rr 34), none] [] 36 J (rH B 0) _
  refine X_aload dX0_init_12 rfl ?_
  refine X_iconst dX0_init_13 ?_
  refine X_putI dX0_init_14 rfl pf_X0_17 sh_34 (by omega) rfl (Or.inl rfl) ?_
  rw [x_up_id ((hJ.1 34 (by omega) 1).trans (iv_no (by omega)))]
  refine X_aload dX0_init_17 rfl ?_
  refine X_iconst dX0_init_18 ?_
  refine X_putI dX0_init_19 rfl pf_X0_21 sh_34 (by omega) rfl (Or.inl rfl) ?_
  rw [x_up_id ((hJ.1 34 (by omega) 2).trans (iv_no (by omega)))]
  refine X_iconst dX0_init_22 ?_
  refine X_istore dX0_init_23 (by decide) ?_
  exact n_Hist_loop hJ B 4 0 rfl
set_option maxRecDepth 20000 in
set_option maxHeartbeats 4000000 in
theorem n_Shelves {J : xI} (hJ : JJ J) (B : xR) : Sp kX4_init 4 87 1810 [rr 0] 1 J (rK B 0 0) (q_n 88 J (rB B 0)) := by
  refine Sp_intro (by decide +kernel) (Nat.le_of_ble_eq_true rfl) ?_
  show X kX4_init 4 87 1810 0 [some (rr 0)] [] 1 J (rK B 0 0) _
  refine X_aload dX4_init_0 rfl ?_
  refine X_objInit dX4_init_1 rfl lk_X4_1 (by decide) (Nat.le_of_ble_eq_true rfl) ?_
  refine X_aload dX4_init_4 rfl ?_
  refine X_new (bc' := 86) (bs' := 1800) tyX3 dX4_init_5 rfl (show vwCl[3]? = some (RX3, TX3, 10) from rfl) rfl inX3 tyX3_ok (xT_of (List.mem_append_right _ (List.mem_of_getElem? (i := 17) rfl)) rfl) (xT_of (List.mem_append_right _ (List.mem_of_getElem? (i := 18) rfl)) rfl) (xT_of (List.mem_append_right _ (List.mem_of_getElem? (i := 2) rfl)) rfl) rfl (by omega) fsX3 rfl rfl ?_
  rw [← x_z_id (fun j => (hJ.1 1 (by omega) j).trans (iv_no (by omega))), zR_rK (rK_far (by omega))]
  refine X_dup dX4_init_8 ?_
  refine X_callC (as := []) (rest := [rr 1, rr 0]) dX4_init_9 rfl cc_X4_9 (n_State (show x_st 1 by unfold x_st; omega) hJ (rK B 0 0)) rfl rfl (by decide) (by decide) (by decide) (by decide) (fun ro N1 I1 R1 h => ?_)
  obtain ⟨rfl, rfl, h3, h4⟩ := h
  rw [h3, h4, rB_id (rK_far (by omega))]
  refine X_putF (I' := J) (Rf' := rK B 0 1) dX4_init_12 rfl rfl pf_X4_10 sh_0 (by omega) rfl rfl rfl rfl (rK_put2 1 1 (by omega) rfl (by omega)) ?_
  show X kX4_init 4 76 1582 15 [some (rr 0)] [] 12 J (rK B 0 1) _
  refine X_aload dX4_init_15 rfl ?_
  refine X_new (bc' := 75) (bs' := 1572) tyX3 dX4_init_16 rfl (show vwCl[3]? = some (RX3, TX3, 10) from rfl) rfl inX3 tyX3_ok (xT_of (List.mem_append_right _ (List.mem_of_getElem? (i := 17) rfl)) rfl) (xT_of (List.mem_append_right _ (List.mem_of_getElem? (i := 18) rfl)) rfl) (xT_of (List.mem_append_right _ (List.mem_of_getElem? (i := 2) rfl)) rfl) rfl (by omega) fsX3 rfl rfl ?_
  rw [← x_z_id (fun j => (hJ.1 12 (by omega) j).trans (iv_no (by omega))), zR_rK (rK_far (by omega))]
  refine X_dup dX4_init_19 ?_
  refine X_callC (as := []) (rest := [rr 12, rr 0]) dX4_init_20 rfl cc_X4_9 (n_State (show x_st 12 by unfold x_st; omega) hJ (rK B 0 1)) rfl rfl (by decide) (by decide) (by decide) (by decide) (fun ro N1 I1 R1 h => ?_)
  obtain ⟨rfl, rfl, h3, h4⟩ := h
  rw [h3, h4, rB_id (rK_far (by omega))]
  refine X_putF (I' := J) (Rf' := rK B 0 2) dX4_init_23 rfl rfl pf_X4_16 sh_0 (by omega) rfl rfl rfl rfl (rK_put2 2 12 (by omega) rfl (by omega)) ?_
  show X kX4_init 4 65 1354 26 [some (rr 0)] [] 23 J (rK B 0 2) _
  refine X_aload dX4_init_26 rfl ?_
  refine X_new (bc' := 64) (bs' := 1344) tyX3 dX4_init_27 rfl (show vwCl[3]? = some (RX3, TX3, 10) from rfl) rfl inX3 tyX3_ok (xT_of (List.mem_append_right _ (List.mem_of_getElem? (i := 17) rfl)) rfl) (xT_of (List.mem_append_right _ (List.mem_of_getElem? (i := 18) rfl)) rfl) (xT_of (List.mem_append_right _ (List.mem_of_getElem? (i := 2) rfl)) rfl) rfl (by omega) fsX3 rfl rfl ?_
  rw [← x_z_id (fun j => (hJ.1 23 (by omega) j).trans (iv_no (by omega))), zR_rK (rK_far (by omega))]
  refine X_dup dX4_init_30 ?_
  refine X_callC (as := []) (rest := [rr 23, rr 0]) dX4_init_31 rfl cc_X4_9 (n_State (show x_st 23 by unfold x_st; omega) hJ (rK B 0 2)) rfl rfl (by decide) (by decide) (by decide) (by decide) (fun ro N1 I1 R1 h => ?_)
  obtain ⟨rfl, rfl, h3, h4⟩ := h
  rw [h3, h4, rB_id (rK_far (by omega))]
  refine X_putF (I' := J) (Rf' := rK B 0 4) dX4_init_34 rfl rfl pf_X4_19 sh_0 (by omega) rfl rfl rfl rfl (rK_put2 4 23 (by omega) rfl (by intro j h1 h2; rcases (show j = 3 by omega) with rfl <;> rfl)) ?_
  show X kX4_init 4 54 1126 37 [some (rr 0)] [] 34 J (rK B 0 4) _
  refine X_aload dX4_init_37 rfl ?_
  refine X_iconst dX4_init_38 ?_
  refine X_putI dX4_init_39 rfl pf_X4_22 sh_0 (by omega) rfl (Or.inr ⟨rfl, Or.inl rfl⟩) ?_
  rw [x_up_id ((hJ.1 0 (by omega) 3).trans (iv_no (by omega)))]
  refine X_aload dX4_init_42 rfl ?_
  refine X_new (bc' := 53) (bs' := 1123) tyX0 dX4_init_43 rfl (show vwCl[0]? = some (RX0, TX0, 3) from rfl) rfl inX0 tyX0_ok (xT_of (List.mem_append_right _ (List.mem_of_getElem? (i := 73) rfl)) rfl) (xT_of (List.mem_append_right _ (List.mem_of_getElem? (i := 74) rfl)) rfl) (xT_of (List.mem_append_right _ (List.mem_of_getElem? (i := 3) rfl)) rfl) rfl (by omega) fsX0 rfl rfl ?_
  rw [← x_z_id (fun j => (hJ.1 34 (by omega) j).trans (iv_no (by omega))), zR_rK (rK_far (by omega))]
  refine X_dup dX4_init_46 ?_
  refine X_callC (as := []) (rest := [rr 34, rr 0]) dX4_init_47 rfl cc_X4_28 (n_Hist hJ (rK B 0 4)) rfl rfl (by decide) (by decide) (by decide) (by decide) (fun ro N1 I1 R1 h => ?_)
  obtain ⟨rfl, rfl, h3, h4⟩ := h
  rw [h3, h4, rB_id (rK_far (by omega))]
  refine X_putF (I' := J) (Rf' := rK B 0 5) dX4_init_50 rfl rfl pf_X4_29 sh_0 (by omega) rfl rfl rfl rfl (rK_put2 5 34 (by omega) rfl (by omega)) ?_
  show X kX4_init 4 8 207 53 [some (rr 0)] [] 80 J (rK B 0 5) _
  refine X_aload dX4_init_53 rfl ?_
  refine X_new (bc' := 7) (bs' := 205) tyX1 dX4_init_54 rfl (show vwCl[1]? = some (RX1, TX1, 2) from rfl) rfl inX1 tyX1_ok (xT_of (List.mem_append_right _ (List.mem_of_getElem? (i := 93) rfl)) rfl) (xT_of (List.mem_append_right _ (List.mem_of_getElem? (i := 94) rfl)) rfl) (xT_of (List.mem_append_right _ (List.mem_of_getElem? (i := 4) rfl)) rfl) rfl (by omega) fsX1 rfl rfl ?_
  rw [← x_z_id (fun j => (hJ.1 80 (by omega) j).trans (iv_no (by omega))), zR_rK (rK_far (by omega))]
  refine X_dup dX4_init_57 ?_
  refine X_callC (as := []) (rest := [rr 80, rr 0]) dX4_init_58 rfl cc_X4_35 (n_Night hJ (rK B 0 5)) rfl rfl (by decide) (by decide) (by decide) (by decide) (fun ro N1 I1 R1 h => ?_)
  obtain ⟨rfl, rfl, h3, h4⟩ := h
  rw [h3, h4, rB_id (rK_far (by omega))]
  refine X_putF (I' := J) (Rf' := rK B 0 6) dX4_init_61 rfl rfl pf_X4_36 sh_0 (by omega) rfl rfl rfl rfl (rK_put2 6 80 (by omega) rfl (by omega)) ?_
  show X kX4_init 4 5 157 64 [some (rr 0)] [] 83 J (rK B 0 6) _
  refine X_aload dX4_init_64 rfl ?_
  refine X_new (bc' := 4) (bs' := 150) tyX2 dX4_init_65 rfl (show vwCl[2]? = some (RX2, TX2, 7) from rfl) rfl inX2 tyX2_ok (xT_of (List.mem_append_right _ (List.mem_of_getElem? (i := 107) rfl)) rfl) (xT_of (List.mem_append_right _ (List.mem_of_getElem? (i := 108) rfl)) rfl) (xT_of (List.mem_append_right _ (List.mem_of_getElem? (i := 5) rfl)) rfl) rfl (by omega) fsX2 rfl rfl ?_
  rw [← x_z_id (fun j => (hJ.1 83 (by omega) j).trans (iv_no (by omega))), zR_rK (rK_far (by omega))]
  refine X_dup dX4_init_68 ?_
  refine X_callC (as := []) (rest := [rr 83, rr 0]) dX4_init_69 rfl cc_X4_42 (n_Orders hJ (rK B 0 6)) rfl rfl (by decide) (by decide) (by decide) (by decide) (fun ro N1 I1 R1 h => ?_)
  obtain ⟨rfl, rfl, h3, h4⟩ := h
  rw [h3, h4, rB_id (rK_far (by omega))]
  refine X_putF (I' := J) (Rf' := rK B 0 7) dX4_init_72 rfl rfl pf_X4_43 sh_0 (by omega) rfl rfl rfl rfl (rK_put2 7 83 (by omega) rfl (by omega)) ?_
  show X kX4_init 4 0 0 75 [some (rr 0)] [] 88 J (rK B 0 7) _
  refine X_vret dX4_init_75 rfl ?_
  exact ⟨rfl, rfl, rfl, (rK_end (c := 0) (k := 7) (fun j hj => (show [some 1, some 12, some 23, none, some 34, some 80, some 83].getD j none = none by rw [List.getD_eq_getElem?_getD, List.getElem?_eq_none (by simp; omega)]; rfl))).symm⟩
/-- the first k numbers of the model's row are laid -/
def sF (J : xI) (k : Nat) : xI := fun q j => if q = 89 ∧ k ≤ j then 0 else J q j
theorem iv_89 (j : Nat) : iv 89 j = fv j := if_pos (by omega)
theorem sF_put {J : xI} (hJ : JJ J) {k : Nat} (k' : Nat) {z : Int} (hk : k < k') (hz : fv k = z) (hm : ∀ j, k < j → j < k' → fv j = 0) : x_up (sF J k) 89 k z = sF J k' := by
  funext q j
  unfold x_up sF
  by_cases e : q = 89
  · subst e
    by_cases e2 : j = k
    · subst e2
      rw [if_pos ⟨rfl, rfl⟩, if_neg (by omega), hJ.1 89 (by omega), iv_89]
      exact hz.symm
    · rw [if_neg (by omega)]
      by_cases e3 : k ≤ j
      · rw [if_pos ⟨rfl, e3⟩]
        by_cases e4 : k' ≤ j
        · rw [if_pos ⟨rfl, e4⟩]
        · rw [if_neg (by omega), hJ.1 89 (by omega), iv_89]
          exact (hm j (by omega) (by omega)).symm
      · rw [if_neg (by omega), if_neg (by omega)]
  · rw [if_neg (by omega), if_neg (by omega), if_neg (by omega)]
theorem sF_0 (J : xI) : sF J 0 = x_z J 89 := by
  funext q j
  unfold sF x_z
  by_cases e : q = 89
  · rw [if_pos ⟨e, Nat.zero_le j⟩, if_pos e]
  · rw [if_neg (by omega), if_neg e]
theorem sF_15 {J : xI} (hJ : JJ J) : sF J 15 = J := by
  funext q j
  unfold sF
  by_cases e : q = 89 ∧ 15 ≤ j
  · rw [if_pos e, e.1, hJ.1 89 (by omega), iv_89]
    exact (fv_far e.2).symm
  · rw [if_neg e]
theorem sF_z {J : xI} (hJ : JJ J) {q : Nat} (h : 89 < q ∧ q < 94) (j : Nat) : sF J 0 q j = 0 := by
  unfold sF
  rw [if_neg (by omega), hJ.1 q (by omega)]
  exact iv_no (by omega)
set_option maxRecDepth 20000 in
set_option maxHeartbeats 4000000 in
theorem n_Model {J : xI} (hJ : JJ J) (B : xR) : Sp kX5_init 1 5 1589 [rr 88] 89 J (rK B 88 0) (q_n 94 J (rB B 88)) := by
  refine Sp_intro (by decide +kernel) (Nat.le_of_ble_eq_true rfl) ?_
  show X kX5_init 1 5 1589 0 [some (rr 88)] [] 89 J (rK B 88 0) _
  refine X_aload dX5_init_0 rfl ?_
  refine X_objInit dX5_init_1 rfl lk_X5_1 (by decide) (Nat.le_of_ble_eq_true rfl) ?_
  refine X_aload dX5_init_4 rfl ?_
  refine X_sipush dX5_init_5 (by decide) ?_
  refine X_newI (n' := 430) (bc' := 4) (bs' := 1159) dX5_init_8 rfl sh_89 (by omega) rfl rfl ?_
  refine X_putF (I' := sF J 0) (Rf' := rK B 88 1) dX5_init_10 rfl rfl pf_X5_7 sh_88 (by omega) rfl rfl rfl (sF_0 J) (rK_put 1 89 (by omega) (by omega) rfl (by omega) (xR0_no (by unfold x_st; omega))) ?_
  show X kX5_init 1 4 1159 13 [some (rr 88)] [] 90 (sF J 0) (rK B 88 1) _
  refine X_aload dX5_init_13 rfl ?_
  refine X_sipush dX5_init_14 (by decide) ?_
  refine X_newI (n' := 860) (bc' := 3) (bs' := 299) dX5_init_17 rfl sh_90 (by omega) rfl rfl ?_
  refine X_putF (I' := sF J 0) (Rf' := rK B 88 3) dX5_init_19 rfl rfl pf_X5_13 sh_88 (by omega) rfl rfl rfl (x_z_id (sF_z hJ (by omega))) (rK_put 3 90 (by omega) (by omega) rfl (by intro j h1 h2; rcases (show j = 2 by omega) with rfl <;> rfl) (xR0_no (by unfold x_st; omega))) ?_
  show X kX5_init 1 3 299 22 [some (rr 88)] [] 91 (sF J 0) (rK B 88 3) _
  refine X_aload dX5_init_22 rfl ?_
  refine X_sipush dX5_init_23 (by decide) ?_
  refine X_newI (n' := 215) (bc' := 2) (bs' := 84) dX5_init_26 rfl sh_91 (by omega) rfl rfl ?_
  refine X_putF (I' := sF J 0) (Rf' := rK B 88 5) dX5_init_28 rfl rfl pf_X5_16 sh_88 (by omega) rfl rfl rfl (x_z_id (sF_z hJ (by omega))) (rK_put 5 91 (by omega) (by omega) rfl (by intro j h1 h2; rcases (show j = 4 by omega) with rfl <;> rfl) (xR0_no (by unfold x_st; omega))) ?_
  show X kX5_init 1 2 84 31 [some (rr 88)] [] 92 (sF J 0) (rK B 88 5) _
  refine X_aload dX5_init_31 rfl ?_
  refine X_bipush dX5_init_32 (by decide) ?_
  refine X_newI (n' := 60) (bc' := 1) (bs' := 24) dX5_init_34 rfl sh_92 (by omega) rfl rfl ?_
  refine X_putF (I' := sF J 0) (Rf' := rK B 88 7) dX5_init_36 rfl rfl pf_X5_19 sh_88 (by omega) rfl rfl rfl (x_z_id (sF_z hJ (by omega))) (rK_put 7 92 (by omega) (by omega) rfl (by intro j h1 h2; rcases (show j = 6 by omega) with rfl <;> rfl) (xR0_no (by unfold x_st; omega))) ?_
  show X kX5_init 1 1 24 39 [some (rr 88)] [] 93 (sF J 0) (rK B 88 7) _
  refine X_aload dX5_init_39 rfl ?_
  refine X_bipush dX5_init_40 (by decide) ?_
  refine X_newI (n' := 24) (bc' := 0) (bs' := 0) dX5_init_42 rfl sh_93 (by omega) rfl rfl ?_
  refine X_putF (I' := sF J 0) (Rf' := rK B 88 8) dX5_init_44 rfl rfl pf_X5_22 sh_88 (by omega) rfl rfl rfl (x_z_id (sF_z hJ (by omega))) (rK_put 8 93 (by omega) (by omega) rfl (by omega) (xR0_no (by unfold x_st; omega))) ?_
  show X kX5_init 1 0 0 47 [some (rr 88)] [] 94 (sF J 0) (rK B 88 8) _
  refine X_aload dX5_init_47 rfl ?_
  refine X_getR dX5_init_48 rfl gf_X5_7 sh_88 (by omega) rfl rfl ?_
  refine X_iconst dX5_init_51 ?_
  refine X_bipush dX5_init_52 (by decide) ?_
  refine X_iast dX5_init_54 sh_89 (by omega) (by omega) ?_
  show X kX5_init 1 0 0 55 [some (rr 88)] [] 94 (x_up (sF J 0) 89 0 80) (rK B 88 8) _
  rw [show x_up (sF J 0) 89 0 80 = sF J 1 from sF_put hJ 1 (by omega) rfl (by omega)]
  refine X_aload dX5_init_55 rfl ?_
  refine X_getR dX5_init_56 rfl gf_X5_7 sh_88 (by omega) rfl rfl ?_
  refine X_iconst dX5_init_59 ?_
  refine X_sipush dX5_init_60 (by decide) ?_
  refine X_iast dX5_init_63 sh_89 (by omega) (by omega) ?_
  show X kX5_init 1 0 0 64 [some (rr 88)] [] 94 (x_up (sF J 1) 89 1 3000) (rK B 88 8) _
  rw [show x_up (sF J 1) 89 1 3000 = sF J 2 from sF_put hJ 2 (by omega) rfl (by omega)]
  refine X_aload dX5_init_64 rfl ?_
  refine X_getR dX5_init_65 rfl gf_X5_7 sh_88 (by omega) rfl rfl ?_
  refine X_iconst dX5_init_68 ?_
  refine X_sipush dX5_init_69 (by decide) ?_
  refine X_iast dX5_init_72 sh_89 (by omega) (by omega) ?_
  show X kX5_init 1 0 0 73 [some (rr 88)] [] 94 (x_up (sF J 2) 89 2 500) (rK B 88 8) _
  rw [show x_up (sF J 2) 89 2 500 = sF J 3 from sF_put hJ 3 (by omega) rfl (by omega)]
  refine X_aload dX5_init_73 rfl ?_
  refine X_getR dX5_init_74 rfl gf_X5_7 sh_88 (by omega) rfl rfl ?_
  refine X_iconst dX5_init_77 ?_
  refine X_iconst dX5_init_78 ?_
  refine X_iast dX5_init_79 sh_89 (by omega) (by omega) ?_
  show X kX5_init 1 0 0 80 [some (rr 88)] [] 94 (x_up (sF J 3) 89 3 4) (rK B 88 8) _
  rw [show x_up (sF J 3) 89 3 4 = sF J 4 from sF_put hJ 4 (by omega) rfl (by omega)]
  refine X_aload dX5_init_80 rfl ?_
  refine X_getR dX5_init_81 rfl gf_X5_7 sh_88 (by omega) rfl rfl ?_
  refine X_iconst dX5_init_84 ?_
  refine X_iconst dX5_init_85 ?_
  refine X_iast dX5_init_86 sh_89 (by omega) (by omega) ?_
  show X kX5_init 1 0 0 87 [some (rr 88)] [] 94 (x_up (sF J 4) 89 4 5) (rK B 88 8) _
  rw [show x_up (sF J 4) 89 4 5 = sF J 5 from sF_put hJ 5 (by omega) rfl (by omega)]
  refine X_aload dX5_init_87 rfl ?_
  refine X_getR dX5_init_88 rfl gf_X5_7 sh_88 (by omega) rfl rfl ?_
  refine X_iconst dX5_init_91 ?_
  refine X_iconst dX5_init_92 ?_
  refine X_iast dX5_init_93 sh_89 (by omega) (by omega) ?_
  show X kX5_init 1 0 0 94 [some (rr 88)] [] 94 (x_up (sF J 5) 89 5 2) (rK B 88 8) _
  rw [show x_up (sF J 5) 89 5 2 = sF J 6 from sF_put hJ 6 (by omega) rfl (by omega)]
  refine X_aload dX5_init_94 rfl ?_
  refine X_getR dX5_init_95 rfl gf_X5_7 sh_88 (by omega) rfl rfl ?_
  refine X_bipush dX5_init_98 (by decide) ?_
  refine X_bipush dX5_init_100 (by decide) ?_
  refine X_iast dX5_init_102 sh_89 (by omega) (by omega) ?_
  show X kX5_init 1 0 0 103 [some (rr 88)] [] 94 (x_up (sF J 6) 89 6 20) (rK B 88 8) _
  rw [show x_up (sF J 6) 89 6 20 = sF J 7 from sF_put hJ 7 (by omega) rfl (by omega)]
  refine X_aload dX5_init_103 rfl ?_
  refine X_getR dX5_init_104 rfl gf_X5_7 sh_88 (by omega) rfl rfl ?_
  refine X_bipush dX5_init_107 (by decide) ?_
  refine X_bipush dX5_init_109 (by decide) ?_
  refine X_iast dX5_init_111 sh_89 (by omega) (by omega) ?_
  show X kX5_init 1 0 0 112 [some (rr 88)] [] 94 (x_up (sF J 7) 89 7 40) (rK B 88 8) _
  rw [show x_up (sF J 7) 89 7 40 = sF J 8 from sF_put hJ 8 (by omega) rfl (by omega)]
  refine X_aload dX5_init_112 rfl ?_
  refine X_getR dX5_init_113 rfl gf_X5_7 sh_88 (by omega) rfl rfl ?_
  refine X_bipush dX5_init_116 (by decide) ?_
  refine X_sipush dX5_init_118 (by decide) ?_
  refine X_iast dX5_init_121 sh_89 (by omega) (by omega) ?_
  show X kX5_init 1 0 0 122 [some (rr 88)] [] 94 (x_up (sF J 8) 89 8 200) (rK B 88 8) _
  rw [show x_up (sF J 8) 89 8 200 = sF J 9 from sF_put hJ 9 (by omega) rfl (by omega)]
  refine X_aload dX5_init_122 rfl ?_
  refine X_getR dX5_init_123 rfl gf_X5_7 sh_88 (by omega) rfl rfl ?_
  refine X_bipush dX5_init_126 (by decide) ?_
  refine X_bipush dX5_init_128 (by decide) ?_
  refine X_iast dX5_init_130 sh_89 (by omega) (by omega) ?_
  show X kX5_init 1 0 0 131 [some (rr 88)] [] 94 (x_up (sF J 9) 89 9 10) (rK B 88 8) _
  rw [show x_up (sF J 9) 89 9 10 = sF J 10 from sF_put hJ 10 (by omega) rfl (by omega)]
  refine X_aload dX5_init_131 rfl ?_
  refine X_getR dX5_init_132 rfl gf_X5_7 sh_88 (by omega) rfl rfl ?_
  refine X_bipush dX5_init_135 (by decide) ?_
  refine X_iconst dX5_init_137 ?_
  refine X_iast dX5_init_138 sh_89 (by omega) (by omega) ?_
  show X kX5_init 1 0 0 139 [some (rr 88)] [] 94 (x_up (sF J 10) 89 10 4) (rK B 88 8) _
  rw [show x_up (sF J 10) 89 10 4 = sF J 11 from sF_put hJ 11 (by omega) rfl (by omega)]
  refine X_aload dX5_init_139 rfl ?_
  refine X_getR dX5_init_140 rfl gf_X5_7 sh_88 (by omega) rfl rfl ?_
  refine X_bipush dX5_init_143 (by decide) ?_
  refine X_iconst dX5_init_145 ?_
  refine X_iast dX5_init_146 sh_89 (by omega) (by omega) ?_
  show X kX5_init 1 0 0 147 [some (rr 88)] [] 94 (x_up (sF J 11) 89 11 1) (rK B 88 8) _
  rw [show x_up (sF J 11) 89 11 1 = sF J 13 from sF_put hJ 13 (by omega) rfl (by intro j h1 h2; rcases (show j = 12 by omega) with rfl <;> rfl)]
  refine X_aload dX5_init_147 rfl ?_
  refine X_getR dX5_init_148 rfl gf_X5_7 sh_88 (by omega) rfl rfl ?_
  refine X_bipush dX5_init_151 (by decide) ?_
  refine X_iconst dX5_init_153 ?_
  refine X_iast dX5_init_154 sh_89 (by omega) (by omega) ?_
  show X kX5_init 1 0 0 155 [some (rr 88)] [] 94 (x_up (sF J 13) 89 13 2) (rK B 88 8) _
  rw [show x_up (sF J 13) 89 13 2 = sF J 14 from sF_put hJ 14 (by omega) rfl (by omega)]
  refine X_aload dX5_init_155 rfl ?_
  refine X_getR dX5_init_156 rfl gf_X5_7 sh_88 (by omega) rfl rfl ?_
  refine X_bipush dX5_init_159 (by decide) ?_
  refine X_bipush dX5_init_161 (by decide) ?_
  refine X_iast dX5_init_163 sh_89 (by omega) (by omega) ?_
  show X kX5_init 1 0 0 164 [some (rr 88)] [] 94 (x_up (sF J 14) 89 14 9) (rK B 88 8) _
  rw [show x_up (sF J 14) 89 14 9 = sF J 15 from sF_put hJ 15 (by omega) rfl (by omega)]
  refine X_vret dX5_init_164 rfl ?_
  exact ⟨rfl, rfl, sF_15 hJ, (rK_end (c := 88) (k := 8) (fun j hj => (show [some 89, some 90, none, some 91, none, some 92, none, some 93].getD j none = none by rw [List.getD_eq_getElem?_getD, List.getElem?_eq_none (by simp; omega)]; rfl))).symm⟩
