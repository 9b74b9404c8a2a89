/-! the text and its orders -/
def sg (tx : Nat → Int) (len i : Nat) : Int := if i < len then tx i else -1
def dgt (tx : Nat → Int) (len i : Nat) : Int := if 48 ≤ sg tx len i ∧ sg tx len i ≤ 57 then sg tx len i - 48 else -1
def TB (tx : Nat → Int) (len : Nat) : Prop := len ≤ 60 ∧ ∀ j, j < len → 0 ≤ tx j ∧ tx j ≤ 65535
theorem sg_bounds {tx : Nat → Int} {len : Nat} (h : TB tx len) (i : Nat) : -1 ≤ sg tx len i ∧ sg tx len i ≤ 65535 := by
  unfold sg
  split
  · have := h.2 i (by omega); omega
  · omega
theorem dgt_bounds (tx : Nat → Int) (len i : Nat) : -1 ≤ dgt tx len i ∧ dgt tx len i ≤ 9 := by unfold dgt; split <;> omega
theorem dgt_lt {tx : Nat → Int} {len i : Nat} (h : 0 ≤ dgt tx len i) : i < len := by
  unfold dgt at h
  split at h
  · rename_i h1
    unfold sg at h1
    split at h1
    · assumption
    · omega
  · omega
theorem sg_lt {tx : Nat → Int} {len i : Nat} (h : sg tx len i ≠ -1) : i < len := by
  unfold sg at h
  split at h
  · assumption
  · exact absurd rfl h
def nmF (tx : Nat → Int) (len : Nat) (most : Int) : Nat → Int → Nat → Int × Nat
  | 0, v, e => (v, e)
  | f + 1, v, e => if 0 < v ∧ 0 ≤ dgt tx len e ∧ v * 10 + dgt tx len e ≤ most then nmF tx len most f (v * 10 + dgt tx len e) (e + 1) else (v, e)
def num (tx : Nat → Int) (len : Nat) (least most : Int) (p : Nat) : Option (Int × Nat) := if dgt tx len p < least then none else some (nmF tx len most 60 (dgt tx len p) (p + 1))
theorem nmF_ok {tx : Nat → Int} {len : Nat} {most : Int} : ∀ (f : Nat) (v : Int) (e : Nat), 0 ≤ v → v ≤ most → e ≤ len → v ≤ (nmF tx len most f v e).1 ∧ (nmF tx len most f v e).1 ≤ most ∧ e ≤ (nmF tx len most f v e).2 ∧ (nmF tx len most f v e).2 ≤ len
  | 0, v, e, h1, h2, h3 => ⟨Int.le_refl v, h2, Nat.le_refl e, h3⟩
  | f + 1, v, e, h1, h2, h3 => by
    unfold nmF
    split
    · rename_i h
      have hl := dgt_lt h.2.1
      have hb := dgt_bounds tx len e
      have := nmF_ok (tx := tx) (len := len) (most := most) f (v * 10 + dgt tx len e) (e + 1) (by omega) h.2.2 (by omega)
      omega
    · exact ⟨Int.le_refl v, h2, Nat.le_refl e, h3⟩
abbrev xO : Type := Int × Int × Int
def kd (k : Int) : Bool := decide (k = 43) || decide (k = 45) || decide (k = 114) || decide (k = 112) || decide (k = 110)
def lsO (k : Int) : Int := if k = 43 ∨ k = 110 then 1 else 0
def grO (k : Int) : Int := if k = 43 then 9 else if k = 110 then 99 else 999
/-- the order that begins at a place, and where it ends; or where its fault is -/
def od (tx : Nat → Int) (len p : Nat) : Option xO × Nat :=
  if kd (sg tx len p) = true then
    match num tx len (lsO (sg tx len p)) (grO (sg tx len p)) (p + 1) with
    | none => (none, p + 1)
    | some (v, e) => if sg tx len p = 114 ∧ sg tx len e = 42 then
        (match num tx len 1 99 (e + 1) with
        | none => (none, e + 1)
        | some (t, e2) => (some (sg tx len p, v, t), e2))
      else (some (sg tx len p, v, 1), e)
  else (none, p)
def rA (tx : Nat → Int) (len : Nat) : Nat → Nat → Int × List xO
  | 0, p => (p, [])
  | f + 1, p => match od tx len p with
    | (none, e) => (e, [])
    | (some o, e) => if len ≤ e then (-1, [o]) else if sg tx len e = 44 then ((rA tx len f (e + 1)).1, o :: (rA tx len f (e + 1)).2) else (e, [o])
theorem num_ok {tx : Nat → Int} {len : Nat} {least most : Int} {p : Nat} (hm : 9 ≤ most) {v : Int} {e : Nat} (hl : 0 ≤ least) (h : num tx len least most p = some (v, e)) : least ≤ v ∧ v ≤ most ∧ p + 1 ≤ e ∧ e ≤ len := by
  unfold num at h
  split at h
  · cases h
  · rename_i h1
    have hb := dgt_bounds tx len p
    have hlt := dgt_lt (tx := tx) (len := len) (i := p) (by omega)
    have := nmF_ok (tx := tx) (len := len) (most := most) 60 (dgt tx len p) (p + 1) (by omega) (by omega) (by omega)
    rw [Option.some.inj h] at this
    dsimp only at this
    omega
def okO (o : xO) : Prop := (o.1 = 43 ∧ 1 ≤ o.2.1 ∧ o.2.1 ≤ 9) ∨ (o.1 = 45 ∧ 0 ≤ o.2.1 ∧ o.2.1 ≤ 999) ∨ (o.1 = 114 ∧ 0 ≤ o.2.1 ∧ o.2.1 ≤ 999 ∧ 1 ≤ o.2.2 ∧ o.2.2 ≤ 99) ∨ (o.1 = 112 ∧ 0 ≤ o.2.1 ∧ o.2.1 ≤ 999) ∨ (o.1 = 110 ∧ 1 ≤ o.2.1 ∧ o.2.1 ≤ 99)
theorem kd_iff {k : Int} : kd k = true ↔ k = 43 ∨ k = 45 ∨ k = 114 ∨ k = 112 ∨ k = 110 := by
  unfold kd
  simp only [Bool.or_eq_true, decide_eq_true_eq]
  omega
theorem grO_9 (k : Int) : 9 ≤ grO k ∧ grO k ≤ 999 := by unfold grO; split <;> (try split) <;> omega
theorem lsO_01 (k : Int) : 0 ≤ lsO k ∧ lsO k ≤ 1 := by unfold lsO; split <;> omega
theorem od_ok {tx : Nat → Int} {len p : Nat} {o : xO} {e : Nat} (h : od tx len p = (some o, e)) : okO o ∧ p + 2 ≤ e ∧ e ≤ len := by
  unfold od at h
  split at h
  · rename_i hk
    have hk := kd_iff.mp hk
    cases h1 : num tx len (lsO (sg tx len p)) (grO (sg tx len p)) (p + 1) with
    | none => rw [h1] at h; cases h
    | some q =>
      obtain ⟨v, e1⟩ := q
      rw [h1] at h
      have hn := num_ok (grO_9 _).1 (lsO_01 _).1 h1
      unfold lsO grO at hn
      simp only at h
      split at h
      · rename_i h2
        cases h3 : num tx len 1 99 (e1 + 1) with
        | none => rw [h3] at h; cases h
        | some q =>
          obtain ⟨t, e2⟩ := q
          rw [h3] at h
          have hn2 := num_ok (by decide) (by decide) h3
          cases h
          refine ⟨Or.inr (Or.inr (Or.inl ?_)), by omega, by omega⟩
          rw [if_neg (by omega), if_neg (by omega)] at hn
          rw [if_neg (by omega)] at hn
          exact ⟨h2.1, hn.1, hn.2.1, hn2.1, hn2.2.1⟩
      · rename_i h2
        cases h
        refine ⟨?_, by omega, by omega⟩
        unfold okO
        dsimp only
        rcases hk with q | q | q | q | q <;> rw [q] at hn ⊢ <;> simp at hn <;> omega
  · cases h
/-- the Orders object with its text, and where it reads -/
def OI (I : xI) (tx : Nat → Int) (len p : Nat) : Prop := I 83 1 = len ∧ (∀ j, j < len → I 84 j = tx j) ∧ I 83 6 = p
theorem x_up_up {I : xI} {c j : Nat} {a b : Int} : x_up (x_up I c j a) c j b = x_up I c j b := by
  funext c' j'
  unfold x_up
  split <;> rfl
theorem OI.setp {I : xI} {tx : Nat → Int} {len p : Nat} (h : OI I tx len p) (e : Nat) : OI (x_up I 83 6 (e : Int)) tx len e := ⟨by rw [x_up_offj (by decide)]; exact h.1, fun j hj => by rw [x_up_off (by decide)]; exact h.2.1 j hj, x_up_same⟩
set_option maxRecDepth 20000 in
set_option maxHeartbeats 4000000 in
theorem t_signHere {I : xI} {tx : Nat → Int} {len p : Nat} (hO : OI I tx len p) (hT : TB tx len) (hp : p ≤ 100) : S kX2_signHere 1 [rr 83] I (q_p (ii (sg tx len p)) I) := by
  have h60 := hT.1
  refine Sp_intro (by decide +kernel) (Nat.le_of_ble_eq_true rfl) ?_
  show Y kX2_signHere 1 0 [some (rr 83)] [] I _
  refine X_aload dX2_signHere_0 rfl ?_
  refine X_getI dX2_signHere_1 rfl gf_X2_31 sh_83 (by decide) rfl ?_
  rw [hO.2.2]
  refine X_aload dX2_signHere_4 rfl ?_
  refine X_getI dX2_signHere_5 rfl gf_X2_15 sh_83 (by decide) rfl ?_
  rw [hO.1]
  refine X_icmp_ge (tgt := 25) dX2_signHere_8 (by decide) (by omega) (fun c_8 => ?_) (fun c_8 => ?_)
  · refine X_iconst dX2_signHere_25 ?_
    refine X_iret dX2_signHere_26 (Or.inl rfl) ?_
    refine ⟨?_, rfl, rfl, rfl⟩
    unfold sg
    first | (rw [if_pos (by omega), hO.2.1 p (by omega)]) | (rw [if_neg (by omega)])
  · refine X_aload dX2_signHere_11 rfl ?_
    refine X_getR dX2_signHere_12 rfl gf_X2_9 sh_83 (by decide) rfl rf_83_0 ?_
    refine X_aload dX2_signHere_15 rfl ?_
    refine X_getI dX2_signHere_16 rfl gf_X2_31 sh_83 (by decide) rfl ?_
    rw [hO.2.2]
    refine Y_pS dX2_signHere_19 cs_X2_64 (t_atk sh_84 (Or.inl (by decide)) _ p (by omega) rfl) rfl ?_
    refine X_goto (tgt := 26) dX2_signHere_22 (by decide) ?_
    refine X_iret dX2_signHere_26 (Or.inl rfl) ?_
    refine ⟨?_, rfl, rfl, rfl⟩
    unfold sg
    first | (rw [if_pos (by omega), hO.2.1 p (by omega)]) | (rw [if_neg (by omega)])
set_option maxRecDepth 20000 in
set_option maxHeartbeats 4000000 in
theorem t_digitHere {I : xI} {tx : Nat → Int} {len p : Nat} (hO : OI I tx len p) (hT : TB tx len) (hp : p ≤ 100) : S kX2_digitHere 2 [rr 83] I (q_p (ii (dgt tx len p)) I) := by
  have h60 := hT.1
  refine Sp_intro (by decide +kernel) (Nat.le_of_ble_eq_true rfl) ?_
  show Y kX2_digitHere 2 0 [some (rr 83), none] [] I _
  refine X_aload dX2_digitHere_0 rfl ?_
  refine Y_pV dX2_digitHere_1 cv_X2_42 sh_83 (by decide) (t_signHere hO hT hp) rfl ?_
  refine X_istore dX2_digitHere_4 (by decide) ?_
  dsimp only [List.set]
  refine X_iload dX2_digitHere_5 rfl ?_
  refine X_bipush dX2_digitHere_6 (by decide) ?_
  have hs := sg_bounds hT p
  refine X_icmp_lt (tgt := 24) dX2_digitHere_8 (by decide) (by omega) (fun c_8 => ?_) (fun c_8 => ?_)
  · refine X_iconst dX2_digitHere_24 ?_
    refine X_iret dX2_digitHere_25 (Or.inl rfl) ?_
    refine ⟨?_, rfl, rfl, rfl⟩
    unfold dgt
    first | rw [if_pos (by omega)] | rw [if_neg (by omega)]
  · refine X_iload dX2_digitHere_11 rfl ?_
    refine X_bipush dX2_digitHere_12 (by decide) ?_
    refine X_icmp_gt (tgt := 24) dX2_digitHere_14 (by decide) (by omega) (fun c_14 => ?_) (fun c_14 => ?_)
    · refine X_iconst dX2_digitHere_24 ?_
      refine X_iret dX2_digitHere_25 (Or.inl rfl) ?_
      refine ⟨?_, rfl, rfl, rfl⟩
      unfold dgt
      first | rw [if_pos (by omega)] | rw [if_neg (by omega)]
    · refine X_iload dX2_digitHere_17 rfl ?_
      refine X_bipush dX2_digitHere_18 (by decide) ?_
      refine X_isub dX2_digitHere_20 ?_
      refine X_goto (tgt := 25) dX2_digitHere_21 (by decide) ?_
      refine X_iret dX2_digitHere_25 (Or.inl rfl) ?_
      refine ⟨?_, rfl, rfl, rfl⟩
      unfold dgt
      first | rw [if_pos (by omega)] | rw [if_neg (by omega)]
set_option maxRecDepth 20000 in
set_option maxHeartbeats 4000000 in
theorem t_isKind {I : xI} (k : Int) (hk : -1 ≤ k ∧ k ≤ 65535) : S kX2_isKind 0 [rr 83, ii k] I (q_p (ii (if kd k = true then 1 else 0)) I) := by
  refine Sp_intro (by decide +kernel) (Nat.le_of_ble_eq_true rfl) ?_
  show Y kX2_isKind 0 0 [some (rr 83), some (ii k)] [] I _
  refine X_iload dX2_isKind_0 rfl ?_
  refine X_bipush dX2_isKind_1 (by decide) ?_
  refine X_icmp_eq (tgt := 30) dX2_isKind_3 (by decide) (by omega) (fun c_3 => ?_) (fun c_3 => ?_)
  · refine X_iconst dX2_isKind_30 ?_
    refine X_goto (tgt := 35) dX2_isKind_31 (by decide) ?_
    refine X_iret dX2_isKind_35 (Or.inr ⟨rfl, by omega⟩) ?_
    refine ⟨?_, rfl, rfl, rfl⟩
    first | (rw [if_pos (kd_iff.mpr (by omega))]) | (rw [if_neg (fun q => by have := kd_iff.mp q; omega)])
  · refine X_iload dX2_isKind_6 rfl ?_
    refine X_bipush dX2_isKind_7 (by decide) ?_
    refine X_icmp_eq (tgt := 30) dX2_isKind_9 (by decide) (by omega) (fun c_9 => ?_) (fun c_9 => ?_)
    · refine X_iconst dX2_isKind_30 ?_
      refine X_goto (tgt := 35) dX2_isKind_31 (by decide) ?_
      refine X_iret dX2_isKind_35 (Or.inr ⟨rfl, by omega⟩) ?_
      refine ⟨?_, rfl, rfl, rfl⟩
      first | (rw [if_pos (kd_iff.mpr (by omega))]) | (rw [if_neg (fun q => by have := kd_iff.mp q; omega)])
    · refine X_iload dX2_isKind_12 rfl ?_
      refine X_bipush dX2_isKind_13 (by decide) ?_
      refine X_icmp_eq (tgt := 30) dX2_isKind_15 (by decide) (by omega) (fun c_15 => ?_) (fun c_15 => ?_)
      · refine X_iconst dX2_isKind_30 ?_
        refine X_goto (tgt := 35) dX2_isKind_31 (by decide) ?_
        refine X_iret dX2_isKind_35 (Or.inr ⟨rfl, by omega⟩) ?_
        refine ⟨?_, rfl, rfl, rfl⟩
        first | (rw [if_pos (kd_iff.mpr (by omega))]) | (rw [if_neg (fun q => by have := kd_iff.mp q; omega)])
      · refine X_iload dX2_isKind_18 rfl ?_
        refine X_bipush dX2_isKind_19 (by decide) ?_
        refine X_icmp_eq (tgt := 30) dX2_isKind_21 (by decide) (by omega) (fun c_21 => ?_) (fun c_21 => ?_)
        · refine X_iconst dX2_isKind_30 ?_
          refine X_goto (tgt := 35) dX2_isKind_31 (by decide) ?_
          refine X_iret dX2_isKind_35 (Or.inr ⟨rfl, by omega⟩) ?_
          refine ⟨?_, rfl, rfl, rfl⟩
          first | (rw [if_pos (kd_iff.mpr (by omega))]) | (rw [if_neg (fun q => by have := kd_iff.mp q; omega)])
        · refine X_iload dX2_isKind_24 rfl ?_
          refine X_bipush dX2_isKind_25 (by decide) ?_
          refine X_icmp_ne (tgt := 34) dX2_isKind_27 (by decide) (by omega) (fun c_27 => ?_) (fun c_27 => ?_)
          · refine X_iconst dX2_isKind_34 ?_
            refine X_iret dX2_isKind_35 (Or.inr ⟨rfl, by omega⟩) ?_
            refine ⟨?_, rfl, rfl, rfl⟩
            first | (rw [if_pos (kd_iff.mpr (by omega))]) | (rw [if_neg (fun q => by have := kd_iff.mp q; omega)])
          · refine X_iconst dX2_isKind_30 ?_
            refine X_goto (tgt := 35) dX2_isKind_31 (by decide) ?_
            refine X_iret dX2_isKind_35 (Or.inr ⟨rfl, by omega⟩) ?_
            refine ⟨?_, rfl, rfl, rfl⟩
            first | (rw [if_pos (kd_iff.mpr (by omega))]) | (rw [if_neg (fun q => by have := kd_iff.mp q; omega)])
set_option maxRecDepth 20000 in
set_option maxHeartbeats 4000000 in
theorem t_leastOf {I : xI} (k : Int) (hk : -1 ≤ k ∧ k ≤ 65535) : S kX2_leastOf 0 [rr 83, ii k] I (q_p (ii (lsO k)) I) := by
  refine Sp_intro (by decide +kernel) (Nat.le_of_ble_eq_true rfl) ?_
  show Y kX2_leastOf 0 0 [some (rr 83), some (ii k)] [] I _
  refine X_iload dX2_leastOf_0 rfl ?_
  refine X_bipush dX2_leastOf_1 (by decide) ?_
  refine X_icmp_eq (tgt := 12) dX2_leastOf_3 (by decide) (by omega) (fun c_3 => ?_) (fun c_3 => ?_)
  · refine X_iconst dX2_leastOf_12 ?_
    refine X_goto (tgt := 17) dX2_leastOf_13 (by decide) ?_
    refine X_iret dX2_leastOf_17 (Or.inl rfl) ?_
    refine ⟨?_, rfl, rfl, rfl⟩
    unfold lsO
    first | rw [if_pos (by omega)] | rw [if_neg (by omega)]
  · refine X_iload dX2_leastOf_6 rfl ?_
    refine X_bipush dX2_leastOf_7 (by decide) ?_
    refine X_icmp_ne (tgt := 16) dX2_leastOf_9 (by decide) (by omega) (fun c_9 => ?_) (fun c_9 => ?_)
    · refine X_iconst dX2_leastOf_16 ?_
      refine X_iret dX2_leastOf_17 (Or.inl rfl) ?_
      refine ⟨?_, rfl, rfl, rfl⟩
      unfold lsO
      first | rw [if_pos (by omega)] | rw [if_neg (by omega)]
    · refine X_iconst dX2_leastOf_12 ?_
      refine X_goto (tgt := 17) dX2_leastOf_13 (by decide) ?_
      refine X_iret dX2_leastOf_17 (Or.inl rfl) ?_
      refine ⟨?_, rfl, rfl, rfl⟩
      unfold lsO
      first | rw [if_pos (by omega)] | rw [if_neg (by omega)]
set_option maxRecDepth 20000 in
set_option maxHeartbeats 4000000 in
theorem t_greatestOf {I : xI} (k : Int) (hk : -1 ≤ k ∧ k ≤ 65535) : S kX2_greatestOf 0 [rr 83, ii k] I (q_p (ii (grO k)) I) := by
  refine Sp_intro (by decide +kernel) (Nat.le_of_ble_eq_true rfl) ?_
  show Y kX2_greatestOf 0 0 [some (rr 83), some (ii k)] [] I _
  refine X_iload dX2_greatestOf_0 rfl ?_
  refine X_bipush dX2_greatestOf_1 (by decide) ?_
  refine X_icmp_ne (tgt := 9) dX2_greatestOf_3 (by decide) (by omega) (fun c_3 => ?_) (fun c_3 => ?_)
  · refine X_iload dX2_greatestOf_9 rfl ?_
    refine X_bipush dX2_greatestOf_10 (by decide) ?_
    refine X_icmp_ne (tgt := 20) dX2_greatestOf_12 (by decide) (by omega) (fun c_12 => ?_) (fun c_12 => ?_)
    · refine X_sipush dX2_greatestOf_20 (by decide) ?_
      refine X_iret dX2_greatestOf_23 (Or.inl rfl) ?_
      refine ⟨?_, rfl, rfl, rfl⟩
      unfold grO
      first | rw [if_pos (by omega)] | rw [if_neg (by omega), if_pos (by omega)] | rw [if_neg (by omega), if_neg (by omega)]
    · refine X_bipush dX2_greatestOf_15 (by decide) ?_
      refine X_goto (tgt := 23) dX2_greatestOf_17 (by decide) ?_
      refine X_iret dX2_greatestOf_23 (Or.inl rfl) ?_
      refine ⟨?_, rfl, rfl, rfl⟩
      unfold grO
      first | rw [if_pos (by omega)] | rw [if_neg (by omega), if_pos (by omega)] | rw [if_neg (by omega), if_neg (by omega)]
  · refine X_bipush dX2_greatestOf_6 (by decide) ?_
    refine X_iret dX2_greatestOf_8 (Or.inl rfl) ?_
    refine ⟨?_, rfl, rfl, rfl⟩
    unfold grO
    first | rw [if_pos (by omega)] | rw [if_neg (by omega), if_pos (by omega)] | rw [if_neg (by omega), if_neg (by omega)]
set_option maxRecDepth 20000 in
set_option maxHeartbeats 4000000 in
theorem t_readNumber_loop {I : xI} {tx : Nat → Int} {len p : Nat} (hO : OI I tx len p) (hT : TB tx len) (hp : p ≤ 100) (least most : Int) (hm : 9 ≤ most ∧ most ≤ 999) : ∀ (f : Nat) (v : Int) (e : Nat), len ≤ e + f → e ≤ len → 0 ≤ v → v ≤ most → Y kX2_readNumber 3 22 [some (rr 83), some (ii least), some (ii most), some (ii v), none] [] (x_up I 83 6 (e : Int)) (q_i (fun z I1 => z = (nmF tx len most f v e).1 ∧ I1 = x_up I 83 6 ((nmF tx len most f v e).2 : Int))) := by
  have h60 := hT.1
  intro f
  induction f with
  | zero =>
    intro v e h1 h2 h3 h4
    have hOe := hO.setp e
    refine X_iload dX2_readNumber_22 rfl ?_
    refine X_if_le (tgt := 82) dX2_readNumber_23 (by decide) (by omega) (fun c_23 => ?_) (fun c_23 => ?_)
    · refine X_iload dX2_readNumber_82 rfl ?_
      refine X_iret dX2_readNumber_83 (Or.inl rfl) ?_
      exact ⟨rfl, rfl, _, rfl, rfl, rfl⟩
    · refine X_aload dX2_readNumber_26 rfl ?_
      refine X_getI dX2_readNumber_27 rfl gf_X2_31 sh_83 (by decide) rfl ?_
      rw [hOe.2.2]
      refine X_aload dX2_readNumber_30 rfl ?_
      refine X_getI dX2_readNumber_31 rfl gf_X2_15 sh_83 (by decide) rfl ?_
      rw [hOe.1]
      refine X_icmp_ge (tgt := 82) dX2_readNumber_34 (by decide) (by omega) (fun c_34 => ?_) (fun c_34 => absurd c_34 (by omega))
      refine X_iload dX2_readNumber_82 rfl ?_
      refine X_iret dX2_readNumber_83 (Or.inl rfl) ?_
      exact ⟨rfl, rfl, _, rfl, rfl, rfl⟩
  | succ f ih =>
    intro v e h1 h2 h3 h4
    have hOe := hO.setp e
    refine X_iload dX2_readNumber_22 rfl ?_
    refine X_if_le (tgt := 82) dX2_readNumber_23 (by decide) (by omega) (fun c_23 => ?_) (fun c_23 => ?_)
    · refine X_iload dX2_readNumber_82 rfl ?_
      refine X_iret dX2_readNumber_83 (Or.inl rfl) ?_
      exact ⟨rfl, rfl, _, rfl, by (have hdl : ¬ 0 ≤ dgt tx len e ∨ e < len := by by_cases q : 0 ≤ dgt tx len e; exact Or.inr (dgt_lt q); exact Or.inl q); (unfold nmF; rw [if_neg (by omega)]), by (have hdl : ¬ 0 ≤ dgt tx len e ∨ e < len := by by_cases q : 0 ≤ dgt tx len e; exact Or.inr (dgt_lt q); exact Or.inl q); (unfold nmF; rw [if_neg (by omega)])⟩
    · refine X_aload dX2_readNumber_26 rfl ?_
      refine X_getI dX2_readNumber_27 rfl gf_X2_31 sh_83 (by decide) rfl ?_
      rw [hOe.2.2]
      refine X_aload dX2_readNumber_30 rfl ?_
      refine X_getI dX2_readNumber_31 rfl gf_X2_15 sh_83 (by decide) rfl ?_
      rw [hOe.1]
      refine X_icmp_ge (tgt := 82) dX2_readNumber_34 (by decide) (by omega) (fun c_34 => ?_) (fun c_34 => ?_)
      · refine X_iload dX2_readNumber_82 rfl ?_
        refine X_iret dX2_readNumber_83 (Or.inl rfl) ?_
        exact ⟨rfl, rfl, _, rfl, by (have hdl : ¬ 0 ≤ dgt tx len e ∨ e < len := by by_cases q : 0 ≤ dgt tx len e; exact Or.inr (dgt_lt q); exact Or.inl q); (unfold nmF; rw [if_neg (by omega)]), by (have hdl : ¬ 0 ≤ dgt tx len e ∨ e < len := by by_cases q : 0 ≤ dgt tx len e; exact Or.inr (dgt_lt q); exact Or.inl q); (unfold nmF; rw [if_neg (by omega)])⟩
      · refine X_aload dX2_readNumber_37 rfl ?_
        refine Y_pV dX2_readNumber_38 cv_X2_61 sh_83 (by decide) (t_digitHere hOe hT (by omega)) rfl ?_
        have hdb := dgt_bounds tx len e
        refine X_istoreW dX2_readNumber_41 (by decide) ?_
        dsimp only [List.set]
        refine X_iloadW dX2_readNumber_43 rfl ?_
        refine X_if_lt (tgt := 59) dX2_readNumber_45 (by decide) (by omega) (fun c_45 => ?_) (fun c_45 => ?_)
        · refine X_iload dX2_readNumber_59 rfl ?_
          refine X_iret dX2_readNumber_60 (Or.inl rfl) ?_
          exact ⟨rfl, rfl, _, rfl, by (unfold nmF; rw [if_neg (by omega)]), by (unfold nmF; rw [if_neg (by omega)])⟩
        · refine X_iload dX2_readNumber_48 rfl ?_
          refine X_bipush dX2_readNumber_49 (by decide) ?_
          refine X_imul dX2_readNumber_51 ?_
          refine X_iloadW dX2_readNumber_52 rfl ?_
          refine X_iadd dX2_readNumber_54 ?_
          refine X_iload dX2_readNumber_55 rfl ?_
          refine X_icmp_le (tgt := 61) dX2_readNumber_56 (by decide) (by omega) (fun c_56 => ?_) (fun c_56 => ?_)
          · refine X_iload dX2_readNumber_61 rfl ?_
            refine X_bipush dX2_readNumber_62 (by decide) ?_
            refine X_imul dX2_readNumber_64 ?_
            refine X_iloadW dX2_readNumber_65 rfl ?_
            refine X_iadd dX2_readNumber_67 ?_
            refine X_istore dX2_readNumber_68 (by decide) ?_
            dsimp only [List.set]
            refine X_aload dX2_readNumber_69 rfl ?_
            refine X_dup dX2_readNumber_70 ?_
            refine X_getI dX2_readNumber_71 rfl gf_X2_31 sh_83 (by decide) rfl ?_
            rw [hOe.2.2]
            refine X_iconst dX2_readNumber_74 ?_
            refine X_iadd dX2_readNumber_75 ?_
            refine X_putI dX2_readNumber_76 rfl pf_X2_31 sh_83 (by decide) rfl (Or.inl rfl) ?_
            rw [x_up_up]
            refine X_goto (tgt := 22) dX2_readNumber_79 (by decide) ?_
            refine X_drop 4 ?_
            dsimp only [List.set]
            have e9 : nmF tx len most (f + 1) v e = nmF tx len most f (v * 10 + dgt tx len e) (e + 1) := by
              show (if _ then _ else _ : Int × Nat) = _
              rw [if_pos (by omega)]
            rw [e9]
            exact ih (v * 10 + dgt tx len e) (e + 1) (by omega) (by omega) (by omega) (by omega)
          · refine X_iload dX2_readNumber_59 rfl ?_
            refine X_iret dX2_readNumber_60 (Or.inl rfl) ?_
            exact ⟨rfl, rfl, _, rfl, by (unfold nmF; rw [if_neg (by omega)]), by (unfold nmF; rw [if_neg (by omega)])⟩
def rnP (I : xI) (r : Option (Int × Nat)) (z : Int) (I1 : xI) : Prop := match r with
  | none => z = -1 ∧ I1 = I
  | some (v, e) => z = v ∧ I1 = x_up I 83 6 (e : Int)
set_option maxRecDepth 20000 in
set_option maxHeartbeats 4000000 in
theorem t_readNumber {I : xI} {tx : Nat → Int} {len p : Nat} (hO : OI I tx len p) (hT : TB tx len) (hp : p ≤ 100) (least most : Int) (hl : 0 ≤ least ∧ least ≤ 1) (hm : 9 ≤ most ∧ most ≤ 999) : S kX2_readNumber 3 [rr 83, ii least, ii most] I (q_i (rnP I (num tx len least most p))) := by
  have h60 := hT.1
  refine Sp_intro (by decide +kernel) (Nat.le_of_ble_eq_true rfl) ?_
  show Y kX2_readNumber 3 0 [some (rr 83), some (ii least), some (ii most), none, none] [] I _
  refine X_aload dX2_readNumber_0 rfl ?_
  refine Y_pV dX2_readNumber_1 cv_X2_61 sh_83 (by decide) (t_digitHere hO hT hp) rfl ?_
  have hdb := dgt_bounds tx len p
  refine X_istore dX2_readNumber_4 (by decide) ?_
  dsimp only [List.set]
  refine X_iload dX2_readNumber_5 rfl ?_
  refine X_iload dX2_readNumber_6 rfl ?_
  refine X_icmp_ge (tgt := 12) dX2_readNumber_7 (by decide) (by omega) (fun c_7 => ?_) (fun c_7 => ?_)
  · refine X_aload dX2_readNumber_12 rfl ?_
    refine X_dup dX2_readNumber_13 ?_
    have hlt := dgt_lt (tx := tx) (len := len) (i := p) (by omega)
    refine X_getI dX2_readNumber_14 rfl gf_X2_31 sh_83 (by decide) rfl ?_
    rw [hO.2.2]
    refine X_iconst dX2_readNumber_17 ?_
    refine X_iadd dX2_readNumber_18 ?_
    refine X_putI dX2_readNumber_19 rfl pf_X2_31 sh_83 (by decide) rfl (Or.inl rfl) ?_
    refine X_weaken (t_readNumber_loop hO hT hp least most hm 60 (dgt tx len p) (p + 1) (by omega) (by omega) (by omega) (by omega)) (fun ro N1 I1 R1 h => ?_)
    obtain ⟨h1, h2, z, h3, h4, h5⟩ := h
    refine ⟨h1, h2, z, h3, ?_⟩
    unfold num
    rw [if_neg (by omega)]
    exact ⟨h4, h5⟩
  · refine X_iconst dX2_readNumber_10 ?_
    refine X_iret dX2_readNumber_11 (Or.inl rfl) ?_
    exact ⟨rfl, rfl, _, rfl, by unfold num; rw [if_pos c_7]; exact ⟨rfl, rfl⟩⟩
