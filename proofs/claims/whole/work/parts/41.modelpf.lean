/-! the other program: perform -/
def fP (z : Int) : Int := if z = -1 then -5 else z
theorem od_none_le {tx : Nat → Int} {len p e : Nat} (h : od tx len p = (none, e)) : e ≤ p + 1 ∨ e ≤ len + 1 := by
  unfold od at h
  split at h
  · cases h1 : num tx len (lsO (sg tx len p)) (grO (sg tx len p)) (p + 1) with
    | none => rw [h1] at h; cases h; omega
    | some q =>
      obtain ⟨v, e1⟩ := q
      rw [h1] at h
      have hn := num_ok (grO_9 _).1 (lsO_01 _).1 h1
      simp only at h
      split at h
      · cases h3 : num tx len 1 99 (e1 + 1) with
        | none => rw [h3] at h; cases h; omega
        | some q => obtain ⟨t, e2⟩ := q; rw [h3] at h; cases h
      · cases h
  · cases h; omega
set_option maxRecDepth 20000 in
set_option maxHeartbeats 4000000 in
theorem t5_fault_loop {I : xI} {tx : Nat → Int} {len : Nat} (hx : TI I tx len) (hT : TB tx len) : ∀ (f p k : Nat), p ≤ len → len < p + 3 * f → 3 * k ≤ p → Y kX5_fault 4 4 [some (rr 88), some (ii (p : Int)), some (ii (k : Int)), none] [] I (q_p (ii (fP (rA tx len f p).1)) I) := by
  have h60 := hT.1
  intro f
  induction f with
  | zero =>
    intro p k h1 h2 h3
    omega
  | succ f ih =>
    intro p k h1 h2 h3
    have ho := t5_orderEnd hx hT p (by omega) rfl
    cases hod : od tx len p with
    | mk o e =>
      rw [hod] at ho
      rw [rA, hod]
      cases o with
      | none =>
        have he : e ≤ len + 2 := by
          have h9 := od_none_le hod
          omega
        change S _ _ _ _ (q_p (ii (-1 - (e : Int))) I) at ho
        show Y kX5_fault 4 4 [some (rr 88), some (ii (p : Int)), some (ii (k : Int)), none] [] I (q_p (ii (fP (e : Int))) I)
        refine X_iload dX5_fault_4 rfl ?_
        refine X_bipush dX5_fault_5 (by decide) ?_
        refine X_icmp_ge (tgt := 57) dX5_fault_7 (by decide) (by omega) (fun c_7 => absurd c_7 (by omega)) (fun c_7 => ?_)
        refine X_aload dX5_fault_10 rfl ?_
        refine X_iload dX5_fault_11 rfl ?_
        refine Y_pV dX5_fault_12 cv_X5_120 sh_88 (by decide) ho rfl ?_
        refine X_istore dX5_fault_15 (by decide) ?_
        dsimp only [List.set]
        refine X_iload dX5_fault_16 rfl ?_
        refine X_if_ge (tgt := 24) dX5_fault_17 (by decide) (by omega) (fun c_17 => absurd c_17 (by omega)) (fun c_17 => ?_)
        refine X_iconst dX5_fault_20 ?_
        refine X_iload dX5_fault_21 rfl ?_
        refine X_isub dX5_fault_22 ?_
        refine X_iret dX5_fault_23 (Or.inl rfl) ?_
        exact ⟨congrArg (fun z => some (ii z)) (by unfold fP; rw [if_neg (by omega)]; omega), rfl, rfl, rfl⟩
      | some o =>
        have hok := od_ok hod
        change S _ _ _ _ (q_p (ii (e : Int)) I) at ho
        dsimp only
        refine X_iload dX5_fault_4 rfl ?_
        refine X_bipush dX5_fault_5 (by decide) ?_
        refine X_icmp_ge (tgt := 57) dX5_fault_7 (by decide) (by omega) (fun c_7 => absurd c_7 (by omega)) (fun c_7 => ?_)
        refine X_aload dX5_fault_10 rfl ?_
        refine X_iload dX5_fault_11 rfl ?_
        refine Y_pV dX5_fault_12 cv_X5_120 sh_88 (by decide) ho rfl ?_
        refine X_istore dX5_fault_15 (by decide) ?_
        dsimp only [List.set]
        refine X_iload dX5_fault_16 rfl ?_
        refine X_if_ge (tgt := 24) dX5_fault_17 (by decide) (by omega) (fun c_17 => ?_) (fun c_17 => absurd c_17 (by omega))
        refine X_iload dX5_fault_24 rfl ?_
        refine X_aload dX5_fault_25 rfl ?_
        refine X_getI dX5_fault_26 rfl gf_X5_108 sh_88 (by decide) rfl ?_
        rw [hx.1]
        refine X_icmp_ne (tgt := 35) dX5_fault_29 (by decide) (by omega) (fun c_29 => ?_) (fun c_29 => ?_)
        · rw [if_neg (by omega)]
          refine X_aload dX5_fault_35 rfl ?_
          refine X_iload dX5_fault_36 rfl ?_
          refine Y_pV dX5_fault_37 cv_X5_111 sh_88 (by decide) (t5_sign hx hT e (by omega) rfl) rfl ?_
          have hb2 := sg_bounds hT e
          refine X_bipush dX5_fault_40 (by decide) ?_
          refine X_icmp_eq (tgt := 47) dX5_fault_42 (by decide) (by omega) (fun c_42 => ?_) (fun c_42 => ?_)
          · rw [if_pos c_42]
            refine X_iload dX5_fault_47 rfl ?_
            refine X_iconst dX5_fault_48 ?_
            refine X_iadd dX5_fault_49 ?_
            refine X_istore dX5_fault_50 (by decide) ?_
            dsimp only [List.set]
            refine X_iinc dX5_fault_51 rfl ?_
            dsimp only [List.set]
            refine X_goto (tgt := 4) dX5_fault_54 (by decide) ?_
            refine X_drop 3 ?_
            dsimp only [List.set]
            have hlt := sg_lt (tx := tx) (len := len) (i := e) (by omega)
            exact ih (e + 1) (k + 1) (by omega) (by omega) (by omega)
          · rw [if_neg c_42]
            refine X_iload dX5_fault_45 rfl ?_
            refine X_iret dX5_fault_46 (Or.inl rfl) ?_
            exact ⟨congrArg (fun z => some (ii z)) (show (e : Int) = fP (e : Int) by unfold fP; rw [if_neg (by omega)]), rfl, rfl, rfl⟩
        · rw [if_pos (by omega)]
          refine X_bipush dX5_fault_32 (by decide) ?_
          refine X_iret dX5_fault_34 (Or.inl rfl) ?_
          exact ⟨rfl, rfl, rfl, rfl⟩
set_option maxRecDepth 20000 in
set_option maxHeartbeats 4000000 in
theorem t5_fault {I : xI} {tx : Nat → Int} {len : Nat} (hx : TI I tx len) (hT : TB tx len) : S kX5_fault 4 [rr 88] I (q_p (ii (fP (rA tx len 30 0).1)) I) := by
  refine Sp_intro (by decide +kernel) (Nat.le_of_ble_eq_true rfl) ?_
  show Y kX5_fault 4 0 [some (rr 88), none, none, none] [] I _
  refine X_iconst dX5_fault_0 ?_
  refine X_istore dX5_fault_1 (by decide) ?_
  dsimp only [List.set]
  refine X_iconst dX5_fault_2 ?_
  refine X_istore dX5_fault_3 (by decide) ?_
  dsimp only [List.set]
  have h9 := t5_fault_loop hx hT 30 0 0 (Nat.zero_le _) (by have := hT.1; omega) (Nat.le_refl _)
  generalize rA tx len 30 0 = R at h9 ⊢
  exact h9
