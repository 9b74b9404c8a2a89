/-! the other program: perform -/
def fP (z : Int) : Int := if z = -1 then -5 else z
theorem od_none_le {tx : Nat → Int} {len p e : Nat} (h : od tx len p = (none, e)) : e ≤ p + 1 ∨ e ≤ len + 1 := by
  unfold od at h
  split at h
  · cases h1 : num tx len (lsO (sg tx len p)) (grO (sg tx len p)) (p + 1) with
    | none => rw [h1] at h; cases h; omega
    | some q =>
      obtain ⟨v, e1⟩ := q
      rw [h1] at h
      have hn := num_ok (grO_9 _).1 (lsO_01 _).1 h1
      simp only at h
      split at h
      · cases h3 : num tx len 1 99 (e1 + 1) with
        | none => rw [h3] at h; cases h; omega
        | some q => obtain ⟨t, e2⟩ := q; rw [h3] at h; cases h
      · cases h
  · cases h; omega
set_option maxRecDepth 20000 in
set_option maxHeartbeats 4000000 in
theorem t5_fault_loop {I : xI} {tx : Nat → Int} {len : Nat} (hx : TI I tx len) (hT : TB tx len) : ∀ (f p k : Nat), p ≤ len → len < p + 3 * f → 3 * k ≤ p → Y kX5_fault 4 4 [some (rr 88), some (ii (p : Int)), some (ii (k : Int)), none] [] I (q_p (ii (fP (rA tx len f p).1)) I) := by
  have h60 := hT.1
  intro f
  induction f with
  | zero =>
    intro p k h1 h2 h3
    omega
  | succ f ih =>
    intro p k h1 h2 h3
    have ho := t5_orderEnd hx hT p (by omega) rfl
    cases hod : od tx len p with
    | mk o e =>
      rw [hod] at ho
      rw [rA, hod]
      cases o with
      | none =>
        have he : e ≤ len + 2 := by
          have h9 := od_none_le hod
          omega
        change S _ _ _ _ (q_p (ii (-1 - (e : Int))) I) at ho
        show Y kX5_fault 4 4 [some (rr 88), some (ii (p : Int)), some (ii (k : Int)), none] [] I (q_p (ii (fP (e : Int))) I)
        refine X_iload dX5_fault_4 rfl ?_
        refine X_bipush dX5_fault_5 (by decide) ?_
        refine X_icmp_ge (tgt := 57) dX5_fault_7 (by decide) (by omega) (fun c_7 => absurd c_7 (by omega)) (fun c_7 => ?_)
        refine X_aload dX5_fault_10 rfl ?_
        refine X_iload dX5_fault_11 rfl ?_
        refine Y_pV dX5_fault_12 cv_X5_120 sh_88 (by decide) ho rfl ?_
        refine X_istore dX5_fault_15 (by decide) ?_
        dsimp only [List.set]
        refine X_iload dX5_fault_16 rfl ?_
        refine X_if_ge (tgt := 24) dX5_fault_17 (by decide) (by omega) (fun c_17 => absurd c_17 (by omega)) (fun c_17 => ?_)
        refine X_iconst dX5_fault_20 ?_
        refine X_iload dX5_fault_21 rfl ?_
        refine X_isub dX5_fault_22 ?_
        refine X_iret dX5_fault_23 (Or.inl rfl) ?_
        exact ⟨congrArg (fun z => some (ii z)) (by unfold fP; rw [if_neg (by omega)]; omega), rfl, rfl, rfl⟩
      | some o =>
        have hok := od_ok hod
        change S _ _ _ _ (q_p (ii (e : Int)) I) at ho
        dsimp only
        refine X_iload dX5_fault_4 rfl ?_
        refine X_bipush dX5_fault_5 (by decide) ?_
        refine X_icmp_ge (tgt := 57) dX5_fault_7 (by decide) (by omega) (fun c_7 => absurd c_7 (by omega)) (fun c_7 => ?_)
        refine X_aload dX5_fault_10 rfl ?_
        refine X_iload dX5_fault_11 rfl ?_
        refine Y_pV dX5_fault_12 cv_X5_120 sh_88 (by decide) ho rfl ?_
        refine X_istore dX5_fault_15 (by decide) ?_
        dsimp only [List.set]
        refine X_iload dX5_fault_16 rfl ?_
        refine X_if_ge (tgt := 24) dX5_fault_17 (by decide) (by omega) (fun c_17 => ?_) (fun c_17 => absurd c_17 (by omega))
        refine X_iload dX5_fault_24 rfl ?_
        refine X_aload dX5_fault_25 rfl ?_
        refine X_getI dX5_fault_26 rfl gf_X5_108 sh_88 (by decide) rfl ?_
        rw [hx.1]
        refine X_icmp_ne (tgt := 35) dX5_fault_29 (by decide) (by omega) (fun c_29 => ?_) (fun c_29 => ?_)
        · rw [if_neg (by omega)]
          refine X_aload dX5_fault_35 rfl ?_
          refine X_iload dX5_fault_36 rfl ?_
          refine Y_pV dX5_fault_37 cv_X5_111 sh_88 (by decide) (t5_sign hx hT e (by omega) rfl) rfl ?_
          have hb2 := sg_bounds hT e
          refine X_bipush dX5_fault_40 (by decide) ?_
          refine X_icmp_eq (tgt := 47) dX5_fault_42 (by decide) (by omega) (fun c_42 => ?_) (fun c_42 => ?_)
          · rw [if_pos c_42]
            refine X_iload dX5_fault_47 rfl ?_
            refine X_iconst dX5_fault_48 ?_
            refine X_iadd dX5_fault_49 ?_
            refine X_istore dX5_fault_50 (by decide) ?_
            dsimp only [List.set]
            refine X_iinc dX5_fault_51 rfl ?_
            dsimp only [List.set]
            refine X_goto (tgt := 4) dX5_fault_54 (by decide) ?_
            refine X_drop 3 ?_
            dsimp only [List.set]
            have hlt := sg_lt (tx := tx) (len := len) (i := e) (by omega)
            exact ih (e + 1) (k + 1) (by omega) (by omega) (by omega)
          · rw [if_neg c_42]
            refine X_iload dX5_fault_45 rfl ?_
            refine X_iret dX5_fault_46 (Or.inl rfl) ?_
            exact ⟨congrArg (fun z => some (ii z)) (show (e : Int) = fP (e : Int) by unfold fP; rw [if_neg (by omega)]), rfl, rfl, rfl⟩
        · rw [if_pos (by omega)]
          refine X_bipush dX5_fault_32 (by decide) ?_
          refine X_iret dX5_fault_34 (Or.inl rfl) ?_
          exact ⟨rfl, rfl, rfl, rfl⟩
set_option maxRecDepth 20000 in
set_option maxHeartbeats 4000000 in
theorem t5_fault {I : xI} {tx : Nat → Int} {len : Nat} (hx : TI I tx len) (hT : TB tx len) : S kX5_fault 4 [rr 88] I (q_p (ii (fP (rA tx len 30 0).1)) I) := by
  refine Sp_intro (by decide +kernel) (Nat.le_of_ble_eq_true rfl) ?_
  show Y kX5_fault 4 0 [some (rr 88), none, none, none] [] I _
  refine X_iconst dX5_fault_0 ?_
  refine X_istore dX5_fault_1 (by decide) ?_
  dsimp only [List.set]
  refine X_iconst dX5_fault_2 ?_
  refine X_istore dX5_fault_3 (by decide) ?_
  dsimp only [List.set]
  have h9 := t5_fault_loop hx hT 30 0 0 (Nat.zero_le _) (by have := hT.1; omega) (Nat.le_refl _)
  generalize rA tx len 30 0 = R at h9 ⊢
  exact h9
theorem dgt_no {tx : Nat → Int} {len e : Nat} (h : len ≤ e ∨ sg tx len e = 44 ∨ sg tx len e = 42) : dgt tx len e < 0 := by
  have hs : sg tx len e < 48 := by
    rcases h with h | h | h
    · unfold sg; rw [if_neg (by omega)]; decide
    · omega
    · omega
  unfold dgt
  rw [if_neg (by omega)]
  decide
/-- what an order of a text is made of -/
theorem od_parts {tx : Nat → Int} {len p e : Nat} {o : xO} (h : od tx len p = (some o, e)) : o.1 = sg tx len p ∧ kd (sg tx len p) = true ∧ ∃ e1, num tx len (lsO o.1) (grO o.1) (p + 1) = some (o.2.1, e1) ∧ ((o.1 = 114 ∧ sg tx len e1 = 42 ∧ num tx len 1 99 (e1 + 1) = some (o.2.2, e)) ∨ (¬ (o.1 = 114 ∧ sg tx len e1 = 42) ∧ o.2.2 = 1 ∧ e1 = e)) := by
  unfold od at h
  split at h
  · rename_i hk
    cases h1 : num tx len (lsO (sg tx len p)) (grO (sg tx len p)) (p + 1) with
    | none => rw [h1] at h; cases h
    | some q =>
      obtain ⟨v, e1⟩ := q
      rw [h1] at h
      simp only at h
      split at h
      · rename_i h2
        cases h3 : num tx len 1 99 (e1 + 1) with
        | none => rw [h3] at h; cases h
        | some q =>
          obtain ⟨t, e2⟩ := q
          rw [h3] at h
          cases h
          exact ⟨rfl, hk, e1, h1, Or.inl ⟨h2.1, h2.2, h3⟩⟩
      · rename_i h2
        cases h
        exact ⟨rfl, hk, _, h1, Or.inr ⟨h2, rfl, rfl⟩⟩
  · cases h
set_option maxRecDepth 20000 in
set_option maxHeartbeats 4000000 in
theorem t5_does {I : xI} {tx : Nat → Int} {len : Nat} (hx : TI I tx len) (hT : TB tx len) {cur : xS} (hR : RR I 215 cur.1 cur.2) (hS : SG cur) {p e : Nat} {o : xO} (hp : p ≤ 60) (hod : od tx len p = (some o, e)) (hend : len ≤ e ∨ sg tx len e = 44) : S kX5_does 8 [rr 88, ii (p : Int)] I (q_i (op5 I (oDo cur o))) := by
  have h60 := hT.1
  obtain ⟨hk, hkd, e1, hnum, hr⟩ := od_parts hod
  obtain ⟨hok, hp2, hel⟩ := od_ok hod
  unfold okO at hok
  have hkd := kd_iff.mp hkd
  have hb := sg_bounds hT p
  have hna := t5_numberAt hx hT (p + 1) (by omega) (ip := (p : Int) + 1) (by omega)
  have hdg : len ≤ e1 ∨ sg tx len e1 = 44 ∨ sg tx len e1 = 42 := by
    rcases hr with hr | hr
    · exact Or.inr (Or.inr hr.2.1)
    · rw [hr.2.2]
      rcases hend with q | q
      · exact Or.inl q
      · exact Or.inr (Or.inl q)
  rw [na_num (lsO_01 _).1 hnum (dgt_no hdg)] at hna
  refine Sp_intro (by decide +kernel) (Nat.le_of_ble_eq_true rfl) ?_
  show Y kX5_does 8 0 [some (rr 88), some (ii (p : Int)), none, none] [] I _
  refine X_aload dX5_does_0 rfl ?_
  refine X_iload dX5_does_1 rfl ?_
  refine X_iconst dX5_does_2 ?_
  refine X_iadd dX5_does_3 ?_
  refine Y_pV dX5_does_4 cv_X5_123 sh_88 (by decide) hna rfl ?_
  refine X_istore dX5_does_7 (by decide) ?_
  dsimp only [List.set]
  refine X_aload dX5_does_8 rfl ?_
  refine X_iload dX5_does_9 rfl ?_
  refine Y_pV dX5_does_10 cv_X5_111 sh_88 (by decide) (t5_sign hx hT p (by omega) rfl) rfl ?_
  rw [← hk]
  by_cases w_43 : o.1 = 43
  · refine X_lsw (off := 43) (tgt := 56) dX5_does_13 (by decide) (by omega) (by show (if (43 : Int) = o.1 then (43 : Int) else if (45 : Int) = o.1 then (49 : Int) else if (112 : Int) = o.1 then (94 : Int) else if (114 : Int) = o.1 then (55 : Int) else 100) = _; rw [if_pos (by omega)]) (by decide) ?_
    refine X_aload dX5_does_56 rfl ?_
    refine X_iload dX5_does_57 rfl ?_
    refine Y_iV dX5_does_58 cv_X5_87 sh_88 (by decide) (t5_adds hR hS.1 (by omega)) rfl (fun z9 I9 h9 => ?_)
    refine X_iret dX5_does_61 (Or.inl rfl) ?_
    refine ⟨rfl, rfl, _, rfl, ?_⟩
    unfold oDo
    rw [if_pos (by omega)]
    exact h9
  by_cases w_45 : o.1 = 45
  · refine X_lsw (off := 49) (tgt := 62) dX5_does_13 (by decide) (by omega) (by show (if (43 : Int) = o.1 then (43 : Int) else if (45 : Int) = o.1 then (49 : Int) else if (112 : Int) = o.1 then (94 : Int) else if (114 : Int) = o.1 then (55 : Int) else 100) = _; rw [if_neg (by omega), if_pos (by omega)]) (by decide) ?_
    refine X_aload dX5_does_62 rfl ?_
    refine X_iload dX5_does_63 rfl ?_
    refine Y_iV dX5_does_64 cv_X5_93 sh_88 (by decide) (t5_removes hR hS.1 o.2.1 (by omega)) rfl (fun z9 I9 h9 => ?_)
    refine X_iret dX5_does_67 (Or.inl rfl) ?_
    refine ⟨rfl, rfl, _, rfl, ?_⟩
    unfold oDo
    rw [if_neg (by omega), if_pos (by omega)]
    exact h9
  by_cases w_112 : o.1 = 112
  · refine X_lsw (off := 94) (tgt := 107) dX5_does_13 (by decide) (by omega) (by show (if (43 : Int) = o.1 then (43 : Int) else if (45 : Int) = o.1 then (49 : Int) else if (112 : Int) = o.1 then (94 : Int) else if (114 : Int) = o.1 then (55 : Int) else 100) = _; rw [if_neg (by omega), if_neg (by omega), if_pos (by omega)]) (by decide) ?_
    refine X_aload dX5_does_107 rfl ?_
    refine X_iload dX5_does_108 rfl ?_
    refine Y_iV dX5_does_109 cv_X5_99 sh_88 (by decide) (t5_turnsPin hR hS.1 o.2.1 (by omega)) rfl (fun z9 I9 h9 => ?_)
    refine X_iret dX5_does_112 (Or.inl rfl) ?_
    refine ⟨rfl, rfl, _, rfl, ?_⟩
    unfold oDo
    rw [if_neg (by omega), if_neg (by omega), if_neg (by omega), if_pos (by omega)]
    exact h9
  by_cases w_114 : o.1 = 114
  · refine X_lsw (off := 55) (tgt := 68) dX5_does_13 (by decide) (by omega) (by show (if (43 : Int) = o.1 then (43 : Int) else if (45 : Int) = o.1 then (49 : Int) else if (112 : Int) = o.1 then (94 : Int) else if (114 : Int) = o.1 then (55 : Int) else 100) = _; rw [if_neg (by omega), if_neg (by omega), if_neg (by omega), if_pos (by omega)]) (by decide) ?_
    have h999 : num tx len 0 999 (p + 1) = some (o.2.1, e1) := by rw [← hnum, w_114]; rfl
    have h8 := t5_numberEnd hx hT (p + 1) (by omega) (ip := (p : Int) + 1) (by omega) (least := 0) (most := 999) (by decide) (by decide)
    rw [h999] at h8
    change S _ _ _ _ (q_p (ii (e1 : Int)) I) at h8
    have he1 := num_ok (by decide) (by decide) h999
    have hb2 := sg_bounds hT e1
    obtain ⟨T, hT2⟩ := Int.eq_ofNat_of_zero_le (show 0 ≤ o.2.2 by omega)
    refine X_aload dX5_does_68 rfl ?_
    refine X_iload dX5_does_69 rfl ?_
    refine X_iconst dX5_does_70 ?_
    refine X_iadd dX5_does_71 ?_
    refine X_iconst dX5_does_72 ?_
    refine X_sipush dX5_does_73 (by decide) ?_
    refine Y_pV dX5_does_76 cv_X5_117 sh_88 (by decide) h8 rfl ?_
    refine X_istore dX5_does_79 (by decide) ?_
    dsimp only [List.set]
    refine X_aload dX5_does_80 rfl ?_
    refine X_iload dX5_does_81 rfl ?_
    refine X_aload dX5_does_82 rfl ?_
    refine X_iload dX5_does_83 rfl ?_
    refine Y_pV dX5_does_84 cv_X5_111 sh_88 (by decide) (t5_sign hx hT e1 (by omega) rfl) rfl ?_
    refine X_bipush dX5_does_87 (by decide) ?_
    refine X_icmp_ne (tgt := 102) dX5_does_89 (by decide) (by omega) (fun c_89 => ?_) (fun c_89 => ?_)
    · have h1 : o.2.2 = 1 := by
        rcases hr with hr | hr
        · exact absurd hr.2.1 c_89
        · exact hr.2.1
      refine X_iconst dX5_does_102 ?_
      refine Y_iV dX5_does_103 cv_X5_96 sh_88 (by decide) (t5_reads hR hS.1 o.2.1 (by omega) T (by omega) (by omega)) rfl (fun z9 I9 h9 => ?_)
      refine X_iret dX5_does_106 (Or.inl rfl) ?_
      refine ⟨rfl, rfl, _, rfl, ?_⟩
      unfold oDo
      rw [if_neg (by omega), if_neg (by omega), if_pos (by omega), hT2]
      exact h9
    · have h42 : num tx len 1 99 (e1 + 1) = some (o.2.2, e) := by
        rcases hr with hr | hr
        · exact hr.2.2
        · exact absurd ⟨w_114, c_89⟩ hr.1
      have hna2 := t5_numberAt hx hT (e1 + 1) (by omega) (ip := (e1 : Int) + 1) (by omega)
      rw [na_num (by decide) h42 (dgt_no (by omega))] at hna2
      refine X_aload dX5_does_92 rfl ?_
      refine X_iload dX5_does_93 rfl ?_
      refine X_iconst dX5_does_94 ?_
      refine X_iadd dX5_does_95 ?_
      refine Y_pV dX5_does_96 cv_X5_123 sh_88 (by decide) hna2 rfl ?_
      refine X_goto (tgt := 103) dX5_does_99 (by decide) ?_
      refine Y_iV dX5_does_103 cv_X5_96 sh_88 (by decide) (t5_reads hR hS.1 o.2.1 (by omega) T (by omega) (by omega)) rfl (fun z9 I9 h9 => ?_)
      refine X_iret dX5_does_106 (Or.inl rfl) ?_
      refine ⟨rfl, rfl, _, rfl, ?_⟩
      unfold oDo
      rw [if_neg (by omega), if_neg (by omega), if_pos (by omega), hT2]
      exact h9
  refine X_lsw (off := 100) (tgt := 113) dX5_does_13 (by decide) (by omega) (by show (if (43 : Int) = o.1 then (43 : Int) else if (45 : Int) = o.1 then (49 : Int) else if (112 : Int) = o.1 then (94 : Int) else if (114 : Int) = o.1 then (55 : Int) else 100) = _; rw [if_neg (by omega), if_neg (by omega), if_neg (by omega), if_neg (by omega)]) (by decide) ?_
  refine X_aload dX5_does_113 rfl ?_
  refine X_iload dX5_does_114 rfl ?_
  obtain ⟨T, hT1⟩ := Int.eq_ofNat_of_zero_le (show 0 ≤ o.2.1 by omega)
  refine Y_iV dX5_does_115 cv_X5_102 sh_88 (by decide) (t5_passesIn hR hS.1 hS.2 T (by omega) hT1) rfl (fun z9 I9 h9 => ?_)
  refine X_iret dX5_does_118 (Or.inl rfl) ?_
  refine ⟨rfl, rfl, _, rfl, ?_⟩
  unfold oDo
  rw [if_neg (by omega), if_neg (by omega), if_neg (by omega), if_neg (by omega), hT1]
  exact h9
theorem TI.of {I I1 : xI} {tx : Nat → Int} {len : Nat} (h : TI I tx len) (hF : WF I I1) : TI I1 tx len := ⟨by rw [hF.1 88 (by decide) (by decide)]; exact h.1, fun j hj => by rw [hF.1 92 (by decide) (by decide)]; exact h.2 j hj⟩
theorem MI.ti {I : xI} {s : xS} {hs : List xS} {sn : Option xS} {tx : Nat → Int} {len : Nat} (h : MI I s hs sn tx len) : TI I tx len := ⟨h.2.2.2.1, h.2.2.2.2⟩
def pE (s cur : xS) (os : List xO) (nd : Nat) : Int × xS := if (exA os cur).1 < 0 then ((exA os cur).1, s) else ((nd : Int) + os.length, (exA os cur).2)
set_option maxRecDepth 20000 in
set_option maxHeartbeats 4000000 in
theorem t5_perf_step {I0 : xI} {s : xS} {hs : List xS} {sn : Option xS} {tx : Nat → Int} {len : Nat} (hM : MI I0 s hs sn tx len) (hg : CG s hs sn tx len) {fa : Int} {I : xI} {p e nd : Nat} {o : xO} {os : List xO} {cur : xS} (hF : WF I0 I) (hR : RR I 215 cur.1 cur.2) (hS : SG cur) (hp : p < len) (hod : od tx len p = (some o, e)) (hend : len ≤ e ∨ sg tx len e = 44) (kk : ∀ I1, WF I0 I1 → RR I1 215 (oDo cur o).2.1 (oDo cur o).2.2 → SG (oDo cur o).2 → Y kX5_perform 9 24 [some (rr 88), some (ii fa), some (ii ((nd + 1 : Nat) : Int)), some (ii ((e + 1 : Nat) : Int)), none] [] I1 (q_i (fun ans I2 => ans = (pE s (oDo cur o).2 os (nd + 1)).1 ∧ MI I2 (nxS s (pE s (oDo cur o).2 os (nd + 1))) (nxH s hs (pE s (oDo cur o).2 os (nd + 1))) sn tx len ∧ MX I0 I2))) : Y kX5_perform 9 24 [some (rr 88), some (ii fa), some (ii (nd : Int)), some (ii (p : Int)), none] [] I (q_i (fun ans I2 => ans = (pE s cur (o :: os) nd).1 ∧ MI I2 (nxS s (pE s cur (o :: os) nd)) (nxH s hs (pE s cur (o :: os) nd)) sn tx len ∧ MX I0 I2)) := by
  have hT := hg.2.2.2
  have h60 := hT.1
  have hx := hM.ti.of hF
  have hok := od_ok hod
  refine X_iload dX5_perform_24 rfl ?_
  refine X_aload dX5_perform_25 rfl ?_
  refine X_getI dX5_perform_26 rfl gf_X5_108 sh_88 (by decide) rfl ?_
  rw [hx.1]
  refine X_icmp_ge (tgt := 61) dX5_perform_29 (by decide) (by omega) (fun c_29 => absurd c_29 (by omega)) (fun c_29 => ?_)
  refine X_aload dX5_perform_32 rfl ?_
  refine X_iload dX5_perform_33 rfl ?_
  refine Y_iV dX5_perform_34 cv_X5_130 sh_88 (by decide) (t5_does hx hT hR hS (by omega) hod hend) rfl (fun z1 I1 h1 => ?_)
  obtain ⟨rfl, hF1, hR1⟩ := h1
  have hsm := (oDo_ok hS o).1
  unfold small at hsm
  refine X_istoreW dX5_perform_37 (by decide) ?_
  dsimp only [List.set]
  refine X_iloadW dX5_perform_39 rfl ?_
  refine X_if_ge (tgt := 47) dX5_perform_41 (by decide) (by omega) (fun c_41 => ?_) (fun c_41 => ?_)
  · have hS1 := (oDo_ok hS o).2 (by omega)
    have hR1 := hR1 (by omega)
    have hx1 := hx.of hF1
    have ho := t5_orderEnd hx1 hT p (by omega) rfl
    rw [hod] at ho
    change S _ _ _ _ (q_p (ii (e : Int)) I1) at ho
    have e1 : pE s cur (o :: os) nd = pE s (oDo cur o).2 os (nd + 1) := by
      unfold pE
      rw [show exA (o :: os) cur = exA os (oDo cur o).2 by rw [exA, if_neg (by omega)]]
      rw [show ((nd + 1 : Nat) : Int) + (os.length : Int) = (nd : Int) + ((o :: os).length : Int) by rw [List.length_cons]; omega]
    rw [e1]
    refine X_iinc dX5_perform_47 rfl ?_
    dsimp only [List.set]
    refine X_aload dX5_perform_50 rfl ?_
    refine X_iload dX5_perform_51 rfl ?_
    refine Y_pV dX5_perform_52 cv_X5_120 sh_88 (by decide) ho rfl ?_
    refine X_iconst dX5_perform_55 ?_
    refine X_iadd dX5_perform_56 ?_
    refine X_istore dX5_perform_57 (by decide) ?_
    dsimp only [List.set]
    refine X_goto (tgt := 24) dX5_perform_58 (by decide) ?_
    refine X_drop 4 ?_
    dsimp only [List.set]
    exact kk I1 (hF.trans hF1) hR1 hS1
  · refine X_iloadW dX5_perform_44 rfl ?_
    refine X_iret dX5_perform_46 (Or.inl rfl) ?_
    have e1 : pE s cur (o :: os) nd = ((oDo cur o).1, s) := by
      unfold pE
      have e2 : exA (o :: os) cur = ((oDo cur o).1, cur) := by rw [exA, if_pos (by omega)]
      rw [e2, if_pos (by dsimp only; omega)]
    rw [e1]
    exact ⟨rfl, rfl, _, rfl, rfl, (hM.wf hg.1.1.n24 (hF.trans hF1)).nx (by dsimp only; omega), (hF.trans hF1).mx⟩
set_option maxRecDepth 20000 in
set_option maxHeartbeats 4000000 in
theorem t5_perf_end {I0 : xI} {s : xS} {hs : List xS} {sn : Option xS} {tx : Nat → Int} {len : Nat} (hM : MI I0 s hs sn tx len) (hg : CG s hs sn tx len) {fa : Int} {I : xI} {p nd : Nat} {cur : xS} (hF : WF I0 I) (hR : RR I 215 cur.1 cur.2) (hS : SG cur) (hp : len ≤ p) (hp2 : p ≤ 100) : Y kX5_perform 9 24 [some (rr 88), some (ii fa), some (ii (nd : Int)), some (ii (p : Int)), none] [] I (q_i (fun ans I2 => ans = (pE s cur [] nd).1 ∧ MI I2 (nxS s (pE s cur [] nd)) (nxH s hs (pE s cur [] nd)) sn tx len ∧ MX I0 I2)) := by
  have h60 := hg.2.2.2.1
  have hx := hM.ti.of hF
  refine X_iload dX5_perform_24 rfl ?_
  refine X_aload dX5_perform_25 rfl ?_
  refine X_getI dX5_perform_26 rfl gf_X5_108 sh_88 (by decide) rfl ?_
  rw [hx.1]
  refine X_icmp_ge (tgt := 61) dX5_perform_29 (by decide) (by omega) (fun c_29 => ?_) (fun c_29 => absurd c_29 (by omega))
  refine X_aload dX5_perform_61 rfl ?_
  refine Y_vV dX5_perform_62 cv_X5_78 sh_88 (by decide) (t5_lays (hM.wf hg.1.1.n24 hF) hg hS.1.n24 hR) rfl (fun I1 h1 => ?_)
  refine X_iload dX5_perform_65 rfl ?_
  refine X_iret dX5_perform_66 (Or.inl rfl) ?_
  have e1 : pE s cur [] nd = ((nd : Int), cur) := by
    unfold pE
    rw [show exA [] cur = (0, cur) from rfl, if_neg (show ¬ (0 : Int) < 0 by decide)]
    show ((nd : Int) + ((0 : Nat) : Int), cur) = _
    rw [show (nd : Int) + ((0 : Nat) : Int) = (nd : Int) by omega]
  rw [e1]
  refine ⟨rfl, rfl, _, rfl, rfl, ?_, hF.mx.trans h1.2⟩
  unfold nxS nxH
  rw [if_pos (by dsimp only; omega), if_pos (by dsimp only; omega)]
  exact h1.1
set_option maxRecDepth 20000 in
set_option maxHeartbeats 4000000 in
theorem t5_perf_loop {I0 : xI} {s : xS} {hs : List xS} {sn : Option xS} {tx : Nat → Int} {len : Nat} (hM : MI I0 s hs sn tx len) (hg : CG s hs sn tx len) {fa : Int} : ∀ (f p nd : Nat) (cur : xS) (I : xI), (rA tx len f p).1 = -1 → WF I0 I → RR I 215 cur.1 cur.2 → SG cur → Y kX5_perform 9 24 [some (rr 88), some (ii fa), some (ii (nd : Int)), some (ii (p : Int)), none] [] I (q_i (fun ans I2 => ans = (pE s cur (rA tx len f p).2 nd).1 ∧ MI I2 (nxS s (pE s cur (rA tx len f p).2 nd)) (nxH s hs (pE s cur (rA tx len f p).2 nd)) sn tx len ∧ MX I0 I2)) := by
  have h60 := hg.2.2.2.1
  intro f
  induction f with
  | zero =>
    intro p nd cur I hA hF hR hS
    exact absurd hA (show ¬ ((p : Nat) : Int) = -1 by omega)
  | succ f ih =>
    intro p nd cur I hA hF hR hS
    cases hod : od tx len p with
    | mk o e =>
      rw [rA, hod] at hA ⊢
      cases o with
      | none => exact absurd hA (show ¬ ((e : Nat) : Int) = -1 by omega)
      | some o =>
        dsimp only at hA ⊢
        have hok := od_ok hod
        have hkd := kd_iff.mp (od_parts hod).2.1
        have hpl := sg_lt (tx := tx) (len := len) (i := p) (by omega)
        by_cases c1 : len ≤ e
        · rw [if_pos c1] at hA ⊢
          exact t5_perf_step hM hg hF hR hS hpl hod (Or.inl c1) (fun I1 hF1 hR1 hS1 => t5_perf_end hM hg hF1 hR1 hS1 (by omega) (by omega))
        · rw [if_neg c1] at hA ⊢
          by_cases c2 : sg tx len e = 44
          · rw [if_pos c2] at hA ⊢
            exact t5_perf_step hM hg hF hR hS hpl hod (Or.inr c2) (fun I1 hF1 hR1 hS1 => ih (e + 1) (nd + 1) _ I1 hA hF1 hR1 hS1)
          · rw [if_neg c2] at hA
            exact absurd hA (show ¬ ((e : Nat) : Int) = -1 by omega)
theorem rA_bounds (tx : Nat → Int) (len : Nat) : ∀ f p, p ≤ len + 1 → -1 ≤ (rA tx len f p).1 ∧ (rA tx len f p).1 ≤ len + 2
  | 0, p, h => by show -1 ≤ (p : Int) ∧ (p : Int) ≤ len + 2; omega
  | f + 1, p, h => by
    cases hod : od tx len p with
    | mk o e =>
      rw [rA, hod]
      cases o with
      | none =>
        have := od_none_le hod
        dsimp only
        omega
      | some o =>
        have hok := od_ok hod
        dsimp only
        split
        · dsimp only; omega
        · split
          · exact rA_bounds tx len f (e + 1) (by omega)
          · dsimp only; omega
set_option maxRecDepth 20000 in
set_option maxHeartbeats 4000000 in
theorem m_perform {I : xI} {s : xS} {hs : List xS} {sn : Option xS} {tx : Nat → Int} {len : Nat} (hM : MI I s hs sn tx len) (hg : CG s hs sn tx len) : S kX5_perform 9 [rr 88] I (q_i (fun ans I1 => ans = (oPerform s tx len).1 ∧ MI I1 (nxS s (oPerform s tx len)) (nxH s hs (oPerform s tx len)) sn tx len ∧ MX I I1)) := by
  have h24 := hg.1.1.n24
  have h60 := hg.2.2.2.1
  have hf := t5_fault hM.ti hg.2.2.2
  have hb := rA_bounds tx len 30 0 (by omega)
  refine Sp_intro (by decide +kernel) (Nat.le_of_ble_eq_true rfl) ?_
  show Y kX5_perform 9 0 [some (rr 88), none, none, none, none] [] I _
  by_cases c : (rA tx len 30 0).1 = -1
  · have e1 : oPerform s tx len = pE s s (rA tx len 30 0).2 0 := by
      unfold oPerform pE
      rw [if_pos c, show ((0 : Nat) : Int) + ((rA tx len 30 0).2.length : Int) = ((rA tx len 30 0).2.length : Int) by omega]
    rw [show fP (rA tx len 30 0).1 = -5 by unfold fP; rw [if_pos c]] at hf
    refine X_aload dX5_perform_0 rfl ?_
    refine Y_pV dX5_perform_1 cv_X5_126 sh_88 (by decide) hf rfl ?_
    refine X_istore dX5_perform_4 (by decide) ?_
    dsimp only [List.set]
    refine X_iload dX5_perform_5 rfl ?_
    refine X_bipush dX5_perform_6 (by decide) ?_
    refine X_icmp_eq (tgt := 16) dX5_perform_8 (by decide) (by decide) (fun c_8 => ?_) (fun c_8 => absurd rfl c_8)
    refine X_aload dX5_perform_16 rfl ?_
    refine Y_vV dX5_perform_17 cv_X5_84 sh_88 (by decide) (t5_copies I) rfl (fun I1 h1 => ?_)
    have hRb := h1.rr hM.1 (by omega)
    refine X_iconst dX5_perform_20 ?_
    refine X_istore dX5_perform_21 (by decide) ?_
    dsimp only [List.set]
    refine X_iconst dX5_perform_22 ?_
    refine X_istore dX5_perform_23 (by decide) ?_
    dsimp only [List.set]
    have h9 := fun fa => t5_perf_loop hM hg (fa := fa) 30 0 0 s I1 c h1.2.wf hRb hg.1
    rw [e1]
    generalize rA tx len 30 0 = R at h9 ⊢
    exact h9 (-5)
  · have e1 : (oPerform s tx len).1 = -100 - (rA tx len 30 0).1 := by unfold oPerform; rw [if_neg c]
    rw [show fP (rA tx len 30 0).1 = (rA tx len 30 0).1 by unfold fP; rw [if_neg c]] at hf
    refine X_aload dX5_perform_0 rfl ?_
    refine Y_pV dX5_perform_1 cv_X5_126 sh_88 (by decide) hf rfl ?_
    refine X_istore dX5_perform_4 (by decide) ?_
    dsimp only [List.set]
    refine X_iload dX5_perform_5 rfl ?_
    refine X_bipush dX5_perform_6 (by decide) ?_
    refine X_icmp_eq (tgt := 16) dX5_perform_8 (by decide) (by omega) (fun c_8 => absurd c_8 (by omega)) (fun c_8 => ?_)
    refine X_bipush dX5_perform_11 (by decide) ?_
    refine X_iload dX5_perform_13 rfl ?_
    refine X_isub dX5_perform_14 ?_
    refine X_iret dX5_perform_15 (Or.inl rfl) ?_
    exact ⟨rfl, rfl, _, rfl, e1.symm, hM.nx (by rw [e1]; omega), MX.rf⟩
