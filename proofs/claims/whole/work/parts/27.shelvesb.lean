/-! HeatShelves: texts, history -/
theorem rA_ok {tx : Nat → Int} {len : Nat} : ∀ (f p : Nat), ∀ o ∈ (rA tx len f p).2, okO o
  | 0, p, o, h => by cases h
  | f + 1, p, o, h => by
    unfold rA at h
    split at h
    · cases h
    · rename_i o1 e hod
      have h1 := (od_ok hod).1
      split at h
      · rw [List.mem_singleton.mp h]; exact h1
      · split at h
        · rcases List.mem_cons.mp h with q | q
          · rw [q]; exact h1
          · exact rA_ok f (e + 1) o q
        · rw [List.mem_singleton.mp h]; exact h1
theorem AR.ft {I I1 : xI} {os : List xO} (h : AR I os) (hF : FT I I1 12) : AR I1 os := ⟨by rw [hF 83 (by omega) (by decide) (by decide)]; exact h.1, fun q o hq => by rw [hF 85 (by omega) (by decide) (by decide), hF 86 (by omega) (by decide) (by decide), hF 87 (by omega) (by decide) (by decide)]; exact h.2 q o hq⟩
set_option maxRecDepth 20000 in
set_option maxHeartbeats 4000000 in
theorem w_do {I : xI} {s : xS} (hR : RS I 12 s.1 s.2) (hS : SG s) {os : List xO} (hA : AR I os) (j : Nat) (hj : j < 30) (o : xO) (hjo : os[j]? = some o) (hok : okO o) : S kX4_performInWork 6 [rr 0, ii (j : Int)] I (q_i (opQ I (oDo s o))) := by
  have ho := hA.2 j o hjo
  have hkr : 0 ≤ o.1 ∧ o.1 ≤ 1000 := by unfold okO at hok; omega
  refine Sp_intro (by decide +kernel) (Nat.le_of_ble_eq_true rfl) ?_
  show Y kX4_performInWork 6 0 [some (rr 0), some (ii (j : Int)), none, none] [] I _
  refine X_aload dX4_performInWork_0 rfl ?_
  refine X_getR dX4_performInWork_1 rfl gf_X4_43 sh_0 (by decide) rfl rf_0_6 ?_
  refine X_getR dX4_performInWork_4 rfl gf_X4_186 sh_83 (by decide) rfl rf_83_2 ?_
  refine X_iload dX4_performInWork_7 rfl ?_
  refine Y_pS dX4_performInWork_8 cs_X4_108 (t_atk sh_85 (Or.inl (by decide)) _ j (by omega) rfl) rfl ?_
  rw [ho.1]
  refine X_istore dX4_performInWork_11 (by decide) ?_
  dsimp only [List.set]
  refine X_aload dX4_performInWork_12 rfl ?_
  refine X_getR dX4_performInWork_13 rfl gf_X4_43 sh_0 (by decide) rfl rf_0_6 ?_
  refine X_getR dX4_performInWork_16 rfl gf_X4_189 sh_83 (by decide) rfl rf_83_3 ?_
  refine X_iload dX4_performInWork_19 rfl ?_
  refine Y_pS dX4_performInWork_20 cs_X4_108 (t_atk sh_86 (Or.inl (by decide)) _ j (by omega) rfl) rfl ?_
  rw [ho.2.1]
  refine X_istore dX4_performInWork_23 (by decide) ?_
  dsimp only [List.set]
  refine X_iload dX4_performInWork_24 rfl ?_
  refine X_bipush dX4_performInWork_25 (by decide) ?_
  refine X_icmp_ne (tgt := 39) dX4_performInWork_27 (by decide) (by omega) (fun c_27 => ?_) (fun c_27 => ?_)
  · refine X_iload dX4_performInWork_39 rfl ?_
    refine X_bipush dX4_performInWork_40 (by decide) ?_
    refine X_icmp_ne (tgt := 54) dX4_performInWork_42 (by decide) (by omega) (fun c_42 => ?_) (fun c_42 => ?_)
    · refine X_iload dX4_performInWork_54 rfl ?_
      refine X_bipush dX4_performInWork_55 (by decide) ?_
      refine X_icmp_ne (tgt := 80) dX4_performInWork_57 (by decide) (by omega) (fun c_57 => ?_) (fun c_57 => ?_)
      · refine X_iload dX4_performInWork_80 rfl ?_
        refine X_bipush dX4_performInWork_81 (by decide) ?_
        refine X_icmp_ne (tgt := 95) dX4_performInWork_83 (by decide) (by omega) (fun c_83 => ?_) (fun c_83 => ?_)
        · refine X_aload dX4_performInWork_95 rfl ?_
          refine X_iload dX4_performInWork_96 rfl ?_
          refine Y_iV dX4_performInWork_97 cv_X4_69 sh_0 (by decide) (w_pass hR hS o.2.1 (by unfold okO at hok; omega)) rfl (fun z9 I9 h9 => ?_)
          refine X_iret dX4_performInWork_100 (Or.inl rfl) ?_
          unfold oDo
          rw [if_neg (by omega), if_neg (by omega), if_neg (by omega), if_neg (by omega)]
          exact ⟨rfl, rfl, _, rfl, h9⟩
        · refine X_aload dX4_performInWork_86 rfl ?_
          refine X_getR dX4_performInWork_87 rfl gf_X4_16 sh_0 (by decide) rfl rf_0_1 ?_
          refine X_iload dX4_performInWork_90 rfl ?_
          refine Y_iV dX4_performInWork_91 cv_X4_195 sh_12 (by decide) (w_flip hR hS o.2.1 (by unfold okO at hok; omega)) rfl (fun z9 I9 h9 => ?_)
          refine X_iret dX4_performInWork_94 (Or.inl rfl) ?_
          unfold oDo
          rw [if_neg (by omega), if_neg (by omega), if_neg (by omega), if_pos (by omega)]
          exact ⟨rfl, rfl, _, rfl, h9⟩
      · refine X_aload dX4_performInWork_60 rfl ?_
        refine X_getR dX4_performInWork_61 rfl gf_X4_16 sh_0 (by decide) rfl rf_0_1 ?_
        refine X_iload dX4_performInWork_64 rfl ?_
        refine X_aload dX4_performInWork_65 rfl ?_
        refine X_getR dX4_performInWork_66 rfl gf_X4_43 sh_0 (by decide) rfl rf_0_6 ?_
        refine X_getR dX4_performInWork_69 rfl gf_X4_192 sh_83 (by decide) rfl rf_83_4 ?_
        refine X_iload dX4_performInWork_72 rfl ?_
        refine Y_pS dX4_performInWork_73 cs_X4_108 (t_atk sh_87 (Or.inl (by decide)) _ j (by omega) rfl) rfl ?_
        rw [ho.2.2]
        refine Y_iV dX4_performInWork_76 cv_X4_61 sh_12 (by decide) (w_read hR hS o.2.1 (by unfold okO at hok; omega) o.2.2 (by unfold okO at hok; omega)) rfl (fun z9 I9 h9 => ?_)
        refine X_iret dX4_performInWork_79 (Or.inl rfl) ?_
        unfold oDo
        rw [if_neg (by omega), if_neg (by omega), if_pos (by omega)]
        exact ⟨rfl, rfl, _, rfl, h9⟩
    · refine X_aload dX4_performInWork_45 rfl ?_
      refine X_getR dX4_performInWork_46 rfl gf_X4_16 sh_0 (by decide) rfl rf_0_1 ?_
      refine X_iload dX4_performInWork_49 rfl ?_
      refine Y_iV dX4_performInWork_50 cv_X4_58 sh_12 (by decide) (w_rem hR hS o.2.1 (by unfold okO at hok; omega)) rfl (fun z9 I9 h9 => ?_)
      refine X_iret dX4_performInWork_53 (Or.inl rfl) ?_
      unfold oDo
      rw [if_neg (by omega), if_pos (by omega)]
      exact ⟨rfl, rfl, _, rfl, h9⟩
  · refine X_aload dX4_performInWork_30 rfl ?_
    refine X_getR dX4_performInWork_31 rfl gf_X4_16 sh_0 (by decide) rfl rf_0_1 ?_
    refine X_iload dX4_performInWork_34 rfl ?_
    refine Y_iV dX4_performInWork_35 cv_X4_51 sh_12 (by decide) (w_add hR hS o.2.1 (by unfold okO at hok; omega)) rfl (fun z9 I9 h9 => ?_)
    refine X_iret dX4_performInWork_38 (Or.inl rfl) ?_
    unfold oDo
    rw [if_pos (by omega)]
    exact ⟨rfl, rfl, _, rfl, h9⟩
def pfR (L : Nat) (s : xS) (e : Int × xS) : Int × xS := if e.1 < 0 then (e.1, s) else ((L : Int), e.2)
theorem oPerform_eq (s : xS) (tx : Nat → Int) (len : Nat) (h : (rA tx len 30 0).1 = -1) : oPerform s tx len = pfR (rA tx len 30 0).2.length s (exA (rA tx len 30 0).2 s) := by
  unfold oPerform pfR
  rw [if_pos h]
theorem rA_len {tx : Nat → Int} {len : Nat} : ∀ (f p : Nat), (rA tx len f p).2.length ≤ f
  | 0, p => Nat.le_refl 0
  | f + 1, p => by
    unfold rA
    split
    · show 0 ≤ f + 1; omega
    · split
      · show 1 ≤ f + 1; omega
      · split
        · show (rA tx len f _).2.length + 1 ≤ f + 1
          have := rA_len (tx := tx) (len := len) f
          exact Nat.succ_le_succ (this _)
        · show 1 ≤ f + 1; omega
set_option maxRecDepth 20000 in
set_option maxHeartbeats 4000000 in
theorem pu_perform_loop {I : xI} {s : xS} {hs : List xS} {sn : Option xS} {tx : Nat → Int} {len : Nat} (hg : CG s hs sn tx len) (os : List xO) (hl : os.length ≤ 30) (hokA : ∀ o ∈ os, okO o) (fa : Int) : ∀ (rest : List xO) (cur : xS) (os1 : List xO) (I1 : xI), os = os1 ++ rest → CI I1 s hs sn tx len → AR I1 os → RS I1 12 cur.1 cur.2 → SG cur → FX I I1 → Y kX4_perform 7 31 [some (rr 0), some (ii fa), some (ii (os1.length : Int)), none] [] I1 (q_i (fun ans I2 => ans = (pfR os.length s (exA rest cur)).1 ∧ CI I2 (nxS s (pfR os.length s (exA rest cur))) (nxH s hs (pfR os.length s (exA rest cur))) sn tx len ∧ FX I I2)) := by
  intro rest
  induction rest with
  | nil =>
    intro cur os1 I1 hos hC hA hR hS hX
    have hlen : os.length = os1.length := by rw [hos, List.append_nil]
    refine X_iload dX4_perform_31 rfl ?_
    refine X_aload dX4_perform_32 rfl ?_
    refine X_getR dX4_perform_33 rfl gf_X4_43 sh_0 (by decide) rfl rf_0_6 ?_
    refine X_getI dX4_perform_36 rfl gf_X4_86 sh_83 (by decide) rfl ?_
    rw [hA.1]
    refine X_icmp_ge (tgt := 60) dX4_perform_39 (by decide) (by omega) (fun c_39 => ?_) (fun c_39 => absurd c_39 (by omega))
    refine X_aload dX4_perform_60 rfl ?_
    refine X_aload dX4_perform_61 rfl ?_
    refine X_getR dX4_perform_62 rfl gf_X4_43 sh_0 (by decide) rfl rf_0_6 ?_
    refine X_getI dX4_perform_65 rfl gf_X4_86 sh_83 (by decide) rfl ?_
    rw [hA.1]
    refine Y_iV dX4_perform_68 cv_X4_55 sh_0 (by decide) (t_settle hC hg ((os.length : Int), cur) (by unfold small; dsimp only; omega) (fun _ => ⟨hR, hS.1.n24⟩)) rfl (fun z2 I2 h2 => ?_)
    refine X_iret dX4_perform_71 (Or.inl rfl) ?_
    exact ⟨rfl, rfl, _, rfl, h2.1, h2.2.1, hX.trans h2.2.2⟩
  | cons o rest ih =>
    intro cur os1 I1 hos hC hA hR hS hX
    have hlen : os.length = os1.length + (rest.length + 1) := by rw [hos, List.length_append]; rfl
    have hjo : os[os1.length]? = some o := by rw [hos, List.getElem?_append_right (Nat.le_refl _), Nat.sub_self]; rfl
    have hok := hokA o (by rw [hos]; exact List.mem_append_right _ List.mem_cons_self)
    have hdo := oDo_ok hS o
    obtain ⟨j, ej⟩ : ∃ j, j = os1.length := ⟨_, rfl⟩
    rw [← ej] at hlen hjo ⊢
    refine X_iload dX4_perform_31 rfl ?_
    refine X_aload dX4_perform_32 rfl ?_
    refine X_getR dX4_perform_33 rfl gf_X4_43 sh_0 (by decide) rfl rf_0_6 ?_
    refine X_getI dX4_perform_36 rfl gf_X4_86 sh_83 (by decide) rfl ?_
    rw [hA.1]
    refine X_icmp_ge (tgt := 60) dX4_perform_39 (by decide) (by omega) (fun c_39 => absurd c_39 (by omega)) (fun c_39 => ?_)
    refine X_aload dX4_perform_42 rfl ?_
    refine X_iload dX4_perform_43 rfl ?_
    refine Y_iV dX4_perform_44 cv_X4_90 sh_0 (by decide) (w_do hR hS hA j (by omega) o hjo hok) rfl (fun z1 I1 h1 => ?_)
    obtain ⟨rfl, hF1, hRR⟩ := h1
    refine X_istore dX4_perform_47 (by decide) ?_
    dsimp only [List.set]
    refine X_iload dX4_perform_48 rfl ?_
    refine X_if_ge (tgt := 54) dX4_perform_49 (by decide) (by have := hdo.1; unfold small at this; omega) (fun c_49 => ?_) (fun c_49 => ?_)
    · refine X_iinc dX4_perform_54 rfl ?_
      dsimp only [List.set]
      refine X_goto (tgt := 31) dX4_perform_57 (by decide) ?_
      refine X_drop 3 ?_
      dsimp only [List.set]
      have e1 : exA (o :: rest) cur = exA rest (oDo cur o).2 := by show (if _ then _ else _ : Int × xS) = _; rw [if_neg (by omega)]
      rw [e1]
      have h9 := ih (oDo cur o).2 (os1 ++ [o]) I1 (by rw [hos, List.append_assoc]; rfl) (hC.sc hF1.sf) (hA.ft hF1) (hRR c_49) (hdo.2 c_49) (hX.trans hF1.sf.fx)
      rw [List.length_append, ← ej] at h9
      exact h9
    · refine X_iload dX4_perform_52 rfl ?_
      refine X_iret dX4_perform_53 (Or.inl rfl) ?_
      have e1 : exA (o :: rest) cur = ((oDo cur o).1, cur) := by unfold exA; rw [if_pos (by omega)]
      rw [e1]
      have e2 : pfR os.length s ((oDo cur o).1, cur) = ((oDo cur o).1, s) := by unfold pfR; rw [if_pos (by dsimp only; omega)]
      rw [e2]
      refine ⟨rfl, rfl, _, rfl, rfl, ?_, hX.trans hF1.sf.fx⟩
      unfold nxS nxH
      rw [if_neg (by dsimp only; omega), if_neg (by dsimp only; omega)]
      exact hC.sc hF1.sf
theorem rA_r0 (tx : Nat → Int) (len : Nat) : ∀ (f p : Nat), p ≤ len + 1 → -1 ≤ (rA tx len f p).1 ∧ (rA tx len f p).1 ≤ len + 3
  | 0, p, hp => by show -1 ≤ (p : Int) ∧ (p : Int) ≤ len + 3; omega
  | f + 1, p, hp => by
    unfold rA
    split
    · rename_i e hod
      have he : e ≤ len + 3 := by
        unfold od at hod
        split at hod
        · rename_i hk
          have hpl : p < len := sg_lt (tx := tx) (len := len) (i := p) (fun q => by have := kd_iff.mp hk; omega)
          split at hod
          · cases hod; omega
          · rename_i v e1 hn
            have hn1 := num_ok (grO_9 _).1 (lsO_01 _).1 hn
            split at hod
            · split at hod
              · cases hod; omega
              · cases hod
            · cases hod
        · cases hod; omega
      show -1 ≤ (e : Int) ∧ (e : Int) ≤ len + 3
      omega
    · rename_i o e hod
      have h1 := od_ok hod
      split
      · show -1 ≤ (-1 : Int) ∧ (-1 : Int) ≤ len + 3; omega
      · split
        · exact rA_r0 tx len f (e + 1) (by omega)
        · show -1 ≤ (e : Int) ∧ (e : Int) ≤ len + 3; omega
theorem rA_r (tx : Nat → Int) (len : Nat) (hT : TB tx len) : -1 ≤ (rA tx len 30 0).1 ∧ (rA tx len 30 0).1 ≤ 63 := by
  have h1 := rA_r0 tx len 30 0 (by omega)
  have h2 := hT.1
  omega
set_option maxRecDepth 20000 in
set_option maxHeartbeats 4000000 in
theorem pu_perform {I : xI} {s : xS} {hs : List xS} {sn : Option xS} {tx : Nat → Int} {len : Nat} (hC : CI I s hs sn tx len) (hg : CG s hs sn tx len) : S kX4_perform 7 [rr 0] I (q_i (fun ans I1 => ans = (oPerform s tx len).1 ∧ CI I1 (nxS s (oPerform s tx len)) (nxH s hs (oPerform s tx len)) sn tx len ∧ FX I I1)) := by
  refine Sp_intro (by decide +kernel) (Nat.le_of_ble_eq_true rfl) ?_
  show Y kX4_perform 7 0 [some (rr 0), none, none, none] [] I _
  refine X_aload dX4_perform_0 rfl ?_
  refine X_getR dX4_perform_1 rfl gf_X4_43 sh_0 (by decide) rfl rf_0_6 ?_
  refine Y_iV dX4_perform_4 cv_X4_83 sh_83 (by decide) (t_readAll hg.2.2.2 hC.2.2.2.2.1 hC.2.2.2.2.2) rfl (fun z4 I4 h4 => ?_)
  obtain ⟨rfl, hF4, hO4, hA4⟩ := h4
  have hsf : SF I I4 := ⟨fun q hq => hF4 q (by omega), by rw [hO4.1]; exact hC.2.2.2.2.1.symm⟩
  have hC4 := hC.sc hsf
  refine X_istore dX4_perform_7 (by decide) ?_
  dsimp only [List.set]
  refine X_iload dX4_perform_8 rfl ?_
  refine X_iconst dX4_perform_9 ?_
  refine X_icmp_eq (tgt := 18) dX4_perform_10 (by decide) (by have := rA_r tx len hg.2.2.2; omega) (fun c_10 => ?_) (fun c_10 => ?_)
  · refine X_aload dX4_perform_18 rfl ?_
    refine X_getR dX4_perform_19 rfl gf_X4_16 sh_0 (by decide) rfl rf_0_1 ?_
    refine X_aload dX4_perform_22 rfl ?_
    refine X_getR dX4_perform_23 rfl gf_X4_10 sh_0 (by decide) rfl rf_0_0 ?_
    refine Y_vV dX4_perform_26 cv_X4_47 sh_12 (by decide) (t_copyFrom st12 st1 (by decide) hC4.2.1 hg.1.1.n24) rfl (fun I26 h26 => ?_)
    have hC26 := hC4.sc h26.2.sf
    refine X_iconst dX4_perform_29 ?_
    refine X_istore dX4_perform_30 (by decide) ?_
    dsimp only [List.set]
    have hA26 := (hA4 c_10).ft h26.2.t
    rw [oPerform_eq s tx len c_10]
    refine X_weaken (pu_perform_loop (I := I) hg (rA tx len 30 0).2 (rA_len 30 0) (rA_ok 30 0) _ (rA tx len 30 0).2 s [] I26 rfl hC26 hA26 h26.1 hg.1 (hsf.trans h26.2.sf).fx) (fun ro N1 I1 R1 h => h)
  · refine X_bipush dX4_perform_13 (by decide) ?_
    refine X_iload dX4_perform_15 rfl ?_
    refine X_isub dX4_perform_16 ?_
    refine X_iret dX4_perform_17 (Or.inl rfl) ?_
    have e1 : oPerform s tx len = (-100 - (rA tx len 30 0).1, s) := by unfold oPerform; rw [if_neg c_10]
    rw [e1]
    refine ⟨rfl, rfl, _, rfl, rfl, ?_, hsf.fx⟩
    have hrr := rA_r tx len hg.2.2.2
    unfold nxS nxH
    rw [if_neg (by dsimp only; omega), if_neg (by dsimp only; omega)]
    exact hC4
theorem undo_ok {I K : xI} {s s' : xS} {hs hs' : List xS} {sn : Option xS} {tx : Nat → Int} {len : Nat} (hC : CI I s hs sn tx len) (h1 : RS K 1 s'.1 s'.2) (h2 : HI K hs') (h3 : ∀ q, (q < 1 ∨ 12 ≤ q) → q ≠ 34 → K q = I q) : CI K s' hs' sn tx len := by
  obtain ⟨c1, c2, c3, c4, c5, c6⟩ := hC
  exact ⟨c1.keep (fun q hq => h3 q (by omega) (by omega)), h1, h2, c4.keep (fun q hq => h3 q (by omega) (by omega)), by rw [h3 83 (by omega) (by decide)]; exact c5, fun j hj => by rw [h3 84 (by omega) (by decide)]; exact c6 j hj⟩
set_option maxRecDepth 20000 in
set_option maxHeartbeats 4000000 in
theorem pu_undo0 {I : xI} {s : xS} {sn : Option xS} {tx : Nat → Int} {len : Nat} (hC : CI I s [] sn tx len) : S kX4_undo 4 [rr 0] I (q_i (fun ans I1 => ans = -5 ∧ CI I1 s [] sn tx len ∧ FX I I1)) := by
  refine Sp_intro (by decide +kernel) (Nat.le_of_ble_eq_true rfl) ?_
  show Y kX4_undo 4 0 [some (rr 0)] [] I _
  refine X_aload dX4_undo_0 rfl ?_
  refine X_getR dX4_undo_1 rfl gf_X4_29 sh_0 (by decide) rfl rf_0_4 ?_
  refine X_aload dX4_undo_4 rfl ?_
  refine X_getR dX4_undo_5 rfl gf_X4_10 sh_0 (by decide) rfl rf_0_0 ?_
  refine Y_iV dX4_undo_8 cv_X4_93 sh_34 (by decide) (t_take0 hC.2.2.1) rfl (fun z8 I8 h8 => ?_)
  obtain ⟨rfl, rfl⟩ := h8
  refine X_if_ne (tgt := 17) dX4_undo_11 (by decide) (by decide) (fun c_11 => absurd rfl c_11) (fun c_11 => ?_)
  refine X_bipush dX4_undo_14 (by decide) ?_
  refine X_iret dX4_undo_16 (Or.inl rfl) ?_
  exact ⟨rfl, rfl, _, rfl, rfl, hC, fun _ _ => rfl⟩
set_option maxRecDepth 20000 in
set_option maxHeartbeats 4000000 in
theorem pu_undo1 {I : xI} {s q : xS} {hs : List xS} {sn : Option xS} {tx : Nat → Int} {len : Nat} (hC : CI I s (hs ++ [q]) sn tx len) (hl : hs.length < 4) (hq24 : q.2 ≤ 24) : S kX4_undo 4 [rr 0] I (q_i (fun ans I1 => ans = (hs.length : Int) ∧ CI I1 q hs sn tx len ∧ FX I I1)) := by
  refine Sp_intro (by decide +kernel) (Nat.le_of_ble_eq_true rfl) ?_
  show Y kX4_undo 4 0 [some (rr 0)] [] I _
  refine X_aload dX4_undo_0 rfl ?_
  refine X_getR dX4_undo_1 rfl gf_X4_29 sh_0 (by decide) rfl rf_0_4 ?_
  refine X_aload dX4_undo_4 rfl ?_
  refine X_getR dX4_undo_5 rfl gf_X4_10 sh_0 (by decide) rfl rf_0_0 ?_
  refine Y_iV dX4_undo_8 cv_X4_93 sh_34 (by decide) (t_take1 hC.2.2.1 hl hq24) rfl (fun z8 I8 h8 => ?_)
  obtain ⟨rfl, hR8, hH8, hF8⟩ := h8
  refine X_if_ne (tgt := 17) dX4_undo_11 (by decide) (by decide) (fun c_11 => ?_) (fun c_11 => absurd c_11 (by decide))
  refine X_aload dX4_undo_17 rfl ?_
  refine X_getR dX4_undo_18 rfl gf_X4_29 sh_0 (by decide) rfl rf_0_4 ?_
  refine X_getI dX4_undo_21 rfl gf_X4_97 sh_34 (by decide) rfl ?_
  obtain ⟨f8, hf8⟩ := hH8
  rw [hf8.2.2.1]
  refine X_iret dX4_undo_24 (Or.inl rfl) ?_
  refine ⟨rfl, rfl, _, rfl, rfl, undo_ok hC hR8 ⟨f8, hf8⟩ hF8, fun q hq => hF8 q (by omega) (by omega)⟩
theorem keep_ok {I K : xI} {s : xS} {hs : List xS} {sn : Option xS} {tx : Nat → Int} {len : Nat} (hC : CI I s hs sn tx len) (h1 : RS K 23 s.1 s.2) (h2 : FR I K 23) : CI (x_up K 0 3 1) s hs (some s) tx len := by
  obtain ⟨c1, c2, c3, c4, c5, c6⟩ := hC
  have e : ∀ q, 0 < q → (q ≤ 23 ∨ 34 ≤ q) → x_up K 0 3 1 q = I q := fun q a b => by rw [x_up_ne (by omega)]; exact h2 q (by omega)
  exact ⟨c1.keep (fun q hq => e q (by omega) (by omega)), c2.keep (fun q a b => e q (by omega) (by omega)), c3.keep (fun q a b => e q (by omega) (by omega)), ⟨x_up_same, h1.keep (fun q a b => x_up_ne (by omega))⟩, by rw [e 83 (by omega) (by omega)]; exact c5, fun j hj => by rw [e 84 (by omega) (by omega)]; exact c6 j hj⟩
set_option maxRecDepth 20000 in
set_option maxHeartbeats 4000000 in
theorem pu_keep {I : xI} {s : xS} {hs : List xS} {sn : Option xS} {tx : Nat → Int} {len : Nat} (hC : CI I s hs sn tx len) (hg : CG s hs sn tx len) : S kX4_keep 3 [rr 0] I (q_i (fun ans I1 => ans = (s.2 : Int) ∧ CI I1 s hs (some s) tx len ∧ FX I I1)) := by
  refine Sp_intro (by decide +kernel) (Nat.le_of_ble_eq_true rfl) ?_
  show Y kX4_keep 3 0 [some (rr 0)] [] I _
  refine X_aload dX4_keep_0 rfl ?_
  refine X_getR dX4_keep_1 rfl gf_X4_19 sh_0 (by decide) rfl rf_0_2 ?_
  refine X_aload dX4_keep_4 rfl ?_
  refine X_getR dX4_keep_5 rfl gf_X4_10 sh_0 (by decide) rfl rf_0_0 ?_
  refine Y_vV dX4_keep_8 cv_X4_47 sh_23 (by decide) (t_copyFrom st23 st1 (by decide) hC.2.1 hg.1.1.n24) rfl (fun I8 h8 => ?_)
  refine X_aload dX4_keep_11 rfl ?_
  refine X_iconst dX4_keep_12 ?_
  refine X_putI dX4_keep_13 rfl pf_X4_22 sh_0 (by decide) rfl (Or.inr ⟨rfl, Or.inr rfl⟩) ?_
  have hk := keep_ok hC h8.1 h8.2
  refine X_aload dX4_keep_16 rfl ?_
  refine X_getR dX4_keep_17 rfl gf_X4_10 sh_0 (by decide) rfl rf_0_0 ?_
  refine Y_pV dX4_keep_20 cv_X4_98 sh_1 (by decide) (t_countBlocks st1 hk.2.1 hg.1.1) rfl ?_
  refine X_iret dX4_keep_23 (Or.inl rfl) ?_
  exact ⟨rfl, rfl, _, rfl, rfl, hk, fun q hq => by rw [x_up_ne (by omega)]; exact h8.2 q (by omega)⟩
set_option maxRecDepth 20000 in
set_option maxHeartbeats 4000000 in
theorem pu_restore0 {I : xI} {s : xS} {hs : List xS} {tx : Nat → Int} {len : Nat} (hC : CI I s hs none tx len) : S kX4_restore 5 [rr 0] I (q_i (fun ans I1 => ans = -5 ∧ CI I1 s hs none tx len ∧ FX I I1)) := by
  refine Sp_intro (by decide +kernel) (Nat.le_of_ble_eq_true rfl) ?_
  show Y kX4_restore 5 0 [some (rr 0)] [] I _
  refine X_aload dX4_restore_0 rfl ?_
  refine X_getI dX4_restore_1 rfl gf_X4_22 sh_0 (by decide) rfl ?_
  rw [show I 0 3 = 0 from hC.2.2.2.1]
  refine X_if_ne (tgt := 10) dX4_restore_4 (by decide) (by decide) (fun c_4 => absurd rfl c_4) (fun c_4 => ?_)
  refine X_bipush dX4_restore_7 (by decide) ?_
  refine X_iret dX4_restore_9 (Or.inl rfl) ?_
  exact ⟨rfl, rfl, _, rfl, rfl, hC, fun _ _ => rfl⟩
set_option maxRecDepth 20000 in
set_option maxHeartbeats 4000000 in
theorem pu_restore1 {I : xI} {s q : xS} {hs : List xS} {tx : Nat → Int} {len : Nat} (hC : CI I s hs (some q) tx len) (hg : CG s hs (some q) tx len) : S kX4_restore 5 [rr 0] I (q_i (fun ans I1 => ans = (q.2 : Int) ∧ CI I1 (nxS s ((q.2 : Int), q)) (nxH s hs ((q.2 : Int), q)) (some q) tx len ∧ FX I I1)) := by
  have hq := hg.2.2.1 q rfl
  refine Sp_intro (by decide +kernel) (Nat.le_of_ble_eq_true rfl) ?_
  show Y kX4_restore 5 0 [some (rr 0)] [] I _
  refine X_aload dX4_restore_0 rfl ?_
  refine X_getI dX4_restore_1 rfl gf_X4_22 sh_0 (by decide) rfl ?_
  rw [show I 0 3 = 1 from hC.2.2.2.1.1]
  refine X_if_ne (tgt := 10) dX4_restore_4 (by decide) (by decide) (fun c_4 => ?_) (fun c_4 => absurd c_4 (by decide))
  refine X_aload dX4_restore_10 rfl ?_
  refine X_getR dX4_restore_11 rfl gf_X4_16 sh_0 (by decide) rfl rf_0_1 ?_
  refine X_aload dX4_restore_14 rfl ?_
  refine X_getR dX4_restore_15 rfl gf_X4_19 sh_0 (by decide) rfl rf_0_2 ?_
  refine Y_vV dX4_restore_18 cv_X4_47 sh_12 (by decide) (t_copyFrom st12 st23 (by decide) hC.2.2.2.1.2 hq.1.n24) rfl (fun I18 h18 => ?_)
  have hC18 := hC.sc h18.2.sf
  refine X_aload dX4_restore_21 rfl ?_
  refine X_aload dX4_restore_22 rfl ?_
  refine X_getR dX4_restore_23 rfl gf_X4_19 sh_0 (by decide) rfl rf_0_2 ?_
  refine Y_pV dX4_restore_26 cv_X4_98 sh_23 (by decide) (t_countBlocks st23 hC18.2.2.2.1.2 hq.1) rfl ?_
  refine Y_iV dX4_restore_29 cv_X4_55 sh_0 (by decide) (t_settle hC18 hg ((q.2 : Int), q) (by have := hq.1.n24; unfold small; dsimp only; omega) (fun _ => ⟨h18.1, hq.1.n24⟩)) rfl (fun z2 I2 h2 => ?_)
  refine X_iret dX4_restore_32 (Or.inl rfl) ?_
  exact ⟨rfl, rfl, _, rfl, h2.1, h2.2.1, h18.2.sf.fx.trans h2.2.2⟩
def tyT (tx : Nat → Int) (len : Nat) (z : Int) : Nat → Int := fun j => if j = len then z else tx j
theorem type_ok {I : xI} {s : xS} {hs : List xS} {sn : Option xS} {tx : Nat → Int} {len : Nat} (hC : CI I s hs sn tx len) (z : Int) : CI (x_up (x_up I 84 len z) 83 1 ((len : Int) + 1)) s hs sn (tyT tx len z) (len + 1) := by
  obtain ⟨c1, c2, c3, c4, c5, c6⟩ := hC
  have e : ∀ q, q ≠ 83 → q ≠ 84 → x_up (x_up I 84 len z) 83 1 ((len : Int) + 1) q = I q := fun q a b => by rw [x_up_ne a, x_up_ne b]
  refine ⟨c1.keep (fun q hq => e q (by omega) (by omega)), c2.keep (fun q a b => e q (by omega) (by omega)), c3.keep (fun q a b => e q (by omega) (by omega)), c4.keep (fun q hq => e q (by omega) (by omega)), x_up_same, fun j hj => ?_⟩
  rw [x_up_off (by decide), x_up_app]
  unfold tyT
  by_cases q : j = len
  · rw [if_pos ⟨rfl, q⟩, if_pos q]
  · rw [if_neg (by omega), if_neg q]; exact c6 j (by omega)
theorem clear_ok {I : xI} {s : xS} {hs : List xS} {sn : Option xS} {tx : Nat → Int} {len : Nat} (hC : CI I s hs sn tx len) : CI (x_up I 83 1 0) s hs sn tx 0 := by
  obtain ⟨c1, c2, c3, c4, c5, c6⟩ := hC
  have e : ∀ q, q ≠ 83 → x_up I 83 1 0 q = I q := fun q a => x_up_ne a
  exact ⟨c1.keep (fun q hq => e q (by omega)), c2.keep (fun q a b => e q (by omega)), c3.keep (fun q a b => e q (by omega)), c4.keep (fun q hq => e q (by omega)), x_up_same, fun j hj => absurd hj (Nat.not_lt_zero j)⟩
set_option maxRecDepth 20000 in
set_option maxHeartbeats 4000000 in
theorem pu_type {I : xI} {s : xS} {hs : List xS} {sn : Option xS} {tx : Nat → Int} {len : Nat} (hC : CI I s hs sn tx len) (hg : CG s hs sn tx len) (z : Int) : S kX4_type 2 [rr 0, ii z] I (q_i (fun ans I1 => (len = 60 ∧ ans = -3 ∧ CI I1 s hs sn tx len ∧ FX I I1) ∨ (len < 60 ∧ ans = (len : Int) + 1 ∧ CI I1 s hs sn (tyT tx len z) (len + 1) ∧ FX I I1))) := by
  refine Sp_intro (by decide +kernel) (Nat.le_of_ble_eq_true rfl) ?_
  show Y kX4_type 2 0 [some (rr 0), some (ii z)] [] I _
  refine X_aload dX4_type_0 rfl ?_
  refine X_getR dX4_type_1 rfl gf_X4_43 sh_0 (by decide) rfl rf_0_6 ?_
  refine X_iload dX4_type_4 rfl ?_
  refine Y_iV dX4_type_5 cv_X4_75 sh_83 (by decide) (t_append hg.2.2.2.1 hC.2.2.2.2.1 z) rfl (fun z5 I5 h5 => ?_)
  refine X_iret dX4_type_8 (Or.inl rfl) ?_
  refine ⟨rfl, rfl, _, rfl, ?_⟩
  rcases h5 with ⟨h6, rfl, rfl⟩ | ⟨h6, rfl, rfl⟩
  · exact Or.inl ⟨h6, rfl, hC, fun _ _ => rfl⟩
  · exact Or.inr ⟨h6, rfl, type_ok hC z, fun q hq => by rw [x_up_ne (by omega), x_up_ne (by omega)]⟩
set_option maxRecDepth 20000 in
set_option maxHeartbeats 4000000 in
theorem pu_clearText {I : xI} {s : xS} {hs : List xS} {sn : Option xS} {tx : Nat → Int} {len : Nat} (hC : CI I s hs sn tx len) (hg : CG s hs sn tx len) : S kX4_clearText 1 [rr 0] I (q_i (fun ans I1 => ans = (len : Int) ∧ CI I1 s hs sn tx 0 ∧ FX I I1)) := by
  refine Sp_intro (by decide +kernel) (Nat.le_of_ble_eq_true rfl) ?_
  show Y kX4_clearText 1 0 [some (rr 0)] [] I _
  refine X_aload dX4_clearText_0 rfl ?_
  refine X_getR dX4_clearText_1 rfl gf_X4_43 sh_0 (by decide) rfl rf_0_6 ?_
  refine Y_iV dX4_clearText_4 cv_X4_79 sh_83 (by decide) (t_empty hC.2.2.2.2.1) rfl (fun z4 I4 h4 => ?_)
  refine X_iret dX4_clearText_7 (Or.inl rfl) ?_
  obtain ⟨rfl, rfl⟩ := h4
  exact ⟨rfl, rfl, _, rfl, rfl, clear_ok hC, fun q hq => x_up_ne (by omega)⟩
