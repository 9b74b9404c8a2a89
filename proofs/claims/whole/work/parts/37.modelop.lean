/-! the other program: the calls that change the state -/
theorem mxv {k : Nat} {v : Int} (h : (k = 0 ∧ v = 100) ∨ ((k = 1 ∨ k = 2) ∧ v = 20000) ∨ (k = 3 ∧ v = 24) ∨ (k = 4 ∧ v = 30) ∨ ((k = 6 ∨ k = 7 ∨ k = 8) ∧ v = 200) ∨ ((k = 5 ∨ (9 ≤ k ∧ k < 15)) ∧ v = 50)) : v = mx k := by
  rcases h with ⟨rfl, rfl⟩ | ⟨rfl | rfl, rfl⟩ | ⟨rfl, rfl⟩ | ⟨rfl, rfl⟩ | ⟨rfl | rfl | rfl, rfl⟩ | ⟨h, rfl⟩
  · rfl
  · rfl
  · rfl
  · rfl
  · rfl
  · rfl
  · rfl
  · rfl
  · rcases (by omega : k = 5 ∨ k = 9 ∨ k = 10 ∨ k = 11 ∨ k = 12 ∨ k = 13 ∨ k = 14) with q | q | q | q | q | q | q <;> subst q <;> rfl
theorem MI.nx {I : xI} {s : xS} {hs : List xS} {sn : Option xS} {tx : Nat → Int} {len : Nat} (hM : MI I s hs sn tx len) {r : Int × xS} (h : r.1 < 0) : MI I (nxS s r) (nxH s hs r) sn tx len := by
  unfold nxS nxH
  rw [if_neg (by omega), if_neg (by omega)]
  exact hM
set_option maxRecDepth 20000 in
set_option maxHeartbeats 4000000 in
theorem m_add {I : xI} {s : xS} {hs : List xS} {sn : Option xS} {tx : Nat → Int} {len : Nat} (hM : MI I s hs sn tx len) (hg : CG s hs sn tx len) (z : Int) (hz : -2147483648 ≤ z ∧ z ≤ 2147483647) : S kX5_add 6 [rr 88, ii z] I (q_i (fun ans I1 => ans = (oAdd s z).1 ∧ MI I1 (nxS s (oAdd s z)) (nxH s hs (oAdd s z)) sn tx len ∧ MX I I1)) := by
  refine Sp_intro (by decide +kernel) (Nat.le_of_ble_eq_true rfl) ?_
  show Y kX5_add 6 0 [some (rr 88), some (ii z)] [] I _
  refine X_iload dX5_add_0 rfl ?_
  refine X_iconst dX5_add_1 ?_
  refine X_bipush dX5_add_2 (by decide) ?_
  refine Y_pS dX5_add_4 cs_X5_81 (t5_in I (v := z) (a := 1) (b := 9) (by omega) (by decide) (by decide)) rfl ?_
  refine X_if_ne (tgt := 13) dX5_add_7 (by decide) (by split <;> omega) (fun c_7 => ?_) (fun c_7 => ?_)
  · have hin : 1 ≤ z ∧ z ≤ 9 := by
      by_cases q : 1 ≤ z ∧ z ≤ 9
      · exact q
      · rw [if_neg q] at c_7; exact absurd rfl c_7
    refine X_aload dX5_add_13 rfl ?_
    refine Y_vV dX5_add_14 cv_X5_84 sh_88 (by decide) (t5_copies I) rfl (fun I1 h1 => ?_)
    have hM1 := hM.wf hg.1.1.n24 h1.2.wf
    have hRb := h1.rr hM.1 (by have := hg.1.1.n24; omega)
    refine X_aload dX5_add_17 rfl ?_
    refine X_aload dX5_add_18 rfl ?_
    refine X_iload dX5_add_19 rfl ?_
    refine Y_iV dX5_add_20 cv_X5_87 sh_88 (by decide) (t5_adds hRb hg.1.1 hin) rfl (fun z2 I2 h2 => ?_)
    obtain ⟨rfl, hF2, hR2⟩ := h2
    refine Y_iV dX5_add_23 cv_X5_90 sh_88 (by decide) (t5_changes (hM1.wf hg.1.1.n24 hF2) hg (oAdd s z) (oAdd_ok hg.1 z).1 (fun q => ⟨((oAdd_ok hg.1 z).2 q).1.n24, hR2 q⟩)) rfl (fun z3 I3 h3 => ?_)
    obtain ⟨rfl, hM3, hX3⟩ := h3
    refine X_iret dX5_add_26 (Or.inl rfl) ?_
    exact ⟨rfl, rfl, _, rfl, rfl, hM3, (h1.2.wf.mx.trans hF2.mx).trans hX3⟩
  · have hin : ¬ (1 ≤ z ∧ z ≤ 9) := fun q => by rw [if_pos q] at c_7; exact absurd c_7 (by decide)
    refine X_bipush dX5_add_10 (by decide) ?_
    refine X_iret dX5_add_12 (Or.inl rfl) ?_
    have e1 : (oAdd s z).1 = -2 := by
      show adZ s.1 s.2 z = -2
      unfold adZ
      rw [if_pos (by omega)]
    exact ⟨rfl, rfl, _, rfl, e1.symm, hM.nx (by rw [e1]; decide), MX.rf⟩
set_option maxRecDepth 20000 in
set_option maxHeartbeats 4000000 in
theorem m_remove {I : xI} {s : xS} {hs : List xS} {sn : Option xS} {tx : Nat → Int} {len : Nat} (hM : MI I s hs sn tx len) (hg : CG s hs sn tx len) (b : Int) (hb : -2147483648 ≤ b ∧ b ≤ 2147483647) : S kX5_remove 6 [rr 88, ii b] I (q_i (fun ans I1 => ans = (oRem s b).1 ∧ MI I1 (nxS s (oRem s b)) (nxH s hs (oRem s b)) sn tx len ∧ MX I I1)) := by
  refine Sp_intro (by decide +kernel) (Nat.le_of_ble_eq_true rfl) ?_
  show Y kX5_remove 6 0 [some (rr 88), some (ii b)] [] I _
  refine X_aload dX5_remove_0 rfl ?_
  refine Y_vV dX5_remove_1 cv_X5_84 sh_88 (by decide) (t5_copies I) rfl (fun I1 h1 => ?_)
  have hM1 := hM.wf hg.1.1.n24 h1.2.wf
  have hRb := h1.rr hM.1 (by have := hg.1.1.n24; omega)
  refine X_aload dX5_remove_4 rfl ?_
  refine X_aload dX5_remove_5 rfl ?_
  refine X_iload dX5_remove_6 rfl ?_
  refine Y_iV dX5_remove_7 cv_X5_93 sh_88 (by decide) (t5_removes hRb hg.1.1 b hb) rfl (fun z2 I2 h2 => ?_)
  obtain ⟨rfl, hF2, hR2⟩ := h2
  refine Y_iV dX5_remove_10 cv_X5_90 sh_88 (by decide) (t5_changes (hM1.wf hg.1.1.n24 hF2) hg (oRem s b) (oRem_ok hg.1 b).1 (fun q => ⟨((oRem_ok hg.1 b).2 q).1.n24, hR2 q⟩)) rfl (fun z3 I3 h3 => ?_)
  obtain ⟨rfl, hM3, hX3⟩ := h3
  refine X_iret dX5_remove_13 (Or.inl rfl) ?_
  exact ⟨rfl, rfl, _, rfl, rfl, hM3, (h1.2.wf.mx.trans hF2.mx).trans hX3⟩
set_option maxRecDepth 20000 in
set_option maxHeartbeats 4000000 in
theorem m_read {I : xI} {s : xS} {hs : List xS} {sn : Option xS} {tx : Nat → Int} {len : Nat} (hM : MI I s hs sn tx len) (hg : CG s hs sn tx len) (b : Int) (hb : -2147483648 ≤ b ∧ b ≤ 2147483647) (t : Int) (ht : -2147483648 ≤ t ∧ t ≤ 2147483647) : S kX5_read 6 [rr 88, ii b, ii t] I (q_i (fun ans I1 => ans = (oRead s b t).1 ∧ MI I1 (nxS s (oRead s b t)) (nxH s hs (oRead s b t)) sn tx len ∧ MX I I1)) := by
  refine Sp_intro (by decide +kernel) (Nat.le_of_ble_eq_true rfl) ?_
  show Y kX5_read 6 0 [some (rr 88), some (ii b), some (ii t)] [] I _
  rcases hp : pl s.1 s.2 b with _ | k
  · have hfd := t5_placeOf hM.1 (by decide) hg.1.1 (ip := 0) rfl b hb
    rw [hp] at hfd
    change S _ _ _ _ (q_p (ii (-5)) I) at hfd
    refine X_aload dX5_read_0 rfl ?_
    refine X_iconst dX5_read_1 ?_
    refine X_iload dX5_read_2 rfl ?_
    refine Y_pV dX5_read_3 cv_X5_65 sh_88 (by decide) hfd rfl ?_
    refine X_bipush dX5_read_6 (by decide) ?_
    refine X_icmp_ne (tgt := 13) dX5_read_8 (by decide) (by omega) (fun c_8 => absurd c_8 (by omega)) (fun c_8 => ?_)
    refine X_iconst dX5_read_11 ?_
    refine X_iret dX5_read_12 (Or.inl rfl) ?_
    have e1 : (oRead s b t).1 = -1 := by
      show rbZ s.1 s.2 b t = -1
      unfold rbZ
      rw [hp]
    exact ⟨rfl, rfl, _, rfl, e1.symm, hM.nx (by rw [e1]; decide), MX.rf⟩
  · have hk := pl_lt hp
    have h24 := hg.1.1.n24
    have hfd := t5_placeOf hM.1 (by decide) hg.1.1 (ip := 0) rfl b hb
    rw [hp] at hfd
    change S _ _ _ _ (q_p (ii ((k : Nat) : Int)) I) at hfd
    refine X_aload dX5_read_0 rfl ?_
    refine X_iconst dX5_read_1 ?_
    refine X_iload dX5_read_2 rfl ?_
    refine Y_pV dX5_read_3 cv_X5_65 sh_88 (by decide) hfd rfl ?_
    refine X_bipush dX5_read_6 (by decide) ?_
    refine X_icmp_ne (tgt := 13) dX5_read_8 (by decide) (by omega) (fun c_8 => ?_) (fun c_8 => absurd c_8 (by omega))
    refine X_iload dX5_read_13 rfl ?_
    refine X_iconst dX5_read_14 ?_
    refine X_bipush dX5_read_15 (by decide) ?_
    refine Y_pS dX5_read_17 cs_X5_81 (t5_in I (v := t) (a := 1) (b := 99) (by omega) (by decide) (by decide)) rfl ?_
    refine X_if_ne (tgt := 26) dX5_read_20 (by decide) (by split <;> omega) (fun c_20 => ?_) (fun c_20 => ?_)
    · have hin : 1 ≤ t ∧ t ≤ 99 := by
        by_cases q : 1 ≤ t ∧ t ≤ 99
        · exact q
        · rw [if_neg q] at c_20; exact absurd rfl c_20
      obtain ⟨T, rfl⟩ := Int.eq_ofNat_of_zero_le (show 0 ≤ t by omega)
      refine X_aload dX5_read_26 rfl ?_
      refine Y_vV dX5_read_27 cv_X5_84 sh_88 (by decide) (t5_copies I) rfl (fun I1 h1 => ?_)
      have hM1 := hM.wf hg.1.1.n24 h1.2.wf
      have hRb := h1.rr hM.1 (by have := hg.1.1.n24; omega)
      refine X_aload dX5_read_30 rfl ?_
      refine X_aload dX5_read_31 rfl ?_
      refine X_iload dX5_read_32 rfl ?_
      refine X_iload dX5_read_33 rfl ?_
      refine Y_iV dX5_read_34 cv_X5_96 sh_88 (by decide) (t5_reads hRb hg.1.1 b hb T (by omega) rfl) rfl (fun z2 I2 h2 => ?_)
      obtain ⟨rfl, hF2, hR2⟩ := h2
      refine Y_iV dX5_read_37 cv_X5_90 sh_88 (by decide) (t5_changes (hM1.wf hg.1.1.n24 hF2) hg (oRead s b (T : Int)) (oRead_ok hg.1 b (T : Int)).1 (fun q => ⟨((oRead_ok hg.1 b (T : Int)).2 q).1.n24, hR2 q⟩)) rfl (fun z3 I3 h3 => ?_)
      obtain ⟨rfl, hM3, hX3⟩ := h3
      refine X_iret dX5_read_40 (Or.inl rfl) ?_
      exact ⟨rfl, rfl, _, rfl, rfl, hM3, (h1.2.wf.mx.trans hF2.mx).trans hX3⟩
    · have hin : ¬ (1 ≤ t ∧ t ≤ 99) := fun q => by rw [if_pos q] at c_20; exact absurd c_20 (by decide)
      refine X_bipush dX5_read_23 (by decide) ?_
      refine X_iret dX5_read_25 (Or.inl rfl) ?_
      have e1 : (oRead s b t).1 = -2 := by
        show rbZ s.1 s.2 b t = -2
        unfold rbZ
        rw [hp]
        show (if _ then _ else _ : Int) = _
        rw [if_neg (by omega)]
      exact ⟨rfl, rfl, _, rfl, e1.symm, hM.nx (by rw [e1]; decide), MX.rf⟩
set_option maxRecDepth 20000 in
set_option maxHeartbeats 4000000 in
theorem m_pin {I : xI} {s : xS} {hs : List xS} {sn : Option xS} {tx : Nat → Int} {len : Nat} (hM : MI I s hs sn tx len) (hg : CG s hs sn tx len) (b : Int) (hb : -2147483648 ≤ b ∧ b ≤ 2147483647) (p : Int) (h01 : p = 0 ∨ p = 1) : S kX5_pin 6 [rr 88, ii b, ii p] I (q_i (fun ans I1 => ans = (oPin s b p).1 ∧ MI I1 (nxS s (oPin s b p)) (nxH s hs (oPin s b p)) sn tx len ∧ MX I I1)) := by
  refine Sp_intro (by decide +kernel) (Nat.le_of_ble_eq_true rfl) ?_
  show Y kX5_pin 6 0 [some (rr 88), some (ii b), some (ii p), none] [] I _
  rcases hp : pl s.1 s.2 b with _ | k
  · have hfd := t5_placeOf hM.1 (by decide) hg.1.1 (ip := 0) rfl b hb
    rw [hp] at hfd
    change S _ _ _ _ (q_p (ii (-5)) I) at hfd
    refine X_aload dX5_pin_0 rfl ?_
    refine X_iconst dX5_pin_1 ?_
    refine X_iload dX5_pin_2 rfl ?_
    refine Y_pV dX5_pin_3 cv_X5_65 sh_88 (by decide) hfd rfl ?_
    refine X_istore dX5_pin_6 (by decide) ?_
    dsimp only [List.set]
    refine X_iload dX5_pin_7 rfl ?_
    refine X_bipush dX5_pin_8 (by decide) ?_
    refine X_icmp_ne (tgt := 15) dX5_pin_10 (by decide) (by omega) (fun c_10 => absurd c_10 (by omega)) (fun c_10 => ?_)
    refine X_iconst dX5_pin_13 ?_
    refine X_iret dX5_pin_14 (Or.inl rfl) ?_
    have e1 : (oPin s b p).1 = -1 := by
      show tpZ s.1 s.2 b p = -1
      unfold tpZ
      rw [hp]
    exact ⟨rfl, rfl, _, rfl, e1.symm, hM.nx (by rw [e1]; decide), MX.rf⟩
  · have hk := pl_lt hp
    have h24 := hg.1.1.n24
    have hfd := t5_placeOf hM.1 (by decide) hg.1.1 (ip := 0) rfl b hb
    rw [hp] at hfd
    change S _ _ _ _ (q_p (ii ((k : Nat) : Int)) I) at hfd
    refine X_aload dX5_pin_0 rfl ?_
    refine X_iconst dX5_pin_1 ?_
    refine X_iload dX5_pin_2 rfl ?_
    refine Y_pV dX5_pin_3 cv_X5_65 sh_88 (by decide) hfd rfl ?_
    refine X_istore dX5_pin_6 (by decide) ?_
    dsimp only [List.set]
    refine X_iload dX5_pin_7 rfl ?_
    refine X_bipush dX5_pin_8 (by decide) ?_
    refine X_icmp_ne (tgt := 15) dX5_pin_10 (by decide) (by omega) (fun c_10 => ?_) (fun c_10 => absurd c_10 (by omega))
    refine X_aload dX5_pin_15 rfl ?_
    refine X_getR dX5_pin_16 rfl gf_X5_7 sh_88 (by decide) rfl rf_88_0 ?_
    refine X_iconst dX5_pin_19 ?_
    refine X_iload dX5_pin_20 rfl ?_
    refine Y_pS dX5_pin_21 cs_X5_32 (t5_at _ _ _) rfl ?_
    refine X_iconst dX5_pin_24 ?_
    refine X_iadd dX5_pin_25 ?_
    refine Y_aldB dX5_pin_26 hM.1 (by omega) hg.1.1.n24 (k) (4) (by omega) (by omega) (by omega) ?_
    have h4 := (hg.1.1.b hk).2.2.2.2.1
    refine X_iload dX5_pin_27 rfl ?_
    refine X_if_eq (tgt := 35) dX5_pin_28 (by decide) (by omega) (fun c_28 => ?_) (fun c_28 => ?_)
    · refine X_iconst dX5_pin_35 ?_
      refine X_icmp_ne (tgt := 42) dX5_pin_36 (by decide) (by omega) (fun c_36 => ?_) (fun c_36 => ?_)
      · have ep : fpP s.1 s.2 b = p := by
          unfold fpP
          rw [hp]
          show (if gb s.1 k 4 = 0 then 1 else 0 : Int) = p
          split <;> omega
        refine X_aload dX5_pin_42 rfl ?_
        refine Y_vV dX5_pin_43 cv_X5_84 sh_88 (by decide) (t5_copies I) rfl (fun I1 h1 => ?_)
        have hM1 := hM.wf hg.1.1.n24 h1.2.wf
        have hRb := h1.rr hM.1 (by have := hg.1.1.n24; omega)
        refine X_aload dX5_pin_46 rfl ?_
        refine X_aload dX5_pin_47 rfl ?_
        refine X_iload dX5_pin_48 rfl ?_
        refine Y_iV dX5_pin_49 cv_X5_99 sh_88 (by decide) (t5_turnsPin hRb hg.1.1 b hb) rfl (fun z2 I2 h2 => ?_)
        rw [ep] at h2
        obtain ⟨rfl, hF2, hR2⟩ := h2
        refine Y_iV dX5_pin_52 cv_X5_90 sh_88 (by decide) (t5_changes (hM1.wf hg.1.1.n24 hF2) hg (oPin s b p) (oPin_ok hg.1 b p h01).1 (fun q => ⟨((oPin_ok hg.1 b p h01).2 q).1.n24, hR2 q⟩)) rfl (fun z3 I3 h3 => ?_)
        obtain ⟨rfl, hM3, hX3⟩ := h3
        refine X_iret dX5_pin_55 (Or.inl rfl) ?_
        exact ⟨rfl, rfl, _, rfl, rfl, hM3, (h1.2.wf.mx.trans hF2.mx).trans hX3⟩
      · refine X_bipush dX5_pin_39 (by decide) ?_
        refine X_iret dX5_pin_41 (Or.inl rfl) ?_
        have e1 : (oPin s b p).1 = -5 := by
          show tpZ s.1 s.2 b p = -5
          unfold tpZ
          rw [hp]
          show (if _ then _ else _ : Int) = _
          rw [if_pos (by omega)]
        exact ⟨rfl, rfl, _, rfl, e1.symm, hM.nx (by rw [e1]; decide), MX.rf⟩
    · refine X_iconst dX5_pin_31 ?_
      refine X_goto (tgt := 36) dX5_pin_32 (by decide) ?_
      refine X_icmp_ne (tgt := 42) dX5_pin_36 (by decide) (by omega) (fun c_36 => ?_) (fun c_36 => ?_)
      · have ep : fpP s.1 s.2 b = p := by
          unfold fpP
          rw [hp]
          show (if gb s.1 k 4 = 0 then 1 else 0 : Int) = p
          split <;> omega
        refine X_aload dX5_pin_42 rfl ?_
        refine Y_vV dX5_pin_43 cv_X5_84 sh_88 (by decide) (t5_copies I) rfl (fun I1 h1 => ?_)
        have hM1 := hM.wf hg.1.1.n24 h1.2.wf
        have hRb := h1.rr hM.1 (by have := hg.1.1.n24; omega)
        refine X_aload dX5_pin_46 rfl ?_
        refine X_aload dX5_pin_47 rfl ?_
        refine X_iload dX5_pin_48 rfl ?_
        refine Y_iV dX5_pin_49 cv_X5_99 sh_88 (by decide) (t5_turnsPin hRb hg.1.1 b hb) rfl (fun z2 I2 h2 => ?_)
        rw [ep] at h2
        obtain ⟨rfl, hF2, hR2⟩ := h2
        refine Y_iV dX5_pin_52 cv_X5_90 sh_88 (by decide) (t5_changes (hM1.wf hg.1.1.n24 hF2) hg (oPin s b p) (oPin_ok hg.1 b p h01).1 (fun q => ⟨((oPin_ok hg.1 b p h01).2 q).1.n24, hR2 q⟩)) rfl (fun z3 I3 h3 => ?_)
        obtain ⟨rfl, hM3, hX3⟩ := h3
        refine X_iret dX5_pin_55 (Or.inl rfl) ?_
        exact ⟨rfl, rfl, _, rfl, rfl, hM3, (h1.2.wf.mx.trans hF2.mx).trans hX3⟩
      · refine X_bipush dX5_pin_39 (by decide) ?_
        refine X_iret dX5_pin_41 (Or.inl rfl) ?_
        have e1 : (oPin s b p).1 = -5 := by
          show tpZ s.1 s.2 b p = -5
          unfold tpZ
          rw [hp]
          show (if _ then _ else _ : Int) = _
          rw [if_pos (by omega)]
        exact ⟨rfl, rfl, _, rfl, e1.symm, hM.nx (by rw [e1]; decide), MX.rf⟩
set_option maxRecDepth 20000 in
set_option maxHeartbeats 4000000 in
theorem m_pass {I : xI} {s : xS} {hs : List xS} {sn : Option xS} {tx : Nat → Int} {len : Nat} (hM : MI I s hs sn tx len) (hg : CG s hs sn tx len) (t : Int) (ht : -2147483648 ≤ t ∧ t ≤ 2147483647) : S kX5_pass 8 [rr 88, ii t] I (q_i (fun ans I1 => ans = (oPass s t).1 ∧ MI I1 (nxS s (oPass s t)) (nxH s hs (oPass s t)) sn tx len ∧ MX I I1)) := by
  refine Sp_intro (by decide +kernel) (Nat.le_of_ble_eq_true rfl) ?_
  show Y kX5_pass 8 0 [some (rr 88), some (ii t)] [] I _
  refine X_iload dX5_pass_0 rfl ?_
  refine X_iconst dX5_pass_1 ?_
  refine X_bipush dX5_pass_2 (by decide) ?_
  refine Y_pS dX5_pass_4 cs_X5_81 (t5_in I (v := t) (a := 1) (b := 99) (by omega) (by decide) (by decide)) rfl ?_
  refine X_if_ne (tgt := 13) dX5_pass_7 (by decide) (by split <;> omega) (fun c_7 => ?_) (fun c_7 => ?_)
  · have hin : 1 ≤ t ∧ t ≤ 99 := by
      by_cases q : 1 ≤ t ∧ t ≤ 99
      · exact q
      · rw [if_neg q] at c_7; exact absurd rfl c_7
    obtain ⟨T, rfl⟩ := Int.eq_ofNat_of_zero_le (show 0 ≤ t by omega)
    refine X_aload dX5_pass_13 rfl ?_
    refine Y_vV dX5_pass_14 cv_X5_84 sh_88 (by decide) (t5_copies I) rfl (fun I1 h1 => ?_)
    have hM1 := hM.wf hg.1.1.n24 h1.2.wf
    have hRb := h1.rr hM.1 (by have := hg.1.1.n24; omega)
    refine X_aload dX5_pass_17 rfl ?_
    refine X_aload dX5_pass_18 rfl ?_
    refine X_iload dX5_pass_19 rfl ?_
    refine Y_iV dX5_pass_20 cv_X5_102 sh_88 (by decide) (t5_passesIn hRb hg.1.1 hg.1.2 T (by omega) rfl) rfl (fun z2 I2 h2 => ?_)
    obtain ⟨rfl, hF2, hR2⟩ := h2
    refine Y_iV dX5_pass_23 cv_X5_90 sh_88 (by decide) (t5_changes (hM1.wf hg.1.1.n24 hF2) hg (oPass s (T : Int)) (oPass_ok hg.1 (T : Int)).1 (fun q => ⟨((oPass_ok hg.1 (T : Int)).2 q).1.n24, hR2 q⟩)) rfl (fun z3 I3 h3 => ?_)
    obtain ⟨rfl, hM3, hX3⟩ := h3
    refine X_iret dX5_pass_26 (Or.inl rfl) ?_
    exact ⟨rfl, rfl, _, rfl, rfl, hM3, (h1.2.wf.mx.trans hF2.mx).trans hX3⟩
  · have hin : ¬ (1 ≤ t ∧ t ≤ 99) := fun q => by rw [if_pos q] at c_7; exact absurd c_7 (by decide)
    refine X_bipush dX5_pass_10 (by decide) ?_
    refine X_iret dX5_pass_12 (Or.inl rfl) ?_
    have e1 : (oPass s t).1 = -2 := by
      unfold oPass
      show (if _ then _ else _ : Int) = _
      rw [if_pos (by omega)]
    exact ⟨rfl, rfl, _, rfl, e1.symm, hM.nx (by rw [e1]; decide), MX.rf⟩
set_option maxRecDepth 20000 in
set_option maxHeartbeats 4000000 in
theorem t5_mostOf (I : xI) (k : Nat) (hk : k < 15) : S kX5_mostOf 0 [ii (k : Int)] I (q_p (ii (mx k)) I) := by
  refine Sp_intro (by decide +kernel) (Nat.le_of_ble_eq_true rfl) ?_
  show Y kX5_mostOf 0 0 [some (ii (k : Int))] [] I _
  refine X_iload dX5_mostOf_0 rfl ?_
  by_cases w_0 : (k : Int) = 0
  · refine X_tswIn (v := 0) (tgt := 52) dX5_mostOf_1 w_0 (by decide) (by decide) (by decide) rfl (by decide) ?_
    refine X_bipush dX5_mostOf_52 (by decide) ?_
    refine X_iret dX5_mostOf_54 (Or.inl rfl) ?_
    exact ⟨congrArg (fun z => some (ii z)) (mxv (by omega)), rfl, rfl, rfl⟩
  by_cases w_1 : (k : Int) = 1
  · refine X_tswIn (v := 1) (tgt := 55) dX5_mostOf_1 w_1 (by decide) (by decide) (by decide) rfl (by decide) ?_
    refine X_sipush dX5_mostOf_55 (by decide) ?_
    refine X_iret dX5_mostOf_58 (Or.inl rfl) ?_
    exact ⟨congrArg (fun z => some (ii z)) (mxv (by omega)), rfl, rfl, rfl⟩
  by_cases w_2 : (k : Int) = 2
  · refine X_tswIn (v := 2) (tgt := 55) dX5_mostOf_1 w_2 (by decide) (by decide) (by decide) rfl (by decide) ?_
    refine X_sipush dX5_mostOf_55 (by decide) ?_
    refine X_iret dX5_mostOf_58 (Or.inl rfl) ?_
    exact ⟨congrArg (fun z => some (ii z)) (mxv (by omega)), rfl, rfl, rfl⟩
  by_cases w_3 : (k : Int) = 3
  · refine X_tswIn (v := 3) (tgt := 59) dX5_mostOf_1 w_3 (by decide) (by decide) (by decide) rfl (by decide) ?_
    refine X_bipush dX5_mostOf_59 (by decide) ?_
    refine X_iret dX5_mostOf_61 (Or.inl rfl) ?_
    exact ⟨congrArg (fun z => some (ii z)) (mxv (by omega)), rfl, rfl, rfl⟩
  by_cases w_4 : (k : Int) = 4
  · refine X_tswIn (v := 4) (tgt := 62) dX5_mostOf_1 w_4 (by decide) (by decide) (by decide) rfl (by decide) ?_
    refine X_bipush dX5_mostOf_62 (by decide) ?_
    refine X_iret dX5_mostOf_64 (Or.inl rfl) ?_
    exact ⟨congrArg (fun z => some (ii z)) (mxv (by omega)), rfl, rfl, rfl⟩
  by_cases w_5 : (k : Int) = 5
  · refine X_tswIn (v := 5) (tgt := 69) dX5_mostOf_1 w_5 (by decide) (by decide) (by decide) rfl (by decide) ?_
    refine X_bipush dX5_mostOf_69 (by decide) ?_
    refine X_iret dX5_mostOf_71 (Or.inl rfl) ?_
    exact ⟨congrArg (fun z => some (ii z)) (mxv (by omega)), rfl, rfl, rfl⟩
  by_cases w_6 : (k : Int) = 6
  · refine X_tswIn (v := 6) (tgt := 65) dX5_mostOf_1 w_6 (by decide) (by decide) (by decide) rfl (by decide) ?_
    refine X_sipush dX5_mostOf_65 (by decide) ?_
    refine X_iret dX5_mostOf_68 (Or.inl rfl) ?_
    exact ⟨congrArg (fun z => some (ii z)) (mxv (by omega)), rfl, rfl, rfl⟩
  by_cases w_7 : (k : Int) = 7
  · refine X_tswIn (v := 7) (tgt := 65) dX5_mostOf_1 w_7 (by decide) (by decide) (by decide) rfl (by decide) ?_
    refine X_sipush dX5_mostOf_65 (by decide) ?_
    refine X_iret dX5_mostOf_68 (Or.inl rfl) ?_
    exact ⟨congrArg (fun z => some (ii z)) (mxv (by omega)), rfl, rfl, rfl⟩
  by_cases w_8 : (k : Int) = 8
  · refine X_tswIn (v := 8) (tgt := 65) dX5_mostOf_1 w_8 (by decide) (by decide) (by decide) rfl (by decide) ?_
    refine X_sipush dX5_mostOf_65 (by decide) ?_
    refine X_iret dX5_mostOf_68 (Or.inl rfl) ?_
    exact ⟨congrArg (fun z => some (ii z)) (mxv (by omega)), rfl, rfl, rfl⟩
  refine X_tswOut (tgt := 69) dX5_mostOf_1 (by omega) (by omega) (by decide) ?_
  refine X_bipush dX5_mostOf_69 (by decide) ?_
  refine X_iret dX5_mostOf_71 (Or.inl rfl) ?_
  exact ⟨congrArg (fun z => some (ii z)) (mxv (by omega)), rfl, rfl, rfl⟩
theorem M_type {I : xI} {s : xS} {hs : List xS} {sn : Option xS} {tx : Nat → Int} {len : Nat} (hM : MI I s hs sn tx len) (z : Int) : MI (x_up (x_up I 92 len z) 88 6 ((len : Int) + 1)) s hs sn (tyT tx len z) (len + 1) := by
  obtain ⟨c1, c2, c3, c4, c5⟩ := hM
  have e : ∀ q, q ≠ 88 → q ≠ 92 → x_up (x_up I 92 len z) 88 6 ((len : Int) + 1) q = I q := fun q a b => by rw [x_up_ne a, x_up_ne b]
  refine ⟨fun j hj => by rw [e 89 (by decide) (by decide)]; exact c1 j hj, c2.of (by rw [x_up_offj (by decide), x_up_ne (by decide)]) (e 90 (by decide) (by decide)), c3.of (by rw [x_up_offj (by decide), x_up_ne (by decide)]) (e 91 (by decide) (by decide)), by rw [x_up_same]; rfl, fun j hj => ?_⟩
  rw [x_up_ne (by decide), x_up_app]
  unfold tyT
  by_cases a : j = len
  · rw [if_pos ⟨rfl, a⟩, if_pos a]
  · rw [if_neg (by omega), if_neg a]; exact c5 j (by omega)
set_option maxRecDepth 20000 in
set_option maxHeartbeats 4000000 in
theorem m_type {I : xI} {s : xS} {hs : List xS} {sn : Option xS} {tx : Nat → Int} {len : Nat} (hM : MI I s hs sn tx len) (hg : CG s hs sn tx len) (z : Int) : S kX5_type 2 [rr 88, ii z] I (q_i (fun ans I1 => (len = 60 ∧ ans = -3 ∧ MI I1 s hs sn tx len ∧ MX I I1) ∨ (len < 60 ∧ ans = (len : Int) + 1 ∧ MI I1 s hs sn (tyT tx len z) (len + 1) ∧ MX I I1))) := by
  have h60 := hg.2.2.2.1
  refine Sp_intro (by decide +kernel) (Nat.le_of_ble_eq_true rfl) ?_
  show Y kX5_type 2 0 [some (rr 88), some (ii z)] [] I _
  refine X_aload dX5_type_0 rfl ?_
  refine X_getI dX5_type_1 rfl gf_X5_108 sh_88 (by decide) rfl ?_
  rw [hM.2.2.2.1]
  refine X_bipush dX5_type_4 (by decide) ?_
  refine X_icmp_ne (tgt := 12) dX5_type_6 (by decide) (by omega) (fun c_6 => ?_) (fun c_6 => ?_)
  · refine X_aload dX5_type_12 rfl ?_
    refine X_getR dX5_type_13 rfl gf_X5_19 sh_88 (by decide) rfl rf_88_5 ?_
    refine X_aload dX5_type_16 rfl ?_
    refine X_getI dX5_type_17 rfl gf_X5_108 sh_88 (by decide) rfl ?_
    rw [hM.2.2.2.1]
    refine X_iload dX5_type_20 rfl ?_
    refine X_iast dX5_type_21 sh_92 (by decide) (by omega) ?_
    rw [Int.toNat_natCast]
    refine X_aload dX5_type_22 rfl ?_
    refine X_dup dX5_type_23 ?_
    refine X_getI dX5_type_24 rfl gf_X5_108 sh_88 (by decide) rfl ?_
    rw [x_up_ne (by decide), hM.2.2.2.1]
    refine X_iconst dX5_type_27 ?_
    refine X_iadd dX5_type_28 ?_
    refine X_putI dX5_type_29 rfl pf_X5_108 sh_88 (by decide) rfl (Or.inl rfl) ?_
    refine X_aload dX5_type_32 rfl ?_
    refine X_getI dX5_type_33 rfl gf_X5_108 sh_88 (by decide) rfl ?_
    rw [x_up_same]
    refine X_iret dX5_type_36 (Or.inl rfl) ?_
    exact ⟨rfl, rfl, _, rfl, Or.inr ⟨by omega, rfl, M_type hM z, fun q hq => by rw [x_up_ne (by omega), x_up_ne (by omega)]⟩⟩
  · refine X_bipush dX5_type_9 (by decide) ?_
    refine X_iret dX5_type_11 (Or.inl rfl) ?_
    exact ⟨rfl, rfl, _, rfl, Or.inl ⟨by omega, rfl, hM, MX.rf⟩⟩
set_option maxRecDepth 20000 in
set_option maxHeartbeats 4000000 in
theorem m_clearText {I : xI} {s : xS} {hs : List xS} {sn : Option xS} {tx : Nat → Int} {len : Nat} (hM : MI I s hs sn tx len) (hg : CG s hs sn tx len) : S kX5_clearText 1 [rr 88] I (q_i (fun ans I1 => ans = (len : Int) ∧ MI I1 s hs sn tx 0 ∧ MX I I1)) := by
  refine Sp_intro (by decide +kernel) (Nat.le_of_ble_eq_true rfl) ?_
  show Y kX5_clearText 1 0 [some (rr 88), none] [] I _
  refine X_aload dX5_clearText_0 rfl ?_
  refine X_getI dX5_clearText_1 rfl gf_X5_108 sh_88 (by decide) rfl ?_
  rw [hM.2.2.2.1]
  refine X_istore dX5_clearText_4 (by decide) ?_
  dsimp only [List.set]
  refine X_aload dX5_clearText_5 rfl ?_
  refine X_iconst dX5_clearText_6 ?_
  refine X_putI dX5_clearText_7 rfl pf_X5_108 sh_88 (by decide) rfl (Or.inl rfl) ?_
  refine X_iload dX5_clearText_10 rfl ?_
  refine X_iret dX5_clearText_11 (Or.inl rfl) ?_
  obtain ⟨c1, c2, c3, c4, c5⟩ := hM
  exact ⟨rfl, rfl, _, rfl, rfl, ⟨fun j hj => by rw [x_up_ne (by decide)]; exact c1 j hj, c2.of (x_up_offj (by decide)) (x_up_ne (by decide)), c3.of (x_up_offj (by decide)) (x_up_ne (by decide)), x_up_same, fun j hj => absurd hj (Nat.not_lt_zero j)⟩, fun q hq => x_up_ne (by omega)⟩
theorem MI.undo {I : xI} {s q : xS} {hs : List xS} {sn : Option xS} {tx : Nat → Int} {len : Nat} (hM : MI I s (hs ++ [q]) sn tx len) : MI (x_up I 88 2 (hs.length : Int)) s hs sn tx len ∧ RC I 90 (215 * hs.length) q.1 q.2 := by
  obtain ⟨c1, c2, c3, c4, c5⟩ := hM
  refine ⟨⟨fun j hj => by rw [x_up_ne (by decide)]; exact c1 j hj, ⟨x_up_same, fun j r e i hi => ?_⟩, c3.of (x_up_offj (by decide)) (x_up_ne (by decide)), by rw [x_up_offj (by decide)]; exact c4, fun j hj => by rw [x_up_ne (by decide)]; exact c5 j hj⟩, ?_⟩
  · rw [x_up_ne (by decide)]
    have a : j < hs.length := (List.getElem?_eq_some_iff.mp e).1
    exact c2.2 j r (by rw [List.getElem?_append_left a]; exact e) i hi
  · exact c2.2 hs.length q (by rw [List.getElem?_append_right (Nat.le_refl _), Nat.sub_self]; rfl)
set_option maxRecDepth 20000 in
set_option maxHeartbeats 4000000 in
theorem t5_undo_loop {I0 : xI} {K : Nat} (hK : I0 88 2 = (K : Int)) (hK4 : K < 4) : ∀ (m k : Nat), k + m = 215 → ∀ (I : xI), CY I0 I 89 0 90 (215 * K) k → Y kX5_undo 2 22 [some (rr 88), some (ii (k : Int))] [] I (q_i (fun ans I1 => ans = (K : Int) ∧ CY I0 I1 89 0 90 (215 * K) 215)) := by
  intro m
  induction m with
  | zero =>
    intro k hk I hC
    refine X_iload dX5_undo_22 rfl ?_
    refine X_sipush dX5_undo_23 (by decide) ?_
    refine X_icmp_ge (tgt := 56) dX5_undo_26 (by decide) (by omega) (fun c_26 => ?_) (fun c_26 => absurd c_26 (by omega))
    refine X_aload dX5_undo_56 rfl ?_
    refine X_getI dX5_undo_57 rfl gf_X5_25 sh_88 (by decide) rfl ?_
    rw [show I 88 2 = (K : Int) by rw [hC.2.2 88 (by decide)]; exact hK]
    refine X_iret dX5_undo_60 (Or.inl rfl) ?_
    obtain rfl : k = 215 := by omega
    exact ⟨rfl, rfl, _, rfl, rfl, hC⟩
  | succ m ih =>
    intro k hk I hC
    refine X_iload dX5_undo_22 rfl ?_
    refine X_sipush dX5_undo_23 (by decide) ?_
    refine X_icmp_ge (tgt := 56) dX5_undo_26 (by decide) (by omega) (fun c_26 => absurd c_26 (by omega)) (fun c_26 => ?_)
    refine X_aload dX5_undo_29 rfl ?_
    refine X_getR dX5_undo_30 rfl gf_X5_7 sh_88 (by decide) rfl rf_88_0 ?_
    refine X_iload dX5_undo_33 rfl ?_
    refine X_aload dX5_undo_34 rfl ?_
    refine X_getR dX5_undo_35 rfl gf_X5_13 sh_88 (by decide) rfl rf_88_1 ?_
    refine X_sipush dX5_undo_38 (by decide) ?_
    refine X_aload dX5_undo_41 rfl ?_
    refine X_getI dX5_undo_42 rfl gf_X5_25 sh_88 (by decide) rfl ?_
    rw [show I 88 2 = (K : Int) by rw [hC.2.2 88 (by decide)]; exact hK]
    refine X_imul dX5_undo_45 ?_
    refine X_iload dX5_undo_46 rfl ?_
    refine X_iadd dX5_undo_47 ?_
    refine X_iald dX5_undo_48 sh_90 (Or.inl (by decide)) (by omega) ?_
    rw [show ((215 : Int) * (K : Int) + (k : Int)).toNat = 215 * K + k by omega]
    refine X_iast dX5_undo_49 sh_89 (by decide) (by omega) ?_
    have hC : CY I0 (x_up I 89 ((k : Nat) : Int).toNat (I 90 (215 * K + k))) 89 0 90 (215 * K) (k + 1) := by
      have e := hC.step (by rw [hC.2.2 90 (by decide)])
      rw [Nat.zero_add] at e
      rw [Int.toNat_natCast]
      exact e
    refine X_iinc dX5_undo_50 rfl ?_
    dsimp only [List.set]
    refine X_goto (tgt := 22) dX5_undo_53 (by decide) ?_
    exact ih (k + 1) (by omega) _ hC
set_option maxRecDepth 20000 in
set_option maxHeartbeats 4000000 in
theorem m_undo0 {I : xI} {s : xS} {sn : Option xS} {tx : Nat → Int} {len : Nat} (hM : MI I s [] sn tx len) : S kX5_undo 2 [rr 88] I (q_i (fun ans I1 => ans = -5 ∧ MI I1 s [] sn tx len ∧ MX I I1)) := by
  refine Sp_intro (by decide +kernel) (Nat.le_of_ble_eq_true rfl) ?_
  show Y kX5_undo 2 0 [some (rr 88), none] [] I _
  refine X_aload dX5_undo_0 rfl ?_
  refine X_getI dX5_undo_1 rfl gf_X5_25 sh_88 (by decide) rfl ?_
  rw [hM.2.1.1]
  refine X_if_ne (tgt := 10) dX5_undo_4 (by decide) (by decide) (fun c_4 => absurd rfl c_4) (fun c_4 => ?_)
  refine X_bipush dX5_undo_7 (by decide) ?_
  refine X_iret dX5_undo_9 (Or.inl rfl) ?_
  exact ⟨rfl, rfl, _, rfl, rfl, hM, MX.rf⟩
set_option maxRecDepth 20000 in
set_option maxHeartbeats 4000000 in
theorem m_undo1 {I : xI} {s q : xS} {hs : List xS} {sn : Option xS} {tx : Nat → Int} {len : Nat} (hM : MI I s (hs ++ [q]) sn tx len) (hl : hs.length < 4) (hq24 : q.2 ≤ 24) : S kX5_undo 2 [rr 88] I (q_i (fun ans I1 => ans = (hs.length : Int) ∧ MI I1 q hs sn tx len ∧ MX I I1)) := by
  have hK : I 88 2 = (hs.length : Int) + 1 := by rw [hM.2.1.1, List.length_append]; rfl
  refine Sp_intro (by decide +kernel) (Nat.le_of_ble_eq_true rfl) ?_
  show Y kX5_undo 2 0 [some (rr 88), none] [] I _
  refine X_aload dX5_undo_0 rfl ?_
  refine X_getI dX5_undo_1 rfl gf_X5_25 sh_88 (by decide) rfl ?_
  rw [hK]
  refine X_if_ne (tgt := 10) dX5_undo_4 (by decide) (by omega) (fun c_4 => ?_) (fun c_4 => absurd c_4 (by omega))
  refine X_aload dX5_undo_10 rfl ?_
  refine X_dup dX5_undo_11 ?_
  refine X_getI dX5_undo_12 rfl gf_X5_25 sh_88 (by decide) rfl ?_
  rw [hK]
  refine X_iconst dX5_undo_15 ?_
  refine X_isub dX5_undo_16 ?_
  refine X_putI dX5_undo_17 rfl pf_X5_25 sh_88 (by decide) rfl (Or.inl rfl) ?_
  rw [Int.add_sub_cancel]
  obtain ⟨hM1, hRq⟩ := hM.undo
  refine X_iconst dX5_undo_20 ?_
  refine X_istore dX5_undo_21 (by decide) ?_
  dsimp only [List.set]
  have h9 := t5_undo_loop (I0 := x_up I 88 2 (hs.length : Int)) (K := hs.length) x_up_same hl 215 0 (by omega) _ (CY.zero _ _ _ _ _)
  refine X_weaken h9 (fun ro N1 I2 R1 e => ?_)
  obtain ⟨a1, a2, z, a3, a4, a5⟩ := e
  exact ⟨a1, a2, z, a3, a4, hM1.cy hq24 (fun j hj => by rw [x_up_ne (by decide)]; exact hRq j hj) a5, fun q hq => by rw [a5.2.2 q (by omega)]; exact x_up_ne (by omega)⟩
set_option maxRecDepth 20000 in
set_option maxHeartbeats 4000000 in
theorem t5_keep_loop {I0 : xI} : ∀ (m k : Nat), k + m = 215 → ∀ (I : xI), CY I0 I 91 0 89 0 k → Y kX5_keep 2 2 [some (rr 88), some (ii (k : Int))] [] I (q_i (fun ans I2 => ans = I0 89 15 ∧ ∃ I1, CY I0 I1 91 0 89 0 215 ∧ I2 = x_up I1 88 4 1)) := by
  intro m
  induction m with
  | zero =>
    intro k hk I hC
    refine X_iload dX5_keep_2 rfl ?_
    refine X_sipush dX5_keep_3 (by decide) ?_
    refine X_icmp_ge (tgt := 27) dX5_keep_6 (by decide) (by omega) (fun c_6 => ?_) (fun c_6 => absurd c_6 (by omega))
    refine X_aload dX5_keep_27 rfl ?_
    refine X_iconst dX5_keep_28 ?_
    refine X_putI dX5_keep_29 rfl pf_X5_133 sh_88 (by decide) rfl (Or.inr ⟨rfl, by decide⟩) ?_
    refine X_aload dX5_keep_32 rfl ?_
    refine X_getR dX5_keep_33 rfl gf_X5_7 sh_88 (by decide) rfl rf_88_0 ?_
    refine X_bipush dX5_keep_36 (by decide) ?_
    refine X_iald dX5_keep_38 sh_89 (Or.inl (by decide)) (by omega) ?_
    rw [x_up_ne (by decide), hC.2.2 89 (by decide)]
    refine X_iret dX5_keep_39 (Or.inl rfl) ?_
    obtain rfl : k = 215 := by omega
    exact ⟨rfl, rfl, _, rfl, rfl, I, hC, rfl⟩
  | succ m ih =>
    intro k hk I hC
    refine X_iload dX5_keep_2 rfl ?_
    refine X_sipush dX5_keep_3 (by decide) ?_
    refine X_icmp_ge (tgt := 27) dX5_keep_6 (by decide) (by omega) (fun c_6 => absurd c_6 (by omega)) (fun c_6 => ?_)
    refine X_aload dX5_keep_9 rfl ?_
    refine X_getR dX5_keep_10 rfl gf_X5_16 sh_88 (by decide) rfl rf_88_3 ?_
    refine X_iload dX5_keep_13 rfl ?_
    refine X_aload dX5_keep_14 rfl ?_
    refine X_getR dX5_keep_15 rfl gf_X5_7 sh_88 (by decide) rfl rf_88_0 ?_
    refine X_iload dX5_keep_18 rfl ?_
    refine X_iald dX5_keep_19 sh_89 (Or.inl (by decide)) (by omega) ?_
    rw [Int.toNat_natCast]
    refine X_iast dX5_keep_20 sh_91 (by decide) (by omega) ?_
    have hC : CY I0 (x_up I 91 ((k : Nat) : Int).toNat (I 89 k)) 91 0 89 0 (k + 1) := by
      have e := hC.step (by rw [hC.2.2 89 (by decide)])
      rw [Nat.zero_add] at e
      rw [Int.toNat_natCast]
      exact e
    refine X_iinc dX5_keep_21 rfl ?_
    dsimp only [List.set]
    refine X_goto (tgt := 2) dX5_keep_24 (by decide) ?_
    exact ih (k + 1) (by omega) _ hC
set_option maxRecDepth 20000 in
set_option maxHeartbeats 4000000 in
theorem m_keep {I : xI} {s : xS} {hs : List xS} {sn : Option xS} {tx : Nat → Int} {len : Nat} (hM : MI I s hs sn tx len) (hg : CG s hs sn tx len) : S kX5_keep 2 [rr 88] I (q_i (fun ans I1 => ans = (s.2 : Int) ∧ MI I1 s hs (some s) tx len ∧ MX I I1)) := by
  refine Sp_intro (by decide +kernel) (Nat.le_of_ble_eq_true rfl) ?_
  show Y kX5_keep 2 0 [some (rr 88), none] [] I _
  refine X_iconst dX5_keep_0 ?_
  refine X_istore dX5_keep_1 (by decide) ?_
  dsimp only [List.set]
  have h9 := t5_keep_loop (I0 := I) 215 0 (by omega) I (CY.zero _ _ _ _ _)
  refine X_weaken h9 (fun ro N1 I2 R1 e => ?_)
  obtain ⟨a1, a2, z, a3, a4, I1, a5, rfl⟩ := e
  have e := a5.2.2
  obtain ⟨c1, c2, c3, c4, c5⟩ := hM
  have e15 : I 89 15 = (s.2 : Int) := by have := c1 15 (by omega); rw [Nat.zero_add] at this; rw [this]; exact hg.1.1.g15
  exact ⟨a1, a2, z, a3, a4.trans e15, ⟨fun j hj => by rw [x_up_ne (by decide), e 89 (by decide)]; exact c1 j hj, c2.of (by rw [x_up_offj (by decide), e 88 (by decide)]) (by rw [x_up_ne (by decide), e 90 (by decide)]), ⟨x_up_same, fun j hj => by rw [x_up_ne (by decide), a5.1 j (by have := hg.1.1.n24; omega)]; exact c1 j hj⟩, by rw [x_up_offj (by decide), e 88 (by decide)]; exact c4, fun j hj => by rw [x_up_ne (by decide), e 92 (by decide)]; exact c5 j hj⟩, fun q hq => by rw [x_up_ne (by omega)]; exact e q (by omega)⟩
set_option maxRecDepth 20000 in
set_option maxHeartbeats 4000000 in
theorem m_restore0 {I : xI} {s : xS} {hs : List xS} {tx : Nat → Int} {len : Nat} (hM : MI I s hs none tx len) : S kX5_restore 3 [rr 88] I (q_i (fun ans I1 => ans = -5 ∧ MI I1 s hs none tx len ∧ MX I I1)) := by
  refine Sp_intro (by decide +kernel) (Nat.le_of_ble_eq_true rfl) ?_
  show Y kX5_restore 3 0 [some (rr 88), none] [] I _
  refine X_aload dX5_restore_0 rfl ?_
  refine X_getI dX5_restore_1 rfl gf_X5_133 sh_88 (by decide) rfl ?_
  rw [show I 88 4 = 0 from hM.2.2.1]
  refine X_if_ne (tgt := 10) dX5_restore_4 (by decide) (by decide) (fun c_4 => absurd rfl c_4) (fun c_4 => ?_)
  refine X_bipush dX5_restore_7 (by decide) ?_
  refine X_iret dX5_restore_9 (Or.inl rfl) ?_
  exact ⟨rfl, rfl, _, rfl, rfl, hM, MX.rf⟩
set_option maxRecDepth 20000 in
set_option maxHeartbeats 4000000 in
theorem t5_restore_loop {I0 : xI} : ∀ (m k : Nat), k + m = 215 → ∀ (I : xI), CY I0 I 89 0 91 0 k → Y kX5_restore 3 16 [some (rr 88), some (ii (k : Int))] [] I (q_i (fun ans I1 => ans = I1 89 15 ∧ CY I0 I1 89 0 91 0 215)) := by
  intro m
  induction m with
  | zero =>
    intro k hk I hC
    refine X_iload dX5_restore_16 rfl ?_
    refine X_sipush dX5_restore_17 (by decide) ?_
    refine X_icmp_ge (tgt := 41) dX5_restore_20 (by decide) (by omega) (fun c_20 => ?_) (fun c_20 => absurd c_20 (by omega))
    refine X_aload dX5_restore_41 rfl ?_
    refine X_getR dX5_restore_42 rfl gf_X5_7 sh_88 (by decide) rfl rf_88_0 ?_
    refine X_bipush dX5_restore_45 (by decide) ?_
    refine X_iald dX5_restore_47 sh_89 (Or.inl (by decide)) (by omega) ?_
    refine X_iret dX5_restore_48 (Or.inl rfl) ?_
    obtain rfl : k = 215 := by omega
    exact ⟨rfl, rfl, _, rfl, rfl, hC⟩
  | succ m ih =>
    intro k hk I hC
    refine X_iload dX5_restore_16 rfl ?_
    refine X_sipush dX5_restore_17 (by decide) ?_
    refine X_icmp_ge (tgt := 41) dX5_restore_20 (by decide) (by omega) (fun c_20 => absurd c_20 (by omega)) (fun c_20 => ?_)
    refine X_aload dX5_restore_23 rfl ?_
    refine X_getR dX5_restore_24 rfl gf_X5_7 sh_88 (by decide) rfl rf_88_0 ?_
    refine X_iload dX5_restore_27 rfl ?_
    refine X_aload dX5_restore_28 rfl ?_
    refine X_getR dX5_restore_29 rfl gf_X5_16 sh_88 (by decide) rfl rf_88_3 ?_
    refine X_iload dX5_restore_32 rfl ?_
    refine X_iald dX5_restore_33 sh_91 (Or.inl (by decide)) (by omega) ?_
    rw [Int.toNat_natCast]
    refine X_iast dX5_restore_34 sh_89 (by decide) (by omega) ?_
    have hC : CY I0 (x_up I 89 ((k : Nat) : Int).toNat (I 91 k)) 89 0 91 0 (k + 1) := by
      have e := hC.step (by rw [hC.2.2 91 (by decide)])
      rw [Nat.zero_add] at e
      rw [Int.toNat_natCast]
      exact e
    refine X_iinc dX5_restore_35 rfl ?_
    dsimp only [List.set]
    refine X_goto (tgt := 16) dX5_restore_38 (by decide) ?_
    exact ih (k + 1) (by omega) _ hC
set_option maxRecDepth 20000 in
set_option maxHeartbeats 4000000 in
theorem m_restore1 {I : xI} {s q : xS} {hs : List xS} {tx : Nat → Int} {len : Nat} (hM : MI I s hs (some q) tx len) (hg : CG s hs (some q) tx len) : S kX5_restore 3 [rr 88] I (q_i (fun ans I1 => ans = (q.2 : Int) ∧ MI I1 (nxS s ((q.2 : Int), q)) (nxH s hs ((q.2 : Int), q)) (some q) tx len ∧ MX I I1)) := by
  refine Sp_intro (by decide +kernel) (Nat.le_of_ble_eq_true rfl) ?_
  show Y kX5_restore 3 0 [some (rr 88), none] [] I _
  refine X_aload dX5_restore_0 rfl ?_
  refine X_getI dX5_restore_1 rfl gf_X5_133 sh_88 (by decide) rfl ?_
  rw [hM.2.2.1.1]
  refine X_if_ne (tgt := 10) dX5_restore_4 (by decide) (by decide) (fun c_4 => ?_) (fun c_4 => absurd c_4 (by decide))
  refine X_aload dX5_restore_10 rfl ?_
  refine Y_vV dX5_restore_11 cv_X5_29 sh_88 (by decide) (t5_remembers hM.1 hg.1.1.n24 hM.2.1 hg.2.1.1 hg.2.1.n24) rfl (fun I1 h1 => ?_)
  refine X_iconst dX5_restore_14 ?_
  refine X_istore dX5_restore_15 (by decide) ?_
  dsimp only [List.set]
  have hM1 := hM.rem h1.1 h1.2
  have h9 := (t5_restore_loop (I0 := I1) 215 0 (by omega) I1 (CY.zero _ _ _ _ _))
  refine X_weaken h9 (fun ro N1 I2 R1 e => ?_)
  obtain ⟨a1, a2, z, a3, a4, a5⟩ := e
  have hq := hg.2.2.1 q rfl
  have hM2 := hM1.cy (r := q) hq.1.n24 hM1.2.2.1.2 a5
  have e15 := hM2.1 15 (by omega)
  rw [Nat.zero_add] at e15
  refine ⟨a1, a2, z, a3, by rw [a4, e15]; exact hq.1.g15, ?_, h1.2.mx.trans (fun r hr => a5.2.2 r (by omega))⟩
  unfold nxS nxH
  rw [if_pos (by dsimp only; omega), if_pos (by dsimp only; omega)]
  exact hM2
