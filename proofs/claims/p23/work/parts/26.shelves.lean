/-! HeatShelves: what all its cells hold, and the calls that change the state -/
theorem st1 : x_st 1 := Or.inl rfl
theorem st12 : x_st 12 := Or.inr (Or.inl rfl)
theorem st23 : x_st 23 := Or.inr (Or.inr (Or.inl rfl))
def SN (I : xI) (sn : Option xS) : Prop := match sn with
  | none => I 0 3 = 0
  | some s => I 0 3 = 1 ∧ RS I 23 s.1 s.2
def CI (I : xI) (s : xS) (hs : List xS) (sn : Option xS) (tx : Nat → Int) (len : Nat) : Prop := ST I ∧ RS I 1 s.1 s.2 ∧ HI I hs ∧ SN I sn ∧ I 83 1 = len ∧ ∀ j, j < len → I 84 j = tx j
/-- what holds of the numbers themselves -/
def CG (s : xS) (hs : List xS) (sn : Option xS) (tx : Nat → Int) (len : Nat) : Prop := SG s ∧ HG hs ∧ (∀ q, sn = some q → SG q) ∧ TB tx len
/-- only work, the night's rows and the orders' scratch may change -/
def SF (I I1 : xI) : Prop := (∀ q, (q < 12 ∨ (23 ≤ q ∧ q < 81) ∨ q = 84 ∨ 88 ≤ q) → I1 q = I q) ∧ I1 83 1 = I 83 1
def FX (I I1 : xI) : Prop := ∀ q, 88 ≤ q → I1 q = I q
theorem SF.rf {I : xI} : SF I I := ⟨fun _ _ => rfl, rfl⟩
theorem SF.trans {I I1 I2 : xI} (h : SF I I1) (h' : SF I1 I2) : SF I I2 := ⟨fun q hq => (h'.1 q hq).trans (h.1 q hq), h'.2.trans h.2⟩
theorem SF.fx {I I1 : xI} (h : SF I I1) : FX I I1 := fun q hq => h.1 q (by omega)
theorem FX.trans {I I1 I2 : xI} (h : FX I I1) (h' : FX I1 I2) : FX I I2 := fun q hq => (h' q hq).trans (h q hq)
theorem FR.sf {I I1 : xI} (h : FR I I1 12) : SF I I1 := ⟨fun q hq => h q (by omega), by rw [h 83 (by omega)]⟩
theorem FT.sf {I I1 : xI} (h : FT I I1 12) : SF I I1 := ⟨fun q hq => h q (by omega) (by omega) (by omega), by rw [h 83 (by omega) (by decide) (by decide)]⟩
theorem CI.sc {I I1 : xI} {s : xS} {hs : List xS} {sn : Option xS} {tx : Nat → Int} {len : Nat} (h : CI I s hs sn tx len) (e : SF I I1) : CI I1 s hs sn tx len := by
  obtain ⟨⟨h1, h1'⟩, h2, ⟨f, h3⟩, h4, h5, h6⟩ := h
  refine ⟨⟨fun j hj => by rw [e.1 101 (by omega)]; exact h1 j hj, fun j hj => by rw [e.1 100 (by omega)]; exact h1' j hj⟩, h2.keep (fun q a b => e.1 q (by omega)), ⟨f, h3.keep (fun q a b => e.1 q (by omega))⟩, ?_, by rw [e.2]; exact h5, fun j hj => by rw [e.1 84 (by omega)]; exact h6 j hj⟩
  unfold SN at h4 ⊢
  split
  · rw [e.1 0 (by omega)]; exact h4
  · exact ⟨by rw [e.1 0 (by omega)]; exact h4.1, h4.2.keep (fun q a b => e.1 q (by omega))⟩
theorem SN.keep {I I1 : xI} {sn : Option xS} (h : SN I sn) (e : ∀ q, (q = 0 ∨ (24 ≤ q ∧ q ≤ 33)) → I1 q = I q) : SN I1 sn := by
  unfold SN at h ⊢
  split
  · rw [e 0 (by omega)]; exact h
  · exact ⟨by rw [e 0 (by omega)]; exact h.1, h.2.keep (fun q a b => e q (by omega))⟩
theorem ST.keep {I I1 : xI} (h : ST I) (e : FX I I1) : ST I1 := ⟨fun j hj => by rw [e 101 (by decide)]; exact h.1 j hj, fun j hj => by rw [e 100 (by decide)]; exact h.2 j hj⟩
theorem HI.keep {I I1 : xI} {hs : List xS} (h : HI I hs) (e : ∀ q, 34 ≤ q → q < 80 → I1 q = I q) : HI I1 hs := by
  obtain ⟨f, h⟩ := h
  exact ⟨f, h.keep e⟩
/-- an operation done in the work state -/
def opQ (I : xI) (r : Int × xS) (z : Int) (I1 : xI) : Prop := z = r.1 ∧ FT I I1 12 ∧ (0 ≤ r.1 → RS I1 12 r.2.1 r.2.2)
theorem w_add {I : xI} {s : xS} (hR : RS I 12 s.1 s.2) (hS : SG s) (z : Int) (hz : -2147483648 ≤ z ∧ z ≤ 2147483647) : S kX3_addBlock 2 [rr 12, ii z] I (q_i (opQ I (oAdd s z))) :=
  S_monoI (t_addBlock st12 hR hS.1 z hz) (fun a I1 h => ⟨h.1, h.2.1.t, fun q => by
    unfold oAdd at q ⊢
    dsimp only at q ⊢
    cases hf : fr s.1 s.2 z with
    | none => unfold adZ at q; rw [hf] at q; dsimp only at q; split at q <;> omega
    | some sh => exact h.2.2 sh q hf⟩)
theorem w_rem {I : xI} {s : xS} (hR : RS I 12 s.1 s.2) (hS : SG s) (b : Int) (hb : -2147483648 ≤ b ∧ b ≤ 2147483647) : S kX3_dropBlock 3 [rr 12, ii b] I (q_i (opQ I (oRem s b))) :=
  S_monoI (t_dropBlock st12 hR hS.1 b hb) (fun a I1 h => ⟨h.1, h.2.1.t, fun q => by
    unfold oRem at q ⊢
    dsimp only at q ⊢
    cases hf : pl s.1 s.2 b with
    | none => unfold rmZ at q; rw [hf] at q; exact absurd q (by show ¬ (0 : Int) ≤ -1; decide)
    | some k => exact h.2.2 k hf⟩)
theorem w_read {I : xI} {s : xS} (hR : RS I 12 s.1 s.2) (hS : SG s) (b : Int) (hb : -2147483648 ≤ b ∧ b ≤ 2147483647) (t : Int) (ht : -2147483648 ≤ t ∧ t ≤ 2147483647) : S kX3_readBlock 4 [rr 12, ii b, ii t] I (q_i (opQ I (oRead s b t))) :=
  S_monoI (t_readBlock st12 hR hS.1 b hb t ht) (fun a I1 h => ⟨h.1, h.2.1.t, fun q => by
    unfold oRead at q ⊢
    dsimp only at q ⊢
    cases hf : pl s.1 s.2 b with
    | none => unfold rbZ at q; rw [hf] at q; exact absurd q (by show ¬ (0 : Int) ≤ -1; decide)
    | some k =>
      unfold rbZ at q
      rw [hf] at q
      dsimp only at q
      split at q
      · exact h.2.2 k hf (by assumption)
      · exact absurd q (by decide)⟩)
theorem pin_ok {I1 : xI} {s : xS} {b p : Int} (h : ∀ k, pl s.1 s.2 b = some k → ¬ gb s.1 k 4 = p → RS I1 12 (gB s.1 k 4 p) s.2) : 0 ≤ (oPin s b p).1 → RS I1 12 (oPin s b p).2.1 (oPin s b p).2.2 := by
  intro q
  unfold oPin at q ⊢
  dsimp only at q ⊢
  cases hf : pl s.1 s.2 b with
  | none => unfold tpZ at q; rw [hf] at q; exact absurd q (by show ¬ (0 : Int) ≤ -1; decide)
  | some k =>
    unfold tpZ at q
    rw [hf] at q
    dsimp only at q
    split at q
    · exact absurd q (by decide)
    · exact h k hf (by assumption)
theorem w_pin {I : xI} {s : xS} (hR : RS I 12 s.1 s.2) (hS : SG s) (b : Int) (hb : -2147483648 ≤ b ∧ b ≤ 2147483647) (p : Int) (hp : p = 0 ∨ p = 1) : S kX3_turnPin 3 [rr 12, ii b, ii p] I (q_i (opQ I (oPin s b p))) :=
  S_monoI (t_turnPin st12 hR hS.1 b hb p hp) (fun a I1 h => ⟨h.1, h.2.1.t, pin_ok h.2.2⟩)
theorem w_set {I : xI} {s : xS} (hR : RS I 12 s.1 s.2) (hS : SG s) (hst : ST I) (a : Int) (ha : -2147483648 ≤ a ∧ a ≤ 2147483647) (v : Int) (hv : -2147483648 ≤ v ∧ v ≤ 2147483647) : S kX3_changeSetting 2 [rr 12, ii a, ii v] I (q_i (opQ I (oSet s a v))) :=
  S_monoI (t_changeSetting st12 hR hS.1 hst a ha v hv) (fun z I1 h => ⟨h.1, h.2.1.t, fun q => h.2.2 (by rw [h.1]; exact q)⟩)
set_option maxRecDepth 20000 in
set_option maxHeartbeats 4000000 in
theorem w_pass {I : xI} {s : xS} (hR : RS I 12 s.1 s.2) (hS : SG s) (t : Int) (ht : -2147483648 ≤ t ∧ t ≤ 2147483647) : S kX4_passInWork 5 [rr 0, ii t] I (q_i (opQ I (oPass s t))) := by
  have h17 := hS.2
  refine Sp_intro (by decide +kernel) (Nat.le_of_ble_eq_true rfl) ?_
  show Y kX4_passInWork 5 0 [some (rr 0), some (ii t)] [] I _
  refine X_iload dX4_passInWork_0 rfl ?_
  refine X_iconst dX4_passInWork_1 ?_
  refine X_icmp_lt (tgt := 11) dX4_passInWork_2 (by decide) (by omega) (fun c_2 => ?_) (fun c_2 => ?_)
  · refine X_bipush dX4_passInWork_11 (by decide) ?_
    refine X_iret dX4_passInWork_13 (Or.inl rfl) ?_
    exact ⟨rfl, rfl, _, rfl, by unfold oPass; dsimp only; rw [if_pos (by omega)], FT.rf, fun q => absurd q (by unfold oPass; dsimp only; rw [if_pos (by omega)]; decide)⟩
  · refine X_iload dX4_passInWork_5 rfl ?_
    refine X_bipush dX4_passInWork_6 (by decide) ?_
    refine X_icmp_le (tgt := 14) dX4_passInWork_8 (by decide) (by omega) (fun c_8 => ?_) (fun c_8 => ?_)
    · refine X_aload dX4_passInWork_14 rfl ?_
      refine X_getR dX4_passInWork_15 rfl gf_X4_16 sh_0 (by decide) rfl rf_0_1 ?_
      refine X_getR dX4_passInWork_18 rfl gf_X4_142 sh_12 (by decide) rfl rf_12_0 ?_
      refine X_bipush dX4_passInWork_21 (by decide) ?_
      refine Y_pS dX4_passInWork_23 cs_X4_108 (t_num st12 hR 17 (by decide) rfl) rfl ?_
      refine X_iload dX4_passInWork_26 rfl ?_
      refine X_iadd dX4_passInWork_27 ?_
      refine X_sipush dX4_passInWork_28 (by decide) ?_
      refine X_icmp_le (tgt := 37) dX4_passInWork_31 (by decide) (by omega) (fun c_31 => ?_) (fun c_31 => ?_)
      · refine X_aload dX4_passInWork_37 rfl ?_
        refine X_getR dX4_passInWork_38 rfl gf_X4_36 sh_0 (by decide) rfl rf_0_5 ?_
        refine X_aload dX4_passInWork_41 rfl ?_
        refine X_getR dX4_passInWork_42 rfl gf_X4_16 sh_0 (by decide) rfl rf_0_1 ?_
        refine X_iload dX4_passInWork_45 rfl ?_
        obtain ⟨u, rfl⟩ := Int.eq_ofNat_of_zero_le (show 0 ≤ t by omega)
        refine Y_iV dX4_passInWork_46 cv_X4_166 sh_80 (by decide) (t_letPass st12 hR hS.1 u (by omega)) rfl (fun z46 I46 h46 => ?_)
        refine X_iret dX4_passInWork_49 (Or.inl rfl) ?_
        exact ⟨rfl, rfl, _, rfl, by unfold oPass; dsimp only; rw [if_neg (by omega), if_neg (by omega)]; exact h46.1, h46.2.2.1, fun _ => h46.2.1⟩
      · refine X_bipush dX4_passInWork_34 (by decide) ?_
        refine X_iret dX4_passInWork_36 (Or.inl rfl) ?_
        exact ⟨rfl, rfl, _, rfl, by unfold oPass; dsimp only; rw [if_neg (by omega), if_pos (by omega)], FT.rf, fun q => absurd q (by unfold oPass; dsimp only; rw [if_neg (by omega), if_pos (by omega)]; decide)⟩
    · refine X_bipush dX4_passInWork_11 (by decide) ?_
      refine X_iret dX4_passInWork_13 (Or.inl rfl) ?_
      exact ⟨rfl, rfl, _, rfl, by unfold oPass; dsimp only; rw [if_pos (by omega)], FT.rf, fun q => absurd q (by unfold oPass; dsimp only; rw [if_pos (by omega)]; decide)⟩
theorem settle_ok {I K K2 : xI} {s s' : xS} {hs : List xS} {sn : Option xS} {tx : Nat → Int} {len : Nat} (hC : CI I s hs sn tx len) (h1 : HI K (pushH hs s)) (h2 : FH I K) (h3 : RS K2 1 s'.1 s'.2) (h4 : FR K K2 1) : CI K2 s' (pushH hs s) sn tx len := by
  obtain ⟨c1, c2, c3, c4, c5, c6⟩ := hC
  have e : ∀ q, (q = 0 ∨ 12 ≤ q) → (q < 34 ∨ 80 ≤ q) → K2 q = I q := fun q a b => by rw [h4 q (by omega)]; exact h2 q b
  exact ⟨c1.keep (fun q hq => e q (by omega) (by omega)), h3, h1.keep (fun q a b => h4 q (by omega)), c4.keep (fun q hq => e q (by omega) (by omega)), by rw [e 83 (by omega) (by omega)]; exact c5, fun j hj => by rw [e 84 (by omega) (by omega)]; exact c6 j hj⟩
set_option maxRecDepth 20000 in
set_option maxHeartbeats 4000000 in
theorem t_settle {I : xI} {s : xS} {hs : List xS} {sn : Option xS} {tx : Nat → Int} {len : Nat} (hC : CI I s hs sn tx len) (hg : CG s hs sn tx len) (r : Int × xS) (hsm : small r.1) (hr : 0 ≤ r.1 → RS I 12 r.2.1 r.2.2 ∧ r.2.2 ≤ 24) : S kX4_settle 4 [rr 0, ii r.1] I (q_i (fun ans I1 => ans = (r).1 ∧ CI I1 (nxS s (r)) (nxH s hs (r)) sn tx len ∧ FX I I1)) := by
  refine Sp_intro (by decide +kernel) (Nat.le_of_ble_eq_true rfl) ?_
  show Y kX4_settle 4 0 [some (rr 0), some (ii r.1)] [] I _
  refine X_iload dX4_settle_0 rfl ?_
  refine X_if_lt (tgt := 26) dX4_settle_1 (by decide) (by unfold small at hsm; omega) (fun c_1 => ?_) (fun c_1 => ?_)
  · refine X_iload dX4_settle_26 rfl ?_
    refine X_iret dX4_settle_27 (Or.inl rfl) ?_
    first
      | (refine ⟨rfl, rfl, _, rfl, rfl, ?_, fun q hq => ?_⟩
         · unfold nxS nxH
           rw [if_pos c_1, if_pos c_1]
           exact settle_ok hC hK.1 hK.2 hK2.1 hK2.2
         · rw [hK2.2 q (by omega)]; exact hK.2 q (by omega))
      | exact ⟨rfl, rfl, _, rfl, rfl, by unfold nxS nxH; rw [if_neg (by omega), if_neg (by omega)]; exact hC, fun _ _ => rfl⟩
  · refine X_aload dX4_settle_4 rfl ?_
    refine X_getR dX4_settle_5 rfl gf_X4_29 sh_0 (by decide) rfl rf_0_4 ?_
    refine X_aload dX4_settle_8 rfl ?_
    refine X_getR dX4_settle_9 rfl gf_X4_10 sh_0 (by decide) rfl rf_0_0 ?_
    refine Y_vV dX4_settle_12 cv_X4_183 sh_34 (by decide) (t_record hC.2.2.1 hg.2.1.1 hC.2.1 hg.1.1.n24) rfl (fun K hK => ?_)
    have hr12 := (hr c_1).1.keep (I1 := K) (fun q a b => hK.2 q (by omega))
    refine X_aload dX4_settle_15 rfl ?_
    refine X_getR dX4_settle_16 rfl gf_X4_10 sh_0 (by decide) rfl rf_0_0 ?_
    refine X_aload dX4_settle_19 rfl ?_
    refine X_getR dX4_settle_20 rfl gf_X4_16 sh_0 (by decide) rfl rf_0_1 ?_
    refine Y_vV dX4_settle_23 cv_X4_47 sh_1 (by decide) (t_copyFrom st1 st12 (by decide) hr12 (hr c_1).2) rfl (fun K2 hK2 => ?_)
    refine X_iload dX4_settle_26 rfl ?_
    refine X_iret dX4_settle_27 (Or.inl rfl) ?_
    first
      | (refine ⟨rfl, rfl, _, rfl, rfl, ?_, fun q hq => ?_⟩
         · unfold nxS nxH
           rw [if_pos c_1, if_pos c_1]
           exact settle_ok hC hK.1 hK.2 hK2.1 hK2.2
         · rw [hK2.2 q (by omega)]; exact hK.2 q (by omega))
      | exact ⟨rfl, rfl, _, rfl, rfl, by unfold nxS nxH; rw [if_neg (by omega), if_neg (by omega)]; exact hC, fun _ _ => rfl⟩
set_option maxRecDepth 20000 in
set_option maxHeartbeats 4000000 in
theorem pu_add {I : xI} {s : xS} {hs : List xS} {sn : Option xS} {tx : Nat → Int} {len : Nat} (hC : CI I s hs sn tx len) (hg : CG s hs sn tx len) (z : Int) (hz : -2147483648 ≤ z ∧ z ≤ 2147483647) : S kX4_add 5 [rr 0, ii z] I (q_i (fun ans I1 => ans = (oAdd s z).1 ∧ CI I1 (nxS s (oAdd s z)) (nxH s hs (oAdd s z)) sn tx len ∧ FX I I1)) := by
  refine Sp_intro (by decide +kernel) (Nat.le_of_ble_eq_true rfl) ?_
  show Y kX4_add 5 0 [some (rr 0), some (ii z)] [] I _
  refine X_aload dX4_add_0 rfl ?_
  refine X_getR dX4_add_1 rfl gf_X4_16 sh_0 (by decide) rfl rf_0_1 ?_
  refine X_aload dX4_add_4 rfl ?_
  refine X_getR dX4_add_5 rfl gf_X4_10 sh_0 (by decide) rfl rf_0_0 ?_
  refine Y_vV dX4_add_8 cv_X4_47 sh_12 (by decide) (t_copyFrom st12 st1 (by decide) hC.2.1 hg.1.1.n24) rfl (fun I8 h8 => ?_)
  have hC8 := hC.sc h8.2.sf
  have hR8 := h8.1
  refine X_aload dX4_add_11 rfl ?_
  refine X_aload dX4_add_12 rfl ?_
  refine X_getR dX4_add_13 rfl gf_X4_16 sh_0 (by decide) rfl rf_0_1 ?_
  refine X_iload dX4_add_16 rfl ?_
  refine Y_iV dX4_add_17 cv_X4_51 sh_12 (by decide) (w_add hR8 hg.1 z hz) rfl (fun z1 I1 h1 => ?_)
  obtain ⟨rfl, hF1, hRR⟩ := h1
  have hok := oAdd_ok hg.1 z
  have hC1 := hC8.sc hF1.sf
  refine Y_iV dX4_add_20 cv_X4_55 sh_0 (by decide) (t_settle hC1 hg (oAdd s z) hok.1 (fun q => ⟨hRR q, (hok.2 q).1.n24⟩)) rfl (fun z2 I2 h2 => ?_)
  exact X_iret dX4_add_23 (Or.inl rfl) ⟨rfl, rfl, _, rfl, h2.1, h2.2.1, (h8.2.sf.trans hF1.sf).fx.trans h2.2.2⟩
set_option maxRecDepth 20000 in
set_option maxHeartbeats 4000000 in
theorem pu_remove {I : xI} {s : xS} {hs : List xS} {sn : Option xS} {tx : Nat → Int} {len : Nat} (hC : CI I s hs sn tx len) (hg : CG s hs sn tx len) (b : Int) (hb : -2147483648 ≤ b ∧ b ≤ 2147483647) : S kX4_remove 5 [rr 0, ii b] I (q_i (fun ans I1 => ans = (oRem s b).1 ∧ CI I1 (nxS s (oRem s b)) (nxH s hs (oRem s b)) sn tx len ∧ FX I I1)) := by
  refine Sp_intro (by decide +kernel) (Nat.le_of_ble_eq_true rfl) ?_
  show Y kX4_remove 5 0 [some (rr 0), some (ii b)] [] I _
  refine X_aload dX4_remove_0 rfl ?_
  refine X_getR dX4_remove_1 rfl gf_X4_16 sh_0 (by decide) rfl rf_0_1 ?_
  refine X_aload dX4_remove_4 rfl ?_
  refine X_getR dX4_remove_5 rfl gf_X4_10 sh_0 (by decide) rfl rf_0_0 ?_
  refine Y_vV dX4_remove_8 cv_X4_47 sh_12 (by decide) (t_copyFrom st12 st1 (by decide) hC.2.1 hg.1.1.n24) rfl (fun I8 h8 => ?_)
  have hC8 := hC.sc h8.2.sf
  have hR8 := h8.1
  refine X_aload dX4_remove_11 rfl ?_
  refine X_aload dX4_remove_12 rfl ?_
  refine X_getR dX4_remove_13 rfl gf_X4_16 sh_0 (by decide) rfl rf_0_1 ?_
  refine X_iload dX4_remove_16 rfl ?_
  refine Y_iV dX4_remove_17 cv_X4_58 sh_12 (by decide) (w_rem hR8 hg.1 b hb) rfl (fun z1 I1 h1 => ?_)
  obtain ⟨rfl, hF1, hRR⟩ := h1
  have hok := oRem_ok hg.1 b
  have hC1 := hC8.sc hF1.sf
  refine Y_iV dX4_remove_20 cv_X4_55 sh_0 (by decide) (t_settle hC1 hg (oRem s b) hok.1 (fun q => ⟨hRR q, (hok.2 q).1.n24⟩)) rfl (fun z2 I2 h2 => ?_)
  exact X_iret dX4_remove_23 (Or.inl rfl) ⟨rfl, rfl, _, rfl, h2.1, h2.2.1, (h8.2.sf.trans hF1.sf).fx.trans h2.2.2⟩
set_option maxRecDepth 20000 in
set_option maxHeartbeats 4000000 in
theorem pu_read {I : xI} {s : xS} {hs : List xS} {sn : Option xS} {tx : Nat → Int} {len : Nat} (hC : CI I s hs sn tx len) (hg : CG s hs sn tx len) (b : Int) (hb : -2147483648 ≤ b ∧ b ≤ 2147483647) (t : Int) (ht : -2147483648 ≤ t ∧ t ≤ 2147483647) : S kX4_read 5 [rr 0, ii b, ii t] I (q_i (fun ans I1 => ans = (oRead s b t).1 ∧ CI I1 (nxS s (oRead s b t)) (nxH s hs (oRead s b t)) sn tx len ∧ FX I I1)) := by
  refine Sp_intro (by decide +kernel) (Nat.le_of_ble_eq_true rfl) ?_
  show Y kX4_read 5 0 [some (rr 0), some (ii b), some (ii t)] [] I _
  refine X_aload dX4_read_0 rfl ?_
  refine X_getR dX4_read_1 rfl gf_X4_16 sh_0 (by decide) rfl rf_0_1 ?_
  refine X_aload dX4_read_4 rfl ?_
  refine X_getR dX4_read_5 rfl gf_X4_10 sh_0 (by decide) rfl rf_0_0 ?_
  refine Y_vV dX4_read_8 cv_X4_47 sh_12 (by decide) (t_copyFrom st12 st1 (by decide) hC.2.1 hg.1.1.n24) rfl (fun I8 h8 => ?_)
  have hC8 := hC.sc h8.2.sf
  have hR8 := h8.1
  refine X_aload dX4_read_11 rfl ?_
  refine X_aload dX4_read_12 rfl ?_
  refine X_getR dX4_read_13 rfl gf_X4_16 sh_0 (by decide) rfl rf_0_1 ?_
  refine X_iload dX4_read_16 rfl ?_
  refine X_iload dX4_read_17 rfl ?_
  refine Y_iV dX4_read_18 cv_X4_61 sh_12 (by decide) (w_read hR8 hg.1 b hb t ht) rfl (fun z1 I1 h1 => ?_)
  obtain ⟨rfl, hF1, hRR⟩ := h1
  have hok := oRead_ok hg.1 b t
  have hC1 := hC8.sc hF1.sf
  refine Y_iV dX4_read_21 cv_X4_55 sh_0 (by decide) (t_settle hC1 hg (oRead s b t) hok.1 (fun q => ⟨hRR q, (hok.2 q).1.n24⟩)) rfl (fun z2 I2 h2 => ?_)
  exact X_iret dX4_read_24 (Or.inl rfl) ⟨rfl, rfl, _, rfl, h2.1, h2.2.1, (h8.2.sf.trans hF1.sf).fx.trans h2.2.2⟩
set_option maxRecDepth 20000 in
set_option maxHeartbeats 4000000 in
theorem pu_pin {I : xI} {s : xS} {hs : List xS} {sn : Option xS} {tx : Nat → Int} {len : Nat} (hC : CI I s hs sn tx len) (hg : CG s hs sn tx len) (b : Int) (hb : -2147483648 ≤ b ∧ b ≤ 2147483647) (p : Int) (hp : p = 0 ∨ p = 1) : S kX4_pin 5 [rr 0, ii b, ii p] I (q_i (fun ans I1 => ans = (oPin s b p).1 ∧ CI I1 (nxS s (oPin s b p)) (nxH s hs (oPin s b p)) sn tx len ∧ FX I I1)) := by
  refine Sp_intro (by decide +kernel) (Nat.le_of_ble_eq_true rfl) ?_
  show Y kX4_pin 5 0 [some (rr 0), some (ii b), some (ii p)] [] I _
  refine X_aload dX4_pin_0 rfl ?_
  refine X_getR dX4_pin_1 rfl gf_X4_16 sh_0 (by decide) rfl rf_0_1 ?_
  refine X_aload dX4_pin_4 rfl ?_
  refine X_getR dX4_pin_5 rfl gf_X4_10 sh_0 (by decide) rfl rf_0_0 ?_
  refine Y_vV dX4_pin_8 cv_X4_47 sh_12 (by decide) (t_copyFrom st12 st1 (by decide) hC.2.1 hg.1.1.n24) rfl (fun I8 h8 => ?_)
  have hC8 := hC.sc h8.2.sf
  have hR8 := h8.1
  refine X_aload dX4_pin_11 rfl ?_
  refine X_aload dX4_pin_12 rfl ?_
  refine X_getR dX4_pin_13 rfl gf_X4_16 sh_0 (by decide) rfl rf_0_1 ?_
  refine X_iload dX4_pin_16 rfl ?_
  refine X_iload dX4_pin_17 rfl ?_
  refine Y_iV dX4_pin_18 cv_X4_65 sh_12 (by decide) (w_pin hR8 hg.1 b hb p hp) rfl (fun z1 I1 h1 => ?_)
  obtain ⟨rfl, hF1, hRR⟩ := h1
  have hok := oPin_ok hg.1 b p hp
  have hC1 := hC8.sc hF1.sf
  refine Y_iV dX4_pin_21 cv_X4_55 sh_0 (by decide) (t_settle hC1 hg (oPin s b p) hok.1 (fun q => ⟨hRR q, (hok.2 q).1.n24⟩)) rfl (fun z2 I2 h2 => ?_)
  exact X_iret dX4_pin_24 (Or.inl rfl) ⟨rfl, rfl, _, rfl, h2.1, h2.2.1, (h8.2.sf.trans hF1.sf).fx.trans h2.2.2⟩
set_option maxRecDepth 20000 in
set_option maxHeartbeats 4000000 in
theorem pu_pass {I : xI} {s : xS} {hs : List xS} {sn : Option xS} {tx : Nat → Int} {len : Nat} (hC : CI I s hs sn tx len) (hg : CG s hs sn tx len) (t : Int) (ht : -2147483648 ≤ t ∧ t ≤ 2147483647) : S kX4_pass 6 [rr 0, ii t] I (q_i (fun ans I1 => ans = (oPass s t).1 ∧ CI I1 (nxS s (oPass s t)) (nxH s hs (oPass s t)) sn tx len ∧ FX I I1)) := by
  refine Sp_intro (by decide +kernel) (Nat.le_of_ble_eq_true rfl) ?_
  show Y kX4_pass 6 0 [some (rr 0), some (ii t)] [] I _
  refine X_aload dX4_pass_0 rfl ?_
  refine X_getR dX4_pass_1 rfl gf_X4_16 sh_0 (by decide) rfl rf_0_1 ?_
  refine X_aload dX4_pass_4 rfl ?_
  refine X_getR dX4_pass_5 rfl gf_X4_10 sh_0 (by decide) rfl rf_0_0 ?_
  refine Y_vV dX4_pass_8 cv_X4_47 sh_12 (by decide) (t_copyFrom st12 st1 (by decide) hC.2.1 hg.1.1.n24) rfl (fun I8 h8 => ?_)
  have hC8 := hC.sc h8.2.sf
  have hR8 := h8.1
  refine X_aload dX4_pass_11 rfl ?_
  refine X_aload dX4_pass_12 rfl ?_
  refine X_iload dX4_pass_13 rfl ?_
  refine Y_iV dX4_pass_14 cv_X4_69 sh_0 (by decide) (w_pass hR8 hg.1 t ht) rfl (fun z1 I1 h1 => ?_)
  obtain ⟨rfl, hF1, hRR⟩ := h1
  have hok := oPass_ok hg.1 t
  have hC1 := hC8.sc hF1.sf
  refine Y_iV dX4_pass_17 cv_X4_55 sh_0 (by decide) (t_settle hC1 hg (oPass s t) hok.1 (fun q => ⟨hRR q, (hok.2 q).1.n24⟩)) rfl (fun z2 I2 h2 => ?_)
  exact X_iret dX4_pass_20 (Or.inl rfl) ⟨rfl, rfl, _, rfl, h2.1, h2.2.1, (h8.2.sf.trans hF1.sf).fx.trans h2.2.2⟩
set_option maxRecDepth 20000 in
set_option maxHeartbeats 4000000 in
theorem pu_set {I : xI} {s : xS} {hs : List xS} {sn : Option xS} {tx : Nat → Int} {len : Nat} (hC : CI I s hs sn tx len) (hg : CG s hs sn tx len) (a : Int) (ha : -2147483648 ≤ a ∧ a ≤ 2147483647) (v : Int) (hv : -2147483648 ≤ v ∧ v ≤ 2147483647) : S kX4_set 5 [rr 0, ii a, ii v] I (q_i (fun ans I1 => ans = (oSet s a v).1 ∧ CI I1 (nxS s (oSet s a v)) (nxH s hs (oSet s a v)) sn tx len ∧ FX I I1)) := by
  refine Sp_intro (by decide +kernel) (Nat.le_of_ble_eq_true rfl) ?_
  show Y kX4_set 5 0 [some (rr 0), some (ii a), some (ii v)] [] I _
  refine X_aload dX4_set_0 rfl ?_
  refine X_getR dX4_set_1 rfl gf_X4_16 sh_0 (by decide) rfl rf_0_1 ?_
  refine X_aload dX4_set_4 rfl ?_
  refine X_getR dX4_set_5 rfl gf_X4_10 sh_0 (by decide) rfl rf_0_0 ?_
  refine Y_vV dX4_set_8 cv_X4_47 sh_12 (by decide) (t_copyFrom st12 st1 (by decide) hC.2.1 hg.1.1.n24) rfl (fun I8 h8 => ?_)
  have hC8 := hC.sc h8.2.sf
  have hR8 := h8.1
  refine X_aload dX4_set_11 rfl ?_
  refine X_aload dX4_set_12 rfl ?_
  refine X_getR dX4_set_13 rfl gf_X4_16 sh_0 (by decide) rfl rf_0_1 ?_
  refine X_iload dX4_set_16 rfl ?_
  refine X_iload dX4_set_17 rfl ?_
  refine Y_iV dX4_set_18 cv_X4_72 sh_12 (by decide) (w_set hR8 hg.1 hC8.1 a ha v hv) rfl (fun z1 I1 h1 => ?_)
  obtain ⟨rfl, hF1, hRR⟩ := h1
  have hok := oSet_ok hg.1 a v
  have hC1 := hC8.sc hF1.sf
  refine Y_iV dX4_set_21 cv_X4_55 sh_0 (by decide) (t_settle hC1 hg (oSet s a v) hok.1 (fun q => ⟨hRR q, (hok.2 q).1.n24⟩)) rfl (fun z2 I2 h2 => ?_)
  exact X_iret dX4_set_24 (Or.inl rfl) ⟨rfl, rfl, _, rfl, h2.1, h2.2.1, (h8.2.sf.trans hF1.sf).fx.trans h2.2.2⟩
