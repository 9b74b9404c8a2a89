/-! HeatShelves: texts, history -/
set_option maxRecDepth 20000 in
set_option maxHeartbeats 4000000 in
theorem pu_undo0 {I : xI} {s : xS} {sn : Option xS} {tx : Nat → Int} {len : Nat} (hC : CI I s [] sn tx len) : S kX4_undo 4 [rr 0] I (q_i (fun ans I1 => ans = -5 ∧ CI I1 s [] sn tx len ∧ FX I I1)) := by
  refine Sp_intro (by decide +kernel) (Nat.le_of_ble_eq_true rfl) ?_
  show Y kX4_undo 4 0 [some (rr 0)] [] I _
  refine X_aload dX4_undo_0 rfl ?_
  refine X_getR dX4_undo_1 rfl gf_X4_29 sh_0 (by decide) rfl rf_0_4 ?_
  refine X_aload dX4_undo_4 rfl ?_
  refine X_getR dX4_undo_5 rfl gf_X4_10 sh_0 (by decide) rfl rf_0_0 ?_
  refine Y_iV dX4_undo_8 cv_X4_93 sh_34 (by decide) (t_take0 hC.2.2.1) rfl (fun z8 I8 h8 => ?_)
  obtain ⟨rfl, rfl⟩ := h8
  refine X_if_ne (tgt := 17) dX4_undo_11 (by decide) (by decide) (fun c_11 => absurd rfl c_11) (fun c_11 => ?_)
  refine X_bipush dX4_undo_14 (by decide) ?_
  refine X_iret dX4_undo_16 (Or.inl rfl) ?_
  exact ⟨rfl, rfl, _, rfl, rfl, hC, fun _ _ => rfl⟩
set_option maxRecDepth 20000 in
set_option maxHeartbeats 4000000 in
theorem pu_restore0 {I : xI} {s : xS} {hs : List xS} {tx : Nat → Int} {len : Nat} (hC : CI I s hs none tx len) : S kX4_restore 5 [rr 0] I (q_i (fun ans I1 => ans = -5 ∧ CI I1 s hs none tx len ∧ FX I I1)) := by
  refine Sp_intro (by decide +kernel) (Nat.le_of_ble_eq_true rfl) ?_
  show Y kX4_restore 5 0 [some (rr 0)] [] I _
  refine X_aload dX4_restore_0 rfl ?_
  refine X_getI dX4_restore_1 rfl gf_X4_22 sh_0 (by decide) rfl ?_
  rw [show I 0 3 = 0 from hC.2.2.2.1]
  refine X_if_ne (tgt := 10) dX4_restore_4 (by decide) (by decide) (fun c_4 => absurd rfl c_4) (fun c_4 => ?_)
  refine X_bipush dX4_restore_7 (by decide) ?_
  refine X_iret dX4_restore_9 (Or.inl rfl) ?_
  exact ⟨rfl, rfl, _, rfl, rfl, hC, fun _ _ => rfl⟩
