/-! the other program: a block removed, read, pinned -/
def cgF (F : Nat → Int) (k jt : Nat) : Nat → Int := fun j => if 23 + 8 * k ≤ j ∧ j < jt then F (j + 8) else F j
theorem cg_lo {F : Nat → Int} {k jt j : Nat} (hj : j < 23) : cgF F k jt j = F j := by unfold cgF; rw [if_neg (by omega)]
theorem cg_hi {F : Nat → Int} {k jt : Nat} : cgF F k jt (8 + jt) = F (jt + 8) := by unfold cgF; rw [if_neg (by omega), Nat.add_comm]
theorem cg_st {F : Nat → Int} {k jt : Nat} (h : 23 + 8 * k ≤ jt) : gN (cgF F k jt) jt (F (jt + 8)) = cgF F k (jt + 1) := by
  funext j
  unfold gN cgF
  by_cases a : j = jt
  · rw [if_pos a, if_pos (by omega), a]
  · rw [if_neg a]
    by_cases b : 23 + 8 * k ≤ j ∧ j < jt
    · rw [if_pos b, if_pos (by omega)]
    · rw [if_neg b, if_neg (by omega)]
theorem rm_fin {F g : Nat → Int} {n k : Nat} (hk : k < n) (hF : ∀ j, j < 23 + 8 * n → F j = g j) : ∀ j, j < 23 + 8 * (n - 1) → cgF (gN F 15 (g 15 - 1)) k (23 + 8 * (n - 1)) j = rmG g k j := by
  intro j hj
  unfold cgF rmG
  by_cases a : j < 23
  · rw [if_neg (by omega), if_pos a, gN_num]
    by_cases b : j = 15
    · rw [if_pos b, if_pos b]
    · rw [if_neg b, if_neg b, hF j (by omega)]
  · rw [if_neg a]
    by_cases b : j < 23 + 8 * k
    · rw [if_neg (by omega), if_pos b, gN_num, if_neg (by omega), hF j (by omega)]
    · rw [if_pos (by omega), if_neg b, gN_num, if_neg (by omega), hF _ (by omega)]
set_option maxRecDepth 20000 in
set_option maxHeartbeats 4000000 in
theorem t5_removes_loop {I0 : xI} {F : Nat → Int} {n k : Nat} {b sh : Int} (hn : k < n ∧ n ≤ 24) (h15 : F 15 = (n : Int) - 1) : ∀ (m jt : Nat), jt + m = 23 + 8 * (n - 1) → 23 + 8 * k ≤ jt → ∀ (I : xI), RR I 215 (cgF F k jt) 24 → WF I0 I → Y kX5_removes 2 53 [some (rr 88), some (ii b), some (ii (k : Int)), some (ii sh), some (ii (215 + (jt : Int)))] [] I (q_i (fun ans I1 => ans = sh ∧ RR I1 215 (cgF F k (23 + 8 * (n - 1))) 24 ∧ WF I0 I1)) := by
  intro m
  induction m with
  | zero =>
    intro jt hj hk I hR hF
    refine X_iloadW dX5_removes_53 rfl ?_
    refine X_sipush dX5_removes_55 (by decide) ?_
    refine X_aload dX5_removes_58 rfl ?_
    refine X_getR dX5_removes_59 rfl gf_X5_7 sh_88 (by decide) rfl rf_88_0 ?_
    refine X_sipush dX5_removes_62 (by decide) ?_
    refine Y_ald dX5_removes_65 hR (by omega) (by decide) (15) (by omega) (by omega) ?_
    rw [cg_lo (by decide)]
    refine Y_pS dX5_removes_66 cs_X5_32 (t5_at _ _ _) rfl ?_
    refine X_icmp_ge (tgt := 95) dX5_removes_69 (by decide) (by omega) (fun c_69 => ?_) (fun c_69 => absurd c_69 (by omega))
    refine X_iload dX5_removes_95 rfl ?_
    refine X_iret dX5_removes_96 (Or.inl rfl) ?_
    obtain rfl : jt = 23 + 8 * (n - 1) := by omega
    exact ⟨rfl, rfl, _, rfl, rfl, hR, hF⟩
  | succ m ih =>
    intro jt hj hk I hR hF
    refine X_iloadW dX5_removes_53 rfl ?_
    refine X_sipush dX5_removes_55 (by decide) ?_
    refine X_aload dX5_removes_58 rfl ?_
    refine X_getR dX5_removes_59 rfl gf_X5_7 sh_88 (by decide) rfl rf_88_0 ?_
    refine X_sipush dX5_removes_62 (by decide) ?_
    refine Y_ald dX5_removes_65 hR (by omega) (by decide) (15) (by omega) (by omega) ?_
    rw [cg_lo (by decide)]
    refine Y_pS dX5_removes_66 cs_X5_32 (t5_at _ _ _) rfl ?_
    refine X_icmp_ge (tgt := 95) dX5_removes_69 (by decide) (by omega) (fun c_69 => absurd c_69 (by omega)) (fun c_69 => ?_)
    refine X_aload dX5_removes_72 rfl ?_
    refine X_getR dX5_removes_73 rfl gf_X5_7 sh_88 (by decide) rfl rf_88_0 ?_
    refine X_iloadW dX5_removes_76 rfl ?_
    refine X_aload dX5_removes_78 rfl ?_
    refine X_getR dX5_removes_79 rfl gf_X5_7 sh_88 (by decide) rfl rf_88_0 ?_
    refine X_iloadW dX5_removes_82 rfl ?_
    refine X_bipush dX5_removes_84 (by decide) ?_
    refine X_iadd dX5_removes_86 ?_
    refine Y_ald dX5_removes_87 hR (by omega) (by decide) (8 + jt) (by omega) (by omega) ?_
    rw [cg_hi]
    refine Y_ast dX5_removes_88 hR (by decide) (jt) (by omega) (by omega) (fun I88 hR hK88 => ?_)
    have hF := hF.trans hK88.wf
    have hR : RR I88 215 (cgF F k (jt + 1)) 24 := by rw [← cg_st (by omega)]; exact hR
    refine X_iinc dX5_removes_89 rfl ?_
    dsimp only [List.set]
    rw [Int.add_assoc]
    refine X_goto (tgt := 53) dX5_removes_92 (by decide) ?_
    exact ih (jt + 1) (by omega) (by omega) _ hR hF
set_option maxRecDepth 20000 in
set_option maxHeartbeats 4000000 in
theorem t5_removes {I : xI} {g : Nat → Int} {n : Nat} (hR : RR I 215 g n) (hG : GI g n) (b : Int) (hb : -2147483648 ≤ b ∧ b ≤ 2147483647) : S kX5_removes 2 [rr 88, ii b] I (q_i (op5 I (oRem (g, n) b))) := by
  have hn24 := hG.n24
  have h15 := hG.g15
  refine Sp_intro (by decide +kernel) (Nat.le_of_ble_eq_true rfl) ?_
  show Y kX5_removes 2 0 [some (rr 88), some (ii b), none, none, none] [] I _
  rcases hp : pl g n b with _ | k
  · have hfd := t5_placeOf hR (by decide) hG (ip := 215) rfl b hb
    rw [hp] at hfd
    change S _ _ _ _ (q_p (ii (-5)) I) at hfd
    refine X_aload dX5_removes_0 rfl ?_
    refine X_sipush dX5_removes_1 (by decide) ?_
    refine X_iload dX5_removes_4 rfl ?_
    refine Y_pV dX5_removes_5 cv_X5_65 sh_88 (by decide) hfd rfl ?_
    refine X_istore dX5_removes_8 (by decide) ?_
    dsimp only [List.set]
    refine X_iload dX5_removes_9 rfl ?_
    refine X_bipush dX5_removes_10 (by decide) ?_
    refine X_icmp_ne (tgt := 17) dX5_removes_12 (by decide) (by omega) (fun c_12 => absurd c_12 (by omega)) (fun c_12 => ?_)
    refine X_iconst dX5_removes_15 ?_
    refine X_iret dX5_removes_16 (Or.inl rfl) ?_
    exact ⟨rfl, rfl, _, rfl, by show _ = rmZ g n b; unfold rmZ; rw [hp], WF.rf, fun q => absurd q (by show ¬ (0 : Int) ≤ rmZ g n b; unfold rmZ; rw [hp]; exact (show ¬ (0 : Int) ≤ -1 by decide))⟩
  · have hk : k < n := pl_lt hp
    have hfd := t5_placeOf hR (by decide) hG (ip := 215) rfl b hb
    rw [hp] at hfd
    change S _ _ _ _ (q_p (ii ((k : Nat) : Int)) I) at hfd
    refine X_aload dX5_removes_0 rfl ?_
    refine X_sipush dX5_removes_1 (by decide) ?_
    refine X_iload dX5_removes_4 rfl ?_
    refine Y_pV dX5_removes_5 cv_X5_65 sh_88 (by decide) hfd rfl ?_
    refine X_istore dX5_removes_8 (by decide) ?_
    dsimp only [List.set]
    refine X_iload dX5_removes_9 rfl ?_
    refine X_bipush dX5_removes_10 (by decide) ?_
    refine X_icmp_ne (tgt := 17) dX5_removes_12 (by decide) (by omega) (fun c_12 => ?_) (fun c_12 => absurd c_12 (by omega))
    refine X_aload dX5_removes_17 rfl ?_
    refine X_getR dX5_removes_18 rfl gf_X5_7 sh_88 (by decide) rfl rf_88_0 ?_
    refine X_sipush dX5_removes_21 (by decide) ?_
    refine X_iload dX5_removes_24 rfl ?_
    refine Y_pS dX5_removes_25 cs_X5_32 (t5_at _ _ _) rfl ?_
    refine X_iconst dX5_removes_28 ?_
    refine X_iadd dX5_removes_29 ?_
    refine Y_aldB dX5_removes_30 hR (by omega) hn24 (k) (3) (by omega) (by omega) (by omega) ?_
    refine X_istore dX5_removes_31 (by decide) ?_
    dsimp only [List.set]
    refine X_aload dX5_removes_32 rfl ?_
    refine X_getR dX5_removes_33 rfl gf_X5_7 sh_88 (by decide) rfl rf_88_0 ?_
    refine X_sipush dX5_removes_36 (by decide) ?_
    refine X_dup2 dX5_removes_39 ?_
    refine Y_ald dX5_removes_40 hR (by omega) hn24 (15) (by omega) (by omega) ?_
    have hFg : ∀ j, j < 23 + 8 * n → (fun j => I 89 (215 + j)) j = g j := hR
    have hR : RR I 215 (fun j => I 89 (215 + j)) 24 := rr_full
    generalize (fun j => I 89 (215 + j)) = F at hR hFg
    refine X_iconst dX5_removes_41 ?_
    refine X_isub dX5_removes_42 ?_
    refine Y_ast dX5_removes_43 hR (by decide) 15 (by omega) (by omega) (fun I43 hR hK43 => ?_)
    have hR : RR I43 215 (cgF (gN F 15 (g 15 - 1)) k (23 + 8 * k)) 24 := by
      rw [show cgF (gN F 15 (g 15 - 1)) k (23 + 8 * k) = gN F 15 (g 15 - 1) from by funext j; unfold cgF; rw [if_neg (by omega)]]; exact hR
    refine X_sipush dX5_removes_44 (by decide) ?_
    refine X_iload dX5_removes_47 rfl ?_
    refine Y_pS dX5_removes_48 cs_X5_32 (t5_at _ _ _) rfl ?_
    refine X_istoreW dX5_removes_51 (by decide) ?_
    dsimp only [List.set]
    have h9 := t5_removes_loop (I0 := I) (b := b) (sh := gb g k 3) (F := gN F 15 (g 15 - 1)) (n := n) (k := k) ⟨hk, hn24⟩ (by rw [gN_num, if_pos rfl, h15]) (8 * (n - 1) - 8 * k) (23 + 8 * k) (by omega) (Nat.le_refl _) I43 hR hK43.wf
    rw [show (215 : Int) + ((23 + 8 * k : Nat) : Int) = 215 + 23 + 8 * (k : Int) by omega] at h9
    refine X_weaken h9 (fun ro N1 I1 R1 e => ?_)
    obtain ⟨a1, a2, z, a3, rfl, a4, a5⟩ := e
    refine ⟨a1, a2, _, a3, by show _ = rmZ g n b; unfold rmZ; rw [hp], a5, fun _ => ?_⟩
    show RR I1 215 (match pl g n b with | none => (g, n) | some k => (rmG g k, n - 1)).1 (match pl g n b with | none => (g, n) | some k => (rmG g k, n - 1)).2
    rw [hp]
    exact a4.le (by dsimp only; omega) (rm_fin hk hFg)
set_option maxRecDepth 20000 in
set_option maxHeartbeats 4000000 in
theorem t5_turnsPin {I : xI} {g : Nat → Int} {n : Nat} (hR : RR I 215 g n) (hG : GI g n) (b : Int) (hb : -2147483648 ≤ b ∧ b ≤ 2147483647) : S kX5_turnsPin 2 [rr 88, ii b] I (q_i (op5 I (oPin (g, n) b (fpP g n b)))) := by
  have hn24 := hG.n24
  have h15 := hG.g15
  refine Sp_intro (by decide +kernel) (Nat.le_of_ble_eq_true rfl) ?_
  show Y kX5_turnsPin 2 0 [some (rr 88), some (ii b), none] [] I _
  rcases hp : pl g n b with _ | k
  · have hfd := t5_placeOf hR (by decide) hG (ip := 215) rfl b hb
    rw [hp] at hfd
    change S _ _ _ _ (q_p (ii (-5)) I) at hfd
    refine X_aload dX5_turnsPin_0 rfl ?_
    refine X_sipush dX5_turnsPin_1 (by decide) ?_
    refine X_iload dX5_turnsPin_4 rfl ?_
    refine Y_pV dX5_turnsPin_5 cv_X5_65 sh_88 (by decide) hfd rfl ?_
    refine X_istore dX5_turnsPin_8 (by decide) ?_
    dsimp only [List.set]
    refine X_iload dX5_turnsPin_9 rfl ?_
    refine X_bipush dX5_turnsPin_10 (by decide) ?_
    refine X_icmp_ne (tgt := 17) dX5_turnsPin_12 (by decide) (by omega) (fun c_12 => absurd c_12 (by omega)) (fun c_12 => ?_)
    refine X_iconst dX5_turnsPin_15 ?_
    refine X_iret dX5_turnsPin_16 (Or.inl rfl) ?_
    exact ⟨rfl, rfl, _, rfl, by show _ = tpZ g n b _; unfold tpZ; rw [hp], WF.rf, fun q => absurd q (by show ¬ (0 : Int) ≤ tpZ g n b _; unfold tpZ; rw [hp]; exact (show ¬ (0 : Int) ≤ -1 by decide))⟩
  · have hk : k < n := pl_lt hp
    have hfd := t5_placeOf hR (by decide) hG (ip := 215) rfl b hb
    rw [hp] at hfd
    change S _ _ _ _ (q_p (ii ((k : Nat) : Int)) I) at hfd
    refine X_aload dX5_turnsPin_0 rfl ?_
    refine X_sipush dX5_turnsPin_1 (by decide) ?_
    refine X_iload dX5_turnsPin_4 rfl ?_
    refine Y_pV dX5_turnsPin_5 cv_X5_65 sh_88 (by decide) hfd rfl ?_
    refine X_istore dX5_turnsPin_8 (by decide) ?_
    dsimp only [List.set]
    refine X_iload dX5_turnsPin_9 rfl ?_
    refine X_bipush dX5_turnsPin_10 (by decide) ?_
    refine X_icmp_ne (tgt := 17) dX5_turnsPin_12 (by decide) (by omega) (fun c_12 => ?_) (fun c_12 => absurd c_12 (by omega))
    refine X_aload dX5_turnsPin_17 rfl ?_
    refine X_getR dX5_turnsPin_18 rfl gf_X5_7 sh_88 (by decide) rfl rf_88_0 ?_
    refine X_sipush dX5_turnsPin_21 (by decide) ?_
    refine X_iload dX5_turnsPin_24 rfl ?_
    refine Y_pS dX5_turnsPin_25 cs_X5_32 (t5_at _ _ _) rfl ?_
    refine X_iconst dX5_turnsPin_28 ?_
    refine X_iadd dX5_turnsPin_29 ?_
    refine X_iconst dX5_turnsPin_30 ?_
    refine X_aload dX5_turnsPin_31 rfl ?_
    refine X_getR dX5_turnsPin_32 rfl gf_X5_7 sh_88 (by decide) rfl rf_88_0 ?_
    refine X_sipush dX5_turnsPin_35 (by decide) ?_
    refine X_iload dX5_turnsPin_38 rfl ?_
    refine Y_pS dX5_turnsPin_39 cs_X5_32 (t5_at _ _ _) rfl ?_
    refine X_iconst dX5_turnsPin_42 ?_
    refine X_iadd dX5_turnsPin_43 ?_
    refine Y_aldB dX5_turnsPin_44 hR (by omega) hn24 (k) (4) (by omega) (by omega) (by omega) ?_
    refine X_isub dX5_turnsPin_45 ?_
    have h4 := (hG.b hk).2.2.2.2.1
    have ef : fpP g n b = 1 - gb g k 4 := by
      unfold fpP
      rw [hp]
      show (if gb g k 4 = 0 then 1 else 0 : Int) = _
      split <;> omega
    refine Y_astB dX5_turnsPin_46 hR hn24 (k) (4) (by omega) (by omega) (by omega) (fun I46 hR hK46 => ?_)
    have hG2 : GI (gB g k 4 (1 - gb g k 4)) n := hG.setB (by decide) ⟨by omega, by omega, by omega, by omega, by omega, by omega⟩
    refine X_aload dX5_turnsPin_47 rfl ?_
    refine X_sipush dX5_turnsPin_48 (by decide) ?_
    refine Y_pV dX5_turnsPin_51 cv_X5_72 sh_88 (by decide) (t5_pinned hR (by decide) hG2 rfl) rfl ?_
    refine X_iret dX5_turnsPin_54 (Or.inl rfl) ?_
    refine ⟨rfl, rfl, _, rfl, ?_, hK46.wf, fun _ => ?_⟩
    · show _ = tpZ g n b (fpP g n b)
      unfold tpZ
      rw [hp, ef]
      show _ = if _ then _ else _
      rw [if_neg (by omega)]
    · show RR _ 215 (match pl g n b with | none => (g, n) | some k => (gB g k 4 (fpP g n b), n)).1 (match pl g n b with | none => (g, n) | some k => (gB g k 4 (fpP g n b), n)).2
      rw [hp, ef]
      exact hR
set_option maxRecDepth 20000 in
set_option maxHeartbeats 4000000 in
theorem t5_passesIn {I : xI} {g : Nat → Int} {n : Nat} (hR : RR I 215 g n) (hG : GI g n) (h17 : 0 ≤ g 17 ∧ g 17 ≤ 5000) (t : Nat) (ht : 1 ≤ t ∧ t ≤ 99) {it : Int} (hit : it = (t : Int)) : S kX5_passesIn 7 [rr 88, ii it] I (q_i (op5 I (oPass (g, n) (t : Int)))) := by
  subst hit
  have hn24 := hG.n24
  refine Sp_intro (by decide +kernel) (Nat.le_of_ble_eq_true rfl) ?_
  show Y kX5_passesIn 7 0 [some (rr 88), some (ii (t : Int))] [] I _
  refine X_aload dX5_passesIn_0 rfl ?_
  refine X_getR dX5_passesIn_1 rfl gf_X5_7 sh_88 (by decide) rfl rf_88_0 ?_
  refine X_sipush dX5_passesIn_4 (by decide) ?_
  refine Y_ald dX5_passesIn_7 hR (by omega) hn24 (17) (by omega) (by omega) ?_
  refine X_iload dX5_passesIn_8 rfl ?_
  refine X_iadd dX5_passesIn_9 ?_
  refine X_sipush dX5_passesIn_10 (by decide) ?_
  refine X_icmp_le (tgt := 21) dX5_passesIn_13 (by decide) (by omega) (fun c_13 => ?_) (fun c_13 => ?_)
  · refine X_aload dX5_passesIn_21 rfl ?_
    refine X_sipush dX5_passesIn_22 (by decide) ?_
    refine X_iload dX5_passesIn_25 rfl ?_
    refine Y_iV dX5_passesIn_26 cv_X5_75 sh_88 (by decide) (t5_passes hR hG t (by omega) rfl) rfl (fun z26 I26 h26 => ?_)
    refine X_iret dX5_passesIn_29 (Or.inl rfl) ?_
    first
      | (exact ⟨rfl, rfl, _, rfl, h26.1.trans (by show _ = (if (t : Int) < 1 ∨ 99 < (t : Int) then -2 else if 5000 < g 17 + (t : Int) then -3 else nsM g n (g 3) (t : Int).toNat : Int); rw [if_neg (by omega), if_neg (by omega)]; rw [Int.toNat_natCast]), h26.2.2, fun _ => by show RR I26 215 (npG g n (t : Int).toNat) n; rw [Int.toNat_natCast]; exact h26.2.1⟩)
      | (exact ⟨rfl, rfl, _, rfl, by show _ = (if (t : Int) < 1 ∨ 99 < (t : Int) then -2 else if 5000 < g 17 + (t : Int) then -3 else nsM g n (g 3) (t : Int).toNat : Int); rw [if_neg (by omega), if_pos (by omega)], WF.rf, fun q => absurd q (by show ¬ (0 : Int) ≤ (if (t : Int) < 1 ∨ 99 < (t : Int) then -2 else if 5000 < g 17 + (t : Int) then -3 else nsM g n (g 3) (t : Int).toNat : Int); rw [if_neg (by omega), if_pos (by omega)]; decide)⟩)
  · refine X_bipush dX5_passesIn_16 (by decide) ?_
    refine X_goto (tgt := 29) dX5_passesIn_18 (by decide) ?_
    refine X_iret dX5_passesIn_29 (Or.inl rfl) ?_
    first
      | (exact ⟨rfl, rfl, _, rfl, h26.1.trans (by show _ = (if (t : Int) < 1 ∨ 99 < (t : Int) then -2 else if 5000 < g 17 + (t : Int) then -3 else nsM g n (g 3) (t : Int).toNat : Int); rw [if_neg (by omega), if_neg (by omega)]; rw [Int.toNat_natCast]), h26.2.2, fun _ => by show RR I26 215 (npG g n (t : Int).toNat) n; rw [Int.toNat_natCast]; exact h26.2.1⟩)
      | (exact ⟨rfl, rfl, _, rfl, by show _ = (if (t : Int) < 1 ∨ 99 < (t : Int) then -2 else if 5000 < g 17 + (t : Int) then -3 else nsM g n (g 3) (t : Int).toNat : Int); rw [if_neg (by omega), if_pos (by omega)], WF.rf, fun q => absurd q (by show ¬ (0 : Int) ≤ (if (t : Int) < 1 ∨ 99 < (t : Int) then -2 else if 5000 < g 17 + (t : Int) then -3 else nsM g n (g 3) (t : Int).toNat : Int); rw [if_neg (by omega), if_pos (by omega)]; decide)⟩)
theorem gB_self {g : Nat → Int} {k w : Nat} : gB g k w (gb g k w) = g := gN_self
def rdA (g : Nat → Int) (k : Nat) : Nat → Int := gB (gB g k 2 (min (gb g k 2 + 1000) 99999)) k 6 (gb g k 6 + 1)
def rdB (g : Nat → Int) (k : Nat) : Nat → Int := gN (gB (rdA g k) k 5 0) 22 (g 22 + 1)
theorem rdA_gb {g : Nat → Int} {k q j : Nat} (hj : j < 8) (h : j ≠ 2 ∧ j ≠ 6) : gb (rdA g k) q j = gb g q j := by
  unfold rdA
  rw [gB_ne (by decide) hj h.2, gB_ne (by decide) hj h.1]
theorem rdA_num {g : Nat → Int} {k j : Nat} (hj : j < 23) : rdA g k j = g j := by
  unfold rdA
  rw [gB_num hj, gB_num hj]
theorem rdB_gb {g : Nat → Int} {k q j : Nat} (hj : j < 8) (h : j ≠ 2 ∧ j ≠ 6 ∧ j ≠ 5) : gb (rdB g k) q j = gb g q j := by
  unfold rdB
  rw [gN_gb (by decide), gB_ne (by decide) hj h.2.2, rdA_gb hj ⟨h.1, h.2.1⟩]
theorem rdB_num {g : Nat → Int} {k j : Nat} (hj : j < 23) (h : j ≠ 22) : rdB g k j = g j := by
  unfold rdB
  rw [gN_num, if_neg h, gB_num hj, rdA_num hj]
theorem rd3_form {g : Nat → Int} {k : Nat} : rdG3 g k = gN (rdA g k) 19 (g 19 + rdC g k) := by
  unfold rdG3 rdG2 rdG1 rdA
  rw [gN_gb (by decide), gB_ne (by decide) (by decide) (by decide), gN_gb (by decide), gB_com (by decide), gB_com (by decide)]
  congr 1
  unfold gB
  exact gN_com (by omega)
theorem rd3_gb {g : Nat → Int} {k q j : Nat} (hj : j < 8) (h : j ≠ 2 ∧ j ≠ 6) : gb (rdG3 g k) q j = gb g q j := by
  rw [rd3_form, gN_gb (by decide), rdA_gb hj h]
theorem rd3_num {g : Nat → Int} {k j : Nat} (hj : j < 23) (h : j ≠ 19) : rdG3 g k j = g j := by
  rw [rd3_form, gN_num, if_neg h, rdA_num hj]
theorem ab3_form {g : Nat → Int} {k : Nat} : abG3 (rdG3 g k) k = gN (gN (rdB g k) 19 (g 19 + rdC g k)) 20 (g 20 + abP g k) := by
  have e1 : abP (rdG3 g k) k = abP g k := by unfold abP; rw [rd3_gb (by decide) (by decide), rd3_gb (by decide) (by decide), rd3_num (by decide) (by decide)]
  have e2 : abG1 (rdG3 g k) k 22 = g 22 := by unfold abG1; rw [gN_num, if_neg (by decide), rd3_num (by decide) (by decide)]
  unfold abG3 abG2
  rw [e2]
  unfold abG1
  rw [e1, rd3_num (by decide) (by decide), rd3_form, gB_com (by decide), gB_com (by decide), gB_com (by decide)]
  unfold rdB
  rw [gN_com (a := 20) (b := 22) (by decide), gN_com (a := 19) (b := 22) (by decide)]
theorem rm_cg {g h : Nat → Int} {n s : Nat} {z : Int} (e : ∀ q, gb h q 3 = gb g q 3 ∧ gb h q 1 = gb g q 1) (e6 : h (6 + s) = g (6 + s)) : rmB h n s z = rmB g n s z := by
  unfold rmB
  rw [e6, on_congr (by decide) (fun q _ => e q)]
theorem rm_AB {g : Nat → Int} {n k s : Nat} {z : Int} (hs : s < 3) : rmB (abG3 (rdG3 g k) k) n s z = rmB (rdB g k) n s z := by
  rw [ab3_form]
  exact rm_cg (fun q => ⟨by rw [gN_gb (by decide), gN_gb (by decide)], by rw [gN_gb (by decide), gN_gb (by decide)]⟩) (by rw [gN_num, if_neg (by omega), gN_num, if_neg (by omega)])
theorem mv_com {g : Nat → Int} {a k : Nat} {x sh : Int} (ha : a < 23) : mv (gN g a x) k sh = gN (mv g k sh) a x := by
  unfold mv
  rw [gN_gb ha, gB_com ha, gB_com ha]
theorem rd_mv {g : Nat → Int} {k : Nat} {sh : Int} : gB (gB (rdB g k) k 7 (gb g k 7 + 1)) k 3 sh = mv (rdB g k) k sh := by
  unfold mv
  rw [rdB_gb (by decide) (by decide)]
  unfold gB
  exact gN_com (by omega)
theorem rd_fin0 {g : Nat → Int} {n k : Nat} {u : Nat} (hu : gb g k 3 = (u : Int)) (h : ¬ gb g k 3 = 2) : gN (gN (rdA g k) 19 (g 19 + gb g k 1 * g (12 + u))) 20 (g 20 + 0) = rd1G g n k ∧ gb g k 1 * g (12 + u) + 0 = rd1P g k := by
  have ec : gb g k 1 * g (12 + u) = rdC g k := by unfold rdC; rw [hu, Int.toNat_natCast]
  unfold rd1G rd1P
  rw [if_neg h, if_neg h, ec, rd3_form, Int.add_zero, Int.add_zero]
  refine ⟨?_, rfl⟩
  funext i
  simp only [gN_num]
  by_cases a : i = 20
  · rw [if_pos a, a, if_neg (by decide), rdA_num (by decide)]
  · rw [if_neg a]
theorem rd_fin1 {g : Nat → Int} {n k : Nat} {u : Nat} (hu : gb g k 3 = (u : Int)) (h : gb g k 3 = 2) {X : Nat → Int} (hX : X = if rmB (rdB g k) n 0 (gb g k 1) = true then mv (rdB g k) k ((0 : Nat) : Int) else if rmB (rdB g k) n 1 (gb g k 1) = true then mv (rdB g k) k ((1 : Nat) : Int) else rdB g k) : gN (gN X 19 (g 19 + gb g k 1 * g (12 + u))) 20 (g 20 + gb g k 1 * g 5 * gb g k 5) = rd1G g n k ∧ gb g k 1 * g (12 + u) + gb g k 1 * g 5 * gb g k 5 = rd1P g k := by
  have ec : gb g k 1 * g (12 + u) = rdC g k := by unfold rdC; rw [hu, Int.toNat_natCast]
  have ep : gb g k 1 * g 5 * gb g k 5 = abP g k := rfl
  have e1 : abP (rdG3 g k) k = abP g k := by unfold abP; rw [rd3_gb (by decide) (by decide), rd3_gb (by decide) (by decide), rd3_num (by decide) (by decide)]
  have e2 : gb (rdG3 g k) k 1 = gb g k 1 := rd3_gb (by decide) (by decide)
  unfold rd1G rd1P
  rw [if_pos h, if_pos h, ec, ep, e1]
  refine ⟨?_, rfl⟩
  unfold abG
  rw [e2, rm_AB (by decide), rm_AB (by decide), ab3_form, hX]
  split
  · rw [mv_com (by decide), mv_com (by decide)]
  · split
    · rw [mv_com (by decide), mv_com (by decide)]
    · rfl
set_option maxRecDepth 20000 in
set_option maxHeartbeats 4000000 in
theorem t5_readsOne {I : xI} {g : Nat → Int} {n : Nat} (hR : RR I 215 g n) (hG : GI g n) (k : Nat) (hk : k < n) : S kX5_readsOne 3 [rr 88, ii (215 + 23 + 8 * (k : Int))] I (q_i (fun z I1 => z = rd1P g k ∧ RR I1 215 (rd1G g n k) n ∧ WF I I1)) := by
  have hn24 := hG.n24
  have hz := (hG.b hk).2.1
  have hb3 := (hG.b hk).2.2.2.1
  obtain ⟨u, hu⟩ := Int.eq_ofNat_of_zero_le hb3.1
  have hF : WF I I := WF.rf
  refine Sp_intro (by decide +kernel) (Nat.le_of_ble_eq_true rfl) ?_
  show Y kX5_readsOne 3 0 [some (rr 88), some (ii (215 + 23 + 8 * (k : Int))), none, none, none, none] [] I _
  refine X_aload dX5_readsOne_0 rfl ?_
  refine X_getR dX5_readsOne_1 rfl gf_X5_7 sh_88 (by decide) rfl rf_88_0 ?_
  refine X_iload dX5_readsOne_4 rfl ?_
  refine X_iconst dX5_readsOne_5 ?_
  refine X_iadd dX5_readsOne_6 ?_
  refine Y_aldB dX5_readsOne_7 hR (by omega) hn24 (k) (1) (by omega) (by omega) (by omega) ?_
  refine X_istore dX5_readsOne_8 (by decide) ?_
  dsimp only [List.set]
  refine X_iload dX5_readsOne_9 rfl ?_
  refine X_aload dX5_readsOne_10 rfl ?_
  refine X_getR dX5_readsOne_11 rfl gf_X5_7 sh_88 (by decide) rfl rf_88_0 ?_
  refine X_sipush dX5_readsOne_14 (by decide) ?_
  refine X_aload dX5_readsOne_17 rfl ?_
  refine X_getR dX5_readsOne_18 rfl gf_X5_7 sh_88 (by decide) rfl rf_88_0 ?_
  refine X_iload dX5_readsOne_21 rfl ?_
  refine X_iconst dX5_readsOne_22 ?_
  refine X_iadd dX5_readsOne_23 ?_
  refine Y_aldB dX5_readsOne_24 hR (by omega) hn24 (k) (3) (by omega) (by omega) (by omega) ?_
  refine X_iadd dX5_readsOne_25 ?_
  refine Y_ald dX5_readsOne_26 hR (by omega) hn24 (12 + u) (by omega) (by omega) ?_
  refine X_imul dX5_readsOne_27 ?_
  refine X_istore dX5_readsOne_28 (by decide) ?_
  dsimp only [List.set]
  refine X_iconst dX5_readsOne_29 ?_
  refine X_istoreW dX5_readsOne_30 (by decide) ?_
  dsimp only [List.set]
  refine X_aload dX5_readsOne_32 rfl ?_
  refine X_getR dX5_readsOne_33 rfl gf_X5_7 sh_88 (by decide) rfl rf_88_0 ?_
  refine X_iload dX5_readsOne_36 rfl ?_
  refine X_iconst dX5_readsOne_37 ?_
  refine X_iadd dX5_readsOne_38 ?_
  refine X_aload dX5_readsOne_39 rfl ?_
  refine X_getR dX5_readsOne_40 rfl gf_X5_7 sh_88 (by decide) rfl rf_88_0 ?_
  refine X_iload dX5_readsOne_43 rfl ?_
  refine X_iconst dX5_readsOne_44 ?_
  refine X_iadd dX5_readsOne_45 ?_
  refine Y_aldB dX5_readsOne_46 hR (by omega) hn24 (k) (2) (by omega) (by omega) (by omega) ?_
  refine X_sipush dX5_readsOne_47 (by decide) ?_
  refine X_iadd dX5_readsOne_50 ?_
  refine X_ldc (z := 99999) dX5_readsOne_51 rfl lw_X5_68 (by decide) ?_
  have hb2 := (hG.b hk).2.2.1
  refine X_icmp_le (tgt := 61) dX5_readsOne_53 (by decide) (by omega) (fun c_53 => ?_) (fun c_53 => ?_)
  · refine X_aload dX5_readsOne_61 rfl ?_
    refine X_getR dX5_readsOne_62 rfl gf_X5_7 sh_88 (by decide) rfl rf_88_0 ?_
    refine X_iload dX5_readsOne_65 rfl ?_
    refine X_iconst dX5_readsOne_66 ?_
    refine X_iadd dX5_readsOne_67 ?_
    refine Y_aldB dX5_readsOne_68 hR (by omega) hn24 (k) (2) (by omega) (by omega) (by omega) ?_
    refine X_sipush dX5_readsOne_69 (by decide) ?_
    refine X_iadd dX5_readsOne_72 ?_
    refine Y_astB dX5_readsOne_73 hR hn24 (k) (2) (by omega) (by omega) (by omega) (fun I73 hR hK73 => ?_)
    have hF := hF.trans hK73.wf
    have hR : RR I73 215 (gB g k 2 (min (gb g k 2 + 1000) 99999)) n := by
      first
        | (rw [show min (gb g k 2 + 1000) 99999 = gb g k 2 + 1000 by omega]; exact hR)
        | (rw [show min (gb g k 2 + 1000) 99999 = 99999 by omega]; exact hR)
    refine X_aload dX5_readsOne_74 rfl ?_
    refine X_getR dX5_readsOne_75 rfl gf_X5_7 sh_88 (by decide) rfl rf_88_0 ?_
    refine X_iload dX5_readsOne_78 rfl ?_
    refine X_bipush dX5_readsOne_79 (by decide) ?_
    refine X_iadd dX5_readsOne_81 ?_
    refine X_dup2 dX5_readsOne_82 ?_
    refine Y_aldB dX5_readsOne_83 hR (by omega) hn24 (k) (6) (by omega) (by omega) (by omega) ?_
    rw [gB_ne (by decide) (by decide) (by decide)]
    refine X_iconst dX5_readsOne_84 ?_
    refine X_iadd dX5_readsOne_85 ?_
    refine Y_astB dX5_readsOne_86 hR hn24 (k) (6) (by omega) (by omega) (by omega) (fun I86 hR hK86 => ?_)
    have hF := hF.trans hK86.wf
    have hR : RR I86 215 (rdA g k) n := hR
    refine X_aload dX5_readsOne_87 rfl ?_
    refine X_getR dX5_readsOne_88 rfl gf_X5_7 sh_88 (by decide) rfl rf_88_0 ?_
    refine X_iload dX5_readsOne_91 rfl ?_
    refine X_iconst dX5_readsOne_92 ?_
    refine X_iadd dX5_readsOne_93 ?_
    refine Y_aldB dX5_readsOne_94 hR (by omega) hn24 (k) (3) (by omega) (by omega) (by omega) ?_
    rw [rdA_gb (by decide) (by decide)]
    refine X_iconst dX5_readsOne_95 ?_
    refine X_icmp_ne (tgt := 209) dX5_readsOne_96 (by decide) (by omega) (fun c_96 => ?_) (fun c_96 => ?_)
    · refine X_aload dX5_readsOne_209 rfl ?_
      refine X_getR dX5_readsOne_210 rfl gf_X5_7 sh_88 (by decide) rfl rf_88_0 ?_
      refine X_sipush dX5_readsOne_213 (by decide) ?_
      refine X_dup2 dX5_readsOne_216 ?_
      refine Y_ald dX5_readsOne_217 hR (by omega) hn24 (19) (by omega) (by omega) ?_
      first
        | rw [x19]
        | rw [rdA_num (by decide)]
      refine X_iload dX5_readsOne_218 rfl ?_
      refine X_iadd dX5_readsOne_219 ?_
      refine Y_ast dX5_readsOne_220 hR hn24 (19) (by omega) (by omega) (fun I220 hR hK220 => ?_)
      have hF := hF.trans hK220.wf
      refine X_aload dX5_readsOne_221 rfl ?_
      refine X_getR dX5_readsOne_222 rfl gf_X5_7 sh_88 (by decide) rfl rf_88_0 ?_
      refine X_sipush dX5_readsOne_225 (by decide) ?_
      refine X_dup2 dX5_readsOne_228 ?_
      refine Y_ald dX5_readsOne_229 hR (by omega) hn24 (20) (by omega) (by omega) ?_
      rw [gN_num, if_neg (by decide)]
      first
        | rw [x20]
        | rw [rdA_num (by decide)]
      refine X_iloadW dX5_readsOne_230 rfl ?_
      refine X_iadd dX5_readsOne_232 ?_
      refine Y_ast dX5_readsOne_233 hR hn24 (20) (by omega) (by omega) (fun I233 hR hK233 => ?_)
      have hF := hF.trans hK233.wf
      refine X_iload dX5_readsOne_234 rfl ?_
      refine X_iloadW dX5_readsOne_235 rfl ?_
      refine X_iadd dX5_readsOne_237 ?_
      refine X_iret dX5_readsOne_238 (Or.inl rfl) ?_
      first
        | (obtain ⟨f1, f2⟩ := rd_fin1 (n := n) hu c_96 hX; exact ⟨rfl, rfl, _, rfl, f2, by rw [← f1]; exact hR, hF⟩)
        | (obtain ⟨f1, f2⟩ := rd_fin0 (n := n) hu c_96; exact ⟨rfl, rfl, _, rfl, f2, by rw [← f1]; exact hR, hF⟩)
    · refine X_iload dX5_readsOne_99 rfl ?_
      refine X_aload dX5_readsOne_100 rfl ?_
      refine X_getR dX5_readsOne_101 rfl gf_X5_7 sh_88 (by decide) rfl rf_88_0 ?_
      refine X_sipush dX5_readsOne_104 (by decide) ?_
      refine Y_ald dX5_readsOne_107 hR (by omega) hn24 (5) (by omega) (by omega) ?_
      rw [rdA_num (by decide)]
      refine X_imul dX5_readsOne_108 ?_
      refine X_aload dX5_readsOne_109 rfl ?_
      refine X_getR dX5_readsOne_110 rfl gf_X5_7 sh_88 (by decide) rfl rf_88_0 ?_
      refine X_iload dX5_readsOne_113 rfl ?_
      refine X_iconst dX5_readsOne_114 ?_
      refine X_iadd dX5_readsOne_115 ?_
      refine Y_aldB dX5_readsOne_116 hR (by omega) hn24 (k) (5) (by omega) (by omega) (by omega) ?_
      rw [rdA_gb (by decide) (by decide)]
      refine X_imul dX5_readsOne_117 ?_
      refine X_istoreW dX5_readsOne_118 (by decide) ?_
      dsimp only [List.set]
      refine X_aload dX5_readsOne_120 rfl ?_
      refine X_getR dX5_readsOne_121 rfl gf_X5_7 sh_88 (by decide) rfl rf_88_0 ?_
      refine X_iload dX5_readsOne_124 rfl ?_
      refine X_iconst dX5_readsOne_125 ?_
      refine X_iadd dX5_readsOne_126 ?_
      refine X_iconst dX5_readsOne_127 ?_
      refine Y_astB dX5_readsOne_128 hR hn24 (k) (5) (by omega) (by omega) (by omega) (fun I128 hR hK128 => ?_)
      have hF := hF.trans hK128.wf
      refine X_aload dX5_readsOne_129 rfl ?_
      refine X_getR dX5_readsOne_130 rfl gf_X5_7 sh_88 (by decide) rfl rf_88_0 ?_
      refine X_sipush dX5_readsOne_133 (by decide) ?_
      refine X_dup2 dX5_readsOne_136 ?_
      refine Y_ald dX5_readsOne_137 hR (by omega) hn24 (22) (by omega) (by omega) ?_
      rw [gB_num (by decide), rdA_num (by decide)]
      refine X_iconst dX5_readsOne_138 ?_
      refine X_iadd dX5_readsOne_139 ?_
      refine Y_ast dX5_readsOne_140 hR hn24 (22) (by omega) (by omega) (fun I140 hR hK140 => ?_)
      have hF := hF.trans hK140.wf
      have hR : RR I140 215 (rdB g k) n := hR
      have hGB : GI (rdB g k) n := (((hG.setB (k := k) (j := 2) (z := min (gb g k 2 + 1000) 99999) (by decide) ⟨by omega, by omega, by omega, by omega, by omega, by omega⟩).setB (k := k) (j := 6) (z := gb g k 6 + 1) (by decide) ⟨by omega, by omega, by omega, by omega, by omega, by omega⟩).setB (k := k) (j := 5) (z := 0) (by decide) ⟨by omega, by omega, by omega, by omega, by omega, by omega⟩).acc (by decide) _
      refine X_aload dX5_readsOne_141 rfl ?_
      refine X_sipush dX5_readsOne_142 (by decide) ?_
      refine X_iconst dX5_readsOne_145 ?_
      refine X_iload dX5_readsOne_146 rfl ?_
      refine Y_pV dX5_readsOne_147 cv_X5_43 sh_88 (by decide) (t5_hasRoom hR (by decide) hGB rfl 0 (by decide) rfl (gb g k 1) (by omega)) rfl ?_
      refine X_if_eq (tgt := 157) dX5_readsOne_150 (by decide) (by split <;> omega) (fun c_150 => ?_) (fun c_150 => ?_)
      · have r0 : ¬ rmB (rdB g k) n 0 (gb g k 1) = true := fun q => by rw [if_pos q] at c_150; omega
        refine X_aload dX5_readsOne_157 rfl ?_
        refine X_sipush dX5_readsOne_158 (by decide) ?_
        refine X_iconst dX5_readsOne_161 ?_
        refine X_iload dX5_readsOne_162 rfl ?_
        refine Y_pV dX5_readsOne_163 cv_X5_43 sh_88 (by decide) (t5_hasRoom hR (by decide) hGB rfl 1 (by decide) rfl (gb g k 1) (by omega)) rfl ?_
        refine X_if_eq (tgt := 173) dX5_readsOne_166 (by decide) (by split <;> omega) (fun c_166 => ?_) (fun c_166 => ?_)
        · have r1 : ¬ rmB (rdB g k) n 1 (gb g k 1) = true := fun q => by rw [if_pos q] at c_166; omega
          refine X_iconst dX5_readsOne_173 ?_
          refine X_istoreW dX5_readsOne_174 (by decide) ?_
          dsimp only [List.set]
          refine X_aload dX5_readsOne_176 rfl ?_
          refine X_getR dX5_readsOne_177 rfl gf_X5_7 sh_88 (by decide) rfl rf_88_0 ?_
          refine X_iload dX5_readsOne_180 rfl ?_
          refine X_bipush dX5_readsOne_181 (by decide) ?_
          refine X_iadd dX5_readsOne_183 ?_
          refine X_dup2 dX5_readsOne_184 ?_
          refine Y_aldB dX5_readsOne_185 hR (by omega) hn24 (k) (7) (by omega) (by omega) (by omega) ?_
          rw [rdB_gb (by decide) (by decide)]
          refine X_iloadW dX5_readsOne_186 rfl ?_
          refine X_iconst dX5_readsOne_188 ?_
          refine X_icmp_ge (tgt := 196) dX5_readsOne_189 (by decide) (by omega) (fun c_189 => ?_) (fun c_189 => absurd c_189 (by omega))
          refine X_iconst dX5_readsOne_196 ?_
          refine X_iadd dX5_readsOne_197 ?_
          refine Y_astB dX5_readsOne_198 hR hn24 (k) (7) (by omega) (by omega) (by omega) (fun I198 hR hK198 => ?_)
          have hF := hF.trans hK198.wf
          refine X_aload dX5_readsOne_199 rfl ?_
          refine X_getR dX5_readsOne_200 rfl gf_X5_7 sh_88 (by decide) rfl rf_88_0 ?_
          refine X_iload dX5_readsOne_203 rfl ?_
          refine X_iconst dX5_readsOne_204 ?_
          refine X_iadd dX5_readsOne_205 ?_
          refine X_iloadW dX5_readsOne_206 rfl ?_
          refine Y_astB dX5_readsOne_208 hR hn24 (k) (3) (by omega) (by omega) (by omega) (fun I208 hR hK208 => ?_)
          have hF := hF.trans hK208.wf
          have hRX : ∃ X, RR I208 215 X n ∧ (X 19 = g 19 ∧ X 20 = g 20) ∧ X = if rmB (rdB g k) n 0 (gb g k 1) = true then mv (rdB g k) k ((0 : Nat) : Int) else if rmB (rdB g k) n 1 (gb g k 1) = true then mv (rdB g k) k ((1 : Nat) : Int) else rdB g k := by
            first
              | (rw [if_pos r0]; rw [rd_mv] at hR; exact ⟨_, hR, ⟨by rw [mv_num (by decide), rdB_num (by decide) (by decide)], by rw [mv_num (by decide), rdB_num (by decide) (by decide)]⟩, rfl⟩)
              | (rw [if_neg r0, if_pos r1]; rw [rd_mv] at hR; exact ⟨_, hR, ⟨by rw [mv_num (by decide), rdB_num (by decide) (by decide)], by rw [mv_num (by decide), rdB_num (by decide) (by decide)]⟩, rfl⟩)
              | (rw [if_neg r0, if_neg r1]; have e7 : gB (rdB g k) k 7 (gb g k 7 + 0) = rdB g k := by rw [Int.add_zero, ← rdB_gb (g := g) (k := k) (q := k) (j := 7) (by decide) (by decide)]; exact gB_self
                 rw [e7] at hR; have e3 : gB (rdB g k) k 3 2 = rdB g k := by rw [← c_96, ← rdB_gb (g := g) (k := k) (q := k) (j := 3) (by decide) (by decide)]; exact gB_self
                 rw [e3] at hR; exact ⟨_, hR, ⟨rdB_num (by decide) (by decide), rdB_num (by decide) (by decide)⟩, rfl⟩)
          obtain ⟨X, hR, ⟨x19, x20⟩, hX⟩ := hRX
          refine X_aload dX5_readsOne_209 rfl ?_
          refine X_getR dX5_readsOne_210 rfl gf_X5_7 sh_88 (by decide) rfl rf_88_0 ?_
          refine X_sipush dX5_readsOne_213 (by decide) ?_
          refine X_dup2 dX5_readsOne_216 ?_
          refine Y_ald dX5_readsOne_217 hR (by omega) hn24 (19) (by omega) (by omega) ?_
          first
            | rw [x19]
            | rw [rdA_num (by decide)]
          refine X_iload dX5_readsOne_218 rfl ?_
          refine X_iadd dX5_readsOne_219 ?_
          refine Y_ast dX5_readsOne_220 hR hn24 (19) (by omega) (by omega) (fun I220 hR hK220 => ?_)
          have hF := hF.trans hK220.wf
          refine X_aload dX5_readsOne_221 rfl ?_
          refine X_getR dX5_readsOne_222 rfl gf_X5_7 sh_88 (by decide) rfl rf_88_0 ?_
          refine X_sipush dX5_readsOne_225 (by decide) ?_
          refine X_dup2 dX5_readsOne_228 ?_
          refine Y_ald dX5_readsOne_229 hR (by omega) hn24 (20) (by omega) (by omega) ?_
          rw [gN_num, if_neg (by decide)]
          first
            | rw [x20]
            | rw [rdA_num (by decide)]
          refine X_iloadW dX5_readsOne_230 rfl ?_
          refine X_iadd dX5_readsOne_232 ?_
          refine Y_ast dX5_readsOne_233 hR hn24 (20) (by omega) (by omega) (fun I233 hR hK233 => ?_)
          have hF := hF.trans hK233.wf
          refine X_iload dX5_readsOne_234 rfl ?_
          refine X_iloadW dX5_readsOne_235 rfl ?_
          refine X_iadd dX5_readsOne_237 ?_
          refine X_iret dX5_readsOne_238 (Or.inl rfl) ?_
          first
            | (obtain ⟨f1, f2⟩ := rd_fin1 (n := n) hu c_96 hX; exact ⟨rfl, rfl, _, rfl, f2, by rw [← f1]; exact hR, hF⟩)
            | (obtain ⟨f1, f2⟩ := rd_fin0 (n := n) hu c_96; exact ⟨rfl, rfl, _, rfl, f2, by rw [← f1]; exact hR, hF⟩)
        · have r1 : rmB (rdB g k) n 1 (gb g k 1) = true := by
            by_cases q : rmB (rdB g k) n 1 (gb g k 1) = true
            · exact q
            · rw [if_neg q] at c_166; omega
          refine X_iconst dX5_readsOne_169 ?_
          refine X_goto (tgt := 174) dX5_readsOne_170 (by decide) ?_
          refine X_istoreW dX5_readsOne_174 (by decide) ?_
          dsimp only [List.set]
          refine X_aload dX5_readsOne_176 rfl ?_
          refine X_getR dX5_readsOne_177 rfl gf_X5_7 sh_88 (by decide) rfl rf_88_0 ?_
          refine X_iload dX5_readsOne_180 rfl ?_
          refine X_bipush dX5_readsOne_181 (by decide) ?_
          refine X_iadd dX5_readsOne_183 ?_
          refine X_dup2 dX5_readsOne_184 ?_
          refine Y_aldB dX5_readsOne_185 hR (by omega) hn24 (k) (7) (by omega) (by omega) (by omega) ?_
          rw [rdB_gb (by decide) (by decide)]
          refine X_iloadW dX5_readsOne_186 rfl ?_
          refine X_iconst dX5_readsOne_188 ?_
          refine X_icmp_ge (tgt := 196) dX5_readsOne_189 (by decide) (by omega) (fun c_189 => absurd c_189 (by omega)) (fun c_189 => ?_)
          refine X_iconst dX5_readsOne_192 ?_
          refine X_goto (tgt := 197) dX5_readsOne_193 (by decide) ?_
          refine X_iadd dX5_readsOne_197 ?_
          refine Y_astB dX5_readsOne_198 hR hn24 (k) (7) (by omega) (by omega) (by omega) (fun I198 hR hK198 => ?_)
          have hF := hF.trans hK198.wf
          refine X_aload dX5_readsOne_199 rfl ?_
          refine X_getR dX5_readsOne_200 rfl gf_X5_7 sh_88 (by decide) rfl rf_88_0 ?_
          refine X_iload dX5_readsOne_203 rfl ?_
          refine X_iconst dX5_readsOne_204 ?_
          refine X_iadd dX5_readsOne_205 ?_
          refine X_iloadW dX5_readsOne_206 rfl ?_
          refine Y_astB dX5_readsOne_208 hR hn24 (k) (3) (by omega) (by omega) (by omega) (fun I208 hR hK208 => ?_)
          have hF := hF.trans hK208.wf
          have hRX : ∃ X, RR I208 215 X n ∧ (X 19 = g 19 ∧ X 20 = g 20) ∧ X = if rmB (rdB g k) n 0 (gb g k 1) = true then mv (rdB g k) k ((0 : Nat) : Int) else if rmB (rdB g k) n 1 (gb g k 1) = true then mv (rdB g k) k ((1 : Nat) : Int) else rdB g k := by
            first
              | (rw [if_pos r0]; rw [rd_mv] at hR; exact ⟨_, hR, ⟨by rw [mv_num (by decide), rdB_num (by decide) (by decide)], by rw [mv_num (by decide), rdB_num (by decide) (by decide)]⟩, rfl⟩)
              | (rw [if_neg r0, if_pos r1]; rw [rd_mv] at hR; exact ⟨_, hR, ⟨by rw [mv_num (by decide), rdB_num (by decide) (by decide)], by rw [mv_num (by decide), rdB_num (by decide) (by decide)]⟩, rfl⟩)
              | (rw [if_neg r0, if_neg r1]; have e7 : gB (rdB g k) k 7 (gb g k 7 + 0) = rdB g k := by rw [Int.add_zero, ← rdB_gb (g := g) (k := k) (q := k) (j := 7) (by decide) (by decide)]; exact gB_self
                 rw [e7] at hR; have e3 : gB (rdB g k) k 3 2 = rdB g k := by rw [← c_96, ← rdB_gb (g := g) (k := k) (q := k) (j := 3) (by decide) (by decide)]; exact gB_self
                 rw [e3] at hR; exact ⟨_, hR, ⟨rdB_num (by decide) (by decide), rdB_num (by decide) (by decide)⟩, rfl⟩)
          obtain ⟨X, hR, ⟨x19, x20⟩, hX⟩ := hRX
          refine X_aload dX5_readsOne_209 rfl ?_
          refine X_getR dX5_readsOne_210 rfl gf_X5_7 sh_88 (by decide) rfl rf_88_0 ?_
          refine X_sipush dX5_readsOne_213 (by decide) ?_
          refine X_dup2 dX5_readsOne_216 ?_
          refine Y_ald dX5_readsOne_217 hR (by omega) hn24 (19) (by omega) (by omega) ?_
          first
            | rw [x19]
            | rw [rdA_num (by decide)]
          refine X_iload dX5_readsOne_218 rfl ?_
          refine X_iadd dX5_readsOne_219 ?_
          refine Y_ast dX5_readsOne_220 hR hn24 (19) (by omega) (by omega) (fun I220 hR hK220 => ?_)
          have hF := hF.trans hK220.wf
          refine X_aload dX5_readsOne_221 rfl ?_
          refine X_getR dX5_readsOne_222 rfl gf_X5_7 sh_88 (by decide) rfl rf_88_0 ?_
          refine X_sipush dX5_readsOne_225 (by decide) ?_
          refine X_dup2 dX5_readsOne_228 ?_
          refine Y_ald dX5_readsOne_229 hR (by omega) hn24 (20) (by omega) (by omega) ?_
          rw [gN_num, if_neg (by decide)]
          first
            | rw [x20]
            | rw [rdA_num (by decide)]
          refine X_iloadW dX5_readsOne_230 rfl ?_
          refine X_iadd dX5_readsOne_232 ?_
          refine Y_ast dX5_readsOne_233 hR hn24 (20) (by omega) (by omega) (fun I233 hR hK233 => ?_)
          have hF := hF.trans hK233.wf
          refine X_iload dX5_readsOne_234 rfl ?_
          refine X_iloadW dX5_readsOne_235 rfl ?_
          refine X_iadd dX5_readsOne_237 ?_
          refine X_iret dX5_readsOne_238 (Or.inl rfl) ?_
          first
            | (obtain ⟨f1, f2⟩ := rd_fin1 (n := n) hu c_96 hX; exact ⟨rfl, rfl, _, rfl, f2, by rw [← f1]; exact hR, hF⟩)
            | (obtain ⟨f1, f2⟩ := rd_fin0 (n := n) hu c_96; exact ⟨rfl, rfl, _, rfl, f2, by rw [← f1]; exact hR, hF⟩)
      · have r0 : rmB (rdB g k) n 0 (gb g k 1) = true := by
          by_cases q : rmB (rdB g k) n 0 (gb g k 1) = true
          · exact q
          · rw [if_neg q] at c_150; omega
        refine X_iconst dX5_readsOne_153 ?_
        refine X_goto (tgt := 174) dX5_readsOne_154 (by decide) ?_
        refine X_istoreW dX5_readsOne_174 (by decide) ?_
        dsimp only [List.set]
        refine X_aload dX5_readsOne_176 rfl ?_
        refine X_getR dX5_readsOne_177 rfl gf_X5_7 sh_88 (by decide) rfl rf_88_0 ?_
        refine X_iload dX5_readsOne_180 rfl ?_
        refine X_bipush dX5_readsOne_181 (by decide) ?_
        refine X_iadd dX5_readsOne_183 ?_
        refine X_dup2 dX5_readsOne_184 ?_
        refine Y_aldB dX5_readsOne_185 hR (by omega) hn24 (k) (7) (by omega) (by omega) (by omega) ?_
        rw [rdB_gb (by decide) (by decide)]
        refine X_iloadW dX5_readsOne_186 rfl ?_
        refine X_iconst dX5_readsOne_188 ?_
        refine X_icmp_ge (tgt := 196) dX5_readsOne_189 (by decide) (by omega) (fun c_189 => absurd c_189 (by omega)) (fun c_189 => ?_)
        refine X_iconst dX5_readsOne_192 ?_
        refine X_goto (tgt := 197) dX5_readsOne_193 (by decide) ?_
        refine X_iadd dX5_readsOne_197 ?_
        refine Y_astB dX5_readsOne_198 hR hn24 (k) (7) (by omega) (by omega) (by omega) (fun I198 hR hK198 => ?_)
        have hF := hF.trans hK198.wf
        refine X_aload dX5_readsOne_199 rfl ?_
        refine X_getR dX5_readsOne_200 rfl gf_X5_7 sh_88 (by decide) rfl rf_88_0 ?_
        refine X_iload dX5_readsOne_203 rfl ?_
        refine X_iconst dX5_readsOne_204 ?_
        refine X_iadd dX5_readsOne_205 ?_
        refine X_iloadW dX5_readsOne_206 rfl ?_
        refine Y_astB dX5_readsOne_208 hR hn24 (k) (3) (by omega) (by omega) (by omega) (fun I208 hR hK208 => ?_)
        have hF := hF.trans hK208.wf
        have hRX : ∃ X, RR I208 215 X n ∧ (X 19 = g 19 ∧ X 20 = g 20) ∧ X = if rmB (rdB g k) n 0 (gb g k 1) = true then mv (rdB g k) k ((0 : Nat) : Int) else if rmB (rdB g k) n 1 (gb g k 1) = true then mv (rdB g k) k ((1 : Nat) : Int) else rdB g k := by
          first
            | (rw [if_pos r0]; rw [rd_mv] at hR; exact ⟨_, hR, ⟨by rw [mv_num (by decide), rdB_num (by decide) (by decide)], by rw [mv_num (by decide), rdB_num (by decide) (by decide)]⟩, rfl⟩)
            | (rw [if_neg r0, if_pos r1]; rw [rd_mv] at hR; exact ⟨_, hR, ⟨by rw [mv_num (by decide), rdB_num (by decide) (by decide)], by rw [mv_num (by decide), rdB_num (by decide) (by decide)]⟩, rfl⟩)
            | (rw [if_neg r0, if_neg r1]; have e7 : gB (rdB g k) k 7 (gb g k 7 + 0) = rdB g k := by rw [Int.add_zero, ← rdB_gb (g := g) (k := k) (q := k) (j := 7) (by decide) (by decide)]; exact gB_self
               rw [e7] at hR; have e3 : gB (rdB g k) k 3 2 = rdB g k := by rw [← c_96, ← rdB_gb (g := g) (k := k) (q := k) (j := 3) (by decide) (by decide)]; exact gB_self
               rw [e3] at hR; exact ⟨_, hR, ⟨rdB_num (by decide) (by decide), rdB_num (by decide) (by decide)⟩, rfl⟩)
        obtain ⟨X, hR, ⟨x19, x20⟩, hX⟩ := hRX
        refine X_aload dX5_readsOne_209 rfl ?_
        refine X_getR dX5_readsOne_210 rfl gf_X5_7 sh_88 (by decide) rfl rf_88_0 ?_
        refine X_sipush dX5_readsOne_213 (by decide) ?_
        refine X_dup2 dX5_readsOne_216 ?_
        refine Y_ald dX5_readsOne_217 hR (by omega) hn24 (19) (by omega) (by omega) ?_
        first
          | rw [x19]
          | rw [rdA_num (by decide)]
        refine X_iload dX5_readsOne_218 rfl ?_
        refine X_iadd dX5_readsOne_219 ?_
        refine Y_ast dX5_readsOne_220 hR hn24 (19) (by omega) (by omega) (fun I220 hR hK220 => ?_)
        have hF := hF.trans hK220.wf
        refine X_aload dX5_readsOne_221 rfl ?_
        refine X_getR dX5_readsOne_222 rfl gf_X5_7 sh_88 (by decide) rfl rf_88_0 ?_
        refine X_sipush dX5_readsOne_225 (by decide) ?_
        refine X_dup2 dX5_readsOne_228 ?_
        refine Y_ald dX5_readsOne_229 hR (by omega) hn24 (20) (by omega) (by omega) ?_
        rw [gN_num, if_neg (by decide)]
        first
          | rw [x20]
          | rw [rdA_num (by decide)]
        refine X_iloadW dX5_readsOne_230 rfl ?_
        refine X_iadd dX5_readsOne_232 ?_
        refine Y_ast dX5_readsOne_233 hR hn24 (20) (by omega) (by omega) (fun I233 hR hK233 => ?_)
        have hF := hF.trans hK233.wf
        refine X_iload dX5_readsOne_234 rfl ?_
        refine X_iloadW dX5_readsOne_235 rfl ?_
        refine X_iadd dX5_readsOne_237 ?_
        refine X_iret dX5_readsOne_238 (Or.inl rfl) ?_
        first
          | (obtain ⟨f1, f2⟩ := rd_fin1 (n := n) hu c_96 hX; exact ⟨rfl, rfl, _, rfl, f2, by rw [← f1]; exact hR, hF⟩)
          | (obtain ⟨f1, f2⟩ := rd_fin0 (n := n) hu c_96; exact ⟨rfl, rfl, _, rfl, f2, by rw [← f1]; exact hR, hF⟩)
  · refine X_ldc (z := 99999) dX5_readsOne_56 rfl lw_X5_68 (by decide) ?_
    refine X_goto (tgt := 73) dX5_readsOne_58 (by decide) ?_
    refine Y_astB dX5_readsOne_73 hR hn24 (k) (2) (by omega) (by omega) (by omega) (fun I73 hR hK73 => ?_)
    have hF := hF.trans hK73.wf
    have hR : RR I73 215 (gB g k 2 (min (gb g k 2 + 1000) 99999)) n := by
      first
        | (rw [show min (gb g k 2 + 1000) 99999 = gb g k 2 + 1000 by omega]; exact hR)
        | (rw [show min (gb g k 2 + 1000) 99999 = 99999 by omega]; exact hR)
    refine X_aload dX5_readsOne_74 rfl ?_
    refine X_getR dX5_readsOne_75 rfl gf_X5_7 sh_88 (by decide) rfl rf_88_0 ?_
    refine X_iload dX5_readsOne_78 rfl ?_
    refine X_bipush dX5_readsOne_79 (by decide) ?_
    refine X_iadd dX5_readsOne_81 ?_
    refine X_dup2 dX5_readsOne_82 ?_
    refine Y_aldB dX5_readsOne_83 hR (by omega) hn24 (k) (6) (by omega) (by omega) (by omega) ?_
    rw [gB_ne (by decide) (by decide) (by decide)]
    refine X_iconst dX5_readsOne_84 ?_
    refine X_iadd dX5_readsOne_85 ?_
    refine Y_astB dX5_readsOne_86 hR hn24 (k) (6) (by omega) (by omega) (by omega) (fun I86 hR hK86 => ?_)
    have hF := hF.trans hK86.wf
    have hR : RR I86 215 (rdA g k) n := hR
    refine X_aload dX5_readsOne_87 rfl ?_
    refine X_getR dX5_readsOne_88 rfl gf_X5_7 sh_88 (by decide) rfl rf_88_0 ?_
    refine X_iload dX5_readsOne_91 rfl ?_
    refine X_iconst dX5_readsOne_92 ?_
    refine X_iadd dX5_readsOne_93 ?_
    refine Y_aldB dX5_readsOne_94 hR (by omega) hn24 (k) (3) (by omega) (by omega) (by omega) ?_
    rw [rdA_gb (by decide) (by decide)]
    refine X_iconst dX5_readsOne_95 ?_
    refine X_icmp_ne (tgt := 209) dX5_readsOne_96 (by decide) (by omega) (fun c_96 => ?_) (fun c_96 => ?_)
    · refine X_aload dX5_readsOne_209 rfl ?_
      refine X_getR dX5_readsOne_210 rfl gf_X5_7 sh_88 (by decide) rfl rf_88_0 ?_
      refine X_sipush dX5_readsOne_213 (by decide) ?_
      refine X_dup2 dX5_readsOne_216 ?_
      refine Y_ald dX5_readsOne_217 hR (by omega) hn24 (19) (by omega) (by omega) ?_
      first
        | rw [x19]
        | rw [rdA_num (by decide)]
      refine X_iload dX5_readsOne_218 rfl ?_
      refine X_iadd dX5_readsOne_219 ?_
      refine Y_ast dX5_readsOne_220 hR hn24 (19) (by omega) (by omega) (fun I220 hR hK220 => ?_)
      have hF := hF.trans hK220.wf
      refine X_aload dX5_readsOne_221 rfl ?_
      refine X_getR dX5_readsOne_222 rfl gf_X5_7 sh_88 (by decide) rfl rf_88_0 ?_
      refine X_sipush dX5_readsOne_225 (by decide) ?_
      refine X_dup2 dX5_readsOne_228 ?_
      refine Y_ald dX5_readsOne_229 hR (by omega) hn24 (20) (by omega) (by omega) ?_
      rw [gN_num, if_neg (by decide)]
      first
        | rw [x20]
        | rw [rdA_num (by decide)]
      refine X_iloadW dX5_readsOne_230 rfl ?_
      refine X_iadd dX5_readsOne_232 ?_
      refine Y_ast dX5_readsOne_233 hR hn24 (20) (by omega) (by omega) (fun I233 hR hK233 => ?_)
      have hF := hF.trans hK233.wf
      refine X_iload dX5_readsOne_234 rfl ?_
      refine X_iloadW dX5_readsOne_235 rfl ?_
      refine X_iadd dX5_readsOne_237 ?_
      refine X_iret dX5_readsOne_238 (Or.inl rfl) ?_
      first
        | (obtain ⟨f1, f2⟩ := rd_fin1 (n := n) hu c_96 hX; exact ⟨rfl, rfl, _, rfl, f2, by rw [← f1]; exact hR, hF⟩)
        | (obtain ⟨f1, f2⟩ := rd_fin0 (n := n) hu c_96; exact ⟨rfl, rfl, _, rfl, f2, by rw [← f1]; exact hR, hF⟩)
    · refine X_iload dX5_readsOne_99 rfl ?_
      refine X_aload dX5_readsOne_100 rfl ?_
      refine X_getR dX5_readsOne_101 rfl gf_X5_7 sh_88 (by decide) rfl rf_88_0 ?_
      refine X_sipush dX5_readsOne_104 (by decide) ?_
      refine Y_ald dX5_readsOne_107 hR (by omega) hn24 (5) (by omega) (by omega) ?_
      rw [rdA_num (by decide)]
      refine X_imul dX5_readsOne_108 ?_
      refine X_aload dX5_readsOne_109 rfl ?_
      refine X_getR dX5_readsOne_110 rfl gf_X5_7 sh_88 (by decide) rfl rf_88_0 ?_
      refine X_iload dX5_readsOne_113 rfl ?_
      refine X_iconst dX5_readsOne_114 ?_
      refine X_iadd dX5_readsOne_115 ?_
      refine Y_aldB dX5_readsOne_116 hR (by omega) hn24 (k) (5) (by omega) (by omega) (by omega) ?_
      rw [rdA_gb (by decide) (by decide)]
      refine X_imul dX5_readsOne_117 ?_
      refine X_istoreW dX5_readsOne_118 (by decide) ?_
      dsimp only [List.set]
      refine X_aload dX5_readsOne_120 rfl ?_
      refine X_getR dX5_readsOne_121 rfl gf_X5_7 sh_88 (by decide) rfl rf_88_0 ?_
      refine X_iload dX5_readsOne_124 rfl ?_
      refine X_iconst dX5_readsOne_125 ?_
      refine X_iadd dX5_readsOne_126 ?_
      refine X_iconst dX5_readsOne_127 ?_
      refine Y_astB dX5_readsOne_128 hR hn24 (k) (5) (by omega) (by omega) (by omega) (fun I128 hR hK128 => ?_)
      have hF := hF.trans hK128.wf
      refine X_aload dX5_readsOne_129 rfl ?_
      refine X_getR dX5_readsOne_130 rfl gf_X5_7 sh_88 (by decide) rfl rf_88_0 ?_
      refine X_sipush dX5_readsOne_133 (by decide) ?_
      refine X_dup2 dX5_readsOne_136 ?_
      refine Y_ald dX5_readsOne_137 hR (by omega) hn24 (22) (by omega) (by omega) ?_
      rw [gB_num (by decide), rdA_num (by decide)]
      refine X_iconst dX5_readsOne_138 ?_
      refine X_iadd dX5_readsOne_139 ?_
      refine Y_ast dX5_readsOne_140 hR hn24 (22) (by omega) (by omega) (fun I140 hR hK140 => ?_)
      have hF := hF.trans hK140.wf
      have hR : RR I140 215 (rdB g k) n := hR
      have hGB : GI (rdB g k) n := (((hG.setB (k := k) (j := 2) (z := min (gb g k 2 + 1000) 99999) (by decide) ⟨by omega, by omega, by omega, by omega, by omega, by omega⟩).setB (k := k) (j := 6) (z := gb g k 6 + 1) (by decide) ⟨by omega, by omega, by omega, by omega, by omega, by omega⟩).setB (k := k) (j := 5) (z := 0) (by decide) ⟨by omega, by omega, by omega, by omega, by omega, by omega⟩).acc (by decide) _
      refine X_aload dX5_readsOne_141 rfl ?_
      refine X_sipush dX5_readsOne_142 (by decide) ?_
      refine X_iconst dX5_readsOne_145 ?_
      refine X_iload dX5_readsOne_146 rfl ?_
      refine Y_pV dX5_readsOne_147 cv_X5_43 sh_88 (by decide) (t5_hasRoom hR (by decide) hGB rfl 0 (by decide) rfl (gb g k 1) (by omega)) rfl ?_
      refine X_if_eq (tgt := 157) dX5_readsOne_150 (by decide) (by split <;> omega) (fun c_150 => ?_) (fun c_150 => ?_)
      · have r0 : ¬ rmB (rdB g k) n 0 (gb g k 1) = true := fun q => by rw [if_pos q] at c_150; omega
        refine X_aload dX5_readsOne_157 rfl ?_
        refine X_sipush dX5_readsOne_158 (by decide) ?_
        refine X_iconst dX5_readsOne_161 ?_
        refine X_iload dX5_readsOne_162 rfl ?_
        refine Y_pV dX5_readsOne_163 cv_X5_43 sh_88 (by decide) (t5_hasRoom hR (by decide) hGB rfl 1 (by decide) rfl (gb g k 1) (by omega)) rfl ?_
        refine X_if_eq (tgt := 173) dX5_readsOne_166 (by decide) (by split <;> omega) (fun c_166 => ?_) (fun c_166 => ?_)
        · have r1 : ¬ rmB (rdB g k) n 1 (gb g k 1) = true := fun q => by rw [if_pos q] at c_166; omega
          refine X_iconst dX5_readsOne_173 ?_
          refine X_istoreW dX5_readsOne_174 (by decide) ?_
          dsimp only [List.set]
          refine X_aload dX5_readsOne_176 rfl ?_
          refine X_getR dX5_readsOne_177 rfl gf_X5_7 sh_88 (by decide) rfl rf_88_0 ?_
          refine X_iload dX5_readsOne_180 rfl ?_
          refine X_bipush dX5_readsOne_181 (by decide) ?_
          refine X_iadd dX5_readsOne_183 ?_
          refine X_dup2 dX5_readsOne_184 ?_
          refine Y_aldB dX5_readsOne_185 hR (by omega) hn24 (k) (7) (by omega) (by omega) (by omega) ?_
          rw [rdB_gb (by decide) (by decide)]
          refine X_iloadW dX5_readsOne_186 rfl ?_
          refine X_iconst dX5_readsOne_188 ?_
          refine X_icmp_ge (tgt := 196) dX5_readsOne_189 (by decide) (by omega) (fun c_189 => ?_) (fun c_189 => absurd c_189 (by omega))
          refine X_iconst dX5_readsOne_196 ?_
          refine X_iadd dX5_readsOne_197 ?_
          refine Y_astB dX5_readsOne_198 hR hn24 (k) (7) (by omega) (by omega) (by omega) (fun I198 hR hK198 => ?_)
          have hF := hF.trans hK198.wf
          refine X_aload dX5_readsOne_199 rfl ?_
          refine X_getR dX5_readsOne_200 rfl gf_X5_7 sh_88 (by decide) rfl rf_88_0 ?_
          refine X_iload dX5_readsOne_203 rfl ?_
          refine X_iconst dX5_readsOne_204 ?_
          refine X_iadd dX5_readsOne_205 ?_
          refine X_iloadW dX5_readsOne_206 rfl ?_
          refine Y_astB dX5_readsOne_208 hR hn24 (k) (3) (by omega) (by omega) (by omega) (fun I208 hR hK208 => ?_)
          have hF := hF.trans hK208.wf
          have hRX : ∃ X, RR I208 215 X n ∧ (X 19 = g 19 ∧ X 20 = g 20) ∧ X = if rmB (rdB g k) n 0 (gb g k 1) = true then mv (rdB g k) k ((0 : Nat) : Int) else if rmB (rdB g k) n 1 (gb g k 1) = true then mv (rdB g k) k ((1 : Nat) : Int) else rdB g k := by
            first
              | (rw [if_pos r0]; rw [rd_mv] at hR; exact ⟨_, hR, ⟨by rw [mv_num (by decide), rdB_num (by decide) (by decide)], by rw [mv_num (by decide), rdB_num (by decide) (by decide)]⟩, rfl⟩)
              | (rw [if_neg r0, if_pos r1]; rw [rd_mv] at hR; exact ⟨_, hR, ⟨by rw [mv_num (by decide), rdB_num (by decide) (by decide)], by rw [mv_num (by decide), rdB_num (by decide) (by decide)]⟩, rfl⟩)
              | (rw [if_neg r0, if_neg r1]; have e7 : gB (rdB g k) k 7 (gb g k 7 + 0) = rdB g k := by rw [Int.add_zero, ← rdB_gb (g := g) (k := k) (q := k) (j := 7) (by decide) (by decide)]; exact gB_self
                 rw [e7] at hR; have e3 : gB (rdB g k) k 3 2 = rdB g k := by rw [← c_96, ← rdB_gb (g := g) (k := k) (q := k) (j := 3) (by decide) (by decide)]; exact gB_self
                 rw [e3] at hR; exact ⟨_, hR, ⟨rdB_num (by decide) (by decide), rdB_num (by decide) (by decide)⟩, rfl⟩)
          obtain ⟨X, hR, ⟨x19, x20⟩, hX⟩ := hRX
          refine X_aload dX5_readsOne_209 rfl ?_
          refine X_getR dX5_readsOne_210 rfl gf_X5_7 sh_88 (by decide) rfl rf_88_0 ?_
          refine X_sipush dX5_readsOne_213 (by decide) ?_
          refine X_dup2 dX5_readsOne_216 ?_
          refine Y_ald dX5_readsOne_217 hR (by omega) hn24 (19) (by omega) (by omega) ?_
          first
            | rw [x19]
            | rw [rdA_num (by decide)]
          refine X_iload dX5_readsOne_218 rfl ?_
          refine X_iadd dX5_readsOne_219 ?_
          refine Y_ast dX5_readsOne_220 hR hn24 (19) (by omega) (by omega) (fun I220 hR hK220 => ?_)
          have hF := hF.trans hK220.wf
          refine X_aload dX5_readsOne_221 rfl ?_
          refine X_getR dX5_readsOne_222 rfl gf_X5_7 sh_88 (by decide) rfl rf_88_0 ?_
          refine X_sipush dX5_readsOne_225 (by decide) ?_
          refine X_dup2 dX5_readsOne_228 ?_
          refine Y_ald dX5_readsOne_229 hR (by omega) hn24 (20) (by omega) (by omega) ?_
          rw [gN_num, if_neg (by decide)]
          first
            | rw [x20]
            | rw [rdA_num (by decide)]
          refine X_iloadW dX5_readsOne_230 rfl ?_
          refine X_iadd dX5_readsOne_232 ?_
          refine Y_ast dX5_readsOne_233 hR hn24 (20) (by omega) (by omega) (fun I233 hR hK233 => ?_)
          have hF := hF.trans hK233.wf
          refine X_iload dX5_readsOne_234 rfl ?_
          refine X_iloadW dX5_readsOne_235 rfl ?_
          refine X_iadd dX5_readsOne_237 ?_
          refine X_iret dX5_readsOne_238 (Or.inl rfl) ?_
          first
            | (obtain ⟨f1, f2⟩ := rd_fin1 (n := n) hu c_96 hX; exact ⟨rfl, rfl, _, rfl, f2, by rw [← f1]; exact hR, hF⟩)
            | (obtain ⟨f1, f2⟩ := rd_fin0 (n := n) hu c_96; exact ⟨rfl, rfl, _, rfl, f2, by rw [← f1]; exact hR, hF⟩)
        · have r1 : rmB (rdB g k) n 1 (gb g k 1) = true := by
            by_cases q : rmB (rdB g k) n 1 (gb g k 1) = true
            · exact q
            · rw [if_neg q] at c_166; omega
          refine X_iconst dX5_readsOne_169 ?_
          refine X_goto (tgt := 174) dX5_readsOne_170 (by decide) ?_
          refine X_istoreW dX5_readsOne_174 (by decide) ?_
          dsimp only [List.set]
          refine X_aload dX5_readsOne_176 rfl ?_
          refine X_getR dX5_readsOne_177 rfl gf_X5_7 sh_88 (by decide) rfl rf_88_0 ?_
          refine X_iload dX5_readsOne_180 rfl ?_
          refine X_bipush dX5_readsOne_181 (by decide) ?_
          refine X_iadd dX5_readsOne_183 ?_
          refine X_dup2 dX5_readsOne_184 ?_
          refine Y_aldB dX5_readsOne_185 hR (by omega) hn24 (k) (7) (by omega) (by omega) (by omega) ?_
          rw [rdB_gb (by decide) (by decide)]
          refine X_iloadW dX5_readsOne_186 rfl ?_
          refine X_iconst dX5_readsOne_188 ?_
          refine X_icmp_ge (tgt := 196) dX5_readsOne_189 (by decide) (by omega) (fun c_189 => absurd c_189 (by omega)) (fun c_189 => ?_)
          refine X_iconst dX5_readsOne_192 ?_
          refine X_goto (tgt := 197) dX5_readsOne_193 (by decide) ?_
          refine X_iadd dX5_readsOne_197 ?_
          refine Y_astB dX5_readsOne_198 hR hn24 (k) (7) (by omega) (by omega) (by omega) (fun I198 hR hK198 => ?_)
          have hF := hF.trans hK198.wf
          refine X_aload dX5_readsOne_199 rfl ?_
          refine X_getR dX5_readsOne_200 rfl gf_X5_7 sh_88 (by decide) rfl rf_88_0 ?_
          refine X_iload dX5_readsOne_203 rfl ?_
          refine X_iconst dX5_readsOne_204 ?_
          refine X_iadd dX5_readsOne_205 ?_
          refine X_iloadW dX5_readsOne_206 rfl ?_
          refine Y_astB dX5_readsOne_208 hR hn24 (k) (3) (by omega) (by omega) (by omega) (fun I208 hR hK208 => ?_)
          have hF := hF.trans hK208.wf
          have hRX : ∃ X, RR I208 215 X n ∧ (X 19 = g 19 ∧ X 20 = g 20) ∧ X = if rmB (rdB g k) n 0 (gb g k 1) = true then mv (rdB g k) k ((0 : Nat) : Int) else if rmB (rdB g k) n 1 (gb g k 1) = true then mv (rdB g k) k ((1 : Nat) : Int) else rdB g k := by
            first
              | (rw [if_pos r0]; rw [rd_mv] at hR; exact ⟨_, hR, ⟨by rw [mv_num (by decide), rdB_num (by decide) (by decide)], by rw [mv_num (by decide), rdB_num (by decide) (by decide)]⟩, rfl⟩)
              | (rw [if_neg r0, if_pos r1]; rw [rd_mv] at hR; exact ⟨_, hR, ⟨by rw [mv_num (by decide), rdB_num (by decide) (by decide)], by rw [mv_num (by decide), rdB_num (by decide) (by decide)]⟩, rfl⟩)
              | (rw [if_neg r0, if_neg r1]; have e7 : gB (rdB g k) k 7 (gb g k 7 + 0) = rdB g k := by rw [Int.add_zero, ← rdB_gb (g := g) (k := k) (q := k) (j := 7) (by decide) (by decide)]; exact gB_self
                 rw [e7] at hR; have e3 : gB (rdB g k) k 3 2 = rdB g k := by rw [← c_96, ← rdB_gb (g := g) (k := k) (q := k) (j := 3) (by decide) (by decide)]; exact gB_self
                 rw [e3] at hR; exact ⟨_, hR, ⟨rdB_num (by decide) (by decide), rdB_num (by decide) (by decide)⟩, rfl⟩)
          obtain ⟨X, hR, ⟨x19, x20⟩, hX⟩ := hRX
          refine X_aload dX5_readsOne_209 rfl ?_
          refine X_getR dX5_readsOne_210 rfl gf_X5_7 sh_88 (by decide) rfl rf_88_0 ?_
          refine X_sipush dX5_readsOne_213 (by decide) ?_
          refine X_dup2 dX5_readsOne_216 ?_
          refine Y_ald dX5_readsOne_217 hR (by omega) hn24 (19) (by omega) (by omega) ?_
          first
            | rw [x19]
            | rw [rdA_num (by decide)]
          refine X_iload dX5_readsOne_218 rfl ?_
          refine X_iadd dX5_readsOne_219 ?_
          refine Y_ast dX5_readsOne_220 hR hn24 (19) (by omega) (by omega) (fun I220 hR hK220 => ?_)
          have hF := hF.trans hK220.wf
          refine X_aload dX5_readsOne_221 rfl ?_
          refine X_getR dX5_readsOne_222 rfl gf_X5_7 sh_88 (by decide) rfl rf_88_0 ?_
          refine X_sipush dX5_readsOne_225 (by decide) ?_
          refine X_dup2 dX5_readsOne_228 ?_
          refine Y_ald dX5_readsOne_229 hR (by omega) hn24 (20) (by omega) (by omega) ?_
          rw [gN_num, if_neg (by decide)]
          first
            | rw [x20]
            | rw [rdA_num (by decide)]
          refine X_iloadW dX5_readsOne_230 rfl ?_
          refine X_iadd dX5_readsOne_232 ?_
          refine Y_ast dX5_readsOne_233 hR hn24 (20) (by omega) (by omega) (fun I233 hR hK233 => ?_)
          have hF := hF.trans hK233.wf
          refine X_iload dX5_readsOne_234 rfl ?_
          refine X_iloadW dX5_readsOne_235 rfl ?_
          refine X_iadd dX5_readsOne_237 ?_
          refine X_iret dX5_readsOne_238 (Or.inl rfl) ?_
          first
            | (obtain ⟨f1, f2⟩ := rd_fin1 (n := n) hu c_96 hX; exact ⟨rfl, rfl, _, rfl, f2, by rw [← f1]; exact hR, hF⟩)
            | (obtain ⟨f1, f2⟩ := rd_fin0 (n := n) hu c_96; exact ⟨rfl, rfl, _, rfl, f2, by rw [← f1]; exact hR, hF⟩)
      · have r0 : rmB (rdB g k) n 0 (gb g k 1) = true := by
          by_cases q : rmB (rdB g k) n 0 (gb g k 1) = true
          · exact q
          · rw [if_neg q] at c_150; omega
        refine X_iconst dX5_readsOne_153 ?_
        refine X_goto (tgt := 174) dX5_readsOne_154 (by decide) ?_
        refine X_istoreW dX5_readsOne_174 (by decide) ?_
        dsimp only [List.set]
        refine X_aload dX5_readsOne_176 rfl ?_
        refine X_getR dX5_readsOne_177 rfl gf_X5_7 sh_88 (by decide) rfl rf_88_0 ?_
        refine X_iload dX5_readsOne_180 rfl ?_
        refine X_bipush dX5_readsOne_181 (by decide) ?_
        refine X_iadd dX5_readsOne_183 ?_
        refine X_dup2 dX5_readsOne_184 ?_
        refine Y_aldB dX5_readsOne_185 hR (by omega) hn24 (k) (7) (by omega) (by omega) (by omega) ?_
        rw [rdB_gb (by decide) (by decide)]
        refine X_iloadW dX5_readsOne_186 rfl ?_
        refine X_iconst dX5_readsOne_188 ?_
        refine X_icmp_ge (tgt := 196) dX5_readsOne_189 (by decide) (by omega) (fun c_189 => absurd c_189 (by omega)) (fun c_189 => ?_)
        refine X_iconst dX5_readsOne_192 ?_
        refine X_goto (tgt := 197) dX5_readsOne_193 (by decide) ?_
        refine X_iadd dX5_readsOne_197 ?_
        refine Y_astB dX5_readsOne_198 hR hn24 (k) (7) (by omega) (by omega) (by omega) (fun I198 hR hK198 => ?_)
        have hF := hF.trans hK198.wf
        refine X_aload dX5_readsOne_199 rfl ?_
        refine X_getR dX5_readsOne_200 rfl gf_X5_7 sh_88 (by decide) rfl rf_88_0 ?_
        refine X_iload dX5_readsOne_203 rfl ?_
        refine X_iconst dX5_readsOne_204 ?_
        refine X_iadd dX5_readsOne_205 ?_
        refine X_iloadW dX5_readsOne_206 rfl ?_
        refine Y_astB dX5_readsOne_208 hR hn24 (k) (3) (by omega) (by omega) (by omega) (fun I208 hR hK208 => ?_)
        have hF := hF.trans hK208.wf
        have hRX : ∃ X, RR I208 215 X n ∧ (X 19 = g 19 ∧ X 20 = g 20) ∧ X = if rmB (rdB g k) n 0 (gb g k 1) = true then mv (rdB g k) k ((0 : Nat) : Int) else if rmB (rdB g k) n 1 (gb g k 1) = true then mv (rdB g k) k ((1 : Nat) : Int) else rdB g k := by
          first
            | (rw [if_pos r0]; rw [rd_mv] at hR; exact ⟨_, hR, ⟨by rw [mv_num (by decide), rdB_num (by decide) (by decide)], by rw [mv_num (by decide), rdB_num (by decide) (by decide)]⟩, rfl⟩)
            | (rw [if_neg r0, if_pos r1]; rw [rd_mv] at hR; exact ⟨_, hR, ⟨by rw [mv_num (by decide), rdB_num (by decide) (by decide)], by rw [mv_num (by decide), rdB_num (by decide) (by decide)]⟩, rfl⟩)
            | (rw [if_neg r0, if_neg r1]; have e7 : gB (rdB g k) k 7 (gb g k 7 + 0) = rdB g k := by rw [Int.add_zero, ← rdB_gb (g := g) (k := k) (q := k) (j := 7) (by decide) (by decide)]; exact gB_self
               rw [e7] at hR; have e3 : gB (rdB g k) k 3 2 = rdB g k := by rw [← c_96, ← rdB_gb (g := g) (k := k) (q := k) (j := 3) (by decide) (by decide)]; exact gB_self
               rw [e3] at hR; exact ⟨_, hR, ⟨rdB_num (by decide) (by decide), rdB_num (by decide) (by decide)⟩, rfl⟩)
        obtain ⟨X, hR, ⟨x19, x20⟩, hX⟩ := hRX
        refine X_aload dX5_readsOne_209 rfl ?_
        refine X_getR dX5_readsOne_210 rfl gf_X5_7 sh_88 (by decide) rfl rf_88_0 ?_
        refine X_sipush dX5_readsOne_213 (by decide) ?_
        refine X_dup2 dX5_readsOne_216 ?_
        refine Y_ald dX5_readsOne_217 hR (by omega) hn24 (19) (by omega) (by omega) ?_
        first
          | rw [x19]
          | rw [rdA_num (by decide)]
        refine X_iload dX5_readsOne_218 rfl ?_
        refine X_iadd dX5_readsOne_219 ?_
        refine Y_ast dX5_readsOne_220 hR hn24 (19) (by omega) (by omega) (fun I220 hR hK220 => ?_)
        have hF := hF.trans hK220.wf
        refine X_aload dX5_readsOne_221 rfl ?_
        refine X_getR dX5_readsOne_222 rfl gf_X5_7 sh_88 (by decide) rfl rf_88_0 ?_
        refine X_sipush dX5_readsOne_225 (by decide) ?_
        refine X_dup2 dX5_readsOne_228 ?_
        refine Y_ald dX5_readsOne_229 hR (by omega) hn24 (20) (by omega) (by omega) ?_
        rw [gN_num, if_neg (by decide)]
        first
          | rw [x20]
          | rw [rdA_num (by decide)]
        refine X_iloadW dX5_readsOne_230 rfl ?_
        refine X_iadd dX5_readsOne_232 ?_
        refine Y_ast dX5_readsOne_233 hR hn24 (20) (by omega) (by omega) (fun I233 hR hK233 => ?_)
        have hF := hF.trans hK233.wf
        refine X_iload dX5_readsOne_234 rfl ?_
        refine X_iloadW dX5_readsOne_235 rfl ?_
        refine X_iadd dX5_readsOne_237 ?_
        refine X_iret dX5_readsOne_238 (Or.inl rfl) ?_
        first
          | (obtain ⟨f1, f2⟩ := rd_fin1 (n := n) hu c_96 hX; exact ⟨rfl, rfl, _, rfl, f2, by rw [← f1]; exact hR, hF⟩)
          | (obtain ⟨f1, f2⟩ := rd_fin0 (n := n) hu c_96; exact ⟨rfl, rfl, _, rfl, f2, by rw [← f1]; exact hR, hF⟩)
set_option maxRecDepth 20000 in
set_option maxHeartbeats 4000000 in
theorem t5_reads_loop {I0 : xI} {g : Nat → Int} {n k T : Nat} {b : Int} (hG : GI g n) (hk : k < n) (hT : T ≤ 99) : ∀ (m t : Nat), t + m = T → ∀ (I : xI), RR I 215 (rbG g n k t) n → WF I0 I → Y kX5_reads 4 15 [some (rr 88), some (ii b), some (ii (T : Int)), some (ii (k : Int)), some (ii (rbP g n k t)), some (ii (t : Int))] [] I (q_i (fun z I1 => z = rbP g n k T ∧ RR I1 215 (rbG g n k T) n ∧ WF I0 I1)) := by
  have hn24 := hG.n24
  intro m
  induction m with
  | zero =>
    intro t ht I hR hF
    refine X_iloadW dX5_reads_15 rfl ?_
    refine X_iload dX5_reads_17 rfl ?_
    refine X_icmp_ge (tgt := 49) dX5_reads_18 (by decide) (by omega) (fun c_18 => ?_) (fun c_18 => absurd c_18 (by omega))
    refine X_iload dX5_reads_49 rfl ?_
    refine X_bipush dX5_reads_50 (by decide) ?_
    refine X_icmp_ne (tgt := 59) dX5_reads_52 (by decide) (by omega) (fun c_52 => ?_) (fun c_52 => absurd c_52 (by omega))
    refine X_iloadW dX5_reads_59 rfl ?_
    refine X_iret dX5_reads_61 (Or.inl rfl) ?_
    obtain rfl : t = T := by omega
    exact ⟨rfl, rfl, _, rfl, rfl, hR, hF⟩
  | succ m ih =>
    intro t ht I hR hF
    refine X_iloadW dX5_reads_15 rfl ?_
    refine X_iload dX5_reads_17 rfl ?_
    refine X_icmp_ge (tgt := 49) dX5_reads_18 (by decide) (by omega) (fun c_18 => absurd c_18 (by omega)) (fun c_18 => ?_)
    refine X_iload dX5_reads_21 rfl ?_
    refine X_bipush dX5_reads_22 (by decide) ?_
    refine X_icmp_eq (tgt := 49) dX5_reads_24 (by decide) (by omega) (fun c_24 => absurd c_24 (by omega)) (fun c_24 => ?_)
    refine X_iloadW dX5_reads_27 rfl ?_
    refine X_aload dX5_reads_29 rfl ?_
    refine X_sipush dX5_reads_30 (by decide) ?_
    refine X_iload dX5_reads_33 rfl ?_
    refine Y_pS dX5_reads_34 cs_X5_32 (t5_at _ _ _) rfl ?_
    refine Y_iV dX5_reads_37 cv_X5_69 sh_88 (by decide) (t5_readsOne hR (hG.rb hk t) k hk) rfl (fun z37 I37 h37 => ?_)
    obtain ⟨rfl, hR, hF1⟩ := h37
    have hF := hF.trans hF1
    refine X_iadd dX5_reads_40 ?_
    refine X_istoreW dX5_reads_41 (by decide) ?_
    dsimp only [List.set]
    refine X_iinc dX5_reads_43 rfl ?_
    dsimp only [List.set]
    refine X_goto (tgt := 15) dX5_reads_46 (by decide) ?_
    exact ih (t + 1) (by omega) _ hR hF
set_option maxRecDepth 20000 in
set_option maxHeartbeats 4000000 in
theorem t5_reads {I : xI} {g : Nat → Int} {n : Nat} (hR : RR I 215 g n) (hG : GI g n) (b : Int) (hb : -2147483648 ≤ b ∧ b ≤ 2147483647) (T : Nat) (hT : 1 ≤ T ∧ T ≤ 99) {it : Int} (hit : it = (T : Int)) : S kX5_reads 4 [rr 88, ii b, ii it] I (q_i (op5 I (oRead (g, n) b (T : Int)))) := by
  subst hit
  have hn24 := hG.n24
  have h15 := hG.g15
  refine Sp_intro (by decide +kernel) (Nat.le_of_ble_eq_true rfl) ?_
  show Y kX5_reads 4 0 [some (rr 88), some (ii b), some (ii (T : Int)), none, none, none] [] I _
  rcases hp : pl g n b with _ | k
  · have hfd := t5_placeOf hR (by decide) hG (ip := 215) rfl b hb
    rw [hp] at hfd
    change S _ _ _ _ (q_p (ii (-5)) I) at hfd
    refine X_aload dX5_reads_0 rfl ?_
    refine X_sipush dX5_reads_1 (by decide) ?_
    refine X_iload dX5_reads_4 rfl ?_
    refine Y_pV dX5_reads_5 cv_X5_65 sh_88 (by decide) hfd rfl ?_
    refine X_istore dX5_reads_8 (by decide) ?_
    dsimp only [List.set]
    refine X_iconst dX5_reads_9 ?_
    refine X_istoreW dX5_reads_10 (by decide) ?_
    dsimp only [List.set]
    refine X_iconst dX5_reads_12 ?_
    refine X_istoreW dX5_reads_13 (by decide) ?_
    dsimp only [List.set]
    refine X_iloadW dX5_reads_15 rfl ?_
    refine X_iload dX5_reads_17 rfl ?_
    refine X_icmp_ge (tgt := 49) dX5_reads_18 (by decide) (by omega) (fun c_18 => absurd c_18 (by omega)) (fun c_18 => ?_)
    refine X_iload dX5_reads_21 rfl ?_
    refine X_bipush dX5_reads_22 (by decide) ?_
    refine X_icmp_eq (tgt := 49) dX5_reads_24 (by decide) (by omega) (fun c_24 => ?_) (fun c_24 => absurd c_24 (by omega))
    refine X_iload dX5_reads_49 rfl ?_
    refine X_bipush dX5_reads_50 (by decide) ?_
    refine X_icmp_ne (tgt := 59) dX5_reads_52 (by decide) (by omega) (fun c_52 => absurd c_52 (by omega)) (fun c_52 => ?_)
    refine X_iconst dX5_reads_55 ?_
    refine X_goto (tgt := 61) dX5_reads_56 (by decide) ?_
    refine X_iret dX5_reads_61 (Or.inl rfl) ?_
    exact ⟨rfl, rfl, _, rfl, by show _ = rbZ g n b _; unfold rbZ; rw [hp], WF.rf, fun q => absurd q (by show ¬ (0 : Int) ≤ rbZ g n b _; unfold rbZ; rw [hp]; exact (show ¬ (0 : Int) ≤ -1 by decide))⟩
  · have hk : k < n := pl_lt hp
    have hfd := t5_placeOf hR (by decide) hG (ip := 215) rfl b hb
    rw [hp] at hfd
    change S _ _ _ _ (q_p (ii ((k : Nat) : Int)) I) at hfd
    refine X_aload dX5_reads_0 rfl ?_
    refine X_sipush dX5_reads_1 (by decide) ?_
    refine X_iload dX5_reads_4 rfl ?_
    refine Y_pV dX5_reads_5 cv_X5_65 sh_88 (by decide) hfd rfl ?_
    refine X_istore dX5_reads_8 (by decide) ?_
    dsimp only [List.set]
    refine X_iconst dX5_reads_9 ?_
    refine X_istoreW dX5_reads_10 (by decide) ?_
    dsimp only [List.set]
    refine X_iconst dX5_reads_12 ?_
    refine X_istoreW dX5_reads_13 (by decide) ?_
    dsimp only [List.set]
    have h9 := t5_reads_loop (I0 := I) (b := b) hG hk hT.2 T 0 (by omega) I hR WF.rf
    refine X_weaken h9 (fun ro N1 I1 R1 e => ?_)
    obtain ⟨a1, a2, z, a3, rfl, a4, a5⟩ := e
    refine ⟨a1, a2, _, a3, ?_, a5, fun _ => ?_⟩
    · show _ = rbZ g n b (T : Int)
      unfold rbZ
      rw [hp]
      show _ = if _ then _ else _
      rw [if_pos (by omega), Int.toNat_natCast]
    · show RR I1 215 (match pl g n b with | none => (g, n) | some k => (rbG g n k (T : Int).toNat, n)).1 (match pl g n b with | none => (g, n) | some k => (rbG g n k (T : Int).toNat, n)).2
      rw [hp]
      show RR I1 215 (rbG g n k (T : Int).toNat) n
      rw [Int.toNat_natCast]
      exact a4
