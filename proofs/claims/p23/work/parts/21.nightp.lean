/-! Night: the turns, and nights one after the other -/
theorem pd_mv {g : Nat → Int} {k sh : Nat} : pdG (mv g k (sh : Int)) k = mp g k sh := by
  have e : gb (mv g k (sh : Int)) k 3 = sh := by rw [mv_gb (by decide), if_pos (by omega)]
  unfold pdG mp
  rw [e]
  by_cases h : sh = 2
  · rw [if_pos h, if_pos (by omega)]
  · rw [if_neg h, if_neg (by omega)]
section TN
variable {w : Nat → Int} {n : Nat} {most : Int} {dn : Bool} {f : Nat} {g y : Nat → Int} {m : Int}
theorem tn_stop (h : most ≤ m) : tn w n most dn (f + 1) g y m = (g, y, m) := by
  show (if m < most then _ else _ : (Nat → Int) × (Nat → Int) × Int) = _
  rw [if_neg (by omega)]
theorem tn_none (h : m < most) (hr : nxF w g y dn n = none) : tn w n most dn (f + 1) g y m = (g, y, m) := by
  show (if m < most then _ else _ : (Nat → Int) × (Nat → Int) × Int) = _
  rw [if_pos h, hr]
theorem tn_stay {k : Nat} (h : m < most) (hr : nxF w g y dn n = some k) (ht : tg w g n k = none) : tn w n most dn (f + 1) g y m = tn w n most dn f g (yu y k 5) m := by
  show (if m < most then _ else _ : (Nat → Int) × (Nat → Int) × Int) = _
  rw [if_pos h, hr]
  simp only [ht]
theorem tn_go {k sh : Nat} (h : m < most) (hr : nxF w g y dn n = some k) (ht : tg w g n k = some sh) : tn w n most dn (f + 1) g y m = tn w n most dn f (mp g k sh) (yu y k 0) (m + 1) := by
  show (if m < most then _ else _ : (Nat → Int) × (Nat → Int) × Int) = _
  rw [if_pos h, hr]
  simp only [ht]
end TN
set_option maxRecDepth 20000 in
set_option maxHeartbeats 4000000 in
theorem t_moveInTurn1_loop {I : xI} {c : Nat} {n : Nat} (hc : x_st c) (hn24 : n ≤ 24) {w : Nat → Int} (hw : ∀ k, k < n → 0 ≤ w k ∧ w k ≤ 2) (most : Int) (hmo : -100 ≤ most ∧ most ≤ 100) : ∀ (f i : Nat) (g y : Nat → Int) (m : Int) (I1 : xI), i + f = 24 → RS I1 c g n → GI g n → WR I1 n w y → (∀ k, k < n → 0 ≤ y k ∧ y k ≤ 5) → 0 ≤ m ∧ m ≤ i → FT I I1 c → Y kX1_moveInTurn 3 6 [some (rr 80), some (rr c), some (ii 1), some (ii most), some (ii m), some (ii (i : Int)), none, none] [] I1 (q_i (fun z I2 => z = (tn w n most true f g y m).2.2 ∧ RS I2 c (tn w n most true f g y m).1 n ∧ WR I2 n w (tn w n most true f g y m).2.1 ∧ FT I I2 c)) := by
  have lc := st_lt hc
  have lw := st_low hc
  intro f
  induction f with
  | zero =>
    intro i g y m I1 hi hR hG hW hy hm hF
    refine X_iloadW dX1_moveInTurn_6 rfl ?_
    refine X_bipush dX1_moveInTurn_8 (by decide) ?_
    refine X_icmp_ge (tgt := 98) dX1_moveInTurn_10 (by decide) (by omega) (fun c_10 => ?_) (fun c_10 => absurd c_10 (by omega))
    refine X_iloadW dX1_moveInTurn_98 rfl ?_
    refine X_iret dX1_moveInTurn_100 (Or.inl rfl) ?_
    exact ⟨rfl, rfl, _, rfl, rfl, hR, hW, hF⟩
  | succ f ih =>
    intro i g y m I1 hi hR hG hW hy hm hF
    have hG0 := hG
    have hfd := t_nextInTurn1 hc hR hG hW hw hy
    rcases hr : nxF w g y true n with _ | k
    · rw [hr] at hfd
      change S _ _ _ _ (q_p (ii (-1)) I1) at hfd
      refine X_iloadW dX1_moveInTurn_6 rfl ?_
      refine X_bipush dX1_moveInTurn_8 (by decide) ?_
      refine X_icmp_ge (tgt := 98) dX1_moveInTurn_10 (by decide) (by omega) (fun c_10 => absurd c_10 (by omega)) (fun c_10 => ?_)
      refine X_iloadW dX1_moveInTurn_13 rfl ?_
      refine X_iload dX1_moveInTurn_15 rfl ?_
      refine X_icmp_ge (tgt := 98) dX1_moveInTurn_16 (by decide) (by omega) (fun c_16 => ?_) (fun c_16 => ?_)
      · refine X_iloadW dX1_moveInTurn_98 rfl ?_
        refine X_iret dX1_moveInTurn_100 (Or.inl rfl) ?_
        rw [tn_stop c_16]
        exact ⟨rfl, rfl, _, rfl, rfl, hR, hW, hF⟩
      · refine X_aload dX1_moveInTurn_19 rfl ?_
        refine X_aload dX1_moveInTurn_20 rfl ?_
        refine X_iload dX1_moveInTurn_21 rfl ?_
        refine Y_pV dX1_moveInTurn_22 cv_X1_65 sh_80 (by decide) hfd rfl ?_
        refine X_istoreW dX1_moveInTurn_25 (by decide) ?_
        dsimp only [List.set]
        refine X_iloadW dX1_moveInTurn_27 rfl ?_
        refine X_iconst dX1_moveInTurn_29 ?_
        refine X_icmp_ne (tgt := 36) dX1_moveInTurn_30 (by decide) (by omega) (fun c_30 => absurd c_30 (by omega)) (fun c_30 => ?_)
        refine X_iloadW dX1_moveInTurn_33 rfl ?_
        refine X_iret dX1_moveInTurn_35 (Or.inl rfl) ?_
        rw [tn_none c_16 hr]
        exact ⟨rfl, rfl, _, rfl, rfl, hR, hW, hF⟩
    · have hk := (nxF_lt hr).1
      rw [hr] at hfd
      change S _ _ _ _ (q_p (ii ((k : Nat) : Int)) I1) at hfd
      have hst := t_shelfToMoveTo hc hR hG hW hw hy k hk rfl
      rcases ht : tg w g n k with _ | sh
      · rw [ht] at hst
        change S _ _ _ _ (q_p (ii (-1)) I1) at hst
        refine X_iloadW dX1_moveInTurn_6 rfl ?_
        refine X_bipush dX1_moveInTurn_8 (by decide) ?_
        refine X_icmp_ge (tgt := 98) dX1_moveInTurn_10 (by decide) (by omega) (fun c_10 => absurd c_10 (by omega)) (fun c_10 => ?_)
        refine X_iloadW dX1_moveInTurn_13 rfl ?_
        refine X_iload dX1_moveInTurn_15 rfl ?_
        refine X_icmp_ge (tgt := 98) dX1_moveInTurn_16 (by decide) (by omega) (fun c_16 => ?_) (fun c_16 => ?_)
        · refine X_iloadW dX1_moveInTurn_98 rfl ?_
          refine X_iret dX1_moveInTurn_100 (Or.inl rfl) ?_
          rw [tn_stop c_16]
          exact ⟨rfl, rfl, _, rfl, rfl, hR, hW, hF⟩
        · refine X_aload dX1_moveInTurn_19 rfl ?_
          refine X_aload dX1_moveInTurn_20 rfl ?_
          refine X_iload dX1_moveInTurn_21 rfl ?_
          refine Y_pV dX1_moveInTurn_22 cv_X1_65 sh_80 (by decide) hfd rfl ?_
          refine X_istoreW dX1_moveInTurn_25 (by decide) ?_
          dsimp only [List.set]
          refine X_iloadW dX1_moveInTurn_27 rfl ?_
          refine X_iconst dX1_moveInTurn_29 ?_
          refine X_icmp_ne (tgt := 36) dX1_moveInTurn_30 (by decide) (by omega) (fun c_30 => ?_) (fun c_30 => absurd c_30 (by omega))
          refine X_aload dX1_moveInTurn_36 rfl ?_
          refine X_aload dX1_moveInTurn_37 rfl ?_
          refine X_iloadW dX1_moveInTurn_38 rfl ?_
          refine Y_pV dX1_moveInTurn_40 cv_X1_69 sh_80 (by decide) hst rfl ?_
          refine X_istoreW dX1_moveInTurn_43 (by decide) ?_
          dsimp only [List.set]
          refine X_iloadW dX1_moveInTurn_45 rfl ?_
          refine X_iconst dX1_moveInTurn_47 ?_
          refine X_icmp_ne (tgt := 64) dX1_moveInTurn_48 (by decide) (by omega) (fun c_48 => absurd c_48 (by omega)) (fun c_48 => ?_)
          refine X_aload dX1_moveInTurn_51 rfl ?_
          refine X_getR dX1_moveInTurn_52 rfl gf_X1_15 sh_80 (by decide) rfl rf_80_1 ?_
          refine X_iloadW dX1_moveInTurn_55 rfl ?_
          refine X_iconst dX1_moveInTurn_57 ?_
          refine Y_vS dX1_moveInTurn_58 cs_X1_53 (t_putk sh_82 (by decide) _ k (by omega) rfl _) rfl (fun I58 e58 => ?_)
          subst e58
          have hR := hR.up81 (q := 82) (j := k) (z := 5) hc (Or.inr rfl)
          have hW := hW.setY k 5
          have hF := hF.up81 (q := 82) (j := k) (z := 5) (Or.inr rfl)
          have hy : ∀ q, q < n → 0 ≤ yu y k 5 q ∧ yu y k 5 q ≤ 5 := by
            intro q hq
            unfold yu
            split
            · omega
            · exact hy q hq
          refine X_goto (tgt := 92) dX1_moveInTurn_61 (by decide) ?_
          refine X_iinc dX1_moveInTurn_92 rfl ?_
          dsimp only [List.set]
          refine X_goto (tgt := 6) dX1_moveInTurn_95 (by decide) ?_
          refine X_drop 6 ?_
          dsimp only [List.set]
          refine X_drop 7 ?_
          dsimp only [List.set]
          rw [tn_stay c_16 hr ht]
          exact ih (i + 1) g (yu y k 5) m _ (by omega) hR hG hW hy (by omega) hF
      · have hsh := tg_lt (hw k hk) ht
        rw [ht] at hst
        change S _ _ _ _ (q_p (ii ((sh : Nat) : Int)) I1) at hst
        refine X_iloadW dX1_moveInTurn_6 rfl ?_
        refine X_bipush dX1_moveInTurn_8 (by decide) ?_
        refine X_icmp_ge (tgt := 98) dX1_moveInTurn_10 (by decide) (by omega) (fun c_10 => absurd c_10 (by omega)) (fun c_10 => ?_)
        refine X_iloadW dX1_moveInTurn_13 rfl ?_
        refine X_iload dX1_moveInTurn_15 rfl ?_
        refine X_icmp_ge (tgt := 98) dX1_moveInTurn_16 (by decide) (by omega) (fun c_16 => ?_) (fun c_16 => ?_)
        · refine X_iloadW dX1_moveInTurn_98 rfl ?_
          refine X_iret dX1_moveInTurn_100 (Or.inl rfl) ?_
          rw [tn_stop c_16]
          exact ⟨rfl, rfl, _, rfl, rfl, hR, hW, hF⟩
        · refine X_aload dX1_moveInTurn_19 rfl ?_
          refine X_aload dX1_moveInTurn_20 rfl ?_
          refine X_iload dX1_moveInTurn_21 rfl ?_
          refine Y_pV dX1_moveInTurn_22 cv_X1_65 sh_80 (by decide) hfd rfl ?_
          refine X_istoreW dX1_moveInTurn_25 (by decide) ?_
          dsimp only [List.set]
          refine X_iloadW dX1_moveInTurn_27 rfl ?_
          refine X_iconst dX1_moveInTurn_29 ?_
          refine X_icmp_ne (tgt := 36) dX1_moveInTurn_30 (by decide) (by omega) (fun c_30 => ?_) (fun c_30 => absurd c_30 (by omega))
          refine X_aload dX1_moveInTurn_36 rfl ?_
          refine X_aload dX1_moveInTurn_37 rfl ?_
          refine X_iloadW dX1_moveInTurn_38 rfl ?_
          refine Y_pV dX1_moveInTurn_40 cv_X1_69 sh_80 (by decide) hst rfl ?_
          refine X_istoreW dX1_moveInTurn_43 (by decide) ?_
          dsimp only [List.set]
          refine X_iloadW dX1_moveInTurn_45 rfl ?_
          refine X_iconst dX1_moveInTurn_47 ?_
          refine X_icmp_ne (tgt := 64) dX1_moveInTurn_48 (by decide) (by omega) (fun c_48 => ?_) (fun c_48 => absurd c_48 (by omega))
          refine X_aload dX1_moveInTurn_64 rfl ?_
          refine X_getR dX1_moveInTurn_65 rfl gf_X1_15 sh_80 (by decide) rfl rf_80_1 ?_
          refine X_iloadW dX1_moveInTurn_68 rfl ?_
          refine X_iconst dX1_moveInTurn_70 ?_
          refine Y_vS dX1_moveInTurn_71 cs_X1_53 (t_putk sh_82 (by decide) _ k (by omega) rfl _) rfl (fun I58 e58 => ?_)
          subst e58
          have hR := hR.up81 (q := 82) (j := k) (z := 0) hc (Or.inr rfl)
          have hW := hW.setY k 0
          have hF := hF.up81 (q := 82) (j := k) (z := 0) (Or.inr rfl)
          have hy : ∀ q, q < n → 0 ≤ yu y k 0 q ∧ yu y k 0 q ≤ 5 := by
            intro q hq
            unfold yu
            split
            · omega
            · exact hy q hq
          refine X_aload dX1_moveInTurn_74 rfl ?_
          refine X_iloadW dX1_moveInTurn_75 rfl ?_
          refine X_iloadW dX1_moveInTurn_77 rfl ?_
          refine Y_vV dX1_moveInTurn_79 cv_X1_73 (sh_st hc) (by omega) (t_moveTo hc hR hG k hk rfl sh hsh rfl) rfl (fun I79 h79 => ?_)
          obtain ⟨hR, hF79⟩ := h79
          have hG := hG.setM (k := k) (sh := (sh : Int)) (by omega)
          have hW := hW.fr hc hF79
          have hF := hF.trans hF79.t
          refine X_aload dX1_moveInTurn_82 rfl ?_
          refine X_aload dX1_moveInTurn_83 rfl ?_
          refine X_iloadW dX1_moveInTurn_84 rfl ?_
          refine Y_vV dX1_moveInTurn_86 cv_X1_77 sh_80 (by decide) (t_promiseIfDeep hc hR hG k hk rfl) rfl (fun I86 h86 => ?_)
          obtain ⟨hR, hF86⟩ := h86
          rw [pd_mv] at hR
          have hW := hW.fr hc hF86
          have hF := hF.trans hF86.t
          have hG := hG0.setP (k := k) hsh
          refine X_iinc dX1_moveInTurn_89 rfl ?_
          dsimp only [List.set]
          refine X_iinc dX1_moveInTurn_92 rfl ?_
          dsimp only [List.set]
          refine X_goto (tgt := 6) dX1_moveInTurn_95 (by decide) ?_
          refine X_drop 6 ?_
          dsimp only [List.set]
          refine X_drop 7 ?_
          dsimp only [List.set]
          rw [tn_go c_16 hr ht]
          exact ih (i + 1) (mp g k sh) (yu y k 0) (m + 1) _ (by omega) hR hG hW hy (by omega) hF
set_option maxRecDepth 20000 in
set_option maxHeartbeats 4000000 in
theorem t_moveInTurn1 {I : xI} {c : Nat} {g : Nat → Int} {n : Nat} (hc : x_st c) (hR : RS I c g n) (hG : GI g n) {w y : Nat → Int} (hW : WR I n w y) (hw : ∀ k, k < n → 0 ≤ w k ∧ w k ≤ 2) (hy : ∀ k, k < n → 0 ≤ y k ∧ y k ≤ 5) (most : Int) (hmo : -100 ≤ most ∧ most ≤ 100) : S kX1_moveInTurn 3 [rr 80, rr c, ii 1, ii most] I (q_i (fun z I2 => z = (tn w n most true 24 g y 0).2.2 ∧ RS I2 c (tn w n most true 24 g y 0).1 n ∧ WR I2 n w (tn w n most true 24 g y 0).2.1 ∧ FT I I2 c)) := by
  have lc := st_lt hc
  have lw := st_low hc
  have hn24 := hG.n24
  refine Sp_intro (by decide +kernel) (Nat.le_of_ble_eq_true rfl) ?_
  show Y kX1_moveInTurn 3 0 [some (rr 80), some (rr c), some (ii 1), some (ii most), none, none, none, none] [] I _
  refine X_iconst dX1_moveInTurn_0 ?_
  refine X_istoreW dX1_moveInTurn_1 (by decide) ?_
  dsimp only [List.set]
  refine X_iconst dX1_moveInTurn_3 ?_
  refine X_istoreW dX1_moveInTurn_4 (by decide) ?_
  dsimp only [List.set]
  exact t_moveInTurn1_loop hc hn24 hw most hmo 24 0 g y 0 I (by omega) hR hG hW hy (by omega) FT.rf
set_option maxRecDepth 20000 in
set_option maxHeartbeats 4000000 in
theorem t_moveInTurn0_loop {I : xI} {c : Nat} {n : Nat} (hc : x_st c) (hn24 : n ≤ 24) {w : Nat → Int} (hw : ∀ k, k < n → 0 ≤ w k ∧ w k ≤ 2) (most : Int) (hmo : -100 ≤ most ∧ most ≤ 100) : ∀ (f i : Nat) (g y : Nat → Int) (m : Int) (I1 : xI), i + f = 24 → RS I1 c g n → GI g n → WR I1 n w y → (∀ k, k < n → 0 ≤ y k ∧ y k ≤ 5) → 0 ≤ m ∧ m ≤ i → FT I I1 c → Y kX1_moveInTurn 3 6 [some (rr 80), some (rr c), some (ii 0), some (ii most), some (ii m), some (ii (i : Int)), none, none] [] I1 (q_i (fun z I2 => z = (tn w n most false f g y m).2.2 ∧ RS I2 c (tn w n most false f g y m).1 n ∧ WR I2 n w (tn w n most false f g y m).2.1 ∧ FT I I2 c)) := by
  have lc := st_lt hc
  have lw := st_low hc
  intro f
  induction f with
  | zero =>
    intro i g y m I1 hi hR hG hW hy hm hF
    refine X_iloadW dX1_moveInTurn_6 rfl ?_
    refine X_bipush dX1_moveInTurn_8 (by decide) ?_
    refine X_icmp_ge (tgt := 98) dX1_moveInTurn_10 (by decide) (by omega) (fun c_10 => ?_) (fun c_10 => absurd c_10 (by omega))
    refine X_iloadW dX1_moveInTurn_98 rfl ?_
    refine X_iret dX1_moveInTurn_100 (Or.inl rfl) ?_
    exact ⟨rfl, rfl, _, rfl, rfl, hR, hW, hF⟩
  | succ f ih =>
    intro i g y m I1 hi hR hG hW hy hm hF
    have hG0 := hG
    have hfd := t_nextInTurn0 hc hR hG hW hw hy
    rcases hr : nxF w g y false n with _ | k
    · rw [hr] at hfd
      change S _ _ _ _ (q_p (ii (-1)) I1) at hfd
      refine X_iloadW dX1_moveInTurn_6 rfl ?_
      refine X_bipush dX1_moveInTurn_8 (by decide) ?_
      refine X_icmp_ge (tgt := 98) dX1_moveInTurn_10 (by decide) (by omega) (fun c_10 => absurd c_10 (by omega)) (fun c_10 => ?_)
      refine X_iloadW dX1_moveInTurn_13 rfl ?_
      refine X_iload dX1_moveInTurn_15 rfl ?_
      refine X_icmp_ge (tgt := 98) dX1_moveInTurn_16 (by decide) (by omega) (fun c_16 => ?_) (fun c_16 => ?_)
      · refine X_iloadW dX1_moveInTurn_98 rfl ?_
        refine X_iret dX1_moveInTurn_100 (Or.inl rfl) ?_
        rw [tn_stop c_16]
        exact ⟨rfl, rfl, _, rfl, rfl, hR, hW, hF⟩
      · refine X_aload dX1_moveInTurn_19 rfl ?_
        refine X_aload dX1_moveInTurn_20 rfl ?_
        refine X_iload dX1_moveInTurn_21 rfl ?_
        refine Y_pV dX1_moveInTurn_22 cv_X1_65 sh_80 (by decide) hfd rfl ?_
        refine X_istoreW dX1_moveInTurn_25 (by decide) ?_
        dsimp only [List.set]
        refine X_iloadW dX1_moveInTurn_27 rfl ?_
        refine X_iconst dX1_moveInTurn_29 ?_
        refine X_icmp_ne (tgt := 36) dX1_moveInTurn_30 (by decide) (by omega) (fun c_30 => absurd c_30 (by omega)) (fun c_30 => ?_)
        refine X_iloadW dX1_moveInTurn_33 rfl ?_
        refine X_iret dX1_moveInTurn_35 (Or.inl rfl) ?_
        rw [tn_none c_16 hr]
        exact ⟨rfl, rfl, _, rfl, rfl, hR, hW, hF⟩
    · have hk := (nxF_lt hr).1
      rw [hr] at hfd
      change S _ _ _ _ (q_p (ii ((k : Nat) : Int)) I1) at hfd
      have hst := t_shelfToMoveTo hc hR hG hW hw hy k hk rfl
      rcases ht : tg w g n k with _ | sh
      · rw [ht] at hst
        change S _ _ _ _ (q_p (ii (-1)) I1) at hst
        refine X_iloadW dX1_moveInTurn_6 rfl ?_
        refine X_bipush dX1_moveInTurn_8 (by decide) ?_
        refine X_icmp_ge (tgt := 98) dX1_moveInTurn_10 (by decide) (by omega) (fun c_10 => absurd c_10 (by omega)) (fun c_10 => ?_)
        refine X_iloadW dX1_moveInTurn_13 rfl ?_
        refine X_iload dX1_moveInTurn_15 rfl ?_
        refine X_icmp_ge (tgt := 98) dX1_moveInTurn_16 (by decide) (by omega) (fun c_16 => ?_) (fun c_16 => ?_)
        · refine X_iloadW dX1_moveInTurn_98 rfl ?_
          refine X_iret dX1_moveInTurn_100 (Or.inl rfl) ?_
          rw [tn_stop c_16]
          exact ⟨rfl, rfl, _, rfl, rfl, hR, hW, hF⟩
        · refine X_aload dX1_moveInTurn_19 rfl ?_
          refine X_aload dX1_moveInTurn_20 rfl ?_
          refine X_iload dX1_moveInTurn_21 rfl ?_
          refine Y_pV dX1_moveInTurn_22 cv_X1_65 sh_80 (by decide) hfd rfl ?_
          refine X_istoreW dX1_moveInTurn_25 (by decide) ?_
          dsimp only [List.set]
          refine X_iloadW dX1_moveInTurn_27 rfl ?_
          refine X_iconst dX1_moveInTurn_29 ?_
          refine X_icmp_ne (tgt := 36) dX1_moveInTurn_30 (by decide) (by omega) (fun c_30 => ?_) (fun c_30 => absurd c_30 (by omega))
          refine X_aload dX1_moveInTurn_36 rfl ?_
          refine X_aload dX1_moveInTurn_37 rfl ?_
          refine X_iloadW dX1_moveInTurn_38 rfl ?_
          refine Y_pV dX1_moveInTurn_40 cv_X1_69 sh_80 (by decide) hst rfl ?_
          refine X_istoreW dX1_moveInTurn_43 (by decide) ?_
          dsimp only [List.set]
          refine X_iloadW dX1_moveInTurn_45 rfl ?_
          refine X_iconst dX1_moveInTurn_47 ?_
          refine X_icmp_ne (tgt := 64) dX1_moveInTurn_48 (by decide) (by omega) (fun c_48 => absurd c_48 (by omega)) (fun c_48 => ?_)
          refine X_aload dX1_moveInTurn_51 rfl ?_
          refine X_getR dX1_moveInTurn_52 rfl gf_X1_15 sh_80 (by decide) rfl rf_80_1 ?_
          refine X_iloadW dX1_moveInTurn_55 rfl ?_
          refine X_iconst dX1_moveInTurn_57 ?_
          refine Y_vS dX1_moveInTurn_58 cs_X1_53 (t_putk sh_82 (by decide) _ k (by omega) rfl _) rfl (fun I58 e58 => ?_)
          subst e58
          have hR := hR.up81 (q := 82) (j := k) (z := 5) hc (Or.inr rfl)
          have hW := hW.setY k 5
          have hF := hF.up81 (q := 82) (j := k) (z := 5) (Or.inr rfl)
          have hy : ∀ q, q < n → 0 ≤ yu y k 5 q ∧ yu y k 5 q ≤ 5 := by
            intro q hq
            unfold yu
            split
            · omega
            · exact hy q hq
          refine X_goto (tgt := 92) dX1_moveInTurn_61 (by decide) ?_
          refine X_iinc dX1_moveInTurn_92 rfl ?_
          dsimp only [List.set]
          refine X_goto (tgt := 6) dX1_moveInTurn_95 (by decide) ?_
          refine X_drop 6 ?_
          dsimp only [List.set]
          refine X_drop 7 ?_
          dsimp only [List.set]
          rw [tn_stay c_16 hr ht]
          exact ih (i + 1) g (yu y k 5) m _ (by omega) hR hG hW hy (by omega) hF
      · have hsh := tg_lt (hw k hk) ht
        rw [ht] at hst
        change S _ _ _ _ (q_p (ii ((sh : Nat) : Int)) I1) at hst
        refine X_iloadW dX1_moveInTurn_6 rfl ?_
        refine X_bipush dX1_moveInTurn_8 (by decide) ?_
        refine X_icmp_ge (tgt := 98) dX1_moveInTurn_10 (by decide) (by omega) (fun c_10 => absurd c_10 (by omega)) (fun c_10 => ?_)
        refine X_iloadW dX1_moveInTurn_13 rfl ?_
        refine X_iload dX1_moveInTurn_15 rfl ?_
        refine X_icmp_ge (tgt := 98) dX1_moveInTurn_16 (by decide) (by omega) (fun c_16 => ?_) (fun c_16 => ?_)
        · refine X_iloadW dX1_moveInTurn_98 rfl ?_
          refine X_iret dX1_moveInTurn_100 (Or.inl rfl) ?_
          rw [tn_stop c_16]
          exact ⟨rfl, rfl, _, rfl, rfl, hR, hW, hF⟩
        · refine X_aload dX1_moveInTurn_19 rfl ?_
          refine X_aload dX1_moveInTurn_20 rfl ?_
          refine X_iload dX1_moveInTurn_21 rfl ?_
          refine Y_pV dX1_moveInTurn_22 cv_X1_65 sh_80 (by decide) hfd rfl ?_
          refine X_istoreW dX1_moveInTurn_25 (by decide) ?_
          dsimp only [List.set]
          refine X_iloadW dX1_moveInTurn_27 rfl ?_
          refine X_iconst dX1_moveInTurn_29 ?_
          refine X_icmp_ne (tgt := 36) dX1_moveInTurn_30 (by decide) (by omega) (fun c_30 => ?_) (fun c_30 => absurd c_30 (by omega))
          refine X_aload dX1_moveInTurn_36 rfl ?_
          refine X_aload dX1_moveInTurn_37 rfl ?_
          refine X_iloadW dX1_moveInTurn_38 rfl ?_
          refine Y_pV dX1_moveInTurn_40 cv_X1_69 sh_80 (by decide) hst rfl ?_
          refine X_istoreW dX1_moveInTurn_43 (by decide) ?_
          dsimp only [List.set]
          refine X_iloadW dX1_moveInTurn_45 rfl ?_
          refine X_iconst dX1_moveInTurn_47 ?_
          refine X_icmp_ne (tgt := 64) dX1_moveInTurn_48 (by decide) (by omega) (fun c_48 => ?_) (fun c_48 => absurd c_48 (by omega))
          refine X_aload dX1_moveInTurn_64 rfl ?_
          refine X_getR dX1_moveInTurn_65 rfl gf_X1_15 sh_80 (by decide) rfl rf_80_1 ?_
          refine X_iloadW dX1_moveInTurn_68 rfl ?_
          refine X_iconst dX1_moveInTurn_70 ?_
          refine Y_vS dX1_moveInTurn_71 cs_X1_53 (t_putk sh_82 (by decide) _ k (by omega) rfl _) rfl (fun I58 e58 => ?_)
          subst e58
          have hR := hR.up81 (q := 82) (j := k) (z := 0) hc (Or.inr rfl)
          have hW := hW.setY k 0
          have hF := hF.up81 (q := 82) (j := k) (z := 0) (Or.inr rfl)
          have hy : ∀ q, q < n → 0 ≤ yu y k 0 q ∧ yu y k 0 q ≤ 5 := by
            intro q hq
            unfold yu
            split
            · omega
            · exact hy q hq
          refine X_aload dX1_moveInTurn_74 rfl ?_
          refine X_iloadW dX1_moveInTurn_75 rfl ?_
          refine X_iloadW dX1_moveInTurn_77 rfl ?_
          refine Y_vV dX1_moveInTurn_79 cv_X1_73 (sh_st hc) (by omega) (t_moveTo hc hR hG k hk rfl sh hsh rfl) rfl (fun I79 h79 => ?_)
          obtain ⟨hR, hF79⟩ := h79
          have hG := hG.setM (k := k) (sh := (sh : Int)) (by omega)
          have hW := hW.fr hc hF79
          have hF := hF.trans hF79.t
          refine X_aload dX1_moveInTurn_82 rfl ?_
          refine X_aload dX1_moveInTurn_83 rfl ?_
          refine X_iloadW dX1_moveInTurn_84 rfl ?_
          refine Y_vV dX1_moveInTurn_86 cv_X1_77 sh_80 (by decide) (t_promiseIfDeep hc hR hG k hk rfl) rfl (fun I86 h86 => ?_)
          obtain ⟨hR, hF86⟩ := h86
          rw [pd_mv] at hR
          have hW := hW.fr hc hF86
          have hF := hF.trans hF86.t
          have hG := hG0.setP (k := k) hsh
          refine X_iinc dX1_moveInTurn_89 rfl ?_
          dsimp only [List.set]
          refine X_iinc dX1_moveInTurn_92 rfl ?_
          dsimp only [List.set]
          refine X_goto (tgt := 6) dX1_moveInTurn_95 (by decide) ?_
          refine X_drop 6 ?_
          dsimp only [List.set]
          refine X_drop 7 ?_
          dsimp only [List.set]
          rw [tn_go c_16 hr ht]
          exact ih (i + 1) (mp g k sh) (yu y k 0) (m + 1) _ (by omega) hR hG hW hy (by omega) hF
set_option maxRecDepth 20000 in
set_option maxHeartbeats 4000000 in
theorem t_moveInTurn0 {I : xI} {c : Nat} {g : Nat → Int} {n : Nat} (hc : x_st c) (hR : RS I c g n) (hG : GI g n) {w y : Nat → Int} (hW : WR I n w y) (hw : ∀ k, k < n → 0 ≤ w k ∧ w k ≤ 2) (hy : ∀ k, k < n → 0 ≤ y k ∧ y k ≤ 5) (most : Int) (hmo : -100 ≤ most ∧ most ≤ 100) : S kX1_moveInTurn 3 [rr 80, rr c, ii 0, ii most] I (q_i (fun z I2 => z = (tn w n most false 24 g y 0).2.2 ∧ RS I2 c (tn w n most false 24 g y 0).1 n ∧ WR I2 n w (tn w n most false 24 g y 0).2.1 ∧ FT I I2 c)) := by
  have lc := st_lt hc
  have lw := st_low hc
  have hn24 := hG.n24
  refine Sp_intro (by decide +kernel) (Nat.le_of_ble_eq_true rfl) ?_
  show Y kX1_moveInTurn 3 0 [some (rr 80), some (rr c), some (ii 0), some (ii most), none, none, none, none] [] I _
  refine X_iconst dX1_moveInTurn_0 ?_
  refine X_istoreW dX1_moveInTurn_1 (by decide) ?_
  dsimp only [List.set]
  refine X_iconst dX1_moveInTurn_3 ?_
  refine X_istoreW dX1_moveInTurn_4 (by decide) ?_
  dsimp only [List.set]
  exact t_moveInTurn0_loop hc hn24 hw most hmo 24 0 g y 0 I (by omega) hR hG hW hy (by omega) FT.rf
set_option maxRecDepth 20000 in
set_option maxHeartbeats 4000000 in
theorem t_letPass_loop {I : xI} {c : Nat} {g : Nat → Int} {n : Nat} (hc : x_st c) (hGG : GI g n) (t : Nat) (ht : t ≤ 100) : ∀ (m k : Nat), k + m = t → ∀ (I1 : xI), RS I1 c (nsG g n (g 3) k) n → (∀ k1, k = k1 + 1 → ∀ q, q < n → I1 82 q = (ntU (nsG g n (g 3) k1) n (g 3)).2.1 q) → FT I I1 c → Y kX1_letPass 4 15 [some (rr 80), some (rr c), some (ii (t : Int)), some (ii (g 3)), some (ii (nsM g n (g 3) k)), some (ii (k : Int)), none] [] I1 (q_i (fun z I2 => z = nsM g n (g 3) t ∧ RS I2 c (npG g n t) n ∧ FT I I2 c ∧ (∀ k, t = k + 1 → ∀ q, q < n → I2 82 q = (ntU (nsG g n (g 3) k) n (g 3)).2.1 q))) := by
  have lc := st_lt hc
  have lw := st_low hc
  have hn24 := hGG.n24
  have h3 := hGG.s3
  intro m
  induction m with
  | zero =>
    intro k hk I1 hR hY hF
    refine X_iloadW dX1_letPass_15 rfl ?_
    refine X_iload dX1_letPass_17 rfl ?_
    refine X_icmp_ge (tgt := 67) dX1_letPass_18 (by decide) (by omega) (fun c_18 => ?_) (fun c_18 => absurd c_18 (by omega))
    refine X_aload dX1_letPass_67 rfl ?_
    refine X_getR dX1_letPass_68 rfl gf_X1_18 (sh_st hc) (by omega) rfl (rf_st0 hc) ?_
    refine X_bipush dX1_letPass_71 (by decide) ?_
    refine X_iloadW dX1_letPass_73 rfl ?_
    refine Y_vS dX1_letPass_75 cs_X1_41 (t_raiseN hc hR 21 (by decide) rfl _) rfl (fun I75 h75 => ?_)
    obtain ⟨hR, hF75⟩ := h75
    refine X_iloadW dX1_letPass_78 rfl ?_
    refine X_iret dX1_letPass_80 (Or.inl rfl) ?_
    have lw := st_low hc
    have e : t = k := by omega
    subst e
    exact ⟨rfl, rfl, _, rfl, rfl, hR, hF.trans hF75.t, fun k1 hk1 q hq => by rw [hF75 82 (by omega)]; exact hY k1 hk1 q hq⟩
  | succ m ih =>
    intro k hk I1 hR hY hF
    have hG := hGG.ns (g 3) k
    have hG0 := hG
    refine X_iloadW dX1_letPass_15 rfl ?_
    refine X_iload dX1_letPass_17 rfl ?_
    refine X_icmp_ge (tgt := 67) dX1_letPass_18 (by decide) (by omega) (fun c_18 => absurd c_18 (by omega)) (fun c_18 => ?_)
    refine X_aload dX1_letPass_21 rfl ?_
    refine Y_vV dX1_letPass_22 cv_X1_27 (sh_st hc) (by omega) (t_payNight hc hR hG) rfl (fun I22 h22 => ?_)
    obtain ⟨hR, hF22⟩ := h22
    have hF := hF.trans hF22.t
    have hG := hG.py 3
    refine X_aload dX1_letPass_25 rfl ?_
    refine Y_vV dX1_letPass_26 cv_X1_30 (sh_st hc) (by omega) (t_fade hc hR hG) rfl (fun I26 h26 => ?_)
    obtain ⟨hR, hF26⟩ := h26
    have hF := hF.trans hF26.t
    have hG := hG.fd n (Nat.le_refl n)
    change RS _ c (nt1 (nsG g n (g 3) k) n) n at hR
    change GI (nt1 (nsG g n (g 3) k) n) n at hG
    refine X_aload dX1_letPass_29 rfl ?_
    refine X_aload dX1_letPass_30 rfl ?_
    refine Y_vV dX1_letPass_31 cv_X1_33 sh_80 (by decide) (t_findWho hc hR hG) rfl (fun I31 h31 => ?_)
    obtain ⟨hR, hW, hF31⟩ := h31
    have hF := hF.trans (fun q _ b d => hF31 q b d : FT _ I31 c)
    refine X_aload dX1_letPass_34 rfl ?_
    refine X_aload dX1_letPass_35 rfl ?_
    refine X_iconst dX1_letPass_36 ?_
    refine X_iload dX1_letPass_37 rfl ?_
    refine Y_iV dX1_letPass_38 cv_X1_37 sh_80 (by decide) (t_moveInTurn1 hc hR hG hW (fun q _ => wt_bounds _ q) (fun q _ => rs_bounds _ q) (g 3) (by omega)) rfl (fun z38 I38 h38 => ?_)
    obtain ⟨rfl, hR, hW, hF38⟩ := h38
    have hF := hF.trans hF38
    have hG := hG0.nD (g 3)
    change RS _ c (ntD (nsG g n (g 3) k) n (g 3)).1 n at hR
    change WR _ n _ (ntD (nsG g n (g 3) k) n (g 3)).2.1 at hW
    have hd := tn_m (w := wt (nt1 (nsG g n (g 3) k) n)) (n := n) (most := g 3) (dn := true) 24 (nt1 (nsG g n (g 3) k) n) (rs (nt1 (nsG g n (g 3) k) n)) 0
    have hyy := tn_y (w := wt (nt1 (nsG g n (g 3) k) n)) (n := n) (most := g 3) (dn := true) 24 (nt1 (nsG g n (g 3) k) n) (rs (nt1 (nsG g n (g 3) k) n)) 0 (fun q _ => rs_bounds _ q)
    change 0 ≤ (ntD (nsG g n (g 3) k) n (g 3)).2.2 ∧ (ntD (nsG g n (g 3) k) n (g 3)).2.2 ≤ 0 + ((24 : Nat) : Int) ∧ _ at hd
    refine X_istoreW dX1_letPass_41 (by decide) ?_
    dsimp only [List.set]
    refine X_iloadW dX1_letPass_43 rfl ?_
    refine X_iloadW dX1_letPass_45 rfl ?_
    refine X_aload dX1_letPass_47 rfl ?_
    refine X_aload dX1_letPass_48 rfl ?_
    refine X_iconst dX1_letPass_49 ?_
    refine X_iload dX1_letPass_50 rfl ?_
    refine X_iloadW dX1_letPass_51 rfl ?_
    refine X_isub dX1_letPass_53 ?_
    refine Y_iV dX1_letPass_54 cv_X1_37 sh_80 (by decide) (t_moveInTurn0 hc hR hG hW (fun q _ => wt_bounds _ q) hyy (g 3 - (ntD (nsG g n (g 3) k) n (g 3)).2.2) (by omega)) rfl (fun z54 I54 h54 => ?_)
    obtain ⟨rfl, hR, hW, hF54⟩ := h54
    have hF := hF.trans hF54
    refine X_iadd dX1_letPass_57 ?_
    refine X_iadd dX1_letPass_58 ?_
    refine X_istoreW dX1_letPass_59 (by decide) ?_
    dsimp only [List.set]
    refine X_iinc dX1_letPass_61 rfl ?_
    dsimp only [List.set]
    refine X_goto (tgt := 15) dX1_letPass_64 (by decide) ?_
    refine X_drop 6 ?_
    dsimp only [List.set]
    exact ih (k + 1) (by omega) _ hR (fun k1 e => by cases e; exact fun q hq => (hW q hq).2) hF
set_option maxRecDepth 20000 in
set_option maxHeartbeats 4000000 in
theorem t_letPass {I : xI} {c : Nat} {g : Nat → Int} {n : Nat} (hc : x_st c) (hR : RS I c g n) (hG : GI g n) (t : Nat) (ht : t ≤ 100) : S kX1_letPass 4 [rr 80, rr c, ii (t : Int)] I (q_i (fun z I2 => z = nsM g n (g 3) t ∧ RS I2 c (npG g n t) n ∧ FT I I2 c ∧ (∀ k, t = k + 1 → ∀ q, q < n → I2 82 q = (ntU (nsG g n (g 3) k) n (g 3)).2.1 q))) := by
  have lc := st_lt hc
  have lw := st_low hc
  have hn24 := hG.n24
  refine Sp_intro (by decide +kernel) (Nat.le_of_ble_eq_true rfl) ?_
  show Y kX1_letPass 4 0 [some (rr 80), some (rr c), some (ii (t : Int)), none, none, none, none] [] I _
  refine X_aload dX1_letPass_0 rfl ?_
  refine X_getR dX1_letPass_1 rfl gf_X1_18 (sh_st hc) (by omega) rfl (rf_st0 hc) ?_
  refine X_iconst dX1_letPass_4 ?_
  refine Y_pS dX1_letPass_5 cs_X1_23 (t_num hc hR 3 (by decide) rfl) rfl ?_
  refine X_istore dX1_letPass_8 (by decide) ?_
  dsimp only [List.set]
  refine X_iconst dX1_letPass_9 ?_
  refine X_istoreW dX1_letPass_10 (by decide) ?_
  dsimp only [List.set]
  refine X_iconst dX1_letPass_12 ?_
  refine X_istoreW dX1_letPass_13 (by decide) ?_
  dsimp only [List.set]
  exact t_letPass_loop hc hG t ht t 0 (by omega) I hR (fun k1 e => by omega) FT.rf
