/-! Night: its methods -/
theorem WR.add {I : xI} {k : Nat} {w y : Nat → Int} (h : WR I k w y) {a b : Int} (ha : a = w k) (hb : b = y k) : WR (x_up (x_up I 81 k a) 82 k b) (k + 1) w y := by
  intro q hq
  by_cases e : q = k
  · subst e
    rw [x_up_off (by decide), x_up_same, x_up_same]; exact ⟨ha, hb⟩
  · rw [x_up_off (by decide), x_up_offj e, x_up_offj e, x_up_off (by decide)]
    exact h q (by omega)
def FN (I I1 : xI) : Prop := ∀ q, q ≠ 81 → q ≠ 82 → I1 q = I q
set_option maxRecDepth 20000 in
set_option maxHeartbeats 4000000 in
theorem t_findWho_loop {I : xI} {c : Nat} {g : Nat → Int} {n : Nat} (hc : x_st c) (hG : GI g n) : ∀ (m k : Nat), k + m = n → ∀ (I1 : xI), RS I1 c g n → WR I1 k (wt g) (rs g) → FN I I1 → Y kX1_findWhoMayMove 2 7 [some (rr 80), some (rr c), some (ii (n : Int)), some (ii (k : Int)), none] [] I1 (q_v (fun I2 => RS I2 c g n ∧ WR I2 n (wt g) (rs g) ∧ FN I I2)) := by
  have lc := st_lt hc
  have lw := st_low hc
  have hn24 := hG.n24
  intro m
  induction m with
  | zero =>
    intro k hk I1 hR hW hF
    refine X_iload dX1_findWhoMayMove_7 rfl ?_
    refine X_iload dX1_findWhoMayMove_8 rfl ?_
    refine X_icmp_ge (tgt := 100) dX1_findWhoMayMove_9 (by decide) (by omega) (fun c_9 => ?_) (fun c_9 => absurd c_9 (by omega))
    refine X_vret dX1_findWhoMayMove_100 rfl ?_
    rw [show n = k by omega]
    exact ⟨rfl, rfl, rfl, by rw [← show n = k by omega]; exact hR, hW, hF⟩
  | succ m ih =>
    intro k hk I1 hR hW hF
    refine X_iload dX1_findWhoMayMove_7 rfl ?_
    refine X_iload dX1_findWhoMayMove_8 rfl ?_
    refine X_icmp_ge (tgt := 100) dX1_findWhoMayMove_9 (by decide) (by omega) (fun c_9 => absurd c_9 (by omega)) (fun c_9 => ?_)
    refine X_iconst dX1_findWhoMayMove_12 ?_
    refine X_istoreW dX1_findWhoMayMove_13 (by decide) ?_
    dsimp only [List.set]
    refine X_aload dX1_findWhoMayMove_15 rfl ?_
    refine X_getR dX1_findWhoMayMove_16 rfl gf_X1_9 sh_80 (by decide) rfl rf_80_0 ?_
    refine X_iload dX1_findWhoMayMove_19 rfl ?_
    refine X_aload dX1_findWhoMayMove_20 rfl ?_
    refine X_iload dX1_findWhoMayMove_21 rfl ?_
    refine Y_pV dX1_findWhoMayMove_22 cv_X1_49 (sh_st hc) (by omega) (t_wantedShelf hc hR hG k (by omega) rfl) rfl ?_
    refine Y_vS dX1_findWhoMayMove_25 cs_X1_53 (t_putk sh_81 (by decide) _ k (by omega) rfl _) rfl (fun I25 e25 => ?_)
    subst e25
    have hR := hR.up81 (q := 81) (j := k) (z := wt g k) hc (Or.inl rfl)
    refine X_aload dX1_findWhoMayMove_28 rfl ?_
    refine X_getR dX1_findWhoMayMove_29 rfl gf_X1_56 (sh_st hc) (by omega) rfl (rf_st6 hc) ?_
    refine X_iload dX1_findWhoMayMove_32 rfl ?_
    refine Y_pS dX1_findWhoMayMove_33 cs_X1_23 (t_blk4 hc hR hn24 k (by omega) rfl) rfl ?_
    have hb4 := (hG.b (k := k) (by omega)).2.2.2.2
    have hb3 := (hG.b (k := k) (by omega)).2.2.2.1
    have hw := wt_bounds g k
    refine X_if_eq (tgt := 45) dX1_findWhoMayMove_36 (by decide) (by omega) (fun c_36 => ?_) (fun c_36 => ?_)
    · refine X_aload dX1_findWhoMayMove_45 rfl ?_
      refine X_getR dX1_findWhoMayMove_46 rfl gf_X1_59 (sh_st hc) (by omega) rfl (rf_st7 hc) ?_
      refine X_iload dX1_findWhoMayMove_49 rfl ?_
      refine Y_pS dX1_findWhoMayMove_50 cs_X1_23 (t_blk5 hc hR hn24 k (by omega) rfl) rfl ?_
      refine X_if_le (tgt := 62) dX1_findWhoMayMove_53 (by decide) (by omega) (fun c_53 => ?_) (fun c_53 => ?_)
      · refine X_aload dX1_findWhoMayMove_62 rfl ?_
        refine X_getR dX1_findWhoMayMove_63 rfl gf_X1_9 sh_80 (by decide) rfl rf_80_0 ?_
        refine X_iload dX1_findWhoMayMove_66 rfl ?_
        refine Y_pS dX1_findWhoMayMove_67 cs_X1_23 (t_atk sh_81 (Or.inl (by decide)) _ k (by omega) rfl) rfl ?_
        rw [x_up_same]
        refine X_aload dX1_findWhoMayMove_70 rfl ?_
        refine X_getR dX1_findWhoMayMove_71 rfl gf_X1_62 (sh_st hc) (by omega) rfl (rf_st5 hc) ?_
        refine X_iload dX1_findWhoMayMove_74 rfl ?_
        refine Y_pS dX1_findWhoMayMove_75 cs_X1_23 (t_blk3 hc hR hn24 k (by omega) rfl) rfl ?_
        refine X_icmp_ne (tgt := 84) dX1_findWhoMayMove_78 (by decide) (by omega) (fun c_78 => ?_) (fun c_78 => ?_)
        · have er : rs g k = 4 := by
            unfold rs
            first
              | rw [if_neg (by omega)]
              | rw [if_pos (by omega), if_neg (by omega)]
              | rw [if_pos (by omega), if_pos (by omega), if_pos (by omega)]
              | rw [if_pos (by omega), if_pos (by omega), if_neg (by omega)]
          refine X_aload dX1_findWhoMayMove_84 rfl ?_
          refine X_getR dX1_findWhoMayMove_85 rfl gf_X1_15 sh_80 (by decide) rfl rf_80_1 ?_
          refine X_iload dX1_findWhoMayMove_88 rfl ?_
          refine X_iloadW dX1_findWhoMayMove_89 rfl ?_
          refine Y_vS dX1_findWhoMayMove_91 cs_X1_53 (t_putk sh_82 (by decide) _ k (by omega) rfl _) rfl (fun I91 e91 => ?_)
          subst e91
          have hR := hR.up81 (q := 82) (j := k) (z := 4) hc (Or.inr rfl)
          refine X_iinc dX1_findWhoMayMove_94 rfl ?_
          dsimp only [List.set]
          refine X_goto (tgt := 7) dX1_findWhoMayMove_97 (by decide) ?_
          refine X_drop 4 ?_
          dsimp only [List.set]
          exact ih (k + 1) (by omega) _ hR (hW.add rfl er.symm) (fun q a b => by rw [x_up_ne b, x_up_ne a]; exact hF q a b)
        · refine X_iconst dX1_findWhoMayMove_81 ?_
          refine X_istoreW dX1_findWhoMayMove_82 (by decide) ?_
          dsimp only [List.set]
          have er : rs g k = 3 := by
            unfold rs
            first
              | rw [if_neg (by omega)]
              | rw [if_pos (by omega), if_neg (by omega)]
              | rw [if_pos (by omega), if_pos (by omega), if_pos (by omega)]
              | rw [if_pos (by omega), if_pos (by omega), if_neg (by omega)]
          refine X_aload dX1_findWhoMayMove_84 rfl ?_
          refine X_getR dX1_findWhoMayMove_85 rfl gf_X1_15 sh_80 (by decide) rfl rf_80_1 ?_
          refine X_iload dX1_findWhoMayMove_88 rfl ?_
          refine X_iloadW dX1_findWhoMayMove_89 rfl ?_
          refine Y_vS dX1_findWhoMayMove_91 cs_X1_53 (t_putk sh_82 (by decide) _ k (by omega) rfl _) rfl (fun I91 e91 => ?_)
          subst e91
          have hR := hR.up81 (q := 82) (j := k) (z := 3) hc (Or.inr rfl)
          refine X_iinc dX1_findWhoMayMove_94 rfl ?_
          dsimp only [List.set]
          refine X_goto (tgt := 7) dX1_findWhoMayMove_97 (by decide) ?_
          refine X_drop 4 ?_
          dsimp only [List.set]
          exact ih (k + 1) (by omega) _ hR (hW.add rfl er.symm) (fun q a b => by rw [x_up_ne b, x_up_ne a]; exact hF q a b)
      · refine X_iconst dX1_findWhoMayMove_56 ?_
        refine X_istoreW dX1_findWhoMayMove_57 (by decide) ?_
        dsimp only [List.set]
        refine X_goto (tgt := 84) dX1_findWhoMayMove_59 (by decide) ?_
        have er : rs g k = 2 := by
          unfold rs
          first
            | rw [if_neg (by omega)]
            | rw [if_pos (by omega), if_neg (by omega)]
            | rw [if_pos (by omega), if_pos (by omega), if_pos (by omega)]
            | rw [if_pos (by omega), if_pos (by omega), if_neg (by omega)]
        refine X_aload dX1_findWhoMayMove_84 rfl ?_
        refine X_getR dX1_findWhoMayMove_85 rfl gf_X1_15 sh_80 (by decide) rfl rf_80_1 ?_
        refine X_iload dX1_findWhoMayMove_88 rfl ?_
        refine X_iloadW dX1_findWhoMayMove_89 rfl ?_
        refine Y_vS dX1_findWhoMayMove_91 cs_X1_53 (t_putk sh_82 (by decide) _ k (by omega) rfl _) rfl (fun I91 e91 => ?_)
        subst e91
        have hR := hR.up81 (q := 82) (j := k) (z := 2) hc (Or.inr rfl)
        refine X_iinc dX1_findWhoMayMove_94 rfl ?_
        dsimp only [List.set]
        refine X_goto (tgt := 7) dX1_findWhoMayMove_97 (by decide) ?_
        refine X_drop 4 ?_
        dsimp only [List.set]
        exact ih (k + 1) (by omega) _ hR (hW.add rfl er.symm) (fun q a b => by rw [x_up_ne b, x_up_ne a]; exact hF q a b)
    · refine X_iconst dX1_findWhoMayMove_39 ?_
      refine X_istoreW dX1_findWhoMayMove_40 (by decide) ?_
      dsimp only [List.set]
      refine X_goto (tgt := 84) dX1_findWhoMayMove_42 (by decide) ?_
      have er : rs g k = 1 := by
        unfold rs
        first
          | rw [if_neg (by omega)]
          | rw [if_pos (by omega), if_neg (by omega)]
          | rw [if_pos (by omega), if_pos (by omega), if_pos (by omega)]
          | rw [if_pos (by omega), if_pos (by omega), if_neg (by omega)]
      refine X_aload dX1_findWhoMayMove_84 rfl ?_
      refine X_getR dX1_findWhoMayMove_85 rfl gf_X1_15 sh_80 (by decide) rfl rf_80_1 ?_
      refine X_iload dX1_findWhoMayMove_88 rfl ?_
      refine X_iloadW dX1_findWhoMayMove_89 rfl ?_
      refine Y_vS dX1_findWhoMayMove_91 cs_X1_53 (t_putk sh_82 (by decide) _ k (by omega) rfl _) rfl (fun I91 e91 => ?_)
      subst e91
      have hR := hR.up81 (q := 82) (j := k) (z := 1) hc (Or.inr rfl)
      refine X_iinc dX1_findWhoMayMove_94 rfl ?_
      dsimp only [List.set]
      refine X_goto (tgt := 7) dX1_findWhoMayMove_97 (by decide) ?_
      refine X_drop 4 ?_
      dsimp only [List.set]
      exact ih (k + 1) (by omega) _ hR (hW.add rfl er.symm) (fun q a b => by rw [x_up_ne b, x_up_ne a]; exact hF q a b)
set_option maxRecDepth 20000 in
set_option maxHeartbeats 4000000 in
theorem t_findWho {I : xI} {c : Nat} {g : Nat → Int} {n : Nat} (hc : x_st c) (hR : RS I c g n) (hG : GI g n) : S kX1_findWhoMayMove 2 [rr 80, rr c] I (q_v (fun I2 => RS I2 c g n ∧ WR I2 n (wt g) (rs g) ∧ FN I I2)) := by
  have lc := st_lt hc
  have lw := st_low hc
  have hn24 := hG.n24
  refine Sp_intro (by decide +kernel) (Nat.le_of_ble_eq_true rfl) ?_
  show Y kX1_findWhoMayMove 2 0 [some (rr 80), some (rr c), none, none, none] [] I _
  refine X_aload dX1_findWhoMayMove_0 rfl ?_
  refine Y_pV dX1_findWhoMayMove_1 cv_X1_45 (sh_st hc) (by omega) (t_countBlocks hc hR hG) rfl ?_
  refine X_istore dX1_findWhoMayMove_4 (by decide) ?_
  dsimp only [List.set]
  refine X_iconst dX1_findWhoMayMove_5 ?_
  refine X_istore dX1_findWhoMayMove_6 (by decide) ?_
  dsimp only [List.set]
  exact t_findWho_loop hc hG n 0 (by omega) I hR (fun k hk => absurd hk (Nat.not_lt_zero k)) (fun _ _ _ => rfl)
def lst (g : Nat → Int) (dn : Bool) (r : Option Nat) : Int := match r with
  | none => 0
  | some q => if dn = true then gb g q 2 else -(gb g q 2)
set_option maxRecDepth 20000 in
set_option maxHeartbeats 4000000 in
theorem t_nextInTurn1_loop {I : xI} {c : Nat} {g : Nat → Int} {n : Nat} (hc : x_st c) (hR : RS I c g n) (hG : GI g n) {w y : Nat → Int} (hW : WR I n w y) (hw : ∀ k, k < n → 0 ≤ w k ∧ w k ≤ 2) (hy : ∀ k, k < n → 0 ≤ y k ∧ y k ≤ 5) : ∀ (m k : Nat), k + m = n → Y kX1_nextInTurn 2 19 [some (rr 80), some (rr c), some (ii 1), some (ii (n : Int)), some (ii (oi (nxF w g y true k) (-1))), some (ii (lst g true (nxF w g y true k))), some (ii (k : Int)), none, none] [] I (q_p (ii (oi (nxF w g y true n) (-1))) I) := by
  have lc := st_lt hc
  have lw := st_low hc
  have hn24 := hG.n24
  intro m
  induction m with
  | zero =>
    intro k hk
    refine X_iloadW dX1_nextInTurn_19 rfl ?_
    refine X_iload dX1_nextInTurn_21 rfl ?_
    refine X_icmp_ge (tgt := 127) dX1_nextInTurn_22 (by decide) (by omega) (fun c_22 => ?_) (fun c_22 => absurd c_22 (by omega))
    refine X_iloadW dX1_nextInTurn_127 rfl ?_
    refine X_iret dX1_nextInTurn_129 (Or.inl rfl) ?_
    exact ⟨by rw [show n = k by omega], rfl, rfl, rfl⟩
  | succ m ih =>
    intro k hk
    rcases hr : nxF w g y true k with _ | q
    · change Y _ _ _ [some (rr 80), some (rr c), some (ii 1), some (ii (n : Int)), some (ii (-1)), some (ii 0), some (ii (k : Int)), none, none] _ _ _
      refine X_iloadW dX1_nextInTurn_19 rfl ?_
      refine X_iload dX1_nextInTurn_21 rfl ?_
      refine X_icmp_ge (tgt := 127) dX1_nextInTurn_22 (by decide) (by omega) (fun c_22 => absurd c_22 (by omega)) (fun c_22 => ?_)
      refine X_aload dX1_nextInTurn_25 rfl ?_
      refine X_getR dX1_nextInTurn_26 rfl gf_X1_9 sh_80 (by decide) rfl rf_80_0 ?_
      refine X_iloadW dX1_nextInTurn_29 rfl ?_
      refine Y_pS dX1_nextInTurn_31 cs_X1_23 (t_atk sh_81 (Or.inl (by decide)) _ k (by omega) rfl) rfl ?_
      rw [(hW k (by omega)).1]
      refine X_aload dX1_nextInTurn_34 rfl ?_
      refine X_getR dX1_nextInTurn_35 rfl gf_X1_62 (sh_st hc) (by omega) rfl (rf_st5 hc) ?_
      refine X_iloadW dX1_nextInTurn_38 rfl ?_
      refine Y_pS dX1_nextInTurn_40 cs_X1_23 (t_blk3 hc hR hn24 k (by omega) rfl) rfl ?_
      have hb3 := (hG.b (k := k) (by omega)).2.2.2.1
      have hb2 := (hG.b (k := k) (by omega)).2.2.1
      have hwk := hw k (by omega)
      have hyk := hy k (by omega)
      refine X_icmp_le (tgt := 50) dX1_nextInTurn_43 (by decide) (by omega) (fun c_43 => ?_) (fun c_43 => ?_)
      · refine X_iconst dX1_nextInTurn_50 ?_
        refine X_istoreW dX1_nextInTurn_51 (by decide) ?_
        dsimp only [List.set]
        refine X_aload dX1_nextInTurn_53 rfl ?_
        refine X_getR dX1_nextInTurn_54 rfl gf_X1_15 sh_80 (by decide) rfl rf_80_1 ?_
        refine X_iloadW dX1_nextInTurn_57 rfl ?_
        refine Y_pS dX1_nextInTurn_59 cs_X1_23 (t_atk sh_82 (Or.inl (by decide)) _ k (by omega) rfl) rfl ?_
        rw [(hW k (by omega)).2]
        refine X_iconst dX1_nextInTurn_62 ?_
        refine X_icmp_ne (tgt := 121) dX1_nextInTurn_63 (by decide) (by omega) (fun c_63 => ?_) (fun c_63 => ?_)
        · refine X_drop 7 ?_
          dsimp only [List.set]
          refine X_drop 8 ?_
          dsimp only [List.set]
          refine X_iinc dX1_nextInTurn_121 rfl ?_
          dsimp only [List.set]
          refine X_goto (tgt := 19) dX1_nextInTurn_124 (by decide) ?_
          have e : nxF w g y true (k + 1) = nxF w g y true k := by
            show (if _ then _ else _) = _
            rw [if_neg (by simp only [cnd, btr, hr, Bool.and_eq_true, decide_eq_true_eq, beq_iff_eq, decide_eq_false_iff_not]; first | omega | (simp; omega))]
          rw [hr] at e
          have h9 := ih (k + 1) (by omega)
          rw [e] at h9
          exact h9
        · refine X_iloadW dX1_nextInTurn_66 rfl ?_
          refine X_iload dX1_nextInTurn_68 rfl ?_
          refine X_icmp_ne (tgt := 121) dX1_nextInTurn_69 (by decide) (by omega) (fun c_69 => ?_) (fun c_69 => ?_)
          · refine X_drop 7 ?_
            dsimp only [List.set]
            refine X_drop 8 ?_
            dsimp only [List.set]
            refine X_iinc dX1_nextInTurn_121 rfl ?_
            dsimp only [List.set]
            refine X_goto (tgt := 19) dX1_nextInTurn_124 (by decide) ?_
            have e : nxF w g y true (k + 1) = nxF w g y true k := by
              show (if _ then _ else _) = _
              rw [if_neg (by simp only [cnd, btr, hr, Bool.and_eq_true, decide_eq_true_eq, beq_iff_eq, decide_eq_false_iff_not]; first | omega | (simp; omega))]
            rw [hr] at e
            have h9 := ih (k + 1) (by omega)
            rw [e] at h9
            exact h9
          · refine X_iload dX1_nextInTurn_72 rfl ?_
            refine X_if_eq (tgt := 88) dX1_nextInTurn_73 (by decide) (by omega) (fun c_73 => absurd c_73 (by omega)) (fun c_73 => ?_)
            refine X_aload dX1_nextInTurn_76 rfl ?_
            refine X_getR dX1_nextInTurn_77 rfl gf_X1_81 (sh_st hc) (by omega) rfl (rf_st4 hc) ?_
            refine X_iloadW dX1_nextInTurn_80 rfl ?_
            refine Y_pS dX1_nextInTurn_82 cs_X1_23 (t_blk2 hc hR hn24 k (by omega) rfl) rfl ?_
            refine X_goto (tgt := 98) dX1_nextInTurn_85 (by decide) ?_
            refine X_istoreW dX1_nextInTurn_98 (by decide) ?_
            dsimp only [List.set]
            refine X_iloadW dX1_nextInTurn_100 rfl ?_
            refine X_iconst dX1_nextInTurn_102 ?_
            refine X_icmp_eq (tgt := 113) dX1_nextInTurn_103 (by decide) (by omega) (fun c_103 => ?_) (fun c_103 => absurd c_103 (by omega))
            refine X_iloadW dX1_nextInTurn_113 rfl ?_
            refine X_istoreW dX1_nextInTurn_115 (by decide) ?_
            dsimp only [List.set]
            refine X_iloadW dX1_nextInTurn_117 rfl ?_
            refine X_istoreW dX1_nextInTurn_119 (by decide) ?_
            dsimp only [List.set]
            refine X_drop 7 ?_
            dsimp only [List.set]
            refine X_drop 8 ?_
            dsimp only [List.set]
            refine X_iinc dX1_nextInTurn_121 rfl ?_
            dsimp only [List.set]
            refine X_goto (tgt := 19) dX1_nextInTurn_124 (by decide) ?_
            have e : nxF w g y true (k + 1) = some k := by
              show (if _ then _ else _) = _
              rw [if_pos (by simp only [cnd, btr, hr, Bool.and_eq_true, decide_eq_true_eq, beq_iff_eq, decide_eq_false_iff_not]; first | omega | exact ⟨⟨by omega, by omega⟩, rfl⟩ | (simp; omega))]
            have h9 := ih (k + 1) (by omega)
            rw [e] at h9
            exact h9
      · refine X_iconst dX1_nextInTurn_46 ?_
        refine X_goto (tgt := 51) dX1_nextInTurn_47 (by decide) ?_
        refine X_istoreW dX1_nextInTurn_51 (by decide) ?_
        dsimp only [List.set]
        refine X_aload dX1_nextInTurn_53 rfl ?_
        refine X_getR dX1_nextInTurn_54 rfl gf_X1_15 sh_80 (by decide) rfl rf_80_1 ?_
        refine X_iloadW dX1_nextInTurn_57 rfl ?_
        refine Y_pS dX1_nextInTurn_59 cs_X1_23 (t_atk sh_82 (Or.inl (by decide)) _ k (by omega) rfl) rfl ?_
        rw [(hW k (by omega)).2]
        refine X_iconst dX1_nextInTurn_62 ?_
        refine X_icmp_ne (tgt := 121) dX1_nextInTurn_63 (by decide) (by omega) (fun c_63 => ?_) (fun c_63 => ?_)
        · refine X_drop 7 ?_
          dsimp only [List.set]
          refine X_drop 8 ?_
          dsimp only [List.set]
          refine X_iinc dX1_nextInTurn_121 rfl ?_
          dsimp only [List.set]
          refine X_goto (tgt := 19) dX1_nextInTurn_124 (by decide) ?_
          have e : nxF w g y true (k + 1) = nxF w g y true k := by
            show (if _ then _ else _) = _
            rw [if_neg (by simp only [cnd, btr, hr, Bool.and_eq_true, decide_eq_true_eq, beq_iff_eq, decide_eq_false_iff_not]; first | omega | (simp; omega))]
          rw [hr] at e
          have h9 := ih (k + 1) (by omega)
          rw [e] at h9
          exact h9
        · refine X_iloadW dX1_nextInTurn_66 rfl ?_
          refine X_iload dX1_nextInTurn_68 rfl ?_
          refine X_icmp_ne (tgt := 121) dX1_nextInTurn_69 (by decide) (by omega) (fun c_69 => ?_) (fun c_69 => ?_)
          · refine X_drop 7 ?_
            dsimp only [List.set]
            refine X_drop 8 ?_
            dsimp only [List.set]
            refine X_iinc dX1_nextInTurn_121 rfl ?_
            dsimp only [List.set]
            refine X_goto (tgt := 19) dX1_nextInTurn_124 (by decide) ?_
            have e : nxF w g y true (k + 1) = nxF w g y true k := by
              show (if _ then _ else _) = _
              rw [if_neg (by simp only [cnd, btr, hr, Bool.and_eq_true, decide_eq_true_eq, beq_iff_eq, decide_eq_false_iff_not]; first | omega | (simp; omega))]
            rw [hr] at e
            have h9 := ih (k + 1) (by omega)
            rw [e] at h9
            exact h9
          · refine X_iload dX1_nextInTurn_72 rfl ?_
            refine X_if_eq (tgt := 88) dX1_nextInTurn_73 (by decide) (by omega) (fun c_73 => absurd c_73 (by omega)) (fun c_73 => ?_)
            refine X_aload dX1_nextInTurn_76 rfl ?_
            refine X_getR dX1_nextInTurn_77 rfl gf_X1_81 (sh_st hc) (by omega) rfl (rf_st4 hc) ?_
            refine X_iloadW dX1_nextInTurn_80 rfl ?_
            refine Y_pS dX1_nextInTurn_82 cs_X1_23 (t_blk2 hc hR hn24 k (by omega) rfl) rfl ?_
            refine X_goto (tgt := 98) dX1_nextInTurn_85 (by decide) ?_
            refine X_istoreW dX1_nextInTurn_98 (by decide) ?_
            dsimp only [List.set]
            refine X_iloadW dX1_nextInTurn_100 rfl ?_
            refine X_iconst dX1_nextInTurn_102 ?_
            refine X_icmp_eq (tgt := 113) dX1_nextInTurn_103 (by decide) (by omega) (fun c_103 => ?_) (fun c_103 => absurd c_103 (by omega))
            refine X_iloadW dX1_nextInTurn_113 rfl ?_
            refine X_istoreW dX1_nextInTurn_115 (by decide) ?_
            dsimp only [List.set]
            refine X_iloadW dX1_nextInTurn_117 rfl ?_
            refine X_istoreW dX1_nextInTurn_119 (by decide) ?_
            dsimp only [List.set]
            refine X_drop 7 ?_
            dsimp only [List.set]
            refine X_drop 8 ?_
            dsimp only [List.set]
            refine X_iinc dX1_nextInTurn_121 rfl ?_
            dsimp only [List.set]
            refine X_goto (tgt := 19) dX1_nextInTurn_124 (by decide) ?_
            have e : nxF w g y true (k + 1) = some k := by
              show (if _ then _ else _) = _
              rw [if_pos (by simp only [cnd, btr, hr, Bool.and_eq_true, decide_eq_true_eq, beq_iff_eq, decide_eq_false_iff_not]; first | omega | exact ⟨⟨by omega, by omega⟩, rfl⟩ | (simp; omega))]
            have h9 := ih (k + 1) (by omega)
            rw [e] at h9
            exact h9
    · have hq : q < n := by have := (nxF_lt hr).1; omega
      change Y _ _ _ [some (rr 80), some (rr c), some (ii 1), some (ii (n : Int)), some (ii ((q : Nat) : Int)), some (ii (gb g q 2)), some (ii (k : Int)), none, none] _ _ _
      refine X_iloadW dX1_nextInTurn_19 rfl ?_
      refine X_iload dX1_nextInTurn_21 rfl ?_
      refine X_icmp_ge (tgt := 127) dX1_nextInTurn_22 (by decide) (by omega) (fun c_22 => absurd c_22 (by omega)) (fun c_22 => ?_)
      refine X_aload dX1_nextInTurn_25 rfl ?_
      refine X_getR dX1_nextInTurn_26 rfl gf_X1_9 sh_80 (by decide) rfl rf_80_0 ?_
      refine X_iloadW dX1_nextInTurn_29 rfl ?_
      refine Y_pS dX1_nextInTurn_31 cs_X1_23 (t_atk sh_81 (Or.inl (by decide)) _ k (by omega) rfl) rfl ?_
      rw [(hW k (by omega)).1]
      refine X_aload dX1_nextInTurn_34 rfl ?_
      refine X_getR dX1_nextInTurn_35 rfl gf_X1_62 (sh_st hc) (by omega) rfl (rf_st5 hc) ?_
      refine X_iloadW dX1_nextInTurn_38 rfl ?_
      refine Y_pS dX1_nextInTurn_40 cs_X1_23 (t_blk3 hc hR hn24 k (by omega) rfl) rfl ?_
      have hb3 := (hG.b (k := k) (by omega)).2.2.2.1
      have hb2 := (hG.b (k := k) (by omega)).2.2.1
      have hwk := hw k (by omega)
      have hyk := hy k (by omega)
      refine X_icmp_le (tgt := 50) dX1_nextInTurn_43 (by decide) (by omega) (fun c_43 => ?_) (fun c_43 => ?_)
      · refine X_iconst dX1_nextInTurn_50 ?_
        refine X_istoreW dX1_nextInTurn_51 (by decide) ?_
        dsimp only [List.set]
        refine X_aload dX1_nextInTurn_53 rfl ?_
        refine X_getR dX1_nextInTurn_54 rfl gf_X1_15 sh_80 (by decide) rfl rf_80_1 ?_
        refine X_iloadW dX1_nextInTurn_57 rfl ?_
        refine Y_pS dX1_nextInTurn_59 cs_X1_23 (t_atk sh_82 (Or.inl (by decide)) _ k (by omega) rfl) rfl ?_
        rw [(hW k (by omega)).2]
        refine X_iconst dX1_nextInTurn_62 ?_
        refine X_icmp_ne (tgt := 121) dX1_nextInTurn_63 (by decide) (by omega) (fun c_63 => ?_) (fun c_63 => ?_)
        · refine X_drop 7 ?_
          dsimp only [List.set]
          refine X_drop 8 ?_
          dsimp only [List.set]
          refine X_iinc dX1_nextInTurn_121 rfl ?_
          dsimp only [List.set]
          refine X_goto (tgt := 19) dX1_nextInTurn_124 (by decide) ?_
          have e : nxF w g y true (k + 1) = nxF w g y true k := by
            show (if _ then _ else _) = _
            rw [if_neg (by simp only [cnd, btr, hr, Bool.and_eq_true, decide_eq_true_eq, beq_iff_eq, decide_eq_false_iff_not]; first | omega | (simp; omega))]
          rw [hr] at e
          have h9 := ih (k + 1) (by omega)
          rw [e] at h9
          exact h9
        · refine X_iloadW dX1_nextInTurn_66 rfl ?_
          refine X_iload dX1_nextInTurn_68 rfl ?_
          refine X_icmp_ne (tgt := 121) dX1_nextInTurn_69 (by decide) (by omega) (fun c_69 => ?_) (fun c_69 => ?_)
          · refine X_drop 7 ?_
            dsimp only [List.set]
            refine X_drop 8 ?_
            dsimp only [List.set]
            refine X_iinc dX1_nextInTurn_121 rfl ?_
            dsimp only [List.set]
            refine X_goto (tgt := 19) dX1_nextInTurn_124 (by decide) ?_
            have e : nxF w g y true (k + 1) = nxF w g y true k := by
              show (if _ then _ else _) = _
              rw [if_neg (by simp only [cnd, btr, hr, Bool.and_eq_true, decide_eq_true_eq, beq_iff_eq, decide_eq_false_iff_not]; first | omega | (simp; omega))]
            rw [hr] at e
            have h9 := ih (k + 1) (by omega)
            rw [e] at h9
            exact h9
          · refine X_iload dX1_nextInTurn_72 rfl ?_
            refine X_if_eq (tgt := 88) dX1_nextInTurn_73 (by decide) (by omega) (fun c_73 => absurd c_73 (by omega)) (fun c_73 => ?_)
            refine X_aload dX1_nextInTurn_76 rfl ?_
            refine X_getR dX1_nextInTurn_77 rfl gf_X1_81 (sh_st hc) (by omega) rfl (rf_st4 hc) ?_
            refine X_iloadW dX1_nextInTurn_80 rfl ?_
            refine Y_pS dX1_nextInTurn_82 cs_X1_23 (t_blk2 hc hR hn24 k (by omega) rfl) rfl ?_
            refine X_goto (tgt := 98) dX1_nextInTurn_85 (by decide) ?_
            refine X_istoreW dX1_nextInTurn_98 (by decide) ?_
            dsimp only [List.set]
            refine X_iloadW dX1_nextInTurn_100 rfl ?_
            refine X_iconst dX1_nextInTurn_102 ?_
            refine X_icmp_eq (tgt := 113) dX1_nextInTurn_103 (by decide) (by omega) (fun c_103 => absurd c_103 (by omega)) (fun c_103 => ?_)
            refine X_iloadW dX1_nextInTurn_106 rfl ?_
            refine X_iloadW dX1_nextInTurn_108 rfl ?_
            have hq2 := (hG.b (k := q) hq).2.2.1
            refine X_icmp_ge (tgt := 121) dX1_nextInTurn_110 (by decide) (by omega) (fun c_110 => ?_) (fun c_110 => ?_)
            · refine X_drop 7 ?_
              dsimp only [List.set]
              refine X_drop 8 ?_
              dsimp only [List.set]
              refine X_iinc dX1_nextInTurn_121 rfl ?_
              dsimp only [List.set]
              refine X_goto (tgt := 19) dX1_nextInTurn_124 (by decide) ?_
              have e : nxF w g y true (k + 1) = nxF w g y true k := by
                show (if _ then _ else _) = _
                rw [if_neg (by simp only [cnd, btr, hr, Bool.and_eq_true, decide_eq_true_eq, beq_iff_eq, decide_eq_false_iff_not]; first | omega | (simp; omega))]
              rw [hr] at e
              have h9 := ih (k + 1) (by omega)
              rw [e] at h9
              exact h9
            · refine X_iloadW dX1_nextInTurn_113 rfl ?_
              refine X_istoreW dX1_nextInTurn_115 (by decide) ?_
              dsimp only [List.set]
              refine X_iloadW dX1_nextInTurn_117 rfl ?_
              refine X_istoreW dX1_nextInTurn_119 (by decide) ?_
              dsimp only [List.set]
              refine X_drop 7 ?_
              dsimp only [List.set]
              refine X_drop 8 ?_
              dsimp only [List.set]
              refine X_iinc dX1_nextInTurn_121 rfl ?_
              dsimp only [List.set]
              refine X_goto (tgt := 19) dX1_nextInTurn_124 (by decide) ?_
              have e : nxF w g y true (k + 1) = some k := by
                show (if _ then _ else _) = _
                rw [if_pos (by simp only [cnd, btr, hr, Bool.and_eq_true, decide_eq_true_eq, beq_iff_eq, decide_eq_false_iff_not]; first | omega | exact ⟨⟨by omega, by omega⟩, rfl⟩ | (simp; omega))]
              have h9 := ih (k + 1) (by omega)
              rw [e] at h9
              exact h9
      · refine X_iconst dX1_nextInTurn_46 ?_
        refine X_goto (tgt := 51) dX1_nextInTurn_47 (by decide) ?_
        refine X_istoreW dX1_nextInTurn_51 (by decide) ?_
        dsimp only [List.set]
        refine X_aload dX1_nextInTurn_53 rfl ?_
        refine X_getR dX1_nextInTurn_54 rfl gf_X1_15 sh_80 (by decide) rfl rf_80_1 ?_
        refine X_iloadW dX1_nextInTurn_57 rfl ?_
        refine Y_pS dX1_nextInTurn_59 cs_X1_23 (t_atk sh_82 (Or.inl (by decide)) _ k (by omega) rfl) rfl ?_
        rw [(hW k (by omega)).2]
        refine X_iconst dX1_nextInTurn_62 ?_
        refine X_icmp_ne (tgt := 121) dX1_nextInTurn_63 (by decide) (by omega) (fun c_63 => ?_) (fun c_63 => ?_)
        · refine X_drop 7 ?_
          dsimp only [List.set]
          refine X_drop 8 ?_
          dsimp only [List.set]
          refine X_iinc dX1_nextInTurn_121 rfl ?_
          dsimp only [List.set]
          refine X_goto (tgt := 19) dX1_nextInTurn_124 (by decide) ?_
          have e : nxF w g y true (k + 1) = nxF w g y true k := by
            show (if _ then _ else _) = _
            rw [if_neg (by simp only [cnd, btr, hr, Bool.and_eq_true, decide_eq_true_eq, beq_iff_eq, decide_eq_false_iff_not]; first | omega | (simp; omega))]
          rw [hr] at e
          have h9 := ih (k + 1) (by omega)
          rw [e] at h9
          exact h9
        · refine X_iloadW dX1_nextInTurn_66 rfl ?_
          refine X_iload dX1_nextInTurn_68 rfl ?_
          refine X_icmp_ne (tgt := 121) dX1_nextInTurn_69 (by decide) (by omega) (fun c_69 => ?_) (fun c_69 => ?_)
          · refine X_drop 7 ?_
            dsimp only [List.set]
            refine X_drop 8 ?_
            dsimp only [List.set]
            refine X_iinc dX1_nextInTurn_121 rfl ?_
            dsimp only [List.set]
            refine X_goto (tgt := 19) dX1_nextInTurn_124 (by decide) ?_
            have e : nxF w g y true (k + 1) = nxF w g y true k := by
              show (if _ then _ else _) = _
              rw [if_neg (by simp only [cnd, btr, hr, Bool.and_eq_true, decide_eq_true_eq, beq_iff_eq, decide_eq_false_iff_not]; first | omega | (simp; omega))]
            rw [hr] at e
            have h9 := ih (k + 1) (by omega)
            rw [e] at h9
            exact h9
          · refine X_iload dX1_nextInTurn_72 rfl ?_
            refine X_if_eq (tgt := 88) dX1_nextInTurn_73 (by decide) (by omega) (fun c_73 => absurd c_73 (by omega)) (fun c_73 => ?_)
            refine X_aload dX1_nextInTurn_76 rfl ?_
            refine X_getR dX1_nextInTurn_77 rfl gf_X1_81 (sh_st hc) (by omega) rfl (rf_st4 hc) ?_
            refine X_iloadW dX1_nextInTurn_80 rfl ?_
            refine Y_pS dX1_nextInTurn_82 cs_X1_23 (t_blk2 hc hR hn24 k (by omega) rfl) rfl ?_
            refine X_goto (tgt := 98) dX1_nextInTurn_85 (by decide) ?_
            refine X_istoreW dX1_nextInTurn_98 (by decide) ?_
            dsimp only [List.set]
            refine X_iloadW dX1_nextInTurn_100 rfl ?_
            refine X_iconst dX1_nextInTurn_102 ?_
            refine X_icmp_eq (tgt := 113) dX1_nextInTurn_103 (by decide) (by omega) (fun c_103 => absurd c_103 (by omega)) (fun c_103 => ?_)
            refine X_iloadW dX1_nextInTurn_106 rfl ?_
            refine X_iloadW dX1_nextInTurn_108 rfl ?_
            have hq2 := (hG.b (k := q) hq).2.2.1
            refine X_icmp_ge (tgt := 121) dX1_nextInTurn_110 (by decide) (by omega) (fun c_110 => ?_) (fun c_110 => ?_)
            · refine X_drop 7 ?_
              dsimp only [List.set]
              refine X_drop 8 ?_
              dsimp only [List.set]
              refine X_iinc dX1_nextInTurn_121 rfl ?_
              dsimp only [List.set]
              refine X_goto (tgt := 19) dX1_nextInTurn_124 (by decide) ?_
              have e : nxF w g y true (k + 1) = nxF w g y true k := by
                show (if _ then _ else _) = _
                rw [if_neg (by simp only [cnd, btr, hr, Bool.and_eq_true, decide_eq_true_eq, beq_iff_eq, decide_eq_false_iff_not]; first | omega | (simp; omega))]
              rw [hr] at e
              have h9 := ih (k + 1) (by omega)
              rw [e] at h9
              exact h9
            · refine X_iloadW dX1_nextInTurn_113 rfl ?_
              refine X_istoreW dX1_nextInTurn_115 (by decide) ?_
              dsimp only [List.set]
              refine X_iloadW dX1_nextInTurn_117 rfl ?_
              refine X_istoreW dX1_nextInTurn_119 (by decide) ?_
              dsimp only [List.set]
              refine X_drop 7 ?_
              dsimp only [List.set]
              refine X_drop 8 ?_
              dsimp only [List.set]
              refine X_iinc dX1_nextInTurn_121 rfl ?_
              dsimp only [List.set]
              refine X_goto (tgt := 19) dX1_nextInTurn_124 (by decide) ?_
              have e : nxF w g y true (k + 1) = some k := by
                show (if _ then _ else _) = _
                rw [if_pos (by simp only [cnd, btr, hr, Bool.and_eq_true, decide_eq_true_eq, beq_iff_eq, decide_eq_false_iff_not]; first | omega | exact ⟨⟨by omega, by omega⟩, rfl⟩ | (simp; omega))]
              have h9 := ih (k + 1) (by omega)
              rw [e] at h9
              exact h9
set_option maxRecDepth 20000 in
set_option maxHeartbeats 4000000 in
theorem t_nextInTurn1 {I : xI} {c : Nat} {g : Nat → Int} {n : Nat} (hc : x_st c) (hR : RS I c g n) (hG : GI g n) {w y : Nat → Int} (hW : WR I n w y) (hw : ∀ k, k < n → 0 ≤ w k ∧ w k ≤ 2) (hy : ∀ k, k < n → 0 ≤ y k ∧ y k ≤ 5) : S kX1_nextInTurn 2 [rr 80, rr c, ii 1] I (q_p (ii (oi (nxF w g y true n) (-1))) I) := by
  have lc := st_lt hc
  have lw := st_low hc
  have hn24 := hG.n24
  refine Sp_intro (by decide +kernel) (Nat.le_of_ble_eq_true rfl) ?_
  show Y kX1_nextInTurn 2 0 [some (rr 80), some (rr c), some (ii 1), none, none, none, none, none, none] [] I _
  refine X_aload dX1_nextInTurn_0 rfl ?_
  refine X_getR dX1_nextInTurn_1 rfl gf_X1_18 (sh_st hc) (by omega) rfl (rf_st0 hc) ?_
  refine X_bipush dX1_nextInTurn_4 (by decide) ?_
  refine Y_pS dX1_nextInTurn_6 cs_X1_23 (t_num hc hR 15 (by decide) rfl) rfl ?_
  refine X_istore dX1_nextInTurn_9 (by decide) ?_
  dsimp only [List.set]
  refine X_iconst dX1_nextInTurn_10 ?_
  refine X_istoreW dX1_nextInTurn_11 (by decide) ?_
  dsimp only [List.set]
  refine X_iconst dX1_nextInTurn_13 ?_
  refine X_istoreW dX1_nextInTurn_14 (by decide) ?_
  dsimp only [List.set]
  refine X_iconst dX1_nextInTurn_16 ?_
  refine X_istoreW dX1_nextInTurn_17 (by decide) ?_
  dsimp only [List.set]
  rw [hG.g15]
  exact t_nextInTurn1_loop hc hR hG hW hw hy n 0 (by omega)
set_option maxRecDepth 20000 in
set_option maxHeartbeats 4000000 in
theorem t_nextInTurn0_loop {I : xI} {c : Nat} {g : Nat → Int} {n : Nat} (hc : x_st c) (hR : RS I c g n) (hG : GI g n) {w y : Nat → Int} (hW : WR I n w y) (hw : ∀ k, k < n → 0 ≤ w k ∧ w k ≤ 2) (hy : ∀ k, k < n → 0 ≤ y k ∧ y k ≤ 5) : ∀ (m k : Nat), k + m = n → Y kX1_nextInTurn 2 19 [some (rr 80), some (rr c), some (ii 0), some (ii (n : Int)), some (ii (oi (nxF w g y false k) (-1))), some (ii (lst g false (nxF w g y false k))), some (ii (k : Int)), none, none] [] I (q_p (ii (oi (nxF w g y false n) (-1))) I) := by
  have lc := st_lt hc
  have lw := st_low hc
  have hn24 := hG.n24
  intro m
  induction m with
  | zero =>
    intro k hk
    refine X_iloadW dX1_nextInTurn_19 rfl ?_
    refine X_iload dX1_nextInTurn_21 rfl ?_
    refine X_icmp_ge (tgt := 127) dX1_nextInTurn_22 (by decide) (by omega) (fun c_22 => ?_) (fun c_22 => absurd c_22 (by omega))
    refine X_iloadW dX1_nextInTurn_127 rfl ?_
    refine X_iret dX1_nextInTurn_129 (Or.inl rfl) ?_
    exact ⟨by rw [show n = k by omega], rfl, rfl, rfl⟩
  | succ m ih =>
    intro k hk
    rcases hr : nxF w g y false k with _ | q
    · change Y _ _ _ [some (rr 80), some (rr c), some (ii 0), some (ii (n : Int)), some (ii (-1)), some (ii 0), some (ii (k : Int)), none, none] _ _ _
      refine X_iloadW dX1_nextInTurn_19 rfl ?_
      refine X_iload dX1_nextInTurn_21 rfl ?_
      refine X_icmp_ge (tgt := 127) dX1_nextInTurn_22 (by decide) (by omega) (fun c_22 => absurd c_22 (by omega)) (fun c_22 => ?_)
      refine X_aload dX1_nextInTurn_25 rfl ?_
      refine X_getR dX1_nextInTurn_26 rfl gf_X1_9 sh_80 (by decide) rfl rf_80_0 ?_
      refine X_iloadW dX1_nextInTurn_29 rfl ?_
      refine Y_pS dX1_nextInTurn_31 cs_X1_23 (t_atk sh_81 (Or.inl (by decide)) _ k (by omega) rfl) rfl ?_
      rw [(hW k (by omega)).1]
      refine X_aload dX1_nextInTurn_34 rfl ?_
      refine X_getR dX1_nextInTurn_35 rfl gf_X1_62 (sh_st hc) (by omega) rfl (rf_st5 hc) ?_
      refine X_iloadW dX1_nextInTurn_38 rfl ?_
      refine Y_pS dX1_nextInTurn_40 cs_X1_23 (t_blk3 hc hR hn24 k (by omega) rfl) rfl ?_
      have hb3 := (hG.b (k := k) (by omega)).2.2.2.1
      have hb2 := (hG.b (k := k) (by omega)).2.2.1
      have hwk := hw k (by omega)
      have hyk := hy k (by omega)
      refine X_icmp_le (tgt := 50) dX1_nextInTurn_43 (by decide) (by omega) (fun c_43 => ?_) (fun c_43 => ?_)
      · refine X_iconst dX1_nextInTurn_50 ?_
        refine X_istoreW dX1_nextInTurn_51 (by decide) ?_
        dsimp only [List.set]
        refine X_aload dX1_nextInTurn_53 rfl ?_
        refine X_getR dX1_nextInTurn_54 rfl gf_X1_15 sh_80 (by decide) rfl rf_80_1 ?_
        refine X_iloadW dX1_nextInTurn_57 rfl ?_
        refine Y_pS dX1_nextInTurn_59 cs_X1_23 (t_atk sh_82 (Or.inl (by decide)) _ k (by omega) rfl) rfl ?_
        rw [(hW k (by omega)).2]
        refine X_iconst dX1_nextInTurn_62 ?_
        refine X_icmp_ne (tgt := 121) dX1_nextInTurn_63 (by decide) (by omega) (fun c_63 => ?_) (fun c_63 => ?_)
        · refine X_drop 7 ?_
          dsimp only [List.set]
          refine X_drop 8 ?_
          dsimp only [List.set]
          refine X_iinc dX1_nextInTurn_121 rfl ?_
          dsimp only [List.set]
          refine X_goto (tgt := 19) dX1_nextInTurn_124 (by decide) ?_
          have e : nxF w g y false (k + 1) = nxF w g y false k := by
            show (if _ then _ else _) = _
            rw [if_neg (by simp only [cnd, btr, hr, Bool.and_eq_true, decide_eq_true_eq, beq_iff_eq, decide_eq_false_iff_not]; first | omega | (simp; omega))]
          rw [hr] at e
          have h9 := ih (k + 1) (by omega)
          rw [e] at h9
          exact h9
        · refine X_iloadW dX1_nextInTurn_66 rfl ?_
          refine X_iload dX1_nextInTurn_68 rfl ?_
          refine X_icmp_ne (tgt := 121) dX1_nextInTurn_69 (by decide) (by omega) (fun c_69 => ?_) (fun c_69 => ?_)
          · refine X_drop 7 ?_
            dsimp only [List.set]
            refine X_drop 8 ?_
            dsimp only [List.set]
            refine X_iinc dX1_nextInTurn_121 rfl ?_
            dsimp only [List.set]
            refine X_goto (tgt := 19) dX1_nextInTurn_124 (by decide) ?_
            have e : nxF w g y false (k + 1) = nxF w g y false k := by
              show (if _ then _ else _) = _
              rw [if_neg (by simp only [cnd, btr, hr, Bool.and_eq_true, decide_eq_true_eq, beq_iff_eq, decide_eq_false_iff_not]; first | omega | (simp; omega))]
            rw [hr] at e
            have h9 := ih (k + 1) (by omega)
            rw [e] at h9
            exact h9
          · refine X_iload dX1_nextInTurn_72 rfl ?_
            refine X_if_eq (tgt := 88) dX1_nextInTurn_73 (by decide) (by omega) (fun c_73 => ?_) (fun c_73 => absurd c_73 (by omega))
            refine X_aload dX1_nextInTurn_88 rfl ?_
            refine X_getR dX1_nextInTurn_89 rfl gf_X1_81 (sh_st hc) (by omega) rfl (rf_st4 hc) ?_
            refine X_iloadW dX1_nextInTurn_92 rfl ?_
            refine Y_pS dX1_nextInTurn_94 cs_X1_23 (t_blk2 hc hR hn24 k (by omega) rfl) rfl ?_
            refine X_ineg dX1_nextInTurn_97 ?_
            refine X_istoreW dX1_nextInTurn_98 (by decide) ?_
            dsimp only [List.set]
            refine X_iloadW dX1_nextInTurn_100 rfl ?_
            refine X_iconst dX1_nextInTurn_102 ?_
            refine X_icmp_eq (tgt := 113) dX1_nextInTurn_103 (by decide) (by omega) (fun c_103 => ?_) (fun c_103 => absurd c_103 (by omega))
            refine X_iloadW dX1_nextInTurn_113 rfl ?_
            refine X_istoreW dX1_nextInTurn_115 (by decide) ?_
            dsimp only [List.set]
            refine X_iloadW dX1_nextInTurn_117 rfl ?_
            refine X_istoreW dX1_nextInTurn_119 (by decide) ?_
            dsimp only [List.set]
            refine X_drop 7 ?_
            dsimp only [List.set]
            refine X_drop 8 ?_
            dsimp only [List.set]
            refine X_iinc dX1_nextInTurn_121 rfl ?_
            dsimp only [List.set]
            refine X_goto (tgt := 19) dX1_nextInTurn_124 (by decide) ?_
            have e : nxF w g y false (k + 1) = some k := by
              show (if _ then _ else _) = _
              rw [if_pos (by simp only [cnd, btr, hr, Bool.and_eq_true, decide_eq_true_eq, beq_iff_eq, decide_eq_false_iff_not]; first | omega | exact ⟨⟨by omega, by omega⟩, rfl⟩ | (simp; omega))]
            have h9 := ih (k + 1) (by omega)
            rw [e] at h9
            exact h9
      · refine X_iconst dX1_nextInTurn_46 ?_
        refine X_goto (tgt := 51) dX1_nextInTurn_47 (by decide) ?_
        refine X_istoreW dX1_nextInTurn_51 (by decide) ?_
        dsimp only [List.set]
        refine X_aload dX1_nextInTurn_53 rfl ?_
        refine X_getR dX1_nextInTurn_54 rfl gf_X1_15 sh_80 (by decide) rfl rf_80_1 ?_
        refine X_iloadW dX1_nextInTurn_57 rfl ?_
        refine Y_pS dX1_nextInTurn_59 cs_X1_23 (t_atk sh_82 (Or.inl (by decide)) _ k (by omega) rfl) rfl ?_
        rw [(hW k (by omega)).2]
        refine X_iconst dX1_nextInTurn_62 ?_
        refine X_icmp_ne (tgt := 121) dX1_nextInTurn_63 (by decide) (by omega) (fun c_63 => ?_) (fun c_63 => ?_)
        · refine X_drop 7 ?_
          dsimp only [List.set]
          refine X_drop 8 ?_
          dsimp only [List.set]
          refine X_iinc dX1_nextInTurn_121 rfl ?_
          dsimp only [List.set]
          refine X_goto (tgt := 19) dX1_nextInTurn_124 (by decide) ?_
          have e : nxF w g y false (k + 1) = nxF w g y false k := by
            show (if _ then _ else _) = _
            rw [if_neg (by simp only [cnd, btr, hr, Bool.and_eq_true, decide_eq_true_eq, beq_iff_eq, decide_eq_false_iff_not]; first | omega | (simp; omega))]
          rw [hr] at e
          have h9 := ih (k + 1) (by omega)
          rw [e] at h9
          exact h9
        · refine X_iloadW dX1_nextInTurn_66 rfl ?_
          refine X_iload dX1_nextInTurn_68 rfl ?_
          refine X_icmp_ne (tgt := 121) dX1_nextInTurn_69 (by decide) (by omega) (fun c_69 => ?_) (fun c_69 => ?_)
          · refine X_drop 7 ?_
            dsimp only [List.set]
            refine X_drop 8 ?_
            dsimp only [List.set]
            refine X_iinc dX1_nextInTurn_121 rfl ?_
            dsimp only [List.set]
            refine X_goto (tgt := 19) dX1_nextInTurn_124 (by decide) ?_
            have e : nxF w g y false (k + 1) = nxF w g y false k := by
              show (if _ then _ else _) = _
              rw [if_neg (by simp only [cnd, btr, hr, Bool.and_eq_true, decide_eq_true_eq, beq_iff_eq, decide_eq_false_iff_not]; first | omega | (simp; omega))]
            rw [hr] at e
            have h9 := ih (k + 1) (by omega)
            rw [e] at h9
            exact h9
          · refine X_iload dX1_nextInTurn_72 rfl ?_
            refine X_if_eq (tgt := 88) dX1_nextInTurn_73 (by decide) (by omega) (fun c_73 => ?_) (fun c_73 => absurd c_73 (by omega))
            refine X_aload dX1_nextInTurn_88 rfl ?_
            refine X_getR dX1_nextInTurn_89 rfl gf_X1_81 (sh_st hc) (by omega) rfl (rf_st4 hc) ?_
            refine X_iloadW dX1_nextInTurn_92 rfl ?_
            refine Y_pS dX1_nextInTurn_94 cs_X1_23 (t_blk2 hc hR hn24 k (by omega) rfl) rfl ?_
            refine X_ineg dX1_nextInTurn_97 ?_
            refine X_istoreW dX1_nextInTurn_98 (by decide) ?_
            dsimp only [List.set]
            refine X_iloadW dX1_nextInTurn_100 rfl ?_
            refine X_iconst dX1_nextInTurn_102 ?_
            refine X_icmp_eq (tgt := 113) dX1_nextInTurn_103 (by decide) (by omega) (fun c_103 => ?_) (fun c_103 => absurd c_103 (by omega))
            refine X_iloadW dX1_nextInTurn_113 rfl ?_
            refine X_istoreW dX1_nextInTurn_115 (by decide) ?_
            dsimp only [List.set]
            refine X_iloadW dX1_nextInTurn_117 rfl ?_
            refine X_istoreW dX1_nextInTurn_119 (by decide) ?_
            dsimp only [List.set]
            refine X_drop 7 ?_
            dsimp only [List.set]
            refine X_drop 8 ?_
            dsimp only [List.set]
            refine X_iinc dX1_nextInTurn_121 rfl ?_
            dsimp only [List.set]
            refine X_goto (tgt := 19) dX1_nextInTurn_124 (by decide) ?_
            have e : nxF w g y false (k + 1) = some k := by
              show (if _ then _ else _) = _
              rw [if_pos (by simp only [cnd, btr, hr, Bool.and_eq_true, decide_eq_true_eq, beq_iff_eq, decide_eq_false_iff_not]; first | omega | exact ⟨⟨by omega, by omega⟩, rfl⟩ | (simp; omega))]
            have h9 := ih (k + 1) (by omega)
            rw [e] at h9
            exact h9
    · have hq : q < n := by have := (nxF_lt hr).1; omega
      change Y _ _ _ [some (rr 80), some (rr c), some (ii 0), some (ii (n : Int)), some (ii ((q : Nat) : Int)), some (ii (-(gb g q 2))), some (ii (k : Int)), none, none] _ _ _
      refine X_iloadW dX1_nextInTurn_19 rfl ?_
      refine X_iload dX1_nextInTurn_21 rfl ?_
      refine X_icmp_ge (tgt := 127) dX1_nextInTurn_22 (by decide) (by omega) (fun c_22 => absurd c_22 (by omega)) (fun c_22 => ?_)
      refine X_aload dX1_nextInTurn_25 rfl ?_
      refine X_getR dX1_nextInTurn_26 rfl gf_X1_9 sh_80 (by decide) rfl rf_80_0 ?_
      refine X_iloadW dX1_nextInTurn_29 rfl ?_
      refine Y_pS dX1_nextInTurn_31 cs_X1_23 (t_atk sh_81 (Or.inl (by decide)) _ k (by omega) rfl) rfl ?_
      rw [(hW k (by omega)).1]
      refine X_aload dX1_nextInTurn_34 rfl ?_
      refine X_getR dX1_nextInTurn_35 rfl gf_X1_62 (sh_st hc) (by omega) rfl (rf_st5 hc) ?_
      refine X_iloadW dX1_nextInTurn_38 rfl ?_
      refine Y_pS dX1_nextInTurn_40 cs_X1_23 (t_blk3 hc hR hn24 k (by omega) rfl) rfl ?_
      have hb3 := (hG.b (k := k) (by omega)).2.2.2.1
      have hb2 := (hG.b (k := k) (by omega)).2.2.1
      have hwk := hw k (by omega)
      have hyk := hy k (by omega)
      refine X_icmp_le (tgt := 50) dX1_nextInTurn_43 (by decide) (by omega) (fun c_43 => ?_) (fun c_43 => ?_)
      · refine X_iconst dX1_nextInTurn_50 ?_
        refine X_istoreW dX1_nextInTurn_51 (by decide) ?_
        dsimp only [List.set]
        refine X_aload dX1_nextInTurn_53 rfl ?_
        refine X_getR dX1_nextInTurn_54 rfl gf_X1_15 sh_80 (by decide) rfl rf_80_1 ?_
        refine X_iloadW dX1_nextInTurn_57 rfl ?_
        refine Y_pS dX1_nextInTurn_59 cs_X1_23 (t_atk sh_82 (Or.inl (by decide)) _ k (by omega) rfl) rfl ?_
        rw [(hW k (by omega)).2]
        refine X_iconst dX1_nextInTurn_62 ?_
        refine X_icmp_ne (tgt := 121) dX1_nextInTurn_63 (by decide) (by omega) (fun c_63 => ?_) (fun c_63 => ?_)
        · refine X_drop 7 ?_
          dsimp only [List.set]
          refine X_drop 8 ?_
          dsimp only [List.set]
          refine X_iinc dX1_nextInTurn_121 rfl ?_
          dsimp only [List.set]
          refine X_goto (tgt := 19) dX1_nextInTurn_124 (by decide) ?_
          have e : nxF w g y false (k + 1) = nxF w g y false k := by
            show (if _ then _ else _) = _
            rw [if_neg (by simp only [cnd, btr, hr, Bool.and_eq_true, decide_eq_true_eq, beq_iff_eq, decide_eq_false_iff_not]; first | omega | (simp; omega))]
          rw [hr] at e
          have h9 := ih (k + 1) (by omega)
          rw [e] at h9
          exact h9
        · refine X_iloadW dX1_nextInTurn_66 rfl ?_
          refine X_iload dX1_nextInTurn_68 rfl ?_
          refine X_icmp_ne (tgt := 121) dX1_nextInTurn_69 (by decide) (by omega) (fun c_69 => ?_) (fun c_69 => ?_)
          · refine X_drop 7 ?_
            dsimp only [List.set]
            refine X_drop 8 ?_
            dsimp only [List.set]
            refine X_iinc dX1_nextInTurn_121 rfl ?_
            dsimp only [List.set]
            refine X_goto (tgt := 19) dX1_nextInTurn_124 (by decide) ?_
            have e : nxF w g y false (k + 1) = nxF w g y false k := by
              show (if _ then _ else _) = _
              rw [if_neg (by simp only [cnd, btr, hr, Bool.and_eq_true, decide_eq_true_eq, beq_iff_eq, decide_eq_false_iff_not]; first | omega | (simp; omega))]
            rw [hr] at e
            have h9 := ih (k + 1) (by omega)
            rw [e] at h9
            exact h9
          · refine X_iload dX1_nextInTurn_72 rfl ?_
            refine X_if_eq (tgt := 88) dX1_nextInTurn_73 (by decide) (by omega) (fun c_73 => ?_) (fun c_73 => absurd c_73 (by omega))
            refine X_aload dX1_nextInTurn_88 rfl ?_
            refine X_getR dX1_nextInTurn_89 rfl gf_X1_81 (sh_st hc) (by omega) rfl (rf_st4 hc) ?_
            refine X_iloadW dX1_nextInTurn_92 rfl ?_
            refine Y_pS dX1_nextInTurn_94 cs_X1_23 (t_blk2 hc hR hn24 k (by omega) rfl) rfl ?_
            refine X_ineg dX1_nextInTurn_97 ?_
            refine X_istoreW dX1_nextInTurn_98 (by decide) ?_
            dsimp only [List.set]
            refine X_iloadW dX1_nextInTurn_100 rfl ?_
            refine X_iconst dX1_nextInTurn_102 ?_
            refine X_icmp_eq (tgt := 113) dX1_nextInTurn_103 (by decide) (by omega) (fun c_103 => absurd c_103 (by omega)) (fun c_103 => ?_)
            refine X_iloadW dX1_nextInTurn_106 rfl ?_
            refine X_iloadW dX1_nextInTurn_108 rfl ?_
            have hq2 := (hG.b (k := q) hq).2.2.1
            refine X_icmp_ge (tgt := 121) dX1_nextInTurn_110 (by decide) (by omega) (fun c_110 => ?_) (fun c_110 => ?_)
            · refine X_drop 7 ?_
              dsimp only [List.set]
              refine X_drop 8 ?_
              dsimp only [List.set]
              refine X_iinc dX1_nextInTurn_121 rfl ?_
              dsimp only [List.set]
              refine X_goto (tgt := 19) dX1_nextInTurn_124 (by decide) ?_
              have e : nxF w g y false (k + 1) = nxF w g y false k := by
                show (if _ then _ else _) = _
                rw [if_neg (by simp only [cnd, btr, hr, Bool.and_eq_true, decide_eq_true_eq, beq_iff_eq, decide_eq_false_iff_not]; first | omega | (simp; omega))]
              rw [hr] at e
              have h9 := ih (k + 1) (by omega)
              rw [e] at h9
              exact h9
            · refine X_iloadW dX1_nextInTurn_113 rfl ?_
              refine X_istoreW dX1_nextInTurn_115 (by decide) ?_
              dsimp only [List.set]
              refine X_iloadW dX1_nextInTurn_117 rfl ?_
              refine X_istoreW dX1_nextInTurn_119 (by decide) ?_
              dsimp only [List.set]
              refine X_drop 7 ?_
              dsimp only [List.set]
              refine X_drop 8 ?_
              dsimp only [List.set]
              refine X_iinc dX1_nextInTurn_121 rfl ?_
              dsimp only [List.set]
              refine X_goto (tgt := 19) dX1_nextInTurn_124 (by decide) ?_
              have e : nxF w g y false (k + 1) = some k := by
                show (if _ then _ else _) = _
                rw [if_pos (by simp only [cnd, btr, hr, Bool.and_eq_true, decide_eq_true_eq, beq_iff_eq, decide_eq_false_iff_not]; first | omega | exact ⟨⟨by omega, by omega⟩, rfl⟩ | (simp; omega))]
              have h9 := ih (k + 1) (by omega)
              rw [e] at h9
              exact h9
      · refine X_iconst dX1_nextInTurn_46 ?_
        refine X_goto (tgt := 51) dX1_nextInTurn_47 (by decide) ?_
        refine X_istoreW dX1_nextInTurn_51 (by decide) ?_
        dsimp only [List.set]
        refine X_aload dX1_nextInTurn_53 rfl ?_
        refine X_getR dX1_nextInTurn_54 rfl gf_X1_15 sh_80 (by decide) rfl rf_80_1 ?_
        refine X_iloadW dX1_nextInTurn_57 rfl ?_
        refine Y_pS dX1_nextInTurn_59 cs_X1_23 (t_atk sh_82 (Or.inl (by decide)) _ k (by omega) rfl) rfl ?_
        rw [(hW k (by omega)).2]
        refine X_iconst dX1_nextInTurn_62 ?_
        refine X_icmp_ne (tgt := 121) dX1_nextInTurn_63 (by decide) (by omega) (fun c_63 => ?_) (fun c_63 => ?_)
        · refine X_drop 7 ?_
          dsimp only [List.set]
          refine X_drop 8 ?_
          dsimp only [List.set]
          refine X_iinc dX1_nextInTurn_121 rfl ?_
          dsimp only [List.set]
          refine X_goto (tgt := 19) dX1_nextInTurn_124 (by decide) ?_
          have e : nxF w g y false (k + 1) = nxF w g y false k := by
            show (if _ then _ else _) = _
            rw [if_neg (by simp only [cnd, btr, hr, Bool.and_eq_true, decide_eq_true_eq, beq_iff_eq, decide_eq_false_iff_not]; first | omega | (simp; omega))]
          rw [hr] at e
          have h9 := ih (k + 1) (by omega)
          rw [e] at h9
          exact h9
        · refine X_iloadW dX1_nextInTurn_66 rfl ?_
          refine X_iload dX1_nextInTurn_68 rfl ?_
          refine X_icmp_ne (tgt := 121) dX1_nextInTurn_69 (by decide) (by omega) (fun c_69 => ?_) (fun c_69 => ?_)
          · refine X_drop 7 ?_
            dsimp only [List.set]
            refine X_drop 8 ?_
            dsimp only [List.set]
            refine X_iinc dX1_nextInTurn_121 rfl ?_
            dsimp only [List.set]
            refine X_goto (tgt := 19) dX1_nextInTurn_124 (by decide) ?_
            have e : nxF w g y false (k + 1) = nxF w g y false k := by
              show (if _ then _ else _) = _
              rw [if_neg (by simp only [cnd, btr, hr, Bool.and_eq_true, decide_eq_true_eq, beq_iff_eq, decide_eq_false_iff_not]; first | omega | (simp; omega))]
            rw [hr] at e
            have h9 := ih (k + 1) (by omega)
            rw [e] at h9
            exact h9
          · refine X_iload dX1_nextInTurn_72 rfl ?_
            refine X_if_eq (tgt := 88) dX1_nextInTurn_73 (by decide) (by omega) (fun c_73 => ?_) (fun c_73 => absurd c_73 (by omega))
            refine X_aload dX1_nextInTurn_88 rfl ?_
            refine X_getR dX1_nextInTurn_89 rfl gf_X1_81 (sh_st hc) (by omega) rfl (rf_st4 hc) ?_
            refine X_iloadW dX1_nextInTurn_92 rfl ?_
            refine Y_pS dX1_nextInTurn_94 cs_X1_23 (t_blk2 hc hR hn24 k (by omega) rfl) rfl ?_
            refine X_ineg dX1_nextInTurn_97 ?_
            refine X_istoreW dX1_nextInTurn_98 (by decide) ?_
            dsimp only [List.set]
            refine X_iloadW dX1_nextInTurn_100 rfl ?_
            refine X_iconst dX1_nextInTurn_102 ?_
            refine X_icmp_eq (tgt := 113) dX1_nextInTurn_103 (by decide) (by omega) (fun c_103 => absurd c_103 (by omega)) (fun c_103 => ?_)
            refine X_iloadW dX1_nextInTurn_106 rfl ?_
            refine X_iloadW dX1_nextInTurn_108 rfl ?_
            have hq2 := (hG.b (k := q) hq).2.2.1
            refine X_icmp_ge (tgt := 121) dX1_nextInTurn_110 (by decide) (by omega) (fun c_110 => ?_) (fun c_110 => ?_)
            · refine X_drop 7 ?_
              dsimp only [List.set]
              refine X_drop 8 ?_
              dsimp only [List.set]
              refine X_iinc dX1_nextInTurn_121 rfl ?_
              dsimp only [List.set]
              refine X_goto (tgt := 19) dX1_nextInTurn_124 (by decide) ?_
              have e : nxF w g y false (k + 1) = nxF w g y false k := by
                show (if _ then _ else _) = _
                rw [if_neg (by simp only [cnd, btr, hr, Bool.and_eq_true, decide_eq_true_eq, beq_iff_eq, decide_eq_false_iff_not]; first | omega | (simp; omega))]
              rw [hr] at e
              have h9 := ih (k + 1) (by omega)
              rw [e] at h9
              exact h9
            · refine X_iloadW dX1_nextInTurn_113 rfl ?_
              refine X_istoreW dX1_nextInTurn_115 (by decide) ?_
              dsimp only [List.set]
              refine X_iloadW dX1_nextInTurn_117 rfl ?_
              refine X_istoreW dX1_nextInTurn_119 (by decide) ?_
              dsimp only [List.set]
              refine X_drop 7 ?_
              dsimp only [List.set]
              refine X_drop 8 ?_
              dsimp only [List.set]
              refine X_iinc dX1_nextInTurn_121 rfl ?_
              dsimp only [List.set]
              refine X_goto (tgt := 19) dX1_nextInTurn_124 (by decide) ?_
              have e : nxF w g y false (k + 1) = some k := by
                show (if _ then _ else _) = _
                rw [if_pos (by simp only [cnd, btr, hr, Bool.and_eq_true, decide_eq_true_eq, beq_iff_eq, decide_eq_false_iff_not]; first | omega | exact ⟨⟨by omega, by omega⟩, rfl⟩ | (simp; omega))]
              have h9 := ih (k + 1) (by omega)
              rw [e] at h9
              exact h9
set_option maxRecDepth 20000 in
set_option maxHeartbeats 4000000 in
theorem t_nextInTurn0 {I : xI} {c : Nat} {g : Nat → Int} {n : Nat} (hc : x_st c) (hR : RS I c g n) (hG : GI g n) {w y : Nat → Int} (hW : WR I n w y) (hw : ∀ k, k < n → 0 ≤ w k ∧ w k ≤ 2) (hy : ∀ k, k < n → 0 ≤ y k ∧ y k ≤ 5) : S kX1_nextInTurn 2 [rr 80, rr c, ii 0] I (q_p (ii (oi (nxF w g y false n) (-1))) I) := by
  have lc := st_lt hc
  have lw := st_low hc
  have hn24 := hG.n24
  refine Sp_intro (by decide +kernel) (Nat.le_of_ble_eq_true rfl) ?_
  show Y kX1_nextInTurn 2 0 [some (rr 80), some (rr c), some (ii 0), none, none, none, none, none, none] [] I _
  refine X_aload dX1_nextInTurn_0 rfl ?_
  refine X_getR dX1_nextInTurn_1 rfl gf_X1_18 (sh_st hc) (by omega) rfl (rf_st0 hc) ?_
  refine X_bipush dX1_nextInTurn_4 (by decide) ?_
  refine Y_pS dX1_nextInTurn_6 cs_X1_23 (t_num hc hR 15 (by decide) rfl) rfl ?_
  refine X_istore dX1_nextInTurn_9 (by decide) ?_
  dsimp only [List.set]
  refine X_iconst dX1_nextInTurn_10 ?_
  refine X_istoreW dX1_nextInTurn_11 (by decide) ?_
  dsimp only [List.set]
  refine X_iconst dX1_nextInTurn_13 ?_
  refine X_istoreW dX1_nextInTurn_14 (by decide) ?_
  dsimp only [List.set]
  refine X_iconst dX1_nextInTurn_16 ?_
  refine X_istoreW dX1_nextInTurn_17 (by decide) ?_
  dsimp only [List.set]
  rw [hG.g15]
  exact t_nextInTurn0_loop hc hR hG hW hw hy n 0 (by omega)
set_option maxRecDepth 20000 in
set_option maxHeartbeats 4000000 in
theorem t_shelfToMoveTo {I : xI} {c : Nat} {g : Nat → Int} {n : Nat} (hc : x_st c) (hR : RS I c g n) (hG : GI g n) {w y : Nat → Int} (hW : WR I n w y) (hw : ∀ k, k < n → 0 ≤ w k ∧ w k ≤ 2) (hy : ∀ k, k < n → 0 ≤ y k ∧ y k ≤ 5) (k : Nat) (hk : k < n) {i : Int} (hi : i = (k : Int)) : S kX1_shelfToMoveTo 1 [rr 80, rr c, ii i] I (q_p (ii (oi (tg w g n k) (-1))) I) := by
  have lc := st_lt hc
  have lw := st_low hc
  have hn24 := hG.n24
  subst hi
  have hwk := hw k hk
  obtain ⟨s0, hs0⟩ := Int.eq_ofNat_of_zero_le hwk.1
  have et : (w k).toNat = s0 := by omega
  have hb1 := (hG.b hk).2.1
  have hb3 := (hG.b hk).2.2.2.1
  refine Sp_intro (by decide +kernel) (Nat.le_of_ble_eq_true rfl) ?_
  show Y kX1_shelfToMoveTo 1 0 [some (rr 80), some (rr c), some (ii (k : Int)), none, none, none] [] I _
  refine X_aload dX1_shelfToMoveTo_0 rfl ?_
  refine X_getR dX1_shelfToMoveTo_1 rfl gf_X1_84 (sh_st hc) (by omega) rfl (rf_st3 hc) ?_
  refine X_iload dX1_shelfToMoveTo_4 rfl ?_
  refine Y_pS dX1_shelfToMoveTo_5 cs_X1_23 (t_blk1 hc hR hn24 k (by omega) rfl) rfl ?_
  refine X_istore dX1_shelfToMoveTo_8 (by decide) ?_
  dsimp only [List.set]
  refine X_aload dX1_shelfToMoveTo_9 rfl ?_
  refine X_getR dX1_shelfToMoveTo_10 rfl gf_X1_9 sh_80 (by decide) rfl rf_80_0 ?_
  refine X_iload dX1_shelfToMoveTo_13 rfl ?_
  refine Y_pS dX1_shelfToMoveTo_14 cs_X1_23 (t_atk sh_81 (Or.inl (by decide)) _ k (by omega) rfl) rfl ?_
  rw [(hW k (by omega)).1]
  refine X_istoreW dX1_shelfToMoveTo_17 (by decide) ?_
  dsimp only [List.set]
  refine X_aload dX1_shelfToMoveTo_19 rfl ?_
  refine X_iloadW dX1_shelfToMoveTo_20 rfl ?_
  refine X_iload dX1_shelfToMoveTo_22 rfl ?_
  refine Y_pV dX1_shelfToMoveTo_23 cv_X1_87 (sh_st hc) (by omega) (t_hasRoom hc hR hG s0 (by omega) hs0 (gb g k 1) (by omega)) rfl ?_
  have hb : (if rmB g n s0 (gb g k 1) = true then (1 : Int) else 0) = 1 ∨ (if rmB g n s0 (gb g k 1) = true then (1 : Int) else 0) = 0 := by split <;> simp
  refine X_if_eq (tgt := 32) dX1_shelfToMoveTo_26 (by decide) (by omega) (fun c_26 => ?_) (fun c_26 => ?_)
  · have r26 : ¬ rmB g n s0 (gb g k 1) = true := fun q => by rw [if_pos q] at c_26; omega
    refine X_iloadW dX1_shelfToMoveTo_32 rfl ?_
    refine X_aload dX1_shelfToMoveTo_34 rfl ?_
    refine X_getR dX1_shelfToMoveTo_35 rfl gf_X1_62 (sh_st hc) (by omega) rfl (rf_st5 hc) ?_
    refine X_iload dX1_shelfToMoveTo_38 rfl ?_
    refine Y_pS dX1_shelfToMoveTo_39 cs_X1_23 (t_blk3 hc hR hn24 k (by omega) rfl) rfl ?_
    refine X_isub dX1_shelfToMoveTo_42 ?_
    refine X_abs dX1_shelfToMoveTo_43 rfl lk_X1_91 (by omega) (by decide) (Nat.le_of_ble_eq_true rfl) ?_
    have habs : ∃ v : Int, (if 0 ≤ w k - gb g k 3 then w k - gb g k 3 else -(w k - gb g k 3)) = v ∧ 0 ≤ v ∧ v ≤ 2 ∧ (v = 2 ↔ (w k - gb g k 3 = 2 ∨ gb g k 3 - w k = 2)) := by split <;> exact ⟨_, rfl, by omega, by omega, by omega⟩
    obtain ⟨v, ev, v0, v2, v3⟩ := habs
    rw [ev]
    refine X_iconst dX1_shelfToMoveTo_46 ?_
    refine X_icmp_ne (tgt := 54) dX1_shelfToMoveTo_47 (by decide) (by omega) (fun c_47 => ?_) (fun c_47 => ?_)
    · refine X_iconst dX1_shelfToMoveTo_54 ?_
      refine X_istoreW dX1_shelfToMoveTo_55 (by decide) ?_
      dsimp only [List.set]
      refine X_iloadW dX1_shelfToMoveTo_57 rfl ?_
      refine X_if_eq (tgt := 75) dX1_shelfToMoveTo_59 (by decide) (by omega) (fun c_59 => ?_) (fun c_59 => ?_)
      · refine X_iconst dX1_shelfToMoveTo_75 ?_
        refine X_iret dX1_shelfToMoveTo_76 (Or.inl rfl) ?_
        refine ⟨?_, rfl, rfl, rfl⟩
        unfold tg
        rw [et, if_neg r26]
        first | (rw [if_pos ⟨by omega, r68⟩]; rfl) | (rw [if_neg (fun q => r68 q.2)]; rfl) | (rw [if_neg (fun q => by have := q.1; omega)]; rfl)
      · refine X_aload dX1_shelfToMoveTo_62 rfl ?_
        refine X_iconst dX1_shelfToMoveTo_63 ?_
        refine X_iload dX1_shelfToMoveTo_64 rfl ?_
        refine Y_pV dX1_shelfToMoveTo_65 cv_X1_87 (sh_st hc) (by omega) (t_hasRoom hc hR hG 1 (by decide) rfl (gb g k 1) (by omega)) rfl ?_
        have hb : (if rmB g n 1 (gb g k 1) = true then (1 : Int) else 0) = 1 ∨ (if rmB g n 1 (gb g k 1) = true then (1 : Int) else 0) = 0 := by split <;> simp
        refine X_if_eq (tgt := 75) dX1_shelfToMoveTo_68 (by decide) (by omega) (fun c_68 => ?_) (fun c_68 => ?_)
        · have r68 : ¬ rmB g n 1 (gb g k 1) = true := fun q => by rw [if_pos q] at c_68; omega
          refine X_iconst dX1_shelfToMoveTo_75 ?_
          refine X_iret dX1_shelfToMoveTo_76 (Or.inl rfl) ?_
          refine ⟨?_, rfl, rfl, rfl⟩
          unfold tg
          rw [et, if_neg r26]
          first | (rw [if_pos ⟨by omega, r68⟩]; rfl) | (rw [if_neg (fun q => r68 q.2)]; rfl) | (rw [if_neg (fun q => by have := q.1; omega)]; rfl)
        · have r68 : rmB g n 1 (gb g k 1) = true := by
            by_cases q : rmB g n 1 (gb g k 1) = true
            · exact q
            · rw [if_neg q] at c_68; omega
          refine X_iconst dX1_shelfToMoveTo_71 ?_
          refine X_goto (tgt := 76) dX1_shelfToMoveTo_72 (by decide) ?_
          refine X_iret dX1_shelfToMoveTo_76 (Or.inl rfl) ?_
          refine ⟨?_, rfl, rfl, rfl⟩
          unfold tg
          rw [et, if_neg r26]
          first | (rw [if_pos ⟨by omega, r68⟩]; rfl) | (rw [if_neg (fun q => r68 q.2)]; rfl) | (rw [if_neg (fun q => by have := q.1; omega)]; rfl)
    · refine X_iconst dX1_shelfToMoveTo_50 ?_
      refine X_goto (tgt := 55) dX1_shelfToMoveTo_51 (by decide) ?_
      refine X_istoreW dX1_shelfToMoveTo_55 (by decide) ?_
      dsimp only [List.set]
      refine X_iloadW dX1_shelfToMoveTo_57 rfl ?_
      refine X_if_eq (tgt := 75) dX1_shelfToMoveTo_59 (by decide) (by omega) (fun c_59 => ?_) (fun c_59 => ?_)
      · refine X_iconst dX1_shelfToMoveTo_75 ?_
        refine X_iret dX1_shelfToMoveTo_76 (Or.inl rfl) ?_
        refine ⟨?_, rfl, rfl, rfl⟩
        unfold tg
        rw [et, if_neg r26]
        first | (rw [if_pos ⟨by omega, r68⟩]; rfl) | (rw [if_neg (fun q => r68 q.2)]; rfl) | (rw [if_neg (fun q => by have := q.1; omega)]; rfl)
      · refine X_aload dX1_shelfToMoveTo_62 rfl ?_
        refine X_iconst dX1_shelfToMoveTo_63 ?_
        refine X_iload dX1_shelfToMoveTo_64 rfl ?_
        refine Y_pV dX1_shelfToMoveTo_65 cv_X1_87 (sh_st hc) (by omega) (t_hasRoom hc hR hG 1 (by decide) rfl (gb g k 1) (by omega)) rfl ?_
        have hb : (if rmB g n 1 (gb g k 1) = true then (1 : Int) else 0) = 1 ∨ (if rmB g n 1 (gb g k 1) = true then (1 : Int) else 0) = 0 := by split <;> simp
        refine X_if_eq (tgt := 75) dX1_shelfToMoveTo_68 (by decide) (by omega) (fun c_68 => ?_) (fun c_68 => ?_)
        · have r68 : ¬ rmB g n 1 (gb g k 1) = true := fun q => by rw [if_pos q] at c_68; omega
          refine X_iconst dX1_shelfToMoveTo_75 ?_
          refine X_iret dX1_shelfToMoveTo_76 (Or.inl rfl) ?_
          refine ⟨?_, rfl, rfl, rfl⟩
          unfold tg
          rw [et, if_neg r26]
          first | (rw [if_pos ⟨by omega, r68⟩]; rfl) | (rw [if_neg (fun q => r68 q.2)]; rfl) | (rw [if_neg (fun q => by have := q.1; omega)]; rfl)
        · have r68 : rmB g n 1 (gb g k 1) = true := by
            by_cases q : rmB g n 1 (gb g k 1) = true
            · exact q
            · rw [if_neg q] at c_68; omega
          refine X_iconst dX1_shelfToMoveTo_71 ?_
          refine X_goto (tgt := 76) dX1_shelfToMoveTo_72 (by decide) ?_
          refine X_iret dX1_shelfToMoveTo_76 (Or.inl rfl) ?_
          refine ⟨?_, rfl, rfl, rfl⟩
          unfold tg
          rw [et, if_neg r26]
          first | (rw [if_pos ⟨by omega, r68⟩]; rfl) | (rw [if_neg (fun q => r68 q.2)]; rfl) | (rw [if_neg (fun q => by have := q.1; omega)]; rfl)
  · have r26 : rmB g n s0 (gb g k 1) = true := by
      by_cases q : rmB g n s0 (gb g k 1) = true
      · exact q
      · rw [if_neg q] at c_26; omega
    refine X_iloadW dX1_shelfToMoveTo_29 rfl ?_
    refine X_iret dX1_shelfToMoveTo_31 (Or.inl rfl) ?_
    refine ⟨?_, rfl, rfl, rfl⟩
    unfold tg
    rw [et, if_pos r26, hs0]
    rfl
def pdG (g : Nat → Int) (k : Nat) : Nat → Int := if gb g k 3 = 2 then gB g k 5 (g 4) else g
set_option maxRecDepth 20000 in
set_option maxHeartbeats 4000000 in
theorem t_promiseIfDeep {I : xI} {c : Nat} {g : Nat → Int} {n : Nat} (hc : x_st c) (hR : RS I c g n) (hG : GI g n) (k : Nat) (hk : k < n) {i : Int} (hi : i = (k : Int)) : S kX1_promiseIfDeep 1 [rr 80, rr c, ii i] I (q_v (fun I1 => RS I1 c (pdG g k) n ∧ FR I I1 c)) := by
  have lc := st_lt hc
  have lw := st_low hc
  have hn24 := hG.n24
  have hF : FR I I c := FR.rf
  subst hi
  have hb3 := (hG.b hk).2.2.2.1
  refine Sp_intro (by decide +kernel) (Nat.le_of_ble_eq_true rfl) ?_
  show Y kX1_promiseIfDeep 1 0 [some (rr 80), some (rr c), some (ii (k : Int))] [] I _
  refine X_aload dX1_promiseIfDeep_0 rfl ?_
  refine X_getR dX1_promiseIfDeep_1 rfl gf_X1_62 (sh_st hc) (by omega) rfl (rf_st5 hc) ?_
  refine X_iload dX1_promiseIfDeep_4 rfl ?_
  refine Y_pS dX1_promiseIfDeep_5 cs_X1_23 (t_blk3 hc hR hn24 k (by omega) rfl) rfl ?_
  refine X_iconst dX1_promiseIfDeep_8 ?_
  refine X_icmp_ne (tgt := 28) dX1_promiseIfDeep_9 (by decide) (by omega) (fun c_9 => ?_) (fun c_9 => ?_)
  · rw [pdG, if_neg c_9]
    refine X_vret dX1_promiseIfDeep_28 rfl ?_
    exact ⟨rfl, rfl, rfl, hR, hF⟩
  · rw [pdG, if_pos c_9]
    refine X_aload dX1_promiseIfDeep_12 rfl ?_
    refine X_getR dX1_promiseIfDeep_13 rfl gf_X1_59 (sh_st hc) (by omega) rfl (rf_st7 hc) ?_
    refine X_iload dX1_promiseIfDeep_16 rfl ?_
    refine X_aload dX1_promiseIfDeep_17 rfl ?_
    refine X_getR dX1_promiseIfDeep_18 rfl gf_X1_18 (sh_st hc) (by omega) rfl (rf_st0 hc) ?_
    refine X_iconst dX1_promiseIfDeep_21 ?_
    refine Y_pS dX1_promiseIfDeep_22 cs_X1_23 (t_num hc hR 4 (by decide) rfl) rfl ?_
    refine Y_vS dX1_promiseIfDeep_25 cs_X1_53 (t_putB5 hc hR hn24 k (by omega) rfl _) rfl (fun I25 hq25 => ?_)
    obtain ⟨hR, hF25⟩ := hq25
    have hF := hF.trans hF25
    refine X_vret dX1_promiseIfDeep_28 rfl ?_
    exact ⟨rfl, rfl, rfl, hR, hF⟩
