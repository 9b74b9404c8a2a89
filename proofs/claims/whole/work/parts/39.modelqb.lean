/-! the other program: questions -/
def hcB (o : Option (Int × Int)) : Int := match o with
  | none => -5
  | some (b, _) => b
set_option maxRecDepth 20000 in
set_option maxHeartbeats 4000000 in
theorem t5_block_in {I : xI} {g : Nat → Int} {n : Nat} {Q : xQ} {r : Int} (hR : RR I 0 g n) (hG : GI g n) (k : Nat) (hk : k < n) (F : Nat → Int) (hF : ∀ q, F q = if gb g k 2 < gb g q 2 ∨ (gb g q 2 = gb g k 2 ∧ q < k) then 1 else 0) (kk : Y kX5_block 2 95 [some (rr 88), some (ii r), some (ii (k : Int)), some (ii (sm F n)), some (ii (n : Int)), none] [] I Q) : ∀ (m q : Nat), q + m = n → Y kX5_block 2 25 [some (rr 88), some (ii r), some (ii (k : Int)), some (ii (sm F q)), some (ii (q : Int)), none] [] I Q := by
  have hn24 := hG.n24
  have h15 := hG.g15
  intro m
  induction m with
  | zero =>
    intro q hq
    refine X_iloadW dX5_block_25 rfl ?_
    refine X_aload dX5_block_27 rfl ?_
    refine X_getR dX5_block_28 rfl gf_X5_7 sh_88 (by decide) rfl rf_88_0 ?_
    refine X_bipush dX5_block_31 (by decide) ?_
    refine Y_ald dX5_block_33 hR (by omega) hn24 (15) (by omega) (by omega) ?_
    refine X_icmp_ge (tgt := 95) dX5_block_34 (by decide) (by omega) (fun c_34 => ?_) (fun c_34 => ?_)
    · obtain rfl : n = q := by omega
      exact kk
    · exact absurd c_34 (by omega)
  | succ m ih =>
    intro q hq
    refine X_iloadW dX5_block_25 rfl ?_
    refine X_aload dX5_block_27 rfl ?_
    refine X_getR dX5_block_28 rfl gf_X5_7 sh_88 (by decide) rfl rf_88_0 ?_
    refine X_bipush dX5_block_31 (by decide) ?_
    refine Y_ald dX5_block_33 hR (by omega) hn24 (15) (by omega) (by omega) ?_
    refine X_icmp_ge (tgt := 95) dX5_block_34 (by decide) (by omega) (fun c_34 => absurd c_34 (by omega)) (fun c_34 => ?_)
    refine X_aload dX5_block_37 rfl ?_
    refine X_getR dX5_block_38 rfl gf_X5_7 sh_88 (by decide) rfl rf_88_0 ?_
    refine X_iconst dX5_block_41 ?_
    refine X_iloadW dX5_block_42 rfl ?_
    refine Y_pS dX5_block_44 cs_X5_32 (t5_at _ _ _) rfl ?_
    refine X_iconst dX5_block_47 ?_
    refine X_iadd dX5_block_48 ?_
    refine Y_aldB dX5_block_49 hR (by omega) hn24 (q) (2) (by omega) (by omega) (by omega) ?_
    refine X_aload dX5_block_50 rfl ?_
    refine X_getR dX5_block_51 rfl gf_X5_7 sh_88 (by decide) rfl rf_88_0 ?_
    refine X_iconst dX5_block_54 ?_
    refine X_iload dX5_block_55 rfl ?_
    refine Y_pS dX5_block_56 cs_X5_32 (t5_at _ _ _) rfl ?_
    refine X_iconst dX5_block_59 ?_
    refine X_iadd dX5_block_60 ?_
    refine Y_aldB dX5_block_61 hR (by omega) hn24 (k) (2) (by omega) (by omega) (by omega) ?_
    have h1 := (hG.b (k := k) hk).2.2.1
    have h2 := (hG.b (k := q) (by omega)).2.2.1
    refine X_isub dX5_block_62 ?_
    refine X_istoreW dX5_block_63 (by decide) ?_
    dsimp only [List.set]
    refine X_iload dX5_block_65 rfl ?_
    refine X_iloadW dX5_block_66 rfl ?_
    refine X_if_gt (tgt := 82) dX5_block_68 (by decide) (by omega) (fun c_68 => ?_) (fun c_68 => ?_)
    · refine X_iconst dX5_block_82 ?_
      refine X_goto (tgt := 87) dX5_block_83 (by decide) ?_
      refine X_iadd dX5_block_87 ?_
      refine X_istore dX5_block_88 (by decide) ?_
      dsimp only [List.set]
      refine X_iinc dX5_block_89 rfl ?_
      dsimp only [List.set]
      refine X_goto (tgt := 25) dX5_block_92 (by decide) ?_
      refine X_drop 5 ?_
      dsimp only [List.set]
      first
        | (exfalso; omega)
        | (have e : sm F (q + 1) = sm F q + 1 := by
             show sm F q + F q = _
             rw [hF q, if_pos (by omega)]
           rw [← e]
           exact ih (q + 1) (by omega))
        | (have e : sm F (q + 1) = sm F q + 0 := by
             show sm F q + F q = _
             rw [hF q, if_neg (by omega)]
           rw [← e]
           exact ih (q + 1) (by omega))
    · refine X_iloadW dX5_block_71 rfl ?_
      refine X_if_ne (tgt := 86) dX5_block_73 (by decide) (by omega) (fun c_73 => ?_) (fun c_73 => ?_)
      · refine X_iconst dX5_block_86 ?_
        refine X_iadd dX5_block_87 ?_
        refine X_istore dX5_block_88 (by decide) ?_
        dsimp only [List.set]
        refine X_iinc dX5_block_89 rfl ?_
        dsimp only [List.set]
        refine X_goto (tgt := 25) dX5_block_92 (by decide) ?_
        refine X_drop 5 ?_
        dsimp only [List.set]
        first
          | (exfalso; omega)
          | (have e : sm F (q + 1) = sm F q + 1 := by
               show sm F q + F q = _
               rw [hF q, if_pos (by omega)]
             rw [← e]
             exact ih (q + 1) (by omega))
          | (have e : sm F (q + 1) = sm F q + 0 := by
               show sm F q + F q = _
               rw [hF q, if_neg (by omega)]
             rw [← e]
             exact ih (q + 1) (by omega))
      · refine X_iloadW dX5_block_76 rfl ?_
        refine X_iload dX5_block_78 rfl ?_
        refine X_icmp_ge (tgt := 86) dX5_block_79 (by decide) (by omega) (fun c_79 => ?_) (fun c_79 => ?_)
        · refine X_iconst dX5_block_86 ?_
          refine X_iadd dX5_block_87 ?_
          refine X_istore dX5_block_88 (by decide) ?_
          dsimp only [List.set]
          refine X_iinc dX5_block_89 rfl ?_
          dsimp only [List.set]
          refine X_goto (tgt := 25) dX5_block_92 (by decide) ?_
          refine X_drop 5 ?_
          dsimp only [List.set]
          first
            | (exfalso; omega)
            | (have e : sm F (q + 1) = sm F q + 1 := by
                 show sm F q + F q = _
                 rw [hF q, if_pos (by omega)]
               rw [← e]
               exact ih (q + 1) (by omega))
            | (have e : sm F (q + 1) = sm F q + 0 := by
                 show sm F q + F q = _
                 rw [hF q, if_neg (by omega)]
               rw [← e]
               exact ih (q + 1) (by omega))
        · refine X_iconst dX5_block_82 ?_
          refine X_goto (tgt := 87) dX5_block_83 (by decide) ?_
          refine X_iadd dX5_block_87 ?_
          refine X_istore dX5_block_88 (by decide) ?_
          dsimp only [List.set]
          refine X_iinc dX5_block_89 rfl ?_
          dsimp only [List.set]
          refine X_goto (tgt := 25) dX5_block_92 (by decide) ?_
          refine X_drop 5 ?_
          dsimp only [List.set]
          first
            | (exfalso; omega)
            | (have e : sm F (q + 1) = sm F q + 1 := by
                 show sm F q + F q = _
                 rw [hF q, if_pos (by omega)]
               rw [← e]
               exact ih (q + 1) (by omega))
            | (have e : sm F (q + 1) = sm F q + 0 := by
                 show sm F q + F q = _
                 rw [hF q, if_neg (by omega)]
               rw [← e]
               exact ih (q + 1) (by omega))
set_option maxRecDepth 20000 in
set_option maxHeartbeats 4000000 in
theorem t5_block_loop {I : xI} {g : Nat → Int} {n : Nat} {r : Int} (hR : RR I 0 g n) (hG : GI g n) (hr : 0 ≤ r ∧ r ≤ 2147483647) : ∀ (m k : Nat), k + m = n → Y kX5_block 2 9 [some (rr 88), some (ii r), some (ii (k : Int)), none, none, none] [] I (q_p (ii (match rkF g n r m k with
  | none => -5
  | some k => gb g k 0)) I) := by
  have hn24 := hG.n24
  have h15 := hG.g15
  intro m
  induction m with
  | zero =>
    intro k hk
    refine X_iload dX5_block_9 rfl ?_
    refine X_aload dX5_block_10 rfl ?_
    refine X_getR dX5_block_11 rfl gf_X5_7 sh_88 (by decide) rfl rf_88_0 ?_
    refine X_bipush dX5_block_14 (by decide) ?_
    refine Y_ald dX5_block_16 hR (by omega) hn24 (15) (by omega) (by omega) ?_
    refine X_icmp_ge (tgt := 117) dX5_block_17 (by decide) (by omega) (fun c_17 => ?_) (fun c_17 => absurd c_17 (by omega))
    refine X_bipush dX5_block_117 (by decide) ?_
    refine X_iret dX5_block_119 (Or.inl rfl) ?_
    exact ⟨rfl, rfl, rfl, rfl⟩
  | succ m ih =>
    intro k hk
    unfold rkF
    refine X_iload dX5_block_9 rfl ?_
    refine X_aload dX5_block_10 rfl ?_
    refine X_getR dX5_block_11 rfl gf_X5_7 sh_88 (by decide) rfl rf_88_0 ?_
    refine X_bipush dX5_block_14 (by decide) ?_
    refine Y_ald dX5_block_16 hR (by omega) hn24 (15) (by omega) (by omega) ?_
    refine X_icmp_ge (tgt := 117) dX5_block_17 (by decide) (by omega) (fun c_17 => absurd c_17 (by omega)) (fun c_17 => ?_)
    refine X_iconst dX5_block_20 ?_
    refine X_istore dX5_block_21 (by decide) ?_
    dsimp only [List.set]
    refine X_iconst dX5_block_22 ?_
    refine X_istoreW dX5_block_23 (by decide) ?_
    dsimp only [List.set]
    refine t5_block_in hR hG k (by omega) _ (fun _ => rfl) ?_ n 0 (by omega)
    show Y kX5_block 2 95 [some (rr 88), some (ii r), some (ii (k : Int)), some (ii (hot g n k)), some (ii (n : Int)), none] [] I _
    have hh := hot_bounds (g := g) hn24 k
    refine X_iload dX5_block_95 rfl ?_
    refine X_iload dX5_block_96 rfl ?_
    refine X_icmp_ne (tgt := 111) dX5_block_97 (by decide) (by omega) (fun c_97 => ?_) (fun c_97 => ?_)
    · rw [if_neg c_97]
      refine X_iinc dX5_block_111 rfl ?_
      dsimp only [List.set]
      refine X_goto (tgt := 9) dX5_block_114 (by decide) ?_
      refine X_drop 3 ?_
      refine X_drop 4 ?_
      dsimp only [List.set]
      exact ih (k + 1) (by omega)
    · rw [if_pos c_97]
      refine X_aload dX5_block_100 rfl ?_
      refine X_getR dX5_block_101 rfl gf_X5_7 sh_88 (by decide) rfl rf_88_0 ?_
      refine X_iconst dX5_block_104 ?_
      refine X_iload dX5_block_105 rfl ?_
      refine Y_pS dX5_block_106 cs_X5_32 (t5_at _ _ _) rfl ?_
      refine Y_aldB dX5_block_109 hR (by omega) hn24 (k) (0) (by omega) (by omega) (by omega) ?_
      refine X_iret dX5_block_110 (Or.inl rfl) ?_
      exact ⟨rfl, rfl, rfl, rfl⟩
set_option maxRecDepth 20000 in
set_option maxHeartbeats 4000000 in
theorem m_block {I : xI} {s : xS} {hs : List xS} {sn : Option xS} {tx : Nat → Int} {len : Nat} (hM : MI I s hs sn tx len) (hg : CG s hs sn tx len) (r : Int) (hr : -2147483648 ≤ r ∧ r ≤ 2147483647) : S kX5_block 2 [rr 88, ii r] I (q_p (ii (qBlock s r)) I) := by
  have hR := hM.1
  have hG := hg.1.1
  have hn24 := hG.n24
  have h15 := hG.g15
  refine Sp_intro (by decide +kernel) (Nat.le_of_ble_eq_true rfl) ?_
  show Y kX5_block 2 0 [some (rr 88), some (ii r), none, none, none, none] [] I _
  refine X_iload dX5_block_0 rfl ?_
  refine X_if_ge (tgt := 7) dX5_block_1 (by decide) (by omega) (fun c_1 => ?_) (fun c_1 => ?_)
  · refine X_iconst dX5_block_7 ?_
    refine X_istore dX5_block_8 (by decide) ?_
    dsimp only [List.set]
    unfold qBlock
    rw [if_neg (by omega)]
    exact t5_block_loop hR hG (by omega) s.2 0 (by omega)
  · refine X_bipush dX5_block_4 (by decide) ?_
    refine X_iret dX5_block_6 (Or.inl rfl) ?_
    exact ⟨by unfold qBlock; rw [if_pos (by omega)], rfl, rfl, rfl⟩
set_option maxRecDepth 20000 in
set_option maxHeartbeats 4000000 in
theorem m_ifPassed {I : xI} {s : xS} {hs : List xS} {sn : Option xS} {tx : Nat → Int} {len : Nat} (hM : MI I s hs sn tx len) (hg : CG s hs sn tx len) (t : Int) (ht : -2147483648 ≤ t ∧ t ≤ 2147483647) (w : Int) (hw : -2147483648 ≤ w ∧ w ≤ 2147483647) : S kX5_ifPassed 7 [rr 88, ii t, ii w] I (q_i (fun ans I1 => ans = qIf s t w ∧ WF I I1)) := by
  have hR := hM.1
  have hG := hg.1.1
  have hn24 := hG.n24
  have h15 := hG.g15
  refine Sp_intro (by decide +kernel) (Nat.le_of_ble_eq_true rfl) ?_
  show Y kX5_ifPassed 7 0 [some (rr 88), some (ii t), some (ii w), none] [] I _
  refine X_iload dX5_ifPassed_0 rfl ?_
  refine X_iconst dX5_ifPassed_1 ?_
  refine X_bipush dX5_ifPassed_2 (by decide) ?_
  refine Y_pS dX5_ifPassed_4 cs_X5_81 (t5_in I (v := t) (a := 1) (b := 99) (by omega) (by decide) (by decide)) rfl ?_
  refine X_if_eq (tgt := 19) dX5_ifPassed_7 (by decide) (by split <;> omega) (fun c_7 => ?_) (fun c_7 => ?_)
  · have hin : ¬ (1 ≤ t ∧ t ≤ 99) := fun q => by rw [if_pos q] at c_7; exact absurd c_7 (by decide)
    refine X_bipush dX5_ifPassed_19 (by decide) ?_
    refine X_iret dX5_ifPassed_21 (Or.inl rfl) ?_
    exact ⟨rfl, rfl, _, rfl, by unfold qIf; rw [if_pos (by omega)], WF.rf⟩
  · have hin : 1 ≤ t ∧ t ≤ 99 := by
      by_cases q : 1 ≤ t ∧ t ≤ 99
      · exact q
      · rw [if_neg q] at c_7; exact absurd rfl c_7
    refine X_iload dX5_ifPassed_10 rfl ?_
    refine X_iconst dX5_ifPassed_11 ?_
    refine X_iconst dX5_ifPassed_12 ?_
    refine Y_pS dX5_ifPassed_13 cs_X5_81 (t5_in I (v := w) (a := 0) (b := 5) (by omega) (by decide) (by decide)) rfl ?_
    refine X_if_ne (tgt := 22) dX5_ifPassed_16 (by decide) (by split <;> omega) (fun c_16 => ?_) (fun c_16 => ?_)
    · have hin : 0 ≤ w ∧ w ≤ 5 := by
        by_cases q : 0 ≤ w ∧ w ≤ 5
        · exact q
        · rw [if_neg q] at c_16; exact absurd rfl c_16
      refine X_aload dX5_ifPassed_22 rfl ?_
      refine Y_vV dX5_ifPassed_23 cv_X5_84 sh_88 (by decide) (t5_copies I) rfl (fun I1 h1 => ?_)
      have hRb := h1.rr hR (by omega)
      obtain ⟨T, rfl⟩ := Int.eq_ofNat_of_zero_le (show 0 ≤ t by omega)
      refine X_aload dX5_ifPassed_26 rfl ?_
      refine X_sipush dX5_ifPassed_27 (by decide) ?_
      refine X_iload dX5_ifPassed_30 rfl ?_
      refine Y_iV dX5_ifPassed_31 cv_X5_75 sh_88 (by decide) (t5_passes hRb hG T (by omega) rfl) rfl (fun z2 I2 h2 => ?_)
      obtain ⟨rfl, hRb, hF2⟩ := h2
      have hF := h1.2.wf.trans hF2
      have hR := hF.r0 hn24 hR
      have hGT := hG.np T
      have hcl : ∀ v, qIf s (T : Int) w = v → v = qIf s (T : Int) w := fun v h => h.symm
      refine X_istore dX5_ifPassed_34 (by decide) ?_
      dsimp only [List.set]
      refine X_iload dX5_ifPassed_35 rfl ?_
      by_cases w_0 : w = 0
      · refine X_tswIn (v := 0) (tgt := 64) dX5_ifPassed_36 w_0 (by decide) (by decide) (by decide) rfl (by decide) ?_
        refine X_aload dX5_ifPassed_64 rfl ?_
        refine X_getR dX5_ifPassed_65 rfl gf_X5_7 sh_88 (by decide) rfl rf_88_0 ?_
        refine X_sipush dX5_ifPassed_68 (by decide) ?_
        refine Y_ald dX5_ifPassed_71 hRb (by omega) hn24 (18) (by omega) (by omega) ?_
        refine X_aload dX5_ifPassed_72 rfl ?_
        refine X_getR dX5_ifPassed_73 rfl gf_X5_7 sh_88 (by decide) rfl rf_88_0 ?_
        refine X_bipush dX5_ifPassed_76 (by decide) ?_
        refine Y_ald dX5_ifPassed_78 hR (by omega) hn24 (18) (by omega) (by omega) ?_
        refine X_isub dX5_ifPassed_79 ?_
        refine X_iret dX5_ifPassed_80 (Or.inl rfl) ?_
        refine ⟨rfl, rfl, _, rfl, ?_, hF⟩
        unfold qIf
        rw [if_neg (by omega), if_pos (by omega), Int.toNat_natCast]
      by_cases w_1 : w = 1
      · refine X_tswIn (v := 1) (tgt := 81) dX5_ifPassed_36 w_1 (by decide) (by decide) (by decide) rfl (by decide) ?_
        refine X_iload dX5_ifPassed_81 rfl ?_
        refine X_iret dX5_ifPassed_82 (Or.inl rfl) ?_
        refine ⟨rfl, rfl, _, rfl, ?_, hF⟩
        unfold qIf
        rw [if_neg (by omega), if_neg (by omega), if_pos (by omega), Int.toNat_natCast]
      by_cases w_2 : w = 2
      · refine X_tswIn (v := 2) (tgt := 83) dX5_ifPassed_36 w_2 (by decide) (by decide) (by decide) rfl (by decide) ?_
        refine X_aload dX5_ifPassed_83 rfl ?_
        refine X_sipush dX5_ifPassed_84 (by decide) ?_
        refine Y_pV dX5_ifPassed_87 cv_X5_140 sh_88 (by decide) (t5_heat hRb (by decide) hGT (ip := 215) rfl) rfl ?_
        refine X_iret dX5_ifPassed_90 (Or.inl rfl) ?_
        refine ⟨rfl, rfl, _, rfl, ?_, hF⟩
        unfold qIf
        rw [if_neg (by omega), if_neg (by omega), if_neg (by omega), if_pos (by omega), Int.toNat_natCast]
      refine X_tswOut (tgt := 91) dX5_ifPassed_36 (by omega) (by omega) (by decide) ?_
      refine X_aload dX5_ifPassed_91 rfl ?_
      refine X_sipush dX5_ifPassed_92 (by decide) ?_
      refine X_iload dX5_ifPassed_95 rfl ?_
      refine X_iconst dX5_ifPassed_96 ?_
      refine X_isub dX5_ifPassed_97 ?_
      refine X_iconst dX5_ifPassed_98 ?_
      refine Y_pV dX5_ifPassed_99 cv_X5_36 sh_88 (by decide) (t5_on hRb (by decide) hGT (ip := 215) rfl (w - 3) (by omega) 1 (by decide) rfl) rfl ?_
      refine X_iret dX5_ifPassed_102 (Or.inl rfl) ?_
      refine ⟨rfl, rfl, _, rfl, ?_, hF⟩
      unfold qIf
      rw [if_neg (by omega), if_neg (by omega), if_neg (by omega), if_neg (by omega), Int.toNat_natCast]
    · have hin : ¬ (0 ≤ w ∧ w ≤ 5) := fun q => by rw [if_pos q] at c_16; exact absurd c_16 (by decide)
      refine X_bipush dX5_ifPassed_19 (by decide) ?_
      refine X_iret dX5_ifPassed_21 (Or.inl rfl) ?_
      exact ⟨rfl, rfl, _, rfl, by unfold qIf; rw [if_pos (by omega)], WF.rf⟩
set_option maxRecDepth 20000 in
set_option maxHeartbeats 4000000 in
theorem t5_next_mv {I0 : xI} {s : xS} (hG : GI s.1 s.2) : ∀ (m k : Nat), k + m = 99 → ∀ (I : xI), RR I 215 (nvG s k) s.2 → WF I0 I → Y kX5_nextMove 6 6 [some (rr 88), some (ii ((k + 1 : Nat) : Int))] [] I (q_i (fun ans I2 => ans = nxM s m k ∧ WF I0 I2)) := by
  intro m
  induction m with
  | zero =>
    intro k hk I hR hF
    refine X_iload dX5_nextMove_6 rfl ?_
    refine X_bipush dX5_nextMove_7 (by decide) ?_
    refine X_icmp_gt (tgt := 30) dX5_nextMove_9 (by decide) (by omega) (fun c_9 => ?_) (fun c_9 => absurd c_9 (by omega))
    refine X_bipush dX5_nextMove_30 (by decide) ?_
    refine X_iret dX5_nextMove_32 (Or.inl rfl) ?_
    exact ⟨rfl, rfl, _, rfl, rfl, hF⟩
  | succ m ih =>
    intro k hk I hR hF
    refine X_iload dX5_nextMove_6 rfl ?_
    refine X_bipush dX5_nextMove_7 (by decide) ?_
    refine X_icmp_gt (tgt := 30) dX5_nextMove_9 (by decide) (by omega) (fun c_9 => absurd c_9 (by omega)) (fun c_9 => ?_)
    refine X_aload dX5_nextMove_12 rfl ?_
    refine X_sipush dX5_nextMove_13 (by decide) ?_
    refine Y_iV dX5_nextMove_16 cv_X5_61 sh_88 (by decide) (t5_passesOne hR (GI.nv hG k)) rfl (fun z1 I1 h1 => ?_)
    obtain ⟨rfl, hR, -, hF1⟩ := h1
    have hF := hF.trans hF1
    have hb := nsM_bounds (nvG s k) s.2 (nvG s k 3) 1
    change RR I1 215 (nvG s (k + 1)) s.2 at hR
    refine X_if_le (tgt := 24) dX5_nextMove_19 (by decide) (by omega) (fun c_19 => ?_) (fun c_19 => ?_)
    · have e : nxM s (m + 1) k = nxM s m (k + 1) := by
        show (if 0 < nvM s k then _ else _ : Int) = _
        unfold nvM
        rw [if_neg (by omega)]
      rw [e]
      refine X_iinc dX5_nextMove_24 rfl ?_
      dsimp only [List.set]
      refine X_goto (tgt := 6) dX5_nextMove_27 (by decide) ?_
      exact ih (k + 1) (by omega) _ hR hF
    · have e : nxM s (m + 1) k = ((k + 1 : Nat) : Int) := by
        show (if 0 < nvM s k then _ else _ : Int) = _
        unfold nvM
        rw [if_pos (by omega)]
      rw [e]
      refine X_iload dX5_nextMove_22 rfl ?_
      refine X_iret dX5_nextMove_23 (Or.inl rfl) ?_
      exact ⟨rfl, rfl, _, rfl, rfl, hF⟩
set_option maxRecDepth 20000 in
set_option maxHeartbeats 4000000 in
theorem m_nextMove {I : xI} {s : xS} {hs : List xS} {sn : Option xS} {tx : Nat → Int} {len : Nat} (hM : MI I s hs sn tx len) (hg : CG s hs sn tx len) : S kX5_nextMove 6 [rr 88] I (q_i (fun ans I1 => ans = qNext s ∧ WF I I1)) := by
  have hR := hM.1
  have hG := hg.1.1
  have hn24 := hG.n24
  have h15 := hG.g15
  refine Sp_intro (by decide +kernel) (Nat.le_of_ble_eq_true rfl) ?_
  show Y kX5_nextMove 6 0 [some (rr 88), none] [] I _
  refine X_aload dX5_nextMove_0 rfl ?_
  refine Y_vV dX5_nextMove_1 cv_X5_84 sh_88 (by decide) (t5_copies I) rfl (fun I1 h1 => ?_)
  have hRb := h1.rr hR (by omega)
  refine X_iconst dX5_nextMove_4 ?_
  refine X_istore dX5_nextMove_5 (by decide) ?_
  dsimp only [List.set]
  exact t5_next_mv hG 99 0 (by omega) I1 hRb h1.2.wf
set_option maxRecDepth 20000 in
set_option maxHeartbeats 4000000 in
theorem t5_cheap_loop {I : xI} {s : xS} (hR : RR I 0 s.1 s.2) (hG : GI s.1 s.2) (b : Int) (k : Nat) (hk : k < s.2) (r : Int) (hr : 0 ≤ r ∧ r ≤ 999) : ∀ (m j : Nat), j + m = 3 → 1 ≤ j → Y kX5_cheapest 2 38 [some (rr 88), some (ii b), some (ii r), some (ii (k : Int)), some (ii ((bsF (prS s.1 k r) j : Nat) : Int)), some (ii (prS s.1 k r (bsF (prS s.1 k r) j))), some (ii (j : Int)), none, none] [] I (q_p (ii ((bsF (prS s.1 k r) 3 : Nat) : Int)) I) := by
  have hn24 := hG.n24
  have h15 := hG.g15
  intro m
  induction m with
  | zero =>
    intro j hj h1
    refine X_iloadW dX5_cheapest_38 rfl ?_
    refine X_iconst dX5_cheapest_40 ?_
    refine X_icmp_ge (tgt := 138) dX5_cheapest_41 (by decide) (by omega) (fun c_41 => ?_) (fun c_41 => absurd c_41 (by omega))
    refine X_iloadW dX5_cheapest_138 rfl ?_
    refine X_iret dX5_cheapest_140 (Or.inl rfl) ?_
    obtain rfl : j = 3 := by omega
    exact ⟨rfl, rfl, rfl, rfl⟩
  | succ m ih =>
    intro j hj h1
    refine X_iloadW dX5_cheapest_38 rfl ?_
    refine X_iconst dX5_cheapest_40 ?_
    refine X_icmp_ge (tgt := 138) dX5_cheapest_41 (by decide) (by omega) (fun c_41 => absurd c_41 (by omega)) (fun c_41 => ?_)
    refine X_aload dX5_cheapest_44 rfl ?_
    refine X_getR dX5_cheapest_45 rfl gf_X5_7 sh_88 (by decide) rfl rf_88_0 ?_
    refine X_iconst dX5_cheapest_48 ?_
    refine X_iload dX5_cheapest_49 rfl ?_
    refine Y_pS dX5_cheapest_50 cs_X5_32 (t5_at _ _ _) rfl ?_
    refine X_iconst dX5_cheapest_53 ?_
    refine X_iadd dX5_cheapest_54 ?_
    refine Y_aldB dX5_cheapest_55 hR (by omega) hn24 (k) (1) (by omega) (by omega) (by omega) ?_
    refine X_bipush dX5_cheapest_56 (by decide) ?_
    refine X_aload dX5_cheapest_58 rfl ?_
    refine X_getR dX5_cheapest_59 rfl gf_X5_7 sh_88 (by decide) rfl rf_88_0 ?_
    refine X_bipush dX5_cheapest_62 (by decide) ?_
    refine X_iloadW dX5_cheapest_64 rfl ?_
    refine X_iadd dX5_cheapest_66 ?_
    refine Y_ald dX5_cheapest_67 hR (by omega) hn24 (9 + j) (by omega) (by omega) ?_
    refine X_imul dX5_cheapest_68 ?_
    refine X_iload dX5_cheapest_69 rfl ?_
    refine X_aload dX5_cheapest_70 rfl ?_
    refine X_getR dX5_cheapest_71 rfl gf_X5_7 sh_88 (by decide) rfl rf_88_0 ?_
    refine X_bipush dX5_cheapest_74 (by decide) ?_
    refine X_iloadW dX5_cheapest_76 rfl ?_
    refine X_iadd dX5_cheapest_78 ?_
    refine Y_ald dX5_cheapest_79 hR (by omega) hn24 (12 + j) (by omega) (by omega) ?_
    refine X_imul dX5_cheapest_80 ?_
    refine X_iadd dX5_cheapest_81 ?_
    refine X_imul dX5_cheapest_82 ?_
    rw [show gb s.1 k 1 * (10 * s.1 (9 + j) + r * s.1 (12 + j)) = prS s.1 k r j from rfl]
    have hp1 := prS_bounds hG hk (sh := j) (by omega) hr
    have hp2 := prS_bounds hG hk (sh := bsF (prS s.1 k r) j) (by have := bsF_le (prS s.1 k r) j; omega) hr
    refine X_istoreW dX5_cheapest_83 (by decide) ?_
    dsimp only [List.set]
    refine X_iloadW dX5_cheapest_85 rfl ?_
    refine X_if_eq (tgt := 97) dX5_cheapest_87 (by decide) (by omega) (fun c_87 => absurd c_87 (by omega)) (fun c_87 => ?_)
    refine X_iloadW dX5_cheapest_90 rfl ?_
    refine X_iloadW dX5_cheapest_92 rfl ?_
    refine X_icmp_ge (tgt := 101) dX5_cheapest_94 (by decide) (by omega) (fun c_94 => ?_) (fun c_94 => ?_)
    · refine X_iconst dX5_cheapest_101 ?_
      refine X_istoreW dX5_cheapest_102 (by decide) ?_
      dsimp only [List.set]
      refine X_iloadW dX5_cheapest_104 rfl ?_
      refine X_if_eq (tgt := 114) dX5_cheapest_106 (by decide) (by omega) (fun c_106 => ?_) (fun c_106 => ?_)
      · refine X_iloadW dX5_cheapest_114 rfl ?_
        refine X_istoreW dX5_cheapest_116 (by decide) ?_
        dsimp only [List.set]
        refine X_iloadW dX5_cheapest_118 rfl ?_
        refine X_if_eq (tgt := 128) dX5_cheapest_120 (by decide) (by omega) (fun c_120 => ?_) (fun c_120 => ?_)
        · refine X_iloadW dX5_cheapest_128 rfl ?_
          refine X_istoreW dX5_cheapest_130 (by decide) ?_
          dsimp only [List.set]
          refine X_iinc dX5_cheapest_132 rfl ?_
          dsimp only [List.set]
          refine X_goto (tgt := 38) dX5_cheapest_135 (by decide) ?_
          refine X_drop 7 ?_
          refine X_drop 8 ?_
          dsimp only [List.set]
          have ih1 := ih (j + 1) (by omega) (by omega)
          first
            | (exfalso; omega)
            | (rw [show bsF (prS s.1 k r) (j + 1) = j from by show (if _ then _ else _ : Nat) = _; rw [if_pos (by omega)]] at ih1; exact ih1)
            | (rw [show bsF (prS s.1 k r) (j + 1) = bsF (prS s.1 k r) j from by show (if _ then _ else _ : Nat) = _; rw [if_neg (by omega)]] at ih1; exact ih1)
        · refine X_iloadW dX5_cheapest_123 rfl ?_
          refine X_goto (tgt := 130) dX5_cheapest_125 (by decide) ?_
          refine X_istoreW dX5_cheapest_130 (by decide) ?_
          dsimp only [List.set]
          refine X_iinc dX5_cheapest_132 rfl ?_
          dsimp only [List.set]
          refine X_goto (tgt := 38) dX5_cheapest_135 (by decide) ?_
          refine X_drop 7 ?_
          refine X_drop 8 ?_
          dsimp only [List.set]
          have ih1 := ih (j + 1) (by omega) (by omega)
          first
            | (exfalso; omega)
            | (rw [show bsF (prS s.1 k r) (j + 1) = j from by show (if _ then _ else _ : Nat) = _; rw [if_pos (by omega)]] at ih1; exact ih1)
            | (rw [show bsF (prS s.1 k r) (j + 1) = bsF (prS s.1 k r) j from by show (if _ then _ else _ : Nat) = _; rw [if_neg (by omega)]] at ih1; exact ih1)
      · refine X_iloadW dX5_cheapest_109 rfl ?_
        refine X_goto (tgt := 116) dX5_cheapest_111 (by decide) ?_
        refine X_istoreW dX5_cheapest_116 (by decide) ?_
        dsimp only [List.set]
        refine X_iloadW dX5_cheapest_118 rfl ?_
        refine X_if_eq (tgt := 128) dX5_cheapest_120 (by decide) (by omega) (fun c_120 => ?_) (fun c_120 => ?_)
        · refine X_iloadW dX5_cheapest_128 rfl ?_
          refine X_istoreW dX5_cheapest_130 (by decide) ?_
          dsimp only [List.set]
          refine X_iinc dX5_cheapest_132 rfl ?_
          dsimp only [List.set]
          refine X_goto (tgt := 38) dX5_cheapest_135 (by decide) ?_
          refine X_drop 7 ?_
          refine X_drop 8 ?_
          dsimp only [List.set]
          have ih1 := ih (j + 1) (by omega) (by omega)
          first
            | (exfalso; omega)
            | (rw [show bsF (prS s.1 k r) (j + 1) = j from by show (if _ then _ else _ : Nat) = _; rw [if_pos (by omega)]] at ih1; exact ih1)
            | (rw [show bsF (prS s.1 k r) (j + 1) = bsF (prS s.1 k r) j from by show (if _ then _ else _ : Nat) = _; rw [if_neg (by omega)]] at ih1; exact ih1)
        · refine X_iloadW dX5_cheapest_123 rfl ?_
          refine X_goto (tgt := 130) dX5_cheapest_125 (by decide) ?_
          refine X_istoreW dX5_cheapest_130 (by decide) ?_
          dsimp only [List.set]
          refine X_iinc dX5_cheapest_132 rfl ?_
          dsimp only [List.set]
          refine X_goto (tgt := 38) dX5_cheapest_135 (by decide) ?_
          refine X_drop 7 ?_
          refine X_drop 8 ?_
          dsimp only [List.set]
          have ih1 := ih (j + 1) (by omega) (by omega)
          first
            | (exfalso; omega)
            | (rw [show bsF (prS s.1 k r) (j + 1) = j from by show (if _ then _ else _ : Nat) = _; rw [if_pos (by omega)]] at ih1; exact ih1)
            | (rw [show bsF (prS s.1 k r) (j + 1) = bsF (prS s.1 k r) j from by show (if _ then _ else _ : Nat) = _; rw [if_neg (by omega)]] at ih1; exact ih1)
    · refine X_iconst dX5_cheapest_97 ?_
      refine X_goto (tgt := 102) dX5_cheapest_98 (by decide) ?_
      refine X_istoreW dX5_cheapest_102 (by decide) ?_
      dsimp only [List.set]
      refine X_iloadW dX5_cheapest_104 rfl ?_
      refine X_if_eq (tgt := 114) dX5_cheapest_106 (by decide) (by omega) (fun c_106 => ?_) (fun c_106 => ?_)
      · refine X_iloadW dX5_cheapest_114 rfl ?_
        refine X_istoreW dX5_cheapest_116 (by decide) ?_
        dsimp only [List.set]
        refine X_iloadW dX5_cheapest_118 rfl ?_
        refine X_if_eq (tgt := 128) dX5_cheapest_120 (by decide) (by omega) (fun c_120 => ?_) (fun c_120 => ?_)
        · refine X_iloadW dX5_cheapest_128 rfl ?_
          refine X_istoreW dX5_cheapest_130 (by decide) ?_
          dsimp only [List.set]
          refine X_iinc dX5_cheapest_132 rfl ?_
          dsimp only [List.set]
          refine X_goto (tgt := 38) dX5_cheapest_135 (by decide) ?_
          refine X_drop 7 ?_
          refine X_drop 8 ?_
          dsimp only [List.set]
          have ih1 := ih (j + 1) (by omega) (by omega)
          first
            | (exfalso; omega)
            | (rw [show bsF (prS s.1 k r) (j + 1) = j from by show (if _ then _ else _ : Nat) = _; rw [if_pos (by omega)]] at ih1; exact ih1)
            | (rw [show bsF (prS s.1 k r) (j + 1) = bsF (prS s.1 k r) j from by show (if _ then _ else _ : Nat) = _; rw [if_neg (by omega)]] at ih1; exact ih1)
        · refine X_iloadW dX5_cheapest_123 rfl ?_
          refine X_goto (tgt := 130) dX5_cheapest_125 (by decide) ?_
          refine X_istoreW dX5_cheapest_130 (by decide) ?_
          dsimp only [List.set]
          refine X_iinc dX5_cheapest_132 rfl ?_
          dsimp only [List.set]
          refine X_goto (tgt := 38) dX5_cheapest_135 (by decide) ?_
          refine X_drop 7 ?_
          refine X_drop 8 ?_
          dsimp only [List.set]
          have ih1 := ih (j + 1) (by omega) (by omega)
          first
            | (exfalso; omega)
            | (rw [show bsF (prS s.1 k r) (j + 1) = j from by show (if _ then _ else _ : Nat) = _; rw [if_pos (by omega)]] at ih1; exact ih1)
            | (rw [show bsF (prS s.1 k r) (j + 1) = bsF (prS s.1 k r) j from by show (if _ then _ else _ : Nat) = _; rw [if_neg (by omega)]] at ih1; exact ih1)
      · refine X_iloadW dX5_cheapest_109 rfl ?_
        refine X_goto (tgt := 116) dX5_cheapest_111 (by decide) ?_
        refine X_istoreW dX5_cheapest_116 (by decide) ?_
        dsimp only [List.set]
        refine X_iloadW dX5_cheapest_118 rfl ?_
        refine X_if_eq (tgt := 128) dX5_cheapest_120 (by decide) (by omega) (fun c_120 => ?_) (fun c_120 => ?_)
        · refine X_iloadW dX5_cheapest_128 rfl ?_
          refine X_istoreW dX5_cheapest_130 (by decide) ?_
          dsimp only [List.set]
          refine X_iinc dX5_cheapest_132 rfl ?_
          dsimp only [List.set]
          refine X_goto (tgt := 38) dX5_cheapest_135 (by decide) ?_
          refine X_drop 7 ?_
          refine X_drop 8 ?_
          dsimp only [List.set]
          have ih1 := ih (j + 1) (by omega) (by omega)
          first
            | (exfalso; omega)
            | (rw [show bsF (prS s.1 k r) (j + 1) = j from by show (if _ then _ else _ : Nat) = _; rw [if_pos (by omega)]] at ih1; exact ih1)
            | (rw [show bsF (prS s.1 k r) (j + 1) = bsF (prS s.1 k r) j from by show (if _ then _ else _ : Nat) = _; rw [if_neg (by omega)]] at ih1; exact ih1)
        · refine X_iloadW dX5_cheapest_123 rfl ?_
          refine X_goto (tgt := 130) dX5_cheapest_125 (by decide) ?_
          refine X_istoreW dX5_cheapest_130 (by decide) ?_
          dsimp only [List.set]
          refine X_iinc dX5_cheapest_132 rfl ?_
          dsimp only [List.set]
          refine X_goto (tgt := 38) dX5_cheapest_135 (by decide) ?_
          refine X_drop 7 ?_
          refine X_drop 8 ?_
          dsimp only [List.set]
          have ih1 := ih (j + 1) (by omega) (by omega)
          first
            | (exfalso; omega)
            | (rw [show bsF (prS s.1 k r) (j + 1) = j from by show (if _ then _ else _ : Nat) = _; rw [if_pos (by omega)]] at ih1; exact ih1)
            | (rw [show bsF (prS s.1 k r) (j + 1) = bsF (prS s.1 k r) j from by show (if _ then _ else _ : Nat) = _; rw [if_neg (by omega)]] at ih1; exact ih1)
set_option maxRecDepth 20000 in
set_option maxHeartbeats 4000000 in
theorem m_cheapest {I : xI} {s : xS} {hs : List xS} {sn : Option xS} {tx : Nat → Int} {len : Nat} (hM : MI I s hs sn tx len) (hg : CG s hs sn tx len) (b : Int) (hb : -2147483648 ≤ b ∧ b ≤ 2147483647) (r : Int) (hr : -2147483648 ≤ r ∧ r ≤ 2147483647) : S kX5_cheapest 2 [rr 88, ii b, ii r] I (q_p (ii (qCheap s b r)) I) := by
  have hR := hM.1
  have hG := hg.1.1
  have hn24 := hG.n24
  have h15 := hG.g15
  refine Sp_intro (by decide +kernel) (Nat.le_of_ble_eq_true rfl) ?_
  show Y kX5_cheapest 2 0 [some (rr 88), some (ii b), some (ii r), none, none, none, none, none, none] [] I _
  rcases hp : pl s.1 s.2 b with _ | k
  · have hfd := t5_placeOf hM.1 (by decide) hg.1.1 (ip := 0) rfl b hb
    rw [hp] at hfd
    change S _ _ _ _ (q_p (ii (-5)) I) at hfd
    refine X_aload dX5_cheapest_0 rfl ?_
    refine X_iconst dX5_cheapest_1 ?_
    refine X_iload dX5_cheapest_2 rfl ?_
    refine Y_pV dX5_cheapest_3 cv_X5_65 sh_88 (by decide) hfd rfl ?_
    refine X_istore dX5_cheapest_6 (by decide) ?_
    dsimp only [List.set]
    refine X_iload dX5_cheapest_7 rfl ?_
    refine X_bipush dX5_cheapest_8 (by decide) ?_
    refine X_icmp_ne (tgt := 15) dX5_cheapest_10 (by decide) (by omega) (fun c_10 => absurd c_10 (by omega)) (fun c_10 => ?_)
    refine X_iconst dX5_cheapest_13 ?_
    refine X_iret dX5_cheapest_14 (Or.inl rfl) ?_
    exact ⟨by unfold qCheap; rw [hp], rfl, rfl, rfl⟩
  · have hk := pl_lt hp
    have hfd := t5_placeOf hM.1 (by decide) hg.1.1 (ip := 0) rfl b hb
    rw [hp] at hfd
    change S _ _ _ _ (q_p (ii ((k : Nat) : Int)) I) at hfd
    refine X_aload dX5_cheapest_0 rfl ?_
    refine X_iconst dX5_cheapest_1 ?_
    refine X_iload dX5_cheapest_2 rfl ?_
    refine Y_pV dX5_cheapest_3 cv_X5_65 sh_88 (by decide) hfd rfl ?_
    refine X_istore dX5_cheapest_6 (by decide) ?_
    dsimp only [List.set]
    refine X_iload dX5_cheapest_7 rfl ?_
    refine X_bipush dX5_cheapest_8 (by decide) ?_
    refine X_icmp_ne (tgt := 15) dX5_cheapest_10 (by decide) (by omega) (fun c_10 => ?_) (fun c_10 => absurd c_10 (by omega))
    refine X_iload dX5_cheapest_15 rfl ?_
    refine X_iconst dX5_cheapest_16 ?_
    refine X_sipush dX5_cheapest_17 (by decide) ?_
    refine Y_pS dX5_cheapest_20 cs_X5_81 (t5_in I (v := r) (a := 0) (b := 999) (by omega) (by decide) (by decide)) rfl ?_
    refine X_if_ne (tgt := 29) dX5_cheapest_23 (by decide) (by split <;> omega) (fun c_23 => ?_) (fun c_23 => ?_)
    · have hin : 0 ≤ r ∧ r ≤ 999 := by
        by_cases q : 0 ≤ r ∧ r ≤ 999
        · exact q
        · rw [if_neg q] at c_23; exact absurd rfl c_23
      refine X_iconst dX5_cheapest_29 ?_
      refine X_istoreW dX5_cheapest_30 (by decide) ?_
      dsimp only [List.set]
      refine X_iconst dX5_cheapest_32 ?_
      refine X_istoreW dX5_cheapest_33 (by decide) ?_
      dsimp only [List.set]
      refine X_iconst dX5_cheapest_35 ?_
      refine X_istoreW dX5_cheapest_36 (by decide) ?_
      dsimp only [List.set]
      refine X_iloadW dX5_cheapest_38 rfl ?_
      refine X_iconst dX5_cheapest_40 ?_
      refine X_icmp_ge (tgt := 138) dX5_cheapest_41 (by decide) (by decide) (fun c_41 => absurd c_41 (by decide)) (fun c_41 => ?_)
      refine X_aload dX5_cheapest_44 rfl ?_
      refine X_getR dX5_cheapest_45 rfl gf_X5_7 sh_88 (by decide) rfl rf_88_0 ?_
      refine X_iconst dX5_cheapest_48 ?_
      refine X_iload dX5_cheapest_49 rfl ?_
      refine Y_pS dX5_cheapest_50 cs_X5_32 (t5_at _ _ _) rfl ?_
      refine X_iconst dX5_cheapest_53 ?_
      refine X_iadd dX5_cheapest_54 ?_
      refine Y_aldB dX5_cheapest_55 hR (by omega) hn24 (k) (1) (by omega) (by omega) (by omega) ?_
      refine X_bipush dX5_cheapest_56 (by decide) ?_
      refine X_aload dX5_cheapest_58 rfl ?_
      refine X_getR dX5_cheapest_59 rfl gf_X5_7 sh_88 (by decide) rfl rf_88_0 ?_
      refine X_bipush dX5_cheapest_62 (by decide) ?_
      refine X_iloadW dX5_cheapest_64 rfl ?_
      refine X_iadd dX5_cheapest_66 ?_
      refine Y_ald dX5_cheapest_67 hR (by omega) hn24 (9) (by omega) (by omega) ?_
      refine X_imul dX5_cheapest_68 ?_
      refine X_iload dX5_cheapest_69 rfl ?_
      refine X_aload dX5_cheapest_70 rfl ?_
      refine X_getR dX5_cheapest_71 rfl gf_X5_7 sh_88 (by decide) rfl rf_88_0 ?_
      refine X_bipush dX5_cheapest_74 (by decide) ?_
      refine X_iloadW dX5_cheapest_76 rfl ?_
      refine X_iadd dX5_cheapest_78 ?_
      refine Y_ald dX5_cheapest_79 hR (by omega) hn24 (12) (by omega) (by omega) ?_
      refine X_imul dX5_cheapest_80 ?_
      refine X_iadd dX5_cheapest_81 ?_
      refine X_imul dX5_cheapest_82 ?_
      rw [show gb s.1 k 1 * (10 * s.1 9 + r * s.1 12) = prS s.1 k r 0 from rfl]
      refine X_istoreW dX5_cheapest_83 (by decide) ?_
      dsimp only [List.set]
      refine X_iloadW dX5_cheapest_85 rfl ?_
      refine X_if_eq (tgt := 97) dX5_cheapest_87 (by decide) (by decide) (fun c_87 => ?_) (fun c_87 => absurd rfl c_87)
      refine X_iconst dX5_cheapest_97 ?_
      refine X_goto (tgt := 102) dX5_cheapest_98 (by decide) ?_
      refine X_istoreW dX5_cheapest_102 (by decide) ?_
      dsimp only [List.set]
      refine X_iloadW dX5_cheapest_104 rfl ?_
      refine X_if_eq (tgt := 114) dX5_cheapest_106 (by decide) (by decide) (fun c_106 => absurd c_106 (by decide)) (fun c_106 => ?_)
      refine X_iloadW dX5_cheapest_109 rfl ?_
      refine X_goto (tgt := 116) dX5_cheapest_111 (by decide) ?_
      refine X_istoreW dX5_cheapest_116 (by decide) ?_
      dsimp only [List.set]
      refine X_iloadW dX5_cheapest_118 rfl ?_
      refine X_if_eq (tgt := 128) dX5_cheapest_120 (by decide) (by decide) (fun c_120 => absurd c_120 (by decide)) (fun c_120 => ?_)
      refine X_iloadW dX5_cheapest_123 rfl ?_
      refine X_goto (tgt := 130) dX5_cheapest_125 (by decide) ?_
      refine X_istoreW dX5_cheapest_130 (by decide) ?_
      dsimp only [List.set]
      refine X_iinc dX5_cheapest_132 rfl ?_
      dsimp only [List.set]
      refine X_goto (tgt := 38) dX5_cheapest_135 (by decide) ?_
      refine X_drop 7 ?_
      refine X_drop 8 ?_
      dsimp only [List.set]
      have h9 := t5_cheap_loop hR hG b k hk r (by omega) 2 1 (by omega) (by omega)
      rw [show bsF (prS s.1 k r) 1 = 0 from by show (if _ then _ else _ : Nat) = _; split <;> rfl] at h9
      have e1 : qCheap s b r = ((bsF (prS s.1 k r) 3 : Nat) : Int) := by
        unfold qCheap
        rw [hp]
        dsimp only
        rw [if_neg (by omega)]
      rw [e1]
      exact h9
    · have hin : ¬ (0 ≤ r ∧ r ≤ 999) := fun q => by rw [if_pos q] at c_23; exact absurd c_23 (by decide)
      refine X_bipush dX5_cheapest_26 (by decide) ?_
      refine X_iret dX5_cheapest_28 (Or.inl rfl) ?_
      exact ⟨by unfold qCheap; rw [hp]; dsimp only; rw [if_pos (by omega)], rfl, rfl, rfl⟩
set_option maxRecDepth 20000 in
set_option maxHeartbeats 4000000 in
theorem t5_best_loop {I0 : xI} {s : xS} (hS : SG s) (t : Nat) (ht : 1 ≤ t ∧ t ≤ 20) (w : Int) (hw : 0 ≤ w ∧ w ≤ 1) : ∀ (m j : Nat), j + m = 41 → ∀ (I : xI), RR I 0 s.1 s.2 → WF I0 I → Y kX5_bestHot 7 31 [some (rr 88), some (ii (t : Int)), some (ii w), some (ii (hcB (hbF s t j))), some (ii (hbL (hbF s t j))), some (ii (500 * (j : Int))), none, none, none] [] I (q_i (fun ans I2 => ans = (if w = 0 then hcB (hbF s t 41) else hbL (hbF s t 41)) ∧ WF I0 I2)) := by
  have hG := hS.1
  have hn24 := hG.n24
  have h15 := hG.g15
  have hs2 := hG.s2
  intro m
  induction m with
  | zero =>
    intro j hj I hR hF
    refine X_iloadW dX5_bestHot_31 rfl ?_
    refine X_sipush dX5_bestHot_33 (by decide) ?_
    refine X_icmp_gt (tgt := 147) dX5_bestHot_36 (by decide) (by omega) (fun c_36 => ?_) (fun c_36 => absurd c_36 (by omega))
    refine X_iload dX5_bestHot_147 rfl ?_
    refine X_if_ne (tgt := 155) dX5_bestHot_148 (by decide) (by omega) (fun c_148 => ?_) (fun c_148 => ?_)
    · rw [if_neg (by omega)]
      refine X_iloadW dX5_bestHot_155 rfl ?_
      refine X_iret dX5_bestHot_157 (Or.inl rfl) ?_
      obtain rfl : j = 41 := by omega
      exact ⟨rfl, rfl, _, rfl, rfl, hF⟩
    · rw [if_pos (by omega)]
      refine X_iload dX5_bestHot_151 rfl ?_
      refine X_goto (tgt := 157) dX5_bestHot_152 (by decide) ?_
      refine X_iret dX5_bestHot_157 (Or.inl rfl) ?_
      obtain rfl : j = 41 := by omega
      exact ⟨rfl, rfl, _, rfl, rfl, hF⟩
  | succ m ih =>
    intro j hj I hR hF
    rcases ho : hbF s t j with _ | ⟨b, l⟩
    · show Y kX5_bestHot 7 31 [some (rr 88), some (ii (t : Int)), some (ii w), some (ii (-5)), some (ii (0)), some (ii (500 * (j : Int))), none, none, none] [] I _
      refine X_iloadW dX5_bestHot_31 rfl ?_
      refine X_sipush dX5_bestHot_33 (by decide) ?_
      refine X_icmp_gt (tgt := 147) dX5_bestHot_36 (by decide) (by omega) (fun c_36 => absurd c_36 (by omega)) (fun c_36 => ?_)
      refine X_iloadW dX5_bestHot_39 rfl ?_
      refine X_aload dX5_bestHot_41 rfl ?_
      refine X_getR dX5_bestHot_42 rfl gf_X5_7 sh_88 (by decide) rfl rf_88_0 ?_
      refine X_iconst dX5_bestHot_45 ?_
      refine Y_ald dX5_bestHot_46 hR (by omega) hn24 (2) (by omega) (by omega) ?_
      refine X_icmp_lt (tgt := 138) dX5_bestHot_47 (by decide) (by omega) (fun c_47 => ?_) (fun c_47 => ?_)
      · refine X_iincW dX5_bestHot_138 rfl ?_
        dsimp only [List.set]
        refine X_goto (tgt := 31) dX5_bestHot_144 (by decide) ?_
        refine X_drop 6 ?_
        refine X_drop 7 ?_
        refine X_drop 8 ?_
        dsimp only [List.set]
        rw [show 500 * (j : Int) + 500 = 500 * ((j + 1 : Nat) : Int) by omega]
        have ih1 := ih (j + 1) (by omega) _ hR hF
        first
          | (exfalso; omega)
          | (rw [show hbF s t (j + 1) = some (500 * (j : Int), pwH s (500 * (j : Int)) t) from by rw [hbF, if_neg (by omega), ho]] at ih1; exact ih1)
          | (rw [show hbF s t (j + 1) = hbF s t j from by rw [hbF, if_pos (by omega)], ho] at ih1; exact ih1)
      · refine X_aload dX5_bestHot_50 rfl ?_
        refine Y_vV dX5_bestHot_51 cv_X5_84 sh_88 (by decide) (t5_copies I) rfl (fun I1 h1 => ?_)
        have hRb := h1.rr hR (by omega)
        have hR := h1.2.wf.r0 hn24 hR
        have hF := hF.trans h1.2.wf
        refine X_aload dX5_bestHot_54 rfl ?_
        refine X_getR dX5_bestHot_55 rfl gf_X5_7 sh_88 (by decide) rfl rf_88_0 ?_
        refine X_sipush dX5_bestHot_58 (by decide) ?_
        refine X_iloadW dX5_bestHot_61 rfl ?_
        refine Y_ast dX5_bestHot_63 hRb hn24 (1) (by omega) (by omega) (fun I63 hRb hK63 => ?_)
        have hF := hF.trans hK63.wf
        have hR := hK63.wf.r0 hn24 hR
        refine X_aload dX5_bestHot_64 rfl ?_
        refine X_sipush dX5_bestHot_65 (by decide) ?_
        refine X_iload dX5_bestHot_68 rfl ?_
        refine Y_iV dX5_bestHot_69 cv_X5_75 sh_88 (by decide) (t5_passes hRb (hG.hot (by omega)) t (by omega) rfl) rfl (fun z2 I2 h2 => ?_)
        obtain ⟨rfl, hRb, hF2⟩ := h2
        have hF := hF.trans hF2
        have hR := hF2.r0 hn24 hR
        have hpb := pwH_bounds hS (hot := 500 * (j : Int)) (by omega) t
        refine X_istoreW dX5_bestHot_72 (by decide) ?_
        dsimp only [List.set]
        refine X_aload dX5_bestHot_74 rfl ?_
        refine X_getR dX5_bestHot_75 rfl gf_X5_7 sh_88 (by decide) rfl rf_88_0 ?_
        refine X_sipush dX5_bestHot_78 (by decide) ?_
        refine Y_ald dX5_bestHot_81 hRb (by omega) hn24 (18) (by omega) (by omega) ?_
        refine X_aload dX5_bestHot_82 rfl ?_
        refine X_getR dX5_bestHot_83 rfl gf_X5_7 sh_88 (by decide) rfl rf_88_0 ?_
        refine X_bipush dX5_bestHot_86 (by decide) ?_
        refine Y_ald dX5_bestHot_88 hR (by omega) hn24 (18) (by omega) (by omega) ?_
        refine X_isub dX5_bestHot_89 ?_
        rw [show npG (gN s.1 1 (500 * (j : Int))) s.2 t 18 - s.1 18 = pwH s (500 * (j : Int)) t from rfl]
        refine X_istoreW dX5_bestHot_90 (by decide) ?_
        dsimp only [List.set]
        refine X_iload dX5_bestHot_92 rfl ?_
        refine X_bipush dX5_bestHot_93 (by decide) ?_
        refine X_icmp_eq (tgt := 105) dX5_bestHot_95 (by decide) (by omega) (fun c_95 => ?_) (fun c_95 => absurd c_95 (by omega))
        refine X_iconst dX5_bestHot_105 ?_
        refine X_goto (tgt := 110) dX5_bestHot_106 (by decide) ?_
        refine X_istoreW dX5_bestHot_110 (by decide) ?_
        dsimp only [List.set]
        refine X_iloadW dX5_bestHot_112 rfl ?_
        refine X_if_eq (tgt := 122) dX5_bestHot_114 (by decide) (by omega) (fun c_114 => ?_) (fun c_114 => ?_)
        · refine X_iload dX5_bestHot_122 rfl ?_
          refine X_istore dX5_bestHot_123 (by decide) ?_
          dsimp only [List.set]
          refine X_iloadW dX5_bestHot_124 rfl ?_
          refine X_if_eq (tgt := 134) dX5_bestHot_126 (by decide) (by omega) (fun c_126 => ?_) (fun c_126 => ?_)
          · refine X_iloadW dX5_bestHot_134 rfl ?_
            refine X_istoreW dX5_bestHot_136 (by decide) ?_
            dsimp only [List.set]
            refine X_iincW dX5_bestHot_138 rfl ?_
            dsimp only [List.set]
            refine X_goto (tgt := 31) dX5_bestHot_144 (by decide) ?_
            refine X_drop 6 ?_
            refine X_drop 7 ?_
            refine X_drop 8 ?_
            dsimp only [List.set]
            rw [show 500 * (j : Int) + 500 = 500 * ((j + 1 : Nat) : Int) by omega]
            have ih1 := ih (j + 1) (by omega) _ hR hF
            first
              | (exfalso; omega)
              | (rw [show hbF s t (j + 1) = some (500 * (j : Int), pwH s (500 * (j : Int)) t) from by rw [hbF, if_neg (by omega), ho]] at ih1; exact ih1)
              | (rw [show hbF s t (j + 1) = hbF s t j from by rw [hbF, if_pos (by omega)], ho] at ih1; exact ih1)
          · refine X_iloadW dX5_bestHot_129 rfl ?_
            refine X_goto (tgt := 136) dX5_bestHot_131 (by decide) ?_
            refine X_istoreW dX5_bestHot_136 (by decide) ?_
            dsimp only [List.set]
            refine X_iincW dX5_bestHot_138 rfl ?_
            dsimp only [List.set]
            refine X_goto (tgt := 31) dX5_bestHot_144 (by decide) ?_
            refine X_drop 6 ?_
            refine X_drop 7 ?_
            refine X_drop 8 ?_
            dsimp only [List.set]
            rw [show 500 * (j : Int) + 500 = 500 * ((j + 1 : Nat) : Int) by omega]
            have ih1 := ih (j + 1) (by omega) _ hR hF
            first
              | (exfalso; omega)
              | (rw [show hbF s t (j + 1) = some (500 * (j : Int), pwH s (500 * (j : Int)) t) from by rw [hbF, if_neg (by omega), ho]] at ih1; exact ih1)
              | (rw [show hbF s t (j + 1) = hbF s t j from by rw [hbF, if_pos (by omega)], ho] at ih1; exact ih1)
        · refine X_iloadW dX5_bestHot_117 rfl ?_
          refine X_goto (tgt := 123) dX5_bestHot_119 (by decide) ?_
          refine X_istore dX5_bestHot_123 (by decide) ?_
          dsimp only [List.set]
          refine X_iloadW dX5_bestHot_124 rfl ?_
          refine X_if_eq (tgt := 134) dX5_bestHot_126 (by decide) (by omega) (fun c_126 => ?_) (fun c_126 => ?_)
          · refine X_iloadW dX5_bestHot_134 rfl ?_
            refine X_istoreW dX5_bestHot_136 (by decide) ?_
            dsimp only [List.set]
            refine X_iincW dX5_bestHot_138 rfl ?_
            dsimp only [List.set]
            refine X_goto (tgt := 31) dX5_bestHot_144 (by decide) ?_
            refine X_drop 6 ?_
            refine X_drop 7 ?_
            refine X_drop 8 ?_
            dsimp only [List.set]
            rw [show 500 * (j : Int) + 500 = 500 * ((j + 1 : Nat) : Int) by omega]
            have ih1 := ih (j + 1) (by omega) _ hR hF
            first
              | (exfalso; omega)
              | (rw [show hbF s t (j + 1) = some (500 * (j : Int), pwH s (500 * (j : Int)) t) from by rw [hbF, if_neg (by omega), ho]] at ih1; exact ih1)
              | (rw [show hbF s t (j + 1) = hbF s t j from by rw [hbF, if_pos (by omega)], ho] at ih1; exact ih1)
          · refine X_iloadW dX5_bestHot_129 rfl ?_
            refine X_goto (tgt := 136) dX5_bestHot_131 (by decide) ?_
            refine X_istoreW dX5_bestHot_136 (by decide) ?_
            dsimp only [List.set]
            refine X_iincW dX5_bestHot_138 rfl ?_
            dsimp only [List.set]
            refine X_goto (tgt := 31) dX5_bestHot_144 (by decide) ?_
            refine X_drop 6 ?_
            refine X_drop 7 ?_
            refine X_drop 8 ?_
            dsimp only [List.set]
            rw [show 500 * (j : Int) + 500 = 500 * ((j + 1 : Nat) : Int) by omega]
            have ih1 := ih (j + 1) (by omega) _ hR hF
            first
              | (exfalso; omega)
              | (rw [show hbF s t (j + 1) = some (500 * (j : Int), pwH s (500 * (j : Int)) t) from by rw [hbF, if_neg (by omega), ho]] at ih1; exact ih1)
              | (rw [show hbF s t (j + 1) = hbF s t j from by rw [hbF, if_pos (by omega)], ho] at ih1; exact ih1)
    · show Y kX5_bestHot 7 31 [some (rr 88), some (ii (t : Int)), some (ii w), some (ii (b)), some (ii (l)), some (ii (500 * (j : Int))), none, none, none] [] I _
      have hbl := hbF_ok hS ht.2 (by omega) ho
      refine X_iloadW dX5_bestHot_31 rfl ?_
      refine X_sipush dX5_bestHot_33 (by decide) ?_
      refine X_icmp_gt (tgt := 147) dX5_bestHot_36 (by decide) (by omega) (fun c_36 => absurd c_36 (by omega)) (fun c_36 => ?_)
      refine X_iloadW dX5_bestHot_39 rfl ?_
      refine X_aload dX5_bestHot_41 rfl ?_
      refine X_getR dX5_bestHot_42 rfl gf_X5_7 sh_88 (by decide) rfl rf_88_0 ?_
      refine X_iconst dX5_bestHot_45 ?_
      refine Y_ald dX5_bestHot_46 hR (by omega) hn24 (2) (by omega) (by omega) ?_
      refine X_icmp_lt (tgt := 138) dX5_bestHot_47 (by decide) (by omega) (fun c_47 => ?_) (fun c_47 => ?_)
      · refine X_iincW dX5_bestHot_138 rfl ?_
        dsimp only [List.set]
        refine X_goto (tgt := 31) dX5_bestHot_144 (by decide) ?_
        refine X_drop 6 ?_
        refine X_drop 7 ?_
        refine X_drop 8 ?_
        dsimp only [List.set]
        rw [show 500 * (j : Int) + 500 = 500 * ((j + 1 : Nat) : Int) by omega]
        have ih1 := ih (j + 1) (by omega) _ hR hF
        first
          | (exfalso; omega)
          | (rw [show hbF s t (j + 1) = some (500 * (j : Int), pwH s (500 * (j : Int)) t) from by rw [hbF, if_neg (by omega), ho]; dsimp only; rw [if_pos (by omega)]] at ih1; exact ih1)
          | (rw [show hbF s t (j + 1) = hbF s t j from by rw [hbF, if_pos (by omega)], ho] at ih1; exact ih1)
          | (rw [show hbF s t (j + 1) = some (b, l) from by rw [hbF, if_neg (by omega), ho]; dsimp only; rw [if_neg (by omega)]] at ih1; exact ih1)
      · refine X_aload dX5_bestHot_50 rfl ?_
        refine Y_vV dX5_bestHot_51 cv_X5_84 sh_88 (by decide) (t5_copies I) rfl (fun I1 h1 => ?_)
        have hRb := h1.rr hR (by omega)
        have hR := h1.2.wf.r0 hn24 hR
        have hF := hF.trans h1.2.wf
        refine X_aload dX5_bestHot_54 rfl ?_
        refine X_getR dX5_bestHot_55 rfl gf_X5_7 sh_88 (by decide) rfl rf_88_0 ?_
        refine X_sipush dX5_bestHot_58 (by decide) ?_
        refine X_iloadW dX5_bestHot_61 rfl ?_
        refine Y_ast dX5_bestHot_63 hRb hn24 (1) (by omega) (by omega) (fun I63 hRb hK63 => ?_)
        have hF := hF.trans hK63.wf
        have hR := hK63.wf.r0 hn24 hR
        refine X_aload dX5_bestHot_64 rfl ?_
        refine X_sipush dX5_bestHot_65 (by decide) ?_
        refine X_iload dX5_bestHot_68 rfl ?_
        refine Y_iV dX5_bestHot_69 cv_X5_75 sh_88 (by decide) (t5_passes hRb (hG.hot (by omega)) t (by omega) rfl) rfl (fun z2 I2 h2 => ?_)
        obtain ⟨rfl, hRb, hF2⟩ := h2
        have hF := hF.trans hF2
        have hR := hF2.r0 hn24 hR
        have hpb := pwH_bounds hS (hot := 500 * (j : Int)) (by omega) t
        refine X_istoreW dX5_bestHot_72 (by decide) ?_
        dsimp only [List.set]
        refine X_aload dX5_bestHot_74 rfl ?_
        refine X_getR dX5_bestHot_75 rfl gf_X5_7 sh_88 (by decide) rfl rf_88_0 ?_
        refine X_sipush dX5_bestHot_78 (by decide) ?_
        refine Y_ald dX5_bestHot_81 hRb (by omega) hn24 (18) (by omega) (by omega) ?_
        refine X_aload dX5_bestHot_82 rfl ?_
        refine X_getR dX5_bestHot_83 rfl gf_X5_7 sh_88 (by decide) rfl rf_88_0 ?_
        refine X_bipush dX5_bestHot_86 (by decide) ?_
        refine Y_ald dX5_bestHot_88 hR (by omega) hn24 (18) (by omega) (by omega) ?_
        refine X_isub dX5_bestHot_89 ?_
        rw [show npG (gN s.1 1 (500 * (j : Int))) s.2 t 18 - s.1 18 = pwH s (500 * (j : Int)) t from rfl]
        refine X_istoreW dX5_bestHot_90 (by decide) ?_
        dsimp only [List.set]
        refine X_iload dX5_bestHot_92 rfl ?_
        refine X_bipush dX5_bestHot_93 (by decide) ?_
        refine X_icmp_eq (tgt := 105) dX5_bestHot_95 (by decide) (by omega) (fun c_95 => absurd c_95 (by omega)) (fun c_95 => ?_)
        refine X_iloadW dX5_bestHot_98 rfl ?_
        refine X_iloadW dX5_bestHot_100 rfl ?_
        refine X_icmp_ge (tgt := 109) dX5_bestHot_102 (by decide) (by omega) (fun c_102 => ?_) (fun c_102 => ?_)
        · refine X_iconst dX5_bestHot_109 ?_
          refine X_istoreW dX5_bestHot_110 (by decide) ?_
          dsimp only [List.set]
          refine X_iloadW dX5_bestHot_112 rfl ?_
          refine X_if_eq (tgt := 122) dX5_bestHot_114 (by decide) (by omega) (fun c_114 => ?_) (fun c_114 => ?_)
          · refine X_iload dX5_bestHot_122 rfl ?_
            refine X_istore dX5_bestHot_123 (by decide) ?_
            dsimp only [List.set]
            refine X_iloadW dX5_bestHot_124 rfl ?_
            refine X_if_eq (tgt := 134) dX5_bestHot_126 (by decide) (by omega) (fun c_126 => ?_) (fun c_126 => ?_)
            · refine X_iloadW dX5_bestHot_134 rfl ?_
              refine X_istoreW dX5_bestHot_136 (by decide) ?_
              dsimp only [List.set]
              refine X_iincW dX5_bestHot_138 rfl ?_
              dsimp only [List.set]
              refine X_goto (tgt := 31) dX5_bestHot_144 (by decide) ?_
              refine X_drop 6 ?_
              refine X_drop 7 ?_
              refine X_drop 8 ?_
              dsimp only [List.set]
              rw [show 500 * (j : Int) + 500 = 500 * ((j + 1 : Nat) : Int) by omega]
              have ih1 := ih (j + 1) (by omega) _ hR hF
              first
                | (exfalso; omega)
                | (rw [show hbF s t (j + 1) = some (500 * (j : Int), pwH s (500 * (j : Int)) t) from by rw [hbF, if_neg (by omega), ho]; dsimp only; rw [if_pos (by omega)]] at ih1; exact ih1)
                | (rw [show hbF s t (j + 1) = hbF s t j from by rw [hbF, if_pos (by omega)], ho] at ih1; exact ih1)
                | (rw [show hbF s t (j + 1) = some (b, l) from by rw [hbF, if_neg (by omega), ho]; dsimp only; rw [if_neg (by omega)]] at ih1; exact ih1)
            · refine X_iloadW dX5_bestHot_129 rfl ?_
              refine X_goto (tgt := 136) dX5_bestHot_131 (by decide) ?_
              refine X_istoreW dX5_bestHot_136 (by decide) ?_
              dsimp only [List.set]
              refine X_iincW dX5_bestHot_138 rfl ?_
              dsimp only [List.set]
              refine X_goto (tgt := 31) dX5_bestHot_144 (by decide) ?_
              refine X_drop 6 ?_
              refine X_drop 7 ?_
              refine X_drop 8 ?_
              dsimp only [List.set]
              rw [show 500 * (j : Int) + 500 = 500 * ((j + 1 : Nat) : Int) by omega]
              have ih1 := ih (j + 1) (by omega) _ hR hF
              first
                | (exfalso; omega)
                | (rw [show hbF s t (j + 1) = some (500 * (j : Int), pwH s (500 * (j : Int)) t) from by rw [hbF, if_neg (by omega), ho]; dsimp only; rw [if_pos (by omega)]] at ih1; exact ih1)
                | (rw [show hbF s t (j + 1) = hbF s t j from by rw [hbF, if_pos (by omega)], ho] at ih1; exact ih1)
                | (rw [show hbF s t (j + 1) = some (b, l) from by rw [hbF, if_neg (by omega), ho]; dsimp only; rw [if_neg (by omega)]] at ih1; exact ih1)
          · refine X_iloadW dX5_bestHot_117 rfl ?_
            refine X_goto (tgt := 123) dX5_bestHot_119 (by decide) ?_
            refine X_istore dX5_bestHot_123 (by decide) ?_
            dsimp only [List.set]
            refine X_iloadW dX5_bestHot_124 rfl ?_
            refine X_if_eq (tgt := 134) dX5_bestHot_126 (by decide) (by omega) (fun c_126 => ?_) (fun c_126 => ?_)
            · refine X_iloadW dX5_bestHot_134 rfl ?_
              refine X_istoreW dX5_bestHot_136 (by decide) ?_
              dsimp only [List.set]
              refine X_iincW dX5_bestHot_138 rfl ?_
              dsimp only [List.set]
              refine X_goto (tgt := 31) dX5_bestHot_144 (by decide) ?_
              refine X_drop 6 ?_
              refine X_drop 7 ?_
              refine X_drop 8 ?_
              dsimp only [List.set]
              rw [show 500 * (j : Int) + 500 = 500 * ((j + 1 : Nat) : Int) by omega]
              have ih1 := ih (j + 1) (by omega) _ hR hF
              first
                | (exfalso; omega)
                | (rw [show hbF s t (j + 1) = some (500 * (j : Int), pwH s (500 * (j : Int)) t) from by rw [hbF, if_neg (by omega), ho]; dsimp only; rw [if_pos (by omega)]] at ih1; exact ih1)
                | (rw [show hbF s t (j + 1) = hbF s t j from by rw [hbF, if_pos (by omega)], ho] at ih1; exact ih1)
                | (rw [show hbF s t (j + 1) = some (b, l) from by rw [hbF, if_neg (by omega), ho]; dsimp only; rw [if_neg (by omega)]] at ih1; exact ih1)
            · refine X_iloadW dX5_bestHot_129 rfl ?_
              refine X_goto (tgt := 136) dX5_bestHot_131 (by decide) ?_
              refine X_istoreW dX5_bestHot_136 (by decide) ?_
              dsimp only [List.set]
              refine X_iincW dX5_bestHot_138 rfl ?_
              dsimp only [List.set]
              refine X_goto (tgt := 31) dX5_bestHot_144 (by decide) ?_
              refine X_drop 6 ?_
              refine X_drop 7 ?_
              refine X_drop 8 ?_
              dsimp only [List.set]
              rw [show 500 * (j : Int) + 500 = 500 * ((j + 1 : Nat) : Int) by omega]
              have ih1 := ih (j + 1) (by omega) _ hR hF
              first
                | (exfalso; omega)
                | (rw [show hbF s t (j + 1) = some (500 * (j : Int), pwH s (500 * (j : Int)) t) from by rw [hbF, if_neg (by omega), ho]; dsimp only; rw [if_pos (by omega)]] at ih1; exact ih1)
                | (rw [show hbF s t (j + 1) = hbF s t j from by rw [hbF, if_pos (by omega)], ho] at ih1; exact ih1)
                | (rw [show hbF s t (j + 1) = some (b, l) from by rw [hbF, if_neg (by omega), ho]; dsimp only; rw [if_neg (by omega)]] at ih1; exact ih1)
        · refine X_iconst dX5_bestHot_105 ?_
          refine X_goto (tgt := 110) dX5_bestHot_106 (by decide) ?_
          refine X_istoreW dX5_bestHot_110 (by decide) ?_
          dsimp only [List.set]
          refine X_iloadW dX5_bestHot_112 rfl ?_
          refine X_if_eq (tgt := 122) dX5_bestHot_114 (by decide) (by omega) (fun c_114 => ?_) (fun c_114 => ?_)
          · refine X_iload dX5_bestHot_122 rfl ?_
            refine X_istore dX5_bestHot_123 (by decide) ?_
            dsimp only [List.set]
            refine X_iloadW dX5_bestHot_124 rfl ?_
            refine X_if_eq (tgt := 134) dX5_bestHot_126 (by decide) (by omega) (fun c_126 => ?_) (fun c_126 => ?_)
            · refine X_iloadW dX5_bestHot_134 rfl ?_
              refine X_istoreW dX5_bestHot_136 (by decide) ?_
              dsimp only [List.set]
              refine X_iincW dX5_bestHot_138 rfl ?_
              dsimp only [List.set]
              refine X_goto (tgt := 31) dX5_bestHot_144 (by decide) ?_
              refine X_drop 6 ?_
              refine X_drop 7 ?_
              refine X_drop 8 ?_
              dsimp only [List.set]
              rw [show 500 * (j : Int) + 500 = 500 * ((j + 1 : Nat) : Int) by omega]
              have ih1 := ih (j + 1) (by omega) _ hR hF
              first
                | (exfalso; omega)
                | (rw [show hbF s t (j + 1) = some (500 * (j : Int), pwH s (500 * (j : Int)) t) from by rw [hbF, if_neg (by omega), ho]; dsimp only; rw [if_pos (by omega)]] at ih1; exact ih1)
                | (rw [show hbF s t (j + 1) = hbF s t j from by rw [hbF, if_pos (by omega)], ho] at ih1; exact ih1)
                | (rw [show hbF s t (j + 1) = some (b, l) from by rw [hbF, if_neg (by omega), ho]; dsimp only; rw [if_neg (by omega)]] at ih1; exact ih1)
            · refine X_iloadW dX5_bestHot_129 rfl ?_
              refine X_goto (tgt := 136) dX5_bestHot_131 (by decide) ?_
              refine X_istoreW dX5_bestHot_136 (by decide) ?_
              dsimp only [List.set]
              refine X_iincW dX5_bestHot_138 rfl ?_
              dsimp only [List.set]
              refine X_goto (tgt := 31) dX5_bestHot_144 (by decide) ?_
              refine X_drop 6 ?_
              refine X_drop 7 ?_
              refine X_drop 8 ?_
              dsimp only [List.set]
              rw [show 500 * (j : Int) + 500 = 500 * ((j + 1 : Nat) : Int) by omega]
              have ih1 := ih (j + 1) (by omega) _ hR hF
              first
                | (exfalso; omega)
                | (rw [show hbF s t (j + 1) = some (500 * (j : Int), pwH s (500 * (j : Int)) t) from by rw [hbF, if_neg (by omega), ho]; dsimp only; rw [if_pos (by omega)]] at ih1; exact ih1)
                | (rw [show hbF s t (j + 1) = hbF s t j from by rw [hbF, if_pos (by omega)], ho] at ih1; exact ih1)
                | (rw [show hbF s t (j + 1) = some (b, l) from by rw [hbF, if_neg (by omega), ho]; dsimp only; rw [if_neg (by omega)]] at ih1; exact ih1)
          · refine X_iloadW dX5_bestHot_117 rfl ?_
            refine X_goto (tgt := 123) dX5_bestHot_119 (by decide) ?_
            refine X_istore dX5_bestHot_123 (by decide) ?_
            dsimp only [List.set]
            refine X_iloadW dX5_bestHot_124 rfl ?_
            refine X_if_eq (tgt := 134) dX5_bestHot_126 (by decide) (by omega) (fun c_126 => ?_) (fun c_126 => ?_)
            · refine X_iloadW dX5_bestHot_134 rfl ?_
              refine X_istoreW dX5_bestHot_136 (by decide) ?_
              dsimp only [List.set]
              refine X_iincW dX5_bestHot_138 rfl ?_
              dsimp only [List.set]
              refine X_goto (tgt := 31) dX5_bestHot_144 (by decide) ?_
              refine X_drop 6 ?_
              refine X_drop 7 ?_
              refine X_drop 8 ?_
              dsimp only [List.set]
              rw [show 500 * (j : Int) + 500 = 500 * ((j + 1 : Nat) : Int) by omega]
              have ih1 := ih (j + 1) (by omega) _ hR hF
              first
                | (exfalso; omega)
                | (rw [show hbF s t (j + 1) = some (500 * (j : Int), pwH s (500 * (j : Int)) t) from by rw [hbF, if_neg (by omega), ho]; dsimp only; rw [if_pos (by omega)]] at ih1; exact ih1)
                | (rw [show hbF s t (j + 1) = hbF s t j from by rw [hbF, if_pos (by omega)], ho] at ih1; exact ih1)
                | (rw [show hbF s t (j + 1) = some (b, l) from by rw [hbF, if_neg (by omega), ho]; dsimp only; rw [if_neg (by omega)]] at ih1; exact ih1)
            · refine X_iloadW dX5_bestHot_129 rfl ?_
              refine X_goto (tgt := 136) dX5_bestHot_131 (by decide) ?_
              refine X_istoreW dX5_bestHot_136 (by decide) ?_
              dsimp only [List.set]
              refine X_iincW dX5_bestHot_138 rfl ?_
              dsimp only [List.set]
              refine X_goto (tgt := 31) dX5_bestHot_144 (by decide) ?_
              refine X_drop 6 ?_
              refine X_drop 7 ?_
              refine X_drop 8 ?_
              dsimp only [List.set]
              rw [show 500 * (j : Int) + 500 = 500 * ((j + 1 : Nat) : Int) by omega]
              have ih1 := ih (j + 1) (by omega) _ hR hF
              first
                | (exfalso; omega)
                | (rw [show hbF s t (j + 1) = some (500 * (j : Int), pwH s (500 * (j : Int)) t) from by rw [hbF, if_neg (by omega), ho]; dsimp only; rw [if_pos (by omega)]] at ih1; exact ih1)
                | (rw [show hbF s t (j + 1) = hbF s t j from by rw [hbF, if_pos (by omega)], ho] at ih1; exact ih1)
                | (rw [show hbF s t (j + 1) = some (b, l) from by rw [hbF, if_neg (by omega), ho]; dsimp only; rw [if_neg (by omega)]] at ih1; exact ih1)
set_option maxRecDepth 20000 in
set_option maxHeartbeats 4000000 in
theorem m_bestHot {I : xI} {s : xS} {hs : List xS} {sn : Option xS} {tx : Nat → Int} {len : Nat} (hM : MI I s hs sn tx len) (hg : CG s hs sn tx len) (t : Int) (ht : -2147483648 ≤ t ∧ t ≤ 2147483647) (w : Int) (hw : -2147483648 ≤ w ∧ w ≤ 2147483647) : S kX5_bestHot 7 [rr 88, ii t, ii w] I (q_i (fun ans I1 => ans = qHot s t w ∧ WF I I1)) := by
  have hR := hM.1
  have hG := hg.1.1
  have hn24 := hG.n24
  have h15 := hG.g15
  refine Sp_intro (by decide +kernel) (Nat.le_of_ble_eq_true rfl) ?_
  show Y kX5_bestHot 7 0 [some (rr 88), some (ii t), some (ii w), none, none, none, none, none, none] [] I _
  refine X_iload dX5_bestHot_0 rfl ?_
  refine X_iconst dX5_bestHot_1 ?_
  refine X_bipush dX5_bestHot_2 (by decide) ?_
  refine Y_pS dX5_bestHot_4 cs_X5_81 (t5_in I (v := t) (a := 1) (b := 20) (by omega) (by decide) (by decide)) rfl ?_
  refine X_if_eq (tgt := 19) dX5_bestHot_7 (by decide) (by split <;> omega) (fun c_7 => ?_) (fun c_7 => ?_)
  · have hin : ¬ (1 ≤ t ∧ t ≤ 20) := fun q => by rw [if_pos q] at c_7; exact absurd c_7 (by decide)
    refine X_bipush dX5_bestHot_19 (by decide) ?_
    refine X_iret dX5_bestHot_21 (Or.inl rfl) ?_
    exact ⟨rfl, rfl, _, rfl, by unfold qHot; rw [if_pos (by omega)], WF.rf⟩
  · have hin : 1 ≤ t ∧ t ≤ 20 := by
      by_cases q : 1 ≤ t ∧ t ≤ 20
      · exact q
      · rw [if_neg q] at c_7; exact absurd rfl c_7
    refine X_iload dX5_bestHot_10 rfl ?_
    refine X_iconst dX5_bestHot_11 ?_
    refine X_iconst dX5_bestHot_12 ?_
    refine Y_pS dX5_bestHot_13 cs_X5_81 (t5_in I (v := w) (a := 0) (b := 1) (by omega) (by decide) (by decide)) rfl ?_
    refine X_if_ne (tgt := 22) dX5_bestHot_16 (by decide) (by split <;> omega) (fun c_16 => ?_) (fun c_16 => ?_)
    · have hin : 0 ≤ w ∧ w ≤ 1 := by
        by_cases q : 0 ≤ w ∧ w ≤ 1
        · exact q
        · rw [if_neg q] at c_16; exact absurd rfl c_16
      refine X_bipush dX5_bestHot_22 (by decide) ?_
      refine X_istore dX5_bestHot_24 (by decide) ?_
      dsimp only [List.set]
      refine X_iconst dX5_bestHot_25 ?_
      refine X_istoreW dX5_bestHot_26 (by decide) ?_
      dsimp only [List.set]
      refine X_iconst dX5_bestHot_28 ?_
      refine X_istoreW dX5_bestHot_29 (by decide) ?_
      dsimp only [List.set]
      obtain ⟨T, rfl⟩ := Int.eq_ofNat_of_zero_le (show 0 ≤ t by omega)
      have h9 := t5_best_loop (I0 := I) hg.1 T (by omega) w (by omega) 41 0 (by omega) I hR WF.rf
      have e1 : qHot s (T : Int) w = (if w = 0 then hcB (hbF s T 41) else hbL (hbF s T 41)) := by
        unfold qHot
        rw [if_neg (by omega), Int.toNat_natCast]
        obtain ⟨⟨b, l⟩, e⟩ := hbF_some hg.1 T
        rw [e]
        rfl
      rw [e1]
      exact h9
    · have hin : ¬ (0 ≤ w ∧ w ≤ 1) := fun q => by rw [if_pos q] at c_16; exact absurd c_16 (by decide)
      refine X_bipush dX5_bestHot_19 (by decide) ?_
      refine X_iret dX5_bestHot_21 (Or.inl rfl) ?_
      exact ⟨rfl, rfl, _, rfl, by unfold qHot; rw [if_pos (by omega)], WF.rf⟩
