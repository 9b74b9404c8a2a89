/-! isBest -/
/-- the state with another bound of heat -/
abbrev sx (s : xS) (x : Int) : xS := (gN s.1 1 x, s.2)
theorem sx_self (s : xS) : sx s (s.1 1) = s := by
  show (gN s.1 1 (s.1 1), s.2) = s
  rw [gN_self]
theorem set_hot {s : xS} {x v : Int} (hx : 0 ≤ x) (h2 : s.1 2 ≤ v) (hv : 0 ≤ v ∧ v ≤ 20000) : nxS (sx s x) (oSet (sx s x) 1 v) = sx s v ∧ ((oSet (sx s x) 1 v).1 = -5 ∨ (oSet (sx s x) 1 v).1 = x) := by
  have e1 : (oSet (sx s x) 1 v).1 = if x = v then -5 else x := by
    have hm : mx 1 = 20000 := rfl
    show csZ (gN s.1 1 x) s.2 1 v = _
    unfold csZ
    rw [if_neg (by decide), if_neg (by show ¬ (v < 0 ∨ mx 1 < v); omega), if_pos (show alD (gN s.1 1 x) s.2 (1 : Int).toNat v = true from alD_iff.mpr ⟨fun _ => h2, fun q => absurd q (by decide), fun q => absurd q (by decide)⟩)]
    rfl
  have e2 : (oSet (sx s x) 1 v).2 = sx s v := by
    show (gN (gN s.1 1 x) 1 v, s.2) = _
    rw [gN_gN]
  unfold nxS
  rw [e2, e1]
  by_cases e : x = v
  · rw [if_pos e, if_neg (by decide), e]
    exact ⟨rfl, Or.inl rfl⟩
  · rw [if_neg e, if_pos hx]
    exact ⟨rfl, Or.inr rfl⟩
set_option maxRecDepth 20000 in
set_option maxHeartbeats 4000000 in
theorem b_loop {s : xS} {J : xI} (hSG : SG s) (hI : IV s.1 s.2) (t : Nat) (ht : 1 ≤ t ∧ t ≤ 20) (b l : Int) (hbr : 0 ≤ b ∧ b ≤ 20000 ∧ 0 ≤ l ∧ l ≤ 648000) (hl : l = pwH s b t) (hbest : ∀ q : Nat, q < 41 → s.1 2 ≤ 500 * (q : Int) → (500 * (q : Int) < b → l < pwH s (500 * (q : Int)) t) ∧ (b ≤ 500 * (q : Int) → l ≤ pwH s (500 * (q : Int)) t)) : ∀ (m j : Nat), j + m = 41 → ∀ x : Int, 0 ≤ x → x ≤ 20000 → ∀ I, WK (sx s x) J I → Y kL_isBest 7 55 [some (rr 0), some (ii (t : Int)), some (ii b), some (ii l), some (ii (s.1 1)), some (ii 1), some (ii (500 * (j : Int))), none, none] [] I (q_i (fun ans I2 => ans = 1 ∧ WK s J I2)) := by
  have hg1 := hSG.1.s1
  have hg2 := hSG.1.s2
  have h12 := hI.2.1
  have hend : ∀ x : Int, 0 ≤ x → ∀ I, WK (sx s x) J I → Y kL_isBest 7 154 [some (rr 0), some (ii (t : Int)), some (ii b), some (ii l), some (ii (s.1 1)), some (ii 1), none, none, none] [] I (q_i (fun ans I2 => ans = 1 ∧ WK s J I2)) := by
    intro x hx I hW
    refine X_aload dL_isBest_154 rfl ?_
    refine X_iconst dL_isBest_155 ?_
    refine X_iloadW dL_isBest_156 rfl ?_
    refine Y_iV dL_isBest_158 cv_L_42 sh_0 (by decide) (u_set hW 1 (by decide) (s.1 1) (by omega)) rfl (fun z I hz => ?_)
    obtain ⟨ez, hW⟩ := hz
    rw [(set_hot hx h12 hg1).1, sx_self] at hW
    refine X_istoreW dL_isBest_161 (by decide) ?_
    dsimp only [List.set]
    refine X_iloadW dL_isBest_163 rfl ?_
    refine X_if_eq (tgt := 182) dL_isBest_165 (by decide) (by decide) (fun c_165 => absurd c_165 (by decide)) (fun c_165 => ?_)
    refine X_aload dL_isBest_168 rfl ?_
    refine X_iconst dL_isBest_169 ?_
    refine Y_pV dL_isBest_170 cv_L_8 sh_0 (by decide) (v_num hW 1 (by decide) rfl) rfl ?_
    refine X_iloadW dL_isBest_173 rfl ?_
    refine X_same_ne (tgt := 182) dL_isBest_175 (by decide) rfl ?_
    refine X_iconst dL_isBest_178 ?_
    refine X_goto (tgt := 183) dL_isBest_179 (by decide) ?_
    refine X_iret dL_isBest_183 (Or.inr ⟨rfl, by omega⟩) ?_
    exact ⟨rfl, rfl, _, rfl, rfl, hW⟩
  intro m
  induction m with
  | zero =>
    intro j hj x hx hx2 I hW
    refine X_iloadW dL_isBest_55 rfl ?_
    refine X_sipush dL_isBest_57 (by decide) ?_
    refine X_icmp_gt (tgt := 154) dL_isBest_60 (by decide) (by omega) (fun c_60 => ?_) (fun c_60 => absurd c_60 (by omega))
    refine X_drop 6 ?_
    dsimp only [List.set]
    exact hend x hx _ hW
  | succ m ih =>
    intro j hj x hx hx2 I hW
    refine X_iloadW dL_isBest_55 rfl ?_
    refine X_sipush dL_isBest_57 (by decide) ?_
    refine X_icmp_gt (tgt := 154) dL_isBest_60 (by decide) (by omega) (fun c_60 => absurd c_60 (by omega)) (fun c_60 => ?_)
    refine X_iloadW dL_isBest_63 rfl ?_
    refine X_if_eq (tgt := 154) dL_isBest_65 (by decide) (by decide) (fun c_65 => absurd c_65 (by decide)) (fun c_65 => ?_)
    refine X_iloadW dL_isBest_68 rfl ?_
    refine X_aload dL_isBest_70 rfl ?_
    refine X_iconst dL_isBest_71 ?_
    refine Y_pV dL_isBest_72 cv_L_8 sh_0 (by decide) (v_num hW 2 (by decide) rfl) rfl ?_
    rw [show (sx s x).1 2 = s.1 2 from rfl]
    refine X_icmp_lt (tgt := 145) dL_isBest_75 (by decide) (by omega) (fun c_75 => ?_) (fun c_75 => ?_)
    · refine X_iincW dL_isBest_145 rfl ?_
      dsimp only [List.set]
      refine X_goto (tgt := 55) dL_isBest_151 (by decide) ?_
      rw [show 500 * (j : Int) + 500 = 500 * ((j + 1 : Nat) : Int) by omega]
      exact ih (j + 1) (by omega) x (by omega) (by omega) _ hW
    · have hs9 := set_hot (x := x) hx c_75 (by omega : 0 ≤ 500 * (j : Int) ∧ 500 * (j : Int) ≤ 20000)
      have hp9 := hbest j (by omega) c_75
      refine X_aload dL_isBest_78 rfl ?_
      refine X_iconst dL_isBest_79 ?_
      refine X_iloadW dL_isBest_80 rfl ?_
      refine Y_iV dL_isBest_82 cv_L_42 sh_0 (by decide) (u_set hW 1 (by decide) (500 * (j : Int)) (by omega)) rfl (fun z I hz => ?_)
      obtain ⟨ez, hW⟩ := hz
      rw [hs9.1] at hW
      have hz9 := hs9.2
      rw [← ez] at hz9
      refine X_istoreW dL_isBest_85 (by decide) ?_
      dsimp only [List.set]
      refine X_aload dL_isBest_87 rfl ?_
      refine X_iload dL_isBest_88 rfl ?_
      refine X_iconst dL_isBest_89 ?_
      refine Y_iV dL_isBest_90 cv_L_25 sh_0 (by decide) (v_if0 hW t (by omega) rfl) rfl (fun y I hy => ?_)
      obtain ⟨ey, hW⟩ := hy
      have ey : y = pwH s (500 * (j : Int)) t := ey.trans pw_eq
      have hyb := pwH_bounds hSG (hot := 500 * (j : Int)) (by omega) t
      refine X_istoreW dL_isBest_93 (by decide) ?_
      dsimp only [List.set]
      refine X_iloadW dL_isBest_95 rfl ?_
      refine X_bipush dL_isBest_97 (by decide) ?_
      refine X_icmp_eq (tgt := 142) dL_isBest_99 (by decide) (by omega) (fun c_99 => absurd c_99 (by omega)) (fun c_99 => ?_)
      refine X_iloadW dL_isBest_102 rfl ?_
      refine X_iload dL_isBest_104 rfl ?_
      refine X_icmp_ge (tgt := 117) dL_isBest_105 (by decide) (by omega) (fun c_105 => ?_) (fun c_105 => ?_)
      · refine X_iloadW dL_isBest_117 rfl ?_
        refine X_iload dL_isBest_119 rfl ?_
        refine X_icmp_ne (tgt := 132) dL_isBest_120 (by decide) (by omega) (fun c_120 => ?_) (fun c_120 => ?_)
        · refine X_iloadW dL_isBest_132 rfl ?_
          refine X_iload dL_isBest_134 rfl ?_
          refine X_icmp_lt (tgt := 142) dL_isBest_135 (by decide) (by omega) (fun c_135 => absurd c_135 (by omega)) (fun c_135 => ?_)
          refine X_iconst dL_isBest_138 ?_
          refine X_goto (tgt := 143) dL_isBest_139 (by decide) ?_
          refine X_istoreW dL_isBest_143 (by decide) ?_
          dsimp only [List.set]
          refine X_iincW dL_isBest_145 rfl ?_
          dsimp only [List.set]
          refine X_goto (tgt := 55) dL_isBest_151 (by decide) ?_
          refine X_drop 7 ?_
          refine X_drop 8 ?_
          dsimp only [List.set]
          rw [show 500 * (j : Int) + 500 = 500 * ((j + 1 : Nat) : Int) by omega]
          exact ih (j + 1) (by omega) (500 * (j : Int)) (by omega) (by omega) _ hW
        · refine X_iloadW dL_isBest_123 rfl ?_
          refine X_iload dL_isBest_125 rfl ?_
          refine X_icmp_ne (tgt := 142) dL_isBest_126 (by decide) (by omega) (fun c_126 => absurd c_126 (by have e9 : pwH s (500 * (j : Int)) t = l := by { rw [show 500 * (j : Int) = b by omega]; exact hl.symm }; omega)) (fun c_126 => ?_)
          refine X_goto (tgt := 138) dL_isBest_129 (by decide) ?_
          refine X_iconst dL_isBest_138 ?_
          refine X_goto (tgt := 143) dL_isBest_139 (by decide) ?_
          refine X_istoreW dL_isBest_143 (by decide) ?_
          dsimp only [List.set]
          refine X_iincW dL_isBest_145 rfl ?_
          dsimp only [List.set]
          refine X_goto (tgt := 55) dL_isBest_151 (by decide) ?_
          refine X_drop 7 ?_
          refine X_drop 8 ?_
          dsimp only [List.set]
          rw [show 500 * (j : Int) + 500 = 500 * ((j + 1 : Nat) : Int) by omega]
          exact ih (j + 1) (by omega) (500 * (j : Int)) (by omega) (by omega) _ hW
      · refine X_iloadW dL_isBest_108 rfl ?_
        refine X_iload dL_isBest_110 rfl ?_
        refine X_icmp_le (tgt := 142) dL_isBest_111 (by decide) (by omega) (fun c_111 => absurd c_111 (by omega)) (fun c_111 => ?_)
        refine X_goto (tgt := 138) dL_isBest_114 (by decide) ?_
        refine X_iconst dL_isBest_138 ?_
        refine X_goto (tgt := 143) dL_isBest_139 (by decide) ?_
        refine X_istoreW dL_isBest_143 (by decide) ?_
        dsimp only [List.set]
        refine X_iincW dL_isBest_145 rfl ?_
        dsimp only [List.set]
        refine X_goto (tgt := 55) dL_isBest_151 (by decide) ?_
        refine X_drop 7 ?_
        refine X_drop 8 ?_
        dsimp only [List.set]
        rw [show 500 * (j : Int) + 500 = 500 * ((j + 1 : Nat) : Int) by omega]
        exact ih (j + 1) (by omega) (500 * (j : Int)) (by omega) (by omega) _ hW
set_option maxRecDepth 20000 in
set_option maxHeartbeats 4000000 in
theorem h_best {s : xS} {J I : xI} (hW : WK s J I) (hI : IV s.1 s.2) (t : Nat) (ht : 1 ≤ t ∧ t ≤ 20) : S kL_isBest 7 [rr 0, ii (t : Int)] I (q_i (fun ans I2 => ans = 1 ∧ WK s J I2)) := by
  have hSG := hW.sg
  have hg1 := hSG.1.s1
  have hg2 := hSG.1.s2
  obtain ⟨⟨b, l⟩, hb⟩ := hbF_some hSG t
  have hbr := hbF_ok hSG ht.2 (Nat.le_refl 41) hb
  have hbb := hb_best (s := s) (t := t) (i := 41)
  rw [hb] at hbb
  obtain ⟨⟨q0, hq0, hq1⟩, hb2, hl, hbest⟩ := hbb
  refine Sp_intro (by decide +kernel) (Nat.le_of_ble_eq_true rfl) ?_
  show Y kL_isBest 7 0 [some (rr 0), some (ii (t : Int)), none, none, none, none, none, none, none] [] I _
  refine X_aload dL_isBest_0 rfl ?_
  refine X_iload dL_isBest_1 rfl ?_
  refine X_iconst dL_isBest_2 ?_
  refine Y_iV dL_isBest_3 cv_L_39 sh_0 (by decide) (v_hot0 hW t ht hb rfl) rfl (fun z I hz => ?_)
  obtain ⟨ez, hW⟩ := hz
  rw [ez]
  clear ez z
  refine X_istore dL_isBest_6 (by decide) ?_
  dsimp only [List.set]
  refine X_aload dL_isBest_7 rfl ?_
  refine X_iload dL_isBest_8 rfl ?_
  refine X_iconst dL_isBest_9 ?_
  refine Y_iV dL_isBest_10 cv_L_39 sh_0 (by decide) (v_hot1 hW t ht hb rfl) rfl (fun z I hz => ?_)
  obtain ⟨ez, hW⟩ := hz
  rw [ez]
  clear ez z
  refine X_istore dL_isBest_13 (by decide) ?_
  dsimp only [List.set]
  refine X_aload dL_isBest_14 rfl ?_
  refine X_iconst dL_isBest_15 ?_
  refine Y_pV dL_isBest_16 cv_L_8 sh_0 (by decide) (v_num hW 1 (by decide) rfl) rfl ?_
  refine X_istoreW dL_isBest_19 (by decide) ?_
  dsimp only [List.set]
  refine X_iload dL_isBest_21 rfl ?_
  refine X_sipush dL_isBest_22 (by decide) ?_
  refine X_irem dL_isBest_25 (by omega) (by omega) ?_
  refine X_if_ne (tgt := 49) dL_isBest_26 (by decide) (by omega) (fun c_26 => absurd c_26 (by omega)) (fun c_26 => ?_)
  refine X_iload dL_isBest_29 rfl ?_
  refine X_aload dL_isBest_30 rfl ?_
  refine X_iconst dL_isBest_31 ?_
  refine Y_pV dL_isBest_32 cv_L_8 sh_0 (by decide) (v_num hW 2 (by decide) rfl) rfl ?_
  refine X_icmp_lt (tgt := 49) dL_isBest_35 (by decide) (by omega) (fun c_35 => absurd c_35 (by omega)) (fun c_35 => ?_)
  refine X_iload dL_isBest_38 rfl ?_
  refine X_sipush dL_isBest_39 (by decide) ?_
  refine X_icmp_gt (tgt := 49) dL_isBest_42 (by decide) (by omega) (fun c_42 => absurd c_42 (by omega)) (fun c_42 => ?_)
  refine X_iconst dL_isBest_45 ?_
  refine X_goto (tgt := 50) dL_isBest_46 (by decide) ?_
  refine X_istoreW dL_isBest_50 (by decide) ?_
  dsimp only [List.set]
  refine X_iconst dL_isBest_52 ?_
  refine X_istoreW dL_isBest_53 (by decide) ?_
  dsimp only [List.set]
  exact b_loop hSG hI t ht b l hbr hl hbest 41 0 (Nat.zero_add _) (s.1 1) (by omega) (by omega) _ (by rw [sx_self]; exact hW)
