/-! low; does -/
set_option maxRecDepth 20000 in
set_option maxHeartbeats 4000000 in
theorem h_low (z n : Int) (hn : 0 < n ∧ n ≤ 2147483647) (I : xI) : S kL_low 0 [ii z, ii n] I (q_i (fun ans I1 => (0 ≤ ans ∧ ans < n) ∧ I1 = I)) := by
  refine Sp_intro (by decide +kernel) (Nat.le_of_ble_eq_true rfl) ?_
  show Y kL_low 0 0 [some (ii z), some (ii n)] [] I _
  refine X_iload dL_low_0 rfl ?_
  refine X_ldc (z := 2147483647) dL_low_1 rfl lw_L_7 (by decide) ?_
  refine X_iandm dL_low_3 (by decide) (fun r hr => ?_)
  refine X_iload dL_low_4 rfl ?_
  refine X_irem dL_low_5 (by omega) (by omega) ?_
  refine X_iret dL_low_6 (Or.inl rfl) ?_
  exact ⟨rfl, rfl, _, rfl, ⟨Int.emod_nonneg _ (by omega), Int.emod_lt_of_pos _ hn.1⟩, rfl⟩
/-- the block that the law takes: none there is, or a number of one that is there -/
def BK (s : xS) (blk : Int) : Prop := (s.2 = 0 ∧ blk = 0) ∨ ∃ k, k < s.2 ∧ blk = gb s.1 k 0
theorem BK.rg {s : xS} {blk : Int} (h : BK s blk) (hG : GI s.1 s.2) : 0 ≤ blk ∧ blk ≤ 999 := by
  rcases h with h | ⟨k, hk, e⟩
  · omega
  · have := (hG.b hk).1; omega
theorem pl_0 {g : Nat → Int} {n : Nat} {b : Int} (h : n = 0) : pl g n b = none := pl_no (fun k hk => by omega)
theorem fr_0 {g : Nat → Int} {n : Nat} {z : Int} (h : onF g n (0 : Nat) 1 + z ≤ g 6) : fr g n z = some 0 := by
  unfold fr
  rw [if_pos (rmB_iff.mpr h)]
theorem fr_1 {g : Nat → Int} {n : Nat} {z : Int} (h0 : g 6 < onF g n (0 : Nat) 1 + z) (h : onF g n (1 : Nat) 1 + z ≤ g 7) : fr g n z = some 1 := by
  unfold fr
  rw [if_neg (fun q => by have := rmB_iff.mp q; rw [show (6 : Nat) + 0 = 6 from rfl] at this; omega), if_pos (rmB_iff.mpr h)]
theorem fr_2 {g : Nat → Int} {n : Nat} {z : Int} (h0 : g 6 < onF g n (0 : Nat) 1 + z) (h1 : g 7 < onF g n (1 : Nat) 1 + z) (h : onF g n (2 : Nat) 1 + z ≤ g 8) : fr g n z = some 2 := by
  unfold fr
  rw [if_neg (fun q => by have := rmB_iff.mp q; rw [show (6 : Nat) + 0 = 6 from rfl] at this; omega), if_neg (fun q => by have := rmB_iff.mp q; rw [show (6 : Nat) + 1 = 7 from rfl] at this; omega), if_pos (rmB_iff.mpr h)]
theorem fr_n {g : Nat → Int} {n : Nat} {z : Int} (h0 : g 6 < onF g n (0 : Nat) 1 + z) (h1 : g 7 < onF g n (1 : Nat) 1 + z) (h : g 8 < onF g n (2 : Nat) 1 + z) : fr g n z = none := by
  unfold fr
  rw [if_neg (fun q => by have := rmB_iff.mp q; rw [show (6 : Nat) + 0 = 6 from rfl] at this; omega), if_neg (fun q => by have := rmB_iff.mp q; rw [show (6 : Nat) + 1 = 7 from rfl] at this; omega), if_neg (fun q => by have := rmB_iff.mp q; rw [show (6 : Nat) + 2 = 8 from rfl] at this; omega)]
theorem add_full {s : xS} {z : Int} (hz : 1 ≤ z ∧ z ≤ 9) (h : s.2 = 24 ∨ fr s.1 s.2 z = none) : (oAdd s z).1 = -3 ∧ nxS s (oAdd s z) = s := by
  have e1 : (oAdd s z).1 = -3 := by
    show adZ s.1 s.2 z = -3
    unfold adZ
    rw [if_neg (by omega)]
    cases hf : fr s.1 s.2 z with
    | none => rfl
    | some sh =>
      rcases h with h | h
      · show (if s.2 = 24 ∨ 999 < s.1 16 then (-3 : Int) else s.1 16) = -3
        rw [if_pos (Or.inl h)]
      · rw [hf] at h; cases h
  refine ⟨e1, ?_⟩
  unfold nxS
  rw [e1, if_neg (by decide)]
theorem add_room {s : xS} {z : Int} {sh : Nat} (hz : 1 ≤ z ∧ z ≤ 9) (h : s.2 ≠ 24) (h16 : 0 ≤ s.1 16 ∧ s.1 16 ≤ 999) (hf : fr s.1 s.2 z = some sh) : (oAdd s z).1 = s.1 16 ∧ nxS s (oAdd s z) = (adG s.1 s.2 z sh, s.2 + 1) := by
  have e1 : (oAdd s z).1 = s.1 16 := by
    show adZ s.1 s.2 z = s.1 16
    unfold adZ
    rw [if_neg (by omega), hf]
    show (if s.2 = 24 ∨ 999 < s.1 16 then (-3 : Int) else s.1 16) = s.1 16
    rw [if_neg (by omega)]
  refine ⟨e1, ?_⟩
  unfold nxS
  rw [e1, if_pos h16.1]
  unfold oAdd
  rw [hf]
set_option maxRecDepth 20000 in
set_option maxHeartbeats 4000000 in
theorem c_add2 {s : xS} {J : xI} {e : Nat} (he : e ≤ 100) (hI : IV s.1 s.2) (hE : EV s e) (v w : Int) (hv : -2147483648 ≤ v ∧ v ≤ 2147483647) (hw : -2147483648 ≤ w ∧ w ≤ 2147483647) (blk : Int) (z : Int) (hz : 1 ≤ z ∧ z ≤ 9) : ∀ I, WK s J I → Y kL_does 8 106 [some (rr 0), some (ii v), some (ii w), some (ii (s.2 : Int)), some (ii blk), none, none, none, none, none, none, none, none, none, none, none, none, none, none, none, none] [ii z] I (q_i (fun ans I2 => ans = 1 ∧ NX J e I2)) := by
  intro I hW
  have hG := hW.g
  have hn24 := hG.n24
  have h16 : 0 ≤ s.1 16 ∧ s.1 16 ≤ 999 := by have := hG.s16; have := hE.1; omega
  have o0 := on_bounds hG ((0 : Nat) : Int)
  have o1 := on_bounds hG ((1 : Nat) : Int)
  have o2 := on_bounds hG ((2 : Nat) : Int)
  have s6 := hG.s6 (j := 0) (by decide)
  have s7 := hG.s6 (j := 1) (by decide)
  have s8 := hG.s6 (j := 2) (by decide)
  rw [show (6 : Nat) + 0 = 6 from rfl] at s6
  rw [show (6 : Nat) + 1 = 7 from rfl] at s7
  rw [show (6 : Nat) + 2 = 8 from rfl] at s8
  have hA1 : s.2 = 24 → ∀ d : Int, -1 ≤ d ∧ d ≤ 2 → ∀ I, WK s J I → Y kL_does 8 183 [some (rr 0), some (ii v), some (ii w), some (ii (s.2 : Int)), some (ii blk), some (ii z), some (ii (s.1 16)), none, none, none, none, none, none, none, none, none, none, none, none, none, none] [ii d] I (q_i (fun ans I2 => ans = 1 ∧ NX J e I2)) := by
    intro h24 d hd I hW
    refine X_istoreW dL_does_183 (by decide) ?_
    dsimp only [List.set]
    refine X_aload dL_does_185 rfl ?_
    refine X_iloadW dL_does_186 rfl ?_
    refine Y_iV dL_does_188 cv_L_50 sh_0 (by decide) (u_add hW z (by omega)) rfl (fun y I hy => ?_)
    obtain ⟨ey, hW⟩ := hy
    have hp := add_full hz (Or.inl h24)
    rw [hp.1] at ey
    rw [hp.2] at hW
    rw [ey]
    refine X_istoreW dL_does_191 (by decide) ?_
    dsimp only [List.set]
    refine X_iload dL_does_193 rfl ?_
    refine X_bipush dL_does_194 (by decide) ?_
    refine X_icmp_eq (tgt := 204) dL_does_196 (by decide) (by omega) (fun c_196 => ?_) (fun c_196 => absurd c_196 (by omega))
    refine X_iloadW dL_does_204 rfl ?_
    refine X_bipush dL_does_206 (by decide) ?_
    refine X_same_ne (tgt := 215) dL_does_208 (by decide) rfl ?_
    refine X_iconst dL_does_211 ?_
    refine X_goto (tgt := 266) dL_does_212 (by decide) ?_
    refine X_iret dL_does_266 (Or.inr ⟨rfl, by omega⟩) ?_
    exact ⟨rfl, rfl, _, rfl, rfl, s, hW, hI, hE.up⟩
  have hA2 : s.2 ≠ 24 → fr s.1 s.2 z = none → ∀ I, WK s J I → Y kL_does 8 183 [some (rr 0), some (ii v), some (ii w), some (ii (s.2 : Int)), some (ii blk), some (ii z), some (ii (s.1 16)), none, none, none, none, none, none, none, none, none, none, none, none, none, none] [ii (-1)] I (q_i (fun ans I2 => ans = 1 ∧ NX J e I2)) := by
    intro h24 hf I hW
    refine X_istoreW dL_does_183 (by decide) ?_
    dsimp only [List.set]
    refine X_aload dL_does_185 rfl ?_
    refine X_iloadW dL_does_186 rfl ?_
    refine Y_iV dL_does_188 cv_L_50 sh_0 (by decide) (u_add hW z (by omega)) rfl (fun y I hy => ?_)
    obtain ⟨ey, hW⟩ := hy
    have hp := add_full hz (Or.inr hf)
    rw [hp.1] at ey
    rw [hp.2] at hW
    rw [ey]
    refine X_istoreW dL_does_191 (by decide) ?_
    dsimp only [List.set]
    refine X_iload dL_does_193 rfl ?_
    refine X_bipush dL_does_194 (by decide) ?_
    refine X_icmp_eq (tgt := 204) dL_does_196 (by decide) (by omega) (fun c_196 => absurd c_196 (by omega)) (fun c_196 => ?_)
    refine X_iloadW dL_does_199 rfl ?_
    refine X_if_ge (tgt := 219) dL_does_201 (by decide) (by decide) (fun c_201 => absurd c_201 (by decide)) (fun c_201 => ?_)
    refine X_iloadW dL_does_204 rfl ?_
    refine X_bipush dL_does_206 (by decide) ?_
    refine X_same_ne (tgt := 215) dL_does_208 (by decide) rfl ?_
    refine X_iconst dL_does_211 ?_
    refine X_goto (tgt := 266) dL_does_212 (by decide) ?_
    refine X_iret dL_does_266 (Or.inr ⟨rfl, by omega⟩) ?_
    exact ⟨rfl, rfl, _, rfl, rfl, s, hW, hI, hE.up⟩
  have hB : s.2 ≠ 24 → ∀ sh : Nat, fr s.1 s.2 z = some sh → ∀ I, WK s J I → Y kL_does 8 183 [some (rr 0), some (ii v), some (ii w), some (ii (s.2 : Int)), some (ii blk), some (ii z), some (ii (s.1 16)), none, none, none, none, none, none, none, none, none, none, none, none, none, none] [ii (sh : Int)] I (q_i (fun ans I2 => ans = 1 ∧ NX J e I2)) := by
    intro h24 sh hf I hW
    have hs := fr_lt hf
    have hk1 : s.2 < (adG s.1 s.2 z sh, s.2 + 1).2 := Nat.lt_succ_self _
    have h22 := hE.2.1
    have h17 := hW.sg.2.1
    have hI1 : IV (adG s.1 s.2 z sh) (s.2 + 1) := hI.ad hs hz.1 (fr_rm hf) (by omega)
    have hN1 : NU (adG s.1 s.2 z sh, s.2 + 1).1 (adG s.1 s.2 z sh, s.2 + 1).2 := hI1.2.2.1
    have hb1 : s.1 16 = gb (adG s.1 s.2 z sh, s.2 + 1).1 s.2 0 := (adG_new (j := 0) (by decide)).symm
    have e2 : gb (adG s.1 s.2 z sh, s.2 + 1).1 s.2 2 = 1000 := adG_new (j := 2) (by decide)
    have e3 : gb (adG s.1 s.2 z sh, s.2 + 1).1 s.2 3 = (sh : Int) := adG_new (j := 3) (by decide)
    have e5 : gb (adG s.1 s.2 z sh, s.2 + 1).1 s.2 5 = 0 := adG_new (j := 5) (by decide)
    have hE1 : EV (adG s.1 s.2 z sh, s.2 + 1) (e + 1) := by
      have d16 : adG s.1 s.2 z sh 16 = s.1 16 + 1 := by rw [adG_num (by decide), if_neg (by decide), if_pos rfl]
      have d22 : adG s.1 s.2 z sh 22 = s.1 22 := by rw [adG_num (by decide), if_neg (by decide), if_neg (by decide)]
      obtain ⟨a, b, c⟩ := hE
      exact ⟨by show adG s.1 s.2 z sh 16 ≤ _; omega, by show 0 ≤ adG s.1 s.2 z sh 22; omega, by show adG s.1 s.2 z sh 22 ≤ _; omega⟩
    refine X_istoreW dL_does_183 (by decide) ?_
    dsimp only [List.set]
    refine X_aload dL_does_185 rfl ?_
    refine X_iloadW dL_does_186 rfl ?_
    refine Y_iV dL_does_188 cv_L_50 sh_0 (by decide) (u_add hW z (by omega)) rfl (fun y I hy => ?_)
    obtain ⟨ey, hW⟩ := hy
    have hp := add_room hz h24 h16 hf
    rw [hp.1] at ey
    rw [hp.2] at hW
    rw [ey]
    refine X_istoreW dL_does_191 (by decide) ?_
    dsimp only [List.set]
    refine X_iload dL_does_193 rfl ?_
    refine X_bipush dL_does_194 (by decide) ?_
    refine X_icmp_eq (tgt := 204) dL_does_196 (by decide) (by omega) (fun c_196 => absurd c_196 (by omega)) (fun c_196 => ?_)
    refine X_iloadW dL_does_199 rfl ?_
    refine X_if_ge (tgt := 219) dL_does_201 (by decide) (by omega) (fun c_201 => ?_) (fun c_201 => absurd c_201 (by omega))
    refine X_iloadW dL_does_219 rfl ?_
    refine X_iloadW dL_does_221 rfl ?_
    refine X_same_ne (tgt := 265) dL_does_223 (by decide) rfl ?_
    refine X_aload dL_does_226 rfl ?_
    refine X_iloadW dL_does_227 rfl ?_
    refine X_iconst dL_does_229 ?_
    refine Y_iV dL_does_230 cv_L_18 sh_0 (by decide) (v_of1 hW hk1 hN1 hb1) rfl (fun z I hz => ?_)
    obtain ⟨rfl, hW⟩ := hz
    refine X_sipush dL_does_233 (by decide) ?_
    refine X_same_ne (tgt := 265) dL_does_236 (by decide) e2.symm ?_
    refine X_aload dL_does_239 rfl ?_
    refine X_iloadW dL_does_240 rfl ?_
    refine X_iconst dL_does_242 ?_
    refine Y_iV dL_does_243 cv_L_18 sh_0 (by decide) (v_of2 hW hk1 hN1 hb1) rfl (fun z I hz => ?_)
    obtain ⟨rfl, hW⟩ := hz
    refine X_iloadW dL_does_246 rfl ?_
    refine X_same_ne (tgt := 265) dL_does_248 (by decide) e3.symm ?_
    refine X_aload dL_does_251 rfl ?_
    refine X_iloadW dL_does_252 rfl ?_
    refine X_iconst dL_does_254 ?_
    refine Y_iV dL_does_255 cv_L_18 sh_0 (by decide) (v_of5 hW hk1 hN1 hb1) rfl (fun z I hz => ?_)
    obtain ⟨rfl, hW⟩ := hz
    refine X_if_ne (tgt := 265) dL_does_258 (by decide) (by omega) (fun c_258 => absurd c_258 (by omega)) (fun c_258 => ?_)
    refine X_iconst dL_does_261 ?_
    refine X_goto (tgt := 266) dL_does_262 (by decide) ?_
    refine X_iret dL_does_266 (Or.inr ⟨rfl, by omega⟩) ?_
    exact ⟨rfl, rfl, _, rfl, rfl, _, hW, hI1, hE1⟩
  refine X_istoreW dL_does_106 (by decide) ?_
  dsimp only [List.set]
  refine X_aload dL_does_108 rfl ?_
  refine X_bipush dL_does_109 (by decide) ?_
  refine Y_pV dL_does_111 cv_L_8 sh_0 (by decide) (v_num hW 16 (by decide) rfl) rfl ?_
  refine X_istoreW dL_does_114 (by decide) ?_
  dsimp only [List.set]
  refine X_aload dL_does_116 rfl ?_
  refine X_iconst dL_does_117 ?_
  refine X_iconst dL_does_118 ?_
  refine Y_pV dL_does_119 cv_L_22 sh_0 (by decide) (v_sh1 hW 0 (by decide) rfl) rfl ?_
  refine X_iloadW dL_does_122 rfl ?_
  refine X_iadd dL_does_124 ?_
  refine X_aload dL_does_125 rfl ?_
  refine X_iconst dL_does_126 ?_
  refine X_iconst dL_does_127 ?_
  refine Y_pV dL_does_128 cv_L_22 sh_0 (by decide) (v_sh0 hW 0 (by decide) rfl) rfl ?_
  rw [show (6 : Nat) + 0 = 6 from rfl]
  refine X_icmp_gt (tgt := 138) dL_does_131 (by decide) (by omega) (fun c_131 => ?_) (fun c_131 => ?_)
  · refine X_aload dL_does_138 rfl ?_
    refine X_iconst dL_does_139 ?_
    refine X_iconst dL_does_140 ?_
    refine Y_pV dL_does_141 cv_L_22 sh_0 (by decide) (v_sh1 hW 1 (by decide) rfl) rfl ?_
    refine X_iloadW dL_does_144 rfl ?_
    refine X_iadd dL_does_146 ?_
    refine X_aload dL_does_147 rfl ?_
    refine X_iconst dL_does_148 ?_
    refine X_iconst dL_does_149 ?_
    refine Y_pV dL_does_150 cv_L_22 sh_0 (by decide) (v_sh0 hW 1 (by decide) rfl) rfl ?_
    rw [show (6 : Nat) + 1 = 7 from rfl]
    refine X_icmp_gt (tgt := 160) dL_does_153 (by decide) (by omega) (fun c_153 => ?_) (fun c_153 => ?_)
    · refine X_aload dL_does_160 rfl ?_
      refine X_iconst dL_does_161 ?_
      refine X_iconst dL_does_162 ?_
      refine Y_pV dL_does_163 cv_L_22 sh_0 (by decide) (v_sh1 hW 2 (by decide) rfl) rfl ?_
      refine X_iloadW dL_does_166 rfl ?_
      refine X_iadd dL_does_168 ?_
      refine X_aload dL_does_169 rfl ?_
      refine X_iconst dL_does_170 ?_
      refine X_iconst dL_does_171 ?_
      refine Y_pV dL_does_172 cv_L_22 sh_0 (by decide) (v_sh0 hW 2 (by decide) rfl) rfl ?_
      rw [show (6 : Nat) + 2 = 8 from rfl]
      refine X_icmp_gt (tgt := 182) dL_does_175 (by decide) (by omega) (fun c_175 => ?_) (fun c_175 => ?_)
      · refine X_iconst dL_does_182 ?_
        have hf := fr_n c_131 c_153 c_175
        by_cases h24 : s.2 = 24
        · exact hA1 h24 (-1) (by decide) _ hW
        · exact hA2 h24 hf _ hW
      · refine X_iconst dL_does_178 ?_
        refine X_goto (tgt := 183) dL_does_179 (by decide) ?_
        have hf := fr_2 c_131 c_153 c_175
        by_cases h24 : s.2 = 24
        · exact hA1 h24 2 (by decide) _ hW
        · exact hB h24 2 hf _ hW
    · refine X_iconst dL_does_156 ?_
      refine X_goto (tgt := 183) dL_does_157 (by decide) ?_
      have hf := fr_1 c_131 c_153
      by_cases h24 : s.2 = 24
      · exact hA1 h24 1 (by decide) _ hW
      · exact hB h24 1 hf _ hW
  · refine X_iconst dL_does_134 ?_
    refine X_goto (tgt := 183) dL_does_135 (by decide) ?_
    have hf := fr_0 c_131
    by_cases h24 : s.2 = 24
    · exact hA1 h24 0 (by decide) _ hW
    · exact hB h24 0 hf _ hW
set_option maxRecDepth 20000 in
set_option maxHeartbeats 4000000 in
theorem c_add {s : xS} {J : xI} {e : Nat} (he : e ≤ 100) (hI : IV s.1 s.2) (hE : EV s e) (v w : Int) (hv : -2147483648 ≤ v ∧ v ≤ 2147483647) (hw : -2147483648 ≤ w ∧ w ≤ 2147483647) (blk : Int) : ∀ I, WK s J I → Y kL_does 8 96 [some (rr 0), some (ii v), some (ii w), some (ii (s.2 : Int)), some (ii blk), none, none, none, none, none, none, none, none, none, none, none, none, none, none, none, none] [] I (q_i (fun ans I2 => ans = 1 ∧ NX J e I2)) := by
  intro I hW
  refine X_iconst dL_does_96 ?_
  refine X_iload dL_does_97 rfl ?_
  refine X_iconst dL_does_98 ?_
  refine X_ishr dL_does_99 (fun v99 hv99 => ?_)
  refine X_bipush dL_does_100 (by decide) ?_
  refine Y_iS dL_does_102 cs_L_45 (h_low _ 9 (by decide) _) rfl (fun a102 I ha102 => ?_)
  obtain ⟨ha102, rfl⟩ := ha102
  refine X_iadd dL_does_105 ?_
  exact c_add2 he hI hE v w hv hw blk _ (by omega) _ hW
theorem rem_no {s : xS} {b : Int} (hp : pl s.1 s.2 b = none) : (oRem s b).1 = -1 ∧ nxS s (oRem s b) = s := by
  have e1 : (oRem s b).1 = -1 := by
    show rmZ s.1 s.2 b = -1
    unfold rmZ
    rw [hp]
  refine ⟨e1, ?_⟩
  unfold nxS
  rw [e1, if_neg (by decide)]
theorem rem_yes {s : xS} {b : Int} {k : Nat} (hG : GI s.1 s.2) (hp : pl s.1 s.2 b = some k) : (oRem s b).1 = gb s.1 k 3 ∧ nxS s (oRem s b) = (rmG s.1 k, s.2 - 1) := by
  have hb := (hG.b (pl_lt hp)).2.2.2.1
  have e1 : (oRem s b).1 = gb s.1 k 3 := by
    show rmZ s.1 s.2 b = _
    unfold rmZ
    rw [hp]
  refine ⟨e1, ?_⟩
  unfold nxS
  rw [e1, if_pos hb.1]
  unfold oRem
  rw [hp]
set_option maxRecDepth 20000 in
set_option maxHeartbeats 4000000 in
theorem c_rem {s : xS} {J : xI} {e : Nat} (he : e ≤ 100) (hI : IV s.1 s.2) (hE : EV s e) (v w : Int) (hv : -2147483648 ≤ v ∧ v ≤ 2147483647) (hw : -2147483648 ≤ w ∧ w ≤ 2147483647) (blk : Int) (hB : BK s blk) : ∀ I, WK s J I → Y kL_does 8 267 [some (rr 0), some (ii v), some (ii w), some (ii (s.2 : Int)), some (ii blk), none, none, none, none, none, none, none, none, none, none, none, none, none, none, none, none] [] I (q_i (fun ans I2 => ans = 1 ∧ NX J e I2)) := by
  intro I hW
  have hG := hW.g
  have hbr := hB.rg hG
  rcases hB with ⟨h0, hb0⟩ | ⟨k, hk, hbk⟩
  · have hp : pl s.1 s.2 blk = none := pl_0 h0
    have er := rem_no hp
    refine X_aload dL_does_267 rfl ?_
    refine X_iloadW dL_does_268 rfl ?_
    refine X_iconst dL_does_270 ?_
    refine Y_iV dL_does_271 cv_L_18 sh_0 (by decide) (v_ofno hW (by omega) hp 2 (by decide)) rfl (fun z I hz => ?_)
    obtain ⟨rfl, hW⟩ := hz
    refine X_istoreW dL_does_274 (by decide) ?_
    dsimp only [List.set]
    refine X_iload dL_does_276 rfl ?_
    refine X_bipush dL_does_277 (by decide) ?_
    refine X_ishr dL_does_279 (fun v279 hv279 => ?_)
    refine X_iconst dL_does_280 ?_
    refine X_iandm dL_does_281 (by decide) (fun b281 hb281 => ?_)
    refine X_if_eq (tgt := 307) dL_does_282 (by decide) (by omega) (fun c_282 => ?_) (fun c_282 => ?_)
    · refine X_iconst dL_does_307 ?_
      refine X_goto (tgt := 312) dL_does_308 (by decide) ?_
      refine X_iret dL_does_312 (Or.inr ⟨rfl, by omega⟩) ?_
      exact ⟨rfl, rfl, _, rfl, rfl, s, hW, hI, hE.up⟩
    · refine X_aload dL_does_285 rfl ?_
      refine X_iloadW dL_does_286 rfl ?_
      refine Y_iV dL_does_288 cv_L_53 sh_0 (by decide) (u_remove hW blk (by omega)) rfl (fun y I hy => ?_)
      obtain ⟨ey, hW⟩ := hy
      rw [er.1] at ey
      rw [er.2] at hW
      rw [ey]
      refine X_iloadW dL_does_291 rfl ?_
      refine X_same_ne (tgt := 311) dL_does_293 (by decide) rfl ?_
      refine X_aload dL_does_296 rfl ?_
      refine X_iloadW dL_does_297 rfl ?_
      refine X_iconst dL_does_299 ?_
      refine Y_iV dL_does_300 cv_L_18 sh_0 (by decide) (v_ofno hW (by omega) hp 0 (by decide)) rfl (fun z I hz => ?_)
      obtain ⟨rfl, hW⟩ := hz
      refine X_iconst dL_does_303 ?_
      refine X_same_ne (tgt := 311) dL_does_304 (by decide) rfl ?_
      refine X_iconst dL_does_307 ?_
      refine X_goto (tgt := 312) dL_does_308 (by decide) ?_
      refine X_iret dL_does_312 (Or.inr ⟨rfl, by omega⟩) ?_
      exact ⟨rfl, rfl, _, rfl, rfl, s, hW, hI, hE.up⟩
  · have hN := hI.2.2.1
    have hbb := hG.b hk
    have hp : pl s.1 s.2 blk = some k := by rw [hbk]; exact pl_nu hN hk
    have er := rem_yes hG hp
    have hno : pl (rmG s.1 k, s.2 - 1).1 (rmG s.1 k, s.2 - 1).2 blk = none := by rw [hbk]; exact rm_no hN hk
    have hI1 : IV (rmG s.1 k, s.2 - 1).1 (rmG s.1 k, s.2 - 1).2 := hI.rm hG hk
    have hE1 : EV (rmG s.1 k, s.2 - 1) (e + 1) := by
      have d16 : rmG s.1 k 16 = s.1 16 := by rw [rmG_num (by decide), if_neg (by decide)]
      have d22 : rmG s.1 k 22 = s.1 22 := by rw [rmG_num (by decide), if_neg (by decide)]
      obtain ⟨a, b, c⟩ := hE
      exact ⟨by show rmG s.1 k 16 ≤ _; omega, by show 0 ≤ rmG s.1 k 22; omega, by show rmG s.1 k 22 ≤ _; omega⟩
    refine X_aload dL_does_267 rfl ?_
    refine X_iloadW dL_does_268 rfl ?_
    refine X_iconst dL_does_270 ?_
    refine Y_iV dL_does_271 cv_L_18 sh_0 (by decide) (v_of2 hW hk hN hbk) rfl (fun z I hz => ?_)
    obtain ⟨rfl, hW⟩ := hz
    refine X_istoreW dL_does_274 (by decide) ?_
    dsimp only [List.set]
    refine X_iload dL_does_276 rfl ?_
    refine X_bipush dL_does_277 (by decide) ?_
    refine X_ishr dL_does_279 (fun v279 hv279 => ?_)
    refine X_iconst dL_does_280 ?_
    refine X_iandm dL_does_281 (by decide) (fun b281 hb281 => ?_)
    refine X_if_eq (tgt := 307) dL_does_282 (by decide) (by omega) (fun c_282 => ?_) (fun c_282 => ?_)
    · refine X_iconst dL_does_307 ?_
      refine X_goto (tgt := 312) dL_does_308 (by decide) ?_
      refine X_iret dL_does_312 (Or.inr ⟨rfl, by omega⟩) ?_
      exact ⟨rfl, rfl, _, rfl, rfl, s, hW, hI, hE.up⟩
    · refine X_aload dL_does_285 rfl ?_
      refine X_iloadW dL_does_286 rfl ?_
      refine Y_iV dL_does_288 cv_L_53 sh_0 (by decide) (u_remove hW blk (by omega)) rfl (fun y I hy => ?_)
      obtain ⟨ey, hW⟩ := hy
      rw [er.1] at ey
      rw [er.2] at hW
      rw [ey]
      refine X_iloadW dL_does_291 rfl ?_
      refine X_same_ne (tgt := 311) dL_does_293 (by decide) rfl ?_
      refine X_aload dL_does_296 rfl ?_
      refine X_iloadW dL_does_297 rfl ?_
      refine X_iconst dL_does_299 ?_
      refine Y_iV dL_does_300 cv_L_18 sh_0 (by decide) (v_ofno hW (by omega) hno 0 (by decide)) rfl (fun z I hz => ?_)
      obtain ⟨rfl, hW⟩ := hz
      refine X_iconst dL_does_303 ?_
      refine X_same_ne (tgt := 311) dL_does_304 (by decide) rfl ?_
      refine X_iconst dL_does_307 ?_
      refine X_goto (tgt := 312) dL_does_308 (by decide) ?_
      refine X_iret dL_does_312 (Or.inr ⟨rfl, by omega⟩) ?_
      exact ⟨rfl, rfl, _, rfl, rfl, _, hW, hI1, hE1⟩
theorem pin_post {s : xS} {J I : xI} {e : Nat} {b p : Int} (hI : IV s.1 s.2) (hE : EV s e) (hW : WK (nxS s (oPin s b p)) J I) : NX J e I := by
  refine ⟨_, hW, ?_⟩
  unfold nxS
  split
  · unfold oPin
    cases hp : pl s.1 s.2 b with
    | none => exact ⟨hI, hE.up⟩
    | some k =>
      obtain ⟨a, b2, c⟩ := hE
      refine ⟨hI.pin, ?_⟩
      have d16 : gB s.1 k 4 p 16 = s.1 16 := gB_num (by decide)
      have d22 : gB s.1 k 4 p 22 = s.1 22 := gB_num (by decide)
      exact ⟨by show gB s.1 k 4 p 16 ≤ _; omega, by show 0 ≤ gB s.1 k 4 p 22; omega, by show gB s.1 k 4 p 22 ≤ _; omega⟩
  · exact ⟨hI, hE.up⟩
theorem pin_no {s : xS} {b p : Int} (hp : pl s.1 s.2 b = none) : (oPin s b p).1 = -1 := by
  show tpZ s.1 s.2 b p = -1
  unfold tpZ
  rw [hp]
theorem pin_yes {s : xS} {b p : Int} {k : Nat} (hk : k < s.2) (hp : pl s.1 s.2 b = some k) : (oPin s b p).1 = if gb s.1 k 4 = p then -5 else pins s.1 s.2 - gb s.1 k 4 + p := by
  show tpZ s.1 s.2 b p = _
  unfold tpZ
  rw [hp]
  show (if gb s.1 k 4 = p then (-5 : Int) else pins (gB s.1 k 4 p) s.2) = _
  have e : pins (gB s.1 k 4 p) s.2 = pins s.1 s.2 - gb s.1 k 4 + p := by
    unfold pins
    rw [sm_one (h := fun q => gb s.1 q 4) hk (fun q _ hne => gB_nek (by decide) (by decide) hne), gB_eq (by decide)]
  rw [e]
set_option maxRecDepth 20000 in
set_option maxHeartbeats 4000000 in
theorem c_pin {s : xS} {J : xI} {e : Nat} (he : e ≤ 100) (hI : IV s.1 s.2) (hE : EV s e) (v w : Int) (hv : -2147483648 ≤ v ∧ v ≤ 2147483647) (hw : -2147483648 ≤ w ∧ w ≤ 2147483647) (blk : Int) (hB : BK s blk) : ∀ I, WK s J I → Y kL_does 8 313 [some (rr 0), some (ii v), some (ii w), some (ii (s.2 : Int)), some (ii blk), none, none, none, none, none, none, none, none, none, none, none, none, none, none, none, none] [] I (q_i (fun ans I2 => ans = 1 ∧ NX J e I2)) := by
  intro I hW
  have hG := hW.g
  have hn24 := hG.n24
  have hbr := hB.rg hG
  rcases hB with ⟨h0, hb0⟩ | ⟨k, hk, hbk⟩
  · have hp : pl s.1 s.2 blk = none := pl_0 h0
    refine X_iload dL_does_313 rfl ?_
    refine X_bipush dL_does_314 (by decide) ?_
    refine X_ishr dL_does_316 (fun v316 hv316 => ?_)
    refine X_iconst dL_does_317 ?_
    refine X_iandm dL_does_318 (by decide) (fun v318 hv318 => ?_)
    refine X_iconst dL_does_319 ?_
    refine X_icmp_ne (tgt := 327) dL_does_320 (by decide) (by omega) (fun c_320 => ?_) (fun c_320 => ?_)
    · refine X_iconst dL_does_327 ?_
      refine X_istoreW dL_does_328 (by decide) ?_
      dsimp only [List.set]
      refine X_aload dL_does_330 rfl ?_
      refine X_iloadW dL_does_331 rfl ?_
      refine X_iconst dL_does_333 ?_
      refine Y_iV dL_does_334 cv_L_18 sh_0 (by decide) (v_ofno hW (by omega) hp 4 (by decide)) rfl (fun z I hz => ?_)
      obtain ⟨rfl, hW⟩ := hz
      refine X_istoreW dL_does_337 (by decide) ?_
      dsimp only [List.set]
      refine X_aload dL_does_339 rfl ?_
      refine X_bipush dL_does_340 (by decide) ?_
      refine Y_pV dL_does_342 cv_L_8 sh_0 (by decide) (v_pins hW) rfl ?_
      refine X_istoreW dL_does_345 (by decide) ?_
      dsimp only [List.set]
      refine X_aload dL_does_347 rfl ?_
      refine X_iloadW dL_does_348 rfl ?_
      refine X_iloadW dL_does_350 rfl ?_
      refine Y_iV dL_does_352 cv_L_56 sh_0 (by decide) (u_pin hW blk (by omega) 0 (Or.inl rfl)) rfl (fun y I hy => ?_)
      obtain ⟨ey, hW⟩ := hy
      have hnx := pin_post hI hE hW
      have er := pin_no (p := 0) hp
      rw [er] at ey
      refine X_iload dL_does_355 rfl ?_
      refine X_if_ne (tgt := 363) dL_does_356 (by decide) (by omega) (fun c_356 => absurd c_356 (by omega)) (fun c_356 => ?_)
      refine X_iconst dL_does_359 ?_
      refine X_goto (tgt := 399) dL_does_360 (by decide) ?_
      refine X_same_ne (tgt := 406) dL_does_399 (by decide) ey.symm ?_
      refine X_iconst dL_does_402 ?_
      refine X_goto (tgt := 407) dL_does_403 (by decide) ?_
      refine X_iret dL_does_407 (Or.inr ⟨rfl, by omega⟩) ?_
      exact ⟨rfl, rfl, _, rfl, rfl, hnx⟩
    · refine X_iconst dL_does_323 ?_
      refine X_goto (tgt := 328) dL_does_324 (by decide) ?_
      refine X_istoreW dL_does_328 (by decide) ?_
      dsimp only [List.set]
      refine X_aload dL_does_330 rfl ?_
      refine X_iloadW dL_does_331 rfl ?_
      refine X_iconst dL_does_333 ?_
      refine Y_iV dL_does_334 cv_L_18 sh_0 (by decide) (v_ofno hW (by omega) hp 4 (by decide)) rfl (fun z I hz => ?_)
      obtain ⟨rfl, hW⟩ := hz
      refine X_istoreW dL_does_337 (by decide) ?_
      dsimp only [List.set]
      refine X_aload dL_does_339 rfl ?_
      refine X_bipush dL_does_340 (by decide) ?_
      refine Y_pV dL_does_342 cv_L_8 sh_0 (by decide) (v_pins hW) rfl ?_
      refine X_istoreW dL_does_345 (by decide) ?_
      dsimp only [List.set]
      refine X_aload dL_does_347 rfl ?_
      refine X_iloadW dL_does_348 rfl ?_
      refine X_iloadW dL_does_350 rfl ?_
      refine Y_iV dL_does_352 cv_L_56 sh_0 (by decide) (u_pin hW blk (by omega) 1 (Or.inr rfl)) rfl (fun y I hy => ?_)
      obtain ⟨ey, hW⟩ := hy
      have hnx := pin_post hI hE hW
      have er := pin_no (p := 1) hp
      rw [er] at ey
      refine X_iload dL_does_355 rfl ?_
      refine X_if_ne (tgt := 363) dL_does_356 (by decide) (by omega) (fun c_356 => absurd c_356 (by omega)) (fun c_356 => ?_)
      refine X_iconst dL_does_359 ?_
      refine X_goto (tgt := 399) dL_does_360 (by decide) ?_
      refine X_same_ne (tgt := 406) dL_does_399 (by decide) ey.symm ?_
      refine X_iconst dL_does_402 ?_
      refine X_goto (tgt := 407) dL_does_403 (by decide) ?_
      refine X_iret dL_does_407 (Or.inr ⟨rfl, by omega⟩) ?_
      exact ⟨rfl, rfl, _, rfl, rfl, hnx⟩
  · have hN := hI.2.2.1
    have hbb := hG.b hk
    have hpb := pins_bounds hG
    have hp : pl s.1 s.2 blk = some k := by rw [hbk]; exact pl_nu hN hk
    refine X_iload dL_does_313 rfl ?_
    refine X_bipush dL_does_314 (by decide) ?_
    refine X_ishr dL_does_316 (fun v316 hv316 => ?_)
    refine X_iconst dL_does_317 ?_
    refine X_iandm dL_does_318 (by decide) (fun v318 hv318 => ?_)
    refine X_iconst dL_does_319 ?_
    refine X_icmp_ne (tgt := 327) dL_does_320 (by decide) (by omega) (fun c_320 => ?_) (fun c_320 => ?_)
    · refine X_iconst dL_does_327 ?_
      refine X_istoreW dL_does_328 (by decide) ?_
      dsimp only [List.set]
      refine X_aload dL_does_330 rfl ?_
      refine X_iloadW dL_does_331 rfl ?_
      refine X_iconst dL_does_333 ?_
      refine Y_iV dL_does_334 cv_L_18 sh_0 (by decide) (v_of4 hW hk hN hbk) rfl (fun z I hz => ?_)
      obtain ⟨rfl, hW⟩ := hz
      refine X_istoreW dL_does_337 (by decide) ?_
      dsimp only [List.set]
      refine X_aload dL_does_339 rfl ?_
      refine X_bipush dL_does_340 (by decide) ?_
      refine Y_pV dL_does_342 cv_L_8 sh_0 (by decide) (v_pins hW) rfl ?_
      refine X_istoreW dL_does_345 (by decide) ?_
      dsimp only [List.set]
      refine X_aload dL_does_347 rfl ?_
      refine X_iloadW dL_does_348 rfl ?_
      refine X_iloadW dL_does_350 rfl ?_
      refine Y_iV dL_does_352 cv_L_56 sh_0 (by decide) (u_pin hW blk (by omega) 0 (Or.inl rfl)) rfl (fun y I hy => ?_)
      obtain ⟨ey, hW⟩ := hy
      have hnx := pin_post hI hE hW
      have er := pin_yes (p := 0) hk hp
      rw [er] at ey
      refine X_iload dL_does_355 rfl ?_
      refine X_if_ne (tgt := 363) dL_does_356 (by decide) (by omega) (fun c_356 => ?_) (fun c_356 => absurd c_356 (by omega))
      refine X_iloadW dL_does_363 rfl ?_
      refine X_iloadW dL_does_365 rfl ?_
      refine X_if_eq (tgt := 374) dL_does_367 (by decide) (by decide) (fun c_367 => ?_) (fun c_367 => absurd rfl c_367)
      refine X_iconst dL_does_374 ?_
      refine X_icmp_ne (tgt := 383) dL_does_375 (by decide) (by omega) (fun c_375 => ?_) (fun c_375 => ?_)
      · rw [if_neg c_375] at ey
        refine X_iloadW dL_does_383 rfl ?_
        refine X_if_eq (tgt := 395) dL_does_385 (by decide) (by decide) (fun c_385 => ?_) (fun c_385 => absurd rfl c_385)
        refine X_iloadW dL_does_395 rfl ?_
        refine X_iconst dL_does_397 ?_
        refine X_isub dL_does_398 ?_
        refine X_same_ne (tgt := 406) dL_does_399 (by decide) (by omega) ?_
        refine X_iconst dL_does_402 ?_
        refine X_goto (tgt := 407) dL_does_403 (by decide) ?_
        refine X_iret dL_does_407 (Or.inr ⟨rfl, by omega⟩) ?_
        exact ⟨rfl, rfl, _, rfl, rfl, hnx⟩
      · rw [if_pos c_375] at ey
        refine X_bipush dL_does_378 (by decide) ?_
        refine X_goto (tgt := 399) dL_does_380 (by decide) ?_
        refine X_same_ne (tgt := 406) dL_does_399 (by decide) (by omega) ?_
        refine X_iconst dL_does_402 ?_
        refine X_goto (tgt := 407) dL_does_403 (by decide) ?_
        refine X_iret dL_does_407 (Or.inr ⟨rfl, by omega⟩) ?_
        exact ⟨rfl, rfl, _, rfl, rfl, hnx⟩
    · refine X_iconst dL_does_323 ?_
      refine X_goto (tgt := 328) dL_does_324 (by decide) ?_
      refine X_istoreW dL_does_328 (by decide) ?_
      dsimp only [List.set]
      refine X_aload dL_does_330 rfl ?_
      refine X_iloadW dL_does_331 rfl ?_
      refine X_iconst dL_does_333 ?_
      refine Y_iV dL_does_334 cv_L_18 sh_0 (by decide) (v_of4 hW hk hN hbk) rfl (fun z I hz => ?_)
      obtain ⟨rfl, hW⟩ := hz
      refine X_istoreW dL_does_337 (by decide) ?_
      dsimp only [List.set]
      refine X_aload dL_does_339 rfl ?_
      refine X_bipush dL_does_340 (by decide) ?_
      refine Y_pV dL_does_342 cv_L_8 sh_0 (by decide) (v_pins hW) rfl ?_
      refine X_istoreW dL_does_345 (by decide) ?_
      dsimp only [List.set]
      refine X_aload dL_does_347 rfl ?_
      refine X_iloadW dL_does_348 rfl ?_
      refine X_iloadW dL_does_350 rfl ?_
      refine Y_iV dL_does_352 cv_L_56 sh_0 (by decide) (u_pin hW blk (by omega) 1 (Or.inr rfl)) rfl (fun y I hy => ?_)
      obtain ⟨ey, hW⟩ := hy
      have hnx := pin_post hI hE hW
      have er := pin_yes (p := 1) hk hp
      rw [er] at ey
      refine X_iload dL_does_355 rfl ?_
      refine X_if_ne (tgt := 363) dL_does_356 (by decide) (by omega) (fun c_356 => ?_) (fun c_356 => absurd c_356 (by omega))
      refine X_iloadW dL_does_363 rfl ?_
      refine X_iloadW dL_does_365 rfl ?_
      refine X_if_eq (tgt := 374) dL_does_367 (by decide) (by decide) (fun c_367 => absurd c_367 (by decide)) (fun c_367 => ?_)
      refine X_iconst dL_does_370 ?_
      refine X_goto (tgt := 375) dL_does_371 (by decide) ?_
      refine X_icmp_ne (tgt := 383) dL_does_375 (by decide) (by omega) (fun c_375 => ?_) (fun c_375 => ?_)
      · rw [if_neg c_375] at ey
        refine X_iloadW dL_does_383 rfl ?_
        refine X_if_eq (tgt := 395) dL_does_385 (by decide) (by decide) (fun c_385 => absurd c_385 (by decide)) (fun c_385 => ?_)
        refine X_iloadW dL_does_388 rfl ?_
        refine X_iconst dL_does_390 ?_
        refine X_iadd dL_does_391 ?_
        refine X_goto (tgt := 399) dL_does_392 (by decide) ?_
        refine X_same_ne (tgt := 406) dL_does_399 (by decide) (by omega) ?_
        refine X_iconst dL_does_402 ?_
        refine X_goto (tgt := 407) dL_does_403 (by decide) ?_
        refine X_iret dL_does_407 (Or.inr ⟨rfl, by omega⟩) ?_
        exact ⟨rfl, rfl, _, rfl, rfl, hnx⟩
      · rw [if_pos c_375] at ey
        refine X_bipush dL_does_378 (by decide) ?_
        refine X_goto (tgt := 399) dL_does_380 (by decide) ?_
        refine X_same_ne (tgt := 406) dL_does_399 (by decide) (by omega) ?_
        refine X_iconst dL_does_402 ?_
        refine X_goto (tgt := 407) dL_does_403 (by decide) ?_
        refine X_iret dL_does_407 (Or.inr ⟨rfl, by omega⟩) ?_
        exact ⟨rfl, rfl, _, rfl, rfl, hnx⟩
set_option maxRecDepth 20000 in
set_option maxHeartbeats 4000000 in
theorem c_read {s : xS} {J : xI} {e : Nat} (he : e ≤ 100) (hI : IV s.1 s.2) (hE : EV s e) (v w : Int) (hv : -2147483648 ≤ v ∧ v ≤ 2147483647) (hw : -2147483648 ≤ w ∧ w ≤ 2147483647) (blk : Int) (hbr : 0 ≤ blk ∧ blk ≤ 999) : ∀ I, WK s J I → Y kL_does 8 408 [some (rr 0), some (ii v), some (ii w), some (ii (s.2 : Int)), some (ii blk), none, none, none, none, none, none, none, none, none, none, none, none, none, none, none, none] [] I (q_i (fun ans I2 => ans = 1 ∧ NX J e I2)) := by
  intro I hW
  refine X_aload dL_does_408 rfl ?_
  refine X_iloadW dL_does_409 rfl ?_
  refine X_iconst dL_does_411 ?_
  refine X_iload dL_does_412 rfl ?_
  refine X_bipush dL_does_413 (by decide) ?_
  refine X_ishr dL_does_415 (fun v415 hv415 => ?_)
  refine X_iload dL_does_416 rfl ?_
  refine X_bipush dL_does_417 (by decide) ?_
  refine X_ishr dL_does_419 (fun v419 hv419 => ?_)
  refine X_iconst dL_does_420 ?_
  refine X_iandm dL_does_421 (by decide) (fun v421 hv421 => ?_)
  refine X_if_ne (tgt := 430) dL_does_422 (by decide) (by omega) (fun c_422 => ?_) (fun c_422 => ?_)
  · refine X_iconst dL_does_430 ?_
    refine Y_iS dL_does_431 cs_L_45 (h_low _ 3 (by decide) _) rfl (fun a431 I ha431 => ?_)
    obtain ⟨ha431, rfl⟩ := ha431
    obtain ⟨t, et⟩ : ∃ t : Nat, 1 + a431 = (t : Int) := ⟨(1 + a431).toNat, by omega⟩
    refine X_iadd dL_does_434 ?_
    rw [et]
    refine Y_iS dL_does_435 cs_L_60 (h_read hW hI hE blk (by omega) t (by omega)) rfl (fun y I hy => ?_)
    obtain ⟨rfl, hnx⟩ := hy
    refine X_iret dL_does_438 (Or.inr ⟨rfl, by omega⟩) ?_
    exact ⟨rfl, rfl, _, rfl, rfl, hnx⟩
  · refine X_bipush dL_does_425 (by decide) ?_
    refine X_goto (tgt := 431) dL_does_427 (by decide) ?_
    refine Y_iS dL_does_431 cs_L_45 (h_low _ 12 (by decide) _) rfl (fun a431 I ha431 => ?_)
    obtain ⟨ha431, rfl⟩ := ha431
    obtain ⟨t, et⟩ : ∃ t : Nat, 1 + a431 = (t : Int) := ⟨(1 + a431).toNat, by omega⟩
    refine X_iadd dL_does_434 ?_
    rw [et]
    refine Y_iS dL_does_435 cs_L_60 (h_read hW hI hE blk (by omega) t (by omega)) rfl (fun y I hy => ?_)
    obtain ⟨rfl, hnx⟩ := hy
    refine X_iret dL_does_438 (Or.inr ⟨rfl, by omega⟩) ?_
    exact ⟨rfl, rfl, _, rfl, rfl, hnx⟩
set_option maxRecDepth 20000 in
set_option maxHeartbeats 4000000 in
theorem c_pass {s : xS} {J : xI} {e : Nat} (he : e ≤ 100) (hI : IV s.1 s.2) (hE : EV s e) (v w : Int) (hv : -2147483648 ≤ v ∧ v ≤ 2147483647) (hw : -2147483648 ≤ w ∧ w ≤ 2147483647) (blk : Int) : ∀ I, WK s J I → Y kL_does 8 662 [some (rr 0), some (ii v), some (ii w), some (ii (s.2 : Int)), some (ii blk), none, none, none, none, none, none, none, none, none, none, none, none, none, none, none, none] [] I (q_i (fun ans I2 => ans = 1 ∧ NX J e I2)) := by
  intro I hW
  have hG := hW.g
  have h17 := hW.sg.2
  refine X_iconst dL_does_662 ?_
  refine X_iload dL_does_663 rfl ?_
  refine X_bipush dL_does_664 (by decide) ?_
  refine Y_iS dL_does_666 cs_L_45 (h_low _ 9 (by decide) _) rfl (fun a666 I ha666 => ?_)
  obtain ⟨ha666, rfl⟩ := ha666
  obtain ⟨t, et⟩ : ∃ t : Nat, 1 + a666 = (t : Int) := ⟨(1 + a666).toNat, by omega⟩
  refine X_iadd dL_does_669 ?_
  rw [et]
  refine X_istoreW dL_does_670 (by decide) ?_
  dsimp only [List.set]
  refine X_aload dL_does_672 rfl ?_
  refine X_iloadW dL_does_673 rfl ?_
  refine X_iconst dL_does_675 ?_
  refine Y_iV dL_does_676 cv_L_25 sh_0 (by decide) (v_if0 hW t (by omega) rfl) rfl (fun z I hz => ?_)
  obtain ⟨rfl, hW⟩ := hz
  refine X_istoreW dL_does_679 (by decide) ?_
  dsimp only [List.set]
  refine X_aload dL_does_681 rfl ?_
  refine X_iloadW dL_does_682 rfl ?_
  refine X_iconst dL_does_684 ?_
  refine Y_iV dL_does_685 cv_L_25 sh_0 (by decide) (v_if1 hW t (by omega) rfl) rfl (fun z I hz => ?_)
  obtain ⟨rfl, hW⟩ := hz
  refine X_istoreW dL_does_688 (by decide) ?_
  dsimp only [List.set]
  refine X_aload dL_does_690 rfl ?_
  refine X_bipush dL_does_691 (by decide) ?_
  refine Y_pV dL_does_693 cv_L_8 sh_0 (by decide) (v_num hW 18 (by decide) rfl) rfl ?_
  refine X_istoreW dL_does_696 (by decide) ?_
  dsimp only [List.set]
  refine X_aload dL_does_698 rfl ?_
  refine X_bipush dL_does_699 (by decide) ?_
  refine Y_pV dL_does_701 cv_L_8 sh_0 (by decide) (v_num hW 17 (by decide) rfl) rfl ?_
  refine X_sipush dL_does_704 (by decide) ?_
  refine X_icmp_gt (tgt := 735) dL_does_707 (by decide) (by omega) (fun c_707 => ?_) (fun c_707 => ?_)
  · refine X_iconst dL_does_735 ?_
    refine X_goto (tgt := 740) dL_does_736 (by decide) ?_
    refine X_iret dL_does_740 (Or.inr ⟨rfl, by omega⟩) ?_
    exact ⟨rfl, rfl, _, rfl, rfl, s, hW, hI, hE.up⟩
  · refine X_aload dL_does_710 rfl ?_
    refine X_iloadW dL_does_711 rfl ?_
    refine Y_iV dL_does_713 cv_L_32 sh_0 (by decide) (u_pass hW (t : Int) (by omega)) rfl (fun y I hy => ?_)
    obtain ⟨ey, hW⟩ := hy
    have hps := pass_ok (s := s) (t := t) (by omega) (by omega)
    rw [hps.1] at ey
    rw [hps.2] at hW
    rw [ey]
    refine X_iloadW dL_does_716 rfl ?_
    refine X_same_ne (tgt := 739) dL_does_718 (by decide) rfl ?_
    refine X_aload dL_does_721 rfl ?_
    refine X_bipush dL_does_722 (by decide) ?_
    refine Y_pV dL_does_724 cv_L_8 sh_0 (by decide) (v_num hW 18 (by decide) rfl) rfl ?_
    refine X_iloadW dL_does_727 rfl ?_
    refine X_iloadW dL_does_729 rfl ?_
    refine X_iadd dL_does_731 ?_
    refine X_same_ne (tgt := 739) dL_does_732 (by decide) (by show s.1 18 + (npG s.1 s.2 t 18 - s.1 18) = npG s.1 s.2 t 18; omega) ?_
    refine X_iconst dL_does_735 ?_
    refine X_goto (tgt := 740) dL_does_736 (by decide) ?_
    refine X_iret dL_does_740 (Or.inr ⟨rfl, by omega⟩) ?_
    refine ⟨rfl, rfl, _, rfl, rfl, _, hW, IV.np hG hI t, ?_⟩
    obtain ⟨a, b, c⟩ := hE
    have d16 : npG s.1 s.2 t 16 = s.1 16 := np_num hG hI (by decide) (by decide) (by decide) (by decide)
    have d22 : npG s.1 s.2 t 22 = s.1 22 := np_num hG hI (by decide) (by decide) (by decide) (by decide)
    exact ⟨by show npG s.1 s.2 t 16 ≤ _; omega, by show 0 ≤ npG s.1 s.2 t 22; omega, by show npG s.1 s.2 t 22 ≤ _; omega⟩
theorem mx_at {A : Nat} (h : A < 15) : (A = 0 → mx A = 100) ∧ (A = 1 ∨ A = 2 → mx A = 20000) ∧ (A = 3 → mx A = 24) ∧ (A = 4 → mx A = 30) ∧ (A = 5 → mx A = 50) ∧ (6 ≤ A ∧ A < 9 → mx A = 200) ∧ (9 ≤ A → mx A = 50) := by
  rcases (by omega : A = 0 ∨ A = 1 ∨ A = 2 ∨ A = 3 ∨ A = 4 ∨ A = 5 ∨ A = 6 ∨ A = 7 ∨ A = 8 ∨ A = 9 ∨ A = 10 ∨ A = 11 ∨ A = 12 ∨ A = 13 ∨ A = 14) with q | q | q | q | q | q | q | q | q | q | q | q | q | q | q <;> subst q <;> decide
theorem set_z {s : xS} {A : Nat} {val : Int} (hA : A < 15) (hv : 0 ≤ val ∧ val ≤ mx A) : (oSet s (A : Int) val).1 = (if alD s.1 s.2 A val = true then (if s.1 A = val then -5 else s.1 A) else -4) := by
  show csZ s.1 s.2 (A : Int) val = _
  unfold csZ
  rw [if_neg (by omega), Int.toNat_natCast, if_neg (by omega)]
theorem set_no {s : xS} {A : Nat} {val : Int} (hA : A < 15) (hv : 0 ≤ val ∧ val ≤ mx A) (h : ¬ alD s.1 s.2 A val = true) : (oSet s (A : Int) val).1 = -4 ∧ nxS s (oSet s (A : Int) val) = s := by
  have e1 := set_z (s := s) hA hv
  rw [if_neg h] at e1
  refine ⟨e1, ?_⟩
  unfold nxS
  rw [e1, if_neg (by decide)]
theorem set_yes {s : xS} {A : Nat} {val : Int} (hG : GI s.1 s.2) (hA : A < 15) (hv : 0 ≤ val ∧ val ≤ mx A) (h : alD s.1 s.2 A val = true) : (oSet s (A : Int) val).1 = (if s.1 A = val then -5 else s.1 A) ∧ nxS s (oSet s (A : Int) val) = (gN s.1 A val, s.2) := by
  have e1 := set_z (s := s) hA hv
  rw [if_pos h] at e1
  refine ⟨e1, ?_⟩
  have hb := set_bounds hG hA
  unfold nxS
  rw [e1]
  by_cases q : s.1 A = val
  · rw [if_pos q, if_neg (by decide), ← q, gN_self]
  · rw [if_neg q, if_pos hb.1]
    show (gN s.1 (A : Int).toNat val, s.2) = _
    rw [Int.toNat_natCast]
set_option maxRecDepth 20000 in
set_option maxHeartbeats 4000000 in
theorem c_set2 {s : xS} {J : xI} {e : Nat} (he : e ≤ 100) (hI : IV s.1 s.2) (hE : EV s e) (v w : Int) (hv : -2147483648 ≤ v ∧ v ≤ 2147483647) (hw : -2147483648 ≤ w ∧ w ≤ 2147483647) (blk : Int) (A : Nat) (hA : A < 15) (val : Int) (hval : 0 ≤ val ∧ val ≤ mx A) : ∀ I, WK s J I → Y kL_does 8 555 [some (rr 0), some (ii v), some (ii w), some (ii (s.2 : Int)), some (ii blk), none, none, none, none, none, none, none, none, some (ii (A : Int)), none, none, none, none, none, none, none] [ii val] I (q_i (fun ans I2 => ans = 1 ∧ NX J e I2)) := by
  intro I hW
  have hG := hW.g
  have hmb := mx_bounds hA
  have hsb := set_bounds hG hA
  by_cases hal : alD s.1 s.2 A val = true
  · have hI1 : IV (gN s.1 A val, s.2).1 (gN s.1 A val, s.2).2 := hI.set hA (alD_iff.mp hal)
    have hE1 : EV (gN s.1 A val, s.2) (e + 1) := by
      have d16 : gN s.1 A val 16 = s.1 16 := by rw [gN_num, if_neg (by omega)]
      have d22 : gN s.1 A val 22 = s.1 22 := by rw [gN_num, if_neg (by omega)]
      obtain ⟨a, b, c⟩ := hE
      exact ⟨by show gN s.1 A val 16 ≤ _; omega, by show 0 ≤ gN s.1 A val 22; omega, by show gN s.1 A val 22 ≤ _; omega⟩
    refine X_istoreW dL_does_555 (by decide) ?_
    dsimp only [List.set]
    refine X_aload dL_does_557 rfl ?_
    refine X_iloadW dL_does_558 rfl ?_
    refine Y_pV dL_does_560 cv_L_8 sh_0 (by decide) (v_num hW A (by omega) rfl) rfl ?_
    refine X_istoreW dL_does_563 (by decide) ?_
    dsimp only [List.set]
    refine X_aload dL_does_565 rfl ?_
    refine X_iloadW dL_does_566 rfl ?_
    refine X_iloadW dL_does_568 rfl ?_
    refine Y_iV dL_does_570 cv_L_42 sh_0 (by decide) (u_set hW (A : Int) (by omega) val (by omega)) rfl (fun y I hy => ?_)
    obtain ⟨ey, hW⟩ := hy
    have er := set_yes hG hA hval hal
    rw [er.1] at ey
    rw [er.2] at hW
    refine X_istoreW dL_does_573 (by decide) ?_
    dsimp only [List.set]
    refine X_iloadW dL_does_575 rfl ?_
    refine X_bipush dL_does_577 (by decide) ?_
    refine X_icmp_ne (tgt := 626) dL_does_579 (by decide) (by split at ey <;> omega) (fun c_579 => ?_) (fun c_579 => absurd c_579 (by split at ey <;> omega))
    refine X_iloadW dL_does_626 rfl ?_
    refine X_iloadW dL_does_628 rfl ?_
    refine X_iloadW dL_does_630 rfl ?_
    refine X_icmp_ne (tgt := 640) dL_does_632 (by decide) (by omega) (fun c_632 => ?_) (fun c_632 => ?_)
    · rw [if_neg c_632] at ey
      refine X_iloadW dL_does_640 rfl ?_
      refine X_same_ne (tgt := 660) dL_does_642 (by decide) ey.symm ?_
      refine X_aload dL_does_645 rfl ?_
      refine X_iloadW dL_does_646 rfl ?_
      refine Y_pV dL_does_648 cv_L_8 sh_0 (by decide) (v_num hW A (by omega) rfl) rfl ?_
      refine X_iloadW dL_does_651 rfl ?_
      refine X_same_ne (tgt := 660) dL_does_653 (by decide) (by show val = gN s.1 A val A; rw [gN_num, if_pos rfl]) ?_
      refine X_iconst dL_does_656 ?_
      refine X_goto (tgt := 661) dL_does_657 (by decide) ?_
      refine X_iret dL_does_661 (Or.inr ⟨rfl, by omega⟩) ?_
      exact ⟨rfl, rfl, _, rfl, rfl, _, hW, hI1, hE1⟩
    · rw [if_pos c_632] at ey
      refine X_bipush dL_does_635 (by decide) ?_
      refine X_goto (tgt := 642) dL_does_637 (by decide) ?_
      refine X_same_ne (tgt := 660) dL_does_642 (by decide) ey.symm ?_
      refine X_aload dL_does_645 rfl ?_
      refine X_iloadW dL_does_646 rfl ?_
      refine Y_pV dL_does_648 cv_L_8 sh_0 (by decide) (v_num hW A (by omega) rfl) rfl ?_
      refine X_iloadW dL_does_651 rfl ?_
      refine X_same_ne (tgt := 660) dL_does_653 (by decide) (by show val = gN s.1 A val A; rw [gN_num, if_pos rfl]) ?_
      refine X_iconst dL_does_656 ?_
      refine X_goto (tgt := 661) dL_does_657 (by decide) ?_
      refine X_iret dL_does_661 (Or.inr ⟨rfl, by omega⟩) ?_
      exact ⟨rfl, rfl, _, rfl, rfl, _, hW, hI1, hE1⟩
  · have hna : A = 1 ∨ A = 2 ∨ (6 ≤ A ∧ A < 9) := Classical.byContradiction (fun q => hal (alD_iff.mpr ⟨fun z => absurd (Or.inl z) q, fun z => absurd (Or.inr (Or.inl z)) q, fun z => absurd (Or.inr (Or.inr z)) q⟩))
    refine X_istoreW dL_does_555 (by decide) ?_
    dsimp only [List.set]
    refine X_aload dL_does_557 rfl ?_
    refine X_iloadW dL_does_558 rfl ?_
    refine Y_pV dL_does_560 cv_L_8 sh_0 (by decide) (v_num hW A (by omega) rfl) rfl ?_
    refine X_istoreW dL_does_563 (by decide) ?_
    dsimp only [List.set]
    refine X_aload dL_does_565 rfl ?_
    refine X_iloadW dL_does_566 rfl ?_
    refine X_iloadW dL_does_568 rfl ?_
    refine Y_iV dL_does_570 cv_L_42 sh_0 (by decide) (u_set hW (A : Int) (by omega) val (by omega)) rfl (fun y I hy => ?_)
    obtain ⟨ey, hW⟩ := hy
    have er := set_no hA hval hal
    rw [er.1] at ey
    rw [er.2] at hW
    refine X_istoreW dL_does_573 (by decide) ?_
    dsimp only [List.set]
    refine X_iloadW dL_does_575 rfl ?_
    refine X_bipush dL_does_577 (by decide) ?_
    refine X_same_ne (tgt := 626) dL_does_579 (by decide) ey.symm ?_
    refine X_aload dL_does_582 rfl ?_
    refine X_iloadW dL_does_583 rfl ?_
    refine Y_pV dL_does_585 cv_L_8 sh_0 (by decide) (v_num hW A (by omega) rfl) rfl ?_
    refine X_iloadW dL_does_588 rfl ?_
    refine X_same_ne (tgt := 622) dL_does_590 (by decide) rfl ?_
    refine X_iloadW dL_does_593 rfl ?_
    refine X_iconst dL_does_595 ?_
    refine X_icmp_eq (tgt := 618) dL_does_596 (by decide) (by omega) (fun c_596 => ?_) (fun c_596 => ?_)
    · refine X_iconst dL_does_618 ?_
      refine X_goto (tgt := 661) dL_does_619 (by decide) ?_
      refine X_iret dL_does_661 (Or.inr ⟨rfl, by omega⟩) ?_
      exact ⟨rfl, rfl, _, rfl, rfl, s, hW, hI, hE.up⟩
    · refine X_iloadW dL_does_599 rfl ?_
      refine X_iconst dL_does_601 ?_
      refine X_icmp_eq (tgt := 618) dL_does_602 (by decide) (by omega) (fun c_602 => ?_) (fun c_602 => ?_)
      · refine X_iconst dL_does_618 ?_
        refine X_goto (tgt := 661) dL_does_619 (by decide) ?_
        refine X_iret dL_does_661 (Or.inr ⟨rfl, by omega⟩) ?_
        exact ⟨rfl, rfl, _, rfl, rfl, s, hW, hI, hE.up⟩
      · refine X_iloadW dL_does_605 rfl ?_
        refine X_iconst dL_does_607 ?_
        refine X_icmp_le (tgt := 622) dL_does_608 (by decide) (by omega) (fun c_608 => absurd c_608 (by omega)) (fun c_608 => ?_)
        refine X_iloadW dL_does_611 rfl ?_
        refine X_bipush dL_does_613 (by decide) ?_
        refine X_icmp_ge (tgt := 622) dL_does_615 (by decide) (by omega) (fun c_615 => absurd c_615 (by omega)) (fun c_615 => ?_)
        refine X_iconst dL_does_618 ?_
        refine X_goto (tgt := 661) dL_does_619 (by decide) ?_
        refine X_iret dL_does_661 (Or.inr ⟨rfl, by omega⟩) ?_
        exact ⟨rfl, rfl, _, rfl, rfl, s, hW, hI, hE.up⟩
set_option maxRecDepth 20000 in
set_option maxHeartbeats 4000000 in
theorem c_set {s : xS} {J : xI} {e : Nat} (he : e ≤ 100) (hI : IV s.1 s.2) (hE : EV s e) (v w : Int) (hv : -2147483648 ≤ v ∧ v ≤ 2147483647) (hw : -2147483648 ≤ w ∧ w ≤ 2147483647) (blk : Int) : ∀ I, WK s J I → Y kL_does 8 439 [some (rr 0), some (ii v), some (ii w), some (ii (s.2 : Int)), some (ii blk), none, none, none, none, none, none, none, none, none, none, none, none, none, none, none, none] [] I (q_i (fun ans I2 => ans = 1 ∧ NX J e I2)) := by
  intro I hW
  refine X_iload dL_does_439 rfl ?_
  refine X_iconst dL_does_440 ?_
  refine X_ishr dL_does_441 (fun v441 hv441 => ?_)
  refine X_bipush dL_does_442 (by decide) ?_
  refine Y_iS dL_does_444 cs_L_45 (h_low _ 15 (by decide) _) rfl (fun a444 I ha444 => ?_)
  obtain ⟨ha444, rfl⟩ := ha444
  obtain ⟨A, eA⟩ : ∃ A : Nat, a444 = (A : Int) := ⟨a444.toNat, by omega⟩
  rw [eA] at ha444
  rw [eA]
  have hA : A < 15 := by omega
  have hm := mx_at hA
  refine X_istoreW dL_does_447 (by decide) ?_
  dsimp only [List.set]
  refine X_iloadW dL_does_449 rfl ?_
  refine X_if_ne (tgt := 463) dL_does_451 (by decide) (by omega) (fun c_451 => ?_) (fun c_451 => ?_)
  · refine X_iloadW dL_does_463 rfl ?_
    refine X_iconst dL_does_465 ?_
    refine X_icmp_ne (tgt := 483) dL_does_466 (by decide) (by omega) (fun c_466 => ?_) (fun c_466 => ?_)
    · refine X_iloadW dL_does_483 rfl ?_
      refine X_iconst dL_does_485 ?_
      refine X_icmp_ne (tgt := 499) dL_does_486 (by decide) (by omega) (fun c_486 => ?_) (fun c_486 => ?_)
      · refine X_iloadW dL_does_499 rfl ?_
        refine X_iconst dL_does_501 ?_
        refine X_icmp_ne (tgt := 514) dL_does_502 (by decide) (by omega) (fun c_502 => ?_) (fun c_502 => ?_)
        · refine X_iloadW dL_does_514 rfl ?_
          refine X_bipush dL_does_516 (by decide) ?_
          refine X_icmp_ge (tgt := 530) dL_does_518 (by decide) (by omega) (fun c_518 => ?_) (fun c_518 => ?_)
          · refine X_iloadW dL_does_530 rfl ?_
            refine X_bipush dL_does_532 (by decide) ?_
            refine X_icmp_ge (tgt := 549) dL_does_534 (by decide) (by omega) (fun c_534 => ?_) (fun c_534 => ?_)
            · refine X_iload dL_does_549 rfl ?_
              refine X_bipush dL_does_550 (by decide) ?_
              refine Y_iS dL_does_552 cs_L_45 (h_low _ 20 (by decide) _) rfl (fun a552 I ha552 => ?_)
              obtain ⟨ha552, rfl⟩ := ha552
              exact c_set2 he hI hE v w hv hw blk A hA _ (by omega) _ hW
            · refine X_bipush dL_does_537 (by decide) ?_
              refine X_iload dL_does_539 rfl ?_
              refine X_bipush dL_does_540 (by decide) ?_
              refine Y_iS dL_does_542 cs_L_45 (h_low _ 60 (by decide) _) rfl (fun a542 I ha542 => ?_)
              obtain ⟨ha542, rfl⟩ := ha542
              refine X_iadd dL_does_545 ?_
              refine X_goto (tgt := 555) dL_does_546 (by decide) ?_
              exact c_set2 he hI hE v w hv hw blk A hA _ (by omega) _ hW
          · refine X_iload dL_does_521 rfl ?_
            refine X_bipush dL_does_522 (by decide) ?_
            refine Y_iS dL_does_524 cs_L_45 (h_low _ 9 (by decide) _) rfl (fun a524 I ha524 => ?_)
            obtain ⟨ha524, rfl⟩ := ha524
            refine X_goto (tgt := 555) dL_does_527 (by decide) ?_
            exact c_set2 he hI hE v w hv hw blk A hA _ (by omega) _ hW
        · refine X_iload dL_does_505 rfl ?_
          refine X_bipush dL_does_506 (by decide) ?_
          refine Y_iS dL_does_508 cs_L_45 (h_low _ 9 (by decide) _) rfl (fun a508 I ha508 => ?_)
          obtain ⟨ha508, rfl⟩ := ha508
          refine X_goto (tgt := 555) dL_does_511 (by decide) ?_
          exact c_set2 he hI hE v w hv hw blk A hA _ (by omega) _ hW
      · refine X_iload dL_does_489 rfl ?_
        refine X_sipush dL_does_490 (by decide) ?_
        refine Y_iS dL_does_493 cs_L_45 (h_low _ 1500 (by decide) _) rfl (fun a493 I ha493 => ?_)
        obtain ⟨ha493, rfl⟩ := ha493
        refine X_goto (tgt := 555) dL_does_496 (by decide) ?_
        exact c_set2 he hI hE v w hv hw blk A hA _ (by omega) _ hW
    · refine X_sipush dL_does_469 (by decide) ?_
      refine X_iload dL_does_472 rfl ?_
      refine X_sipush dL_does_473 (by decide) ?_
      refine Y_iS dL_does_476 cs_L_45 (h_low _ 4000 (by decide) _) rfl (fun a476 I ha476 => ?_)
      obtain ⟨ha476, rfl⟩ := ha476
      refine X_iadd dL_does_479 ?_
      refine X_goto (tgt := 555) dL_does_480 (by decide) ?_
      exact c_set2 he hI hE v w hv hw blk A hA _ (by omega) _ hW
  · refine X_iload dL_does_454 rfl ?_
    refine X_bipush dL_does_455 (by decide) ?_
    refine Y_iS dL_does_457 cs_L_45 (h_low _ 101 (by decide) _) rfl (fun a457 I ha457 => ?_)
    obtain ⟨ha457, rfl⟩ := ha457
    refine X_goto (tgt := 555) dL_does_460 (by decide) ?_
    exact c_set2 he hI hE v w hv hw blk A hA _ (by omega) _ hW
set_option maxRecDepth 20000 in
set_option maxHeartbeats 4000000 in
theorem h_does {s : xS} {J I : xI} {e : Nat} (he : e ≤ 100) (hW : WK s J I) (hI : IV s.1 s.2) (hE : EV s e) (v w : Int) (hv : -2147483648 ≤ v ∧ v ≤ 2147483647) (hw : -2147483648 ≤ w ∧ w ≤ 2147483647) : S kL_does 8 [rr 0, ii v, ii w] I (q_i (fun ans I2 => ans = 1 ∧ NX J e I2)) := by
  have hG := hW.g
  have hn24 := hG.n24
  have h26 : ∀ blk, BK s blk → ∀ I, WK s J I → Y kL_does 8 26 [some (rr 0), some (ii v), some (ii w), some (ii (s.2 : Int)), none, none, none, none, none, none, none, none, none, none, none, none, none, none, none, none, none] [ii blk] I (q_i (fun ans I2 => ans = 1 ∧ NX J e I2)) := by
    intro blk hB I hW
    refine X_istoreW dL_does_26 (by decide) ?_
    dsimp only [List.set]
    refine X_iload dL_does_28 rfl ?_
    refine X_bipush dL_does_29 (by decide) ?_
    refine Y_iS dL_does_31 cs_L_45 (h_low _ 16 (by decide) _) rfl (fun a31 I ha31 => ?_)
    obtain ⟨ha31, rfl⟩ := ha31
    by_cases w_0 : a31 = 0
    · refine X_tswIn (v := 0) (tgt := 96) dL_does_34 w_0 (by decide) (by decide) (by decide) rfl (by decide) ?_
      exact c_add he hI hE v w hv hw blk _ hW
    by_cases w_1 : a31 = 1
    · refine X_tswIn (v := 1) (tgt := 96) dL_does_34 w_1 (by decide) (by decide) (by decide) rfl (by decide) ?_
      exact c_add he hI hE v w hv hw blk _ hW
    by_cases w_2 : a31 = 2
    · refine X_tswIn (v := 2) (tgt := 96) dL_does_34 w_2 (by decide) (by decide) (by decide) rfl (by decide) ?_
      exact c_add he hI hE v w hv hw blk _ hW
    by_cases w_3 : a31 = 3
    · refine X_tswIn (v := 3) (tgt := 96) dL_does_34 w_3 (by decide) (by decide) (by decide) rfl (by decide) ?_
      exact c_add he hI hE v w hv hw blk _ hW
    by_cases w_4 : a31 = 4
    · refine X_tswIn (v := 4) (tgt := 267) dL_does_34 w_4 (by decide) (by decide) (by decide) rfl (by decide) ?_
      exact c_rem he hI hE v w hv hw blk hB _ hW
    by_cases w_5 : a31 = 5
    · refine X_tswIn (v := 5) (tgt := 313) dL_does_34 w_5 (by decide) (by decide) (by decide) rfl (by decide) ?_
      exact c_pin he hI hE v w hv hw blk hB _ hW
    by_cases w_6 : a31 = 6
    · refine X_tswIn (v := 6) (tgt := 408) dL_does_34 w_6 (by decide) (by decide) (by decide) rfl (by decide) ?_
      exact c_read he hI hE v w hv hw blk (hB.rg hG) _ hW
    by_cases w_7 : a31 = 7
    · refine X_tswIn (v := 7) (tgt := 408) dL_does_34 w_7 (by decide) (by decide) (by decide) rfl (by decide) ?_
      exact c_read he hI hE v w hv hw blk (hB.rg hG) _ hW
    by_cases w_8 : a31 = 8
    · refine X_tswIn (v := 8) (tgt := 408) dL_does_34 w_8 (by decide) (by decide) (by decide) rfl (by decide) ?_
      exact c_read he hI hE v w hv hw blk (hB.rg hG) _ hW
    by_cases w_9 : a31 = 9
    · refine X_tswIn (v := 9) (tgt := 408) dL_does_34 w_9 (by decide) (by decide) (by decide) rfl (by decide) ?_
      exact c_read he hI hE v w hv hw blk (hB.rg hG) _ hW
    by_cases w_10 : a31 = 10
    · refine X_tswIn (v := 10) (tgt := 439) dL_does_34 w_10 (by decide) (by decide) (by decide) rfl (by decide) ?_
      exact c_set he hI hE v w hv hw blk _ hW
    by_cases w_11 : a31 = 11
    · refine X_tswIn (v := 11) (tgt := 662) dL_does_34 w_11 (by decide) (by decide) (by decide) rfl (by decide) ?_
      exact c_pass he hI hE v w hv hw blk _ hW
    refine X_tswOut (tgt := 741) dL_does_34 (by omega) (by omega) (by decide) ?_
    refine X_iconst dL_does_741 ?_
    refine X_iret dL_does_742 (Or.inr ⟨rfl, by omega⟩) ?_
    exact ⟨rfl, rfl, _, rfl, rfl, s, hW, hI, hE.up⟩
  refine Sp_intro (by decide +kernel) (Nat.le_of_ble_eq_true rfl) ?_
  show Y kL_does 8 0 [some (rr 0), some (ii v), some (ii w), none, none, none, none, none, none, none, none, none, none, none, none, none, none, none, none, none, none] [] I _
  refine X_aload dL_does_0 rfl ?_
  refine X_bipush dL_does_1 (by decide) ?_
  refine Y_pV dL_does_3 cv_L_8 sh_0 (by decide) (v_num hW 15 (by decide) rfl) rfl ?_
  rw [hG.g15]
  refine X_istore dL_does_6 (by decide) ?_
  dsimp only [List.set]
  refine X_iload dL_does_7 rfl ?_
  refine X_if_ne (tgt := 15) dL_does_8 (by decide) (by omega) (fun c_8 => ?_) (fun c_8 => ?_)
  · refine X_aload dL_does_15 rfl ?_
    refine X_iload dL_does_16 rfl ?_
    refine X_iconst dL_does_17 ?_
    refine X_ishr dL_does_18 (fun v18 hv18 => ?_)
    refine X_iload dL_does_19 rfl ?_
    refine Y_iS dL_does_20 cs_L_45 (h_low _ (s.2 : Int) (by omega) _) rfl (fun a20 I ha20 => ?_)
    obtain ⟨ha20, rfl⟩ := ha20
    obtain ⟨r, er⟩ : ∃ r : Nat, a20 = (r : Int) := ⟨a20.toNat, by omega⟩
    refine Y_pV dL_does_23 cv_L_15 sh_0 (by decide) (v_block hW r (by omega) er) rfl ?_
    exact h26 _ (Or.inr ⟨rp s.1 s.2 r, (rp_ok (by omega)).2.1, rfl⟩) _ hW
  · refine X_iconst dL_does_11 ?_
    refine X_goto (tgt := 26) dL_does_12 (by decide) ?_
    exact h26 0 (Or.inl ⟨by omega, rfl⟩) _ hW
