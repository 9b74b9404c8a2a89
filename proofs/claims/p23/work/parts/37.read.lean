/-! isRead -/
/-- how far the counts are after so many steps of the law -/
def EV (s : xS) (e : Nat) : Prop := s.1 16 ≤ (e : Int) ∧ 0 ≤ s.1 22 ∧ s.1 22 ≤ 99 * (e : Int)
/-- some state after one more step -/
def NX (J : xI) (e : Nat) (I : xI) : Prop := ∃ s1 : xS, WK s1 J I ∧ IV s1.1 s1.2 ∧ EV s1 (e + 1)
theorem EV.up {s : xS} {e : Nat} (h : EV s e) : EV s (e + 1) := by
  obtain ⟨h1, h2, h3⟩ := h
  exact ⟨by omega, h2, by omega⟩
set_option maxRecDepth 20000 in
set_option maxHeartbeats 4000000 in
theorem r_no {s : xS} {J : xI} {e : Nat} {I : xI} (hW : WK s J I) (hI : IV s.1 s.2) (hE : EV s e) (b : Int) (hb : -2147483648 ≤ b ∧ b ≤ 2147483647) (hp : pl s.1 s.2 b = none) (t : Nat) (ht : 1 ≤ t ∧ t ≤ 12) : Y kL_isRead 7 0 [some (rr 0), some (ii b), some (ii (t : Int)), none, none, none, none, none, none, none, none, none, none, none, none, none] [] I (q_i (fun ans I2 => ans = 1 ∧ NX J e I2)) := by
  refine X_aload dL_isRead_0 rfl ?_
  refine X_iload dL_isRead_1 rfl ?_
  refine X_iconst dL_isRead_2 ?_
  refine Y_iV dL_isRead_3 cv_L_18 sh_0 (by decide) (v_ofno hW hb hp 0 (by decide)) rfl (fun z I hz => ?_)
  obtain ⟨rfl, hW⟩ := hz
  refine X_if_ge (tgt := 25) dL_isRead_6 (by decide) (by decide) (fun c_6 => absurd c_6 (by decide)) (fun c_6 => ?_)
  refine X_aload dL_isRead_9 rfl ?_
  refine X_iload dL_isRead_10 rfl ?_
  refine X_iconst dL_isRead_11 ?_
  refine Y_iV dL_isRead_12 cv_L_35 sh_0 (by decide) (u_read hW b hb 1 (by decide)) rfl (fun z I hz => ?_)
  obtain ⟨ez, hW⟩ := hz
  have e1 : (oRead s b 1).1 = -1 := by
    show rbZ s.1 s.2 b 1 = -1
    unfold rbZ
    rw [hp]
  have e2 : nxS s (oRead s b 1) = s := by
    unfold nxS
    rw [e1, if_neg (by decide)]
  rw [e1] at ez
  rw [e2] at hW
  rw [ez]
  refine X_iconst dL_isRead_15 ?_
  refine X_same_ne (tgt := 23) dL_isRead_16 (by decide) rfl ?_
  refine X_iconst dL_isRead_19 ?_
  refine X_goto (tgt := 24) dL_isRead_20 (by decide) ?_
  refine X_iret dL_isRead_24 (Or.inr ⟨rfl, by omega⟩) ?_
  exact ⟨rfl, rfl, _, rfl, rfl, s, hW, hI, hE.up⟩
set_option maxRecDepth 20000 in
set_option maxHeartbeats 4000000 in
theorem r_lo {s s1 : xS} {J : xI} {e : Nat} (hI1 : IV s1.1 s1.2) (hE1 : EV s1 (e + 1)) (hG : GI s.1 s.2) {k : Nat} (hk : k < s.2) (hk1 : k < s1.2) (b : Int) (hb1 : b = gb s1.1 k 0) (t : Nat) (ht : 1 ≤ t ∧ t ≤ 12) (told : Int) (htold : 0 ≤ told ∧ told ≤ 200000) (f21 : s1.1 21 = s.1 21) (f6 : gb s1.1 k 6 = gb s.1 k 6 + (t : Int)) (fs : s1.1 19 + s1.1 20 = s.1 19 + s.1 20 + told) (h3 : 0 ≤ gb s.1 k 3 ∧ gb s.1 k 3 < 2) (f3 : gb s1.1 k 3 = gb s.1 k 3) (f20 : s1.1 20 = s.1 20) (f22 : s1.1 22 = s.1 22) (f12 : s1.1 (12 + (gb s.1 k 3).toNat) = s.1 (12 + (gb s.1 k 3).toNat)) (fP : told = (t : Int) * (gb s.1 k 1 * s.1 (12 + (gb s.1 k 3).toNat))) : ∀ I, WK s1 J I → Y kL_isRead 7 138 [some (rr 0), some (ii b), some (ii (t : Int)), some (ii (gb s.1 k 1)), some (ii (gb s.1 k 2)), some (ii (gb s.1 k 3)), some (ii (gb s.1 k 5)), some (ii (gb s.1 k 6)), some (ii (s.1 19 + s.1 20)), some (ii (s.1 20)), some (ii (s.1 22)), some (ii (s.1 21)), some (ii told), none, none, none] [ii (gb s1.1 k 2)] I (q_i (fun ans I2 => ans = 1 ∧ NX J e I2)) := by
  intro I hW
  have hN1 := hI1.2.2.1
  have hbb := hG.b hk
  have hb1b := hW.g.b hk1
  refine X_istoreW dL_isRead_138 (by decide) ?_
  dsimp only [List.set]
  refine X_iloadW dL_isRead_140 rfl ?_
  refine X_if_lt (tgt := 238) dL_isRead_142 (by decide) (by omega) (fun c_142 => absurd c_142 (by omega)) (fun c_142 => ?_)
  refine X_aload dL_isRead_145 rfl ?_
  refine X_bipush dL_isRead_146 (by decide) ?_
  refine Y_pV dL_isRead_148 cv_L_8 sh_0 (by decide) (v_num hW 19 (by decide) rfl) rfl ?_
  refine X_aload dL_isRead_151 rfl ?_
  refine X_bipush dL_isRead_152 (by decide) ?_
  refine Y_pV dL_isRead_154 cv_L_8 sh_0 (by decide) (v_num hW 20 (by decide) rfl) rfl ?_
  refine X_iadd dL_isRead_157 ?_
  refine X_iloadW dL_isRead_158 rfl ?_
  refine X_iloadW dL_isRead_160 rfl ?_
  refine X_iadd dL_isRead_162 ?_
  refine X_same_ne (tgt := 238) dL_isRead_163 (by decide) (by omega) ?_
  refine X_aload dL_isRead_166 rfl ?_
  refine X_bipush dL_isRead_167 (by decide) ?_
  refine Y_pV dL_isRead_169 cv_L_8 sh_0 (by decide) (v_num hW 20 (by decide) rfl) rfl ?_
  refine X_iloadW dL_isRead_172 rfl ?_
  refine X_iloadW dL_isRead_174 rfl ?_
  refine X_iconst dL_isRead_176 ?_
  refine X_icmp_ne (tgt := 193) dL_isRead_177 (by decide) (by omega) (fun c_177 => ?_) (fun c_177 => absurd c_177 (by omega))
  refine X_iconst dL_isRead_193 ?_
  refine X_iadd dL_isRead_194 ?_
  refine X_same_ne (tgt := 238) dL_isRead_195 (by decide) (by omega) ?_
  refine X_aload dL_isRead_198 rfl ?_
  refine X_iload dL_isRead_199 rfl ?_
  refine X_iconst dL_isRead_200 ?_
  refine Y_iV dL_isRead_201 cv_L_18 sh_0 (by decide) (v_of1 hW hk1 hN1 hb1) rfl (fun z I hz => ?_)
  obtain ⟨rfl, hW⟩ := hz
  refine X_iloadW dL_isRead_204 rfl ?_
  refine X_same_ne (tgt := 238) dL_isRead_206 (by decide) rfl ?_
  refine X_aload dL_isRead_209 rfl ?_
  refine X_iload dL_isRead_210 rfl ?_
  refine X_bipush dL_isRead_211 (by decide) ?_
  refine Y_iV dL_isRead_213 cv_L_18 sh_0 (by decide) (v_of6 hW hk1 hN1 hb1) rfl (fun z I hz => ?_)
  obtain ⟨rfl, hW⟩ := hz
  refine X_iloadW dL_isRead_216 rfl ?_
  refine X_iload dL_isRead_218 rfl ?_
  refine X_iadd dL_isRead_219 ?_
  refine X_same_ne (tgt := 238) dL_isRead_220 (by decide) (by omega) ?_
  refine X_aload dL_isRead_223 rfl ?_
  refine X_bipush dL_isRead_224 (by decide) ?_
  refine Y_pV dL_isRead_226 cv_L_8 sh_0 (by decide) (v_num hW 21 (by decide) rfl) rfl ?_
  refine X_iloadW dL_isRead_229 rfl ?_
  refine X_same_ne (tgt := 238) dL_isRead_231 (by decide) (by omega) ?_
  refine X_iconst dL_isRead_234 ?_
  refine X_goto (tgt := 239) dL_isRead_235 (by decide) ?_
  refine X_istoreW dL_isRead_239 (by decide) ?_
  dsimp only [List.set]
  refine X_aload dL_isRead_241 rfl ?_
  refine X_iload dL_isRead_242 rfl ?_
  refine X_iconst dL_isRead_243 ?_
  refine Y_iV dL_isRead_244 cv_L_18 sh_0 (by decide) (v_of2 hW hk1 hN1 hb1) rfl (fun z I hz => ?_)
  obtain ⟨rfl, hW⟩ := hz
  refine X_istoreW dL_isRead_247 (by decide) ?_
  dsimp only [List.set]
  refine X_iloadW dL_isRead_249 rfl ?_
  refine X_iconst dL_isRead_251 ?_
  refine X_icmp_ge (tgt := 302) dL_isRead_252 (by decide) (by omega) (fun c_252 => absurd c_252 (by omega)) (fun c_252 => ?_)
  refine X_iloadW dL_isRead_255 rfl ?_
  refine X_if_eq (tgt := 300) dL_isRead_257 (by decide) (by decide) (fun c_257 => absurd c_257 (by decide)) (fun c_257 => ?_)
  refine X_iloadW dL_isRead_260 rfl ?_
  refine X_iloadW dL_isRead_262 rfl ?_
  refine X_same_ne (tgt := 300) dL_isRead_264 (by decide) f3.symm ?_
  refine X_iloadW dL_isRead_267 rfl ?_
  refine X_iload dL_isRead_269 rfl ?_
  refine X_iload dL_isRead_270 rfl ?_
  refine X_imul dL_isRead_271 ?_
  refine X_aload dL_isRead_272 rfl ?_
  refine X_bipush dL_isRead_273 (by decide) ?_
  refine X_iloadW dL_isRead_275 rfl ?_
  refine X_iadd dL_isRead_277 ?_
  refine Y_pV dL_isRead_278 cv_L_8 sh_0 (by decide) (v_num hW (12 + (gb s.1 k 3).toNat) (by omega) (by omega)) rfl ?_
  refine X_imul dL_isRead_281 ?_
  refine X_same_ne (tgt := 300) dL_isRead_282 (by decide) (by rw [f12, fP, Int.mul_assoc]) ?_
  refine X_aload dL_isRead_285 rfl ?_
  refine X_bipush dL_isRead_286 (by decide) ?_
  refine Y_pV dL_isRead_288 cv_L_8 sh_0 (by decide) (v_num hW 22 (by decide) rfl) rfl ?_
  refine X_iloadW dL_isRead_291 rfl ?_
  refine X_same_ne (tgt := 300) dL_isRead_293 (by decide) f22.symm ?_
  refine X_iconst dL_isRead_296 ?_
  refine X_goto (tgt := 301) dL_isRead_297 (by decide) ?_
  refine X_iret dL_isRead_301 (Or.inr ⟨rfl, by omega⟩) ?_
  exact ⟨rfl, rfl, _, rfl, rfl, s1, hW, hI1, hE1⟩
set_option maxRecDepth 20000 in
set_option maxHeartbeats 4000000 in
theorem r_hi {s s1 : xS} {J : xI} {e : Nat} (hI1 : IV s1.1 s1.2) (hE1 : EV s1 (e + 1)) (hG : GI s.1 s.2) {k : Nat} (hk : k < s.2) (hk1 : k < s1.2) (b : Int) (hb1 : b = gb s1.1 k 0) (t : Nat) (ht : 1 ≤ t ∧ t ≤ 12) (told : Int) (htold : 0 ≤ told ∧ told ≤ 200000) (f21 : s1.1 21 = s.1 21) (f6 : gb s1.1 k 6 = gb s.1 k 6 + (t : Int)) (fs : s1.1 19 + s1.1 20 = s.1 19 + s.1 20 + told) (h3 : gb s.1 k 3 = 2) (f5 : s1.1 5 = s.1 5) (f20 : s1.1 20 = s.1 20 + gb s.1 k 1 * s.1 5 * gb s.1 k 5) (fp : gb s1.1 k 5 = 0) (f67 : s1.1 6 = s.1 6 ∧ s1.1 7 = s.1 7) (fw : (0 ≤ gb s1.1 k 3 ∧ gb s1.1 k 3 < 2 ∧ s1.1 22 = s.1 22 + 1) ∨ (gb s1.1 k 3 = 2 ∧ s1.1 22 = s.1 22 + (t : Int) ∧ s.1 6 < onF s1.1 s1.2 (0 : Nat) 1 + gb s.1 k 1 ∧ s.1 7 < onF s1.1 s1.2 (1 : Nat) 1 + gb s.1 k 1)) : ∀ I, WK s1 J I → Y kL_isRead 7 138 [some (rr 0), some (ii b), some (ii (t : Int)), some (ii (gb s.1 k 1)), some (ii (gb s.1 k 2)), some (ii (gb s.1 k 3)), some (ii (gb s.1 k 5)), some (ii (gb s.1 k 6)), some (ii (s.1 19 + s.1 20)), some (ii (s.1 20)), some (ii (s.1 22)), some (ii (s.1 21)), some (ii told), none, none, none] [ii (gb s1.1 k 2)] I (q_i (fun ans I2 => ans = 1 ∧ NX J e I2)) := by
  intro I hW
  have hN1 := hI1.2.2.1
  have hbb := hG.b hk
  have hb1b := hW.g.b hk1
  have o0 := on_bounds hW.g ((0 : Nat) : Int)
  have o1 := on_bounds hW.g ((1 : Nat) : Int)
  have s6 := hG.s6 (j := 0) (by decide)
  have s7 := hG.s6 (j := 1) (by decide)
  rw [show (6 : Nat) + 0 = 6 from rfl] at s6
  rw [show (6 : Nat) + 1 = 7 from rfl] at s7
  refine X_istoreW dL_isRead_138 (by decide) ?_
  dsimp only [List.set]
  refine X_iloadW dL_isRead_140 rfl ?_
  refine X_if_lt (tgt := 238) dL_isRead_142 (by decide) (by omega) (fun c_142 => absurd c_142 (by omega)) (fun c_142 => ?_)
  refine X_aload dL_isRead_145 rfl ?_
  refine X_bipush dL_isRead_146 (by decide) ?_
  refine Y_pV dL_isRead_148 cv_L_8 sh_0 (by decide) (v_num hW 19 (by decide) rfl) rfl ?_
  refine X_aload dL_isRead_151 rfl ?_
  refine X_bipush dL_isRead_152 (by decide) ?_
  refine Y_pV dL_isRead_154 cv_L_8 sh_0 (by decide) (v_num hW 20 (by decide) rfl) rfl ?_
  refine X_iadd dL_isRead_157 ?_
  refine X_iloadW dL_isRead_158 rfl ?_
  refine X_iloadW dL_isRead_160 rfl ?_
  refine X_iadd dL_isRead_162 ?_
  refine X_same_ne (tgt := 238) dL_isRead_163 (by decide) (by omega) ?_
  refine X_aload dL_isRead_166 rfl ?_
  refine X_bipush dL_isRead_167 (by decide) ?_
  refine Y_pV dL_isRead_169 cv_L_8 sh_0 (by decide) (v_num hW 20 (by decide) rfl) rfl ?_
  refine X_iloadW dL_isRead_172 rfl ?_
  refine X_iloadW dL_isRead_174 rfl ?_
  refine X_iconst dL_isRead_176 ?_
  refine X_icmp_ne (tgt := 193) dL_isRead_177 (by decide) (by omega) (fun c_177 => absurd c_177 (by omega)) (fun c_177 => ?_)
  refine X_iload dL_isRead_180 rfl ?_
  refine X_aload dL_isRead_181 rfl ?_
  refine X_iconst dL_isRead_182 ?_
  refine Y_pV dL_isRead_183 cv_L_8 sh_0 (by decide) (v_num hW 5 (by decide) rfl) rfl ?_
  refine X_imul dL_isRead_186 ?_
  refine X_iloadW dL_isRead_187 rfl ?_
  refine X_imul dL_isRead_189 ?_
  refine X_goto (tgt := 194) dL_isRead_190 (by decide) ?_
  refine X_iadd dL_isRead_194 ?_
  refine X_same_ne (tgt := 238) dL_isRead_195 (by decide) (by rw [f5]; exact f20.symm) ?_
  refine X_aload dL_isRead_198 rfl ?_
  refine X_iload dL_isRead_199 rfl ?_
  refine X_iconst dL_isRead_200 ?_
  refine Y_iV dL_isRead_201 cv_L_18 sh_0 (by decide) (v_of1 hW hk1 hN1 hb1) rfl (fun z I hz => ?_)
  obtain ⟨rfl, hW⟩ := hz
  refine X_iloadW dL_isRead_204 rfl ?_
  refine X_same_ne (tgt := 238) dL_isRead_206 (by decide) rfl ?_
  refine X_aload dL_isRead_209 rfl ?_
  refine X_iload dL_isRead_210 rfl ?_
  refine X_bipush dL_isRead_211 (by decide) ?_
  refine Y_iV dL_isRead_213 cv_L_18 sh_0 (by decide) (v_of6 hW hk1 hN1 hb1) rfl (fun z I hz => ?_)
  obtain ⟨rfl, hW⟩ := hz
  refine X_iloadW dL_isRead_216 rfl ?_
  refine X_iload dL_isRead_218 rfl ?_
  refine X_iadd dL_isRead_219 ?_
  refine X_same_ne (tgt := 238) dL_isRead_220 (by decide) (by omega) ?_
  refine X_aload dL_isRead_223 rfl ?_
  refine X_bipush dL_isRead_224 (by decide) ?_
  refine Y_pV dL_isRead_226 cv_L_8 sh_0 (by decide) (v_num hW 21 (by decide) rfl) rfl ?_
  refine X_iloadW dL_isRead_229 rfl ?_
  refine X_same_ne (tgt := 238) dL_isRead_231 (by decide) (by omega) ?_
  refine X_iconst dL_isRead_234 ?_
  refine X_goto (tgt := 239) dL_isRead_235 (by decide) ?_
  refine X_istoreW dL_isRead_239 (by decide) ?_
  dsimp only [List.set]
  refine X_aload dL_isRead_241 rfl ?_
  refine X_iload dL_isRead_242 rfl ?_
  refine X_iconst dL_isRead_243 ?_
  refine Y_iV dL_isRead_244 cv_L_18 sh_0 (by decide) (v_of2 hW hk1 hN1 hb1) rfl (fun z I hz => ?_)
  obtain ⟨rfl, hW⟩ := hz
  refine X_istoreW dL_isRead_247 (by decide) ?_
  dsimp only [List.set]
  refine X_iloadW dL_isRead_249 rfl ?_
  refine X_iconst dL_isRead_251 ?_
  refine X_icmp_ge (tgt := 302) dL_isRead_252 (by decide) (by omega) (fun c_252 => ?_) (fun c_252 => absurd c_252 (by omega))
  refine X_iloadW dL_isRead_302 rfl ?_
  refine X_if_eq (tgt := 389) dL_isRead_304 (by decide) (by decide) (fun c_304 => absurd c_304 (by decide)) (fun c_304 => ?_)
  refine X_aload dL_isRead_307 rfl ?_
  refine X_iload dL_isRead_308 rfl ?_
  refine X_iconst dL_isRead_309 ?_
  refine Y_iV dL_isRead_310 cv_L_18 sh_0 (by decide) (v_of5 hW hk1 hN1 hb1) rfl (fun z I hz => ?_)
  obtain ⟨rfl, hW⟩ := hz
  refine X_if_ne (tgt := 389) dL_isRead_313 (by decide) (by omega) (fun c_313 => absurd c_313 (by omega)) (fun c_313 => ?_)
  refine X_iloadW dL_isRead_316 rfl ?_
  refine X_iconst dL_isRead_318 ?_
  refine X_icmp_ne (tgt := 372) dL_isRead_319 (by decide) (by omega) (fun c_319 => ?_) (fun c_319 => ?_)
  · refine X_aload dL_isRead_372 rfl ?_
    refine X_bipush dL_isRead_373 (by decide) ?_
    refine Y_pV dL_isRead_375 cv_L_8 sh_0 (by decide) (v_num hW 22 (by decide) rfl) rfl ?_
    refine X_iloadW dL_isRead_378 rfl ?_
    refine X_iconst dL_isRead_380 ?_
    refine X_iadd dL_isRead_381 ?_
    refine X_same_ne (tgt := 389) dL_isRead_382 (by decide) (by omega) ?_
    refine X_iconst dL_isRead_385 ?_
    refine X_goto (tgt := 390) dL_isRead_386 (by decide) ?_
    refine X_iret dL_isRead_390 (Or.inr ⟨rfl, by omega⟩) ?_
    exact ⟨rfl, rfl, _, rfl, rfl, s1, hW, hI1, hE1⟩
  · refine X_aload dL_isRead_322 rfl ?_
    refine X_bipush dL_isRead_323 (by decide) ?_
    refine Y_pV dL_isRead_325 cv_L_8 sh_0 (by decide) (v_num hW 22 (by decide) rfl) rfl ?_
    refine X_iloadW dL_isRead_328 rfl ?_
    refine X_iload dL_isRead_330 rfl ?_
    refine X_iadd dL_isRead_331 ?_
    refine X_same_ne (tgt := 389) dL_isRead_332 (by decide) (by omega) ?_
    refine X_aload dL_isRead_335 rfl ?_
    refine X_iconst dL_isRead_336 ?_
    refine X_iconst dL_isRead_337 ?_
    refine Y_pV dL_isRead_338 cv_L_22 sh_0 (by decide) (v_sh1 hW 0 (by decide) rfl) rfl ?_
    refine X_iload dL_isRead_341 rfl ?_
    refine X_iadd dL_isRead_342 ?_
    refine X_aload dL_isRead_343 rfl ?_
    refine X_iconst dL_isRead_344 ?_
    refine X_iconst dL_isRead_345 ?_
    refine Y_pV dL_isRead_346 cv_L_22 sh_0 (by decide) (v_sh0 hW 0 (by decide) rfl) rfl ?_
    rw [show (6 : Nat) + 0 = 6 from rfl]
    refine X_icmp_le (tgt := 389) dL_isRead_349 (by decide) (by omega) (fun c_349 => absurd c_349 (by omega)) (fun c_349 => ?_)
    refine X_aload dL_isRead_352 rfl ?_
    refine X_iconst dL_isRead_353 ?_
    refine X_iconst dL_isRead_354 ?_
    refine Y_pV dL_isRead_355 cv_L_22 sh_0 (by decide) (v_sh1 hW 1 (by decide) rfl) rfl ?_
    refine X_iload dL_isRead_358 rfl ?_
    refine X_iadd dL_isRead_359 ?_
    refine X_aload dL_isRead_360 rfl ?_
    refine X_iconst dL_isRead_361 ?_
    refine X_iconst dL_isRead_362 ?_
    refine Y_pV dL_isRead_363 cv_L_22 sh_0 (by decide) (v_sh0 hW 1 (by decide) rfl) rfl ?_
    rw [show (6 : Nat) + 1 = 7 from rfl]
    refine X_icmp_le (tgt := 389) dL_isRead_366 (by decide) (by omega) (fun c_366 => absurd c_366 (by omega)) (fun c_366 => ?_)
    refine X_goto (tgt := 385) dL_isRead_369 (by decide) ?_
    refine X_iconst dL_isRead_385 ?_
    refine X_goto (tgt := 390) dL_isRead_386 (by decide) ?_
    refine X_iret dL_isRead_390 (Or.inr ⟨rfl, by omega⟩) ?_
    exact ⟨rfl, rfl, _, rfl, rfl, s1, hW, hI1, hE1⟩
set_option maxRecDepth 20000 in
set_option maxHeartbeats 4000000 in
theorem r_mid {s s1 : xS} {J : xI} {e : Nat} (hG : GI s.1 s.2) {k : Nat} (hk : k < s.2) (b : Int) (t : Nat) (ht : 1 ≤ t ∧ t ≤ 12) (told : Int) (f2 : gb s1.1 k 2 = min (gb s.1 k 2 + 1000 * (t : Int)) 99999) (h138 : ∀ I, WK s1 J I → Y kL_isRead 7 138 [some (rr 0), some (ii b), some (ii (t : Int)), some (ii (gb s.1 k 1)), some (ii (gb s.1 k 2)), some (ii (gb s.1 k 3)), some (ii (gb s.1 k 5)), some (ii (gb s.1 k 6)), some (ii (s.1 19 + s.1 20)), some (ii (s.1 20)), some (ii (s.1 22)), some (ii (s.1 21)), some (ii told), none, none, none] [ii (gb s1.1 k 2)] I (q_i (fun ans I2 => ans = 1 ∧ NX J e I2))) : ∀ I, WK s1 J I → Y kL_isRead 7 112 [some (rr 0), some (ii b), some (ii (t : Int)), some (ii (gb s.1 k 1)), some (ii (gb s.1 k 2)), some (ii (gb s.1 k 3)), some (ii (gb s.1 k 5)), some (ii (gb s.1 k 6)), some (ii (s.1 19 + s.1 20)), some (ii (s.1 20)), some (ii (s.1 22)), some (ii (s.1 21)), some (ii told), none, none, none] [] I (q_i (fun ans I2 => ans = 1 ∧ NX J e I2)) := by
  intro I hW
  have hbb := hG.b hk
  refine X_iloadW dL_isRead_112 rfl ?_
  refine X_sipush dL_isRead_114 (by decide) ?_
  refine X_iload dL_isRead_117 rfl ?_
  refine X_imul dL_isRead_118 ?_
  refine X_iadd dL_isRead_119 ?_
  refine X_ldc (z := 99999) dL_isRead_120 rfl lw_L_38 (by decide) ?_
  refine X_icmp_le (tgt := 130) dL_isRead_122 (by decide) (by omega) (fun c_122 => ?_) (fun c_122 => ?_)
  · refine X_iloadW dL_isRead_130 rfl ?_
    refine X_sipush dL_isRead_132 (by decide) ?_
    refine X_iload dL_isRead_135 rfl ?_
    refine X_imul dL_isRead_136 ?_
    refine X_iadd dL_isRead_137 ?_
    have e9 : gb s1.1 k 2 = gb s.1 k 2 + 1000 * (t : Int) := by rw [f2]; omega
    have h9 := h138 _ hW
    rw [e9] at h9
    exact h9
  · refine X_ldc (z := 99999) dL_isRead_125 rfl lw_L_38 (by decide) ?_
    refine X_goto (tgt := 138) dL_isRead_127 (by decide) ?_
    have e9 : gb s1.1 k 2 = 99999 := by rw [f2]; omega
    have h9 := h138 _ hW
    rw [e9] at h9
    exact h9
set_option maxRecDepth 20000 in
set_option maxHeartbeats 4000000 in
theorem r_go {s : xS} {J : xI} {e : Nat} {I : xI} (hW : WK s J I) (hI : IV s.1 s.2) (b : Int) (hb : -2147483648 ≤ b ∧ b ≤ 2147483647) {k : Nat} (hk : k < s.2) (hbk : b = gb s.1 k 0) (t : Nat) (ht : 1 ≤ t ∧ t ≤ 12) (h112 : ∀ I, WK (rbG s.1 s.2 k t, s.2) J I → Y kL_isRead 7 112 [some (rr 0), some (ii b), some (ii (t : Int)), some (ii (gb s.1 k 1)), some (ii (gb s.1 k 2)), some (ii (gb s.1 k 3)), some (ii (gb s.1 k 5)), some (ii (gb s.1 k 6)), some (ii (s.1 19 + s.1 20)), some (ii (s.1 20)), some (ii (s.1 22)), some (ii (s.1 21)), some (ii (rbP s.1 s.2 k t)), none, none, none] [] I (q_i (fun ans I2 => ans = 1 ∧ NX J e I2))) : Y kL_isRead 7 0 [some (rr 0), some (ii b), some (ii (t : Int)), none, none, none, none, none, none, none, none, none, none, none, none, none] [] I (q_i (fun ans I2 => ans = 1 ∧ NX J e I2)) := by
  have hG := hW.g
  have hN := hI.2.2.1
  have hbb := hG.b hk
  have hP := rbP_bounds hG hk t
  have hpl : pl s.1 s.2 b = some k := by rw [hbk]; exact pl_nu hN hk
  have e1 : (oRead s b (t : Int)).1 = rbP s.1 s.2 k t := by
    show rbZ s.1 s.2 b (t : Int) = _
    unfold rbZ
    rw [hpl]
    show (if 1 ≤ (t : Int) ∧ (t : Int) ≤ 99 then rbP s.1 s.2 k (t : Int).toNat else -2) = _
    rw [if_pos (by omega), Int.toNat_natCast]
  have e2 : nxS s (oRead s b (t : Int)) = (rbG s.1 s.2 k t, s.2) := by
    unfold nxS
    rw [e1, if_pos hP.1]
    unfold oRead
    rw [hpl]
    show (rbG s.1 s.2 k (t : Int).toNat, s.2) = _
    rw [Int.toNat_natCast]
  refine X_aload dL_isRead_0 rfl ?_
  refine X_iload dL_isRead_1 rfl ?_
  refine X_iconst dL_isRead_2 ?_
  refine Y_iV dL_isRead_3 cv_L_18 sh_0 (by decide) (v_of0 hW hk hN hbk) rfl (fun z I hz => ?_)
  obtain ⟨rfl, hW⟩ := hz
  refine X_if_ge (tgt := 25) dL_isRead_6 (by decide) (by omega) (fun c_6 => ?_) (fun c_6 => absurd c_6 (by omega))
  refine X_aload dL_isRead_25 rfl ?_
  refine X_iload dL_isRead_26 rfl ?_
  refine X_iconst dL_isRead_27 ?_
  refine Y_iV dL_isRead_28 cv_L_18 sh_0 (by decide) (v_of0 hW hk hN hbk) rfl (fun z I hz => ?_)
  obtain ⟨rfl, hW⟩ := hz
  refine X_istore dL_isRead_31 (by decide) ?_
  dsimp only [List.set]
  refine X_aload dL_isRead_32 rfl ?_
  refine X_iload dL_isRead_33 rfl ?_
  refine X_iconst dL_isRead_34 ?_
  refine Y_iV dL_isRead_35 cv_L_18 sh_0 (by decide) (v_of1 hW hk hN hbk) rfl (fun z I hz => ?_)
  obtain ⟨rfl, hW⟩ := hz
  refine X_istoreW dL_isRead_38 (by decide) ?_
  dsimp only [List.set]
  refine X_aload dL_isRead_40 rfl ?_
  refine X_iload dL_isRead_41 rfl ?_
  refine X_iconst dL_isRead_42 ?_
  refine Y_iV dL_isRead_43 cv_L_18 sh_0 (by decide) (v_of2 hW hk hN hbk) rfl (fun z I hz => ?_)
  obtain ⟨rfl, hW⟩ := hz
  refine X_istoreW dL_isRead_46 (by decide) ?_
  dsimp only [List.set]
  refine X_aload dL_isRead_48 rfl ?_
  refine X_iload dL_isRead_49 rfl ?_
  refine X_iconst dL_isRead_50 ?_
  refine Y_iV dL_isRead_51 cv_L_18 sh_0 (by decide) (v_of5 hW hk hN hbk) rfl (fun z I hz => ?_)
  obtain ⟨rfl, hW⟩ := hz
  refine X_istoreW dL_isRead_54 (by decide) ?_
  dsimp only [List.set]
  refine X_aload dL_isRead_56 rfl ?_
  refine X_iload dL_isRead_57 rfl ?_
  refine X_bipush dL_isRead_58 (by decide) ?_
  refine Y_iV dL_isRead_60 cv_L_18 sh_0 (by decide) (v_of6 hW hk hN hbk) rfl (fun z I hz => ?_)
  obtain ⟨rfl, hW⟩ := hz
  refine X_istoreW dL_isRead_63 (by decide) ?_
  dsimp only [List.set]
  refine X_aload dL_isRead_65 rfl ?_
  refine X_bipush dL_isRead_66 (by decide) ?_
  refine Y_pV dL_isRead_68 cv_L_8 sh_0 (by decide) (v_num hW 19 (by decide) rfl) rfl ?_
  refine X_aload dL_isRead_71 rfl ?_
  refine X_bipush dL_isRead_72 (by decide) ?_
  refine Y_pV dL_isRead_74 cv_L_8 sh_0 (by decide) (v_num hW 20 (by decide) rfl) rfl ?_
  refine X_iadd dL_isRead_77 ?_
  refine X_istoreW dL_isRead_78 (by decide) ?_
  dsimp only [List.set]
  refine X_aload dL_isRead_80 rfl ?_
  refine X_bipush dL_isRead_81 (by decide) ?_
  refine Y_pV dL_isRead_83 cv_L_8 sh_0 (by decide) (v_num hW 20 (by decide) rfl) rfl ?_
  refine X_istoreW dL_isRead_86 (by decide) ?_
  dsimp only [List.set]
  refine X_aload dL_isRead_88 rfl ?_
  refine X_bipush dL_isRead_89 (by decide) ?_
  refine Y_pV dL_isRead_91 cv_L_8 sh_0 (by decide) (v_num hW 22 (by decide) rfl) rfl ?_
  refine X_istoreW dL_isRead_94 (by decide) ?_
  dsimp only [List.set]
  refine X_aload dL_isRead_96 rfl ?_
  refine X_bipush dL_isRead_97 (by decide) ?_
  refine Y_pV dL_isRead_99 cv_L_8 sh_0 (by decide) (v_num hW 21 (by decide) rfl) rfl ?_
  refine X_istoreW dL_isRead_102 (by decide) ?_
  dsimp only [List.set]
  refine X_aload dL_isRead_104 rfl ?_
  refine X_iload dL_isRead_105 rfl ?_
  refine X_iload dL_isRead_106 rfl ?_
  refine Y_iV dL_isRead_107 cv_L_35 sh_0 (by decide) (u_read hW b hb (t : Int) (by omega)) rfl (fun z I hz => ?_)
  obtain ⟨ez, hW⟩ := hz
  rw [e1] at ez
  rw [e2] at hW
  rw [ez]
  refine X_istoreW dL_isRead_110 (by decide) ?_
  dsimp only [List.set]
  exact h112 _ hW
set_option maxRecDepth 20000 in
set_option maxHeartbeats 4000000 in
theorem h_read {s : xS} {J : xI} {e : Nat} {I : xI} (hW : WK s J I) (hI : IV s.1 s.2) (hE : EV s e) (b : Int) (hb : -2147483648 ≤ b ∧ b ≤ 2147483647) (t : Nat) (ht : 1 ≤ t ∧ t ≤ 12) : S kL_isRead 7 [rr 0, ii b, ii (t : Int)] I (q_i (fun ans I2 => ans = 1 ∧ NX J e I2)) := by
  have hG := hW.g
  refine Sp_intro (by decide +kernel) (Nat.le_of_ble_eq_true rfl) ?_
  show Y kL_isRead 7 0 [some (rr 0), some (ii b), some (ii (t : Int)), none, none, none, none, none, none, none, none, none, none, none, none, none] [] I _
  cases hp : pl s.1 s.2 b with
  | none => exact r_no hW hI hE b hb hp t ht
  | some k =>
    have hk := pl_lt hp
    have hbk : b = gb s.1 k 0 := (pl_eq hp).symm
    have hbb := hG.b hk
    have hP := rbP_bounds hG hk t
    have hI1 : IV (rbG s.1 s.2 k t) s.2 := IV.rb hG hI hk t
    obtain ⟨a16, a22, b22⟩ := hE
    refine r_go hW hI b hb hk hbk t ht ?_
    by_cases h3 : gb s.1 k 3 = 2
    · obtain ⟨u, eu⟩ : ∃ u, t = u + 1 := ⟨t - 1, by omega⟩
      subst eu
      obtain ⟨c1, c2, c3, c4, c5, c6, c7, c8, c9⟩ := read_hi (n := s.2) h3 hbb.2.2.1.2 u
      have d16 := c1 16 (by decide) (by decide) (by decide) (by decide)
      have hE1 : EV (rbG s.1 s.2 k (u + 1), s.2) (e + 1) := ⟨by show rbG s.1 s.2 k (u + 1) 16 ≤ _; omega, by show 0 ≤ rbG s.1 s.2 k (u + 1) 22; omega, by show rbG s.1 s.2 k (u + 1) 22 ≤ _; omega⟩
      refine r_mid hG hk b (u + 1) ht _ c8 ?_
      exact r_hi (s1 := (rbG s.1 s.2 k (u + 1), s.2)) hI1 hE1 hG hk hk b (by rw [hbk]; exact c4.symm) (u + 1) ht _ (by omega) (c1 21 (by decide) (by decide) (by decide) (by decide)) c7 c3 h3 (c1 5 (by decide) (by decide) (by decide) (by decide)) c2 c6 ⟨c1 6 (by decide) (by decide) (by decide) (by decide), c1 7 (by decide) (by decide) (by decide) (by decide)⟩ c9
    · obtain ⟨c1, c2, c3, c4, c5, c6⟩ := read_lo (g := s.1) (n := s.2) (k := k) (by omega) hbb.2.2.1.2 t
      have d16 := c1 16 (by decide) (by decide)
      have d20 := c1 20 (by decide) (by decide)
      have d22 := c1 22 (by decide) (by decide)
      have hE1 : EV (rbG s.1 s.2 k t, s.2) (e + 1) := ⟨by show rbG s.1 s.2 k t 16 ≤ _; omega, by show 0 ≤ rbG s.1 s.2 k t 22; omega, by show rbG s.1 s.2 k t 22 ≤ _; omega⟩
      refine r_mid hG hk b t ht _ c6 ?_
      exact r_lo (s1 := (rbG s.1 s.2 k t, s.2)) hI1 hE1 hG hk hk b (by rw [hbk]; exact (c4 k 0 (by decide) (by omega)).symm) t ht _ (by omega) (c1 21 (by decide) (by decide)) c5 (by show rbG s.1 s.2 k t 19 + rbG s.1 s.2 k t 20 = _; omega) (by omega) (c4 k 3 (by decide) (by omega)) d20 d22 (c1 _ (by omega) (by omega)) c3
