/-! the law: both programs side by side -/
abbrev kW (nm : String) : xK := (⟨RL, nm, "([I)Z"⟩, cL_law, 4, some .boolean)
def qT : xQ := fun ro _ _ _ => ro = some (ii 1)
abbrev Lw (sb Ln : Nat) (xs : Nat → Int) (nm : String) (pc i : Nat) (st : List xAV) (I : xI) : Prop := YL sb Ln xs (kW nm) 10 pc [none, some (rr 0), some (rr 88), some (ii (i : Int))] st I qT
/-- both hold the same -/
def WO (I : xI) (s : xS) (hs : List xS) (sn : Option xS) (tx : Nat → Int) (len : Nat) : Prop := CI I s hs sn tx len ∧ MI I s hs sn tx len ∧ CG s hs sn tx len
def KK (sb Ln : Nat) (xs : Nat → Int) (nm : String) (i : Nat) : Prop := ∀ (I : xI) (s : xS) (hs : List xS) (sn : Option xS) (tx : Nat → Int) (len : Nat), WO I s hs sn tx len → Lw sb Ln xs nm 626 i [] I
theorem mi_fx {I I1 : xI} {s : xS} {hs : List xS} {sn : Option xS} {tx : Nat → Int} {len : Nat} (h : MI I s hs sn tx len) (e : FX I I1) : MI I1 s hs sn tx len :=
  ⟨fun j hj => by rw [e 89 (by decide)]; exact h.1 j hj, h.2.1.of (by rw [e 88 (by decide)]) (e 90 (by decide)), h.2.2.1.of (by rw [e 88 (by decide)]) (e 91 (by decide)), by rw [e 88 (by decide)]; exact h.2.2.2.1, fun j hj => by rw [e 92 (by decide)]; exact h.2.2.2.2 j hj⟩
theorem ci_mx {I I1 : xI} {s : xS} {hs : List xS} {sn : Option xS} {tx : Nat → Int} {len : Nat} (h : CI I s hs sn tx len) (e : MX I I1) : CI I1 s hs sn tx len :=
  ⟨⟨fun j hj => by rw [e 101 (by decide)]; exact h.1.1 j hj, fun j hj => by rw [e 100 (by decide)]; exact h.1.2 j hj⟩, ⟨fun j hj => by rw [e _ (by omega)]; exact h.2.1.1 j hj, fun k hk j hj => by rw [e _ (by omega)]; exact h.2.1.2.1 k hk j hj, fun sh hsh => by rw [e _ (by omega)]; exact h.2.1.2.2 sh hsh⟩, h.2.2.1.keep (fun q a b => e q (by omega)), h.2.2.2.1.keep (fun q a => e q (by omega)), by rw [e 83 (by decide)]; exact h.2.2.2.2.1, fun j hj => by rw [e 84 (by decide)]; exact h.2.2.2.2.2 j hj⟩
theorem cg_op {s : xS} {hs : List xS} {sn : Option xS} {tx : Nat → Int} {len : Nat} (hg : CG s hs sn tx len) {r : Int × xS} (hr : 0 ≤ r.1 → SG r.2) : CG (nxS s r) (nxH s hs r) sn tx len := ⟨nxS_ok hg.1 hr, nxH_ok hg.2.1 hg.1, hg.2.2.1, hg.2.2.2⟩
theorem hs_end (hs : List xS) : hs = [] ∨ ∃ (h1 : List xS) (q : xS), hs = h1 ++ [q] := by
  induction hs with
  | nil => exact Or.inl rfl
  | cons a l ih =>
    rcases ih with rfl | ⟨h1, q, rfl⟩
    · exact Or.inr ⟨[], a, rfl⟩
    · exact Or.inr ⟨a :: h1, q, rfl⟩
set_option maxRecDepth 20000 in
set_option maxHeartbeats 4000000 in
theorem law_add {sb Ln : Nat} {xs : Nat → Int} {nm : String} (hxs : ∀ j, -2147483648 ≤ xs j ∧ xs j ≤ 2147483647) (hLn : Ln ≤ 1536) {i : Nat} (hi : i + 2 < Ln) {I : xI} {s : xS} {hs : List xS} {sn : Option xS} {tx : Nat → Int} {len : Nat} (hW : WO I s hs sn tx len) (kk : KK sb Ln xs nm i) : Lw sb Ln xs nm 128 i [] I := by
  obtain ⟨hC, hM, hg⟩ := hW
  refine XL_aload dL_law_128 rfl ?_
  refine XL_sldk dL_law_129 dL_law_130 dL_law_131 dL_law_132 dL_law_133 rfl (by omega) hLn ?_
  refine YL_i dL_law_134 cv_L_13 sh_0 (by decide) (pu_add hC hg (xs ((i : Int) + 1).toNat) (hxs _)) rfl (fun z1 I1 h1 => ?_)
  obtain ⟨rfl, hC1, hF1⟩ := h1
  have hM1 := mi_fx hM hF1
  refine XL_aload dL_law_137 rfl ?_
  refine XL_sldk dL_law_138 dL_law_139 dL_law_140 dL_law_141 dL_law_142 rfl (by omega) hLn ?_
  refine YL_i dL_law_143 cv_L_17 sh_88 (by decide) (m_add hM1 hg (xs ((i : Int) + 1).toNat) (hxs _)) rfl (fun z2 I2 h2 => ?_)
  obtain ⟨rfl, hM2, hX2⟩ := h2
  refine XL_same (tgt := 626) dL_law_146 (by decide) ?_
  exact kk I2 _ _ _ _ _ ⟨ci_mx hC1 hX2, hM2, cg_op hg (oAdd_ok hg.1 (xs ((i : Int) + 1).toNat)).2⟩
set_option maxRecDepth 20000 in
set_option maxHeartbeats 4000000 in
theorem law_remove {sb Ln : Nat} {xs : Nat → Int} {nm : String} (hxs : ∀ j, -2147483648 ≤ xs j ∧ xs j ≤ 2147483647) (hLn : Ln ≤ 1536) {i : Nat} (hi : i + 2 < Ln) {I : xI} {s : xS} {hs : List xS} {sn : Option xS} {tx : Nat → Int} {len : Nat} (hW : WO I s hs sn tx len) (kk : KK sb Ln xs nm i) : Lw sb Ln xs nm 151 i [] I := by
  obtain ⟨hC, hM, hg⟩ := hW
  refine XL_aload dL_law_151 rfl ?_
  refine XL_sldk dL_law_152 dL_law_153 dL_law_154 dL_law_155 dL_law_156 rfl (by omega) hLn ?_
  refine YL_i dL_law_157 cv_L_18 sh_0 (by decide) (pu_remove hC hg (xs ((i : Int) + 1).toNat) (hxs _)) rfl (fun z1 I1 h1 => ?_)
  obtain ⟨rfl, hC1, hF1⟩ := h1
  have hM1 := mi_fx hM hF1
  refine XL_aload dL_law_160 rfl ?_
  refine XL_sldk dL_law_161 dL_law_162 dL_law_163 dL_law_164 dL_law_165 rfl (by omega) hLn ?_
  refine YL_i dL_law_166 cv_L_21 sh_88 (by decide) (m_remove hM1 hg (xs ((i : Int) + 1).toNat) (hxs _)) rfl (fun z2 I2 h2 => ?_)
  obtain ⟨rfl, hM2, hX2⟩ := h2
  refine XL_same (tgt := 626) dL_law_169 (by decide) ?_
  exact kk I2 _ _ _ _ _ ⟨ci_mx hC1 hX2, hM2, cg_op hg (oRem_ok hg.1 (xs ((i : Int) + 1).toNat)).2⟩
set_option maxRecDepth 20000 in
set_option maxHeartbeats 4000000 in
theorem law_read {sb Ln : Nat} {xs : Nat → Int} {nm : String} (hxs : ∀ j, -2147483648 ≤ xs j ∧ xs j ≤ 2147483647) (hLn : Ln ≤ 1536) {i : Nat} (hi : i + 2 < Ln) {I : xI} {s : xS} {hs : List xS} {sn : Option xS} {tx : Nat → Int} {len : Nat} (hW : WO I s hs sn tx len) (kk : KK sb Ln xs nm i) : Lw sb Ln xs nm 174 i [] I := by
  obtain ⟨hC, hM, hg⟩ := hW
  refine XL_aload dL_law_174 rfl ?_
  refine XL_sldk dL_law_175 dL_law_176 dL_law_177 dL_law_178 dL_law_179 rfl (by omega) hLn ?_
  refine XL_sldk dL_law_180 dL_law_181 dL_law_182 dL_law_183 dL_law_184 rfl (by omega) hLn ?_
  refine YL_i dL_law_185 cv_L_22 sh_0 (by decide) (pu_read hC hg (xs ((i : Int) + 1).toNat) (hxs _) (xs ((i : Int) + 2).toNat) (hxs _)) rfl (fun z1 I1 h1 => ?_)
  obtain ⟨rfl, hC1, hF1⟩ := h1
  have hM1 := mi_fx hM hF1
  refine XL_aload dL_law_188 rfl ?_
  refine XL_sldk dL_law_189 dL_law_190 dL_law_191 dL_law_192 dL_law_193 rfl (by omega) hLn ?_
  refine XL_sldk dL_law_194 dL_law_195 dL_law_196 dL_law_197 dL_law_198 rfl (by omega) hLn ?_
  refine YL_i dL_law_199 cv_L_26 sh_88 (by decide) (m_read hM1 hg (xs ((i : Int) + 1).toNat) (hxs _) (xs ((i : Int) + 2).toNat) (hxs _)) rfl (fun z2 I2 h2 => ?_)
  obtain ⟨rfl, hM2, hX2⟩ := h2
  refine XL_same (tgt := 626) dL_law_202 (by decide) ?_
  exact kk I2 _ _ _ _ _ ⟨ci_mx hC1 hX2, hM2, cg_op hg (oRead_ok hg.1 (xs ((i : Int) + 1).toNat) (xs ((i : Int) + 2).toNat)).2⟩
set_option maxRecDepth 20000 in
set_option maxHeartbeats 4000000 in
theorem law_pass {sb Ln : Nat} {xs : Nat → Int} {nm : String} (hxs : ∀ j, -2147483648 ≤ xs j ∧ xs j ≤ 2147483647) (hLn : Ln ≤ 1536) {i : Nat} (hi : i + 2 < Ln) {I : xI} {s : xS} {hs : List xS} {sn : Option xS} {tx : Nat → Int} {len : Nat} (hW : WO I s hs sn tx len) (kk : KK sb Ln xs nm i) : Lw sb Ln xs nm 256 i [] I := by
  obtain ⟨hC, hM, hg⟩ := hW
  refine XL_aload dL_law_256 rfl ?_
  refine XL_sldk dL_law_257 dL_law_258 dL_law_259 dL_law_260 dL_law_261 rfl (by omega) hLn ?_
  refine YL_i dL_law_262 cv_L_32 sh_0 (by decide) (pu_pass hC hg (xs ((i : Int) + 1).toNat) (hxs _)) rfl (fun z1 I1 h1 => ?_)
  obtain ⟨rfl, hC1, hF1⟩ := h1
  have hM1 := mi_fx hM hF1
  refine XL_aload dL_law_265 rfl ?_
  refine XL_sldk dL_law_266 dL_law_267 dL_law_268 dL_law_269 dL_law_270 rfl (by omega) hLn ?_
  refine YL_i dL_law_271 cv_L_35 sh_88 (by decide) (m_pass hM1 hg (xs ((i : Int) + 1).toNat) (hxs _)) rfl (fun z2 I2 h2 => ?_)
  obtain ⟨rfl, hM2, hX2⟩ := h2
  refine XL_same (tgt := 626) dL_law_274 (by decide) ?_
  exact kk I2 _ _ _ _ _ ⟨ci_mx hC1 hX2, hM2, cg_op hg (oPass_ok hg.1 (xs ((i : Int) + 1).toNat)).2⟩
set_option maxRecDepth 20000 in
set_option maxHeartbeats 4000000 in
theorem law_set {sb Ln : Nat} {xs : Nat → Int} {nm : String} (hxs : ∀ j, -2147483648 ≤ xs j ∧ xs j ≤ 2147483647) (hLn : Ln ≤ 1536) {i : Nat} (hi : i + 2 < Ln) {I : xI} {s : xS} {hs : List xS} {sn : Option xS} {tx : Nat → Int} {len : Nat} (hW : WO I s hs sn tx len) (kk : KK sb Ln xs nm i) : Lw sb Ln xs nm 279 i [] I := by
  obtain ⟨hC, hM, hg⟩ := hW
  refine XL_aload dL_law_279 rfl ?_
  refine XL_sldk dL_law_280 dL_law_281 dL_law_282 dL_law_283 dL_law_284 rfl (by omega) hLn ?_
  refine XL_sldk dL_law_285 dL_law_286 dL_law_287 dL_law_288 dL_law_289 rfl (by omega) hLn ?_
  refine YL_i dL_law_290 cv_L_36 sh_0 (by decide) (pu_set hC hg (xs ((i : Int) + 1).toNat) (hxs _) (xs ((i : Int) + 2).toNat) (hxs _)) rfl (fun z1 I1 h1 => ?_)
  obtain ⟨rfl, hC1, hF1⟩ := h1
  have hM1 := mi_fx hM hF1
  refine XL_aload dL_law_293 rfl ?_
  refine XL_sldk dL_law_294 dL_law_295 dL_law_296 dL_law_297 dL_law_298 rfl (by omega) hLn ?_
  refine XL_sldk dL_law_299 dL_law_300 dL_law_301 dL_law_302 dL_law_303 rfl (by omega) hLn ?_
  refine YL_i dL_law_304 cv_L_39 sh_88 (by decide) (m_set hM1 hg (xs ((i : Int) + 1).toNat) (hxs _) (xs ((i : Int) + 2).toNat) (hxs _)) rfl (fun z2 I2 h2 => ?_)
  obtain ⟨rfl, hM2, hX2⟩ := h2
  refine XL_same (tgt := 626) dL_law_307 (by decide) ?_
  exact kk I2 _ _ _ _ _ ⟨ci_mx hC1 hX2, hM2, cg_op hg (oSet_ok hg.1 (xs ((i : Int) + 1).toNat) (xs ((i : Int) + 2).toNat)).2⟩
set_option maxRecDepth 20000 in
set_option maxHeartbeats 4000000 in
theorem law_pin {sb Ln : Nat} {xs : Nat → Int} {nm : String} (hxs : ∀ j, -2147483648 ≤ xs j ∧ xs j ≤ 2147483647) (hLn : Ln ≤ 1536) {i : Nat} (hi : i + 2 < Ln) {I : xI} {s : xS} {hs : List xS} {sn : Option xS} {tx : Nat → Int} {len : Nat} (hW : WO I s hs sn tx len) (kk : KK sb Ln xs nm i) : Lw sb Ln xs nm 207 i [] I := by
  obtain ⟨hC, hM, hg⟩ := hW
  by_cases e : (xs ((i : Int) + 2).toNat) = 0
  · refine XL_aload dL_law_207 rfl ?_
    refine XL_sldk dL_law_208 dL_law_209 dL_law_210 dL_law_211 dL_law_212 rfl (by omega) hLn ?_
    refine XL_sldk dL_law_213 dL_law_214 dL_law_215 dL_law_216 dL_law_217 rfl (by omega) hLn ?_
    refine XL_if_eq (tgt := 225) dL_law_218 (by decide) (hxs _) (fun _ => ?_) (fun c => absurd e c)
    refine XL_iconst dL_law_225 ?_
    refine YL_i dL_law_226 cv_L_27 sh_0 (by decide) (pu_pin hC hg (xs ((i : Int) + 1).toNat) (hxs _) 0 (Or.inl rfl)) rfl (fun z1 I1 h1 => ?_)
    obtain ⟨rfl, hC1, hF1⟩ := h1
    have hM1 := mi_fx hM hF1
    refine XL_aload dL_law_229 rfl ?_
    refine XL_sldk dL_law_230 dL_law_231 dL_law_232 dL_law_233 dL_law_234 rfl (by omega) hLn ?_
    refine XL_sldk dL_law_235 dL_law_236 dL_law_237 dL_law_238 dL_law_239 rfl (by omega) hLn ?_
    refine XL_if_eq (tgt := 247) dL_law_240 (by decide) (hxs _) (fun _ => ?_) (fun c => absurd e c)
    refine XL_iconst dL_law_247 ?_
    refine YL_i dL_law_248 cv_L_31 sh_88 (by decide) (m_pin hM1 hg (xs ((i : Int) + 1).toNat) (hxs _) 0 (Or.inl rfl)) rfl (fun z2 I2 h2 => ?_)
    obtain ⟨rfl, hM2, hX2⟩ := h2
    refine XL_same (tgt := 626) dL_law_251 (by decide) ?_
    exact kk I2 _ _ _ _ _ ⟨ci_mx hC1 hX2, hM2, cg_op hg (oPin_ok hg.1 (xs ((i : Int) + 1).toNat) 0 (Or.inl rfl)).2⟩
  · refine XL_aload dL_law_207 rfl ?_
    refine XL_sldk dL_law_208 dL_law_209 dL_law_210 dL_law_211 dL_law_212 rfl (by omega) hLn ?_
    refine XL_sldk dL_law_213 dL_law_214 dL_law_215 dL_law_216 dL_law_217 rfl (by omega) hLn ?_
    refine XL_if_eq (tgt := 225) dL_law_218 (by decide) (hxs _) (fun c => absurd c e) (fun _ => ?_)
    refine XL_iconst dL_law_221 ?_
    refine XL_goto (tgt := 226) dL_law_222 (by decide) ?_
    refine YL_i dL_law_226 cv_L_27 sh_0 (by decide) (pu_pin hC hg (xs ((i : Int) + 1).toNat) (hxs _) 1 (Or.inr rfl)) rfl (fun z1 I1 h1 => ?_)
    obtain ⟨rfl, hC1, hF1⟩ := h1
    have hM1 := mi_fx hM hF1
    refine XL_aload dL_law_229 rfl ?_
    refine XL_sldk dL_law_230 dL_law_231 dL_law_232 dL_law_233 dL_law_234 rfl (by omega) hLn ?_
    refine XL_sldk dL_law_235 dL_law_236 dL_law_237 dL_law_238 dL_law_239 rfl (by omega) hLn ?_
    refine XL_if_eq (tgt := 247) dL_law_240 (by decide) (hxs _) (fun c => absurd c e) (fun _ => ?_)
    refine XL_iconst dL_law_243 ?_
    refine XL_goto (tgt := 248) dL_law_244 (by decide) ?_
    refine YL_i dL_law_248 cv_L_31 sh_88 (by decide) (m_pin hM1 hg (xs ((i : Int) + 1).toNat) (hxs _) 1 (Or.inr rfl)) rfl (fun z2 I2 h2 => ?_)
    obtain ⟨rfl, hM2, hX2⟩ := h2
    refine XL_same (tgt := 626) dL_law_251 (by decide) ?_
    exact kk I2 _ _ _ _ _ ⟨ci_mx hC1 hX2, hM2, cg_op hg (oPin_ok hg.1 (xs ((i : Int) + 1).toNat) 1 (Or.inr rfl)).2⟩
theorem tyT_ok {tx : Nat → Int} {len : Nat} (h : ∀ j, j < len → 0 ≤ tx j ∧ tx j ≤ 65535) {z : Int} (j : Nat) (hj : j < len + 1) : 0 ≤ tyT tx len (z % 65536) j ∧ tyT tx len (z % 65536) j ≤ 65535 := by
  unfold tyT
  by_cases e : j = len
  · rw [if_pos e]; omega
  · rw [if_neg e]; exact h j (by omega)
set_option maxRecDepth 20000 in
set_option maxHeartbeats 4000000 in
theorem law_type {sb Ln : Nat} {xs : Nat → Int} {nm : String} (hxs : ∀ j, -2147483648 ≤ xs j ∧ xs j ≤ 2147483647) (hLn : Ln ≤ 1536) {i : Nat} (hi : i + 2 < Ln) {I : xI} {s : xS} {hs : List xS} {sn : Option xS} {tx : Nat → Int} {len : Nat} (hW : WO I s hs sn tx len) (kk : KK sb Ln xs nm i) : Lw sb Ln xs nm 312 i [] I := by
  obtain ⟨hC, hM, hg⟩ := hW
  refine XL_aload dL_law_312 rfl ?_
  refine XL_sldk dL_law_313 dL_law_314 dL_law_315 dL_law_316 dL_law_317 rfl (by omega) hLn ?_
  refine XL_i2c dL_law_318 ?_
  refine YL_i dL_law_319 cv_L_40 sh_0 (by decide) (pu_type hC hg ((xs ((i : Int) + 1).toNat) % 65536)) rfl (fun z1 I1 h1 => ?_)
  rcases h1 with ⟨h60, rfl, hC1, hF1⟩ | ⟨h60, rfl, hC1, hF1⟩
  · have hM1 := mi_fx hM hF1
    refine XL_aload dL_law_322 rfl ?_
    refine XL_sldk dL_law_323 dL_law_324 dL_law_325 dL_law_326 dL_law_327 rfl (by omega) hLn ?_
    refine XL_i2c dL_law_328 ?_
    refine YL_i dL_law_329 cv_L_44 sh_88 (by decide) (m_type hM1 hg ((xs ((i : Int) + 1).toNat) % 65536)) rfl (fun z2 I2 h2 => ?_)
    rcases h2 with ⟨g60, rfl, hM2, hX2⟩ | ⟨g60, rfl, hM2, hX2⟩
    · refine XL_same (tgt := 626) dL_law_332 (by decide) ?_
      exact kk I2 _ _ _ _ _ ⟨ci_mx hC1 hX2, hM2, hg⟩
    · exact absurd g60 (by omega)
  · have hM1 := mi_fx hM hF1
    refine XL_aload dL_law_322 rfl ?_
    refine XL_sldk dL_law_323 dL_law_324 dL_law_325 dL_law_326 dL_law_327 rfl (by omega) hLn ?_
    refine XL_i2c dL_law_328 ?_
    refine YL_i dL_law_329 cv_L_44 sh_88 (by decide) (m_type hM1 hg ((xs ((i : Int) + 1).toNat) % 65536)) rfl (fun z2 I2 h2 => ?_)
    rcases h2 with ⟨g60, rfl, hM2, hX2⟩ | ⟨g60, rfl, hM2, hX2⟩
    · exact absurd g60 (by omega)
    · refine XL_same (tgt := 626) dL_law_332 (by decide) ?_
      exact kk I2 _ _ _ _ _ ⟨ci_mx hC1 hX2, hM2, hg.1, hg.2.1, hg.2.2.1, by omega, fun j hj => tyT_ok hg.2.2.2.2 j hj⟩
set_option maxRecDepth 20000 in
set_option maxHeartbeats 4000000 in
theorem law_clearText {sb Ln : Nat} {xs : Nat → Int} {nm : String} (hxs : ∀ j, -2147483648 ≤ xs j ∧ xs j ≤ 2147483647) (hLn : Ln ≤ 1536) {i : Nat} (hi : i + 2 < Ln) {I : xI} {s : xS} {hs : List xS} {sn : Option xS} {tx : Nat → Int} {len : Nat} (hW : WO I s hs sn tx len) (kk : KK sb Ln xs nm i) : Lw sb Ln xs nm 337 i [] I := by
  obtain ⟨hC, hM, hg⟩ := hW
  refine XL_aload dL_law_337 rfl ?_
  refine YL_i dL_law_338 cv_L_45 sh_0 (by decide) (pu_clearText hC hg) rfl (fun z1 I1 h1 => ?_)
  obtain ⟨rfl, hC1, hF1⟩ := h1
  have hM1 := mi_fx hM hF1
  refine XL_aload dL_law_341 rfl ?_
  refine YL_i dL_law_342 cv_L_49 sh_88 (by decide) (m_clearText hM1 hg) rfl (fun z2 I2 h2 => ?_)
  obtain ⟨rfl, hM2, hX2⟩ := h2
  refine XL_same (tgt := 626) dL_law_345 (by decide) ?_
  exact kk I2 _ _ _ _ _ ⟨ci_mx hC1 hX2, hM2, hg.1, hg.2.1, hg.2.2.1, Nat.zero_le _, fun j hj => absurd hj (Nat.not_lt_zero j)⟩
set_option maxRecDepth 20000 in
set_option maxHeartbeats 4000000 in
theorem law_perform {sb Ln : Nat} {xs : Nat → Int} {nm : String} (hxs : ∀ j, -2147483648 ≤ xs j ∧ xs j ≤ 2147483647) (hLn : Ln ≤ 1536) {i : Nat} (hi : i + 2 < Ln) {I : xI} {s : xS} {hs : List xS} {sn : Option xS} {tx : Nat → Int} {len : Nat} (hW : WO I s hs sn tx len) (kk : KK sb Ln xs nm i) : Lw sb Ln xs nm 350 i [] I := by
  obtain ⟨hC, hM, hg⟩ := hW
  refine XL_aload dL_law_350 rfl ?_
  refine YL_i dL_law_351 cv_L_50 sh_0 (by decide) (pu_perform hC hg) rfl (fun z1 I1 h1 => ?_)
  obtain ⟨rfl, hC1, hF1⟩ := h1
  have hM1 := mi_fx hM hF1
  refine XL_aload dL_law_354 rfl ?_
  refine YL_i dL_law_355 cv_L_53 sh_88 (by decide) (m_perform hM1 hg) rfl (fun z2 I2 h2 => ?_)
  obtain ⟨rfl, hM2, hX2⟩ := h2
  refine XL_same (tgt := 626) dL_law_358 (by decide) ?_
  exact kk I2 _ _ _ _ _ ⟨ci_mx hC1 hX2, hM2, cg_op hg (oPerform_ok hg.1 tx len)⟩
set_option maxRecDepth 20000 in
set_option maxHeartbeats 4000000 in
theorem law_undo {sb Ln : Nat} {xs : Nat → Int} {nm : String} (hxs : ∀ j, -2147483648 ≤ xs j ∧ xs j ≤ 2147483647) (hLn : Ln ≤ 1536) {i : Nat} (hi : i + 2 < Ln) {I : xI} {s : xS} {hs : List xS} {sn : Option xS} {tx : Nat → Int} {len : Nat} (hW : WO I s hs sn tx len) (kk : KK sb Ln xs nm i) : Lw sb Ln xs nm 363 i [] I := by
  obtain ⟨hC, hM, hg⟩ := hW
  rcases hs_end hs with rfl | ⟨hs, q, rfl⟩
  · refine XL_aload dL_law_363 rfl ?_
    refine YL_i dL_law_364 cv_L_54 sh_0 (by decide) (pu_undo0 hC) rfl (fun z1 I1 h1 => ?_)
    obtain ⟨rfl, hC1, hF1⟩ := h1
    have hM1 := mi_fx hM hF1
    refine XL_aload dL_law_367 rfl ?_
    refine YL_i dL_law_368 cv_L_57 sh_88 (by decide) (m_undo0 hM1) rfl (fun z2 I2 h2 => ?_)
    obtain ⟨rfl, hM2, hX2⟩ := h2
    refine XL_same (tgt := 626) dL_law_371 (by decide) ?_
    exact kk I2 _ _ _ _ _ ⟨ci_mx hC1 hX2, hM2, hg⟩
  · have hl := hg.2.1.1
    rw [List.length_append, List.length_singleton] at hl
    have hq := hg.2.1.2 q (List.mem_append_right _ List.mem_cons_self)
    refine XL_aload dL_law_363 rfl ?_
    refine YL_i dL_law_364 cv_L_54 sh_0 (by decide) (pu_undo1 hC (by omega) hq.1.n24) rfl (fun z1 I1 h1 => ?_)
    obtain ⟨rfl, hC1, hF1⟩ := h1
    have hM1 := mi_fx hM hF1
    refine XL_aload dL_law_367 rfl ?_
    refine YL_i dL_law_368 cv_L_57 sh_88 (by decide) (m_undo1 hM1 (by omega) hq.1.n24) rfl (fun z2 I2 h2 => ?_)
    obtain ⟨rfl, hM2, hX2⟩ := h2
    refine XL_same (tgt := 626) dL_law_371 (by decide) ?_
    exact kk I2 _ _ _ _ _ ⟨ci_mx hC1 hX2, hM2, hq, ⟨by omega, fun w hw => hg.2.1.2 w (List.mem_append_left _ hw)⟩, hg.2.2⟩
set_option maxRecDepth 20000 in
set_option maxHeartbeats 4000000 in
theorem law_keep {sb Ln : Nat} {xs : Nat → Int} {nm : String} (hxs : ∀ j, -2147483648 ≤ xs j ∧ xs j ≤ 2147483647) (hLn : Ln ≤ 1536) {i : Nat} (hi : i + 2 < Ln) {I : xI} {s : xS} {hs : List xS} {sn : Option xS} {tx : Nat → Int} {len : Nat} (hW : WO I s hs sn tx len) (kk : KK sb Ln xs nm i) : Lw sb Ln xs nm 376 i [] I := by
  obtain ⟨hC, hM, hg⟩ := hW
  refine XL_aload dL_law_376 rfl ?_
  refine YL_i dL_law_377 cv_L_58 sh_0 (by decide) (pu_keep hC hg) rfl (fun z1 I1 h1 => ?_)
  obtain ⟨rfl, hC1, hF1⟩ := h1
  have hM1 := mi_fx hM hF1
  refine XL_aload dL_law_380 rfl ?_
  refine YL_i dL_law_381 cv_L_61 sh_88 (by decide) (m_keep hM1 hg) rfl (fun z2 I2 h2 => ?_)
  obtain ⟨rfl, hM2, hX2⟩ := h2
  refine XL_same (tgt := 626) dL_law_384 (by decide) ?_
  exact kk I2 _ _ _ _ _ ⟨ci_mx hC1 hX2, hM2, hg.1, hg.2.1, fun q e => by cases e; exact hg.1, hg.2.2.2⟩
set_option maxRecDepth 20000 in
set_option maxHeartbeats 4000000 in
theorem law_restore {sb Ln : Nat} {xs : Nat → Int} {nm : String} (hxs : ∀ j, -2147483648 ≤ xs j ∧ xs j ≤ 2147483647) (hLn : Ln ≤ 1536) {i : Nat} (hi : i + 2 < Ln) {I : xI} {s : xS} {hs : List xS} {sn : Option xS} {tx : Nat → Int} {len : Nat} (hW : WO I s hs sn tx len) (kk : KK sb Ln xs nm i) : Lw sb Ln xs nm 389 i [] I := by
  obtain ⟨hC, hM, hg⟩ := hW
  cases sn with
  | none =>
    refine XL_aload dL_law_389 rfl ?_
    refine YL_i dL_law_390 cv_L_62 sh_0 (by decide) (pu_restore0 hC) rfl (fun z1 I1 h1 => ?_)
    obtain ⟨rfl, hC1, hF1⟩ := h1
    have hM1 := mi_fx hM hF1
    refine XL_aload dL_law_393 rfl ?_
    refine YL_i dL_law_394 cv_L_65 sh_88 (by decide) (m_restore0 hM1) rfl (fun z2 I2 h2 => ?_)
    obtain ⟨rfl, hM2, hX2⟩ := h2
    refine XL_same (tgt := 626) dL_law_397 (by decide) ?_
    exact kk I2 _ _ _ _ _ ⟨ci_mx hC1 hX2, hM2, hg⟩
  | some q =>
    refine XL_aload dL_law_389 rfl ?_
    refine YL_i dL_law_390 cv_L_62 sh_0 (by decide) (pu_restore1 hC hg) rfl (fun z1 I1 h1 => ?_)
    obtain ⟨rfl, hC1, hF1⟩ := h1
    have hM1 := mi_fx hM hF1
    refine XL_aload dL_law_393 rfl ?_
    refine YL_i dL_law_394 cv_L_65 sh_88 (by decide) (m_restore1 hM1 hg) rfl (fun z2 I2 h2 => ?_)
    obtain ⟨rfl, hM2, hX2⟩ := h2
    refine XL_same (tgt := 626) dL_law_397 (by decide) ?_
    exact kk I2 _ _ _ _ _ ⟨ci_mx hC1 hX2, hM2, cg_op hg (fun _ => hg.2.2.1 q rfl)⟩
set_option maxRecDepth 20000 in
set_option maxHeartbeats 4000000 in
theorem law_block {sb Ln : Nat} {xs : Nat → Int} {nm : String} (hxs : ∀ j, -2147483648 ≤ xs j ∧ xs j ≤ 2147483647) (hLn : Ln ≤ 1536) {i : Nat} (hi : i + 2 < Ln) {I : xI} {s : xS} {hs : List xS} {sn : Option xS} {tx : Nat → Int} {len : Nat} (hW : WO I s hs sn tx len) (kk : KK sb Ln xs nm i) : Lw sb Ln xs nm 402 i [] I := by
  obtain ⟨hC, hM, hg⟩ := hW
  refine XL_aload dL_law_402 rfl ?_
  refine XL_sldk dL_law_403 dL_law_404 dL_law_405 dL_law_406 dL_law_407 rfl (by omega) hLn ?_
  refine YL_p dL_law_408 cv_L_66 sh_0 (by decide) (pu_block hC hg (xs ((i : Int) + 1).toNat) (hxs _)) rfl ?_
  refine XL_aload dL_law_411 rfl ?_
  refine XL_sldk dL_law_412 dL_law_413 dL_law_414 dL_law_415 dL_law_416 rfl (by omega) hLn ?_
  refine YL_p dL_law_417 cv_L_69 sh_88 (by decide) (m_block hM hg (xs ((i : Int) + 1).toNat) (hxs _)) rfl ?_
  refine XL_same (tgt := 626) dL_law_420 (by decide) ?_
  exact kk I _ _ _ _ _ ⟨hC, hM, hg⟩
set_option maxRecDepth 20000 in
set_option maxHeartbeats 4000000 in
theorem law_shelf {sb Ln : Nat} {xs : Nat → Int} {nm : String} (hxs : ∀ j, -2147483648 ≤ xs j ∧ xs j ≤ 2147483647) (hLn : Ln ≤ 1536) {i : Nat} (hi : i + 2 < Ln) {I : xI} {s : xS} {hs : List xS} {sn : Option xS} {tx : Nat → Int} {len : Nat} (hW : WO I s hs sn tx len) (kk : KK sb Ln xs nm i) : Lw sb Ln xs nm 458 i [] I := by
  obtain ⟨hC, hM, hg⟩ := hW
  refine XL_aload dL_law_458 rfl ?_
  refine XL_sldk dL_law_459 dL_law_460 dL_law_461 dL_law_462 dL_law_463 rfl (by omega) hLn ?_
  refine XL_sldk dL_law_464 dL_law_465 dL_law_466 dL_law_467 dL_law_468 rfl (by omega) hLn ?_
  refine YL_p dL_law_469 cv_L_74 sh_0 (by decide) (pu_shelf hC hg (xs ((i : Int) + 1).toNat) (hxs _) (xs ((i : Int) + 2).toNat) (hxs _)) rfl ?_
  refine XL_aload dL_law_472 rfl ?_
  refine XL_sldk dL_law_473 dL_law_474 dL_law_475 dL_law_476 dL_law_477 rfl (by omega) hLn ?_
  refine XL_sldk dL_law_478 dL_law_479 dL_law_480 dL_law_481 dL_law_482 rfl (by omega) hLn ?_
  refine YL_p dL_law_483 cv_L_77 sh_88 (by decide) (m_shelf hM hg (xs ((i : Int) + 1).toNat) (hxs _) (xs ((i : Int) + 2).toNat) (hxs _)) rfl ?_
  refine XL_same (tgt := 626) dL_law_486 (by decide) ?_
  exact kk I _ _ _ _ _ ⟨hC, hM, hg⟩
set_option maxRecDepth 20000 in
set_option maxHeartbeats 4000000 in
theorem law_total {sb Ln : Nat} {xs : Nat → Int} {nm : String} (hxs : ∀ j, -2147483648 ≤ xs j ∧ xs j ≤ 2147483647) (hLn : Ln ≤ 1536) {i : Nat} (hi : i + 2 < Ln) {I : xI} {s : xS} {hs : List xS} {sn : Option xS} {tx : Nat → Int} {len : Nat} (hW : WO I s hs sn tx len) (kk : KK sb Ln xs nm i) : Lw sb Ln xs nm 491 i [] I := by
  obtain ⟨hC, hM, hg⟩ := hW
  refine XL_aload dL_law_491 rfl ?_
  refine XL_sldk dL_law_492 dL_law_493 dL_law_494 dL_law_495 dL_law_496 rfl (by omega) hLn ?_
  refine YL_p dL_law_497 cv_L_78 sh_0 (by decide) (pu_total hC hg (xs ((i : Int) + 1).toNat) (hxs _)) rfl ?_
  refine XL_aload dL_law_500 rfl ?_
  refine XL_sldk dL_law_501 dL_law_502 dL_law_503 dL_law_504 dL_law_505 rfl (by omega) hLn ?_
  refine YL_p dL_law_506 cv_L_81 sh_88 (by decide) (m_total hM hg (xs ((i : Int) + 1).toNat) (hxs _)) rfl ?_
  refine XL_same (tgt := 626) dL_law_509 (by decide) ?_
  exact kk I _ _ _ _ _ ⟨hC, hM, hg⟩
set_option maxRecDepth 20000 in
set_option maxHeartbeats 4000000 in
theorem law_cheapest {sb Ln : Nat} {xs : Nat → Int} {nm : String} (hxs : ∀ j, -2147483648 ≤ xs j ∧ xs j ≤ 2147483647) (hLn : Ln ≤ 1536) {i : Nat} (hi : i + 2 < Ln) {I : xI} {s : xS} {hs : List xS} {sn : Option xS} {tx : Nat → Int} {len : Nat} (hW : WO I s hs sn tx len) (kk : KK sb Ln xs nm i) : Lw sb Ln xs nm 593 i [] I := by
  obtain ⟨hC, hM, hg⟩ := hW
  refine XL_aload dL_law_593 rfl ?_
  refine XL_sldk dL_law_594 dL_law_595 dL_law_596 dL_law_597 dL_law_598 rfl (by omega) hLn ?_
  refine XL_sldk dL_law_599 dL_law_600 dL_law_601 dL_law_602 dL_law_603 rfl (by omega) hLn ?_
  refine YL_p dL_law_604 cv_L_94 sh_0 (by decide) (pu_cheapest hC hg (xs ((i : Int) + 1).toNat) (hxs _) (xs ((i : Int) + 2).toNat) (hxs _)) rfl ?_
  refine XL_aload dL_law_607 rfl ?_
  refine XL_sldk dL_law_608 dL_law_609 dL_law_610 dL_law_611 dL_law_612 rfl (by omega) hLn ?_
  refine XL_sldk dL_law_613 dL_law_614 dL_law_615 dL_law_616 dL_law_617 rfl (by omega) hLn ?_
  refine YL_p dL_law_618 cv_L_97 sh_88 (by decide) (m_cheapest hM hg (xs ((i : Int) + 1).toNat) (hxs _) (xs ((i : Int) + 2).toNat) (hxs _)) rfl ?_
  refine XL_same (tgt := 626) dL_law_621 (by decide) ?_
  exact kk I _ _ _ _ _ ⟨hC, hM, hg⟩
set_option maxRecDepth 20000 in
set_option maxHeartbeats 4000000 in
theorem law_ofBlock {sb Ln : Nat} {xs : Nat → Int} {nm : String} (hxs : ∀ j, -2147483648 ≤ xs j ∧ xs j ≤ 2147483647) (hLn : Ln ≤ 1536) {i : Nat} (hi : i + 2 < Ln) {I : xI} {s : xS} {hs : List xS} {sn : Option xS} {tx : Nat → Int} {len : Nat} (hW : WO I s hs sn tx len) (kk : KK sb Ln xs nm i) : Lw sb Ln xs nm 425 i [] I := by
  obtain ⟨hC, hM, hg⟩ := hW
  refine XL_aload dL_law_425 rfl ?_
  refine XL_sldk dL_law_426 dL_law_427 dL_law_428 dL_law_429 dL_law_430 rfl (by omega) hLn ?_
  refine XL_sldk dL_law_431 dL_law_432 dL_law_433 dL_law_434 dL_law_435 rfl (by omega) hLn ?_
  refine YL_i dL_law_436 cv_L_70 sh_0 (by decide) (pu_ofBlock hC hg (xs ((i : Int) + 1).toNat) (hxs _) (xs ((i : Int) + 2).toNat) (hxs _)) rfl (fun z1 I1 h1 => ?_)
  obtain ⟨rfl, hF1⟩ := h1
  have hC1 := hC.sc hF1
  have hM1 := mi_fx hM hF1.fx
  refine XL_aload dL_law_439 rfl ?_
  refine XL_sldk dL_law_440 dL_law_441 dL_law_442 dL_law_443 dL_law_444 rfl (by omega) hLn ?_
  refine XL_sldk dL_law_445 dL_law_446 dL_law_447 dL_law_448 dL_law_449 rfl (by omega) hLn ?_
  refine YL_i dL_law_450 cv_L_73 sh_88 (by decide) (m_ofBlock hM1 hg (xs ((i : Int) + 1).toNat) (hxs _) (xs ((i : Int) + 2).toNat) (hxs _)) rfl (fun z2 I2 h2 => ?_)
  obtain ⟨rfl, hW2⟩ := h2
  refine XL_same (tgt := 626) dL_law_453 (by decide) ?_
  exact kk I2 _ _ _ _ _ ⟨ci_mx hC1 hW2.mx, hM1.wf hg.1.1.n24 hW2, hg⟩
set_option maxRecDepth 20000 in
set_option maxHeartbeats 4000000 in
theorem law_ifPassed {sb Ln : Nat} {xs : Nat → Int} {nm : String} (hxs : ∀ j, -2147483648 ≤ xs j ∧ xs j ≤ 2147483647) (hLn : Ln ≤ 1536) {i : Nat} (hi : i + 2 < Ln) {I : xI} {s : xS} {hs : List xS} {sn : Option xS} {tx : Nat → Int} {len : Nat} (hW : WO I s hs sn tx len) (kk : KK sb Ln xs nm i) : Lw sb Ln xs nm 514 i [] I := by
  obtain ⟨hC, hM, hg⟩ := hW
  refine XL_aload dL_law_514 rfl ?_
  refine XL_sldk dL_law_515 dL_law_516 dL_law_517 dL_law_518 dL_law_519 rfl (by omega) hLn ?_
  refine XL_sldk dL_law_520 dL_law_521 dL_law_522 dL_law_523 dL_law_524 rfl (by omega) hLn ?_
  refine YL_i dL_law_525 cv_L_82 sh_0 (by decide) (pu_ifPassed hC hg (xs ((i : Int) + 1).toNat) (hxs _) (xs ((i : Int) + 2).toNat) (hxs _)) rfl (fun z1 I1 h1 => ?_)
  obtain ⟨rfl, hF1⟩ := h1
  have hC1 := hC.sc hF1
  have hM1 := mi_fx hM hF1.fx
  refine XL_aload dL_law_528 rfl ?_
  refine XL_sldk dL_law_529 dL_law_530 dL_law_531 dL_law_532 dL_law_533 rfl (by omega) hLn ?_
  refine XL_sldk dL_law_534 dL_law_535 dL_law_536 dL_law_537 dL_law_538 rfl (by omega) hLn ?_
  refine YL_i dL_law_539 cv_L_85 sh_88 (by decide) (m_ifPassed hM1 hg (xs ((i : Int) + 1).toNat) (hxs _) (xs ((i : Int) + 2).toNat) (hxs _)) rfl (fun z2 I2 h2 => ?_)
  obtain ⟨rfl, hW2⟩ := h2
  refine XL_same (tgt := 626) dL_law_542 (by decide) ?_
  exact kk I2 _ _ _ _ _ ⟨ci_mx hC1 hW2.mx, hM1.wf hg.1.1.n24 hW2, hg⟩
set_option maxRecDepth 20000 in
set_option maxHeartbeats 4000000 in
theorem law_nextMove {sb Ln : Nat} {xs : Nat → Int} {nm : String} (hxs : ∀ j, -2147483648 ≤ xs j ∧ xs j ≤ 2147483647) (hLn : Ln ≤ 1536) {i : Nat} (hi : i + 2 < Ln) {I : xI} {s : xS} {hs : List xS} {sn : Option xS} {tx : Nat → Int} {len : Nat} (hW : WO I s hs sn tx len) (kk : KK sb Ln xs nm i) : Lw sb Ln xs nm 547 i [] I := by
  obtain ⟨hC, hM, hg⟩ := hW
  refine XL_aload dL_law_547 rfl ?_
  refine YL_i dL_law_548 cv_L_86 sh_0 (by decide) (pu_nextMove hC hg) rfl (fun z1 I1 h1 => ?_)
  obtain ⟨rfl, hF1⟩ := h1
  have hC1 := hC.sc hF1
  have hM1 := mi_fx hM hF1.fx
  refine XL_aload dL_law_551 rfl ?_
  refine YL_i dL_law_552 cv_L_89 sh_88 (by decide) (m_nextMove hM1 hg) rfl (fun z2 I2 h2 => ?_)
  obtain ⟨rfl, hW2⟩ := h2
  refine XL_same (tgt := 626) dL_law_555 (by decide) ?_
  exact kk I2 _ _ _ _ _ ⟨ci_mx hC1 hW2.mx, hM1.wf hg.1.1.n24 hW2, hg⟩
set_option maxRecDepth 20000 in
set_option maxHeartbeats 4000000 in
theorem law_bestHot {sb Ln : Nat} {xs : Nat → Int} {nm : String} (hxs : ∀ j, -2147483648 ≤ xs j ∧ xs j ≤ 2147483647) (hLn : Ln ≤ 1536) {i : Nat} (hi : i + 2 < Ln) {I : xI} {s : xS} {hs : List xS} {sn : Option xS} {tx : Nat → Int} {len : Nat} (hW : WO I s hs sn tx len) (kk : KK sb Ln xs nm i) : Lw sb Ln xs nm 560 i [] I := by
  obtain ⟨hC, hM, hg⟩ := hW
  refine XL_aload dL_law_560 rfl ?_
  refine XL_sldk dL_law_561 dL_law_562 dL_law_563 dL_law_564 dL_law_565 rfl (by omega) hLn ?_
  refine XL_sldk dL_law_566 dL_law_567 dL_law_568 dL_law_569 dL_law_570 rfl (by omega) hLn ?_
  refine YL_i dL_law_571 cv_L_90 sh_0 (by decide) (pu_bestHot hC hg (xs ((i : Int) + 1).toNat) (hxs _) (xs ((i : Int) + 2).toNat) (hxs _)) rfl (fun z1 I1 h1 => ?_)
  obtain ⟨rfl, hF1⟩ := h1
  have hC1 := hC.sc hF1
  have hM1 := mi_fx hM hF1.fx
  refine XL_aload dL_law_574 rfl ?_
  refine XL_sldk dL_law_575 dL_law_576 dL_law_577 dL_law_578 dL_law_579 rfl (by omega) hLn ?_
  refine XL_sldk dL_law_580 dL_law_581 dL_law_582 dL_law_583 dL_law_584 rfl (by omega) hLn ?_
  refine YL_i dL_law_585 cv_L_93 sh_88 (by decide) (m_bestHot hM1 hg (xs ((i : Int) + 1).toNat) (hxs _) (xs ((i : Int) + 2).toNat) (hxs _)) rfl (fun z2 I2 h2 => ?_)
  obtain ⟨rfl, hW2⟩ := h2
  refine XL_same (tgt := 626) dL_law_588 (by decide) ?_
  exact kk I2 _ _ _ _ _ ⟨ci_mx hC1 hW2.mx, hM1.wf hg.1.1.n24 hW2, hg⟩
set_option maxRecDepth 20000 in
set_option maxHeartbeats 4000000 in
theorem law_loop {sb Ln : Nat} {xs : Nat → Int} {nm : String} (hxs : ∀ j, -2147483648 ≤ xs j ∧ xs j ≤ 2147483647) (hLn : Ln ≤ 1536) : ∀ (m i : Nat), Ln ≤ i + m → i ≤ Ln + 3 → ∀ (I : xI) (s : xS) (hs : List xS) (sn : Option xS) (tx : Nat → Int) (len : Nat), WO I s hs sn tx len → Lw sb Ln xs nm 18 i [] I := by
  intro m
  induction m with
  | zero =>
    intro i h1 h2 I s hs sn tx len hW
    refine XL_iload dL_law_18 rfl ?_
    refine XL_slen dL_law_19 dL_law_20 ?_
    refine XL_iconst dL_law_21 ?_
    refine XL_isub dL_law_22 ?_
    refine XL_icmp_gt (tgt := 632) dL_law_23 (by decide) (by omega) (fun c => ?_) (fun c => absurd c (by omega))
    refine XL_iconst dL_law_632 ?_
    exact XL_iret dL_law_633 (Or.inr ⟨rfl, Or.inr rfl⟩) rfl
  | succ m ih =>
    intro i h1 h2 I s hs sn tx len hW
    refine XL_iload dL_law_18 rfl ?_
    refine XL_slen dL_law_19 dL_law_20 ?_
    refine XL_iconst dL_law_21 ?_
    refine XL_isub dL_law_22 ?_
    refine XL_icmp_gt (tgt := 632) dL_law_23 (by decide) (by omega) (fun c => ?_) (fun c => ?_)
    · refine XL_iconst dL_law_632 ?_
      exact XL_iret dL_law_633 (Or.inr ⟨rfl, Or.inr rfl⟩) rfl
    · have hi : i + 2 < Ln := by omega
      have kk : KK sb Ln xs nm i := by
        intro I s hs sn tx len h
        refine XL_iinc dL_law_626 rfl (by decide) ?_
        refine XL_goto (tgt := 18) dL_law_629 (by decide) ?_
        exact ih (i + 3) (by omega) (by omega) I s hs sn tx len h
      refine XL_sld dL_law_26 dL_law_27 dL_law_28 rfl (by omega) hLn ?_
      refine XL_bipush dL_law_29 (by decide) ?_
      refine XL_iand31 dL_law_31 ?_
      by_cases w_0 : xs (i : Int).toNat % 32 = 0
      · refine XL_tswIn (v := 0) (tgt := 128) dL_law_32 w_0 (by decide) (by decide) (by decide) rfl (by decide) ?_
        exact law_add hxs hLn hi hW kk
      by_cases w_1 : xs (i : Int).toNat % 32 = 1
      · refine XL_tswIn (v := 1) (tgt := 151) dL_law_32 w_1 (by decide) (by decide) (by decide) rfl (by decide) ?_
        exact law_remove hxs hLn hi hW kk
      by_cases w_2 : xs (i : Int).toNat % 32 = 2
      · refine XL_tswIn (v := 2) (tgt := 174) dL_law_32 w_2 (by decide) (by decide) (by decide) rfl (by decide) ?_
        exact law_read hxs hLn hi hW kk
      by_cases w_3 : xs (i : Int).toNat % 32 = 3
      · refine XL_tswIn (v := 3) (tgt := 207) dL_law_32 w_3 (by decide) (by decide) (by decide) rfl (by decide) ?_
        exact law_pin hxs hLn hi hW kk
      by_cases w_4 : xs (i : Int).toNat % 32 = 4
      · refine XL_tswIn (v := 4) (tgt := 256) dL_law_32 w_4 (by decide) (by decide) (by decide) rfl (by decide) ?_
        exact law_pass hxs hLn hi hW kk
      by_cases w_5 : xs (i : Int).toNat % 32 = 5
      · refine XL_tswIn (v := 5) (tgt := 279) dL_law_32 w_5 (by decide) (by decide) (by decide) rfl (by decide) ?_
        exact law_set hxs hLn hi hW kk
      by_cases w_6 : xs (i : Int).toNat % 32 = 6
      · refine XL_tswIn (v := 6) (tgt := 312) dL_law_32 w_6 (by decide) (by decide) (by decide) rfl (by decide) ?_
        exact law_type hxs hLn hi hW kk
      by_cases w_7 : xs (i : Int).toNat % 32 = 7
      · refine XL_tswIn (v := 7) (tgt := 337) dL_law_32 w_7 (by decide) (by decide) (by decide) rfl (by decide) ?_
        exact law_clearText hxs hLn hi hW kk
      by_cases w_8 : xs (i : Int).toNat % 32 = 8
      · refine XL_tswIn (v := 8) (tgt := 350) dL_law_32 w_8 (by decide) (by decide) (by decide) rfl (by decide) ?_
        exact law_perform hxs hLn hi hW kk
      by_cases w_9 : xs (i : Int).toNat % 32 = 9
      · refine XL_tswIn (v := 9) (tgt := 363) dL_law_32 w_9 (by decide) (by decide) (by decide) rfl (by decide) ?_
        exact law_undo hxs hLn hi hW kk
      by_cases w_10 : xs (i : Int).toNat % 32 = 10
      · refine XL_tswIn (v := 10) (tgt := 376) dL_law_32 w_10 (by decide) (by decide) (by decide) rfl (by decide) ?_
        exact law_keep hxs hLn hi hW kk
      by_cases w_11 : xs (i : Int).toNat % 32 = 11
      · refine XL_tswIn (v := 11) (tgt := 389) dL_law_32 w_11 (by decide) (by decide) (by decide) rfl (by decide) ?_
        exact law_restore hxs hLn hi hW kk
      by_cases w_12 : xs (i : Int).toNat % 32 = 12
      · refine XL_tswIn (v := 12) (tgt := 402) dL_law_32 w_12 (by decide) (by decide) (by decide) rfl (by decide) ?_
        exact law_block hxs hLn hi hW kk
      by_cases w_13 : xs (i : Int).toNat % 32 = 13
      · refine XL_tswIn (v := 13) (tgt := 425) dL_law_32 w_13 (by decide) (by decide) (by decide) rfl (by decide) ?_
        exact law_ofBlock hxs hLn hi hW kk
      by_cases w_14 : xs (i : Int).toNat % 32 = 14
      · refine XL_tswIn (v := 14) (tgt := 458) dL_law_32 w_14 (by decide) (by decide) (by decide) rfl (by decide) ?_
        exact law_shelf hxs hLn hi hW kk
      by_cases w_15 : xs (i : Int).toNat % 32 = 15
      · refine XL_tswIn (v := 15) (tgt := 491) dL_law_32 w_15 (by decide) (by decide) (by decide) rfl (by decide) ?_
        exact law_total hxs hLn hi hW kk
      by_cases w_16 : xs (i : Int).toNat % 32 = 16
      · refine XL_tswIn (v := 16) (tgt := 514) dL_law_32 w_16 (by decide) (by decide) (by decide) rfl (by decide) ?_
        exact law_ifPassed hxs hLn hi hW kk
      by_cases w_17 : xs (i : Int).toNat % 32 = 17
      · refine XL_tswIn (v := 17) (tgt := 547) dL_law_32 w_17 (by decide) (by decide) (by decide) rfl (by decide) ?_
        exact law_nextMove hxs hLn hi hW kk
      by_cases w_18 : xs (i : Int).toNat % 32 = 18
      · refine XL_tswIn (v := 18) (tgt := 560) dL_law_32 w_18 (by decide) (by decide) (by decide) rfl (by decide) ?_
        exact law_bestHot hxs hLn hi hW kk
      by_cases w_19 : xs (i : Int).toNat % 32 = 19
      · refine XL_tswIn (v := 19) (tgt := 593) dL_law_32 w_19 (by decide) (by decide) (by decide) rfl (by decide) ?_
        exact law_cheapest hxs hLn hi hW kk
      refine XL_tswOut (tgt := 626) dL_law_32 (by omega) (by omega) (by decide) ?_
      exact kk I s hs sn tx len hW
