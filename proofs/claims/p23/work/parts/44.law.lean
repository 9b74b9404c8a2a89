/-! cell: called with the script itself -/
def q_r (N : Nat) (I : xI) (Rf : xR) : xQ := fun ro N' I' R' => N' = N ∧ I' = I ∧ R' = Rf ∧ ∃ z : Int, ro = some (ii z) ∧ -2147483648 ≤ z ∧ z ≤ 2147483647
def x_preC (G : xG) (sb Ln : Nat) (xs : Nat → Int) (k : Int) (N : Nat) (I : xI) (Rf : xR) : Array Value → State → Prop := fun v U => v = #[.ref sb, .int (Int32.ofInt k)] ∧ x_P G N I Rf U U.heap ∧ x_KF G U ∧ G.1 ≤ U.heap.size ∧ sb < U.heap.size ∧ ¬ x_A G sb ∧ va_X sb Ln (fun j => Int32.ofInt (xs j)) U U.heap
theorem x_blindC (G : xG) (sb Ln : Nat) (xs : Nat → Int) (k : Int) (N : Nat) (I : xI) (Rf : xR) : FrameBlind (x_preC G sb Ln xs k N I Rf) := by
  intro a U g mk h
  obtain ⟨h1, h2, ⟨k1, k2, k3, k4, k5, k6⟩, h4, h5, h6, h7⟩ := h
  have hA : U.vm.Alike (U.calling g mk a).vm := Vm.Alike.refl U.vm
  exact ⟨h1, h2.moved hA, ⟨fun ci q hq => u_Kn_moved hA (k1 ci q hq), fun w hw => va_Nw.same rfl rfl (k2 w hw), fun w hw => va_Nw.same rfl rfl (k3 w hw), k4.moved hA, k5.moved hA, k6.moved hA⟩, h4, h5, h6, h7.moved hA⟩
theorem cell_rng {k : Int} (hk : 0 ≤ k ∧ k ≤ 200) : -2147483648 ≤ 7919 * (k + 3) * (k + 11) ∧ 7919 * (k + 3) * (k + 11) ≤ 2147483647 := by
  have a := Int.mul_nonneg (a := 7919 * (k + 3)) (b := k + 11) (by omega) (by omega)
  have b := Int.mul_le_mul (a := 7919 * (k + 3)) (b := k + 11) (c := 1607557) (d := 211) (by omega) (by omega) (by omega) (by omega)
  omega
set_option maxRecDepth 20000 in
set_option maxHeartbeats 4000000 in
theorem cell_body {sb Ln : Nat} {xs : Nat → Int} {N : Nat} {I : xI} {Rf : xR} (hxs : ∀ j, -2147483648 ≤ xs j ∧ xs j ≤ 2147483647) (hLn : Ln ≤ 260) {k : Int} (hk : 0 ≤ k ∧ k ≤ 200) : XL sb Ln xs kL_cell 0 0 0 0 [none, some (ii k)] [] N I Rf (q_r N I Rf) := by
  refine XL_iload dL_cell_0 rfl ?_
  refine XL_slen dL_cell_1 dL_cell_2 ?_
  refine XL_icmp_ge (tgt := 12) dL_cell_3 (by decide) (by omega) (fun c_3 => ?_) (fun c_3 => ?_)
  · refine XL_sipush dL_cell_12 (by decide) ?_
    refine XL_iload dL_cell_15 rfl ?_
    refine XL_iconst dL_cell_16 ?_
    refine XL_iadd dL_cell_17 ?_
    refine XL_imul dL_cell_18 ?_
    refine XL_iload dL_cell_19 rfl ?_
    refine XL_bipush dL_cell_20 (by decide) ?_
    refine XL_iadd dL_cell_22 ?_
    refine XL_imul dL_cell_23 ?_
    refine XL_iret dL_cell_24 (Or.inl rfl) ?_
    exact ⟨rfl, rfl, rfl, _, rfl, cell_rng hk⟩
  · refine XL_sld dL_cell_6 dL_cell_7 dL_cell_8 rfl (by omega) hLn ?_
    refine XL_goto (tgt := 24) dL_cell_9 (by decide) ?_
    refine XL_iret dL_cell_24 (Or.inl rfl) ?_
    exact ⟨rfl, rfl, rfl, _, rfl, hxs _⟩
theorem h_cell {sb Ln : Nat} {xs : Nat → Int} {N : Nat} {I : xI} {Rf : xR} (hxs : ∀ j, -2147483648 ≤ xs j ∧ xs j ≤ 2147483647) (hLn : Ln ≤ 260) {k : Int} (hk : 0 ≤ k ∧ k ≤ 200) (G : xG) (l : Launch) : Met l kL_cell.1 (x_ws kL_cell) (x_room 0 0 0) (x_preC G sb Ln xs k N I Rf) (x_post G (q_r N I Rf)) 0 0 (x_A G) := by
  refine Met.ofW (cc := kL_cell.2.1) (maxL := kL_cell.2.2.1) (ret := kL_cell.2.2.2) (by decide +kernel) rfl ?_
  intro p e s m args below meth c s₁ B hml hv
  obtain ⟨rfl, hP, hKF, hsz, hs1, hs2, hs3⟩ := hv
  have hts := atoms_spec (ws := x_ws kL_cell) B.pre
  have hlocks := B.notSynchronized
  have hl := lv_entry ([.ref sb, .int (Int32.ofInt k)]) (n := 2) (Nat.le_of_ble_eq_true rfl)
  rw [show (#[Value.ref sb, Value.int (Int32.ofInt k)] : Array Value) = ([Value.ref sb, Value.int (Int32.ofInt k)] : List Value).toArray from rfl, lg_entry_eq]
  show W p l e (x_room 0 0 0) s m _ below meth c s.heap [] 0 0 _ (F0 m 0 (lg_sl ([Value.ref sb, Value.int (Int32.ofInt k)]) ++ List.replicate (2 - (lg_sl ([Value.ref sb, Value.int (Int32.ofInt k)])).length) Slot.unset).toArray [])
  generalize (lg_sl ([Value.ref sb, Value.int (Int32.ofInt k)]) ++ List.replicate (2 - (lg_sl ([Value.ref sb, Value.int (Int32.ofInt k)])).length) Slot.unset).toArray = ls at hl ⊢
  have hl : lv_has ls 2 [(0, .ref sb), (1, .int (Int32.ofInt k))] := hl
  have hL : x_L G 2 ls [none, some (ii k)] := ⟨hl.1, hl.2.1, rfl, fun i a h => by
    match i, h with
    | 0, h => cases h
    | 1, h => cases h; exact hl.2.2 (1, .int (Int32.ofInt k)) (List.mem_cons_of_mem _ List.mem_cons_self)
    | i + 2, h => simp at h⟩
  have hB : XS G s ls sb Ln xs := ⟨hl.2.2 (0, .ref sb) List.mem_cons_self, hs1, hs2, hs3⟩
  refine cell_body (sb := sb) hxs hLn hk (G := G) ⟨B.exec, B.bytes, hml, findClass_of_methodNamed B.named, fun w hw => hts w (List.mem_cons_of_mem _ hw), hKF, (name_of_methodNamed B.named B.method).1, hsz⟩ (Nat.le_refl 0) (Nat.le_refl _) (Nat.le_refl 0) (Nat.le_refl 0) ?_ hP va_S.rf (by omega) (by omega) hL hB
  intro ro N' I' Rf' H' locs' cells' slots' pc' ls' st' hQ hP' hS' g1 g2 hret
  refine W.widen (k := 0) (n := 0) g1 g2 ?_
  rcases hret with ⟨z, rfl, rfl, hd, hr⟩ | ⟨rfl, rfl, hd, hr⟩ | ⟨o, rfl, rfl, hd, hr⟩
  · rcases hr with hr | ⟨hr, hz⟩
    · exact W.iret (v := Int32.ofInt z) B.exec B.bytes (B.returns.trans hr) (fun t ht hW => ⟨⟨some (ii z), N', I', Rf', rfl, hQ, by rw [ht]; exact hP'.moved hW.alike⟩, hS'.F ht⟩) hS'.2.2 hd hlocks
    · cases hr
  · cases hr
  · cases hr
/-- the call of cell -/
theorem XM_call {sb Ln : Nat} {xs : Nat → Int} {κ : xK} {d bc bs pc idx : Nat} {L : List (Option xAV)} {st2 : List xAV} {N : Nat} {I : xI} {Rf : xR} {Q : xQ} (hxs : ∀ j, -2147483648 ≤ xs j ∧ xs j ≤ 2147483647) (hLn : Ln ≤ 260) {k : Int} (hk : 0 ≤ k ∧ k ≤ 200) (hd : decode κ.2.1 pc = .ok (.invokestatic idx, 3)) (hc : x_CS κ.1.cls idx kL_cell 2) (hdd : 1 ≤ d) (hrest : st2.length ≤ 8) (kk : ∀ z : Int, -2147483648 ≤ z ∧ z ≤ 2147483647 → XL sb Ln xs κ d bc bs (pc + 3) L (ii z :: st2) N I Rf Q) : XM sb Ln xs κ d bc bs pc L [ii k] st2 N I Rf Q := by
  intro G p l e Rm s m args below meth c H locs cells slots mc ms ls Z hC h1 h2 h3 h4 hE hP hS h5 h6 hL hB
  obtain ⟨hlk, ⟨hcode, hini, hdsc, hnl⟩, hstat⟩ := hc
  have hts : ∀ w ∈ xT, w.before args s = true := hC.2.2.2.2.1
  have hpre : PreS s H (x_preC G sb Ln xs k N I Rf) [Value.ref sb, Value.int (Int32.ofInt k)] := ⟨x_blindC G _ _ _ _ N I Rf, fun U hU hW => ⟨rfl, by rw [hU]; exact hP.moved hW.alike, hC.2.2.2.2.2.1.at hS hU hW, by rw [hU]; exact Nat.le_trans hC.2.2.2.2.2.2.2 hS.1, by rw [hU]; exact Nat.lt_of_lt_of_le hB.2.1 hS.1, hB.2.2.1, by rw [hU]; exact (hB.2.2.2.kept (hS.2.1 sb hB.2.1 hB.2.2.1)).moved hW.alike⟩⟩
  have hroom : (x_room 0 0 0).frames + 1 ≤ Rm.frames ∧ 8 + (kL_cell.2.2.1 + 11) + (x_room 0 0 0).locals ≤ Rm.locals := ⟨by show 0 + 1 ≤ _; omega, by show 8 + (2 + 11) + 40 * 0 ≤ _; omega⟩
  have hrun : va_Run p l e Rm s m args below meth c H locs cells slots 0 0 (F0 m pc ls (([ii k] : List xAV).map (x_v G) ++ Value.ref sb :: st2.map (x_v G))) (st2.map (x_v G)) (x_post G (q_r N I Rf) ([Value.ref sb, Value.int (Int32.ofInt k)] : List Value).toArray) (x_A G) := by
    have hw := x_rsum (G := G) hrest
    rcases hlk with hlk | ⟨host, hlk⟩
    · exact va_runS ⟨hC.1, hC.2.1, hC.2.2.1, hC.2.2.2.1, hts⟩ (h_cell hxs hLn hk G l) ⟨callB_of 2 hts (x_good kL_cell hcode) rfl rfl rfl (hts _ hini) (hts _ hlk) hdsc hroom, hts _ hstat⟩ hpre rfl rfl (hL.1) rfl (by show 2 * 0 + _ ≤ 8; omega) hd ⟨by omega, by omega⟩
    · exact va_runSN ⟨hC.1, hC.2.1, hC.2.2.1, hC.2.2.2.1, hts⟩ (h_cell hxs hLn hk G l) ⟨va_cnB 2 hts (x_good kL_cell hcode) rfl rfl rfl (hC.2.2.2.2.2.1.2.2.1 _ hlk) (hts _ hini) hdsc hroom, hts _ hstat, trivial⟩ hpre rfl rfl (hL.1) rfl (by show 2 * 0 + _ ≤ 8; omega) hd ⟨by omega, by omega⟩
  refine x_back hrun hS (fun ro N1 I1 R1 H1 locs1 hq hp1 hS1 => ?_)
  obtain ⟨rfl, rfl, rfl, z, rfl, hz⟩ := hq
  exact kk z hz hC h1 h2 h3 h4 hE hp1 hS1 (by omega) (by omega) hL hB
/-! the law -/
abbrev kW (nm : String) : xK := (⟨RL, nm, "([I)Z"⟩, cL_law, 6, some .boolean)
def qT : xQ := fun ro _ _ _ => ro = some (ii 1)
abbrev Lw (sb Ln : Nat) (xs : Nat → Int) (nm : String) (pc i : Nat) (st : List xAV) (I : xI) : Prop := YL sb Ln xs (kW nm) 10 pc [none, some (rr 0), some (rr 88), some (rr 89), some (ii (i : Int)), none] st I qT
theorem bad_add {s : xS} : (oAdd s 10).1 = -2 ∧ nxS s (oAdd s 10) = s := by
  have e1 : (oAdd s 10).1 = -2 := by
    show adZ s.1 s.2 10 = -2
    unfold adZ
    rw [if_pos (by decide)]
  refine ⟨e1, ?_⟩
  unfold nxS
  rw [e1, if_neg (by decide)]
theorem bad_pass {s : xS} {t : Int} (h : t < 1 ∨ 99 < t) : (oPass s t).1 = -2 ∧ nxS s (oPass s t) = s := by
  have e1 : (oPass s t).1 = -2 := by
    show (if t < 1 ∨ 99 < t then (-2 : Int) else if 5000 < s.1 17 + t then -3 else nsM s.1 s.2 (s.1 3) t.toNat) = -2
    rw [if_pos h]
  refine ⟨e1, ?_⟩
  unfold nxS
  rw [e1, if_neg (by decide)]
theorem bad_set {s : xS} : (oSet s 15 0).1 = -1 ∧ nxS s (oSet s 15 0) = s := by
  have e1 : (oSet s 15 0).1 = -1 := by
    show csZ s.1 s.2 15 0 = -1
    unfold csZ
    rw [if_pos (by decide)]
  refine ⟨e1, ?_⟩
  unfold nxS
  rw [e1, if_neg (by decide)]
theorem bad_set0 {s : xS} : (oSet s 0 101).1 = -2 ∧ nxS s (oSet s 0 101) = s := by
  have e1 : (oSet s 0 101).1 = -2 := by
    show csZ s.1 s.2 0 101 = -2
    unfold csZ
    rw [if_neg (by decide), if_pos (by decide)]
  refine ⟨e1, ?_⟩
  unfold nxS
  rw [e1, if_neg (by decide)]
set_option maxRecDepth 20000 in
set_option maxHeartbeats 4000000 in
theorem law_end {sb Ln : Nat} {xs : Nat → Int} {nm : String} {s : xS} {J I : xI} {i : Nat} (hW : WK s J I) : Lw sb Ln xs nm 164 i [] I := by
  refine XL_aload dL_law_164 rfl ?_
  refine XL_bipush dL_law_165 (by decide) ?_
  refine YL_iV dL_law_167 cv_L_50 sh_0 (by decide) (u_add hW 10 (by decide)) rfl (fun z I hz => ?_)
  obtain ⟨ez, hW⟩ := hz
  rw [bad_add.1] at ez
  rw [bad_add.2] at hW
  rw [ez]
  refine XL_bipush dL_law_170 (by decide) ?_
  refine XL_same_ne (tgt := 256) dL_law_172 (by decide) rfl ?_
  refine XL_aload dL_law_175 rfl ?_
  refine XL_iconst dL_law_176 ?_
  refine YL_iV dL_law_177 cv_L_32 sh_0 (by decide) (u_pass hW 0 (by decide)) rfl (fun z I hz => ?_)
  obtain ⟨ez, hW⟩ := hz
  rw [(bad_pass (s := s) (t := 0) (by decide)).1] at ez
  rw [(bad_pass (s := s) (t := 0) (by decide)).2] at hW
  rw [ez]
  refine XL_bipush dL_law_180 (by decide) ?_
  refine XL_same_ne (tgt := 256) dL_law_182 (by decide) rfl ?_
  refine XL_aload dL_law_185 rfl ?_
  refine XL_bipush dL_law_186 (by decide) ?_
  refine YL_iV dL_law_188 cv_L_32 sh_0 (by decide) (u_pass hW 100 (by decide)) rfl (fun z I hz => ?_)
  obtain ⟨ez, hW⟩ := hz
  rw [(bad_pass (s := s) (t := 100) (by decide)).1] at ez
  rw [(bad_pass (s := s) (t := 100) (by decide)).2] at hW
  rw [ez]
  refine XL_bipush dL_law_191 (by decide) ?_
  refine XL_same_ne (tgt := 256) dL_law_193 (by decide) rfl ?_
  refine XL_aload dL_law_196 rfl ?_
  refine XL_bipush dL_law_197 (by decide) ?_
  refine XL_iconst dL_law_199 ?_
  refine YL_iV dL_law_200 cv_L_42 sh_0 (by decide) (u_set hW 15 (by decide) 0 (by decide)) rfl (fun z I hz => ?_)
  obtain ⟨ez, hW⟩ := hz
  rw [bad_set.1] at ez
  rw [bad_set.2] at hW
  rw [ez]
  refine XL_iconst dL_law_203 ?_
  refine XL_same_ne (tgt := 256) dL_law_204 (by decide) rfl ?_
  refine XL_aload dL_law_207 rfl ?_
  refine XL_iconst dL_law_208 ?_
  refine XL_bipush dL_law_209 (by decide) ?_
  refine YL_iV dL_law_211 cv_L_42 sh_0 (by decide) (u_set hW 0 (by decide) 101 (by decide)) rfl (fun z I hz => ?_)
  obtain ⟨ez, hW⟩ := hz
  rw [bad_set0.1] at ez
  rw [bad_set0.2] at hW
  rw [ez]
  refine XL_bipush dL_law_214 (by decide) ?_
  refine XL_same_ne (tgt := 256) dL_law_216 (by decide) rfl ?_
  refine XL_aload dL_law_219 rfl ?_
  refine XL_bipush dL_law_220 (by decide) ?_
  refine YL_pV dL_law_222 cv_L_8 sh_0 (by decide) (v_t27 hW) rfl ?_
  refine XL_bipush dL_law_225 (by decide) ?_
  refine XL_same_ne (tgt := 256) dL_law_227 (by decide) rfl ?_
  refine XL_aload dL_law_230 rfl ?_
  refine XL_iconst dL_law_231 ?_
  refine XL_iconst dL_law_232 ?_
  refine YL_pV dL_law_233 cv_L_22 sh_0 (by decide) (v_shno hW) rfl ?_
  refine XL_iconst dL_law_236 ?_
  refine XL_same_ne (tgt := 256) dL_law_237 (by decide) rfl ?_
  refine XL_aload dL_law_240 rfl ?_
  refine XL_bipush dL_law_241 (by decide) ?_
  refine XL_iconst dL_law_243 ?_
  refine YL_iV dL_law_244 cv_L_39 sh_0 (by decide) (v_hotno hW) rfl (fun z I hz => ?_)
  obtain ⟨rfl, hW⟩ := hz
  refine XL_bipush dL_law_247 (by decide) ?_
  refine XL_same_ne (tgt := 256) dL_law_249 (by decide) rfl ?_
  refine XL_iconst dL_law_252 ?_
  refine XL_goto (tgt := 257) dL_law_253 (by decide) ?_
  refine XL_iret dL_law_257 (Or.inr ⟨rfl, by omega⟩) ?_
  rfl
set_option maxRecDepth 20000 in
set_option maxHeartbeats 4000000 in
theorem law_loop {sb Ln : Nat} {xs : Nat → Int} {nm : String} (hxs : ∀ j, -2147483648 ≤ xs j ∧ xs j ≤ 2147483647) (hLn : Ln ≤ 260) : ∀ (m j : Nat), j + m = 70 → ∀ (s : xS) (J I : xI), WK s J I → IV s.1 s.2 → EV s j → Lw sb Ln xs nm 68 j [] I := by
  intro m
  induction m with
  | zero =>
    intro j hj s J I hW hI hE
    refine XL_iloadW dL_law_68 rfl ?_
    refine XL_bipush dL_law_70 (by decide) ?_
    refine XL_icmp_ge (tgt := 164) dL_law_72 (by decide) (by omega) (fun c_72 => ?_) (fun c_72 => absurd c_72 (by omega))
    exact law_end hW
  | succ m ih =>
    intro j hj s J I hW hI hE
    refine XL_iloadW dL_law_68 rfl ?_
    refine XL_bipush dL_law_70 (by decide) ?_
    refine XL_icmp_ge (tgt := 164) dL_law_72 (by decide) (by omega) (fun c_72 => absurd c_72 (by omega)) (fun c_72 => ?_)
    refine XL_script dL_law_75 ?_
    refine XM_iconst dL_law_76 ?_
    refine XM_iloadW dL_law_77 rfl ?_
    refine XM_imul dL_law_79 ?_
    refine XM_call hxs hLn (by omega) dL_law_80 cs_L_75 (by decide) (Nat.le_of_ble_eq_true rfl) (fun v hv => ?_)
    refine XL_istoreW dL_law_83 (Nat.le_of_ble_eq_true rfl) ?_
    dsimp only [List.set]
    have h128 : ∀ (s : xS) (J I : xI), WK s J I → IV s.1 s.2 → EV s (j + 1) → YL sb Ln xs (kW nm) 10 128 [none, some (rr 0), some (rr 88), some (rr 89), some (ii (j : Int)), some (ii v)] [] I qT := by
      intro s J I hW hI hE
      refine XL_iloadW dL_law_128 rfl ?_
      refine XL_bipush dL_law_130 (by decide) ?_
      refine XL_irem dL_law_132 (by omega) (by omega) ?_
      refine XL_bipush dL_law_133 (by decide) ?_
      refine XL_icmp_ne (tgt := 158) dL_law_135 (by decide) (by omega) (fun c_135 => ?_) (fun c_135 => ?_)
      · refine XL_iinc dL_law_158 rfl ?_
        dsimp only [List.set]
        refine XL_goto (tgt := 68) dL_law_161 (by decide) ?_
        refine XL_drop 5 ?_
        dsimp only [List.set]
        exact ih (j + 1) (by omega) _ _ _ hW hI hE
      · refine XL_aload dL_law_138 rfl ?_
        refine XL_iconst dL_law_139 ?_
        refine XL_iloadW dL_law_140 rfl ?_
        refine XL_iconst dL_law_142 ?_
        refine XL_ishr dL_law_143 (fun v143 hv143 => ?_)
        refine XL_bipush dL_law_144 (by decide) ?_
        refine YL_iS dL_law_146 cs_L_45 (h_low _ 8 (by decide) _) rfl (fun a I ha => ?_)
        obtain ⟨ha, rfl⟩ := ha
        obtain ⟨t, et⟩ : ∃ t : Nat, 1 + a = (t : Int) := ⟨(1 + a).toNat, by omega⟩
        refine XL_iadd dL_law_149 ?_
        rw [et]
        refine YL_iS dL_law_150 cs_L_86 (h_best hW hI t (by omega)) rfl (fun z I hz => ?_)
        obtain ⟨rfl, hW⟩ := hz
        refine XL_if_ne (tgt := 158) dL_law_153 (by decide) (by decide) (fun c_153 => ?_) (fun c_153 => absurd c_153 (by decide))
        refine XL_iinc dL_law_158 rfl ?_
        dsimp only [List.set]
        refine XL_goto (tgt := 68) dL_law_161 (by decide) ?_
        refine XL_drop 5 ?_
        dsimp only [List.set]
        exact ih (j + 1) (by omega) _ _ _ hW hI hE
    refine XL_aload dL_law_85 rfl ?_
    refine XL_iloadW dL_law_86 rfl ?_
    refine XL_script dL_law_88 ?_
    refine XM_iconst dL_law_89 ?_
    refine XM_iloadW dL_law_90 rfl ?_
    refine XM_imul dL_law_92 ?_
    refine XM_iconst dL_law_93 ?_
    refine XM_iadd dL_law_94 ?_
    refine XM_call hxs hLn (by omega) dL_law_95 cs_L_75 (by decide) (Nat.le_of_ble_eq_true rfl) (fun w hw => ?_)
    refine YL_iS dL_law_98 cs_L_79 (h_does (e := j) (by omega) hW hI hE v w hv hw) rfl (fun z I hz => ?_)
    obtain ⟨rfl, s1, hW, hI, hE⟩ := hz
    refine XL_if_eq (tgt := 156) dL_law_101 (by decide) (by decide) (fun c_101 => absurd c_101 (by decide)) (fun c_101 => ?_)
    refine XL_aload dL_law_104 rfl ?_
    refine YL_iS dL_law_105 cs_L_65 (h_are hW hI) rfl (fun z I hz => ?_)
    obtain ⟨rfl, hW⟩ := hz
    refine XL_if_eq (tgt := 156) dL_law_108 (by decide) (by decide) (fun c_108 => absurd c_108 (by decide)) (fun c_108 => ?_)
    refine XL_iloadW dL_law_111 rfl ?_
    refine XL_iconst dL_law_113 ?_
    refine XL_irem dL_law_114 (by omega) (by omega) ?_
    refine XL_iconst dL_law_115 ?_
    refine XL_icmp_ne (tgt := 128) dL_law_116 (by decide) (by omega) (fun c_116 => ?_) (fun c_116 => ?_)
    · exact h128 _ _ _ hW hI hE
    · refine XL_aload dL_law_119 rfl ?_
      refine XL_aload dL_law_120 rfl ?_
      refine XL_aload dL_law_121 rfl ?_
      refine YL_iS dL_law_122 cs_L_82 (h_night (e := j + 1) (by omega) hW hI hE) rfl (fun z I hz => ?_)
      obtain ⟨rfl, s2, J2, hW, hI, hE⟩ := hz
      refine XL_if_eq (tgt := 156) dL_law_125 (by decide) (by decide) (fun c_125 => absurd c_125 (by decide)) (fun c_125 => ?_)
      exact h128 _ _ _ hW hI hE
