/-! the other program: a night -/
theorem fd_same {g : Nat → Int} {k n : Nat} {f v : Int} (hv : v = max (gb (fdH g k f) k 5 - 1) 0) : SameG (gB (fdH g k f) k 5 v) (fd1 g k f) n := by
  subst hv
  exact SameG.rf
theorem dz_rs {g : Nat → Int} {k : Nat} {v : Int} (h : (gb g k 4 = 1 ∧ v = 1) ∨ (gb g k 4 = 0 ∧ 0 < gb g k 5 ∧ v = 2) ∨ (gb g k 4 = 0 ∧ gb g k 5 ≤ 0 ∧ wt g k = gb g k 3 ∧ v = 3) ∨ (gb g k 4 = 0 ∧ gb g k 5 ≤ 0 ∧ wt g k ≠ gb g k 3 ∧ v = -1)) : v = dz (rs g k) := by
  unfold rs
  rcases h with h | h | h | h
  · rw [if_neg (by omega), h.2]; rfl
  · rw [if_pos h.1, if_neg (by omega), h.2.2]; rfl
  · rw [if_pos h.1, if_pos h.2.1, if_pos h.2.2.1, h.2.2.2]; rfl
  · rw [if_pos h.1, if_pos h.2.1, if_neg h.2.2.1, h.2.2.2]; rfl
theorem fd1_gb {g : Nat → Int} {k q j : Nat} {f : Int} (hj : j < 8) (h : q ≠ k) : gb (fd1 g k f) q j = gb g q j := by
  unfold fd1 fdH
  rw [gB_nek (by decide) hj h, gB_nek (by decide) hj h]
theorem rs_fd {g : Nat → Int} {k q : Nat} (h : q ≠ k) : rs (fdF g (k + 1)) q = rs (fdF g k) q := by
  show rs (fd1 (fdF g k) k (g 0)) q = rs (fdF g k) q
  have e1 : fd1 (fdF g k) k (g 0) 1 = fdF g k 1 := by unfold fd1 fdH; rw [gB_num (by decide), gB_num (by decide)]
  have e2 : fd1 (fdF g k) k (g 0) 2 = fdF g k 2 := by unfold fd1 fdH; rw [gB_num (by decide), gB_num (by decide)]
  unfold rs wt
  rw [fd1_gb (by decide) h, fd1_gb (by decide) h, fd1_gb (by decide) h, fd1_gb (by decide) h, e1, e2]
section
variable {κ : xK} {d pc : Nat} {L : List (Option xAV)} {st : List xAV} {I : xI} {Q : xQ}
theorem Y_astP {g y : Nat → Int} {n : Nat} {z v : Int} (hd : decode κ.2.1 pc = .ok (.iastore, 1)) (k : Nat) (hk : k < 24) (hR : RR I 215 g n) (hW : W5 I y k) (hz : z = (k : Int)) (hv : v = dz (y k)) (kk : ∀ I1, RR I1 215 g n → W5 I1 y (k + 1) → WF I I1 → Y κ d (pc + 1) L st I1 Q) : Y κ d pc L (ii v :: ii z :: rr 93 :: st) I Q := by
  refine X_iast hd sh_93 (by decide) (by omega) ?_
  subst hz
  rw [Int.toNat_natCast]
  refine kk _ (fun i hi => ?_) (fun q hq => ?_) ⟨fun q _ hq => x_up_ne hq, fun i hi => x_up_off (by decide)⟩
  · rw [x_up_off (by decide)]; exact hR i hi
  · rw [x_up_app]
    by_cases a : q = k
    · rw [if_pos ⟨rfl, a⟩, a, hv]
    · rw [if_neg (by omega)]; exact hW q (by omega)
end
def P5 (I : xI) (g : Nat → Int) (n : Nat) (z : Int) (I1 : xI) : Prop := z = nsM g n (g 3) 1 ∧ RR I1 215 (npG g n 1) n ∧ (∀ k, k < n → I1 93 k = (ntU g n (g 3)).2.1 k) ∧ WF I I1
theorem rs_p {g : Nat → Int} {n q : Nat} (hG : GI g n) (hq : q < n) (e : rs g q = 4) : gb g q 5 = 0 := by
  have := (hG.b hq).2.2.2.2.2
  unfold rs at e
  split at e
  · split at e
    · omega
    · exact absurd e (by decide)
  · exact absurd e (by decide)
def Q5 (I0 : xI) (g : Nat → Int) (n : Nat) (m : Int) (z : Int) (I1 : xI) : Prop := z = (rU (fdF g n) n m).2.2 ∧ RR I1 215 (gN (gN (rU (fdF g n) n m).1 21 ((rU (fdF g n) n m).1 21 + (rU (fdF g n) n m).2.2)) 17 ((gN (rU (fdF g n) n m).1 21 ((rU (fdF g n) n m).1 21 + (rU (fdF g n) n m).2.2)) 17 + 1)) n ∧ W5 I1 (rU (fdF g n) n m).2.1 n ∧ WF I0 I1 ∧ (rU (fdF g n) n m).1 17 = g 17 ∧ (rU (fdF g n) n m).1 21 = g 21
set_option maxRecDepth 20000 in
set_option maxHeartbeats 4000000 in
theorem t5_passesOne_loop {I0 : xI} {g : Nat → Int} {n : Nat} (hG : GI g n) : ∀ (m k : Nat), k + m = n → ∀ (I : xI), WF I0 I → RR I 215 (fdF g k) n → W5 I (rs (fdF g k)) k → Y kX5_passesOne 5 34 [some (rr 88), some (ii 215), some (ii (k : Int)), none, none] [] I (q_i (Q5 I0 g n (g 3))) := by
  have hn24 := hG.n24
  intro m
  induction m with
  | zero =>
    intro k hk I hF hR hW
    obtain rfl : k = n := by omega
    have hGk := hG.fd k (Nat.le_refl k)
    have h15 := hGk.g15
    refine X_iload dX5_passesOne_34 rfl ?_
    refine X_aload dX5_passesOne_35 rfl ?_
    refine X_getR dX5_passesOne_36 rfl gf_X5_7 sh_88 (by decide) rfl rf_88_0 ?_
    refine X_iload dX5_passesOne_39 rfl ?_
    refine X_bipush dX5_passesOne_40 (by decide) ?_
    refine X_iadd dX5_passesOne_42 ?_
    refine Y_ald dX5_passesOne_43 hR (by omega) hn24 (15) (by omega) (by omega) ?_
    refine X_icmp_ge (tgt := 185) dX5_passesOne_44 (by decide) (by omega) (fun c_44 => ?_) (fun c_44 => absurd c_44 (by omega))
    refine X_aload dX5_passesOne_185 rfl ?_
    refine X_iload dX5_passesOne_186 rfl ?_
    refine X_iconst dX5_passesOne_187 ?_
    refine X_iconst dX5_passesOne_188 ?_
    refine Y_iV dX5_passesOne_189 cv_X5_57 sh_88 (by decide) (t5_turns hR hGk hW (fun q _ => by have := rs_bounds (fdF g k) q; omega) (fun q hq e => rs_p hGk hq e) true rfl (m := 0) (by have := hGk.s3; omega)) rfl (fun z189 I189 h189 => ?_)
    obtain ⟨rfl, hR, hW, hF1⟩ := h189
    have hF := hF.trans hF1
    rw [fd_num (by decide)] at hR hW
    rw [fd_num (by decide)]
    change RR _ 215 (rD (fdF g k) k (g 3)).1 k at hR
    change W5 _ (rD (fdF g k) k (g 3)).2.1 k at hW
    obtain ⟨⟨k1, k2, k3, k4, k5⟩, k6⟩ := tnR_ok (w := wt (fdF g k)) (n := k) (most := g 3) (dn := true) 24 (fdF g k) (rs (fdF g k)) 0 ⟨hGk, fun q _ => by have := rs_bounds (fdF g k) q; dsimp only; omega, fun q hq e => rs_p hGk hq e, rfl, by dsimp only; have := hG.s3; omega⟩
    change GI (rD (fdF g k) k (g 3)).1 k at k1
    have e3 : (rD (fdF g k) k (g 3)).1 3 = g 3 := (k6 3 (by decide)).trans (fd_num (by decide) k)
    change wt (rD (fdF g k) k (g 3)).1 = wt (fdF g k) at k4
    refine X_istore dX5_passesOne_192 (by decide) ?_
    dsimp only [List.set]
    refine X_aload dX5_passesOne_193 rfl ?_
    refine X_iload dX5_passesOne_194 rfl ?_
    refine X_iconst dX5_passesOne_195 ?_
    refine X_iload dX5_passesOne_196 rfl ?_
    refine Y_iV dX5_passesOne_197 cv_X5_57 sh_88 (by decide) (t5_turns hR k1 hW k2 k3 false rfl (m := (rD (fdF g k) k (g 3)).2.2) (by rw [e3]; exact k5)) rfl (fun z197 I197 h197 => ?_)
    obtain ⟨rfl, hR, hW, hF1⟩ := h197
    have hF := hF.trans hF1
    rw [e3, k4] at hR hW
    rw [e3, k4]
    change RR _ 215 (rU (fdF g k) k (g 3)).1 k at hR
    change W5 _ (rU (fdF g k) k (g 3)).2.1 k at hW
    have k7 := (tnR_ok (w := wt (fdF g k)) (n := k) (most := g 3) (dn := false) 24 (rD (fdF g k) k (g 3)).1 (rD (fdF g k) k (g 3)).2.1 (rD (fdF g k) k (g 3)).2.2 ⟨k1, k2, k3, k4, k5⟩).2
    have e17 : (rU (fdF g k) k (g 3)).1 17 = g 17 := (k7 17 (by decide)).trans ((k6 17 (by decide)).trans (fd_num (by decide) k))
    have e21 : (rU (fdF g k) k (g 3)).1 21 = g 21 := (k7 21 (by decide)).trans ((k6 21 (by decide)).trans (fd_num (by decide) k))
    refine X_istore dX5_passesOne_200 (by decide) ?_
    dsimp only [List.set]
    refine X_aload dX5_passesOne_201 rfl ?_
    refine X_getR dX5_passesOne_202 rfl gf_X5_7 sh_88 (by decide) rfl rf_88_0 ?_
    refine X_iload dX5_passesOne_205 rfl ?_
    refine X_bipush dX5_passesOne_206 (by decide) ?_
    refine X_iadd dX5_passesOne_208 ?_
    refine X_dup2 dX5_passesOne_209 ?_
    refine Y_ald dX5_passesOne_210 hR (by omega) hn24 (21) (by omega) (by omega) ?_
    refine X_iload dX5_passesOne_211 rfl ?_
    refine X_iadd dX5_passesOne_212 ?_
    refine Y_ast dX5_passesOne_213 hR hn24 (21) (by omega) (by omega) (fun I213 hR hK213 => ?_)
    have hF := hF.trans hK213.wf
    have hW := hK213.w5 hW
    refine X_aload dX5_passesOne_214 rfl ?_
    refine X_getR dX5_passesOne_215 rfl gf_X5_7 sh_88 (by decide) rfl rf_88_0 ?_
    refine X_iload dX5_passesOne_218 rfl ?_
    refine X_bipush dX5_passesOne_219 (by decide) ?_
    refine X_iadd dX5_passesOne_221 ?_
    refine X_dup2 dX5_passesOne_222 ?_
    refine Y_ald dX5_passesOne_223 hR (by omega) hn24 (17) (by omega) (by omega) ?_
    refine X_iconst dX5_passesOne_224 ?_
    refine X_iadd dX5_passesOne_225 ?_
    refine Y_ast dX5_passesOne_226 hR hn24 (17) (by omega) (by omega) (fun I226 hR hK226 => ?_)
    have hF := hF.trans hK226.wf
    have hW := hK226.w5 hW
    refine X_iload dX5_passesOne_227 rfl ?_
    refine X_iret dX5_passesOne_228 (Or.inl rfl) ?_
    exact ⟨rfl, rfl, _, rfl, rfl, hR, hW, hF, e17, e21⟩
  | succ m ih =>
    intro k hk I hF hR hW
    have hGk := hG.fd k (by omega)
    have h15 := hGk.g15
    refine X_iload dX5_passesOne_34 rfl ?_
    refine X_aload dX5_passesOne_35 rfl ?_
    refine X_getR dX5_passesOne_36 rfl gf_X5_7 sh_88 (by decide) rfl rf_88_0 ?_
    refine X_iload dX5_passesOne_39 rfl ?_
    refine X_bipush dX5_passesOne_40 (by decide) ?_
    refine X_iadd dX5_passesOne_42 ?_
    refine Y_ald dX5_passesOne_43 hR (by omega) hn24 (15) (by omega) (by omega) ?_
    refine X_icmp_ge (tgt := 185) dX5_passesOne_44 (by decide) (by omega) (fun c_44 => absurd c_44 (by omega)) (fun c_44 => ?_)
    refine X_iload dX5_passesOne_47 rfl ?_
    refine X_iload dX5_passesOne_48 rfl ?_
    refine Y_pS dX5_passesOne_49 cs_X5_32 (t5_at _ _ _) rfl ?_
    refine X_istore dX5_passesOne_52 (by decide) ?_
    dsimp only [List.set]
    refine X_aload dX5_passesOne_53 rfl ?_
    refine X_getR dX5_passesOne_54 rfl gf_X5_7 sh_88 (by decide) rfl rf_88_0 ?_
    refine X_iload dX5_passesOne_57 rfl ?_
    refine X_iconst dX5_passesOne_58 ?_
    refine X_iadd dX5_passesOne_59 ?_
    refine X_aload dX5_passesOne_60 rfl ?_
    refine X_getR dX5_passesOne_61 rfl gf_X5_7 sh_88 (by decide) rfl rf_88_0 ?_
    refine X_iload dX5_passesOne_64 rfl ?_
    refine X_iconst dX5_passesOne_65 ?_
    refine X_iadd dX5_passesOne_66 ?_
    refine Y_aldB dX5_passesOne_67 hR (by omega) hn24 (k) (2) (by omega) (by omega) (by omega) ?_
    refine X_aload dX5_passesOne_68 rfl ?_
    refine X_getR dX5_passesOne_69 rfl gf_X5_7 sh_88 (by decide) rfl rf_88_0 ?_
    refine X_iload dX5_passesOne_72 rfl ?_
    refine X_iconst dX5_passesOne_73 ?_
    refine X_iadd dX5_passesOne_74 ?_
    refine Y_ald dX5_passesOne_75 hR (by omega) hn24 (0) (by omega) (by omega) ?_
    rw [fd_num (by decide)]
    have hfh := hGk.fdh (k := k) (by omega) hG.s0
    refine X_imul dX5_passesOne_76 ?_
    refine X_bipush dX5_passesOne_77 (by decide) ?_
    refine X_idiv dX5_passesOne_79 ⟨hfh.1, by omega⟩ (by omega) ?_
    refine Y_astB dX5_passesOne_80 hR hn24 (k) (2) (by omega) (by omega) (by omega) (fun I80 hR hK80 => ?_)
    have hF := hF.trans hK80.wf
    have hW := hK80.w5 hW
    have hR : RR I80 215 (fdH (fdF g k) k (g 0)) n := hR
    have h5k := ((hGk.fadeH (k := k) (by omega) hG.s0).b (k := k) (by omega)).2.2.2.2.2
    refine X_aload dX5_passesOne_81 rfl ?_
    refine X_getR dX5_passesOne_82 rfl gf_X5_7 sh_88 (by decide) rfl rf_88_0 ?_
    refine X_iload dX5_passesOne_85 rfl ?_
    refine X_iconst dX5_passesOne_86 ?_
    refine X_iadd dX5_passesOne_87 ?_
    refine X_dup2 dX5_passesOne_88 ?_
    refine Y_aldB dX5_passesOne_89 hR (by omega) hn24 (k) (5) (by omega) (by omega) (by omega) ?_
    refine X_aload dX5_passesOne_90 rfl ?_
    refine X_getR dX5_passesOne_91 rfl gf_X5_7 sh_88 (by decide) rfl rf_88_0 ?_
    refine X_iload dX5_passesOne_94 rfl ?_
    refine X_iconst dX5_passesOne_95 ?_
    refine X_iadd dX5_passesOne_96 ?_
    refine Y_aldB dX5_passesOne_97 hR (by omega) hn24 (k) (5) (by omega) (by omega) (by omega) ?_
    refine X_if_le (tgt := 105) dX5_passesOne_98 (by decide) (by omega) (fun c_98 => ?_) (fun c_98 => ?_)
    · refine X_iconst dX5_passesOne_105 ?_
      refine X_isub dX5_passesOne_106 ?_
      refine Y_astB dX5_passesOne_107 hR hn24 (k) (5) (by omega) (by omega) (by omega) (fun I107 hR hK107 => ?_)
      have hF := hF.trans hK107.wf
      have hW := hK107.w5 hW
      have hR : RR I107 215 (fdF g (k + 1)) n := hR.same (fd_same (by omega))
      have hGk := hG.fd (k + 1) (by omega)
      have hW : W5 I107 (rs (fdF g (k + 1))) k := fun q hq => by rw [rs_fd (by omega)]; exact hW q hq
      have hw := wt_bounds (fdF g (k + 1)) k
      have hb3 := (hGk.b (k := k) (by omega)).2.2.2.1
      have hb4 := (hGk.b (k := k) (by omega)).2.2.2.2.1
      have hb5 := (hGk.b (k := k) (by omega)).2.2.2.2.2
      refine X_aload dX5_passesOne_108 rfl ?_
      refine X_iload dX5_passesOne_109 rfl ?_
      refine X_iload dX5_passesOne_110 rfl ?_
      refine Y_pV dX5_passesOne_111 cv_X5_40 sh_88 (by decide) (t5_wanted hR (by decide) hGk rfl k (by omega) rfl) rfl ?_
      refine X_aload dX5_passesOne_114 rfl ?_
      refine X_getR dX5_passesOne_115 rfl gf_X5_7 sh_88 (by decide) rfl rf_88_0 ?_
      refine X_iload dX5_passesOne_118 rfl ?_
      refine X_iconst dX5_passesOne_119 ?_
      refine X_iadd dX5_passesOne_120 ?_
      refine Y_aldB dX5_passesOne_121 hR (by omega) hn24 (k) (3) (by omega) (by omega) (by omega) ?_
      refine X_icmp_ne (tgt := 129) dX5_passesOne_122 (by decide) (by omega) (fun c_122 => ?_) (fun c_122 => ?_)
      · refine X_iconst dX5_passesOne_129 ?_
        refine X_istoreW dX5_passesOne_130 (by decide) ?_
        dsimp only [List.set]
        refine X_aload dX5_passesOne_132 rfl ?_
        refine X_getR dX5_passesOne_133 rfl gf_X5_22 sh_88 (by decide) rfl rf_88_7 ?_
        refine X_iload dX5_passesOne_136 rfl ?_
        refine X_aload dX5_passesOne_137 rfl ?_
        refine X_getR dX5_passesOne_138 rfl gf_X5_7 sh_88 (by decide) rfl rf_88_0 ?_
        refine X_iload dX5_passesOne_141 rfl ?_
        refine X_iconst dX5_passesOne_142 ?_
        refine X_iadd dX5_passesOne_143 ?_
        refine Y_aldB dX5_passesOne_144 hR (by omega) hn24 (k) (4) (by omega) (by omega) (by omega) ?_
        refine X_iconst dX5_passesOne_145 ?_
        refine X_icmp_ne (tgt := 153) dX5_passesOne_146 (by decide) (by omega) (fun c_146 => ?_) (fun c_146 => ?_)
        · refine X_aload dX5_passesOne_153 rfl ?_
          refine X_getR dX5_passesOne_154 rfl gf_X5_7 sh_88 (by decide) rfl rf_88_0 ?_
          refine X_iload dX5_passesOne_157 rfl ?_
          refine X_iconst dX5_passesOne_158 ?_
          refine X_iadd dX5_passesOne_159 ?_
          refine Y_aldB dX5_passesOne_160 hR (by omega) hn24 (k) (5) (by omega) (by omega) (by omega) ?_
          refine X_if_le (tgt := 168) dX5_passesOne_161 (by decide) (by omega) (fun c_161 => ?_) (fun c_161 => ?_)
          · refine X_iloadW dX5_passesOne_168 rfl ?_
            refine X_if_eq (tgt := 177) dX5_passesOne_170 (by decide) (by omega) (fun c_170 => ?_) (fun c_170 => ?_)
            · refine X_iconst dX5_passesOne_177 ?_
              refine Y_astP dX5_passesOne_178 k (by omega) hR hW rfl (dz_rs (by omega)) (fun I178 hR hW hK178 => ?_)
              have hF := hF.trans hK178
              refine X_iinc dX5_passesOne_179 rfl ?_
              dsimp only [List.set]
              refine X_goto (tgt := 34) dX5_passesOne_182 (by decide) ?_
              refine X_drop 3 ?_
              refine X_drop 4 ?_
              dsimp only [List.set]
              exact ih (k + 1) (by omega) _ hF hR hW
            · refine X_iconst dX5_passesOne_173 ?_
              refine X_goto (tgt := 178) dX5_passesOne_174 (by decide) ?_
              refine Y_astP dX5_passesOne_178 k (by omega) hR hW rfl (dz_rs (by omega)) (fun I178 hR hW hK178 => ?_)
              have hF := hF.trans hK178
              refine X_iinc dX5_passesOne_179 rfl ?_
              dsimp only [List.set]
              refine X_goto (tgt := 34) dX5_passesOne_182 (by decide) ?_
              refine X_drop 3 ?_
              refine X_drop 4 ?_
              dsimp only [List.set]
              exact ih (k + 1) (by omega) _ hF hR hW
          · refine X_iconst dX5_passesOne_164 ?_
            refine X_goto (tgt := 178) dX5_passesOne_165 (by decide) ?_
            refine Y_astP dX5_passesOne_178 k (by omega) hR hW rfl (dz_rs (by omega)) (fun I178 hR hW hK178 => ?_)
            have hF := hF.trans hK178
            refine X_iinc dX5_passesOne_179 rfl ?_
            dsimp only [List.set]
            refine X_goto (tgt := 34) dX5_passesOne_182 (by decide) ?_
            refine X_drop 3 ?_
            refine X_drop 4 ?_
            dsimp only [List.set]
            exact ih (k + 1) (by omega) _ hF hR hW
        · refine X_iconst dX5_passesOne_149 ?_
          refine X_goto (tgt := 178) dX5_passesOne_150 (by decide) ?_
          refine Y_astP dX5_passesOne_178 k (by omega) hR hW rfl (dz_rs (by omega)) (fun I178 hR hW hK178 => ?_)
          have hF := hF.trans hK178
          refine X_iinc dX5_passesOne_179 rfl ?_
          dsimp only [List.set]
          refine X_goto (tgt := 34) dX5_passesOne_182 (by decide) ?_
          refine X_drop 3 ?_
          refine X_drop 4 ?_
          dsimp only [List.set]
          exact ih (k + 1) (by omega) _ hF hR hW
      · refine X_iconst dX5_passesOne_125 ?_
        refine X_goto (tgt := 130) dX5_passesOne_126 (by decide) ?_
        refine X_istoreW dX5_passesOne_130 (by decide) ?_
        dsimp only [List.set]
        refine X_aload dX5_passesOne_132 rfl ?_
        refine X_getR dX5_passesOne_133 rfl gf_X5_22 sh_88 (by decide) rfl rf_88_7 ?_
        refine X_iload dX5_passesOne_136 rfl ?_
        refine X_aload dX5_passesOne_137 rfl ?_
        refine X_getR dX5_passesOne_138 rfl gf_X5_7 sh_88 (by decide) rfl rf_88_0 ?_
        refine X_iload dX5_passesOne_141 rfl ?_
        refine X_iconst dX5_passesOne_142 ?_
        refine X_iadd dX5_passesOne_143 ?_
        refine Y_aldB dX5_passesOne_144 hR (by omega) hn24 (k) (4) (by omega) (by omega) (by omega) ?_
        refine X_iconst dX5_passesOne_145 ?_
        refine X_icmp_ne (tgt := 153) dX5_passesOne_146 (by decide) (by omega) (fun c_146 => ?_) (fun c_146 => ?_)
        · refine X_aload dX5_passesOne_153 rfl ?_
          refine X_getR dX5_passesOne_154 rfl gf_X5_7 sh_88 (by decide) rfl rf_88_0 ?_
          refine X_iload dX5_passesOne_157 rfl ?_
          refine X_iconst dX5_passesOne_158 ?_
          refine X_iadd dX5_passesOne_159 ?_
          refine Y_aldB dX5_passesOne_160 hR (by omega) hn24 (k) (5) (by omega) (by omega) (by omega) ?_
          refine X_if_le (tgt := 168) dX5_passesOne_161 (by decide) (by omega) (fun c_161 => ?_) (fun c_161 => ?_)
          · refine X_iloadW dX5_passesOne_168 rfl ?_
            refine X_if_eq (tgt := 177) dX5_passesOne_170 (by decide) (by omega) (fun c_170 => ?_) (fun c_170 => ?_)
            · refine X_iconst dX5_passesOne_177 ?_
              refine Y_astP dX5_passesOne_178 k (by omega) hR hW rfl (dz_rs (by omega)) (fun I178 hR hW hK178 => ?_)
              have hF := hF.trans hK178
              refine X_iinc dX5_passesOne_179 rfl ?_
              dsimp only [List.set]
              refine X_goto (tgt := 34) dX5_passesOne_182 (by decide) ?_
              refine X_drop 3 ?_
              refine X_drop 4 ?_
              dsimp only [List.set]
              exact ih (k + 1) (by omega) _ hF hR hW
            · refine X_iconst dX5_passesOne_173 ?_
              refine X_goto (tgt := 178) dX5_passesOne_174 (by decide) ?_
              refine Y_astP dX5_passesOne_178 k (by omega) hR hW rfl (dz_rs (by omega)) (fun I178 hR hW hK178 => ?_)
              have hF := hF.trans hK178
              refine X_iinc dX5_passesOne_179 rfl ?_
              dsimp only [List.set]
              refine X_goto (tgt := 34) dX5_passesOne_182 (by decide) ?_
              refine X_drop 3 ?_
              refine X_drop 4 ?_
              dsimp only [List.set]
              exact ih (k + 1) (by omega) _ hF hR hW
          · refine X_iconst dX5_passesOne_164 ?_
            refine X_goto (tgt := 178) dX5_passesOne_165 (by decide) ?_
            refine Y_astP dX5_passesOne_178 k (by omega) hR hW rfl (dz_rs (by omega)) (fun I178 hR hW hK178 => ?_)
            have hF := hF.trans hK178
            refine X_iinc dX5_passesOne_179 rfl ?_
            dsimp only [List.set]
            refine X_goto (tgt := 34) dX5_passesOne_182 (by decide) ?_
            refine X_drop 3 ?_
            refine X_drop 4 ?_
            dsimp only [List.set]
            exact ih (k + 1) (by omega) _ hF hR hW
        · refine X_iconst dX5_passesOne_149 ?_
          refine X_goto (tgt := 178) dX5_passesOne_150 (by decide) ?_
          refine Y_astP dX5_passesOne_178 k (by omega) hR hW rfl (dz_rs (by omega)) (fun I178 hR hW hK178 => ?_)
          have hF := hF.trans hK178
          refine X_iinc dX5_passesOne_179 rfl ?_
          dsimp only [List.set]
          refine X_goto (tgt := 34) dX5_passesOne_182 (by decide) ?_
          refine X_drop 3 ?_
          refine X_drop 4 ?_
          dsimp only [List.set]
          exact ih (k + 1) (by omega) _ hF hR hW
    · refine X_iconst dX5_passesOne_101 ?_
      refine X_goto (tgt := 106) dX5_passesOne_102 (by decide) ?_
      refine X_isub dX5_passesOne_106 ?_
      refine Y_astB dX5_passesOne_107 hR hn24 (k) (5) (by omega) (by omega) (by omega) (fun I107 hR hK107 => ?_)
      have hF := hF.trans hK107.wf
      have hW := hK107.w5 hW
      have hR : RR I107 215 (fdF g (k + 1)) n := hR.same (fd_same (by omega))
      have hGk := hG.fd (k + 1) (by omega)
      have hW : W5 I107 (rs (fdF g (k + 1))) k := fun q hq => by rw [rs_fd (by omega)]; exact hW q hq
      have hw := wt_bounds (fdF g (k + 1)) k
      have hb3 := (hGk.b (k := k) (by omega)).2.2.2.1
      have hb4 := (hGk.b (k := k) (by omega)).2.2.2.2.1
      have hb5 := (hGk.b (k := k) (by omega)).2.2.2.2.2
      refine X_aload dX5_passesOne_108 rfl ?_
      refine X_iload dX5_passesOne_109 rfl ?_
      refine X_iload dX5_passesOne_110 rfl ?_
      refine Y_pV dX5_passesOne_111 cv_X5_40 sh_88 (by decide) (t5_wanted hR (by decide) hGk rfl k (by omega) rfl) rfl ?_
      refine X_aload dX5_passesOne_114 rfl ?_
      refine X_getR dX5_passesOne_115 rfl gf_X5_7 sh_88 (by decide) rfl rf_88_0 ?_
      refine X_iload dX5_passesOne_118 rfl ?_
      refine X_iconst dX5_passesOne_119 ?_
      refine X_iadd dX5_passesOne_120 ?_
      refine Y_aldB dX5_passesOne_121 hR (by omega) hn24 (k) (3) (by omega) (by omega) (by omega) ?_
      refine X_icmp_ne (tgt := 129) dX5_passesOne_122 (by decide) (by omega) (fun c_122 => ?_) (fun c_122 => ?_)
      · refine X_iconst dX5_passesOne_129 ?_
        refine X_istoreW dX5_passesOne_130 (by decide) ?_
        dsimp only [List.set]
        refine X_aload dX5_passesOne_132 rfl ?_
        refine X_getR dX5_passesOne_133 rfl gf_X5_22 sh_88 (by decide) rfl rf_88_7 ?_
        refine X_iload dX5_passesOne_136 rfl ?_
        refine X_aload dX5_passesOne_137 rfl ?_
        refine X_getR dX5_passesOne_138 rfl gf_X5_7 sh_88 (by decide) rfl rf_88_0 ?_
        refine X_iload dX5_passesOne_141 rfl ?_
        refine X_iconst dX5_passesOne_142 ?_
        refine X_iadd dX5_passesOne_143 ?_
        refine Y_aldB dX5_passesOne_144 hR (by omega) hn24 (k) (4) (by omega) (by omega) (by omega) ?_
        refine X_iconst dX5_passesOne_145 ?_
        refine X_icmp_ne (tgt := 153) dX5_passesOne_146 (by decide) (by omega) (fun c_146 => ?_) (fun c_146 => ?_)
        · refine X_aload dX5_passesOne_153 rfl ?_
          refine X_getR dX5_passesOne_154 rfl gf_X5_7 sh_88 (by decide) rfl rf_88_0 ?_
          refine X_iload dX5_passesOne_157 rfl ?_
          refine X_iconst dX5_passesOne_158 ?_
          refine X_iadd dX5_passesOne_159 ?_
          refine Y_aldB dX5_passesOne_160 hR (by omega) hn24 (k) (5) (by omega) (by omega) (by omega) ?_
          refine X_if_le (tgt := 168) dX5_passesOne_161 (by decide) (by omega) (fun c_161 => ?_) (fun c_161 => ?_)
          · refine X_iloadW dX5_passesOne_168 rfl ?_
            refine X_if_eq (tgt := 177) dX5_passesOne_170 (by decide) (by omega) (fun c_170 => ?_) (fun c_170 => ?_)
            · refine X_iconst dX5_passesOne_177 ?_
              refine Y_astP dX5_passesOne_178 k (by omega) hR hW rfl (dz_rs (by omega)) (fun I178 hR hW hK178 => ?_)
              have hF := hF.trans hK178
              refine X_iinc dX5_passesOne_179 rfl ?_
              dsimp only [List.set]
              refine X_goto (tgt := 34) dX5_passesOne_182 (by decide) ?_
              refine X_drop 3 ?_
              refine X_drop 4 ?_
              dsimp only [List.set]
              exact ih (k + 1) (by omega) _ hF hR hW
            · refine X_iconst dX5_passesOne_173 ?_
              refine X_goto (tgt := 178) dX5_passesOne_174 (by decide) ?_
              refine Y_astP dX5_passesOne_178 k (by omega) hR hW rfl (dz_rs (by omega)) (fun I178 hR hW hK178 => ?_)
              have hF := hF.trans hK178
              refine X_iinc dX5_passesOne_179 rfl ?_
              dsimp only [List.set]
              refine X_goto (tgt := 34) dX5_passesOne_182 (by decide) ?_
              refine X_drop 3 ?_
              refine X_drop 4 ?_
              dsimp only [List.set]
              exact ih (k + 1) (by omega) _ hF hR hW
          · refine X_iconst dX5_passesOne_164 ?_
            refine X_goto (tgt := 178) dX5_passesOne_165 (by decide) ?_
            refine Y_astP dX5_passesOne_178 k (by omega) hR hW rfl (dz_rs (by omega)) (fun I178 hR hW hK178 => ?_)
            have hF := hF.trans hK178
            refine X_iinc dX5_passesOne_179 rfl ?_
            dsimp only [List.set]
            refine X_goto (tgt := 34) dX5_passesOne_182 (by decide) ?_
            refine X_drop 3 ?_
            refine X_drop 4 ?_
            dsimp only [List.set]
            exact ih (k + 1) (by omega) _ hF hR hW
        · refine X_iconst dX5_passesOne_149 ?_
          refine X_goto (tgt := 178) dX5_passesOne_150 (by decide) ?_
          refine Y_astP dX5_passesOne_178 k (by omega) hR hW rfl (dz_rs (by omega)) (fun I178 hR hW hK178 => ?_)
          have hF := hF.trans hK178
          refine X_iinc dX5_passesOne_179 rfl ?_
          dsimp only [List.set]
          refine X_goto (tgt := 34) dX5_passesOne_182 (by decide) ?_
          refine X_drop 3 ?_
          refine X_drop 4 ?_
          dsimp only [List.set]
          exact ih (k + 1) (by omega) _ hF hR hW
      · refine X_iconst dX5_passesOne_125 ?_
        refine X_goto (tgt := 130) dX5_passesOne_126 (by decide) ?_
        refine X_istoreW dX5_passesOne_130 (by decide) ?_
        dsimp only [List.set]
        refine X_aload dX5_passesOne_132 rfl ?_
        refine X_getR dX5_passesOne_133 rfl gf_X5_22 sh_88 (by decide) rfl rf_88_7 ?_
        refine X_iload dX5_passesOne_136 rfl ?_
        refine X_aload dX5_passesOne_137 rfl ?_
        refine X_getR dX5_passesOne_138 rfl gf_X5_7 sh_88 (by decide) rfl rf_88_0 ?_
        refine X_iload dX5_passesOne_141 rfl ?_
        refine X_iconst dX5_passesOne_142 ?_
        refine X_iadd dX5_passesOne_143 ?_
        refine Y_aldB dX5_passesOne_144 hR (by omega) hn24 (k) (4) (by omega) (by omega) (by omega) ?_
        refine X_iconst dX5_passesOne_145 ?_
        refine X_icmp_ne (tgt := 153) dX5_passesOne_146 (by decide) (by omega) (fun c_146 => ?_) (fun c_146 => ?_)
        · refine X_aload dX5_passesOne_153 rfl ?_
          refine X_getR dX5_passesOne_154 rfl gf_X5_7 sh_88 (by decide) rfl rf_88_0 ?_
          refine X_iload dX5_passesOne_157 rfl ?_
          refine X_iconst dX5_passesOne_158 ?_
          refine X_iadd dX5_passesOne_159 ?_
          refine Y_aldB dX5_passesOne_160 hR (by omega) hn24 (k) (5) (by omega) (by omega) (by omega) ?_
          refine X_if_le (tgt := 168) dX5_passesOne_161 (by decide) (by omega) (fun c_161 => ?_) (fun c_161 => ?_)
          · refine X_iloadW dX5_passesOne_168 rfl ?_
            refine X_if_eq (tgt := 177) dX5_passesOne_170 (by decide) (by omega) (fun c_170 => ?_) (fun c_170 => ?_)
            · refine X_iconst dX5_passesOne_177 ?_
              refine Y_astP dX5_passesOne_178 k (by omega) hR hW rfl (dz_rs (by omega)) (fun I178 hR hW hK178 => ?_)
              have hF := hF.trans hK178
              refine X_iinc dX5_passesOne_179 rfl ?_
              dsimp only [List.set]
              refine X_goto (tgt := 34) dX5_passesOne_182 (by decide) ?_
              refine X_drop 3 ?_
              refine X_drop 4 ?_
              dsimp only [List.set]
              exact ih (k + 1) (by omega) _ hF hR hW
            · refine X_iconst dX5_passesOne_173 ?_
              refine X_goto (tgt := 178) dX5_passesOne_174 (by decide) ?_
              refine Y_astP dX5_passesOne_178 k (by omega) hR hW rfl (dz_rs (by omega)) (fun I178 hR hW hK178 => ?_)
              have hF := hF.trans hK178
              refine X_iinc dX5_passesOne_179 rfl ?_
              dsimp only [List.set]
              refine X_goto (tgt := 34) dX5_passesOne_182 (by decide) ?_
              refine X_drop 3 ?_
              refine X_drop 4 ?_
              dsimp only [List.set]
              exact ih (k + 1) (by omega) _ hF hR hW
          · refine X_iconst dX5_passesOne_164 ?_
            refine X_goto (tgt := 178) dX5_passesOne_165 (by decide) ?_
            refine Y_astP dX5_passesOne_178 k (by omega) hR hW rfl (dz_rs (by omega)) (fun I178 hR hW hK178 => ?_)
            have hF := hF.trans hK178
            refine X_iinc dX5_passesOne_179 rfl ?_
            dsimp only [List.set]
            refine X_goto (tgt := 34) dX5_passesOne_182 (by decide) ?_
            refine X_drop 3 ?_
            refine X_drop 4 ?_
            dsimp only [List.set]
            exact ih (k + 1) (by omega) _ hF hR hW
        · refine X_iconst dX5_passesOne_149 ?_
          refine X_goto (tgt := 178) dX5_passesOne_150 (by decide) ?_
          refine Y_astP dX5_passesOne_178 k (by omega) hR hW rfl (dz_rs (by omega)) (fun I178 hR hW hK178 => ?_)
          have hF := hF.trans hK178
          refine X_iinc dX5_passesOne_179 rfl ?_
          dsimp only [List.set]
          refine X_goto (tgt := 34) dX5_passesOne_182 (by decide) ?_
          refine X_drop 3 ?_
          refine X_drop 4 ?_
          dsimp only [List.set]
          exact ih (k + 1) (by omega) _ hF hR hW
set_option maxRecDepth 20000 in
set_option maxHeartbeats 4000000 in
theorem t5_passesOne {I : xI} {g : Nat → Int} {n : Nat} (hR : RR I 215 g n) (hG : GI g n) : S kX5_passesOne 5 [rr 88, ii 215] I (q_i (P5 I g n)) := by
  have hn24 := hG.n24
  refine Sp_intro (by decide +kernel) (Nat.le_of_ble_eq_true rfl) ?_
  show Y kX5_passesOne 5 0 [some (rr 88), some (ii 215), none, none, none] [] I _
  refine X_aload dX5_passesOne_0 rfl ?_
  refine X_getR dX5_passesOne_1 rfl gf_X5_7 sh_88 (by decide) rfl rf_88_0 ?_
  refine X_iload dX5_passesOne_4 rfl ?_
  refine X_bipush dX5_passesOne_5 (by decide) ?_
  refine X_iadd dX5_passesOne_7 ?_
  refine X_dup2 dX5_passesOne_8 ?_
  refine Y_ald dX5_passesOne_9 hR (by omega) hn24 (18) (by omega) (by omega) ?_
  refine X_aload dX5_passesOne_10 rfl ?_
  refine X_iload dX5_passesOne_11 rfl ?_
  refine X_iconst dX5_passesOne_12 ?_
  refine Y_pV dX5_passesOne_13 cv_X5_54 sh_88 (by decide) (t5_costs hR (by decide) hG rfl 0 (by decide) rfl) rfl ?_
  refine X_aload dX5_passesOne_16 rfl ?_
  refine X_iload dX5_passesOne_17 rfl ?_
  refine X_iconst dX5_passesOne_18 ?_
  refine Y_pV dX5_passesOne_19 cv_X5_54 sh_88 (by decide) (t5_costs hR (by decide) hG rfl 1 (by decide) rfl) rfl ?_
  refine X_iadd dX5_passesOne_22 ?_
  refine X_aload dX5_passesOne_23 rfl ?_
  refine X_iload dX5_passesOne_24 rfl ?_
  refine X_iconst dX5_passesOne_25 ?_
  refine Y_pV dX5_passesOne_26 cv_X5_54 sh_88 (by decide) (t5_costs hR (by decide) hG rfl 2 (by decide) rfl) rfl ?_
  refine X_iadd dX5_passesOne_29 ?_
  refine X_iadd dX5_passesOne_30 ?_
  refine Y_ast dX5_passesOne_31 hR hn24 (18) (by omega) (by omega) (fun I31 hR hK31 => ?_)
  refine X_iconst dX5_passesOne_32 ?_
  refine X_istore dX5_passesOne_33 (by decide) ?_
  dsimp only [List.set]
  have hR : RR I31 215 (fdF (gN g 18 (coF g n)) 0) n := hR
  have h9 := t5_passesOne_loop (I0 := I) (hG.acc (j := 18) (by decide) (coF g n)) n 0 (by omega) I31 hK31.wf hR (fun q hq => absurd hq (Nat.not_lt_zero q))
  refine X_weaken h9 (fun ro N1 I1 R1 e => ?_)
  obtain ⟨a1, a2, z, a3, a4, a5, a6, a7, a8, a9⟩ := e
  rw [show gN g 18 (coF g n) 3 = g 3 from rfl] at a4 a5 a6 a8 a9
  obtain ⟨b1, b2, b3⟩ := n1_end (g := g) hn24 _ rfl (a8.trans (by rw [gN_num, if_neg (by decide)])) (a9.trans (by rw [gN_num, if_neg (by decide)]))
  exact ⟨a1, a2, z, a3, a4.trans b2, by rw [← b1]; exact a5, fun k hk => (a6 k hk).trans (b3 k hk), a7⟩
def PS (I : xI) (g : Nat → Int) (n t : Nat) (z : Int) (I1 : xI) : Prop := z = nsM g n (g 3) t ∧ RR I1 215 (npG g n t) n ∧ WF I I1
set_option maxRecDepth 20000 in
set_option maxHeartbeats 4000000 in
theorem t5_passes_loop {I0 : xI} {g : Nat → Int} {n : Nat} (hG : GI g n) (t : Nat) (ht : t ≤ 100) : ∀ (m k : Nat), k + m = t → ∀ (I : xI), WF I0 I → RR I 215 (npG g n k) n → Y kX5_passes 6 5 [some (rr 88), some (ii 215), some (ii (t : Int)), some (ii (nsM g n (g 3) k)), some (ii (k : Int))] [] I (q_i (PS I0 g n t)) := by
  intro m
  induction m with
  | zero =>
    intro k hk I hF hR
    refine X_iloadW dX5_passes_5 rfl ?_
    refine X_iload dX5_passes_7 rfl ?_
    refine X_icmp_ge (tgt := 25) dX5_passes_8 (by decide) (by omega) (fun c_8 => ?_) (fun c_8 => absurd c_8 (by omega))
    refine X_iload dX5_passes_25 rfl ?_
    refine X_iret dX5_passes_26 (Or.inl rfl) ?_
    obtain rfl : k = t := by omega
    exact ⟨rfl, rfl, _, rfl, rfl, hR, hF⟩
  | succ m ih =>
    intro k hk I hF hR
    refine X_iloadW dX5_passes_5 rfl ?_
    refine X_iload dX5_passes_7 rfl ?_
    refine X_icmp_ge (tgt := 25) dX5_passes_8 (by decide) (by omega) (fun c_8 => absurd c_8 (by omega)) (fun c_8 => ?_)
    refine X_iload dX5_passes_11 rfl ?_
    refine X_aload dX5_passes_12 rfl ?_
    refine X_iload dX5_passes_13 rfl ?_
    refine Y_iV dX5_passes_14 cv_X5_61 sh_88 (by decide) (t5_passesOne hR (hG.np k)) rfl (fun z14 I14 h14 => ?_)
    obtain ⟨rfl, hR, -, hF1⟩ := h14
    have hF := hF.trans hF1
    rw [np_step] at hR
    refine X_iadd dX5_passes_17 ?_
    rw [nm_step]
    refine X_istore dX5_passes_18 (by decide) ?_
    dsimp only [List.set]
    refine X_iinc dX5_passes_19 rfl ?_
    dsimp only [List.set]
    refine X_goto (tgt := 5) dX5_passes_22 (by decide) ?_
    exact ih (k + 1) (by omega) _ hF hR
set_option maxRecDepth 20000 in
set_option maxHeartbeats 4000000 in
theorem t5_passes {I : xI} {g : Nat → Int} {n : Nat} (hR : RR I 215 g n) (hG : GI g n) (t : Nat) (ht : t ≤ 100) {it : Int} (hit : it = (t : Int)) : S kX5_passes 6 [rr 88, ii 215, ii it] I (q_i (PS I g n t)) := by
  subst hit
  refine Sp_intro (by decide +kernel) (Nat.le_of_ble_eq_true rfl) ?_
  show Y kX5_passes 6 0 [some (rr 88), some (ii 215), some (ii (t : Int)), none, none] [] I _
  refine X_iconst dX5_passes_0 ?_
  refine X_istore dX5_passes_1 (by decide) ?_
  dsimp only [List.set]
  refine X_iconst dX5_passes_2 ?_
  refine X_istoreW dX5_passes_3 (by decide) ?_
  dsimp only [List.set]
  exact t5_passes_loop hG t ht t 0 (by omega) I WF.rf (by rw [np_zero]; exact hR)
