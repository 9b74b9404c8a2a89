/-! the other program: the row beside; a block added, removed -/
def CP5 (I0 I : xI) (k : Nat) : Prop := (∀ j, j < k → I 89 (215 + j) = I0 89 j) ∧ K5 I0 I
theorem CP5.rr {I0 I : xI} {k : Nat} (h : CP5 I0 I k) {g : Nat → Int} {n : Nat} (hR : RR I0 0 g n) (hk : 23 + 8 * n ≤ k) : RR I 215 g n := fun j hj => by
  rw [h.1 j (by omega)]
  have := hR j hj
  rw [Nat.zero_add] at this
  exact this
def op5 (I : xI) (r : Int × xS) (z : Int) (I1 : xI) : Prop := z = r.1 ∧ WF I I1 ∧ (0 ≤ r.1 → RR I1 215 r.2.1 r.2.2)
theorem rr_full {I : xI} : RR I 215 (fun j => I 89 (215 + j)) 24 := fun _ _ => rfl
theorem RC.le {I : xI} {c p : Nat} {g g' : Nat → Int} {n n' : Nat} (h : RC I c p g n) (hn : n' ≤ n) (e : ∀ j, j < 23 + 8 * n' → g j = g' j) : RC I c p g' n' := fun j hj => (h j (by omega)).trans (e j hj)
set_option maxRecDepth 20000 in
set_option maxHeartbeats 4000000 in
theorem t5_copies_loop {I0 : xI} : ∀ (m k : Nat), k + m = 215 → ∀ (I : xI), CP5 I0 I k → Y kX5_copies 1 2 [some (rr 88), some (ii (k : Int))] [] I (q_v (fun I1 => CP5 I0 I1 215)) := by
  intro m
  induction m with
  | zero =>
    intro k hk I hC
    refine X_iload dX5_copies_2 rfl ?_
    refine X_sipush dX5_copies_3 (by decide) ?_
    refine X_icmp_ge (tgt := 31) dX5_copies_6 (by decide) (by omega) (fun c_6 => ?_) (fun c_6 => absurd c_6 (by omega))
    refine X_vret dX5_copies_31 rfl ?_
    obtain rfl : k = 215 := by omega
    exact ⟨rfl, rfl, rfl, hC⟩
  | succ m ih =>
    intro k hk I hC
    refine X_iload dX5_copies_2 rfl ?_
    refine X_sipush dX5_copies_3 (by decide) ?_
    refine X_icmp_ge (tgt := 31) dX5_copies_6 (by decide) (by omega) (fun c_6 => absurd c_6 (by omega)) (fun c_6 => ?_)
    refine X_aload dX5_copies_9 rfl ?_
    refine X_getR dX5_copies_10 rfl gf_X5_7 sh_88 (by decide) rfl rf_88_0 ?_
    refine X_sipush dX5_copies_13 (by decide) ?_
    refine X_iload dX5_copies_16 rfl ?_
    refine X_iadd dX5_copies_17 ?_
    refine X_aload dX5_copies_18 rfl ?_
    refine X_getR dX5_copies_19 rfl gf_X5_7 sh_88 (by decide) rfl rf_88_0 ?_
    refine X_iload dX5_copies_22 rfl ?_
    refine X_iald dX5_copies_23 sh_89 (Or.inl (by decide)) (by omega) ?_
    rw [Int.toNat_natCast]
    refine X_iast dX5_copies_24 sh_89 (by decide) (by omega) ?_
    have hC : CP5 I0 (x_up I 89 ((215 : Int) + (k : Int)).toNat (I 89 k)) (k + 1) := by
      have e : ((215 : Int) + (k : Int)).toNat = 215 + k := by omega
      rw [e]
      refine ⟨fun j hj => ?_, fun q hq => by rw [x_up_ne hq]; exact hC.2.1 q hq, fun j hj => by rw [x_up_offj (by omega)]; exact hC.2.2 j hj⟩
      rw [x_up_app]
      by_cases a : j = k
      · rw [if_pos ⟨rfl, by omega⟩, a]; exact hC.2.2 k (by omega)
      · rw [if_neg (by omega)]; exact hC.1 j (by omega)
    refine X_iinc dX5_copies_25 rfl ?_
    dsimp only [List.set]
    refine X_goto (tgt := 2) dX5_copies_28 (by decide) ?_
    exact ih (k + 1) (by omega) _ hC
set_option maxRecDepth 20000 in
set_option maxHeartbeats 4000000 in
theorem t5_copies (I : xI) : S kX5_copies 1 [rr 88] I (q_v (fun I1 => CP5 I I1 215)) := by
  refine Sp_intro (by decide +kernel) (Nat.le_of_ble_eq_true rfl) ?_
  show Y kX5_copies 1 0 [some (rr 88), none] [] I _
  refine X_iconst dX5_copies_0 ?_
  refine X_istore dX5_copies_1 (by decide) ?_
  dsimp only [List.set]
  exact t5_copies_loop 215 0 (by omega) I ⟨fun j hj => absurd hj (Nat.not_lt_zero j), fun _ _ => rfl, fun _ _ => rfl⟩
set_option maxRecDepth 20000 in
set_option maxHeartbeats 4000000 in
theorem t5_adds_sh {I : xI} {g : Nat → Int} {n : Nat} {Q : xQ} (hR : RR I 215 g n) (hG : GI g n) {z : Int} (hz : 1 ≤ z ∧ z ≤ 9) : ∀ (m k : Nat), k + m = 3 → (Y kX5_adds 3 25 [some (rr 88), some (ii z), some (ii (oi (frF g n z m k) 3)), none, none] [] I Q) → Y kX5_adds 3 2 [some (rr 88), some (ii z), some (ii (k : Int)), none, none] [] I Q := by
  intro m
  induction m with
  | zero =>
    intro k hk kk
    refine X_iload dX5_adds_2 rfl ?_
    refine X_iconst dX5_adds_3 ?_
    refine X_icmp_ge (tgt := 25) dX5_adds_4 (by decide) (by omega) (fun c_4 => ?_) (fun c_4 => ?_)
    · obtain rfl : k = 3 := by omega
      exact kk
    · exact absurd c_4 (by omega)
  | succ m ih =>
    intro k hk kk
    refine X_iload dX5_adds_2 rfl ?_
    refine X_iconst dX5_adds_3 ?_
    refine X_icmp_ge (tgt := 25) dX5_adds_4 (by decide) (by omega) (fun c_4 => absurd c_4 (by omega)) (fun c_4 => ?_)
    refine X_aload dX5_adds_7 rfl ?_
    refine X_sipush dX5_adds_8 (by decide) ?_
    refine X_iload dX5_adds_11 rfl ?_
    refine X_iload dX5_adds_12 rfl ?_
    refine Y_pV dX5_adds_13 cv_X5_43 sh_88 (by decide) (t5_hasRoom hR (by decide) hG rfl k (by omega) rfl z (by omega)) rfl ?_
    refine X_if_ne (tgt := 25) dX5_adds_16 (by decide) (by split <;> omega) (fun c_16 => ?_) (fun c_16 => ?_)
    · have r : rmB g n k z = true := by
        by_cases q : rmB g n k z = true
        · exact q
        · rw [if_neg q] at c_16; exact absurd rfl c_16
      unfold frF at kk
      rw [if_pos r] at kk
      exact kk
    · have r : ¬ rmB g n k z = true := fun q => by rw [if_pos q] at c_16; exact absurd c_16 (by decide)
      unfold frF at kk
      rw [if_neg r] at kk
      refine X_iinc dX5_adds_19 rfl ?_
      dsimp only [List.set]
      refine X_goto (tgt := 2) dX5_adds_22 (by decide) ?_
      exact ih (k + 1) (by omega) kk
def zF (F : Nat → Int) (n k : Nat) : Nat → Int := fun j => if 23 + 8 * n ≤ j ∧ j < 23 + 8 * n + k then 0 else F j
theorem zF_lo {F : Nat → Int} {n k j : Nat} (hj : j < 23 + 8 * n) : zF F n k j = F j := by unfold zF; rw [if_neg (by omega)]
theorem zF_st {F : Nat → Int} {n k : Nat} : gB (zF F n k) n k 0 = zF F n (k + 1) := by
  funext j
  unfold gB zF
  by_cases a : j = 23 + 8 * n + k
  · rw [if_pos a, if_pos (by omega)]
  · rw [if_neg a]
    by_cases b : 23 + 8 * n ≤ j ∧ j < 23 + 8 * n + k
    · rw [if_pos b, if_pos (by omega)]
    · rw [if_neg b, if_neg (by omega)]
set_option maxRecDepth 20000 in
set_option maxHeartbeats 4000000 in
theorem t5_adds_zero {I0 : xI} {F : Nat → Int} {n : Nat} {Q : xQ} {z sh N : Int} (hN : N = (n : Int)) (hn : n < 24) (kk : ∀ I1, RR I1 215 (zF F n 8) 24 → WF I0 I1 → Y kX5_adds 3 101 [some (rr 88), some (ii z), some (ii sh), some (ii (215 + 23 + 8 * N)), some (ii (((8 : Nat) : Int)))] [] I1 Q) : ∀ (m k : Nat), k + m = 8 → ∀ (I : xI), RR I 215 (zF F n k) 24 → WF I0 I → Y kX5_adds 3 78 [some (rr 88), some (ii z), some (ii sh), some (ii (215 + 23 + 8 * N)), some (ii ((k : Int)))] [] I Q := by
  intro m
  induction m with
  | zero =>
    intro k hk I hR hF
    refine X_iloadW dX5_adds_78 rfl ?_
    refine X_bipush dX5_adds_80 (by decide) ?_
    refine X_icmp_ge (tgt := 101) dX5_adds_82 (by decide) (by omega) (fun c_82 => ?_) (fun c_82 => ?_)
    · obtain rfl : k = 8 := by omega
      exact kk _ hR hF
    · exact absurd c_82 (by omega)
  | succ m ih =>
    intro k hk I hR hF
    refine X_iloadW dX5_adds_78 rfl ?_
    refine X_bipush dX5_adds_80 (by decide) ?_
    refine X_icmp_ge (tgt := 101) dX5_adds_82 (by decide) (by omega) (fun c_82 => absurd c_82 (by omega)) (fun c_82 => ?_)
    refine X_aload dX5_adds_85 rfl ?_
    refine X_getR dX5_adds_86 rfl gf_X5_7 sh_88 (by decide) rfl rf_88_0 ?_
    refine X_iload dX5_adds_89 rfl ?_
    refine X_iloadW dX5_adds_90 rfl ?_
    refine X_iadd dX5_adds_92 ?_
    refine X_iconst dX5_adds_93 ?_
    refine Y_astB dX5_adds_94 hR (by decide) (n) (k) (by omega) (by omega) (by omega) (fun I94 hR hK94 => ?_)
    have hF := hF.trans hK94.wf
    have hR : RR I94 215 (zF F n (k + 1)) 24 := by rw [← zF_st]; exact hR
    refine X_iinc dX5_adds_95 rfl ?_
    dsimp only [List.set]
    refine X_goto (tgt := 78) dX5_adds_98 (by decide) ?_
    exact ih (k + 1) (by omega) _ hR hF
theorem ad_fin {F g : Nat → Int} {n sh : Nat} {z : Int} (hF : ∀ j, j < 23 + 8 * n → F j = g j) : ∀ j, j < 23 + 8 * (n + 1) → gN (gN (gB (gB (gB (gB (zF F n 8) n 0 (g 16)) n 1 z) n 2 1000) n 3 (sh : Int)) 15 (g 15 + 1)) 16 (g 16 + 1) j = adG g n z sh j := by
  intro j hj
  unfold gB
  simp only [gN_num]
  unfold adG
  by_cases a : j < 23
  · rw [if_pos a]
    by_cases b : j = 16
    · rw [if_pos b, if_neg (by omega), if_pos b]
    · rw [if_neg b]
      by_cases c : j = 15
      · rw [if_pos c, if_pos c]
      · rw [if_neg c, if_neg c, if_neg b, if_neg (by omega), if_neg (by omega), if_neg (by omega), if_neg (by omega), zF_lo (by omega), hF j (by omega)]
  · rw [if_neg a, if_neg (by omega), if_neg (by omega)]
    by_cases b : j < 23 + 8 * n
    · rw [if_pos b, if_neg (by omega), if_neg (by omega), if_neg (by omega), if_neg (by omega), zF_lo b, hF j b]
    · rw [if_neg b]
      rcases (by omega : j = 23 + 8 * n ∨ j = 24 + 8 * n ∨ j = 25 + 8 * n ∨ j = 26 + 8 * n ∨ 26 + 8 * n < j) with q | q | q | q | q
      · rw [if_neg (by omega), if_neg (by omega), if_neg (by omega), if_pos (by omega), if_pos q]
      · rw [if_neg (by omega), if_neg (by omega), if_pos (by omega), if_neg (by omega), if_pos q]
      · rw [if_neg (by omega), if_pos (by omega), if_neg (by omega), if_neg (by omega), if_pos q]
      · rw [if_pos (by omega), if_neg (by omega), if_neg (by omega), if_neg (by omega), if_pos q]
      · rw [if_neg (by omega), if_neg (by omega), if_neg (by omega), if_neg (by omega), if_neg (by omega), if_neg (by omega), if_neg (by omega), if_neg (by omega)]
        unfold zF
        rw [if_pos (by omega)]
set_option maxRecDepth 20000 in
set_option maxHeartbeats 4000000 in
theorem t5_adds {I : xI} {g : Nat → Int} {n : Nat} (hR : RR I 215 g n) (hG : GI g n) {z : Int} (hz : 1 ≤ z ∧ z ≤ 9) : S kX5_adds 3 [rr 88, ii z] I (q_i (op5 I (oAdd (g, n) z))) := by
  have hn24 := hG.n24
  have h15 := hG.g15
  have h16 := hG.s16
  refine Sp_intro (by decide +kernel) (Nat.le_of_ble_eq_true rfl) ?_
  show Y kX5_adds 3 0 [some (rr 88), some (ii z), none, none, none] [] I _
  refine X_iconst dX5_adds_0 ?_
  refine X_istore dX5_adds_1 (by decide) ?_
  dsimp only [List.set]
  refine t5_adds_sh hR hG hz 3 0 (by omega) ?_
  rw [← fr_eq]
  cases hf : fr g n z with
  | none =>
    show Y kX5_adds 3 25 [some (rr 88), some (ii z), some (ii 3), none, none] [] I _
    refine X_aload dX5_adds_25 rfl ?_
    refine X_getR dX5_adds_26 rfl gf_X5_7 sh_88 (by decide) rfl rf_88_0 ?_
    refine X_sipush dX5_adds_29 (by decide) ?_
    refine Y_ald dX5_adds_32 hR (by omega) hn24 (15) (by omega) (by omega) ?_
    refine X_bipush dX5_adds_33 (by decide) ?_
    refine X_icmp_eq (tgt := 57) dX5_adds_35 (by decide) (by omega) (fun c_35 => ?_) (fun c_35 => ?_)
    · refine X_bipush dX5_adds_57 (by decide) ?_
      refine X_iret dX5_adds_59 (Or.inl rfl) ?_
      refine ⟨rfl, rfl, _, rfl, ?_, WF.rf, fun q => absurd q ?_⟩
      · show _ = adZ g n z
        unfold adZ
        rw [if_neg (by omega), hf]
      · show ¬ (0 : Int) ≤ adZ g n z
        unfold adZ
        rw [if_neg (by omega), hf]
        exact (show ¬ (0 : Int) ≤ -3 by decide)
    · refine X_iload dX5_adds_38 rfl ?_
      refine X_iconst dX5_adds_39 ?_
      refine X_icmp_eq (tgt := 57) dX5_adds_40 (by decide) (by omega) (fun c_40 => ?_) (fun c_40 => absurd c_40 (by omega))
      refine X_bipush dX5_adds_57 (by decide) ?_
      refine X_iret dX5_adds_59 (Or.inl rfl) ?_
      refine ⟨rfl, rfl, _, rfl, ?_, WF.rf, fun q => absurd q ?_⟩
      · show _ = adZ g n z
        unfold adZ
        rw [if_neg (by omega), hf]
      · show ¬ (0 : Int) ≤ adZ g n z
        unfold adZ
        rw [if_neg (by omega), hf]
        exact (show ¬ (0 : Int) ≤ -3 by decide)
  | some sh =>
    have hs := fr_lt hf
    show Y kX5_adds 3 25 [some (rr 88), some (ii z), some (ii (sh : Int)), none, none] [] I _
    have kz : n < 24 → ¬ 999 < g 16 → ∀ I1, RR I1 215 (zF (fun j => I 89 (215 + j)) n 8) 24 → WF I I1 → Y kX5_adds 3 101 [some (rr 88), some (ii z), some (ii (sh : Int)), some (ii (215 + 23 + 8 * g 15)), some (ii ((8 : Nat) : Int))] [] I1 (q_i (op5 I (oAdd (g, n) z))) := by
      intro hlt h999 I1 hR1 hF
      have hFg : ∀ j, j < 23 + 8 * n → (fun j => I 89 (215 + j)) j = g j := hR
      have z16 : zF (fun j => I 89 (215 + j)) n 8 16 = g 16 := (zF_lo (by omega)).trans (hFg 16 (by omega))
      have z15 : zF (fun j => I 89 (215 + j)) n 8 15 = g 15 := (zF_lo (by omega)).trans (hFg 15 (by omega))
      generalize (fun j => I 89 (215 + j)) = F at hR1 hFg z16 z15
      clear hR
      have hR := hR1
      refine X_aload dX5_adds_101 rfl ?_
      refine X_getR dX5_adds_102 rfl gf_X5_7 sh_88 (by decide) rfl rf_88_0 ?_
      refine X_iload dX5_adds_105 rfl ?_
      refine X_aload dX5_adds_106 rfl ?_
      refine X_getR dX5_adds_107 rfl gf_X5_7 sh_88 (by decide) rfl rf_88_0 ?_
      refine X_sipush dX5_adds_110 (by decide) ?_
      refine Y_ald dX5_adds_113 hR (by omega) (by decide) (16) (by omega) (by omega) ?_
      rw [z16]
      refine Y_astB dX5_adds_114 hR (by decide) (n) (0) (by omega) (by omega) (by omega) (fun I114 hR hK114 => ?_)
      have hF := hF.trans hK114.wf
      refine X_aload dX5_adds_115 rfl ?_
      refine X_getR dX5_adds_116 rfl gf_X5_7 sh_88 (by decide) rfl rf_88_0 ?_
      refine X_iload dX5_adds_119 rfl ?_
      refine X_iconst dX5_adds_120 ?_
      refine X_iadd dX5_adds_121 ?_
      refine X_iload dX5_adds_122 rfl ?_
      refine Y_astB dX5_adds_123 hR (by decide) (n) (1) (by omega) (by omega) (by omega) (fun I123 hR hK123 => ?_)
      have hF := hF.trans hK123.wf
      refine X_aload dX5_adds_124 rfl ?_
      refine X_getR dX5_adds_125 rfl gf_X5_7 sh_88 (by decide) rfl rf_88_0 ?_
      refine X_iload dX5_adds_128 rfl ?_
      refine X_iconst dX5_adds_129 ?_
      refine X_iadd dX5_adds_130 ?_
      refine X_sipush dX5_adds_131 (by decide) ?_
      refine Y_astB dX5_adds_134 hR (by decide) (n) (2) (by omega) (by omega) (by omega) (fun I134 hR hK134 => ?_)
      have hF := hF.trans hK134.wf
      refine X_aload dX5_adds_135 rfl ?_
      refine X_getR dX5_adds_136 rfl gf_X5_7 sh_88 (by decide) rfl rf_88_0 ?_
      refine X_iload dX5_adds_139 rfl ?_
      refine X_iconst dX5_adds_140 ?_
      refine X_iadd dX5_adds_141 ?_
      refine X_iload dX5_adds_142 rfl ?_
      refine Y_astB dX5_adds_143 hR (by decide) (n) (3) (by omega) (by omega) (by omega) (fun I143 hR hK143 => ?_)
      have hF := hF.trans hK143.wf
      refine X_aload dX5_adds_144 rfl ?_
      refine X_getR dX5_adds_145 rfl gf_X5_7 sh_88 (by decide) rfl rf_88_0 ?_
      refine X_sipush dX5_adds_148 (by decide) ?_
      refine X_dup2 dX5_adds_151 ?_
      refine Y_ald dX5_adds_152 hR (by omega) (by decide) (15) (by omega) (by omega) ?_
      rw [gB_num (by decide), gB_num (by decide), gB_num (by decide), gB_num (by decide), z15]
      refine X_iconst dX5_adds_153 ?_
      refine X_iadd dX5_adds_154 ?_
      refine Y_ast dX5_adds_155 hR (by decide) (15) (by omega) (by omega) (fun I155 hR hK155 => ?_)
      have hF := hF.trans hK155.wf
      refine X_aload dX5_adds_156 rfl ?_
      refine X_getR dX5_adds_157 rfl gf_X5_7 sh_88 (by decide) rfl rf_88_0 ?_
      refine X_sipush dX5_adds_160 (by decide) ?_
      refine X_dup2 dX5_adds_163 ?_
      refine Y_ald dX5_adds_164 hR (by omega) (by decide) (16) (by omega) (by omega) ?_
      rw [gN_num, if_neg (by decide), gB_num (by decide), gB_num (by decide), gB_num (by decide), gB_num (by decide), z16]
      refine X_iconst dX5_adds_165 ?_
      refine X_iadd dX5_adds_166 ?_
      refine Y_ast dX5_adds_167 hR (by decide) (16) (by omega) (by omega) (fun I167 hR hK167 => ?_)
      have hF := hF.trans hK167.wf
      refine X_aload dX5_adds_168 rfl ?_
      refine X_getR dX5_adds_169 rfl gf_X5_7 sh_88 (by decide) rfl rf_88_0 ?_
      refine X_iload dX5_adds_172 rfl ?_
      refine Y_aldB dX5_adds_173 hR (by omega) (by decide) (n) (0) (by omega) (by omega) (by omega) ?_
      rw [gN_gb (by decide), gN_gb (by decide), gB_ne (by decide) (by decide) (by decide), gB_ne (by decide) (by decide) (by decide), gB_ne (by decide) (by decide) (by decide), gB_eq (by decide)]
      refine X_iret dX5_adds_174 (Or.inl rfl) ?_
      have ez : (oAdd (g, n) z).1 = g 16 := by
        show adZ g n z = g 16
        unfold adZ
        rw [if_neg (by omega), hf]
        show (if _ then _ else _ : Int) = _
        rw [if_neg (by omega)]
      have e2 : (oAdd (g, n) z).2 = (adG g n z sh, n + 1) := by
        show (match fr g n z with | none => (g, n) | some sh => (adG g n z sh, n + 1)) = _
        rw [hf]
      refine ⟨rfl, rfl, _, rfl, ez.symm, hF, fun _ => ?_⟩
      rw [e2]
      exact hR.le (by dsimp only; omega) (ad_fin hFg)
    refine X_aload dX5_adds_25 rfl ?_
    refine X_getR dX5_adds_26 rfl gf_X5_7 sh_88 (by decide) rfl rf_88_0 ?_
    refine X_sipush dX5_adds_29 (by decide) ?_
    refine Y_ald dX5_adds_32 hR (by omega) hn24 (15) (by omega) (by omega) ?_
    refine X_bipush dX5_adds_33 (by decide) ?_
    refine X_icmp_eq (tgt := 57) dX5_adds_35 (by decide) (by omega) (fun c_35 => ?_) (fun c_35 => ?_)
    · refine X_bipush dX5_adds_57 (by decide) ?_
      refine X_iret dX5_adds_59 (Or.inl rfl) ?_
      refine ⟨rfl, rfl, _, rfl, ?_, WF.rf, fun q => absurd q ?_⟩
      · show _ = adZ g n z
        unfold adZ
        rw [if_neg (by omega), hf]
        show _ = if _ then _ else _
        rw [if_pos (by omega)]
      · show ¬ (0 : Int) ≤ adZ g n z
        unfold adZ
        rw [if_neg (by omega), hf]
        show ¬ (0 : Int) ≤ if _ then _ else _
        rw [if_pos (by omega)]
        exact (show ¬ (0 : Int) ≤ -3 by decide)
    · refine X_iload dX5_adds_38 rfl ?_
      refine X_iconst dX5_adds_39 ?_
      refine X_icmp_eq (tgt := 57) dX5_adds_40 (by decide) (by omega) (fun c_40 => absurd c_40 (by omega)) (fun c_40 => ?_)
      refine X_aload dX5_adds_43 rfl ?_
      refine X_getR dX5_adds_44 rfl gf_X5_7 sh_88 (by decide) rfl rf_88_0 ?_
      refine X_sipush dX5_adds_47 (by decide) ?_
      refine Y_ald dX5_adds_50 hR (by omega) hn24 (16) (by omega) (by omega) ?_
      refine X_sipush dX5_adds_51 (by decide) ?_
      refine X_icmp_le (tgt := 60) dX5_adds_54 (by decide) (by omega) (fun c_54 => ?_) (fun c_54 => ?_)
      · refine X_sipush dX5_adds_60 (by decide) ?_
        refine X_aload dX5_adds_63 rfl ?_
        refine X_getR dX5_adds_64 rfl gf_X5_7 sh_88 (by decide) rfl rf_88_0 ?_
        refine X_sipush dX5_adds_67 (by decide) ?_
        refine Y_ald dX5_adds_70 hR (by omega) hn24 (15) (by omega) (by omega) ?_
        refine Y_pS dX5_adds_71 cs_X5_32 (t5_at _ _ _) rfl ?_
        refine X_istore dX5_adds_74 (by decide) ?_
        dsimp only [List.set]
        refine X_iconst dX5_adds_75 ?_
        refine X_istoreW dX5_adds_76 (by decide) ?_
        dsimp only [List.set]
        exact t5_adds_zero (I0 := I) (F := fun j => I 89 (215 + j)) h15 (by omega) (kz (by omega) (by omega)) 8 0 (by omega) I (fun j hj => by unfold zF; rw [if_neg (by omega)]) WF.rf
      · refine X_bipush dX5_adds_57 (by decide) ?_
        refine X_iret dX5_adds_59 (Or.inl rfl) ?_
        refine ⟨rfl, rfl, _, rfl, ?_, WF.rf, fun q => absurd q ?_⟩
        · show _ = adZ g n z
          unfold adZ
          rw [if_neg (by omega), hf]
          show _ = if _ then _ else _
          rw [if_pos (by omega)]
        · show ¬ (0 : Int) ≤ adZ g n z
          unfold adZ
          rw [if_neg (by omega), hf]
          show ¬ (0 : Int) ≤ if _ then _ else _
          rw [if_pos (by omega)]
          exact (show ¬ (0 : Int) ≤ -3 by decide)
