/-! the other program: what is remembered -/
def CY (I0 I : xI) (c p o q k : Nat) : Prop := (∀ j, j < k → I c (p + j) = I0 o (q + j)) ∧ (∀ j, (j < p ∨ p + k ≤ j) → I c j = I0 c j) ∧ ∀ r, r ≠ c → I r = I0 r
theorem CY.zero (I : xI) (c p o q : Nat) : CY I I c p o q 0 := ⟨fun j hj => absurd hj (Nat.not_lt_zero j), fun _ _ => rfl, fun _ _ => rfl⟩
theorem CY.step {I0 I : xI} {c p o q k : Nat} (h : CY I0 I c p o q k) (hv : I o (q + k) = I0 o (q + k)) : CY I0 (x_up I c (p + k) (I o (q + k))) c p o q (k + 1) := by
  refine ⟨fun j hj => ?_, fun j hj => by rw [x_up_offj (by omega)]; exact h.2.1 j (by omega), fun r hr => by rw [x_up_ne hr]; exact h.2.2 r hr⟩
  rw [x_up_app]
  by_cases a : j = k
  · rw [if_pos ⟨rfl, by omega⟩, a]; exact hv
  · rw [if_neg (by omega)]; exact h.1 j (by omega)
def HM (I : xI) (hs : List xS) : Prop := I 88 2 = (hs.length : Int) ∧ ∀ (j : Nat) (q : xS), hs[j]? = some q → RC I 90 (215 * j) q.1 q.2
def RF5 (I I1 : xI) : Prop := (∀ q, q ≠ 90 → q ≠ 88 → I1 q = I q) ∧ ∀ j, j ≠ 2 → I1 88 j = I 88 j
theorem HM.push {I I1 : xI} {h : List xS} {s : xS} {K : Nat} (hH : HM I h) (hl : h.length = K) (hK : K < 4) (h24 : ∀ q ∈ h, q.2 ≤ 24) (hs : s.2 ≤ 24) (hR : RR I 0 s.1 s.2) (hC : CY I I1 90 (215 * K) 89 0 215) : HM (x_up I1 88 2 ((K : Int) + 1)) (h ++ [s]) ∧ RF5 I (x_up I1 88 2 ((K : Int) + 1)) := by
  refine ⟨⟨?_, fun j q e i hi => ?_⟩, fun r h1 h2 => by rw [x_up_ne h2]; exact hC.2.2 r h1, fun j hj => by rw [x_up_offj hj, hC.2.2 88 (by decide)]⟩
  · rw [x_up_same, List.length_append, hl]; rfl
  · rw [x_up_ne (by decide)]
    by_cases a : j < h.length
    · rw [List.getElem?_append_left a] at e
      have := h24 q (List.mem_of_getElem? e)
      rw [hC.2.1 _ (by omega)]
      exact hH.2 j q e i hi
    · rw [List.getElem?_append_right (by omega)] at e
      by_cases b : j - h.length = 0
      · rw [b] at e
        cases e
        have e1 : j = K := by omega
        subst e1
        rw [hC.1 i (by omega)]
        exact hR i hi
      · obtain ⟨m, hm⟩ : ∃ m, j - h.length = m + 1 := ⟨j - h.length - 1, by omega⟩
        rw [hm] at e
        cases e
set_option maxRecDepth 20000 in
set_option maxHeartbeats 4000000 in
theorem t5_rem_copy {I0 : xI} {K : Nat} (hK : I0 88 2 = (K : Int)) (hK4 : K < 4) : ∀ (m k : Nat), k + m = 215 → ∀ (I : xI), CY I0 I 90 (215 * K) 89 0 k → Y kX5_remembers 1 51 [some (rr 88), some (ii (k : Int))] [] I (q_v (fun I2 => ∃ I1, CY I0 I1 90 (215 * K) 89 0 215 ∧ I2 = x_up I1 88 2 ((K : Int) + 1))) := by
  intro m
  induction m with
  | zero =>
    intro k hk I hC
    refine X_iload dX5_remembers_51 rfl ?_
    refine X_sipush dX5_remembers_52 (by decide) ?_
    refine X_icmp_ge (tgt := 85) dX5_remembers_55 (by decide) (by omega) (fun c_55 => ?_) (fun c_55 => absurd c_55 (by omega))
    refine X_aload dX5_remembers_85 rfl ?_
    refine X_dup dX5_remembers_86 ?_
    obtain rfl : k = 215 := by omega
    refine X_getI dX5_remembers_87 rfl gf_X5_25 sh_88 (by decide) rfl ?_
    rw [show I 88 2 = (K : Int) by rw [hC.2.2 88 (by decide)]; exact hK]
    refine X_iconst dX5_remembers_90 ?_
    refine X_iadd dX5_remembers_91 ?_
    refine X_putI dX5_remembers_92 rfl pf_X5_25 sh_88 (by decide) rfl (Or.inl rfl) ?_
    refine X_vret dX5_remembers_95 rfl ?_
    exact ⟨rfl, rfl, rfl, I, hC, rfl⟩
  | succ m ih =>
    intro k hk I hC
    refine X_iload dX5_remembers_51 rfl ?_
    refine X_sipush dX5_remembers_52 (by decide) ?_
    refine X_icmp_ge (tgt := 85) dX5_remembers_55 (by decide) (by omega) (fun c_55 => absurd c_55 (by omega)) (fun c_55 => ?_)
    refine X_aload dX5_remembers_58 rfl ?_
    refine X_getR dX5_remembers_59 rfl gf_X5_13 sh_88 (by decide) rfl rf_88_1 ?_
    refine X_sipush dX5_remembers_62 (by decide) ?_
    refine X_aload dX5_remembers_65 rfl ?_
    refine X_getI dX5_remembers_66 rfl gf_X5_25 sh_88 (by decide) rfl ?_
    rw [show I 88 2 = (K : Int) by rw [hC.2.2 88 (by decide)]; exact hK]
    refine X_imul dX5_remembers_69 ?_
    refine X_iload dX5_remembers_70 rfl ?_
    refine X_iadd dX5_remembers_71 ?_
    refine X_aload dX5_remembers_72 rfl ?_
    refine X_getR dX5_remembers_73 rfl gf_X5_7 sh_88 (by decide) rfl rf_88_0 ?_
    refine X_iload dX5_remembers_76 rfl ?_
    refine X_iald dX5_remembers_77 sh_89 (Or.inl (by decide)) (by omega) ?_
    rw [Int.toNat_natCast]
    refine X_iast dX5_remembers_78 sh_90 (by decide) (by omega) ?_
    have hC : CY I0 (x_up I 90 ((215 : Int) * (K : Int) + (k : Int)).toNat (I 89 k)) 90 (215 * K) 89 0 (k + 1) := by
      have e := hC.step (by rw [hC.2.2 89 (by decide)])
      rw [Nat.zero_add] at e
      rw [show ((215 : Int) * (K : Int) + (k : Int)).toNat = 215 * K + k by omega]
      exact e
    refine X_iinc dX5_remembers_79 rfl ?_
    dsimp only [List.set]
    refine X_goto (tgt := 51) dX5_remembers_82 (by decide) ?_
    exact ih (k + 1) (by omega) _ hC
set_option maxRecDepth 20000 in
set_option maxHeartbeats 4000000 in
theorem t5_rem_shift {I0 : xI} {Q : xQ} (kk : ∀ I1, CY I0 I1 90 0 90 215 645 → Y kX5_remembers 1 39 [some (rr 88), some (ii ((645 : Nat) : Int))] [] I1 Q) : ∀ (m k : Nat), k + m = 645 → ∀ (I : xI), CY I0 I 90 0 90 215 k → Y kX5_remembers 1 10 [some (rr 88), some (ii (k : Int))] [] I Q := by
  intro m
  induction m with
  | zero =>
    intro k hk I hC
    refine X_iload dX5_remembers_10 rfl ?_
    refine X_sipush dX5_remembers_11 (by decide) ?_
    refine X_icmp_ge (tgt := 39) dX5_remembers_14 (by decide) (by omega) (fun c_14 => ?_) (fun c_14 => ?_)
    · obtain rfl : k = 645 := by omega
      exact kk _ hC
    · exact absurd c_14 (by omega)
  | succ m ih =>
    intro k hk I hC
    refine X_iload dX5_remembers_10 rfl ?_
    refine X_sipush dX5_remembers_11 (by decide) ?_
    refine X_icmp_ge (tgt := 39) dX5_remembers_14 (by decide) (by omega) (fun c_14 => absurd c_14 (by omega)) (fun c_14 => ?_)
    refine X_aload dX5_remembers_17 rfl ?_
    refine X_getR dX5_remembers_18 rfl gf_X5_13 sh_88 (by decide) rfl rf_88_1 ?_
    refine X_iload dX5_remembers_21 rfl ?_
    refine X_aload dX5_remembers_22 rfl ?_
    refine X_getR dX5_remembers_23 rfl gf_X5_13 sh_88 (by decide) rfl rf_88_1 ?_
    refine X_sipush dX5_remembers_26 (by decide) ?_
    refine X_iload dX5_remembers_29 rfl ?_
    refine X_iadd dX5_remembers_30 ?_
    refine X_iald dX5_remembers_31 sh_90 (Or.inl (by decide)) (by omega) ?_
    rw [show ((215 : Int) + (k : Int)).toNat = 215 + k by omega]
    refine X_iast dX5_remembers_32 sh_90 (by decide) (by omega) ?_
    have hC : CY I0 (x_up I 90 ((k : Nat) : Int).toNat (I 90 (215 + k))) 90 0 90 215 (k + 1) := by
      have e := hC.step (hC.2.1 _ (by omega))
      rw [Nat.zero_add] at e
      rw [Int.toNat_natCast]
      exact e
    refine X_iinc dX5_remembers_33 rfl ?_
    dsimp only [List.set]
    refine X_goto (tgt := 10) dX5_remembers_36 (by decide) ?_
    exact ih (k + 1) (by omega) _ hC
theorem HM.shift {I I1 : xI} {hs : List xS} (hH : HM I hs) (hl : hs.length = 4) (h24 : ∀ q ∈ hs, q.2 ≤ 24) (hC : CY I I1 90 0 90 215 645) : HM (x_up I1 88 2 3) hs.tail := by
  refine ⟨by rw [x_up_same, List.length_tail, hl]; rfl, fun j q e i hi => ?_⟩
  rw [x_up_ne (by decide)]
  rw [List.getElem?_tail] at e
  have h1 := h24 q (List.mem_of_getElem? e)
  have h2 : j + 1 < hs.length := (List.getElem?_eq_some_iff.mp e).1
  have h3 := hC.1 (215 * j + i) (by omega)
  rw [Nat.zero_add] at h3
  rw [h3, show 215 + (215 * j + i) = 215 * (j + 1) + i by omega]
  exact hH.2 (j + 1) q e i hi
set_option maxRecDepth 20000 in
set_option maxHeartbeats 4000000 in
theorem t5_remembers {I : xI} {s : xS} {hs : List xS} (hR : RR I 0 s.1 s.2) (hs24 : s.2 ≤ 24) (hH : HM I hs) (hl : hs.length ≤ 4) (h24 : ∀ q ∈ hs, q.2 ≤ 24) : S kX5_remembers 1 [rr 88] I (q_v (fun I1 => HM I1 (pushH hs s) ∧ RF5 I I1)) := by
  refine Sp_intro (by decide +kernel) (Nat.le_of_ble_eq_true rfl) ?_
  show Y kX5_remembers 1 0 [some (rr 88), none] [] I _
  by_cases c4 : hs.length = 4
  · refine X_aload dX5_remembers_0 rfl ?_
    refine X_getI dX5_remembers_1 rfl gf_X5_25 sh_88 (by decide) rfl ?_
    rw [hH.1]
    refine X_iconst dX5_remembers_4 ?_
    refine X_icmp_ne (tgt := 49) dX5_remembers_5 (by decide) (by omega) (fun c_5 => absurd c_5 (by omega)) (fun c_5 => ?_)
    refine X_iconst dX5_remembers_8 ?_
    refine X_istore dX5_remembers_9 (by decide) ?_
    dsimp only [List.set]
    refine t5_rem_shift (I0 := I) (fun I3 hC3 => ?_) 645 0 (by omega) I (CY.zero I _ _ _ _)
    have e88 : I3 88 = I 88 := hC3.2.2 88 (by decide)
    have e89 : I3 89 = I 89 := hC3.2.2 89 (by decide)
    refine X_aload dX5_remembers_39 rfl ?_
    refine X_dup dX5_remembers_40 ?_
    refine X_getI dX5_remembers_41 rfl gf_X5_25 sh_88 (by decide) rfl ?_
    rw [e88, hH.1, c4]
    refine X_iconst dX5_remembers_44 ?_
    refine X_isub dX5_remembers_45 ?_
    refine X_putI dX5_remembers_46 rfl pf_X5_25 sh_88 (by decide) rfl (Or.inl rfl) ?_
    have hH4 := hH.shift c4 h24 hC3
    rw [show (((4 : Nat) : Int) - 1) = 3 from rfl]
    refine X_iconst dX5_remembers_49 ?_
    refine X_istore dX5_remembers_50 (by decide) ?_
    dsimp only [List.set]
    have h9 := t5_rem_copy (I0 := x_up I3 88 2 3) (K := 3) rfl (by decide) 215 0 (by omega) _ (CY.zero _ _ _ _ _)
    refine X_weaken h9 (fun ro N1 I2 R1 e => ?_)
    obtain ⟨a1, a2, a3, I1, a4, rfl⟩ := e
    obtain ⟨b1, b2⟩ := hH4.push (K := 3) (s := s) (by rw [List.length_tail, c4]) (by decide) (fun q hq => h24 q (List.mem_of_mem_tail hq)) hs24 (fun j hj => by rw [x_up_ne (by decide), e89]; exact hR j hj) a4
    exact ⟨a1, a2, a3, by unfold pushH; rw [if_pos c4]; exact b1, fun r h1 h2 => by rw [b2.1 r h1 h2, x_up_ne h2]; exact hC3.2.2 r h1, fun j hj => by rw [b2.2 j hj, x_up_offj hj, e88]⟩
  · refine X_aload dX5_remembers_0 rfl ?_
    refine X_getI dX5_remembers_1 rfl gf_X5_25 sh_88 (by decide) rfl ?_
    rw [hH.1]
    refine X_iconst dX5_remembers_4 ?_
    refine X_icmp_ne (tgt := 49) dX5_remembers_5 (by decide) (by omega) (fun c_5 => ?_) (fun c_5 => absurd c_5 (by omega))
    refine X_iconst dX5_remembers_49 ?_
    refine X_istore dX5_remembers_50 (by decide) ?_
    dsimp only [List.set]
    have h9 := t5_rem_copy (I0 := I) (K := hs.length) hH.1 (by omega) 215 0 (by omega) I (CY.zero I _ _ _ _)
    refine X_weaken h9 (fun ro N1 I2 R1 e => ?_)
    obtain ⟨a1, a2, a3, I1, a4, rfl⟩ := e
    obtain ⟨b1, b2⟩ := hH.push rfl (by omega) h24 hs24 hR a4
    exact ⟨a1, a2, a3, by unfold pushH; rw [if_neg c4]; exact b1, b2⟩
set_option maxRecDepth 20000 in
set_option maxHeartbeats 4000000 in
theorem t5_lays_loop {I0 : xI} : ∀ (m k : Nat), k + m = 215 → ∀ (I : xI), CY I0 I 89 0 89 215 k → Y kX5_lays 2 6 [some (rr 88), some (ii (k : Int))] [] I (q_v (fun I1 => CY I0 I1 89 0 89 215 215)) := by
  intro m
  induction m with
  | zero =>
    intro k hk I hC
    refine X_iload dX5_lays_6 rfl ?_
    refine X_sipush dX5_lays_7 (by decide) ?_
    refine X_icmp_ge (tgt := 35) dX5_lays_10 (by decide) (by omega) (fun c_10 => ?_) (fun c_10 => absurd c_10 (by omega))
    refine X_vret dX5_lays_35 rfl ?_
    obtain rfl : k = 215 := by omega
    exact ⟨rfl, rfl, rfl, hC⟩
  | succ m ih =>
    intro k hk I hC
    refine X_iload dX5_lays_6 rfl ?_
    refine X_sipush dX5_lays_7 (by decide) ?_
    refine X_icmp_ge (tgt := 35) dX5_lays_10 (by decide) (by omega) (fun c_10 => absurd c_10 (by omega)) (fun c_10 => ?_)
    refine X_aload dX5_lays_13 rfl ?_
    refine X_getR dX5_lays_14 rfl gf_X5_7 sh_88 (by decide) rfl rf_88_0 ?_
    refine X_iload dX5_lays_17 rfl ?_
    refine X_aload dX5_lays_18 rfl ?_
    refine X_getR dX5_lays_19 rfl gf_X5_7 sh_88 (by decide) rfl rf_88_0 ?_
    refine X_sipush dX5_lays_22 (by decide) ?_
    refine X_iload dX5_lays_25 rfl ?_
    refine X_iadd dX5_lays_26 ?_
    refine X_iald dX5_lays_27 sh_89 (Or.inl (by decide)) (by omega) ?_
    rw [show ((215 : Int) + (k : Int)).toNat = 215 + k by omega]
    refine X_iast dX5_lays_28 sh_89 (by decide) (by omega) ?_
    have hC : CY I0 (x_up I 89 ((k : Nat) : Int).toNat (I 89 (215 + k))) 89 0 89 215 (k + 1) := by
      have e := hC.step (hC.2.1 _ (by omega))
      rw [Nat.zero_add] at e
      rw [Int.toNat_natCast]
      exact e
    refine X_iinc dX5_lays_29 rfl ?_
    dsimp only [List.set]
    refine X_goto (tgt := 6) dX5_lays_32 (by decide) ?_
    exact ih (k + 1) (by omega) _ hC
/-- the state, what is remembered, what is kept, the text -/
def SM (I : xI) (sn : Option xS) : Prop := match sn with
  | none => I 88 4 = 0
  | some q => I 88 4 = 1 ∧ RC I 91 0 q.1 q.2
def MI (I : xI) (s : xS) (hs : List xS) (sn : Option xS) (tx : Nat → Int) (len : Nat) : Prop := RR I 0 s.1 s.2 ∧ HM I hs ∧ SM I sn ∧ I 88 6 = len ∧ ∀ j, j < len → I 92 j = tx j
def MX (I I1 : xI) : Prop := ∀ q, (q < 88 ∨ 94 ≤ q) → I1 q = I q
theorem MX.trans {I I1 I2 : xI} (h : MX I I1) (h' : MX I1 I2) : MX I I2 := fun q hq => (h' q hq).trans (h q hq)
theorem MX.rf {I : xI} : MX I I := fun _ _ => rfl
theorem WF.mx {I I1 : xI} (h : WF I I1) : MX I I1 := fun q hq => h.1 q (by omega) (by omega)
theorem SM.of {I I1 : xI} {sn : Option xS} (h : SM I sn) (e4 : I1 88 4 = I 88 4) (e91 : I1 91 = I 91) : SM I1 sn := by
  unfold SM at *
  cases sn with
  | none => rw [e4]; exact h
  | some q => exact ⟨by rw [e4]; exact h.1, fun j hj => by rw [e91]; exact h.2 j hj⟩
theorem HM.of {I I1 : xI} {hs : List xS} (h : HM I hs) (e2 : I1 88 2 = I 88 2) (e90 : I1 90 = I 90) : HM I1 hs := ⟨by rw [e2]; exact h.1, fun j q e i hi => by rw [e90]; exact h.2 j q e i hi⟩
theorem MI.wf {I I1 : xI} {s : xS} {hs : List xS} {sn : Option xS} {tx : Nat → Int} {len : Nat} (h : MI I s hs sn tx len) (hs24 : s.2 ≤ 24) (hF : WF I I1) : MI I1 s hs sn tx len := by
  have e88 : I1 88 = I 88 := hF.1 88 (by decide) (by decide)
  refine ⟨hF.r0 hs24 h.1, h.2.1.of (by rw [e88]) (hF.1 90 (by decide) (by decide)), h.2.2.1.of (by rw [e88]) (hF.1 91 (by decide) (by decide)), by rw [e88]; exact h.2.2.2.1, fun j hj => by rw [hF.1 92 (by decide) (by decide)]; exact h.2.2.2.2 j hj⟩
theorem MI.rem {I I1 : xI} {s : xS} {hs hs' : List xS} {sn : Option xS} {tx : Nat → Int} {len : Nat} (h : MI I s hs sn tx len) (hH : HM I1 hs') (hF : RF5 I I1) : MI I1 s hs' sn tx len := by
  refine ⟨fun j hj => by rw [hF.1 89 (by decide) (by decide)]; exact h.1 j hj, hH, h.2.2.1.of (hF.2 4 (by decide)) (hF.1 91 (by decide) (by decide)), by rw [hF.2 6 (by decide)]; exact h.2.2.2.1, fun j hj => by rw [hF.1 92 (by decide) (by decide)]; exact h.2.2.2.2 j hj⟩
theorem RF5.mx {I I1 : xI} (h : RF5 I I1) : MX I I1 := fun q hq => h.1 q (by omega) (by omega)
theorem MI.cy {I I1 : xI} {s r : xS} {hs : List xS} {sn : Option xS} {tx : Nat → Int} {len p o : Nat} (h : MI I s hs sn tx len) (hr : r.2 ≤ 24) (hR : RC I o p r.1 r.2) (hC : CY I I1 89 0 o p 215) : MI I1 r hs sn tx len := by
  have e := hC.2.2
  refine ⟨fun j hj => ?_, h.2.1.of (by rw [e 88 (by decide)]) (e 90 (by decide)), h.2.2.1.of (by rw [e 88 (by decide)]) (e 91 (by decide)), by rw [e 88 (by decide)]; exact h.2.2.2.1, fun j hj => by rw [e 92 (by decide)]; exact h.2.2.2.2 j hj⟩
  rw [hC.1 j (by omega)]
  exact hR j hj
theorem HG.n24 {hs : List xS} (h : HG hs) : ∀ q ∈ hs, q.2 ≤ 24 := fun q hq => (h.2 q hq).1.n24
set_option maxRecDepth 20000 in
set_option maxHeartbeats 4000000 in
theorem t5_lays {I : xI} {s : xS} {hs : List xS} {sn : Option xS} {tx : Nat → Int} {len : Nat} (hM : MI I s hs sn tx len) (hg : CG s hs sn tx len) {r : xS} (hr : r.2 ≤ 24) (hR : RR I 215 r.1 r.2) : S kX5_lays 2 [rr 88] I (q_v (fun I1 => MI I1 r (pushH hs s) sn tx len ∧ MX I I1)) := by
  refine Sp_intro (by decide +kernel) (Nat.le_of_ble_eq_true rfl) ?_
  show Y kX5_lays 2 0 [some (rr 88), none] [] I _
  refine X_aload dX5_lays_0 rfl ?_
  refine Y_vV dX5_lays_1 cv_X5_29 sh_88 (by decide) (t5_remembers hM.1 hg.1.1.n24 hM.2.1 hg.2.1.1 hg.2.1.n24) rfl (fun I1 h1 => ?_)
  refine X_iconst dX5_lays_4 ?_
  refine X_istore dX5_lays_5 (by decide) ?_
  dsimp only [List.set]
  have hM1 := hM.rem h1.1 h1.2
  have h9 := t5_lays_loop (I0 := I1) 215 0 (by omega) I1 (CY.zero _ _ _ _ _)
  refine X_weaken h9 (fun ro N1 I2 R1 e => ?_)
  obtain ⟨a1, a2, a3, a4⟩ := e
  refine ⟨a1, a2, a3, hM1.cy hr (fun j hj => by rw [h1.2.1 89 (by decide) (by decide)]; exact hR j hj) a4, h1.2.mx.trans (fun q hq => a4.2.2 q (by omega))⟩
set_option maxRecDepth 20000 in
set_option maxHeartbeats 4000000 in
theorem t5_changes {I : xI} {s : xS} {hs : List xS} {sn : Option xS} {tx : Nat → Int} {len : Nat} (hM : MI I s hs sn tx len) (hg : CG s hs sn tx len) (r : Int × xS) (hz : small r.1) (hR : 0 ≤ r.1 → r.2.2 ≤ 24 ∧ RR I 215 r.2.1 r.2.2) : S kX5_changes 3 [rr 88, ii r.1] I (q_i (fun ans I1 => ans = r.1 ∧ MI I1 (nxS s r) (nxH s hs r) sn tx len ∧ MX I I1)) := by
  unfold small at hz
  refine Sp_intro (by decide +kernel) (Nat.le_of_ble_eq_true rfl) ?_
  show Y kX5_changes 3 0 [some (rr 88), some (ii r.1)] [] I _
  refine X_iload dX5_changes_0 rfl ?_
  refine X_if_lt (tgt := 8) dX5_changes_1 (by decide) (by omega) (fun c_1 => ?_) (fun c_1 => ?_)
  · refine X_iload dX5_changes_8 rfl ?_
    refine X_iret dX5_changes_9 (Or.inl rfl) ?_
    exact ⟨rfl, rfl, _, rfl, rfl, by unfold nxS nxH; rw [if_neg (by omega), if_neg (by omega)]; exact hM, MX.rf⟩
  · refine X_aload dX5_changes_4 rfl ?_
    refine Y_vV dX5_changes_5 cv_X5_78 sh_88 (by decide) (t5_lays hM hg (hR (by omega)).1 (hR (by omega)).2) rfl (fun I5 h5 => ?_)
    refine X_iload dX5_changes_8 rfl ?_
    refine X_iret dX5_changes_9 (Or.inl rfl) ?_
    exact ⟨rfl, rfl, _, rfl, rfl, by unfold nxS nxH; rw [if_pos (by omega), if_pos (by omega)]; exact h5.1, h5.2⟩
set_option maxRecDepth 20000 in
set_option maxHeartbeats 4000000 in
theorem t5_in (I : xI) {v a b : Int} (hv : -2147483648 ≤ v ∧ v ≤ 2147483647) (ha : -2147483648 ≤ a ∧ a ≤ 2147483647) (hb : -2147483648 ≤ b ∧ b ≤ 2147483647) : S kX5_in 0 [ii v, ii a, ii b] I (q_p (ii (if a ≤ v ∧ v ≤ b then 1 else 0)) I) := by
  refine Sp_intro (by decide +kernel) (Nat.le_of_ble_eq_true rfl) ?_
  show Y kX5_in 0 0 [some (ii v), some (ii a), some (ii b)] [] I _
  refine X_iload dX5_in_0 rfl ?_
  refine X_iload dX5_in_1 rfl ?_
  refine X_icmp_lt (tgt := 14) dX5_in_2 (by decide) (by omega) (fun c_2 => ?_) (fun c_2 => ?_)
  · refine X_iconst dX5_in_14 ?_
    refine X_iret dX5_in_15 (Or.inr ⟨rfl, by omega⟩) ?_
    exact ⟨by first | (rw [if_pos (by omega)]) | (rw [if_neg (by omega)]), rfl, rfl, rfl⟩
  · refine X_iload dX5_in_5 rfl ?_
    refine X_iload dX5_in_6 rfl ?_
    refine X_icmp_gt (tgt := 14) dX5_in_7 (by decide) (by omega) (fun c_7 => ?_) (fun c_7 => ?_)
    · refine X_iconst dX5_in_14 ?_
      refine X_iret dX5_in_15 (Or.inr ⟨rfl, by omega⟩) ?_
      exact ⟨by first | (rw [if_pos (by omega)]) | (rw [if_neg (by omega)]), rfl, rfl, rfl⟩
    · refine X_iconst dX5_in_10 ?_
      refine X_goto (tgt := 15) dX5_in_11 (by decide) ?_
      refine X_iret dX5_in_15 (Or.inr ⟨rfl, by omega⟩) ?_
      exact ⟨by first | (rw [if_pos (by omega)]) | (rw [if_neg (by omega)]), rfl, rfl, rfl⟩
