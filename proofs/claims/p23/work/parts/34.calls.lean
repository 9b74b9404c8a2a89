/-! more rules: shifts, masks, answers that are the same -/
theorem x_and_rng (x : Int32) {m : Int} (hm : 0 ≤ m ∧ m ≤ 2147483647) : 0 ≤ (x &&& Int32.ofInt m).toInt ∧ (x &&& Int32.ofInt m).toInt ≤ m := by
  have h1 := x_bits m
  have h2 : (x &&& Int32.ofInt m).toBitVec.toNat ≤ (Int32.ofInt m).toBitVec.toNat := by
    rw [Int32.toBitVec_and, BitVec.toNat_and]
    exact Nat.and_le_right
  have h3 : (x &&& Int32.ofInt m).toInt = (x &&& Int32.ofInt m).toBitVec.toInt := rfl
  rw [h3, BitVec.toInt_eq_toNat_of_lt (by omega)]
  omega
section XR
variable {κ : xK} {d bc bs pc : Nat} {L : List (Option xAV)} {st : List xAV} {N : Nat} {I : xI} {Rf : xR} {Q : xQ}
theorem X_ishr {a b : Int} (hd : decode κ.2.1 pc = .ok (.ishr, 1)) (kk : ∀ z : Int, -2147483648 ≤ z ∧ z ≤ 2147483647 → X κ d bc bs (pc + 1) L (ii z :: st) N I Rf Q) : X κ d bc bs pc L (ii b :: ii a :: st) N I Rf Q := by
  intro G p l e Rm s m args below meth c H locs cells slots mc ms ls Z hC h1 h2 h3 h4 hE hP hS h5 h6 hL
  refine lv_ishr (x := Int32.ofInt a) (y := Int32.ofInt b) hC.1 hC.2.1 hd ?_
  rw [← Int32.ofInt_toInt (Int32.ofInt a >>> (Int32.ofInt b &&& 31))]
  exact kk _ ⟨Int32.le_toInt _, Int.le_of_lt_add_one (Int32.toInt_lt _)⟩ hC h1 h2 h3 h4 hE hP hS h5 h6 hL
theorem X_iandm {a m : Int} (hd : decode κ.2.1 pc = .ok (.iand, 1)) (hm : 0 ≤ m ∧ m ≤ 2147483647) (kk : ∀ z : Int, 0 ≤ z ∧ z ≤ m → X κ d bc bs (pc + 1) L (ii z :: st) N I Rf Q) : X κ d bc bs pc L (ii m :: ii a :: st) N I Rf Q := by
  intro G p l e Rm s m1 args below meth c H locs cells slots mc ms ls Z hC h1 h2 h3 h4 hE hP hS h5 h6 hL
  refine lv_iand (x := Int32.ofInt a) (y := Int32.ofInt m) hC.1 hC.2.1 hd ?_
  rw [← Int32.ofInt_toInt (Int32.ofInt a &&& Int32.ofInt m)]
  exact kk _ (x_and_rng _ hm) hC h1 h2 h3 h4 hE hP hS h5 h6 hL
theorem X_same_eq {a b off : Int} {tgt : Nat} (hd : decode κ.2.1 pc = .ok (.if_icmp .eq off, 3)) (ht : (pc : Int) + off = (tgt : Int)) (e : b = a) (kk : X κ d bc bs tgt L st N I Rf Q) : X κ d bc bs pc L (ii b :: ii a :: st) N I Rf Q := by
  subst e
  intro G p l e Rm s m args below meth c H locs cells slots mc ms ls Z hC h1 h2 h3 h4 hE hP hS h5 h6 hL
  exact lv_icmp_eq (x := Int32.ofInt b) (y := Int32.ofInt b) hC.1 hC.2.1 hd ht (fun q => kk hC h1 h2 h3 h4 hE hP hS h5 h6 hL) (fun q => absurd rfl q)
theorem X_same_ne {a b off : Int} {tgt : Nat} (hd : decode κ.2.1 pc = .ok (.if_icmp .ne off, 3)) (ht : (pc : Int) + off = (tgt : Int)) (e : b = a) (kk : X κ d bc bs (pc + 3) L st N I Rf Q) : X κ d bc bs pc L (ii b :: ii a :: st) N I Rf Q := by
  subst e
  intro G p l e Rm s m args below meth c H locs cells slots mc ms ls Z hC h1 h2 h3 h4 hE hP hS h5 h6 hL
  exact lv_icmp_ne (x := Int32.ofInt b) (y := Int32.ofInt b) hC.1 hC.2.1 hd ht (fun q => absurd rfl q) (fun q => kk hC h1 h2 h3 h4 hE hP hS h5 h6 hL)
end XR
/-! the memory between the law's steps: one state, some history, no snapshot, no text; the law's own rows apart -/
def tx0 : Nat → Int := fun _ => 0
def WK (s : xS) (J I : xI) : Prop := ∃ hs, CI I s hs none tx0 0 ∧ FX J I ∧ CG s hs none tx0 0
theorem WK.sg {s : xS} {J I : xI} (h : WK s J I) : SG s := by obtain ⟨hs, -, -, h⟩ := h; exact h.1
theorem WK.g {s : xS} {J I : xI} (h : WK s J I) : GI s.1 s.2 := h.sg.1
theorem WK.sf {s : xS} {J I I1 : xI} (h : WK s J I) (e : SF I I1) : WK s J I1 := by
  obtain ⟨hs, h1, h2, h3⟩ := h
  exact ⟨hs, h1.sc e, h2.trans e.fx, h3⟩
theorem WK.fx {s : xS} {J I : xI} (h : WK s J I) : FX J I := by obtain ⟨hs, -, h, -⟩ := h; exact h
theorem WK.base {s : xS} {J J' I : xI} (h : WK s J I) (e : FX J' J) : WK s J' I := by
  obtain ⟨hs, h1, h2, h3⟩ := h
  exact ⟨hs, h1, e.trans h2, h3⟩
theorem WK.next {s : xS} {J I I1 : xI} {hs : List xS} {r : Int × xS} (hg : CG s hs none tx0 0) (hX : FX J I) (hr : 0 ≤ r.1 → SG r.2) (h : CI I1 (nxS s r) (nxH s hs r) none tx0 0) (hF : FX I I1) : WK (nxS s r) J I1 :=
  ⟨_, h, hX.trans hF, nxS_ok hg.1 hr, nxH_ok hg.2.1 hg.1, hg.2.2.1, hg.2.2.2⟩
theorem v_num {s : xS} {J I : xI} (hW : WK s J I) (w : Nat) (hw : w < 23) {i : Int} (hi : i = (w : Int)) : S kX4_total 4 [rr 0, ii i] I (q_p (ii (s.1 w)) I) := by
  subst hi
  obtain ⟨hs, h1, -, h3⟩ := hW
  have h := pu_total h1 h3 (w : Int) (by omega)
  have e : qTotal s hs.length 0 (w : Int) = s.1 w := by
    unfold qTotal
    rw [if_pos (by omega), Int.toNat_natCast]
  rw [e] at h
  exact h
theorem v_pins {s : xS} {J I : xI} (hW : WK s J I) : S kX4_total 4 [rr 0, ii 23] I (q_p (ii (pins s.1 s.2)) I) := by
  obtain ⟨hs, h1, -, h3⟩ := hW
  exact pu_total h1 h3 23 (by decide)
theorem v_ht {s : xS} {J I : xI} (hW : WK s J I) : S kX4_total 4 [rr 0, ii 24] I (q_p (ii (htA s.1 s.2)) I) := by
  obtain ⟨hs, h1, -, h3⟩ := hW
  exact pu_total h1 h3 24 (by decide)
theorem v_t27 {s : xS} {J I : xI} (hW : WK s J I) : S kX4_total 4 [rr 0, ii 27] I (q_p (ii (-2)) I) := by
  obtain ⟨hs, h1, -, h3⟩ := hW
  exact pu_total h1 h3 27 (by decide)
theorem v_block {s : xS} {J I : xI} (hW : WK s J I) (r : Nat) (hr : r < s.2) {i : Int} (hi : i = (r : Int)) : S kX4_block 4 [rr 0, ii i] I (q_p (ii (gb s.1 (rp s.1 s.2 r) 0)) I) := by
  subst hi
  obtain ⟨hs, h1, -, h3⟩ := hW
  have hn := h3.1.1.n24
  have h := pu_block h1 h3 (r : Int) (by omega)
  have e : qBlock s (r : Int) = gb s.1 (rp s.1 s.2 r) 0 := by
    unfold qBlock
    rw [if_neg (by omega), (rp_ok hr).1]
  rw [e] at h
  exact h
theorem v_blockEnd {s : xS} {J I : xI} (hW : WK s J I) {i : Int} (hi : i = (s.2 : Int)) : S kX4_block 4 [rr 0, ii i] I (q_p (ii (-5)) I) := by
  subst hi
  obtain ⟨hs, h1, -, h3⟩ := hW
  have hn := h3.1.1.n24
  have h := pu_block h1 h3 (s.2 : Int) (by omega)
  have e : qBlock s (s.2 : Int) = -5 := by
    unfold qBlock
    rw [if_neg (by omega), rk_end]
  rw [e] at h
  exact h
theorem v_blockNeg {s : xS} {J I : xI} (hW : WK s J I) : S kX4_block 4 [rr 0, ii (-1)] I (q_p (ii (-2)) I) := by
  obtain ⟨hs, h1, -, h3⟩ := hW
  exact pu_block h1 h3 (-1) (by decide)
theorem v_of0 {s : xS} {J I : xI} (hW : WK s J I) {k : Nat} (hk : k < s.2) (hN : NU s.1 s.2) {b : Int} (hb : b = gb s.1 k 0) : S kX4_ofBlock 6 [rr 0, ii b, ii 0] I (q_i (fun ans I1 => ans = gb s.1 k 1 ∧ WK s J I1)) := by
  subst hb
  obtain ⟨hs, h1, h2, h3⟩ := hW
  have hb := (h3.1.1.b hk).1
  refine S_monoI (pu_ofBlock h1 h3 (gb s.1 k 0) (by omega) 0 (by decide)) (fun a I1 h => ⟨h.1.trans ?_, ⟨hs, h1.sc h.2, h2.trans h.2.fx, h3⟩⟩)
  unfold qOf
  rw [pl_nu hN hk]
  rfl
theorem v_of1 {s : xS} {J I : xI} (hW : WK s J I) {k : Nat} (hk : k < s.2) (hN : NU s.1 s.2) {b : Int} (hb : b = gb s.1 k 0) : S kX4_ofBlock 6 [rr 0, ii b, ii 1] I (q_i (fun ans I1 => ans = gb s.1 k 2 ∧ WK s J I1)) := by
  subst hb
  obtain ⟨hs, h1, h2, h3⟩ := hW
  have hb := (h3.1.1.b hk).1
  refine S_monoI (pu_ofBlock h1 h3 (gb s.1 k 0) (by omega) 1 (by decide)) (fun a I1 h => ⟨h.1.trans ?_, ⟨hs, h1.sc h.2, h2.trans h.2.fx, h3⟩⟩)
  unfold qOf
  rw [pl_nu hN hk]
  rfl
theorem v_of2 {s : xS} {J I : xI} (hW : WK s J I) {k : Nat} (hk : k < s.2) (hN : NU s.1 s.2) {b : Int} (hb : b = gb s.1 k 0) : S kX4_ofBlock 6 [rr 0, ii b, ii 2] I (q_i (fun ans I1 => ans = gb s.1 k 3 ∧ WK s J I1)) := by
  subst hb
  obtain ⟨hs, h1, h2, h3⟩ := hW
  have hb := (h3.1.1.b hk).1
  refine S_monoI (pu_ofBlock h1 h3 (gb s.1 k 0) (by omega) 2 (by decide)) (fun a I1 h => ⟨h.1.trans ?_, ⟨hs, h1.sc h.2, h2.trans h.2.fx, h3⟩⟩)
  unfold qOf
  rw [pl_nu hN hk]
  rfl
theorem v_of3 {s : xS} {J I : xI} (hW : WK s J I) {k : Nat} (hk : k < s.2) (hN : NU s.1 s.2) {b : Int} (hb : b = gb s.1 k 0) : S kX4_ofBlock 6 [rr 0, ii b, ii 3] I (q_i (fun ans I1 => ans = wt s.1 k ∧ WK s J I1)) := by
  subst hb
  obtain ⟨hs, h1, h2, h3⟩ := hW
  have hb := (h3.1.1.b hk).1
  refine S_monoI (pu_ofBlock h1 h3 (gb s.1 k 0) (by omega) 3 (by decide)) (fun a I1 h => ⟨h.1.trans ?_, ⟨hs, h1.sc h.2, h2.trans h.2.fx, h3⟩⟩)
  unfold qOf
  rw [pl_nu hN hk]
  rfl
theorem v_of4 {s : xS} {J I : xI} (hW : WK s J I) {k : Nat} (hk : k < s.2) (hN : NU s.1 s.2) {b : Int} (hb : b = gb s.1 k 0) : S kX4_ofBlock 6 [rr 0, ii b, ii 4] I (q_i (fun ans I1 => ans = gb s.1 k 4 ∧ WK s J I1)) := by
  subst hb
  obtain ⟨hs, h1, h2, h3⟩ := hW
  have hb := (h3.1.1.b hk).1
  refine S_monoI (pu_ofBlock h1 h3 (gb s.1 k 0) (by omega) 4 (by decide)) (fun a I1 h => ⟨h.1.trans ?_, ⟨hs, h1.sc h.2, h2.trans h.2.fx, h3⟩⟩)
  unfold qOf
  rw [pl_nu hN hk]
  rfl
theorem v_of5 {s : xS} {J I : xI} (hW : WK s J I) {k : Nat} (hk : k < s.2) (hN : NU s.1 s.2) {b : Int} (hb : b = gb s.1 k 0) : S kX4_ofBlock 6 [rr 0, ii b, ii 5] I (q_i (fun ans I1 => ans = gb s.1 k 5 ∧ WK s J I1)) := by
  subst hb
  obtain ⟨hs, h1, h2, h3⟩ := hW
  have hb := (h3.1.1.b hk).1
  refine S_monoI (pu_ofBlock h1 h3 (gb s.1 k 0) (by omega) 5 (by decide)) (fun a I1 h => ⟨h.1.trans ?_, ⟨hs, h1.sc h.2, h2.trans h.2.fx, h3⟩⟩)
  unfold qOf
  rw [pl_nu hN hk]
  rfl
theorem v_of6 {s : xS} {J I : xI} (hW : WK s J I) {k : Nat} (hk : k < s.2) (hN : NU s.1 s.2) {b : Int} (hb : b = gb s.1 k 0) : S kX4_ofBlock 6 [rr 0, ii b, ii 6] I (q_i (fun ans I1 => ans = gb s.1 k 6 ∧ WK s J I1)) := by
  subst hb
  obtain ⟨hs, h1, h2, h3⟩ := hW
  have hb := (h3.1.1.b hk).1
  refine S_monoI (pu_ofBlock h1 h3 (gb s.1 k 0) (by omega) 6 (by decide)) (fun a I1 h => ⟨h.1.trans ?_, ⟨hs, h1.sc h.2, h2.trans h.2.fx, h3⟩⟩)
  unfold qOf
  rw [pl_nu hN hk]
  rfl
theorem v_of7 {s : xS} {J I : xI} (hW : WK s J I) {k : Nat} (hk : k < s.2) (hN : NU s.1 s.2) {b : Int} (hb : b = gb s.1 k 0) : S kX4_ofBlock 6 [rr 0, ii b, ii 7] I (q_i (fun ans I1 => ans = gb s.1 k 7 ∧ WK s J I1)) := by
  subst hb
  obtain ⟨hs, h1, h2, h3⟩ := hW
  have hb := (h3.1.1.b hk).1
  refine S_monoI (pu_ofBlock h1 h3 (gb s.1 k 0) (by omega) 7 (by decide)) (fun a I1 h => ⟨h.1.trans ?_, ⟨hs, h1.sc h.2, h2.trans h.2.fx, h3⟩⟩)
  unfold qOf
  rw [pl_nu hN hk]
  rfl
theorem v_of8 {s : xS} {J I : xI} (hW : WK s J I) {k : Nat} (hk : k < s.2) (hN : NU s.1 s.2) {b : Int} (hb : b = gb s.1 k 0) : S kX4_ofBlock 6 [rr 0, ii b, ii 8] I (q_i (fun ans I1 => ans = (ntU s.1 s.2 (s.1 3)).2.1 k ∧ WK s J I1)) := by
  subst hb
  obtain ⟨hs, h1, h2, h3⟩ := hW
  have hb := (h3.1.1.b hk).1
  refine S_monoI (pu_ofBlock h1 h3 (gb s.1 k 0) (by omega) 8 (by decide)) (fun a I1 h => ⟨h.1.trans ?_, ⟨hs, h1.sc h.2, h2.trans h.2.fx, h3⟩⟩)
  unfold qOf
  rw [pl_nu hN hk]
  rfl
theorem v_ofno {s : xS} {J I : xI} (hW : WK s J I) {b : Int} (hb : -2147483648 ≤ b ∧ b ≤ 2147483647) (hp : pl s.1 s.2 b = none) (w : Int) (hw : -2147483648 ≤ w ∧ w ≤ 2147483647) : S kX4_ofBlock 6 [rr 0, ii b, ii w] I (q_i (fun ans I1 => ans = -1 ∧ WK s J I1)) := by
  obtain ⟨hs, h1, h2, h3⟩ := hW
  refine S_monoI (pu_ofBlock h1 h3 b hb w hw) (fun a I1 h => ⟨h.1.trans ?_, ⟨hs, h1.sc h.2, h2.trans h.2.fx, h3⟩⟩)
  unfold qOf
  rw [hp]
theorem v_sh0 {s : xS} {J I : xI} (hW : WK s J I) (sh : Nat) (hsh : sh < 3) {i : Int} (hi : i = (sh : Int)) : S kX4_shelf 3 [rr 0, ii i, ii 0] I (q_p (ii (s.1 (6 + sh))) I) := by
  subst hi
  obtain ⟨hs, h1, -, h3⟩ := hW
  have h := pu_shelf h1 h3 (sh : Int) (by omega) 0 (by decide)
  have e : qShelf s (sh : Int) 0 = s.1 (6 + sh) := by
    unfold qShelf
    rw [if_neg (by omega)]
    rfl
  rw [e] at h
  exact h
theorem v_sh1 {s : xS} {J I : xI} (hW : WK s J I) (sh : Nat) (hsh : sh < 3) {i : Int} (hi : i = (sh : Int)) : S kX4_shelf 3 [rr 0, ii i, ii 1] I (q_p (ii (onF s.1 s.2 (sh : Int) 1)) I) := by
  subst hi
  obtain ⟨hs, h1, -, h3⟩ := hW
  have h := pu_shelf h1 h3 (sh : Int) (by omega) 1 (by decide)
  have e : qShelf s (sh : Int) 1 = onF s.1 s.2 (sh : Int) 1 := by
    unfold qShelf
    rw [if_neg (by omega)]
    rfl
  rw [e] at h
  exact h
theorem v_sh2 {s : xS} {J I : xI} (hW : WK s J I) (sh : Nat) (hsh : sh < 3) {i : Int} (hi : i = (sh : Int)) : S kX4_shelf 3 [rr 0, ii i, ii 2] I (q_p (ii (onF s.1 s.2 (sh : Int) 0)) I) := by
  subst hi
  obtain ⟨hs, h1, -, h3⟩ := hW
  have h := pu_shelf h1 h3 (sh : Int) (by omega) 2 (by decide)
  have e : qShelf s (sh : Int) 2 = onF s.1 s.2 (sh : Int) 0 := by
    unfold qShelf
    rw [if_neg (by omega)]
    rfl
  rw [e] at h
  exact h
theorem v_sh3 {s : xS} {J I : xI} (hW : WK s J I) (sh : Nat) (hsh : sh < 3) {i : Int} (hi : i = (sh : Int)) : S kX4_shelf 3 [rr 0, ii i, ii 3] I (q_p (ii (onF s.1 s.2 (sh : Int) 2)) I) := by
  subst hi
  obtain ⟨hs, h1, -, h3⟩ := hW
  have h := pu_shelf h1 h3 (sh : Int) (by omega) 3 (by decide)
  have e : qShelf s (sh : Int) 3 = onF s.1 s.2 (sh : Int) 2 := by
    unfold qShelf
    rw [if_neg (by omega)]
    rfl
  rw [e] at h
  exact h
theorem v_sh4 {s : xS} {J I : xI} (hW : WK s J I) (sh : Nat) (hsh : sh < 3) {i : Int} (hi : i = (sh : Int)) : S kX4_shelf 3 [rr 0, ii i, ii 4] I (q_p (ii (onF s.1 s.2 (sh : Int) 1 * s.1 (9 + sh))) I) := by
  subst hi
  obtain ⟨hs, h1, -, h3⟩ := hW
  have h := pu_shelf h1 h3 (sh : Int) (by omega) 4 (by decide)
  have e : qShelf s (sh : Int) 4 = onF s.1 s.2 (sh : Int) 1 * s.1 (9 + sh) := by
    unfold qShelf
    rw [if_neg (by omega)]
    rfl
  rw [e] at h
  exact h
theorem v_shno {s : xS} {J I : xI} (hW : WK s J I) : S kX4_shelf 3 [rr 0, ii 3, ii 0] I (q_p (ii (-1)) I) := by
  obtain ⟨hs, h1, -, h3⟩ := hW
  exact pu_shelf h1 h3 3 (by decide) 0 (by decide)
theorem v_if0 {s : xS} {J I : xI} (hW : WK s J I) (t : Nat) (ht : 1 ≤ t ∧ t ≤ 99) {i : Int} (hi : i = (t : Int)) : S kX4_ifPassed 5 [rr 0, ii i, ii 0] I (q_i (fun ans I1 => ans = npG s.1 s.2 t 18 - s.1 18 ∧ WK s J I1)) := by
  subst hi
  obtain ⟨hs, h1, h2, h3⟩ := hW
  refine S_monoI (pu_ifPassed h1 h3 (t : Int) (by omega) 0 (by decide)) (fun a I1 h => ⟨h.1.trans ?_, ⟨hs, h1.sc h.2, h2.trans h.2.fx, h3⟩⟩)
  unfold qIf
  rw [if_neg (by omega), Int.toNat_natCast]
  rfl
theorem v_if1 {s : xS} {J I : xI} (hW : WK s J I) (t : Nat) (ht : 1 ≤ t ∧ t ≤ 99) {i : Int} (hi : i = (t : Int)) : S kX4_ifPassed 5 [rr 0, ii i, ii 1] I (q_i (fun ans I1 => ans = nsM s.1 s.2 (s.1 3) t ∧ WK s J I1)) := by
  subst hi
  obtain ⟨hs, h1, h2, h3⟩ := hW
  refine S_monoI (pu_ifPassed h1 h3 (t : Int) (by omega) 1 (by decide)) (fun a I1 h => ⟨h.1.trans ?_, ⟨hs, h1.sc h.2, h2.trans h.2.fx, h3⟩⟩)
  unfold qIf
  rw [if_neg (by omega), Int.toNat_natCast]
  rfl
theorem v_if2 {s : xS} {J I : xI} (hW : WK s J I) (t : Nat) (ht : 1 ≤ t ∧ t ≤ 99) {i : Int} (hi : i = (t : Int)) : S kX4_ifPassed 5 [rr 0, ii i, ii 2] I (q_i (fun ans I1 => ans = htA (npG s.1 s.2 t) s.2 ∧ WK s J I1)) := by
  subst hi
  obtain ⟨hs, h1, h2, h3⟩ := hW
  refine S_monoI (pu_ifPassed h1 h3 (t : Int) (by omega) 2 (by decide)) (fun a I1 h => ⟨h.1.trans ?_, ⟨hs, h1.sc h.2, h2.trans h.2.fx, h3⟩⟩)
  unfold qIf
  rw [if_neg (by omega), Int.toNat_natCast]
  rfl
theorem v_if3 {s : xS} {J I : xI} (hW : WK s J I) (t : Nat) (ht : 1 ≤ t ∧ t ≤ 99) {i : Int} (hi : i = (t : Int)) : S kX4_ifPassed 5 [rr 0, ii i, ii 3] I (q_i (fun ans I1 => ans = onF (npG s.1 s.2 t) s.2 (0 : Nat) 1 ∧ WK s J I1)) := by
  subst hi
  obtain ⟨hs, h1, h2, h3⟩ := hW
  refine S_monoI (pu_ifPassed h1 h3 (t : Int) (by omega) 3 (by decide)) (fun a I1 h => ⟨h.1.trans ?_, ⟨hs, h1.sc h.2, h2.trans h.2.fx, h3⟩⟩)
  unfold qIf
  rw [if_neg (by omega), Int.toNat_natCast]
  rfl
theorem v_if5 {s : xS} {J I : xI} (hW : WK s J I) (t : Nat) (ht : 1 ≤ t ∧ t ≤ 99) {i : Int} (hi : i = (t : Int)) : S kX4_ifPassed 5 [rr 0, ii i, ii 5] I (q_i (fun ans I1 => ans = onF (npG s.1 s.2 t) s.2 (2 : Nat) 1 ∧ WK s J I1)) := by
  subst hi
  obtain ⟨hs, h1, h2, h3⟩ := hW
  refine S_monoI (pu_ifPassed h1 h3 (t : Int) (by omega) 5 (by decide)) (fun a I1 h => ⟨h.1.trans ?_, ⟨hs, h1.sc h.2, h2.trans h.2.fx, h3⟩⟩)
  unfold qIf
  rw [if_neg (by omega), Int.toNat_natCast]
  rfl
theorem v_next {s : xS} {J I : xI} (hW : WK s J I) : S kX4_nextMove 5 [rr 0] I (q_i (fun ans I1 => ans = qNext s ∧ WK s J I1)) := by
  obtain ⟨hs, h1, h2, h3⟩ := hW
  exact S_monoI (pu_nextMove h1 h3) (fun a I1 h => ⟨h.1, ⟨hs, h1.sc h.2, h2.trans h.2.fx, h3⟩⟩)
theorem v_hotno {s : xS} {J I : xI} (hW : WK s J I) : S kX4_bestHot 6 [rr 0, ii 21, ii 0] I (q_i (fun ans I1 => ans = -2 ∧ WK s J I1)) := by
  obtain ⟨hs, h1, h2, h3⟩ := hW
  exact S_monoI (pu_bestHot h1 h3 21 (by decide) 0 (by decide)) (fun a I1 h => ⟨h.1, ⟨hs, h1.sc h.2, h2.trans h.2.fx, h3⟩⟩)
theorem v_hot0 {s : xS} {J I : xI} (hW : WK s J I) (t : Nat) (ht : 1 ≤ t ∧ t ≤ 20) {b l : Int} (hb : hbF s t 41 = some (b, l)) {i : Int} (hi : i = (t : Int)) : S kX4_bestHot 6 [rr 0, ii i, ii 0] I (q_i (fun ans I1 => ans = b ∧ WK s J I1)) := by
  subst hi
  obtain ⟨hs, h1, h2, h3⟩ := hW
  refine S_monoI (pu_bestHot h1 h3 (t : Int) (by omega) 0 (by decide)) (fun a I1 h => ⟨h.1.trans ?_, ⟨hs, h1.sc h.2, h2.trans h.2.fx, h3⟩⟩)
  unfold qHot
  rw [if_neg (by omega), Int.toNat_natCast, hb]
  rfl
theorem v_hot1 {s : xS} {J I : xI} (hW : WK s J I) (t : Nat) (ht : 1 ≤ t ∧ t ≤ 20) {b l : Int} (hb : hbF s t 41 = some (b, l)) {i : Int} (hi : i = (t : Int)) : S kX4_bestHot 6 [rr 0, ii i, ii 1] I (q_i (fun ans I1 => ans = l ∧ WK s J I1)) := by
  subst hi
  obtain ⟨hs, h1, h2, h3⟩ := hW
  refine S_monoI (pu_bestHot h1 h3 (t : Int) (by omega) 1 (by decide)) (fun a I1 h => ⟨h.1.trans ?_, ⟨hs, h1.sc h.2, h2.trans h.2.fx, h3⟩⟩)
  unfold qHot
  rw [if_neg (by omega), Int.toNat_natCast, hb]
  rfl
theorem u_add {s : xS} {J I : xI} (hW : WK s J I) (z : Int) (hz : -2147483648 ≤ z ∧ z ≤ 2147483647) : S kX4_add 5 [rr 0, ii z] I (q_i (fun ans I1 => ans = (oAdd s z).1 ∧ WK (nxS s (oAdd s z)) J I1)) := by
  obtain ⟨hs, h1, h2, h3⟩ := hW
  exact S_monoI (pu_add h1 h3 z hz) (fun x I1 h => ⟨h.1, WK.next h3 h2 (oAdd_ok h3.1 z).2 h.2.1 h.2.2⟩)
theorem u_remove {s : xS} {J I : xI} (hW : WK s J I) (b : Int) (hb : -2147483648 ≤ b ∧ b ≤ 2147483647) : S kX4_remove 5 [rr 0, ii b] I (q_i (fun ans I1 => ans = (oRem s b).1 ∧ WK (nxS s (oRem s b)) J I1)) := by
  obtain ⟨hs, h1, h2, h3⟩ := hW
  exact S_monoI (pu_remove h1 h3 b hb) (fun x I1 h => ⟨h.1, WK.next h3 h2 (oRem_ok h3.1 b).2 h.2.1 h.2.2⟩)
theorem u_read {s : xS} {J I : xI} (hW : WK s J I) (b : Int) (hb : -2147483648 ≤ b ∧ b ≤ 2147483647) (t : Int) (ht : -2147483648 ≤ t ∧ t ≤ 2147483647) : S kX4_read 5 [rr 0, ii b, ii t] I (q_i (fun ans I1 => ans = (oRead s b t).1 ∧ WK (nxS s (oRead s b t)) J I1)) := by
  obtain ⟨hs, h1, h2, h3⟩ := hW
  exact S_monoI (pu_read h1 h3 b hb t ht) (fun x I1 h => ⟨h.1, WK.next h3 h2 (oRead_ok h3.1 b t).2 h.2.1 h.2.2⟩)
theorem u_pin {s : xS} {J I : xI} (hW : WK s J I) (b : Int) (hb : -2147483648 ≤ b ∧ b ≤ 2147483647) (p : Int) (hp : p = 0 ∨ p = 1) : S kX4_pin 5 [rr 0, ii b, ii p] I (q_i (fun ans I1 => ans = (oPin s b p).1 ∧ WK (nxS s (oPin s b p)) J I1)) := by
  obtain ⟨hs, h1, h2, h3⟩ := hW
  exact S_monoI (pu_pin h1 h3 b hb p hp) (fun x I1 h => ⟨h.1, WK.next h3 h2 (oPin_ok h3.1 b p hp).2 h.2.1 h.2.2⟩)
theorem u_pass {s : xS} {J I : xI} (hW : WK s J I) (t : Int) (ht : -2147483648 ≤ t ∧ t ≤ 2147483647) : S kX4_pass 6 [rr 0, ii t] I (q_i (fun ans I1 => ans = (oPass s t).1 ∧ WK (nxS s (oPass s t)) J I1)) := by
  obtain ⟨hs, h1, h2, h3⟩ := hW
  exact S_monoI (pu_pass h1 h3 t ht) (fun x I1 h => ⟨h.1, WK.next h3 h2 (oPass_ok h3.1 t).2 h.2.1 h.2.2⟩)
theorem u_set {s : xS} {J I : xI} (hW : WK s J I) (a : Int) (ha : -2147483648 ≤ a ∧ a ≤ 2147483647) (v : Int) (hv : -2147483648 ≤ v ∧ v ≤ 2147483647) : S kX4_set 5 [rr 0, ii a, ii v] I (q_i (fun ans I1 => ans = (oSet s a v).1 ∧ WK (nxS s (oSet s a v)) J I1)) := by
  obtain ⟨hs, h1, h2, h3⟩ := hW
  exact S_monoI (pu_set h1 h3 a ha v hv) (fun x I1 h => ⟨h.1, WK.next h3 h2 (oSet_ok h3.1 a v).2 h.2.1 h.2.2⟩)
