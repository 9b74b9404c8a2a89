/-! the same calls, before any change: the history is empty -/
def WZ (s : xS) (J I : xI) : Prop := ∃ hs : {l : List xS // l = []}, CI I s hs.1 none tx0 0 ∧ FX J I ∧ CG s hs.1 none tx0 0
theorem WZ.sg {s : xS} {J I : xI} (h : WZ s J I) : SG s := by obtain ⟨hs, -, -, h⟩ := h; exact h.1
theorem WZ.g {s : xS} {J I : xI} (h : WZ s J I) : GI s.1 s.2 := h.sg.1
theorem WZ.sf {s : xS} {J I I1 : xI} (h : WZ s J I) (e : SF I I1) : WZ s J I1 := by
  obtain ⟨hs, h1, h2, h3⟩ := h
  exact ⟨hs, h1.sc e, h2.trans e.fx, h3⟩
theorem WZ.fx {s : xS} {J I : xI} (h : WZ s J I) : FX J I := by obtain ⟨hs, -, h, -⟩ := h; exact h
theorem WZ.base {s : xS} {J J' I : xI} (h : WZ s J I) (e : FX J' J) : WZ s J' I := by
  obtain ⟨hs, h1, h2, h3⟩ := h
  exact ⟨hs, h1, e.trans h2, h3⟩
theorem z_num {s : xS} {J I : xI} (hW : WZ s J I) (w : Nat) (hw : w < 23) {i : Int} (hi : i = (w : Int)) : S kX4_total 4 [rr 0, ii i] I (q_p (ii (s.1 w)) I) := by
  subst hi
  obtain ⟨hs, h1, -, h3⟩ := hW
  have h := pu_total h1 h3 (w : Int) (by omega)
  have e : qTotal s hs.1.length 0 (w : Int) = s.1 w := by
    unfold qTotal
    rw [if_pos (by omega), Int.toNat_natCast]
  rw [e] at h
  exact h
theorem z_pins {s : xS} {J I : xI} (hW : WZ s J I) : S kX4_total 4 [rr 0, ii 23] I (q_p (ii (pins s.1 s.2)) I) := by
  obtain ⟨hs, h1, -, h3⟩ := hW
  exact pu_total h1 h3 23 (by decide)
theorem z_ht {s : xS} {J I : xI} (hW : WZ s J I) : S kX4_total 4 [rr 0, ii 24] I (q_p (ii (htA s.1 s.2)) I) := by
  obtain ⟨hs, h1, -, h3⟩ := hW
  exact pu_total h1 h3 24 (by decide)
theorem z_t27 {s : xS} {J I : xI} (hW : WZ s J I) : S kX4_total 4 [rr 0, ii 27] I (q_p (ii (-2)) I) := by
  obtain ⟨hs, h1, -, h3⟩ := hW
  exact pu_total h1 h3 27 (by decide)
theorem z_block {s : xS} {J I : xI} (hW : WZ s J I) (r : Nat) (hr : r < s.2) {i : Int} (hi : i = (r : Int)) : S kX4_block 4 [rr 0, ii i] I (q_p (ii (gb s.1 (rp s.1 s.2 r) 0)) I) := by
  subst hi
  obtain ⟨hs, h1, -, h3⟩ := hW
  have hn := h3.1.1.n24
  have h := pu_block h1 h3 (r : Int) (by omega)
  have e : qBlock s (r : Int) = gb s.1 (rp s.1 s.2 r) 0 := by
    unfold qBlock
    rw [if_neg (by omega), (rp_ok hr).1]
  rw [e] at h
  exact h
theorem z_blockEnd {s : xS} {J I : xI} (hW : WZ s J I) {i : Int} (hi : i = (s.2 : Int)) : S kX4_block 4 [rr 0, ii i] I (q_p (ii (-5)) I) := by
  subst hi
  obtain ⟨hs, h1, -, h3⟩ := hW
  have hn := h3.1.1.n24
  have h := pu_block h1 h3 (s.2 : Int) (by omega)
  have e : qBlock s (s.2 : Int) = -5 := by
    unfold qBlock
    rw [if_neg (by omega), rk_end]
  rw [e] at h
  exact h
theorem z_blockNeg {s : xS} {J I : xI} (hW : WZ s J I) : S kX4_block 4 [rr 0, ii (-1)] I (q_p (ii (-2)) I) := by
  obtain ⟨hs, h1, -, h3⟩ := hW
  exact pu_block h1 h3 (-1) (by decide)
theorem z_of0 {s : xS} {J I : xI} (hW : WZ s J I) {k : Nat} (hk : k < s.2) (hN : NU s.1 s.2) {b : Int} (hb : b = gb s.1 k 0) : S kX4_ofBlock 6 [rr 0, ii b, ii 0] I (q_i (fun ans I1 => ans = gb s.1 k 1 ∧ WZ s J I1)) := by
  subst hb
  obtain ⟨hs, h1, h2, h3⟩ := hW
  have hb := (h3.1.1.b hk).1
  refine S_monoI (pu_ofBlock h1 h3 (gb s.1 k 0) (by omega) 0 (by decide)) (fun a I1 h => ⟨h.1.trans ?_, ⟨hs, h1.sc h.2, h2.trans h.2.fx, h3⟩⟩)
  unfold qOf
  rw [pl_nu hN hk]
  rfl
theorem z_of1 {s : xS} {J I : xI} (hW : WZ s J I) {k : Nat} (hk : k < s.2) (hN : NU s.1 s.2) {b : Int} (hb : b = gb s.1 k 0) : S kX4_ofBlock 6 [rr 0, ii b, ii 1] I (q_i (fun ans I1 => ans = gb s.1 k 2 ∧ WZ s J I1)) := by
  subst hb
  obtain ⟨hs, h1, h2, h3⟩ := hW
  have hb := (h3.1.1.b hk).1
  refine S_monoI (pu_ofBlock h1 h3 (gb s.1 k 0) (by omega) 1 (by decide)) (fun a I1 h => ⟨h.1.trans ?_, ⟨hs, h1.sc h.2, h2.trans h.2.fx, h3⟩⟩)
  unfold qOf
  rw [pl_nu hN hk]
  rfl
theorem z_of2 {s : xS} {J I : xI} (hW : WZ s J I) {k : Nat} (hk : k < s.2) (hN : NU s.1 s.2) {b : Int} (hb : b = gb s.1 k 0) : S kX4_ofBlock 6 [rr 0, ii b, ii 2] I (q_i (fun ans I1 => ans = gb s.1 k 3 ∧ WZ s J I1)) := by
  subst hb
  obtain ⟨hs, h1, h2, h3⟩ := hW
  have hb := (h3.1.1.b hk).1
  refine S_monoI (pu_ofBlock h1 h3 (gb s.1 k 0) (by omega) 2 (by decide)) (fun a I1 h => ⟨h.1.trans ?_, ⟨hs, h1.sc h.2, h2.trans h.2.fx, h3⟩⟩)
  unfold qOf
  rw [pl_nu hN hk]
  rfl
theorem z_of3 {s : xS} {J I : xI} (hW : WZ s J I) {k : Nat} (hk : k < s.2) (hN : NU s.1 s.2) {b : Int} (hb : b = gb s.1 k 0) : S kX4_ofBlock 6 [rr 0, ii b, ii 3] I (q_i (fun ans I1 => ans = wt s.1 k ∧ WZ s J I1)) := by
  subst hb
  obtain ⟨hs, h1, h2, h3⟩ := hW
  have hb := (h3.1.1.b hk).1
  refine S_monoI (pu_ofBlock h1 h3 (gb s.1 k 0) (by omega) 3 (by decide)) (fun a I1 h => ⟨h.1.trans ?_, ⟨hs, h1.sc h.2, h2.trans h.2.fx, h3⟩⟩)
  unfold qOf
  rw [pl_nu hN hk]
  rfl
theorem z_of4 {s : xS} {J I : xI} (hW : WZ s J I) {k : Nat} (hk : k < s.2) (hN : NU s.1 s.2) {b : Int} (hb : b = gb s.1 k 0) : S kX4_ofBlock 6 [rr 0, ii b, ii 4] I (q_i (fun ans I1 => ans = gb s.1 k 4 ∧ WZ s J I1)) := by
  subst hb
  obtain ⟨hs, h1, h2, h3⟩ := hW
  have hb := (h3.1.1.b hk).1
  refine S_monoI (pu_ofBlock h1 h3 (gb s.1 k 0) (by omega) 4 (by decide)) (fun a I1 h => ⟨h.1.trans ?_, ⟨hs, h1.sc h.2, h2.trans h.2.fx, h3⟩⟩)
  unfold qOf
  rw [pl_nu hN hk]
  rfl
theorem z_of5 {s : xS} {J I : xI} (hW : WZ s J I) {k : Nat} (hk : k < s.2) (hN : NU s.1 s.2) {b : Int} (hb : b = gb s.1 k 0) : S kX4_ofBlock 6 [rr 0, ii b, ii 5] I (q_i (fun ans I1 => ans = gb s.1 k 5 ∧ WZ s J I1)) := by
  subst hb
  obtain ⟨hs, h1, h2, h3⟩ := hW
  have hb := (h3.1.1.b hk).1
  refine S_monoI (pu_ofBlock h1 h3 (gb s.1 k 0) (by omega) 5 (by decide)) (fun a I1 h => ⟨h.1.trans ?_, ⟨hs, h1.sc h.2, h2.trans h.2.fx, h3⟩⟩)
  unfold qOf
  rw [pl_nu hN hk]
  rfl
theorem z_of6 {s : xS} {J I : xI} (hW : WZ s J I) {k : Nat} (hk : k < s.2) (hN : NU s.1 s.2) {b : Int} (hb : b = gb s.1 k 0) : S kX4_ofBlock 6 [rr 0, ii b, ii 6] I (q_i (fun ans I1 => ans = gb s.1 k 6 ∧ WZ s J I1)) := by
  subst hb
  obtain ⟨hs, h1, h2, h3⟩ := hW
  have hb := (h3.1.1.b hk).1
  refine S_monoI (pu_ofBlock h1 h3 (gb s.1 k 0) (by omega) 6 (by decide)) (fun a I1 h => ⟨h.1.trans ?_, ⟨hs, h1.sc h.2, h2.trans h.2.fx, h3⟩⟩)
  unfold qOf
  rw [pl_nu hN hk]
  rfl
theorem z_of7 {s : xS} {J I : xI} (hW : WZ s J I) {k : Nat} (hk : k < s.2) (hN : NU s.1 s.2) {b : Int} (hb : b = gb s.1 k 0) : S kX4_ofBlock 6 [rr 0, ii b, ii 7] I (q_i (fun ans I1 => ans = gb s.1 k 7 ∧ WZ s J I1)) := by
  subst hb
  obtain ⟨hs, h1, h2, h3⟩ := hW
  have hb := (h3.1.1.b hk).1
  refine S_monoI (pu_ofBlock h1 h3 (gb s.1 k 0) (by omega) 7 (by decide)) (fun a I1 h => ⟨h.1.trans ?_, ⟨hs, h1.sc h.2, h2.trans h.2.fx, h3⟩⟩)
  unfold qOf
  rw [pl_nu hN hk]
  rfl
theorem z_of8 {s : xS} {J I : xI} (hW : WZ s J I) {k : Nat} (hk : k < s.2) (hN : NU s.1 s.2) {b : Int} (hb : b = gb s.1 k 0) : S kX4_ofBlock 6 [rr 0, ii b, ii 8] I (q_i (fun ans I1 => ans = (ntU s.1 s.2 (s.1 3)).2.1 k ∧ WZ s J I1)) := by
  subst hb
  obtain ⟨hs, h1, h2, h3⟩ := hW
  have hb := (h3.1.1.b hk).1
  refine S_monoI (pu_ofBlock h1 h3 (gb s.1 k 0) (by omega) 8 (by decide)) (fun a I1 h => ⟨h.1.trans ?_, ⟨hs, h1.sc h.2, h2.trans h.2.fx, h3⟩⟩)
  unfold qOf
  rw [pl_nu hN hk]
  rfl
theorem z_ofno {s : xS} {J I : xI} (hW : WZ s J I) {b : Int} (hb : -2147483648 ≤ b ∧ b ≤ 2147483647) (hp : pl s.1 s.2 b = none) (w : Int) (hw : -2147483648 ≤ w ∧ w ≤ 2147483647) : S kX4_ofBlock 6 [rr 0, ii b, ii w] I (q_i (fun ans I1 => ans = -1 ∧ WZ s J I1)) := by
  obtain ⟨hs, h1, h2, h3⟩ := hW
  refine S_monoI (pu_ofBlock h1 h3 b hb w hw) (fun a I1 h => ⟨h.1.trans ?_, ⟨hs, h1.sc h.2, h2.trans h.2.fx, h3⟩⟩)
  unfold qOf
  rw [hp]
theorem z_sh0 {s : xS} {J I : xI} (hW : WZ s J I) (sh : Nat) (hsh : sh < 3) {i : Int} (hi : i = (sh : Int)) : S kX4_shelf 3 [rr 0, ii i, ii 0] I (q_p (ii (s.1 (6 + sh))) I) := by
  subst hi
  obtain ⟨hs, h1, -, h3⟩ := hW
  have h := pu_shelf h1 h3 (sh : Int) (by omega) 0 (by decide)
  have e : qShelf s (sh : Int) 0 = s.1 (6 + sh) := by
    unfold qShelf
    rw [if_neg (by omega)]
    rfl
  rw [e] at h
  exact h
theorem z_sh1 {s : xS} {J I : xI} (hW : WZ s J I) (sh : Nat) (hsh : sh < 3) {i : Int} (hi : i = (sh : Int)) : S kX4_shelf 3 [rr 0, ii i, ii 1] I (q_p (ii (onF s.1 s.2 (sh : Int) 1)) I) := by
  subst hi
  obtain ⟨hs, h1, -, h3⟩ := hW
  have h := pu_shelf h1 h3 (sh : Int) (by omega) 1 (by decide)
  have e : qShelf s (sh : Int) 1 = onF s.1 s.2 (sh : Int) 1 := by
    unfold qShelf
    rw [if_neg (by omega)]
    rfl
  rw [e] at h
  exact h
theorem z_sh2 {s : xS} {J I : xI} (hW : WZ s J I) (sh : Nat) (hsh : sh < 3) {i : Int} (hi : i = (sh : Int)) : S kX4_shelf 3 [rr 0, ii i, ii 2] I (q_p (ii (onF s.1 s.2 (sh : Int) 0)) I) := by
  subst hi
  obtain ⟨hs, h1, -, h3⟩ := hW
  have h := pu_shelf h1 h3 (sh : Int) (by omega) 2 (by decide)
  have e : qShelf s (sh : Int) 2 = onF s.1 s.2 (sh : Int) 0 := by
    unfold qShelf
    rw [if_neg (by omega)]
    rfl
  rw [e] at h
  exact h
theorem z_sh3 {s : xS} {J I : xI} (hW : WZ s J I) (sh : Nat) (hsh : sh < 3) {i : Int} (hi : i = (sh : Int)) : S kX4_shelf 3 [rr 0, ii i, ii 3] I (q_p (ii (onF s.1 s.2 (sh : Int) 2)) I) := by
  subst hi
  obtain ⟨hs, h1, -, h3⟩ := hW
  have h := pu_shelf h1 h3 (sh : Int) (by omega) 3 (by decide)
  have e : qShelf s (sh : Int) 3 = onF s.1 s.2 (sh : Int) 2 := by
    unfold qShelf
    rw [if_neg (by omega)]
    rfl
  rw [e] at h
  exact h
theorem z_sh4 {s : xS} {J I : xI} (hW : WZ s J I) (sh : Nat) (hsh : sh < 3) {i : Int} (hi : i = (sh : Int)) : S kX4_shelf 3 [rr 0, ii i, ii 4] I (q_p (ii (onF s.1 s.2 (sh : Int) 1 * s.1 (9 + sh))) I) := by
  subst hi
  obtain ⟨hs, h1, -, h3⟩ := hW
  have h := pu_shelf h1 h3 (sh : Int) (by omega) 4 (by decide)
  have e : qShelf s (sh : Int) 4 = onF s.1 s.2 (sh : Int) 1 * s.1 (9 + sh) := by
    unfold qShelf
    rw [if_neg (by omega)]
    rfl
  rw [e] at h
  exact h
theorem z_shno {s : xS} {J I : xI} (hW : WZ s J I) : S kX4_shelf 3 [rr 0, ii 3, ii 0] I (q_p (ii (-1)) I) := by
  obtain ⟨hs, h1, -, h3⟩ := hW
  exact pu_shelf h1 h3 3 (by decide) 0 (by decide)
theorem z_if0 {s : xS} {J I : xI} (hW : WZ s J I) (t : Nat) (ht : 1 ≤ t ∧ t ≤ 99) {i : Int} (hi : i = (t : Int)) : S kX4_ifPassed 5 [rr 0, ii i, ii 0] I (q_i (fun ans I1 => ans = npG s.1 s.2 t 18 - s.1 18 ∧ WZ s J I1)) := by
  subst hi
  obtain ⟨hs, h1, h2, h3⟩ := hW
  refine S_monoI (pu_ifPassed h1 h3 (t : Int) (by omega) 0 (by decide)) (fun a I1 h => ⟨h.1.trans ?_, ⟨hs, h1.sc h.2, h2.trans h.2.fx, h3⟩⟩)
  unfold qIf
  rw [if_neg (by omega), Int.toNat_natCast]
  rfl
theorem z_if1 {s : xS} {J I : xI} (hW : WZ s J I) (t : Nat) (ht : 1 ≤ t ∧ t ≤ 99) {i : Int} (hi : i = (t : Int)) : S kX4_ifPassed 5 [rr 0, ii i, ii 1] I (q_i (fun ans I1 => ans = nsM s.1 s.2 (s.1 3) t ∧ WZ s J I1)) := by
  subst hi
  obtain ⟨hs, h1, h2, h3⟩ := hW
  refine S_monoI (pu_ifPassed h1 h3 (t : Int) (by omega) 1 (by decide)) (fun a I1 h => ⟨h.1.trans ?_, ⟨hs, h1.sc h.2, h2.trans h.2.fx, h3⟩⟩)
  unfold qIf
  rw [if_neg (by omega), Int.toNat_natCast]
  rfl
theorem z_if2 {s : xS} {J I : xI} (hW : WZ s J I) (t : Nat) (ht : 1 ≤ t ∧ t ≤ 99) {i : Int} (hi : i = (t : Int)) : S kX4_ifPassed 5 [rr 0, ii i, ii 2] I (q_i (fun ans I1 => ans = htA (npG s.1 s.2 t) s.2 ∧ WZ s J I1)) := by
  subst hi
  obtain ⟨hs, h1, h2, h3⟩ := hW
  refine S_monoI (pu_ifPassed h1 h3 (t : Int) (by omega) 2 (by decide)) (fun a I1 h => ⟨h.1.trans ?_, ⟨hs, h1.sc h.2, h2.trans h.2.fx, h3⟩⟩)
  unfold qIf
  rw [if_neg (by omega), Int.toNat_natCast]
  rfl
theorem z_if3 {s : xS} {J I : xI} (hW : WZ s J I) (t : Nat) (ht : 1 ≤ t ∧ t ≤ 99) {i : Int} (hi : i = (t : Int)) : S kX4_ifPassed 5 [rr 0, ii i, ii 3] I (q_i (fun ans I1 => ans = onF (npG s.1 s.2 t) s.2 (0 : Nat) 1 ∧ WZ s J I1)) := by
  subst hi
  obtain ⟨hs, h1, h2, h3⟩ := hW
  refine S_monoI (pu_ifPassed h1 h3 (t : Int) (by omega) 3 (by decide)) (fun a I1 h => ⟨h.1.trans ?_, ⟨hs, h1.sc h.2, h2.trans h.2.fx, h3⟩⟩)
  unfold qIf
  rw [if_neg (by omega), Int.toNat_natCast]
  rfl
theorem z_if5 {s : xS} {J I : xI} (hW : WZ s J I) (t : Nat) (ht : 1 ≤ t ∧ t ≤ 99) {i : Int} (hi : i = (t : Int)) : S kX4_ifPassed 5 [rr 0, ii i, ii 5] I (q_i (fun ans I1 => ans = onF (npG s.1 s.2 t) s.2 (2 : Nat) 1 ∧ WZ s J I1)) := by
  subst hi
  obtain ⟨hs, h1, h2, h3⟩ := hW
  refine S_monoI (pu_ifPassed h1 h3 (t : Int) (by omega) 5 (by decide)) (fun a I1 h => ⟨h.1.trans ?_, ⟨hs, h1.sc h.2, h2.trans h.2.fx, h3⟩⟩)
  unfold qIf
  rw [if_neg (by omega), Int.toNat_natCast]
  rfl
theorem z_next {s : xS} {J I : xI} (hW : WZ s J I) : S kX4_nextMove 5 [rr 0] I (q_i (fun ans I1 => ans = qNext s ∧ WZ s J I1)) := by
  obtain ⟨hs, h1, h2, h3⟩ := hW
  exact S_monoI (pu_nextMove h1 h3) (fun a I1 h => ⟨h.1, ⟨hs, h1.sc h.2, h2.trans h.2.fx, h3⟩⟩)
theorem z_blk {s : xS} {J I : xI} (hW : WZ s J I) (r : Nat) (hr : r < s.2) {k : Nat} (hk : rp s.1 s.2 r = k) {i : Int} (hi : i = (r : Int)) : S kX4_block 4 [rr 0, ii i] I (q_p (ii (gb s.1 k 0)) I) := by
  subst hk
  exact z_block hW r hr hi
set_option maxRecDepth 20000 in
set_option maxHeartbeats 4000000 in
theorem za_end {s : xS} {J I : xI} (hW : WZ s J I) (hI : IV s.1 s.2) : Y kL_areShelves 7 475 [some (rr 0), some (ii (s.2 : Int)), some (ii (htA s.1 s.2)), some (ii (pins s.1 s.2)), some (ii (s.2 : Int)), none, none, none, none, none, none, none, none, none] [] I (q_i (fun ans I2 => ans = 1 ∧ WZ s J I2)) := by
  have hG := hW.g
  have hn24 := hG.n24
  have h1 := hG.s1
  have h2 := hG.s2
  have h12 := hI.2.1
  refine X_iloadW dL_areShelves_475 rfl ?_
  refine X_iload dL_areShelves_477 rfl ?_
  refine X_icmp_ne (tgt := 544) dL_areShelves_478 (by decide) (by omega) (fun c_478 => absurd c_478 (by omega)) (fun c_478 => ?_)
  refine X_iload dL_areShelves_481 rfl ?_
  refine X_bipush dL_areShelves_482 (by decide) ?_
  refine X_icmp_gt (tgt := 544) dL_areShelves_484 (by decide) (by omega) (fun c_484 => absurd c_484 (by omega)) (fun c_484 => ?_)
  refine X_aload dL_areShelves_487 rfl ?_
  refine X_iload dL_areShelves_488 rfl ?_
  refine Y_pV dL_areShelves_489 cv_L_15 sh_0 (by decide) (z_blockEnd hW rfl) rfl ?_
  refine X_bipush dL_areShelves_492 (by decide) ?_
  refine X_icmp_ne (tgt := 544) dL_areShelves_494 (by decide) (by decide) (fun c_494 => absurd rfl c_494) (fun c_494 => ?_)
  refine X_aload dL_areShelves_497 rfl ?_
  refine X_iconst dL_areShelves_498 ?_
  refine Y_pV dL_areShelves_499 cv_L_15 sh_0 (by decide) (z_blockNeg hW) rfl ?_
  refine X_bipush dL_areShelves_502 (by decide) ?_
  refine X_icmp_ne (tgt := 544) dL_areShelves_504 (by decide) (by decide) (fun c_504 => absurd rfl c_504) (fun c_504 => ?_)
  refine X_aload dL_areShelves_507 rfl ?_
  refine X_bipush dL_areShelves_508 (by decide) ?_
  refine Y_pV dL_areShelves_510 cv_L_8 sh_0 (by decide) (z_ht hW) rfl ?_
  refine X_iload dL_areShelves_513 rfl ?_
  refine X_same_ne (tgt := 544) dL_areShelves_514 (by decide) rfl ?_
  refine X_aload dL_areShelves_517 rfl ?_
  refine X_bipush dL_areShelves_518 (by decide) ?_
  refine Y_pV dL_areShelves_520 cv_L_8 sh_0 (by decide) (z_pins hW) rfl ?_
  refine X_iload dL_areShelves_523 rfl ?_
  refine X_same_ne (tgt := 544) dL_areShelves_524 (by decide) rfl ?_
  refine X_aload dL_areShelves_527 rfl ?_
  refine X_iconst dL_areShelves_528 ?_
  refine Y_pV dL_areShelves_529 cv_L_8 sh_0 (by decide) (z_num hW 2 (by decide) rfl) rfl ?_
  refine X_aload dL_areShelves_532 rfl ?_
  refine X_iconst dL_areShelves_533 ?_
  refine Y_pV dL_areShelves_534 cv_L_8 sh_0 (by decide) (z_num hW 1 (by decide) rfl) rfl ?_
  refine X_icmp_gt (tgt := 544) dL_areShelves_537 (by decide) (by omega) (fun c_537 => absurd c_537 (by omega)) (fun c_537 => ?_)
  refine X_iconst dL_areShelves_540 ?_
  refine X_goto (tgt := 545) dL_areShelves_541 (by decide) ?_
  refine X_iret dL_areShelves_545 (Or.inr ⟨rfl, by omega⟩) ?_
  exact ⟨rfl, rfl, _, rfl, rfl, hW⟩
set_option maxRecDepth 20000 in
set_option maxHeartbeats 4000000 in
theorem za_inner {s : xS} {J : xI} (hI : IV s.1 s.2) (hG : GI s.1 s.2) (sh : Nat) (hs : sh < 3) (bl : Int) (hk : ∀ I, WZ s J I → Y kL_areShelves 7 371 [some (rr 0), some (ii (s.2 : Int)), some (ii (htA s.1 s.2)), some (ii (pins s.1 s.2)), some (ii bl), none, none, some (ii (sh : Int)), some (ii (onF s.1 s.2 sh 1)), some (ii (onF s.1 s.2 sh 0)), some (ii (onF s.1 s.2 sh 2)), some (ii (s.2 : Int)), none, none] [] I (q_i (fun ans I2 => ans = 1 ∧ WZ s J I2))) : ∀ (m r : Nat), r + m = s.2 → ∀ I, WZ s J I → Y kL_areShelves 7 268 [some (rr 0), some (ii (s.2 : Int)), some (ii (htA s.1 s.2)), some (ii (pins s.1 s.2)), some (ii bl), none, none, some (ii (sh : Int)), some (ii (ofP s.1 s.2 sh 1 r)), some (ii (ofP s.1 s.2 sh 0 r)), some (ii (ofP s.1 s.2 sh 2 r)), some (ii (r : Int)), none, none] [] I (q_i (fun ans I2 => ans = 1 ∧ WZ s J I2)) := by
  have hN := hI.2.2.1
  have hn24 := hG.n24
  intro m
  induction m with
  | zero =>
    intro r hr I hW
    refine X_iloadW dL_areShelves_268 rfl ?_
    refine X_iload dL_areShelves_270 rfl ?_
    refine X_icmp_ge (tgt := 371) dL_areShelves_271 (by decide) (by omega) (fun c_271 => ?_) (fun c_271 => absurd c_271 (by omega))
    rw [show r = s.2 by omega, ofP_end, ofP_end, ofP_end]
    exact hk _ hW
  | succ m ih =>
    intro r hr I hW
    obtain ⟨k, ek⟩ : ∃ k, rp s.1 s.2 r = k := ⟨_, rfl⟩
    have hk : k < s.2 := by rw [← ek]; exact (rp_ok (by omega)).2.1
    have hb := hG.b hk
    refine X_iloadW dL_areShelves_268 rfl ?_
    refine X_iload dL_areShelves_270 rfl ?_
    refine X_icmp_ge (tgt := 371) dL_areShelves_271 (by decide) (by omega) (fun c_271 => absurd c_271 (by omega)) (fun c_271 => ?_)
    refine X_iloadW dL_areShelves_274 rfl ?_
    refine X_bipush dL_areShelves_276 (by decide) ?_
    refine X_icmp_ge (tgt := 371) dL_areShelves_278 (by decide) (by omega) (fun c_278 => absurd c_278 (by omega)) (fun c_278 => ?_)
    refine X_aload dL_areShelves_281 rfl ?_
    refine X_iloadW dL_areShelves_282 rfl ?_
    refine Y_pV dL_areShelves_284 cv_L_15 sh_0 (by decide) (z_blk hW r (by omega) ek rfl) rfl ?_
    refine X_istoreW dL_areShelves_287 (by decide) ?_
    dsimp only [List.set]
    refine X_aload dL_areShelves_289 rfl ?_
    refine X_iloadW dL_areShelves_290 rfl ?_
    refine X_iconst dL_areShelves_292 ?_
    refine Y_iV dL_areShelves_293 cv_L_18 sh_0 (by decide) (z_of2 hW hk hN rfl) rfl (fun z I hz => ?_)
    obtain ⟨rfl, hW⟩ := hz
    refine X_iloadW dL_areShelves_296 rfl ?_
    refine X_icmp_ne (tgt := 305) dL_areShelves_298 (by decide) (by omega) (fun c_298 => ?_) (fun c_298 => ?_)
    · refine X_iconst dL_areShelves_305 ?_
      refine X_istoreW dL_areShelves_306 (by decide) ?_
      dsimp only [List.set]
      refine X_iloadW dL_areShelves_308 rfl ?_
      refine X_iloadW dL_areShelves_310 rfl ?_
      refine X_if_eq (tgt := 325) dL_areShelves_312 (by decide) (by decide) (fun c_312 => ?_) (fun c_312 => absurd rfl c_312)
      refine X_iconst dL_areShelves_325 ?_
      refine X_iadd dL_areShelves_326 ?_
      refine X_istoreW dL_areShelves_327 (by decide) ?_
      dsimp only [List.set]
      refine X_iloadW dL_areShelves_329 rfl ?_
      refine X_iloadW dL_areShelves_331 rfl ?_
      refine X_if_eq (tgt := 340) dL_areShelves_333 (by decide) (by decide) (fun c_333 => ?_) (fun c_333 => absurd rfl c_333)
      refine X_iconst dL_areShelves_340 ?_
      refine X_iadd dL_areShelves_341 ?_
      refine X_istoreW dL_areShelves_342 (by decide) ?_
      dsimp only [List.set]
      refine X_iloadW dL_areShelves_344 rfl ?_
      refine X_iloadW dL_areShelves_346 rfl ?_
      refine X_if_eq (tgt := 361) dL_areShelves_348 (by decide) (by decide) (fun c_348 => ?_) (fun c_348 => absurd rfl c_348)
      refine X_iconst dL_areShelves_361 ?_
      refine X_iadd dL_areShelves_362 ?_
      refine X_istoreW dL_areShelves_363 (by decide) ?_
      dsimp only [List.set]
      refine X_iinc dL_areShelves_365 rfl ?_
      dsimp only [List.set]
      refine X_goto (tgt := 268) dL_areShelves_368 (by decide) ?_
      refine X_drop 12 ?_
      refine X_drop 13 ?_
      dsimp only [List.set]
      have h9 := ih (r + 1) (by omega) _ hW
      rw [ofP_step ek, ofP_step ek, ofP_step ek, if_neg c_298, if_neg c_298, if_neg c_298] at h9
      exact h9
    · refine X_iconst dL_areShelves_301 ?_
      refine X_goto (tgt := 306) dL_areShelves_302 (by decide) ?_
      refine X_istoreW dL_areShelves_306 (by decide) ?_
      dsimp only [List.set]
      refine X_iloadW dL_areShelves_308 rfl ?_
      refine X_iloadW dL_areShelves_310 rfl ?_
      refine X_if_eq (tgt := 325) dL_areShelves_312 (by decide) (by decide) (fun c_312 => absurd c_312 (by decide)) (fun c_312 => ?_)
      refine X_aload dL_areShelves_315 rfl ?_
      refine X_iloadW dL_areShelves_316 rfl ?_
      refine X_iconst dL_areShelves_318 ?_
      refine Y_iV dL_areShelves_319 cv_L_18 sh_0 (by decide) (z_of0 hW hk hN rfl) rfl (fun z I hz => ?_)
      obtain ⟨rfl, hW⟩ := hz
      refine X_goto (tgt := 326) dL_areShelves_322 (by decide) ?_
      refine X_iadd dL_areShelves_326 ?_
      refine X_istoreW dL_areShelves_327 (by decide) ?_
      dsimp only [List.set]
      refine X_iloadW dL_areShelves_329 rfl ?_
      refine X_iloadW dL_areShelves_331 rfl ?_
      refine X_if_eq (tgt := 340) dL_areShelves_333 (by decide) (by decide) (fun c_333 => absurd c_333 (by decide)) (fun c_333 => ?_)
      refine X_iconst dL_areShelves_336 ?_
      refine X_goto (tgt := 341) dL_areShelves_337 (by decide) ?_
      refine X_iadd dL_areShelves_341 ?_
      refine X_istoreW dL_areShelves_342 (by decide) ?_
      dsimp only [List.set]
      refine X_iloadW dL_areShelves_344 rfl ?_
      refine X_iloadW dL_areShelves_346 rfl ?_
      refine X_if_eq (tgt := 361) dL_areShelves_348 (by decide) (by decide) (fun c_348 => absurd c_348 (by decide)) (fun c_348 => ?_)
      refine X_aload dL_areShelves_351 rfl ?_
      refine X_iloadW dL_areShelves_352 rfl ?_
      refine X_iconst dL_areShelves_354 ?_
      refine Y_iV dL_areShelves_355 cv_L_18 sh_0 (by decide) (z_of1 hW hk hN rfl) rfl (fun z I hz => ?_)
      obtain ⟨rfl, hW⟩ := hz
      refine X_goto (tgt := 362) dL_areShelves_358 (by decide) ?_
      refine X_iadd dL_areShelves_362 ?_
      refine X_istoreW dL_areShelves_363 (by decide) ?_
      dsimp only [List.set]
      refine X_iinc dL_areShelves_365 rfl ?_
      dsimp only [List.set]
      refine X_goto (tgt := 268) dL_areShelves_368 (by decide) ?_
      refine X_drop 12 ?_
      refine X_drop 13 ?_
      dsimp only [List.set]
      have h9 := ih (r + 1) (by omega) _ hW
      rw [ofP_step ek, ofP_step ek, ofP_step ek, if_pos c_298, if_pos c_298, if_pos c_298] at h9
      exact h9
set_option maxRecDepth 20000 in
set_option maxHeartbeats 4000000 in
theorem za_shelves {s : xS} {J : xI} (hI : IV s.1 s.2) (hG : GI s.1 s.2) : ∀ (m sh : Nat), sh + m = 3 → ∀ I, WZ s J I → Y kL_areShelves 7 250 [some (rr 0), some (ii (s.2 : Int)), some (ii (htA s.1 s.2)), some (ii (pins s.1 s.2)), some (ii (sm (fun j : Nat => onF s.1 s.2 (j : Int) 0) sh)), none, none, some (ii (sh : Int)), none, none, none, none, none, none] [] I (q_i (fun ans I2 => ans = 1 ∧ WZ s J I2)) := by
  have hn24 := hG.n24
  intro m
  induction m with
  | zero =>
    intro sh hsh I hW
    refine X_iloadW dL_areShelves_250 rfl ?_
    refine X_iconst dL_areShelves_252 ?_
    refine X_icmp_ge (tgt := 475) dL_areShelves_253 (by decide) (by omega) (fun c_253 => ?_) (fun c_253 => absurd c_253 (by omega))
    have h3 : sh = 3 := by omega
    subst h3
    refine X_drop 7 ?_
    dsimp only [List.set]
    have e3 : sm (fun j : Nat => onF s.1 s.2 (j : Int) 0) 3 = (s.2 : Int) := by
      show 0 + onF s.1 s.2 0 0 + onF s.1 s.2 1 0 + onF s.1 s.2 2 0 = _
      have := on_n hG
      omega
    rw [e3]
    exact za_end hW hI
  | succ m ih =>
    intro sh hsh I hW
    have hcont : ∀ I, WZ s J I → Y kL_areShelves 7 371 [some (rr 0), some (ii (s.2 : Int)), some (ii (htA s.1 s.2)), some (ii (pins s.1 s.2)), some (ii (sm (fun j : Nat => onF s.1 s.2 (j : Int) 0) sh)), none, none, some (ii (sh : Int)), some (ii (onF s.1 s.2 sh 1)), some (ii (onF s.1 s.2 sh 0)), some (ii (onF s.1 s.2 sh 2)), some (ii (s.2 : Int)), none, none] [] I (q_i (fun ans I2 => ans = 1 ∧ WZ s J I2)) := by
      intro I hW
      have hr := hI.1 sh (by omega)
      have ho := on_bounds hG (sh : Int)
      have h6 := hG.s6 (j := sh) (by omega)
      refine X_aload dL_areShelves_371 rfl ?_
      refine X_iloadW dL_areShelves_372 rfl ?_
      refine X_iconst dL_areShelves_374 ?_
      refine Y_pV dL_areShelves_375 cv_L_22 sh_0 (by decide) (z_sh0 hW sh (by omega) rfl) rfl ?_
      refine X_aload dL_areShelves_378 rfl ?_
      refine X_bipush dL_areShelves_379 (by decide) ?_
      refine X_iloadW dL_areShelves_381 rfl ?_
      refine X_iadd dL_areShelves_383 ?_
      refine Y_pV dL_areShelves_384 cv_L_8 sh_0 (by decide) (z_num hW (6 + sh) (by omega) (by omega)) rfl ?_
      refine X_same_ne (tgt := 460) dL_areShelves_387 (by decide) rfl ?_
      refine X_aload dL_areShelves_390 rfl ?_
      refine X_iloadW dL_areShelves_391 rfl ?_
      refine X_iconst dL_areShelves_393 ?_
      refine Y_pV dL_areShelves_394 cv_L_22 sh_0 (by decide) (z_sh1 hW sh (by omega) rfl) rfl ?_
      refine X_iloadW dL_areShelves_397 rfl ?_
      refine X_same_ne (tgt := 460) dL_areShelves_399 (by decide) rfl ?_
      refine X_iloadW dL_areShelves_402 rfl ?_
      refine X_aload dL_areShelves_404 rfl ?_
      refine X_iloadW dL_areShelves_405 rfl ?_
      refine X_iconst dL_areShelves_407 ?_
      refine Y_pV dL_areShelves_408 cv_L_22 sh_0 (by decide) (z_sh0 hW sh (by omega) rfl) rfl ?_
      refine X_icmp_gt (tgt := 460) dL_areShelves_411 (by decide) (by omega) (fun c_411 => absurd c_411 (by omega)) (fun c_411 => ?_)
      refine X_aload dL_areShelves_414 rfl ?_
      refine X_iloadW dL_areShelves_415 rfl ?_
      refine X_iconst dL_areShelves_417 ?_
      refine Y_pV dL_areShelves_418 cv_L_22 sh_0 (by decide) (z_sh2 hW sh (by omega) rfl) rfl ?_
      refine X_iloadW dL_areShelves_421 rfl ?_
      refine X_same_ne (tgt := 460) dL_areShelves_423 (by decide) rfl ?_
      refine X_aload dL_areShelves_426 rfl ?_
      refine X_iloadW dL_areShelves_427 rfl ?_
      refine X_iconst dL_areShelves_429 ?_
      refine Y_pV dL_areShelves_430 cv_L_22 sh_0 (by decide) (z_sh3 hW sh (by omega) rfl) rfl ?_
      refine X_iloadW dL_areShelves_433 rfl ?_
      refine X_same_ne (tgt := 460) dL_areShelves_435 (by decide) rfl ?_
      refine X_aload dL_areShelves_438 rfl ?_
      refine X_iloadW dL_areShelves_439 rfl ?_
      refine X_iconst dL_areShelves_441 ?_
      refine Y_pV dL_areShelves_442 cv_L_22 sh_0 (by decide) (z_sh4 hW sh (by omega) rfl) rfl ?_
      refine X_iloadW dL_areShelves_445 rfl ?_
      refine X_aload dL_areShelves_447 rfl ?_
      refine X_bipush dL_areShelves_448 (by decide) ?_
      refine X_iloadW dL_areShelves_450 rfl ?_
      refine X_iadd dL_areShelves_452 ?_
      refine Y_pV dL_areShelves_453 cv_L_8 sh_0 (by decide) (z_num hW (9 + sh) (by omega) (by omega)) rfl ?_
      refine X_imul dL_areShelves_456 ?_
      refine X_same_eq (tgt := 462) dL_areShelves_457 (by decide) rfl ?_
      refine X_iloadW dL_areShelves_462 rfl ?_
      refine X_iloadW dL_areShelves_464 rfl ?_
      refine X_iadd dL_areShelves_466 ?_
      refine X_istoreW dL_areShelves_467 (by decide) ?_
      dsimp only [List.set]
      refine X_iinc dL_areShelves_469 rfl ?_
      dsimp only [List.set]
      refine X_goto (tgt := 250) dL_areShelves_472 (by decide) ?_
      refine X_drop 8 ?_
      refine X_drop 9 ?_
      refine X_drop 10 ?_
      refine X_drop 11 ?_
      dsimp only [List.set]
      exact ih (sh + 1) (by omega) _ hW
    refine X_iloadW dL_areShelves_250 rfl ?_
    refine X_iconst dL_areShelves_252 ?_
    refine X_icmp_ge (tgt := 475) dL_areShelves_253 (by decide) (by omega) (fun c_253 => absurd c_253 (by omega)) (fun c_253 => ?_)
    refine X_iconst dL_areShelves_256 ?_
    refine X_istoreW dL_areShelves_257 (by decide) ?_
    dsimp only [List.set]
    refine X_iconst dL_areShelves_259 ?_
    refine X_istoreW dL_areShelves_260 (by decide) ?_
    dsimp only [List.set]
    refine X_iconst dL_areShelves_262 ?_
    refine X_istoreW dL_areShelves_263 (by decide) ?_
    dsimp only [List.set]
    refine X_iconst dL_areShelves_265 ?_
    refine X_istoreW dL_areShelves_266 (by decide) ?_
    dsimp only [List.set]
    exact za_inner hI hG sh (by omega) _ hcont s.2 0 (Nat.zero_add _) _ hW
set_option maxRecDepth 20000 in
set_option maxHeartbeats 4000000 in
theorem za_ranks {s : xS} {J : xI} (hI : IV s.1 s.2) (hG : GI s.1 s.2) : ∀ (m r : Nat), r + m = s.2 → ∀ (last hv : Int), -1 ≤ last ∧ last ≤ 999 → 0 ≤ hv ∧ hv ≤ 100000 → (r < s.2 → gb s.1 (rp s.1 s.2 r) 2 < hv ∨ (gb s.1 (rp s.1 s.2 r) 2 = hv ∧ last < gb s.1 (rp s.1 s.2 r) 0)) → ∀ I, WZ s J I → Y kL_areShelves 7 24 [some (rr 0), some (ii (s.2 : Int)), some (ii (rsm s.1 s.2 2 r)), some (ii (rsm s.1 s.2 4 r)), some (ii 0), some (ii last), some (ii hv), some (ii (r : Int)), none, none, none, none, none, none] [] I (q_i (fun ans I2 => ans = 1 ∧ WZ s J I2)) := by
  have hn24 := hG.n24
  have hN := hI.2.2.1
  have hg1 := hG.s1
  have hg2 := hG.s2
  have hg16 := hG.s16
  intro m
  induction m with
  | zero =>
    intro r hr last hv hl hh ho I hW
    refine X_iloadW dL_areShelves_24 rfl ?_
    refine X_iload dL_areShelves_26 rfl ?_
    refine X_icmp_ge (tgt := 247) dL_areShelves_27 (by decide) (by omega) (fun c_27 => ?_) (fun c_27 => absurd c_27 (by omega))
    refine X_iconst dL_areShelves_247 ?_
    refine X_istoreW dL_areShelves_248 (by decide) ?_
    dsimp only [List.set]
    rw [show r = s.2 by omega, rsm_end, rsm_end]
    refine X_drop 5 ?_
    refine X_drop 6 ?_
    dsimp only [List.set]
    rw [← ht_sm hG]
    exact za_shelves hI hG 3 0 rfl _ hW
  | succ m ih =>
    intro r hr last hv hl hh ho I hW
    have hrp := rp_ok (g := s.1) (n := s.2) (r := r) (by omega)
    have ho := ho (by omega)
    obtain ⟨k, ek⟩ : ∃ k, rp s.1 s.2 r = k := ⟨_, rfl⟩
    rw [ek] at hrp ho
    have hk := hrp.2.1
    have hb := hG.b hk
    have h16 := hI.2.2.2.1 k hk
    have h5 := hI.2.2.2.2.1 k hk
    have hw := wt_bounds s.1 k
    have hnx : r + 1 < s.2 → gb s.1 (rp s.1 s.2 (r + 1)) 2 < gb s.1 k 2 ∨ (gb s.1 (rp s.1 s.2 (r + 1)) 2 = gb s.1 k 2 ∧ gb s.1 k 0 < gb s.1 (rp s.1 s.2 (r + 1)) 0) := fun h => by
      have h9 := rp_next (g := s.1) h
      rw [ek] at h9
      rcases h9 with q | q
      · exact Or.inl q
      · exact Or.inr ⟨q.1.symm, hN _ _ q.2 (rp_ok h).2.1⟩
    have h218 : ∀ I, WZ s J I → Y kL_areShelves 7 218 [some (rr 0), some (ii (s.2 : Int)), some (ii (rsm s.1 s.2 2 r)), some (ii (rsm s.1 s.2 4 r)), some (ii 0), some (ii last), some (ii hv), some (ii (r : Int)), some (ii (gb s.1 k 0)), some (ii (gb s.1 k 2)), some (ii (gb s.1 k 3)), some (ii (wt s.1 k)), some (ii 1), none] [] I (q_i (fun ans I2 => ans = 1 ∧ WZ s J I2)) := by
      intro I hW
      refine X_iload dL_areShelves_218 rfl ?_
      refine X_iloadW dL_areShelves_219 rfl ?_
      refine X_iadd dL_areShelves_221 ?_
      refine X_istore dL_areShelves_222 (by decide) ?_
      dsimp only [List.set]
      refine X_iload dL_areShelves_223 rfl ?_
      refine X_aload dL_areShelves_224 rfl ?_
      refine X_iloadW dL_areShelves_225 rfl ?_
      refine X_iconst dL_areShelves_227 ?_
      refine Y_iV dL_areShelves_228 cv_L_18 sh_0 (by decide) (z_of4 hW hk hN rfl) rfl (fun z I hz => ?_)
      obtain ⟨rfl, hW⟩ := hz
      refine X_iadd dL_areShelves_231 ?_
      refine X_istore dL_areShelves_232 (by decide) ?_
      dsimp only [List.set]
      refine X_iloadW dL_areShelves_233 rfl ?_
      refine X_istoreW dL_areShelves_235 (by decide) ?_
      dsimp only [List.set]
      refine X_iloadW dL_areShelves_237 rfl ?_
      refine X_istoreW dL_areShelves_239 (by decide) ?_
      dsimp only [List.set]
      refine X_iinc dL_areShelves_241 rfl ?_
      dsimp only [List.set]
      refine X_goto (tgt := 24) dL_areShelves_244 (by decide) ?_
      refine X_drop 8 ?_
      refine X_drop 9 ?_
      refine X_drop 10 ?_
      refine X_drop 11 ?_
      refine X_drop 12 ?_
      dsimp only [List.set]
      have h9 := ih (r + 1) (by omega) (gb s.1 k 0) (gb s.1 k 2) (by omega) (by omega) hnx _ hW
      rw [rsm_step ek, rsm_step ek] at h9
      exact h9
    have h143 : ∀ I, WZ s J I → Y kL_areShelves 7 143 [some (rr 0), some (ii (s.2 : Int)), some (ii (rsm s.1 s.2 2 r)), some (ii (rsm s.1 s.2 4 r)), some (ii 0), some (ii last), some (ii hv), some (ii (r : Int)), some (ii (gb s.1 k 0)), some (ii (gb s.1 k 2)), some (ii (gb s.1 k 3)), some (ii (wt s.1 k)), none, none] [] I (q_i (fun ans I2 => ans = 1 ∧ WZ s J I2)) := by
      intro I hW
      refine X_iloadW dL_areShelves_143 rfl ?_
      refine X_if_lt (tgt := 192) dL_areShelves_145 (by decide) (by omega) (fun c_145 => absurd c_145 (by omega)) (fun c_145 => ?_)
      refine X_iloadW dL_areShelves_148 rfl ?_
      refine X_iconst dL_areShelves_150 ?_
      refine X_icmp_ge (tgt := 192) dL_areShelves_151 (by decide) (by omega) (fun c_151 => absurd c_151 (by omega)) (fun c_151 => ?_)
      refine X_aload dL_areShelves_154 rfl ?_
      refine X_iloadW dL_areShelves_155 rfl ?_
      refine X_iconst dL_areShelves_157 ?_
      refine Y_iV dL_areShelves_158 cv_L_18 sh_0 (by decide) (z_of3 hW hk hN rfl) rfl (fun z I hz => ?_)
      obtain ⟨rfl, hW⟩ := hz
      refine X_iloadW dL_areShelves_161 rfl ?_
      refine X_same_ne (tgt := 192) dL_areShelves_163 (by decide) rfl ?_
      refine X_aload dL_areShelves_166 rfl ?_
      refine X_iloadW dL_areShelves_167 rfl ?_
      refine X_iconst dL_areShelves_169 ?_
      refine Y_iV dL_areShelves_170 cv_L_18 sh_0 (by decide) (z_of0 hW hk hN rfl) rfl (fun z I hz => ?_)
      obtain ⟨rfl, hW⟩ := hz
      refine X_if_le (tgt := 192) dL_areShelves_173 (by decide) (by omega) (fun c_173 => absurd c_173 (by omega)) (fun c_173 => ?_)
      refine X_aload dL_areShelves_176 rfl ?_
      refine X_iloadW dL_areShelves_177 rfl ?_
      refine X_iconst dL_areShelves_179 ?_
      refine Y_iV dL_areShelves_180 cv_L_18 sh_0 (by decide) (z_of0 hW hk hN rfl) rfl (fun z I hz => ?_)
      obtain ⟨rfl, hW⟩ := hz
      refine X_bipush dL_areShelves_183 (by decide) ?_
      refine X_icmp_ge (tgt := 192) dL_areShelves_185 (by decide) (by omega) (fun c_185 => absurd c_185 (by omega)) (fun c_185 => ?_)
      refine X_iconst dL_areShelves_188 ?_
      refine X_goto (tgt := 193) dL_areShelves_189 (by decide) ?_
      refine X_istoreW dL_areShelves_193 (by decide) ?_
      dsimp only [List.set]
      refine X_iloadW dL_areShelves_195 rfl ?_
      refine X_if_eq (tgt := 216) dL_areShelves_197 (by decide) (by decide) (fun c_197 => absurd c_197 (by decide)) (fun c_197 => ?_)
      refine X_aload dL_areShelves_200 rfl ?_
      refine X_iloadW dL_areShelves_201 rfl ?_
      refine X_iconst dL_areShelves_203 ?_
      refine Y_iV dL_areShelves_204 cv_L_18 sh_0 (by decide) (z_of5 hW hk hN rfl) rfl (fun z I hz => ?_)
      obtain ⟨rfl, hW⟩ := hz
      refine X_if_le (tgt := 218) dL_areShelves_207 (by decide) (by omega) (fun c_207 => ?_) (fun c_207 => ?_)
      · exact h218 _ hW
      · refine X_iloadW dL_areShelves_210 rfl ?_
        refine X_iconst dL_areShelves_212 ?_
        refine X_icmp_eq (tgt := 218) dL_areShelves_213 (by decide) (by omega) (fun c_213 => ?_) (fun c_213 => absurd c_213 (by omega))
        exact h218 _ hW
    have h92 : ∀ I, WZ s J I → Y kL_areShelves 7 92 [some (rr 0), some (ii (s.2 : Int)), some (ii (rsm s.1 s.2 2 r)), some (ii (rsm s.1 s.2 4 r)), some (ii 0), some (ii last), some (ii hv), some (ii (r : Int)), some (ii (gb s.1 k 0)), some (ii (gb s.1 k 2)), some (ii (gb s.1 k 3)), none, none, none] [ii (wt s.1 k)] I (q_i (fun ans I2 => ans = 1 ∧ WZ s J I2)) := by
      intro I hW
      refine X_istoreW dL_areShelves_92 (by decide) ?_
      dsimp only [List.set]
      refine X_iloadW dL_areShelves_94 rfl ?_
      refine X_if_lt (tgt := 192) dL_areShelves_96 (by decide) (by omega) (fun c_96 => absurd c_96 (by omega)) (fun c_96 => ?_)
      refine X_iloadW dL_areShelves_99 rfl ?_
      refine X_aload dL_areShelves_101 rfl ?_
      refine X_bipush dL_areShelves_102 (by decide) ?_
      refine Y_pV dL_areShelves_104 cv_L_8 sh_0 (by decide) (z_num hW 16 (by decide) rfl) rfl ?_
      refine X_icmp_ge (tgt := 192) dL_areShelves_107 (by decide) (by omega) (fun c_107 => absurd c_107 (by omega)) (fun c_107 => ?_)
      refine X_iloadW dL_areShelves_110 rfl ?_
      refine X_if_lt (tgt := 192) dL_areShelves_112 (by decide) (by omega) (fun c_112 => absurd c_112 (by omega)) (fun c_112 => ?_)
      refine X_iloadW dL_areShelves_115 rfl ?_
      refine X_ldc (z := 100000) dL_areShelves_117 rfl lw_L_14 (by decide) ?_
      refine X_icmp_ge (tgt := 192) dL_areShelves_119 (by decide) (by omega) (fun c_119 => absurd c_119 (by omega)) (fun c_119 => ?_)
      refine X_iloadW dL_areShelves_122 rfl ?_
      refine X_iloadW dL_areShelves_124 rfl ?_
      refine X_icmp_lt (tgt := 143) dL_areShelves_126 (by decide) (by omega) (fun c_126 => ?_) (fun c_126 => ?_)
      · exact h143 _ hW
      · refine X_iloadW dL_areShelves_129 rfl ?_
        refine X_iloadW dL_areShelves_131 rfl ?_
        refine X_icmp_ne (tgt := 192) dL_areShelves_133 (by decide) (by omega) (fun c_133 => absurd c_133 (by omega)) (fun c_133 => ?_)
        refine X_iloadW dL_areShelves_136 rfl ?_
        refine X_iloadW dL_areShelves_138 rfl ?_
        refine X_icmp_le (tgt := 192) dL_areShelves_140 (by decide) (by omega) (fun c_140 => absurd c_140 (by omega)) (fun c_140 => ?_)
        exact h143 _ hW
    refine X_iloadW dL_areShelves_24 rfl ?_
    refine X_iload dL_areShelves_26 rfl ?_
    refine X_icmp_ge (tgt := 247) dL_areShelves_27 (by decide) (by omega) (fun c_27 => absurd c_27 (by omega)) (fun c_27 => ?_)
    refine X_iloadW dL_areShelves_30 rfl ?_
    refine X_bipush dL_areShelves_32 (by decide) ?_
    refine X_icmp_ge (tgt := 247) dL_areShelves_34 (by decide) (by omega) (fun c_34 => absurd c_34 (by omega)) (fun c_34 => ?_)
    refine X_aload dL_areShelves_37 rfl ?_
    refine X_iloadW dL_areShelves_38 rfl ?_
    refine Y_pV dL_areShelves_40 cv_L_15 sh_0 (by decide) (z_blk hW r (by omega) ek rfl) rfl ?_
    refine X_istoreW dL_areShelves_43 (by decide) ?_
    dsimp only [List.set]
    refine X_aload dL_areShelves_45 rfl ?_
    refine X_iloadW dL_areShelves_46 rfl ?_
    refine X_iconst dL_areShelves_48 ?_
    refine Y_iV dL_areShelves_49 cv_L_18 sh_0 (by decide) (z_of1 hW hk hN rfl) rfl (fun z I hz => ?_)
    obtain ⟨rfl, hW⟩ := hz
    refine X_istoreW dL_areShelves_52 (by decide) ?_
    dsimp only [List.set]
    refine X_aload dL_areShelves_54 rfl ?_
    refine X_iloadW dL_areShelves_55 rfl ?_
    refine X_iconst dL_areShelves_57 ?_
    refine Y_iV dL_areShelves_58 cv_L_18 sh_0 (by decide) (z_of2 hW hk hN rfl) rfl (fun z I hz => ?_)
    obtain ⟨rfl, hW⟩ := hz
    refine X_istoreW dL_areShelves_61 (by decide) ?_
    dsimp only [List.set]
    refine X_iloadW dL_areShelves_63 rfl ?_
    refine X_aload dL_areShelves_65 rfl ?_
    refine X_iconst dL_areShelves_66 ?_
    refine Y_pV dL_areShelves_67 cv_L_8 sh_0 (by decide) (z_num hW 1 (by decide) rfl) rfl ?_
    refine X_icmp_lt (tgt := 77) dL_areShelves_70 (by decide) (by omega) (fun c_70 => ?_) (fun c_70 => ?_)
    · refine X_iloadW dL_areShelves_77 rfl ?_
      refine X_aload dL_areShelves_79 rfl ?_
      refine X_iconst dL_areShelves_80 ?_
      refine Y_pV dL_areShelves_81 cv_L_8 sh_0 (by decide) (z_num hW 2 (by decide) rfl) rfl ?_
      refine X_icmp_lt (tgt := 91) dL_areShelves_84 (by decide) (by omega) (fun c_84 => ?_) (fun c_84 => ?_)
      · refine X_iconst dL_areShelves_91 ?_
        have e9 : wt s.1 k = 2 := by unfold wt; rw [if_neg (by omega), if_neg (by omega)]
        have h9 := h92 _ hW
        rw [e9] at h9
        exact h9
      · refine X_iconst dL_areShelves_87 ?_
        refine X_goto (tgt := 92) dL_areShelves_88 (by decide) ?_
        have e9 : wt s.1 k = 1 := by unfold wt; rw [if_neg (by omega), if_pos (by omega)]
        have h9 := h92 _ hW
        rw [e9] at h9
        exact h9
    · refine X_iconst dL_areShelves_73 ?_
      refine X_goto (tgt := 92) dL_areShelves_74 (by decide) ?_
      have e9 : wt s.1 k = 0 := by unfold wt; rw [if_pos (by omega)]
      have h9 := h92 _ hW
      rw [e9] at h9
      exact h9
set_option maxRecDepth 20000 in
set_option maxHeartbeats 4000000 in
theorem z_are {s : xS} {J I : xI} (hW : WZ s J I) (hI : IV s.1 s.2) : S kL_areShelves 7 [rr 0] I (q_i (fun ans I2 => ans = 1 ∧ WZ s J I2)) := by
  have hG := hW.g
  refine Sp_intro (by decide +kernel) (Nat.le_of_ble_eq_true rfl) ?_
  show Y kL_areShelves 7 0 [some (rr 0), none, none, none, none, none, none, none, none, none, none, none, none, none] [] I _
  refine X_aload dL_areShelves_0 rfl ?_
  refine X_bipush dL_areShelves_1 (by decide) ?_
  refine Y_pV dL_areShelves_3 cv_L_8 sh_0 (by decide) (z_num hW 15 (by decide) rfl) rfl ?_
  refine X_istore dL_areShelves_6 (by decide) ?_
  dsimp only [List.set]
  refine X_iconst dL_areShelves_7 ?_
  refine X_istore dL_areShelves_8 (by decide) ?_
  dsimp only [List.set]
  refine X_iconst dL_areShelves_9 ?_
  refine X_istore dL_areShelves_10 (by decide) ?_
  dsimp only [List.set]
  refine X_iconst dL_areShelves_11 ?_
  refine X_istoreW dL_areShelves_12 (by decide) ?_
  dsimp only [List.set]
  refine X_iconst dL_areShelves_14 ?_
  refine X_istoreW dL_areShelves_15 (by decide) ?_
  dsimp only [List.set]
  refine X_ldc (z := 100000) dL_areShelves_17 rfl lw_L_14 (by decide) ?_
  refine X_istoreW dL_areShelves_19 (by decide) ?_
  dsimp only [List.set]
  refine X_iconst dL_areShelves_21 ?_
  refine X_istoreW dL_areShelves_22 (by decide) ?_
  dsimp only [List.set]
  rw [hG.g15]
  exact za_ranks hI hG s.2 0 (Nat.zero_add _) (-1) 100000 (by decide) (by decide) (fun h => Or.inl (by have := (hG.b (rp_ok (g := s.1) h).2.1).2.2.1; omega)) _ hW
