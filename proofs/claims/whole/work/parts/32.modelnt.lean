/-! a night here and there is the same night -/
theorem tn_cond {w : Nat → Int} {n : Nat} {most : Int} {dn : Bool} {f : Nat} {g y : Nat → Int} {m : Int} (h : ¬ m < most) : tn w n most dn f g y m = (g, y, m) := by
  cases f with
  | zero => rfl
  | succ f => rw [tn, if_neg h]
theorem tn_n {w : Nat → Int} {n : Nat} {most : Int} {dn : Bool} {g y : Nat → Int} {m : Int} (hk : nxF w g y dn n = none) : ∀ f, tn w n most dn f g y m = (g, y, m)
  | 0 => rfl
  | f + 1 => by rw [tn, hk]; dsimp only; split <;> rfl
theorem tn_5 {w : Nat → Int} {n : Nat} {most : Int} {dn : Bool} {g y : Nat → Int} {m : Int} {k f : Nat} (hk : nxF w g y dn n = some k) (hm : m < most) (ht : tg w g n k = none) : tn w n most dn (f + 1) g y m = tn w n most dn f g (yu y k 5) m := by
  rw [tn, if_pos hm]; simp only [hk, ht]
theorem tn_0 {w : Nat → Int} {n : Nat} {most : Int} {dn : Bool} {g y : Nat → Int} {m : Int} {k f sh : Nat} (hk : nxF w g y dn n = some k) (hm : m < most) (ht : tg w g n k = some sh) : tn w n most dn (f + 1) g y m = tn w n most dn f (mp g k sh) (yu y k 0) (m + 1) := by
  rw [tn, if_pos hm]; simp only [hk, ht]
theorem tnR_full {w : Nat → Int} {n : Nat} {most : Int} {dn : Bool} {g : Nat → Int} {m : Int} (hm : ¬ m < most) : ∀ (f : Nat) (y : Nat → Int), (tnR w n most dn f g y m).1 = g ∧ (tnR w n most dn f g y m).2.2 = m ∧ ∀ k, (tnR w n most dn f g y m).2.1 k = y k ∨ ((tnR w n most dn f g y m).2.1 k = 9 ∧ y k = 4)
  | 0, y => ⟨rfl, rfl, fun k => Or.inl rfl⟩
  | f + 1, y => by
    cases hk : nxF w g y dn n with
    | none => rw [tnR_n hk]; exact ⟨rfl, rfl, fun k => Or.inl rfl⟩
    | some q =>
      rw [tnR_9 hk hm]
      obtain ⟨h1, h2, h3⟩ := tnR_full hm f (yu y q 9)
      refine ⟨h1, h2, fun k => ?_⟩
      have h4 := cnd4 (nxF_lt hk).2
      by_cases e : k = q
      · subst e
        rcases h3 k with a | a
        · right; rw [a]; unfold yu; rw [if_pos rfl]; exact ⟨rfl, h4⟩
        · right; exact ⟨a.1, h4⟩
      · have e2 : yu y q 9 k = y k := by unfold yu; rw [if_neg e]
        rw [← e2]; exact h3 k
theorem tnR_eq {w : Nat → Int} {n : Nat} {most : Int} {dn : Bool} : ∀ (f : Nat) (g y : Nat → Int) (m : Int), (tnR w n most dn f g y m).1 = (tn w n most dn f g y m).1 ∧ (tnR w n most dn f g y m).2.2 = (tn w n most dn f g y m).2.2 ∧ ∀ k, (tnR w n most dn f g y m).2.1 k = (tn w n most dn f g y m).2.1 k ∨ ((tnR w n most dn f g y m).2.1 k = 9 ∧ (tn w n most dn f g y m).2.1 k = 4 ∧ most ≤ (tn w n most dn f g y m).2.2)
  | 0, g, y, m => ⟨rfl, rfl, fun k => Or.inl rfl⟩
  | f + 1, g, y, m => by
    by_cases hm : m < most
    · cases hk : nxF w g y dn n with
      | none => rw [tnR_n hk, tn_n hk]; exact ⟨rfl, rfl, fun k => Or.inl rfl⟩
      | some q =>
        cases ht : tg w g n q with
        | none => rw [tnR_5 hk hm ht, tn_5 hk hm ht]; exact tnR_eq f _ _ _
        | some sh => rw [tnR_0 hk hm ht, tn_0 hk hm ht]; exact tnR_eq f _ _ _
    · rw [tn_cond hm]
      obtain ⟨h1, h2, h3⟩ := tnR_full (w := w) (n := n) (dn := dn) (g := g) hm (f + 1) y
      refine ⟨h1, h2, fun k => ?_⟩
      rcases h3 k with a | a
      · exact Or.inl a
      · exact Or.inr ⟨a.1, a.2, (show most ≤ m by omega)⟩
theorem mp_b3 {g : Nat → Int} {k sh q : Nat} (h : ¬ q = k) : gb (mp g k sh) q 3 = gb g q 3 := by
  unfold mp
  split
  · rw [gB_ne (by decide) (by decide) (by decide), mv_gb (by decide), if_neg (by omega), if_neg (by omega)]
  · rw [mv_gb (by decide), if_neg (by omega), if_neg (by omega)]
theorem yu4 {y : Nat → Int} {k q : Nat} {v : Int} (hv : v ≠ 4) (h : yu y k v q = 4) : ¬ q = k ∧ y q = 4 := by
  unfold yu at h
  split at h
  · exact absurd h hv
  · exact ⟨by assumption, h⟩
theorem nx_no4 {w g y : Nat → Int} {n : Nat} {dn : Bool} (h : pn y n = 0) : nxF w g y dn n = none := by
  cases hk : nxF w g y dn n with
  | none => rfl
  | some k =>
    have h1 := nxF_lt hk
    have := pn_yu (y := y) (v := 5) (cnd4 h1.2) (by decide) h1.1
    omega
theorem tnR_done {w : Nat → Int} {n : Nat} {most : Int} {dn : Bool} : ∀ (f : Nat) (g y : Nat → Int) (m : Int), pn y n ≤ f → nxF w (tnR w n most dn f g y m).1 (tnR w n most dn f g y m).2.1 dn n = none
  | 0, g, y, m, h => by show nxF w g y dn n = none; exact nx_no4 (by omega)
  | f + 1, g, y, m, h => by
    cases hk : nxF w g y dn n with
    | none => rw [tnR_n hk]; exact hk
    | some q =>
      have h4 := cnd4 (nxF_lt hk).2
      have hq := (nxF_lt hk).1
      by_cases hm : m < most
      · cases ht : tg w g n q with
        | none =>
          have := pn_yu (y := y) (v := 5) h4 (by decide) hq
          rw [tnR_5 hk hm ht]; exact tnR_done f _ _ _ (by omega)
        | some sh =>
          have := pn_yu (y := y) (v := 0) h4 (by decide) hq
          rw [tnR_0 hk hm ht]; exact tnR_done f _ _ _ (by omega)
      · have := pn_yu (y := y) (v := 9) h4 (by decide) hq
        rw [tnR_9 hk hm]; exact tnR_done f _ _ _ (by omega)
theorem tnR_4 {w : Nat → Int} {n : Nat} {most : Int} {dn : Bool} {k : Nat} : ∀ (f : Nat) (g y : Nat → Int) (m : Int), (tnR w n most dn f g y m).2.1 k = 4 → y k = 4 ∧ gb (tnR w n most dn f g y m).1 k 3 = gb g k 3
  | 0, g, y, m, h => ⟨h, rfl⟩
  | f + 1, g, y, m, h => by
    cases hk : nxF w g y dn n with
    | none => rw [tnR_n hk] at h ⊢; exact ⟨h, rfl⟩
    | some q =>
      by_cases hm : m < most
      · cases ht : tg w g n q with
        | none =>
          rw [tnR_5 hk hm ht] at h ⊢
          have := tnR_4 f _ _ _ h
          exact ⟨(yu4 (by decide) this.1).2, this.2⟩
        | some sh =>
          rw [tnR_0 hk hm ht] at h ⊢
          have := tnR_4 f _ _ _ h
          exact ⟨(yu4 (by decide) this.1).2, this.2.trans (mp_b3 (yu4 (by decide) this.1).1)⟩
      · rw [tnR_9 hk hm] at h ⊢
        have := tnR_4 f _ _ _ h
        exact ⟨(yu4 (by decide) this.1).2, this.2⟩
def RK (w : Nat → Int) (n : Nat) (most : Int) (r : (Nat → Int) × (Nat → Int) × Int) : Prop := GI r.1 n ∧ (∀ k, k < n → 0 ≤ r.2.1 k ∧ r.2.1 k ≤ 9) ∧ (∀ k, k < n → r.2.1 k = 4 → gb r.1 k 5 = 0) ∧ wt r.1 = w ∧ (0 ≤ r.2.2 ∧ r.2.2 ≤ most)
theorem tnR_ok {w : Nat → Int} {n : Nat} {most : Int} {dn : Bool} : ∀ (f : Nat) (g y : Nat → Int) (m : Int), RK w n most (g, y, m) → RK w n most (tnR w n most dn f g y m) ∧ ∀ j, j < 23 → (tnR w n most dn f g y m).1 j = g j
  | 0, g, y, m, h => ⟨h, fun _ _ => rfl⟩
  | f + 1, g, y, m, h => by
    cases hk : nxF w g y dn n with
    | none => rw [tnR_n hk]; exact ⟨h, fun _ _ => rfl⟩
    | some q =>
      have hq := (nxF_lt hk).1
      obtain ⟨h1, h2, h3, h4, h5⟩ := h
      dsimp only at h1 h2 h3 h4 h5
      have hy : ∀ v : Int, 0 ≤ v ∧ v ≤ 9 → ∀ k, k < n → 0 ≤ yu y q v k ∧ yu y q v k ≤ 9 := fun v hv k hk => by
        unfold yu
        split
        · exact hv
        · exact h2 k hk
      by_cases hm : m < most
      · cases ht : tg w g n q with
        | none =>
          rw [tnR_5 hk hm ht]
          exact tnR_ok f _ _ _ ⟨h1, hy 5 (by decide), fun k hk e => h3 k hk (yu4 (by decide) e).2, h4, h5⟩
        | some sh =>
          rw [tnR_0 hk hm ht]
          have hs := tg_lt (by rw [← h4]; exact wt_bounds g q) ht
          have h6 := tnR_ok (dn := dn) (w := w) (most := most) f (mp g q sh) (yu y q 0) (m + 1) ⟨h1.setP hs, hy 0 (by decide), fun k hk e => by
            have e1 := yu4 (by decide) e
            show gb (mp g q sh) k 5 = 0
            rw [mp_b5 e1.1]; exact h3 k hk e1.2, wt_mp.trans h4, by dsimp only; omega⟩
          exact ⟨h6.1, fun j hj => (h6.2 j hj).trans (mp_num hj)⟩
      · rw [tnR_9 hk hm]
        exact tnR_ok f _ _ _ ⟨h1, hy 9 (by decide), fun k hk e => h3 k hk (yu4 (by decide) e).2, h4, h5⟩
/-- counting from d on -/
theorem tn_shift {w : Nat → Int} {n : Nat} {most d : Int} {dn : Bool} : ∀ (f : Nat) (g y : Nat → Int) (m : Int), (tn w n (most - d) dn f g y m).1 = (tn w n most dn f g y (m + d)).1 ∧ (tn w n (most - d) dn f g y m).2.1 = (tn w n most dn f g y (m + d)).2.1 ∧ (tn w n (most - d) dn f g y m).2.2 + d = (tn w n most dn f g y (m + d)).2.2
  | 0, g, y, m => ⟨rfl, rfl, rfl⟩
  | f + 1, g, y, m => by
    by_cases hm : m < most - d
    · have hm2 : m + d < most := by omega
      cases hk : nxF w g y dn n with
      | none => rw [tn_n hk, tn_n hk]; exact ⟨rfl, rfl, rfl⟩
      | some q =>
        cases ht : tg w g n q with
        | none => rw [tn_5 hk hm ht, tn_5 hk hm2 ht]; exact tn_shift f _ _ _
        | some sh =>
          rw [tn_0 hk hm ht, tn_0 hk hm2 ht, show m + d + 1 = m + 1 + d by omega]; exact tn_shift f _ _ _
    · rw [tn_cond hm, tn_cond (show ¬ m + d < most by omega)]; exact ⟨rfl, rfl, rfl⟩
def rD (g1 : Nat → Int) (n : Nat) (most : Int) := tnR (wt g1) n most true 24 g1 (rs g1) 0
def rU (g1 : Nat → Int) (n : Nat) (most : Int) := tnR (wt g1) n most false 24 (rD g1 n most).1 (rD g1 n most).2.1 (rD g1 n most).2.2
theorem rU_no4 {g1 : Nat → Int} {n : Nat} {most : Int} (hn : n ≤ 24) {k : Nat} (hk : k < n) : (rU g1 n most).2.1 k ≠ 4 := by
  intro h
  have e : rU g1 n most = tnR (wt g1) n most false 24 (rD g1 n most).1 (rD g1 n most).2.1 (rD g1 n most).2.2 := rfl
  have e' : rD g1 n most = tnR (wt g1) n most true 24 g1 (rs g1) 0 := rfl
  have h1 := tnR_done (w := wt g1) (most := most) (dn := true) 24 g1 (rs g1) 0 (Nat.le_trans (pn_le _ n) hn)
  have h2 := tnR_done (w := wt g1) (most := most) (dn := false) 24 (rD g1 n most).1 (rD g1 n most).2.1 (rD g1 n most).2.2 (Nat.le_trans (pn_le _ n) hn)
  rw [← e'] at h1
  rw [← e] at h2
  have h3 := tnR_4 (k := k) 24 (rD g1 n most).1 (rD g1 n most).2.1 (rD g1 n most).2.2 (by rw [← e]; exact h)
  rw [← e] at h3
  have a1 := nxF_none h1 k hk
  have a2 := nxF_none h2 k hk
  unfold cnd at a1 a2
  rw [h3.1] at a1
  rw [h, h3.2] at a2
  by_cases c : gb (rD g1 n most).1 k 3 < wt g1 k
  · rw [decide_eq_true c] at a1; exact absurd a1 (by decide)
  · rw [decide_eq_false c] at a2; exact absurd a2 (by decide)
theorem night_eq {g : Nat → Int} {n : Nat} {most : Int} (hn : n ≤ 24) : (rU (nt1 g n) n most).1 = (ntU g n most).1 ∧ (rU (nt1 g n) n most).2.2 = ntM g n most ∧ ∀ k, k < n → dz ((rU (nt1 g n) n most).2.1 k) = (ntU g n most).2.1 k := by
  have hb : ∀ k, k < n → 0 ≤ (ntU g n most).2.1 k ∧ (ntU g n most).2.1 k ≤ 5 := fun k hk => tn_y 24 _ _ _ (tn_y 24 _ _ _ (fun q _ => rs_bounds _ q)) k hk
  have hD := tnR_eq (w := wt (nt1 g n)) (n := n) (most := most) (dn := true) 24 (nt1 g n) (rs (nt1 g n)) 0
  have eD : tn (wt (nt1 g n)) n most true 24 (nt1 g n) (rs (nt1 g n)) 0 = ntD g n most := rfl
  have eR : tnR (wt (nt1 g n)) n most true 24 (nt1 g n) (rs (nt1 g n)) 0 = rD (nt1 g n) n most := rfl
  rw [eD, eR] at hD
  obtain ⟨d1, d2, d3⟩ := hD
  have fin : ∀ k, k < n → ((rU (nt1 g n) n most).2.1 k = (ntU g n most).2.1 k ∨ ((rU (nt1 g n) n most).2.1 k = 9 ∧ (ntU g n most).2.1 k = 4)) → dz ((rU (nt1 g n) n most).2.1 k) = (ntU g n most).2.1 k := fun k hk h => by
    have h4 := rU_no4 (g1 := nt1 g n) (most := most) hn hk
    have h5 := hb k hk
    unfold dz
    rw [if_neg h4]
    rcases h with a | a
    · rw [if_neg (by omega)]; exact a
    · rw [if_pos a.1]; exact a.2.symm
  by_cases c : (ntD g n most).2.2 < most
  · have ey : (rD (nt1 g n) n most).2.1 = (ntD g n most).2.1 := by
      funext k
      rcases d3 k with a | a
      · exact a
      · omega
    have hU := tnR_eq (w := wt (nt1 g n)) (n := n) (most := most) (dn := false) 24 (ntD g n most).1 (ntD g n most).2.1 (ntD g n most).2.2
    have eU : tnR (wt (nt1 g n)) n most false 24 (ntD g n most).1 (ntD g n most).2.1 (ntD g n most).2.2 = rU (nt1 g n) n most := by unfold rU; rw [d1, ey, d2]
    have hS := tn_shift (w := wt (nt1 g n)) (n := n) (most := most) (d := (ntD g n most).2.2) (dn := false) 24 (ntD g n most).1 (ntD g n most).2.1 0
    have eS : tn (wt (nt1 g n)) n (most - (ntD g n most).2.2) false 24 (ntD g n most).1 (ntD g n most).2.1 0 = ntU g n most := rfl
    rw [Int.zero_add, eS] at hS
    rw [eU] at hU
    obtain ⟨s1, s2, s3⟩ := hS
    obtain ⟨u1, u2, u3⟩ := hU
    refine ⟨u1.trans s1.symm, ?_, fun k hk => fin k hk ?_⟩
    · rw [u2, ← s3]; unfold ntM; omega
    · rcases u3 k with a | a
      · left; rw [a, s2]
      · right; exact ⟨a.1, by rw [s2]; exact a.2.1⟩
  · have eU : ntU g n most = ((ntD g n most).1, (ntD g n most).2.1, 0) := tn_cond (show ¬ (0 : Int) < most - (ntD g n most).2.2 by omega)
    have hU := tnR_full (w := wt (nt1 g n)) (n := n) (most := most) (dn := false) (g := (rD (nt1 g n) n most).1) (m := (rD (nt1 g n) n most).2.2) (by omega) 24 (rD (nt1 g n) n most).2.1
    have eV : tnR (wt (nt1 g n)) n most false 24 (rD (nt1 g n) n most).1 (rD (nt1 g n) n most).2.1 (rD (nt1 g n) n most).2.2 = rU (nt1 g n) n most := rfl
    rw [eV] at hU
    obtain ⟨u1, u2, u3⟩ := hU
    refine ⟨by rw [u1, d1, eU], by rw [u2, d2]; unfold ntM; rw [eU]; dsimp only; omega, fun k hk => fin k hk ?_⟩
    rw [eU]
    dsimp only
    rcases u3 k with a | a
    · rcases d3 k with b | b
      · left; rw [a, b]
      · right; exact ⟨by rw [a]; exact b.1, b.2.1⟩
    · rcases d3 k with b | b
      · right; exact ⟨a.1, by rw [← b]; exact a.2⟩
      · omega
/-! an accumulator is of no account for a night -/
theorem gN_com {g : Nat → Int} {a b : Nat} {x z : Int} (h : a ≠ b) : gN (gN g a x) b z = gN (gN g b z) a x := by
  funext i
  simp only [gN_num]
  by_cases e : i = a
  · rw [if_pos e, if_neg (by omega), if_pos e]
  · rw [if_neg e, if_neg e]
theorem gN_two {g : Nat → Int} {a : Nat} {x z : Int} : gN (gN g a x) a z = gN g a z := by
  funext i
  simp only [gN_num]
  split <;> rfl
theorem gN_self {g : Nat → Int} {a : Nat} : gN g a (g a) = g := by
  funext i
  simp only [gN_num]
  split
  · rename_i h; rw [h]
  · rfl
theorem gB_com {g : Nat → Int} {a k w : Nat} {x z : Int} (h : a < 23) : gB (gN g a x) k w z = gN (gB g k w z) a x := gN_com (by omega)
theorem onA {g : Nat → Int} {a n w : Nat} {sh x : Int} (ha : a < 23) (hw : w < 8) : onF (gN g a x) n sh w = onF g n sh w := on_congr hw (fun k _ => ⟨gN_gb ha, gN_gb ha⟩)
theorem wtA {g : Nat → Int} {a : Nat} {x : Int} (ha : 15 ≤ a ∧ a < 23) : wt (gN g a x) = wt g := by
  funext k
  unfold wt
  have e1 : gN g a x 1 = g 1 := by rw [gN_num, if_neg (by omega)]
  have e2 : gN g a x 2 = g 2 := by rw [gN_num, if_neg (by omega)]
  rw [gN_gb ha.2, e1, e2]
theorem rsA {g : Nat → Int} {a : Nat} {x : Int} (ha : 15 ≤ a ∧ a < 23) : rs (gN g a x) = rs g := by
  funext k
  unfold rs
  rw [gN_gb ha.2, gN_gb ha.2, gN_gb ha.2, wtA ha]
theorem rmA {g : Nat → Int} {a n sh : Nat} {x z : Int} (ha : 15 ≤ a ∧ a < 23) (hs : sh < 9) : rmB (gN g a x) n sh z = rmB g n sh z := by
  unfold rmB
  rw [onA ha.2 (by decide), gN_num, if_neg (by omega)]
theorem tgA {w g : Nat → Int} {a n k : Nat} {x : Int} (ha : 15 ≤ a ∧ a < 23) (hw : w k ≤ 2) : tg w (gN g a x) n k = tg w g n k := by
  unfold tg
  rw [gN_gb ha.2, gN_gb ha.2, rmA ha (by omega), rmA ha (by decide)]
theorem mpA {g : Nat → Int} {a k sh : Nat} {x : Int} (ha : 15 ≤ a ∧ a < 23) : mp (gN g a x) k sh = gN (mp g k sh) a x := by
  have e1 : mv (gN g a x) k (sh : Int) = gN (mv g k (sh : Int)) a x := by unfold mv; rw [gN_gb ha.2, gB_com ha.2, gB_com ha.2]
  unfold mp
  rw [e1]
  split
  · rw [gN_num, if_neg (by omega), gB_com ha.2]
  · rfl
theorem nxA {w g y : Nat → Int} {a : Nat} {x : Int} {dn : Bool} (ha : a < 23) : ∀ n, nxF w (gN g a x) y dn n = nxF w g y dn n
  | 0 => rfl
  | n + 1 => by
    have e1 : cnd w (gN g a x) y dn n = cnd w g y dn n := by unfold cnd; rw [gN_gb ha]
    have e2 : ∀ r, btr (gN g a x) dn n r = btr g dn n r := fun r => by
      unfold btr
      cases r with
      | none => rfl
      | some q => dsimp only; rw [gN_gb ha, gN_gb ha]
    unfold nxF
    rw [nxA ha n, e1, e2]
theorem tnA {w : Nat → Int} {n a : Nat} {most x : Int} {dn : Bool} (ha : 15 ≤ a ∧ a < 23) (hw : ∀ k, w k ≤ 2) : ∀ (f : Nat) (g y : Nat → Int) (m : Int), tn w n most dn f (gN g a x) y m = (gN (tn w n most dn f g y m).1 a x, (tn w n most dn f g y m).2)
  | 0, g, y, m => rfl
  | f + 1, g, y, m => by
    by_cases hm : m < most
    · cases hk : nxF w g y dn n with
      | none =>
        have hk2 : nxF w (gN g a x) y dn n = none := by rw [nxA ha.2, hk]
        rw [tn_n hk, tn_n hk2]
      | some q =>
        have hk2 : nxF w (gN g a x) y dn n = some q := by rw [nxA ha.2, hk]
        cases ht : tg w g n q with
        | none =>
          have ht2 : tg w (gN g a x) n q = none := by rw [tgA ha (hw q), ht]
          rw [tn_5 hk hm ht, tn_5 hk2 hm ht2]; exact tnA ha hw f _ _ _
        | some sh =>
          have ht2 : tg w (gN g a x) n q = some sh := by rw [tgA ha (hw q), ht]
          rw [tn_0 hk hm ht, tn_0 hk2 hm ht2, mpA ha]; exact tnA ha hw f _ _ _
    · rw [tn_cond hm, tn_cond hm]
theorem fdA {g : Nat → Int} {a : Nat} {x : Int} (ha : 15 ≤ a ∧ a < 23) : ∀ k, fdF (gN g a x) k = gN (fdF g k) a x
  | 0 => rfl
  | k + 1 => by
    show fd1 (fdF (gN g a x) k) k (gN g a x 0) = gN (fd1 (fdF g k) k (g 0)) a x
    rw [fdA ha k, gN_num, if_neg (by omega)]
    unfold fd1 fdH
    rw [gN_gb ha.2, gB_com ha.2, gN_gb ha.2, gB_com ha.2]
theorem pyA {g : Nat → Int} {n a : Nat} {x : Int} (ha : 19 ≤ a ∧ a < 23) : ∀ s, s ≤ 3 → pyF (gN g a x) n s = gN (pyF g n s) a x
  | 0, _ => by
    show gN (gN g a x) 17 (gN g a x 17 + 1) = gN (gN g 17 (g 17 + 1)) a x
    rw [gN_num, if_neg (by omega), gN_com (by omega)]
  | s + 1, hs => by
    show gN (pyF (gN g a x) n s) 18 (pyF (gN g a x) n s 18 + onF (pyF (gN g a x) n s) n (s : Int) 1 * pyF (gN g a x) n s (9 + s)) = gN (gN (pyF g n s) 18 (pyF g n s 18 + onF (pyF g n s) n (s : Int) 1 * pyF g n s (9 + s))) a x
    rw [pyA ha s (by omega), onA ha.2 (by decide), gN_num, gN_num, if_neg (by omega), if_neg (by omega), gN_com (by omega)]
theorem n1A {g : Nat → Int} {n a : Nat} {x : Int} (ha : 19 ≤ a ∧ a < 23) : nt1 (gN g a x) n = gN (nt1 g n) a x := by
  unfold nt1
  rw [pyA ha 3 (by decide), fdA (by omega)]
theorem nDA {g : Nat → Int} {n a : Nat} {most x : Int} (ha : 19 ≤ a ∧ a < 23) : ntD (gN g a x) n most = (gN (ntD g n most).1 a x, (ntD g n most).2) := by
  unfold ntD
  rw [n1A ha, wtA (by omega), rsA (by omega), tnA (by omega) (fun k => (wt_bounds _ k).2)]
theorem nUA {g : Nat → Int} {n a : Nat} {most x : Int} (ha : 19 ≤ a ∧ a < 23) : ntU (gN g a x) n most = (gN (ntU g n most).1 a x, (ntU g n most).2) := by
  unfold ntU
  rw [nDA ha, n1A ha, wtA (by omega), tnA (by omega) (fun k => (wt_bounds _ k).2)]
theorem nMA {g : Nat → Int} {n a : Nat} {most x : Int} (ha : 19 ≤ a ∧ a < 23) : ntM (gN g a x) n most = ntM g n most := by
  unfold ntM
  rw [nDA ha, nUA ha]
theorem nt_num {g : Nat → Int} {n j : Nat} {most : Int} (hj : j < 17 ∨ (18 < j ∧ j < 23)) : (ntU g n most).1 j = g j := by
  unfold ntU ntD
  rw [tn_num (by omega), tn_num (by omega)]
  unfold nt1
  rw [fd_num (by omega), py_num (by omega) (by omega)]
theorem ns_num {g : Nat → Int} {n j : Nat} {most : Int} (hj : j < 17 ∨ (18 < j ∧ j < 23)) : ∀ i, nsG g n most i j = g j
  | 0 => rfl
  | i + 1 => by
    show (ntU (nsG g n most i) n most).1 j = g j
    rw [nt_num hj, ns_num hj i]
theorem np_num {g : Nat → Int} {n j : Nat} (i : Nat) (hj : j < 17 ∨ (18 < j ∧ j < 23 ∧ j ≠ 21)) : npG g n i j = g j := by
  unfold npG
  rw [gN_num, if_neg (by omega), ns_num (by omega)]
theorem np_zero {g : Nat → Int} {n : Nat} : npG g n 0 = g := by
  show gN g 21 (g 21 + 0) = g
  rw [Int.add_zero, gN_self]
theorem np_step {g : Nat → Int} {n i : Nat} : npG (npG g n i) n 1 = npG g n (i + 1) := by
  have h3 : npG g n i 3 = g 3 := np_num i (by omega)
  show gN (ntU (npG g n i) n (npG g n i 3)).1 21 ((ntU (npG g n i) n (npG g n i 3)).1 21 + (0 + ntM (npG g n i) n (npG g n i 3))) = gN (ntU (nsG g n (g 3) i) n (g 3)).1 21 ((ntU (nsG g n (g 3) i) n (g 3)).1 21 + (nsM g n (g 3) i + ntM (nsG g n (g 3) i) n (g 3)))
  rw [h3]
  unfold npG
  rw [nUA (by decide), nMA (by decide)]
  dsimp only
  rw [gN_two, gN_num, if_pos rfl, nt_num (j := 21) (by decide), Int.zero_add, Int.add_assoc]
theorem nm_step {g : Nat → Int} {n i : Nat} : nsM g n (g 3) i + nsM (npG g n i) n (npG g n i 3) 1 = nsM g n (g 3) (i + 1) := by
  have h3 : npG g n i 3 = g 3 := np_num i (by omega)
  show nsM g n (g 3) i + (0 + ntM (npG g n i) n (npG g n i 3)) = nsM g n (g 3) i + ntM (nsG g n (g 3) i) n (g 3)
  rw [h3]
  unfold npG
  rw [nMA (by decide), Int.zero_add]
/-- the cost of a night at once -/
def coF (g : Nat → Int) (n : Nat) : Int := g 18 + (onF g n (0 : Nat) 1 * g 9 + onF g n (1 : Nat) 1 * g 10 + onF g n (2 : Nat) 1 * g 11)
theorem py_form {g : Nat → Int} {n : Nat} : ∀ s, pyF g n s = gN (gN g 17 (g 17 + 1)) 18 (pyF g n s 18)
  | 0 => by
    show gN g 17 (g 17 + 1) = gN (gN g 17 (g 17 + 1)) 18 (gN g 17 (g 17 + 1) 18)
    rw [gN_self]
  | s + 1 => by
    show gN (pyF g n s) 18 (pyF g n (s + 1) 18) = gN (gN g 17 (g 17 + 1)) 18 (pyF g n (s + 1) 18)
    rw [py_form s, gN_two]
theorem n1_form {g : Nat → Int} {n : Nat} : nt1 g n = gN (fdF (gN g 18 (coF g n)) n) 17 (g 17 + 1) := by
  have e : pyF g n 3 18 = coF g n := by rw [py18_all]; unfold coF; omega
  unfold nt1
  rw [py_form 3, e, gN_com (by decide), fdA (by decide)]
theorem tnRA {w : Nat → Int} {n a : Nat} {most x : Int} {dn : Bool} (ha : 15 ≤ a ∧ a < 23) (hw : ∀ k, w k ≤ 2) : ∀ (f : Nat) (g y : Nat → Int) (m : Int), tnR w n most dn f (gN g a x) y m = (gN (tnR w n most dn f g y m).1 a x, (tnR w n most dn f g y m).2)
  | 0, g, y, m => rfl
  | f + 1, g, y, m => by
    cases hk : nxF w g y dn n with
    | none =>
      have hk2 : nxF w (gN g a x) y dn n = none := by rw [nxA ha.2, hk]
      rw [tnR_n hk, tnR_n hk2]
    | some q =>
      have hk2 : nxF w (gN g a x) y dn n = some q := by rw [nxA ha.2, hk]
      by_cases hm : m < most
      · cases ht : tg w g n q with
        | none =>
          have ht2 : tg w (gN g a x) n q = none := by rw [tgA ha (hw q), ht]
          rw [tnR_5 hk hm ht, tnR_5 hk2 hm ht2]; exact tnRA ha hw f _ _ _
        | some sh =>
          have ht2 : tg w (gN g a x) n q = some sh := by rw [tgA ha (hw q), ht]
          rw [tnR_0 hk hm ht, tnR_0 hk2 hm ht2, mpA ha]; exact tnRA ha hw f _ _ _
      · rw [tnR_9 hk hm, tnR_9 hk2 hm]; exact tnRA ha hw f _ _ _
theorem rUA {g : Nat → Int} {n a : Nat} {most x : Int} (ha : 15 ≤ a ∧ a < 23) : rU (gN g a x) n most = (gN (rU g n most).1 a x, (rU g n most).2) := by
  unfold rU rD
  rw [wtA ha, rsA ha, tnRA ha (fun k => (wt_bounds _ k).2), tnRA ha (fun k => (wt_bounds _ k).2)]
/-- the night as it is done here -/
theorem n1_end {g : Nat → Int} {n : Nat} (hn : n ≤ 24) (G : Nat → Int) (hG : G = fdF (gN g 18 (coF g n)) n) (h17 : (rU G n (g 3)).1 17 = g 17) (h21 : (rU G n (g 3)).1 21 = g 21) : gN (gN (rU G n (g 3)).1 21 ((rU G n (g 3)).1 21 + (rU G n (g 3)).2.2)) 17 ((gN (rU G n (g 3)).1 21 ((rU G n (g 3)).1 21 + (rU G n (g 3)).2.2)) 17 + 1) = npG g n 1 ∧ (rU G n (g 3)).2.2 = nsM g n (g 3) 1 ∧ ∀ k, k < n → dz ((rU G n (g 3)).2.1 k) = (ntU g n (g 3)).2.1 k := by
  obtain ⟨e1, e2, e3⟩ := night_eq (g := g) (n := n) (most := g 3) hn
  rw [n1_form, ← hG, rUA (by decide)] at e1 e2 e3
  dsimp only at e1 e2 e3
  refine ⟨?_, ?_, e3⟩
  · show _ = gN (ntU g n (g 3)).1 21 ((ntU g n (g 3)).1 21 + (0 + ntM g n (g 3)))
    rw [nt_num (j := 21) (by decide), gN_num, if_neg (by decide), h17, h21, ← e1, ← e2, Int.zero_add, gN_com (by decide)]
  · show _ = 0 + ntM g n (g 3)
    rw [Int.zero_add]; exact e2
