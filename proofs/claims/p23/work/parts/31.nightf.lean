/-! a night, block by block -/
def y0 (y : Nat → Int) (n : Nat) : Int := sm (fun k => if y k = 0 then 1 else 0) n
theorem mp_gb {g : Nat → Int} {k sh q j : Nat} (hj : j < 8) : gb (mp g k sh) q j = if q = k ∧ j = 3 then (sh : Int) else if q = k ∧ j = 7 then gb g k 7 + 1 else if q = k ∧ j = 5 ∧ sh = 2 then g 4 else gb g q j := by
  unfold mp
  by_cases e : sh = 2
  · rw [if_pos e, gB_gb (by decide) hj, mv_num (by decide), mv_gb hj]
    by_cases e5 : q = k ∧ j = 5
    · rw [if_pos e5, if_neg (by omega), if_neg (by omega), if_pos ⟨e5.1, e5.2, e⟩]
    · rw [if_neg e5, if_neg (show ¬ (q = k ∧ j = 5 ∧ sh = 2) by omega)]
  · rw [if_neg e, mv_gb hj, if_neg (show ¬ (q = k ∧ j = 5 ∧ sh = 2) by omega)]
/-- what the turns keep: row by row, with why each block stays -/
def NTk (gF g y : Nat → Int) (k : Nat) : Prop := (gb g k 0 = gb gF k 0 ∧ gb g k 1 = gb gF k 1 ∧ gb g k 2 = gb gF k 2 ∧ gb g k 4 = gb gF k 4) ∧
  ((y k ≠ 0 ∧ gb g k 3 = gb gF k 3 ∧ gb g k 5 = gb gF k 5 ∧ gb g k 7 = gb gF k 7 ∧ (y k = rs gF k ∨ (rs gF k = 4 ∧ y k = 5))) ∨
   (y k = 0 ∧ rs gF k = 4 ∧ gb g k 3 ≠ gb gF k 3 ∧ 0 ≤ gb g k 3 ∧ gb g k 3 ≤ 2 ∧ gb g k 7 = gb gF k 7 + 1 ∧ gb g k 5 = (if gb g k 3 = 2 then gF 4 else gb gF k 5)))
def NTr (gF : Nat → Int) (n : Nat) (g y : Nat → Int) : Prop := (∀ j, j < 23 → g j = gF j) ∧ RM g n ∧ ∀ k, k < n → NTk gF g y k
theorem rs_ne (g : Nat → Int) (k : Nat) : rs g k ≠ 0 := by unfold rs; split <;> (try split) <;> (try split) <;> omega
theorem rs4 {g : Nat → Int} {k : Nat} (h : rs g k = 4) : gb g k 4 = 0 ∧ gb g k 5 ≤ 0 ∧ wt g k ≠ gb g k 3 := by
  unfold rs at h
  split at h
  · split at h
    · split at h
      · omega
      · exact ⟨by assumption, by assumption, by assumption⟩
    · omega
  · omega
theorem NTr.start {gF : Nat → Int} {n : Nat} (h : RM gF n) : NTr gF n gF (rs gF) := ⟨fun _ _ => rfl, h, fun k _ => ⟨⟨rfl, rfl, rfl, rfl⟩, Or.inl ⟨rs_ne gF k, rfl, rfl, rfl, Or.inl rfl⟩⟩⟩
theorem tg_ok {w g : Nat → Int} {n k sh : Nat} (h : tg w g n k = some sh) (hw : 0 ≤ w k ∧ w k ≤ 2) (h3 : 0 ≤ gb g k 3 ∧ gb g k 3 ≤ 2) (hne : w k ≠ gb g k 3) : onF g n sh 1 + gb g k 1 ≤ g (6 + sh) ∧ sh < 3 ∧ (sh : Int) ≠ gb g k 3 := by
  unfold tg rmB at h
  split at h
  · rename_i a
    cases h
    exact ⟨of_decide_eq_true a, by omega, by omega⟩
  · split at h
    · rename_i a
      cases h
      refine ⟨of_decide_eq_true a.2, by decide, ?_⟩
      have := a.1
      show ((1 : Nat) : Int) ≠ gb g k 3
      omega
    · cases h
/-- one move -/
theorem NTr.go {gF g y : Nat → Int} {n k sh : Nat} (h : NTr gF n g y) (hG : GI g n) (hk : k < n) (hy : y k = 4) (hr : onF g n sh 1 + gb g k 1 ≤ g (6 + sh)) (hs : sh < 3) (hne : (sh : Int) ≠ gb g k 3) : NTr gF n (mp g k sh) (yu y k 0) := by
  obtain ⟨h1, h2, h3⟩ := h
  refine ⟨fun j hj => (mp_num hj).trans (h1 j hj), ?_, fun q hq => ?_⟩
  · refine (RM.mv h2 hG hk hr).eqv (fun j a b => ?_) (fun q hq => ?_)
    · rw [mp_num (by omega), mv_num (by omega)]
    · rw [mp_gb (by decide), mp_gb (by decide), mv_gb (by decide), mv_gb (by decide)]
      exact ⟨by rw [if_neg (show ¬ (q = k ∧ 3 = 5 ∧ sh = 2) by omega)], by rw [if_neg (show ¬ (q = k ∧ 1 = 5 ∧ sh = 2) by omega)]⟩
  · have hq3 := h3 q hq
    unfold NTk at hq3 ⊢
    unfold yu
    by_cases e : q = k
    · subst e
      have hq4 : rs gF q = 4 ∧ gb g q 3 = gb gF q 3 ∧ gb g q 5 = gb gF q 5 ∧ gb g q 7 = gb gF q 7 := by
        rcases hq3.2 with a | a
        · exact ⟨by omega, a.2.1, a.2.2.1, a.2.2.2.1⟩
        · omega
      have m3 : gb (mp g q sh) q 3 = (sh : Int) := by rw [mp_gb (by decide), if_pos ⟨rfl, rfl⟩]
      have m7 : gb (mp g q sh) q 7 = gb g q 7 + 1 := by rw [mp_gb (by decide), if_neg (by omega), if_pos ⟨rfl, rfl⟩]
      have m5 : gb (mp g q sh) q 5 = if sh = 2 then g 4 else gb g q 5 := by
        rw [mp_gb (by decide), if_neg (by omega), if_neg (by omega)]
        by_cases e2 : sh = 2
        · rw [if_pos ⟨rfl, rfl, e2⟩, if_pos e2]
        · rw [if_neg (by omega), if_neg e2]
      have hm : ∀ j, j < 8 → j ≠ 3 → j ≠ 7 → j ≠ 5 → gb (mp g q sh) q j = gb g q j := fun j a b c d => by
        rw [mp_gb a, if_neg (by omega), if_neg (by omega), if_neg (by omega)]
      rw [if_pos rfl, m3, m7, m5, hm 0 (by decide) (by decide) (by decide) (by decide), hm 1 (by decide) (by decide) (by decide) (by decide), hm 2 (by decide) (by decide) (by decide) (by decide), hm 4 (by decide) (by decide) (by decide) (by decide)]
      refine ⟨hq3.1, Or.inr ⟨rfl, hq4.1, by rw [← hq4.2.1]; exact hne, by omega, by omega, by rw [hq4.2.2.2], ?_⟩⟩
      by_cases e2 : sh = 2
      · rw [if_pos e2, if_pos (by omega)]; exact h1 4 (by decide)
      · rw [if_neg e2, if_neg (by omega)]; exact hq4.2.2.1
    · have hm : ∀ j, j < 8 → gb (mp g k sh) q j = gb g q j := fun j a => by
        rw [mp_gb a, if_neg (by omega), if_neg (by omega), if_neg (by omega)]
      rw [if_neg e, hm 0 (by decide), hm 1 (by decide), hm 2 (by decide), hm 3 (by decide), hm 4 (by decide), hm 5 (by decide), hm 7 (by decide)]
      exact hq3
theorem NTr.stay {gF g y : Nat → Int} {n k : Nat} (h : NTr gF n g y) (hk : k < n) (hy : y k = 4) : NTr gF n g (yu y k 5) := by
  obtain ⟨h1, h2, h3⟩ := h
  refine ⟨h1, h2, fun q hq => ?_⟩
  have hq3 := h3 q hq
  unfold NTk at hq3 ⊢
  unfold yu
  by_cases e : q = k
  · subst e
    rw [if_pos rfl]
    refine ⟨hq3.1, Or.inl ?_⟩
    rcases hq3.2 with a | a
    · exact ⟨by decide, a.2.1, a.2.2.1, a.2.2.2.1, Or.inr ⟨by omega, rfl⟩⟩
    · omega
  · rw [if_neg e]
    exact hq3
theorem y0_yu {y : Nat → Int} {n k : Nat} {v : Int} (hk : k < n) (hy : y k ≠ 0) : y0 (yu y k v) n = y0 y n + (if v = 0 then 1 else 0) := by
  unfold y0
  rw [sm_one (h := fun k => if y k = 0 then 1 else 0) hk (fun q _ hne => by unfold yu; rw [if_neg hne])]
  show _ - (if y k = 0 then (1 : Int) else 0) + (if yu y k v k = 0 then 1 else 0) = _
  rw [if_neg hy]
  unfold yu
  rw [if_pos rfl]
  omega
/-- the turns -/
theorem NTr.turns {gF : Nat → Int} {n : Nat} {most : Int} {dn : Bool} : ∀ (f : Nat) (g y : Nat → Int) (m : Int), GI g n → NTr gF n g y → NTr gF n (tn (wt gF) n most dn f g y m).1 (tn (wt gF) n most dn f g y m).2.1 ∧ y0 (tn (wt gF) n most dn f g y m).2.1 n = y0 y n + ((tn (wt gF) n most dn f g y m).2.2 - m)
  | 0, g, y, m, hG, h => ⟨h, by show y0 y n = y0 y n + (m - m); omega⟩
  | f + 1, g, y, m, hG, h => by
    by_cases hm : m < most
    · cases hr : nxF (wt gF) g y dn n with
      | none => rw [tn_none hm hr]; exact ⟨h, by show y0 y n = y0 y n + (m - m); omega⟩
      | some k =>
        obtain ⟨hk, hc⟩ := nxF_lt hr
        unfold cnd at hc
        rw [Bool.and_eq_true] at hc
        have hy : y k = 4 := of_decide_eq_true hc.1
        have hq := (h.2.2 k hk).2
        have hb := (hG.b hk).2.2.2.1
        have hw := wt_bounds gF k
        have h4 : rs gF k = 4 ∧ gb g k 3 = gb gF k 3 := by
          rcases hq with a | a
          · exact ⟨by omega, a.2.1⟩
          · omega
        have h5 := rs4 h4.1
        cases ht : tg (wt gF) g n k with
        | none =>
          rw [tn_stay hm hr ht]
          have ih := NTr.turns (most := most) (dn := dn) f g (yu y k 5) m hG (h.stay hk hy)
          refine ⟨ih.1, ?_⟩
          rw [ih.2, y0_yu hk (by omega), if_neg (by decide)]
          omega
        | some sh =>
          rw [tn_go hm hr ht]
          have ht2 := tg_ok ht hw hb (by rw [h4.2]; exact h5.2.2)
          have ih := NTr.turns (most := most) (dn := dn) f (mp g k sh) (yu y k 0) (m + 1) (hG.setP ht2.2.1) (h.go hG hk hy ht2.1 ht2.2.1 ht2.2.2)
          refine ⟨ih.1, ?_⟩
          rw [ih.2, y0_yu hk (by omega), if_pos rfl]
          omega
    · rw [tn_stop (by omega)]; exact ⟨h, by show y0 y n = y0 y n + (m - m); omega⟩
/-- a whole night's turns -/
theorem NTr.night {g : Nat → Int} {n : Nat} {most : Int} (hG : GI g n) (h : RM (nt1 g n) n) : NTr (nt1 g n) n (ntU g n most).1 (ntU g n most).2.1 ∧ y0 (ntU g n most).2.1 n = ntM g n most := by
  have h0 : y0 (rs (nt1 g n)) n = 0 := by
    unfold y0
    rw [sm_congr (h := fun _ => 0) (fun k _ => if_neg (rs_ne _ k)), sm_zero]
  have h1 := NTr.turns (most := most) (dn := true) 24 (nt1 g n) (rs (nt1 g n)) 0 hG.n1 (NTr.start h)
  have h2 := NTr.turns (most := most - (ntD g n most).2.2) (dn := false) 24 (ntD g n most).1 (ntD g n most).2.1 0 (hG.nD most) h1.1
  refine ⟨h2.1, ?_⟩
  have h3 := h1.2
  have h4 := h2.2
  show y0 (tn (wt (nt1 g n)) n (most - (ntD g n most).2.2) false 24 (ntD g n most).1 (ntD g n most).2.1 0).2.1 n = (ntD g n most).2.2 + (ntU g n most).2.2
  rw [h4]
  change y0 (ntD g n most).2.1 n = y0 (rs (nt1 g n)) n + ((ntD g n most).2.2 - 0) at h3
  rw [h3, h0]
  show 0 + ((ntD g n most).2.2 - 0) + ((ntU g n most).2.2 - 0) = _
  omega
theorem ntM_most {g : Nat → Int} {n : Nat} {most : Int} (h : 0 ≤ most) : ntM g n most ≤ most := by
  have h1 := tn_m (w := wt (nt1 g n)) (n := n) (most := most) (dn := true) 24 (nt1 g n) (rs (nt1 g n)) 0
  have h2 := tn_m (w := wt (nt1 g n)) (n := n) (most := most - (ntD g n most).2.2) (dn := false) 24 (ntD g n most).1 (ntD g n most).2.1 0
  have e1 : (ntD g n most).2.2 = (tn (wt (nt1 g n)) n most true 24 (nt1 g n) (rs (nt1 g n)) 0).2.2 := rfl
  have e2 : (ntU g n most).2.2 = (tn (wt (nt1 g n)) n (most - (ntD g n most).2.2) false 24 (ntD g n most).1 (ntD g n most).2.1 0).2.2 := rfl
  unfold ntM
  omega
/-! the start of a night: prices and fading -/
theorem fd1_gb {g : Nat → Int} {k q j : Nat} {f : Int} (hj : j < 8) : gb (fd1 g k f) q j = if q = k ∧ j = 2 then gb g k 2 * f / 100 else if q = k ∧ j = 5 then max (gb g k 5 - 1) 0 else gb g q j := by
  unfold fd1 fdH
  rw [gB_gb (by decide) hj, gB_ne (by decide) (by decide) (by decide), gB_gb (by decide) hj]
  by_cases e : q = k ∧ j = 5
  · rw [if_pos e, if_neg (by omega), if_pos e]
  · rw [if_neg e, if_neg e]
theorem fdF_gb {g : Nat → Int} {q j : Nat} (hj : j < 8) : ∀ k : Nat, gb (fdF g k) q j = if q < k ∧ j = 2 then gb g q 2 * g 0 / 100 else if q < k ∧ j = 5 then max (gb g q 5 - 1) 0 else gb g q j
  | 0 => by
    rw [if_neg (by omega), if_neg (by omega)]
    rfl
  | k + 1 => by
    show gb (fd1 (fdF g k) k (g 0)) q j = _
    rw [fd1_gb hj]
    by_cases e : q = k
    · subst e
      by_cases e2 : j = 2
      · rw [if_pos ⟨rfl, e2⟩, if_pos ⟨by omega, e2⟩, fdF_gb (by decide) q, if_neg (by omega), if_neg (by omega)]
      · rw [if_neg (by omega), if_neg (show ¬ (q < q + 1 ∧ j = 2) by omega)]
        by_cases e5 : j = 5
        · rw [if_pos ⟨rfl, e5⟩, if_pos ⟨by omega, e5⟩, fdF_gb (by decide) q, if_neg (by omega), if_neg (by omega)]
        · rw [if_neg (by omega), if_neg (by omega), fdF_gb hj q, if_neg (by omega), if_neg (by omega)]
    · rw [if_neg (by omega), if_neg (by omega), fdF_gb hj k]
      by_cases e2 : q < k ∧ j = 2
      · rw [if_pos e2, if_pos (by omega)]
      · rw [if_neg e2, if_neg (show ¬ (q < k + 1 ∧ j = 2) by omega)]
        by_cases e5 : q < k ∧ j = 5
        · rw [if_pos e5, if_pos (by omega)]
        · rw [if_neg e5, if_neg (by omega)]
theorem n1_gb {g : Nat → Int} {n q j : Nat} (hj : j < 8) (hq : q < n) : gb (nt1 g n) q j = if j = 2 then gb g q 2 * g 0 / 100 else if j = 5 then max (gb g q 5 - 1) 0 else gb g q j := by
  unfold nt1
  rw [fdF_gb hj, py_gb, py_gb, py_gb, py_num (by decide) (by decide)]
  by_cases e2 : j = 2
  · rw [if_pos ⟨hq, e2⟩, if_pos e2]
  · rw [if_neg (by omega), if_neg e2]
    by_cases e5 : j = 5
    · rw [if_pos ⟨hq, e5⟩, if_pos e5]
    · rw [if_neg (by omega), if_neg e5]
theorem n1_num {g : Nat → Int} {n j : Nat} (hj : j < 23) (h17 : j ≠ 17) (h18 : j ≠ 18) : nt1 g n j = g j := by
  unfold nt1
  rw [fd_num hj, py_num h17 h18]
theorem n1_17 {g : Nat → Int} {n : Nat} : nt1 g n 17 = g 17 + 1 := by
  unfold nt1
  rw [fd_num (by decide)]
  unfold pyF pyF pyF pyF
  rw [gN_num, if_neg (by decide), gN_num, if_neg (by decide), gN_num, if_neg (by decide), gN_num, if_pos rfl]
theorem RM.n1 {g : Nat → Int} {n : Nat} (h : RM g n) : RM (nt1 g n) n := h.eqv (fun j a b => n1_num (by omega) (by omega) (by omega)) (fun k hk => ⟨by rw [n1_gb (by decide) hk, if_neg (by decide), if_neg (by decide)], by rw [n1_gb (by decide) hk, if_neg (by decide), if_neg (by decide)]⟩)
/-- after a night: what the law sees of each block -/
theorem night_k {g : Nat → Int} {n k : Nat} {most : Int} (hG : GI g n) (hI : IV g n) (hk : k < n) : gb (ntU g n most).1 k 0 = gb g k 0 ∧ gb (ntU g n most).1 k 1 = gb g k 1 ∧ gb (ntU g n most).1 k 2 = gb g k 2 * g 0 / 100 ∧ (0 ≤ (ntU g n most).2.1 k ∧ (ntU g n most).2.1 k ≤ 5) ∧ ((ntU g n most).2.1 k = 1 ↔ gb g k 4 = 1) ∧ ((ntU g n most).2.1 k = 2 → 2 ≤ gb g k 5) ∧
    (((ntU g n most).2.1 k ≠ 0 ∧ gb (ntU g n most).1 k 3 = gb g k 3 ∧ gb (ntU g n most).1 k 7 = gb g k 7 ∧ gb (ntU g n most).1 k 5 = max (gb g k 5 - 1) 0) ∨
     ((ntU g n most).2.1 k = 0 ∧ gb (ntU g n most).1 k 3 ≠ gb g k 3 ∧ gb (ntU g n most).1 k 7 = gb g k 7 + 1 ∧ (gb (ntU g n most).1 k 3 = 2 → gb (ntU g n most).1 k 5 = g 4) ∧ (gb (ntU g n most).1 k 3 ≠ 2 → gb (ntU g n most).1 k 5 = 0))) := by
  have hN := (NTr.night (most := most) hG hI.1.n1).1
  have hb := hG.b hk
  obtain ⟨⟨q0, q1, q2, q4⟩, q⟩ := hN.2.2 k hk
  generalize hg2 : (ntU g n most).1 = g2 at *
  generalize hy2 : (ntU g n most).2.1 = y2 at *
  rw [n1_gb (by decide) hk, if_neg (by decide), if_neg (by decide)] at q0 q1 q4
  rw [n1_gb (by decide) hk, if_pos rfl] at q2
  have f3 : gb (nt1 g n) k 3 = gb g k 3 := by rw [n1_gb (by decide) hk, if_neg (by decide), if_neg (by decide)]
  have f4 : gb (nt1 g n) k 4 = gb g k 4 := by rw [n1_gb (by decide) hk, if_neg (by decide), if_neg (by decide)]
  have f7 : gb (nt1 g n) k 7 = gb g k 7 := by rw [n1_gb (by decide) hk, if_neg (by decide), if_neg (by decide)]
  have f5 : gb (nt1 g n) k 5 = max (gb g k 5 - 1) 0 := by rw [n1_gb (by decide) hk, if_neg (by decide), if_pos rfl]
  have fn4 : nt1 g n 4 = g 4 := n1_num (by decide) (by decide) (by decide)
  have hrs : rs (nt1 g n) k = if gb g k 4 = 0 then (if max (gb g k 5 - 1) 0 ≤ 0 then (if wt (nt1 g n) k = gb g k 3 then 3 else 4) else 2) else 1 := by
    unfold rs
    rw [f3, f4, f5]
  rw [f3, f5, f7] at q
  rw [fn4] at q
  refine ⟨q0, q1, q2, ?_⟩
  have hr : (gb g k 4 = 1 ∧ rs (nt1 g n) k = 1) ∨ (gb g k 4 = 0 ∧ 2 ≤ gb g k 5 ∧ rs (nt1 g n) k = 2) ∨ (gb g k 4 = 0 ∧ gb g k 5 ≤ 1 ∧ (rs (nt1 g n) k = 3 ∨ rs (nt1 g n) k = 4)) := by
    rw [hrs]
    by_cases e4 : gb g k 4 = 0
    · rw [if_pos e4]
      by_cases e5 : max (gb g k 5 - 1) 0 ≤ 0
      · rw [if_pos e5]
        refine Or.inr (Or.inr ⟨e4, by omega, ?_⟩)
        split
        · exact Or.inl rfl
        · exact Or.inr rfl
      · rw [if_neg e5]
        exact Or.inr (Or.inl ⟨e4, by omega, rfl⟩)
    · rw [if_neg e4]
      exact Or.inl ⟨by omega, rfl⟩
  rcases q with ⟨a1, a2, a3, a4, a5⟩ | ⟨a1, a2, a3, a4, a5, a6, a7⟩
  · exact ⟨by omega, by omega, by omega, Or.inl ⟨a1, a2, a4, a3⟩⟩
  · refine ⟨by omega, by omega, by omega, Or.inr ⟨a1, a3, a6, fun e => by rw [if_pos e] at a7; exact a7, fun e => ?_⟩⟩
    rw [if_neg e] at a7
    omega
theorem IV.nU {g : Nat → Int} {n : Nat} {most : Int} (hG : GI g n) (h : IV g n) : IV (ntU g n most).1 n := by
  have hN := (NTr.night (most := most) hG h.1.n1).1
  have hnum : ∀ j, j < 23 → j ≠ 17 → j ≠ 18 → (ntU g n most).1 j = g j := fun j a b c => (hN.1 j a).trans (n1_num a b c)
  have h17 : (ntU g n most).1 17 = g 17 + 1 := (hN.1 17 (by decide)).trans n1_17
  obtain ⟨h1, h2, h3, h4, h5, h6⟩ := id h
  refine ⟨hN.2.1, ?_, h3.eqv (fun k hk => (night_k hG h hk).1), fun k hk => ?_, fun k hk => ?_, fun k hk => ?_⟩
  · rw [hnum 1 (by decide) (by decide) (by decide), hnum 2 (by decide) (by decide) (by decide)]; exact h2
  · rw [(night_k hG h hk).1, hnum 16 (by decide) (by decide) (by decide)]; exact h4 k hk
  · obtain ⟨-, -, -, -, -, -, q⟩ := night_k (most := most) hG h hk
    have h5k := h5 k hk
    intro hp
    rcases q with ⟨a1, a2, a3, a4⟩ | ⟨a1, a2, a3, a4, a5⟩
    · rw [a2]
      refine h5k ?_
      rw [a4] at hp
      omega
    · exact Classical.byContradiction (fun z => by have := a5 z; omega)
  · obtain ⟨-, -, -, -, -, -, q⟩ := night_k (most := most) hG h hk
    have h6k := h6 k hk
    rw [h17, hnum 22 (by decide) (by decide) (by decide)]
    rcases q with ⟨a1, a2, a3, a4⟩ | ⟨a1, a2, a3, a4, a5⟩ <;> omega
theorem IV.ns {g : Nat → Int} {n : Nat} {most : Int} (hG : GI g n) (h : IV g n) : ∀ i, IV (nsG g n most i) n
  | 0 => h
  | i + 1 => (IV.ns hG h i).nU (hG.ns most i)
theorem IV.np {g : Nat → Int} {n : Nat} (hG : GI g n) (h : IV g n) (i : Nat) : IV (npG g n i) n :=
  (IV.ns hG h i).eqv (fun j hj => by unfold npG; rw [gN_num, if_neg (by omega)]) (fun k _ j _ => by unfold npG; exact gN_gb (by decide))
theorem ns_num {g : Nat → Int} {n : Nat} {most : Int} (hG : GI g n) (h : IV g n) {j : Nat} (hj : j < 23) (h17 : j ≠ 17) (h18 : j ≠ 18) : ∀ i, nsG g n most i j = g j
  | 0 => rfl
  | i + 1 => by
    have hN := (NTr.night (most := most) (hG.ns most i) (IV.ns (most := most) hG h i).1.n1).1
    exact ((hN.1 j hj).trans (n1_num hj h17 h18)).trans (ns_num hG h hj h17 h18 i)
theorem np_num {g : Nat → Int} {n i j : Nat} (hG : GI g n) (h : IV g n) (hj : j < 23) (h17 : j ≠ 17) (h18 : j ≠ 18) (h21 : j ≠ 21) : npG g n i j = g j := by
  unfold npG
  rw [gN_num, if_neg h21]
  exact ns_num hG h hj h17 h18 i
theorem np21 {g : Nat → Int} {n i : Nat} (hG : GI g n) (h : IV g n) : npG g n i 21 = g 21 + nsM g n (g 3) i := by
  unfold npG
  rw [gN_num, if_pos rfl, ns_num hG h (by decide) (by decide) (by decide)]
