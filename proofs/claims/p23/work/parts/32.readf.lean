/-! readings -/
theorem min_step (x : Int) : min (min x 99999 + 1000) 99999 = min (x + 1000) 99999 := by omega
theorem rd3_num {g : Nat → Int} {k j : Nat} (hj : j < 23) : rdG3 g k j = if j = 19 then g 19 + rdC g k else g j := by
  unfold rdG3 rdG2 rdG1
  rw [gB_num hj, gB_num hj, gN_num]
theorem rd3_gb {g : Nat → Int} {k q j : Nat} (hj : j < 8) : gb (rdG3 g k) q j = if q = k ∧ j = 2 then min (gb g k 2 + 1000) 99999 else if q = k ∧ j = 6 then gb g k 6 + 1 else gb g q j := by
  unfold rdG3 rdG2 rdG1
  rw [gB_gb (by decide) hj, gB_ne (by decide) (by decide) (by decide), gB_gb (by decide) hj, gN_gb (by decide), gN_gb (by decide), gN_gb (by decide)]
theorem rd3_on {g : Nat → Int} {n k : Nat} {sh : Int} : onF (rdG3 g k) n sh 1 = onF g n sh 1 := on_congr (by decide) (fun q _ => ⟨by rw [rd3_gb (by decide), if_neg (by omega), if_neg (by omega)], by rw [rd3_gb (by decide), if_neg (by omega), if_neg (by omega)]⟩)
theorem ab3_num {g : Nat → Int} {k j : Nat} (hj : j < 23) : abG3 g k j = if j = 20 then g 20 + abP g k else if j = 22 then g 22 + 1 else g j := by
  unfold abG3 abG2 abG1
  rw [gB_num hj, gN_num, gN_num, gN_num]
  by_cases e : j = 22
  · rw [if_pos e, if_neg (by decide), if_neg (by omega), if_pos e]
  · rw [if_neg e, if_neg e]
theorem ab3_gb {g : Nat → Int} {k q j : Nat} (hj : j < 8) : gb (abG3 g k) q j = if q = k ∧ j = 5 then 0 else gb g q j := by
  unfold abG3 abG2 abG1
  rw [gB_gb (by decide) hj, gN_gb (by decide), gN_gb (by decide)]
theorem ab3_on {g : Nat → Int} {n k : Nat} {sh : Int} : onF (abG3 g k) n sh 1 = onF g n sh 1 := on_congr (by decide) (fun q _ => ⟨by rw [ab3_gb (by decide), if_neg (by omega)], by rw [ab3_gb (by decide), if_neg (by omega)]⟩)
theorem rmB_iff {g : Nat → Int} {n sh : Nat} {z : Int} : rmB g n sh z = true ↔ onF g n sh 1 + z ≤ g (6 + sh) := by
  unfold rmB
  exact decide_eq_true_iff
theorem ab_num {g : Nat → Int} {n k j : Nat} (hj : j < 23) : abG g n k j = if j = 20 then g 20 + abP g k else if j = 22 then g 22 + 1 else g j := by
  unfold abG
  split
  · rw [mv_num hj, ab3_num hj]
  · split
    · rw [mv_num hj, ab3_num hj]
    · exact ab3_num hj
theorem ab_gb {g : Nat → Int} {n k q j : Nat} (hj : j < 8) (h : q ≠ k ∨ (j ≠ 3 ∧ j ≠ 7)) : gb (abG g n k) q j = if q = k ∧ j = 5 then 0 else gb g q j := by
  unfold abG
  split
  · rw [mv_gb hj, if_neg (by omega), if_neg (by omega), ab3_gb hj]
  · split
    · rw [mv_gb hj, if_neg (by omega), if_neg (by omega), ab3_gb hj]
    · exact ab3_gb hj
/-- asked back: it goes up where there is room, else it stays -/
theorem ab_way {g : Nat → Int} {n k : Nat} : (∃ sh : Nat, sh < 2 ∧ onF g n sh 1 + gb g k 1 ≤ g (6 + sh) ∧ abG g n k = mv (abG3 g k) k (sh : Int)) ∨ (g 6 < onF g n (0 : Nat) 1 + gb g k 1 ∧ g 7 < onF g n (1 : Nat) 1 + gb g k 1 ∧ abG g n k = abG3 g k) := by
  have e0 := rmB_iff (g := abG3 g k) (n := n) (sh := 0) (z := gb g k 1)
  have e1 := rmB_iff (g := abG3 g k) (n := n) (sh := 1) (z := gb g k 1)
  rw [ab3_on, ab3_num (by decide), if_neg (by decide), if_neg (by decide)] at e0 e1
  unfold abG
  by_cases h0 : rmB (abG3 g k) n 0 (gb g k 1) = true
  · rw [if_pos h0]
    exact Or.inl ⟨0, by decide, e0.mp h0, rfl⟩
  · rw [if_neg h0]
    by_cases h1 : rmB (abG3 g k) n 1 (gb g k 1) = true
    · rw [if_pos h1]
      exact Or.inl ⟨1, by decide, e1.mp h1, rfl⟩
    · rw [if_neg h1]
      refine Or.inr ⟨?_, ?_, rfl⟩
      · exact Int.not_le.mp (fun z => h0 (e0.mpr z))
      · exact Int.not_le.mp (fun z => h1 (e1.mpr z))
theorem IV.rd3 {g : Nat → Int} {n k : Nat} (h : IV g n) : IV (rdG3 g k) n := h.eqv (fun j hj => by rw [rd3_num (by omega), if_neg (by omega)]) (fun q _ j hj => by rw [rd3_gb (by omega), if_neg (by omega), if_neg (by omega)])
theorem IV.ab {g : Nat → Int} {n k : Nat} (hG : GI g n) (h : IV g n) (hk : k < n) : IV (abG g n k) n := by
  obtain ⟨h1, h2, h3, h4, h5, h6⟩ := id h
  have hRM : RM (abG3 g k) n := h1.eqv (fun j a b => by rw [ab3_num (by omega), if_neg (by omega), if_neg (by omega)]) (fun q _ => ⟨by rw [ab3_gb (by decide), if_neg (by omega)], by rw [ab3_gb (by decide), if_neg (by omega)]⟩)
  have h7 : ∀ q, q < n → 0 ≤ gb (abG g n k) q 7 ∧ gb (abG g n k) q 7 ≤ gb g q 7 + 1 := fun q hq => by
    have := h6 q hq
    rcases ab_way (g := g) (n := n) (k := k) with ⟨sh, -, -, e⟩ | ⟨-, -, e⟩
    · by_cases z : q = k
      · subst z
        rw [e, mv_gb (by decide), if_neg (by omega), if_pos ⟨rfl, rfl⟩, ab3_gb (by decide), if_neg (by omega)]
        omega
      · rw [e, mv_gb (by decide), if_neg (by omega), if_neg (by omega), ab3_gb (by decide), if_neg (by omega)]
        omega
    · rw [e, ab3_gb (by decide), if_neg (by omega)]
      omega
  refine ⟨?_, ?_, h3.eqv (fun q _ => by rw [ab_gb (by decide) (by omega), if_neg (by omega)]), fun q hq => ?_, fun q hq => ?_, fun q hq => ?_⟩
  · rcases ab_way (g := g) (n := n) (k := k) with ⟨sh, hs, hr, e⟩ | ⟨-, -, e⟩
    · rw [e]
      refine RM.mv hRM hG.ab3 hk ?_
      rw [ab3_on, ab3_gb (by decide), if_neg (by omega), ab3_num (by omega), if_neg (by omega), if_neg (by omega)]
      exact hr
    · rw [e]; exact hRM
  · rw [ab_num (by decide), if_neg (by decide), if_neg (by decide), ab_num (by decide), if_neg (by decide), if_neg (by decide)]; exact h2
  · rw [ab_gb (by decide) (by omega), if_neg (by omega), ab_num (by decide), if_neg (by decide), if_neg (by decide)]; exact h4 q hq
  · rw [ab_gb (by decide) (by omega)]
    by_cases e : q = k
    · rw [if_pos ⟨e, rfl⟩]; omega
    · rw [if_neg (by omega), ab_gb (by decide) (Or.inl e), if_neg (by omega)]; exact h5 q hq
  · have := h7 q hq
    have := h6 q hq
    rw [ab_num (j := 17) (by decide), if_neg (by decide), if_neg (by decide), ab_num (j := 22) (by decide), if_neg (by decide), if_pos rfl]
    omega
theorem IV.rd {g : Nat → Int} {n k : Nat} (hG : GI g n) (h : IV g n) (hk : k < n) : IV (rd1G g n k) n := by
  unfold rd1G
  split
  · exact IV.ab (hG.rd3 hk) h.rd3 hk
  · exact h.rd3
theorem IV.rb {g : Nat → Int} {n k : Nat} (hG : GI g n) (h : IV g n) (hk : k < n) : ∀ t, IV (rbG g n k t) n
  | 0 => h
  | t + 1 => IV.rd (hG.rb hk t) (IV.rb hG h hk t) hk
/-- one reading: off the deep shelf -/
theorem rd_lo {g : Nat → Int} {n k : Nat} (h3 : gb g k 3 ≠ 2) : rd1G g n k = rdG3 g k ∧ rd1P g k = rdC g k := by
  unfold rd1G rd1P
  rw [if_neg h3, if_neg h3]
  exact ⟨rfl, rfl⟩
/-- the block is not on the deep shelf -/
theorem read_lo {g : Nat → Int} {n k : Nat} (h3 : 0 ≤ gb g k 3 ∧ gb g k 3 < 2) (h2 : gb g k 2 ≤ 99999) : ∀ t : Nat, (∀ j, j < 23 → j ≠ 19 → rbG g n k t j = g j) ∧ rbG g n k t 19 = g 19 + rbP g n k t ∧ rbP g n k t = t * (gb g k 1 * g (12 + (gb g k 3).toNat)) ∧ (∀ q j, j < 8 → (q ≠ k ∨ (j ≠ 2 ∧ j ≠ 6)) → gb (rbG g n k t) q j = gb g q j) ∧ gb (rbG g n k t) k 6 = gb g k 6 + t ∧ gb (rbG g n k t) k 2 = min (gb g k 2 + 1000 * t) 99999
  | 0 => ⟨fun _ _ _ => rfl, by show g 19 = g 19 + 0; omega, by show (0 : Int) = ((0 : Nat) : Int) * _; rw [Int.natCast_zero, Int.zero_mul], fun _ _ _ _ => rfl, by show gb g k 6 = gb g k 6 + ((0 : Nat) : Int); omega, by show gb g k 2 = min (gb g k 2 + 1000 * ((0 : Nat) : Int)) 99999; omega⟩
  | t + 1 => by
    obtain ⟨a1, a2, a3, a4, a5, a6⟩ := read_lo h3 h2 t
    have e3 : gb (rbG g n k t) k 3 = gb g k 3 := a4 k 3 (by decide) (by omega)
    have eC : rdC (rbG g n k t) k = gb g k 1 * g (12 + (gb g k 3).toNat) := by
      unfold rdC
      rw [e3, a4 k 1 (by decide) (by omega), a1 _ (by omega) (by omega)]
    obtain ⟨b1, b2⟩ := rd_lo (g := rbG g n k t) (n := n) (k := k) (by omega)
    have eG : rbG g n k (t + 1) = rdG3 (rbG g n k t) k := b1
    have eP : rbP g n k (t + 1) = rbP g n k t + gb g k 1 * g (12 + (gb g k 3).toNat) := by
      show rbP g n k t + rd1P (rbG g n k t) k = _
      rw [b2, eC]
    rw [eG, eP]
    refine ⟨fun j hj hne => ?_, ?_, ?_, fun q j hj hh => ?_, ?_, ?_⟩
    · rw [rd3_num hj, if_neg hne]; exact a1 j hj hne
    · rw [rd3_num (by decide), if_pos rfl, a2, eC]; omega
    · rw [a3, Int.natCast_add, Int.add_mul]; omega
    · rw [rd3_gb hj, if_neg (by omega), if_neg (by omega)]; exact a4 q j hj hh
    · rw [rd3_gb (by decide), if_neg (by omega), if_pos ⟨rfl, rfl⟩, a5]; omega
    · rw [rd3_gb (by decide), if_pos ⟨rfl, rfl⟩, a6, min_step, show gb g k 2 + 1000 * (t : Int) + 1000 = gb g k 2 + 1000 * ((t + 1 : Nat) : Int) by omega]
/-- one reading on the deep shelf -/
theorem rd_hi {g : Nat → Int} {n k : Nat} (h3 : gb g k 3 = 2) : (∀ j, j < 23 → j ≠ 19 → j ≠ 20 → j ≠ 22 → rd1G g n k j = g j) ∧ rd1G g n k 19 = g 19 + rdC g k ∧ rd1G g n k 20 = g 20 + gb g k 1 * g 5 * gb g k 5 ∧ rd1G g n k 22 = g 22 + 1 ∧ rd1P g k = rdC g k + gb g k 1 * g 5 * gb g k 5 ∧
    gb (rd1G g n k) k 0 = gb g k 0 ∧ gb (rd1G g n k) k 1 = gb g k 1 ∧ gb (rd1G g n k) k 5 = 0 ∧ gb (rd1G g n k) k 6 = gb g k 6 + 1 ∧ gb (rd1G g n k) k 2 = min (gb g k 2 + 1000) 99999 ∧
    ((∃ sh : Nat, sh < 2 ∧ onF g n sh 1 + gb g k 1 ≤ g (6 + sh) ∧ gb (rd1G g n k) k 3 = (sh : Int)) ∨ (g 6 < onF g n (0 : Nat) 1 + gb g k 1 ∧ g 7 < onF g n (1 : Nat) 1 + gb g k 1 ∧ gb (rd1G g n k) k 3 = 2 ∧ ∀ s : Int, onF (rd1G g n k) n s 1 = onF g n s 1)) := by
  have eG : rd1G g n k = abG (rdG3 g k) n k := by unfold rd1G; rw [if_pos h3]
  have f1 : gb (rdG3 g k) k 1 = gb g k 1 := by rw [rd3_gb (by decide), if_neg (by omega), if_neg (by omega)]
  have f5 : gb (rdG3 g k) k 5 = gb g k 5 := by rw [rd3_gb (by decide), if_neg (by omega), if_neg (by omega)]
  have eA : abP (rdG3 g k) k = gb g k 1 * g 5 * gb g k 5 := by
    unfold abP
    rw [f1, f5, rd3_num (by decide), if_neg (by decide)]
  have eP : rd1P g k = rdC g k + gb g k 1 * g 5 * gb g k 5 := by unfold rd1P; rw [if_pos h3, eA]
  rw [eG, eP]
  refine ⟨fun j hj h1 h2 h4 => ?_, ?_, ?_, ?_, rfl, ?_, ?_, ?_, ?_, ?_, ?_⟩
  · rw [ab_num hj, if_neg h2, if_neg h4, rd3_num hj, if_neg h1]
  · rw [ab_num (by decide), if_neg (by decide), if_neg (by decide), rd3_num (by decide), if_pos rfl]
  · rw [ab_num (by decide), if_pos rfl, rd3_num (by decide), if_neg (by decide), eA]
  · rw [ab_num (by decide), if_neg (by decide), if_pos rfl, rd3_num (by decide), if_neg (by decide)]
  · rw [ab_gb (by decide) (by omega), if_neg (by omega), rd3_gb (by decide), if_neg (by omega), if_neg (by omega)]
  · rw [ab_gb (by decide) (by omega), if_neg (by omega), f1]
  · rw [ab_gb (by decide) (by omega), if_pos ⟨rfl, rfl⟩]
  · rw [ab_gb (by decide) (by omega), if_neg (by omega), rd3_gb (by decide), if_neg (by omega), if_pos ⟨rfl, rfl⟩]
  · rw [ab_gb (by decide) (by omega), if_neg (by omega), rd3_gb (by decide), if_pos ⟨rfl, rfl⟩]
  · have hw := ab_way (g := rdG3 g k) (n := n) (k := k)
    rw [f1] at hw
    rcases hw with ⟨sh, hs, hr, e⟩ | ⟨w0, w1, e⟩
    · rw [rd3_on, rd3_num (by omega), if_neg (by omega)] at hr
      refine Or.inl ⟨sh, hs, hr, ?_⟩
      rw [e, mv_gb (by decide), if_pos ⟨rfl, rfl⟩]
    · rw [rd3_on, rd3_num (by decide), if_neg (by decide)] at w0 w1
      refine Or.inr ⟨w0, w1, ?_, fun s => ?_⟩
      · rw [e, ab3_gb (by decide), if_neg (by omega), rd3_gb (by decide), if_neg (by omega), if_neg (by omega)]; exact h3
      · rw [e, ab3_on, rd3_on]
/-- the block was on the deep shelf -/
theorem read_hi {g : Nat → Int} {n k : Nat} (h3 : gb g k 3 = 2) (h2 : gb g k 2 ≤ 99999) : ∀ t : Nat, (∀ j, j < 23 → j ≠ 19 → j ≠ 20 → j ≠ 22 → rbG g n k (t + 1) j = g j) ∧ rbG g n k (t + 1) 20 = g 20 + gb g k 1 * g 5 * gb g k 5 ∧ rbG g n k (t + 1) 19 + rbG g n k (t + 1) 20 = g 19 + g 20 + rbP g n k (t + 1) ∧
    gb (rbG g n k (t + 1)) k 0 = gb g k 0 ∧ gb (rbG g n k (t + 1)) k 1 = gb g k 1 ∧ gb (rbG g n k (t + 1)) k 5 = 0 ∧ gb (rbG g n k (t + 1)) k 6 = gb g k 6 + ((t + 1 : Nat) : Int) ∧ gb (rbG g n k (t + 1)) k 2 = min (gb g k 2 + 1000 * ((t + 1 : Nat) : Int)) 99999 ∧
    ((0 ≤ gb (rbG g n k (t + 1)) k 3 ∧ gb (rbG g n k (t + 1)) k 3 < 2 ∧ rbG g n k (t + 1) 22 = g 22 + 1) ∨ (gb (rbG g n k (t + 1)) k 3 = 2 ∧ rbG g n k (t + 1) 22 = g 22 + ((t + 1 : Nat) : Int) ∧ g 6 < onF (rbG g n k (t + 1)) n (0 : Nat) 1 + gb g k 1 ∧ g 7 < onF (rbG g n k (t + 1)) n (1 : Nat) 1 + gb g k 1))
  | 0 => by
    obtain ⟨a1, a2, a3, a4, a5, a6, a7, a8, a9, a10, a11⟩ := rd_hi (n := n) h3
    have eG : rbG g n k (0 + 1) = rd1G g n k := rfl
    have eP : rbP g n k (0 + 1) = 0 + rd1P g k := rfl
    rw [eG, eP]
    refine ⟨a1, a3, by rw [a2, a3, a5]; omega, a6, a7, a8, by rw [a9]; rfl, by rw [a10]; rfl, ?_⟩
    rcases a11 with ⟨sh, hs, -, e⟩ | ⟨w0, w1, e, eo⟩
    · exact Or.inl ⟨by omega, by omega, a4⟩
    · exact Or.inr ⟨e, by rw [a4]; rfl, by rw [eo]; exact w0, by rw [eo]; exact w1⟩
  | t + 1 => by
    obtain ⟨b1, b2, b3, b4, b5, b6, b7, b8, b9⟩ := read_hi h3 h2 t
    have eG : rbG g n k (t + 1 + 1) = rd1G (rbG g n k (t + 1)) n k := rfl
    have eP : rbP g n k (t + 1 + 1) = rbP g n k (t + 1) + rd1P (rbG g n k (t + 1)) k := rfl
    rw [eG, eP]
    generalize rbG g n k (t + 1) = g1 at *
    generalize rbP g n k (t + 1) = p1 at *
    rcases b9 with ⟨c1, c2, c3⟩ | ⟨c1, c2, c3, c4⟩
    · obtain ⟨d1, d2⟩ := rd_lo (g := g1) (n := n) (k := k) (by omega)
      rw [d1, d2]
      refine ⟨fun j hj n1 n2 n3 => ?_, ?_, ?_, ?_, ?_, ?_, ?_, ?_, Or.inl ⟨?_, ?_, ?_⟩⟩
      · rw [rd3_num hj, if_neg n1]; exact b1 j hj n1 n2 n3
      · rw [rd3_num (by decide), if_neg (by decide)]; exact b2
      · rw [rd3_num (by decide), if_pos rfl, rd3_num (by decide), if_neg (by decide)]; omega
      · rw [rd3_gb (by decide), if_neg (by omega), if_neg (by omega)]; exact b4
      · rw [rd3_gb (by decide), if_neg (by omega), if_neg (by omega)]; exact b5
      · rw [rd3_gb (by decide), if_neg (by omega), if_neg (by omega)]; exact b6
      · rw [rd3_gb (by decide), if_neg (by omega), if_pos ⟨rfl, rfl⟩, b7]; omega
      · rw [rd3_gb (by decide), if_pos ⟨rfl, rfl⟩, b8, min_step, show gb g k 2 + 1000 * ((t + 1 : Nat) : Int) + 1000 = gb g k 2 + 1000 * ((t + 1 + 1 : Nat) : Int) by omega]
      · rw [rd3_gb (by decide), if_neg (by omega), if_neg (by omega)]; exact c1
      · rw [rd3_gb (by decide), if_neg (by omega), if_neg (by omega)]; exact c2
      · rw [rd3_num (by decide), if_neg (by decide)]; exact c3
    · obtain ⟨a1, a2, a3, a4, a5, a6, a7, a8, a9, a10, a11⟩ := rd_hi (n := n) c1
      rw [b6, Int.mul_zero] at a3 a5
      have e6 : g1 6 = g 6 := b1 6 (by decide) (by decide) (by decide) (by decide)
      have e7 : g1 7 = g 7 := b1 7 (by decide) (by decide) (by decide) (by decide)
      refine ⟨fun j hj n1 n2 n3 => (a1 j hj n1 n2 n3).trans (b1 j hj n1 n2 n3), by rw [a3, b2]; omega, by rw [a2, a3, a5]; omega, a6.trans b4, a7.trans b5, a8, by rw [a9, b7]; omega, by rw [a10, b8, min_step, show gb g k 2 + 1000 * ((t + 1 : Nat) : Int) + 1000 = gb g k 2 + 1000 * ((t + 1 + 1 : Nat) : Int) from by clear a11; omega], ?_⟩
      rcases a11 with ⟨sh, hs, hr, e⟩ | ⟨w0, w1, e, eo⟩
      · exfalso
        rw [b5] at hr
        rcases (by omega : sh = 0 ∨ sh = 1) with z | z
        · subst z
          change onF g1 n ((0 : Nat) : Int) 1 + gb g k 1 ≤ g1 6 at hr
          omega
        · subst z
          change onF g1 n ((1 : Nat) : Int) 1 + gb g k 1 ≤ g1 7 at hr
          omega
      · exact Or.inr ⟨e, by rw [a4, c2]; omega, by rw [eo]; exact c3, by rw [eo]; exact c4⟩
