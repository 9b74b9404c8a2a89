/-! what the law asks of a state, beyond what every state keeps to -/
def RM (g : Nat → Int) (n : Nat) : Prop := ∀ sh : Nat, sh < 3 → onF g n sh 1 ≤ g (6 + sh)
def IV (g : Nat → Int) (n : Nat) : Prop := RM g n ∧ g 2 ≤ g 1 ∧ NU g n ∧ (∀ k, k < n → gb g k 0 < g 16) ∧ (∀ k, k < n → 0 < gb g k 5 → gb g k 3 = 2) ∧ (∀ k, k < n → 0 ≤ gb g k 7 ∧ gb g k 7 ≤ g 17 + g 22)
theorem RM.eqv {g g' : Nat → Int} {n : Nat} (h : RM g n) (e1 : ∀ j, 6 ≤ j → j < 9 → g' j = g j) (e2 : ∀ k, k < n → gb g' k 3 = gb g k 3 ∧ gb g' k 1 = gb g k 1) : RM g' n := fun sh hs => by
  rw [on_congr (g' := g) (by decide) e2, e1 (6 + sh) (by omega) (by omega)]
  exact h sh hs
theorem NU.eqv {g g' : Nat → Int} {n : Nat} (h : NU g n) (e2 : ∀ k, k < n → gb g' k 0 = gb g k 0) : NU g' n := fun i j hi hj => by
  rw [e2 i (by omega), e2 j hj]
  exact h i j hi hj
theorem IV.eqv {g g' : Nat → Int} {n : Nat} (h : IV g n) (e1 : ∀ j, j = 1 ∨ j = 2 ∨ (6 ≤ j ∧ j < 9) ∨ j = 16 ∨ j = 17 ∨ j = 22 → g' j = g j) (e2 : ∀ k, k < n → ∀ j, j = 0 ∨ j = 1 ∨ j = 3 ∨ j = 5 ∨ j = 7 → gb g' k j = gb g k j) : IV g' n := by
  obtain ⟨h1, h2, h3, h4, h5, h6⟩ := h
  refine ⟨h1.eqv (fun j a b => e1 j (by omega)) (fun k hk => ⟨e2 k hk 3 (by omega), e2 k hk 1 (by omega)⟩), ?_, h3.eqv (fun k hk => e2 k hk 0 (by omega)), fun k hk => ?_, fun k hk => ?_, fun k hk => ?_⟩
  · rw [e1 1 (by omega), e1 2 (by omega)]; exact h2
  · rw [e2 k hk 0 (by omega), e1 16 (by omega)]; exact h4 k hk
  · rw [e2 k hk 5 (by omega), e2 k hk 3 (by omega)]; exact h5 k hk
  · rw [e2 k hk 7 (by omega), e1 17 (by omega), e1 22 (by omega)]; exact h6 k hk
theorem RM.mv {g : Nat → Int} {n k sh : Nat} (h : RM g n) (hG : GI g n) (hk : k < n) (hr : onF g n sh 1 + gb g k 1 ≤ g (6 + sh)) : RM (mv g k (sh : Int)) n := by
  intro s hs
  have h1 := h s hs
  have hb := (hG.b hk).2.1
  rw [mv_on hk, mv_num (by omega)]
  by_cases e : sh = s
  · subst e
    rw [if_pos rfl]
    split <;> omega
  · rw [if_neg (show ¬ (sh : Int) = (s : Int) by omega)]
    split <;> omega
theorem fr_rm {g : Nat → Int} {n : Nat} {z : Int} {sh : Nat} (h : fr g n z = some sh) : onF g n sh 1 + z ≤ g (6 + sh) := by
  unfold fr rmB at h
  split at h
  · rename_i a; cases h; exact of_decide_eq_true a
  · split at h
    · rename_i a; cases h; exact of_decide_eq_true a
    · split at h
      · rename_i a; cases h; exact of_decide_eq_true a
      · cases h
theorem IV.ad {g : Nat → Int} {n : Nat} {z : Int} {sh : Nat} (h : IV g n) (hs : sh < 3) (hz : 1 ≤ z) (hr : onF g n sh 1 + z ≤ g (6 + sh)) (h17 : 0 ≤ g 17 + g 22) : IV (adG g n z sh) (n + 1) := by
  obtain ⟨h1, h2, h3, h4, h5, h6⟩ := h
  have hnum : ∀ j, j < 23 → j ≠ 15 → j ≠ 16 → adG g n z sh j = g j := fun j a b c => by rw [adG_num a, if_neg b, if_neg c]
  refine ⟨fun s hs3 => ?_, ?_, fun i j hi hj => ?_, fun k hk => ?_, fun k hk => ?_, fun k hk => ?_⟩
  · have := h1 s hs3
    rw [adG_on, hnum _ (by omega) (by omega) (by omega)]
    by_cases e : sh = s
    · subst e
      rw [if_pos rfl]
      exact hr
    · rw [if_neg (show ¬ (sh : Int) = (s : Int) by omega)]
      omega
  · rw [hnum 1 (by decide) (by decide) (by decide), hnum 2 (by decide) (by decide) (by decide)]; exact h2
  · rw [adG_old (by omega) (by decide)]
    by_cases e : j < n
    · rw [adG_old e (by decide)]; exact h3 i j hi e
    · rw [show j = n by omega, adG_new (by decide), if_pos rfl]; exact h4 i (by omega)
  · rw [adG_num (by decide), if_neg (by decide), if_pos rfl]
    by_cases e : k < n
    · have := h4 k e
      rw [adG_old e (by decide)]; omega
    · rw [show k = n by omega, adG_new (by decide), if_pos rfl]; omega
  · by_cases e : k < n
    · rw [adG_old e (by decide), adG_old e (by decide)]; exact h5 k e
    · rw [show k = n by omega, adG_new (by decide), if_neg (by decide), if_neg (by decide), if_neg (by decide), if_neg (by decide)]; omega
  · rw [hnum 17 (by decide) (by decide) (by decide), hnum 22 (by decide) (by decide) (by decide)]
    by_cases e : k < n
    · rw [adG_old e (by decide)]; exact h6 k e
    · rw [show k = n by omega, adG_new (by decide), if_neg (by decide), if_neg (by decide), if_neg (by decide), if_neg (by decide)]; omega
theorem rm_gb {g : Nat → Int} {k q j : Nat} (hj : j < 8) : gb (rmG g k) q j = gb g (if q < k then q else q + 1) j := by
  by_cases e : q < k
  · rw [rmG_lo e hj, if_pos e]
  · rw [rmG_hi (by omega) hj, if_neg e]
theorem IV.rm {g : Nat → Int} {n k : Nat} (h : IV g n) (hG : GI g n) (hk : k < n) : IV (rmG g k) (n - 1) := by
  obtain ⟨h1, h2, h3, h4, h5, h6⟩ := h
  have hnum : ∀ j, j < 23 → j ≠ 15 → rmG g k j = g j := fun j a b => by rw [rmG_num a, if_neg b]
  have hq : ∀ q, q < n - 1 → (if q < k then q else q + 1) < n := fun q hq => by split <;> omega
  refine ⟨fun s hs3 => ?_, ?_, fun i j hi hj => ?_, fun q hq1 => ?_, fun q hq1 => ?_, fun q hq1 => ?_⟩
  · have := h1 s hs3
    have hb := (hG.b hk).2.1
    rw [rmG_on hk _ _ (by decide), hnum _ (by omega) (by omega), if_neg (show ¬ (1 : Nat) = 0 by decide)]
    split <;> omega
  · rw [hnum 1 (by decide) (by decide), hnum 2 (by decide) (by decide)]; exact h2
  · rw [rm_gb (by decide), rm_gb (by decide)]
    exact h3 _ _ (by split <;> split <;> omega) (hq j hj)
  · rw [rm_gb (by decide), hnum 16 (by decide) (by decide)]; exact h4 _ (hq q hq1)
  · rw [rm_gb (by decide), rm_gb (by decide)]; exact h5 _ (hq q hq1)
  · rw [rm_gb (by decide), hnum 17 (by decide) (by decide), hnum 22 (by decide) (by decide)]; exact h6 _ (hq q hq1)
theorem rm_no {g : Nat → Int} {n k : Nat} (h : NU g n) (hk : k < n) : pl (rmG g k) (n - 1) (gb g k 0) = none := pl_no (fun q hq => by
  rw [rm_gb (by decide)]
  by_cases e : q < k
  · rw [if_pos e]
    have := h q k e hk; omega
  · rw [if_neg e]
    have := h k (q + 1) (by omega) (by omega); omega)
theorem IV.set {g : Nat → Int} {n a : Nat} {v : Int} (h : IV g n) (ha : a < 15) (hal : alS g n a v) : IV (gN g a v) n := by
  obtain ⟨h1, h2, h3, h4, h5, h6⟩ := h
  obtain ⟨a1, a2, a3⟩ := hal
  refine ⟨fun s hs3 => ?_, ?_, fun i j hi hj => ?_, fun q hq1 => ?_, fun q hq1 => ?_, fun q hq1 => ?_⟩
  · have := h1 s hs3
    rw [on_congr (g' := g) (by decide) (fun k hk => ⟨gN_gb (by omega), gN_gb (by omega)⟩), gN_num]
    by_cases e : 6 + s = a
    · rw [if_pos e]
      have h9 := a3 (by omega)
      rw [show a - 6 = s by omega] at h9
      exact h9
    · rw [if_neg e]; exact this
  · rw [gN_num, gN_num]
    by_cases e1 : a = 1
    · rw [if_neg (by omega), if_pos e1.symm]; exact a1 e1
    · rw [if_neg (show ¬ 1 = a by omega)]
      by_cases e2 : a = 2
      · rw [if_pos e2.symm]; exact a2 e2
      · rw [if_neg (show ¬ 2 = a by omega)]; exact h2
  · rw [gN_gb (by omega), gN_gb (by omega)]; exact h3 i j hi hj
  · rw [gN_gb (by omega), gN_num, if_neg (by omega)]; exact h4 q hq1
  · rw [gN_gb (by omega), gN_gb (by omega)]; exact h5 q hq1
  · rw [gN_gb (by omega), gN_num, if_neg (by omega), gN_num, if_neg (by omega)]; exact h6 q hq1
theorem IV.pin {g : Nat → Int} {n k : Nat} {p : Int} (h : IV g n) : IV (gB g k 4 p) n :=
  h.eqv (fun j hj => gB_num (by omega)) (fun q _ j hj => gB_ne (by decide) (by omega) (by omega))
