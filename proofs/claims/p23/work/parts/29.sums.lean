/-! sums; the ranks are the places in another order -/
theorem sm_add (f h : Nat → Int) : ∀ n : Nat, sm (fun k => f k + h k) n = sm f n + sm h n
  | 0 => rfl
  | n + 1 => by
    show sm (fun k => f k + h k) n + (f n + h n) = sm f n + f n + (sm h n + h n)
    rw [sm_add f h n]
    omega
theorem sm_zero : ∀ n : Nat, sm (fun _ => 0) n = 0
  | 0 => rfl
  | n + 1 => by
    show sm (fun _ => 0) n + 0 = 0
    rw [sm_zero n]
    rfl
theorem sm_ones : ∀ n : Nat, sm (fun _ => 1) n = n
  | 0 => rfl
  | n + 1 => by
    show sm (fun _ => 1) n + 1 = ((n + 1 : Nat) : Int)
    rw [sm_ones n]
    omega
theorem sm_swap (a : Nat → Nat → Int) (n : Nat) : ∀ m : Nat, sm (fun r => sm (fun k => a r k) n) m = sm (fun k => sm (fun r => a r k) m) n
  | 0 => (sm_zero n).symm
  | m + 1 => by
    show sm (fun r => sm (fun k => a r k) n) m + sm (fun k => a m k) n = sm (fun k => sm (fun r => a r k) m + a m k) n
    rw [sm_add, sm_swap a n m]
theorem sm_pick {f : Nat → Int} {k0 : Nat} : ∀ {n : Nat}, k0 < n → (∀ k, k < n → k ≠ k0 → f k = 0) → sm f n = f k0
  | 0, h, _ => absurd h (Nat.not_lt_zero _)
  | n + 1, h, e => by
    show sm f n + f n = f k0
    by_cases q : k0 = n
    · subst q
      rw [sm_congr (h := fun _ => 0) (fun k hk => e k (by omega) (by omega)), sm_zero]
      omega
    · rw [sm_pick (n := n) (by omega) (fun k hk hne => e k (by omega) hne), e n (by omega) (fun z => q z.symm)]
      omega
theorem sm_le {a b : Nat → Int} : ∀ {n : Nat}, (∀ k, k < n → a k ≤ b k) → sm a n ≤ sm b n
  | 0, _ => Int.le_refl 0
  | n + 1, e => by
    have h1 := sm_le (n := n) (fun k hk => e k (by omega))
    have h2 := e n (by omega)
    show sm a n + a n ≤ sm b n + b n
    omega
theorem sm_lt {a b : Nat → Int} {q : Nat} : ∀ {n : Nat}, (∀ k, k < n → a k ≤ b k) → q < n → a q + 1 ≤ b q → sm a n + 1 ≤ sm b n
  | 0, _, h, _ => absurd h (Nat.not_lt_zero _)
  | n + 1, e, h, s => by
    have h2 := e n (by omega)
    show sm a n + a n + 1 ≤ sm b n + b n
    by_cases z : q = n
    · subst z
      have h1 := sm_le (n := q) (fun k hk => e k (by omega))
      omega
    · have h1 := sm_lt (n := n) (fun k hk => e k (by omega)) (by omega) s
      omega
/-- q stands ahead of k -/
abbrev ah (g : Nat → Int) (q k : Nat) : Prop := gb g k 2 < gb g q 2 ∨ (gb g q 2 = gb g k 2 ∧ q < k)
theorem hot_ah (g : Nat → Int) (n k : Nat) : hot g n k = sm (fun q => if ah g q k then 1 else 0) n := rfl
theorem ah_tot {g : Nat → Int} {q k : Nat} (h : q ≠ k) : ah g q k ∨ ah g k q := by unfold ah; omega
theorem hot_lt {g : Nat → Int} {n q k : Nat} (hq : q < n) (h : ah g q k) : hot g n q + 1 ≤ hot g n k := by
  rw [hot_ah, hot_ah]
  refine sm_lt (q := q) (fun j _ => ?_) hq ?_
  · by_cases e : ah g j q
    · rw [if_pos e, if_pos (by unfold ah at *; omega)]
      exact Int.le_refl 1
    · rw [if_neg e]
      split <;> omega
  · show (if ah g q q then (1 : Int) else 0) + 1 ≤ if ah g q k then 1 else 0
    rw [if_neg (by unfold ah; omega), if_pos h]
    exact Int.le_refl 1
theorem hot_rev {g : Nat → Int} {n q k : Nat} (hk : k < n) (h : hot g n q < hot g n k) : ah g q k := by
  by_cases e : q = k
  · subst e; omega
  · rcases ah_tot (g := g) e with a | a
    · exact a
    · have := hot_lt (n := n) hk a
      omega
theorem hot_inj {g : Nat → Int} {n q k : Nat} (hq : q < n) (hk : k < n) (h : hot g n q = hot g n k) : q = k := by
  by_cases e : q = k
  · exact e
  · rcases ah_tot (g := g) e with a | a
    · have := hot_lt (n := n) hq a; omega
    · have := hot_lt (n := n) hk a; omega
theorem hot_n {g : Nat → Int} {n k : Nat} (hk : k < n) : 0 ≤ hot g n k ∧ hot g n k < n := by
  constructor
  · have h1 := sm_bounds (f := fun q => if ah g q k then 1 else 0) (lo := 0) (hi := 1) (n := n) (fun q hq => by split <;> omega)
    rw [hot_ah]
    omega
  · have h1 : sm (fun q => if ah g q k then 1 else 0) n + 1 ≤ sm (fun _ => 1) n := sm_lt (q := k) (fun j _ => by split <;> omega) hk (by
      show (if ah g k k then (1 : Int) else 0) + 1 ≤ 1
      rw [if_neg (by unfold ah; omega)]
      exact Int.le_refl 1)
    rw [sm_ones] at h1
    rw [hot_ah]
    omega
/-- every rank has its place -/
theorem hot_sur {g : Nat → Int} {n r : Nat} (hr : r < n) : ∃ k, k < n ∧ hot g n k = r := by
  apply Classical.byContradiction
  intro hno
  have h0 : ∀ k, k < n → hot g n k ≠ r := fun k hk e => hno ⟨k, hk, e⟩
  have h1 : sm (fun r : Nat => sm (fun k => if hot g n k = (r : Int) then (1 : Int) else 0) n) n = n := by
    rw [sm_swap]
    rw [sm_congr (h := fun _ => 1) (fun k hk => ?_), sm_ones]
    have hk2 := hot_n (g := g) hk
    rw [sm_pick (k0 := (hot g n k).toNat) (by omega) (fun q hq hne => if_neg (by omega))]
    exact if_pos (by omega)
  have h2 : sm (fun r : Nat => sm (fun k => if hot g n k = (r : Int) then (1 : Int) else 0) n) n + 1 ≤ sm (fun _ => 1) n := by
    refine sm_lt (q := r) (fun q _ => ?_) hr ?_
    · by_cases e : ∃ k, k < n ∧ hot g n k = q
      · obtain ⟨k, hk, e⟩ := e
        rw [sm_pick (k0 := k) hk (fun j hj hne => if_neg (fun z => hne (hot_inj hj hk (z.trans e.symm))))]
        split <;> omega
      · rw [sm_congr (h := fun _ => 0) (fun k hk => if_neg (fun z => e ⟨k, hk, z⟩)), sm_zero]
        decide
    · show sm (fun k => if hot g n k = (r : Int) then (1 : Int) else 0) n + 1 ≤ 1
      rw [sm_congr (h := fun _ => 0) (fun k hk => if_neg (h0 k hk)), sm_zero]
      decide
  rw [h1, sm_ones] at h2
  omega
theorem rkF_some {g : Nat → Int} {n : Nat} {r : Int} : ∀ {m i k : Nat}, i ≤ k → k < i + m → hot g n k = r → ∃ q, rkF g n r m i = some q ∧ i ≤ q ∧ q < i + m ∧ hot g n q = r
  | 0, i, k, h1, h2, _ => by omega
  | m + 1, i, k, h1, h2, h3 => by
    by_cases e : hot g n i = r
    · exact ⟨i, by unfold rkF; rw [if_pos e], Nat.le_refl i, by omega, e⟩
    · obtain ⟨q, a, b, c, d⟩ := rkF_some (g := g) (n := n) (r := r) (m := m) (i := i + 1) (k := k) (by
        have : i ≠ k := fun z => e (z ▸ h3)
        omega) (by omega) h3
      exact ⟨q, by unfold rkF; rw [if_neg e]; exact a, by omega, by omega, d⟩
theorem rkF_none {g : Nat → Int} {n : Nat} {r : Int} : ∀ {m i : Nat}, (∀ k, i ≤ k → k < i + m → hot g n k ≠ r) → rkF g n r m i = none
  | 0, i, _ => rfl
  | m + 1, i, h => by
    unfold rkF
    rw [if_neg (h i (Nat.le_refl i) (by omega))]
    exact rkF_none (fun k a b => h k (by omega) (by omega))
/-- the place of a rank -/
def rp (g : Nat → Int) (n r : Nat) : Nat := (rk g n (r : Int)).getD 0
theorem rp_ok {g : Nat → Int} {n r : Nat} (hr : r < n) : rk g n (r : Int) = some (rp g n r) ∧ rp g n r < n ∧ hot g n (rp g n r) = r := by
  obtain ⟨k, hk, h⟩ := hot_sur (g := g) hr
  obtain ⟨q, a, b, c, d⟩ := rkF_some (m := n) (i := 0) (Nat.zero_le k) (by omega) h
  have e : rk g n (r : Int) = some q := a
  have e2 : rp g n r = q := by unfold rp; rw [e]; rfl
  rw [e2]
  exact ⟨e, by omega, d⟩
theorem rk_end {g : Nat → Int} {n : Nat} : rk g n (n : Int) = none := rkF_none (fun k _ b => by have := hot_n (g := g) (n := n) (k := k) (by omega); omega)
theorem rp_sum {g : Nat → Int} {n : Nat} (f : Nat → Int) : sm (fun r => f (rp g n r)) n = sm f n := by
  rw [sm_congr (h := fun r : Nat => sm (fun k => if hot g n k = (r : Int) then f k else 0) n) (fun r hr => ?_), sm_swap]
  · refine sm_congr (fun k hk => ?_)
    have hk2 := hot_n (g := g) hk
    rw [sm_pick (k0 := (hot g n k).toNat) (by omega) (fun q hq hne => if_neg (by omega))]
    exact if_pos (by omega)
  · have hr2 := rp_ok (g := g) hr
    rw [sm_pick (k0 := rp g n r) hr2.2.1 (fun j hj hne => if_neg (fun z => hne (hot_inj hj hr2.2.1 (z.trans hr2.2.2.symm))))]
    exact (if_pos hr2.2.2).symm
theorem rp_next {g : Nat → Int} {n r : Nat} (hr : r + 1 < n) : ah g (rp g n r) (rp g n (r + 1)) := by
  have h1 := rp_ok (g := g) (n := n) (r := r) (by omega)
  have h2 := rp_ok (g := g) hr
  exact hot_rev h2.2.1 (by rw [h1.2.2, h2.2.2]; omega)
/-- the numbers of blocks grow with their places -/
def NU (g : Nat → Int) (n : Nat) : Prop := ∀ i j, i < j → j < n → gb g i 0 < gb g j 0
theorem plF_none {g : Nat → Int} {b : Int} : ∀ {m i : Nat}, (∀ k, i ≤ k → k < i + m → gb g k 0 ≠ b) → plF g b m i = none
  | 0, i, _ => rfl
  | m + 1, i, h => by
    unfold plF
    rw [if_neg (h i (Nat.le_refl i) (by omega))]
    exact plF_none (fun k a b => h k (by omega) (by omega))
theorem plF_some {g : Nat → Int} {b : Int} : ∀ {m i k : Nat}, i ≤ k → k < i + m → gb g k 0 = b → (∀ q, i ≤ q → q < k → gb g q 0 ≠ b) → plF g b m i = some k
  | 0, i, k, h1, h2, _, _ => by omega
  | m + 1, i, k, h1, h2, h3, h4 => by
    by_cases e : i = k
    · subst e
      unfold plF
      rw [if_pos h3]
    · unfold plF
      rw [if_neg (h4 i (Nat.le_refl i) (by omega))]
      exact plF_some (by omega) (by omega) h3 (fun q a b => h4 q (by omega) b)
theorem pl_nu {g : Nat → Int} {n k : Nat} (h : NU g n) (hk : k < n) : pl g n (gb g k 0) = some k :=
  plF_some (Nat.zero_le k) (by omega) rfl (fun q _ b => by have := h q k b hk; omega)
theorem pl_no {g : Nat → Int} {n : Nat} {b : Int} (h : ∀ k, k < n → gb g k 0 ≠ b) : pl g n b = none := plF_none (fun k _ hk => h k (by omega))
theorem plF_eq {g : Nat → Int} {b : Int} : ∀ {m i k : Nat}, plF g b m i = some k → gb g k 0 = b
  | 0, i, k, h => by cases h
  | m + 1, i, k, h => by
    unfold plF at h
    split at h
    · cases h; assumption
    · exact plF_eq h
theorem pl_eq {g : Nat → Int} {n k : Nat} {b : Int} (h : pl g n b = some k) : gb g k 0 = b := plF_eq h
