/-! the state as one row of numbers: 23 numbers of the whole, then eight of each block; what is asked of it -/
def sm (f : Nat → Int) : Nat → Int
  | 0 => 0
  | k + 1 => sm f k + f k
def gb (g : Nat → Int) (k j : Nat) : Int := g (23 + 8 * k + j)
def onF (g : Nat → Int) (n : Nat) (sh : Int) (w : Nat) : Int := sm (fun k => if gb g k 3 = sh then (if w = 0 then 1 else gb g k w) else 0) n
/-- what every state keeps to -/
def GI (g : Nat → Int) (n : Nat) : Prop := n ≤ 24 ∧ g 15 = n ∧ (0 ≤ g 0 ∧ g 0 ≤ 100) ∧ (0 ≤ g 1 ∧ g 1 ≤ 20000) ∧ (0 ≤ g 2 ∧ g 2 ≤ 20000) ∧ (0 ≤ g 3 ∧ g 3 ≤ 24) ∧ (0 ≤ g 4 ∧ g 4 ≤ 30) ∧ (0 ≤ g 5 ∧ g 5 ≤ 50) ∧ (∀ j, j < 3 → 0 ≤ g (6 + j) ∧ g (6 + j) ≤ 200) ∧ (∀ j, j < 6 → 0 ≤ g (9 + j) ∧ g (9 + j) ≤ 50) ∧ (0 ≤ g 16 ∧ g 16 ≤ 1000) ∧
  ∀ k, k < n → (0 ≤ gb g k 0 ∧ gb g k 0 ≤ 999) ∧ (1 ≤ gb g k 1 ∧ gb g k 1 ≤ 9) ∧ (0 ≤ gb g k 2 ∧ gb g k 2 ≤ 99999) ∧ (0 ≤ gb g k 3 ∧ gb g k 3 ≤ 2) ∧ (0 ≤ gb g k 4 ∧ gb g k 4 ≤ 1) ∧ (0 ≤ gb g k 5 ∧ gb g k 5 ≤ 30)
/-- a State at c holds g: its numbers, its blocks, and what is taken on each shelf -/
def RS (I : xI) (c : Nat) (g : Nat → Int) (n : Nat) : Prop := (∀ j, j < 23 → I (c + 1) j = g j) ∧ (∀ k, k < n → ∀ j, j < 8 → I (c + 3 + j) k = gb g k j) ∧ (∀ sh : Nat, sh < 3 → I (c + 2) sh = onF g n sh 1)
theorem sm_congr {f h : Nat → Int} : ∀ {n : Nat}, (∀ k, k < n → f k = h k) → sm f n = sm h n
  | 0, _ => rfl
  | n + 1, e => by
    show sm f n + f n = sm h n + h n
    rw [sm_congr (fun k hk => e k (by omega)), e n (by omega)]
theorem sm_bounds {f : Nat → Int} {lo hi : Int} : ∀ {n : Nat}, (∀ k, k < n → lo ≤ f k ∧ f k ≤ hi) → lo * n ≤ sm f n ∧ sm f n ≤ hi * n
  | 0, _ => by simp [sm]
  | n + 1, e => by
    have h1 := sm_bounds (n := n) (fun k hk => e k (by omega))
    have h2 := e n (by omega)
    show lo * ((n + 1 : Nat) : Int) ≤ sm f n + f n ∧ sm f n + f n ≤ hi * ((n + 1 : Nat) : Int)
    rw [Int.natCast_add, Int.mul_add, Int.mul_add]
    omega
/-- one term of a sum changed -/
theorem sm_one {f h : Nat → Int} {k : Nat} : ∀ {n : Nat}, k < n → (∀ q, q < n → q ≠ k → f q = h q) → sm f n = sm h n - h k + f k
  | 0, hk, _ => absurd hk (Nat.not_lt_zero k)
  | n + 1, hk, e => by
    show sm f n + f n = sm h n + h n - h k + f k
    by_cases q : k = n
    · subst q
      rw [sm_congr (fun j hj => e j (by omega) (by omega))]
      omega
    · rw [sm_one (n := n) (by omega) (fun j hj hne => e j (by omega) hne), e n (by omega) (fun z => q z.symm)]
      omega
def oi (o : Option Nat) (d : Int) : Int := match o with
  | none => d
  | some k => k
/-- the place of the block of a number -/
def plF (g : Nat → Int) (b : Int) : Nat → Nat → Option Nat
  | 0, _ => none
  | m + 1, i => if gb g i 0 = b then some i else plF g b m (i + 1)
def pl (g : Nat → Int) (n : Nat) (b : Int) : Option Nat := plF g b n 0
theorem plF_lt {g : Nat → Int} {b : Int} : ∀ {m i k : Nat}, plF g b m i = some k → i ≤ k ∧ k < i + m
  | 0, i, k, h => by cases h
  | m + 1, i, k, h => by
    unfold plF at h
    split at h
    · cases h; omega
    · have := plF_lt h; omega
theorem pl_lt {g : Nat → Int} {n : Nat} {b : Int} {k : Nat} (h : pl g n b = some k) : k < n := by have := plF_lt h; omega
/-- how many blocks stand ahead of one, by heat and number -/
def hot (g : Nat → Int) (n k : Nat) : Int := sm (fun q => if gb g k 2 < gb g q 2 ∨ (gb g q 2 = gb g k 2 ∧ q < k) then 1 else 0) n
def rkF (g : Nat → Int) (n : Nat) (r : Int) : Nat → Nat → Option Nat
  | 0, _ => none
  | m + 1, i => if hot g n i = r then some i else rkF g n r m (i + 1)
def rk (g : Nat → Int) (n : Nat) (r : Int) : Option Nat := rkF g n r n 0
theorem rkF_lt {g : Nat → Int} {n : Nat} {r : Int} : ∀ {m i k : Nat}, rkF g n r m i = some k → i ≤ k ∧ k < i + m
  | 0, i, k, h => by cases h
  | m + 1, i, k, h => by
    unfold rkF at h
    split at h
    · cases h; omega
    · have := rkF_lt h; omega
def wt (g : Nat → Int) (k : Nat) : Int := if g 1 ≤ gb g k 2 then 0 else if g 2 ≤ gb g k 2 then 1 else 2
/-- room for so much on a shelf -/
def rm (g : Nat → Int) (n : Nat) (sh : Nat) (z : Int) : Prop := onF g n sh 1 + z ≤ g (6 + sh)
def rmB (g : Nat → Int) (n : Nat) (sh : Nat) (z : Int) : Bool := decide (onF g n sh 1 + z ≤ g (6 + sh))
def fr (g : Nat → Int) (n : Nat) (z : Int) : Option Nat := if rmB g n 0 z then some 0 else if rmB g n 1 z then some 1 else if rmB g n 2 z then some 2 else none
def pins (g : Nat → Int) (n : Nat) : Int := sm (fun k => gb g k 4) n
theorem GI.n24 {g : Nat → Int} {n : Nat} (h : GI g n) : n ≤ 24 := h.1
theorem GI.g15 {g : Nat → Int} {n : Nat} (h : GI g n) : g 15 = n := h.2.1
theorem GI.s0 {g : Nat → Int} {n : Nat} (h : GI g n) : 0 ≤ g 0 ∧ g 0 ≤ 100 := h.2.2.1
theorem GI.s1 {g : Nat → Int} {n : Nat} (h : GI g n) : 0 ≤ g 1 ∧ g 1 ≤ 20000 := h.2.2.2.1
theorem GI.s2 {g : Nat → Int} {n : Nat} (h : GI g n) : 0 ≤ g 2 ∧ g 2 ≤ 20000 := h.2.2.2.2.1
theorem GI.s3 {g : Nat → Int} {n : Nat} (h : GI g n) : 0 ≤ g 3 ∧ g 3 ≤ 24 := h.2.2.2.2.2.1
theorem GI.s4 {g : Nat → Int} {n : Nat} (h : GI g n) : 0 ≤ g 4 ∧ g 4 ≤ 30 := h.2.2.2.2.2.2.1
theorem GI.s5 {g : Nat → Int} {n : Nat} (h : GI g n) : 0 ≤ g 5 ∧ g 5 ≤ 50 := h.2.2.2.2.2.2.2.1
theorem GI.s6 {g : Nat → Int} {n : Nat} (h : GI g n) {j : Nat} (hj : j < 3) : 0 ≤ g (6 + j) ∧ g (6 + j) ≤ 200 := h.2.2.2.2.2.2.2.2.1 j hj
theorem GI.s9 {g : Nat → Int} {n : Nat} (h : GI g n) {j : Nat} (hj : j < 6) : 0 ≤ g (9 + j) ∧ g (9 + j) ≤ 50 := h.2.2.2.2.2.2.2.2.2.1 j hj
theorem GI.s16 {g : Nat → Int} {n : Nat} (h : GI g n) : 0 ≤ g 16 ∧ g 16 ≤ 1000 := h.2.2.2.2.2.2.2.2.2.2.1
theorem GI.b {g : Nat → Int} {n : Nat} (h : GI g n) {k : Nat} (hk : k < n) : (0 ≤ gb g k 0 ∧ gb g k 0 ≤ 999) ∧ (1 ≤ gb g k 1 ∧ gb g k 1 ≤ 9) ∧ (0 ≤ gb g k 2 ∧ gb g k 2 ≤ 99999) ∧ (0 ≤ gb g k 3 ∧ gb g k 3 ≤ 2) ∧ (0 ≤ gb g k 4 ∧ gb g k 4 ≤ 1) ∧ (0 ≤ gb g k 5 ∧ gb g k 5 ≤ 30) := h.2.2.2.2.2.2.2.2.2.2.2 k hk
theorem on_bounds {g : Nat → Int} {n : Nat} (h : GI g n) (sh : Int) : 0 ≤ onF g n sh 1 ∧ onF g n sh 1 ≤ 216 := by
  have h1 := sm_bounds (f := fun k => if gb g k 3 = sh then (if 1 = 0 then 1 else gb g k 1) else 0) (lo := 0) (hi := 9) (n := n) (fun k hk => by
    have := (h.b hk).2.1
    split
    · rw [if_neg (by decide)]; omega
    · omega)
  have h2 := h.n24
  unfold onF
  omega
theorem on0_bounds {g : Nat → Int} {n : Nat} (h : GI g n) (sh : Int) (w : Nat) (hw : w = 0 ∨ w = 2) : 0 ≤ onF g n sh w ∧ onF g n sh w ≤ 2399976 := by
  have h1 := sm_bounds (f := fun k => if gb g k 3 = sh then (if w = 0 then 1 else gb g k w) else 0) (lo := 0) (hi := 99999) (n := n) (fun k hk => by
    have := (h.b hk).2.2.1
    split
    · rcases hw with rfl | rfl
      · rw [if_pos rfl]; omega
      · rw [if_neg (by decide)]; omega
    · omega)
  have h2 := h.n24
  unfold onF
  omega
theorem hot_bounds {g : Nat → Int} {n : Nat} (h : n ≤ 24) (k : Nat) : 0 ≤ hot g n k ∧ hot g n k ≤ 24 := by
  have h1 := sm_bounds (f := fun q => if gb g k 2 < gb g q 2 ∨ (gb g q 2 = gb g k 2 ∧ q < k) then 1 else 0) (lo := 0) (hi := 1) (n := n) (fun q hq => by
    split <;> omega)
  unfold hot
  omega
theorem pins_bounds {g : Nat → Int} {n : Nat} (h : GI g n) : 0 ≤ pins g n ∧ pins g n ≤ 24 := by
  have h1 := sm_bounds (f := fun q => gb g q 4) (lo := 0) (hi := 1) (n := n) (fun q hq => (h.b hq).2.2.2.2.1)
  have h2 := h.n24
  unfold pins
  omega
theorem RS.b0 {I : xI} {c : Nat} {g : Nat → Int} {n : Nat} (h : RS I c g n) {k : Nat} (hk : k < n) : I (c + 3) k = gb g k 0 := h.2.1 k hk 0 (by decide)
theorem t_blk0 {I : xI} {c : Nat} {g : Nat → Int} {n : Nat} (hc : x_st c) (hR : RS I c g n) (hn : n ≤ 24) (k : Nat) (hk : k < n) {i : Int} (hi : i = (k : Int)) : S kX4_at 0 [rr (c + 3), ii i] I (q_p (ii (gb g k 0)) I) := by
  rw [← hR.b0 hk]
  exact t_atk (sh_st2 hc) (Or.inl (by have := st_lt hc; omega)) I k (by omega) hi
theorem RS.b1 {I : xI} {c : Nat} {g : Nat → Int} {n : Nat} (h : RS I c g n) {k : Nat} (hk : k < n) : I (c + 4) k = gb g k 1 := h.2.1 k hk 1 (by decide)
theorem t_blk1 {I : xI} {c : Nat} {g : Nat → Int} {n : Nat} (hc : x_st c) (hR : RS I c g n) (hn : n ≤ 24) (k : Nat) (hk : k < n) {i : Int} (hi : i = (k : Int)) : S kX4_at 0 [rr (c + 4), ii i] I (q_p (ii (gb g k 1)) I) := by
  rw [← hR.b1 hk]
  exact t_atk (sh_st3 hc) (Or.inl (by have := st_lt hc; omega)) I k (by omega) hi
theorem RS.b2 {I : xI} {c : Nat} {g : Nat → Int} {n : Nat} (h : RS I c g n) {k : Nat} (hk : k < n) : I (c + 5) k = gb g k 2 := h.2.1 k hk 2 (by decide)
theorem t_blk2 {I : xI} {c : Nat} {g : Nat → Int} {n : Nat} (hc : x_st c) (hR : RS I c g n) (hn : n ≤ 24) (k : Nat) (hk : k < n) {i : Int} (hi : i = (k : Int)) : S kX4_at 0 [rr (c + 5), ii i] I (q_p (ii (gb g k 2)) I) := by
  rw [← hR.b2 hk]
  exact t_atk (sh_st4 hc) (Or.inl (by have := st_lt hc; omega)) I k (by omega) hi
theorem RS.b3 {I : xI} {c : Nat} {g : Nat → Int} {n : Nat} (h : RS I c g n) {k : Nat} (hk : k < n) : I (c + 6) k = gb g k 3 := h.2.1 k hk 3 (by decide)
theorem t_blk3 {I : xI} {c : Nat} {g : Nat → Int} {n : Nat} (hc : x_st c) (hR : RS I c g n) (hn : n ≤ 24) (k : Nat) (hk : k < n) {i : Int} (hi : i = (k : Int)) : S kX4_at 0 [rr (c + 6), ii i] I (q_p (ii (gb g k 3)) I) := by
  rw [← hR.b3 hk]
  exact t_atk (sh_st5 hc) (Or.inl (by have := st_lt hc; omega)) I k (by omega) hi
theorem RS.b4 {I : xI} {c : Nat} {g : Nat → Int} {n : Nat} (h : RS I c g n) {k : Nat} (hk : k < n) : I (c + 7) k = gb g k 4 := h.2.1 k hk 4 (by decide)
theorem t_blk4 {I : xI} {c : Nat} {g : Nat → Int} {n : Nat} (hc : x_st c) (hR : RS I c g n) (hn : n ≤ 24) (k : Nat) (hk : k < n) {i : Int} (hi : i = (k : Int)) : S kX4_at 0 [rr (c + 7), ii i] I (q_p (ii (gb g k 4)) I) := by
  rw [← hR.b4 hk]
  exact t_atk (sh_st6 hc) (Or.inl (by have := st_lt hc; omega)) I k (by omega) hi
theorem RS.b5 {I : xI} {c : Nat} {g : Nat → Int} {n : Nat} (h : RS I c g n) {k : Nat} (hk : k < n) : I (c + 8) k = gb g k 5 := h.2.1 k hk 5 (by decide)
theorem t_blk5 {I : xI} {c : Nat} {g : Nat → Int} {n : Nat} (hc : x_st c) (hR : RS I c g n) (hn : n ≤ 24) (k : Nat) (hk : k < n) {i : Int} (hi : i = (k : Int)) : S kX4_at 0 [rr (c + 8), ii i] I (q_p (ii (gb g k 5)) I) := by
  rw [← hR.b5 hk]
  exact t_atk (sh_st7 hc) (Or.inl (by have := st_lt hc; omega)) I k (by omega) hi
theorem RS.b6 {I : xI} {c : Nat} {g : Nat → Int} {n : Nat} (h : RS I c g n) {k : Nat} (hk : k < n) : I (c + 9) k = gb g k 6 := h.2.1 k hk 6 (by decide)
theorem t_blk6 {I : xI} {c : Nat} {g : Nat → Int} {n : Nat} (hc : x_st c) (hR : RS I c g n) (hn : n ≤ 24) (k : Nat) (hk : k < n) {i : Int} (hi : i = (k : Int)) : S kX4_at 0 [rr (c + 9), ii i] I (q_p (ii (gb g k 6)) I) := by
  rw [← hR.b6 hk]
  exact t_atk (sh_st8 hc) (Or.inl (by have := st_lt hc; omega)) I k (by omega) hi
theorem RS.b7 {I : xI} {c : Nat} {g : Nat → Int} {n : Nat} (h : RS I c g n) {k : Nat} (hk : k < n) : I (c + 10) k = gb g k 7 := h.2.1 k hk 7 (by decide)
theorem t_blk7 {I : xI} {c : Nat} {g : Nat → Int} {n : Nat} (hc : x_st c) (hR : RS I c g n) (hn : n ≤ 24) (k : Nat) (hk : k < n) {i : Int} (hi : i = (k : Int)) : S kX4_at 0 [rr (c + 10), ii i] I (q_p (ii (gb g k 7)) I) := by
  rw [← hR.b7 hk]
  exact t_atk (sh_st9 hc) (Or.inl (by have := st_lt hc; omega)) I k (by omega) hi
theorem t_num {I : xI} {c : Nat} {g : Nat → Int} {n : Nat} (hc : x_st c) (hR : RS I c g n) (j : Nat) (hj : j < 23) {i : Int} (hi : i = (j : Int)) : S kX4_at 0 [rr (c + 1), ii i] I (q_p (ii (g j)) I) := by
  rw [← hR.1 j hj]
  exact t_atk (sh_st0 hc) (Or.inl (by have := st_lt hc; omega)) I j hj hi
theorem t_tak {I : xI} {c : Nat} {g : Nat → Int} {n : Nat} (hc : x_st c) (hR : RS I c g n) (j : Nat) (hj : j < 3) {i : Int} (hi : i = (j : Int)) : S kX4_at 0 [rr (c + 2), ii i] I (q_p (ii (onF g n j 1)) I) := by
  rw [← hR.2.2 j hj]
  exact t_atk (sh_st1 hc) (Or.inl (by have := st_lt hc; omega)) I j hj hi
