/-! a night: who may move, whose turn is next, where a block moves to, the turns -/
def rs (g : Nat → Int) (k : Nat) : Int := if gb g k 4 = 0 then (if gb g k 5 ≤ 0 then (if wt g k = gb g k 3 then 3 else 4) else 2) else 1
theorem rs_bounds (g : Nat → Int) (k : Nat) : 0 ≤ rs g k ∧ rs g k ≤ 5 := by unfold rs; split <;> (try split) <;> (try split) <;> omega
theorem wt_bounds (g : Nat → Int) (k : Nat) : 0 ≤ wt g k ∧ wt g k ≤ 2 := by unfold wt; split <;> (try split) <;> omega
/-- whether k is better than the best so far -/
def btr (g : Nat → Int) (dn : Bool) (k : Nat) (r : Option Nat) : Bool := match r with
  | none => true
  | some q => if dn = true then decide (gb g k 2 < gb g q 2) else decide (gb g q 2 < gb g k 2)
def cnd (w g y : Nat → Int) (dn : Bool) (k : Nat) : Bool := decide (y k = 4) && (decide (gb g k 3 < w k) == dn)
def nxF (w g y : Nat → Int) (dn : Bool) : Nat → Option Nat
  | 0 => none
  | k + 1 => if (cnd w g y dn k && btr g dn k (nxF w g y dn k)) = true then some k else nxF w g y dn k
theorem nxF_lt {w g y : Nat → Int} {dn : Bool} : ∀ {m k : Nat}, nxF w g y dn m = some k → k < m ∧ cnd w g y dn k = true
  | 0, k, h => by cases h
  | m + 1, k, h => by
    unfold nxF at h
    split at h
    · rename_i h1
      cases h
      rw [Bool.and_eq_true] at h1
      exact ⟨Nat.lt_succ_self m, h1.1⟩
    · have := nxF_lt h
      exact ⟨by omega, this.2⟩
theorem nxF_none {w g y : Nat → Int} {dn : Bool} : ∀ {m : Nat}, nxF w g y dn m = none → ∀ k, k < m → cnd w g y dn k = false
  | 0, _, k, hk => absurd hk (Nat.not_lt_zero k)
  | m + 1, h, k, hk => by
    unfold nxF at h
    split at h
    · cases h
    · rename_i h1
      by_cases e : k = m
      · subst e
        rw [h] at h1
        simpa [btr] using h1
      · exact nxF_none h k (by omega)
def yu (y : Nat → Int) (k : Nat) (v : Int) : Nat → Int := fun i => if i = k then v else y i
def tg (w g : Nat → Int) (n k : Nat) : Option Nat := if rmB g n (w k).toNat (gb g k 1) = true then some (w k).toNat else if (w k - gb g k 3 = 2 ∨ gb g k 3 - w k = 2) ∧ rmB g n 1 (gb g k 1) = true then some 1 else none
def mp (g : Nat → Int) (k sh : Nat) : Nat → Int := if sh = 2 then gB (mv g k (sh : Int)) k 5 (mv g k (sh : Int) 4) else mv g k (sh : Int)
def tn (w : Nat → Int) (n : Nat) (most : Int) (dn : Bool) : Nat → (Nat → Int) → (Nat → Int) → Int → (Nat → Int) × (Nat → Int) × Int
  | 0, g, y, m => (g, y, m)
  | f + 1, g, y, m => if m < most then (match nxF w g y dn n with
    | none => (g, y, m)
    | some k => match tg w g n k with
      | none => tn w n most dn f g (yu y k 5) m
      | some sh => tn w n most dn f (mp g k sh) (yu y k 0) (m + 1)) else (g, y, m)
theorem tg_lt {w g : Nat → Int} {n k sh : Nat} (hw : 0 ≤ w k ∧ w k ≤ 2) (h : tg w g n k = some sh) : sh < 3 := by
  unfold tg at h
  split at h
  · cases h; omega
  · split at h
    · cases h; decide
    · cases h
theorem mp_num {g : Nat → Int} {k sh j : Nat} (hj : j < 23) : mp g k sh j = g j := by
  unfold mp
  split
  · rw [gB_num hj, mv_num hj]
  · rw [mv_num hj]
theorem GI.setP {g : Nat → Int} {n k sh : Nat} (h : GI g n) (hs : sh < 3) : GI (mp g k sh) n := by
  have h4 := h.s4
  have h1 := h.setM (k := k) (sh := (sh : Int)) (by omega)
  unfold mp
  split
  · have e : mv g k (sh : Int) 4 = g 4 := mv_num (by decide)
    exact h1.setB (by decide) ⟨by omega, by omega, by omega, by omega, by omega, by omega⟩
  · exact h1
theorem GI.setT {w : Nat → Int} {n : Nat} {most : Int} {dn : Bool} (hw : ∀ k, k < n → 0 ≤ w k ∧ w k ≤ 2) : ∀ (f : Nat) (g y : Nat → Int) (m : Int), GI g n → GI (tn w n most dn f g y m).1 n
  | 0, g, y, m, h => h
  | f + 1, g, y, m, h => by
    show GI (if m < most then _ else _ : (Nat → Int) × (Nat → Int) × Int).1 n
    split
    · cases hk : nxF w g y dn n with
      | none => exact h
      | some k =>
        cases ht : tg w g n k with
        | none => simp only [ht]; exact GI.setT hw f g _ m h
        | some sh => simp only [ht]; exact GI.setT hw f _ _ _ (h.setP (tg_lt (hw k (nxF_lt hk).1) ht))
    · exact h
theorem tn_y {w : Nat → Int} {n : Nat} {most : Int} {dn : Bool} : ∀ (f : Nat) (g y : Nat → Int) (m : Int), (∀ k, k < n → 0 ≤ y k ∧ y k ≤ 5) → ∀ k, k < n → 0 ≤ (tn w n most dn f g y m).2.1 k ∧ (tn w n most dn f g y m).2.1 k ≤ 5
  | 0, g, y, m, h => h
  | f + 1, g, y, m, h => by
    show ∀ k, k < n → 0 ≤ (if m < most then _ else _ : (Nat → Int) × (Nat → Int) × Int).2.1 k ∧ (if m < most then _ else _ : (Nat → Int) × (Nat → Int) × Int).2.1 k ≤ 5
    have hu : ∀ (q : Nat) (v : Int), 0 ≤ v ∧ v ≤ 5 → ∀ k, k < n → 0 ≤ yu y q v k ∧ yu y q v k ≤ 5 := by
      intro q v hv k hk
      unfold yu
      split
      · exact hv
      · exact h k hk
    split
    · cases hk : nxF w g y dn n with
      | none => exact h
      | some k =>
        cases ht : tg w g n k with
        | none => simp only [ht]; exact tn_y f g _ m (hu k 5 (by decide))
        | some sh => simp only [ht]; exact tn_y f _ _ _ (hu k 0 (by decide))
    · exact h
theorem tn_m {w : Nat → Int} {n : Nat} {most : Int} {dn : Bool} : ∀ (f : Nat) (g y : Nat → Int) (m : Int), m ≤ (tn w n most dn f g y m).2.2 ∧ (tn w n most dn f g y m).2.2 ≤ m + f ∧ (m ≤ most → (tn w n most dn f g y m).2.2 ≤ most)
  | 0, g, y, m => by show m ≤ m ∧ m ≤ m + (0 : Nat) ∧ (m ≤ most → m ≤ most); omega
  | f + 1, g, y, m => by
    show m ≤ (if m < most then _ else _ : (Nat → Int) × (Nat → Int) × Int).2.2 ∧ (if m < most then _ else _ : (Nat → Int) × (Nat → Int) × Int).2.2 ≤ m + ((f + 1 : Nat) : Int) ∧ (m ≤ most → (if m < most then _ else _ : (Nat → Int) × (Nat → Int) × Int).2.2 ≤ most)
    split
    · rename_i hlt
      cases hk : nxF w g y dn n with
      | none => dsimp only; omega
      | some k =>
        cases ht : tg w g n k with
        | none =>
          simp only [ht]
          have := tn_m (w := w) (n := n) (most := most) (dn := dn) f g (yu y k 5) m
          omega
        | some sh =>
          simp only [ht]
          have := tn_m (w := w) (n := n) (most := most) (dn := dn) f (mp g k sh) (yu y k 0) (m + 1)
          omega
    · dsimp only; omega
theorem mp_gb1 {g : Nat → Int} {k sh q : Nat} : gb (mp g k sh) q 2 = gb g q 2 ∧ gb (mp g k sh) q 1 = gb g q 1 ∧ gb (mp g k sh) q 0 = gb g q 0 ∧ gb (mp g k sh) q 4 = gb g q 4 ∧ gb (mp g k sh) q 6 = gb g q 6 := by
  unfold mp
  split
  · refine ⟨?_, ?_, ?_, ?_, ?_⟩ <;> rw [gB_ne (by decide) (by decide) (by decide), mv_gb (by decide), if_neg (by omega), if_neg (by omega)]
  · refine ⟨?_, ?_, ?_, ?_, ?_⟩ <;> rw [mv_gb (by decide), if_neg (by omega), if_neg (by omega)]
/-- what a night gives: the state, why each block stays, how many move; 'MOVED' not yet counted -/
def nt1 (g : Nat → Int) (n : Nat) : Nat → Int := fdF (pyF g n 3) n
def ntD (g : Nat → Int) (n : Nat) (most : Int) : (Nat → Int) × (Nat → Int) × Int := tn (wt (nt1 g n)) n most true 24 (nt1 g n) (rs (nt1 g n)) 0
def ntU (g : Nat → Int) (n : Nat) (most : Int) : (Nat → Int) × (Nat → Int) × Int := tn (wt (nt1 g n)) n (most - (ntD g n most).2.2) false 24 (ntD g n most).1 (ntD g n most).2.1 0
def ntM (g : Nat → Int) (n : Nat) (most : Int) : Int := (ntD g n most).2.2 + (ntU g n most).2.2
theorem GI.n1 {g : Nat → Int} {n : Nat} (h : GI g n) : GI (nt1 g n) n := (h.py 3).fd n (Nat.le_refl n)
theorem GI.nD {g : Nat → Int} {n : Nat} (h : GI g n) (most : Int) : GI (ntD g n most).1 n := GI.setT (fun k _ => wt_bounds _ k) _ _ _ _ h.n1
theorem GI.nU {g : Nat → Int} {n : Nat} (h : GI g n) (most : Int) : GI (ntU g n most).1 n := GI.setT (fun k _ => wt_bounds _ k) _ _ _ _ (h.nD most)
/-- nights, one after the other -/
def nsG (g : Nat → Int) (n : Nat) (most : Int) : Nat → (Nat → Int)
  | 0 => g
  | i + 1 => (ntU (nsG g n most i) n most).1
def nsM (g : Nat → Int) (n : Nat) (most : Int) : Nat → Int
  | 0 => 0
  | i + 1 => nsM g n most i + ntM (nsG g n most i) n most
theorem GI.ns {g : Nat → Int} {n : Nat} (h : GI g n) (most : Int) : ∀ i, GI (nsG g n most i) n
  | 0 => h
  | i + 1 => (GI.ns h most i).nU most
def npG (g : Nat → Int) (n : Nat) (i : Nat) : Nat → Int := gN (nsG g n (g 3) i) 21 (nsG g n (g 3) i 21 + nsM g n (g 3) i)
theorem GI.np {g : Nat → Int} {n : Nat} (h : GI g n) (i : Nat) : GI (npG g n i) n := (h.ns (g 3) i).acc (by decide) _
theorem ntM_bounds (g : Nat → Int) (n : Nat) (most : Int) : 0 ≤ ntM g n most ∧ ntM g n most ≤ 48 := by
  have h1 := tn_m (w := wt (nt1 g n)) (n := n) (most := most) (dn := true) 24 (nt1 g n) (rs (nt1 g n)) 0
  have h2 := tn_m (w := wt (nt1 g n)) (n := n) (most := most - (ntD g n most).2.2) (dn := false) 24 (ntD g n most).1 (ntD g n most).2.1 0
  unfold ntM
  have e1 : (ntD g n most).2.2 = (tn (wt (nt1 g n)) n most true 24 (nt1 g n) (rs (nt1 g n)) 0).2.2 := rfl
  have e2 : (ntU g n most).2.2 = (tn (wt (nt1 g n)) n (most - (ntD g n most).2.2) false 24 (ntD g n most).1 (ntD g n most).2.1 0).2.2 := rfl
  omega
theorem nsM_bounds (g : Nat → Int) (n : Nat) (most : Int) : ∀ i : Nat, 0 ≤ nsM g n most i ∧ nsM g n most i ≤ 48 * i
  | 0 => by show (0 : Int) ≤ 0 ∧ (0 : Int) ≤ 48 * (0 : Nat); omega
  | i + 1 => by
    have h1 := nsM_bounds g n most i
    have h2 := ntM_bounds (nsG g n most i) n most
    show 0 ≤ nsM g n most i + ntM (nsG g n most i) n most ∧ nsM g n most i + ntM (nsG g n most i) n most ≤ 48 * ((i + 1 : Nat) : Int)
    omega
/-- the Night's rows hold what is wanted and why -/
def WR (I : xI) (n : Nat) (w y : Nat → Int) : Prop := ∀ k, k < n → I 81 k = w k ∧ I 82 k = y k
/-- what a method of Night leaves alone -/
def FT (I I1 : xI) (c : Nat) : Prop := ∀ q, (q ≤ c ∨ c + 11 ≤ q) → q ≠ 81 → q ≠ 82 → I1 q = I q
theorem FT.rf {I : xI} {c : Nat} : FT I I c := fun _ _ _ _ => rfl
theorem FT.trans {I I1 I2 : xI} {c : Nat} (h : FT I I1 c) (h' : FT I1 I2 c) : FT I I2 c := fun q a b d => (h' q a b d).trans (h q a b d)
theorem FR.t {I I1 : xI} {c : Nat} (h : FR I I1 c) : FT I I1 c := fun q a _ _ => h q a
theorem RS.keep {I I1 : xI} {c : Nat} {g : Nat → Int} {n : Nat} (h : RS I c g n) (e : ∀ q, c + 1 ≤ q → q ≤ c + 10 → I1 q = I q) : RS I1 c g n :=
  ⟨fun j hj => by rw [e _ (by omega) (by omega)]; exact h.1 j hj, fun k hk j hj => by rw [e _ (by omega) (by omega)]; exact h.2.1 k hk j hj, fun s hs => by rw [e _ (by omega) (by omega)]; exact h.2.2 s hs⟩
theorem st_low {c : Nat} (h : x_st c) : c + 10 < 80 := by unfold x_st at h; omega
theorem RS.up81 {I : xI} {c : Nat} {g : Nat → Int} {n : Nat} (hc : x_st c) (h : RS I c g n) {q j : Nat} {z : Int} (hq : q = 81 ∨ q = 82) : RS (x_up I q j z) c g n := by
  have := st_low hc
  exact h.keep (fun p h1 h2 => x_up_ne (by omega))
theorem FT.up81 {I I1 : xI} {c : Nat} (h : FT I I1 c) {q j : Nat} {z : Int} (hq : q = 81 ∨ q = 82) : FT I (x_up I1 q j z) c := fun p a b d => by
  rw [x_up_ne (by omega)]; exact h p a b d
theorem WR.fr {I I1 : xI} {c n : Nat} {w y : Nat → Int} (hc : x_st c) (h : WR I n w y) (hF : FR I I1 c) : WR I1 n w y := by
  have := st_low hc
  intro k hk
  rw [hF 81 (by omega), hF 82 (by omega)]
  exact h k hk
theorem WR.setY {I : xI} {n : Nat} {w y : Nat → Int} (h : WR I n w y) (k : Nat) (v : Int) : WR (x_up I 82 k v) n w (yu y k v) := by
  intro q hq
  refine ⟨by rw [x_up_off (by decide)]; exact (h q hq).1, ?_⟩
  rw [x_up_app]
  unfold yu
  by_cases e : q = k
  · rw [if_pos ⟨rfl, e⟩, if_pos e]
  · rw [if_neg (by omega), if_neg e]; exact (h q hq).2
