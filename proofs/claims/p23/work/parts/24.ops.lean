/-! what each call does to the whole, as numbers alone -/
abbrev xS : Type := (Nat → Int) × Nat
def SG (s : xS) : Prop := GI s.1 s.2 ∧ 0 ≤ s.1 17 ∧ s.1 17 ≤ 5000
def oAdd (s : xS) (z : Int) : Int × xS := (adZ s.1 s.2 z, match fr s.1 s.2 z with
  | none => s
  | some sh => (adG s.1 s.2 z sh, s.2 + 1))
def oRem (s : xS) (b : Int) : Int × xS := (rmZ s.1 s.2 b, match pl s.1 s.2 b with
  | none => s
  | some k => (rmG s.1 k, s.2 - 1))
def oRead (s : xS) (b t : Int) : Int × xS := (rbZ s.1 s.2 b t, match pl s.1 s.2 b with
  | none => s
  | some k => (rbG s.1 s.2 k t.toNat, s.2))
def oPin (s : xS) (b p : Int) : Int × xS := (tpZ s.1 s.2 b p, match pl s.1 s.2 b with
  | none => s
  | some k => (gB s.1 k 4 p, s.2))
def oPass (s : xS) (t : Int) : Int × xS := (if t < 1 ∨ 99 < t then -2 else if 5000 < s.1 17 + t then -3 else nsM s.1 s.2 (s.1 3) t.toNat, (npG s.1 s.2 t.toNat, s.2))
def oSet (s : xS) (a v : Int) : Int × xS := (csZ s.1 s.2 a v, (gN s.1 a.toNat v, s.2))
/-- the text: nothing was ever typed -/
def TB (tx : Nat → Int) (len : Nat) : Prop := len ≤ 60 ∧ ∀ j, j < len → 0 ≤ tx j ∧ tx j ≤ 65535
def pushH (hs : List xS) (s : xS) : List xS := (if hs.length = 4 then hs.tail else hs) ++ [s]
def nxS (s : xS) (r : Int × xS) : xS := if 0 ≤ r.1 then r.2 else s
def nxH (s : xS) (hs : List xS) (r : Int × xS) : List xS := if 0 ≤ r.1 then pushH hs s else hs
/-! the count of nights -/
theorem mv17 {g : Nat → Int} {k : Nat} {sh : Int} : mv g k sh 17 = g 17 := mv_num (by decide)
theorem ab17 {g : Nat → Int} {n k : Nat} : abG g n k 17 = g 17 := by
  have e : abG3 g k 17 = g 17 := by unfold abG3; rw [gB_num (by decide)]; unfold abG2; rw [gN_num, if_neg (by decide)]; unfold abG1; rw [gN_num, if_neg (by decide)]
  unfold abG
  split
  · rw [mv17, e]
  · split
    · rw [mv17, e]
    · exact e
theorem rd17 {g : Nat → Int} {n k : Nat} : rd1G g n k 17 = g 17 := by
  have e : rdG3 g k 17 = g 17 := by unfold rdG3; rw [gB_num (by decide)]; unfold rdG2; rw [gB_num (by decide)]; unfold rdG1; rw [gN_num, if_neg (by decide)]
  unfold rd1G
  split
  · rw [ab17, e]
  · exact e
theorem rb17 {g : Nat → Int} {n k : Nat} : ∀ t, rbG g n k t 17 = g 17
  | 0 => rfl
  | t + 1 => (rd17 (g := rbG g n k t)).trans (rb17 t)
theorem fd_num {g : Nat → Int} {j : Nat} (hj : j < 23) : ∀ k, fdF g k j = g j
  | 0 => rfl
  | k + 1 => by
    show fd1 (fdF g k) k (g 0) j = g j
    unfold fd1 fdH
    rw [gB_num hj, gB_num hj, fd_num hj k]
theorem tn_num {w : Nat → Int} {n : Nat} {most : Int} {dn : Bool} {j : Nat} (hj : j < 23) : ∀ (f : Nat) (g y : Nat → Int) (m : Int), (tn w n most dn f g y m).1 j = g j
  | 0, g, y, m => rfl
  | f + 1, g, y, m => by
    by_cases h : m < most
    · cases hr : nxF w g y dn n with
      | none => rw [tn_none h hr]
      | some k =>
        cases ht : tg w g n k with
        | none => rw [tn_stay h hr ht]; exact tn_num hj f g _ m
        | some sh => rw [tn_go h hr ht, tn_num hj f]; exact mp_num hj
    · rw [tn_stop (by omega)]
theorem ns17 {g : Nat → Int} {n : Nat} {most : Int} : ∀ i : Nat, nsG g n most i 17 = g 17 + i
  | 0 => by show g 17 = g 17 + ((0 : Nat) : Int); omega
  | i + 1 => by
    show (ntU (nsG g n most i) n most).1 17 = _
    unfold ntU ntD
    rw [tn_num (by decide), tn_num (by decide)]
    unfold nt1
    rw [fd_num (by decide)]
    show pyF (nsG g n most i) n 3 17 = _
    unfold pyF pyF pyF pyF
    rw [gN_num, if_neg (by decide), gN_num, if_neg (by decide), gN_num, if_neg (by decide), gN_num, if_pos rfl, ns17 i]
    omega
theorem np17 {g : Nat → Int} {n i : Nat} : npG g n i 17 = g 17 + i := by
  unfold npG
  rw [gN_num, if_neg (by decide)]
  exact ns17 i
/-! what is paid for a reading is no error -/
theorem rdC_bounds {g : Nat → Int} {n k : Nat} (h : GI g n) (hk : k < n) : 0 ≤ rdC g k ∧ rdC g k ≤ 450 := by
  have hb := h.b hk
  obtain ⟨o, ho⟩ := Int.eq_ofNat_of_zero_le hb.2.2.2.1.1
  have e : (gb g k 3).toNat = o := by omega
  have h9 := h.s9 (j := 3 + o) (by omega)
  rw [show 9 + (3 + o) = 12 + o by omega] at h9
  unfold rdC
  rw [e]
  have a := Int.mul_nonneg (a := gb g k 1) (b := g (12 + o)) (by omega) h9.1
  have b := Int.mul_le_mul hb.2.1.2 h9.2 h9.1 (by omega)
  omega
theorem abP_bounds {g : Nat → Int} {n k : Nat} (h : GI g n) (hk : k < n) : 0 ≤ abP g k ∧ abP g k ≤ 13500 := by
  have hb := h.b hk
  have h5 := h.s5
  unfold abP
  have a := Int.mul_nonneg (a := gb g k 1) (b := g 5) (by omega) h5.1
  have b := Int.mul_le_mul hb.2.1.2 h5.2 h5.1 (by omega)
  have c := Int.mul_nonneg a hb.2.2.2.2.2.1
  have d := Int.mul_le_mul b hb.2.2.2.2.2.2 hb.2.2.2.2.2.1 (by omega)
  omega
theorem rd1P_bounds {g : Nat → Int} {n k : Nat} (h : GI g n) (hk : k < n) : 0 ≤ rd1P g k ∧ rd1P g k ≤ 13950 := by
  have a := rdC_bounds h hk
  have b := abP_bounds (h.rd3 hk) hk
  unfold rd1P
  split <;> omega
theorem rbP_bounds {g : Nat → Int} {n k : Nat} (h : GI g n) (hk : k < n) : ∀ t : Nat, 0 ≤ rbP g n k t ∧ rbP g n k t ≤ 13950 * t
  | 0 => by show (0 : Int) ≤ 0 ∧ (0 : Int) ≤ 13950 * ((0 : Nat) : Int); omega
  | t + 1 => by
    have a := rbP_bounds h hk t
    have b := rd1P_bounds (h.rb hk t) hk
    show 0 ≤ rbP g n k t + rd1P (rbG g n k t) k ∧ rbP g n k t + rd1P (rbG g n k t) k ≤ 13950 * ((t + 1 : Nat) : Int)
    omega
/-! each change keeps what every state keeps to; its answer is small -/
def small (z : Int) : Prop := -100000 ≤ z ∧ z ≤ 2000000
theorem oAdd_ok {s : xS} (h : SG s) (z : Int) : small (oAdd s z).1 ∧ (0 ≤ (oAdd s z).1 → SG (oAdd s z).2) := by
  obtain ⟨hG, h17⟩ := h
  have h16 := hG.s16
  have hn := hG.n24
  unfold oAdd adZ small
  dsimp only
  cases hf : fr s.1 s.2 z with
  | none =>
    dsimp only
    split
    · exact ⟨by omega, fun q => by omega⟩
    · exact ⟨by omega, fun q => by omega⟩
  | some sh =>
    dsimp only
    split
    · exact ⟨by omega, fun q => by omega⟩
    · split
      · exact ⟨by omega, fun q => by omega⟩
      · refine ⟨by omega, fun _ => ⟨hG.ad (by omega) (by omega) (fr_lt hf) (by omega), ?_⟩⟩
        show 0 ≤ adG s.1 s.2 z sh 17 ∧ adG s.1 s.2 z sh 17 ≤ 5000
        rw [adG_num (by decide), if_neg (by decide), if_neg (by decide)]
        exact h17
theorem oRem_ok {s : xS} (h : SG s) (b : Int) : small (oRem s b).1 ∧ (0 ≤ (oRem s b).1 → SG (oRem s b).2) := by
  obtain ⟨hG, h17⟩ := h
  unfold oRem rmZ small
  cases hp : pl s.1 s.2 b with
  | none => exact ⟨(by decide : -100000 ≤ (-1 : Int) ∧ (-1 : Int) ≤ 2000000), fun q => absurd q (by show ¬ (0 : Int) ≤ -1; decide)⟩
  | some k =>
    have hk := pl_lt hp
    have hb := (hG.b hk).2.2.2.1
    dsimp only
    refine ⟨by omega, fun _ => ⟨hG.rm hk, ?_⟩⟩
    show 0 ≤ rmG s.1 k 17 ∧ rmG s.1 k 17 ≤ 5000
    rw [rmG_num (by decide), if_neg (by decide)]
    exact h17
theorem oRead_ok {s : xS} (h : SG s) (b t : Int) : small (oRead s b t).1 ∧ (0 ≤ (oRead s b t).1 → SG (oRead s b t).2) := by
  obtain ⟨hG, h17⟩ := h
  unfold oRead rbZ small
  cases hp : pl s.1 s.2 b with
  | none => exact ⟨(by decide : -100000 ≤ (-1 : Int) ∧ (-1 : Int) ≤ 2000000), fun q => absurd q (by show ¬ (0 : Int) ≤ -1; decide)⟩
  | some k =>
    have hk := pl_lt hp
    have hb := rbP_bounds hG hk t.toNat
    dsimp only
    split
    · refine ⟨by omega, fun _ => ⟨hG.rb hk _, ?_⟩⟩
      show 0 ≤ rbG s.1 s.2 k t.toNat 17 ∧ rbG s.1 s.2 k t.toNat 17 ≤ 5000
      rw [rb17]
      exact h17
    · exact ⟨by omega, fun q => absurd q (by decide)⟩
theorem oPin_ok {s : xS} (h : SG s) (b p : Int) (hp : p = 0 ∨ p = 1) : small (oPin s b p).1 ∧ (0 ≤ (oPin s b p).1 → SG (oPin s b p).2) := by
  obtain ⟨hG, h17⟩ := h
  unfold oPin tpZ small
  cases hq : pl s.1 s.2 b with
  | none => exact ⟨(by decide : -100000 ≤ (-1 : Int) ∧ (-1 : Int) ≤ 2000000), fun q => absurd q (by show ¬ (0 : Int) ≤ -1; decide)⟩
  | some k =>
    have hG2 := hG.setB (k := k) (j := 4) (z := p) (by decide) ⟨by omega, by omega, by omega, by omega, by omega, by omega⟩
    have hb := pins_bounds hG2
    dsimp only
    split
    · exact ⟨by omega, fun q => absurd q (by decide)⟩
    · refine ⟨by omega, fun _ => ⟨hG2, ?_⟩⟩
      show 0 ≤ gB s.1 k 4 p 17 ∧ gB s.1 k 4 p 17 ≤ 5000
      rw [gB_num (by decide)]
      exact h17
theorem oPass_ok {s : xS} (h : SG s) (t : Int) : small (oPass s t).1 ∧ (0 ≤ (oPass s t).1 → SG (oPass s t).2) := by
  obtain ⟨hG, h17⟩ := h
  unfold oPass small
  have hb := nsM_bounds s.1 s.2 (s.1 3) t.toNat
  dsimp only
  split
  · exact ⟨by omega, fun q => by omega⟩
  · split
    · exact ⟨by omega, fun q => by omega⟩
    · refine ⟨by omega, fun _ => ⟨hG.np _, ?_⟩⟩
      show 0 ≤ npG s.1 s.2 t.toNat 17 ∧ npG s.1 s.2 t.toNat 17 ≤ 5000
      rw [np17]
      omega
theorem set_ok {g : Nat → Int} {n k : Nat} (h : GI g n) (hk : k < 15) {v : Int} (hv : 0 ≤ v ∧ v ≤ mx k) : GI (gN g k v) n := by
  have e : ∀ j, j < 15 → mx j = [100, 20000, 20000, 24, 30, 50, 200, 200, 200, 50, 50, 50, 50, 50, 50].getD j 0 := fun j _ => rfl
  rw [e k hk] at hv
  refine h.setN (by omega) ⟨by omega, ?_, ?_, ?_, ?_, ?_, ?_, ?_, ?_, by omega⟩
  · intro q; subst q; exact hv
  · intro q; subst q; exact hv
  · intro q; subst q; exact hv
  · intro q; subst q; exact hv
  · intro q; subst q; exact hv
  · intro q; subst q; exact hv
  · intro q
    rcases (by omega : k = 6 ∨ k = 7 ∨ k = 8) with q | q | q <;> subst q <;> exact hv
  · intro q
    rcases (by omega : k = 9 ∨ k = 10 ∨ k = 11 ∨ k = 12 ∨ k = 13 ∨ k = 14) with q | q | q | q | q | q <;> subst q <;> exact hv
theorem oSet_ok {s : xS} (h : SG s) (a v : Int) : small (oSet s a v).1 ∧ (0 ≤ (oSet s a v).1 → SG (oSet s a v).2) := by
  obtain ⟨hG, h17⟩ := h
  unfold oSet csZ small
  dsimp only
  split
  · exact ⟨by omega, fun q => by omega⟩
  · have hb := set_bounds hG (s := a.toNat) (by omega)
    split
    · exact ⟨by omega, fun q => by omega⟩
    · split
      · split
        · exact ⟨by omega, fun q => by omega⟩
        · refine ⟨by omega, fun _ => ⟨set_ok hG (by omega) (by omega), ?_⟩⟩
          show 0 ≤ gN s.1 a.toNat v 17 ∧ gN s.1 a.toNat v 17 ≤ 5000
          rw [gN_num, if_neg (by omega)]
          exact h17
      · exact ⟨by omega, fun q => by omega⟩
theorem nxS_ok {s : xS} {r : Int × xS} (h : SG s) (hr : 0 ≤ r.1 → SG r.2) : SG (nxS s r) := by
  unfold nxS
  split
  · exact hr (by assumption)
  · exact h
def HG (hs : List xS) : Prop := hs.length ≤ 4 ∧ ∀ s ∈ hs, SG s
theorem HG.push {hs : List xS} {s : xS} (h : HG hs) (hs' : SG s) : HG (pushH hs s) := by
  unfold pushH
  refine ⟨?_, fun q hq => ?_⟩
  · have := h.1
    split
    · rw [List.length_append, List.length_tail]; simp; omega
    · rw [List.length_append]; simp; omega
  · rcases List.mem_append.mp hq with a | a
    · split at a
      · exact h.2 q (List.mem_of_mem_tail a)
      · exact h.2 q a
    · rw [List.mem_singleton.mp a]; exact hs'
theorem nxH_ok {s : xS} {hs : List xS} {r : Int × xS} (h : HG hs) (hs' : SG s) : HG (nxH s hs r) := by
  unfold nxH
  split
  · exact h.push hs'
  · exact h

