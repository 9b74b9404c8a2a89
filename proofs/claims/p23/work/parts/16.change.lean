/-! changes of the state: a number, an attribute of a block, a move, a new block, a block less -/
def gN (g : Nat → Int) (j : Nat) (z : Int) : Nat → Int := fun i => if i = j then z else g i
def gB (g : Nat → Int) (k j : Nat) (z : Int) : Nat → Int := fun i => if i = 23 + 8 * k + j then z else g i
theorem gN_num {g : Nat → Int} {j i : Nat} {z : Int} : gN g j z i = if i = j then z else g i := rfl
theorem gN_gb {g : Nat → Int} {j k i : Nat} {z : Int} (hj : j < 23) : gb (gN g j z) k i = gb g k i := by
  unfold gb gN; rw [if_neg (by omega)]
theorem gB_num {g : Nat → Int} {k j i : Nat} {z : Int} (hi : i < 23) : gB g k j z i = g i := by
  unfold gB; rw [if_neg (by omega)]
theorem gB_gb {g : Nat → Int} {k j q i : Nat} {z : Int} (hj : j < 8) (hi : i < 8) : gb (gB g k j z) q i = if q = k ∧ i = j then z else gb g q i := by
  unfold gb gB
  by_cases h : q = k ∧ i = j
  · rw [if_pos h, if_pos (by omega)]
  · rw [if_neg h, if_neg (by omega)]
theorem gB_ne {g : Nat → Int} {k j q i : Nat} {z : Int} (hj : j < 8) (hi : i < 8) (h : i ≠ j) : gb (gB g k j z) q i = gb g q i := by
  rw [gB_gb hj hi, if_neg (by omega)]
theorem gB_nek {g : Nat → Int} {k j q i : Nat} {z : Int} (hj : j < 8) (hi : i < 8) (h : q ≠ k) : gb (gB g k j z) q i = gb g q i := by
  rw [gB_gb hj hi, if_neg (by omega)]
theorem gB_eq {g : Nat → Int} {k j : Nat} {z : Int} (hj : j < 8) : gb (gB g k j z) k j = z := by
  rw [gB_gb hj hj, if_pos ⟨rfl, rfl⟩]
/-- the same state, where it counts -/
def SameG (g g' : Nat → Int) (n : Nat) : Prop := (∀ j, j < 23 → g j = g' j) ∧ ∀ k, k < n → ∀ j, j < 8 → gb g k j = gb g' k j
theorem SameG.rf {g : Nat → Int} {n : Nat} : SameG g g n := ⟨fun _ _ => rfl, fun _ _ _ _ => rfl⟩
theorem SameG.symm {g g' : Nat → Int} {n : Nat} (h : SameG g g' n) : SameG g' g n := ⟨fun j hj => (h.1 j hj).symm, fun k hk j hj => (h.2 k hk j hj).symm⟩
theorem SameG.trans {g g' g'' : Nat → Int} {n : Nat} (h : SameG g g' n) (h' : SameG g' g'' n) : SameG g g'' n := ⟨fun j hj => (h.1 j hj).trans (h'.1 j hj), fun k hk j hj => (h.2 k hk j hj).trans (h'.2 k hk j hj)⟩
theorem on_congr {g g' : Nat → Int} {n : Nat} {sh : Int} {w : Nat} (hw : w < 8) (h : ∀ k, k < n → gb g k 3 = gb g' k 3 ∧ gb g k w = gb g' k w) : onF g n sh w = onF g' n sh w := by
  unfold onF
  refine sm_congr (fun k hk => ?_)
  rw [(h k hk).1, (h k hk).2]
theorem SameG.on {g g' : Nat → Int} {n : Nat} (h : SameG g g' n) {sh : Int} {w : Nat} (hw : w < 8) : onF g n sh w = onF g' n sh w := on_congr hw (fun k hk => ⟨h.2 k hk 3 (by decide), h.2 k hk w hw⟩)
theorem RS.same {I : xI} {c : Nat} {g g' : Nat → Int} {n : Nat} (h : RS I c g n) (e : SameG g g' n) : RS I c g' n := ⟨fun j hj => (h.1 j hj).trans (e.1 j hj), fun k hk j hj => (h.2.1 k hk j hj).trans (e.2 k hk j hj), fun s hs => (h.2.2 s hs).trans (e.on (by decide))⟩
theorem GI.same {g g' : Nat → Int} {n : Nat} (h : GI g n) (e : SameG g g' n) : GI g' n := by
  obtain ⟨h1, h2, h3, h4, h5, h6, h7, h8, h9, h10, h11, h12⟩ := h
  have f := fun j hj => (e.1 j hj).symm
  refine ⟨h1, by rw [f 15 (by decide)]; exact h2, by rw [f 0 (by decide)]; exact h3, by rw [f 1 (by decide)]; exact h4, by rw [f 2 (by decide)]; exact h5, by rw [f 3 (by decide)]; exact h6, by rw [f 4 (by decide)]; exact h7, by rw [f 5 (by decide)]; exact h8, fun j hj => by rw [f _ (by omega)]; exact h9 j hj, fun j hj => by rw [f _ (by omega)]; exact h10 j hj, by rw [f 16 (by decide)]; exact h11, fun k hk => ?_⟩
  have q := fun j hj => (e.2 k hk j hj).symm
  rw [q 0 (by decide), q 1 (by decide), q 2 (by decide), q 3 (by decide), q 4 (by decide), q 5 (by decide)]
  exact h12 k hk
/-- what a method on the State at c leaves alone -/
def FR (I I1 : xI) (c : Nat) : Prop := ∀ q, (q ≤ c ∨ c + 11 ≤ q) → I1 q = I q
theorem FR.rf {I : xI} {c : Nat} : FR I I c := fun _ _ => rfl
theorem FR.trans {I I1 I2 : xI} {c : Nat} (h : FR I I1 c) (h' : FR I1 I2 c) : FR I I2 c := fun q hq => (h' q hq).trans (h q hq)
theorem FR.up {I I1 : xI} {c : Nat} (h : FR I I1 c) {d j : Nat} {z : Int} (h1 : c < d) (h2 : d < c + 11) : FR I (x_up I1 d j z) c := fun q hq => by rw [x_up_ne (by omega)]; exact h q hq
theorem FR.cg {I I1 : xI} {c : Nat} (h : FR I I1 c) {d k i : Nat} (h1 : c < d) (h2 : d < c + 11) : FR I (x_cg I1 d k i) c := fun q hq => by
  have e : x_cg I1 d k i q = I1 q := by funext j; unfold x_cg; rw [if_neg (by omega)]
  rw [e]; exact h q hq
theorem FR.cp {I I1 : xI} {c : Nat} (h : FR I I1 c) {s d m : Nat} (h1 : c < d) (h2 : d < c + 11) : FR I (x_cp I1 s d m) c := fun q hq => by
  have e : x_cp I1 s d m q = I1 q := by funext j; unfold x_cp; rw [if_neg (by omega)]
  rw [e]; exact h q hq
/-- an attribute that is neither size nor shelf -/
theorem RS.setB {I : xI} {c : Nat} {g : Nat → Int} {n : Nat} (h : RS I c g n) {k j : Nat} (hj : j < 8) (h1 : j ≠ 1) (h3 : j ≠ 3) (z : Int) : RS (x_up I (c + 3 + j) k z) c (gB g k j z) n := by
  refine ⟨fun i hi => ?_, fun q hq i hi => ?_, fun s hs => ?_⟩
  · rw [x_up_off (by omega), gB_num hi]; exact h.1 i hi
  · rw [gB_gb hj hi, x_up_app]
    by_cases e : q = k ∧ i = j
    · rw [if_pos e, if_pos (by omega)]
    · rw [if_neg e, if_neg (by omega)]; exact h.2.1 q hq i hi
  · rw [x_up_off (by omega), h.2.2 s hs]
    exact on_congr (by decide) (fun q hq => ⟨(gB_ne hj (by decide) (Ne.symm h3)).symm, (gB_ne hj (by decide) (Ne.symm h1)).symm⟩)
theorem RS.setN {I : xI} {c : Nat} {g : Nat → Int} {n : Nat} (h : RS I c g n) {j : Nat} (hj : j < 23) (z : Int) : RS (x_up I (c + 1) j z) c (gN g j z) n := by
  refine ⟨fun i hi => ?_, fun q hq i hi => ?_, fun s hs => ?_⟩
  · rw [x_up_app, gN_num]
    by_cases e : i = j
    · rw [if_pos e, if_pos ⟨rfl, e⟩]
    · rw [if_neg e, if_neg (by omega)]; exact h.1 i hi
  · rw [gN_gb hj, x_up_off (by omega)]; exact h.2.1 q hq i hi
  · rw [x_up_off (by omega), h.2.2 s hs]
    exact on_congr (by decide) (fun q hq => ⟨(gN_gb hj).symm, (gN_gb hj).symm⟩)
theorem GI.setB {g : Nat → Int} {n : Nat} (h : GI g n) {k j : Nat} (hj : j < 8) {z : Int} (hz : (j = 0 → 0 ≤ z ∧ z ≤ 999) ∧ (j = 1 → 1 ≤ z ∧ z ≤ 9) ∧ (j = 2 → 0 ≤ z ∧ z ≤ 99999) ∧ (j = 3 → 0 ≤ z ∧ z ≤ 2) ∧ (j = 4 → 0 ≤ z ∧ z ≤ 1) ∧ (j = 5 → 0 ≤ z ∧ z ≤ 30)) : GI (gB g k j z) n := by
  obtain ⟨h1, h2, h3, h4, h5, h6, h7, h8, h9, h10, h11, h12⟩ := h
  refine ⟨h1, by rw [gB_num (by decide)]; exact h2, by rw [gB_num (by decide)]; exact h3, by rw [gB_num (by decide)]; exact h4, by rw [gB_num (by decide)]; exact h5, by rw [gB_num (by decide)]; exact h6, by rw [gB_num (by decide)]; exact h7, by rw [gB_num (by decide)]; exact h8, fun i hi => by rw [gB_num (by omega)]; exact h9 i hi, fun i hi => by rw [gB_num (by omega)]; exact h10 i hi, by rw [gB_num (by decide)]; exact h11, fun q hq => ?_⟩
  obtain ⟨b0, b1, b2, b3, b4, b5⟩ := h12 q hq
  obtain ⟨z0, z1, z2, z3, z4, z5⟩ := hz
  rw [gB_gb hj (by decide), gB_gb hj (by decide), gB_gb hj (by decide), gB_gb hj (by decide), gB_gb hj (by decide), gB_gb hj (by decide)]
  refine ⟨?_, ?_, ?_, ?_, ?_, ?_⟩
  · split
    · exact z0 (by omega)
    · exact b0
  · split
    · exact z1 (by omega)
    · exact b1
  · split
    · exact z2 (by omega)
    · exact b2
  · split
    · exact z3 (by omega)
    · exact b3
  · split
    · exact z4 (by omega)
    · exact b4
  · split
    · exact z5 (by omega)
    · exact b5
theorem GI.setN {g : Nat → Int} {n : Nat} (h : GI g n) {j : Nat} (hj : j < 23) {z : Int} (hz : j ≠ 15 ∧ (j = 0 → 0 ≤ z ∧ z ≤ 100) ∧ (j = 1 → 0 ≤ z ∧ z ≤ 20000) ∧ (j = 2 → 0 ≤ z ∧ z ≤ 20000) ∧ (j = 3 → 0 ≤ z ∧ z ≤ 24) ∧ (j = 4 → 0 ≤ z ∧ z ≤ 30) ∧ (j = 5 → 0 ≤ z ∧ z ≤ 50) ∧ (6 ≤ j ∧ j < 9 → 0 ≤ z ∧ z ≤ 200) ∧ (9 ≤ j ∧ j < 15 → 0 ≤ z ∧ z ≤ 50) ∧ (j = 16 → 0 ≤ z ∧ z ≤ 1000)) : GI (gN g j z) n := by
  obtain ⟨h1, h2, h3, h4, h5, h6, h7, h8, h9, h10, h11, h12⟩ := h
  obtain ⟨z15, z0, z1, z2, z3, z4, z5, z6, z9, z16⟩ := hz
  refine ⟨h1, by rw [gN_num, if_neg (by omega)]; exact h2, ?_, ?_, ?_, ?_, ?_, ?_, fun i hi => ?_, fun i hi => ?_, ?_, fun q hq => ?_⟩
  · rw [gN_num]; split
    · exact z0 (by omega)
    · exact h3
  · rw [gN_num]; split
    · exact z1 (by omega)
    · exact h4
  · rw [gN_num]; split
    · exact z2 (by omega)
    · exact h5
  · rw [gN_num]; split
    · exact z3 (by omega)
    · exact h6
  · rw [gN_num]; split
    · exact z4 (by omega)
    · exact h7
  · rw [gN_num]; split
    · exact z5 (by omega)
    · exact h8
  · rw [gN_num]; split
    · exact z6 (by omega)
    · exact h9 i hi
  · rw [gN_num]; split
    · exact z9 (by omega)
    · exact h10 i hi
  · rw [gN_num]; split
    · exact z16 (by omega)
    · exact h11
  · rw [gN_gb hj, gN_gb hj, gN_gb hj, gN_gb hj, gN_gb hj, gN_gb hj]
    exact h12 q hq
/-- an accumulator: no bound -/
theorem GI.acc {g : Nat → Int} {n : Nat} (h : GI g n) {j : Nat} (hj : 17 ≤ j ∧ j < 23) (z : Int) : GI (gN g j z) n := h.setN hj.2 ⟨by omega, by omega, by omega, by omega, by omega, by omega, by omega, by omega, by omega, by omega⟩
/-! a move to another shelf -/
def mv (g : Nat → Int) (k : Nat) (sh : Int) : Nat → Int := gB (gB g k 3 sh) k 7 (gb g k 7 + 1)
theorem mv_num {g : Nat → Int} {k : Nat} {sh : Int} {j : Nat} (hj : j < 23) : mv g k sh j = g j := by unfold mv; rw [gB_num hj, gB_num hj]
theorem mv_gb {g : Nat → Int} {k : Nat} {sh : Int} {q j : Nat} (hj : j < 8) : gb (mv g k sh) q j = if q = k ∧ j = 3 then sh else if q = k ∧ j = 7 then gb g k 7 + 1 else gb g q j := by
  unfold mv
  rw [gB_gb (by decide) hj, gB_gb (by decide) hj]
  by_cases h3 : q = k ∧ j = 3
  · rw [if_neg (by omega), if_pos h3, if_pos h3]
  · by_cases h7 : q = k ∧ j = 7
    · rw [if_pos h7, if_neg h3, if_pos h7]
    · rw [if_neg h7, if_neg h3, if_neg h3, if_neg h7]
theorem on_one {g h : Nat → Int} {n k : Nat} (hk : k < n) (sh : Int) (w : Nat) (e : ∀ q, q < n → q ≠ k → gb g q 3 = gb h q 3 ∧ gb g q w = gb h q w) : onF g n sh w = onF h n sh w - (if gb h k 3 = sh then (if w = 0 then 1 else gb h k w) else 0) + (if gb g k 3 = sh then (if w = 0 then 1 else gb g k w) else 0) := by
  unfold onF
  exact sm_one hk (fun q hq hne => by rw [(e q hq hne).1, (e q hq hne).2])
theorem mv_on {g : Nat → Int} {n k : Nat} (hk : k < n) (sh s : Int) : onF (mv g k sh) n s 1 = onF g n s 1 - (if gb g k 3 = s then gb g k 1 else 0) + (if sh = s then gb g k 1 else 0) := by
  have h := on_one (g := mv g k sh) (h := g) hk s 1 (fun q hq hne => ⟨by rw [mv_gb (by decide), if_neg (by omega), if_neg (by omega)], by rw [mv_gb (by decide), if_neg (by omega), if_neg (by omega)]⟩)
  have e1 : gb (mv g k sh) k 3 = sh := by rw [mv_gb (by decide), if_pos (by omega)]
  have e2 : gb (mv g k sh) k 1 = gb g k 1 := by rw [mv_gb (by decide), if_neg (by omega), if_neg (by omega)]
  rw [h, e1, e2]
  rfl
theorem GI.setM {g : Nat → Int} {n k : Nat} {sh : Int} (h : GI g n) (hs : 0 ≤ sh ∧ sh ≤ 2) : GI (mv g k sh) n :=
  (h.setB (k := k) (j := 3) (z := sh) (by decide) ⟨by omega, by omega, by omega, fun _ => hs, by omega, by omega⟩).setB (by decide) ⟨by omega, by omega, by omega, by omega, by omega, by omega⟩
theorem RS.setM {I : xI} {c : Nat} {g : Nat → Int} {n k o sh : Nat} (h : RS I c g n) (hk : k < n) (ho : gb g k 3 = (o : Int)) (ho3 : o < 3) (hs3 : sh < 3) {I1 I2 I3 I4 : xI} (e1 : I1 = x_up I (c + 2) o (I (c + 2) o + -(gb g k 1))) (e2 : I2 = x_up I1 (c + 2) sh (I1 (c + 2) sh + gb g k 1)) (e3 : I3 = x_up I2 (c + 6) k (sh : Int)) (e4 : I4 = x_up I3 (c + 10) k (I3 (c + 10) k + 1)) : RS I4 c (mv g k (sh : Int)) n := by
  have a1 : ∀ q, q ≠ c + 2 → I2 q = I q := fun q hq => by rw [e2, x_up_ne hq, e1, x_up_ne hq]
  have a2 : ∀ q, q ≠ c + 2 → q ≠ c + 6 → q ≠ c + 10 → I4 q = I q := fun q h1 h2 h3 => by rw [e4, x_up_ne h3, e3, x_up_ne h2, a1 q h1]
  refine ⟨fun i hi => ?_, fun q hq i hi => ?_, fun s hs => ?_⟩
  · rw [a2 _ (by omega) (by omega) (by omega), mv_num hi]; exact h.1 i hi
  · rw [mv_gb hi]
    by_cases h3 : i = 3
    · subst h3
      rw [e4, x_up_ne (by omega), e3, x_up_app]
      by_cases e : q = k
      · rw [if_pos ⟨by omega, e⟩, if_pos ⟨e, rfl⟩]
      · rw [if_neg (by omega), if_neg (by omega), if_neg (by omega), a1 _ (by omega)]; exact h.2.1 q hq 3 hi
    · by_cases h7 : i = 7
      · subst h7
        rw [e4, x_up_app, e3, x_up_ne (by omega), a1 (c + 10) (by omega)]
        by_cases e : q = k
        · rw [if_pos ⟨by omega, e⟩, if_neg (by omega), if_pos ⟨e, rfl⟩, ← h.b7 hk]
        · rw [if_neg (by omega), if_neg (by omega), if_neg (by omega)]; exact h.2.1 q hq 7 hi
      · rw [a2 _ (by omega) (by omega) (by omega), if_neg (by omega), if_neg (by omega)]; exact h.2.1 q hq i hi
  · have e5 : I4 (c + 2) s = I2 (c + 2) s := by rw [e4, x_up_ne (by omega), e3, x_up_ne (by omega)]
    rw [e5, mv_on hk, e2, x_up_app, e1, ho]
    simp only [x_up_app, true_and]
    have b1 := h.2.2 s hs
    have b2 := h.2.2 o ho3
    have b3 := h.2.2 sh hs3
    by_cases q1 : s = sh
    · subst q1
      by_cases q2 : s = o
      · subst q2
        rw [if_pos rfl, if_pos rfl, if_pos rfl]
        omega
      · rw [if_pos rfl, if_neg q2, if_neg (by omega), if_pos rfl]
        omega
    · by_cases q2 : s = o
      · subst q2
        rw [if_neg q1, if_pos rfl, if_pos rfl, if_neg (by omega)]
        omega
      · rw [if_neg q1, if_neg q2, if_neg (by omega), if_neg (by omega)]
        omega

theorem t_putB0 {I : xI} {c : Nat} {g : Nat → Int} {n : Nat} (hc : x_st c) (hR : RS I c g n) (hn : n ≤ 24) (k : Nat) (hk : k < n) {i : Int} (hi : i = (k : Int)) (z : Int) : S kX4_put 0 [rr (c + 3), ii i, ii z] I (q_v (fun I1 => RS I1 c (gB g k 0 (z)) n ∧ FR I I1 c)) := by
  have lc := st_lt hc
  refine S_monoV (t_putk (sh_st2 hc) (by omega) I k (by omega) hi z) (fun I1 h => ?_)
  rw [h]
  exact ⟨hR.setB (j := 0) (by decide) (by decide) (by decide) _, FR.rf.up (by omega) (by omega)⟩
theorem t_putB2 {I : xI} {c : Nat} {g : Nat → Int} {n : Nat} (hc : x_st c) (hR : RS I c g n) (hn : n ≤ 24) (k : Nat) (hk : k < n) {i : Int} (hi : i = (k : Int)) (z : Int) : S kX4_put 0 [rr (c + 5), ii i, ii z] I (q_v (fun I1 => RS I1 c (gB g k 2 (z)) n ∧ FR I I1 c)) := by
  have lc := st_lt hc
  refine S_monoV (t_putk (sh_st4 hc) (by omega) I k (by omega) hi z) (fun I1 h => ?_)
  rw [h]
  exact ⟨hR.setB (j := 2) (by decide) (by decide) (by decide) _, FR.rf.up (by omega) (by omega)⟩
theorem t_putB4 {I : xI} {c : Nat} {g : Nat → Int} {n : Nat} (hc : x_st c) (hR : RS I c g n) (hn : n ≤ 24) (k : Nat) (hk : k < n) {i : Int} (hi : i = (k : Int)) (z : Int) : S kX4_put 0 [rr (c + 7), ii i, ii z] I (q_v (fun I1 => RS I1 c (gB g k 4 (z)) n ∧ FR I I1 c)) := by
  have lc := st_lt hc
  refine S_monoV (t_putk (sh_st6 hc) (by omega) I k (by omega) hi z) (fun I1 h => ?_)
  rw [h]
  exact ⟨hR.setB (j := 4) (by decide) (by decide) (by decide) _, FR.rf.up (by omega) (by omega)⟩
theorem t_putB5 {I : xI} {c : Nat} {g : Nat → Int} {n : Nat} (hc : x_st c) (hR : RS I c g n) (hn : n ≤ 24) (k : Nat) (hk : k < n) {i : Int} (hi : i = (k : Int)) (z : Int) : S kX4_put 0 [rr (c + 8), ii i, ii z] I (q_v (fun I1 => RS I1 c (gB g k 5 (z)) n ∧ FR I I1 c)) := by
  have lc := st_lt hc
  refine S_monoV (t_putk (sh_st7 hc) (by omega) I k (by omega) hi z) (fun I1 h => ?_)
  rw [h]
  exact ⟨hR.setB (j := 5) (by decide) (by decide) (by decide) _, FR.rf.up (by omega) (by omega)⟩
theorem t_putB6 {I : xI} {c : Nat} {g : Nat → Int} {n : Nat} (hc : x_st c) (hR : RS I c g n) (hn : n ≤ 24) (k : Nat) (hk : k < n) {i : Int} (hi : i = (k : Int)) (z : Int) : S kX4_put 0 [rr (c + 9), ii i, ii z] I (q_v (fun I1 => RS I1 c (gB g k 6 (z)) n ∧ FR I I1 c)) := by
  have lc := st_lt hc
  refine S_monoV (t_putk (sh_st8 hc) (by omega) I k (by omega) hi z) (fun I1 h => ?_)
  rw [h]
  exact ⟨hR.setB (j := 6) (by decide) (by decide) (by decide) _, FR.rf.up (by omega) (by omega)⟩
theorem t_putB7 {I : xI} {c : Nat} {g : Nat → Int} {n : Nat} (hc : x_st c) (hR : RS I c g n) (hn : n ≤ 24) (k : Nat) (hk : k < n) {i : Int} (hi : i = (k : Int)) (z : Int) : S kX4_put 0 [rr (c + 10), ii i, ii z] I (q_v (fun I1 => RS I1 c (gB g k 7 (z)) n ∧ FR I I1 c)) := by
  have lc := st_lt hc
  refine S_monoV (t_putk (sh_st9 hc) (by omega) I k (by omega) hi z) (fun I1 h => ?_)
  rw [h]
  exact ⟨hR.setB (j := 7) (by decide) (by decide) (by decide) _, FR.rf.up (by omega) (by omega)⟩
theorem t_putN {I : xI} {c : Nat} {g : Nat → Int} {n : Nat} (hc : x_st c) (hR : RS I c g n) (j : Nat) (hj : j < 23) {i : Int} (hi : i = (j : Int)) (z : Int) : S kX4_put 0 [rr (c + 1), ii i, ii z] I (q_v (fun I1 => RS I1 c (gN g j (z)) n ∧ FR I I1 c)) := by
  have lc := st_lt hc
  refine S_monoV (t_putk (sh_st0 hc) (by omega) I j hj hi z) (fun I1 h => ?_)
  rw [h]
  exact ⟨hR.setN hj _, FR.rf.up (by omega) (by omega)⟩
theorem t_raiseB0 {I : xI} {c : Nat} {g : Nat → Int} {n : Nat} (hc : x_st c) (hR : RS I c g n) (hn : n ≤ 24) (k : Nat) (hk : k < n) {i : Int} (hi : i = (k : Int)) (z : Int) : S kX4_raise 0 [rr (c + 3), ii i, ii z] I (q_v (fun I1 => RS I1 c (gB g k 0 (gb g k 0 + z)) n ∧ FR I I1 c)) := by
  have lc := st_lt hc
  refine S_monoV (t_raisek (sh_st2 hc) (by omega) I k (by omega) hi z) (fun I1 h => ?_)
  rw [h, hR.b0 hk]
  exact ⟨hR.setB (j := 0) (by decide) (by decide) (by decide) _, FR.rf.up (by omega) (by omega)⟩
theorem t_raiseB2 {I : xI} {c : Nat} {g : Nat → Int} {n : Nat} (hc : x_st c) (hR : RS I c g n) (hn : n ≤ 24) (k : Nat) (hk : k < n) {i : Int} (hi : i = (k : Int)) (z : Int) : S kX4_raise 0 [rr (c + 5), ii i, ii z] I (q_v (fun I1 => RS I1 c (gB g k 2 (gb g k 2 + z)) n ∧ FR I I1 c)) := by
  have lc := st_lt hc
  refine S_monoV (t_raisek (sh_st4 hc) (by omega) I k (by omega) hi z) (fun I1 h => ?_)
  rw [h, hR.b2 hk]
  exact ⟨hR.setB (j := 2) (by decide) (by decide) (by decide) _, FR.rf.up (by omega) (by omega)⟩
theorem t_raiseB4 {I : xI} {c : Nat} {g : Nat → Int} {n : Nat} (hc : x_st c) (hR : RS I c g n) (hn : n ≤ 24) (k : Nat) (hk : k < n) {i : Int} (hi : i = (k : Int)) (z : Int) : S kX4_raise 0 [rr (c + 7), ii i, ii z] I (q_v (fun I1 => RS I1 c (gB g k 4 (gb g k 4 + z)) n ∧ FR I I1 c)) := by
  have lc := st_lt hc
  refine S_monoV (t_raisek (sh_st6 hc) (by omega) I k (by omega) hi z) (fun I1 h => ?_)
  rw [h, hR.b4 hk]
  exact ⟨hR.setB (j := 4) (by decide) (by decide) (by decide) _, FR.rf.up (by omega) (by omega)⟩
theorem t_raiseB5 {I : xI} {c : Nat} {g : Nat → Int} {n : Nat} (hc : x_st c) (hR : RS I c g n) (hn : n ≤ 24) (k : Nat) (hk : k < n) {i : Int} (hi : i = (k : Int)) (z : Int) : S kX4_raise 0 [rr (c + 8), ii i, ii z] I (q_v (fun I1 => RS I1 c (gB g k 5 (gb g k 5 + z)) n ∧ FR I I1 c)) := by
  have lc := st_lt hc
  refine S_monoV (t_raisek (sh_st7 hc) (by omega) I k (by omega) hi z) (fun I1 h => ?_)
  rw [h, hR.b5 hk]
  exact ⟨hR.setB (j := 5) (by decide) (by decide) (by decide) _, FR.rf.up (by omega) (by omega)⟩
theorem t_raiseB6 {I : xI} {c : Nat} {g : Nat → Int} {n : Nat} (hc : x_st c) (hR : RS I c g n) (hn : n ≤ 24) (k : Nat) (hk : k < n) {i : Int} (hi : i = (k : Int)) (z : Int) : S kX4_raise 0 [rr (c + 9), ii i, ii z] I (q_v (fun I1 => RS I1 c (gB g k 6 (gb g k 6 + z)) n ∧ FR I I1 c)) := by
  have lc := st_lt hc
  refine S_monoV (t_raisek (sh_st8 hc) (by omega) I k (by omega) hi z) (fun I1 h => ?_)
  rw [h, hR.b6 hk]
  exact ⟨hR.setB (j := 6) (by decide) (by decide) (by decide) _, FR.rf.up (by omega) (by omega)⟩
theorem t_raiseB7 {I : xI} {c : Nat} {g : Nat → Int} {n : Nat} (hc : x_st c) (hR : RS I c g n) (hn : n ≤ 24) (k : Nat) (hk : k < n) {i : Int} (hi : i = (k : Int)) (z : Int) : S kX4_raise 0 [rr (c + 10), ii i, ii z] I (q_v (fun I1 => RS I1 c (gB g k 7 (gb g k 7 + z)) n ∧ FR I I1 c)) := by
  have lc := st_lt hc
  refine S_monoV (t_raisek (sh_st9 hc) (by omega) I k (by omega) hi z) (fun I1 h => ?_)
  rw [h, hR.b7 hk]
  exact ⟨hR.setB (j := 7) (by decide) (by decide) (by decide) _, FR.rf.up (by omega) (by omega)⟩
theorem t_raiseN {I : xI} {c : Nat} {g : Nat → Int} {n : Nat} (hc : x_st c) (hR : RS I c g n) (j : Nat) (hj : j < 23) {i : Int} (hi : i = (j : Int)) (z : Int) : S kX4_raise 0 [rr (c + 1), ii i, ii z] I (q_v (fun I1 => RS I1 c (gN g j (g j + z)) n ∧ FR I I1 c)) := by
  have lc := st_lt hc
  refine S_monoV (t_raisek (sh_st0 hc) (by omega) I j hj hi z) (fun I1 h => ?_)
  rw [h, hR.1 j hj]
  exact ⟨hR.setN hj _, FR.rf.up (by omega) (by omega)⟩
