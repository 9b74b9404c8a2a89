/-! the other program: its pins, heats, whose turn is next -/
set_option maxRecDepth 20000 in
set_option maxHeartbeats 4000000 in
theorem t5_pinned_loop {I : xI} {p : Nat} {g : Nat → Int} {n : Nat} (hR : RR I p g n) (hp : p ≤ 215) (hG : GI g n) : ∀ (m k : Nat), k + m = n → Y kX5_pinned 1 4 [some (rr 88), some (ii (p : Int)), some (ii (pins g k)), some (ii (k : Int))] [] I (q_p (ii (pins g n)) I) := by
  have hn24 := hG.n24
  have h15 := hG.g15
  intro m
  induction m with
  | zero =>
    intro k hk
    refine X_iload dX5_pinned_4 rfl ?_
    refine X_aload dX5_pinned_5 rfl ?_
    refine X_getR dX5_pinned_6 rfl gf_X5_7 sh_88 (by decide) rfl rf_88_0 ?_
    refine X_iload dX5_pinned_9 rfl ?_
    refine X_bipush dX5_pinned_10 (by decide) ?_
    refine X_iadd dX5_pinned_12 ?_
    refine Y_ald dX5_pinned_13 hR (by omega) hn24 (15) (by omega) (by omega) ?_
    refine X_icmp_ge (tgt := 38) dX5_pinned_14 (by decide) (by omega) (fun c_14 => ?_) (fun c_14 => absurd c_14 (by omega))
    refine X_iload dX5_pinned_38 rfl ?_
    refine X_iret dX5_pinned_39 (Or.inl rfl) ?_
    exact ⟨by rw [show n = k by omega], rfl, rfl, rfl⟩
  | succ m ih =>
    intro k hk
    refine X_iload dX5_pinned_4 rfl ?_
    refine X_aload dX5_pinned_5 rfl ?_
    refine X_getR dX5_pinned_6 rfl gf_X5_7 sh_88 (by decide) rfl rf_88_0 ?_
    refine X_iload dX5_pinned_9 rfl ?_
    refine X_bipush dX5_pinned_10 (by decide) ?_
    refine X_iadd dX5_pinned_12 ?_
    refine Y_ald dX5_pinned_13 hR (by omega) hn24 (15) (by omega) (by omega) ?_
    refine X_icmp_ge (tgt := 38) dX5_pinned_14 (by decide) (by omega) (fun c_14 => absurd c_14 (by omega)) (fun c_14 => ?_)
    refine X_iload dX5_pinned_17 rfl ?_
    refine X_aload dX5_pinned_18 rfl ?_
    refine X_getR dX5_pinned_19 rfl gf_X5_7 sh_88 (by decide) rfl rf_88_0 ?_
    refine X_iload dX5_pinned_22 rfl ?_
    refine X_iload dX5_pinned_23 rfl ?_
    refine Y_pS dX5_pinned_24 cs_X5_32 (t5_at _ _ _) rfl ?_
    refine X_iconst dX5_pinned_27 ?_
    refine X_iadd dX5_pinned_28 ?_
    refine Y_aldB dX5_pinned_29 hR (by omega) hn24 (k) (4) (by omega) (by omega) (by omega) ?_
    refine X_iadd dX5_pinned_30 ?_
    refine X_istore dX5_pinned_31 (by decide) ?_
    dsimp only [List.set]
    refine X_iinc dX5_pinned_32 rfl ?_
    dsimp only [List.set]
    refine X_goto (tgt := 4) dX5_pinned_35 (by decide) ?_
    exact ih (k + 1) (by omega)
set_option maxRecDepth 20000 in
set_option maxHeartbeats 4000000 in
theorem t5_pinned {I : xI} {p : Nat} {g : Nat → Int} {n : Nat} (hR : RR I p g n) (hp : p ≤ 215) (hG : GI g n) {ip : Int} (hip : ip = (p : Int)) : S kX5_pinned 1 [rr 88, ii ip] I (q_p (ii (pins g n)) I) := by
  subst hip
  have hn24 := hG.n24
  have h15 := hG.g15
  refine Sp_intro (by decide +kernel) (Nat.le_of_ble_eq_true rfl) ?_
  show Y kX5_pinned 1 0 [some (rr 88), some (ii (p : Int)), none, none] [] I _
  refine X_iconst dX5_pinned_0 ?_
  refine X_istore dX5_pinned_1 (by decide) ?_
  dsimp only [List.set]
  refine X_iconst dX5_pinned_2 ?_
  refine X_istore dX5_pinned_3 (by decide) ?_
  dsimp only [List.set]
  exact t5_pinned_loop hR hp hG n 0 (by omega)
set_option maxRecDepth 20000 in
set_option maxHeartbeats 4000000 in
theorem t5_heat {I : xI} {p : Nat} {g : Nat → Int} {n : Nat} (hR : RR I p g n) (hp : p ≤ 215) (hG : GI g n) {ip : Int} (hip : ip = (p : Int)) : S kX5_heat 2 [rr 88, ii ip] I (q_p (ii (htA g n)) I) := by
  subst hip
  have hn24 := hG.n24
  have h15 := hG.g15
  refine Sp_intro (by decide +kernel) (Nat.le_of_ble_eq_true rfl) ?_
  show Y kX5_heat 2 0 [some (rr 88), some (ii (p : Int))] [] I _
  refine X_aload dX5_heat_0 rfl ?_
  refine X_iload dX5_heat_1 rfl ?_
  refine X_iconst dX5_heat_2 ?_
  refine X_iconst dX5_heat_3 ?_
  refine Y_pV dX5_heat_4 cv_X5_36 sh_88 (by decide) (t5_on hR hp hG rfl 0 (by decide) 2 (by decide) rfl) rfl ?_
  refine X_aload dX5_heat_7 rfl ?_
  refine X_iload dX5_heat_8 rfl ?_
  refine X_iconst dX5_heat_9 ?_
  refine X_iconst dX5_heat_10 ?_
  refine Y_pV dX5_heat_11 cv_X5_36 sh_88 (by decide) (t5_on hR hp hG rfl 1 (by decide) 2 (by decide) rfl) rfl ?_
  refine X_iadd dX5_heat_14 ?_
  refine X_aload dX5_heat_15 rfl ?_
  refine X_iload dX5_heat_16 rfl ?_
  refine X_iconst dX5_heat_17 ?_
  refine X_iconst dX5_heat_18 ?_
  refine Y_pV dX5_heat_19 cv_X5_36 sh_88 (by decide) (t5_on hR hp hG rfl 2 (by decide) 2 (by decide) rfl) rfl ?_
  refine X_iadd dX5_heat_22 ?_
  refine X_iret dX5_heat_23 (Or.inl rfl) ?_
  exact ⟨rfl, rfl, rfl, rfl⟩
/-- what is written of a block: its turn is -1, past the greatest number of moves 4 -/
def dz (v : Int) : Int := if v = 4 then -1 else if v = 9 then 4 else v
def W5 (I : xI) (y : Nat → Int) (n : Nat) : Prop := ∀ k, k < n → I 93 k = dz (y k)
theorem dz_iff {v : Int} (h : 0 ≤ v ∧ v ≤ 9) : (dz v = -1 ∧ v = 4) ∨ (0 ≤ dz v ∧ dz v ≤ 9 ∧ v ≠ 4) := by
  unfold dz
  split
  · omega
  · split <;> omega
theorem btrT {g : Nat → Int} {k q : Nat} : btr g true k (some q) = decide (gb g k 2 < gb g q 2) := by
  show (if true = true then decide (gb g k 2 < gb g q 2) else decide (gb g q 2 < gb g k 2)) = _
  rw [if_pos rfl]
theorem btrU {g : Nat → Int} {k q : Nat} : btr g false k (some q) = decide (gb g q 2 < gb g k 2) := by
  show (if false = true then decide (gb g k 2 < gb g q 2) else decide (gb g q 2 < gb g k 2)) = _
  rw [if_neg (by decide)]
theorem cndT {w g y : Nat → Int} {k : Nat} (h4 : y k = 4) (h3 : gb g k 3 < w k) : cnd w g y true k = true := by
  unfold cnd
  rw [decide_eq_true h4, decide_eq_true h3]
  rfl
theorem cndTn {w g y : Nat → Int} {k : Nat} (h : y k ≠ 4 ∨ ¬ gb g k 3 < w k) : cnd w g y true k = false := by
  unfold cnd
  rcases h with h | h
  · rw [decide_eq_false h]; rfl
  · rw [decide_eq_false h]; cases decide (y k = 4) <;> rfl
theorem nxT1 {w g y : Nat → Int} {k : Nat} (hr : nxF w g y true k = none) (h4 : y k = 4) (h3 : gb g k 3 < w k) : nxF w g y true (k + 1) = some k := by
  unfold nxF
  rw [hr, cndT h4 h3]
  rfl
theorem nxT2 {w g y : Nat → Int} {k q : Nat} (hr : nxF w g y true k = some q) (h4 : y k = 4) (h3 : gb g k 3 < w k) (h2 : gb g k 2 < gb g q 2) : nxF w g y true (k + 1) = some k := by
  unfold nxF
  rw [hr, cndT h4 h3, btrT, decide_eq_true h2]
  rfl
theorem nxT3 {w g y : Nat → Int} {k : Nat} {r : Option Nat} (hr : nxF w g y true k = r) (h : y k ≠ 4 ∨ ¬ gb g k 3 < w k) : nxF w g y true (k + 1) = r := by
  unfold nxF
  rw [cndTn h]
  exact hr
theorem nxT4 {w g y : Nat → Int} {k q : Nat} (hr : nxF w g y true k = some q) (h2 : ¬ gb g k 2 < gb g q 2) : nxF w g y true (k + 1) = some q := by
  unfold nxF
  rw [hr]
  have e : btr g true k (some q) = false := by
    unfold btr
    dsimp only
    rw [if_pos rfl, decide_eq_false h2]
  rw [e, Bool.and_false]
  rfl
theorem cndU {w g y : Nat → Int} {k : Nat} (h4 : y k = 4) (h3 : ¬ gb g k 3 < w k) : cnd w g y false k = true := by
  unfold cnd
  rw [decide_eq_true h4, decide_eq_false h3]
  rfl
theorem cndUn {w g y : Nat → Int} {k : Nat} (h : y k ≠ 4 ∨ gb g k 3 < w k) : cnd w g y false k = false := by
  unfold cnd
  rcases h with h | h
  · rw [decide_eq_false h]; rfl
  · rw [decide_eq_true h]; cases decide (y k = 4) <;> rfl
theorem nxU1 {w g y : Nat → Int} {k : Nat} (hr : nxF w g y false k = none) (h4 : y k = 4) (h3 : ¬ gb g k 3 < w k) : nxF w g y false (k + 1) = some k := by
  unfold nxF
  rw [hr, cndU h4 h3]
  rfl
theorem nxU2 {w g y : Nat → Int} {k q : Nat} (hr : nxF w g y false k = some q) (h4 : y k = 4) (h3 : ¬ gb g k 3 < w k) (h2 : gb g q 2 < gb g k 2) : nxF w g y false (k + 1) = some k := by
  unfold nxF
  rw [hr, cndU h4 h3, btrU, decide_eq_true h2]
  rfl
theorem nxU3 {w g y : Nat → Int} {k : Nat} {r : Option Nat} (hr : nxF w g y false k = r) (h : y k ≠ 4 ∨ gb g k 3 < w k) : nxF w g y false (k + 1) = r := by
  unfold nxF
  rw [cndUn h]
  exact hr
theorem nxU4 {w g y : Nat → Int} {k q : Nat} (hr : nxF w g y false k = some q) (h2 : ¬ gb g q 2 < gb g k 2) : nxF w g y false (k + 1) = some q := by
  unfold nxF
  rw [hr]
  have e : btr g false k (some q) = false := by
    unfold btr
    dsimp only
    rw [if_neg (by decide), decide_eq_false h2]
  rw [e, Bool.and_false]
  rfl
set_option maxRecDepth 20000 in
set_option maxHeartbeats 4000000 in
theorem t5_nextT_loop {I : xI} {p : Nat} {g : Nat → Int} {n : Nat} (hR : RR I p g n) (hp : p ≤ 215) (hG : GI g n) {y : Nat → Int} (hW : W5 I y n) (hy : ∀ k, k < n → 0 ≤ y k ∧ y k ≤ 9) : ∀ (m k : Nat), k + m = n → Y kX5_next 2 6 [some (rr 88), some (ii (p : Int)), some (ii 1), some (ii (oi (nxF (wt g) g y true k) (-5))), some (ii (k : Int)), none, none] [] I (q_p (ii (oi (nxF (wt g) g y true n) (-5))) I) := by
  have hn24 := hG.n24
  have h15 := hG.g15
  intro m
  induction m with
  | zero =>
    intro k hk
    refine X_iloadW dX5_next_6 rfl ?_
    refine X_aload dX5_next_8 rfl ?_
    refine X_getR dX5_next_9 rfl gf_X5_7 sh_88 (by decide) rfl rf_88_0 ?_
    refine X_iload dX5_next_12 rfl ?_
    refine X_bipush dX5_next_13 (by decide) ?_
    refine X_iadd dX5_next_15 ?_
    refine Y_ald dX5_next_16 hR (by omega) hn24 (15) (by omega) (by omega) ?_
    refine X_icmp_ge (tgt := 149) dX5_next_17 (by decide) (by omega) (fun c_17 => ?_) (fun c_17 => absurd c_17 (by omega))
    refine X_iload dX5_next_149 rfl ?_
    refine X_iret dX5_next_150 (Or.inl rfl) ?_
    exact ⟨by rw [show n = k by omega], rfl, rfl, rfl⟩
  | succ m ih =>
    intro k hk
    rcases hr : nxF (wt g) g y true k with _ | q
    · show Y kX5_next 2 6 [some (rr 88), some (ii (p : Int)), some (ii 1), some (ii (-5)), some (ii (k : Int)), none, none] [] I (q_p (ii (oi (nxF (wt g) g y true n) (-5))) I)
      refine X_iloadW dX5_next_6 rfl ?_
      refine X_aload dX5_next_8 rfl ?_
      refine X_getR dX5_next_9 rfl gf_X5_7 sh_88 (by decide) rfl rf_88_0 ?_
      refine X_iload dX5_next_12 rfl ?_
      refine X_bipush dX5_next_13 (by decide) ?_
      refine X_iadd dX5_next_15 ?_
      refine Y_ald dX5_next_16 hR (by omega) hn24 (15) (by omega) (by omega) ?_
      refine X_icmp_ge (tgt := 149) dX5_next_17 (by decide) (by omega) (fun c_17 => absurd c_17 (by omega)) (fun c_17 => ?_)
      refine X_aload dX5_next_20 rfl ?_
      refine X_getR dX5_next_21 rfl gf_X5_22 sh_88 (by decide) rfl rf_88_7 ?_
      refine X_iloadW dX5_next_24 rfl ?_
      refine X_iald dX5_next_26 sh_93 (Or.inl (by decide)) (by omega) ?_
      rw [Int.toNat_natCast, hW k (by omega)]
      refine X_iconst dX5_next_27 ?_
      have hz := dz_iff (hy k (by omega))
      refine X_icmp_ne (tgt := 67) dX5_next_28 (by decide) (by omega) (fun c_28 => ?_) (fun c_28 => ?_)
      · refine X_iconst dX5_next_67 ?_
        refine X_istoreW dX5_next_68 (by decide) ?_
        dsimp only [List.set]
        refine X_iload dX5_next_70 rfl ?_
        refine X_bipush dX5_next_71 (by decide) ?_
        refine X_icmp_ne (tgt := 80) dX5_next_73 (by decide) (by omega) (fun c_73 => absurd c_73 (by omega)) (fun c_73 => ?_)
        refine X_iconst dX5_next_76 ?_
        refine X_goto (tgt := 106) dX5_next_77 (by decide) ?_
        refine X_istoreW dX5_next_106 (by decide) ?_
        dsimp only [List.set]
        refine X_iloadW dX5_next_108 rfl ?_
        refine X_if_eq (tgt := 141) dX5_next_110 (by decide) (by omega) (fun c_110 => ?_) (fun c_110 => ?_)
        · refine X_iload dX5_next_141 rfl ?_
          refine X_istore dX5_next_142 (by decide) ?_
          dsimp only [List.set]
          refine X_iinc dX5_next_143 rfl ?_
          dsimp only [List.set]
          refine X_goto (tgt := 6) dX5_next_146 (by decide) ?_
          refine X_drop 5 ?_
          refine X_drop 6 ?_
          dsimp only [List.set]
          have ih1 := ih (k + 1) (by omega)
          first
            | (exfalso; omega)
            | (rw [nxT1 hr (by omega) (by omega)] at ih1; exact ih1)
            | (rw [nxT3 hr (by omega)] at ih1; exact ih1)
        · refine X_iload dX5_next_113 rfl ?_
          refine X_bipush dX5_next_114 (by decide) ?_
          refine X_icmp_eq (tgt := 136) dX5_next_116 (by decide) (by omega) (fun c_116 => ?_) (fun c_116 => absurd c_116 (by omega))
          refine X_iloadW dX5_next_136 rfl ?_
          refine X_goto (tgt := 142) dX5_next_138 (by decide) ?_
          refine X_istore dX5_next_142 (by decide) ?_
          dsimp only [List.set]
          refine X_iinc dX5_next_143 rfl ?_
          dsimp only [List.set]
          refine X_goto (tgt := 6) dX5_next_146 (by decide) ?_
          refine X_drop 5 ?_
          refine X_drop 6 ?_
          dsimp only [List.set]
          have ih1 := ih (k + 1) (by omega)
          first
            | (exfalso; omega)
            | (rw [nxT1 hr (by omega) (by omega)] at ih1; exact ih1)
            | (rw [nxT3 hr (by omega)] at ih1; exact ih1)
      · refine X_aload dX5_next_31 rfl ?_
        refine X_iload dX5_next_32 rfl ?_
        refine X_iloadW dX5_next_33 rfl ?_
        refine Y_pV dX5_next_35 cv_X5_40 sh_88 (by decide) (t5_wanted hR hp hG rfl k (by omega) rfl) rfl ?_
        refine X_aload dX5_next_38 rfl ?_
        refine X_getR dX5_next_39 rfl gf_X5_7 sh_88 (by decide) rfl rf_88_0 ?_
        refine X_iload dX5_next_42 rfl ?_
        refine X_iloadW dX5_next_43 rfl ?_
        refine Y_pS dX5_next_45 cs_X5_32 (t5_at _ _ _) rfl ?_
        refine X_iconst dX5_next_48 ?_
        refine X_iadd dX5_next_49 ?_
        refine Y_aldB dX5_next_50 hR (by omega) hn24 (k) (3) (by omega) (by omega) (by omega) ?_
        have hw := wt_bounds g k
        have h3 := (hG.b (k := k) (by omega)).2.2.2.1
        have h2 := (hG.b (k := k) (by omega)).2.2.1
        refine X_icmp_le (tgt := 58) dX5_next_51 (by decide) (by omega) (fun c_51 => ?_) (fun c_51 => ?_)
        · refine X_iconst dX5_next_58 ?_
          refine X_iload dX5_next_59 rfl ?_
          refine X_icmp_ne (tgt := 67) dX5_next_60 (by decide) (by omega) (fun c_60 => ?_) (fun c_60 => ?_)
          · refine X_iconst dX5_next_67 ?_
            refine X_istoreW dX5_next_68 (by decide) ?_
            dsimp only [List.set]
            refine X_iload dX5_next_70 rfl ?_
            refine X_bipush dX5_next_71 (by decide) ?_
            refine X_icmp_ne (tgt := 80) dX5_next_73 (by decide) (by omega) (fun c_73 => absurd c_73 (by omega)) (fun c_73 => ?_)
            refine X_iconst dX5_next_76 ?_
            refine X_goto (tgt := 106) dX5_next_77 (by decide) ?_
            refine X_istoreW dX5_next_106 (by decide) ?_
            dsimp only [List.set]
            refine X_iloadW dX5_next_108 rfl ?_
            refine X_if_eq (tgt := 141) dX5_next_110 (by decide) (by omega) (fun c_110 => ?_) (fun c_110 => ?_)
            · refine X_iload dX5_next_141 rfl ?_
              refine X_istore dX5_next_142 (by decide) ?_
              dsimp only [List.set]
              refine X_iinc dX5_next_143 rfl ?_
              dsimp only [List.set]
              refine X_goto (tgt := 6) dX5_next_146 (by decide) ?_
              refine X_drop 5 ?_
              refine X_drop 6 ?_
              dsimp only [List.set]
              have ih1 := ih (k + 1) (by omega)
              first
                | (exfalso; omega)
                | (rw [nxT1 hr (by omega) (by omega)] at ih1; exact ih1)
                | (rw [nxT3 hr (by omega)] at ih1; exact ih1)
            · refine X_iload dX5_next_113 rfl ?_
              refine X_bipush dX5_next_114 (by decide) ?_
              refine X_icmp_eq (tgt := 136) dX5_next_116 (by decide) (by omega) (fun c_116 => ?_) (fun c_116 => absurd c_116 (by omega))
              refine X_iloadW dX5_next_136 rfl ?_
              refine X_goto (tgt := 142) dX5_next_138 (by decide) ?_
              refine X_istore dX5_next_142 (by decide) ?_
              dsimp only [List.set]
              refine X_iinc dX5_next_143 rfl ?_
              dsimp only [List.set]
              refine X_goto (tgt := 6) dX5_next_146 (by decide) ?_
              refine X_drop 5 ?_
              refine X_drop 6 ?_
              dsimp only [List.set]
              have ih1 := ih (k + 1) (by omega)
              first
                | (exfalso; omega)
                | (rw [nxT1 hr (by omega) (by omega)] at ih1; exact ih1)
                | (rw [nxT3 hr (by omega)] at ih1; exact ih1)
          · refine X_iconst dX5_next_63 ?_
            refine X_goto (tgt := 68) dX5_next_64 (by decide) ?_
            refine X_istoreW dX5_next_68 (by decide) ?_
            dsimp only [List.set]
            refine X_iload dX5_next_70 rfl ?_
            refine X_bipush dX5_next_71 (by decide) ?_
            refine X_icmp_ne (tgt := 80) dX5_next_73 (by decide) (by omega) (fun c_73 => absurd c_73 (by omega)) (fun c_73 => ?_)
            refine X_iconst dX5_next_76 ?_
            refine X_goto (tgt := 106) dX5_next_77 (by decide) ?_
            refine X_istoreW dX5_next_106 (by decide) ?_
            dsimp only [List.set]
            refine X_iloadW dX5_next_108 rfl ?_
            refine X_if_eq (tgt := 141) dX5_next_110 (by decide) (by omega) (fun c_110 => ?_) (fun c_110 => ?_)
            · refine X_iload dX5_next_141 rfl ?_
              refine X_istore dX5_next_142 (by decide) ?_
              dsimp only [List.set]
              refine X_iinc dX5_next_143 rfl ?_
              dsimp only [List.set]
              refine X_goto (tgt := 6) dX5_next_146 (by decide) ?_
              refine X_drop 5 ?_
              refine X_drop 6 ?_
              dsimp only [List.set]
              have ih1 := ih (k + 1) (by omega)
              first
                | (exfalso; omega)
                | (rw [nxT1 hr (by omega) (by omega)] at ih1; exact ih1)
                | (rw [nxT3 hr (by omega)] at ih1; exact ih1)
            · refine X_iload dX5_next_113 rfl ?_
              refine X_bipush dX5_next_114 (by decide) ?_
              refine X_icmp_eq (tgt := 136) dX5_next_116 (by decide) (by omega) (fun c_116 => ?_) (fun c_116 => absurd c_116 (by omega))
              refine X_iloadW dX5_next_136 rfl ?_
              refine X_goto (tgt := 142) dX5_next_138 (by decide) ?_
              refine X_istore dX5_next_142 (by decide) ?_
              dsimp only [List.set]
              refine X_iinc dX5_next_143 rfl ?_
              dsimp only [List.set]
              refine X_goto (tgt := 6) dX5_next_146 (by decide) ?_
              refine X_drop 5 ?_
              refine X_drop 6 ?_
              dsimp only [List.set]
              have ih1 := ih (k + 1) (by omega)
              first
                | (exfalso; omega)
                | (rw [nxT1 hr (by omega) (by omega)] at ih1; exact ih1)
                | (rw [nxT3 hr (by omega)] at ih1; exact ih1)
        · refine X_iconst dX5_next_54 ?_
          refine X_goto (tgt := 59) dX5_next_55 (by decide) ?_
          refine X_iload dX5_next_59 rfl ?_
          refine X_icmp_ne (tgt := 67) dX5_next_60 (by decide) (by omega) (fun c_60 => ?_) (fun c_60 => ?_)
          · refine X_iconst dX5_next_67 ?_
            refine X_istoreW dX5_next_68 (by decide) ?_
            dsimp only [List.set]
            refine X_iload dX5_next_70 rfl ?_
            refine X_bipush dX5_next_71 (by decide) ?_
            refine X_icmp_ne (tgt := 80) dX5_next_73 (by decide) (by omega) (fun c_73 => absurd c_73 (by omega)) (fun c_73 => ?_)
            refine X_iconst dX5_next_76 ?_
            refine X_goto (tgt := 106) dX5_next_77 (by decide) ?_
            refine X_istoreW dX5_next_106 (by decide) ?_
            dsimp only [List.set]
            refine X_iloadW dX5_next_108 rfl ?_
            refine X_if_eq (tgt := 141) dX5_next_110 (by decide) (by omega) (fun c_110 => ?_) (fun c_110 => ?_)
            · refine X_iload dX5_next_141 rfl ?_
              refine X_istore dX5_next_142 (by decide) ?_
              dsimp only [List.set]
              refine X_iinc dX5_next_143 rfl ?_
              dsimp only [List.set]
              refine X_goto (tgt := 6) dX5_next_146 (by decide) ?_
              refine X_drop 5 ?_
              refine X_drop 6 ?_
              dsimp only [List.set]
              have ih1 := ih (k + 1) (by omega)
              first
                | (exfalso; omega)
                | (rw [nxT1 hr (by omega) (by omega)] at ih1; exact ih1)
                | (rw [nxT3 hr (by omega)] at ih1; exact ih1)
            · refine X_iload dX5_next_113 rfl ?_
              refine X_bipush dX5_next_114 (by decide) ?_
              refine X_icmp_eq (tgt := 136) dX5_next_116 (by decide) (by omega) (fun c_116 => ?_) (fun c_116 => absurd c_116 (by omega))
              refine X_iloadW dX5_next_136 rfl ?_
              refine X_goto (tgt := 142) dX5_next_138 (by decide) ?_
              refine X_istore dX5_next_142 (by decide) ?_
              dsimp only [List.set]
              refine X_iinc dX5_next_143 rfl ?_
              dsimp only [List.set]
              refine X_goto (tgt := 6) dX5_next_146 (by decide) ?_
              refine X_drop 5 ?_
              refine X_drop 6 ?_
              dsimp only [List.set]
              have ih1 := ih (k + 1) (by omega)
              first
                | (exfalso; omega)
                | (rw [nxT1 hr (by omega) (by omega)] at ih1; exact ih1)
                | (rw [nxT3 hr (by omega)] at ih1; exact ih1)
          · refine X_iconst dX5_next_63 ?_
            refine X_goto (tgt := 68) dX5_next_64 (by decide) ?_
            refine X_istoreW dX5_next_68 (by decide) ?_
            dsimp only [List.set]
            refine X_iload dX5_next_70 rfl ?_
            refine X_bipush dX5_next_71 (by decide) ?_
            refine X_icmp_ne (tgt := 80) dX5_next_73 (by decide) (by omega) (fun c_73 => absurd c_73 (by omega)) (fun c_73 => ?_)
            refine X_iconst dX5_next_76 ?_
            refine X_goto (tgt := 106) dX5_next_77 (by decide) ?_
            refine X_istoreW dX5_next_106 (by decide) ?_
            dsimp only [List.set]
            refine X_iloadW dX5_next_108 rfl ?_
            refine X_if_eq (tgt := 141) dX5_next_110 (by decide) (by omega) (fun c_110 => ?_) (fun c_110 => ?_)
            · refine X_iload dX5_next_141 rfl ?_
              refine X_istore dX5_next_142 (by decide) ?_
              dsimp only [List.set]
              refine X_iinc dX5_next_143 rfl ?_
              dsimp only [List.set]
              refine X_goto (tgt := 6) dX5_next_146 (by decide) ?_
              refine X_drop 5 ?_
              refine X_drop 6 ?_
              dsimp only [List.set]
              have ih1 := ih (k + 1) (by omega)
              first
                | (exfalso; omega)
                | (rw [nxT1 hr (by omega) (by omega)] at ih1; exact ih1)
                | (rw [nxT3 hr (by omega)] at ih1; exact ih1)
            · refine X_iload dX5_next_113 rfl ?_
              refine X_bipush dX5_next_114 (by decide) ?_
              refine X_icmp_eq (tgt := 136) dX5_next_116 (by decide) (by omega) (fun c_116 => ?_) (fun c_116 => absurd c_116 (by omega))
              refine X_iloadW dX5_next_136 rfl ?_
              refine X_goto (tgt := 142) dX5_next_138 (by decide) ?_
              refine X_istore dX5_next_142 (by decide) ?_
              dsimp only [List.set]
              refine X_iinc dX5_next_143 rfl ?_
              dsimp only [List.set]
              refine X_goto (tgt := 6) dX5_next_146 (by decide) ?_
              refine X_drop 5 ?_
              refine X_drop 6 ?_
              dsimp only [List.set]
              have ih1 := ih (k + 1) (by omega)
              first
                | (exfalso; omega)
                | (rw [nxT1 hr (by omega) (by omega)] at ih1; exact ih1)
                | (rw [nxT3 hr (by omega)] at ih1; exact ih1)
    · show Y kX5_next 2 6 [some (rr 88), some (ii (p : Int)), some (ii 1), some (ii (q : Int)), some (ii (k : Int)), none, none] [] I (q_p (ii (oi (nxF (wt g) g y true n) (-5))) I)
      have hq := (nxF_lt hr).1
      have hq2 := (hG.b (k := q) (by omega)).2.2.1
      refine X_iloadW dX5_next_6 rfl ?_
      refine X_aload dX5_next_8 rfl ?_
      refine X_getR dX5_next_9 rfl gf_X5_7 sh_88 (by decide) rfl rf_88_0 ?_
      refine X_iload dX5_next_12 rfl ?_
      refine X_bipush dX5_next_13 (by decide) ?_
      refine X_iadd dX5_next_15 ?_
      refine Y_ald dX5_next_16 hR (by omega) hn24 (15) (by omega) (by omega) ?_
      refine X_icmp_ge (tgt := 149) dX5_next_17 (by decide) (by omega) (fun c_17 => absurd c_17 (by omega)) (fun c_17 => ?_)
      refine X_aload dX5_next_20 rfl ?_
      refine X_getR dX5_next_21 rfl gf_X5_22 sh_88 (by decide) rfl rf_88_7 ?_
      refine X_iloadW dX5_next_24 rfl ?_
      refine X_iald dX5_next_26 sh_93 (Or.inl (by decide)) (by omega) ?_
      rw [Int.toNat_natCast, hW k (by omega)]
      refine X_iconst dX5_next_27 ?_
      have hz := dz_iff (hy k (by omega))
      refine X_icmp_ne (tgt := 67) dX5_next_28 (by decide) (by omega) (fun c_28 => ?_) (fun c_28 => ?_)
      · refine X_iconst dX5_next_67 ?_
        refine X_istoreW dX5_next_68 (by decide) ?_
        dsimp only [List.set]
        refine X_iload dX5_next_70 rfl ?_
        refine X_bipush dX5_next_71 (by decide) ?_
        refine X_icmp_ne (tgt := 80) dX5_next_73 (by decide) (by omega) (fun c_73 => ?_) (fun c_73 => absurd c_73 (by omega))
        refine X_aload dX5_next_80 rfl ?_
        refine X_getR dX5_next_81 rfl gf_X5_7 sh_88 (by decide) rfl rf_88_0 ?_
        refine X_iload dX5_next_84 rfl ?_
        refine X_iloadW dX5_next_85 rfl ?_
        refine Y_pS dX5_next_87 cs_X5_32 (t5_at _ _ _) rfl ?_
        refine X_iconst dX5_next_90 ?_
        refine X_iadd dX5_next_91 ?_
        refine Y_aldB dX5_next_92 hR (by omega) hn24 (k) (2) (by omega) (by omega) (by omega) ?_
        refine X_aload dX5_next_93 rfl ?_
        refine X_getR dX5_next_94 rfl gf_X5_7 sh_88 (by decide) rfl rf_88_0 ?_
        refine X_iload dX5_next_97 rfl ?_
        refine X_iload dX5_next_98 rfl ?_
        refine Y_pS dX5_next_99 cs_X5_32 (t5_at _ _ _) rfl ?_
        refine X_iconst dX5_next_102 ?_
        refine X_iadd dX5_next_103 ?_
        refine Y_aldB dX5_next_104 hR (by omega) hn24 (q) (2) (by omega) (by omega) (by omega) ?_
        refine X_isub dX5_next_105 ?_
        refine X_istoreW dX5_next_106 (by decide) ?_
        dsimp only [List.set]
        refine X_iloadW dX5_next_108 rfl ?_
        refine X_if_eq (tgt := 141) dX5_next_110 (by decide) (by omega) (fun c_110 => ?_) (fun c_110 => ?_)
        · refine X_iload dX5_next_141 rfl ?_
          refine X_istore dX5_next_142 (by decide) ?_
          dsimp only [List.set]
          refine X_iinc dX5_next_143 rfl ?_
          dsimp only [List.set]
          refine X_goto (tgt := 6) dX5_next_146 (by decide) ?_
          refine X_drop 5 ?_
          refine X_drop 6 ?_
          dsimp only [List.set]
          have ih1 := ih (k + 1) (by omega)
          first
            | (exfalso; omega)
            | (rw [nxT2 hr (by omega) (by omega) (by omega)] at ih1; exact ih1)
            | (rw [nxT3 hr (by omega)] at ih1; exact ih1)
            | (rw [nxT4 hr (by omega)] at ih1; exact ih1)
        · refine X_iload dX5_next_113 rfl ?_
          refine X_bipush dX5_next_114 (by decide) ?_
          refine X_icmp_eq (tgt := 136) dX5_next_116 (by decide) (by omega) (fun c_116 => absurd c_116 (by omega)) (fun c_116 => ?_)
          refine X_iload dX5_next_119 rfl ?_
          refine X_if_eq (tgt := 131) dX5_next_120 (by decide) (by omega) (fun c_120 => absurd c_120 (by omega)) (fun c_120 => ?_)
          refine X_iloadW dX5_next_123 rfl ?_
          refine X_if_ge (tgt := 141) dX5_next_125 (by decide) (by omega) (fun c_125 => ?_) (fun c_125 => ?_)
          · refine X_iload dX5_next_141 rfl ?_
            refine X_istore dX5_next_142 (by decide) ?_
            dsimp only [List.set]
            refine X_iinc dX5_next_143 rfl ?_
            dsimp only [List.set]
            refine X_goto (tgt := 6) dX5_next_146 (by decide) ?_
            refine X_drop 5 ?_
            refine X_drop 6 ?_
            dsimp only [List.set]
            have ih1 := ih (k + 1) (by omega)
            first
              | (exfalso; omega)
              | (rw [nxT2 hr (by omega) (by omega) (by omega)] at ih1; exact ih1)
              | (rw [nxT3 hr (by omega)] at ih1; exact ih1)
              | (rw [nxT4 hr (by omega)] at ih1; exact ih1)
          · refine X_goto (tgt := 136) dX5_next_128 (by decide) ?_
            refine X_iloadW dX5_next_136 rfl ?_
            refine X_goto (tgt := 142) dX5_next_138 (by decide) ?_
            refine X_istore dX5_next_142 (by decide) ?_
            dsimp only [List.set]
            refine X_iinc dX5_next_143 rfl ?_
            dsimp only [List.set]
            refine X_goto (tgt := 6) dX5_next_146 (by decide) ?_
            refine X_drop 5 ?_
            refine X_drop 6 ?_
            dsimp only [List.set]
            have ih1 := ih (k + 1) (by omega)
            first
              | (exfalso; omega)
              | (rw [nxT2 hr (by omega) (by omega) (by omega)] at ih1; exact ih1)
              | (rw [nxT3 hr (by omega)] at ih1; exact ih1)
              | (rw [nxT4 hr (by omega)] at ih1; exact ih1)
      · refine X_aload dX5_next_31 rfl ?_
        refine X_iload dX5_next_32 rfl ?_
        refine X_iloadW dX5_next_33 rfl ?_
        refine Y_pV dX5_next_35 cv_X5_40 sh_88 (by decide) (t5_wanted hR hp hG rfl k (by omega) rfl) rfl ?_
        refine X_aload dX5_next_38 rfl ?_
        refine X_getR dX5_next_39 rfl gf_X5_7 sh_88 (by decide) rfl rf_88_0 ?_
        refine X_iload dX5_next_42 rfl ?_
        refine X_iloadW dX5_next_43 rfl ?_
        refine Y_pS dX5_next_45 cs_X5_32 (t5_at _ _ _) rfl ?_
        refine X_iconst dX5_next_48 ?_
        refine X_iadd dX5_next_49 ?_
        refine Y_aldB dX5_next_50 hR (by omega) hn24 (k) (3) (by omega) (by omega) (by omega) ?_
        have hw := wt_bounds g k
        have h3 := (hG.b (k := k) (by omega)).2.2.2.1
        have h2 := (hG.b (k := k) (by omega)).2.2.1
        refine X_icmp_le (tgt := 58) dX5_next_51 (by decide) (by omega) (fun c_51 => ?_) (fun c_51 => ?_)
        · refine X_iconst dX5_next_58 ?_
          refine X_iload dX5_next_59 rfl ?_
          refine X_icmp_ne (tgt := 67) dX5_next_60 (by decide) (by omega) (fun c_60 => ?_) (fun c_60 => ?_)
          · refine X_iconst dX5_next_67 ?_
            refine X_istoreW dX5_next_68 (by decide) ?_
            dsimp only [List.set]
            refine X_iload dX5_next_70 rfl ?_
            refine X_bipush dX5_next_71 (by decide) ?_
            refine X_icmp_ne (tgt := 80) dX5_next_73 (by decide) (by omega) (fun c_73 => ?_) (fun c_73 => absurd c_73 (by omega))
            refine X_aload dX5_next_80 rfl ?_
            refine X_getR dX5_next_81 rfl gf_X5_7 sh_88 (by decide) rfl rf_88_0 ?_
            refine X_iload dX5_next_84 rfl ?_
            refine X_iloadW dX5_next_85 rfl ?_
            refine Y_pS dX5_next_87 cs_X5_32 (t5_at _ _ _) rfl ?_
            refine X_iconst dX5_next_90 ?_
            refine X_iadd dX5_next_91 ?_
            refine Y_aldB dX5_next_92 hR (by omega) hn24 (k) (2) (by omega) (by omega) (by omega) ?_
            refine X_aload dX5_next_93 rfl ?_
            refine X_getR dX5_next_94 rfl gf_X5_7 sh_88 (by decide) rfl rf_88_0 ?_
            refine X_iload dX5_next_97 rfl ?_
            refine X_iload dX5_next_98 rfl ?_
            refine Y_pS dX5_next_99 cs_X5_32 (t5_at _ _ _) rfl ?_
            refine X_iconst dX5_next_102 ?_
            refine X_iadd dX5_next_103 ?_
            refine Y_aldB dX5_next_104 hR (by omega) hn24 (q) (2) (by omega) (by omega) (by omega) ?_
            refine X_isub dX5_next_105 ?_
            refine X_istoreW dX5_next_106 (by decide) ?_
            dsimp only [List.set]
            refine X_iloadW dX5_next_108 rfl ?_
            refine X_if_eq (tgt := 141) dX5_next_110 (by decide) (by omega) (fun c_110 => ?_) (fun c_110 => ?_)
            · refine X_iload dX5_next_141 rfl ?_
              refine X_istore dX5_next_142 (by decide) ?_
              dsimp only [List.set]
              refine X_iinc dX5_next_143 rfl ?_
              dsimp only [List.set]
              refine X_goto (tgt := 6) dX5_next_146 (by decide) ?_
              refine X_drop 5 ?_
              refine X_drop 6 ?_
              dsimp only [List.set]
              have ih1 := ih (k + 1) (by omega)
              first
                | (exfalso; omega)
                | (rw [nxT2 hr (by omega) (by omega) (by omega)] at ih1; exact ih1)
                | (rw [nxT3 hr (by omega)] at ih1; exact ih1)
                | (rw [nxT4 hr (by omega)] at ih1; exact ih1)
            · refine X_iload dX5_next_113 rfl ?_
              refine X_bipush dX5_next_114 (by decide) ?_
              refine X_icmp_eq (tgt := 136) dX5_next_116 (by decide) (by omega) (fun c_116 => absurd c_116 (by omega)) (fun c_116 => ?_)
              refine X_iload dX5_next_119 rfl ?_
              refine X_if_eq (tgt := 131) dX5_next_120 (by decide) (by omega) (fun c_120 => absurd c_120 (by omega)) (fun c_120 => ?_)
              refine X_iloadW dX5_next_123 rfl ?_
              refine X_if_ge (tgt := 141) dX5_next_125 (by decide) (by omega) (fun c_125 => ?_) (fun c_125 => ?_)
              · refine X_iload dX5_next_141 rfl ?_
                refine X_istore dX5_next_142 (by decide) ?_
                dsimp only [List.set]
                refine X_iinc dX5_next_143 rfl ?_
                dsimp only [List.set]
                refine X_goto (tgt := 6) dX5_next_146 (by decide) ?_
                refine X_drop 5 ?_
                refine X_drop 6 ?_
                dsimp only [List.set]
                have ih1 := ih (k + 1) (by omega)
                first
                  | (exfalso; omega)
                  | (rw [nxT2 hr (by omega) (by omega) (by omega)] at ih1; exact ih1)
                  | (rw [nxT3 hr (by omega)] at ih1; exact ih1)
                  | (rw [nxT4 hr (by omega)] at ih1; exact ih1)
              · refine X_goto (tgt := 136) dX5_next_128 (by decide) ?_
                refine X_iloadW dX5_next_136 rfl ?_
                refine X_goto (tgt := 142) dX5_next_138 (by decide) ?_
                refine X_istore dX5_next_142 (by decide) ?_
                dsimp only [List.set]
                refine X_iinc dX5_next_143 rfl ?_
                dsimp only [List.set]
                refine X_goto (tgt := 6) dX5_next_146 (by decide) ?_
                refine X_drop 5 ?_
                refine X_drop 6 ?_
                dsimp only [List.set]
                have ih1 := ih (k + 1) (by omega)
                first
                  | (exfalso; omega)
                  | (rw [nxT2 hr (by omega) (by omega) (by omega)] at ih1; exact ih1)
                  | (rw [nxT3 hr (by omega)] at ih1; exact ih1)
                  | (rw [nxT4 hr (by omega)] at ih1; exact ih1)
          · refine X_iconst dX5_next_63 ?_
            refine X_goto (tgt := 68) dX5_next_64 (by decide) ?_
            refine X_istoreW dX5_next_68 (by decide) ?_
            dsimp only [List.set]
            refine X_iload dX5_next_70 rfl ?_
            refine X_bipush dX5_next_71 (by decide) ?_
            refine X_icmp_ne (tgt := 80) dX5_next_73 (by decide) (by omega) (fun c_73 => ?_) (fun c_73 => absurd c_73 (by omega))
            refine X_aload dX5_next_80 rfl ?_
            refine X_getR dX5_next_81 rfl gf_X5_7 sh_88 (by decide) rfl rf_88_0 ?_
            refine X_iload dX5_next_84 rfl ?_
            refine X_iloadW dX5_next_85 rfl ?_
            refine Y_pS dX5_next_87 cs_X5_32 (t5_at _ _ _) rfl ?_
            refine X_iconst dX5_next_90 ?_
            refine X_iadd dX5_next_91 ?_
            refine Y_aldB dX5_next_92 hR (by omega) hn24 (k) (2) (by omega) (by omega) (by omega) ?_
            refine X_aload dX5_next_93 rfl ?_
            refine X_getR dX5_next_94 rfl gf_X5_7 sh_88 (by decide) rfl rf_88_0 ?_
            refine X_iload dX5_next_97 rfl ?_
            refine X_iload dX5_next_98 rfl ?_
            refine Y_pS dX5_next_99 cs_X5_32 (t5_at _ _ _) rfl ?_
            refine X_iconst dX5_next_102 ?_
            refine X_iadd dX5_next_103 ?_
            refine Y_aldB dX5_next_104 hR (by omega) hn24 (q) (2) (by omega) (by omega) (by omega) ?_
            refine X_isub dX5_next_105 ?_
            refine X_istoreW dX5_next_106 (by decide) ?_
            dsimp only [List.set]
            refine X_iloadW dX5_next_108 rfl ?_
            refine X_if_eq (tgt := 141) dX5_next_110 (by decide) (by omega) (fun c_110 => ?_) (fun c_110 => ?_)
            · refine X_iload dX5_next_141 rfl ?_
              refine X_istore dX5_next_142 (by decide) ?_
              dsimp only [List.set]
              refine X_iinc dX5_next_143 rfl ?_
              dsimp only [List.set]
              refine X_goto (tgt := 6) dX5_next_146 (by decide) ?_
              refine X_drop 5 ?_
              refine X_drop 6 ?_
              dsimp only [List.set]
              have ih1 := ih (k + 1) (by omega)
              first
                | (exfalso; omega)
                | (rw [nxT2 hr (by omega) (by omega) (by omega)] at ih1; exact ih1)
                | (rw [nxT3 hr (by omega)] at ih1; exact ih1)
                | (rw [nxT4 hr (by omega)] at ih1; exact ih1)
            · refine X_iload dX5_next_113 rfl ?_
              refine X_bipush dX5_next_114 (by decide) ?_
              refine X_icmp_eq (tgt := 136) dX5_next_116 (by decide) (by omega) (fun c_116 => absurd c_116 (by omega)) (fun c_116 => ?_)
              refine X_iload dX5_next_119 rfl ?_
              refine X_if_eq (tgt := 131) dX5_next_120 (by decide) (by omega) (fun c_120 => absurd c_120 (by omega)) (fun c_120 => ?_)
              refine X_iloadW dX5_next_123 rfl ?_
              refine X_if_ge (tgt := 141) dX5_next_125 (by decide) (by omega) (fun c_125 => ?_) (fun c_125 => ?_)
              · refine X_iload dX5_next_141 rfl ?_
                refine X_istore dX5_next_142 (by decide) ?_
                dsimp only [List.set]
                refine X_iinc dX5_next_143 rfl ?_
                dsimp only [List.set]
                refine X_goto (tgt := 6) dX5_next_146 (by decide) ?_
                refine X_drop 5 ?_
                refine X_drop 6 ?_
                dsimp only [List.set]
                have ih1 := ih (k + 1) (by omega)
                first
                  | (exfalso; omega)
                  | (rw [nxT2 hr (by omega) (by omega) (by omega)] at ih1; exact ih1)
                  | (rw [nxT3 hr (by omega)] at ih1; exact ih1)
                  | (rw [nxT4 hr (by omega)] at ih1; exact ih1)
              · refine X_goto (tgt := 136) dX5_next_128 (by decide) ?_
                refine X_iloadW dX5_next_136 rfl ?_
                refine X_goto (tgt := 142) dX5_next_138 (by decide) ?_
                refine X_istore dX5_next_142 (by decide) ?_
                dsimp only [List.set]
                refine X_iinc dX5_next_143 rfl ?_
                dsimp only [List.set]
                refine X_goto (tgt := 6) dX5_next_146 (by decide) ?_
                refine X_drop 5 ?_
                refine X_drop 6 ?_
                dsimp only [List.set]
                have ih1 := ih (k + 1) (by omega)
                first
                  | (exfalso; omega)
                  | (rw [nxT2 hr (by omega) (by omega) (by omega)] at ih1; exact ih1)
                  | (rw [nxT3 hr (by omega)] at ih1; exact ih1)
                  | (rw [nxT4 hr (by omega)] at ih1; exact ih1)
        · refine X_iconst dX5_next_54 ?_
          refine X_goto (tgt := 59) dX5_next_55 (by decide) ?_
          refine X_iload dX5_next_59 rfl ?_
          refine X_icmp_ne (tgt := 67) dX5_next_60 (by decide) (by omega) (fun c_60 => ?_) (fun c_60 => ?_)
          · refine X_iconst dX5_next_67 ?_
            refine X_istoreW dX5_next_68 (by decide) ?_
            dsimp only [List.set]
            refine X_iload dX5_next_70 rfl ?_
            refine X_bipush dX5_next_71 (by decide) ?_
            refine X_icmp_ne (tgt := 80) dX5_next_73 (by decide) (by omega) (fun c_73 => ?_) (fun c_73 => absurd c_73 (by omega))
            refine X_aload dX5_next_80 rfl ?_
            refine X_getR dX5_next_81 rfl gf_X5_7 sh_88 (by decide) rfl rf_88_0 ?_
            refine X_iload dX5_next_84 rfl ?_
            refine X_iloadW dX5_next_85 rfl ?_
            refine Y_pS dX5_next_87 cs_X5_32 (t5_at _ _ _) rfl ?_
            refine X_iconst dX5_next_90 ?_
            refine X_iadd dX5_next_91 ?_
            refine Y_aldB dX5_next_92 hR (by omega) hn24 (k) (2) (by omega) (by omega) (by omega) ?_
            refine X_aload dX5_next_93 rfl ?_
            refine X_getR dX5_next_94 rfl gf_X5_7 sh_88 (by decide) rfl rf_88_0 ?_
            refine X_iload dX5_next_97 rfl ?_
            refine X_iload dX5_next_98 rfl ?_
            refine Y_pS dX5_next_99 cs_X5_32 (t5_at _ _ _) rfl ?_
            refine X_iconst dX5_next_102 ?_
            refine X_iadd dX5_next_103 ?_
            refine Y_aldB dX5_next_104 hR (by omega) hn24 (q) (2) (by omega) (by omega) (by omega) ?_
            refine X_isub dX5_next_105 ?_
            refine X_istoreW dX5_next_106 (by decide) ?_
            dsimp only [List.set]
            refine X_iloadW dX5_next_108 rfl ?_
            refine X_if_eq (tgt := 141) dX5_next_110 (by decide) (by omega) (fun c_110 => ?_) (fun c_110 => ?_)
            · refine X_iload dX5_next_141 rfl ?_
              refine X_istore dX5_next_142 (by decide) ?_
              dsimp only [List.set]
              refine X_iinc dX5_next_143 rfl ?_
              dsimp only [List.set]
              refine X_goto (tgt := 6) dX5_next_146 (by decide) ?_
              refine X_drop 5 ?_
              refine X_drop 6 ?_
              dsimp only [List.set]
              have ih1 := ih (k + 1) (by omega)
              first
                | (exfalso; omega)
                | (rw [nxT2 hr (by omega) (by omega) (by omega)] at ih1; exact ih1)
                | (rw [nxT3 hr (by omega)] at ih1; exact ih1)
                | (rw [nxT4 hr (by omega)] at ih1; exact ih1)
            · refine X_iload dX5_next_113 rfl ?_
              refine X_bipush dX5_next_114 (by decide) ?_
              refine X_icmp_eq (tgt := 136) dX5_next_116 (by decide) (by omega) (fun c_116 => absurd c_116 (by omega)) (fun c_116 => ?_)
              refine X_iload dX5_next_119 rfl ?_
              refine X_if_eq (tgt := 131) dX5_next_120 (by decide) (by omega) (fun c_120 => absurd c_120 (by omega)) (fun c_120 => ?_)
              refine X_iloadW dX5_next_123 rfl ?_
              refine X_if_ge (tgt := 141) dX5_next_125 (by decide) (by omega) (fun c_125 => ?_) (fun c_125 => ?_)
              · refine X_iload dX5_next_141 rfl ?_
                refine X_istore dX5_next_142 (by decide) ?_
                dsimp only [List.set]
                refine X_iinc dX5_next_143 rfl ?_
                dsimp only [List.set]
                refine X_goto (tgt := 6) dX5_next_146 (by decide) ?_
                refine X_drop 5 ?_
                refine X_drop 6 ?_
                dsimp only [List.set]
                have ih1 := ih (k + 1) (by omega)
                first
                  | (exfalso; omega)
                  | (rw [nxT2 hr (by omega) (by omega) (by omega)] at ih1; exact ih1)
                  | (rw [nxT3 hr (by omega)] at ih1; exact ih1)
                  | (rw [nxT4 hr (by omega)] at ih1; exact ih1)
              · refine X_goto (tgt := 136) dX5_next_128 (by decide) ?_
                refine X_iloadW dX5_next_136 rfl ?_
                refine X_goto (tgt := 142) dX5_next_138 (by decide) ?_
                refine X_istore dX5_next_142 (by decide) ?_
                dsimp only [List.set]
                refine X_iinc dX5_next_143 rfl ?_
                dsimp only [List.set]
                refine X_goto (tgt := 6) dX5_next_146 (by decide) ?_
                refine X_drop 5 ?_
                refine X_drop 6 ?_
                dsimp only [List.set]
                have ih1 := ih (k + 1) (by omega)
                first
                  | (exfalso; omega)
                  | (rw [nxT2 hr (by omega) (by omega) (by omega)] at ih1; exact ih1)
                  | (rw [nxT3 hr (by omega)] at ih1; exact ih1)
                  | (rw [nxT4 hr (by omega)] at ih1; exact ih1)
          · refine X_iconst dX5_next_63 ?_
            refine X_goto (tgt := 68) dX5_next_64 (by decide) ?_
            refine X_istoreW dX5_next_68 (by decide) ?_
            dsimp only [List.set]
            refine X_iload dX5_next_70 rfl ?_
            refine X_bipush dX5_next_71 (by decide) ?_
            refine X_icmp_ne (tgt := 80) dX5_next_73 (by decide) (by omega) (fun c_73 => ?_) (fun c_73 => absurd c_73 (by omega))
            refine X_aload dX5_next_80 rfl ?_
            refine X_getR dX5_next_81 rfl gf_X5_7 sh_88 (by decide) rfl rf_88_0 ?_
            refine X_iload dX5_next_84 rfl ?_
            refine X_iloadW dX5_next_85 rfl ?_
            refine Y_pS dX5_next_87 cs_X5_32 (t5_at _ _ _) rfl ?_
            refine X_iconst dX5_next_90 ?_
            refine X_iadd dX5_next_91 ?_
            refine Y_aldB dX5_next_92 hR (by omega) hn24 (k) (2) (by omega) (by omega) (by omega) ?_
            refine X_aload dX5_next_93 rfl ?_
            refine X_getR dX5_next_94 rfl gf_X5_7 sh_88 (by decide) rfl rf_88_0 ?_
            refine X_iload dX5_next_97 rfl ?_
            refine X_iload dX5_next_98 rfl ?_
            refine Y_pS dX5_next_99 cs_X5_32 (t5_at _ _ _) rfl ?_
            refine X_iconst dX5_next_102 ?_
            refine X_iadd dX5_next_103 ?_
            refine Y_aldB dX5_next_104 hR (by omega) hn24 (q) (2) (by omega) (by omega) (by omega) ?_
            refine X_isub dX5_next_105 ?_
            refine X_istoreW dX5_next_106 (by decide) ?_
            dsimp only [List.set]
            refine X_iloadW dX5_next_108 rfl ?_
            refine X_if_eq (tgt := 141) dX5_next_110 (by decide) (by omega) (fun c_110 => ?_) (fun c_110 => ?_)
            · refine X_iload dX5_next_141 rfl ?_
              refine X_istore dX5_next_142 (by decide) ?_
              dsimp only [List.set]
              refine X_iinc dX5_next_143 rfl ?_
              dsimp only [List.set]
              refine X_goto (tgt := 6) dX5_next_146 (by decide) ?_
              refine X_drop 5 ?_
              refine X_drop 6 ?_
              dsimp only [List.set]
              have ih1 := ih (k + 1) (by omega)
              first
                | (exfalso; omega)
                | (rw [nxT2 hr (by omega) (by omega) (by omega)] at ih1; exact ih1)
                | (rw [nxT3 hr (by omega)] at ih1; exact ih1)
                | (rw [nxT4 hr (by omega)] at ih1; exact ih1)
            · refine X_iload dX5_next_113 rfl ?_
              refine X_bipush dX5_next_114 (by decide) ?_
              refine X_icmp_eq (tgt := 136) dX5_next_116 (by decide) (by omega) (fun c_116 => absurd c_116 (by omega)) (fun c_116 => ?_)
              refine X_iload dX5_next_119 rfl ?_
              refine X_if_eq (tgt := 131) dX5_next_120 (by decide) (by omega) (fun c_120 => absurd c_120 (by omega)) (fun c_120 => ?_)
              refine X_iloadW dX5_next_123 rfl ?_
              refine X_if_ge (tgt := 141) dX5_next_125 (by decide) (by omega) (fun c_125 => ?_) (fun c_125 => ?_)
              · refine X_iload dX5_next_141 rfl ?_
                refine X_istore dX5_next_142 (by decide) ?_
                dsimp only [List.set]
                refine X_iinc dX5_next_143 rfl ?_
                dsimp only [List.set]
                refine X_goto (tgt := 6) dX5_next_146 (by decide) ?_
                refine X_drop 5 ?_
                refine X_drop 6 ?_
                dsimp only [List.set]
                have ih1 := ih (k + 1) (by omega)
                first
                  | (exfalso; omega)
                  | (rw [nxT2 hr (by omega) (by omega) (by omega)] at ih1; exact ih1)
                  | (rw [nxT3 hr (by omega)] at ih1; exact ih1)
                  | (rw [nxT4 hr (by omega)] at ih1; exact ih1)
              · refine X_goto (tgt := 136) dX5_next_128 (by decide) ?_
                refine X_iloadW dX5_next_136 rfl ?_
                refine X_goto (tgt := 142) dX5_next_138 (by decide) ?_
                refine X_istore dX5_next_142 (by decide) ?_
                dsimp only [List.set]
                refine X_iinc dX5_next_143 rfl ?_
                dsimp only [List.set]
                refine X_goto (tgt := 6) dX5_next_146 (by decide) ?_
                refine X_drop 5 ?_
                refine X_drop 6 ?_
                dsimp only [List.set]
                have ih1 := ih (k + 1) (by omega)
                first
                  | (exfalso; omega)
                  | (rw [nxT2 hr (by omega) (by omega) (by omega)] at ih1; exact ih1)
                  | (rw [nxT3 hr (by omega)] at ih1; exact ih1)
                  | (rw [nxT4 hr (by omega)] at ih1; exact ih1)
set_option maxRecDepth 20000 in
set_option maxHeartbeats 4000000 in
theorem t5_nextT {I : xI} {p : Nat} {g : Nat → Int} {n : Nat} (hR : RR I p g n) (hp : p ≤ 215) (hG : GI g n) {ip : Int} (hip : ip = (p : Int)) {y : Nat → Int} (hW : W5 I y n) (hy : ∀ k, k < n → 0 ≤ y k ∧ y k ≤ 9) : S kX5_next 2 [rr 88, ii ip, ii 1] I (q_p (ii (oi (nxF (wt g) g y true n) (-5))) I) := by
  subst hip
  have hn24 := hG.n24
  have h15 := hG.g15
  refine Sp_intro (by decide +kernel) (Nat.le_of_ble_eq_true rfl) ?_
  show Y kX5_next 2 0 [some (rr 88), some (ii (p : Int)), some (ii 1), none, none, none, none] [] I _
  refine X_bipush dX5_next_0 (by decide) ?_
  refine X_istore dX5_next_2 (by decide) ?_
  dsimp only [List.set]
  refine X_iconst dX5_next_3 ?_
  refine X_istoreW dX5_next_4 (by decide) ?_
  dsimp only [List.set]
  exact t5_nextT_loop hR hp hG hW hy n 0 (by omega)
set_option maxRecDepth 20000 in
set_option maxHeartbeats 4000000 in
theorem t5_nextU_loop {I : xI} {p : Nat} {g : Nat → Int} {n : Nat} (hR : RR I p g n) (hp : p ≤ 215) (hG : GI g n) {y : Nat → Int} (hW : W5 I y n) (hy : ∀ k, k < n → 0 ≤ y k ∧ y k ≤ 9) : ∀ (m k : Nat), k + m = n → Y kX5_next 2 6 [some (rr 88), some (ii (p : Int)), some (ii 0), some (ii (oi (nxF (wt g) g y false k) (-5))), some (ii (k : Int)), none, none] [] I (q_p (ii (oi (nxF (wt g) g y false n) (-5))) I) := by
  have hn24 := hG.n24
  have h15 := hG.g15
  intro m
  induction m with
  | zero =>
    intro k hk
    refine X_iloadW dX5_next_6 rfl ?_
    refine X_aload dX5_next_8 rfl ?_
    refine X_getR dX5_next_9 rfl gf_X5_7 sh_88 (by decide) rfl rf_88_0 ?_
    refine X_iload dX5_next_12 rfl ?_
    refine X_bipush dX5_next_13 (by decide) ?_
    refine X_iadd dX5_next_15 ?_
    refine Y_ald dX5_next_16 hR (by omega) hn24 (15) (by omega) (by omega) ?_
    refine X_icmp_ge (tgt := 149) dX5_next_17 (by decide) (by omega) (fun c_17 => ?_) (fun c_17 => absurd c_17 (by omega))
    refine X_iload dX5_next_149 rfl ?_
    refine X_iret dX5_next_150 (Or.inl rfl) ?_
    exact ⟨by rw [show n = k by omega], rfl, rfl, rfl⟩
  | succ m ih =>
    intro k hk
    rcases hr : nxF (wt g) g y false k with _ | q
    · show Y kX5_next 2 6 [some (rr 88), some (ii (p : Int)), some (ii 0), some (ii (-5)), some (ii (k : Int)), none, none] [] I (q_p (ii (oi (nxF (wt g) g y false n) (-5))) I)
      refine X_iloadW dX5_next_6 rfl ?_
      refine X_aload dX5_next_8 rfl ?_
      refine X_getR dX5_next_9 rfl gf_X5_7 sh_88 (by decide) rfl rf_88_0 ?_
      refine X_iload dX5_next_12 rfl ?_
      refine X_bipush dX5_next_13 (by decide) ?_
      refine X_iadd dX5_next_15 ?_
      refine Y_ald dX5_next_16 hR (by omega) hn24 (15) (by omega) (by omega) ?_
      refine X_icmp_ge (tgt := 149) dX5_next_17 (by decide) (by omega) (fun c_17 => absurd c_17 (by omega)) (fun c_17 => ?_)
      refine X_aload dX5_next_20 rfl ?_
      refine X_getR dX5_next_21 rfl gf_X5_22 sh_88 (by decide) rfl rf_88_7 ?_
      refine X_iloadW dX5_next_24 rfl ?_
      refine X_iald dX5_next_26 sh_93 (Or.inl (by decide)) (by omega) ?_
      rw [Int.toNat_natCast, hW k (by omega)]
      refine X_iconst dX5_next_27 ?_
      have hz := dz_iff (hy k (by omega))
      refine X_icmp_ne (tgt := 67) dX5_next_28 (by decide) (by omega) (fun c_28 => ?_) (fun c_28 => ?_)
      · refine X_iconst dX5_next_67 ?_
        refine X_istoreW dX5_next_68 (by decide) ?_
        dsimp only [List.set]
        refine X_iload dX5_next_70 rfl ?_
        refine X_bipush dX5_next_71 (by decide) ?_
        refine X_icmp_ne (tgt := 80) dX5_next_73 (by decide) (by omega) (fun c_73 => absurd c_73 (by omega)) (fun c_73 => ?_)
        refine X_iconst dX5_next_76 ?_
        refine X_goto (tgt := 106) dX5_next_77 (by decide) ?_
        refine X_istoreW dX5_next_106 (by decide) ?_
        dsimp only [List.set]
        refine X_iloadW dX5_next_108 rfl ?_
        refine X_if_eq (tgt := 141) dX5_next_110 (by decide) (by omega) (fun c_110 => ?_) (fun c_110 => ?_)
        · refine X_iload dX5_next_141 rfl ?_
          refine X_istore dX5_next_142 (by decide) ?_
          dsimp only [List.set]
          refine X_iinc dX5_next_143 rfl ?_
          dsimp only [List.set]
          refine X_goto (tgt := 6) dX5_next_146 (by decide) ?_
          refine X_drop 5 ?_
          refine X_drop 6 ?_
          dsimp only [List.set]
          have ih1 := ih (k + 1) (by omega)
          first
            | (exfalso; omega)
            | (rw [nxU1 hr (by omega) (by omega)] at ih1; exact ih1)
            | (rw [nxU3 hr (by omega)] at ih1; exact ih1)
        · refine X_iload dX5_next_113 rfl ?_
          refine X_bipush dX5_next_114 (by decide) ?_
          refine X_icmp_eq (tgt := 136) dX5_next_116 (by decide) (by omega) (fun c_116 => ?_) (fun c_116 => absurd c_116 (by omega))
          refine X_iloadW dX5_next_136 rfl ?_
          refine X_goto (tgt := 142) dX5_next_138 (by decide) ?_
          refine X_istore dX5_next_142 (by decide) ?_
          dsimp only [List.set]
          refine X_iinc dX5_next_143 rfl ?_
          dsimp only [List.set]
          refine X_goto (tgt := 6) dX5_next_146 (by decide) ?_
          refine X_drop 5 ?_
          refine X_drop 6 ?_
          dsimp only [List.set]
          have ih1 := ih (k + 1) (by omega)
          first
            | (exfalso; omega)
            | (rw [nxU1 hr (by omega) (by omega)] at ih1; exact ih1)
            | (rw [nxU3 hr (by omega)] at ih1; exact ih1)
      · refine X_aload dX5_next_31 rfl ?_
        refine X_iload dX5_next_32 rfl ?_
        refine X_iloadW dX5_next_33 rfl ?_
        refine Y_pV dX5_next_35 cv_X5_40 sh_88 (by decide) (t5_wanted hR hp hG rfl k (by omega) rfl) rfl ?_
        refine X_aload dX5_next_38 rfl ?_
        refine X_getR dX5_next_39 rfl gf_X5_7 sh_88 (by decide) rfl rf_88_0 ?_
        refine X_iload dX5_next_42 rfl ?_
        refine X_iloadW dX5_next_43 rfl ?_
        refine Y_pS dX5_next_45 cs_X5_32 (t5_at _ _ _) rfl ?_
        refine X_iconst dX5_next_48 ?_
        refine X_iadd dX5_next_49 ?_
        refine Y_aldB dX5_next_50 hR (by omega) hn24 (k) (3) (by omega) (by omega) (by omega) ?_
        have hw := wt_bounds g k
        have h3 := (hG.b (k := k) (by omega)).2.2.2.1
        have h2 := (hG.b (k := k) (by omega)).2.2.1
        refine X_icmp_le (tgt := 58) dX5_next_51 (by decide) (by omega) (fun c_51 => ?_) (fun c_51 => ?_)
        · refine X_iconst dX5_next_58 ?_
          refine X_iload dX5_next_59 rfl ?_
          refine X_icmp_ne (tgt := 67) dX5_next_60 (by decide) (by omega) (fun c_60 => ?_) (fun c_60 => ?_)
          · refine X_iconst dX5_next_67 ?_
            refine X_istoreW dX5_next_68 (by decide) ?_
            dsimp only [List.set]
            refine X_iload dX5_next_70 rfl ?_
            refine X_bipush dX5_next_71 (by decide) ?_
            refine X_icmp_ne (tgt := 80) dX5_next_73 (by decide) (by omega) (fun c_73 => absurd c_73 (by omega)) (fun c_73 => ?_)
            refine X_iconst dX5_next_76 ?_
            refine X_goto (tgt := 106) dX5_next_77 (by decide) ?_
            refine X_istoreW dX5_next_106 (by decide) ?_
            dsimp only [List.set]
            refine X_iloadW dX5_next_108 rfl ?_
            refine X_if_eq (tgt := 141) dX5_next_110 (by decide) (by omega) (fun c_110 => ?_) (fun c_110 => ?_)
            · refine X_iload dX5_next_141 rfl ?_
              refine X_istore dX5_next_142 (by decide) ?_
              dsimp only [List.set]
              refine X_iinc dX5_next_143 rfl ?_
              dsimp only [List.set]
              refine X_goto (tgt := 6) dX5_next_146 (by decide) ?_
              refine X_drop 5 ?_
              refine X_drop 6 ?_
              dsimp only [List.set]
              have ih1 := ih (k + 1) (by omega)
              first
                | (exfalso; omega)
                | (rw [nxU1 hr (by omega) (by omega)] at ih1; exact ih1)
                | (rw [nxU3 hr (by omega)] at ih1; exact ih1)
            · refine X_iload dX5_next_113 rfl ?_
              refine X_bipush dX5_next_114 (by decide) ?_
              refine X_icmp_eq (tgt := 136) dX5_next_116 (by decide) (by omega) (fun c_116 => ?_) (fun c_116 => absurd c_116 (by omega))
              refine X_iloadW dX5_next_136 rfl ?_
              refine X_goto (tgt := 142) dX5_next_138 (by decide) ?_
              refine X_istore dX5_next_142 (by decide) ?_
              dsimp only [List.set]
              refine X_iinc dX5_next_143 rfl ?_
              dsimp only [List.set]
              refine X_goto (tgt := 6) dX5_next_146 (by decide) ?_
              refine X_drop 5 ?_
              refine X_drop 6 ?_
              dsimp only [List.set]
              have ih1 := ih (k + 1) (by omega)
              first
                | (exfalso; omega)
                | (rw [nxU1 hr (by omega) (by omega)] at ih1; exact ih1)
                | (rw [nxU3 hr (by omega)] at ih1; exact ih1)
          · refine X_iconst dX5_next_63 ?_
            refine X_goto (tgt := 68) dX5_next_64 (by decide) ?_
            refine X_istoreW dX5_next_68 (by decide) ?_
            dsimp only [List.set]
            refine X_iload dX5_next_70 rfl ?_
            refine X_bipush dX5_next_71 (by decide) ?_
            refine X_icmp_ne (tgt := 80) dX5_next_73 (by decide) (by omega) (fun c_73 => absurd c_73 (by omega)) (fun c_73 => ?_)
            refine X_iconst dX5_next_76 ?_
            refine X_goto (tgt := 106) dX5_next_77 (by decide) ?_
            refine X_istoreW dX5_next_106 (by decide) ?_
            dsimp only [List.set]
            refine X_iloadW dX5_next_108 rfl ?_
            refine X_if_eq (tgt := 141) dX5_next_110 (by decide) (by omega) (fun c_110 => ?_) (fun c_110 => ?_)
            · refine X_iload dX5_next_141 rfl ?_
              refine X_istore dX5_next_142 (by decide) ?_
              dsimp only [List.set]
              refine X_iinc dX5_next_143 rfl ?_
              dsimp only [List.set]
              refine X_goto (tgt := 6) dX5_next_146 (by decide) ?_
              refine X_drop 5 ?_
              refine X_drop 6 ?_
              dsimp only [List.set]
              have ih1 := ih (k + 1) (by omega)
              first
                | (exfalso; omega)
                | (rw [nxU1 hr (by omega) (by omega)] at ih1; exact ih1)
                | (rw [nxU3 hr (by omega)] at ih1; exact ih1)
            · refine X_iload dX5_next_113 rfl ?_
              refine X_bipush dX5_next_114 (by decide) ?_
              refine X_icmp_eq (tgt := 136) dX5_next_116 (by decide) (by omega) (fun c_116 => ?_) (fun c_116 => absurd c_116 (by omega))
              refine X_iloadW dX5_next_136 rfl ?_
              refine X_goto (tgt := 142) dX5_next_138 (by decide) ?_
              refine X_istore dX5_next_142 (by decide) ?_
              dsimp only [List.set]
              refine X_iinc dX5_next_143 rfl ?_
              dsimp only [List.set]
              refine X_goto (tgt := 6) dX5_next_146 (by decide) ?_
              refine X_drop 5 ?_
              refine X_drop 6 ?_
              dsimp only [List.set]
              have ih1 := ih (k + 1) (by omega)
              first
                | (exfalso; omega)
                | (rw [nxU1 hr (by omega) (by omega)] at ih1; exact ih1)
                | (rw [nxU3 hr (by omega)] at ih1; exact ih1)
        · refine X_iconst dX5_next_54 ?_
          refine X_goto (tgt := 59) dX5_next_55 (by decide) ?_
          refine X_iload dX5_next_59 rfl ?_
          refine X_icmp_ne (tgt := 67) dX5_next_60 (by decide) (by omega) (fun c_60 => ?_) (fun c_60 => ?_)
          · refine X_iconst dX5_next_67 ?_
            refine X_istoreW dX5_next_68 (by decide) ?_
            dsimp only [List.set]
            refine X_iload dX5_next_70 rfl ?_
            refine X_bipush dX5_next_71 (by decide) ?_
            refine X_icmp_ne (tgt := 80) dX5_next_73 (by decide) (by omega) (fun c_73 => absurd c_73 (by omega)) (fun c_73 => ?_)
            refine X_iconst dX5_next_76 ?_
            refine X_goto (tgt := 106) dX5_next_77 (by decide) ?_
            refine X_istoreW dX5_next_106 (by decide) ?_
            dsimp only [List.set]
            refine X_iloadW dX5_next_108 rfl ?_
            refine X_if_eq (tgt := 141) dX5_next_110 (by decide) (by omega) (fun c_110 => ?_) (fun c_110 => ?_)
            · refine X_iload dX5_next_141 rfl ?_
              refine X_istore dX5_next_142 (by decide) ?_
              dsimp only [List.set]
              refine X_iinc dX5_next_143 rfl ?_
              dsimp only [List.set]
              refine X_goto (tgt := 6) dX5_next_146 (by decide) ?_
              refine X_drop 5 ?_
              refine X_drop 6 ?_
              dsimp only [List.set]
              have ih1 := ih (k + 1) (by omega)
              first
                | (exfalso; omega)
                | (rw [nxU1 hr (by omega) (by omega)] at ih1; exact ih1)
                | (rw [nxU3 hr (by omega)] at ih1; exact ih1)
            · refine X_iload dX5_next_113 rfl ?_
              refine X_bipush dX5_next_114 (by decide) ?_
              refine X_icmp_eq (tgt := 136) dX5_next_116 (by decide) (by omega) (fun c_116 => ?_) (fun c_116 => absurd c_116 (by omega))
              refine X_iloadW dX5_next_136 rfl ?_
              refine X_goto (tgt := 142) dX5_next_138 (by decide) ?_
              refine X_istore dX5_next_142 (by decide) ?_
              dsimp only [List.set]
              refine X_iinc dX5_next_143 rfl ?_
              dsimp only [List.set]
              refine X_goto (tgt := 6) dX5_next_146 (by decide) ?_
              refine X_drop 5 ?_
              refine X_drop 6 ?_
              dsimp only [List.set]
              have ih1 := ih (k + 1) (by omega)
              first
                | (exfalso; omega)
                | (rw [nxU1 hr (by omega) (by omega)] at ih1; exact ih1)
                | (rw [nxU3 hr (by omega)] at ih1; exact ih1)
          · refine X_iconst dX5_next_63 ?_
            refine X_goto (tgt := 68) dX5_next_64 (by decide) ?_
            refine X_istoreW dX5_next_68 (by decide) ?_
            dsimp only [List.set]
            refine X_iload dX5_next_70 rfl ?_
            refine X_bipush dX5_next_71 (by decide) ?_
            refine X_icmp_ne (tgt := 80) dX5_next_73 (by decide) (by omega) (fun c_73 => absurd c_73 (by omega)) (fun c_73 => ?_)
            refine X_iconst dX5_next_76 ?_
            refine X_goto (tgt := 106) dX5_next_77 (by decide) ?_
            refine X_istoreW dX5_next_106 (by decide) ?_
            dsimp only [List.set]
            refine X_iloadW dX5_next_108 rfl ?_
            refine X_if_eq (tgt := 141) dX5_next_110 (by decide) (by omega) (fun c_110 => ?_) (fun c_110 => ?_)
            · refine X_iload dX5_next_141 rfl ?_
              refine X_istore dX5_next_142 (by decide) ?_
              dsimp only [List.set]
              refine X_iinc dX5_next_143 rfl ?_
              dsimp only [List.set]
              refine X_goto (tgt := 6) dX5_next_146 (by decide) ?_
              refine X_drop 5 ?_
              refine X_drop 6 ?_
              dsimp only [List.set]
              have ih1 := ih (k + 1) (by omega)
              first
                | (exfalso; omega)
                | (rw [nxU1 hr (by omega) (by omega)] at ih1; exact ih1)
                | (rw [nxU3 hr (by omega)] at ih1; exact ih1)
            · refine X_iload dX5_next_113 rfl ?_
              refine X_bipush dX5_next_114 (by decide) ?_
              refine X_icmp_eq (tgt := 136) dX5_next_116 (by decide) (by omega) (fun c_116 => ?_) (fun c_116 => absurd c_116 (by omega))
              refine X_iloadW dX5_next_136 rfl ?_
              refine X_goto (tgt := 142) dX5_next_138 (by decide) ?_
              refine X_istore dX5_next_142 (by decide) ?_
              dsimp only [List.set]
              refine X_iinc dX5_next_143 rfl ?_
              dsimp only [List.set]
              refine X_goto (tgt := 6) dX5_next_146 (by decide) ?_
              refine X_drop 5 ?_
              refine X_drop 6 ?_
              dsimp only [List.set]
              have ih1 := ih (k + 1) (by omega)
              first
                | (exfalso; omega)
                | (rw [nxU1 hr (by omega) (by omega)] at ih1; exact ih1)
                | (rw [nxU3 hr (by omega)] at ih1; exact ih1)
    · show Y kX5_next 2 6 [some (rr 88), some (ii (p : Int)), some (ii 0), some (ii (q : Int)), some (ii (k : Int)), none, none] [] I (q_p (ii (oi (nxF (wt g) g y false n) (-5))) I)
      have hq := (nxF_lt hr).1
      have hq2 := (hG.b (k := q) (by omega)).2.2.1
      refine X_iloadW dX5_next_6 rfl ?_
      refine X_aload dX5_next_8 rfl ?_
      refine X_getR dX5_next_9 rfl gf_X5_7 sh_88 (by decide) rfl rf_88_0 ?_
      refine X_iload dX5_next_12 rfl ?_
      refine X_bipush dX5_next_13 (by decide) ?_
      refine X_iadd dX5_next_15 ?_
      refine Y_ald dX5_next_16 hR (by omega) hn24 (15) (by omega) (by omega) ?_
      refine X_icmp_ge (tgt := 149) dX5_next_17 (by decide) (by omega) (fun c_17 => absurd c_17 (by omega)) (fun c_17 => ?_)
      refine X_aload dX5_next_20 rfl ?_
      refine X_getR dX5_next_21 rfl gf_X5_22 sh_88 (by decide) rfl rf_88_7 ?_
      refine X_iloadW dX5_next_24 rfl ?_
      refine X_iald dX5_next_26 sh_93 (Or.inl (by decide)) (by omega) ?_
      rw [Int.toNat_natCast, hW k (by omega)]
      refine X_iconst dX5_next_27 ?_
      have hz := dz_iff (hy k (by omega))
      refine X_icmp_ne (tgt := 67) dX5_next_28 (by decide) (by omega) (fun c_28 => ?_) (fun c_28 => ?_)
      · refine X_iconst dX5_next_67 ?_
        refine X_istoreW dX5_next_68 (by decide) ?_
        dsimp only [List.set]
        refine X_iload dX5_next_70 rfl ?_
        refine X_bipush dX5_next_71 (by decide) ?_
        refine X_icmp_ne (tgt := 80) dX5_next_73 (by decide) (by omega) (fun c_73 => ?_) (fun c_73 => absurd c_73 (by omega))
        refine X_aload dX5_next_80 rfl ?_
        refine X_getR dX5_next_81 rfl gf_X5_7 sh_88 (by decide) rfl rf_88_0 ?_
        refine X_iload dX5_next_84 rfl ?_
        refine X_iloadW dX5_next_85 rfl ?_
        refine Y_pS dX5_next_87 cs_X5_32 (t5_at _ _ _) rfl ?_
        refine X_iconst dX5_next_90 ?_
        refine X_iadd dX5_next_91 ?_
        refine Y_aldB dX5_next_92 hR (by omega) hn24 (k) (2) (by omega) (by omega) (by omega) ?_
        refine X_aload dX5_next_93 rfl ?_
        refine X_getR dX5_next_94 rfl gf_X5_7 sh_88 (by decide) rfl rf_88_0 ?_
        refine X_iload dX5_next_97 rfl ?_
        refine X_iload dX5_next_98 rfl ?_
        refine Y_pS dX5_next_99 cs_X5_32 (t5_at _ _ _) rfl ?_
        refine X_iconst dX5_next_102 ?_
        refine X_iadd dX5_next_103 ?_
        refine Y_aldB dX5_next_104 hR (by omega) hn24 (q) (2) (by omega) (by omega) (by omega) ?_
        refine X_isub dX5_next_105 ?_
        refine X_istoreW dX5_next_106 (by decide) ?_
        dsimp only [List.set]
        refine X_iloadW dX5_next_108 rfl ?_
        refine X_if_eq (tgt := 141) dX5_next_110 (by decide) (by omega) (fun c_110 => ?_) (fun c_110 => ?_)
        · refine X_iload dX5_next_141 rfl ?_
          refine X_istore dX5_next_142 (by decide) ?_
          dsimp only [List.set]
          refine X_iinc dX5_next_143 rfl ?_
          dsimp only [List.set]
          refine X_goto (tgt := 6) dX5_next_146 (by decide) ?_
          refine X_drop 5 ?_
          refine X_drop 6 ?_
          dsimp only [List.set]
          have ih1 := ih (k + 1) (by omega)
          first
            | (exfalso; omega)
            | (rw [nxU2 hr (by omega) (by omega) (by omega)] at ih1; exact ih1)
            | (rw [nxU3 hr (by omega)] at ih1; exact ih1)
            | (rw [nxU4 hr (by omega)] at ih1; exact ih1)
        · refine X_iload dX5_next_113 rfl ?_
          refine X_bipush dX5_next_114 (by decide) ?_
          refine X_icmp_eq (tgt := 136) dX5_next_116 (by decide) (by omega) (fun c_116 => absurd c_116 (by omega)) (fun c_116 => ?_)
          refine X_iload dX5_next_119 rfl ?_
          refine X_if_eq (tgt := 131) dX5_next_120 (by decide) (by omega) (fun c_120 => ?_) (fun c_120 => absurd c_120 (by omega))
          refine X_iloadW dX5_next_131 rfl ?_
          refine X_if_le (tgt := 141) dX5_next_133 (by decide) (by omega) (fun c_133 => ?_) (fun c_133 => ?_)
          · refine X_iload dX5_next_141 rfl ?_
            refine X_istore dX5_next_142 (by decide) ?_
            dsimp only [List.set]
            refine X_iinc dX5_next_143 rfl ?_
            dsimp only [List.set]
            refine X_goto (tgt := 6) dX5_next_146 (by decide) ?_
            refine X_drop 5 ?_
            refine X_drop 6 ?_
            dsimp only [List.set]
            have ih1 := ih (k + 1) (by omega)
            first
              | (exfalso; omega)
              | (rw [nxU2 hr (by omega) (by omega) (by omega)] at ih1; exact ih1)
              | (rw [nxU3 hr (by omega)] at ih1; exact ih1)
              | (rw [nxU4 hr (by omega)] at ih1; exact ih1)
          · refine X_iloadW dX5_next_136 rfl ?_
            refine X_goto (tgt := 142) dX5_next_138 (by decide) ?_
            refine X_istore dX5_next_142 (by decide) ?_
            dsimp only [List.set]
            refine X_iinc dX5_next_143 rfl ?_
            dsimp only [List.set]
            refine X_goto (tgt := 6) dX5_next_146 (by decide) ?_
            refine X_drop 5 ?_
            refine X_drop 6 ?_
            dsimp only [List.set]
            have ih1 := ih (k + 1) (by omega)
            first
              | (exfalso; omega)
              | (rw [nxU2 hr (by omega) (by omega) (by omega)] at ih1; exact ih1)
              | (rw [nxU3 hr (by omega)] at ih1; exact ih1)
              | (rw [nxU4 hr (by omega)] at ih1; exact ih1)
      · refine X_aload dX5_next_31 rfl ?_
        refine X_iload dX5_next_32 rfl ?_
        refine X_iloadW dX5_next_33 rfl ?_
        refine Y_pV dX5_next_35 cv_X5_40 sh_88 (by decide) (t5_wanted hR hp hG rfl k (by omega) rfl) rfl ?_
        refine X_aload dX5_next_38 rfl ?_
        refine X_getR dX5_next_39 rfl gf_X5_7 sh_88 (by decide) rfl rf_88_0 ?_
        refine X_iload dX5_next_42 rfl ?_
        refine X_iloadW dX5_next_43 rfl ?_
        refine Y_pS dX5_next_45 cs_X5_32 (t5_at _ _ _) rfl ?_
        refine X_iconst dX5_next_48 ?_
        refine X_iadd dX5_next_49 ?_
        refine Y_aldB dX5_next_50 hR (by omega) hn24 (k) (3) (by omega) (by omega) (by omega) ?_
        have hw := wt_bounds g k
        have h3 := (hG.b (k := k) (by omega)).2.2.2.1
        have h2 := (hG.b (k := k) (by omega)).2.2.1
        refine X_icmp_le (tgt := 58) dX5_next_51 (by decide) (by omega) (fun c_51 => ?_) (fun c_51 => ?_)
        · refine X_iconst dX5_next_58 ?_
          refine X_iload dX5_next_59 rfl ?_
          refine X_icmp_ne (tgt := 67) dX5_next_60 (by decide) (by omega) (fun c_60 => ?_) (fun c_60 => ?_)
          · refine X_iconst dX5_next_67 ?_
            refine X_istoreW dX5_next_68 (by decide) ?_
            dsimp only [List.set]
            refine X_iload dX5_next_70 rfl ?_
            refine X_bipush dX5_next_71 (by decide) ?_
            refine X_icmp_ne (tgt := 80) dX5_next_73 (by decide) (by omega) (fun c_73 => ?_) (fun c_73 => absurd c_73 (by omega))
            refine X_aload dX5_next_80 rfl ?_
            refine X_getR dX5_next_81 rfl gf_X5_7 sh_88 (by decide) rfl rf_88_0 ?_
            refine X_iload dX5_next_84 rfl ?_
            refine X_iloadW dX5_next_85 rfl ?_
            refine Y_pS dX5_next_87 cs_X5_32 (t5_at _ _ _) rfl ?_
            refine X_iconst dX5_next_90 ?_
            refine X_iadd dX5_next_91 ?_
            refine Y_aldB dX5_next_92 hR (by omega) hn24 (k) (2) (by omega) (by omega) (by omega) ?_
            refine X_aload dX5_next_93 rfl ?_
            refine X_getR dX5_next_94 rfl gf_X5_7 sh_88 (by decide) rfl rf_88_0 ?_
            refine X_iload dX5_next_97 rfl ?_
            refine X_iload dX5_next_98 rfl ?_
            refine Y_pS dX5_next_99 cs_X5_32 (t5_at _ _ _) rfl ?_
            refine X_iconst dX5_next_102 ?_
            refine X_iadd dX5_next_103 ?_
            refine Y_aldB dX5_next_104 hR (by omega) hn24 (q) (2) (by omega) (by omega) (by omega) ?_
            refine X_isub dX5_next_105 ?_
            refine X_istoreW dX5_next_106 (by decide) ?_
            dsimp only [List.set]
            refine X_iloadW dX5_next_108 rfl ?_
            refine X_if_eq (tgt := 141) dX5_next_110 (by decide) (by omega) (fun c_110 => ?_) (fun c_110 => ?_)
            · refine X_iload dX5_next_141 rfl ?_
              refine X_istore dX5_next_142 (by decide) ?_
              dsimp only [List.set]
              refine X_iinc dX5_next_143 rfl ?_
              dsimp only [List.set]
              refine X_goto (tgt := 6) dX5_next_146 (by decide) ?_
              refine X_drop 5 ?_
              refine X_drop 6 ?_
              dsimp only [List.set]
              have ih1 := ih (k + 1) (by omega)
              first
                | (exfalso; omega)
                | (rw [nxU2 hr (by omega) (by omega) (by omega)] at ih1; exact ih1)
                | (rw [nxU3 hr (by omega)] at ih1; exact ih1)
                | (rw [nxU4 hr (by omega)] at ih1; exact ih1)
            · refine X_iload dX5_next_113 rfl ?_
              refine X_bipush dX5_next_114 (by decide) ?_
              refine X_icmp_eq (tgt := 136) dX5_next_116 (by decide) (by omega) (fun c_116 => absurd c_116 (by omega)) (fun c_116 => ?_)
              refine X_iload dX5_next_119 rfl ?_
              refine X_if_eq (tgt := 131) dX5_next_120 (by decide) (by omega) (fun c_120 => ?_) (fun c_120 => absurd c_120 (by omega))
              refine X_iloadW dX5_next_131 rfl ?_
              refine X_if_le (tgt := 141) dX5_next_133 (by decide) (by omega) (fun c_133 => ?_) (fun c_133 => ?_)
              · refine X_iload dX5_next_141 rfl ?_
                refine X_istore dX5_next_142 (by decide) ?_
                dsimp only [List.set]
                refine X_iinc dX5_next_143 rfl ?_
                dsimp only [List.set]
                refine X_goto (tgt := 6) dX5_next_146 (by decide) ?_
                refine X_drop 5 ?_
                refine X_drop 6 ?_
                dsimp only [List.set]
                have ih1 := ih (k + 1) (by omega)
                first
                  | (exfalso; omega)
                  | (rw [nxU2 hr (by omega) (by omega) (by omega)] at ih1; exact ih1)
                  | (rw [nxU3 hr (by omega)] at ih1; exact ih1)
                  | (rw [nxU4 hr (by omega)] at ih1; exact ih1)
              · refine X_iloadW dX5_next_136 rfl ?_
                refine X_goto (tgt := 142) dX5_next_138 (by decide) ?_
                refine X_istore dX5_next_142 (by decide) ?_
                dsimp only [List.set]
                refine X_iinc dX5_next_143 rfl ?_
                dsimp only [List.set]
                refine X_goto (tgt := 6) dX5_next_146 (by decide) ?_
                refine X_drop 5 ?_
                refine X_drop 6 ?_
                dsimp only [List.set]
                have ih1 := ih (k + 1) (by omega)
                first
                  | (exfalso; omega)
                  | (rw [nxU2 hr (by omega) (by omega) (by omega)] at ih1; exact ih1)
                  | (rw [nxU3 hr (by omega)] at ih1; exact ih1)
                  | (rw [nxU4 hr (by omega)] at ih1; exact ih1)
          · refine X_iconst dX5_next_63 ?_
            refine X_goto (tgt := 68) dX5_next_64 (by decide) ?_
            refine X_istoreW dX5_next_68 (by decide) ?_
            dsimp only [List.set]
            refine X_iload dX5_next_70 rfl ?_
            refine X_bipush dX5_next_71 (by decide) ?_
            refine X_icmp_ne (tgt := 80) dX5_next_73 (by decide) (by omega) (fun c_73 => ?_) (fun c_73 => absurd c_73 (by omega))
            refine X_aload dX5_next_80 rfl ?_
            refine X_getR dX5_next_81 rfl gf_X5_7 sh_88 (by decide) rfl rf_88_0 ?_
            refine X_iload dX5_next_84 rfl ?_
            refine X_iloadW dX5_next_85 rfl ?_
            refine Y_pS dX5_next_87 cs_X5_32 (t5_at _ _ _) rfl ?_
            refine X_iconst dX5_next_90 ?_
            refine X_iadd dX5_next_91 ?_
            refine Y_aldB dX5_next_92 hR (by omega) hn24 (k) (2) (by omega) (by omega) (by omega) ?_
            refine X_aload dX5_next_93 rfl ?_
            refine X_getR dX5_next_94 rfl gf_X5_7 sh_88 (by decide) rfl rf_88_0 ?_
            refine X_iload dX5_next_97 rfl ?_
            refine X_iload dX5_next_98 rfl ?_
            refine Y_pS dX5_next_99 cs_X5_32 (t5_at _ _ _) rfl ?_
            refine X_iconst dX5_next_102 ?_
            refine X_iadd dX5_next_103 ?_
            refine Y_aldB dX5_next_104 hR (by omega) hn24 (q) (2) (by omega) (by omega) (by omega) ?_
            refine X_isub dX5_next_105 ?_
            refine X_istoreW dX5_next_106 (by decide) ?_
            dsimp only [List.set]
            refine X_iloadW dX5_next_108 rfl ?_
            refine X_if_eq (tgt := 141) dX5_next_110 (by decide) (by omega) (fun c_110 => ?_) (fun c_110 => ?_)
            · refine X_iload dX5_next_141 rfl ?_
              refine X_istore dX5_next_142 (by decide) ?_
              dsimp only [List.set]
              refine X_iinc dX5_next_143 rfl ?_
              dsimp only [List.set]
              refine X_goto (tgt := 6) dX5_next_146 (by decide) ?_
              refine X_drop 5 ?_
              refine X_drop 6 ?_
              dsimp only [List.set]
              have ih1 := ih (k + 1) (by omega)
              first
                | (exfalso; omega)
                | (rw [nxU2 hr (by omega) (by omega) (by omega)] at ih1; exact ih1)
                | (rw [nxU3 hr (by omega)] at ih1; exact ih1)
                | (rw [nxU4 hr (by omega)] at ih1; exact ih1)
            · refine X_iload dX5_next_113 rfl ?_
              refine X_bipush dX5_next_114 (by decide) ?_
              refine X_icmp_eq (tgt := 136) dX5_next_116 (by decide) (by omega) (fun c_116 => absurd c_116 (by omega)) (fun c_116 => ?_)
              refine X_iload dX5_next_119 rfl ?_
              refine X_if_eq (tgt := 131) dX5_next_120 (by decide) (by omega) (fun c_120 => ?_) (fun c_120 => absurd c_120 (by omega))
              refine X_iloadW dX5_next_131 rfl ?_
              refine X_if_le (tgt := 141) dX5_next_133 (by decide) (by omega) (fun c_133 => ?_) (fun c_133 => ?_)
              · refine X_iload dX5_next_141 rfl ?_
                refine X_istore dX5_next_142 (by decide) ?_
                dsimp only [List.set]
                refine X_iinc dX5_next_143 rfl ?_
                dsimp only [List.set]
                refine X_goto (tgt := 6) dX5_next_146 (by decide) ?_
                refine X_drop 5 ?_
                refine X_drop 6 ?_
                dsimp only [List.set]
                have ih1 := ih (k + 1) (by omega)
                first
                  | (exfalso; omega)
                  | (rw [nxU2 hr (by omega) (by omega) (by omega)] at ih1; exact ih1)
                  | (rw [nxU3 hr (by omega)] at ih1; exact ih1)
                  | (rw [nxU4 hr (by omega)] at ih1; exact ih1)
              · refine X_iloadW dX5_next_136 rfl ?_
                refine X_goto (tgt := 142) dX5_next_138 (by decide) ?_
                refine X_istore dX5_next_142 (by decide) ?_
                dsimp only [List.set]
                refine X_iinc dX5_next_143 rfl ?_
                dsimp only [List.set]
                refine X_goto (tgt := 6) dX5_next_146 (by decide) ?_
                refine X_drop 5 ?_
                refine X_drop 6 ?_
                dsimp only [List.set]
                have ih1 := ih (k + 1) (by omega)
                first
                  | (exfalso; omega)
                  | (rw [nxU2 hr (by omega) (by omega) (by omega)] at ih1; exact ih1)
                  | (rw [nxU3 hr (by omega)] at ih1; exact ih1)
                  | (rw [nxU4 hr (by omega)] at ih1; exact ih1)
        · refine X_iconst dX5_next_54 ?_
          refine X_goto (tgt := 59) dX5_next_55 (by decide) ?_
          refine X_iload dX5_next_59 rfl ?_
          refine X_icmp_ne (tgt := 67) dX5_next_60 (by decide) (by omega) (fun c_60 => ?_) (fun c_60 => ?_)
          · refine X_iconst dX5_next_67 ?_
            refine X_istoreW dX5_next_68 (by decide) ?_
            dsimp only [List.set]
            refine X_iload dX5_next_70 rfl ?_
            refine X_bipush dX5_next_71 (by decide) ?_
            refine X_icmp_ne (tgt := 80) dX5_next_73 (by decide) (by omega) (fun c_73 => ?_) (fun c_73 => absurd c_73 (by omega))
            refine X_aload dX5_next_80 rfl ?_
            refine X_getR dX5_next_81 rfl gf_X5_7 sh_88 (by decide) rfl rf_88_0 ?_
            refine X_iload dX5_next_84 rfl ?_
            refine X_iloadW dX5_next_85 rfl ?_
            refine Y_pS dX5_next_87 cs_X5_32 (t5_at _ _ _) rfl ?_
            refine X_iconst dX5_next_90 ?_
            refine X_iadd dX5_next_91 ?_
            refine Y_aldB dX5_next_92 hR (by omega) hn24 (k) (2) (by omega) (by omega) (by omega) ?_
            refine X_aload dX5_next_93 rfl ?_
            refine X_getR dX5_next_94 rfl gf_X5_7 sh_88 (by decide) rfl rf_88_0 ?_
            refine X_iload dX5_next_97 rfl ?_
            refine X_iload dX5_next_98 rfl ?_
            refine Y_pS dX5_next_99 cs_X5_32 (t5_at _ _ _) rfl ?_
            refine X_iconst dX5_next_102 ?_
            refine X_iadd dX5_next_103 ?_
            refine Y_aldB dX5_next_104 hR (by omega) hn24 (q) (2) (by omega) (by omega) (by omega) ?_
            refine X_isub dX5_next_105 ?_
            refine X_istoreW dX5_next_106 (by decide) ?_
            dsimp only [List.set]
            refine X_iloadW dX5_next_108 rfl ?_
            refine X_if_eq (tgt := 141) dX5_next_110 (by decide) (by omega) (fun c_110 => ?_) (fun c_110 => ?_)
            · refine X_iload dX5_next_141 rfl ?_
              refine X_istore dX5_next_142 (by decide) ?_
              dsimp only [List.set]
              refine X_iinc dX5_next_143 rfl ?_
              dsimp only [List.set]
              refine X_goto (tgt := 6) dX5_next_146 (by decide) ?_
              refine X_drop 5 ?_
              refine X_drop 6 ?_
              dsimp only [List.set]
              have ih1 := ih (k + 1) (by omega)
              first
                | (exfalso; omega)
                | (rw [nxU2 hr (by omega) (by omega) (by omega)] at ih1; exact ih1)
                | (rw [nxU3 hr (by omega)] at ih1; exact ih1)
                | (rw [nxU4 hr (by omega)] at ih1; exact ih1)
            · refine X_iload dX5_next_113 rfl ?_
              refine X_bipush dX5_next_114 (by decide) ?_
              refine X_icmp_eq (tgt := 136) dX5_next_116 (by decide) (by omega) (fun c_116 => absurd c_116 (by omega)) (fun c_116 => ?_)
              refine X_iload dX5_next_119 rfl ?_
              refine X_if_eq (tgt := 131) dX5_next_120 (by decide) (by omega) (fun c_120 => ?_) (fun c_120 => absurd c_120 (by omega))
              refine X_iloadW dX5_next_131 rfl ?_
              refine X_if_le (tgt := 141) dX5_next_133 (by decide) (by omega) (fun c_133 => ?_) (fun c_133 => ?_)
              · refine X_iload dX5_next_141 rfl ?_
                refine X_istore dX5_next_142 (by decide) ?_
                dsimp only [List.set]
                refine X_iinc dX5_next_143 rfl ?_
                dsimp only [List.set]
                refine X_goto (tgt := 6) dX5_next_146 (by decide) ?_
                refine X_drop 5 ?_
                refine X_drop 6 ?_
                dsimp only [List.set]
                have ih1 := ih (k + 1) (by omega)
                first
                  | (exfalso; omega)
                  | (rw [nxU2 hr (by omega) (by omega) (by omega)] at ih1; exact ih1)
                  | (rw [nxU3 hr (by omega)] at ih1; exact ih1)
                  | (rw [nxU4 hr (by omega)] at ih1; exact ih1)
              · refine X_iloadW dX5_next_136 rfl ?_
                refine X_goto (tgt := 142) dX5_next_138 (by decide) ?_
                refine X_istore dX5_next_142 (by decide) ?_
                dsimp only [List.set]
                refine X_iinc dX5_next_143 rfl ?_
                dsimp only [List.set]
                refine X_goto (tgt := 6) dX5_next_146 (by decide) ?_
                refine X_drop 5 ?_
                refine X_drop 6 ?_
                dsimp only [List.set]
                have ih1 := ih (k + 1) (by omega)
                first
                  | (exfalso; omega)
                  | (rw [nxU2 hr (by omega) (by omega) (by omega)] at ih1; exact ih1)
                  | (rw [nxU3 hr (by omega)] at ih1; exact ih1)
                  | (rw [nxU4 hr (by omega)] at ih1; exact ih1)
          · refine X_iconst dX5_next_63 ?_
            refine X_goto (tgt := 68) dX5_next_64 (by decide) ?_
            refine X_istoreW dX5_next_68 (by decide) ?_
            dsimp only [List.set]
            refine X_iload dX5_next_70 rfl ?_
            refine X_bipush dX5_next_71 (by decide) ?_
            refine X_icmp_ne (tgt := 80) dX5_next_73 (by decide) (by omega) (fun c_73 => ?_) (fun c_73 => absurd c_73 (by omega))
            refine X_aload dX5_next_80 rfl ?_
            refine X_getR dX5_next_81 rfl gf_X5_7 sh_88 (by decide) rfl rf_88_0 ?_
            refine X_iload dX5_next_84 rfl ?_
            refine X_iloadW dX5_next_85 rfl ?_
            refine Y_pS dX5_next_87 cs_X5_32 (t5_at _ _ _) rfl ?_
            refine X_iconst dX5_next_90 ?_
            refine X_iadd dX5_next_91 ?_
            refine Y_aldB dX5_next_92 hR (by omega) hn24 (k) (2) (by omega) (by omega) (by omega) ?_
            refine X_aload dX5_next_93 rfl ?_
            refine X_getR dX5_next_94 rfl gf_X5_7 sh_88 (by decide) rfl rf_88_0 ?_
            refine X_iload dX5_next_97 rfl ?_
            refine X_iload dX5_next_98 rfl ?_
            refine Y_pS dX5_next_99 cs_X5_32 (t5_at _ _ _) rfl ?_
            refine X_iconst dX5_next_102 ?_
            refine X_iadd dX5_next_103 ?_
            refine Y_aldB dX5_next_104 hR (by omega) hn24 (q) (2) (by omega) (by omega) (by omega) ?_
            refine X_isub dX5_next_105 ?_
            refine X_istoreW dX5_next_106 (by decide) ?_
            dsimp only [List.set]
            refine X_iloadW dX5_next_108 rfl ?_
            refine X_if_eq (tgt := 141) dX5_next_110 (by decide) (by omega) (fun c_110 => ?_) (fun c_110 => ?_)
            · refine X_iload dX5_next_141 rfl ?_
              refine X_istore dX5_next_142 (by decide) ?_
              dsimp only [List.set]
              refine X_iinc dX5_next_143 rfl ?_
              dsimp only [List.set]
              refine X_goto (tgt := 6) dX5_next_146 (by decide) ?_
              refine X_drop 5 ?_
              refine X_drop 6 ?_
              dsimp only [List.set]
              have ih1 := ih (k + 1) (by omega)
              first
                | (exfalso; omega)
                | (rw [nxU2 hr (by omega) (by omega) (by omega)] at ih1; exact ih1)
                | (rw [nxU3 hr (by omega)] at ih1; exact ih1)
                | (rw [nxU4 hr (by omega)] at ih1; exact ih1)
            · refine X_iload dX5_next_113 rfl ?_
              refine X_bipush dX5_next_114 (by decide) ?_
              refine X_icmp_eq (tgt := 136) dX5_next_116 (by decide) (by omega) (fun c_116 => absurd c_116 (by omega)) (fun c_116 => ?_)
              refine X_iload dX5_next_119 rfl ?_
              refine X_if_eq (tgt := 131) dX5_next_120 (by decide) (by omega) (fun c_120 => ?_) (fun c_120 => absurd c_120 (by omega))
              refine X_iloadW dX5_next_131 rfl ?_
              refine X_if_le (tgt := 141) dX5_next_133 (by decide) (by omega) (fun c_133 => ?_) (fun c_133 => ?_)
              · refine X_iload dX5_next_141 rfl ?_
                refine X_istore dX5_next_142 (by decide) ?_
                dsimp only [List.set]
                refine X_iinc dX5_next_143 rfl ?_
                dsimp only [List.set]
                refine X_goto (tgt := 6) dX5_next_146 (by decide) ?_
                refine X_drop 5 ?_
                refine X_drop 6 ?_
                dsimp only [List.set]
                have ih1 := ih (k + 1) (by omega)
                first
                  | (exfalso; omega)
                  | (rw [nxU2 hr (by omega) (by omega) (by omega)] at ih1; exact ih1)
                  | (rw [nxU3 hr (by omega)] at ih1; exact ih1)
                  | (rw [nxU4 hr (by omega)] at ih1; exact ih1)
              · refine X_iloadW dX5_next_136 rfl ?_
                refine X_goto (tgt := 142) dX5_next_138 (by decide) ?_
                refine X_istore dX5_next_142 (by decide) ?_
                dsimp only [List.set]
                refine X_iinc dX5_next_143 rfl ?_
                dsimp only [List.set]
                refine X_goto (tgt := 6) dX5_next_146 (by decide) ?_
                refine X_drop 5 ?_
                refine X_drop 6 ?_
                dsimp only [List.set]
                have ih1 := ih (k + 1) (by omega)
                first
                  | (exfalso; omega)
                  | (rw [nxU2 hr (by omega) (by omega) (by omega)] at ih1; exact ih1)
                  | (rw [nxU3 hr (by omega)] at ih1; exact ih1)
                  | (rw [nxU4 hr (by omega)] at ih1; exact ih1)
set_option maxRecDepth 20000 in
set_option maxHeartbeats 4000000 in
theorem t5_nextU {I : xI} {p : Nat} {g : Nat → Int} {n : Nat} (hR : RR I p g n) (hp : p ≤ 215) (hG : GI g n) {ip : Int} (hip : ip = (p : Int)) {y : Nat → Int} (hW : W5 I y n) (hy : ∀ k, k < n → 0 ≤ y k ∧ y k ≤ 9) : S kX5_next 2 [rr 88, ii ip, ii 0] I (q_p (ii (oi (nxF (wt g) g y false n) (-5))) I) := by
  subst hip
  have hn24 := hG.n24
  have h15 := hG.g15
  refine Sp_intro (by decide +kernel) (Nat.le_of_ble_eq_true rfl) ?_
  show Y kX5_next 2 0 [some (rr 88), some (ii (p : Int)), some (ii 0), none, none, none, none] [] I _
  refine X_bipush dX5_next_0 (by decide) ?_
  refine X_istore dX5_next_2 (by decide) ?_
  dsimp only [List.set]
  refine X_iconst dX5_next_3 ?_
  refine X_istoreW dX5_next_4 (by decide) ?_
  dsimp only [List.set]
  exact t5_nextU_loop hR hp hG hW hy n 0 (by omega)
def iB (b : Bool) : Int := if b = true then 1 else 0
theorem t5_next {I : xI} {p : Nat} {g : Nat → Int} {n : Nat} (hR : RR I p g n) (hp : p ≤ 215) (hG : GI g n) {ip : Int} (hip : ip = (p : Int)) {y : Nat → Int} (hW : W5 I y n) (hy : ∀ k, k < n → 0 ≤ y k ∧ y k ≤ 9) (dn : Bool) {iD : Int} (hD : iD = iB dn) : S kX5_next 2 [rr 88, ii ip, ii iD] I (q_p (ii (oi (nxF (wt g) g y dn n) (-5))) I) := by
  subst hD
  cases dn
  · exact t5_nextU hR hp hG hip hW hy
  · exact t5_nextT hR hp hG hip hW hy
