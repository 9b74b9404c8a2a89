/-! State: settings, copies, a new block, a block less -/
def mx (j : Nat) : Int := [100, 20000, 20000, 24, 30, 50, 200, 200, 200, 50, 50, 50, 50, 50, 50].getD j 0
def alS (g : Nat → Int) (n : Nat) (s : Nat) (v : Int) : Prop := (s = 1 → g 2 ≤ v) ∧ (s = 2 → v ≤ g 1) ∧ (6 ≤ s ∧ s < 9 → onF g n ((s - 6 : Nat) : Int) 1 ≤ v)
def alD (g : Nat → Int) (n : Nat) (s : Nat) (v : Int) : Bool := (decide (s ≠ 1) || decide (g 2 ≤ v)) && (decide (s ≠ 2) || decide (v ≤ g 1)) && (decide (¬ (6 ≤ s ∧ s < 9)) || decide (onF g n ((s - 6 : Nat) : Int) 1 ≤ v))
theorem alD_iff {g : Nat → Int} {n s : Nat} {v : Int} : alD g n s v = true ↔ alS g n s v := by
  unfold alD alS
  simp only [Bool.and_eq_true, Bool.or_eq_true, decide_eq_true_eq]
  constructor
  · rintro ⟨⟨h1, h2⟩, h3⟩
    exact ⟨fun e => h1.resolve_left (fun q => q e), fun e => h2.resolve_left (fun q => q e), fun e => h3.resolve_left (fun q => q e)⟩
  · rintro ⟨h1, h2, h3⟩
    refine ⟨⟨?_, ?_⟩, ?_⟩
    · by_cases e : s = 1
      · exact Or.inr (h1 e)
      · exact Or.inl e
    · by_cases e : s = 2
      · exact Or.inr (h2 e)
      · exact Or.inl e
    · by_cases e : 6 ≤ s ∧ s < 9
      · exact Or.inr (h3 e)
      · exact Or.inl e
set_option maxRecDepth 20000 in
set_option maxHeartbeats 4000000 in
theorem t_allowsSetting {I : xI} {c : Nat} {g : Nat → Int} {n : Nat} (hc : x_st c) (hR : RS I c g n) (hG : GI g n) (s : Nat) (hs : s < 15) {i : Int} (hi : i = (s : Int)) (v : Int) (hv : 0 ≤ v ∧ v ≤ 20000) : S kX3_allowsSetting 1 [rr c, ii i, ii v] I (q_p (ii (if alD g n s v = true then 1 else 0)) I) := by
  have lc := st_lt hc
  have hn24 := hG.n24
  subst hi
  refine Sp_intro (by decide +kernel) (Nat.le_of_ble_eq_true rfl) ?_
  show Y kX3_allowsSetting 1 0 [some (rr c), some (ii (s : Int)), some (ii v)] [] I _
  refine X_iload dX3_allowsSetting_0 rfl ?_
  refine X_iconst dX3_allowsSetting_1 ?_
  refine X_icmp_ne (tgt := 23) dX3_allowsSetting_2 (by decide) (by omega) (fun c_2 => ?_) (fun c_2 => ?_)
  · refine X_iload dX3_allowsSetting_23 rfl ?_
    refine X_iconst dX3_allowsSetting_24 ?_
    refine X_icmp_ne (tgt := 46) dX3_allowsSetting_25 (by decide) (by omega) (fun c_25 => ?_) (fun c_25 => ?_)
    · refine X_iload dX3_allowsSetting_46 rfl ?_
      refine X_bipush dX3_allowsSetting_47 (by decide) ?_
      refine X_icmp_lt (tgt := 79) dX3_allowsSetting_49 (by decide) (by omega) (fun c_49 => ?_) (fun c_49 => ?_)
      · refine X_iconst dX3_allowsSetting_79 ?_
        refine X_iret dX3_allowsSetting_80 (Or.inr ⟨rfl, by omega⟩) ?_
        refine ⟨?_, rfl, rfl, rfl⟩
        first
          | (rw [if_pos (alD_iff.mpr ⟨by omega, by omega, by omega⟩)])
          | (rw [if_neg (fun q => by obtain ⟨q1, q2, q3⟩ := alD_iff.mp q; omega)])
      · refine X_iload dX3_allowsSetting_52 rfl ?_
        refine X_bipush dX3_allowsSetting_53 (by decide) ?_
        refine X_icmp_ge (tgt := 79) dX3_allowsSetting_55 (by decide) (by omega) (fun c_55 => ?_) (fun c_55 => ?_)
        · refine X_iconst dX3_allowsSetting_79 ?_
          refine X_iret dX3_allowsSetting_80 (Or.inr ⟨rfl, by omega⟩) ?_
          refine ⟨?_, rfl, rfl, rfl⟩
          first
            | (rw [if_pos (alD_iff.mpr ⟨by omega, by omega, by omega⟩)])
            | (rw [if_neg (fun q => by obtain ⟨q1, q2, q3⟩ := alD_iff.mp q; omega)])
        · refine X_aload dX3_allowsSetting_58 rfl ?_
          refine X_getR dX3_allowsSetting_59 rfl gf_X3_15 (sh_st hc) (by omega) rfl (rf_st1 hc) ?_
          refine X_iload dX3_allowsSetting_62 rfl ?_
          refine X_bipush dX3_allowsSetting_63 (by decide) ?_
          refine X_isub dX3_allowsSetting_65 ?_
          refine Y_pS dX3_allowsSetting_66 cs_X3_49 (t_tak hc hR (s - 6) (by omega) (by omega)) rfl ?_
          refine X_iload dX3_allowsSetting_69 rfl ?_
          have h3 := on_bounds hG ((s - 6 : Nat) : Int)
          refine X_icmp_gt (tgt := 77) dX3_allowsSetting_70 (by decide) (by omega) (fun c_70 => ?_) (fun c_70 => ?_)
          · refine X_iconst dX3_allowsSetting_77 ?_
            refine X_iret dX3_allowsSetting_78 (Or.inr ⟨rfl, by omega⟩) ?_
            refine ⟨?_, rfl, rfl, rfl⟩
            first
              | (rw [if_pos (alD_iff.mpr ⟨by omega, by omega, by omega⟩)])
              | (rw [if_neg (fun q => by obtain ⟨q1, q2, q3⟩ := alD_iff.mp q; omega)])
          · refine X_iconst dX3_allowsSetting_73 ?_
            refine X_goto (tgt := 78) dX3_allowsSetting_74 (by decide) ?_
            refine X_iret dX3_allowsSetting_78 (Or.inr ⟨rfl, by omega⟩) ?_
            refine ⟨?_, rfl, rfl, rfl⟩
            first
              | (rw [if_pos (alD_iff.mpr ⟨by omega, by omega, by omega⟩)])
              | (rw [if_neg (fun q => by obtain ⟨q1, q2, q3⟩ := alD_iff.mp q; omega)])
    · refine X_iload dX3_allowsSetting_28 rfl ?_
      refine X_aload dX3_allowsSetting_29 rfl ?_
      refine X_getR dX3_allowsSetting_30 rfl gf_X3_9 (sh_st hc) (by omega) rfl (rf_st0 hc) ?_
      refine X_iconst dX3_allowsSetting_33 ?_
      refine Y_pS dX3_allowsSetting_34 cs_X3_49 (t_num hc hR 1 (by decide) rfl) rfl ?_
      have h1 := hG.s1
      refine X_icmp_gt (tgt := 44) dX3_allowsSetting_37 (by decide) (by omega) (fun c_37 => ?_) (fun c_37 => ?_)
      · refine X_iconst dX3_allowsSetting_44 ?_
        refine X_iret dX3_allowsSetting_45 (Or.inr ⟨rfl, by omega⟩) ?_
        refine ⟨?_, rfl, rfl, rfl⟩
        first
          | (rw [if_pos (alD_iff.mpr ⟨by omega, by omega, by omega⟩)])
          | (rw [if_neg (fun q => by obtain ⟨q1, q2, q3⟩ := alD_iff.mp q; omega)])
      · refine X_iconst dX3_allowsSetting_40 ?_
        refine X_goto (tgt := 45) dX3_allowsSetting_41 (by decide) ?_
        refine X_iret dX3_allowsSetting_45 (Or.inr ⟨rfl, by omega⟩) ?_
        refine ⟨?_, rfl, rfl, rfl⟩
        first
          | (rw [if_pos (alD_iff.mpr ⟨by omega, by omega, by omega⟩)])
          | (rw [if_neg (fun q => by obtain ⟨q1, q2, q3⟩ := alD_iff.mp q; omega)])
  · refine X_aload dX3_allowsSetting_5 rfl ?_
    refine X_getR dX3_allowsSetting_6 rfl gf_X3_9 (sh_st hc) (by omega) rfl (rf_st0 hc) ?_
    refine X_iconst dX3_allowsSetting_9 ?_
    refine Y_pS dX3_allowsSetting_10 cs_X3_49 (t_num hc hR 2 (by decide) rfl) rfl ?_
    refine X_iload dX3_allowsSetting_13 rfl ?_
    have h2 := hG.s2
    refine X_icmp_gt (tgt := 21) dX3_allowsSetting_14 (by decide) (by omega) (fun c_14 => ?_) (fun c_14 => ?_)
    · refine X_iconst dX3_allowsSetting_21 ?_
      refine X_iret dX3_allowsSetting_22 (Or.inr ⟨rfl, by omega⟩) ?_
      refine ⟨?_, rfl, rfl, rfl⟩
      first
        | (rw [if_pos (alD_iff.mpr ⟨by omega, by omega, by omega⟩)])
        | (rw [if_neg (fun q => by obtain ⟨q1, q2, q3⟩ := alD_iff.mp q; omega)])
    · refine X_iconst dX3_allowsSetting_17 ?_
      refine X_goto (tgt := 22) dX3_allowsSetting_18 (by decide) ?_
      refine X_iret dX3_allowsSetting_22 (Or.inr ⟨rfl, by omega⟩) ?_
      refine ⟨?_, rfl, rfl, rfl⟩
      first
        | (rw [if_pos (alD_iff.mpr ⟨by omega, by omega, by omega⟩)])
        | (rw [if_neg (fun q => by obtain ⟨q1, q2, q3⟩ := alD_iff.mp q; omega)])
theorem mx_bounds {j : Nat} (h : j < 15) : 0 ≤ mx j ∧ mx j ≤ 20000 := by
  have : ∀ j, j < 15 → 0 ≤ mx j ∧ mx j ≤ 20000 := by decide
  exact this j h
def csZ (g : Nat → Int) (n : Nat) (s v : Int) : Int := if s < 0 ∨ 15 ≤ s then -1 else if v < 0 ∨ mx s.toNat < v then -2 else if alD g n s.toNat v = true then (if g s.toNat = v then -5 else g s.toNat) else -4
/-- the static rows -/
def ST (I : xI) : Prop := (∀ j, j < 15 → I 101 j = mx j) ∧ (∀ j, j < 15 → I 100 j = [80, 3000, 500, 4, 5, 2, 20, 40, 200, 10, 4, 1, 0, 2, 9].getD j 0)
theorem t_mx {I : xI} (h : ST I) (k : Nat) (hk : k < 15) {i : Int} (hi : i = (k : Int)) : S kX4_at 0 [rr 101, ii i] I (q_p (ii (mx k)) I) := by
  rw [← h.1 k hk]
  exact t_atk sh_101 (Or.inr (Or.inr rfl)) I k hk hi
theorem set_bounds {g : Nat → Int} {n : Nat} (h : GI g n) {s : Nat} (hs : s < 15) : 0 ≤ g s ∧ g s ≤ 20000 := by
  obtain ⟨h1, h2, h3, h4, h5, h6, h7, h8, h9, h10, h11, h12⟩ := h
  by_cases a : s < 6
  · rcases (by omega : s = 0 ∨ s = 1 ∨ s = 2 ∨ s = 3 ∨ s = 4 ∨ s = 5) with q | q | q | q | q | q <;> subst q <;> omega
  · by_cases b : s < 9
    · have := h9 (s - 6) (by omega)
      rw [show 6 + (s - 6) = s by omega] at this
      omega
    · have := h10 (s - 9) (by omega)
      rw [show 9 + (s - 9) = s by omega] at this
      omega
set_option maxRecDepth 20000 in
set_option maxHeartbeats 4000000 in
theorem t_changeSetting {I : xI} {c : Nat} {g : Nat → Int} {n : Nat} (hc : x_st c) (hR : RS I c g n) (hG : GI g n) (hS : ST I) (s : Int) (hs : -2147483648 ≤ s ∧ s ≤ 2147483647) (v : Int) (hv : -2147483648 ≤ v ∧ v ≤ 2147483647) : S kX3_changeSetting 2 [rr c, ii s, ii v] I (q_i (fun z I1 => z = csZ g n s v ∧ FR I I1 c ∧ (0 ≤ z → RS I1 c (gN g s.toNat v) n))) := by
  have lc := st_lt hc
  have hn24 := hG.n24
  have hF : FR I I c := FR.rf
  refine Sp_intro (by decide +kernel) (Nat.le_of_ble_eq_true rfl) ?_
  show Y kX3_changeSetting 2 0 [some (rr c), some (ii s), some (ii v), none] [] I _
  refine X_iload dX3_changeSetting_0 rfl ?_
  refine X_if_lt (tgt := 10) dX3_changeSetting_1 (by decide) (by omega) (fun c_1 => ?_) (fun c_1 => ?_)
  · refine X_iconst dX3_changeSetting_10 ?_
    refine X_iret dX3_changeSetting_11 (Or.inl rfl) ?_
    exact ⟨rfl, rfl, _, rfl, by unfold csZ; rw [if_pos (by omega)], hF, fun h => absurd h (by decide)⟩
  · refine X_iload dX3_changeSetting_4 rfl ?_
    refine X_bipush dX3_changeSetting_5 (by decide) ?_
    refine X_icmp_lt (tgt := 12) dX3_changeSetting_7 (by decide) (by omega) (fun c_7 => ?_) (fun c_7 => ?_)
    · obtain ⟨k, rfl⟩ := Int.eq_ofNat_of_zero_le (show 0 ≤ s by omega)
      have hm := mx_bounds (j := k) (by omega)
      have hgs := set_bounds hG (s := k) (by omega)
      have e1 : (k : Int).toNat = k := rfl
      refine X_iload dX3_changeSetting_12 rfl ?_
      refine X_if_lt (tgt := 27) dX3_changeSetting_13 (by decide) (by omega) (fun c_13 => ?_) (fun c_13 => ?_)
      · refine X_bipush dX3_changeSetting_27 (by decide) ?_
        refine X_iret dX3_changeSetting_29 (Or.inl rfl) ?_
        exact ⟨rfl, rfl, _, rfl, by unfold csZ; rw [e1, if_neg (by omega), if_pos (by omega)], hF, fun h => absurd h (by decide)⟩
      · refine X_iload dX3_changeSetting_16 rfl ?_
        refine X_getsG dX3_changeSetting_17 rfl gs_X3_115 ?_
        refine X_iload dX3_changeSetting_20 rfl ?_
        refine Y_pS dX3_changeSetting_21 cs_X3_49 (t_mx hS k (by omega) rfl) rfl ?_
        refine X_icmp_le (tgt := 30) dX3_changeSetting_24 (by decide) (by omega) (fun c_24 => ?_) (fun c_24 => ?_)
        · refine X_aload dX3_changeSetting_30 rfl ?_
          refine X_iload dX3_changeSetting_31 rfl ?_
          refine X_iload dX3_changeSetting_32 rfl ?_
          refine Y_pV dX3_changeSetting_33 cv_X3_118 (sh_st hc) (by omega) (t_allowsSetting hc hR hG k (by omega) rfl v (by omega)) rfl ?_
          have hb : (if alD g n k v = true then (1 : Int) else 0) = 1 ∨ (if alD g n k v = true then (1 : Int) else 0) = 0 := by split <;> simp
          refine X_if_ne (tgt := 42) dX3_changeSetting_36 (by decide) (by omega) (fun c_36 => ?_) (fun c_36 => ?_)
          · have ha : alD g n k v = true := by
              by_cases q : alD g n k v = true
              · exact q
              · rw [if_neg q] at c_36; omega
            refine X_aload dX3_changeSetting_42 rfl ?_
            refine X_getR dX3_changeSetting_43 rfl gf_X3_9 (sh_st hc) (by omega) rfl (rf_st0 hc) ?_
            refine X_iload dX3_changeSetting_46 rfl ?_
            refine Y_pS dX3_changeSetting_47 cs_X3_49 (t_num hc hR k (by omega) rfl) rfl ?_
            refine X_istore dX3_changeSetting_50 (by decide) ?_
            dsimp only [List.set]
            refine X_iload dX3_changeSetting_51 rfl ?_
            refine X_iload dX3_changeSetting_52 rfl ?_
            refine X_icmp_ne (tgt := 59) dX3_changeSetting_53 (by decide) (by omega) (fun c_53 => ?_) (fun c_53 => ?_)
            · refine X_aload dX3_changeSetting_59 rfl ?_
              refine X_getR dX3_changeSetting_60 rfl gf_X3_9 (sh_st hc) (by omega) rfl (rf_st0 hc) ?_
              refine X_iload dX3_changeSetting_63 rfl ?_
              refine X_iload dX3_changeSetting_64 rfl ?_
              refine Y_vS dX3_changeSetting_65 cs_X3_67 (t_putN hc hR k (by omega) rfl _) rfl (fun I65 hq65 => ?_)
              obtain ⟨hR, hF65⟩ := hq65
              have hF := hF.trans hF65
              refine X_iload dX3_changeSetting_68 rfl ?_
              refine X_iret dX3_changeSetting_69 (Or.inl rfl) ?_
              exact ⟨rfl, rfl, _, rfl, by unfold csZ; rw [e1, if_neg (by omega), if_neg (by omega), if_pos ha, if_neg c_53], hF, fun _ => hR⟩
            · refine X_bipush dX3_changeSetting_56 (by decide) ?_
              refine X_iret dX3_changeSetting_58 (Or.inl rfl) ?_
              exact ⟨rfl, rfl, _, rfl, by unfold csZ; rw [e1, if_neg (by omega), if_neg (by omega), if_pos ha, if_pos c_53], hF, fun h => absurd h (by decide)⟩
          · have ha : ¬ alD g n k v = true := fun q => by rw [if_pos q] at c_36; omega
            refine X_bipush dX3_changeSetting_39 (by decide) ?_
            refine X_iret dX3_changeSetting_41 (Or.inl rfl) ?_
            exact ⟨rfl, rfl, _, rfl, by unfold csZ; rw [e1, if_neg (by omega), if_neg (by omega), if_neg ha], hF, fun h => absurd h (by decide)⟩
        · refine X_bipush dX3_changeSetting_27 (by decide) ?_
          refine X_iret dX3_changeSetting_29 (Or.inl rfl) ?_
          exact ⟨rfl, rfl, _, rfl, by unfold csZ; rw [e1, if_neg (by omega), if_pos (by omega)], hF, fun h => absurd h (by decide)⟩
    · refine X_iconst dX3_changeSetting_10 ?_
      refine X_iret dX3_changeSetting_11 (Or.inl rfl) ?_
      exact ⟨rfl, rfl, _, rfl, by unfold csZ; rw [if_pos (by omega)], hF, fun h => absurd h (by decide)⟩
def rl (m : Nat) : Nat := if m = 0 then 23 else if m = 1 then 3 else 24
/-- the first m rows of a State copied -/
def CPm (I I1 : xI) (c o m : Nat) : Prop := (∀ q, q < m → ∀ j, j < rl q → I1 (c + 1 + q) j = I (o + 1 + q) j) ∧ ∀ q, (q < c + 1 ∨ c + 1 + m ≤ q) → I1 q = I q
theorem CPm.step {I I1 : xI} {c o m : Nat} (h : CPm I I1 c o m) (hd : c + 11 ≤ o ∨ o + 11 ≤ c) (hm : m < 10) {a b : Nat} (ha : a = o + 1 + m) (hb : b = c + 1 + m) {l : Nat} (hl : l = rl m) : CPm I (x_cp I1 a b l) c o (m + 1) := by
  subst ha; subst hb; subst hl
  refine ⟨fun q hq j hj => ?_, fun q hq => ?_⟩
  · unfold x_cp
    by_cases e : q = m
    · subst e
      rw [if_pos ⟨rfl, hj⟩, h.2 _ (by omega)]
    · rw [if_neg (by omega)]
      exact h.1 q (by omega) j hj
  · have e : x_cp I1 (o + 1 + m) (c + 1 + m) (rl m) q = I1 q := by funext j; unfold x_cp; rw [if_neg (by omega)]
    rw [e]; exact h.2 q (by omega)
theorem CPm.rs {I I1 : xI} {c o : Nat} {g : Nat → Int} {n : Nat} (h : CPm I I1 c o 10) (hR : RS I o g n) (hn : n ≤ 24) : RS I1 c g n ∧ FR I I1 c := by
  refine ⟨⟨fun j hj => ?_, fun k hk j hj => ?_, fun s hs => ?_⟩, fun q hq => h.2 q (by omega)⟩
  · exact (h.1 0 (by decide) j hj).trans (hR.1 j hj)
  · have e : I1 (c + 3 + j) k = I (o + 3 + j) k := by
      have := h.1 (j + 2) (by omega) k (by unfold rl; rw [if_neg (by omega), if_neg (by omega)]; omega)
      rw [show c + 1 + (j + 2) = c + 3 + j by omega, show o + 1 + (j + 2) = o + 3 + j by omega] at this
      exact this
    rw [e]; exact hR.2.1 k hk j hj
  · exact (h.1 1 (by decide) s hs).trans (hR.2.2 s hs)
theorem x_st_apart {c o : Nat} (hc : x_st c) (ho : x_st o) (h : c ≠ o) : c + 11 ≤ o ∨ o + 11 ≤ c := by unfold x_st at hc ho; omega
set_option maxRecDepth 20000 in
set_option maxHeartbeats 4000000 in
theorem t_copyFrom {I : xI} {c o : Nat} {g : Nat → Int} {n : Nat} (hc : x_st c) (ho : x_st o) (hne : c ≠ o) (hR : RS I o g n) (hn24 : n ≤ 24) : S kX3_copyFrom 2 [rr c, rr o] I (q_v (fun I1 => RS I1 c g n ∧ FR I I1 c)) := by
  have lc := st_lt hc
  have lo := st_lt ho
  have hd := x_st_apart hc ho hne
  have hm : CPm I I c o 0 := ⟨fun q hq => absurd hq (Nat.not_lt_zero q), fun _ _ => rfl⟩
  refine Sp_intro (by decide +kernel) (Nat.le_of_ble_eq_true rfl) ?_
  show Y kX3_copyFrom 2 0 [some (rr c), some (rr o)] [] I _
  refine X_aload dX3_copyFrom_0 rfl ?_
  refine X_getR dX3_copyFrom_1 rfl gf_X3_9 (sh_st ho) (by omega) rfl (rf_st0 ho) ?_
  refine X_aload dX3_copyFrom_4 rfl ?_
  refine X_getR dX3_copyFrom_5 rfl gf_X3_9 (sh_st hc) (by omega) rfl (rf_st0 hc) ?_
  refine Y_vS dX3_copyFrom_8 cs_X3_45 (t_copyRow (sh_st0 ho) (Or.inl (by omega)) (sh_st0 hc) (by omega) _) rfl (fun I8 e8 => ?_)
  rw [Nat.min_self] at e8
  subst e8
  have hm := hm.step hd (by decide) (a := o + 1) (b := c + 1) (by omega) (by omega) (l := 23) rfl
  refine X_aload dX3_copyFrom_11 rfl ?_
  refine X_getR dX3_copyFrom_12 rfl gf_X3_15 (sh_st ho) (by omega) rfl (rf_st1 ho) ?_
  refine X_aload dX3_copyFrom_15 rfl ?_
  refine X_getR dX3_copyFrom_16 rfl gf_X3_15 (sh_st hc) (by omega) rfl (rf_st1 hc) ?_
  refine Y_vS dX3_copyFrom_19 cs_X3_45 (t_copyRow (sh_st1 ho) (Or.inl (by omega)) (sh_st1 hc) (by omega) _) rfl (fun I19 e19 => ?_)
  rw [Nat.min_self] at e19
  subst e19
  have hm := hm.step hd (by decide) (a := o + 2) (b := c + 2) (by omega) (by omega) (l := 3) rfl
  refine X_aload dX3_copyFrom_22 rfl ?_
  refine X_getR dX3_copyFrom_23 rfl gf_X3_18 (sh_st ho) (by omega) rfl (rf_st2 ho) ?_
  refine X_aload dX3_copyFrom_26 rfl ?_
  refine X_getR dX3_copyFrom_27 rfl gf_X3_18 (sh_st hc) (by omega) rfl (rf_st2 hc) ?_
  refine Y_vS dX3_copyFrom_30 cs_X3_45 (t_copyRow (sh_st2 ho) (Or.inl (by omega)) (sh_st2 hc) (by omega) _) rfl (fun I30 e30 => ?_)
  rw [Nat.min_self] at e30
  subst e30
  have hm := hm.step hd (by decide) (a := o + 3) (b := c + 3) (by omega) (by omega) (l := 24) rfl
  refine X_aload dX3_copyFrom_33 rfl ?_
  refine X_getR dX3_copyFrom_34 rfl gf_X3_21 (sh_st ho) (by omega) rfl (rf_st3 ho) ?_
  refine X_aload dX3_copyFrom_37 rfl ?_
  refine X_getR dX3_copyFrom_38 rfl gf_X3_21 (sh_st hc) (by omega) rfl (rf_st3 hc) ?_
  refine Y_vS dX3_copyFrom_41 cs_X3_45 (t_copyRow (sh_st3 ho) (Or.inl (by omega)) (sh_st3 hc) (by omega) _) rfl (fun I41 e41 => ?_)
  rw [Nat.min_self] at e41
  subst e41
  have hm := hm.step hd (by decide) (a := o + 4) (b := c + 4) (by omega) (by omega) (l := 24) rfl
  refine X_aload dX3_copyFrom_44 rfl ?_
  refine X_getR dX3_copyFrom_45 rfl gf_X3_24 (sh_st ho) (by omega) rfl (rf_st4 ho) ?_
  refine X_aload dX3_copyFrom_48 rfl ?_
  refine X_getR dX3_copyFrom_49 rfl gf_X3_24 (sh_st hc) (by omega) rfl (rf_st4 hc) ?_
  refine Y_vS dX3_copyFrom_52 cs_X3_45 (t_copyRow (sh_st4 ho) (Or.inl (by omega)) (sh_st4 hc) (by omega) _) rfl (fun I52 e52 => ?_)
  rw [Nat.min_self] at e52
  subst e52
  have hm := hm.step hd (by decide) (a := o + 5) (b := c + 5) (by omega) (by omega) (l := 24) rfl
  refine X_aload dX3_copyFrom_55 rfl ?_
  refine X_getR dX3_copyFrom_56 rfl gf_X3_27 (sh_st ho) (by omega) rfl (rf_st5 ho) ?_
  refine X_aload dX3_copyFrom_59 rfl ?_
  refine X_getR dX3_copyFrom_60 rfl gf_X3_27 (sh_st hc) (by omega) rfl (rf_st5 hc) ?_
  refine Y_vS dX3_copyFrom_63 cs_X3_45 (t_copyRow (sh_st5 ho) (Or.inl (by omega)) (sh_st5 hc) (by omega) _) rfl (fun I63 e63 => ?_)
  rw [Nat.min_self] at e63
  subst e63
  have hm := hm.step hd (by decide) (a := o + 6) (b := c + 6) (by omega) (by omega) (l := 24) rfl
  refine X_aload dX3_copyFrom_66 rfl ?_
  refine X_getR dX3_copyFrom_67 rfl gf_X3_30 (sh_st ho) (by omega) rfl (rf_st6 ho) ?_
  refine X_aload dX3_copyFrom_70 rfl ?_
  refine X_getR dX3_copyFrom_71 rfl gf_X3_30 (sh_st hc) (by omega) rfl (rf_st6 hc) ?_
  refine Y_vS dX3_copyFrom_74 cs_X3_45 (t_copyRow (sh_st6 ho) (Or.inl (by omega)) (sh_st6 hc) (by omega) _) rfl (fun I74 e74 => ?_)
  rw [Nat.min_self] at e74
  subst e74
  have hm := hm.step hd (by decide) (a := o + 7) (b := c + 7) (by omega) (by omega) (l := 24) rfl
  refine X_aload dX3_copyFrom_77 rfl ?_
  refine X_getR dX3_copyFrom_78 rfl gf_X3_33 (sh_st ho) (by omega) rfl (rf_st7 ho) ?_
  refine X_aload dX3_copyFrom_81 rfl ?_
  refine X_getR dX3_copyFrom_82 rfl gf_X3_33 (sh_st hc) (by omega) rfl (rf_st7 hc) ?_
  refine Y_vS dX3_copyFrom_85 cs_X3_45 (t_copyRow (sh_st7 ho) (Or.inl (by omega)) (sh_st7 hc) (by omega) _) rfl (fun I85 e85 => ?_)
  rw [Nat.min_self] at e85
  subst e85
  have hm := hm.step hd (by decide) (a := o + 8) (b := c + 8) (by omega) (by omega) (l := 24) rfl
  refine X_aload dX3_copyFrom_88 rfl ?_
  refine X_getR dX3_copyFrom_89 rfl gf_X3_36 (sh_st ho) (by omega) rfl (rf_st8 ho) ?_
  refine X_aload dX3_copyFrom_92 rfl ?_
  refine X_getR dX3_copyFrom_93 rfl gf_X3_36 (sh_st hc) (by omega) rfl (rf_st8 hc) ?_
  refine Y_vS dX3_copyFrom_96 cs_X3_45 (t_copyRow (sh_st8 ho) (Or.inl (by omega)) (sh_st8 hc) (by omega) _) rfl (fun I96 e96 => ?_)
  rw [Nat.min_self] at e96
  subst e96
  have hm := hm.step hd (by decide) (a := o + 9) (b := c + 9) (by omega) (by omega) (l := 24) rfl
  refine X_aload dX3_copyFrom_99 rfl ?_
  refine X_getR dX3_copyFrom_100 rfl gf_X3_39 (sh_st ho) (by omega) rfl (rf_st9 ho) ?_
  refine X_aload dX3_copyFrom_103 rfl ?_
  refine X_getR dX3_copyFrom_104 rfl gf_X3_39 (sh_st hc) (by omega) rfl (rf_st9 hc) ?_
  refine Y_vS dX3_copyFrom_107 cs_X3_45 (t_copyRow (sh_st9 ho) (Or.inl (by omega)) (sh_st9 hc) (by omega) _) rfl (fun I107 e107 => ?_)
  rw [Nat.min_self] at e107
  subst e107
  have hm := hm.step hd (by decide) (a := o + 10) (b := c + 10) (by omega) (by omega) (l := 24) rfl
  refine X_vret dX3_copyFrom_110 rfl ?_
  exact ⟨rfl, rfl, rfl, hm.rs hR hn24⟩
def adG (g : Nat → Int) (n : Nat) (z : Int) (sh : Nat) : Nat → Int := fun i => if i < 23 then (if i = 15 then g 15 + 1 else if i = 16 then g 16 + 1 else g i) else if i < 23 + 8 * n then g i else if i = 23 + 8 * n then g 16 else if i = 24 + 8 * n then z else if i = 25 + 8 * n then 1000 else if i = 26 + 8 * n then (sh : Int) else 0
theorem adG_num {g : Nat → Int} {n : Nat} {z : Int} {sh i : Nat} (hi : i < 23) : adG g n z sh i = if i = 15 then g 15 + 1 else if i = 16 then g 16 + 1 else g i := by unfold adG; rw [if_pos hi]
theorem adG_old {g : Nat → Int} {n : Nat} {z : Int} {sh k j : Nat} (hk : k < n) (hj : j < 8) : gb (adG g n z sh) k j = gb g k j := by
  unfold gb adG; rw [if_neg (by omega), if_pos (by omega)]
theorem adG_new {g : Nat → Int} {n : Nat} {z : Int} {sh j : Nat} (hj : j < 8) : gb (adG g n z sh) n j = if j = 0 then g 16 else if j = 1 then z else if j = 2 then 1000 else if j = 3 then (sh : Int) else 0 := by
  unfold gb adG; rw [if_neg (by omega), if_neg (by omega)]
  rcases (by omega : j = 0 ∨ j = 1 ∨ j = 2 ∨ j = 3 ∨ 3 < j) with q | q | q | q | q
  · subst q; rw [if_pos (by omega), if_pos rfl]
  · subst q; rw [if_neg (by omega), if_pos (by omega), if_neg (by decide), if_pos rfl]
  · subst q; rw [if_neg (by omega), if_neg (by omega), if_pos (by omega), if_neg (by decide), if_neg (by decide), if_pos rfl]
  · subst q; rw [if_neg (by omega), if_neg (by omega), if_neg (by omega), if_pos (by omega), if_neg (by decide), if_neg (by decide), if_neg (by decide), if_pos rfl]
  · rw [if_neg (by omega), if_neg (by omega), if_neg (by omega), if_neg (by omega), if_neg (by omega), if_neg (by omega), if_neg (by omega), if_neg (by omega)]
theorem GI.ad {g : Nat → Int} {n : Nat} {z : Int} {sh : Nat} (h : GI g n) (hn : n < 24) (hz : 1 ≤ z ∧ z ≤ 9) (hs : sh < 3) (h16 : g 16 ≤ 999) : GI (adG g n z sh) (n + 1) := by
  obtain ⟨h1, h2, h3, h4, h5, h6, h7, h8, h9, h10, h11, h12⟩ := h
  have f : ∀ j, j < 23 → j ≠ 15 → j ≠ 16 → adG g n z sh j = g j := fun j a b d => by rw [adG_num a, if_neg b, if_neg d]
  refine ⟨by omega, by rw [adG_num (by decide), if_pos rfl, h2]; omega, by rw [f 0 (by decide) (by decide) (by decide)]; exact h3, by rw [f 1 (by decide) (by decide) (by decide)]; exact h4, by rw [f 2 (by decide) (by decide) (by decide)]; exact h5, by rw [f 3 (by decide) (by decide) (by decide)]; exact h6, by rw [f 4 (by decide) (by decide) (by decide)]; exact h7, by rw [f 5 (by decide) (by decide) (by decide)]; exact h8, fun j hj => by rw [f _ (by omega) (by omega) (by omega)]; exact h9 j hj, fun j hj => by rw [f _ (by omega) (by omega) (by omega)]; exact h10 j hj, by rw [adG_num (by decide), if_neg (by decide), if_pos rfl]; omega, fun k hk => ?_⟩
  by_cases e : k < n
  · rw [adG_old e (by decide), adG_old e (by decide), adG_old e (by decide), adG_old e (by decide), adG_old e (by decide), adG_old e (by decide)]
    exact h12 k e
  · have e2 : k = n := by omega
    subst e2
    have q0 : gb (adG g k z sh) k 0 = g 16 := by rw [adG_new (by decide), if_pos rfl]
    have q1 : gb (adG g k z sh) k 1 = z := by rw [adG_new (by decide)]; rfl
    have q2 : gb (adG g k z sh) k 2 = 1000 := by rw [adG_new (by decide)]; rfl
    have q3 : gb (adG g k z sh) k 3 = sh := by rw [adG_new (by decide)]; rfl
    have q4 : gb (adG g k z sh) k 4 = 0 := by rw [adG_new (by decide)]; rfl
    have q5 : gb (adG g k z sh) k 5 = 0 := by rw [adG_new (by decide)]; rfl
    rw [q0, q1, q2, q3, q4, q5]
    omega
theorem adG_on {g : Nat → Int} {n : Nat} {z : Int} {sh : Nat} (s : Int) : onF (adG g n z sh) (n + 1) s 1 = onF g n s 1 + (if (sh : Int) = s then z else 0) := by
  show onF (adG g n z sh) n s 1 + (if gb (adG g n z sh) n 3 = s then (if (1 : Nat) = 0 then 1 else gb (adG g n z sh) n 1) else 0) = _
  rw [on_congr (g' := g) (by decide) (fun k hk => ⟨adG_old hk (by decide), adG_old hk (by decide)⟩), adG_new (by decide), adG_new (by decide)]
  rfl
def adZ (g : Nat → Int) (n : Nat) (z : Int) : Int := if z < 1 ∨ 9 < z then -2 else match fr g n z with
  | none => -3
  | some _ => if n = 24 ∨ 999 < g 16 then -3 else g 16
theorem fr_lt {g : Nat → Int} {n : Nat} {z : Int} {s : Nat} (h : fr g n z = some s) : s < 3 := by
  unfold fr at h
  split at h
  · cases h; decide
  · split at h
    · cases h; decide
    · split at h
      · cases h; decide
      · cases h
theorem RS.ad {I : xI} {c : Nat} {g : Nat → Int} {n sh : Nat} {z : Int} (h : RS I c g n) (hs : sh < 3) {I1 I2 I3 I4 I5 I6 I7 I8 I9 Ia Ib : xI} (e1 : I1 = x_up I (c + 3) n (g 16)) (e2 : I2 = x_up I1 (c + 4) n z) (e3 : I3 = x_up I2 (c + 5) n 1000) (e4 : I4 = x_up I3 (c + 6) n (sh : Int)) (e5 : I5 = x_up I4 (c + 7) n 0) (e6 : I6 = x_up I5 (c + 8) n 0) (e7 : I7 = x_up I6 (c + 9) n 0) (e8 : I8 = x_up I7 (c + 10) n 0) (e9 : I9 = x_up I8 (c + 2) sh (I8 (c + 2) sh + z)) (ea : Ia = x_up I9 (c + 1) 15 (I9 (c + 1) 15 + 1)) (eb : Ib = x_up Ia (c + 1) 16 (Ia (c + 1) 16 + 1)) : RS Ib c (adG g n z sh) (n + 1) := by
  have a1 : I8 (c + 1) = I (c + 1) := by rw [e8, x_up_ne (by omega), e7, x_up_ne (by omega), e6, x_up_ne (by omega), e5, x_up_ne (by omega), e4, x_up_ne (by omega), e3, x_up_ne (by omega), e2, x_up_ne (by omega), e1, x_up_ne (by omega)]
  have a2 : I8 (c + 2) = I (c + 2) := by rw [e8, x_up_ne (by omega), e7, x_up_ne (by omega), e6, x_up_ne (by omega), e5, x_up_ne (by omega), e4, x_up_ne (by omega), e3, x_up_ne (by omega), e2, x_up_ne (by omega), e1, x_up_ne (by omega)]
  have a3 : ∀ q, q ≠ c + 1 → q ≠ c + 2 → Ib q = I8 q := fun q h1 h2 => by rw [eb, x_up_ne h1, ea, x_up_ne h1, e9, x_up_ne h2]
  have a4 : I9 (c + 1) = I (c + 1) := by rw [e9, x_up_ne (by omega), a1]
  refine ⟨fun i hi => ?_, fun k hk j hj => ?_, fun s hs2 => ?_⟩
  · rw [adG_num hi, eb, x_up_app, ea]
    simp only [x_up_app, true_and]
    rw [a4, h.1 i hi, h.1 15 (by decide), h.1 16 (by decide)]
    by_cases q : i = 15
    · subst q; rfl
    · by_cases q2 : i = 16
      · subst q2; rfl
      · rw [if_neg q2, if_neg q, if_neg q, if_neg q2]
  · rw [a3 _ (by omega) (by omega)]
    by_cases e : k < n
    · rw [adG_old e hj, e8, x_up_offj (by omega), e7, x_up_offj (by omega), e6, x_up_offj (by omega), e5, x_up_offj (by omega), e4, x_up_offj (by omega), e3, x_up_offj (by omega), e2, x_up_offj (by omega), e1, x_up_offj (by omega)]
      exact h.2.1 k e j hj
    · have e0 : k = n := by omega
      subst e0
      rw [adG_new hj, e8, e7, e6, e5, e4, e3, e2, e1]
      match j, hj with
      | 0, _ => simp [x_up]
      | 1, _ => simp [x_up]
      | 2, _ => simp [x_up]
      | 3, _ => simp [x_up]
      | 4, _ => simp [x_up]
      | 5, _ => simp [x_up]
      | 6, _ => simp [x_up]
      | 7, _ => simp [x_up]
      | j + 8, hj => omega
  · rw [adG_on, eb, x_up_ne (by omega), ea, x_up_ne (by omega), e9, x_up_app, a2, h.2.2 s hs2, h.2.2 sh hs]
    by_cases q : s = sh
    · subst q; rw [if_pos ⟨rfl, rfl⟩, if_pos rfl]
    · rw [if_neg (by omega), if_neg (by omega)]; omega
set_option maxRecDepth 20000 in
set_option maxHeartbeats 4000000 in
theorem t_addBlock {I : xI} {c : Nat} {g : Nat → Int} {n : Nat} (hc : x_st c) (hR : RS I c g n) (hG : GI g n) (z : Int) (hz : -2147483648 ≤ z ∧ z ≤ 2147483647) : S kX3_addBlock 2 [rr c, ii z] I (q_i (fun a I1 => a = adZ g n z ∧ FR I I1 c ∧ (∀ s, 0 ≤ adZ g n z → fr g n z = some s → RS I1 c (adG g n z s) (n + 1)))) := by
  have lc := st_lt hc
  have hn24 := hG.n24
  have hF : FR I I c := FR.rf
  have h16 := hG.s16
  refine Sp_intro (by decide +kernel) (Nat.le_of_ble_eq_true rfl) ?_
  show Y kX3_addBlock 2 0 [some (rr c), some (ii z), none, none, none] [] I _
  rcases hf : fr g n z with _ | s
  · refine X_iload dX3_addBlock_0 rfl ?_
    refine X_iconst dX3_addBlock_1 ?_
    refine X_icmp_lt (tgt := 11) dX3_addBlock_2 (by decide) (by omega) (fun c_2 => ?_) (fun c_2 => ?_)
    · refine X_bipush dX3_addBlock_11 (by decide) ?_
      refine X_iret dX3_addBlock_13 (Or.inl rfl) ?_
      exact ⟨rfl, rfl, _, rfl, by unfold adZ; rw [if_pos (by omega)], hF, fun s h => absurd h (by unfold adZ; rw [if_pos (by omega)]; decide)⟩
    · refine X_iload dX3_addBlock_5 rfl ?_
      refine X_bipush dX3_addBlock_6 (by decide) ?_
      refine X_icmp_le (tgt := 14) dX3_addBlock_8 (by decide) (by omega) (fun c_8 => ?_) (fun c_8 => ?_)
      · have hfr := t_fastestWithRoom hc hR hG z (by omega)
        rw [hf] at hfr
        change S _ _ _ _ (q_p (ii (-1)) I) at hfr
        refine X_aload dX3_addBlock_14 rfl ?_
        refine X_iload dX3_addBlock_15 rfl ?_
        refine Y_pV dX3_addBlock_16 cv_X3_64 (sh_st hc) (by omega) hfr rfl ?_
        refine X_istore dX3_addBlock_19 (by decide) ?_
        dsimp only [List.set]
        refine X_aload dX3_addBlock_20 rfl ?_
        refine Y_pV dX3_addBlock_21 cv_X3_53 (sh_st hc) (by omega) (t_countBlocks hc hR hG) rfl ?_
        refine X_istore dX3_addBlock_24 (by decide) ?_
        dsimp only [List.set]
        refine X_aload dX3_addBlock_25 rfl ?_
        refine X_getR dX3_addBlock_26 rfl gf_X3_9 (sh_st hc) (by omega) rfl (rf_st0 hc) ?_
        refine X_bipush dX3_addBlock_29 (by decide) ?_
        refine Y_pS dX3_addBlock_31 cs_X3_49 (t_num hc hR 16 (by decide) rfl) rfl ?_
        refine X_istoreW dX3_addBlock_34 (by decide) ?_
        dsimp only [List.set]
        refine X_iload dX3_addBlock_36 rfl ?_
        refine X_bipush dX3_addBlock_37 (by decide) ?_
        refine X_icmp_ge (tgt := 55) dX3_addBlock_39 (by decide) (by omega) (fun c_39 => ?_) (fun c_39 => ?_)
        · refine X_bipush dX3_addBlock_55 (by decide) ?_
          refine X_iret dX3_addBlock_57 (Or.inl rfl) ?_
          exact ⟨rfl, rfl, _, rfl, by unfold adZ; rw [if_neg (by omega), hf], hF, fun s h => absurd h (by unfold adZ; rw [if_neg (by omega), hf]; show ¬ (0 : Int) ≤ -3; decide)⟩
        · refine X_iload dX3_addBlock_42 rfl ?_
          refine X_iconst dX3_addBlock_43 ?_
          refine X_icmp_eq (tgt := 55) dX3_addBlock_44 (by decide) (by omega) (fun c_44 => ?_) (fun c_44 => absurd c_44 (by omega))
          refine X_bipush dX3_addBlock_55 (by decide) ?_
          refine X_iret dX3_addBlock_57 (Or.inl rfl) ?_
          exact ⟨rfl, rfl, _, rfl, by unfold adZ; rw [if_neg (by omega), hf], hF, fun s h => absurd h (by unfold adZ; rw [if_neg (by omega), hf]; show ¬ (0 : Int) ≤ -3; decide)⟩
      · refine X_bipush dX3_addBlock_11 (by decide) ?_
        refine X_iret dX3_addBlock_13 (Or.inl rfl) ?_
        exact ⟨rfl, rfl, _, rfl, by unfold adZ; rw [if_pos (by omega)], hF, fun s h => absurd h (by unfold adZ; rw [if_pos (by omega)]; decide)⟩
  · have hs3 := fr_lt hf
    refine X_iload dX3_addBlock_0 rfl ?_
    refine X_iconst dX3_addBlock_1 ?_
    refine X_icmp_lt (tgt := 11) dX3_addBlock_2 (by decide) (by omega) (fun c_2 => ?_) (fun c_2 => ?_)
    · refine X_bipush dX3_addBlock_11 (by decide) ?_
      refine X_iret dX3_addBlock_13 (Or.inl rfl) ?_
      exact ⟨rfl, rfl, _, rfl, by unfold adZ; rw [if_pos (by omega)], hF, fun s h => absurd h (by unfold adZ; rw [if_pos (by omega)]; decide)⟩
    · refine X_iload dX3_addBlock_5 rfl ?_
      refine X_bipush dX3_addBlock_6 (by decide) ?_
      refine X_icmp_le (tgt := 14) dX3_addBlock_8 (by decide) (by omega) (fun c_8 => ?_) (fun c_8 => ?_)
      · have hfr := t_fastestWithRoom hc hR hG z (by omega)
        rw [hf] at hfr
        change S _ _ _ _ (q_p (ii ((s : Nat) : Int)) I) at hfr
        refine X_aload dX3_addBlock_14 rfl ?_
        refine X_iload dX3_addBlock_15 rfl ?_
        refine Y_pV dX3_addBlock_16 cv_X3_64 (sh_st hc) (by omega) hfr rfl ?_
        refine X_istore dX3_addBlock_19 (by decide) ?_
        dsimp only [List.set]
        refine X_aload dX3_addBlock_20 rfl ?_
        refine Y_pV dX3_addBlock_21 cv_X3_53 (sh_st hc) (by omega) (t_countBlocks hc hR hG) rfl ?_
        refine X_istore dX3_addBlock_24 (by decide) ?_
        dsimp only [List.set]
        refine X_aload dX3_addBlock_25 rfl ?_
        refine X_getR dX3_addBlock_26 rfl gf_X3_9 (sh_st hc) (by omega) rfl (rf_st0 hc) ?_
        refine X_bipush dX3_addBlock_29 (by decide) ?_
        refine Y_pS dX3_addBlock_31 cs_X3_49 (t_num hc hR 16 (by decide) rfl) rfl ?_
        refine X_istoreW dX3_addBlock_34 (by decide) ?_
        dsimp only [List.set]
        refine X_iload dX3_addBlock_36 rfl ?_
        refine X_bipush dX3_addBlock_37 (by decide) ?_
        refine X_icmp_ge (tgt := 55) dX3_addBlock_39 (by decide) (by omega) (fun c_39 => ?_) (fun c_39 => ?_)
        · refine X_bipush dX3_addBlock_55 (by decide) ?_
          refine X_iret dX3_addBlock_57 (Or.inl rfl) ?_
          exact ⟨rfl, rfl, _, rfl, by unfold adZ; rw [if_neg (by omega), hf]; show _ = if _ then _ else _; rw [if_pos (by omega)], hF, fun s h => absurd h (by unfold adZ; rw [if_neg (by omega), hf]; show ¬ (0 : Int) ≤ if _ then _ else _; rw [if_pos (by omega)]; decide)⟩
        · refine X_iload dX3_addBlock_42 rfl ?_
          refine X_iconst dX3_addBlock_43 ?_
          refine X_icmp_eq (tgt := 55) dX3_addBlock_44 (by decide) (by omega) (fun c_44 => absurd c_44 (by omega)) (fun c_44 => ?_)
          refine X_iloadW dX3_addBlock_47 rfl ?_
          refine X_sipush dX3_addBlock_49 (by decide) ?_
          refine X_icmp_le (tgt := 58) dX3_addBlock_52 (by decide) (by omega) (fun c_52 => ?_) (fun c_52 => ?_)
          · refine X_aload dX3_addBlock_58 rfl ?_
            refine X_getR dX3_addBlock_59 rfl gf_X3_18 (sh_st hc) (by omega) rfl (rf_st2 hc) ?_
            refine X_iload dX3_addBlock_62 rfl ?_
            refine X_iloadW dX3_addBlock_63 rfl ?_
            refine Y_vS dX3_addBlock_65 cs_X3_67 (t_putk (sh_st2 hc) (by omega) _ n (by omega) rfl _) rfl (fun J1 e1 => ?_)
            refine X_aload dX3_addBlock_68 rfl ?_
            refine X_getR dX3_addBlock_69 rfl gf_X3_21 (sh_st hc) (by omega) rfl (rf_st3 hc) ?_
            refine X_iload dX3_addBlock_72 rfl ?_
            refine X_iload dX3_addBlock_73 rfl ?_
            refine Y_vS dX3_addBlock_74 cs_X3_67 (t_putk (sh_st3 hc) (by omega) _ n (by omega) rfl _) rfl (fun J2 e2 => ?_)
            refine X_aload dX3_addBlock_77 rfl ?_
            refine X_getR dX3_addBlock_78 rfl gf_X3_24 (sh_st hc) (by omega) rfl (rf_st4 hc) ?_
            refine X_iload dX3_addBlock_81 rfl ?_
            refine X_sipush dX3_addBlock_82 (by decide) ?_
            refine Y_vS dX3_addBlock_85 cs_X3_67 (t_putk (sh_st4 hc) (by omega) _ n (by omega) rfl _) rfl (fun J3 e3 => ?_)
            refine X_aload dX3_addBlock_88 rfl ?_
            refine X_getR dX3_addBlock_89 rfl gf_X3_27 (sh_st hc) (by omega) rfl (rf_st5 hc) ?_
            refine X_iload dX3_addBlock_92 rfl ?_
            refine X_iload dX3_addBlock_93 rfl ?_
            refine Y_vS dX3_addBlock_94 cs_X3_67 (t_putk (sh_st5 hc) (by omega) _ n (by omega) rfl _) rfl (fun J4 e4 => ?_)
            refine X_aload dX3_addBlock_97 rfl ?_
            refine X_getR dX3_addBlock_98 rfl gf_X3_30 (sh_st hc) (by omega) rfl (rf_st6 hc) ?_
            refine X_iload dX3_addBlock_101 rfl ?_
            refine X_iconst dX3_addBlock_102 ?_
            refine Y_vS dX3_addBlock_103 cs_X3_67 (t_putk (sh_st6 hc) (by omega) _ n (by omega) rfl _) rfl (fun J5 e5 => ?_)
            refine X_aload dX3_addBlock_106 rfl ?_
            refine X_getR dX3_addBlock_107 rfl gf_X3_33 (sh_st hc) (by omega) rfl (rf_st7 hc) ?_
            refine X_iload dX3_addBlock_110 rfl ?_
            refine X_iconst dX3_addBlock_111 ?_
            refine Y_vS dX3_addBlock_112 cs_X3_67 (t_putk (sh_st7 hc) (by omega) _ n (by omega) rfl _) rfl (fun J6 e6 => ?_)
            refine X_aload dX3_addBlock_115 rfl ?_
            refine X_getR dX3_addBlock_116 rfl gf_X3_36 (sh_st hc) (by omega) rfl (rf_st8 hc) ?_
            refine X_iload dX3_addBlock_119 rfl ?_
            refine X_iconst dX3_addBlock_120 ?_
            refine Y_vS dX3_addBlock_121 cs_X3_67 (t_putk (sh_st8 hc) (by omega) _ n (by omega) rfl _) rfl (fun J7 e7 => ?_)
            refine X_aload dX3_addBlock_124 rfl ?_
            refine X_getR dX3_addBlock_125 rfl gf_X3_39 (sh_st hc) (by omega) rfl (rf_st9 hc) ?_
            refine X_iload dX3_addBlock_128 rfl ?_
            refine X_iconst dX3_addBlock_129 ?_
            refine Y_vS dX3_addBlock_130 cs_X3_67 (t_putk (sh_st9 hc) (by omega) _ n (by omega) rfl _) rfl (fun J8 e8 => ?_)
            refine X_aload dX3_addBlock_133 rfl ?_
            refine X_getR dX3_addBlock_134 rfl gf_X3_15 (sh_st hc) (by omega) rfl (rf_st1 hc) ?_
            refine X_iload dX3_addBlock_137 rfl ?_
            refine X_iload dX3_addBlock_138 rfl ?_
            refine Y_vS dX3_addBlock_139 cs_X3_71 (t_raisek (sh_st1 hc) (by omega) _ s (by omega) rfl _) rfl (fun J9 e9 => ?_)
            refine X_aload dX3_addBlock_142 rfl ?_
            refine X_getR dX3_addBlock_143 rfl gf_X3_9 (sh_st hc) (by omega) rfl (rf_st0 hc) ?_
            refine X_bipush dX3_addBlock_146 (by decide) ?_
            refine X_iconst dX3_addBlock_148 ?_
            refine Y_vS dX3_addBlock_149 cs_X3_71 (t_raisek (sh_st0 hc) (by omega) _ 15 (by decide) rfl _) rfl (fun Ja ea => ?_)
            refine X_aload dX3_addBlock_152 rfl ?_
            refine X_getR dX3_addBlock_153 rfl gf_X3_9 (sh_st hc) (by omega) rfl (rf_st0 hc) ?_
            refine X_bipush dX3_addBlock_156 (by decide) ?_
            refine X_iconst dX3_addBlock_158 ?_
            refine Y_vS dX3_addBlock_159 cs_X3_71 (t_raisek (sh_st0 hc) (by omega) _ 16 (by decide) rfl _) rfl (fun Jb eb => ?_)
            refine X_iloadW dX3_addBlock_162 rfl ?_
            refine X_iret dX3_addBlock_164 (Or.inl rfl) ?_
            have hF2 : FR I Jb c := by
              subst e1; subst e2; subst e3; subst e4; subst e5; subst e6; subst e7; subst e8; subst e9; subst ea; subst eb
              exact ((((((((((FR.rf.up (by omega) (by omega)).up (by omega) (by omega)).up (by omega) (by omega)).up (by omega) (by omega)).up (by omega) (by omega)).up (by omega) (by omega)).up (by omega) (by omega)).up (by omega) (by omega)).up (by omega) (by omega)).up (by omega) (by omega)).up (by omega) (by omega)
            refine ⟨rfl, rfl, _, rfl, by unfold adZ; rw [if_neg (by omega), hf]; show _ = if _ then _ else _; rw [if_neg (by omega)], hF2, fun s1 _ h2 => ?_⟩
            cases h2
            exact hR.ad hs3 e1 e2 e3 e4 e5 e6 e7 e8 e9 ea eb
          · refine X_bipush dX3_addBlock_55 (by decide) ?_
            refine X_iret dX3_addBlock_57 (Or.inl rfl) ?_
            exact ⟨rfl, rfl, _, rfl, by unfold adZ; rw [if_neg (by omega), hf]; show _ = if _ then _ else _; rw [if_pos (by omega)], hF, fun s h => absurd h (by unfold adZ; rw [if_neg (by omega), hf]; show ¬ (0 : Int) ≤ if _ then _ else _; rw [if_pos (by omega)]; decide)⟩
      · refine X_bipush dX3_addBlock_11 (by decide) ?_
        refine X_iret dX3_addBlock_13 (Or.inl rfl) ?_
        exact ⟨rfl, rfl, _, rfl, by unfold adZ; rw [if_pos (by omega)], hF, fun s h => absurd h (by unfold adZ; rw [if_pos (by omega)]; decide)⟩
def rmG (g : Nat → Int) (k : Nat) : Nat → Int := fun i => if i < 23 then (if i = 15 then g 15 - 1 else g i) else if i < 23 + 8 * k then g i else g (i + 8)
theorem rmG_num {g : Nat → Int} {k i : Nat} (hi : i < 23) : rmG g k i = if i = 15 then g 15 - 1 else g i := by unfold rmG; rw [if_pos hi]
theorem rmG_lo {g : Nat → Int} {k q j : Nat} (hq : q < k) (hj : j < 8) : gb (rmG g k) q j = gb g q j := by
  unfold gb rmG; rw [if_neg (by omega), if_pos (by omega)]
theorem rmG_hi {g : Nat → Int} {k q j : Nat} (hq : k ≤ q) (hj : j < 8) : gb (rmG g k) q j = gb g (q + 1) j := by
  unfold gb rmG; rw [if_neg (by omega), if_neg (by omega)]; congr 1; omega
theorem sm_rm {f h : Nat → Int} {k : Nat} : ∀ {m : Nat}, k ≤ m → (∀ q, q < k → h q = f q) → (∀ q, k ≤ q → h q = f (q + 1)) → sm h m = sm f (m + 1) - f k
  | 0, hk, _, _ => by
    have : k = 0 := by omega
    subst this
    show (0 : Int) = 0 + f 0 - f 0
    omega
  | m + 1, hk, h1, h2 => by
    show sm h m + h m = sm f (m + 1) + f (m + 1) - f k
    by_cases e : k ≤ m
    · rw [sm_rm e h1 h2, h2 m e]; omega
    · have e2 : k = m + 1 := by omega
      subst e2
      rw [sm_congr (f := h) (h := f) (fun q hq => h1 q (by omega)), h1 m (by omega)]
      show sm f m + f m = sm f m + f m + f (m + 1) - f (m + 1)
      omega
theorem rmG_on {g : Nat → Int} {n k : Nat} (hk : k < n) (s : Int) (w : Nat) (hw : w < 8) : onF (rmG g k) (n - 1) s w = onF g n s w - (if gb g k 3 = s then (if w = 0 then 1 else gb g k w) else 0) := by
  obtain ⟨m, rfl⟩ : ∃ m, n = m + 1 := ⟨n - 1, by omega⟩
  unfold onF
  rw [show m + 1 - 1 = m by omega]
  exact sm_rm (f := fun k => if gb g k 3 = s then (if w = 0 then 1 else gb g k w) else 0) (by omega) (fun q hq => by rw [rmG_lo hq (by decide), rmG_lo hq hw]) (fun q hq => by rw [rmG_hi hq (by decide), rmG_hi hq hw])
theorem GI.rm {g : Nat → Int} {n k : Nat} (h : GI g n) (hk : k < n) : GI (rmG g k) (n - 1) := by
  obtain ⟨h1, h2, h3, h4, h5, h6, h7, h8, h9, h10, h11, h12⟩ := h
  have f : ∀ j, j < 23 → j ≠ 15 → rmG g k j = g j := fun j a b => by rw [rmG_num a, if_neg b]
  refine ⟨by omega, by rw [rmG_num (by decide), if_pos rfl, h2]; omega, by rw [f 0 (by decide) (by decide)]; exact h3, by rw [f 1 (by decide) (by decide)]; exact h4, by rw [f 2 (by decide) (by decide)]; exact h5, by rw [f 3 (by decide) (by decide)]; exact h6, by rw [f 4 (by decide) (by decide)]; exact h7, by rw [f 5 (by decide) (by decide)]; exact h8, fun j hj => by rw [f _ (by omega) (by omega)]; exact h9 j hj, fun j hj => by rw [f _ (by omega) (by omega)]; exact h10 j hj, by rw [f 16 (by decide) (by decide)]; exact h11, fun q hq => ?_⟩
  by_cases e : q < k
  · rw [rmG_lo e (by decide), rmG_lo e (by decide), rmG_lo e (by decide), rmG_lo e (by decide), rmG_lo e (by decide), rmG_lo e (by decide)]
    exact h12 q (by omega)
  · rw [rmG_hi (by omega) (by decide), rmG_hi (by omega) (by decide), rmG_hi (by omega) (by decide), rmG_hi (by omega) (by decide), rmG_hi (by omega) (by decide), rmG_hi (by omega) (by decide)]
    exact h12 (q + 1) (by omega)
def rmZ (g : Nat → Int) (n : Nat) (b : Int) : Int := match pl g n b with
  | none => -1
  | some k => gb g k 3
/-- the rows of attributes from j on, not yet closed; those ahead of j closed -/
def CGm (I I1 : xI) (c k m : Nat) : Prop := (∀ q, q < m → I1 (c + 3 + q) = x_cg I (c + 3 + q) k 23 (c + 3 + q)) ∧ ∀ q, (q < c + 3 ∨ c + 3 + m ≤ q) → I1 q = I q
theorem CGm.step {I I1 : xI} {c k m : Nat} (h : CGm I I1 c k m) {a : Nat} (ha : a = c + 3 + m) : CGm I (x_cg I1 a k 23) c k (m + 1) := by
  subst ha
  refine ⟨fun q hq => ?_, fun q hq => ?_⟩
  · by_cases e : q = m
    · subst e
      funext j
      unfold x_cg
      rw [h.2 (c + 3 + q) (by omega)]
    · have e2 : x_cg I1 (c + 3 + m) k 23 (c + 3 + q) = I1 (c + 3 + q) := by funext j; unfold x_cg; rw [if_neg (by omega)]
      rw [e2]; exact h.1 q (by omega)
  · have e2 : x_cg I1 (c + 3 + m) k 23 q = I1 q := by funext j; unfold x_cg; rw [if_neg (by omega)]
    rw [e2]; exact h.2 q (by omega)
theorem RS.rm {I : xI} {c : Nat} {g : Nat → Int} {n k o : Nat} (h : RS I c g n) (hn : n ≤ 24) (hk : k < n) (ho : gb g k 3 = (o : Int)) (ho3 : o < 3) {I1 I2 I3 : xI} (e1 : I1 = x_up I (c + 2) o (I (c + 2) o + -(gb g k 1))) (e2 : I2 = x_up I1 (c + 1) 15 (I1 (c + 1) 15 + -1)) (h3 : CGm I2 I3 c k 8) : RS I3 c (rmG g k) (n - 1) ∧ FR I I3 c := by
  refine ⟨⟨fun i hi => ?_, fun q hq j hj => ?_, fun s hs => ?_⟩, fun q hq => ?_⟩
  · rw [h3.2 _ (by omega), rmG_num hi, e2, x_up_app, e1, x_up_ne (by omega)]
    simp only [true_and]
    by_cases e : i = 15
    · subst e; rw [if_pos rfl, if_pos rfl, h.1 15 (by decide)]; omega
    · rw [if_neg e, if_neg e]; exact h.1 i hi
  · rw [h3.1 j hj]
    have e3 : I2 (c + 3 + j) = I (c + 3 + j) := by rw [e2, x_up_ne (by omega), e1, x_up_ne (by omega)]
    unfold x_cg
    rw [e3]
    by_cases e : q < k
    · rw [if_neg (by omega), rmG_lo e hj]; exact h.2.1 q (by omega) j hj
    · rw [if_pos (by omega), rmG_hi (by omega) hj]; exact h.2.1 (q + 1) (by omega) j hj
  · rw [h3.2 _ (by omega), rmG_on hk s 1 (by decide), e2, x_up_ne (by omega), e1, x_up_app, ho]
    simp only [true_and]
    by_cases e : s = o
    · subst e; rw [if_pos rfl, if_pos rfl, h.2.2 s hs]; rw [if_neg (by decide)]; omega
    · rw [if_neg e, if_neg (by omega), h.2.2 s hs]; omega
  · rw [h3.2 _ (by omega), e2, x_up_ne (by omega), e1, x_up_ne (by omega)]
set_option maxRecDepth 20000 in
set_option maxHeartbeats 4000000 in
theorem t_dropBlock {I : xI} {c : Nat} {g : Nat → Int} {n : Nat} (hc : x_st c) (hR : RS I c g n) (hG : GI g n) (b : Int) (hb : -2147483648 ≤ b ∧ b ≤ 2147483647) : S kX3_dropBlock 3 [rr c, ii b] I (q_i (fun z I1 => z = rmZ g n b ∧ FR I I1 c ∧ (∀ k, pl g n b = some k → RS I1 c (rmG g k) (n - 1)))) := by
  have lc := st_lt hc
  have hn24 := hG.n24
  have hF : FR I I c := FR.rf
  refine Sp_intro (by decide +kernel) (Nat.le_of_ble_eq_true rfl) ?_
  show Y kX3_dropBlock 3 0 [some (rr c), some (ii b), none, none] [] I _

  rcases hp : pl g n b with _ | k
  · have hfd := t_find hc hR hG b hb
    rw [hp] at hfd
    change S _ _ _ _ (q_p (ii (-1)) I) at hfd
    refine X_aload dX3_dropBlock_0 rfl ?_
    refine X_iload dX3_dropBlock_1 rfl ?_
    refine Y_pV dX3_dropBlock_2 cv_X3_78 (sh_st hc) (by omega) hfd rfl ?_
    refine X_istore dX3_dropBlock_5 (by decide) ?_
    dsimp only [List.set]
    refine X_iload dX3_dropBlock_6 rfl ?_
    refine X_iconst dX3_dropBlock_7 ?_
    refine X_icmp_ne (tgt := 13) dX3_dropBlock_8 (by decide) (by omega) (fun c_8 => absurd c_8 (by omega)) (fun c_8 => ?_)
    refine X_iconst dX3_dropBlock_11 ?_
    refine X_iret dX3_dropBlock_12 (Or.inl rfl) ?_
    exact ⟨rfl, rfl, _, rfl, by unfold rmZ; rw [hp], hF, fun k h => by cases h⟩
  · have hk := pl_lt hp
    have hb3 := (hG.b hk).2.2.2.1
    obtain ⟨o, ho⟩ := Int.eq_ofNat_of_zero_le hb3.1
    have hfd := t_find hc hR hG b hb
    rw [hp] at hfd
    change S _ _ _ _ (q_p (ii ((k : Nat) : Int)) I) at hfd
    refine X_aload dX3_dropBlock_0 rfl ?_
    refine X_iload dX3_dropBlock_1 rfl ?_
    refine Y_pV dX3_dropBlock_2 cv_X3_78 (sh_st hc) (by omega) hfd rfl ?_
    refine X_istore dX3_dropBlock_5 (by decide) ?_
    dsimp only [List.set]
    refine X_iload dX3_dropBlock_6 rfl ?_
    refine X_iconst dX3_dropBlock_7 ?_
    refine X_icmp_ne (tgt := 13) dX3_dropBlock_8 (by decide) (by omega) (fun c_8 => ?_) (fun c_8 => absurd c_8 (by omega))
    refine X_aload dX3_dropBlock_13 rfl ?_
    refine X_getR dX3_dropBlock_14 rfl gf_X3_27 (sh_st hc) (by omega) rfl (rf_st5 hc) ?_
    refine X_iload dX3_dropBlock_17 rfl ?_
    refine Y_pS dX3_dropBlock_18 cs_X3_49 (t_blk3 hc hR hn24 k (by omega) rfl) rfl ?_
    refine X_istore dX3_dropBlock_21 (by decide) ?_
    dsimp only [List.set]
    refine X_aload dX3_dropBlock_22 rfl ?_
    refine X_getR dX3_dropBlock_23 rfl gf_X3_15 (sh_st hc) (by omega) rfl (rf_st1 hc) ?_
    refine X_iload dX3_dropBlock_26 rfl ?_
    refine X_aload dX3_dropBlock_27 rfl ?_
    refine X_getR dX3_dropBlock_28 rfl gf_X3_21 (sh_st hc) (by omega) rfl (rf_st3 hc) ?_
    refine X_iload dX3_dropBlock_31 rfl ?_
    refine Y_pS dX3_dropBlock_32 cs_X3_49 (t_blk1 hc hR hn24 k (by omega) rfl) rfl ?_
    refine X_ineg dX3_dropBlock_35 ?_
    refine Y_vS dX3_dropBlock_36 cs_X3_71 (t_raisek (sh_st1 hc) (by omega) _ o (by omega) ho _) rfl (fun I1 e1 => ?_)
    refine X_aload dX3_dropBlock_39 rfl ?_
    refine X_getR dX3_dropBlock_40 rfl gf_X3_9 (sh_st hc) (by omega) rfl (rf_st0 hc) ?_
    refine X_bipush dX3_dropBlock_43 (by decide) ?_
    refine X_iconst dX3_dropBlock_45 ?_
    refine Y_vS dX3_dropBlock_46 cs_X3_71 (t_raisek (sh_st0 hc) (by omega) _ 15 (by decide) rfl _) rfl (fun I2 e2 => ?_)
    have hm : CGm I2 I2 c k 0 := ⟨fun q hq => absurd hq (Nat.not_lt_zero q), fun _ _ => rfl⟩
    refine X_aload dX3_dropBlock_49 rfl ?_
    refine X_getR dX3_dropBlock_50 rfl gf_X3_18 (sh_st hc) (by omega) rfl (rf_st2 hc) ?_
    refine X_iload dX3_dropBlock_53 rfl ?_
    refine Y_vS dX3_dropBlock_54 cs_X3_81 (t_closeGap (sh_st2 hc) (by omega) _ k (by omega) rfl) rfl (fun I54 q54 => ?_)
    subst q54
    have hm := hm.step (a := c + 3) (by omega)
    refine X_aload dX3_dropBlock_57 rfl ?_
    refine X_getR dX3_dropBlock_58 rfl gf_X3_21 (sh_st hc) (by omega) rfl (rf_st3 hc) ?_
    refine X_iload dX3_dropBlock_61 rfl ?_
    refine Y_vS dX3_dropBlock_62 cs_X3_81 (t_closeGap (sh_st3 hc) (by omega) _ k (by omega) rfl) rfl (fun I62 q62 => ?_)
    subst q62
    have hm := hm.step (a := c + 4) (by omega)
    refine X_aload dX3_dropBlock_65 rfl ?_
    refine X_getR dX3_dropBlock_66 rfl gf_X3_24 (sh_st hc) (by omega) rfl (rf_st4 hc) ?_
    refine X_iload dX3_dropBlock_69 rfl ?_
    refine Y_vS dX3_dropBlock_70 cs_X3_81 (t_closeGap (sh_st4 hc) (by omega) _ k (by omega) rfl) rfl (fun I70 q70 => ?_)
    subst q70
    have hm := hm.step (a := c + 5) (by omega)
    refine X_aload dX3_dropBlock_73 rfl ?_
    refine X_getR dX3_dropBlock_74 rfl gf_X3_27 (sh_st hc) (by omega) rfl (rf_st5 hc) ?_
    refine X_iload dX3_dropBlock_77 rfl ?_
    refine Y_vS dX3_dropBlock_78 cs_X3_81 (t_closeGap (sh_st5 hc) (by omega) _ k (by omega) rfl) rfl (fun I78 q78 => ?_)
    subst q78
    have hm := hm.step (a := c + 6) (by omega)
    refine X_aload dX3_dropBlock_81 rfl ?_
    refine X_getR dX3_dropBlock_82 rfl gf_X3_30 (sh_st hc) (by omega) rfl (rf_st6 hc) ?_
    refine X_iload dX3_dropBlock_85 rfl ?_
    refine Y_vS dX3_dropBlock_86 cs_X3_81 (t_closeGap (sh_st6 hc) (by omega) _ k (by omega) rfl) rfl (fun I86 q86 => ?_)
    subst q86
    have hm := hm.step (a := c + 7) (by omega)
    refine X_aload dX3_dropBlock_89 rfl ?_
    refine X_getR dX3_dropBlock_90 rfl gf_X3_33 (sh_st hc) (by omega) rfl (rf_st7 hc) ?_
    refine X_iload dX3_dropBlock_93 rfl ?_
    refine Y_vS dX3_dropBlock_94 cs_X3_81 (t_closeGap (sh_st7 hc) (by omega) _ k (by omega) rfl) rfl (fun I94 q94 => ?_)
    subst q94
    have hm := hm.step (a := c + 8) (by omega)
    refine X_aload dX3_dropBlock_97 rfl ?_
    refine X_getR dX3_dropBlock_98 rfl gf_X3_36 (sh_st hc) (by omega) rfl (rf_st8 hc) ?_
    refine X_iload dX3_dropBlock_101 rfl ?_
    refine Y_vS dX3_dropBlock_102 cs_X3_81 (t_closeGap (sh_st8 hc) (by omega) _ k (by omega) rfl) rfl (fun I102 q102 => ?_)
    subst q102
    have hm := hm.step (a := c + 9) (by omega)
    refine X_aload dX3_dropBlock_105 rfl ?_
    refine X_getR dX3_dropBlock_106 rfl gf_X3_39 (sh_st hc) (by omega) rfl (rf_st9 hc) ?_
    refine X_iload dX3_dropBlock_109 rfl ?_
    refine Y_vS dX3_dropBlock_110 cs_X3_81 (t_closeGap (sh_st9 hc) (by omega) _ k (by omega) rfl) rfl (fun I110 q110 => ?_)
    subst q110
    have hm := hm.step (a := c + 10) (by omega)
    refine X_iload dX3_dropBlock_113 rfl ?_
    refine X_iret dX3_dropBlock_114 (Or.inl rfl) ?_
    have hfin := hR.rm hn24 hk ho (by omega) e1 e2 hm
    exact ⟨rfl, rfl, _, rfl, by unfold rmZ; rw [hp], hfin.2, fun k1 h => by cases h; exact hfin.1⟩
