/-! State: what it is asked -/
set_option maxRecDepth 20000 in
set_option maxHeartbeats 4000000 in
theorem t_countBlocks {I : xI} {c : Nat} {g : Nat → Int} {n : Nat} (hc : x_st c) (hR : RS I c g n) (hG : GI g n) : S kX3_countBlocks 1 [rr c] I (q_p (ii (n : Int)) I) := by
  have lc := st_lt hc
  have hn24 := hG.n24
  refine Sp_intro (by decide +kernel) (Nat.le_of_ble_eq_true rfl) ?_
  show Y kX3_countBlocks 1 0 [some (rr c)] [] I _
  refine X_aload dX3_countBlocks_0 rfl ?_
  refine X_getR dX3_countBlocks_1 rfl gf_X3_9 (sh_st hc) (by omega) rfl (rf_st0 hc) ?_
  refine X_bipush dX3_countBlocks_4 (by decide) ?_
  refine Y_pS dX3_countBlocks_6 cs_X3_49 (t_num hc hR 15 (by decide) rfl) rfl ?_
  refine X_iret dX3_countBlocks_9 (Or.inl rfl) ?_
  exact ⟨by rw [hG.g15], rfl, rfl, rfl⟩
set_option maxRecDepth 20000 in
set_option maxHeartbeats 4000000 in
theorem t_find_loop {I : xI} {c : Nat} {g : Nat → Int} {n : Nat} (hc : x_st c) (hR : RS I c g n) (hG : GI g n) (b : Int) (hb : -2147483648 ≤ b ∧ b ≤ 2147483647) : ∀ (m k : Nat), k + m = n → Y kX3_find 2 7 [some (rr c), some (ii b), some (ii (n : Int)), some (ii (k : Int))] [] I (q_p (ii (oi (plF g b m k) (-1))) I) := by
  have lc := st_lt hc
  have hn24 := hG.n24
  intro m
  induction m with
  | zero =>
    intro k hk
    refine X_iload dX3_find_7 rfl ?_
    refine X_iload dX3_find_8 rfl ?_
    refine X_icmp_ge (tgt := 32) dX3_find_9 (by decide) (by omega) (fun c_9 => ?_) (fun c_9 => absurd c_9 (by omega))
    refine X_iconst dX3_find_32 ?_
    refine X_iret dX3_find_33 (Or.inl rfl) ?_
    exact ⟨rfl, rfl, rfl, rfl⟩
  | succ m ih =>
    intro k hk
    unfold plF
    refine X_iload dX3_find_7 rfl ?_
    refine X_iload dX3_find_8 rfl ?_
    refine X_icmp_ge (tgt := 32) dX3_find_9 (by decide) (by omega) (fun c_9 => absurd c_9 (by omega)) (fun c_9 => ?_)
    refine X_aload dX3_find_12 rfl ?_
    refine X_getR dX3_find_13 rfl gf_X3_18 (sh_st hc) (by omega) rfl (rf_st2 hc) ?_
    refine X_iload dX3_find_16 rfl ?_
    refine Y_pS dX3_find_17 cs_X3_49 (t_blk0 hc hR hn24 k (by omega) rfl) rfl ?_
    refine X_iload dX3_find_20 rfl ?_
    have hb0 := (hG.b (k := k) (by omega)).1
    refine X_icmp_ne (tgt := 26) dX3_find_21 (by decide) (by omega) (fun c_21 => ?_) (fun c_21 => ?_)
    · rw [if_neg c_21]
      refine X_iinc dX3_find_26 rfl ?_
      dsimp only [List.set]
      refine X_goto (tgt := 7) dX3_find_29 (by decide) ?_
      exact ih (k + 1) (by omega)
    · rw [if_pos c_21]
      refine X_iload dX3_find_24 rfl ?_
      refine X_iret dX3_find_25 (Or.inl rfl) ?_
      exact ⟨rfl, rfl, rfl, rfl⟩
set_option maxRecDepth 20000 in
set_option maxHeartbeats 4000000 in
theorem t_find {I : xI} {c : Nat} {g : Nat → Int} {n : Nat} (hc : x_st c) (hR : RS I c g n) (hG : GI g n) (b : Int) (hb : -2147483648 ≤ b ∧ b ≤ 2147483647) : S kX3_find 2 [rr c, ii b] I (q_p (ii (oi (pl g n b) (-1))) I) := by
  have lc := st_lt hc
  have hn24 := hG.n24
  refine Sp_intro (by decide +kernel) (Nat.le_of_ble_eq_true rfl) ?_
  show Y kX3_find 2 0 [some (rr c), some (ii b), none, none] [] I _
  refine X_aload dX3_find_0 rfl ?_
  refine Y_pV dX3_find_1 cv_X3_53 (sh_st hc) (by omega) (t_countBlocks hc hR hG) rfl ?_
  refine X_istore dX3_find_4 (by decide) ?_
  dsimp only [List.set]
  refine X_iconst dX3_find_5 ?_
  refine X_istore dX3_find_6 (by decide) ?_
  dsimp only [List.set]
  exact t_find_loop hc hR hG b hb n 0 (by omega)
set_option maxRecDepth 20000 in
set_option maxHeartbeats 4000000 in
theorem t_countHotter_loop {I : xI} {c : Nat} {g : Nat → Int} {n : Nat} (hc : x_st c) (hR : RS I c g n) (hG : GI g n) (k : Nat) (hk : k < n) (F : Nat → Int) (hF : F = fun q => if gb g k 2 < gb g q 2 ∨ (gb g q 2 = gb g k 2 ∧ q < k) then 1 else 0) : ∀ (m q : Nat), q + m = n → Y kX3_countHotter 2 20 [some (rr c), some (ii (k : Int)), some (ii (n : Int)), some (ii (gb g k 2)), some (ii (sm F q)), some (ii (q : Int)), none] [] I (q_p (ii (sm F n)) I) := by
  have lc := st_lt hc
  have hn24 := hG.n24
  subst hF
  generalize hF : (fun q => if gb g k 2 < gb g q 2 ∨ (gb g q 2 = gb g k 2 ∧ q < k) then (1 : Int) else 0) = F
  have hF' : ∀ q, F q = if gb g k 2 < gb g q 2 ∨ (gb g q 2 = gb g k 2 ∧ q < k) then (1 : Int) else 0 := fun q => by rw [← hF]
  intro m
  induction m with
  | zero =>
    intro q hq
    refine X_iloadW dX3_countHotter_20 rfl ?_
    refine X_iload dX3_countHotter_22 rfl ?_
    refine X_icmp_ge (tgt := 64) dX3_countHotter_23 (by decide) (by omega) (fun c_23 => ?_) (fun c_23 => absurd c_23 (by omega))
    refine X_iloadW dX3_countHotter_64 rfl ?_
    refine X_iret dX3_countHotter_66 (Or.inl rfl) ?_
    exact ⟨by rw [show n = q by omega], rfl, rfl, rfl⟩
  | succ m ih =>
    intro q hq
    refine X_iloadW dX3_countHotter_20 rfl ?_
    refine X_iload dX3_countHotter_22 rfl ?_
    refine X_icmp_ge (tgt := 64) dX3_countHotter_23 (by decide) (by omega) (fun c_23 => absurd c_23 (by omega)) (fun c_23 => ?_)
    refine X_aload dX3_countHotter_26 rfl ?_
    refine X_getR dX3_countHotter_27 rfl gf_X3_24 (sh_st hc) (by omega) rfl (rf_st4 hc) ?_
    refine X_iloadW dX3_countHotter_30 rfl ?_
    refine Y_pS dX3_countHotter_32 cs_X3_49 (t_blk2 hc hR hn24 q (by omega) rfl) rfl ?_
    refine X_istoreW dX3_countHotter_35 (by decide) ?_
    dsimp only [List.set]
    refine X_iloadW dX3_countHotter_37 rfl ?_
    refine X_iload dX3_countHotter_39 rfl ?_
    have h1 := (hG.b (k := k) hk).2.2.1
    have h2 := (hG.b (k := q) (by omega)).2.2.1
    refine X_icmp_gt (tgt := 55) dX3_countHotter_40 (by decide) (by omega) (fun c_40 => ?_) (fun c_40 => ?_)
    · refine X_iinc dX3_countHotter_55 rfl ?_
      dsimp only [List.set]
      refine X_iinc dX3_countHotter_58 rfl ?_
      dsimp only [List.set]
      refine X_goto (tgt := 20) dX3_countHotter_61 (by decide) ?_
      refine X_drop 6 ?_
      dsimp only [List.set]
      first
        | (have e : sm F (q + 1) = sm F q + 1 := by
             show sm F q + F q = _; rw [hF' q]
             rw [if_pos (by omega)]
           rw [← e]
           exact ih (q + 1) (by omega))
        | (have e : sm F (q + 1) = sm F q := by
             show sm F q + F q = _; rw [hF' q]
             rw [if_neg (by omega)]
             omega
           rw [← e]
           exact ih (q + 1) (by omega))
    · refine X_iloadW dX3_countHotter_43 rfl ?_
      refine X_iload dX3_countHotter_45 rfl ?_
      refine X_icmp_ne (tgt := 58) dX3_countHotter_46 (by decide) (by omega) (fun c_46 => ?_) (fun c_46 => ?_)
      · refine X_iinc dX3_countHotter_58 rfl ?_
        dsimp only [List.set]
        refine X_goto (tgt := 20) dX3_countHotter_61 (by decide) ?_
        refine X_drop 6 ?_
        dsimp only [List.set]
        first
          | (have e : sm F (q + 1) = sm F q + 1 := by
               show sm F q + F q = _; rw [hF' q]
               rw [if_pos (by omega)]
             rw [← e]
             exact ih (q + 1) (by omega))
          | (have e : sm F (q + 1) = sm F q := by
               show sm F q + F q = _; rw [hF' q]
               rw [if_neg (by omega)]
               omega
             rw [← e]
             exact ih (q + 1) (by omega))
      · refine X_iloadW dX3_countHotter_49 rfl ?_
        refine X_iload dX3_countHotter_51 rfl ?_
        refine X_icmp_ge (tgt := 58) dX3_countHotter_52 (by decide) (by omega) (fun c_52 => ?_) (fun c_52 => ?_)
        · refine X_iinc dX3_countHotter_58 rfl ?_
          dsimp only [List.set]
          refine X_goto (tgt := 20) dX3_countHotter_61 (by decide) ?_
          refine X_drop 6 ?_
          dsimp only [List.set]
          first
            | (have e : sm F (q + 1) = sm F q + 1 := by
                 show sm F q + F q = _; rw [hF' q]
                 rw [if_pos (by omega)]
               rw [← e]
               exact ih (q + 1) (by omega))
            | (have e : sm F (q + 1) = sm F q := by
                 show sm F q + F q = _; rw [hF' q]
                 rw [if_neg (by omega)]
                 omega
               rw [← e]
               exact ih (q + 1) (by omega))
        · refine X_iinc dX3_countHotter_55 rfl ?_
          dsimp only [List.set]
          refine X_iinc dX3_countHotter_58 rfl ?_
          dsimp only [List.set]
          refine X_goto (tgt := 20) dX3_countHotter_61 (by decide) ?_
          refine X_drop 6 ?_
          dsimp only [List.set]
          first
            | (have e : sm F (q + 1) = sm F q + 1 := by
                 show sm F q + F q = _; rw [hF' q]
                 rw [if_pos (by omega)]
               rw [← e]
               exact ih (q + 1) (by omega))
            | (have e : sm F (q + 1) = sm F q := by
                 show sm F q + F q = _; rw [hF' q]
                 rw [if_neg (by omega)]
                 omega
               rw [← e]
               exact ih (q + 1) (by omega))
set_option maxRecDepth 20000 in
set_option maxHeartbeats 4000000 in
theorem t_countHotter {I : xI} {c : Nat} {g : Nat → Int} {n : Nat} (hc : x_st c) (hR : RS I c g n) (hG : GI g n) (k : Nat) (hk : k < n) : S kX3_countHotter 2 [rr c, ii (k : Int)] I (q_p (ii (hot g n k)) I) := by
  have lc := st_lt hc
  have hn24 := hG.n24
  refine Sp_intro (by decide +kernel) (Nat.le_of_ble_eq_true rfl) ?_
  show Y kX3_countHotter 2 0 [some (rr c), some (ii (k : Int)), none, none, none, none, none] [] I _
  refine X_aload dX3_countHotter_0 rfl ?_
  refine Y_pV dX3_countHotter_1 cv_X3_53 (sh_st hc) (by omega) (t_countBlocks hc hR hG) rfl ?_
  refine X_istore dX3_countHotter_4 (by decide) ?_
  dsimp only [List.set]
  refine X_aload dX3_countHotter_5 rfl ?_
  refine X_getR dX3_countHotter_6 rfl gf_X3_24 (sh_st hc) (by omega) rfl (rf_st4 hc) ?_
  refine X_iload dX3_countHotter_9 rfl ?_
  refine Y_pS dX3_countHotter_10 cs_X3_49 (t_blk2 hc hR hn24 k (by omega) rfl) rfl ?_
  refine X_istore dX3_countHotter_13 (by decide) ?_
  dsimp only [List.set]
  refine X_iconst dX3_countHotter_14 ?_
  refine X_istoreW dX3_countHotter_15 (by decide) ?_
  dsimp only [List.set]
  refine X_iconst dX3_countHotter_17 ?_
  refine X_istoreW dX3_countHotter_18 (by decide) ?_
  dsimp only [List.set]
  exact X_locals (t_countHotter_loop hc hR hG k hk _ rfl n 0 (by omega)) rfl (fun i a h => h)
set_option maxRecDepth 20000 in
set_option maxHeartbeats 4000000 in
theorem t_placeOfRank_loop {I : xI} {c : Nat} {g : Nat → Int} {n : Nat} (hc : x_st c) (hR : RS I c g n) (hG : GI g n) (b : Int) (hb : -2147483648 ≤ b ∧ b ≤ 2147483647) : ∀ (m k : Nat), k + m = n → Y kX3_placeOfRank 3 7 [some (rr c), some (ii b), some (ii (n : Int)), some (ii (k : Int))] [] I (q_p (ii (oi (rkF g n b m k) (-1))) I) := by
  have lc := st_lt hc
  have hn24 := hG.n24
  intro m
  induction m with
  | zero =>
    intro k hk
    refine X_iload dX3_placeOfRank_7 rfl ?_
    refine X_iload dX3_placeOfRank_8 rfl ?_
    refine X_icmp_ge (tgt := 29) dX3_placeOfRank_9 (by decide) (by omega) (fun c_9 => ?_) (fun c_9 => absurd c_9 (by omega))
    refine X_iconst dX3_placeOfRank_29 ?_
    refine X_iret dX3_placeOfRank_30 (Or.inl rfl) ?_
    exact ⟨rfl, rfl, rfl, rfl⟩
  | succ m ih =>
    intro k hk
    unfold rkF
    refine X_iload dX3_placeOfRank_7 rfl ?_
    refine X_iload dX3_placeOfRank_8 rfl ?_
    refine X_icmp_ge (tgt := 29) dX3_placeOfRank_9 (by decide) (by omega) (fun c_9 => absurd c_9 (by omega)) (fun c_9 => ?_)
    refine X_aload dX3_placeOfRank_12 rfl ?_
    refine X_iload dX3_placeOfRank_13 rfl ?_
    refine Y_pV dX3_placeOfRank_14 cv_X3_57 (sh_st hc) (by omega) (t_countHotter hc hR hG k (by omega)) rfl ?_
    refine X_iload dX3_placeOfRank_17 rfl ?_
    have hb0 := hot_bounds (g := g) hn24 k
    refine X_icmp_ne (tgt := 23) dX3_placeOfRank_18 (by decide) (by omega) (fun c_18 => ?_) (fun c_18 => ?_)
    · rw [if_neg c_18]
      refine X_iinc dX3_placeOfRank_23 rfl ?_
      dsimp only [List.set]
      refine X_goto (tgt := 7) dX3_placeOfRank_26 (by decide) ?_
      exact ih (k + 1) (by omega)
    · rw [if_pos c_18]
      refine X_iload dX3_placeOfRank_21 rfl ?_
      refine X_iret dX3_placeOfRank_22 (Or.inl rfl) ?_
      exact ⟨rfl, rfl, rfl, rfl⟩
set_option maxRecDepth 20000 in
set_option maxHeartbeats 4000000 in
theorem t_placeOfRank {I : xI} {c : Nat} {g : Nat → Int} {n : Nat} (hc : x_st c) (hR : RS I c g n) (hG : GI g n) (b : Int) (hb : -2147483648 ≤ b ∧ b ≤ 2147483647) : S kX3_placeOfRank 3 [rr c, ii b] I (q_p (ii (oi (rk g n b) (-1))) I) := by
  have lc := st_lt hc
  have hn24 := hG.n24
  refine Sp_intro (by decide +kernel) (Nat.le_of_ble_eq_true rfl) ?_
  show Y kX3_placeOfRank 3 0 [some (rr c), some (ii b), none, none] [] I _
  refine X_aload dX3_placeOfRank_0 rfl ?_
  refine Y_pV dX3_placeOfRank_1 cv_X3_53 (sh_st hc) (by omega) (t_countBlocks hc hR hG) rfl ?_
  refine X_istore dX3_placeOfRank_4 (by decide) ?_
  dsimp only [List.set]
  refine X_iconst dX3_placeOfRank_5 ?_
  refine X_istore dX3_placeOfRank_6 (by decide) ?_
  dsimp only [List.set]
  exact t_placeOfRank_loop hc hR hG b hb n 0 (by omega)
set_option maxRecDepth 20000 in
set_option maxHeartbeats 4000000 in
theorem t_wantedShelf {I : xI} {c : Nat} {g : Nat → Int} {n : Nat} (hc : x_st c) (hR : RS I c g n) (hG : GI g n) (k : Nat) (hk : k < n) {i : Int} (hi : i = (k : Int)) : S kX3_wantedShelf 1 [rr c, ii i] I (q_p (ii (wt g k)) I) := by
  have lc := st_lt hc
  have hn24 := hG.n24
  subst hi
  refine Sp_intro (by decide +kernel) (Nat.le_of_ble_eq_true rfl) ?_
  show Y kX3_wantedShelf 1 0 [some (rr c), some (ii (k : Int)), none] [] I _
  refine X_aload dX3_wantedShelf_0 rfl ?_
  refine X_getR dX3_wantedShelf_1 rfl gf_X3_24 (sh_st hc) (by omega) rfl (rf_st4 hc) ?_
  refine X_iload dX3_wantedShelf_4 rfl ?_
  refine Y_pS dX3_wantedShelf_5 cs_X3_49 (t_blk2 hc hR hn24 k (by omega) rfl) rfl ?_
  refine X_istore dX3_wantedShelf_8 (by decide) ?_
  dsimp only [List.set]
  refine X_iload dX3_wantedShelf_9 rfl ?_
  refine X_aload dX3_wantedShelf_10 rfl ?_
  refine X_getR dX3_wantedShelf_11 rfl gf_X3_9 (sh_st hc) (by omega) rfl (rf_st0 hc) ?_
  refine X_iconst dX3_wantedShelf_14 ?_
  refine Y_pS dX3_wantedShelf_15 cs_X3_49 (t_num hc hR 1 (by decide) rfl) rfl ?_
  have h1 := (hG.b (k := k) hk).2.2.1
  have h2 := hG.s1
  have h3 := hG.s2
  refine X_icmp_lt (tgt := 23) dX3_wantedShelf_18 (by decide) (by omega) (fun c_18 => ?_) (fun c_18 => ?_)
  · refine X_iload dX3_wantedShelf_23 rfl ?_
    refine X_aload dX3_wantedShelf_24 rfl ?_
    refine X_getR dX3_wantedShelf_25 rfl gf_X3_9 (sh_st hc) (by omega) rfl (rf_st0 hc) ?_
    refine X_iconst dX3_wantedShelf_28 ?_
    refine Y_pS dX3_wantedShelf_29 cs_X3_49 (t_num hc hR 2 (by decide) rfl) rfl ?_
    refine X_icmp_lt (tgt := 39) dX3_wantedShelf_32 (by decide) (by omega) (fun c_32 => ?_) (fun c_32 => ?_)
    · refine X_iconst dX3_wantedShelf_39 ?_
      refine X_iret dX3_wantedShelf_40 (Or.inl rfl) ?_
      refine ⟨?_, rfl, rfl, rfl⟩
      unfold wt
      first | rw [if_pos (by omega)] | rw [if_neg (by omega), if_pos (by omega)] | rw [if_neg (by omega), if_neg (by omega)]
    · refine X_iconst dX3_wantedShelf_35 ?_
      refine X_goto (tgt := 40) dX3_wantedShelf_36 (by decide) ?_
      refine X_iret dX3_wantedShelf_40 (Or.inl rfl) ?_
      refine ⟨?_, rfl, rfl, rfl⟩
      unfold wt
      first | rw [if_pos (by omega)] | rw [if_neg (by omega), if_pos (by omega)] | rw [if_neg (by omega), if_neg (by omega)]
  · refine X_iconst dX3_wantedShelf_21 ?_
    refine X_iret dX3_wantedShelf_22 (Or.inl rfl) ?_
    refine ⟨?_, rfl, rfl, rfl⟩
    unfold wt
    first | rw [if_pos (by omega)] | rw [if_neg (by omega), if_pos (by omega)] | rw [if_neg (by omega), if_neg (by omega)]
set_option maxRecDepth 20000 in
set_option maxHeartbeats 4000000 in
theorem t_hasRoom {I : xI} {c : Nat} {g : Nat → Int} {n : Nat} (hc : x_st c) (hR : RS I c g n) (hG : GI g n) (sh : Nat) (hsh : sh < 3) {i : Int} (hi : i = (sh : Int)) (z : Int) (hz : 0 ≤ z ∧ z ≤ 1000) : S kX3_hasRoom 0 [rr c, ii i, ii z] I (q_p (ii (if rmB g n sh z then 1 else 0)) I) := by
  have lc := st_lt hc
  have hn24 := hG.n24
  subst hi
  refine Sp_intro (by decide +kernel) (Nat.le_of_ble_eq_true rfl) ?_
  show Y kX3_hasRoom 0 0 [some (rr c), some (ii (sh : Int)), some (ii z)] [] I _
  refine X_iload dX3_hasRoom_0 rfl ?_
  refine X_if_lt (tgt := 33) dX3_hasRoom_1 (by decide) (by omega) (fun c_1 => absurd c_1 (by omega)) (fun c_1 => ?_)
  refine X_iload dX3_hasRoom_4 rfl ?_
  refine X_iconst dX3_hasRoom_5 ?_
  refine X_icmp_ge (tgt := 33) dX3_hasRoom_6 (by decide) (by omega) (fun c_6 => absurd c_6 (by omega)) (fun c_6 => ?_)
  refine X_aload dX3_hasRoom_9 rfl ?_
  refine X_getR dX3_hasRoom_10 rfl gf_X3_15 (sh_st hc) (by omega) rfl (rf_st1 hc) ?_
  refine X_iload dX3_hasRoom_13 rfl ?_
  refine X_iald dX3_hasRoom_14 (sh_st1 hc) (Or.inl (by omega)) (by omega) ?_
  refine X_iload dX3_hasRoom_15 rfl ?_
  refine X_iadd dX3_hasRoom_16 ?_
  refine X_aload dX3_hasRoom_17 rfl ?_
  refine X_getR dX3_hasRoom_18 rfl gf_X3_9 (sh_st hc) (by omega) rfl (rf_st0 hc) ?_
  refine X_bipush dX3_hasRoom_21 (by decide) ?_
  refine X_iload dX3_hasRoom_23 rfl ?_
  refine X_iadd dX3_hasRoom_24 ?_
  refine X_iald dX3_hasRoom_25 (sh_st0 hc) (Or.inl (by omega)) (by omega) ?_
  have e1 : ((6 : Int) + (sh : Int)).toNat = 6 + sh := by omega
  rw [e1, Int.toNat_natCast, hR.2.2 sh hsh, hR.1 (6 + sh) (by omega)]
  have h1 := on_bounds hG sh
  have h2 := hG.s6 hsh
  refine X_icmp_gt (tgt := 33) dX3_hasRoom_26 (by decide) (by omega) (fun c_26 => ?_) (fun c_26 => ?_)
  · refine X_iconst dX3_hasRoom_33 ?_
    refine X_iret dX3_hasRoom_34 (Or.inr ⟨rfl, by omega⟩) ?_
    refine ⟨?_, rfl, rfl, rfl⟩
    unfold rmB
    first | rw [decide_eq_true (by omega)]; rfl | rw [decide_eq_false (by omega)]; rfl
  · refine X_iconst dX3_hasRoom_29 ?_
    refine X_goto (tgt := 34) dX3_hasRoom_30 (by decide) ?_
    refine X_iret dX3_hasRoom_34 (Or.inr ⟨rfl, by omega⟩) ?_
    refine ⟨?_, rfl, rfl, rfl⟩
    unfold rmB
    first | rw [decide_eq_true (by omega)]; rfl | rw [decide_eq_false (by omega)]; rfl
set_option maxRecDepth 20000 in
set_option maxHeartbeats 4000000 in
theorem t_countOnShelf_loop {I : xI} {c : Nat} {g : Nat → Int} {n : Nat} (hc : x_st c) (hR : RS I c g n) (hG : GI g n) (sh : Nat) (hsh : sh < 3) : ∀ (m k : Nat), k + m = n → Y kX3_countOnShelf 2 10 [some (rr c), some (ii (sh : Int)), some (ii (n : Int)), some (ii (onF g k sh 0)), some (ii (k : Int))] [] I (q_p (ii (onF g n sh 0)) I) := by
  have lc := st_lt hc
  have hn24 := hG.n24
  intro m
  induction m with
  | zero =>
    intro k hk
    refine X_iloadW dX3_countOnShelf_10 rfl ?_
    refine X_iload dX3_countOnShelf_12 rfl ?_
    refine X_icmp_ge (tgt := 38) dX3_countOnShelf_13 (by decide) (by omega) (fun c_13 => ?_) (fun c_13 => absurd c_13 (by omega))
    refine X_iload dX3_countOnShelf_38 rfl ?_
    refine X_iret dX3_countOnShelf_39 (Or.inl rfl) ?_
    exact ⟨by rw [show n = k by omega], rfl, rfl, rfl⟩
  | succ m ih =>
    intro k hk
    refine X_iloadW dX3_countOnShelf_10 rfl ?_
    refine X_iload dX3_countOnShelf_12 rfl ?_
    refine X_icmp_ge (tgt := 38) dX3_countOnShelf_13 (by decide) (by omega) (fun c_13 => absurd c_13 (by omega)) (fun c_13 => ?_)
    refine X_aload dX3_countOnShelf_16 rfl ?_
    refine X_getR dX3_countOnShelf_17 rfl gf_X3_27 (sh_st hc) (by omega) rfl (rf_st5 hc) ?_
    refine X_iloadW dX3_countOnShelf_20 rfl ?_
    refine Y_pS dX3_countOnShelf_22 cs_X3_49 (t_blk3 hc hR hn24 k (by omega) rfl) rfl ?_
    refine X_iload dX3_countOnShelf_25 rfl ?_
    have h1 := (hG.b (k := k) (by omega)).2.2.2.1
    refine X_icmp_ne (tgt := 32) dX3_countOnShelf_26 (by decide) (by omega) (fun c_26 => ?_) (fun c_26 => ?_)
    · refine X_iinc dX3_countOnShelf_32 rfl ?_
      dsimp only [List.set]
      refine X_goto (tgt := 10) dX3_countOnShelf_35 (by decide) ?_
      first
        | (have e : onF g (k + 1) sh 0 = onF g k sh 0 + 1 := by
             show onF g k sh 0 + (if gb g k 3 = (sh : Int) then (if 0 = 0 then 1 else gb g k 0) else 0) = _
             rw [if_pos (by omega)]; rfl
           rw [← e]
           exact ih (k + 1) (by omega))
        | (have e : onF g (k + 1) sh 0 = onF g k sh 0 := by
             show onF g k sh 0 + (if gb g k 3 = (sh : Int) then (if 0 = 0 then 1 else gb g k 0) else 0) = _
             rw [if_neg (by omega)]; omega
           rw [← e]
           exact ih (k + 1) (by omega))
    · refine X_iinc dX3_countOnShelf_29 rfl ?_
      dsimp only [List.set]
      refine X_iinc dX3_countOnShelf_32 rfl ?_
      dsimp only [List.set]
      refine X_goto (tgt := 10) dX3_countOnShelf_35 (by decide) ?_
      first
        | (have e : onF g (k + 1) sh 0 = onF g k sh 0 + 1 := by
             show onF g k sh 0 + (if gb g k 3 = (sh : Int) then (if 0 = 0 then 1 else gb g k 0) else 0) = _
             rw [if_pos (by omega)]; rfl
           rw [← e]
           exact ih (k + 1) (by omega))
        | (have e : onF g (k + 1) sh 0 = onF g k sh 0 := by
             show onF g k sh 0 + (if gb g k 3 = (sh : Int) then (if 0 = 0 then 1 else gb g k 0) else 0) = _
             rw [if_neg (by omega)]; omega
           rw [← e]
           exact ih (k + 1) (by omega))
set_option maxRecDepth 20000 in
set_option maxHeartbeats 4000000 in
theorem t_countOnShelf {I : xI} {c : Nat} {g : Nat → Int} {n : Nat} (hc : x_st c) (hR : RS I c g n) (hG : GI g n) (sh : Nat) (hsh : sh < 3) {i : Int} (hi : i = (sh : Int)) : S kX3_countOnShelf 2 [rr c, ii i] I (q_p (ii (onF g n sh 0)) I) := by
  have lc := st_lt hc
  have hn24 := hG.n24
  subst hi
  refine Sp_intro (by decide +kernel) (Nat.le_of_ble_eq_true rfl) ?_
  show Y kX3_countOnShelf 2 0 [some (rr c), some (ii (sh : Int)), none, none, none] [] I _
  refine X_aload dX3_countOnShelf_0 rfl ?_
  refine Y_pV dX3_countOnShelf_1 cv_X3_53 (sh_st hc) (by omega) (t_countBlocks hc hR hG) rfl ?_
  refine X_istore dX3_countOnShelf_4 (by decide) ?_
  dsimp only [List.set]
  refine X_iconst dX3_countOnShelf_5 ?_
  refine X_istore dX3_countOnShelf_6 (by decide) ?_
  dsimp only [List.set]
  refine X_iconst dX3_countOnShelf_7 ?_
  refine X_istoreW dX3_countOnShelf_8 (by decide) ?_
  dsimp only [List.set]
  exact t_countOnShelf_loop hc hR hG sh hsh n 0 (by omega)
set_option maxRecDepth 20000 in
set_option maxHeartbeats 4000000 in
theorem t_heatOnShelf_loop {I : xI} {c : Nat} {g : Nat → Int} {n : Nat} (hc : x_st c) (hR : RS I c g n) (hG : GI g n) (sh : Nat) (hsh : sh < 3) : ∀ (m k : Nat), k + m = n → Y kX3_heatOnShelf 2 10 [some (rr c), some (ii (sh : Int)), some (ii (n : Int)), some (ii (onF g k sh 2)), some (ii (k : Int))] [] I (q_p (ii (onF g n sh 2)) I) := by
  have lc := st_lt hc
  have hn24 := hG.n24
  intro m
  induction m with
  | zero =>
    intro k hk
    refine X_iloadW dX3_heatOnShelf_10 rfl ?_
    refine X_iload dX3_heatOnShelf_12 rfl ?_
    refine X_icmp_ge (tgt := 47) dX3_heatOnShelf_13 (by decide) (by omega) (fun c_13 => ?_) (fun c_13 => absurd c_13 (by omega))
    refine X_iload dX3_heatOnShelf_47 rfl ?_
    refine X_iret dX3_heatOnShelf_48 (Or.inl rfl) ?_
    exact ⟨by rw [show n = k by omega], rfl, rfl, rfl⟩
  | succ m ih =>
    intro k hk
    refine X_iloadW dX3_heatOnShelf_10 rfl ?_
    refine X_iload dX3_heatOnShelf_12 rfl ?_
    refine X_icmp_ge (tgt := 47) dX3_heatOnShelf_13 (by decide) (by omega) (fun c_13 => absurd c_13 (by omega)) (fun c_13 => ?_)
    refine X_aload dX3_heatOnShelf_16 rfl ?_
    refine X_getR dX3_heatOnShelf_17 rfl gf_X3_27 (sh_st hc) (by omega) rfl (rf_st5 hc) ?_
    refine X_iloadW dX3_heatOnShelf_20 rfl ?_
    refine Y_pS dX3_heatOnShelf_22 cs_X3_49 (t_blk3 hc hR hn24 k (by omega) rfl) rfl ?_
    refine X_iload dX3_heatOnShelf_25 rfl ?_
    have h1 := (hG.b (k := k) (by omega)).2.2.2.1
    refine X_icmp_ne (tgt := 41) dX3_heatOnShelf_26 (by decide) (by omega) (fun c_26 => ?_) (fun c_26 => ?_)
    · refine X_iinc dX3_heatOnShelf_41 rfl ?_
      dsimp only [List.set]
      refine X_goto (tgt := 10) dX3_heatOnShelf_44 (by decide) ?_
      first
        | (have e : onF g (k + 1) sh 2 = onF g k sh 2 + gb g k 2 := by
             show onF g k sh 2 + (if gb g k 3 = (sh : Int) then (if 2 = 0 then 1 else gb g k 2) else 0) = _
             rw [if_pos (by omega)]; rfl
           rw [← e]
           exact ih (k + 1) (by omega))
        | (have e : onF g (k + 1) sh 2 = onF g k sh 2 := by
             show onF g k sh 2 + (if gb g k 3 = (sh : Int) then (if 2 = 0 then 1 else gb g k 2) else 0) = _
             rw [if_neg (by omega)]; omega
           rw [← e]
           exact ih (k + 1) (by omega))
    · refine X_iload dX3_heatOnShelf_29 rfl ?_
      refine X_aload dX3_heatOnShelf_30 rfl ?_
      refine X_getR dX3_heatOnShelf_31 rfl gf_X3_24 (sh_st hc) (by omega) rfl (rf_st4 hc) ?_
      refine X_iloadW dX3_heatOnShelf_34 rfl ?_
      refine Y_pS dX3_heatOnShelf_36 cs_X3_49 (t_blk2 hc hR hn24 k (by omega) rfl) rfl ?_
      refine X_iadd dX3_heatOnShelf_39 ?_
      refine X_istore dX3_heatOnShelf_40 (by decide) ?_
      dsimp only [List.set]
      refine X_iinc dX3_heatOnShelf_41 rfl ?_
      dsimp only [List.set]
      refine X_goto (tgt := 10) dX3_heatOnShelf_44 (by decide) ?_
      first
        | (have e : onF g (k + 1) sh 2 = onF g k sh 2 + gb g k 2 := by
             show onF g k sh 2 + (if gb g k 3 = (sh : Int) then (if 2 = 0 then 1 else gb g k 2) else 0) = _
             rw [if_pos (by omega)]; rfl
           rw [← e]
           exact ih (k + 1) (by omega))
        | (have e : onF g (k + 1) sh 2 = onF g k sh 2 := by
             show onF g k sh 2 + (if gb g k 3 = (sh : Int) then (if 2 = 0 then 1 else gb g k 2) else 0) = _
             rw [if_neg (by omega)]; omega
           rw [← e]
           exact ih (k + 1) (by omega))
set_option maxRecDepth 20000 in
set_option maxHeartbeats 4000000 in
theorem t_heatOnShelf {I : xI} {c : Nat} {g : Nat → Int} {n : Nat} (hc : x_st c) (hR : RS I c g n) (hG : GI g n) (sh : Nat) (hsh : sh < 3) {i : Int} (hi : i = (sh : Int)) : S kX3_heatOnShelf 2 [rr c, ii i] I (q_p (ii (onF g n sh 2)) I) := by
  have lc := st_lt hc
  have hn24 := hG.n24
  subst hi
  refine Sp_intro (by decide +kernel) (Nat.le_of_ble_eq_true rfl) ?_
  show Y kX3_heatOnShelf 2 0 [some (rr c), some (ii (sh : Int)), none, none, none] [] I _
  refine X_aload dX3_heatOnShelf_0 rfl ?_
  refine Y_pV dX3_heatOnShelf_1 cv_X3_53 (sh_st hc) (by omega) (t_countBlocks hc hR hG) rfl ?_
  refine X_istore dX3_heatOnShelf_4 (by decide) ?_
  dsimp only [List.set]
  refine X_iconst dX3_heatOnShelf_5 ?_
  refine X_istore dX3_heatOnShelf_6 (by decide) ?_
  dsimp only [List.set]
  refine X_iconst dX3_heatOnShelf_7 ?_
  refine X_istoreW dX3_heatOnShelf_8 (by decide) ?_
  dsimp only [List.set]
  exact t_heatOnShelf_loop hc hR hG sh hsh n 0 (by omega)
def htA (g : Nat → Int) (n : Nat) : Int := onF g n 0 2 + onF g n 1 2 + onF g n 2 2
set_option maxRecDepth 20000 in
set_option maxHeartbeats 4000000 in
theorem t_heatOfAll_loop {I : xI} {c : Nat} {g : Nat → Int} {n : Nat} (hc : x_st c) (hR : RS I c g n) (hG : GI g n) : ∀ (m k : Nat), k + m = 3 → Y kX3_heatOfAll 3 4 [some (rr c), some (ii (sm (fun s => onF g n (s : Int) 2) k)), some (ii (k : Int))] [] I (q_p (ii (htA g n)) I) := by
  have lc := st_lt hc
  have hn24 := hG.n24
  intro m
  induction m with
  | zero =>
    intro k hk
    refine X_iload dX3_heatOfAll_4 rfl ?_
    refine X_iconst dX3_heatOfAll_5 ?_
    refine X_icmp_ge (tgt := 23) dX3_heatOfAll_6 (by decide) (by omega) (fun c_6 => ?_) (fun c_6 => absurd c_6 (by omega))
    refine X_iload dX3_heatOfAll_23 rfl ?_
    refine X_iret dX3_heatOfAll_24 (Or.inl rfl) ?_
    exact ⟨by rw [show k = 3 by omega]; unfold htA; show some (ii (0 + onF g n 0 2 + onF g n 1 2 + onF g n 2 2)) = _; rw [Int.zero_add], rfl, rfl, rfl⟩
  | succ m ih =>
    intro k hk
    refine X_iload dX3_heatOfAll_4 rfl ?_
    refine X_iconst dX3_heatOfAll_5 ?_
    refine X_icmp_ge (tgt := 23) dX3_heatOfAll_6 (by decide) (by omega) (fun c_6 => absurd c_6 (by omega)) (fun c_6 => ?_)
    refine X_iload dX3_heatOfAll_9 rfl ?_
    refine X_aload dX3_heatOfAll_10 rfl ?_
    refine X_iload dX3_heatOfAll_11 rfl ?_
    refine Y_pV dX3_heatOfAll_12 cv_X3_61 (sh_st hc) (by omega) (t_heatOnShelf hc hR hG k (by omega) rfl) rfl ?_
    refine X_iadd dX3_heatOfAll_15 ?_
    refine X_istore dX3_heatOfAll_16 (by decide) ?_
    dsimp only [List.set]
    refine X_iinc dX3_heatOfAll_17 rfl ?_
    dsimp only [List.set]
    refine X_goto (tgt := 4) dX3_heatOfAll_20 (by decide) ?_
    exact ih (k + 1) (by omega)
set_option maxRecDepth 20000 in
set_option maxHeartbeats 4000000 in
theorem t_heatOfAll {I : xI} {c : Nat} {g : Nat → Int} {n : Nat} (hc : x_st c) (hR : RS I c g n) (hG : GI g n) : S kX3_heatOfAll 3 [rr c] I (q_p (ii (htA g n)) I) := by
  have lc := st_lt hc
  have hn24 := hG.n24
  refine Sp_intro (by decide +kernel) (Nat.le_of_ble_eq_true rfl) ?_
  show Y kX3_heatOfAll 3 0 [some (rr c), none, none] [] I _
  refine X_iconst dX3_heatOfAll_0 ?_
  refine X_istore dX3_heatOfAll_1 (by decide) ?_
  dsimp only [List.set]
  refine X_iconst dX3_heatOfAll_2 ?_
  refine X_istore dX3_heatOfAll_3 (by decide) ?_
  dsimp only [List.set]
  exact t_heatOfAll_loop hc hR hG 3 0 (by omega)
set_option maxRecDepth 20000 in
set_option maxHeartbeats 4000000 in
theorem t_nightPriceOfShelf {I : xI} {c : Nat} {g : Nat → Int} {n : Nat} (hc : x_st c) (hR : RS I c g n) (hG : GI g n) (sh : Nat) (hsh : sh < 3) {i : Int} (hi : i = (sh : Int)) : S kX3_nightPriceOfShelf 1 [rr c, ii i] I (q_p (ii (onF g n sh 1 * g (9 + sh))) I) := by
  have lc := st_lt hc
  have hn24 := hG.n24
  subst hi
  refine Sp_intro (by decide +kernel) (Nat.le_of_ble_eq_true rfl) ?_
  show Y kX3_nightPriceOfShelf 1 0 [some (rr c), some (ii (sh : Int))] [] I _
  refine X_aload dX3_nightPriceOfShelf_0 rfl ?_
  refine X_getR dX3_nightPriceOfShelf_1 rfl gf_X3_15 (sh_st hc) (by omega) rfl (rf_st1 hc) ?_
  refine X_iload dX3_nightPriceOfShelf_4 rfl ?_
  refine Y_pS dX3_nightPriceOfShelf_5 cs_X3_49 (t_tak hc hR sh (by omega) rfl) rfl ?_
  refine X_aload dX3_nightPriceOfShelf_8 rfl ?_
  refine X_getR dX3_nightPriceOfShelf_9 rfl gf_X3_9 (sh_st hc) (by omega) rfl (rf_st0 hc) ?_
  refine X_bipush dX3_nightPriceOfShelf_12 (by decide) ?_
  refine X_iload dX3_nightPriceOfShelf_14 rfl ?_
  refine X_iadd dX3_nightPriceOfShelf_15 ?_
  refine Y_pS dX3_nightPriceOfShelf_16 cs_X3_49 (t_num hc hR (9 + sh) (by omega) (by omega)) rfl ?_
  refine X_imul dX3_nightPriceOfShelf_19 ?_
  refine X_iret dX3_nightPriceOfShelf_20 (Or.inl rfl) ?_
  exact ⟨rfl, rfl, rfl, rfl⟩
set_option maxRecDepth 20000 in
set_option maxHeartbeats 4000000 in
theorem t_countPinned_loop {I : xI} {c : Nat} {g : Nat → Int} {n : Nat} (hc : x_st c) (hR : RS I c g n) (hG : GI g n) : ∀ (m k : Nat), k + m = n → Y kX3_countPinned 2 9 [some (rr c), some (ii (n : Int)), some (ii (pins g k)), some (ii (k : Int))] [] I (q_p (ii (pins g n)) I) := by
  have lc := st_lt hc
  have hn24 := hG.n24
  intro m
  induction m with
  | zero =>
    intro k hk
    refine X_iload dX3_countPinned_9 rfl ?_
    refine X_iload dX3_countPinned_10 rfl ?_
    refine X_icmp_ge (tgt := 31) dX3_countPinned_11 (by decide) (by omega) (fun c_11 => ?_) (fun c_11 => absurd c_11 (by omega))
    refine X_iload dX3_countPinned_31 rfl ?_
    refine X_iret dX3_countPinned_32 (Or.inl rfl) ?_
    exact ⟨by rw [show n = k by omega], rfl, rfl, rfl⟩
  | succ m ih =>
    intro k hk
    refine X_iload dX3_countPinned_9 rfl ?_
    refine X_iload dX3_countPinned_10 rfl ?_
    refine X_icmp_ge (tgt := 31) dX3_countPinned_11 (by decide) (by omega) (fun c_11 => absurd c_11 (by omega)) (fun c_11 => ?_)
    refine X_iload dX3_countPinned_14 rfl ?_
    refine X_aload dX3_countPinned_15 rfl ?_
    refine X_getR dX3_countPinned_16 rfl gf_X3_30 (sh_st hc) (by omega) rfl (rf_st6 hc) ?_
    refine X_iload dX3_countPinned_19 rfl ?_
    refine Y_pS dX3_countPinned_20 cs_X3_49 (t_blk4 hc hR hn24 k (by omega) rfl) rfl ?_
    refine X_iadd dX3_countPinned_23 ?_
    refine X_istore dX3_countPinned_24 (by decide) ?_
    dsimp only [List.set]
    refine X_iinc dX3_countPinned_25 rfl ?_
    dsimp only [List.set]
    refine X_goto (tgt := 9) dX3_countPinned_28 (by decide) ?_
    exact ih (k + 1) (by omega)
set_option maxRecDepth 20000 in
set_option maxHeartbeats 4000000 in
theorem t_countPinned {I : xI} {c : Nat} {g : Nat → Int} {n : Nat} (hc : x_st c) (hR : RS I c g n) (hG : GI g n) : S kX3_countPinned 2 [rr c] I (q_p (ii (pins g n)) I) := by
  have lc := st_lt hc
  have hn24 := hG.n24
  refine Sp_intro (by decide +kernel) (Nat.le_of_ble_eq_true rfl) ?_
  show Y kX3_countPinned 2 0 [some (rr c), none, none, none] [] I _
  refine X_aload dX3_countPinned_0 rfl ?_
  refine Y_pV dX3_countPinned_1 cv_X3_53 (sh_st hc) (by omega) (t_countBlocks hc hR hG) rfl ?_
  refine X_istore dX3_countPinned_4 (by decide) ?_
  dsimp only [List.set]
  refine X_iconst dX3_countPinned_5 ?_
  refine X_istore dX3_countPinned_6 (by decide) ?_
  dsimp only [List.set]
  refine X_iconst dX3_countPinned_7 ?_
  refine X_istore dX3_countPinned_8 (by decide) ?_
  dsimp only [List.set]
  exact t_countPinned_loop hc hR hG n 0 (by omega)
def frF (g : Nat → Int) (n : Nat) (z : Int) : Nat → Nat → Option Nat
  | 0, _ => none
  | m + 1, i => if rmB g n i z = true then some i else frF g n z m (i + 1)
theorem fr_eq (g : Nat → Int) (n : Nat) (z : Int) : fr g n z = frF g n z 3 0 := rfl
set_option maxRecDepth 20000 in
set_option maxHeartbeats 4000000 in
theorem t_fastestWithRoom_loop {I : xI} {c : Nat} {g : Nat → Int} {n : Nat} (hc : x_st c) (hR : RS I c g n) (hG : GI g n) (z : Int) (hz : 0 ≤ z ∧ z ≤ 1000) : ∀ (m k : Nat), k + m = 3 → Y kX3_fastestWithRoom 1 2 [some (rr c), some (ii z), some (ii (k : Int))] [] I (q_p (ii (oi (frF g n z m k) (-1))) I) := by
  have lc := st_lt hc
  have hn24 := hG.n24
  intro m
  induction m with
  | zero =>
    intro k hk
    refine X_iload dX3_fastestWithRoom_2 rfl ?_
    refine X_iconst dX3_fastestWithRoom_3 ?_
    refine X_icmp_ge (tgt := 24) dX3_fastestWithRoom_4 (by decide) (by omega) (fun c_4 => ?_) (fun c_4 => absurd c_4 (by omega))
    refine X_iconst dX3_fastestWithRoom_24 ?_
    refine X_iret dX3_fastestWithRoom_25 (Or.inl rfl) ?_
    exact ⟨rfl, rfl, rfl, rfl⟩
  | succ m ih =>
    intro k hk
    unfold frF
    refine X_iload dX3_fastestWithRoom_2 rfl ?_
    refine X_iconst dX3_fastestWithRoom_3 ?_
    refine X_icmp_ge (tgt := 24) dX3_fastestWithRoom_4 (by decide) (by omega) (fun c_4 => absurd c_4 (by omega)) (fun c_4 => ?_)
    refine X_aload dX3_fastestWithRoom_7 rfl ?_
    refine X_iload dX3_fastestWithRoom_8 rfl ?_
    refine X_iload dX3_fastestWithRoom_9 rfl ?_
    refine Y_pV dX3_fastestWithRoom_10 cv_X3_74 (sh_st hc) (by omega) (t_hasRoom hc hR hG k (by omega) rfl z (by omega)) rfl ?_
    have hb : (if rmB g n k z = true then (1 : Int) else 0) = 1 ∨ (if rmB g n k z = true then (1 : Int) else 0) = 0 := by split <;> simp
    refine X_if_eq (tgt := 18) dX3_fastestWithRoom_13 (by decide) (by omega) (fun c_13 => ?_) (fun c_13 => ?_)
    · have r : ¬ rmB g n k z = true := fun q => by rw [if_pos q] at c_13; omega
      rw [if_neg r]
      refine X_iinc dX3_fastestWithRoom_18 rfl ?_
      dsimp only [List.set]
      refine X_goto (tgt := 2) dX3_fastestWithRoom_21 (by decide) ?_
      exact ih (k + 1) (by omega)
    · have r : rmB g n k z = true := by
        by_cases q : rmB g n k z = true
        · exact q
        · rw [if_neg q] at c_13; omega
      rw [if_pos r]
      refine X_iload dX3_fastestWithRoom_16 rfl ?_
      refine X_iret dX3_fastestWithRoom_17 (Or.inl rfl) ?_
      exact ⟨rfl, rfl, rfl, rfl⟩
set_option maxRecDepth 20000 in
set_option maxHeartbeats 4000000 in
theorem t_fastestWithRoom {I : xI} {c : Nat} {g : Nat → Int} {n : Nat} (hc : x_st c) (hR : RS I c g n) (hG : GI g n) (z : Int) (hz : 0 ≤ z ∧ z ≤ 1000) : S kX3_fastestWithRoom 1 [rr c, ii z] I (q_p (ii (oi (fr g n z) (-1))) I) := by
  have lc := st_lt hc
  have hn24 := hG.n24
  refine Sp_intro (by decide +kernel) (Nat.le_of_ble_eq_true rfl) ?_
  show Y kX3_fastestWithRoom 1 0 [some (rr c), some (ii z), none] [] I _
  refine X_iconst dX3_fastestWithRoom_0 ?_
  refine X_istore dX3_fastestWithRoom_1 (by decide) ?_
  dsimp only [List.set]
  rw [fr_eq]
  exact t_fastestWithRoom_loop hc hR hG z hz 3 0 (by omega)
