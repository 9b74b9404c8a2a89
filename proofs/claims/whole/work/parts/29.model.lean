/-! the other program: its row of numbers, what it is asked -/
def RC (I : xI) (c p : Nat) (g : Nat → Int) (n : Nat) : Prop := ∀ j, j < 23 + 8 * n → I c (p + j) = g j
abbrev RR (I : xI) (p : Nat) (g : Nat → Int) (n : Nat) : Prop := RC I 89 p g n
section
variable {κ : xK} {d pc : Nat} {L : List (Option xAV)} {st : List xAV} {I : xI} {Q : xQ}
theorem Y_ald {p : Nat} {g : Nat → Int} {n : Nat} {z : Int} (hd : decode κ.2.1 pc = .ok (.iaload, 1)) (hR : RR I p g n) (hp : p ≤ 215) (hn : n ≤ 24) (j : Nat) (hj : j < 23 + 8 * n) (hz : z = (p : Int) + (j : Int)) (kk : Y κ d (pc + 1) L (ii (g j) :: st) I Q) : Y κ d pc L (ii z :: rr 89 :: st) I Q := by
  refine X_iald hd sh_89 (Or.inl (by decide)) (by omega) ?_
  have e : z.toNat = p + j := by omega
  rw [e, hR j hj]
  exact kk
theorem Y_aldB {p : Nat} {g : Nat → Int} {n : Nat} {z : Int} (hd : decode κ.2.1 pc = .ok (.iaload, 1)) (hR : RR I p g n) (hp : p ≤ 215) (hn : n ≤ 24) (k w : Nat) (hk : k < n) (hw : w < 8) (hz : z = (p : Int) + 23 + 8 * (k : Int) + (w : Int)) (kk : Y κ d (pc + 1) L (ii (gb g k w) :: st) I Q) : Y κ d pc L (ii z :: rr 89 :: st) I Q :=
  Y_ald hd hR hp hn (23 + 8 * k + w) (by omega) (by omega) kk
end
theorem t5_at (I : xI) (a b : Int) : S kX5_at 0 [ii a, ii b] I (q_p (ii (a + 23 + 8 * b)) I) := by
  refine Sp_intro (by decide +kernel) (Nat.le_of_ble_eq_true rfl) ?_
  show Y kX5_at 0 0 [some (ii a), some (ii b)] [] I _
  refine X_iload dX5_at_0 rfl ?_
  refine X_bipush dX5_at_1 (by decide) ?_
  refine X_iadd dX5_at_3 ?_
  refine X_bipush dX5_at_4 (by decide) ?_
  refine X_iload dX5_at_6 rfl ?_
  refine X_imul dX5_at_7 ?_
  refine X_iadd dX5_at_8 ?_
  refine X_iret dX5_at_9 (Or.inl rfl) ?_
  exact ⟨rfl, rfl, rfl, rfl⟩
set_option maxRecDepth 20000 in
set_option maxHeartbeats 4000000 in
theorem t5_placeOf_loop {I : xI} {p : Nat} {g : Nat → Int} {n : Nat} (hR : RR I p g n) (hp : p ≤ 215) (hG : GI g n) (b : Int) (hb : -2147483648 ≤ b ∧ b ≤ 2147483647) : ∀ (m k : Nat), k + m = n → Y kX5_placeOf 1 2 [some (rr 88), some (ii (p : Int)), some (ii b), some (ii (k : Int))] [] I (q_p (ii (oi (plF g b m k) (-5))) I) := by
  have hn24 := hG.n24
  have h15 := hG.g15
  intro m
  induction m with
  | zero =>
    intro k hk
    refine X_iload dX5_placeOf_2 rfl ?_
    refine X_aload dX5_placeOf_3 rfl ?_
    refine X_getR dX5_placeOf_4 rfl gf_X5_7 sh_88 (by decide) rfl rf_88_0 ?_
    refine X_iload dX5_placeOf_7 rfl ?_
    refine X_bipush dX5_placeOf_8 (by decide) ?_
    refine X_iadd dX5_placeOf_10 ?_
    refine Y_ald dX5_placeOf_11 hR (by omega) hn24 (15) (by omega) (by omega) ?_
    refine X_icmp_ge (tgt := 37) dX5_placeOf_12 (by decide) (by omega) (fun c_12 => ?_) (fun c_12 => absurd c_12 (by omega))
    refine X_bipush dX5_placeOf_37 (by decide) ?_
    refine X_iret dX5_placeOf_39 (Or.inl rfl) ?_
    exact ⟨rfl, rfl, rfl, rfl⟩
  | succ m ih =>
    intro k hk
    unfold plF
    refine X_iload dX5_placeOf_2 rfl ?_
    refine X_aload dX5_placeOf_3 rfl ?_
    refine X_getR dX5_placeOf_4 rfl gf_X5_7 sh_88 (by decide) rfl rf_88_0 ?_
    refine X_iload dX5_placeOf_7 rfl ?_
    refine X_bipush dX5_placeOf_8 (by decide) ?_
    refine X_iadd dX5_placeOf_10 ?_
    refine Y_ald dX5_placeOf_11 hR (by omega) hn24 (15) (by omega) (by omega) ?_
    refine X_icmp_ge (tgt := 37) dX5_placeOf_12 (by decide) (by omega) (fun c_12 => absurd c_12 (by omega)) (fun c_12 => ?_)
    refine X_aload dX5_placeOf_15 rfl ?_
    refine X_getR dX5_placeOf_16 rfl gf_X5_7 sh_88 (by decide) rfl rf_88_0 ?_
    refine X_iload dX5_placeOf_19 rfl ?_
    refine X_iload dX5_placeOf_20 rfl ?_
    refine Y_pS dX5_placeOf_21 cs_X5_32 (t5_at _ _ _) rfl ?_
    refine Y_aldB dX5_placeOf_24 hR (by omega) hn24 (k) (0) (by omega) (by omega) (by omega) ?_
    refine X_iload dX5_placeOf_25 rfl ?_
    have hb0 := (hG.b (k := k) (by omega)).1
    refine X_icmp_ne (tgt := 31) dX5_placeOf_26 (by decide) (by omega) (fun c_26 => ?_) (fun c_26 => ?_)
    · rw [if_neg c_26]
      refine X_iinc dX5_placeOf_31 rfl ?_
      dsimp only [List.set]
      refine X_goto (tgt := 2) dX5_placeOf_34 (by decide) ?_
      exact ih (k + 1) (by omega)
    · rw [if_pos c_26]
      refine X_iload dX5_placeOf_29 rfl ?_
      refine X_iret dX5_placeOf_30 (Or.inl rfl) ?_
      exact ⟨rfl, rfl, rfl, rfl⟩
set_option maxRecDepth 20000 in
set_option maxHeartbeats 4000000 in
theorem t5_placeOf {I : xI} {p : Nat} {g : Nat → Int} {n : Nat} (hR : RR I p g n) (hp : p ≤ 215) (hG : GI g n) {ip : Int} (hip : ip = (p : Int)) (b : Int) (hb : -2147483648 ≤ b ∧ b ≤ 2147483647) : S kX5_placeOf 1 [rr 88, ii ip, ii b] I (q_p (ii (oi (pl g n b) (-5))) I) := by
  subst hip
  have hn24 := hG.n24
  have h15 := hG.g15
  refine Sp_intro (by decide +kernel) (Nat.le_of_ble_eq_true rfl) ?_
  show Y kX5_placeOf 1 0 [some (rr 88), some (ii (p : Int)), some (ii b), none] [] I _
  refine X_iconst dX5_placeOf_0 ?_
  refine X_istore dX5_placeOf_1 (by decide) ?_
  dsimp only [List.set]
  exact t5_placeOf_loop hR hp hG b hb n 0 (by omega)
set_option maxRecDepth 20000 in
set_option maxHeartbeats 4000000 in
theorem t5_on_loop {I : xI} {p : Nat} {g : Nat → Int} {n : Nat} (hR : RR I p g n) (hp : p ≤ 215) (hG : GI g n) (sh : Int) (hsh : -2147483648 ≤ sh ∧ sh ≤ 2147483647) (w : Nat) (hw : w < 8) : ∀ (m k : Nat), k + m = n → Y kX5_on 1 6 [some (rr 88), some (ii (p : Int)), some (ii sh), some (ii (w : Int)), some (ii (onF g k sh w)), some (ii (k : Int)), none] [] I (q_p (ii (onF g n sh w)) I) := by
  have hn24 := hG.n24
  have h15 := hG.g15
  intro m
  induction m with
  | zero =>
    intro k hk
    refine X_iloadW dX5_on_6 rfl ?_
    refine X_aload dX5_on_8 rfl ?_
    refine X_getR dX5_on_9 rfl gf_X5_7 sh_88 (by decide) rfl rf_88_0 ?_
    refine X_iload dX5_on_12 rfl ?_
    refine X_bipush dX5_on_13 (by decide) ?_
    refine X_iadd dX5_on_15 ?_
    refine Y_ald dX5_on_16 hR (by omega) hn24 (15) (by omega) (by omega) ?_
    refine X_icmp_ge (tgt := 77) dX5_on_17 (by decide) (by omega) (fun c_17 => ?_) (fun c_17 => absurd c_17 (by omega))
    refine X_iloadW dX5_on_77 rfl ?_
    refine X_iret dX5_on_79 (Or.inl rfl) ?_
    exact ⟨by rw [show n = k by omega], rfl, rfl, rfl⟩
  | succ m ih =>
    intro k hk
    refine X_iloadW dX5_on_6 rfl ?_
    refine X_aload dX5_on_8 rfl ?_
    refine X_getR dX5_on_9 rfl gf_X5_7 sh_88 (by decide) rfl rf_88_0 ?_
    refine X_iload dX5_on_12 rfl ?_
    refine X_bipush dX5_on_13 (by decide) ?_
    refine X_iadd dX5_on_15 ?_
    refine Y_ald dX5_on_16 hR (by omega) hn24 (15) (by omega) (by omega) ?_
    refine X_icmp_ge (tgt := 77) dX5_on_17 (by decide) (by omega) (fun c_17 => absurd c_17 (by omega)) (fun c_17 => ?_)
    refine X_iload dX5_on_20 rfl ?_
    refine X_if_ne (tgt := 28) dX5_on_21 (by decide) (by omega) (fun c_21 => ?_) (fun c_21 => ?_)
    · refine X_aload dX5_on_28 rfl ?_
      refine X_getR dX5_on_29 rfl gf_X5_7 sh_88 (by decide) rfl rf_88_0 ?_
      refine X_iload dX5_on_32 rfl ?_
      refine X_iloadW dX5_on_33 rfl ?_
      refine Y_pS dX5_on_35 cs_X5_32 (t5_at _ _ _) rfl ?_
      refine X_iload dX5_on_38 rfl ?_
      refine X_iadd dX5_on_39 ?_
      refine Y_aldB dX5_on_40 hR (by omega) hn24 (k) (w) (by omega) (by omega) (by omega) ?_
      refine X_istoreW dX5_on_41 (by decide) ?_
      dsimp only [List.set]
      refine X_iloadW dX5_on_43 rfl ?_
      refine X_aload dX5_on_45 rfl ?_
      refine X_getR dX5_on_46 rfl gf_X5_7 sh_88 (by decide) rfl rf_88_0 ?_
      refine X_iload dX5_on_49 rfl ?_
      refine X_iloadW dX5_on_50 rfl ?_
      refine Y_pS dX5_on_52 cs_X5_32 (t5_at _ _ _) rfl ?_
      refine X_iconst dX5_on_55 ?_
      refine X_iadd dX5_on_56 ?_
      refine Y_aldB dX5_on_57 hR (by omega) hn24 (k) (3) (by omega) (by omega) (by omega) ?_
      refine X_iload dX5_on_58 rfl ?_
      have h1 := (hG.b (k := k) (by omega)).2.2.2.1
      refine X_icmp_ne (tgt := 67) dX5_on_59 (by decide) (by omega) (fun c_59 => ?_) (fun c_59 => ?_)
      · refine X_iconst dX5_on_67 ?_
        refine X_iadd dX5_on_68 ?_
        refine X_istoreW dX5_on_69 (by decide) ?_
        dsimp only [List.set]
        refine X_iinc dX5_on_71 rfl ?_
        dsimp only [List.set]
        refine X_goto (tgt := 6) dX5_on_74 (by decide) ?_
        refine X_drop 6 ?_
        dsimp only [List.set]
        first
          | (exfalso; omega)
          | (have e : onF g (k + 1) sh w = onF g k sh w + 1 := by
               show onF g k sh w + (if gb g k 3 = sh then (if w = 0 then 1 else gb g k w) else 0) = _
               rw [if_pos (by omega)]
               first | rw [if_pos (by omega)] | rw [if_neg (by omega)]
             rw [← e]
             exact ih (k + 1) (by omega))
          | (have e : onF g (k + 1) sh w = onF g k sh w + gb g k w := by
               show onF g k sh w + (if gb g k 3 = sh then (if w = 0 then 1 else gb g k w) else 0) = _
               rw [if_pos (by omega)]
               first | rw [if_pos (by omega)] | rw [if_neg (by omega)]
             rw [← e]
             exact ih (k + 1) (by omega))
          | (have e : onF g (k + 1) sh w = onF g k sh w + 0 := by
               show onF g k sh w + (if gb g k 3 = sh then (if w = 0 then 1 else gb g k w) else 0) = _
               rw [if_neg (by omega)]
             rw [← e]
             exact ih (k + 1) (by omega))
      · refine X_iloadW dX5_on_62 rfl ?_
        refine X_goto (tgt := 68) dX5_on_64 (by decide) ?_
        refine X_iadd dX5_on_68 ?_
        refine X_istoreW dX5_on_69 (by decide) ?_
        dsimp only [List.set]
        refine X_iinc dX5_on_71 rfl ?_
        dsimp only [List.set]
        refine X_goto (tgt := 6) dX5_on_74 (by decide) ?_
        refine X_drop 6 ?_
        dsimp only [List.set]
        first
          | (exfalso; omega)
          | (have e : onF g (k + 1) sh w = onF g k sh w + 1 := by
               show onF g k sh w + (if gb g k 3 = sh then (if w = 0 then 1 else gb g k w) else 0) = _
               rw [if_pos (by omega)]
               first | rw [if_pos (by omega)] | rw [if_neg (by omega)]
             rw [← e]
             exact ih (k + 1) (by omega))
          | (have e : onF g (k + 1) sh w = onF g k sh w + gb g k w := by
               show onF g k sh w + (if gb g k 3 = sh then (if w = 0 then 1 else gb g k w) else 0) = _
               rw [if_pos (by omega)]
               first | rw [if_pos (by omega)] | rw [if_neg (by omega)]
             rw [← e]
             exact ih (k + 1) (by omega))
          | (have e : onF g (k + 1) sh w = onF g k sh w + 0 := by
               show onF g k sh w + (if gb g k 3 = sh then (if w = 0 then 1 else gb g k w) else 0) = _
               rw [if_neg (by omega)]
             rw [← e]
             exact ih (k + 1) (by omega))
    · refine X_iconst dX5_on_24 ?_
      refine X_goto (tgt := 41) dX5_on_25 (by decide) ?_
      refine X_istoreW dX5_on_41 (by decide) ?_
      dsimp only [List.set]
      refine X_iloadW dX5_on_43 rfl ?_
      refine X_aload dX5_on_45 rfl ?_
      refine X_getR dX5_on_46 rfl gf_X5_7 sh_88 (by decide) rfl rf_88_0 ?_
      refine X_iload dX5_on_49 rfl ?_
      refine X_iloadW dX5_on_50 rfl ?_
      refine Y_pS dX5_on_52 cs_X5_32 (t5_at _ _ _) rfl ?_
      refine X_iconst dX5_on_55 ?_
      refine X_iadd dX5_on_56 ?_
      refine Y_aldB dX5_on_57 hR (by omega) hn24 (k) (3) (by omega) (by omega) (by omega) ?_
      refine X_iload dX5_on_58 rfl ?_
      have h1 := (hG.b (k := k) (by omega)).2.2.2.1
      refine X_icmp_ne (tgt := 67) dX5_on_59 (by decide) (by omega) (fun c_59 => ?_) (fun c_59 => ?_)
      · refine X_iconst dX5_on_67 ?_
        refine X_iadd dX5_on_68 ?_
        refine X_istoreW dX5_on_69 (by decide) ?_
        dsimp only [List.set]
        refine X_iinc dX5_on_71 rfl ?_
        dsimp only [List.set]
        refine X_goto (tgt := 6) dX5_on_74 (by decide) ?_
        refine X_drop 6 ?_
        dsimp only [List.set]
        first
          | (exfalso; omega)
          | (have e : onF g (k + 1) sh w = onF g k sh w + 1 := by
               show onF g k sh w + (if gb g k 3 = sh then (if w = 0 then 1 else gb g k w) else 0) = _
               rw [if_pos (by omega)]
               first | rw [if_pos (by omega)] | rw [if_neg (by omega)]
             rw [← e]
             exact ih (k + 1) (by omega))
          | (have e : onF g (k + 1) sh w = onF g k sh w + gb g k w := by
               show onF g k sh w + (if gb g k 3 = sh then (if w = 0 then 1 else gb g k w) else 0) = _
               rw [if_pos (by omega)]
               first | rw [if_pos (by omega)] | rw [if_neg (by omega)]
             rw [← e]
             exact ih (k + 1) (by omega))
          | (have e : onF g (k + 1) sh w = onF g k sh w + 0 := by
               show onF g k sh w + (if gb g k 3 = sh then (if w = 0 then 1 else gb g k w) else 0) = _
               rw [if_neg (by omega)]
             rw [← e]
             exact ih (k + 1) (by omega))
      · refine X_iloadW dX5_on_62 rfl ?_
        refine X_goto (tgt := 68) dX5_on_64 (by decide) ?_
        refine X_iadd dX5_on_68 ?_
        refine X_istoreW dX5_on_69 (by decide) ?_
        dsimp only [List.set]
        refine X_iinc dX5_on_71 rfl ?_
        dsimp only [List.set]
        refine X_goto (tgt := 6) dX5_on_74 (by decide) ?_
        refine X_drop 6 ?_
        dsimp only [List.set]
        first
          | (exfalso; omega)
          | (have e : onF g (k + 1) sh w = onF g k sh w + 1 := by
               show onF g k sh w + (if gb g k 3 = sh then (if w = 0 then 1 else gb g k w) else 0) = _
               rw [if_pos (by omega)]
               first | rw [if_pos (by omega)] | rw [if_neg (by omega)]
             rw [← e]
             exact ih (k + 1) (by omega))
          | (have e : onF g (k + 1) sh w = onF g k sh w + gb g k w := by
               show onF g k sh w + (if gb g k 3 = sh then (if w = 0 then 1 else gb g k w) else 0) = _
               rw [if_pos (by omega)]
               first | rw [if_pos (by omega)] | rw [if_neg (by omega)]
             rw [← e]
             exact ih (k + 1) (by omega))
          | (have e : onF g (k + 1) sh w = onF g k sh w + 0 := by
               show onF g k sh w + (if gb g k 3 = sh then (if w = 0 then 1 else gb g k w) else 0) = _
               rw [if_neg (by omega)]
             rw [← e]
             exact ih (k + 1) (by omega))
set_option maxRecDepth 20000 in
set_option maxHeartbeats 4000000 in
theorem t5_on {I : xI} {p : Nat} {g : Nat → Int} {n : Nat} (hR : RR I p g n) (hp : p ≤ 215) (hG : GI g n) {ip : Int} (hip : ip = (p : Int)) (sh : Int) (hsh : -2147483648 ≤ sh ∧ sh ≤ 2147483647) (w : Nat) (hw : w < 8) {iw : Int} (hiw : iw = (w : Int)) : S kX5_on 1 [rr 88, ii ip, ii sh, ii iw] I (q_p (ii (onF g n sh w)) I) := by
  subst hip
  subst hiw
  have hn24 := hG.n24
  have h15 := hG.g15
  refine Sp_intro (by decide +kernel) (Nat.le_of_ble_eq_true rfl) ?_
  show Y kX5_on 1 0 [some (rr 88), some (ii (p : Int)), some (ii sh), some (ii (w : Int)), none, none, none] [] I _
  refine X_iconst dX5_on_0 ?_
  refine X_istoreW dX5_on_1 (by decide) ?_
  dsimp only [List.set]
  refine X_iconst dX5_on_3 ?_
  refine X_istoreW dX5_on_4 (by decide) ?_
  dsimp only [List.set]
  exact t5_on_loop hR hp hG sh hsh w hw n 0 (by omega)
set_option maxRecDepth 20000 in
set_option maxHeartbeats 4000000 in
theorem t5_hasRoom {I : xI} {p : Nat} {g : Nat → Int} {n : Nat} (hR : RR I p g n) (hp : p ≤ 215) (hG : GI g n) {ip : Int} (hip : ip = (p : Int)) (sh : Nat) (hsh : sh < 3) {i : Int} (hi : i = (sh : Int)) (z : Int) (hz : 0 ≤ z ∧ z ≤ 1000) : S kX5_hasRoom 2 [rr 88, ii ip, ii i, ii z] I (q_p (ii (if rmB g n sh z then 1 else 0)) I) := by
  subst hip
  subst hi
  have hn24 := hG.n24
  have h15 := hG.g15
  refine Sp_intro (by decide +kernel) (Nat.le_of_ble_eq_true rfl) ?_
  show Y kX5_hasRoom 2 0 [some (rr 88), some (ii (p : Int)), some (ii (sh : Int)), some (ii z)] [] I _
  refine X_aload dX5_hasRoom_0 rfl ?_
  refine X_iload dX5_hasRoom_1 rfl ?_
  refine X_iload dX5_hasRoom_2 rfl ?_
  refine X_iconst dX5_hasRoom_3 ?_
  refine Y_pV dX5_hasRoom_4 cv_X5_36 sh_88 (by decide) (t5_on hR hp hG rfl (sh : Int) (by omega) 1 (by decide) rfl) rfl ?_
  refine X_iload dX5_hasRoom_7 rfl ?_
  refine X_iadd dX5_hasRoom_8 ?_
  refine X_aload dX5_hasRoom_9 rfl ?_
  refine X_getR dX5_hasRoom_10 rfl gf_X5_7 sh_88 (by decide) rfl rf_88_0 ?_
  refine X_iload dX5_hasRoom_13 rfl ?_
  refine X_bipush dX5_hasRoom_14 (by decide) ?_
  refine X_iadd dX5_hasRoom_16 ?_
  refine X_iload dX5_hasRoom_17 rfl ?_
  refine X_iadd dX5_hasRoom_18 ?_
  refine Y_ald dX5_hasRoom_19 hR (by omega) hn24 (6 + sh) (by omega) (by omega) ?_
  have h1 := on_bounds hG (sh : Int)
  have h2 := hG.s6 hsh
  refine X_icmp_gt (tgt := 27) dX5_hasRoom_20 (by decide) (by omega) (fun c_20 => ?_) (fun c_20 => ?_)
  · refine X_iconst dX5_hasRoom_27 ?_
    refine X_iret dX5_hasRoom_28 (Or.inr ⟨rfl, by omega⟩) ?_
    refine ⟨?_, rfl, rfl, rfl⟩
    unfold rmB
    first | rw [decide_eq_true (by omega)]; rfl | rw [decide_eq_false (by omega)]; rfl
  · refine X_iconst dX5_hasRoom_23 ?_
    refine X_goto (tgt := 28) dX5_hasRoom_24 (by decide) ?_
    refine X_iret dX5_hasRoom_28 (Or.inr ⟨rfl, by omega⟩) ?_
    refine ⟨?_, rfl, rfl, rfl⟩
    unfold rmB
    first | rw [decide_eq_true (by omega)]; rfl | rw [decide_eq_false (by omega)]; rfl
set_option maxRecDepth 20000 in
set_option maxHeartbeats 4000000 in
theorem t5_wanted {I : xI} {p : Nat} {g : Nat → Int} {n : Nat} (hR : RR I p g n) (hp : p ≤ 215) (hG : GI g n) {ip : Int} (hip : ip = (p : Int)) (k : Nat) (hk : k < n) {i : Int} (hi : i = (k : Int)) : S kX5_wanted 1 [rr 88, ii ip, ii i] I (q_p (ii (wt g k)) I) := by
  subst hip
  subst hi
  have hn24 := hG.n24
  have h15 := hG.g15
  refine Sp_intro (by decide +kernel) (Nat.le_of_ble_eq_true rfl) ?_
  show Y kX5_wanted 1 0 [some (rr 88), some (ii (p : Int)), some (ii (k : Int)), none] [] I _
  refine X_aload dX5_wanted_0 rfl ?_
  refine X_getR dX5_wanted_1 rfl gf_X5_7 sh_88 (by decide) rfl rf_88_0 ?_
  refine X_iload dX5_wanted_4 rfl ?_
  refine X_iload dX5_wanted_5 rfl ?_
  refine Y_pS dX5_wanted_6 cs_X5_32 (t5_at _ _ _) rfl ?_
  refine X_iconst dX5_wanted_9 ?_
  refine X_iadd dX5_wanted_10 ?_
  refine Y_aldB dX5_wanted_11 hR (by omega) hn24 (k) (2) (by omega) (by omega) (by omega) ?_
  refine X_istore dX5_wanted_12 (by decide) ?_
  dsimp only [List.set]
  refine X_iload dX5_wanted_13 rfl ?_
  refine X_aload dX5_wanted_14 rfl ?_
  refine X_getR dX5_wanted_15 rfl gf_X5_7 sh_88 (by decide) rfl rf_88_0 ?_
  refine X_iload dX5_wanted_18 rfl ?_
  refine X_iconst dX5_wanted_19 ?_
  refine X_iadd dX5_wanted_20 ?_
  refine Y_ald dX5_wanted_21 hR (by omega) hn24 (1) (by omega) (by omega) ?_
  have h1 := (hG.b (k := k) hk).2.2.1
  have h2 := hG.s1
  have h3 := hG.s2
  refine X_icmp_lt (tgt := 29) dX5_wanted_22 (by decide) (by omega) (fun c_22 => ?_) (fun c_22 => ?_)
  · refine X_iload dX5_wanted_29 rfl ?_
    refine X_aload dX5_wanted_30 rfl ?_
    refine X_getR dX5_wanted_31 rfl gf_X5_7 sh_88 (by decide) rfl rf_88_0 ?_
    refine X_iload dX5_wanted_34 rfl ?_
    refine X_iconst dX5_wanted_35 ?_
    refine X_iadd dX5_wanted_36 ?_
    refine Y_ald dX5_wanted_37 hR (by omega) hn24 (2) (by omega) (by omega) ?_
    refine X_icmp_lt (tgt := 45) dX5_wanted_38 (by decide) (by omega) (fun c_38 => ?_) (fun c_38 => ?_)
    · refine X_iconst dX5_wanted_45 ?_
      refine X_iret dX5_wanted_46 (Or.inl rfl) ?_
      refine ⟨?_, rfl, rfl, rfl⟩
      unfold wt
      first | rw [if_pos (by omega)] | rw [if_neg (by omega), if_pos (by omega)] | rw [if_neg (by omega), if_neg (by omega)]
    · refine X_iconst dX5_wanted_41 ?_
      refine X_goto (tgt := 46) dX5_wanted_42 (by decide) ?_
      refine X_iret dX5_wanted_46 (Or.inl rfl) ?_
      refine ⟨?_, rfl, rfl, rfl⟩
      unfold wt
      first | rw [if_pos (by omega)] | rw [if_neg (by omega), if_pos (by omega)] | rw [if_neg (by omega), if_neg (by omega)]
  · refine X_iconst dX5_wanted_25 ?_
    refine X_goto (tgt := 46) dX5_wanted_26 (by decide) ?_
    refine X_iret dX5_wanted_46 (Or.inl rfl) ?_
    refine ⟨?_, rfl, rfl, rfl⟩
    unfold wt
    first | rw [if_pos (by omega)] | rw [if_neg (by omega), if_pos (by omega)] | rw [if_neg (by omega), if_neg (by omega)]
set_option maxRecDepth 20000 in
set_option maxHeartbeats 4000000 in
theorem t5_target {I : xI} {p : Nat} {g : Nat → Int} {n : Nat} (hR : RR I p g n) (hp : p ≤ 215) (hG : GI g n) {ip : Int} (hip : ip = (p : Int)) (k : Nat) (hk : k < n) {i : Int} (hi : i = (k : Int)) : S kX5_target 3 [rr 88, ii ip, ii i] I (q_p (ii (oi (tg (wt g) g n k) (-5))) I) := by
  subst hip
  subst hi
  have hn24 := hG.n24
  have h15 := hG.g15
  refine Sp_intro (by decide +kernel) (Nat.le_of_ble_eq_true rfl) ?_
  show Y kX5_target 3 0 [some (rr 88), some (ii (p : Int)), some (ii (k : Int)), none, none, none] [] I _
  refine X_aload dX5_target_0 rfl ?_
  refine X_getR dX5_target_1 rfl gf_X5_7 sh_88 (by decide) rfl rf_88_0 ?_
  refine X_iload dX5_target_4 rfl ?_
  refine X_iload dX5_target_5 rfl ?_
  refine Y_pS dX5_target_6 cs_X5_32 (t5_at _ _ _) rfl ?_
  refine X_iconst dX5_target_9 ?_
  refine X_iadd dX5_target_10 ?_
  refine Y_aldB dX5_target_11 hR (by omega) hn24 (k) (1) (by omega) (by omega) (by omega) ?_
  refine X_istore dX5_target_12 (by decide) ?_
  dsimp only [List.set]
  refine X_aload dX5_target_13 rfl ?_
  refine X_iload dX5_target_14 rfl ?_
  refine X_iload dX5_target_15 rfl ?_
  refine Y_pV dX5_target_16 cv_X5_40 sh_88 (by decide) (t5_wanted hR hp hG rfl k (by omega) rfl) rfl ?_
  have hw := wt_bounds g k
  obtain ⟨u, hu⟩ := Int.eq_ofNat_of_zero_le hw.1
  have hz := (hG.b (k := k) hk).2.1
  have h3 := (hG.b (k := k) hk).2.2.2.1
  refine X_istoreW dX5_target_19 (by decide) ?_
  dsimp only [List.set]
  refine X_aload dX5_target_21 rfl ?_
  refine X_iload dX5_target_22 rfl ?_
  refine X_iloadW dX5_target_23 rfl ?_
  refine X_iload dX5_target_25 rfl ?_
  refine Y_pV dX5_target_26 cv_X5_43 sh_88 (by decide) (t5_hasRoom hR hp hG rfl u (by omega) hu (gb g k 1) (by omega)) rfl ?_
  refine X_if_eq (tgt := 35) dX5_target_29 (by decide) (by split <;> omega) (fun c_29 => ?_) (fun c_29 => ?_)
  · have r0 : ¬ rmB g n u (gb g k 1) = true := fun q => by rw [if_pos q] at c_29; omega
    refine X_iloadW dX5_target_35 rfl ?_
    refine X_aload dX5_target_37 rfl ?_
    refine X_getR dX5_target_38 rfl gf_X5_7 sh_88 (by decide) rfl rf_88_0 ?_
    refine X_iload dX5_target_41 rfl ?_
    refine X_iload dX5_target_42 rfl ?_
    refine Y_pS dX5_target_43 cs_X5_32 (t5_at _ _ _) rfl ?_
    refine X_iconst dX5_target_46 ?_
    refine X_iadd dX5_target_47 ?_
    refine Y_aldB dX5_target_48 hR (by omega) hn24 (k) (3) (by omega) (by omega) (by omega) ?_
    refine X_isub dX5_target_49 ?_
    refine X_iconst dX5_target_50 ?_
    refine X_icmp_eq (tgt := 73) dX5_target_51 (by decide) (by omega) (fun c_51 => ?_) (fun c_51 => ?_)
    · refine X_iconst dX5_target_73 ?_
      refine X_goto (tgt := 78) dX5_target_74 (by decide) ?_
      refine X_istoreW dX5_target_78 (by decide) ?_
      dsimp only [List.set]
      refine X_iloadW dX5_target_80 rfl ?_
      refine X_if_eq (tgt := 99) dX5_target_82 (by decide) (by omega) (fun c_82 => ?_) (fun c_82 => ?_)
      · refine X_bipush dX5_target_99 (by decide) ?_
        refine X_iret dX5_target_101 (Or.inl rfl) ?_
        first
          | (exfalso; omega)
          | (refine ⟨?_, rfl, rfl, rfl⟩; unfold tg; rw [hu, Int.toNat_natCast, if_neg r0, if_neg (fun q => r1 q.2)]; rfl)
          | (refine ⟨?_, rfl, rfl, rfl⟩; unfold tg; rw [hu, Int.toNat_natCast, if_neg r0, if_neg (fun q => by omega)]; rfl)
          | (refine ⟨?_, rfl, rfl, rfl⟩; unfold tg; rw [hu, Int.toNat_natCast, if_neg r0, if_pos ⟨by omega, r1⟩]; rfl)
      · refine X_aload dX5_target_85 rfl ?_
        refine X_iload dX5_target_86 rfl ?_
        refine X_iconst dX5_target_87 ?_
        refine X_iload dX5_target_88 rfl ?_
        refine Y_pV dX5_target_89 cv_X5_43 sh_88 (by decide) (t5_hasRoom hR hp hG rfl 1 (by decide) rfl (gb g k 1) (by omega)) rfl ?_
        refine X_if_eq (tgt := 99) dX5_target_92 (by decide) (by split <;> omega) (fun c_92 => ?_) (fun c_92 => ?_)
        · have r1 : ¬ rmB g n 1 (gb g k 1) = true := fun q => by rw [if_pos q] at c_92; omega
          refine X_bipush dX5_target_99 (by decide) ?_
          refine X_iret dX5_target_101 (Or.inl rfl) ?_
          first
            | (exfalso; omega)
            | (refine ⟨?_, rfl, rfl, rfl⟩; unfold tg; rw [hu, Int.toNat_natCast, if_neg r0, if_neg (fun q => r1 q.2)]; rfl)
            | (refine ⟨?_, rfl, rfl, rfl⟩; unfold tg; rw [hu, Int.toNat_natCast, if_neg r0, if_neg (fun q => by omega)]; rfl)
            | (refine ⟨?_, rfl, rfl, rfl⟩; unfold tg; rw [hu, Int.toNat_natCast, if_neg r0, if_pos ⟨by omega, r1⟩]; rfl)
        · have r1 : rmB g n 1 (gb g k 1) = true := by
            by_cases q : rmB g n 1 (gb g k 1) = true
            · exact q
            · rw [if_neg q] at c_92; omega
          refine X_iconst dX5_target_95 ?_
          refine X_goto (tgt := 101) dX5_target_96 (by decide) ?_
          refine X_iret dX5_target_101 (Or.inl rfl) ?_
          first
            | (exfalso; omega)
            | (refine ⟨?_, rfl, rfl, rfl⟩; unfold tg; rw [hu, Int.toNat_natCast, if_neg r0, if_neg (fun q => r1 q.2)]; rfl)
            | (refine ⟨?_, rfl, rfl, rfl⟩; unfold tg; rw [hu, Int.toNat_natCast, if_neg r0, if_neg (fun q => by omega)]; rfl)
            | (refine ⟨?_, rfl, rfl, rfl⟩; unfold tg; rw [hu, Int.toNat_natCast, if_neg r0, if_pos ⟨by omega, r1⟩]; rfl)
    · refine X_aload dX5_target_54 rfl ?_
      refine X_getR dX5_target_55 rfl gf_X5_7 sh_88 (by decide) rfl rf_88_0 ?_
      refine X_iload dX5_target_58 rfl ?_
      refine X_iload dX5_target_59 rfl ?_
      refine Y_pS dX5_target_60 cs_X5_32 (t5_at _ _ _) rfl ?_
      refine X_iconst dX5_target_63 ?_
      refine X_iadd dX5_target_64 ?_
      refine Y_aldB dX5_target_65 hR (by omega) hn24 (k) (3) (by omega) (by omega) (by omega) ?_
      refine X_iloadW dX5_target_66 rfl ?_
      refine X_isub dX5_target_68 ?_
      refine X_iconst dX5_target_69 ?_
      refine X_icmp_ne (tgt := 77) dX5_target_70 (by decide) (by omega) (fun c_70 => ?_) (fun c_70 => ?_)
      · refine X_iconst dX5_target_77 ?_
        refine X_istoreW dX5_target_78 (by decide) ?_
        dsimp only [List.set]
        refine X_iloadW dX5_target_80 rfl ?_
        refine X_if_eq (tgt := 99) dX5_target_82 (by decide) (by omega) (fun c_82 => ?_) (fun c_82 => ?_)
        · refine X_bipush dX5_target_99 (by decide) ?_
          refine X_iret dX5_target_101 (Or.inl rfl) ?_
          first
            | (exfalso; omega)
            | (refine ⟨?_, rfl, rfl, rfl⟩; unfold tg; rw [hu, Int.toNat_natCast, if_neg r0, if_neg (fun q => r1 q.2)]; rfl)
            | (refine ⟨?_, rfl, rfl, rfl⟩; unfold tg; rw [hu, Int.toNat_natCast, if_neg r0, if_neg (fun q => by omega)]; rfl)
            | (refine ⟨?_, rfl, rfl, rfl⟩; unfold tg; rw [hu, Int.toNat_natCast, if_neg r0, if_pos ⟨by omega, r1⟩]; rfl)
        · refine X_aload dX5_target_85 rfl ?_
          refine X_iload dX5_target_86 rfl ?_
          refine X_iconst dX5_target_87 ?_
          refine X_iload dX5_target_88 rfl ?_
          refine Y_pV dX5_target_89 cv_X5_43 sh_88 (by decide) (t5_hasRoom hR hp hG rfl 1 (by decide) rfl (gb g k 1) (by omega)) rfl ?_
          refine X_if_eq (tgt := 99) dX5_target_92 (by decide) (by split <;> omega) (fun c_92 => ?_) (fun c_92 => ?_)
          · have r1 : ¬ rmB g n 1 (gb g k 1) = true := fun q => by rw [if_pos q] at c_92; omega
            refine X_bipush dX5_target_99 (by decide) ?_
            refine X_iret dX5_target_101 (Or.inl rfl) ?_
            first
              | (exfalso; omega)
              | (refine ⟨?_, rfl, rfl, rfl⟩; unfold tg; rw [hu, Int.toNat_natCast, if_neg r0, if_neg (fun q => r1 q.2)]; rfl)
              | (refine ⟨?_, rfl, rfl, rfl⟩; unfold tg; rw [hu, Int.toNat_natCast, if_neg r0, if_neg (fun q => by omega)]; rfl)
              | (refine ⟨?_, rfl, rfl, rfl⟩; unfold tg; rw [hu, Int.toNat_natCast, if_neg r0, if_pos ⟨by omega, r1⟩]; rfl)
          · have r1 : rmB g n 1 (gb g k 1) = true := by
              by_cases q : rmB g n 1 (gb g k 1) = true
              · exact q
              · rw [if_neg q] at c_92; omega
            refine X_iconst dX5_target_95 ?_
            refine X_goto (tgt := 101) dX5_target_96 (by decide) ?_
            refine X_iret dX5_target_101 (Or.inl rfl) ?_
            first
              | (exfalso; omega)
              | (refine ⟨?_, rfl, rfl, rfl⟩; unfold tg; rw [hu, Int.toNat_natCast, if_neg r0, if_neg (fun q => r1 q.2)]; rfl)
              | (refine ⟨?_, rfl, rfl, rfl⟩; unfold tg; rw [hu, Int.toNat_natCast, if_neg r0, if_neg (fun q => by omega)]; rfl)
              | (refine ⟨?_, rfl, rfl, rfl⟩; unfold tg; rw [hu, Int.toNat_natCast, if_neg r0, if_pos ⟨by omega, r1⟩]; rfl)
      · refine X_iconst dX5_target_73 ?_
        refine X_goto (tgt := 78) dX5_target_74 (by decide) ?_
        refine X_istoreW dX5_target_78 (by decide) ?_
        dsimp only [List.set]
        refine X_iloadW dX5_target_80 rfl ?_
        refine X_if_eq (tgt := 99) dX5_target_82 (by decide) (by omega) (fun c_82 => ?_) (fun c_82 => ?_)
        · refine X_bipush dX5_target_99 (by decide) ?_
          refine X_iret dX5_target_101 (Or.inl rfl) ?_
          first
            | (exfalso; omega)
            | (refine ⟨?_, rfl, rfl, rfl⟩; unfold tg; rw [hu, Int.toNat_natCast, if_neg r0, if_neg (fun q => r1 q.2)]; rfl)
            | (refine ⟨?_, rfl, rfl, rfl⟩; unfold tg; rw [hu, Int.toNat_natCast, if_neg r0, if_neg (fun q => by omega)]; rfl)
            | (refine ⟨?_, rfl, rfl, rfl⟩; unfold tg; rw [hu, Int.toNat_natCast, if_neg r0, if_pos ⟨by omega, r1⟩]; rfl)
        · refine X_aload dX5_target_85 rfl ?_
          refine X_iload dX5_target_86 rfl ?_
          refine X_iconst dX5_target_87 ?_
          refine X_iload dX5_target_88 rfl ?_
          refine Y_pV dX5_target_89 cv_X5_43 sh_88 (by decide) (t5_hasRoom hR hp hG rfl 1 (by decide) rfl (gb g k 1) (by omega)) rfl ?_
          refine X_if_eq (tgt := 99) dX5_target_92 (by decide) (by split <;> omega) (fun c_92 => ?_) (fun c_92 => ?_)
          · have r1 : ¬ rmB g n 1 (gb g k 1) = true := fun q => by rw [if_pos q] at c_92; omega
            refine X_bipush dX5_target_99 (by decide) ?_
            refine X_iret dX5_target_101 (Or.inl rfl) ?_
            first
              | (exfalso; omega)
              | (refine ⟨?_, rfl, rfl, rfl⟩; unfold tg; rw [hu, Int.toNat_natCast, if_neg r0, if_neg (fun q => r1 q.2)]; rfl)
              | (refine ⟨?_, rfl, rfl, rfl⟩; unfold tg; rw [hu, Int.toNat_natCast, if_neg r0, if_neg (fun q => by omega)]; rfl)
              | (refine ⟨?_, rfl, rfl, rfl⟩; unfold tg; rw [hu, Int.toNat_natCast, if_neg r0, if_pos ⟨by omega, r1⟩]; rfl)
          · have r1 : rmB g n 1 (gb g k 1) = true := by
              by_cases q : rmB g n 1 (gb g k 1) = true
              · exact q
              · rw [if_neg q] at c_92; omega
            refine X_iconst dX5_target_95 ?_
            refine X_goto (tgt := 101) dX5_target_96 (by decide) ?_
            refine X_iret dX5_target_101 (Or.inl rfl) ?_
            first
              | (exfalso; omega)
              | (refine ⟨?_, rfl, rfl, rfl⟩; unfold tg; rw [hu, Int.toNat_natCast, if_neg r0, if_neg (fun q => r1 q.2)]; rfl)
              | (refine ⟨?_, rfl, rfl, rfl⟩; unfold tg; rw [hu, Int.toNat_natCast, if_neg r0, if_neg (fun q => by omega)]; rfl)
              | (refine ⟨?_, rfl, rfl, rfl⟩; unfold tg; rw [hu, Int.toNat_natCast, if_neg r0, if_pos ⟨by omega, r1⟩]; rfl)
  · have r0 : rmB g n u (gb g k 1) = true := by
      by_cases q : rmB g n u (gb g k 1) = true
      · exact q
      · rw [if_neg q] at c_29; omega
    refine X_iloadW dX5_target_32 rfl ?_
    refine X_iret dX5_target_34 (Or.inl rfl) ?_
    refine ⟨?_, rfl, rfl, rfl⟩
    unfold tg
    rw [hu, Int.toNat_natCast, if_pos r0]
    rfl
set_option maxRecDepth 20000 in
set_option maxHeartbeats 4000000 in
theorem t5_costs {I : xI} {p : Nat} {g : Nat → Int} {n : Nat} (hR : RR I p g n) (hp : p ≤ 215) (hG : GI g n) {ip : Int} (hip : ip = (p : Int)) (sh : Nat) (hsh : sh < 3) {i : Int} (hi : i = (sh : Int)) : S kX5_costs 2 [rr 88, ii ip, ii i] I (q_p (ii (onF g n sh 1 * g (9 + sh))) I) := by
  subst hip
  subst hi
  have hn24 := hG.n24
  have h15 := hG.g15
  refine Sp_intro (by decide +kernel) (Nat.le_of_ble_eq_true rfl) ?_
  show Y kX5_costs 2 0 [some (rr 88), some (ii (p : Int)), some (ii (sh : Int))] [] I _
  refine X_aload dX5_costs_0 rfl ?_
  refine X_iload dX5_costs_1 rfl ?_
  refine X_iload dX5_costs_2 rfl ?_
  refine X_iconst dX5_costs_3 ?_
  refine Y_pV dX5_costs_4 cv_X5_36 sh_88 (by decide) (t5_on hR hp hG rfl (sh : Int) (by omega) 1 (by decide) rfl) rfl ?_
  refine X_aload dX5_costs_7 rfl ?_
  refine X_getR dX5_costs_8 rfl gf_X5_7 sh_88 (by decide) rfl rf_88_0 ?_
  refine X_iload dX5_costs_11 rfl ?_
  refine X_bipush dX5_costs_12 (by decide) ?_
  refine X_iadd dX5_costs_14 ?_
  refine X_iload dX5_costs_15 rfl ?_
  refine X_iadd dX5_costs_16 ?_
  refine Y_ald dX5_costs_17 hR (by omega) hn24 (9 + sh) (by omega) (by omega) ?_
  refine X_imul dX5_costs_18 ?_
  refine X_iret dX5_costs_19 (Or.inl rfl) ?_
  exact ⟨rfl, rfl, rfl, rfl⟩
