/-! the other program: the text and its orders -/
def TI (I : xI) (tx : Nat → Int) (len : Nat) : Prop := I 88 6 = (len : Int) ∧ ∀ j, j < len → I 92 j = tx j
set_option maxRecDepth 20000 in
set_option maxHeartbeats 4000000 in
theorem t5_sign {I : xI} {tx : Nat → Int} {len : Nat} (hx : TI I tx len) (hT : TB tx len) (p : Nat) (hp : p ≤ 1000) {ip : Int} (hip : ip = (p : Int)) : S kX5_sign 0 [rr 88, ii ip] I (q_p (ii (sg tx len p)) I) := by
  subst hip
  have h60 := hT.1
  refine Sp_intro (by decide +kernel) (Nat.le_of_ble_eq_true rfl) ?_
  show Y kX5_sign 0 0 [some (rr 88), some (ii (p : Int))] [] I _
  refine X_iload dX5_sign_0 rfl ?_
  refine X_aload dX5_sign_1 rfl ?_
  refine X_getI dX5_sign_2 rfl gf_X5_108 sh_88 (by decide) rfl ?_
  rw [hx.1]
  refine X_icmp_ge (tgt := 17) dX5_sign_5 (by decide) (by omega) (fun c_5 => ?_) (fun c_5 => ?_)
  · rw [show sg tx len p = -1 by unfold sg; rw [if_neg (by omega)]]
    refine X_iconst dX5_sign_17 ?_
    refine X_iret dX5_sign_18 (Or.inl rfl) ?_
    exact ⟨rfl, rfl, rfl, rfl⟩
  · rw [show sg tx len p = I 92 p by unfold sg; rw [if_pos (by omega), hx.2 p (by omega)]]
    refine X_aload dX5_sign_8 rfl ?_
    refine X_getR dX5_sign_9 rfl gf_X5_19 sh_88 (by decide) rfl rf_88_5 ?_
    refine X_iload dX5_sign_12 rfl ?_
    refine X_iald dX5_sign_13 sh_92 (Or.inl (by decide)) (by omega) ?_
    rw [Int.toNat_natCast]
    refine X_goto (tgt := 18) dX5_sign_14 (by decide) ?_
    refine X_iret dX5_sign_18 (Or.inl rfl) ?_
    exact ⟨rfl, rfl, rfl, rfl⟩
set_option maxRecDepth 20000 in
set_option maxHeartbeats 4000000 in
theorem t5_digit {I : xI} {tx : Nat → Int} {len : Nat} (hx : TI I tx len) (hT : TB tx len) (p : Nat) (hp : p ≤ 1000) {ip : Int} (hip : ip = (p : Int)) : S kX5_digit 1 [rr 88, ii ip] I (q_p (ii (dgt tx len p)) I) := by
  subst hip
  refine Sp_intro (by decide +kernel) (Nat.le_of_ble_eq_true rfl) ?_
  show Y kX5_digit 1 0 [some (rr 88), some (ii (p : Int))] [] I _
  refine X_aload dX5_digit_0 rfl ?_
  refine X_iload dX5_digit_1 rfl ?_
  refine Y_pV dX5_digit_2 cv_X5_111 sh_88 (by decide) (t5_sign hx hT p (by omega) rfl) rfl ?_
  have hb := sg_bounds hT p
  refine X_bipush dX5_digit_5 (by decide) ?_
  refine X_bipush dX5_digit_7 (by decide) ?_
  refine Y_pS dX5_digit_9 cs_X5_81 (t5_in I (v := sg tx len p) (a := 48) (b := 57) (by omega) (by decide) (by decide)) rfl ?_
  refine X_if_eq (tgt := 26) dX5_digit_12 (by decide) (by split <;> omega) (fun c_12 => ?_) (fun c_12 => ?_)
  · have hin : ¬ (48 ≤ sg tx len p ∧ sg tx len p ≤ 57) := fun q => by rw [if_pos q] at c_12; exact absurd c_12 (by decide)
    refine X_iconst dX5_digit_26 ?_
    refine X_iret dX5_digit_27 (Or.inl rfl) ?_
    refine ⟨?_, rfl, rfl, rfl⟩
    unfold dgt
    first | rw [if_pos hin] | rw [if_neg hin]
  · have hin : 48 ≤ sg tx len p ∧ sg tx len p ≤ 57 := by
      by_cases q : 48 ≤ sg tx len p ∧ sg tx len p ≤ 57
      · exact q
      · rw [if_neg q] at c_12; exact absurd rfl c_12
    refine X_aload dX5_digit_15 rfl ?_
    refine X_iload dX5_digit_16 rfl ?_
    refine Y_pV dX5_digit_17 cv_X5_111 sh_88 (by decide) (t5_sign hx hT p (by omega) rfl) rfl ?_
    refine X_bipush dX5_digit_20 (by decide) ?_
    refine X_isub dX5_digit_22 ?_
    refine X_goto (tgt := 27) dX5_digit_23 (by decide) ?_
    refine X_iret dX5_digit_27 (Or.inl rfl) ?_
    refine ⟨?_, rfl, rfl, rfl⟩
    unfold dgt
    first | rw [if_pos hin] | rw [if_neg hin]
theorem nm_stop {tx : Nat → Int} {len e : Nat} {most v : Int} (h : ¬ 0 < v ∨ ¬ 0 ≤ dgt tx len e ∨ ¬ v * 10 + dgt tx len e ≤ most) {f : Nat} : nmF tx len most f v e = (v, e) := by
  cases f with
  | zero => rfl
  | succ f => unfold nmF; rw [if_neg (fun q => by omega)]
theorem nm_go {tx : Nat → Int} {len e : Nat} {most v : Int} (h : 0 < v ∧ 0 ≤ dgt tx len e ∧ v * 10 + dgt tx len e ≤ most) {f : Nat} : nmF tx len most (f + 1) v e = nmF tx len most f (v * 10 + dgt tx len e) (e + 1) := by
  rw [nmF, if_pos h]
def nE (p : Nat) (o : Option (Int × Nat)) : Int := match o with
  | none => -1 - (p : Int)
  | some (_, e) => (e : Int)
set_option maxRecDepth 20000 in
set_option maxHeartbeats 4000000 in
theorem t5_numEnd_loop {I : xI} {tx : Nat → Int} {len : Nat} (hx : TI I tx len) (hT : TB tx len) {ip least most : Int} (hm : 0 ≤ most ∧ most ≤ 1000) : ∀ (m f : Nat) (v : Int) (e : Nat), m = len - e → (0 ≤ v ∧ v ≤ 1000) → e ≤ 100 → len ≤ e + f → Y kX5_numberEnd 2 22 [some (rr 88), some (ii ip), some (ii least), some (ii most), some (ii v), some (ii (e : Int))] [] I (q_p (ii ((nmF tx len most f v e).2 : Int)) I) := by
  have h60 := hT.1
  intro m
  induction m using Nat.strongRecOn with
  | ind m ih =>
    intro f v e hme hv he hf
    subst hme
    refine X_iloadW dX5_numberEnd_22 rfl ?_
    refine X_if_le (tgt := 72) dX5_numberEnd_24 (by decide) (by omega) (fun c_24 => ?_) (fun c_24 => ?_)
    · rw [nm_stop (by omega)]
      refine X_iloadW dX5_numberEnd_72 rfl ?_
      refine X_iret dX5_numberEnd_74 (Or.inl rfl) ?_
      exact ⟨rfl, rfl, rfl, rfl⟩
    · refine X_aload dX5_numberEnd_27 rfl ?_
      refine X_iloadW dX5_numberEnd_28 rfl ?_
      refine Y_pV dX5_numberEnd_30 cv_X5_114 sh_88 (by decide) (t5_digit hx hT e (by omega) rfl) rfl ?_
      have hd := dgt_bounds tx len e
      refine X_if_lt (tgt := 72) dX5_numberEnd_33 (by decide) (by omega) (fun c_33 => ?_) (fun c_33 => ?_)
      · rw [nm_stop (by omega)]
        refine X_iloadW dX5_numberEnd_72 rfl ?_
        refine X_iret dX5_numberEnd_74 (Or.inl rfl) ?_
        exact ⟨rfl, rfl, rfl, rfl⟩
      · refine X_bipush dX5_numberEnd_36 (by decide) ?_
        refine X_iloadW dX5_numberEnd_38 rfl ?_
        refine X_imul dX5_numberEnd_40 ?_
        refine X_aload dX5_numberEnd_41 rfl ?_
        refine X_iloadW dX5_numberEnd_42 rfl ?_
        refine Y_pV dX5_numberEnd_44 cv_X5_114 sh_88 (by decide) (t5_digit hx hT e (by omega) rfl) rfl ?_
        refine X_iadd dX5_numberEnd_47 ?_
        refine X_iload dX5_numberEnd_48 rfl ?_
        refine X_icmp_gt (tgt := 72) dX5_numberEnd_49 (by decide) (by omega) (fun c_49 => ?_) (fun c_49 => ?_)
        · rw [nm_stop (by omega)]
          refine X_iloadW dX5_numberEnd_72 rfl ?_
          refine X_iret dX5_numberEnd_74 (Or.inl rfl) ?_
          exact ⟨rfl, rfl, rfl, rfl⟩
        · have hlt := dgt_lt (tx := tx) (len := len) (i := e) (by omega)
          refine X_bipush dX5_numberEnd_52 (by decide) ?_
          refine X_iloadW dX5_numberEnd_54 rfl ?_
          refine X_imul dX5_numberEnd_56 ?_
          refine X_aload dX5_numberEnd_57 rfl ?_
          refine X_iloadW dX5_numberEnd_58 rfl ?_
          refine Y_pV dX5_numberEnd_60 cv_X5_114 sh_88 (by decide) (t5_digit hx hT e (by omega) rfl) rfl ?_
          refine X_iadd dX5_numberEnd_63 ?_
          refine X_istoreW dX5_numberEnd_64 (by decide) ?_
          dsimp only [List.set]
          refine X_iinc dX5_numberEnd_66 rfl ?_
          dsimp only [List.set]
          refine X_goto (tgt := 22) dX5_numberEnd_69 (by decide) ?_
          obtain ⟨f2, rfl⟩ : ∃ f2, f = f2 + 1 := ⟨f - 1, by omega⟩
          rw [nm_go (by omega)]
          rw [show (10 : Int) * v + dgt tx len e = v * 10 + dgt tx len e by omega]
          exact ih (len - (e + 1)) (by omega) f2 (v * 10 + dgt tx len e) (e + 1) rfl (by omega) (by omega) (by omega)
set_option maxRecDepth 20000 in
set_option maxHeartbeats 4000000 in
theorem t5_numberEnd {I : xI} {tx : Nat → Int} {len : Nat} (hx : TI I tx len) (hT : TB tx len) (p : Nat) (hp : p ≤ 90) {ip : Int} (hip : ip = (p : Int)) {least most : Int} (hl : 0 ≤ least ∧ least ≤ 1) (hm : 0 ≤ most ∧ most ≤ 1000) : S kX5_numberEnd 2 [rr 88, ii ip, ii least, ii most] I (q_p (ii (nE p (num tx len least most p))) I) := by
  subst hip
  have h60 := hT.1
  refine Sp_intro (by decide +kernel) (Nat.le_of_ble_eq_true rfl) ?_
  show Y kX5_numberEnd 2 0 [some (rr 88), some (ii (p : Int)), some (ii least), some (ii most), none, none] [] I _
  refine X_aload dX5_numberEnd_0 rfl ?_
  refine X_iload dX5_numberEnd_1 rfl ?_
  refine Y_pV dX5_numberEnd_2 cv_X5_114 sh_88 (by decide) (t5_digit hx hT p (by omega) rfl) rfl ?_
  have hd := dgt_bounds tx len p
  refine X_istoreW dX5_numberEnd_5 (by decide) ?_
  dsimp only [List.set]
  refine X_iloadW dX5_numberEnd_7 rfl ?_
  refine X_iload dX5_numberEnd_9 rfl ?_
  refine X_icmp_ge (tgt := 17) dX5_numberEnd_10 (by decide) (by omega) (fun c_10 => ?_) (fun c_10 => ?_)
  · rw [show num tx len least most p = some (nmF tx len most 60 (dgt tx len p) (p + 1)) by unfold num; rw [if_neg (by omega)]]
    refine X_iload dX5_numberEnd_17 rfl ?_
    refine X_iconst dX5_numberEnd_18 ?_
    refine X_iadd dX5_numberEnd_19 ?_
    refine X_istoreW dX5_numberEnd_20 (by decide) ?_
    dsimp only [List.set]
    exact t5_numEnd_loop hx hT hm _ 60 (dgt tx len p) (p + 1) rfl (by omega) (by omega) (by omega)
  · rw [show num tx len least most p = none by unfold num; rw [if_pos (by omega)]]
    refine X_iconst dX5_numberEnd_13 ?_
    refine X_iload dX5_numberEnd_14 rfl ?_
    refine X_isub dX5_numberEnd_15 ?_
    refine X_iret dX5_numberEnd_16 (Or.inl rfl) ?_
    exact ⟨rfl, rfl, rfl, rfl⟩
/-- the digits from a place on -/
def naF (tx : Nat → Int) (len : Nat) : Nat → Int → Nat → Int
  | 0, v, _ => v
  | f + 1, v, e => if 0 ≤ dgt tx len e then naF tx len f (v * 10 + dgt tx len e) (e + 1) else v
theorem na_stop {tx : Nat → Int} {len e f : Nat} {v : Int} (h : dgt tx len e < 0) : naF tx len f v e = v := by
  cases f with
  | zero => rfl
  | succ f => rw [naF, if_neg (by omega)]
theorem na_nm {tx : Nat → Int} {len : Nat} {most : Int} : ∀ (f f2 : Nat) (v : Int) (e : Nat), f ≤ f2 → dgt tx len (nmF tx len most f v e).2 < 0 → naF tx len f2 v e = (nmF tx len most f v e).1
  | 0, f2, v, e, _, h => na_stop h
  | f + 1, f2, v, e, hf, h => by
    by_cases c : 0 < v ∧ 0 ≤ dgt tx len e ∧ v * 10 + dgt tx len e ≤ most
    · rw [nm_go c] at h ⊢
      obtain ⟨f3, rfl⟩ : ∃ f3, f2 = f3 + 1 := ⟨f2 - 1, by omega⟩
      rw [naF, if_pos c.2.1]
      exact na_nm f f3 _ _ (by omega) h
    · have e1 : nmF tx len most (f + 1) v e = (v, e) := by rw [nmF, if_neg c]
      rw [e1] at h ⊢
      exact na_stop h
theorem na_num {tx : Nat → Int} {len p e : Nat} {least most v : Int} (hl : 0 ≤ least) (h : num tx len least most p = some (v, e)) (he : dgt tx len e < 0) : naF tx len 61 0 p = v := by
  unfold num at h
  split at h
  · cases h
  · have h1 := Option.some.inj h
    rw [naF, if_pos (by omega), Int.zero_mul, Int.zero_add, na_nm (most := most) 60 60 _ _ (Nat.le_refl _) (by rw [h1]; exact he), h1]
set_option maxRecDepth 20000 in
set_option maxHeartbeats 4000000 in
theorem t5_numAt_loop {I : xI} {tx : Nat → Int} {len : Nat} (hx : TI I tx len) (hT : TB tx len) {ip : Int} : ∀ (m f : Nat) (v : Int) (e : Nat), m = len - e → e ≤ 100 → len ≤ e + f → Y kX5_numberAt 2 4 [some (rr 88), some (ii ip), some (ii v), some (ii (e : Int))] [] I (q_p (ii (naF tx len f v e)) I) := by
  have h60 := hT.1
  intro m
  induction m using Nat.strongRecOn with
  | ind m ih =>
    intro f v e hme he hf
    subst hme
    refine X_aload dX5_numberAt_4 rfl ?_
    refine X_iload dX5_numberAt_5 rfl ?_
    refine Y_pV dX5_numberAt_6 cv_X5_114 sh_88 (by decide) (t5_digit hx hT e (by omega) rfl) rfl ?_
    have hd := dgt_bounds tx len e
    refine X_if_lt (tgt := 29) dX5_numberAt_9 (by decide) (by omega) (fun c_9 => ?_) (fun c_9 => ?_)
    · rw [na_stop (by omega)]
      refine X_iload dX5_numberAt_29 rfl ?_
      refine X_iret dX5_numberAt_30 (Or.inl rfl) ?_
      exact ⟨rfl, rfl, rfl, rfl⟩
    · have hlt := dgt_lt (tx := tx) (len := len) (i := e) (by omega)
      obtain ⟨f2, rfl⟩ : ∃ f2, f = f2 + 1 := ⟨f - 1, by omega⟩
      rw [naF, if_pos (by omega)]
      refine X_bipush dX5_numberAt_12 (by decide) ?_
      refine X_iload dX5_numberAt_14 rfl ?_
      refine X_imul dX5_numberAt_15 ?_
      refine X_aload dX5_numberAt_16 rfl ?_
      refine X_iload dX5_numberAt_17 rfl ?_
      refine Y_pV dX5_numberAt_18 cv_X5_114 sh_88 (by decide) (t5_digit hx hT e (by omega) rfl) rfl ?_
      refine X_iadd dX5_numberAt_21 ?_
      refine X_istore dX5_numberAt_22 (by decide) ?_
      dsimp only [List.set]
      refine X_iinc dX5_numberAt_23 rfl ?_
      dsimp only [List.set]
      refine X_goto (tgt := 4) dX5_numberAt_26 (by decide) ?_
      rw [show (10 : Int) * v + dgt tx len e = v * 10 + dgt tx len e by omega]
      exact ih (len - (e + 1)) (by omega) f2 (v * 10 + dgt tx len e) (e + 1) rfl (by omega) (by omega)
set_option maxRecDepth 20000 in
set_option maxHeartbeats 4000000 in
theorem t5_numberAt {I : xI} {tx : Nat → Int} {len : Nat} (hx : TI I tx len) (hT : TB tx len) (p : Nat) (hp : p ≤ 90) {ip : Int} (hip : ip = (p : Int)) : S kX5_numberAt 2 [rr 88, ii ip] I (q_p (ii (naF tx len 61 0 p)) I) := by
  subst hip
  have h60 := hT.1
  refine Sp_intro (by decide +kernel) (Nat.le_of_ble_eq_true rfl) ?_
  show Y kX5_numberAt 2 0 [some (rr 88), some (ii (p : Int)), none, none] [] I _
  refine X_iconst dX5_numberAt_0 ?_
  refine X_istore dX5_numberAt_1 (by decide) ?_
  dsimp only [List.set]
  refine X_iload dX5_numberAt_2 rfl ?_
  refine X_istore dX5_numberAt_3 (by decide) ?_
  dsimp only [List.set]
  exact t5_numAt_loop hx hT _ 61 0 p rfl (by omega) (by omega)
def oE (r : Option xO × Nat) : Int := match r with
  | (none, e) => -1 - (e : Int)
  | (some _, e) => (e : Int)
theorem od_no {tx : Nat → Int} {len p : Nat} (h : kd (sg tx len p) = false) : od tx len p = (none, p) := by
  unfold od
  rw [h]
  rfl
theorem oE_plain {tx : Nat → Int} {len p : Nat} {least most : Int} (hk : kd (sg tx len p) = true) (h114 : sg tx len p ≠ 114) (hl : lsO (sg tx len p) = least) (hg : grO (sg tx len p) = most) : nE (p + 1) (num tx len least most (p + 1)) = oE (od tx len p) := by
  unfold od
  rw [if_pos hk, hl, hg]
  cases h : num tx len least most (p + 1) with
  | none => rfl
  | some q =>
    obtain ⟨v, e⟩ := q
    dsimp only
    rw [if_neg (fun q => h114 q.1)]
    rfl
theorem oE_r0 {tx : Nat → Int} {len p : Nat} (h114 : sg tx len p = 114) (h : num tx len 0 999 (p + 1) = none) : od tx len p = (none, p + 1) := by
  unfold od
  rw [if_pos (kd_iff.mpr (by omega)), h114, show lsO 114 = 0 from rfl, show grO 114 = 999 from rfl, h]
theorem oE_r1 {tx : Nat → Int} {len p e : Nat} {v : Int} (h114 : sg tx len p = 114) (h : num tx len 0 999 (p + 1) = some (v, e)) (h42 : sg tx len e ≠ 42) : od tx len p = (some (114, v, 1), e) := by
  unfold od
  rw [if_pos (kd_iff.mpr (by omega)), h114, show lsO 114 = 0 from rfl, show grO 114 = 999 from rfl, h]
  dsimp only
  rw [if_neg (fun q => h42 q.2)]
theorem oE_r2 {tx : Nat → Int} {len p e : Nat} {v : Int} (h114 : sg tx len p = 114) (h : num tx len 0 999 (p + 1) = some (v, e)) (h42 : sg tx len e = 42) : oE (od tx len p) = nE (e + 1) (num tx len 1 99 (e + 1)) := by
  unfold od
  rw [if_pos (kd_iff.mpr (by omega)), h114, show lsO 114 = 0 from rfl, show grO 114 = 999 from rfl, h]
  dsimp only
  rw [if_pos ⟨rfl, h42⟩]
  cases h2 : num tx len 1 99 (e + 1) with
  | none => rfl
  | some q => obtain ⟨t, e2⟩ := q; rfl
set_option maxRecDepth 20000 in
set_option maxHeartbeats 4000000 in
theorem t5_orderEnd {I : xI} {tx : Nat → Int} {len : Nat} (hx : TI I tx len) (hT : TB tx len) (p : Nat) (hp : p ≤ 61) {ip : Int} (hip : ip = (p : Int)) : S kX5_orderEnd 3 [rr 88, ii ip] I (q_p (ii (oE (od tx len p))) I) := by
  subst hip
  have h60 := hT.1
  refine Sp_intro (by decide +kernel) (Nat.le_of_ble_eq_true rfl) ?_
  show Y kX5_orderEnd 3 0 [some (rr 88), some (ii (p : Int)), none] [] I _
  refine X_aload dX5_orderEnd_0 rfl ?_
  refine X_iload dX5_orderEnd_1 rfl ?_
  refine Y_pV dX5_orderEnd_2 cv_X5_111 sh_88 (by decide) (t5_sign hx hT p (by omega) rfl) rfl ?_
  have hb := sg_bounds hT p
  by_cases w_43 : sg tx len p = 43
  · refine X_lsw (off := 51) (tgt := 56) dX5_orderEnd_5 (by decide) (by omega) (by show (if (43 : Int) = sg tx len p then (51 : Int) else if (45 : Int) = sg tx len p then (62 : Int) else if (110 : Int) = sg tx len p then (115 : Int) else if (112 : Int) = sg tx len p then (62 : Int) else if (114 : Int) = sg tx len p then (74 : Int) else 126) = _; rw [if_pos (by omega)]) (by decide) ?_
    refine X_aload dX5_orderEnd_56 rfl ?_
    refine X_iload dX5_orderEnd_57 rfl ?_
    refine X_iconst dX5_orderEnd_58 ?_
    refine X_iadd dX5_orderEnd_59 ?_
    refine X_iconst dX5_orderEnd_60 ?_
    refine X_bipush dX5_orderEnd_61 (by decide) ?_
    refine Y_pV dX5_orderEnd_63 cv_X5_117 sh_88 (by decide) (t5_numberEnd hx hT (p + 1) (by omega) (ip := (p : Int) + 1) (by omega) (least := 1) (most := 9) (by decide) (by decide)) rfl ?_
    refine X_iret dX5_orderEnd_66 (Or.inl rfl) ?_
    exact ⟨congrArg (fun z => some (ii z)) (oE_plain (kd_iff.mpr (by omega)) (by omega) (by first | (rw [w_43]; rfl) | (rw [w_45]; rfl) | (rw [w_110]; rfl) | (rw [w_112]; rfl)) (by first | (rw [w_43]; rfl) | (rw [w_45]; rfl) | (rw [w_110]; rfl) | (rw [w_112]; rfl))), rfl, rfl, rfl⟩
  by_cases w_45 : sg tx len p = 45
  · refine X_lsw (off := 62) (tgt := 67) dX5_orderEnd_5 (by decide) (by omega) (by show (if (43 : Int) = sg tx len p then (51 : Int) else if (45 : Int) = sg tx len p then (62 : Int) else if (110 : Int) = sg tx len p then (115 : Int) else if (112 : Int) = sg tx len p then (62 : Int) else if (114 : Int) = sg tx len p then (74 : Int) else 126) = _; rw [if_neg (by omega), if_pos (by omega)]) (by decide) ?_
    refine X_aload dX5_orderEnd_67 rfl ?_
    refine X_iload dX5_orderEnd_68 rfl ?_
    refine X_iconst dX5_orderEnd_69 ?_
    refine X_iadd dX5_orderEnd_70 ?_
    refine X_iconst dX5_orderEnd_71 ?_
    refine X_sipush dX5_orderEnd_72 (by decide) ?_
    refine Y_pV dX5_orderEnd_75 cv_X5_117 sh_88 (by decide) (t5_numberEnd hx hT (p + 1) (by omega) (ip := (p : Int) + 1) (by omega) (least := 0) (most := 999) (by decide) (by decide)) rfl ?_
    refine X_iret dX5_orderEnd_78 (Or.inl rfl) ?_
    exact ⟨congrArg (fun z => some (ii z)) (oE_plain (kd_iff.mpr (by omega)) (by omega) (by first | (rw [w_43]; rfl) | (rw [w_45]; rfl) | (rw [w_110]; rfl) | (rw [w_112]; rfl)) (by first | (rw [w_43]; rfl) | (rw [w_45]; rfl) | (rw [w_110]; rfl) | (rw [w_112]; rfl))), rfl, rfl, rfl⟩
  by_cases w_110 : sg tx len p = 110
  · refine X_lsw (off := 115) (tgt := 120) dX5_orderEnd_5 (by decide) (by omega) (by show (if (43 : Int) = sg tx len p then (51 : Int) else if (45 : Int) = sg tx len p then (62 : Int) else if (110 : Int) = sg tx len p then (115 : Int) else if (112 : Int) = sg tx len p then (62 : Int) else if (114 : Int) = sg tx len p then (74 : Int) else 126) = _; rw [if_neg (by omega), if_neg (by omega), if_pos (by omega)]) (by decide) ?_
    refine X_aload dX5_orderEnd_120 rfl ?_
    refine X_iload dX5_orderEnd_121 rfl ?_
    refine X_iconst dX5_orderEnd_122 ?_
    refine X_iadd dX5_orderEnd_123 ?_
    refine X_iconst dX5_orderEnd_124 ?_
    refine X_bipush dX5_orderEnd_125 (by decide) ?_
    refine Y_pV dX5_orderEnd_127 cv_X5_117 sh_88 (by decide) (t5_numberEnd hx hT (p + 1) (by omega) (ip := (p : Int) + 1) (by omega) (least := 1) (most := 99) (by decide) (by decide)) rfl ?_
    refine X_iret dX5_orderEnd_130 (Or.inl rfl) ?_
    exact ⟨congrArg (fun z => some (ii z)) (oE_plain (kd_iff.mpr (by omega)) (by omega) (by first | (rw [w_43]; rfl) | (rw [w_45]; rfl) | (rw [w_110]; rfl) | (rw [w_112]; rfl)) (by first | (rw [w_43]; rfl) | (rw [w_45]; rfl) | (rw [w_110]; rfl) | (rw [w_112]; rfl))), rfl, rfl, rfl⟩
  by_cases w_112 : sg tx len p = 112
  · refine X_lsw (off := 62) (tgt := 67) dX5_orderEnd_5 (by decide) (by omega) (by show (if (43 : Int) = sg tx len p then (51 : Int) else if (45 : Int) = sg tx len p then (62 : Int) else if (110 : Int) = sg tx len p then (115 : Int) else if (112 : Int) = sg tx len p then (62 : Int) else if (114 : Int) = sg tx len p then (74 : Int) else 126) = _; rw [if_neg (by omega), if_neg (by omega), if_neg (by omega), if_pos (by omega)]) (by decide) ?_
    refine X_aload dX5_orderEnd_67 rfl ?_
    refine X_iload dX5_orderEnd_68 rfl ?_
    refine X_iconst dX5_orderEnd_69 ?_
    refine X_iadd dX5_orderEnd_70 ?_
    refine X_iconst dX5_orderEnd_71 ?_
    refine X_sipush dX5_orderEnd_72 (by decide) ?_
    refine Y_pV dX5_orderEnd_75 cv_X5_117 sh_88 (by decide) (t5_numberEnd hx hT (p + 1) (by omega) (ip := (p : Int) + 1) (by omega) (least := 0) (most := 999) (by decide) (by decide)) rfl ?_
    refine X_iret dX5_orderEnd_78 (Or.inl rfl) ?_
    exact ⟨congrArg (fun z => some (ii z)) (oE_plain (kd_iff.mpr (by omega)) (by omega) (by first | (rw [w_43]; rfl) | (rw [w_45]; rfl) | (rw [w_110]; rfl) | (rw [w_112]; rfl)) (by first | (rw [w_43]; rfl) | (rw [w_45]; rfl) | (rw [w_110]; rfl) | (rw [w_112]; rfl))), rfl, rfl, rfl⟩
  by_cases w_114 : sg tx len p = 114
  · refine X_lsw (off := 74) (tgt := 79) dX5_orderEnd_5 (by decide) (by omega) (by show (if (43 : Int) = sg tx len p then (51 : Int) else if (45 : Int) = sg tx len p then (62 : Int) else if (110 : Int) = sg tx len p then (115 : Int) else if (112 : Int) = sg tx len p then (62 : Int) else if (114 : Int) = sg tx len p then (74 : Int) else 126) = _; rw [if_neg (by omega), if_neg (by omega), if_neg (by omega), if_neg (by omega), if_pos (by omega)]) (by decide) ?_
    have h9 := t5_numberEnd hx hT (p + 1) (by omega) (ip := (p : Int) + 1) (by omega) (least := 0) (most := 999) (by decide) (by decide)
    cases hn : num tx len 0 999 (p + 1) with
    | none =>
      rw [hn] at h9
      change S _ _ _ _ (q_p (ii (-1 - ((p + 1 : Nat) : Int))) I) at h9
      rw [oE_r0 w_114 hn]
      refine X_aload dX5_orderEnd_79 rfl ?_
      refine X_iload dX5_orderEnd_80 rfl ?_
      refine X_iconst dX5_orderEnd_81 ?_
      refine X_iadd dX5_orderEnd_82 ?_
      refine X_iconst dX5_orderEnd_83 ?_
      refine X_sipush dX5_orderEnd_84 (by decide) ?_
      refine Y_pV dX5_orderEnd_87 cv_X5_117 sh_88 (by decide) h9 rfl ?_
      refine X_istore dX5_orderEnd_90 (by decide) ?_
      dsimp only [List.set]
      refine X_iload dX5_orderEnd_91 rfl ?_
      refine X_if_le (tgt := 118) dX5_orderEnd_92 (by decide) (by omega) (fun c_92 => ?_) (fun c_92 => absurd c_92 (by omega))
      refine X_iload dX5_orderEnd_118 rfl ?_
      refine X_iret dX5_orderEnd_119 (Or.inl rfl) ?_
      exact ⟨rfl, rfl, rfl, rfl⟩
    | some q =>
      obtain ⟨v, e⟩ := q
      have hno := num_ok (by decide) (by decide) hn
      rw [hn] at h9
      change S _ _ _ _ (q_p (ii (e : Int)) I) at h9
      refine X_aload dX5_orderEnd_79 rfl ?_
      refine X_iload dX5_orderEnd_80 rfl ?_
      refine X_iconst dX5_orderEnd_81 ?_
      refine X_iadd dX5_orderEnd_82 ?_
      refine X_iconst dX5_orderEnd_83 ?_
      refine X_sipush dX5_orderEnd_84 (by decide) ?_
      refine Y_pV dX5_orderEnd_87 cv_X5_117 sh_88 (by decide) h9 rfl ?_
      refine X_istore dX5_orderEnd_90 (by decide) ?_
      dsimp only [List.set]
      refine X_iload dX5_orderEnd_91 rfl ?_
      refine X_if_le (tgt := 118) dX5_orderEnd_92 (by decide) (by omega) (fun c_92 => absurd c_92 (by omega)) (fun c_92 => ?_)
      refine X_aload dX5_orderEnd_95 rfl ?_
      refine X_iload dX5_orderEnd_96 rfl ?_
      refine Y_pV dX5_orderEnd_97 cv_X5_111 sh_88 (by decide) (t5_sign hx hT e (by omega) rfl) rfl ?_
      have hb2 := sg_bounds hT e
      refine X_bipush dX5_orderEnd_100 (by decide) ?_
      refine X_icmp_ne (tgt := 118) dX5_orderEnd_102 (by decide) (by omega) (fun c_102 => ?_) (fun c_102 => ?_)
      · rw [oE_r1 w_114 hn c_102]
        refine X_iload dX5_orderEnd_118 rfl ?_
        refine X_iret dX5_orderEnd_119 (Or.inl rfl) ?_
        exact ⟨rfl, rfl, rfl, rfl⟩
      · rw [oE_r2 w_114 hn c_102]
        refine X_aload dX5_orderEnd_105 rfl ?_
        refine X_iload dX5_orderEnd_106 rfl ?_
        refine X_iconst dX5_orderEnd_107 ?_
        refine X_iadd dX5_orderEnd_108 ?_
        refine X_iconst dX5_orderEnd_109 ?_
        refine X_bipush dX5_orderEnd_110 (by decide) ?_
        refine Y_pV dX5_orderEnd_112 cv_X5_117 sh_88 (by decide) (t5_numberEnd hx hT (e + 1) (by omega) (ip := (e : Int) + 1) (by omega) (least := 1) (most := 99) (by decide) (by decide)) rfl ?_
        refine X_goto (tgt := 119) dX5_orderEnd_115 (by decide) ?_
        refine X_iret dX5_orderEnd_119 (Or.inl rfl) ?_
        exact ⟨rfl, rfl, rfl, rfl⟩
  refine X_lsw (off := 126) (tgt := 131) dX5_orderEnd_5 (by decide) (by omega) (by show (if (43 : Int) = sg tx len p then (51 : Int) else if (45 : Int) = sg tx len p then (62 : Int) else if (110 : Int) = sg tx len p then (115 : Int) else if (112 : Int) = sg tx len p then (62 : Int) else if (114 : Int) = sg tx len p then (74 : Int) else 126) = _; rw [if_neg (by omega), if_neg (by omega), if_neg (by omega), if_neg (by omega), if_neg (by omega)]) (by decide) ?_
  refine X_iconst dX5_orderEnd_131 ?_
  refine X_iload dX5_orderEnd_132 rfl ?_
  refine X_isub dX5_orderEnd_133 ?_
  refine X_iret dX5_orderEnd_134 (Or.inl rfl) ?_
  exact ⟨by rw [od_no (by cases hk : kd (sg tx len p) with | false => rfl | true => exact absurd (kd_iff.mp hk) (by omega))]; rfl, rfl, rfl, rfl⟩
