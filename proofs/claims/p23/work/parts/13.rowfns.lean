/-! the small functions on rows: at, put, raise, copyRow, closeGap -/
set_option maxRecDepth 20000 in
set_option maxHeartbeats 4000000 in
theorem t_at {a n : Nat} (ha : x_sh a = (0, n)) (la2 : x_live 90 a) (I : xI) (i : Int) (hi : -2147483648 ≤ i ∧ i ≤ 2147483647) : S kX4_at 0 [rr a, ii i] I (q_p (ii (if 0 ≤ i ∧ i < n then I a i.toNat else 0)) I) := by
  have hn : n < 1000 := by have := x_sh_lt a; rw [ha] at this; exact this
  refine Sp_intro (by decide +kernel) (Nat.le_of_ble_eq_true rfl) ?_
  show Y kX4_at 0 0 [some (rr a), some (ii i)] [] I _
  refine X_iload dX4_at_0 rfl ?_
  refine X_if_lt (tgt := 16) dX4_at_1 (by decide) (by omega) (fun c_1 => ?_) (fun c_1 => ?_)
  · refine X_iconst dX4_at_16 ?_
    refine X_iret dX4_at_17 (Or.inl rfl) ?_
    exact ⟨congrArg (fun z => some (ii z)) (by first | rw [if_pos (by omega)] | rw [if_neg (by omega)]), rfl, rfl, rfl⟩
  · refine X_iload dX4_at_4 rfl ?_
    refine X_aload dX4_at_5 rfl ?_
    refine X_alen dX4_at_6 ha la2 ?_
    refine X_icmp_ge (tgt := 16) dX4_at_7 (by decide) (by omega) (fun c_7 => ?_) (fun c_7 => ?_)
    · refine X_iconst dX4_at_16 ?_
      refine X_iret dX4_at_17 (Or.inl rfl) ?_
      exact ⟨congrArg (fun z => some (ii z)) (by first | rw [if_pos (by omega)] | rw [if_neg (by omega)]), rfl, rfl, rfl⟩
    · refine X_aload dX4_at_10 rfl ?_
      refine X_iload dX4_at_11 rfl ?_
      refine X_iald dX4_at_12 ha la2 (by omega) ?_
      refine X_goto (tgt := 17) dX4_at_13 (by decide) ?_
      refine X_iret dX4_at_17 (Or.inl rfl) ?_
      exact ⟨congrArg (fun z => some (ii z)) (by first | rw [if_pos (by omega)] | rw [if_neg (by omega)]), rfl, rfl, rfl⟩
theorem t_atk {a n : Nat} (ha : x_sh a = (0, n)) (la2 : x_live 90 a) (I : xI) (k : Nat) (hk : k < n) {i : Int} (hi : i = (k : Int)) : S kX4_at 0 [rr a, ii i] I (q_p (ii (I a k)) I) := by
  have hn : n < 1000 := by have := x_sh_lt a; rw [ha] at this; exact this
  subst hi
  have h := t_at ha la2 I (k : Int) (by omega)
  rw [if_pos (by omega), Int.toNat_natCast] at h
  exact h
set_option maxRecDepth 20000 in
set_option maxHeartbeats 4000000 in
theorem t_putk {a n : Nat} (ha : x_sh a = (0, n)) (la : a < 90) (I : xI) (k : Nat) (hk : k < n) {i : Int} (hi : i = (k : Int)) (z : Int) : S kX4_put 0 [rr a, ii i, ii z] I (q_v (fun I1 => I1 = x_up I a k z)) := by
  have hn : n < 1000 := by have := x_sh_lt a; rw [ha] at this; exact this
  have la2 : x_live 90 a := Or.inl la
  subst hi
  refine Sp_intro (by decide +kernel) (Nat.le_of_ble_eq_true rfl) ?_
  show Y kX4_put 0 0 [some (rr a), some (ii (k : Int)), some (ii z)] [] I _
  refine X_iload dX4_put_0 rfl ?_
  refine X_if_lt (tgt := 14) dX4_put_1 (by decide) (by omega) (fun c_1 => absurd c_1 (by omega)) (fun c_1 => ?_)
  refine X_iload dX4_put_4 rfl ?_
  refine X_aload dX4_put_5 rfl ?_
  refine X_alen dX4_put_6 ha la2 ?_
  refine X_icmp_ge (tgt := 14) dX4_put_7 (by decide) (by omega) (fun c_7 => absurd c_7 (by omega)) (fun c_7 => ?_)
  refine X_aload dX4_put_10 rfl ?_
  refine X_iload dX4_put_11 rfl ?_
  refine X_iload dX4_put_12 rfl ?_
  refine X_iast dX4_put_13 ha la (by omega) ?_
  refine X_vret dX4_put_14 rfl ?_
  exact ⟨rfl, rfl, rfl, by rw [Int.toNat_natCast]⟩
set_option maxRecDepth 20000 in
set_option maxHeartbeats 4000000 in
theorem t_raisek {a n : Nat} (ha : x_sh a = (0, n)) (la : a < 90) (I : xI) (k : Nat) (hk : k < n) {i : Int} (hi : i = (k : Int)) (z : Int) : S kX4_raise 0 [rr a, ii i, ii z] I (q_v (fun I1 => I1 = x_up I a k (I a k + z))) := by
  have hn : n < 1000 := by have := x_sh_lt a; rw [ha] at this; exact this
  have la2 : x_live 90 a := Or.inl la
  subst hi
  refine Sp_intro (by decide +kernel) (Nat.le_of_ble_eq_true rfl) ?_
  show Y kX4_raise 0 0 [some (rr a), some (ii (k : Int)), some (ii z)] [] I _
  refine X_iload dX4_raise_0 rfl ?_
  refine X_if_lt (tgt := 17) dX4_raise_1 (by decide) (by omega) (fun c_1 => absurd c_1 (by omega)) (fun c_1 => ?_)
  refine X_iload dX4_raise_4 rfl ?_
  refine X_aload dX4_raise_5 rfl ?_
  refine X_alen dX4_raise_6 ha la2 ?_
  refine X_icmp_ge (tgt := 17) dX4_raise_7 (by decide) (by omega) (fun c_7 => absurd c_7 (by omega)) (fun c_7 => ?_)
  refine X_aload dX4_raise_10 rfl ?_
  refine X_iload dX4_raise_11 rfl ?_
  refine X_dup2 dX4_raise_12 ?_
  refine X_iald dX4_raise_13 ha la2 (by omega) ?_
  refine X_iload dX4_raise_14 rfl ?_
  refine X_iadd dX4_raise_15 ?_
  refine X_iast dX4_raise_16 ha la (by omega) ?_
  refine X_vret dX4_raise_17 rfl ?_
  exact ⟨rfl, rfl, rfl, by rw [Int.toNat_natCast]⟩
set_option maxRecDepth 20000 in
set_option maxHeartbeats 4000000 in
theorem t_copyRow {a b n m : Nat} (ha : x_sh a = (0, n)) (la2 : x_live 90 a) (hb : x_sh b = (0, m)) (lb : b < 90) (I : xI) : S kX4_copyRow 1 [rr a, rr b] I (q_v (fun I1 => I1 = x_cp I a b (min n m))) := by
  have hn : n < 1000 := by have := x_sh_lt a; rw [ha] at this; exact this
  have hm : m < 1000 := by have := x_sh_lt b; rw [hb] at this; exact this
  have lb2 : x_live 90 b := Or.inl lb
  refine Sp_intro (by decide +kernel) (Nat.le_of_ble_eq_true rfl) ?_
  show Y kX4_copyRow 1 0 [some (rr a), some (rr b)] [] I _
  refine X_aload dX4_copyRow_0 rfl ?_
  refine X_iconst dX4_copyRow_1 ?_
  refine X_aload dX4_copyRow_2 rfl ?_
  refine X_iconst dX4_copyRow_3 ?_
  refine X_aload dX4_copyRow_4 rfl ?_
  refine X_alen dX4_copyRow_5 ha la2 ?_
  refine X_aload dX4_copyRow_6 rfl ?_
  refine X_alen dX4_copyRow_7 hb lb2 ?_
  refine X_min dX4_copyRow_8 rfl lk_X4_205 (by omega) (by omega) (by decide) (Nat.le_of_ble_eq_true rfl) ?_
  refine X_copy dX4_copyRow_11 rfl lk_X4_210 ha la2 hb lb (by omega) (by decide) (Nat.le_of_ble_eq_true rfl) ?_
  refine X_vret dX4_copyRow_14 rfl ?_
  exact ⟨rfl, rfl, rfl, by congr 1; omega⟩
def x_cg (I : xI) (a k i : Nat) : xI := fun c j => if c = a ∧ k ≤ j ∧ j < i then I a (j + 1) else I c j
theorem x_cg_next (I : xI) (a k i : Nat) (h : k ≤ i) : x_up (x_cg I a k i) a i (I a (i + 1)) = x_cg I a k (i + 1) := by
  funext c j
  unfold x_up x_cg
  by_cases h1 : c = a
  · subst h1
    by_cases h2 : j = i
    · subst h2; rw [if_pos ⟨rfl, rfl⟩, if_pos (by omega)]
    · rw [if_neg (by omega)]
      by_cases h3 : k ≤ j ∧ j < i
      · rw [if_pos (by omega), if_pos (by omega)]
      · rw [if_neg (by omega), if_neg (by omega)]
  · rw [if_neg (by omega), if_neg (by omega), if_neg (by omega)]
set_option maxRecDepth 20000 in
set_option maxHeartbeats 4000000 in
theorem t_closeGap_loop {a n : Nat} (ha : x_sh a = (0, n)) (la : a < 90) (I : xI) (k : Nat) : ∀ (m i : Nat), i + 1 + m = n → k ≤ i → Y kX4_closeGap 1 6 [some (rr a), some (ii (k : Int)), some (ii (i : Int))] [] (x_cg I a k i) (q_v (fun I1 => I1 = x_cg I a k (n - 1))) := by
  have hn : n < 1000 := by have := x_sh_lt a; rw [ha] at this; exact this
  have la2 : x_live 90 a := Or.inl la
  intro m
  induction m with
  | zero =>
    intro i hi hk
    refine X_iload dX4_closeGap_6 rfl ?_
    refine X_iconst dX4_closeGap_7 ?_
    refine X_iadd dX4_closeGap_8 ?_
    refine X_aload dX4_closeGap_9 rfl ?_
    refine X_alen dX4_closeGap_10 ha la2 ?_
    refine X_icmp_ge (tgt := 28) dX4_closeGap_11 (by decide) (by omega) (fun c_11 => ?_) (fun c_11 => absurd c_11 (by omega))
    refine X_vret dX4_closeGap_28 rfl ?_
    exact ⟨rfl, rfl, rfl, by rw [show n - 1 = i by omega]⟩
  | succ m ih =>
    intro i hi hk
    refine X_iload dX4_closeGap_6 rfl ?_
    refine X_iconst dX4_closeGap_7 ?_
    refine X_iadd dX4_closeGap_8 ?_
    refine X_aload dX4_closeGap_9 rfl ?_
    refine X_alen dX4_closeGap_10 ha la2 ?_
    refine X_icmp_ge (tgt := 28) dX4_closeGap_11 (by decide) (by omega) (fun c_11 => absurd c_11 (by omega)) (fun c_11 => ?_)
    refine X_aload dX4_closeGap_14 rfl ?_
    refine X_iload dX4_closeGap_15 rfl ?_
    refine X_aload dX4_closeGap_16 rfl ?_
    refine X_iload dX4_closeGap_17 rfl ?_
    refine X_iconst dX4_closeGap_18 ?_
    refine X_iadd dX4_closeGap_19 ?_
    refine X_iald dX4_closeGap_20 ha la2 (by omega) ?_
    refine X_iast dX4_closeGap_21 ha la (by omega) ?_
    refine X_iinc dX4_closeGap_22 rfl ?_
    dsimp only [List.set]
    refine X_goto (tgt := 6) dX4_closeGap_25 (by decide) ?_
    have e : ((i : Int) + 1).toNat = i + 1 := by omega
    have e2 : x_cg I a k i a (i + 1) = I a (i + 1) := by unfold x_cg; rw [if_neg (by omega)]
    rw [e, e2, Int.toNat_natCast, x_cg_next I a k i hk]
    exact ih (i + 1) (by omega) (by omega)
set_option maxRecDepth 20000 in
set_option maxHeartbeats 4000000 in
theorem t_closeGap {a n : Nat} (ha : x_sh a = (0, n)) (la : a < 90) (I : xI) (k : Nat) (hk : k < n) {i : Int} (hi : i = (k : Int)) : S kX4_closeGap 1 [rr a, ii i] I (q_v (fun I1 => I1 = x_cg I a k (n - 1))) := by
  have hn : n < 1000 := by have := x_sh_lt a; rw [ha] at this; exact this
  have la2 : x_live 90 a := Or.inl la
  subst hi
  refine Sp_intro (by decide +kernel) (Nat.le_of_ble_eq_true rfl) ?_
  show Y kX4_closeGap 1 0 [some (rr a), some (ii (k : Int)), none] [] I _
  refine X_iload dX4_closeGap_0 rfl ?_
  refine X_iconst dX4_closeGap_1 ?_
  refine X_max dX4_closeGap_2 rfl lk_X4_216 (by omega) (by omega) (by decide) (Nat.le_of_ble_eq_true rfl) ?_
  refine X_istore dX4_closeGap_5 (by decide) ?_
  dsimp only [List.set]
  rw [show max (k : Int) 0 = (k : Int) by omega]
  have h0 : x_cg I a k k = I := by funext c j; unfold x_cg; rw [if_neg (by omega)]
  have h := t_closeGap_loop ha la I k (n - 1 - k) k (by omega) (Nat.le_refl k)
  rw [h0] at h
  exact h
