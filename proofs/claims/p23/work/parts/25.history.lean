/-! History: a ring of four states -/
def hB (i : Nat) : Nat := 36 + 11 * i
theorem hB_st {i : Nat} (h : i < 4) : x_st (hB i) := by
  unfold hB x_st
  rcases (by omega : i = 0 ∨ i = 1 ∨ i = 2 ∨ i = 3) with q | q | q | q <;> subst q <;> decide
theorem rf_35 {k : Nat} (h : k < 4) : xR0 35 k = some (hB k) := by
  rcases (by omega : k = 0 ∨ k = 1 ∨ k = 2 ∨ k = 3) with q | q | q | q <;> subst q <;> rfl
def HIx (I : xI) (f : Nat) (hs : List xS) : Prop := f < 4 ∧ I 34 1 = f ∧ I 34 2 = hs.length ∧ ∀ (j : Nat) (s : xS), hs[j]? = some s → RS I (hB ((f + j) % 4)) s.1 s.2
def HI (I : xI) (hs : List xS) : Prop := ∃ f, HIx I f hs
/-- outside the history -/
def FH (I I1 : xI) : Prop := ∀ q, (q < 34 ∨ 80 ≤ q) → I1 q = I q
theorem HIx.keep {I I1 : xI} {f : Nat} {hs : List xS} (h : HIx I f hs) (e : ∀ q, 34 ≤ q → q < 80 → I1 q = I q) : HIx I1 f hs := by
  obtain ⟨h1, h2, h3, h4⟩ := h
  refine ⟨h1, by rw [e 34 (by decide) (by decide)]; exact h2, by rw [e 34 (by decide) (by decide)]; exact h3, fun j s hj => (h4 j s hj).keep (fun q a b => e q ?_ ?_)⟩
  · have hm : (f + j) % 4 < 4 := Nat.mod_lt _ (by decide)
    unfold hB at a; omega
  · have hm : (f + j) % 4 < 4 := Nat.mod_lt _ (by decide)
    unfold hB at b; omega
set_option maxRecDepth 20000 in
set_option maxHeartbeats 4000000 in
theorem t_stateAt {I : xI} {f a : Nat} (hf : I 34 1 = f) (hf4 : f < 4) (ha : a ≤ 4) {i : Int} (hi : i = (a : Int)) : S kX0_stateAt 0 [rr 34, ii i] I (q_p (rr (hB ((f + a) % 4))) I) := by
  subst hi
  refine Sp_intro (by decide +kernel) (Nat.le_of_ble_eq_true rfl) ?_
  show Y kX0_stateAt 0 0 [some (rr 34), some (ii (a : Int)), none] [] I _
  refine X_aload dX0_stateAt_0 rfl ?_
  refine X_getI dX0_stateAt_1 rfl gf_X0_17 sh_34 (by decide) rfl ?_
  rw [hf]
  refine X_iload dX0_stateAt_4 rfl ?_
  refine X_iadd dX0_stateAt_5 ?_
  refine X_iconst dX0_stateAt_6 ?_
  refine X_irem dX0_stateAt_7 (by omega) (by omega) ?_
  have e4 : ((f : Int) + (a : Int)) % 4 = (((f + a) % 4 : Nat) : Int) := by omega
  rw [e4]
  have hm : (f + a) % 4 < 4 := Nat.mod_lt _ (by decide)
  generalize (f + a) % 4 = m at hm ⊢
  refine X_istore dX0_stateAt_8 (by decide) ?_
  dsimp only [List.set]
  refine X_iload dX0_stateAt_9 rfl ?_
  refine X_if_lt (tgt := 31) dX0_stateAt_10 (by decide) (by omega) (fun c_10 => absurd c_10 (by omega)) (fun c_10 => ?_)
  refine X_iload dX0_stateAt_13 rfl ?_
  refine X_aload dX0_stateAt_14 rfl ?_
  refine X_getR dX0_stateAt_15 rfl gf_X0_11 sh_34 (by decide) rfl rf_34_0 ?_
  refine X_alenR dX0_stateAt_18 sh_35 (Or.inl (by decide)) ?_
  refine X_icmp_ge (tgt := 31) dX0_stateAt_19 (by decide) (by omega) (fun c_19 => absurd c_19 (by omega)) (fun c_19 => ?_)
  refine X_aload dX0_stateAt_22 rfl ?_
  refine X_getR dX0_stateAt_23 rfl gf_X0_11 sh_34 (by decide) rfl rf_34_0 ?_
  refine X_iload dX0_stateAt_26 rfl ?_
  refine X_aald dX0_stateAt_27 sh_35 (Or.inl (by decide)) (by omega) (rf_35 (k := m) hm) ?_
  refine X_goto (tgt := 32) dX0_stateAt_28 (by decide) ?_
  refine X_aret dX0_stateAt_32 rfl ?_
  exact ⟨rfl, rfl, rfl, rfl⟩
theorem hs_push {J K : xI} {f : Nat} {hs : List xS} {s : xS} (h : HIx J f hs) (hl : hs.length < 4) (hR : RS K (hB ((f + hs.length) % 4)) s.1 s.2) (hF : FR J K (hB ((f + hs.length) % 4))) : HIx (x_up K 34 2 ((hs.length : Int) + 1)) f (hs ++ [s]) := by
  obtain ⟨h1, h2, h3, h4⟩ := h
  have hm : (f + hs.length) % 4 < 4 := Nat.mod_lt _ (by decide)
  have k34 : ∀ (i : Nat), i < 4 → ∀ (g : Nat → Int) (n : Nat), RS K (hB i) g n → RS (x_up K 34 2 ((hs.length : Int) + 1)) (hB i) g n := fun i hi g n hr => hr.keep (fun q a b => x_up_ne (by unfold hB at a; omega))
  refine ⟨h1, by rw [x_up_offj (by decide), hF 34 (by unfold hB; omega)]; exact h2, by rw [x_up_same, List.length_append]; rfl, fun j q hj => ?_⟩
  have hm2 : (f + j) % 4 < 4 := Nat.mod_lt _ (by decide)
  refine k34 _ hm2 _ _ ?_
  by_cases e : j < hs.length
  · rw [List.getElem?_append_left e] at hj
    refine (h4 j q hj).keep (fun p a b => hF p ?_)
    unfold hB at a b ⊢
    omega
  · have hlt := (List.getElem?_eq_some_iff.mp hj).1
    rw [List.length_append] at hlt
    have e2 : j = hs.length := by simp at hlt; omega
    subst e2
    rw [List.getElem?_append_right (Nat.le_refl _), Nat.sub_self] at hj
    cases hj
    exact hR
theorem hs_drop {I : xI} {f : Nat} {hs : List xS} (h : HIx I f hs) (hl : hs.length = 4) : HIx (x_up (x_up I 34 1 (((f : Int) + 1) % 4)) 34 2 ((hs.length : Int) - 1)) ((f + 1) % 4) hs.tail := by
  obtain ⟨h1, h2, h3, h4⟩ := h
  refine ⟨Nat.mod_lt _ (by decide), by rw [x_up_offj (by decide), x_up_same]; omega, by rw [x_up_same, List.length_tail]; omega, fun j s hj => ?_⟩
  have hm2 : ((f + 1) % 4 + j) % 4 < 4 := Nat.mod_lt _ (by decide)
  rw [List.getElem?_tail] at hj
  have := h4 (j + 1) s hj
  rw [show (f + (j + 1)) % 4 = ((f + 1) % 4 + j) % 4 by omega] at this
  exact this.keep (fun q a b => by rw [x_up_ne (by unfold hB at a; omega), x_up_ne (by unfold hB at a; omega)])
set_option maxRecDepth 20000 in
set_option maxHeartbeats 4000000 in
theorem t_record_tail {J : xI} {f : Nat} {hs : List xS} {g : Nat → Int} {n : Nat} (h : HIx J f hs) (hl : hs.length < 4) (hR : RS J 1 g n) (hn24 : n ≤ 24) : Y kX0_record 3 30 [some (rr 34), some (rr 1), none] [] J (q_v (fun K => HIx K f (hs ++ [(g, n)]) ∧ FH J K)) := by
  obtain ⟨h1, h2, h3, h4⟩ := h
  refine X_aload dX0_record_30 rfl ?_
  refine X_aload dX0_record_31 rfl ?_
  refine X_getI dX0_record_32 rfl gf_X0_21 sh_34 (by decide) rfl ?_
  rw [h3]
  refine Y_pV dX0_record_35 cv_X0_25 sh_34 (by decide) (t_stateAt h2 h1 (by omega) rfl) rfl ?_
  have hm4 : (f + hs.length) % 4 < 4 := Nat.mod_lt _ (by decide)
  have hC := hB_st hm4
  have lC := st_lt hC
  have hlo : 36 ≤ hB ((f + hs.length) % 4) ∧ hB ((f + hs.length) % 4) ≤ 69 := by unfold hB; omega
  obtain ⟨C, eC⟩ : ∃ C, C = hB ((f + hs.length) % 4) := ⟨_, rfl⟩
  rw [← eC] at hC lC hlo ⊢
  refine X_astore dX0_record_38 (by decide) ?_
  dsimp only [List.set]
  refine X_aload dX0_record_39 rfl ?_
  refine X_ifnull dX0_record_40 ?_
  refine X_aload dX0_record_43 rfl ?_
  refine X_aload dX0_record_44 rfl ?_
  refine Y_vV dX0_record_45 cv_X0_29 (sh_st hC) (by omega) (t_copyFrom hC (Or.inl rfl) (by omega) hR hn24) rfl (fun K hK => ?_)
  obtain ⟨hRK, hFK⟩ := hK
  refine X_aload dX0_record_48 rfl ?_
  refine X_dup dX0_record_49 ?_
  refine X_getI dX0_record_50 rfl gf_X0_21 sh_34 (by decide) rfl ?_
  rw [hFK 34 (by omega), h3]
  refine X_iconst dX0_record_53 ?_
  refine X_iadd dX0_record_54 ?_
  refine X_putI dX0_record_55 rfl pf_X0_21 sh_34 (by decide) rfl (Or.inl rfl) ?_
  refine X_vret dX0_record_58 rfl ?_
  refine ⟨rfl, rfl, rfl, hs_push ⟨h1, h2, h3, h4⟩ hl (eC ▸ hRK) (eC ▸ hFK), fun q hq => ?_⟩
  rw [x_up_ne (by omega)]
  exact hFK q (by omega)
set_option maxRecDepth 20000 in
set_option maxHeartbeats 4000000 in
theorem t_record {I : xI} {hs : List xS} {g : Nat → Int} {n : Nat} (hh : HI I hs) (hl4 : hs.length ≤ 4) (hR : RS I 1 g n) (hn24 : n ≤ 24) : S kX0_record 3 [rr 34, rr 1] I (q_v (fun K => HI K (pushH hs (g, n)) ∧ FH I K)) := by
  obtain ⟨f, h⟩ := hh
  have hf4 := h.1
  refine Sp_intro (by decide +kernel) (Nat.le_of_ble_eq_true rfl) ?_
  show Y kX0_record 3 0 [some (rr 34), some (rr 1), none] [] I _
  by_cases h4l : hs.length = 4
  · refine X_aload dX0_record_0 rfl ?_
    refine X_getI dX0_record_1 rfl gf_X0_21 sh_34 (by decide) rfl ?_
    rw [h.2.2.1]
    refine X_iconst dX0_record_4 ?_
    refine X_icmp_lt (tgt := 30) dX0_record_5 (by decide) (by omega) (fun c_5 => absurd c_5 (by omega)) (fun c_5 => ?_)
    refine X_aload dX0_record_8 rfl ?_
    refine X_aload dX0_record_9 rfl ?_
    refine X_getI dX0_record_10 rfl gf_X0_17 sh_34 (by decide) rfl ?_
    rw [h.2.1]
    refine X_iconst dX0_record_13 ?_
    refine X_iadd dX0_record_14 ?_
    refine X_iconst dX0_record_15 ?_
    refine X_irem dX0_record_16 (by omega) (by omega) ?_
    refine X_putI dX0_record_17 rfl pf_X0_17 sh_34 (by decide) rfl (Or.inl rfl) ?_
    refine X_aload dX0_record_20 rfl ?_
    refine X_dup dX0_record_21 ?_
    refine X_getI dX0_record_22 rfl gf_X0_21 sh_34 (by decide) rfl ?_
    rw [x_up_offj (by decide), h.2.2.1]
    refine X_iconst dX0_record_25 ?_
    refine X_isub dX0_record_26 ?_
    refine X_putI dX0_record_27 rfl pf_X0_21 sh_34 (by decide) rfl (Or.inl rfl) ?_
    have hd := hs_drop h h4l
    refine X_weaken (t_record_tail hd (by rw [List.length_tail]; omega) (hR.keep (fun q a b => by rw [x_up_ne (by omega), x_up_ne (by omega)])) hn24) (fun ro N1 I1 R1 q => ?_)
    obtain ⟨q1, q2, q3, q4, q5⟩ := q
    refine ⟨q1, q2, q3, ⟨(f + 1) % 4, ?_⟩, fun p hp => ?_⟩
    · unfold pushH
      rw [if_pos h4l]
      exact q4
    · rw [q5 p hp, x_up_ne (by omega), x_up_ne (by omega)]
  · refine X_aload dX0_record_0 rfl ?_
    refine X_getI dX0_record_1 rfl gf_X0_21 sh_34 (by decide) rfl ?_
    rw [h.2.2.1]
    refine X_iconst dX0_record_4 ?_
    refine X_icmp_lt (tgt := 30) dX0_record_5 (by decide) (by omega) (fun c_5 => ?_) (fun c_5 => absurd c_5 (by omega))
    refine X_weaken (t_record_tail h (by omega) hR hn24) (fun ro N1 I1 R1 q => ?_)
    obtain ⟨q1, q2, q3, q4, q5⟩ := q
    refine ⟨q1, q2, q3, ⟨f, ?_⟩, q5⟩
    unfold pushH
    rw [if_neg h4l]
    exact q4
theorem hs_pop {I K : xI} {f : Nat} {hs : List xS} {s : xS} (h : HIx I f (hs ++ [s])) (hF : FR I K 1) : HIx (x_up K 34 2 ((hs.length : Nat) : Int)) f hs := by
  obtain ⟨h1, h2, h3, h4⟩ := h
  refine ⟨h1, by rw [x_up_offj (by decide), hF 34 (by omega)]; exact h2, x_up_same, fun j q hj => ?_⟩
  have hm2 : (f + j) % 4 < 4 := Nat.mod_lt _ (by decide)
  have hlt := (List.getElem?_eq_some_iff.mp hj).1
  have := h4 j q (by rw [List.getElem?_append_left hlt]; exact hj)
  exact this.keep (fun p a b => by rw [x_up_ne (by unfold hB at a; omega)]; exact hF p (by unfold hB at a; omega))
set_option maxRecDepth 20000 in
set_option maxHeartbeats 4000000 in
theorem t_take0 {I : xI} (hh : HI I []) : S kX0_takeLatest 3 [rr 34, rr 1] I (q_i (fun z K => z = 0 ∧ K = I)) := by
  obtain ⟨f, h⟩ := hh
  refine Sp_intro (by decide +kernel) (Nat.le_of_ble_eq_true rfl) ?_
  show Y kX0_takeLatest 3 0 [some (rr 34), some (rr 1), none] [] I _
  have h32 := h.2.2.1
  change I 34 2 = ((0 : Nat) : Int) at h32
  refine X_aload dX0_takeLatest_0 rfl ?_
  refine X_getI dX0_takeLatest_1 rfl gf_X0_21 sh_34 (by decide) rfl ?_
  rw [show I 34 2 = (0 : Int) from h32]
  refine X_if_gt (tgt := 9) dX0_takeLatest_4 (by decide) (by decide) (fun c_4 => absurd c_4 (by decide)) (fun c_4 => ?_)
  refine X_iconst dX0_takeLatest_7 ?_
  refine X_iret dX0_takeLatest_8 (Or.inr ⟨rfl, by omega⟩) ?_
  exact ⟨rfl, rfl, _, rfl, rfl, rfl⟩
set_option maxRecDepth 20000 in
set_option maxHeartbeats 4000000 in
theorem t_take1 {I : xI} {hs : List xS} {s : xS} (hh : HI I (hs ++ [s])) (hl : hs.length < 4) (hn24 : s.2 ≤ 24) : S kX0_takeLatest 3 [rr 34, rr 1] I (q_i (fun z K => z = 1 ∧ RS K 1 s.1 s.2 ∧ HI K hs ∧ (∀ q, (q < 1 ∨ 12 ≤ q) → q ≠ 34 → K q = I q))) := by
  obtain ⟨f, h⟩ := hh
  have hf4 := h.1
  have hlen : (hs ++ [s]).length = hs.length + 1 := by rw [List.length_append]; rfl
  have hL := h.2.2.2 hs.length s (by rw [List.getElem?_append_right (Nat.le_refl _), Nat.sub_self]; rfl)
  refine Sp_intro (by decide +kernel) (Nat.le_of_ble_eq_true rfl) ?_
  show Y kX0_takeLatest 3 0 [some (rr 34), some (rr 1), none] [] I _
  refine X_aload dX0_takeLatest_0 rfl ?_
  refine X_getI dX0_takeLatest_1 rfl gf_X0_21 sh_34 (by decide) rfl ?_
  rw [h.2.2.1, hlen]
  refine X_if_gt (tgt := 9) dX0_takeLatest_4 (by decide) (by omega) (fun c_4 => ?_) (fun c_4 => absurd c_4 (by omega))
  refine X_aload dX0_takeLatest_9 rfl ?_
  refine X_aload dX0_takeLatest_10 rfl ?_
  refine X_getI dX0_takeLatest_11 rfl gf_X0_21 sh_34 (by decide) rfl ?_
  rw [h.2.2.1, hlen]
  refine X_iconst dX0_takeLatest_14 ?_
  refine X_isub dX0_takeLatest_15 ?_
  have e5 : ((hs.length + 1 : Nat) : Int) - 1 = ((hs.length : Nat) : Int) := by omega
  rw [e5]
  refine Y_pV dX0_takeLatest_16 cv_X0_25 sh_34 (by decide) (t_stateAt h.2.1 h.1 (by omega) rfl) rfl ?_
  have hm4 : (f + hs.length) % 4 < 4 := Nat.mod_lt _ (by decide)
  have hC := hB_st hm4
  have lC := st_lt hC
  have hlo : 36 ≤ hB ((f + hs.length) % 4) ∧ hB ((f + hs.length) % 4) ≤ 69 := by unfold hB; omega
  obtain ⟨C, eC⟩ : ∃ C, C = hB ((f + hs.length) % 4) := ⟨_, rfl⟩
  rw [← eC] at hC lC hlo hL ⊢
  refine X_astore dX0_takeLatest_19 (by decide) ?_
  dsimp only [List.set]
  refine X_aload dX0_takeLatest_20 rfl ?_
  refine X_ifnonnull (tgt := 26) dX0_takeLatest_21 (by decide) ?_
  refine X_aload dX0_takeLatest_26 rfl ?_
  refine X_aload dX0_takeLatest_27 rfl ?_
  refine Y_vV dX0_takeLatest_28 cv_X0_29 sh_1 (by decide) (t_copyFrom (Or.inl rfl) hC (by omega) hL hn24) rfl (fun K hK => ?_)
  obtain ⟨hRK, hFK⟩ := hK
  refine X_aload dX0_takeLatest_31 rfl ?_
  refine X_dup dX0_takeLatest_32 ?_
  refine X_getI dX0_takeLatest_33 rfl gf_X0_21 sh_34 (by decide) rfl ?_
  rw [hFK 34 (by omega), h.2.2.1, hlen]
  refine X_iconst dX0_takeLatest_36 ?_
  refine X_isub dX0_takeLatest_37 ?_
  refine X_putI dX0_takeLatest_38 rfl pf_X0_21 sh_34 (by decide) rfl (Or.inl rfl) ?_
  refine X_iconst dX0_takeLatest_41 ?_
  refine X_iret dX0_takeLatest_42 (Or.inr ⟨rfl, by omega⟩) ?_
  refine ⟨rfl, rfl, _, rfl, rfl, hRK.keep (fun q a b => x_up_ne (by omega)), ⟨f, ?_⟩, fun q a b => by rw [x_up_ne b]; exact hFK q (by omega)⟩
  have e5 : ((hs.length + 1 : Nat) : Int) - 1 = ((hs.length : Nat) : Int) := by omega
  rw [e5]
  exact hs_pop h hFK
