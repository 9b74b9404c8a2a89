/-! isNight -/
/-- some state, with the law's rows whatever they are -/
def NY (e : Nat) (I : xI) : Prop := ∃ (s1 : xS) (J1 : xI), WK s1 J1 I ∧ IV s1.1 s1.2 ∧ EV s1 e
theorem CI.wm {I I1 : xI} {s : xS} {hs : List xS} {sn : Option xS} {tx : Nat → Int} {len : Nat} (h : CI I s hs sn tx len) (e : ∀ q, q ≠ 88 → q ≠ 89 → I1 q = I q) : CI I1 s hs sn tx len :=
  ⟨⟨fun j hj => by rw [e 101 (by decide) (by decide)]; exact h.1.1 j hj, fun j hj => by rw [e 100 (by decide) (by decide)]; exact h.1.2 j hj⟩, h.2.1.keep (fun q a b => e q (by omega) (by omega)), h.2.2.1.keep (fun q a b => e q (by omega) (by omega)), h.2.2.2.1.keep (fun q hq => e q (by omega) (by omega)), by rw [e 83 (by decide) (by decide)]; exact h.2.2.2.2.1, fun j hj => by rw [e 84 (by decide) (by decide)]; exact h.2.2.2.2.2 j hj⟩
theorem WK.st {s : xS} {J I : xI} (h : WK s J I) {q : Nat} (hq : q = 88 ∨ q = 89) (j : Nat) (z : Int) : WK s (x_up J q j z) (x_up I q j z) := by
  obtain ⟨hs, h1, h2, h3⟩ := h
  refine ⟨hs, h1.wm (fun p a b => x_up_ne (by omega)), fun p hp => ?_, h3⟩
  funext k
  rw [x_up_app, x_up_app, h2 p hp]
theorem pass_ok {s : xS} {t : Nat} (ht : 1 ≤ t ∧ t ≤ 99) (h17 : s.1 17 + (t : Int) ≤ 5000) : (oPass s (t : Int)).1 = nsM s.1 s.2 (s.1 3) t ∧ nxS s (oPass s (t : Int)) = (npG s.1 s.2 t, s.2) := by
  have hb := nsM_bounds s.1 s.2 (s.1 3) t
  have e1 : (oPass s (t : Int)).1 = nsM s.1 s.2 (s.1 3) t := by
    show (if (t : Int) < 1 ∨ 99 < (t : Int) then (-2 : Int) else if 5000 < s.1 17 + (t : Int) then -3 else nsM s.1 s.2 (s.1 3) (t : Int).toNat) = _
    rw [if_neg (by omega), if_neg (by omega), Int.toNat_natCast]
  refine ⟨e1, ?_⟩
  unfold nxS
  rw [e1, if_pos hb.1]
  show (npG s.1 s.2 (t : Int).toNat, s.2) = _
  rw [Int.toNat_natCast]
/-- what the law wrote down of each block before the night -/
def mvd (s : xS) (k : Nat) : Int := 8 * gb s.1 k 7 + (if (ntU s.1 s.2 (s.1 3)).2.1 k = 0 then 4 else 0) + gb s.1 k 3
def MW (s : xS) (J : xI) (r : Nat) : Prop := ∀ q, q < r → J 88 q = gb s.1 (rp s.1 s.2 q) 0 ∧ J 89 q = mvd s (rp s.1 s.2 q)
theorem MW.step {s : xS} {J : xI} {r k : Nat} (h : MW s J r) (hk : rp s.1 s.2 r = k) : MW s (x_up (x_up J 88 r (gb s.1 k 0)) 89 r (mvd s k)) (r + 1) := by
  intro q hq
  rw [x_up_off (by decide), x_up_app, x_up_app, x_up_off (by decide)]
  by_cases e : q = r
  · subst e
    rw [if_pos ⟨rfl, rfl⟩, if_pos ⟨rfl, rfl⟩, hk]
    exact ⟨rfl, rfl⟩
  · rw [if_neg (by omega), if_neg (by omega)]
    exact h q (by omega)
def dueP (s : xS) (r : Nat) : Int := sm (fun q => if (ntU s.1 s.2 (s.1 3)).2.1 (rp s.1 s.2 q) = 0 then 1 else 0) r
def heatP (s : xS) (r : Nat) : Int := sm (fun q => gb s.1 (rp s.1 s.2 q) 2 * s.1 0 / 100) r
theorem dueP_step {s : xS} {r k : Nat} (hk : rp s.1 s.2 r = k) : dueP s (r + 1) = dueP s r + (if (ntU s.1 s.2 (s.1 3)).2.1 k = 0 then 1 else 0) := by
  subst hk
  rfl
theorem heatP_step {s : xS} {r k : Nat} (hk : rp s.1 s.2 r = k) : heatP s (r + 1) = heatP s r + gb s.1 k 2 * s.1 0 / 100 := by
  subst hk
  rfl
theorem dueP_end (s : xS) : dueP s s.2 = y0 (ntU s.1 s.2 (s.1 3)).2.1 s.2 := rp_sum (fun k => if (ntU s.1 s.2 (s.1 3)).2.1 k = 0 then 1 else 0)
theorem heatP_end (s : xS) : heatP s s.2 = sm (fun k => gb s.1 k 2 * s.1 0 / 100) s.2 := rp_sum (fun k => gb s.1 k 2 * s.1 0 / 100)
set_option maxRecDepth 20000 in
set_option maxHeartbeats 4000000 in
theorem n_second {s s1 : xS} {J : xI} {e : Nat} (he : e ≤ 100) (hG : GI s.1 s.2) (hI : IV s.1 s.2) (hE : EV s e) (h17 : 0 ≤ s.1 17 ∧ s.1 17 ≤ 5000) (h1 : s1 = (npG s.1 s.2 1, s.2)) (hI1 : IV s1.1 s1.2) (hE1 : EV s1 e) (hM : MW s J s.2) : ∀ (m r : Nat), r + m = s.2 → ∀ I, WK s1 J I → Y kL_isNight 7 408 [some (rr 0), some (rr 88), some (rr 89), some (ii (s.2 : Int)), none, none, none, none, none, none, none, some (ii (r : Int)), none, none] [] I (q_i (fun ans I2 => ans = 1 ∧ NY e I2)) := by
  have hn24 := hG.n24
  have hN1 := hI1.2.2.1
  have f4 : s1.1 4 = s.1 4 := by rw [h1]; show npG s.1 s.2 1 4 = s.1 4; exact np_num hG hI (by decide) (by decide) (by decide) (by decide)
  intro m
  induction m with
  | zero =>
    intro r hr I hW
    refine X_iloadW dL_isNight_408 rfl ?_
    refine X_iload dL_isNight_410 rfl ?_
    refine X_icmp_ge (tgt := 539) dL_isNight_411 (by decide) (by omega) (fun c_411 => ?_) (fun c_411 => absurd c_411 (by omega))
    refine X_iconst dL_isNight_539 ?_
    refine X_iret dL_isNight_540 (Or.inr ⟨rfl, by omega⟩) ?_
    exact ⟨rfl, rfl, _, rfl, rfl, s1, J, hW, hI1, hE1⟩
  | succ m ih =>
    intro r hr I hW
    obtain ⟨k, ek⟩ : ∃ k, rp s.1 s.2 r = k := ⟨_, rfl⟩
    have hk : k < s.2 := by rw [← ek]; exact (rp_ok (by omega)).2.1
    have hk1 : k < s1.2 := by rw [h1]; exact hk
    have hb := hG.b hk
    have hb1 := hW.g.b hk1
    have h7 := hI.2.2.2.2.2 k hk
    have h22 := hE.2
    have g1 : ∀ j, gb s1.1 k j = gb (ntU s.1 s.2 (s.1 3)).1 k j := fun j => by rw [h1]; exact np1_gb
    obtain ⟨q0, q1, q2, q3, q4, q6, q⟩ := night_k (most := s.1 3) hG hI hk
    rw [← g1] at q0
    rw [← g1, ← g1, ← g1] at q
    rcases q with ⟨y9, p3, p7, p5⟩ | ⟨y9, p3, p7, q5, p5⟩
    · have em : mvd s k = 8 * gb s.1 k 7 + 0 + gb s.1 k 3 := by unfold mvd; rw [if_neg y9]
      refine X_iloadW dL_isNight_408 rfl ?_
      refine X_iload dL_isNight_410 rfl ?_
      refine X_icmp_ge (tgt := 539) dL_isNight_411 (by decide) (by omega) (fun c_411 => absurd c_411 (by omega)) (fun c_411 => ?_)
      refine X_iloadW dL_isNight_414 rfl ?_
      refine X_bipush dL_isNight_416 (by decide) ?_
      refine X_icmp_ge (tgt := 539) dL_isNight_418 (by decide) (by omega) (fun c_418 => absurd c_418 (by omega)) (fun c_418 => ?_)
      refine X_aload dL_isNight_421 rfl ?_
      refine X_aload dL_isNight_422 rfl ?_
      refine X_iloadW dL_isNight_423 rfl ?_
      refine X_iald dL_isNight_425 sh_88 (Or.inl (by decide)) (by omega) ?_
      rw [Int.toNat_natCast, congrFun (hW.fx 88 (by decide)) r, (hM r (by omega)).1, ek]
      refine X_iconst dL_isNight_426 ?_
      refine Y_iV dL_isNight_427 cv_L_18 sh_0 (by decide) (v_of2 hW hk1 hN1 q0.symm) rfl (fun z I hz => ?_)
      obtain ⟨rfl, hW⟩ := hz
      refine X_istoreW dL_isNight_430 (by decide) ?_
      dsimp only [List.set]
      refine X_aload dL_isNight_432 rfl ?_
      refine X_iloadW dL_isNight_433 rfl ?_
      refine X_iald dL_isNight_435 sh_89 (Or.inl (by decide)) (by omega) ?_
      rw [Int.toNat_natCast, congrFun (hW.fx 89 (by decide)) r, (hM r (by omega)).2, ek, em]
      refine X_iconst dL_isNight_436 ?_
      refine X_idiv dL_isNight_437 (by omega) (by omega) ?_
      refine X_iconst dL_isNight_438 ?_
      refine X_irem dL_isNight_439 (by omega) (by omega) ?_
      refine X_iconst dL_isNight_440 ?_
      refine X_icmp_ne (tgt := 448) dL_isNight_441 (by decide) (by omega) (fun c_441 => ?_) (fun c_441 => absurd c_441 (by omega))
      refine X_iconst dL_isNight_448 ?_
      refine X_istoreW dL_isNight_449 (by decide) ?_
      dsimp only [List.set]
      refine X_aload dL_isNight_451 rfl ?_
      refine X_aload dL_isNight_452 rfl ?_
      refine X_iloadW dL_isNight_453 rfl ?_
      refine X_iald dL_isNight_455 sh_88 (Or.inl (by decide)) (by omega) ?_
      rw [Int.toNat_natCast, congrFun (hW.fx 88 (by decide)) r, (hM r (by omega)).1, ek]
      refine X_bipush dL_isNight_456 (by decide) ?_
      refine Y_iV dL_isNight_458 cv_L_18 sh_0 (by decide) (v_of7 hW hk1 hN1 q0.symm) rfl (fun z I hz => ?_)
      obtain ⟨rfl, hW⟩ := hz
      refine X_aload dL_isNight_461 rfl ?_
      refine X_iloadW dL_isNight_462 rfl ?_
      refine X_iald dL_isNight_464 sh_89 (Or.inl (by decide)) (by omega) ?_
      rw [Int.toNat_natCast, congrFun (hW.fx 89 (by decide)) r, (hM r (by omega)).2, ek, em]
      refine X_bipush dL_isNight_465 (by decide) ?_
      refine X_idiv dL_isNight_467 (by omega) (by omega) ?_
      refine X_iloadW dL_isNight_468 rfl ?_
      refine X_if_eq (tgt := 477) dL_isNight_470 (by decide) (by decide) (fun c_470 => ?_) (fun c_470 => absurd rfl c_470)
      refine X_iconst dL_isNight_477 ?_
      refine X_iadd dL_isNight_478 ?_
      refine X_same_ne (tgt := 531) dL_isNight_479 (by decide) (by omega) ?_
      refine X_iloadW dL_isNight_482 rfl ?_
      refine X_aload dL_isNight_484 rfl ?_
      refine X_iloadW dL_isNight_485 rfl ?_
      refine X_iald dL_isNight_487 sh_89 (Or.inl (by decide)) (by omega) ?_
      rw [Int.toNat_natCast, congrFun (hW.fx 89 (by decide)) r, (hM r (by omega)).2, ek, em]
      refine X_iconst dL_isNight_488 ?_
      refine X_irem dL_isNight_489 (by omega) (by omega) ?_
      refine X_icmp_eq (tgt := 497) dL_isNight_490 (by decide) (by omega) (fun c_490 => ?_) (fun c_490 => absurd c_490 (by omega))
      refine X_iconst dL_isNight_497 ?_
      refine X_iloadW dL_isNight_498 rfl ?_
      refine X_same_ne (tgt := 531) dL_isNight_500 (by decide) rfl ?_
      refine X_iloadW dL_isNight_503 rfl ?_
      refine X_if_eq (tgt := 533) dL_isNight_505 (by decide) (by decide) (fun c_505 => ?_) (fun c_505 => absurd rfl c_505)
      refine X_iinc dL_isNight_533 rfl ?_
      dsimp only [List.set]
      refine X_goto (tgt := 408) dL_isNight_536 (by decide) ?_
      refine X_drop 12 ?_
      refine X_drop 13 ?_
      dsimp only [List.set]
      exact ih (r + 1) (by omega) _ hW
    · have em : mvd s k = 8 * gb s.1 k 7 + 4 + gb s.1 k 3 := by unfold mvd; rw [if_pos y9]
      refine X_iloadW dL_isNight_408 rfl ?_
      refine X_iload dL_isNight_410 rfl ?_
      refine X_icmp_ge (tgt := 539) dL_isNight_411 (by decide) (by omega) (fun c_411 => absurd c_411 (by omega)) (fun c_411 => ?_)
      refine X_iloadW dL_isNight_414 rfl ?_
      refine X_bipush dL_isNight_416 (by decide) ?_
      refine X_icmp_ge (tgt := 539) dL_isNight_418 (by decide) (by omega) (fun c_418 => absurd c_418 (by omega)) (fun c_418 => ?_)
      refine X_aload dL_isNight_421 rfl ?_
      refine X_aload dL_isNight_422 rfl ?_
      refine X_iloadW dL_isNight_423 rfl ?_
      refine X_iald dL_isNight_425 sh_88 (Or.inl (by decide)) (by omega) ?_
      rw [Int.toNat_natCast, congrFun (hW.fx 88 (by decide)) r, (hM r (by omega)).1, ek]
      refine X_iconst dL_isNight_426 ?_
      refine Y_iV dL_isNight_427 cv_L_18 sh_0 (by decide) (v_of2 hW hk1 hN1 q0.symm) rfl (fun z I hz => ?_)
      obtain ⟨rfl, hW⟩ := hz
      refine X_istoreW dL_isNight_430 (by decide) ?_
      dsimp only [List.set]
      refine X_aload dL_isNight_432 rfl ?_
      refine X_iloadW dL_isNight_433 rfl ?_
      refine X_iald dL_isNight_435 sh_89 (Or.inl (by decide)) (by omega) ?_
      rw [Int.toNat_natCast, congrFun (hW.fx 89 (by decide)) r, (hM r (by omega)).2, ek, em]
      refine X_iconst dL_isNight_436 ?_
      refine X_idiv dL_isNight_437 (by omega) (by omega) ?_
      refine X_iconst dL_isNight_438 ?_
      refine X_irem dL_isNight_439 (by omega) (by omega) ?_
      refine X_iconst dL_isNight_440 ?_
      refine X_icmp_ne (tgt := 448) dL_isNight_441 (by decide) (by omega) (fun c_441 => absurd c_441 (by omega)) (fun c_441 => ?_)
      refine X_iconst dL_isNight_444 ?_
      refine X_goto (tgt := 449) dL_isNight_445 (by decide) ?_
      refine X_istoreW dL_isNight_449 (by decide) ?_
      dsimp only [List.set]
      refine X_aload dL_isNight_451 rfl ?_
      refine X_aload dL_isNight_452 rfl ?_
      refine X_iloadW dL_isNight_453 rfl ?_
      refine X_iald dL_isNight_455 sh_88 (Or.inl (by decide)) (by omega) ?_
      rw [Int.toNat_natCast, congrFun (hW.fx 88 (by decide)) r, (hM r (by omega)).1, ek]
      refine X_bipush dL_isNight_456 (by decide) ?_
      refine Y_iV dL_isNight_458 cv_L_18 sh_0 (by decide) (v_of7 hW hk1 hN1 q0.symm) rfl (fun z I hz => ?_)
      obtain ⟨rfl, hW⟩ := hz
      refine X_aload dL_isNight_461 rfl ?_
      refine X_iloadW dL_isNight_462 rfl ?_
      refine X_iald dL_isNight_464 sh_89 (Or.inl (by decide)) (by omega) ?_
      rw [Int.toNat_natCast, congrFun (hW.fx 89 (by decide)) r, (hM r (by omega)).2, ek, em]
      refine X_bipush dL_isNight_465 (by decide) ?_
      refine X_idiv dL_isNight_467 (by omega) (by omega) ?_
      refine X_iloadW dL_isNight_468 rfl ?_
      refine X_if_eq (tgt := 477) dL_isNight_470 (by decide) (by decide) (fun c_470 => absurd c_470 (by decide)) (fun c_470 => ?_)
      refine X_iconst dL_isNight_473 ?_
      refine X_goto (tgt := 478) dL_isNight_474 (by decide) ?_
      refine X_iadd dL_isNight_478 ?_
      refine X_same_ne (tgt := 531) dL_isNight_479 (by decide) (by omega) ?_
      refine X_iloadW dL_isNight_482 rfl ?_
      refine X_aload dL_isNight_484 rfl ?_
      refine X_iloadW dL_isNight_485 rfl ?_
      refine X_iald dL_isNight_487 sh_89 (Or.inl (by decide)) (by omega) ?_
      rw [Int.toNat_natCast, congrFun (hW.fx 89 (by decide)) r, (hM r (by omega)).2, ek, em]
      refine X_iconst dL_isNight_488 ?_
      refine X_irem dL_isNight_489 (by omega) (by omega) ?_
      refine X_icmp_eq (tgt := 497) dL_isNight_490 (by decide) (by omega) (fun c_490 => absurd c_490 (by omega)) (fun c_490 => ?_)
      refine X_iconst dL_isNight_493 ?_
      refine X_goto (tgt := 498) dL_isNight_494 (by decide) ?_
      refine X_iloadW dL_isNight_498 rfl ?_
      refine X_same_ne (tgt := 531) dL_isNight_500 (by decide) rfl ?_
      refine X_iloadW dL_isNight_503 rfl ?_
      refine X_if_eq (tgt := 533) dL_isNight_505 (by decide) (by decide) (fun c_505 => absurd c_505 (by decide)) (fun c_505 => ?_)
      refine X_iloadW dL_isNight_508 rfl ?_
      refine X_iconst dL_isNight_510 ?_
      refine X_icmp_ne (tgt := 533) dL_isNight_511 (by decide) (by omega) (fun c_511 => ?_) (fun c_511 => ?_)
      · refine X_iinc dL_isNight_533 rfl ?_
        dsimp only [List.set]
        refine X_goto (tgt := 408) dL_isNight_536 (by decide) ?_
        refine X_drop 12 ?_
        refine X_drop 13 ?_
        dsimp only [List.set]
        exact ih (r + 1) (by omega) _ hW
      · refine X_aload dL_isNight_514 rfl ?_
        refine X_aload dL_isNight_515 rfl ?_
        refine X_iloadW dL_isNight_516 rfl ?_
        refine X_iald dL_isNight_518 sh_88 (Or.inl (by decide)) (by omega) ?_
        rw [Int.toNat_natCast, congrFun (hW.fx 88 (by decide)) r, (hM r (by omega)).1, ek]
        refine X_iconst dL_isNight_519 ?_
        refine Y_iV dL_isNight_520 cv_L_18 sh_0 (by decide) (v_of5 hW hk1 hN1 q0.symm) rfl (fun z I hz => ?_)
        obtain ⟨rfl, hW⟩ := hz
        refine X_aload dL_isNight_523 rfl ?_
        refine X_iconst dL_isNight_524 ?_
        refine Y_pV dL_isNight_525 cv_L_8 sh_0 (by decide) (v_num hW 4 (by decide) rfl) rfl ?_
        refine X_same_eq (tgt := 533) dL_isNight_528 (by decide) (by rw [f4]; exact (q5 (by omega)).symm) ?_
        refine X_iinc dL_isNight_533 rfl ?_
        dsimp only [List.set]
        refine X_goto (tgt := 408) dL_isNight_536 (by decide) ?_
        refine X_drop 12 ?_
        refine X_drop 13 ?_
        dsimp only [List.set]
        exact ih (r + 1) (by omega) _ hW
set_option maxRecDepth 20000 in
set_option maxHeartbeats 4000000 in
theorem n_mid {s : xS} {J : xI} {e : Nat} (he : e ≤ 100) (hI : IV s.1 s.2) (hE : EV s e) (hM : MW s J s.2) (h49 : s.1 17 ≤ 4900) (cost due heat : Int) (hc : npG s.1 s.2 1 18 = s.1 18 + cost) (hd : due = nsM s.1 s.2 (s.1 3) 1) (hh : heat = htA (npG s.1 s.2 1) s.2) (hdb : 0 ≤ due ∧ due ≤ s.1 3) : ∀ I, WK s J I → Y kL_isNight 7 245 [some (rr 0), some (rr 88), some (rr 89), some (ii (s.2 : Int)), some (ii cost), some (ii (s.1 18)), some (ii (s.1 21)), some (ii due), some (ii heat), none, none, none, none, none] [] I (q_i (fun ans I2 => ans = 1 ∧ NY e I2)) := by
  intro I hW
  have hG := hW.g
  have h17 := hW.sg.2
  have hg3 := hG.s3
  obtain ⟨s1, h1⟩ : ∃ s1 : xS, s1 = (npG s.1 s.2 1, s.2) := ⟨_, rfl⟩
  have hI1 : IV s1.1 s1.2 := by rw [h1]; exact IV.np hG hI 1
  have hE1 : EV s1 e := by
    rw [h1]
    obtain ⟨a, b, c⟩ := hE
    have d16 : npG s.1 s.2 1 16 = s.1 16 := np_num hG hI (by decide) (by decide) (by decide) (by decide)
    have d22 : npG s.1 s.2 1 22 = s.1 22 := np_num hG hI (by decide) (by decide) (by decide) (by decide)
    exact ⟨by show npG s.1 s.2 1 16 ≤ _; omega, by show 0 ≤ npG s.1 s.2 1 22; omega, by show npG s.1 s.2 1 22 ≤ _; omega⟩
  have h332 : ∀ I, WK s J I → Y kL_isNight 7 332 [some (rr 0), some (rr 88), some (rr 89), some (ii (s.2 : Int)), some (ii cost), some (ii (s.1 18)), some (ii (s.1 21)), some (ii due), some (ii heat), some (ii (onF (npG s.1 s.2 1) s.2 (0 : Nat) 1)), some (ii (onF (npG s.1 s.2 1) s.2 (2 : Nat) 1)), none, none, none] [] I (q_i (fun ans I2 => ans = 1 ∧ NY e I2)) := by
    intro I hW
    refine X_aload dL_isNight_332 rfl ?_
    refine X_iconst dL_isNight_333 ?_
    refine Y_iV dL_isNight_334 cv_L_32 sh_0 (by decide) (u_pass hW 1 (by decide)) rfl (fun z I hz => ?_)
    obtain ⟨ez, hW⟩ := hz
    have hp := pass_ok (s := s) (t := 1) (by decide) (by omega)
    rw [show (oPass s 1).1 = nsM s.1 s.2 (s.1 3) 1 from hp.1] at ez
    rw [show nxS s (oPass s 1) = s1 from hp.2.trans h1.symm] at hW
    rw [ez]
    refine X_iloadW dL_isNight_337 rfl ?_
    refine X_same_ne (tgt := 403) dL_isNight_339 (by decide) hd ?_
    refine X_aload dL_isNight_342 rfl ?_
    refine X_bipush dL_isNight_343 (by decide) ?_
    refine Y_pV dL_isNight_345 cv_L_8 sh_0 (by decide) (v_num hW 18 (by decide) rfl) rfl ?_
    refine X_iloadW dL_isNight_348 rfl ?_
    refine X_iloadW dL_isNight_350 rfl ?_
    refine X_iadd dL_isNight_352 ?_
    refine X_same_ne (tgt := 403) dL_isNight_353 (by decide) (by rw [h1]; show s.1 18 + cost = npG s.1 s.2 1 18; omega) ?_
    refine X_aload dL_isNight_356 rfl ?_
    refine X_bipush dL_isNight_357 (by decide) ?_
    refine Y_pV dL_isNight_359 cv_L_8 sh_0 (by decide) (v_num hW 21 (by decide) rfl) rfl ?_
    refine X_iloadW dL_isNight_362 rfl ?_
    refine X_iloadW dL_isNight_364 rfl ?_
    refine X_iadd dL_isNight_366 ?_
    refine X_same_ne (tgt := 403) dL_isNight_367 (by decide) (by rw [h1]; show s.1 21 + due = npG s.1 s.2 1 21; rw [np21 hG hI, hd]) ?_
    refine X_aload dL_isNight_370 rfl ?_
    refine X_bipush dL_isNight_371 (by decide) ?_
    refine Y_pV dL_isNight_373 cv_L_8 sh_0 (by decide) (v_ht hW) rfl ?_
    refine X_iloadW dL_isNight_376 rfl ?_
    refine X_same_ne (tgt := 403) dL_isNight_378 (by decide) (by rw [h1]; exact hh) ?_
    refine X_aload dL_isNight_381 rfl ?_
    refine X_iconst dL_isNight_382 ?_
    refine X_iconst dL_isNight_383 ?_
    refine Y_pV dL_isNight_384 cv_L_22 sh_0 (by decide) (v_sh1 hW 0 (by decide) rfl) rfl ?_
    refine X_iloadW dL_isNight_387 rfl ?_
    refine X_same_ne (tgt := 403) dL_isNight_389 (by decide) (by rw [h1]) ?_
    refine X_aload dL_isNight_392 rfl ?_
    refine X_iconst dL_isNight_393 ?_
    refine X_iconst dL_isNight_394 ?_
    refine Y_pV dL_isNight_395 cv_L_22 sh_0 (by decide) (v_sh1 hW 2 (by decide) rfl) rfl ?_
    refine X_iloadW dL_isNight_398 rfl ?_
    refine X_same_eq (tgt := 405) dL_isNight_400 (by decide) (by rw [h1]) ?_
    refine X_iconst dL_isNight_405 ?_
    refine X_istoreW dL_isNight_406 (by decide) ?_
    dsimp only [List.set]
    refine X_drop 4 ?_
    refine X_drop 5 ?_
    refine X_drop 6 ?_
    refine X_drop 7 ?_
    refine X_drop 8 ?_
    refine X_drop 9 ?_
    refine X_drop 10 ?_
    dsimp only [List.set]
    exact n_second he hG hI hE h17 h1 hI1 hE1 hM s.2 0 (Nat.zero_add _) _ hW
  refine X_aload dL_isNight_245 rfl ?_
  refine X_iconst dL_isNight_246 ?_
  refine X_iconst dL_isNight_247 ?_
  refine Y_iV dL_isNight_248 cv_L_25 sh_0 (by decide) (v_if0 hW 1 (by decide) rfl) rfl (fun z I hz => ?_)
  obtain ⟨rfl, hW⟩ := hz
  refine X_iloadW dL_isNight_251 rfl ?_
  refine X_same_ne (tgt := 314) dL_isNight_253 (by decide) (by omega) ?_
  refine X_aload dL_isNight_256 rfl ?_
  refine X_iconst dL_isNight_257 ?_
  refine X_iconst dL_isNight_258 ?_
  refine Y_iV dL_isNight_259 cv_L_25 sh_0 (by decide) (v_if1 hW 1 (by decide) rfl) rfl (fun z I hz => ?_)
  obtain ⟨rfl, hW⟩ := hz
  refine X_iloadW dL_isNight_262 rfl ?_
  refine X_same_ne (tgt := 314) dL_isNight_264 (by decide) hd ?_
  refine X_aload dL_isNight_267 rfl ?_
  refine X_iconst dL_isNight_268 ?_
  refine X_iconst dL_isNight_269 ?_
  refine Y_iV dL_isNight_270 cv_L_25 sh_0 (by decide) (v_if2 hW 1 (by decide) rfl) rfl (fun z I hz => ?_)
  obtain ⟨rfl, hW⟩ := hz
  refine X_iloadW dL_isNight_273 rfl ?_
  refine X_same_ne (tgt := 314) dL_isNight_275 (by decide) hh ?_
  refine X_aload dL_isNight_278 rfl ?_
  refine Y_iV dL_isNight_279 cv_L_28 sh_0 (by decide) (v_next hW) rfl (fun z I hz => ?_)
  obtain ⟨ez, hW⟩ := hz
  have hz1 : z = 1 ↔ 0 < due := by rw [ez, hd]; exact nx_1 s
  have hz2 := nx_bounds s 99 0
  have hz3 : -5 ≤ z ∧ z ≤ 99 := by rw [ez]; unfold qNext; omega
  refine X_iconst dL_isNight_282 ?_
  refine X_icmp_ne (tgt := 290) dL_isNight_283 (by decide) (by omega) (fun c_283 => ?_) (fun c_283 => ?_)
  · refine X_iconst dL_isNight_290 ?_
    refine X_iloadW dL_isNight_291 rfl ?_
    refine X_if_le (tgt := 300) dL_isNight_293 (by decide) (by omega) (fun c_293 => ?_) (fun c_293 => absurd c_293 (by omega))
    refine X_iconst dL_isNight_300 ?_
    refine X_same_ne (tgt := 314) dL_isNight_301 (by decide) rfl ?_
    refine X_iloadW dL_isNight_304 rfl ?_
    refine X_aload dL_isNight_306 rfl ?_
    refine X_iconst dL_isNight_307 ?_
    refine Y_pV dL_isNight_308 cv_L_8 sh_0 (by decide) (v_num hW 3 (by decide) rfl) rfl ?_
    refine X_icmp_le (tgt := 316) dL_isNight_311 (by decide) (by omega) (fun c_311 => ?_) (fun c_311 => absurd c_311 (by omega))
    refine X_aload dL_isNight_316 rfl ?_
    refine X_iconst dL_isNight_317 ?_
    refine X_iconst dL_isNight_318 ?_
    refine Y_iV dL_isNight_319 cv_L_25 sh_0 (by decide) (v_if3 hW 1 (by decide) rfl) rfl (fun z I hz => ?_)
    obtain ⟨rfl, hW⟩ := hz
    refine X_istoreW dL_isNight_322 (by decide) ?_
    dsimp only [List.set]
    refine X_aload dL_isNight_324 rfl ?_
    refine X_iconst dL_isNight_325 ?_
    refine X_iconst dL_isNight_326 ?_
    refine Y_iV dL_isNight_327 cv_L_25 sh_0 (by decide) (v_if5 hW 1 (by decide) rfl) rfl (fun z I hz => ?_)
    obtain ⟨rfl, hW⟩ := hz
    refine X_istoreW dL_isNight_330 (by decide) ?_
    dsimp only [List.set]
    exact h332 _ hW
  · refine X_iconst dL_isNight_286 ?_
    refine X_goto (tgt := 291) dL_isNight_287 (by decide) ?_
    refine X_iloadW dL_isNight_291 rfl ?_
    refine X_if_le (tgt := 300) dL_isNight_293 (by decide) (by omega) (fun c_293 => absurd c_293 (by omega)) (fun c_293 => ?_)
    refine X_iconst dL_isNight_296 ?_
    refine X_goto (tgt := 301) dL_isNight_297 (by decide) ?_
    refine X_same_ne (tgt := 314) dL_isNight_301 (by decide) rfl ?_
    refine X_iloadW dL_isNight_304 rfl ?_
    refine X_aload dL_isNight_306 rfl ?_
    refine X_iconst dL_isNight_307 ?_
    refine Y_pV dL_isNight_308 cv_L_8 sh_0 (by decide) (v_num hW 3 (by decide) rfl) rfl ?_
    refine X_icmp_le (tgt := 316) dL_isNight_311 (by decide) (by omega) (fun c_311 => ?_) (fun c_311 => absurd c_311 (by omega))
    refine X_aload dL_isNight_316 rfl ?_
    refine X_iconst dL_isNight_317 ?_
    refine X_iconst dL_isNight_318 ?_
    refine Y_iV dL_isNight_319 cv_L_25 sh_0 (by decide) (v_if3 hW 1 (by decide) rfl) rfl (fun z I hz => ?_)
    obtain ⟨rfl, hW⟩ := hz
    refine X_istoreW dL_isNight_322 (by decide) ?_
    dsimp only [List.set]
    refine X_aload dL_isNight_324 rfl ?_
    refine X_iconst dL_isNight_325 ?_
    refine X_iconst dL_isNight_326 ?_
    refine Y_iV dL_isNight_327 cv_L_25 sh_0 (by decide) (v_if5 hW 1 (by decide) rfl) rfl (fun z I hz => ?_)
    obtain ⟨rfl, hW⟩ := hz
    refine X_istoreW dL_isNight_330 (by decide) ?_
    dsimp only [List.set]
    exact h332 _ hW
set_option maxRecDepth 20000 in
set_option maxHeartbeats 4000000 in
theorem n_first {s : xS} {e : Nat} (he : e ≤ 100) (hG : GI s.1 s.2) (hI : IV s.1 s.2) (hE : EV s e) (h49 : s.1 17 ≤ 4900) (cost : Int) (hc : npG s.1 s.2 1 18 = s.1 18 + cost) (hd : dueP s s.2 = nsM s.1 s.2 (s.1 3) 1) (hh : heatP s s.2 = htA (npG s.1 s.2 1) s.2) (hdb : 0 ≤ dueP s s.2 ∧ dueP s s.2 ≤ s.1 3) : ∀ (m r : Nat), r + m = s.2 → ∀ J, MW s J r → ∀ I, WK s J I → Y kL_isNight 7 68 [some (rr 0), some (rr 88), some (rr 89), some (ii (s.2 : Int)), some (ii cost), some (ii (s.1 18)), some (ii (s.1 21)), some (ii (dueP s r)), some (ii (heatP s r)), some (ii (r : Int)), none, none, none, none] [] I (q_i (fun ans I2 => ans = 1 ∧ NY e I2)) := by
  have hn24 := hG.n24
  have hN := hI.2.2.1
  intro m
  induction m with
  | zero =>
    intro r hr J hM I hW
    refine X_iloadW dL_isNight_68 rfl ?_
    refine X_iload dL_isNight_70 rfl ?_
    refine X_icmp_ge (tgt := 245) dL_isNight_71 (by decide) (by omega) (fun c_71 => ?_) (fun c_71 => absurd c_71 (by omega))
    refine X_drop 9 ?_
    dsimp only [List.set]
    have hr9 : r = s.2 := by omega
    subst hr9
    exact n_mid he hI hE hM h49 cost _ _ hc hd hh hdb _ hW
  | succ m ih =>
    intro r hr J hM I hW
    obtain ⟨k, ek⟩ : ∃ k, rp s.1 s.2 r = k := ⟨_, rfl⟩
    have hk : k < s.2 := by rw [← ek]; exact (rp_ok (by omega)).2.1
    have hb := hG.b hk
    have h7 := hI.2.2.2.2.2 k hk
    have hfd : 0 ≤ gb s.1 k 2 * s.1 0 ∧ gb s.1 k 2 * s.1 0 ≤ 2147483647 := by have := hG.fdh hk hG.s0; omega
    obtain ⟨-, -, -, q3, q4, q6, -⟩ := night_k (most := s.1 3) hG hI hk
    have h151 : ∀ I, WK s (x_up (x_up J 88 r (gb s.1 k 0)) 89 r (mvd s k)) I → Y kL_isNight 7 151 [some (rr 0), some (rr 88), some (rr 89), some (ii (s.2 : Int)), some (ii cost), some (ii (s.1 18)), some (ii (s.1 21)), some (ii (dueP s r)), some (ii (heatP s r)), some (ii (r : Int)), some (ii (gb s.1 k 0)), some (ii ((ntU s.1 s.2 (s.1 3)).2.1 k)), none, none] [ii (if (ntU s.1 s.2 (s.1 3)).2.1 k = 0 then 1 else 0), ii (dueP s r)] I (q_i (fun ans I2 => ans = 1 ∧ NY e I2)) := by
      intro I hW
      refine X_iadd dL_isNight_151 ?_
      refine X_istoreW dL_isNight_152 (by decide) ?_
      dsimp only [List.set]
      refine X_iloadW dL_isNight_154 rfl ?_
      refine X_aload dL_isNight_156 rfl ?_
      refine X_iloadW dL_isNight_157 rfl ?_
      refine X_iconst dL_isNight_159 ?_
      refine Y_iV dL_isNight_160 cv_L_18 sh_0 (by decide) (v_of1 hW hk hN rfl) rfl (fun z I hz => ?_)
      obtain ⟨rfl, hW⟩ := hz
      refine X_aload dL_isNight_163 rfl ?_
      refine X_iconst dL_isNight_164 ?_
      refine Y_pV dL_isNight_165 cv_L_8 sh_0 (by decide) (v_num hW 0 (by decide) rfl) rfl ?_
      refine X_imul dL_isNight_168 ?_
      refine X_bipush dL_isNight_169 (by decide) ?_
      refine X_idiv dL_isNight_171 hfd (by omega) ?_
      refine X_iadd dL_isNight_172 ?_
      refine X_istoreW dL_isNight_173 (by decide) ?_
      dsimp only [List.set]
      refine X_aload dL_isNight_175 rfl ?_
      refine X_iloadW dL_isNight_176 rfl ?_
      refine X_iconst dL_isNight_178 ?_
      refine Y_iV dL_isNight_179 cv_L_18 sh_0 (by decide) (v_of5 hW hk hN rfl) rfl (fun z I hz => ?_)
      obtain ⟨rfl, hW⟩ := hz
      refine X_istoreW dL_isNight_182 (by decide) ?_
      dsimp only [List.set]
      refine X_iloadW dL_isNight_184 rfl ?_
      refine X_if_lt (tgt := 237) dL_isNight_186 (by decide) (by omega) (fun c_186 => absurd c_186 (by omega)) (fun c_186 => ?_)
      refine X_iloadW dL_isNight_189 rfl ?_
      refine X_iconst dL_isNight_191 ?_
      refine X_icmp_gt (tgt := 237) dL_isNight_192 (by decide) (by omega) (fun c_192 => absurd c_192 (by omega)) (fun c_192 => ?_)
      refine X_iloadW dL_isNight_195 rfl ?_
      refine X_iconst dL_isNight_197 ?_
      refine X_icmp_ne (tgt := 205) dL_isNight_198 (by decide) (by omega) (fun c_198 => ?_) (fun c_198 => ?_)
      · refine X_iconst dL_isNight_205 ?_
        refine X_aload dL_isNight_206 rfl ?_
        refine X_iloadW dL_isNight_207 rfl ?_
        refine X_iconst dL_isNight_209 ?_
        refine Y_iV dL_isNight_210 cv_L_18 sh_0 (by decide) (v_of4 hW hk hN rfl) rfl (fun z I hz => ?_)
        obtain ⟨rfl, hW⟩ := hz
        refine X_iconst dL_isNight_213 ?_
        refine X_icmp_ne (tgt := 221) dL_isNight_214 (by decide) (by omega) (fun c_214 => ?_) (fun c_214 => absurd c_214 (by omega))
        refine X_iconst dL_isNight_221 ?_
        refine X_same_ne (tgt := 237) dL_isNight_222 (by decide) rfl ?_
        refine X_iloadW dL_isNight_225 rfl ?_
        refine X_iconst dL_isNight_227 ?_
        refine X_icmp_ne (tgt := 239) dL_isNight_228 (by decide) (by omega) (fun c_228 => ?_) (fun c_228 => ?_)
        · refine X_iinc dL_isNight_239 rfl ?_
          dsimp only [List.set]
          refine X_goto (tgt := 68) dL_isNight_242 (by decide) ?_
          refine X_drop 10 ?_
          refine X_drop 11 ?_
          refine X_drop 12 ?_
          dsimp only [List.set]
          have h9 := ih (r + 1) (by omega) _ (hM.step ek) _ hW
          rw [dueP_step ek, heatP_step ek] at h9
          exact h9
        · refine X_iloadW dL_isNight_231 rfl ?_
          refine X_iconst dL_isNight_233 ?_
          refine X_icmp_ge (tgt := 239) dL_isNight_234 (by decide) (by omega) (fun c_234 => ?_) (fun c_234 => absurd c_234 (by omega))
          refine X_iinc dL_isNight_239 rfl ?_
          dsimp only [List.set]
          refine X_goto (tgt := 68) dL_isNight_242 (by decide) ?_
          refine X_drop 10 ?_
          refine X_drop 11 ?_
          refine X_drop 12 ?_
          dsimp only [List.set]
          have h9 := ih (r + 1) (by omega) _ (hM.step ek) _ hW
          rw [dueP_step ek, heatP_step ek] at h9
          exact h9
      · refine X_iconst dL_isNight_201 ?_
        refine X_goto (tgt := 206) dL_isNight_202 (by decide) ?_
        refine X_aload dL_isNight_206 rfl ?_
        refine X_iloadW dL_isNight_207 rfl ?_
        refine X_iconst dL_isNight_209 ?_
        refine Y_iV dL_isNight_210 cv_L_18 sh_0 (by decide) (v_of4 hW hk hN rfl) rfl (fun z I hz => ?_)
        obtain ⟨rfl, hW⟩ := hz
        refine X_iconst dL_isNight_213 ?_
        refine X_icmp_ne (tgt := 221) dL_isNight_214 (by decide) (by omega) (fun c_214 => absurd c_214 (by omega)) (fun c_214 => ?_)
        refine X_iconst dL_isNight_217 ?_
        refine X_goto (tgt := 222) dL_isNight_218 (by decide) ?_
        refine X_same_ne (tgt := 237) dL_isNight_222 (by decide) rfl ?_
        refine X_iloadW dL_isNight_225 rfl ?_
        refine X_iconst dL_isNight_227 ?_
        refine X_icmp_ne (tgt := 239) dL_isNight_228 (by decide) (by omega) (fun c_228 => ?_) (fun c_228 => ?_)
        · refine X_iinc dL_isNight_239 rfl ?_
          dsimp only [List.set]
          refine X_goto (tgt := 68) dL_isNight_242 (by decide) ?_
          refine X_drop 10 ?_
          refine X_drop 11 ?_
          refine X_drop 12 ?_
          dsimp only [List.set]
          have h9 := ih (r + 1) (by omega) _ (hM.step ek) _ hW
          rw [dueP_step ek, heatP_step ek] at h9
          exact h9
        · refine X_iloadW dL_isNight_231 rfl ?_
          refine X_iconst dL_isNight_233 ?_
          refine X_icmp_ge (tgt := 239) dL_isNight_234 (by decide) (by omega) (fun c_234 => ?_) (fun c_234 => absurd c_234 (by omega))
          refine X_iinc dL_isNight_239 rfl ?_
          dsimp only [List.set]
          refine X_goto (tgt := 68) dL_isNight_242 (by decide) ?_
          refine X_drop 10 ?_
          refine X_drop 11 ?_
          refine X_drop 12 ?_
          dsimp only [List.set]
          have h9 := ih (r + 1) (by omega) _ (hM.step ek) _ hW
          rw [dueP_step ek, heatP_step ek] at h9
          exact h9
    have h129 : ∀ I, WK s (x_up J 88 r (gb s.1 k 0)) I → Y kL_isNight 7 129 [some (rr 0), some (rr 88), some (rr 89), some (ii (s.2 : Int)), some (ii cost), some (ii (s.1 18)), some (ii (s.1 21)), some (ii (dueP s r)), some (ii (heatP s r)), some (ii (r : Int)), some (ii (gb s.1 k 0)), some (ii ((ntU s.1 s.2 (s.1 3)).2.1 k)), none, none] [ii (if (ntU s.1 s.2 (s.1 3)).2.1 k = 0 then 4 else 0), ii (8 * gb s.1 k 7), ii (r : Int), rr 89] I (q_i (fun ans I2 => ans = 1 ∧ NY e I2)) := by
      intro I hW
      refine X_iadd dL_isNight_129 ?_
      refine X_aload dL_isNight_130 rfl ?_
      refine X_iloadW dL_isNight_131 rfl ?_
      refine X_iconst dL_isNight_133 ?_
      refine Y_iV dL_isNight_134 cv_L_18 sh_0 (by decide) (v_of2 hW hk hN rfl) rfl (fun z I hz => ?_)
      obtain ⟨rfl, hW⟩ := hz
      refine X_iadd dL_isNight_137 ?_
      refine X_iast dL_isNight_138 sh_89 (by decide) (by omega) ?_
      rw [Int.toNat_natCast]
      have hW := hW.st (Or.inr rfl) r (mvd s k)
      refine X_iloadW dL_isNight_139 rfl ?_
      refine X_iloadW dL_isNight_141 rfl ?_
      refine X_if_ne (tgt := 150) dL_isNight_143 (by decide) (by omega) (fun c_143 => ?_) (fun c_143 => ?_)
      · refine X_iconst dL_isNight_150 ?_
        have e9 : (if (ntU s.1 s.2 (s.1 3)).2.1 k = 0 then (1 : Int) else 0) = 0 := if_neg c_143
        have h9 := h151 _ hW
        rw [e9] at h9
        exact h9
      · refine X_iconst dL_isNight_146 ?_
        refine X_goto (tgt := 151) dL_isNight_147 (by decide) ?_
        have e9 : (if (ntU s.1 s.2 (s.1 3)).2.1 k = 0 then (1 : Int) else 0) = 1 := if_pos c_143
        have h9 := h151 _ hW
        rw [e9] at h9
        exact h9
    refine X_iloadW dL_isNight_68 rfl ?_
    refine X_iload dL_isNight_70 rfl ?_
    refine X_icmp_ge (tgt := 245) dL_isNight_71 (by decide) (by omega) (fun c_71 => absurd c_71 (by omega)) (fun c_71 => ?_)
    refine X_iloadW dL_isNight_74 rfl ?_
    refine X_bipush dL_isNight_76 (by decide) ?_
    refine X_icmp_ge (tgt := 245) dL_isNight_78 (by decide) (by omega) (fun c_78 => absurd c_78 (by omega)) (fun c_78 => ?_)
    refine X_aload dL_isNight_81 rfl ?_
    refine X_iloadW dL_isNight_82 rfl ?_
    refine Y_pV dL_isNight_84 cv_L_15 sh_0 (by decide) (v_blk hW r (by omega) ek rfl) rfl ?_
    refine X_istoreW dL_isNight_87 (by decide) ?_
    dsimp only [List.set]
    refine X_aload dL_isNight_89 rfl ?_
    refine X_iloadW dL_isNight_90 rfl ?_
    refine X_bipush dL_isNight_92 (by decide) ?_
    refine Y_iV dL_isNight_94 cv_L_18 sh_0 (by decide) (v_of8 hW hk hN rfl) rfl (fun z I hz => ?_)
    obtain ⟨rfl, hW⟩ := hz
    refine X_istoreW dL_isNight_97 (by decide) ?_
    dsimp only [List.set]
    refine X_aload dL_isNight_99 rfl ?_
    refine X_iloadW dL_isNight_100 rfl ?_
    refine X_iloadW dL_isNight_102 rfl ?_
    refine X_iast dL_isNight_104 sh_88 (by decide) (by omega) ?_
    rw [Int.toNat_natCast]
    have hW := hW.st (Or.inl rfl) r (gb s.1 k 0)
    refine X_aload dL_isNight_105 rfl ?_
    refine X_iloadW dL_isNight_106 rfl ?_
    refine X_bipush dL_isNight_108 (by decide) ?_
    refine X_aload dL_isNight_110 rfl ?_
    refine X_iloadW dL_isNight_111 rfl ?_
    refine X_bipush dL_isNight_113 (by decide) ?_
    refine Y_iV dL_isNight_115 cv_L_18 sh_0 (by decide) (v_of7 hW hk hN rfl) rfl (fun z I hz => ?_)
    obtain ⟨rfl, hW⟩ := hz
    refine X_imul dL_isNight_118 ?_
    refine X_iloadW dL_isNight_119 rfl ?_
    refine X_if_ne (tgt := 128) dL_isNight_121 (by decide) (by omega) (fun c_121 => ?_) (fun c_121 => ?_)
    · refine X_iconst dL_isNight_128 ?_
      have e9 : (if (ntU s.1 s.2 (s.1 3)).2.1 k = 0 then (4 : Int) else 0) = 0 := if_neg c_121
      have h9 := h129 _ hW
      rw [e9] at h9
      exact h9
    · refine X_iconst dL_isNight_124 ?_
      refine X_goto (tgt := 129) dL_isNight_125 (by decide) ?_
      have e9 : (if (ntU s.1 s.2 (s.1 3)).2.1 k = 0 then (4 : Int) else 0) = 4 := if_pos c_121
      have h9 := h129 _ hW
      rw [e9] at h9
      exact h9
set_option maxRecDepth 20000 in
set_option maxHeartbeats 4000000 in
theorem h_night {s : xS} {J I : xI} {e : Nat} (he : e ≤ 100) (hW : WK s J I) (hI : IV s.1 s.2) (hE : EV s e) : S kL_isNight 7 [rr 0, rr 88, rr 89] I (q_i (fun ans I2 => ans = 1 ∧ NY e I2)) := by
  have hG := hW.g
  have h17 := hW.sg.2
  have hc : npG s.1 s.2 1 18 = s.1 18 + (onF s.1 s.2 ((0 : Nat) : Int) 1 * s.1 (9 + 0) + onF s.1 s.2 ((1 : Nat) : Int) 1 * s.1 (9 + 1) + onF s.1 s.2 ((2 : Nat) : Int) 1 * s.1 (9 + 2)) := np1_18
  have hd : dueP s s.2 = nsM s.1 s.2 (s.1 3) 1 := by rw [dueP_end, ns1 hG hI]
  have hh : heatP s s.2 = htA (npG s.1 s.2 1) s.2 := by rw [heatP_end, np1_ht hG hI]
  have hdb : 0 ≤ dueP s s.2 ∧ dueP s s.2 ≤ s.1 3 := by
    have h1 := ntM_bounds s.1 s.2 (s.1 3)
    have h2 := ntM_most (g := s.1) (n := s.2) hG.s3.1
    have h3 : nsM s.1 s.2 (s.1 3) 1 = 0 + ntM s.1 s.2 (s.1 3) := rfl
    omega
  refine Sp_intro (by decide +kernel) (Nat.le_of_ble_eq_true rfl) ?_
  show Y kL_isNight 7 0 [some (rr 0), some (rr 88), some (rr 89), none, none, none, none, none, none, none, none, none, none, none] [] I _
  refine X_aload dL_isNight_0 rfl ?_
  refine X_bipush dL_isNight_1 (by decide) ?_
  refine Y_pV dL_isNight_3 cv_L_8 sh_0 (by decide) (v_num hW 15 (by decide) rfl) rfl ?_
  refine X_istore dL_isNight_6 (by decide) ?_
  dsimp only [List.set]
  refine X_aload dL_isNight_7 rfl ?_
  refine X_iconst dL_isNight_8 ?_
  refine X_iconst dL_isNight_9 ?_
  refine Y_pV dL_isNight_10 cv_L_22 sh_0 (by decide) (v_sh4 hW 0 (by decide) rfl) rfl ?_
  refine X_aload dL_isNight_13 rfl ?_
  refine X_iconst dL_isNight_14 ?_
  refine X_iconst dL_isNight_15 ?_
  refine Y_pV dL_isNight_16 cv_L_22 sh_0 (by decide) (v_sh4 hW 1 (by decide) rfl) rfl ?_
  refine X_iadd dL_isNight_19 ?_
  refine X_aload dL_isNight_20 rfl ?_
  refine X_iconst dL_isNight_21 ?_
  refine X_iconst dL_isNight_22 ?_
  refine Y_pV dL_isNight_23 cv_L_22 sh_0 (by decide) (v_sh4 hW 2 (by decide) rfl) rfl ?_
  refine X_iadd dL_isNight_26 ?_
  refine X_istoreW dL_isNight_27 (by decide) ?_
  dsimp only [List.set]
  refine X_aload dL_isNight_29 rfl ?_
  refine X_bipush dL_isNight_30 (by decide) ?_
  refine Y_pV dL_isNight_32 cv_L_8 sh_0 (by decide) (v_num hW 18 (by decide) rfl) rfl ?_
  refine X_istoreW dL_isNight_35 (by decide) ?_
  dsimp only [List.set]
  refine X_aload dL_isNight_37 rfl ?_
  refine X_bipush dL_isNight_38 (by decide) ?_
  refine Y_pV dL_isNight_40 cv_L_8 sh_0 (by decide) (v_num hW 21 (by decide) rfl) rfl ?_
  refine X_istoreW dL_isNight_43 (by decide) ?_
  dsimp only [List.set]
  refine X_iconst dL_isNight_45 ?_
  refine X_istoreW dL_isNight_46 (by decide) ?_
  dsimp only [List.set]
  refine X_iconst dL_isNight_48 ?_
  refine X_istoreW dL_isNight_49 (by decide) ?_
  dsimp only [List.set]
  refine X_aload dL_isNight_51 rfl ?_
  refine X_bipush dL_isNight_52 (by decide) ?_
  refine Y_pV dL_isNight_54 cv_L_8 sh_0 (by decide) (v_num hW 17 (by decide) rfl) rfl ?_
  refine X_sipush dL_isNight_57 (by decide) ?_
  refine X_icmp_le (tgt := 65) dL_isNight_60 (by decide) (by omega) (fun c_60 => ?_) (fun c_60 => ?_)
  · refine X_iconst dL_isNight_65 ?_
    refine X_istoreW dL_isNight_66 (by decide) ?_
    dsimp only [List.set]
    rw [hG.g15]
    exact n_first he hG hI hE c_60 _ hc hd hh hdb s.2 0 (Nat.zero_add _) J (fun q hq => absurd hq (Nat.not_lt_zero q)) _ hW
  · refine X_iconst dL_isNight_63 ?_
    refine X_iret dL_isNight_64 (Or.inr ⟨rfl, by omega⟩) ?_
    exact ⟨rfl, rfl, _, rfl, rfl, s, J, hW, hI, hE⟩
