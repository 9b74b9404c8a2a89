/-! the start: what the memory is to hold, the numbers of an empty object -/
def J0 : xI := fun q j => if q = 100 then fv j else if q = 101 then mx j else if q < 94 then iv q j else 0
theorem J0_lt {q : Nat} (h : q < 94) (j : Nat) : J0 q j = iv q j := by
  unfold J0
  rw [if_neg (by omega), if_neg (by omega), if_pos h]
theorem J0_ok : JJ J0 := ⟨fun q h j => J0_lt h j, fun j _ => rfl⟩
def tx0 : Nat → Int := fun _ => 0
theorem J0_0 {q : Nat} (h : q < 94) (h2 : ¬ (q = 2 ∨ q = 13 ∨ q = 24 ∨ q = 37 ∨ q = 48 ∨ q = 59 ∨ q = 70 ∨ q = 89)) (j : Nat) : J0 q j = 0 := (J0_lt h j).trans (iv_no h2)
theorem GI0 : GI fv 0 := ⟨by decide, by decide, by decide, by decide, by decide, by decide, by decide, by decide, by decide, by decide, by decide, fun k hk => absurd hk (Nat.not_lt_zero k)⟩
theorem CG0 : CG (fv, 0) [] none tx0 0 := ⟨⟨GI0, by decide⟩, ⟨by decide, fun q h => absurd h List.not_mem_nil⟩, (fun q h => by cases h), ⟨by decide, fun j hj => absurd hj (Nat.not_lt_zero j)⟩⟩
theorem CI0 : CI J0 (fv, 0) [] none tx0 0 := by
  refine ⟨⟨fun j hj => rfl, fun j hj => rfl⟩, ⟨fun j hj => (J0_lt (by omega) j).trans (if_pos (by omega)), fun k hk => absurd hk (Nat.not_lt_zero k), fun sh hsh => (J0_0 (by omega) (by omega) sh).trans rfl⟩, ⟨0, by decide, J0_0 (by omega) (by omega) 1, J0_0 (by omega) (by omega) 2, fun j s h => by simp at h⟩, J0_0 (by omega) (by omega) 3, J0_0 (by omega) (by omega) 1, fun j hj => absurd hj (Nat.not_lt_zero j)⟩
theorem MI0 : MI J0 (fv, 0) [] none tx0 0 := by
  refine ⟨fun j hj => ?_, ⟨J0_0 (by omega) (by omega) 2, fun j q h => by simp at h⟩, J0_0 (by omega) (by omega) 4, J0_0 (by omega) (by omega) 6, fun j hj => absurd hj (Nat.not_lt_zero j)⟩
  rw [Nat.zero_add]
  exact (J0_lt (by omega) j).trans (if_pos (by omega))
set_option maxRecDepth 20000 in
set_option maxHeartbeats 4000000 in
theorem law_start {sb Ln : Nat} {xs : Nat → Int} {nm : String} (hxs : ∀ j, -2147483648 ≤ xs j ∧ xs j ≤ 2147483647) (hLn : Ln ≤ 1536) : XL sb Ln xs (kW nm) 10 94 3414 0 [none, none, none, none] [] 0 J0 xR0 qT := by
  refine XL_new (bc' := 93) (bs' := 3407) tyX4 dL_law_0 rfl (show vwCl[4]? = some (RX4, TX4, 7) from rfl) rfl inX4 tyX4_ok (xT_of (List.mem_append_right _ (List.mem_of_getElem? (i := 9) rfl)) rfl) (xT_of (List.mem_append_right _ (List.mem_of_getElem? (i := 10) rfl)) rfl) (xT_of (List.mem_append_right _ (List.mem_of_getElem? (i := 1) rfl)) rfl) rfl (by omega) fsX4 rfl rfl ?_
  rw [← x_z_id (J0_0 (q := 0) (by omega) (by omega)), zR_rK (R := xR0) (c := 0) (fun q _ => rfl)]
  refine XL_dup dL_law_3 ?_
  refine XL_callC (as := []) (rest := [rr 0]) dL_law_4 rfl cc_L_9 (n_Shelves J0_ok xR0) rfl rfl (by decide) (by decide) (by decide) (by decide) (fun ro N1 I1 R1 h => ?_)
  obtain ⟨rfl, rfl, h3, h4⟩ := h
  rw [h3, h4, rB_id (R := xR0) (c := 0) (fun q _ => rfl)]
  refine XL_astore dL_law_7 (Nat.le_of_ble_eq_true rfl) (by decide) ?_
  refine XL_new (bc' := 5) (bs' := 1589) tyX5 dL_law_8 rfl (show vwCl[5]? = some (RX5, TX5, 8) from rfl) rfl inX5 tyX5_ok (xT_of (List.mem_append_right _ (List.mem_of_getElem? (i := 497) rfl)) rfl) (xT_of (List.mem_append_right _ (List.mem_of_getElem? (i := 498) rfl)) rfl) (xT_of (List.mem_append_right _ (List.mem_of_getElem? (i := 6) rfl)) rfl) rfl (by omega) fsX5 rfl rfl ?_
  rw [← x_z_id (J0_0 (q := 88) (by omega) (by omega)), zR_rK (R := xR0) (c := 88) (fun q _ => rfl)]
  refine XL_dup dL_law_11 ?_
  refine XL_callC (as := []) (rest := [rr 88]) dL_law_12 rfl cc_L_12 (n_Model J0_ok xR0) rfl rfl (by decide) (by decide) (by decide) (by decide) (fun ro N1 I1 R1 h => ?_)
  obtain ⟨rfl, rfl, h3, h4⟩ := h
  rw [h3, h4, rB_id (R := xR0) (c := 88) (fun q _ => rfl)]
  refine XL_astore dL_law_15 (Nat.le_of_ble_eq_true rfl) (by decide) ?_
  refine XL_iconst dL_law_16 ?_
  refine XL_istore dL_law_17 (Nat.le_of_ble_eq_true rfl) (by decide) ?_
  exact law_loop hxs hLn Ln 0 (by omega) (by omega) J0 (fv, 0) [] none tx0 0 ⟨CI0, MI0, CG0⟩
/-- a static row of numbers, out of what the Statement gives of it -/
theorem x_slen {args : Array Value} {first s : State} {o : Option Outcome} {idx : List Nat} {t : Term} {v : Value} (h : (Term.length t).eval args first o idx s = some v) : ∃ a cell, t.eval args first o idx s = some (.ref a) ∧ s.arrayAt? a = some cell ∧ cell.slots.size < 2147483648 ∧ v = .int cell.slots.size.toInt32 := by
  simp only [Term.eval, Option.bind_eq_bind] at h
  cases ht : t.eval args first o idx s with
  | none => simp [ht] at h
  | some x =>
    cases x <;> simp [ht] at h
    case ref a =>
      obtain ⟨cell, hcell, h⟩ := Option.bind_eq_some_iff.mp h
      by_cases hn : cell.slots.size < 2147483648
      · rw [if_pos hn] at h; cases h; exact ⟨a, cell, rfl, hcell, hn, rfl⟩
      · rw [if_neg hn] at h; cases h
theorem x_Xof {args : Array Value} {s : State} {tm : Term} {N : Nat} {f : Nat → Int32} (hN : N < 2 ^ 31) (harr : (Cond.arrayOf tm .int).before args s = true) (hlen : (Cond.eq (.length tm) (.int (Int32.ofNat N))).before args s = true) (hel : ∀ j : Nat, j < N → (Cond.eq (.elem tm (.int (Int32.ofNat j))) (.int (f j))).before args s = true) : ∃ t : Nat, tm.eval args s none [] s = some (.ref t) ∧ va_X t N f s s.heap ∧ t < s.heap.size := by
  have hl := va_eqt hlen
  obtain ⟨t, ht, cell, h1, h2, h3, h4, h5, h6, -⟩ := va_Tof (f := fun j => .int (f j)) (A := fun q => s.heap.size ≤ q) hN harr hl (fun j hj => va_eqt (hel j hj)) (fun a ha => Nat.not_le.mpr ha)
  obtain ⟨a, cell2, g1, g2, g3, -⟩ := x_slen hl
  cases ht.symm.trans g1
  have g4 := (State.arrayAt?_spec g2).1
  cases h1.symm.trans g4
  have e : cell.slots.size = N := by
    have e1 : (cell.slots.size.toInt32).toNatClampNeg = cell.slots.size := Int32.toNatClampNeg_ofNat_of_lt (by omega)
    rw [h5, Int32.toNatClampNeg_ofNat_of_lt hN] at e1
    exact e1.symm
  exact ⟨t, ht, ⟨cell, h1, h2, h3, e, h6⟩, (Array.getElem?_eq_some_iff.mp h1).1⟩
set_option maxRecDepth 20000 in
set_option maxHeartbeats 4000000 in
theorem x_classes {s : State} {args : Array Value} (hts : ∀ w ∈ lw_tbl, w.before args s = true) : ∃ (dC : Nat → ClassId) (dI : Nat → Nat → Nat), ∀ (k : Nat) (q : vw_C), vwCl[k]? = some q → u_Kn s q.1 q.2.1 q.2.2 (dC k) (dI k) := by
  obtain ⟨c0, s0, k0⟩ := u_known (C := RX0) (T := TX0) (N := 3) (n := 3) hts (fun w h => xT_in (inX0 w h)) (hts (.instantiable RX0 3) (xT_in (xT_of (List.mem_append_right _ (List.mem_of_getElem? (i := 74) rfl)) rfl)))
  obtain ⟨c1, s1, k1⟩ := u_known (C := RX1) (T := TX1) (N := 2) (n := 2) hts (fun w h => xT_in (inX1 w h)) (hts (.instantiable RX1 2) (xT_in (xT_of (List.mem_append_right _ (List.mem_of_getElem? (i := 94) rfl)) rfl)))
  obtain ⟨c2, s2, k2⟩ := u_known (C := RX2) (T := TX2) (N := 7) (n := 7) hts (fun w h => xT_in (inX2 w h)) (hts (.instantiable RX2 7) (xT_in (xT_of (List.mem_append_right _ (List.mem_of_getElem? (i := 108) rfl)) rfl)))
  obtain ⟨c3, s3, k3⟩ := u_known (C := RX3) (T := TX3) (N := 10) (n := 10) hts (fun w h => xT_in (inX3 w h)) (hts (.instantiable RX3 10) (xT_in (xT_of (List.mem_append_right _ (List.mem_of_getElem? (i := 18) rfl)) rfl)))
  obtain ⟨c4, s4, k4⟩ := u_known (C := RX4) (T := TX4) (N := 7) (n := 7) hts (fun w h => xT_in (inX4 w h)) (hts (.instantiable RX4 7) (xT_in (xT_of (List.mem_append_right _ (List.mem_of_getElem? (i := 10) rfl)) rfl)))
  obtain ⟨c5, s5, k5⟩ := u_known (C := RX5) (T := TX5) (N := 8) (n := 8) hts (fun w h => xT_in (inX5 w h)) (hts (.instantiable RX5 8) (xT_in (xT_of (List.mem_append_right _ (List.mem_of_getElem? (i := 498) rfl)) rfl)))
  refine ⟨fun k => if k = 0 then c0 else if k = 1 then c1 else if k = 2 then c2 else if k = 3 then c3 else if k = 4 then c4 else c5, fun k => if k = 0 then s0 else if k = 1 then s1 else if k = 2 then s2 else if k = 3 then s3 else if k = 4 then s4 else s5, ?_⟩
  intro k q hq
  match k, hq with
  | 0, hq => cases hq; exact k0
  | 1, hq => cases hq; exact k1
  | 2, hq => cases hq; exact k2
  | 3, hq => cases hq; exact k3
  | 4, hq => cases hq; exact k4
  | 5, hq => cases hq; exact k5
  | k + 6, hq => simp [vwCl] at hq
set_option maxRecDepth 20000 in
theorem x_NTf_in : ∀ w ∈ x_NTf, Cond.fieldLinkNest w.1 w.2.1 w.2.2.1 w.2.2.2.1 w.2.2.2.2.1 w.2.2.2.2.2 ∈ lw_tbl := by decide +kernel
set_option maxRecDepth 20000 in
theorem x_NTm_in : ∀ w ∈ x_NTm, Cond.methodLinkNest w.1 w.2.1 w.2.2.1 w.2.2.2 ∈ lw_tbl := by decide +kernel
set_option maxRecDepth 20000 in
set_option maxHeartbeats 4000000 in
theorem x_KF0 {s : State} {args : Array Value} {dC : Nat → ClassId} {dI : Nat → Nat → Nat} {tF tG : Nat} (hts : ∀ w ∈ lw_tbl, w.before args s = true) (hKc : ∀ (k : Nat) (q : vw_C), vwCl[k]? = some q → u_Kn s q.1 q.2.1 q.2.2 (dC k) (dI k)) (hF : (Term.static "HeatShelves" "FIRST_VALUES" "[I").eval args s none [] s = some (.ref tF)) (hG : (Term.static "HeatShelves" "GREATEST_VALUES" "[I").eval args s none [] s = some (.ref tG)) : x_KF (s.heap.size, dC, dI, tF, tG) s :=
  ⟨hKc, fun w hw => va_Nw.of rfl (hts _ (x_NTf_in w hw)), fun w hw => va_Nw.of rfl (hts _ (x_NTm_in w hw)), va_Zref (hts _ (List.mem_append_right _ (List.mem_of_getElem? (i := 24) rfl))) (hts _ (List.mem_append_right _ (List.mem_of_getElem? (i := 1) rfl))) hF (fun a ha => Nat.not_le.mpr ha), va_Zref (hts _ (List.mem_append_right _ (List.mem_of_getElem? (i := 337) rfl))) (hts _ (List.mem_append_right _ (List.mem_of_getElem? (i := 1) rfl))) hG (fun a ha => Nat.not_le.mpr ha), va_AO.of (A := args) (hts _ (List.mem_append_right _ (List.mem_of_getElem? (i := 80) rfl)))⟩
