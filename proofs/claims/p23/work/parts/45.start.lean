/-! the start: what the memory is to hold, the numbers of an empty object -/
def J0 : xI := fun q j => if q = 100 then fv j else if q = 101 then mx j else if q < 90 then iv q j else 0
theorem J0_lt {q : Nat} (h : q < 90) (j : Nat) : J0 q j = iv q j := by
  unfold J0
  rw [if_neg (by omega), if_neg (by omega), if_pos h]
theorem J0_ok : JJ J0 := ⟨fun q h j => J0_lt h j, fun j _ => rfl⟩
theorem J0_0 {q : Nat} (h : q < 90) (h2 : ¬ (q = 2 ∨ q = 13 ∨ q = 24 ∨ q = 37 ∨ q = 48 ∨ q = 59 ∨ q = 70)) (j : Nat) : J0 q j = 0 := (J0_lt h j).trans (iv_no h2)
theorem GI0 : GI fv 0 := ⟨by decide, by decide, by decide, by decide, by decide, by decide, by decide, by decide, by decide, by decide, by decide, fun k hk => absurd hk (Nat.not_lt_zero k)⟩
theorem CG0 : CG (fv, 0) [] none tx0 0 := ⟨⟨GI0, by decide⟩, ⟨by decide, fun q h => absurd h List.not_mem_nil⟩, (fun q h => by cases h), ⟨by decide, fun j hj => absurd hj (Nat.not_lt_zero j)⟩⟩
theorem CI0 : CI J0 (fv, 0) [] none tx0 0 := by
  refine ⟨⟨fun j hj => rfl, fun j hj => rfl⟩, ⟨fun j hj => (J0_lt (by omega) j).trans (if_pos (by omega)), fun k hk => absurd hk (Nat.not_lt_zero k), fun sh hsh => (J0_0 (by omega) (by omega) sh).trans rfl⟩, ⟨0, by decide, J0_0 (by omega) (by omega) 1, J0_0 (by omega) (by omega) 2, fun j s h => by simp at h⟩, J0_0 (by omega) (by omega) 3, J0_0 (by omega) (by omega) 1, fun j hj => absurd hj (Nat.not_lt_zero j)⟩
theorem WZ0 : WZ (fv, 0) J0 J0 := ⟨⟨[], rfl⟩, CI0, fun _ _ => rfl, CG0⟩
theorem IV0 : IV fv 0 := ⟨fun sh hs => by
    rcases (by omega : sh = 0 ∨ sh = 1 ∨ sh = 2) with q | q | q <;> subst q <;> decide, by decide, fun i j _ hj => absurd hj (Nat.not_lt_zero j), fun k hk => absurd hk (Nat.not_lt_zero k), fun k hk => absurd hk (Nat.not_lt_zero k), fun k hk => absurd hk (Nat.not_lt_zero k)⟩
theorem EV0 : EV (fv, 0) 0 := ⟨by decide, by decide, by decide⟩
/-- with no block no night moves one -/
theorem tn_zero {w : Nat → Int} {most : Int} {dn : Bool} : ∀ (f : Nat) (g y : Nat → Int) (m : Int), (tn w 0 most dn f g y m).2.2 = m
  | 0, g, y, m => rfl
  | f + 1, g, y, m => by
    by_cases h : m < most
    · rw [tn_none h rfl]
    · rw [tn_stop (by omega)]
theorem nv_zero (g : Nat → Int) (most : Int) : nsM g 0 most 1 = 0 := by
  show 0 + ntM g 0 most = 0
  unfold ntM ntU ntD
  rw [tn_zero, tn_zero]
  rfl
theorem nx_zero {s : xS} (h : s.2 = 0) : ∀ m k : Nat, nxM s m k = -5
  | 0, k => rfl
  | m + 1, k => by
    have e : nxM s (m + 1) k = if 0 < nvM s k then ((k + 1 : Nat) : Int) else nxM s m (k + 1) := rfl
    have e0 : nvM s k = 0 := by
      unfold nvM
      rw [h]
      exact nv_zero _ _
    rw [e, e0, if_neg (by decide)]
    exact nx_zero h m (k + 1)
theorem zR_id {R : xR} {N : Nat} (h : ∀ j, R N j = none) : x_zR R N = R := by
  funext q j
  unfold x_zR
  by_cases e : q = N
  · subst e
    rw [if_pos rfl]
    exact (h j).symm
  · rw [if_neg e]
set_option maxRecDepth 20000 in
set_option maxHeartbeats 4000000 in
theorem law_start {sb Ln : Nat} {xs : Nat → Int} {nm : String} (hxs : ∀ j, -2147483648 ≤ xs j ∧ xs j ≤ 2147483647) (hLn : Ln ≤ 260) : XL sb Ln xs (kW nm) 10 90 1865 0 [none, none, none, none, none, none] [] 0 J0 xR0 qT := by
  refine XL_new (bc' := 89) (bs' := 1858) tyX4 dL_law_0 rfl (show vwCl[4]? = some (RX4, TX4, 7) from rfl) rfl inX4 tyX4_ok (xT_of (List.mem_append_right _ (List.mem_of_getElem? (i := 8) rfl)) rfl) (xT_of (List.mem_append_right _ (List.mem_of_getElem? (i := 9) rfl)) rfl) (xT_of (List.mem_append_right _ (List.mem_of_getElem? (i := 1) rfl)) rfl) rfl (by omega) fsX4 rfl rfl ?_
  rw [← x_z_id (J0_0 (q := 0) (by omega) (by omega)), zR_rK (R := xR0) (c := 0) (fun q _ => rfl)]
  refine XL_dup dL_law_3 ?_
  refine XL_callC (as := []) (rest := [rr 0]) dL_law_4 rfl cc_L_64 (n_Shelves J0_ok xR0) rfl rfl (by decide) (by decide) (by decide) (by decide) (fun ro N1 I1 R1 h => ?_)
  obtain ⟨rfl, rfl, h3, h4⟩ := h
  rw [h3, h4, rB_id (R := xR0) (c := 0) (fun q _ => rfl)]
  refine XL_astore dL_law_7 (Nat.le_of_ble_eq_true rfl) ?_
  refine XL_bipush dL_law_8 (by decide) ?_
  refine XL_newI (n' := 24) (bc' := 1) (bs' := 24) dL_law_10 rfl sh_88 (by omega) rfl rfl ?_
  rw [← x_z_id (J0_0 (q := 88) (by omega) (by omega)), zR_id (R := xR0) (N := 88) (fun j => rfl)]
  refine XL_astore dL_law_12 (Nat.le_of_ble_eq_true rfl) ?_
  refine XL_bipush dL_law_13 (by decide) ?_
  refine XL_newI (n' := 24) (bc' := 0) (bs' := 0) dL_law_15 rfl sh_89 (by omega) rfl rfl ?_
  rw [← x_z_id (J0_0 (q := 89) (by omega) (by omega)), zR_id (R := xR0) (N := 89) (fun j => rfl)]
  refine XL_astore dL_law_17 (Nat.le_of_ble_eq_true rfl) ?_
  dsimp only [List.set]
  show YL sb Ln xs (kW nm) 10 18 [none, some (rr 0), some (rr 88), some (rr 89), none, none] [] J0 qT
  refine XL_aload dL_law_18 rfl ?_
  refine YL_iS dL_law_19 cs_L_65 (z_are WZ0 IV0) rfl (fun z I hz => ?_)
  obtain ⟨rfl, hW⟩ := hz
  refine XL_if_eq (tgt := 63) dL_law_22 (by decide) (by decide) (fun c_22 => absurd c_22 (by decide)) (fun c_22 => ?_)
  refine XL_aload dL_law_25 rfl ?_
  refine XL_iconst dL_law_26 ?_
  refine YL_pV dL_law_27 cv_L_8 sh_0 (by decide) (z_num hW 1 (by decide) rfl) rfl ?_
  rw [show ((fv, 0) : xS).1 1 = 3000 from rfl]
  refine XL_sipush dL_law_30 (by decide) ?_
  refine XL_same_ne (tgt := 63) dL_law_33 (by decide) rfl ?_
  refine XL_aload dL_law_36 rfl ?_
  refine YL_iV dL_law_37 cv_L_28 sh_0 (by decide) (z_next hW) rfl (fun z I hz => ?_)
  obtain ⟨ez, hW⟩ := hz
  rw [show qNext (fv, 0) = -5 from nx_zero rfl 99 0] at ez
  rw [ez]
  obtain ⟨⟨hs, hs0⟩, hC, hX, hG⟩ := hW
  have hs0 : hs = [] := hs0
  subst hs0
  refine XL_bipush dL_law_40 (by decide) ?_
  refine XL_same_ne (tgt := 63) dL_law_42 (by decide) rfl ?_
  refine XL_aload dL_law_45 rfl ?_
  refine YL_iV dL_law_46 cv_L_69 sh_0 (by decide) (pu_undo0 hC) rfl (fun z I1 hz => ?_)
  obtain ⟨rfl, hC, hX1⟩ := hz
  refine XL_bipush dL_law_49 (by decide) ?_
  refine XL_same_ne (tgt := 63) dL_law_51 (by decide) rfl ?_
  refine XL_aload dL_law_54 rfl ?_
  refine YL_iV dL_law_55 cv_L_72 sh_0 (by decide) (pu_restore0 hC) rfl (fun z I2 hz => ?_)
  obtain ⟨rfl, hC, hX2⟩ := hz
  refine XL_bipush dL_law_58 (by decide) ?_
  refine XL_same_eq (tgt := 65) dL_law_60 (by decide) rfl ?_
  refine XL_iconst dL_law_65 ?_
  refine XL_istoreW dL_law_66 (Nat.le_of_ble_eq_true rfl) ?_
  dsimp only [List.set]
  exact law_loop hxs hLn 70 0 rfl (fv, 0) J0 _ ⟨[], hC, (hX.trans hX1).trans hX2, hG⟩ IV0 EV0
/-- a static row of numbers, out of what the Statement gives of it -/
theorem x_slen {args : Array Value} {first s : State} {o : Option Outcome} {idx : List Nat} {t : Term} {v : Value} (h : (Term.length t).eval args first o idx s = some v) : ∃ a cell, t.eval args first o idx s = some (.ref a) ∧ s.arrayAt? a = some cell ∧ cell.slots.size < 2147483648 ∧ v = .int cell.slots.size.toInt32 := by
  simp only [Term.eval, Option.bind_eq_bind] at h
  cases ht : t.eval args first o idx s with
  | none => simp [ht] at h
  | some x =>
    cases x <;> simp [ht] at h
    case ref a =>
      obtain ⟨cell, hcell, h⟩ := Option.bind_eq_some_iff.mp h
      by_cases hn : cell.slots.size < 2147483648
      · rw [if_pos hn] at h; cases h; exact ⟨a, cell, rfl, hcell, hn, rfl⟩
      · rw [if_neg hn] at h; cases h
theorem x_Xof {args : Array Value} {s : State} {tm : Term} {N : Nat} {f : Nat → Int32} (hN : N < 2 ^ 31) (harr : (Cond.arrayOf tm .int).before args s = true) (hlen : (Cond.eq (.length tm) (.int (Int32.ofNat N))).before args s = true) (hel : ∀ j : Nat, j < N → (Cond.eq (.elem tm (.int (Int32.ofNat j))) (.int (f j))).before args s = true) : ∃ t : Nat, tm.eval args s none [] s = some (.ref t) ∧ va_X t N f s s.heap ∧ t < s.heap.size := by
  have hl := va_eqt hlen
  obtain ⟨t, ht, cell, h1, h2, h3, h4, h5, h6, -⟩ := va_Tof (f := fun j => .int (f j)) (A := fun q => s.heap.size ≤ q) hN harr hl (fun j hj => va_eqt (hel j hj)) (fun a ha => Nat.not_le.mpr ha)
  obtain ⟨a, cell2, g1, g2, g3, -⟩ := x_slen hl
  cases ht.symm.trans g1
  have g4 := (State.arrayAt?_spec g2).1
  cases h1.symm.trans g4
  have e : cell.slots.size = N := by
    have e1 : (cell.slots.size.toInt32).toNatClampNeg = cell.slots.size := Int32.toNatClampNeg_ofNat_of_lt (by omega)
    rw [h5, Int32.toNatClampNeg_ofNat_of_lt hN] at e1
    exact e1.symm
  exact ⟨t, ht, ⟨cell, h1, h2, h3, e, h6⟩, (Array.getElem?_eq_some_iff.mp h1).1⟩
set_option maxRecDepth 20000 in
set_option maxHeartbeats 4000000 in
theorem x_classes {s : State} {args : Array Value} (hts : ∀ w ∈ lw_tbl, w.before args s = true) : ∃ (dC : Nat → ClassId) (dI : Nat → Nat → Nat), ∀ (k : Nat) (q : vw_C), vwCl[k]? = some q → u_Kn s q.1 q.2.1 q.2.2 (dC k) (dI k) := by
  obtain ⟨c0, s0, k0⟩ := u_known (C := RX0) (T := TX0) (N := 3) (n := 3) hts (fun w h => xT_in (inX0 w h)) (hts (.instantiable RX0 3) (xT_in (xT_of (List.mem_append_right _ (List.mem_of_getElem? (i := 73) rfl)) rfl)))
  obtain ⟨c1, s1, k1⟩ := u_known (C := RX1) (T := TX1) (N := 2) (n := 2) hts (fun w h => xT_in (inX1 w h)) (hts (.instantiable RX1 2) (xT_in (xT_of (List.mem_append_right _ (List.mem_of_getElem? (i := 93) rfl)) rfl)))
  obtain ⟨c2, s2, k2⟩ := u_known (C := RX2) (T := TX2) (N := 7) (n := 7) hts (fun w h => xT_in (inX2 w h)) (hts (.instantiable RX2 7) (xT_in (xT_of (List.mem_append_right _ (List.mem_of_getElem? (i := 107) rfl)) rfl)))
  obtain ⟨c3, s3, k3⟩ := u_known (C := RX3) (T := TX3) (N := 10) (n := 10) hts (fun w h => xT_in (inX3 w h)) (hts (.instantiable RX3 10) (xT_in (xT_of (List.mem_append_right _ (List.mem_of_getElem? (i := 17) rfl)) rfl)))
  obtain ⟨c4, s4, k4⟩ := u_known (C := RX4) (T := TX4) (N := 7) (n := 7) hts (fun w h => xT_in (inX4 w h)) (hts (.instantiable RX4 7) (xT_in (xT_of (List.mem_append_right _ (List.mem_of_getElem? (i := 9) rfl)) rfl)))
  refine ⟨fun k => if k = 0 then c0 else if k = 1 then c1 else if k = 2 then c2 else if k = 3 then c3 else c4, fun k => if k = 0 then s0 else if k = 1 then s1 else if k = 2 then s2 else if k = 3 then s3 else s4, ?_⟩
  intro k q hq
  match k, hq with
  | 0, hq => cases hq; exact k0
  | 1, hq => cases hq; exact k1
  | 2, hq => cases hq; exact k2
  | 3, hq => cases hq; exact k3
  | 4, hq => cases hq; exact k4
  | k + 5, hq => simp [vwCl] at hq
set_option maxRecDepth 20000 in
theorem x_NTf_in : ∀ w ∈ x_NTf, Cond.fieldLinkNest w.1 w.2.1 w.2.2.1 w.2.2.2.1 w.2.2.2.2.1 w.2.2.2.2.2 ∈ lw_tbl := by decide +kernel
set_option maxRecDepth 20000 in
theorem x_NTm_in : ∀ w ∈ x_NTm, Cond.methodLinkNest w.1 w.2.1 w.2.2.1 w.2.2.2 ∈ lw_tbl := by decide +kernel
set_option maxRecDepth 20000 in
set_option maxHeartbeats 4000000 in
theorem x_KF0 {s : State} {args : Array Value} {dC : Nat → ClassId} {dI : Nat → Nat → Nat} {tF tG : Nat} (hts : ∀ w ∈ lw_tbl, w.before args s = true) (hKc : ∀ (k : Nat) (q : vw_C), vwCl[k]? = some q → u_Kn s q.1 q.2.1 q.2.2 (dC k) (dI k)) (hF : (Term.static "HeatShelves" "FIRST_VALUES" "[I").eval args s none [] s = some (.ref tF)) (hG : (Term.static "HeatShelves" "GREATEST_VALUES" "[I").eval args s none [] s = some (.ref tG)) : x_KF (s.heap.size, dC, dI, tF, tG) s :=
  ⟨hKc, fun w hw => va_Nw.of rfl (hts _ (x_NTf_in w hw)), fun w hw => va_Nw.of rfl (hts _ (x_NTm_in w hw)), va_Zref (hts _ (List.mem_append_right _ (List.mem_of_getElem? (i := 23) rfl))) (hts _ (List.mem_append_right _ (List.mem_of_getElem? (i := 1) rfl))) hF (fun a ha => Nat.not_le.mpr ha), va_Zref (hts _ (List.mem_append_right _ (List.mem_of_getElem? (i := 285) rfl))) (hts _ (List.mem_append_right _ (List.mem_of_getElem? (i := 1) rfl))) hG (fun a ha => Nat.not_le.mpr ha), va_AO.of (A := args) (hts _ (List.mem_append_right _ (List.mem_of_getElem? (i := 79) rfl)))⟩
