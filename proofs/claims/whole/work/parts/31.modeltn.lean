/-! the other program: the turns of a night -/
/-- only the row beside, and why blocks stay, may change -/
def WF (I I1 : xI) : Prop := (∀ q, q ≠ 89 → q ≠ 93 → I1 q = I q) ∧ ∀ j, j < 215 → I1 89 j = I 89 j
theorem WF.rf {I : xI} : WF I I := ⟨fun _ _ _ => rfl, fun _ _ => rfl⟩
theorem WF.trans {I I1 I2 : xI} (h : WF I I1) (h' : WF I1 I2) : WF I I2 := ⟨fun q a b => (h'.1 q a b).trans (h.1 q a b), fun j a => (h'.2 j a).trans (h.2 j a)⟩
def K5 (I I1 : xI) : Prop := (∀ q, q ≠ 89 → I1 q = I q) ∧ ∀ j, j < 215 → I1 89 j = I 89 j
theorem K5.wf {I I1 : xI} (h : K5 I I1) : WF I I1 := ⟨fun q a _ => h.1 q a, h.2⟩
theorem K5.w5 {I I1 : xI} (h : K5 I I1) {y : Nat → Int} {n : Nat} (hW : W5 I y n) : W5 I1 y n := fun k hk => by rw [h.1 93 (by decide)]; exact hW k hk
theorem WF.r0 {I I1 : xI} (h : WF I I1) {g : Nat → Int} {n : Nat} (hn : n ≤ 24) (hR : RR I 0 g n) : RR I1 0 g n := fun j hj => by rw [h.2 _ (by omega)]; exact hR j hj
theorem RC.same {I : xI} {c p : Nat} {g g' : Nat → Int} {n : Nat} (h : RC I c p g n) (e : SameG g g' n) : RC I c p g' n := fun j hj => by
  by_cases a : j < 23
  · rw [h j hj]; exact e.1 j a
  · have e1 : 23 + 8 * ((j - 23) / 8) + (j - 23) % 8 = j := by omega
    have := e.2 ((j - 23) / 8) (by omega) ((j - 23) % 8) (by omega)
    unfold gb at this
    rw [e1] at this
    rw [h j hj]; exact this
section
variable {κ : xK} {d pc : Nat} {L : List (Option xAV)} {st : List xAV} {I : xI} {Q : xQ}
theorem Y_ast {g : Nat → Int} {n : Nat} {z v : Int} (hd : decode κ.2.1 pc = .ok (.iastore, 1)) (hR : RR I 215 g n) (hn : n ≤ 24) (j : Nat) (hj : j < 215) (hz : z = 215 + (j : Int)) (kk : ∀ I1, RR I1 215 (gN g j v) n → K5 I I1 → Y κ d (pc + 1) L st I1 Q) : Y κ d pc L (ii v :: ii z :: rr 89 :: st) I Q := by
  refine X_iast hd sh_89 (by decide) (by omega) ?_
  have e : z.toNat = 215 + j := by omega
  rw [e]
  refine kk _ (fun i hi => ?_) ⟨fun q hq => x_up_ne hq, fun i hi => x_up_offj (by omega)⟩
  rw [x_up_app, gN_num]
  by_cases a : i = j
  · rw [if_pos ⟨rfl, by omega⟩, if_pos a]
  · rw [if_neg (by omega), if_neg a]; exact hR i hi
theorem Y_astB {g : Nat → Int} {n : Nat} {z v : Int} (hd : decode κ.2.1 pc = .ok (.iastore, 1)) (hR : RR I 215 g n) (hn : n ≤ 24) (k w : Nat) (hk : k < 24) (hw : w < 8) (hz : z = 215 + 23 + 8 * (k : Int) + (w : Int)) (kk : ∀ I1, RR I1 215 (gB g k w v) n → K5 I I1 → Y κ d (pc + 1) L st I1 Q) : Y κ d pc L (ii v :: ii z :: rr 89 :: st) I Q :=
  Y_ast hd hR hn (23 + 8 * k + w) (by omega) (by omega) kk
theorem Y_astW {g y : Nat → Int} {n : Nat} {z v : Int} (hd : decode κ.2.1 pc = .ok (.iastore, 1)) (k : Nat) (hk : k < n) (hn : n ≤ 24) (hR : RR I 215 g n) (hW : W5 I y n) (v' : Int) (hz : z = (k : Int)) (hv : v = dz v') (kk : ∀ I1, RR I1 215 g n → W5 I1 (yu y k v') n → WF I I1 → Y κ d (pc + 1) L st I1 Q) : Y κ d pc L (ii v :: ii z :: rr 93 :: st) I Q := by
  refine X_iast hd sh_93 (by decide) (by omega) ?_
  subst hz
  rw [Int.toNat_natCast]
  refine kk _ (fun i hi => ?_) (fun q hq => ?_) ⟨fun q _ hq => x_up_ne hq, fun i hi => x_up_off (by decide)⟩
  · rw [x_up_off (by decide)]; exact hR i hi
  · rw [x_up_app]
    unfold yu
    by_cases a : q = k
    · rw [if_pos ⟨rfl, a⟩, if_pos a, hv]
    · rw [if_neg (by omega), if_neg a]; exact hW q hq
end
/-- the turns as they are taken here: past the greatest number of moves each block is still called -/
def tnR (w : Nat → Int) (n : Nat) (most : Int) (dn : Bool) : Nat → (Nat → Int) → (Nat → Int) → Int → (Nat → Int) × (Nat → Int) × Int
  | 0, g, y, m => (g, y, m)
  | f + 1, g, y, m => match nxF w g y dn n with
    | none => (g, y, m)
    | some k => if m < most then (match tg w g n k with
      | none => tnR w n most dn f g (yu y k 5) m
      | some sh => tnR w n most dn f (mp g k sh) (yu y k 0) (m + 1)) else tnR w n most dn f g (yu y k 9) m
theorem tnR_n {w : Nat → Int} {n : Nat} {most : Int} {dn : Bool} {g y : Nat → Int} {m : Int} (hk : nxF w g y dn n = none) : ∀ f, tnR w n most dn f g y m = (g, y, m)
  | 0 => rfl
  | f + 1 => by unfold tnR; rw [hk]
theorem tnR_5 {w : Nat → Int} {n : Nat} {most : Int} {dn : Bool} {g y : Nat → Int} {m : Int} {k f : Nat} (hk : nxF w g y dn n = some k) (hm : m < most) (ht : tg w g n k = none) : tnR w n most dn (f + 1) g y m = tnR w n most dn f g (yu y k 5) m := by
  rw [tnR]; simp only [hk, if_pos hm, ht]
theorem tnR_0 {w : Nat → Int} {n : Nat} {most : Int} {dn : Bool} {g y : Nat → Int} {m : Int} {k f sh : Nat} (hk : nxF w g y dn n = some k) (hm : m < most) (ht : tg w g n k = some sh) : tnR w n most dn (f + 1) g y m = tnR w n most dn f (mp g k sh) (yu y k 0) (m + 1) := by
  rw [tnR]; simp only [hk, if_pos hm, ht]
theorem tnR_9 {w : Nat → Int} {n : Nat} {most : Int} {dn : Bool} {g y : Nat → Int} {m : Int} {k f : Nat} (hk : nxF w g y dn n = some k) (hm : ¬ m < most) : tnR w n most dn (f + 1) g y m = tnR w n most dn f g (yu y k 9) m := by
  rw [tnR]; simp only [hk, if_neg hm]
/-- how many have their turn still to come -/
def pn (y : Nat → Int) : Nat → Nat
  | 0 => 0
  | k + 1 => pn y k + (if y k = 4 then 1 else 0)
theorem pn_le (y : Nat → Int) : ∀ n, pn y n ≤ n
  | 0 => Nat.le_refl 0
  | k + 1 => by
    have := pn_le y k
    show pn y k + (if y k = 4 then 1 else 0) ≤ k + 1
    split <;> omega
theorem pn_ge {y : Nat → Int} {k : Nat} {v : Int} : ∀ {n}, n ≤ k → pn (yu y k v) n = pn y n
  | 0, _ => rfl
  | n + 1, h => by
    show pn (yu y k v) n + (if yu y k v n = 4 then 1 else 0) = pn y n + (if y n = 4 then 1 else 0)
    have e : yu y k v n = y n := by unfold yu; rw [if_neg (by omega)]
    rw [pn_ge (n := n) (by omega), e]
theorem pn_yu {y : Nat → Int} {k : Nat} {v : Int} (h4 : y k = 4) (hv : v ≠ 4) : ∀ {n}, k < n → pn (yu y k v) n + 1 = pn y n
  | 0, h => absurd h (Nat.not_lt_zero k)
  | n + 1, h => by
    show pn (yu y k v) n + (if yu y k v n = 4 then 1 else 0) + 1 = pn y n + (if y n = 4 then 1 else 0)
    by_cases e : n = k
    · subst e
      rw [pn_ge (Nat.le_refl n), if_pos h4]
      unfold yu
      rw [if_pos rfl, if_neg hv]
    · have := pn_yu (y := y) h4 hv (n := n) (by omega)
      have e2 : yu y k v n = y n := by unfold yu; rw [if_neg e]
      rw [e2]
      omega
theorem cnd4 {w g y : Nat → Int} {dn : Bool} {k : Nat} (h : cnd w g y dn k = true) : y k = 4 := by
  unfold cnd at h
  rw [Bool.and_eq_true, decide_eq_true_eq] at h
  exact h.1
theorem mp_same {g : Nat → Int} {k sh n : Nat} {v : Int} (hv : v = if sh = 2 then g 4 else 0) (h5 : gb g k 5 = 0) : SameG (gB (gB (gB g k 3 (sh : Int)) k 5 v) k 7 (gb (gB (gB g k 3 (sh : Int)) k 5 v) k 7 + 1)) (mp g k sh) n := by
  have e7 : gb (gB (gB g k 3 (sh : Int)) k 5 v) k 7 = gb g k 7 := by rw [gB_ne (by decide) (by decide) (by decide), gB_ne (by decide) (by decide) (by decide)]
  rw [e7]
  refine ⟨fun j hj => by rw [gB_num hj, gB_num hj, gB_num hj, mp_num hj], fun q hq j hj => ?_⟩
  rw [gB_gb (by decide) hj, gB_gb (by decide) hj, gB_gb (by decide) hj]
  unfold mp
  by_cases a : sh = 2
  · rw [if_pos a] at hv
    rw [if_pos a, gB_gb (by decide) hj, mv_gb hj, mv_num (by decide)]
    by_cases b7 : q = k ∧ j = 7
    · rw [if_pos b7, if_neg (by omega), if_neg (by omega), if_pos b7]
    · rw [if_neg b7, if_neg b7]
      by_cases b5 : q = k ∧ j = 5
      · rw [if_pos b5, if_pos b5, hv]
      · rw [if_neg b5, if_neg b5]
  · rw [if_neg a] at hv
    rw [if_neg a, mv_gb hj]
    by_cases b7 : q = k ∧ j = 7
    · rw [if_pos b7, if_neg (by omega), if_pos b7]
    · rw [if_neg b7, if_neg b7]
      by_cases b5 : q = k ∧ j = 5
      · rw [if_pos b5, if_neg (by omega), hv, b5.1, b5.2, h5]
      · rw [if_neg b5]
theorem wt_mp {g : Nat → Int} {k sh : Nat} : wt (mp g k sh) = wt g := by
  funext q
  unfold wt
  rw [mp_num (by decide), mp_num (by decide), mp_gb1.1]
def T5 (I : xI) (n : Nat) (r : (Nat → Int) × (Nat → Int) × Int) (z : Int) (I1 : xI) : Prop := z = r.2.2 ∧ RR I1 215 r.1 n ∧ W5 I1 r.2.1 n ∧ WF I I1
theorem mp_b5 {g : Nat → Int} {k sh q : Nat} (h : ¬ q = k) : gb (mp g k sh) q 5 = gb g q 5 := by
  unfold mp
  split
  · rw [gB_nek (by decide) (by decide) h, mv_gb (by decide), if_neg (by omega), if_neg (by omega)]
  · rw [mv_gb (by decide), if_neg (by omega), if_neg (by omega)]

set_option maxRecDepth 20000 in
set_option maxHeartbeats 4000000 in
theorem t5_turns_loop {I0 : xI} {n : Nat} (hn24 : n ≤ 24) (dn : Bool) {iD : Int} (hD : iD = iB dn) {w : Nat → Int} {most m0 : Int} : ∀ (f : Nat) (I : xI) (g y : Nat → Int) (m : Int), pn y n ≤ f → WF I0 I → RR I 215 g n → GI g n → W5 I y n → (∀ k, k < n → 0 ≤ y k ∧ y k ≤ 9) → (∀ k, k < n → y k = 4 → gb g k 5 = 0) → wt g = w → g 3 = most → (0 ≤ m ∧ m ≤ most) → Y kX5_turns 4 11 [some (rr 88), some (ii 215), some (ii iD), some (ii m0), some (ii m), some (ii (oi (nxF w g y dn n) (-5))), none] [] I (q_i (T5 I0 n (tnR w n most dn f g y m))) := by
  intro f
  induction f with
  | zero =>
    intro I g y m hpn hF hR hG hW hy h5 hw h3 hm0
    cases hk : nxF w g y dn n with
    | none =>
      show Y kX5_turns 4 11 [some (rr 88), some (ii 215), some (ii iD), some (ii m0), some (ii m), some (ii (-5)), none] [] I _
      refine X_iloadW dX5_turns_11 rfl ?_
      refine X_bipush dX5_turns_13 (by decide) ?_
      refine X_icmp_eq (tgt := 166) dX5_turns_15 (by decide) (by omega) (fun c_15 => ?_) (fun c_15 => absurd c_15 (by omega))
      refine X_iloadW dX5_turns_166 rfl ?_
      refine X_iret dX5_turns_168 (Or.inl rfl) ?_
      exact ⟨rfl, rfl, m, rfl, by rw [tnR_n hk]; exact ⟨rfl, hR, hW, hF⟩⟩
    | some k =>
      have hkn := nxF_lt hk
      have := pn_yu (y := y) (v := 5) (cnd4 hkn.2) (by decide) hkn.1
      omega
  | succ f ih =>
    intro I g y m hpn hF hR hG hW hy h5 hw h3 hm0
    have hm3 := hG.s3
    cases hk : nxF w g y dn n with
    | none =>
      show Y kX5_turns 4 11 [some (rr 88), some (ii 215), some (ii iD), some (ii m0), some (ii m), some (ii (-5)), none] [] I _
      refine X_iloadW dX5_turns_11 rfl ?_
      refine X_bipush dX5_turns_13 (by decide) ?_
      refine X_icmp_eq (tgt := 166) dX5_turns_15 (by decide) (by omega) (fun c_15 => ?_) (fun c_15 => absurd c_15 (by omega))
      refine X_iloadW dX5_turns_166 rfl ?_
      refine X_iret dX5_turns_168 (Or.inl rfl) ?_
      exact ⟨rfl, rfl, m, rfl, by rw [tnR_n hk]; exact ⟨rfl, hR, hW, hF⟩⟩
    | some k =>
      have h4 := cnd4 (nxF_lt hk).2
      have hkn := (nxF_lt hk).1
      show Y kX5_turns 4 11 [some (rr 88), some (ii 215), some (ii iD), some (ii m0), some (ii m), some (ii (k : Int)), none] [] I _
      have d5 : dz 5 = 5 := rfl
      have d0 : dz 0 = 0 := rfl
      have d9 : dz 9 = 4 := rfl
      by_cases hm : m < most
      · have htg := t5_target hR (by decide) hG (ip := 215) rfl k hkn rfl
        rw [hw] at htg
        cases ht : tg w g n k with
        | none =>
          rw [ht] at htg
          change S _ _ _ _ (q_p (ii (-5)) I) at htg
          refine X_iloadW dX5_turns_11 rfl ?_
          refine X_bipush dX5_turns_13 (by decide) ?_
          refine X_icmp_eq (tgt := 166) dX5_turns_15 (by decide) (by omega) (fun c_15 => absurd c_15 (by omega)) (fun c_15 => ?_)
          refine X_iloadW dX5_turns_18 rfl ?_
          refine X_aload dX5_turns_20 rfl ?_
          refine X_getR dX5_turns_21 rfl gf_X5_7 sh_88 (by decide) rfl rf_88_0 ?_
          refine X_iload dX5_turns_24 rfl ?_
          refine X_iconst dX5_turns_25 ?_
          refine X_iadd dX5_turns_26 ?_
          refine Y_ald dX5_turns_27 hR (by omega) hn24 (3) (by omega) (by omega) ?_
          refine X_icmp_ge (tgt := 41) dX5_turns_28 (by decide) (by omega) (fun c_28 => absurd c_28 (by omega)) (fun c_28 => ?_)
          refine X_aload dX5_turns_31 rfl ?_
          refine X_iload dX5_turns_32 rfl ?_
          refine X_iloadW dX5_turns_33 rfl ?_
          refine Y_pV dX5_turns_35 cv_X5_51 sh_88 (by decide) htg rfl ?_
          refine X_goto (tgt := 43) dX5_turns_38 (by decide) ?_
          refine X_istoreW dX5_turns_43 (by decide) ?_
          dsimp only [List.set]
          refine X_aload dX5_turns_45 rfl ?_
          refine X_getR dX5_turns_46 rfl gf_X5_22 sh_88 (by decide) rfl rf_88_7 ?_
          refine X_iloadW dX5_turns_49 rfl ?_
          refine X_iloadW dX5_turns_51 rfl ?_
          refine X_aload dX5_turns_53 rfl ?_
          refine X_getR dX5_turns_54 rfl gf_X5_7 sh_88 (by decide) rfl rf_88_0 ?_
          refine X_iload dX5_turns_57 rfl ?_
          refine X_iconst dX5_turns_58 ?_
          refine X_iadd dX5_turns_59 ?_
          refine Y_ald dX5_turns_60 hR (by omega) hn24 (3) (by omega) (by omega) ?_
          refine X_icmp_ne (tgt := 68) dX5_turns_61 (by decide) (by omega) (fun c_61 => ?_) (fun c_61 => absurd c_61 (by omega))
          refine X_iloadW dX5_turns_68 rfl ?_
          refine X_bipush dX5_turns_70 (by decide) ?_
          refine X_icmp_ne (tgt := 79) dX5_turns_72 (by decide) (by omega) (fun c_72 => absurd c_72 (by omega)) (fun c_72 => ?_)
          refine X_iconst dX5_turns_75 ?_
          refine X_goto (tgt := 80) dX5_turns_76 (by decide) ?_
          refine Y_astW dX5_turns_80 (k) (by omega) hn24 hR hW 5 (by omega) (by omega) (fun I80 hR hW hK80 => ?_)
          have hF := hF.trans hK80
          have hy : ∀ q, q < n → 0 ≤ yu y k 5 q ∧ yu y k 5 q ≤ 9 := fun q hq => by
            unfold yu
            split
            · decide
            · exact hy q hq
          have hpn := pn_yu (y := y) (v := 5) h4 (by decide) hkn
          refine X_iloadW dX5_turns_81 rfl ?_
          refine X_bipush dX5_turns_83 (by decide) ?_
          refine X_icmp_eq (tgt := 155) dX5_turns_85 (by decide) (by omega) (fun c_85 => ?_) (fun c_85 => absurd c_85 (by omega))
          refine X_aload dX5_turns_155 rfl ?_
          refine X_iload dX5_turns_156 rfl ?_
          refine X_iload dX5_turns_157 rfl ?_
          refine Y_pV dX5_turns_158 cv_X5_47 sh_88 (by decide) (t5_next hR (by decide) hG rfl hW hy dn hD) rfl ?_
          rw [hw]
          refine X_istoreW dX5_turns_161 (by decide) ?_
          dsimp only [List.set]
          refine X_goto (tgt := 11) dX5_turns_163 (by decide) ?_
          refine X_drop 6 ?_
          dsimp only [List.set]
          rw [tnR_5 hk hm ht]
          have h5 : ∀ q, q < n → yu y k 5 q = 4 → gb g q 5 = 0 := fun q hq e => by
            unfold yu at e
            split at e
            · exact absurd e (by decide)
            · exact h5 q hq e
          exact ih _ g (yu y k 5) m (by omega) hF hR hG hW hy h5 hw h3 (by omega)
        | some sh =>
          have hs3 := tg_lt (by rw [← hw]; exact wt_bounds g k) ht
          rw [ht] at htg
          change S _ _ _ _ (q_p (ii (sh : Int)) I) at htg
          refine X_iloadW dX5_turns_11 rfl ?_
          refine X_bipush dX5_turns_13 (by decide) ?_
          refine X_icmp_eq (tgt := 166) dX5_turns_15 (by decide) (by omega) (fun c_15 => absurd c_15 (by omega)) (fun c_15 => ?_)
          refine X_iloadW dX5_turns_18 rfl ?_
          refine X_aload dX5_turns_20 rfl ?_
          refine X_getR dX5_turns_21 rfl gf_X5_7 sh_88 (by decide) rfl rf_88_0 ?_
          refine X_iload dX5_turns_24 rfl ?_
          refine X_iconst dX5_turns_25 ?_
          refine X_iadd dX5_turns_26 ?_
          refine Y_ald dX5_turns_27 hR (by omega) hn24 (3) (by omega) (by omega) ?_
          refine X_icmp_ge (tgt := 41) dX5_turns_28 (by decide) (by omega) (fun c_28 => absurd c_28 (by omega)) (fun c_28 => ?_)
          refine X_aload dX5_turns_31 rfl ?_
          refine X_iload dX5_turns_32 rfl ?_
          refine X_iloadW dX5_turns_33 rfl ?_
          refine Y_pV dX5_turns_35 cv_X5_51 sh_88 (by decide) htg rfl ?_
          refine X_goto (tgt := 43) dX5_turns_38 (by decide) ?_
          refine X_istoreW dX5_turns_43 (by decide) ?_
          dsimp only [List.set]
          refine X_aload dX5_turns_45 rfl ?_
          refine X_getR dX5_turns_46 rfl gf_X5_22 sh_88 (by decide) rfl rf_88_7 ?_
          refine X_iloadW dX5_turns_49 rfl ?_
          refine X_iloadW dX5_turns_51 rfl ?_
          refine X_aload dX5_turns_53 rfl ?_
          refine X_getR dX5_turns_54 rfl gf_X5_7 sh_88 (by decide) rfl rf_88_0 ?_
          refine X_iload dX5_turns_57 rfl ?_
          refine X_iconst dX5_turns_58 ?_
          refine X_iadd dX5_turns_59 ?_
          refine Y_ald dX5_turns_60 hR (by omega) hn24 (3) (by omega) (by omega) ?_
          refine X_icmp_ne (tgt := 68) dX5_turns_61 (by decide) (by omega) (fun c_61 => ?_) (fun c_61 => absurd c_61 (by omega))
          refine X_iloadW dX5_turns_68 rfl ?_
          refine X_bipush dX5_turns_70 (by decide) ?_
          refine X_icmp_ne (tgt := 79) dX5_turns_72 (by decide) (by omega) (fun c_72 => ?_) (fun c_72 => absurd c_72 (by omega))
          refine X_iconst dX5_turns_79 ?_
          refine Y_astW dX5_turns_80 (k) (by omega) hn24 hR hW 0 (by omega) (by omega) (fun I80 hR hW hK80 => ?_)
          have hF := hF.trans hK80
          have hy : ∀ q, q < n → 0 ≤ yu y k 0 q ∧ yu y k 0 q ≤ 9 := fun q hq => by
            unfold yu
            split
            · decide
            · exact hy q hq
          have hpn := pn_yu (y := y) (v := 0) h4 (by decide) hkn
          refine X_iloadW dX5_turns_81 rfl ?_
          refine X_bipush dX5_turns_83 (by decide) ?_
          refine X_icmp_eq (tgt := 155) dX5_turns_85 (by decide) (by omega) (fun c_85 => absurd c_85 (by omega)) (fun c_85 => ?_)
          refine X_aload dX5_turns_88 rfl ?_
          refine X_getR dX5_turns_89 rfl gf_X5_7 sh_88 (by decide) rfl rf_88_0 ?_
          refine X_iload dX5_turns_92 rfl ?_
          refine X_iloadW dX5_turns_93 rfl ?_
          refine Y_pS dX5_turns_95 cs_X5_32 (t5_at _ _ _) rfl ?_
          refine X_iconst dX5_turns_98 ?_
          refine X_iadd dX5_turns_99 ?_
          refine X_iloadW dX5_turns_100 rfl ?_
          refine Y_astB dX5_turns_102 hR hn24 (k) (3) (by omega) (by omega) (by omega) (fun I102 hR hK102 => ?_)
          have hF := hF.trans hK102.wf
          have hW := hK102.w5 hW
          refine X_aload dX5_turns_103 rfl ?_
          refine X_getR dX5_turns_104 rfl gf_X5_7 sh_88 (by decide) rfl rf_88_0 ?_
          refine X_iload dX5_turns_107 rfl ?_
          refine X_iloadW dX5_turns_108 rfl ?_
          refine Y_pS dX5_turns_110 cs_X5_32 (t5_at _ _ _) rfl ?_
          refine X_iconst dX5_turns_113 ?_
          refine X_iadd dX5_turns_114 ?_
          refine X_iloadW dX5_turns_115 rfl ?_
          refine X_iconst dX5_turns_117 ?_
          refine X_icmp_ne (tgt := 132) dX5_turns_118 (by decide) (by omega) (fun c_118 => ?_) (fun c_118 => ?_)
          · refine X_iconst dX5_turns_132 ?_
            refine Y_astB dX5_turns_133 hR hn24 (k) (5) (by omega) (by omega) (by omega) (fun I133 hR hK133 => ?_)
            have hF := hF.trans hK133.wf
            have hW := hK133.w5 hW
            refine X_aload dX5_turns_134 rfl ?_
            refine X_getR dX5_turns_135 rfl gf_X5_7 sh_88 (by decide) rfl rf_88_0 ?_
            refine X_iload dX5_turns_138 rfl ?_
            refine X_iloadW dX5_turns_139 rfl ?_
            refine Y_pS dX5_turns_141 cs_X5_32 (t5_at _ _ _) rfl ?_
            refine X_bipush dX5_turns_144 (by decide) ?_
            refine X_iadd dX5_turns_146 ?_
            refine X_dup2 dX5_turns_147 ?_
            refine Y_aldB dX5_turns_148 hR (by omega) hn24 (k) (7) (by omega) (by omega) (by omega) ?_
            refine X_iconst dX5_turns_149 ?_
            refine X_iadd dX5_turns_150 ?_
            refine Y_astB dX5_turns_151 hR hn24 (k) (7) (by omega) (by omega) (by omega) (fun I151 hR hK151 => ?_)
            have hF := hF.trans hK151.wf
            have hW := hK151.w5 hW
            refine X_iinc dX5_turns_152 rfl ?_
            dsimp only [List.set]
            have hR := hR.same (mp_same (by first | rw [if_pos (by omega), gB_num (by decide)] | rw [if_neg (by omega)]) (h5 k hkn h4))
            have hG := hG.setP (k := k) hs3
            have hw := (wt_mp (g := g) (k := k) (sh := sh)).trans hw
            have h3 : mp g k sh 3 = most := (mp_num (by decide)).trans h3
            refine X_aload dX5_turns_155 rfl ?_
            refine X_iload dX5_turns_156 rfl ?_
            refine X_iload dX5_turns_157 rfl ?_
            refine Y_pV dX5_turns_158 cv_X5_47 sh_88 (by decide) (t5_next hR (by decide) hG rfl hW hy dn hD) rfl ?_
            rw [hw]
            refine X_istoreW dX5_turns_161 (by decide) ?_
            dsimp only [List.set]
            refine X_goto (tgt := 11) dX5_turns_163 (by decide) ?_
            refine X_drop 6 ?_
            dsimp only [List.set]
            rw [tnR_0 hk hm ht]
            have h5 : ∀ q, q < n → yu y k 0 q = 4 → gb (mp g k sh) q 5 = 0 := fun q hq e => by
              unfold yu at e
              split at e
              · exact absurd e (by decide)
              · rename_i ne
                rw [mp_b5 ne]
                exact h5 q hq e
            exact ih _ (mp g k sh) (yu y k 0) (m + 1) (by omega) hF hR hG hW hy h5 hw h3 (by omega)
          · refine X_aload dX5_turns_121 rfl ?_
            refine X_getR dX5_turns_122 rfl gf_X5_7 sh_88 (by decide) rfl rf_88_0 ?_
            refine X_iload dX5_turns_125 rfl ?_
            refine X_iconst dX5_turns_126 ?_
            refine X_iadd dX5_turns_127 ?_
            refine Y_ald dX5_turns_128 hR (by omega) hn24 (4) (by omega) (by omega) ?_
            refine X_goto (tgt := 133) dX5_turns_129 (by decide) ?_
            refine Y_astB dX5_turns_133 hR hn24 (k) (5) (by omega) (by omega) (by omega) (fun I133 hR hK133 => ?_)
            have hF := hF.trans hK133.wf
            have hW := hK133.w5 hW
            refine X_aload dX5_turns_134 rfl ?_
            refine X_getR dX5_turns_135 rfl gf_X5_7 sh_88 (by decide) rfl rf_88_0 ?_
            refine X_iload dX5_turns_138 rfl ?_
            refine X_iloadW dX5_turns_139 rfl ?_
            refine Y_pS dX5_turns_141 cs_X5_32 (t5_at _ _ _) rfl ?_
            refine X_bipush dX5_turns_144 (by decide) ?_
            refine X_iadd dX5_turns_146 ?_
            refine X_dup2 dX5_turns_147 ?_
            refine Y_aldB dX5_turns_148 hR (by omega) hn24 (k) (7) (by omega) (by omega) (by omega) ?_
            refine X_iconst dX5_turns_149 ?_
            refine X_iadd dX5_turns_150 ?_
            refine Y_astB dX5_turns_151 hR hn24 (k) (7) (by omega) (by omega) (by omega) (fun I151 hR hK151 => ?_)
            have hF := hF.trans hK151.wf
            have hW := hK151.w5 hW
            refine X_iinc dX5_turns_152 rfl ?_
            dsimp only [List.set]
            have hR := hR.same (mp_same (by first | rw [if_pos (by omega), gB_num (by decide)] | rw [if_neg (by omega)]) (h5 k hkn h4))
            have hG := hG.setP (k := k) hs3
            have hw := (wt_mp (g := g) (k := k) (sh := sh)).trans hw
            have h3 : mp g k sh 3 = most := (mp_num (by decide)).trans h3
            refine X_aload dX5_turns_155 rfl ?_
            refine X_iload dX5_turns_156 rfl ?_
            refine X_iload dX5_turns_157 rfl ?_
            refine Y_pV dX5_turns_158 cv_X5_47 sh_88 (by decide) (t5_next hR (by decide) hG rfl hW hy dn hD) rfl ?_
            rw [hw]
            refine X_istoreW dX5_turns_161 (by decide) ?_
            dsimp only [List.set]
            refine X_goto (tgt := 11) dX5_turns_163 (by decide) ?_
            refine X_drop 6 ?_
            dsimp only [List.set]
            rw [tnR_0 hk hm ht]
            have h5 : ∀ q, q < n → yu y k 0 q = 4 → gb (mp g k sh) q 5 = 0 := fun q hq e => by
              unfold yu at e
              split at e
              · exact absurd e (by decide)
              · rename_i ne
                rw [mp_b5 ne]
                exact h5 q hq e
            exact ih _ (mp g k sh) (yu y k 0) (m + 1) (by omega) hF hR hG hW hy h5 hw h3 (by omega)
      · refine X_iloadW dX5_turns_11 rfl ?_
        refine X_bipush dX5_turns_13 (by decide) ?_
        refine X_icmp_eq (tgt := 166) dX5_turns_15 (by decide) (by omega) (fun c_15 => absurd c_15 (by omega)) (fun c_15 => ?_)
        refine X_iloadW dX5_turns_18 rfl ?_
        refine X_aload dX5_turns_20 rfl ?_
        refine X_getR dX5_turns_21 rfl gf_X5_7 sh_88 (by decide) rfl rf_88_0 ?_
        refine X_iload dX5_turns_24 rfl ?_
        refine X_iconst dX5_turns_25 ?_
        refine X_iadd dX5_turns_26 ?_
        refine Y_ald dX5_turns_27 hR (by omega) hn24 (3) (by omega) (by omega) ?_
        refine X_icmp_ge (tgt := 41) dX5_turns_28 (by decide) (by omega) (fun c_28 => ?_) (fun c_28 => absurd c_28 (by omega))
        refine X_bipush dX5_turns_41 (by decide) ?_
        refine X_istoreW dX5_turns_43 (by decide) ?_
        dsimp only [List.set]
        refine X_aload dX5_turns_45 rfl ?_
        refine X_getR dX5_turns_46 rfl gf_X5_22 sh_88 (by decide) rfl rf_88_7 ?_
        refine X_iloadW dX5_turns_49 rfl ?_
        refine X_iloadW dX5_turns_51 rfl ?_
        refine X_aload dX5_turns_53 rfl ?_
        refine X_getR dX5_turns_54 rfl gf_X5_7 sh_88 (by decide) rfl rf_88_0 ?_
        refine X_iload dX5_turns_57 rfl ?_
        refine X_iconst dX5_turns_58 ?_
        refine X_iadd dX5_turns_59 ?_
        refine Y_ald dX5_turns_60 hR (by omega) hn24 (3) (by omega) (by omega) ?_
        refine X_icmp_ne (tgt := 68) dX5_turns_61 (by decide) (by omega) (fun c_61 => absurd c_61 (by omega)) (fun c_61 => ?_)
        refine X_iconst dX5_turns_64 ?_
        refine X_goto (tgt := 80) dX5_turns_65 (by decide) ?_
        refine Y_astW dX5_turns_80 (k) (by omega) hn24 hR hW 9 (by omega) (by omega) (fun I80 hR hW hK80 => ?_)
        have hF := hF.trans hK80
        have hy : ∀ q, q < n → 0 ≤ yu y k 9 q ∧ yu y k 9 q ≤ 9 := fun q hq => by
          unfold yu
          split
          · decide
          · exact hy q hq
        have hpn := pn_yu (y := y) (v := 9) h4 (by decide) hkn
        refine X_iloadW dX5_turns_81 rfl ?_
        refine X_bipush dX5_turns_83 (by decide) ?_
        refine X_icmp_eq (tgt := 155) dX5_turns_85 (by decide) (by omega) (fun c_85 => ?_) (fun c_85 => absurd c_85 (by omega))
        refine X_aload dX5_turns_155 rfl ?_
        refine X_iload dX5_turns_156 rfl ?_
        refine X_iload dX5_turns_157 rfl ?_
        refine Y_pV dX5_turns_158 cv_X5_47 sh_88 (by decide) (t5_next hR (by decide) hG rfl hW hy dn hD) rfl ?_
        rw [hw]
        refine X_istoreW dX5_turns_161 (by decide) ?_
        dsimp only [List.set]
        refine X_goto (tgt := 11) dX5_turns_163 (by decide) ?_
        refine X_drop 6 ?_
        dsimp only [List.set]
        rw [tnR_9 hk hm]
        have h5 : ∀ q, q < n → yu y k 9 q = 4 → gb g q 5 = 0 := fun q hq e => by
          unfold yu at e
          split at e
          · exact absurd e (by decide)
          · exact h5 q hq e
        exact ih _ g (yu y k 9) m (by omega) hF hR hG hW hy h5 hw h3 (by omega)
set_option maxRecDepth 20000 in
set_option maxHeartbeats 4000000 in
theorem t5_turns {I : xI} {g y : Nat → Int} {n : Nat} (hR : RR I 215 g n) (hG : GI g n) (hW : W5 I y n) (hy : ∀ k, k < n → 0 ≤ y k ∧ y k ≤ 9) (h5 : ∀ k, k < n → y k = 4 → gb g k 5 = 0) (dn : Bool) {iD : Int} (hD : iD = iB dn) {m : Int} (hm : 0 ≤ m ∧ m ≤ g 3) : S kX5_turns 4 [rr 88, ii 215, ii iD, ii m] I (q_i (T5 I n (tnR (wt g) n (g 3) dn 24 g y m))) := by
  have hn24 := hG.n24
  have hpn := Nat.le_trans (pn_le y n) hn24
  refine Sp_intro (by decide +kernel) (Nat.le_of_ble_eq_true rfl) ?_
  show Y kX5_turns 4 0 [some (rr 88), some (ii 215), some (ii iD), some (ii m), none, none, none] [] I _
  refine X_iload dX5_turns_0 rfl ?_
  refine X_istoreW dX5_turns_1 (by decide) ?_
  dsimp only [List.set]
  refine X_aload dX5_turns_3 rfl ?_
  refine X_iload dX5_turns_4 rfl ?_
  refine X_iload dX5_turns_5 rfl ?_
  refine Y_pV dX5_turns_6 cv_X5_47 sh_88 (by decide) (t5_next hR (by decide) hG rfl hW hy dn hD) rfl ?_
  refine X_istoreW dX5_turns_9 (by decide) ?_
  dsimp only [List.set]
  exact t5_turns_loop hn24 dn hD 24 I g y m hpn WF.rf hR hG hW hy h5 rfl rfl hm
