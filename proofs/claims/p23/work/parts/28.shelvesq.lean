/-! HeatShelves: what it is asked -/
theorem py_gb {g : Nat → Int} {n k j : Nat} : ∀ s, gb (pyF g n s) k j = gb g k j
  | 0 => gN_gb (by decide)
  | s + 1 => (gN_gb (by decide)).trans (py_gb s)
theorem py_num {g : Nat → Int} {n j : Nat} (h17 : j ≠ 17) (h18 : j ≠ 18) : ∀ s, pyF g n s j = g j
  | 0 => by unfold pyF; rw [gN_num, if_neg h17]
  | s + 1 => by unfold pyF; rw [gN_num, if_neg h18]; exact py_num h17 h18 s
theorem py_on {g : Nat → Int} {n : Nat} {sh : Int} {w : Nat} (hw : w < 8) (s : Nat) : onF (pyF g n s) n sh w = onF g n sh w := on_congr hw (fun k _ => ⟨py_gb s, py_gb s⟩)
theorem py18 {g : Nat → Int} {n : Nat} (s : Nat) (hs : s < 3) : pyF g n (s + 1) 18 = pyF g n s 18 + onF g n s 1 * g (9 + s) := by
  show gN _ 18 _ 18 = _
  rw [gN_num, if_pos rfl, py_on (by decide), py_num (j := 9 + s) (by omega) (by omega)]
theorem cost_bounds {g : Nat → Int} {n : Nat} (h : GI g n) {s : Nat} (hs : s < 3) : 0 ≤ onF g n s 1 * g (9 + s) ∧ onF g n s 1 * g (9 + s) ≤ 10800 := by
  have h1 := on_bounds h s
  have h2 := h.s9 (j := s) (by omega)
  have a := Int.mul_nonneg h1.1 h2.1
  have b := Int.mul_le_mul h1.2 h2.2 h2.1 (by omega)
  omega
theorem py18_all {g : Nat → Int} {n : Nat} : pyF g n 3 18 = g 18 + onF g n (0 : Nat) 1 * g 9 + onF g n (1 : Nat) 1 * g 10 + onF g n (2 : Nat) 1 * g 11 := by
  rw [py18 2 (by decide), py18 1 (by decide), py18 0 (by decide)]
  show gN g 17 (g 17 + 1) 18 + _ + _ + _ = _
  rw [gN_num, if_neg (by decide)]
theorem nt18 {g : Nat → Int} {n : Nat} {most : Int} : (ntU g n most).1 18 = pyF g n 3 18 := by
  unfold ntU ntD
  rw [tn_num (by decide), tn_num (by decide)]
  unfold nt1
  rw [fd_num (by decide)]
theorem ns18 {g : Nat → Int} {n : Nat} {most : Int} (h : GI g n) : ∀ i : Nat, 0 ≤ nsG g n most i 18 - g 18 ∧ nsG g n most i 18 - g 18 ≤ 32400 * i
  | 0 => by show 0 ≤ g 18 - g 18 ∧ g 18 - g 18 ≤ 32400 * ((0 : Nat) : Int); omega
  | i + 1 => by
    have h1 := ns18 (most := most) h i
    have h2 := h.ns most i
    have c0 := cost_bounds h2 (s := 0) (by decide)
    have c1 := cost_bounds h2 (s := 1) (by decide)
    have c2 := cost_bounds h2 (s := 2) (by decide)
    show 0 ≤ (ntU (nsG g n most i) n most).1 18 - g 18 ∧ (ntU (nsG g n most i) n most).1 18 - g 18 ≤ 32400 * ((i + 1 : Nat) : Int)
    rw [nt18, py18_all]
    simp only [Nat.add_zero, Nat.reduceAdd] at c0 c1 c2
    omega
def pwH (s : xS) (hot : Int) (t : Nat) : Int := npG (gN s.1 1 hot) s.2 t 18 - s.1 18
theorem GI.hot {g : Nat → Int} {n : Nat} (h : GI g n) {z : Int} (hz : 0 ≤ z ∧ z ≤ 20000) : GI (gN g 1 z) n := h.setN (by decide) ⟨by decide, fun q => absurd q (by decide), fun _ => hz, fun q => absurd q (by decide), fun q => absurd q (by decide), fun q => absurd q (by decide), fun q => absurd q (by decide), fun q => absurd q (by decide), fun q => absurd q (by decide), fun q => absurd q (by decide)⟩
theorem np18 {g : Nat → Int} {n i : Nat} : npG g n i 18 = nsG g n (g 3) i 18 := by unfold npG; rw [gN_num, if_neg (by decide)]
theorem pwH_bounds {s : xS} (h : SG s) {hot : Int} (hh : 0 ≤ hot ∧ hot ≤ 20000) (t : Nat) : 0 ≤ pwH s hot t ∧ pwH s hot t ≤ 32400 * t := by
  have h1 := ns18 (most := gN s.1 1 hot 3) (h.1.hot hh) t
  unfold pwH
  rw [np18]
  rw [show gN s.1 1 hot 18 = s.1 18 from rfl] at h1
  exact h1
def hbF (s : xS) (t : Nat) : Nat → Option (Int × Int)
  | 0 => none
  | i + 1 => if 500 * (i : Int) < s.1 2 then hbF s t i else match hbF s t i with
    | none => some (500 * (i : Int), pwH s (500 * (i : Int)) t)
    | some (b, l) => if pwH s (500 * (i : Int)) t < l then some (500 * (i : Int), pwH s (500 * (i : Int)) t) else some (b, l)
theorem hbF_ok {s : xS} (h : SG s) {t : Nat} (ht : t ≤ 20) : ∀ {i : Nat}, i ≤ 41 → ∀ {b l : Int}, hbF s t i = some (b, l) → 0 ≤ b ∧ b ≤ 20000 ∧ 0 ≤ l ∧ l ≤ 648000
  | 0, _, b, l, e => by cases e
  | i + 1, hi, b, l, e => by
    have hp := pwH_bounds h (hot := 500 * (i : Int)) (by omega) t
    unfold hbF at e
    split at e
    · exact hbF_ok h ht (by omega) e
    · split at e
      · cases e; omega
      · rename_i b1 l1 h1
        split at e
        · cases e; omega
        · cases e; exact hbF_ok h ht (by omega) h1
theorem hbF_someK {s : xS} (t i : Nat) (h2 : s.1 2 ≤ 500 * (i : Int)) : ∃ q, hbF s t (i + 1) = some q := by
  unfold hbF
  rw [if_neg (by omega)]
  split
  · exact ⟨_, rfl⟩
  · split <;> exact ⟨_, rfl⟩
theorem hbF_some {s : xS} (h : SG s) (t : Nat) : ∃ q, hbF s t 41 = some q := hbF_someK t 40 (by have h2 := h.1.s2; have e : ((40 : Nat) : Int) = 40 := rfl; rw [e]; omega)
def nvG (s : xS) : Nat → (Nat → Int)
  | 0 => s.1
  | k + 1 => npG (nvG s k) s.2 1
theorem GI.nv {s : xS} (h : GI s.1 s.2) : ∀ k, GI (nvG s k) s.2
  | 0 => h
  | k + 1 => (GI.nv h k).np 1
def nvM (s : xS) (k : Nat) : Int := nsM (nvG s k) s.2 (nvG s k 3) 1
def nxM (s : xS) : Nat → Nat → Int
  | 0, _ => -5
  | m + 1, k => if 0 < nvM s k then ((k + 1 : Nat) : Int) else nxM s m (k + 1)
def qBlock (s : xS) (r : Int) : Int := if r < 0 then -2 else match rk s.1 s.2 r with
  | none => -5
  | some k => gb s.1 k 0
def qOf (s : xS) (b w : Int) : Int := match pl s.1 s.2 b with
  | none => -1
  | some k => if w = 0 then gb s.1 k 1 else if w = 1 then gb s.1 k 2 else if w = 2 then gb s.1 k 3 else if w = 3 then wt s.1 k else if w = 4 then gb s.1 k 4 else if w = 5 then gb s.1 k 5 else if w = 6 then gb s.1 k 6 else if w = 7 then gb s.1 k 7 else if w = 8 then (ntU s.1 s.2 (s.1 3)).2.1 k else -2
def qShelf (s : xS) (sh w : Int) : Int := if sh < 0 ∨ 3 ≤ sh then -1 else if w = 0 then s.1 (6 + sh.toNat) else if w = 1 then onF s.1 s.2 sh 1 else if w = 2 then onF s.1 s.2 sh 0 else if w = 3 then onF s.1 s.2 sh 2 else if w = 4 then onF s.1 s.2 sh 1 * s.1 (9 + sh.toNat) else -2
def qTotal (s : xS) (hl len : Nat) (w : Int) : Int := if 0 ≤ w ∧ w < 23 then s.1 w.toNat else if w = 23 then pins s.1 s.2 else if w = 24 then htA s.1 s.2 else if w = 25 then (hl : Int) else if w = 26 then (len : Int) else -2
def qIf (s : xS) (t w : Int) : Int := if t < 1 ∨ 99 < t ∨ w < 0 ∨ 5 < w then -2 else if w = 0 then npG s.1 s.2 t.toNat 18 - s.1 18 else if w = 1 then nsM s.1 s.2 (s.1 3) t.toNat else if w = 2 then htA (npG s.1 s.2 t.toNat) s.2 else onF (npG s.1 s.2 t.toNat) s.2 (w - 3) 1
def qNext (s : xS) : Int := nxM s 99 0
def qHot (s : xS) (t w : Int) : Int := if t < 1 ∨ 20 < t ∨ w < 0 ∨ 1 < w then -2 else match hbF s t.toNat 41 with
  | none => -5
  | some (b, l) => if w = 0 then b else l
set_option maxRecDepth 20000 in
set_option maxHeartbeats 4000000 in
theorem pu_block {I : xI} {s : xS} {hs : List xS} {sn : Option xS} {tx : Nat → Int} {len : Nat} (hC : CI I s hs sn tx len) (hg : CG s hs sn tx len) (r : Int) (hr : -2147483648 ≤ r ∧ r ≤ 2147483647) : S kX4_block 4 [rr 0, ii r] I (q_p (ii (qBlock s r)) I) := by
  refine Sp_intro (by decide +kernel) (Nat.le_of_ble_eq_true rfl) ?_
  show Y kX4_block 4 0 [some (rr 0), some (ii r), none] [] I _
  rcases hp : rk s.1 s.2 r with _ | k
  · have hfd := t_placeOfRank st1 hC.2.1 hg.1.1 r hr
    rw [hp] at hfd
    change S _ _ _ _ (q_p (ii (-1)) I) at hfd
    refine X_iload dX4_block_0 rfl ?_
    refine X_if_ge (tgt := 7) dX4_block_1 (by decide) (by omega) (fun c_1 => ?_) (fun c_1 => ?_)
    · refine X_aload dX4_block_7 rfl ?_
      refine X_getR dX4_block_8 rfl gf_X4_10 sh_0 (by decide) rfl rf_0_0 ?_
      refine X_iload dX4_block_11 rfl ?_
      refine Y_pV dX4_block_12 cv_X4_101 sh_1 (by decide) hfd rfl ?_
      refine X_istore dX4_block_15 (by decide) ?_
      dsimp only [List.set]
      refine X_iload dX4_block_16 rfl ?_
      refine X_iconst dX4_block_17 ?_
      refine X_icmp_ne (tgt := 26) dX4_block_18 (by decide) (by omega) (fun c_18 => absurd c_18 (by omega)) (fun c_18 => ?_)
      refine X_bipush dX4_block_21 (by decide) ?_
      refine X_goto (tgt := 37) dX4_block_23 (by decide) ?_
      refine X_iret dX4_block_37 (Or.inl rfl) ?_
      exact ⟨by unfold qBlock; rw [if_neg (by omega), hp], rfl, rfl, rfl⟩
    · refine X_bipush dX4_block_4 (by decide) ?_
      refine X_iret dX4_block_6 (Or.inl rfl) ?_
      exact ⟨by unfold qBlock; rw [if_pos (by omega)], rfl, rfl, rfl⟩
  · have hk : k < s.2 := by have := rkF_lt hp; omega
    have h24 := hg.1.1.n24
    have hfd := t_placeOfRank st1 hC.2.1 hg.1.1 r hr
    rw [hp] at hfd
    change S _ _ _ _ (q_p (ii ((k : Nat) : Int)) I) at hfd
    refine X_iload dX4_block_0 rfl ?_
    refine X_if_ge (tgt := 7) dX4_block_1 (by decide) (by omega) (fun c_1 => ?_) (fun c_1 => ?_)
    · refine X_aload dX4_block_7 rfl ?_
      refine X_getR dX4_block_8 rfl gf_X4_10 sh_0 (by decide) rfl rf_0_0 ?_
      refine X_iload dX4_block_11 rfl ?_
      refine Y_pV dX4_block_12 cv_X4_101 sh_1 (by decide) hfd rfl ?_
      refine X_istore dX4_block_15 (by decide) ?_
      dsimp only [List.set]
      refine X_iload dX4_block_16 rfl ?_
      refine X_iconst dX4_block_17 ?_
      refine X_icmp_ne (tgt := 26) dX4_block_18 (by decide) (by omega) (fun c_18 => ?_) (fun c_18 => absurd c_18 (by omega))
      refine X_aload dX4_block_26 rfl ?_
      refine X_getR dX4_block_27 rfl gf_X4_10 sh_0 (by decide) rfl rf_0_0 ?_
      refine X_getR dX4_block_30 rfl gf_X4_104 sh_1 (by decide) rfl rf_1_2 ?_
      refine X_iload dX4_block_33 rfl ?_
      refine Y_pS dX4_block_34 cs_X4_108 (t_blk0 st1 hC.2.1 hg.1.1.n24 k hk rfl) rfl ?_
      refine X_iret dX4_block_37 (Or.inl rfl) ?_
      exact ⟨by unfold qBlock; rw [if_neg (by omega), hp], rfl, rfl, rfl⟩
    · refine X_bipush dX4_block_4 (by decide) ?_
      refine X_iret dX4_block_6 (Or.inl rfl) ?_
      exact ⟨by unfold qBlock; rw [if_pos (by omega)], rfl, rfl, rfl⟩
set_option maxRecDepth 20000 in
set_option maxHeartbeats 4000000 in
theorem pu_why {I : xI} {s : xS} {hs : List xS} {sn : Option xS} {tx : Nat → Int} {len : Nat} (hC : CI I s hs sn tx len) (hg : CG s hs sn tx len) (k : Nat) (hk : k < s.2) {i : Int} (hi : i = (k : Int)) : S kX4_whyItStays 5 [rr 0, ii i] I (q_i (fun ans I1 => ans = (ntU s.1 s.2 (s.1 3)).2.1 k ∧ SF I I1)) := by
  subst hi
  refine Sp_intro (by decide +kernel) (Nat.le_of_ble_eq_true rfl) ?_
  show Y kX4_whyItStays 5 0 [some (rr 0), some (ii (k : Int))] [] I _
  refine X_aload dX4_whyItStays_0 rfl ?_
  refine X_getR dX4_whyItStays_1 rfl gf_X4_16 sh_0 (by decide) rfl rf_0_1 ?_
  refine X_aload dX4_whyItStays_4 rfl ?_
  refine X_getR dX4_whyItStays_5 rfl gf_X4_10 sh_0 (by decide) rfl rf_0_0 ?_
  refine Y_vV dX4_whyItStays_8 cv_X4_47 sh_12 (by decide) (t_copyFrom st12 st1 (by decide) hC.2.1 hg.1.1.n24) rfl (fun I8 h8 => ?_)
  refine X_aload dX4_whyItStays_11 rfl ?_
  refine X_getR dX4_whyItStays_12 rfl gf_X4_36 sh_0 (by decide) rfl rf_0_5 ?_
  refine X_aload dX4_whyItStays_15 rfl ?_
  refine X_getR dX4_whyItStays_16 rfl gf_X4_16 sh_0 (by decide) rfl rf_0_1 ?_
  refine X_iconst dX4_whyItStays_19 ?_
  refine Y_iV dX4_whyItStays_20 cv_X4_166 sh_80 (by decide) (t_letPass st12 h8.1 hg.1.1 1 (by decide)) rfl (fun z20 I20 h20 => ?_)
  refine X_pop dX4_whyItStays_23 ?_
  refine X_aload dX4_whyItStays_24 rfl ?_
  refine X_getR dX4_whyItStays_25 rfl gf_X4_36 sh_0 (by decide) rfl rf_0_5 ?_
  refine X_getR dX4_whyItStays_28 rfl gf_X4_198 sh_80 (by decide) rfl rf_80_1 ?_
  refine X_iload dX4_whyItStays_31 rfl ?_
  refine Y_pS dX4_whyItStays_32 cs_X4_108 (t_atk sh_82 (Or.inl (by decide)) _ k (by have := hg.1.1.n24; omega) rfl) rfl ?_
  rw [h20.2.2.2 0 rfl k hk]
  refine X_iret dX4_whyItStays_35 (Or.inl rfl) ?_
  exact ⟨rfl, rfl, _, rfl, rfl, h8.2.sf.trans h20.2.2.1.sf⟩
set_option maxRecDepth 20000 in
set_option maxHeartbeats 4000000 in
theorem pu_ofBlock {I : xI} {s : xS} {hs : List xS} {sn : Option xS} {tx : Nat → Int} {len : Nat} (hC : CI I s hs sn tx len) (hg : CG s hs sn tx len) (b : Int) (hb : -2147483648 ≤ b ∧ b ≤ 2147483647) (w : Int) (hw : -2147483648 ≤ w ∧ w ≤ 2147483647) : S kX4_ofBlock 6 [rr 0, ii b, ii w] I (q_i (fun ans I1 => ans = qOf s b w ∧ SF I I1)) := by
  refine Sp_intro (by decide +kernel) (Nat.le_of_ble_eq_true rfl) ?_
  show Y kX4_ofBlock 6 0 [some (rr 0), some (ii b), some (ii w), none] [] I _
  rcases hp : pl s.1 s.2 b with _ | k
  · have hfd := t_find st1 hC.2.1 hg.1.1 b hb
    rw [hp] at hfd
    change S _ _ _ _ (q_p (ii (-1)) I) at hfd
    refine X_aload dX4_ofBlock_0 rfl ?_
    refine X_getR dX4_ofBlock_1 rfl gf_X4_10 sh_0 (by decide) rfl rf_0_0 ?_
    refine X_iload dX4_ofBlock_4 rfl ?_
    refine Y_pV dX4_ofBlock_5 cv_X4_112 sh_1 (by decide) hfd rfl ?_
    refine X_istore dX4_ofBlock_8 (by decide) ?_
    dsimp only [List.set]
    refine X_iload dX4_ofBlock_9 rfl ?_
    refine X_iconst dX4_ofBlock_10 ?_
    refine X_icmp_ne (tgt := 16) dX4_ofBlock_11 (by decide) (by omega) (fun c_11 => absurd c_11 (by omega)) (fun c_11 => ?_)
    refine X_iconst dX4_ofBlock_14 ?_
    refine X_iret dX4_ofBlock_15 (Or.inl rfl) ?_
    exact ⟨rfl, rfl, _, rfl, by unfold qOf; rw [hp], SF.rf⟩
  · have hk : k < s.2 := by have := pl_lt hp; omega
    have h24 := hg.1.1.n24
    have hfd := t_find st1 hC.2.1 hg.1.1 b hb
    rw [hp] at hfd
    change S _ _ _ _ (q_p (ii ((k : Nat) : Int)) I) at hfd
    refine X_aload dX4_ofBlock_0 rfl ?_
    refine X_getR dX4_ofBlock_1 rfl gf_X4_10 sh_0 (by decide) rfl rf_0_0 ?_
    refine X_iload dX4_ofBlock_4 rfl ?_
    refine Y_pV dX4_ofBlock_5 cv_X4_112 sh_1 (by decide) hfd rfl ?_
    refine X_istore dX4_ofBlock_8 (by decide) ?_
    dsimp only [List.set]
    refine X_iload dX4_ofBlock_9 rfl ?_
    refine X_iconst dX4_ofBlock_10 ?_
    refine X_icmp_ne (tgt := 16) dX4_ofBlock_11 (by decide) (by omega) (fun c_11 => ?_) (fun c_11 => absurd c_11 (by omega))
    refine X_iload dX4_ofBlock_16 rfl ?_
    by_cases w_0 : w = 0
    · refine X_tswIn (v := 0) (tgt := 68) dX4_ofBlock_17 w_0 (by decide) (by decide) (by decide) rfl (by decide) ?_
      refine X_aload dX4_ofBlock_68 rfl ?_
      refine X_getR dX4_ofBlock_69 rfl gf_X4_10 sh_0 (by decide) rfl rf_0_0 ?_
      refine X_getR dX4_ofBlock_72 rfl gf_X4_115 sh_1 (by decide) rfl rf_1_3 ?_
      refine X_iload dX4_ofBlock_75 rfl ?_
      refine Y_pS dX4_ofBlock_76 cs_X4_108 (t_blk1 st1 hC.2.1 hg.1.1.n24 k hk rfl) rfl ?_
      refine X_iret dX4_ofBlock_79 (Or.inl rfl) ?_
      refine ⟨rfl, rfl, _, rfl, ?_, SF.rf⟩
      unfold qOf
      rw [hp]
      dsimp only
      rw [if_pos (by omega)]
    by_cases w_1 : w = 1
    · refine X_tswIn (v := 1) (tgt := 80) dX4_ofBlock_17 w_1 (by decide) (by decide) (by decide) rfl (by decide) ?_
      refine X_aload dX4_ofBlock_80 rfl ?_
      refine X_getR dX4_ofBlock_81 rfl gf_X4_10 sh_0 (by decide) rfl rf_0_0 ?_
      refine X_getR dX4_ofBlock_84 rfl gf_X4_118 sh_1 (by decide) rfl rf_1_4 ?_
      refine X_iload dX4_ofBlock_87 rfl ?_
      refine Y_pS dX4_ofBlock_88 cs_X4_108 (t_blk2 st1 hC.2.1 hg.1.1.n24 k hk rfl) rfl ?_
      refine X_iret dX4_ofBlock_91 (Or.inl rfl) ?_
      refine ⟨rfl, rfl, _, rfl, ?_, SF.rf⟩
      unfold qOf
      rw [hp]
      dsimp only
      rw [if_neg (by omega), if_pos (by omega)]
    by_cases w_2 : w = 2
    · refine X_tswIn (v := 2) (tgt := 92) dX4_ofBlock_17 w_2 (by decide) (by decide) (by decide) rfl (by decide) ?_
      refine X_aload dX4_ofBlock_92 rfl ?_
      refine X_getR dX4_ofBlock_93 rfl gf_X4_10 sh_0 (by decide) rfl rf_0_0 ?_
      refine X_getR dX4_ofBlock_96 rfl gf_X4_121 sh_1 (by decide) rfl rf_1_5 ?_
      refine X_iload dX4_ofBlock_99 rfl ?_
      refine Y_pS dX4_ofBlock_100 cs_X4_108 (t_blk3 st1 hC.2.1 hg.1.1.n24 k hk rfl) rfl ?_
      refine X_iret dX4_ofBlock_103 (Or.inl rfl) ?_
      refine ⟨rfl, rfl, _, rfl, ?_, SF.rf⟩
      unfold qOf
      rw [hp]
      dsimp only
      rw [if_neg (by omega), if_neg (by omega), if_pos (by omega)]
    by_cases w_3 : w = 3
    · refine X_tswIn (v := 3) (tgt := 104) dX4_ofBlock_17 w_3 (by decide) (by decide) (by decide) rfl (by decide) ?_
      refine X_aload dX4_ofBlock_104 rfl ?_
      refine X_getR dX4_ofBlock_105 rfl gf_X4_10 sh_0 (by decide) rfl rf_0_0 ?_
      refine X_iload dX4_ofBlock_108 rfl ?_
      refine Y_pV dX4_ofBlock_109 cv_X4_124 sh_1 (by decide) (t_wantedShelf st1 hC.2.1 hg.1.1 k hk rfl) rfl ?_
      refine X_iret dX4_ofBlock_112 (Or.inl rfl) ?_
      refine ⟨rfl, rfl, _, rfl, ?_, SF.rf⟩
      unfold qOf
      rw [hp]
      dsimp only
      rw [if_neg (by omega), if_neg (by omega), if_neg (by omega), if_pos (by omega)]
    by_cases w_4 : w = 4
    · refine X_tswIn (v := 4) (tgt := 113) dX4_ofBlock_17 w_4 (by decide) (by decide) (by decide) rfl (by decide) ?_
      refine X_aload dX4_ofBlock_113 rfl ?_
      refine X_getR dX4_ofBlock_114 rfl gf_X4_10 sh_0 (by decide) rfl rf_0_0 ?_
      refine X_getR dX4_ofBlock_117 rfl gf_X4_127 sh_1 (by decide) rfl rf_1_6 ?_
      refine X_iload dX4_ofBlock_120 rfl ?_
      refine Y_pS dX4_ofBlock_121 cs_X4_108 (t_blk4 st1 hC.2.1 hg.1.1.n24 k hk rfl) rfl ?_
      refine X_iret dX4_ofBlock_124 (Or.inl rfl) ?_
      refine ⟨rfl, rfl, _, rfl, ?_, SF.rf⟩
      unfold qOf
      rw [hp]
      dsimp only
      rw [if_neg (by omega), if_neg (by omega), if_neg (by omega), if_neg (by omega), if_pos (by omega)]
    by_cases w_5 : w = 5
    · refine X_tswIn (v := 5) (tgt := 125) dX4_ofBlock_17 w_5 (by decide) (by decide) (by decide) rfl (by decide) ?_
      refine X_aload dX4_ofBlock_125 rfl ?_
      refine X_getR dX4_ofBlock_126 rfl gf_X4_10 sh_0 (by decide) rfl rf_0_0 ?_
      refine X_getR dX4_ofBlock_129 rfl gf_X4_130 sh_1 (by decide) rfl rf_1_7 ?_
      refine X_iload dX4_ofBlock_132 rfl ?_
      refine Y_pS dX4_ofBlock_133 cs_X4_108 (t_blk5 st1 hC.2.1 hg.1.1.n24 k hk rfl) rfl ?_
      refine X_iret dX4_ofBlock_136 (Or.inl rfl) ?_
      refine ⟨rfl, rfl, _, rfl, ?_, SF.rf⟩
      unfold qOf
      rw [hp]
      dsimp only
      rw [if_neg (by omega), if_neg (by omega), if_neg (by omega), if_neg (by omega), if_neg (by omega), if_pos (by omega)]
    by_cases w_6 : w = 6
    · refine X_tswIn (v := 6) (tgt := 137) dX4_ofBlock_17 w_6 (by decide) (by decide) (by decide) rfl (by decide) ?_
      refine X_aload dX4_ofBlock_137 rfl ?_
      refine X_getR dX4_ofBlock_138 rfl gf_X4_10 sh_0 (by decide) rfl rf_0_0 ?_
      refine X_getR dX4_ofBlock_141 rfl gf_X4_133 sh_1 (by decide) rfl rf_1_8 ?_
      refine X_iload dX4_ofBlock_144 rfl ?_
      refine Y_pS dX4_ofBlock_145 cs_X4_108 (t_blk6 st1 hC.2.1 hg.1.1.n24 k hk rfl) rfl ?_
      refine X_iret dX4_ofBlock_148 (Or.inl rfl) ?_
      refine ⟨rfl, rfl, _, rfl, ?_, SF.rf⟩
      unfold qOf
      rw [hp]
      dsimp only
      rw [if_neg (by omega), if_neg (by omega), if_neg (by omega), if_neg (by omega), if_neg (by omega), if_neg (by omega), if_pos (by omega)]
    by_cases w_7 : w = 7
    · refine X_tswIn (v := 7) (tgt := 149) dX4_ofBlock_17 w_7 (by decide) (by decide) (by decide) rfl (by decide) ?_
      refine X_aload dX4_ofBlock_149 rfl ?_
      refine X_getR dX4_ofBlock_150 rfl gf_X4_10 sh_0 (by decide) rfl rf_0_0 ?_
      refine X_getR dX4_ofBlock_153 rfl gf_X4_136 sh_1 (by decide) rfl rf_1_9 ?_
      refine X_iload dX4_ofBlock_156 rfl ?_
      refine Y_pS dX4_ofBlock_157 cs_X4_108 (t_blk7 st1 hC.2.1 hg.1.1.n24 k hk rfl) rfl ?_
      refine X_iret dX4_ofBlock_160 (Or.inl rfl) ?_
      refine ⟨rfl, rfl, _, rfl, ?_, SF.rf⟩
      unfold qOf
      rw [hp]
      dsimp only
      rw [if_neg (by omega), if_neg (by omega), if_neg (by omega), if_neg (by omega), if_neg (by omega), if_neg (by omega), if_neg (by omega), if_pos (by omega)]
    by_cases w_8 : w = 8
    · refine X_tswIn (v := 8) (tgt := 161) dX4_ofBlock_17 w_8 (by decide) (by decide) (by decide) rfl (by decide) ?_
      refine X_aload dX4_ofBlock_161 rfl ?_
      refine X_iload dX4_ofBlock_162 rfl ?_
      refine Y_iV dX4_ofBlock_163 cv_X4_139 sh_0 (by decide) (pu_why hC hg k hk rfl) rfl (fun z163 I163 h163 => ?_)
      refine X_iret dX4_ofBlock_166 (Or.inl rfl) ?_
      refine ⟨rfl, rfl, _, rfl, ?_, h163.2⟩
      unfold qOf
      rw [hp, h163.1]
      dsimp only
      rw [if_neg (by omega), if_neg (by omega), if_neg (by omega), if_neg (by omega), if_neg (by omega), if_neg (by omega), if_neg (by omega), if_neg (by omega), if_pos (by omega)]
    refine X_tswOut (tgt := 167) dX4_ofBlock_17 (by omega) (by omega) (by decide) ?_
    refine X_bipush dX4_ofBlock_167 (by decide) ?_
    refine X_iret dX4_ofBlock_169 (Or.inl rfl) ?_
    refine ⟨rfl, rfl, _, rfl, ?_, SF.rf⟩
    unfold qOf
    rw [hp]
    dsimp only
    rw [if_neg (by omega), if_neg (by omega), if_neg (by omega), if_neg (by omega), if_neg (by omega), if_neg (by omega), if_neg (by omega), if_neg (by omega), if_neg (by omega)]
set_option maxRecDepth 20000 in
set_option maxHeartbeats 4000000 in
theorem pu_shelf {I : xI} {s : xS} {hs : List xS} {sn : Option xS} {tx : Nat → Int} {len : Nat} (hC : CI I s hs sn tx len) (hg : CG s hs sn tx len) (sh : Int) (hsh : -2147483648 ≤ sh ∧ sh ≤ 2147483647) (w : Int) (hw : -2147483648 ≤ w ∧ w ≤ 2147483647) : S kX4_shelf 3 [rr 0, ii sh, ii w] I (q_p (ii (qShelf s sh w)) I) := by
  refine Sp_intro (by decide +kernel) (Nat.le_of_ble_eq_true rfl) ?_
  show Y kX4_shelf 3 0 [some (rr 0), some (ii sh), some (ii w)] [] I _
  refine X_iload dX4_shelf_0 rfl ?_
  refine X_if_lt (tgt := 9) dX4_shelf_1 (by decide) (by omega) (fun c_1 => ?_) (fun c_1 => ?_)
  · refine X_iconst dX4_shelf_9 ?_
    refine X_iret dX4_shelf_10 (Or.inl rfl) ?_
    exact ⟨by unfold qShelf; rw [if_pos (by omega)], rfl, rfl, rfl⟩
  · refine X_iload dX4_shelf_4 rfl ?_
    refine X_iconst dX4_shelf_5 ?_
    refine X_icmp_lt (tgt := 11) dX4_shelf_6 (by decide) (by omega) (fun c_6 => ?_) (fun c_6 => ?_)
    · refine X_iload dX4_shelf_11 rfl ?_
      obtain ⟨u, rfl⟩ := Int.eq_ofNat_of_zero_le (show 0 ≤ sh by omega)
      have eu : (u : Int).toNat = u := rfl
      by_cases w_0 : w = 0
      · refine X_tswIn (v := 0) (tgt := 48) dX4_shelf_12 w_0 (by decide) (by decide) (by decide) rfl (by decide) ?_
        refine X_aload dX4_shelf_48 rfl ?_
        refine X_getR dX4_shelf_49 rfl gf_X4_10 sh_0 (by decide) rfl rf_0_0 ?_
        refine X_getR dX4_shelf_52 rfl gf_X4_142 sh_1 (by decide) rfl rf_1_0 ?_
        refine X_bipush dX4_shelf_55 (by decide) ?_
        refine X_iload dX4_shelf_57 rfl ?_
        refine X_iadd dX4_shelf_58 ?_
        refine Y_pS dX4_shelf_59 cs_X4_108 (t_num st1 hC.2.1 (6 + u) (by omega) (by omega)) rfl ?_
        refine X_iret dX4_shelf_62 (Or.inl rfl) ?_
        refine ⟨?_, rfl, rfl, rfl⟩
        unfold qShelf
        rw [if_neg (by omega), if_pos (by omega)]
        try rfl
      by_cases w_1 : w = 1
      · refine X_tswIn (v := 1) (tgt := 63) dX4_shelf_12 w_1 (by decide) (by decide) (by decide) rfl (by decide) ?_
        refine X_aload dX4_shelf_63 rfl ?_
        refine X_getR dX4_shelf_64 rfl gf_X4_10 sh_0 (by decide) rfl rf_0_0 ?_
        refine X_getR dX4_shelf_67 rfl gf_X4_145 sh_1 (by decide) rfl rf_1_1 ?_
        refine X_iload dX4_shelf_70 rfl ?_
        refine Y_pS dX4_shelf_71 cs_X4_108 (t_tak st1 hC.2.1 u (by omega) rfl) rfl ?_
        refine X_iret dX4_shelf_74 (Or.inl rfl) ?_
        refine ⟨?_, rfl, rfl, rfl⟩
        unfold qShelf
        rw [if_neg (by omega), if_neg (by omega), if_pos (by omega)]
        try rfl
      by_cases w_2 : w = 2
      · refine X_tswIn (v := 2) (tgt := 75) dX4_shelf_12 w_2 (by decide) (by decide) (by decide) rfl (by decide) ?_
        refine X_aload dX4_shelf_75 rfl ?_
        refine X_getR dX4_shelf_76 rfl gf_X4_10 sh_0 (by decide) rfl rf_0_0 ?_
        refine X_iload dX4_shelf_79 rfl ?_
        refine Y_pV dX4_shelf_80 cv_X4_148 sh_1 (by decide) (t_countOnShelf st1 hC.2.1 hg.1.1 u (by omega) rfl) rfl ?_
        refine X_iret dX4_shelf_83 (Or.inl rfl) ?_
        refine ⟨?_, rfl, rfl, rfl⟩
        unfold qShelf
        rw [if_neg (by omega), if_neg (by omega), if_neg (by omega), if_pos (by omega)]
        try rfl
      by_cases w_3 : w = 3
      · refine X_tswIn (v := 3) (tgt := 84) dX4_shelf_12 w_3 (by decide) (by decide) (by decide) rfl (by decide) ?_
        refine X_aload dX4_shelf_84 rfl ?_
        refine X_getR dX4_shelf_85 rfl gf_X4_10 sh_0 (by decide) rfl rf_0_0 ?_
        refine X_iload dX4_shelf_88 rfl ?_
        refine Y_pV dX4_shelf_89 cv_X4_151 sh_1 (by decide) (t_heatOnShelf st1 hC.2.1 hg.1.1 u (by omega) rfl) rfl ?_
        refine X_iret dX4_shelf_92 (Or.inl rfl) ?_
        refine ⟨?_, rfl, rfl, rfl⟩
        unfold qShelf
        rw [if_neg (by omega), if_neg (by omega), if_neg (by omega), if_neg (by omega), if_pos (by omega)]
        try rfl
      by_cases w_4 : w = 4
      · refine X_tswIn (v := 4) (tgt := 93) dX4_shelf_12 w_4 (by decide) (by decide) (by decide) rfl (by decide) ?_
        refine X_aload dX4_shelf_93 rfl ?_
        refine X_getR dX4_shelf_94 rfl gf_X4_10 sh_0 (by decide) rfl rf_0_0 ?_
        refine X_iload dX4_shelf_97 rfl ?_
        refine Y_pV dX4_shelf_98 cv_X4_154 sh_1 (by decide) (t_nightPriceOfShelf st1 hC.2.1 hg.1.1 u (by omega) rfl) rfl ?_
        refine X_iret dX4_shelf_101 (Or.inl rfl) ?_
        refine ⟨?_, rfl, rfl, rfl⟩
        unfold qShelf
        rw [if_neg (by omega), if_neg (by omega), if_neg (by omega), if_neg (by omega), if_neg (by omega), if_pos (by omega)]
        try rfl
      refine X_tswOut (tgt := 102) dX4_shelf_12 (by omega) (by omega) (by decide) ?_
      refine X_bipush dX4_shelf_102 (by decide) ?_
      refine X_iret dX4_shelf_104 (Or.inl rfl) ?_
      refine ⟨?_, rfl, rfl, rfl⟩
      unfold qShelf
      rw [if_neg (by omega), if_neg (by omega), if_neg (by omega), if_neg (by omega), if_neg (by omega), if_neg (by omega)]
      try rfl
    · refine X_iconst dX4_shelf_9 ?_
      refine X_iret dX4_shelf_10 (Or.inl rfl) ?_
      exact ⟨by unfold qShelf; rw [if_pos (by omega)], rfl, rfl, rfl⟩
set_option maxRecDepth 20000 in
set_option maxHeartbeats 4000000 in
theorem pu_total {I : xI} {s : xS} {hs : List xS} {sn : Option xS} {tx : Nat → Int} {len : Nat} (hC : CI I s hs sn tx len) (hg : CG s hs sn tx len) (w : Int) (hw : -2147483648 ≤ w ∧ w ≤ 2147483647) : S kX4_total 4 [rr 0, ii w] I (q_p (ii (qTotal s hs.length len w)) I) := by
  refine Sp_intro (by decide +kernel) (Nat.le_of_ble_eq_true rfl) ?_
  show Y kX4_total 4 0 [some (rr 0), some (ii w)] [] I _
  refine X_iload dX4_total_0 rfl ?_
  refine X_if_lt (tgt := 22) dX4_total_1 (by decide) (by omega) (fun c_1 => ?_) (fun c_1 => ?_)
  · refine X_iload dX4_total_22 rfl ?_
    by_cases w_23 : w = 23
    · refine X_tswIn (v := 23) (tgt := 52) dX4_total_23 w_23 (by decide) (by decide) (by decide) rfl (by decide) ?_
      refine X_aload dX4_total_52 rfl ?_
      refine X_getR dX4_total_53 rfl gf_X4_10 sh_0 (by decide) rfl rf_0_0 ?_
      refine Y_pV dX4_total_56 cv_X4_157 sh_1 (by decide) (t_countPinned st1 hC.2.1 hg.1.1) rfl ?_
      refine X_iret dX4_total_59 (Or.inl rfl) ?_
      refine ⟨?_, rfl, rfl, rfl⟩
      unfold qTotal
      rw [if_neg (by omega), if_pos (by omega)]
    by_cases w_24 : w = 24
    · refine X_tswIn (v := 24) (tgt := 60) dX4_total_23 w_24 (by decide) (by decide) (by decide) rfl (by decide) ?_
      refine X_aload dX4_total_60 rfl ?_
      refine X_getR dX4_total_61 rfl gf_X4_10 sh_0 (by decide) rfl rf_0_0 ?_
      refine Y_pV dX4_total_64 cv_X4_160 sh_1 (by decide) (t_heatOfAll st1 hC.2.1 hg.1.1) rfl ?_
      refine X_iret dX4_total_67 (Or.inl rfl) ?_
      refine ⟨?_, rfl, rfl, rfl⟩
      unfold qTotal
      rw [if_neg (by omega), if_neg (by omega), if_pos (by omega)]
    by_cases w_25 : w = 25
    · refine X_tswIn (v := 25) (tgt := 68) dX4_total_23 w_25 (by decide) (by decide) (by decide) rfl (by decide) ?_
      refine X_aload dX4_total_68 rfl ?_
      refine X_getR dX4_total_69 rfl gf_X4_29 sh_0 (by decide) rfl rf_0_4 ?_
      refine X_getI dX4_total_72 rfl gf_X4_97 sh_34 (by decide) rfl ?_
      obtain ⟨f, hf⟩ := hC.2.2.1
      rw [hf.2.2.1]
      refine X_iret dX4_total_75 (Or.inl rfl) ?_
      refine ⟨?_, rfl, rfl, rfl⟩
      unfold qTotal
      rw [if_neg (by omega), if_neg (by omega), if_neg (by omega), if_pos (by omega)]
    by_cases w_26 : w = 26
    · refine X_tswIn (v := 26) (tgt := 76) dX4_total_23 w_26 (by decide) (by decide) (by decide) rfl (by decide) ?_
      refine X_aload dX4_total_76 rfl ?_
      refine X_getR dX4_total_77 rfl gf_X4_43 sh_0 (by decide) rfl rf_0_6 ?_
      refine X_getI dX4_total_80 rfl gf_X4_163 sh_83 (by decide) rfl ?_
      rw [hC.2.2.2.2.1]
      refine X_iret dX4_total_83 (Or.inl rfl) ?_
      refine ⟨?_, rfl, rfl, rfl⟩
      unfold qTotal
      rw [if_neg (by omega), if_neg (by omega), if_neg (by omega), if_neg (by omega), if_pos (by omega)]
    refine X_tswOut (tgt := 84) dX4_total_23 (by omega) (by omega) (by decide) ?_
    refine X_bipush dX4_total_84 (by decide) ?_
    refine X_iret dX4_total_86 (Or.inl rfl) ?_
    refine ⟨?_, rfl, rfl, rfl⟩
    unfold qTotal
    rw [if_neg (by omega), if_neg (by omega), if_neg (by omega), if_neg (by omega), if_neg (by omega)]
  · refine X_iload dX4_total_4 rfl ?_
    refine X_bipush dX4_total_5 (by decide) ?_
    refine X_icmp_ge (tgt := 22) dX4_total_7 (by decide) (by omega) (fun c_7 => ?_) (fun c_7 => ?_)
    · refine X_iload dX4_total_22 rfl ?_
      by_cases w_23 : w = 23
      · refine X_tswIn (v := 23) (tgt := 52) dX4_total_23 w_23 (by decide) (by decide) (by decide) rfl (by decide) ?_
        refine X_aload dX4_total_52 rfl ?_
        refine X_getR dX4_total_53 rfl gf_X4_10 sh_0 (by decide) rfl rf_0_0 ?_
        refine Y_pV dX4_total_56 cv_X4_157 sh_1 (by decide) (t_countPinned st1 hC.2.1 hg.1.1) rfl ?_
        refine X_iret dX4_total_59 (Or.inl rfl) ?_
        refine ⟨?_, rfl, rfl, rfl⟩
        unfold qTotal
        rw [if_neg (by omega), if_pos (by omega)]
      by_cases w_24 : w = 24
      · refine X_tswIn (v := 24) (tgt := 60) dX4_total_23 w_24 (by decide) (by decide) (by decide) rfl (by decide) ?_
        refine X_aload dX4_total_60 rfl ?_
        refine X_getR dX4_total_61 rfl gf_X4_10 sh_0 (by decide) rfl rf_0_0 ?_
        refine Y_pV dX4_total_64 cv_X4_160 sh_1 (by decide) (t_heatOfAll st1 hC.2.1 hg.1.1) rfl ?_
        refine X_iret dX4_total_67 (Or.inl rfl) ?_
        refine ⟨?_, rfl, rfl, rfl⟩
        unfold qTotal
        rw [if_neg (by omega), if_neg (by omega), if_pos (by omega)]
      by_cases w_25 : w = 25
      · refine X_tswIn (v := 25) (tgt := 68) dX4_total_23 w_25 (by decide) (by decide) (by decide) rfl (by decide) ?_
        refine X_aload dX4_total_68 rfl ?_
        refine X_getR dX4_total_69 rfl gf_X4_29 sh_0 (by decide) rfl rf_0_4 ?_
        refine X_getI dX4_total_72 rfl gf_X4_97 sh_34 (by decide) rfl ?_
        obtain ⟨f, hf⟩ := hC.2.2.1
        rw [hf.2.2.1]
        refine X_iret dX4_total_75 (Or.inl rfl) ?_
        refine ⟨?_, rfl, rfl, rfl⟩
        unfold qTotal
        rw [if_neg (by omega), if_neg (by omega), if_neg (by omega), if_pos (by omega)]
      by_cases w_26 : w = 26
      · refine X_tswIn (v := 26) (tgt := 76) dX4_total_23 w_26 (by decide) (by decide) (by decide) rfl (by decide) ?_
        refine X_aload dX4_total_76 rfl ?_
        refine X_getR dX4_total_77 rfl gf_X4_43 sh_0 (by decide) rfl rf_0_6 ?_
        refine X_getI dX4_total_80 rfl gf_X4_163 sh_83 (by decide) rfl ?_
        rw [hC.2.2.2.2.1]
        refine X_iret dX4_total_83 (Or.inl rfl) ?_
        refine ⟨?_, rfl, rfl, rfl⟩
        unfold qTotal
        rw [if_neg (by omega), if_neg (by omega), if_neg (by omega), if_neg (by omega), if_pos (by omega)]
      refine X_tswOut (tgt := 84) dX4_total_23 (by omega) (by omega) (by decide) ?_
      refine X_bipush dX4_total_84 (by decide) ?_
      refine X_iret dX4_total_86 (Or.inl rfl) ?_
      refine ⟨?_, rfl, rfl, rfl⟩
      unfold qTotal
      rw [if_neg (by omega), if_neg (by omega), if_neg (by omega), if_neg (by omega), if_neg (by omega)]
    · refine X_aload dX4_total_10 rfl ?_
      refine X_getR dX4_total_11 rfl gf_X4_10 sh_0 (by decide) rfl rf_0_0 ?_
      refine X_getR dX4_total_14 rfl gf_X4_142 sh_1 (by decide) rfl rf_1_0 ?_
      refine X_iload dX4_total_17 rfl ?_
      obtain ⟨u, rfl⟩ := Int.eq_ofNat_of_zero_le (show 0 ≤ w by omega)
      refine Y_pS dX4_total_18 cs_X4_108 (t_num st1 hC.2.1 u (by omega) rfl) rfl ?_
      refine X_iret dX4_total_21 (Or.inl rfl) ?_
      refine ⟨?_, rfl, rfl, rfl⟩
      unfold qTotal
      rw [if_pos (by omega)]
      rfl
set_option maxRecDepth 20000 in
set_option maxHeartbeats 4000000 in
theorem t_paid {I : xI} {s : xS} {hs : List xS} {sn : Option xS} {tx : Nat → Int} {len : Nat} (hC : CI I s hs sn tx len) {g : Nat → Int} {n : Nat} (hW : RS I 12 g n) : S kX4_paidForNightsInWork 1 [rr 0] I (q_p (ii (g 18 - s.1 18)) I) := by
  refine Sp_intro (by decide +kernel) (Nat.le_of_ble_eq_true rfl) ?_
  show Y kX4_paidForNightsInWork 1 0 [some (rr 0)] [] I _
  refine X_aload dX4_paidForNightsInWork_0 rfl ?_
  refine X_getR dX4_paidForNightsInWork_1 rfl gf_X4_16 sh_0 (by decide) rfl rf_0_1 ?_
  refine X_getR dX4_paidForNightsInWork_4 rfl gf_X4_142 sh_12 (by decide) rfl rf_12_0 ?_
  refine X_bipush dX4_paidForNightsInWork_7 (by decide) ?_
  refine Y_pS dX4_paidForNightsInWork_9 cs_X4_108 (t_num st12 hW 18 (by decide) rfl) rfl ?_
  refine X_aload dX4_paidForNightsInWork_12 rfl ?_
  refine X_getR dX4_paidForNightsInWork_13 rfl gf_X4_10 sh_0 (by decide) rfl rf_0_0 ?_
  refine X_getR dX4_paidForNightsInWork_16 rfl gf_X4_142 sh_1 (by decide) rfl rf_1_0 ?_
  refine X_bipush dX4_paidForNightsInWork_19 (by decide) ?_
  refine Y_pS dX4_paidForNightsInWork_21 cs_X4_108 (t_num st1 hC.2.1 18 (by decide) rfl) rfl ?_
  refine X_isub dX4_paidForNightsInWork_24 ?_
  refine X_iret dX4_paidForNightsInWork_25 (Or.inl rfl) ?_
  exact ⟨rfl, rfl, rfl, rfl⟩
set_option maxRecDepth 20000 in
set_option maxHeartbeats 4000000 in
theorem pu_ifPassed {I : xI} {s : xS} {hs : List xS} {sn : Option xS} {tx : Nat → Int} {len : Nat} (hC : CI I s hs sn tx len) (hg : CG s hs sn tx len) (t : Int) (ht : -2147483648 ≤ t ∧ t ≤ 2147483647) (w : Int) (hw : -2147483648 ≤ w ∧ w ≤ 2147483647) : S kX4_ifPassed 5 [rr 0, ii t, ii w] I (q_i (fun ans I1 => ans = qIf s t w ∧ SF I I1)) := by
  refine Sp_intro (by decide +kernel) (Nat.le_of_ble_eq_true rfl) ?_
  show Y kX4_ifPassed 5 0 [some (rr 0), some (ii t), some (ii w), none] [] I _
  refine X_iload dX4_ifPassed_0 rfl ?_
  refine X_iconst dX4_ifPassed_1 ?_
  refine X_icmp_lt (tgt := 20) dX4_ifPassed_2 (by decide) (by omega) (fun c_2 => ?_) (fun c_2 => ?_)
  · refine X_bipush dX4_ifPassed_20 (by decide) ?_
    refine X_iret dX4_ifPassed_22 (Or.inl rfl) ?_
    exact ⟨rfl, rfl, _, rfl, by unfold qIf; rw [if_pos (by omega)], SF.rf⟩
  · refine X_iload dX4_ifPassed_5 rfl ?_
    refine X_bipush dX4_ifPassed_6 (by decide) ?_
    refine X_icmp_gt (tgt := 20) dX4_ifPassed_8 (by decide) (by omega) (fun c_8 => ?_) (fun c_8 => ?_)
    · refine X_bipush dX4_ifPassed_20 (by decide) ?_
      refine X_iret dX4_ifPassed_22 (Or.inl rfl) ?_
      exact ⟨rfl, rfl, _, rfl, by unfold qIf; rw [if_pos (by omega)], SF.rf⟩
    · refine X_iload dX4_ifPassed_11 rfl ?_
      refine X_if_lt (tgt := 20) dX4_ifPassed_12 (by decide) (by omega) (fun c_12 => ?_) (fun c_12 => ?_)
      · refine X_bipush dX4_ifPassed_20 (by decide) ?_
        refine X_iret dX4_ifPassed_22 (Or.inl rfl) ?_
        exact ⟨rfl, rfl, _, rfl, by unfold qIf; rw [if_pos (by omega)], SF.rf⟩
      · refine X_iload dX4_ifPassed_15 rfl ?_
        refine X_iconst dX4_ifPassed_16 ?_
        refine X_icmp_le (tgt := 23) dX4_ifPassed_17 (by decide) (by omega) (fun c_17 => ?_) (fun c_17 => ?_)
        · refine X_aload dX4_ifPassed_23 rfl ?_
          refine X_getR dX4_ifPassed_24 rfl gf_X4_16 sh_0 (by decide) rfl rf_0_1 ?_
          refine X_aload dX4_ifPassed_27 rfl ?_
          refine X_getR dX4_ifPassed_28 rfl gf_X4_10 sh_0 (by decide) rfl rf_0_0 ?_
          refine Y_vV dX4_ifPassed_31 cv_X4_47 sh_12 (by decide) (t_copyFrom st12 st1 (by decide) hC.2.1 hg.1.1.n24) rfl (fun I8 h8 => ?_)
          have hC8 := hC.sc h8.2.sf
          refine X_aload dX4_ifPassed_34 rfl ?_
          refine X_getR dX4_ifPassed_35 rfl gf_X4_36 sh_0 (by decide) rfl rf_0_5 ?_
          refine X_aload dX4_ifPassed_38 rfl ?_
          refine X_getR dX4_ifPassed_39 rfl gf_X4_16 sh_0 (by decide) rfl rf_0_1 ?_
          refine X_iload dX4_ifPassed_42 rfl ?_
          obtain ⟨u, rfl⟩ := Int.eq_ofNat_of_zero_le (show 0 ≤ t by omega)
          have eu : (u : Int).toNat = u := rfl
          refine Y_iV dX4_ifPassed_43 cv_X4_166 sh_80 (by decide) (t_letPass st12 h8.1 hg.1.1 u (by omega)) rfl (fun z43 I43 h43 => ?_)
          obtain ⟨rfl, hR43, hF43, -⟩ := h43
          have hC43 := hC8.sc hF43.sf
          have hsf := h8.2.sf.trans hF43.sf
          refine X_istore dX4_ifPassed_46 (by decide) ?_
          dsimp only [List.set]
          refine X_iload dX4_ifPassed_47 rfl ?_
          by_cases w_0 : w = 0
          · refine X_tswIn (v := 0) (tgt := 76) dX4_ifPassed_48 w_0 (by decide) (by decide) (by decide) rfl (by decide) ?_
            refine X_aload dX4_ifPassed_76 rfl ?_
            refine Y_pV dX4_ifPassed_77 cv_X4_170 sh_0 (by decide) (t_paid hC43 hR43) rfl ?_
            refine X_iret dX4_ifPassed_80 (Or.inl rfl) ?_
            refine ⟨rfl, rfl, _, rfl, ?_, hsf⟩
            unfold qIf
            rw [if_neg (by omega), if_pos (by omega)]
            try rfl
          by_cases w_1 : w = 1
          · refine X_tswIn (v := 1) (tgt := 81) dX4_ifPassed_48 w_1 (by decide) (by decide) (by decide) rfl (by decide) ?_
            refine X_iload dX4_ifPassed_81 rfl ?_
            refine X_iret dX4_ifPassed_82 (Or.inl rfl) ?_
            refine ⟨rfl, rfl, _, rfl, ?_, hsf⟩
            unfold qIf
            rw [if_neg (by omega), if_neg (by omega), if_pos (by omega)]
            try rfl
          by_cases w_2 : w = 2
          · refine X_tswIn (v := 2) (tgt := 83) dX4_ifPassed_48 w_2 (by decide) (by decide) (by decide) rfl (by decide) ?_
            refine X_aload dX4_ifPassed_83 rfl ?_
            refine X_getR dX4_ifPassed_84 rfl gf_X4_16 sh_0 (by decide) rfl rf_0_1 ?_
            refine Y_pV dX4_ifPassed_87 cv_X4_160 sh_12 (by decide) (t_heatOfAll st12 hR43 (hg.1.1.np u)) rfl ?_
            refine X_iret dX4_ifPassed_90 (Or.inl rfl) ?_
            refine ⟨rfl, rfl, _, rfl, ?_, hsf⟩
            unfold qIf
            rw [if_neg (by omega), if_neg (by omega), if_neg (by omega), if_pos (by omega)]
            try rfl
          refine X_tswOut (tgt := 91) dX4_ifPassed_48 (by omega) (by omega) (by decide) ?_
          refine X_aload dX4_ifPassed_91 rfl ?_
          refine X_getR dX4_ifPassed_92 rfl gf_X4_16 sh_0 (by decide) rfl rf_0_1 ?_
          refine X_getR dX4_ifPassed_95 rfl gf_X4_145 sh_12 (by decide) rfl rf_12_1 ?_
          refine X_iload dX4_ifPassed_98 rfl ?_
          refine X_iconst dX4_ifPassed_99 ?_
          refine X_isub dX4_ifPassed_100 ?_
          obtain ⟨v, hv⟩ := Int.eq_ofNat_of_zero_le (show 0 ≤ w - 3 by omega)
          refine Y_pS dX4_ifPassed_101 cs_X4_108 (t_tak st12 hR43 v (by omega) hv) rfl ?_
          refine X_iret dX4_ifPassed_104 (Or.inl rfl) ?_
          refine ⟨rfl, rfl, _, rfl, ?_, hsf⟩
          unfold qIf
          rw [if_neg (by omega), if_neg (by omega), if_neg (by omega), if_neg (by omega)]
          rw [hv]
          rfl
        · refine X_bipush dX4_ifPassed_20 (by decide) ?_
          refine X_iret dX4_ifPassed_22 (Or.inl rfl) ?_
          exact ⟨rfl, rfl, _, rfl, by unfold qIf; rw [if_pos (by omega)], SF.rf⟩
set_option maxRecDepth 20000 in
set_option maxHeartbeats 4000000 in
theorem pu_next_loop {I : xI} {s : xS} {hs : List xS} {sn : Option xS} {tx : Nat → Int} {len : Nat} (hg : CG s hs sn tx len) : ∀ (m k : Nat), k + m = 99 → ∀ (I1 : xI), RS I1 12 (nvG s k) s.2 → SF I I1 → Y kX4_nextMove 5 13 [some (rr 0), some (ii ((k + 1 : Nat) : Int))] [] I1 (q_i (fun ans I2 => ans = nxM s m k ∧ SF I I2)) := by
  intro m
  induction m with
  | zero =>
    intro k hk I1 hR hX
    refine X_iload dX4_nextMove_13 rfl ?_
    refine X_bipush dX4_nextMove_14 (by decide) ?_
    refine X_icmp_gt (tgt := 42) dX4_nextMove_16 (by decide) (by omega) (fun c_16 => ?_) (fun c_16 => absurd c_16 (by omega))
    refine X_bipush dX4_nextMove_42 (by decide) ?_
    refine X_iret dX4_nextMove_44 (Or.inl rfl) ?_
    exact ⟨rfl, rfl, _, rfl, rfl, hX⟩
  | succ m ih =>
    intro k hk I1 hR hX
    refine X_iload dX4_nextMove_13 rfl ?_
    refine X_bipush dX4_nextMove_14 (by decide) ?_
    refine X_icmp_gt (tgt := 42) dX4_nextMove_16 (by decide) (by omega) (fun c_16 => absurd c_16 (by omega)) (fun c_16 => ?_)
    refine X_aload dX4_nextMove_19 rfl ?_
    refine X_getR dX4_nextMove_20 rfl gf_X4_36 sh_0 (by decide) rfl rf_0_5 ?_
    refine X_aload dX4_nextMove_23 rfl ?_
    refine X_getR dX4_nextMove_24 rfl gf_X4_16 sh_0 (by decide) rfl rf_0_1 ?_
    refine X_iconst dX4_nextMove_27 ?_
    refine Y_iV dX4_nextMove_28 cv_X4_166 sh_80 (by decide) (t_letPass st12 hR (hg.1.1.nv k) 1 (by decide)) rfl (fun z28 I28 h28 => ?_)
    obtain ⟨rfl, hR28, hF28, -⟩ := h28
    change Y _ _ _ _ [ii (nvM s k)] _ _
    have hmb : 0 ≤ nvM s k ∧ nvM s k ≤ 48 := by have := nsM_bounds (nvG s k) s.2 (nvG s k 3) 1; unfold nvM; omega
    refine X_if_le (tgt := 36) dX4_nextMove_31 (by decide) (by omega) (fun c_31 => ?_) (fun c_31 => ?_)
    · refine X_iinc dX4_nextMove_36 rfl ?_
      dsimp only [List.set]
      refine X_goto (tgt := 13) dX4_nextMove_39 (by decide) ?_
      have e1 : nxM s (m + 1) k = nxM s m (k + 1) := by show (if _ then _ else _ : Int) = _; rw [if_neg (by omega)]
      rw [e1]
      exact ih (k + 1) (by omega) _ hR28 (hX.trans hF28.sf)
    · refine X_iload dX4_nextMove_34 rfl ?_
      refine X_iret dX4_nextMove_35 (Or.inl rfl) ?_
      refine ⟨rfl, rfl, _, rfl, ?_, hX.trans hF28.sf⟩
      show _ = if _ then _ else _
      rw [if_pos c_31]
set_option maxRecDepth 20000 in
set_option maxHeartbeats 4000000 in
theorem pu_nextMove {I : xI} {s : xS} {hs : List xS} {sn : Option xS} {tx : Nat → Int} {len : Nat} (hC : CI I s hs sn tx len) (hg : CG s hs sn tx len) : S kX4_nextMove 5 [rr 0] I (q_i (fun ans I1 => ans = qNext s ∧ SF I I1)) := by
  refine Sp_intro (by decide +kernel) (Nat.le_of_ble_eq_true rfl) ?_
  show Y kX4_nextMove 5 0 [some (rr 0), none] [] I _
  refine X_aload dX4_nextMove_0 rfl ?_
  refine X_getR dX4_nextMove_1 rfl gf_X4_16 sh_0 (by decide) rfl rf_0_1 ?_
  refine X_aload dX4_nextMove_4 rfl ?_
  refine X_getR dX4_nextMove_5 rfl gf_X4_10 sh_0 (by decide) rfl rf_0_0 ?_
  refine Y_vV dX4_nextMove_8 cv_X4_47 sh_12 (by decide) (t_copyFrom st12 st1 (by decide) hC.2.1 hg.1.1.n24) rfl (fun I8 h8 => ?_)
  have hC8 := hC.sc h8.2.sf
  refine X_iconst dX4_nextMove_11 ?_
  refine X_istore dX4_nextMove_12 (by decide) ?_
  dsimp only [List.set]
  exact pu_next_loop hg 99 0 (by decide) _ h8.1 h8.2.sf
set_option maxRecDepth 20000 in
set_option maxHeartbeats 4000000 in
theorem pu_paidWithHot {I : xI} {s : xS} {hs : List xS} {sn : Option xS} {tx : Nat → Int} {len : Nat} (hC : CI I s hs sn tx len) (hg : CG s hs sn tx len) (hot : Int) (hh : 0 ≤ hot ∧ hot ≤ 20000) (t : Nat) (ht : t ≤ 100) : S kX4_paidWithHot 5 [rr 0, ii hot, ii (t : Int)] I (q_i (fun ans I1 => ans = pwH s hot t ∧ SF I I1)) := by
  refine Sp_intro (by decide +kernel) (Nat.le_of_ble_eq_true rfl) ?_
  show Y kX4_paidWithHot 5 0 [some (rr 0), some (ii hot), some (ii (t : Int))] [] I _
  refine X_aload dX4_paidWithHot_0 rfl ?_
  refine X_getR dX4_paidWithHot_1 rfl gf_X4_16 sh_0 (by decide) rfl rf_0_1 ?_
  refine X_aload dX4_paidWithHot_4 rfl ?_
  refine X_getR dX4_paidWithHot_5 rfl gf_X4_10 sh_0 (by decide) rfl rf_0_0 ?_
  refine Y_vV dX4_paidWithHot_8 cv_X4_47 sh_12 (by decide) (t_copyFrom st12 st1 (by decide) hC.2.1 hg.1.1.n24) rfl (fun I8 h8 => ?_)
  have hC8 := hC.sc h8.2.sf
  refine X_aload dX4_paidWithHot_11 rfl ?_
  refine X_getR dX4_paidWithHot_12 rfl gf_X4_16 sh_0 (by decide) rfl rf_0_1 ?_
  refine X_getR dX4_paidWithHot_15 rfl gf_X4_142 sh_12 (by decide) rfl rf_12_0 ?_
  refine X_iconst dX4_paidWithHot_18 ?_
  refine X_iload dX4_paidWithHot_19 rfl ?_
  refine Y_vS dX4_paidWithHot_20 cs_X4_201 (t_putN st12 h8.1 1 (by decide) rfl _) rfl (fun I20 h20 => ?_)
  refine X_aload dX4_paidWithHot_23 rfl ?_
  refine X_getR dX4_paidWithHot_24 rfl gf_X4_36 sh_0 (by decide) rfl rf_0_5 ?_
  refine X_aload dX4_paidWithHot_27 rfl ?_
  refine X_getR dX4_paidWithHot_28 rfl gf_X4_16 sh_0 (by decide) rfl rf_0_1 ?_
  refine X_iload dX4_paidWithHot_31 rfl ?_
  refine Y_iV dX4_paidWithHot_32 cv_X4_166 sh_80 (by decide) (t_letPass st12 h20.1 (hg.1.1.hot hh) t ht) rfl (fun z32 I32 h32 => ?_)
  obtain ⟨-, hR32, hF32, -⟩ := h32
  have hC32 := (hC8.sc h20.2.sf).sc hF32.sf
  refine X_pop dX4_paidWithHot_35 ?_
  refine X_aload dX4_paidWithHot_36 rfl ?_
  refine Y_pV dX4_paidWithHot_37 cv_X4_170 sh_0 (by decide) (t_paid hC32 hR32) rfl ?_
  refine X_iret dX4_paidWithHot_40 (Or.inl rfl) ?_
  exact ⟨rfl, rfl, _, rfl, rfl, (h8.2.sf.trans h20.2.sf).trans hF32.sf⟩
def hbB (o : Option (Int × Int)) : Int := match o with
  | none => -1
  | some (b, _) => b
def hbL (o : Option (Int × Int)) : Int := match o with
  | none => 0
  | some (_, l) => l
set_option maxRecDepth 20000 in
set_option maxHeartbeats 4000000 in
theorem pu_best_loop {I : xI} {s : xS} {hs : List xS} {sn : Option xS} {tx : Nat → Int} {len : Nat} (hg : CG s hs sn tx len) (t : Nat) (ht : 1 ≤ t ∧ t ≤ 20) (w : Int) (hw : 0 ≤ w ∧ w ≤ 1) : ∀ (m i : Nat), i + m = 41 → ∀ (I1 : xI), CI I1 s hs sn tx len → SF I I1 → Y kX4_bestHot 6 53 [some (rr 0), some (ii (t : Int)), some (ii w), some (ii (s.1 2)), some (ii 20000), some (ii (hbB (hbF s t i))), some (ii (hbL (hbF s t i))), some (ii (500 * (i : Int))), none] [] I1 (q_i (fun ans I2 => ans = (if w = 0 then hbB (hbF s t 41) else hbL (hbF s t 41)) ∧ SF I I2)) := by
  have h2 := hg.1.1.s2
  intro m
  induction m with
  | zero =>
    intro i hi I1 hC hX
    have hi41 : i = 41 := by omega
    subst hi41
    refine X_iloadW dX4_bestHot_53 rfl ?_
    refine X_iloadW dX4_bestHot_55 rfl ?_
    refine X_icmp_gt (tgt := 105) dX4_bestHot_57 (by decide) (by omega) (fun c_57 => ?_) (fun c_57 => absurd c_57 (by omega))
    refine X_iload dX4_bestHot_105 rfl ?_
    refine X_if_ne (tgt := 114) dX4_bestHot_106 (by decide) (by omega) (fun c_106 => ?_) (fun c_106 => ?_)
    · refine X_iloadW dX4_bestHot_114 rfl ?_
      refine X_iret dX4_bestHot_116 (Or.inl rfl) ?_
      refine ⟨rfl, rfl, _, rfl, ?_, hX⟩
      first | rw [if_pos (by omega)] | rw [if_neg (by omega)]
    · refine X_iloadW dX4_bestHot_109 rfl ?_
      refine X_goto (tgt := 116) dX4_bestHot_111 (by decide) ?_
      refine X_iret dX4_bestHot_116 (Or.inl rfl) ?_
      refine ⟨rfl, rfl, _, rfl, ?_, hX⟩
      first | rw [if_pos (by omega)] | rw [if_neg (by omega)]
  | succ m ih =>
    intro i hi I1 hC hX
    rcases hr : hbF s t i with _ | ⟨b, l⟩
    · change Y _ _ _ [some (rr 0), some (ii (t : Int)), some (ii w), some (ii (s.1 2)), some (ii 20000), some (ii (-1)), some (ii (0)), some (ii (500 * (i : Int))), none] _ _ _
      refine X_iloadW dX4_bestHot_53 rfl ?_
      refine X_iloadW dX4_bestHot_55 rfl ?_
      refine X_icmp_gt (tgt := 105) dX4_bestHot_57 (by decide) (by omega) (fun c_57 => absurd c_57 (by omega)) (fun c_57 => ?_)
      refine X_iloadW dX4_bestHot_60 rfl ?_
      refine X_iload dX4_bestHot_62 rfl ?_
      refine X_icmp_lt (tgt := 96) dX4_bestHot_63 (by decide) (by omega) (fun c_63 => ?_) (fun c_63 => ?_)
      · refine X_iincW dX4_bestHot_96 rfl ?_
        dsimp only [List.set]
        refine X_goto (tgt := 53) dX4_bestHot_102 (by decide) ?_
        refine X_drop 8 ?_
        dsimp only [List.set]
        have e5 : 500 * (i : Int) + 500 = 500 * ((i + 1 : Nat) : Int) := by omega
        rw [e5]
        have e6 : hbF s t (i + 1) = hbF s t i := by
          show (if _ then _ else _ : Option (Int × Int)) = _
          rw [if_pos (by omega)]
        rw [hr] at e6
        have h9 := ih (i + 1) (by omega) _ hC hX
        rw [e6] at h9
        exact h9
      · refine X_aload dX4_bestHot_66 rfl ?_
        refine X_iloadW dX4_bestHot_67 rfl ?_
        refine X_iload dX4_bestHot_69 rfl ?_
        refine Y_iV dX4_bestHot_70 cv_X4_176 sh_0 (by decide) (pu_paidWithHot hC hg (500 * (i : Int)) (by omega) t (by omega)) rfl (fun z70 I70 h70 => ?_)
        obtain ⟨rfl, hF70⟩ := h70
        have hC := hC.sc hF70
        have hX := hX.trans hF70
        have hpb := pwH_bounds hg.1 (hot := 500 * (i : Int)) (by omega) t
        refine X_istoreW dX4_bestHot_73 (by decide) ?_
        dsimp only [List.set]
        refine X_iloadW dX4_bestHot_75 rfl ?_
        refine X_iconst dX4_bestHot_77 ?_
        refine X_icmp_eq (tgt := 88) dX4_bestHot_78 (by decide) (by omega) (fun c_78 => ?_) (fun c_78 => absurd c_78 (by omega))
        refine X_iloadW dX4_bestHot_88 rfl ?_
        refine X_istoreW dX4_bestHot_90 (by decide) ?_
        dsimp only [List.set]
        refine X_iloadW dX4_bestHot_92 rfl ?_
        refine X_istoreW dX4_bestHot_94 (by decide) ?_
        dsimp only [List.set]
        refine X_iincW dX4_bestHot_96 rfl ?_
        dsimp only [List.set]
        refine X_goto (tgt := 53) dX4_bestHot_102 (by decide) ?_
        refine X_drop 8 ?_
        dsimp only [List.set]
        have e5 : 500 * (i : Int) + 500 = 500 * ((i + 1 : Nat) : Int) := by omega
        rw [e5]
        have e6 : hbF s t (i + 1) = some (500 * (i : Int), pwH s (500 * (i : Int)) t) := by
          show (if _ then _ else _ : Option (Int × Int)) = _
          rw [if_neg (by omega), hr]
        have h9 := ih (i + 1) (by omega) _ hC hX
        rw [e6] at h9
        exact h9
    · have hbl := hbF_ok hg.1 ht.2 (by omega) hr
      change Y _ _ _ [some (rr 0), some (ii (t : Int)), some (ii w), some (ii (s.1 2)), some (ii 20000), some (ii (b)), some (ii (l)), some (ii (500 * (i : Int))), none] _ _ _
      refine X_iloadW dX4_bestHot_53 rfl ?_
      refine X_iloadW dX4_bestHot_55 rfl ?_
      refine X_icmp_gt (tgt := 105) dX4_bestHot_57 (by decide) (by omega) (fun c_57 => absurd c_57 (by omega)) (fun c_57 => ?_)
      refine X_iloadW dX4_bestHot_60 rfl ?_
      refine X_iload dX4_bestHot_62 rfl ?_
      refine X_icmp_lt (tgt := 96) dX4_bestHot_63 (by decide) (by omega) (fun c_63 => ?_) (fun c_63 => ?_)
      · refine X_iincW dX4_bestHot_96 rfl ?_
        dsimp only [List.set]
        refine X_goto (tgt := 53) dX4_bestHot_102 (by decide) ?_
        refine X_drop 8 ?_
        dsimp only [List.set]
        have e5 : 500 * (i : Int) + 500 = 500 * ((i + 1 : Nat) : Int) := by omega
        rw [e5]
        have e6 : hbF s t (i + 1) = hbF s t i := by
          show (if _ then _ else _ : Option (Int × Int)) = _
          rw [if_pos (by omega)]
        rw [hr] at e6
        have h9 := ih (i + 1) (by omega) _ hC hX
        rw [e6] at h9
        exact h9
      · refine X_aload dX4_bestHot_66 rfl ?_
        refine X_iloadW dX4_bestHot_67 rfl ?_
        refine X_iload dX4_bestHot_69 rfl ?_
        refine Y_iV dX4_bestHot_70 cv_X4_176 sh_0 (by decide) (pu_paidWithHot hC hg (500 * (i : Int)) (by omega) t (by omega)) rfl (fun z70 I70 h70 => ?_)
        obtain ⟨rfl, hF70⟩ := h70
        have hC := hC.sc hF70
        have hX := hX.trans hF70
        have hpb := pwH_bounds hg.1 (hot := 500 * (i : Int)) (by omega) t
        refine X_istoreW dX4_bestHot_73 (by decide) ?_
        dsimp only [List.set]
        refine X_iloadW dX4_bestHot_75 rfl ?_
        refine X_iconst dX4_bestHot_77 ?_
        refine X_icmp_eq (tgt := 88) dX4_bestHot_78 (by decide) (by omega) (fun c_78 => absurd c_78 (by omega)) (fun c_78 => ?_)
        refine X_iloadW dX4_bestHot_81 rfl ?_
        refine X_iloadW dX4_bestHot_83 rfl ?_
        refine X_icmp_ge (tgt := 96) dX4_bestHot_85 (by decide) (by omega) (fun c_85 => ?_) (fun c_85 => ?_)
        · refine X_iincW dX4_bestHot_96 rfl ?_
          dsimp only [List.set]
          refine X_goto (tgt := 53) dX4_bestHot_102 (by decide) ?_
          refine X_drop 8 ?_
          dsimp only [List.set]
          have e5 : 500 * (i : Int) + 500 = 500 * ((i + 1 : Nat) : Int) := by omega
          rw [e5]
          have e6 : hbF s t (i + 1) = some (b, l) := by
            show (if _ then _ else _ : Option (Int × Int)) = _
            rw [if_neg (by omega), hr]; show (if _ then _ else _ : Option (Int × Int)) = _; rw [if_neg (by omega)]
          have h9 := ih (i + 1) (by omega) _ hC hX
          rw [e6] at h9
          exact h9
        · refine X_iloadW dX4_bestHot_88 rfl ?_
          refine X_istoreW dX4_bestHot_90 (by decide) ?_
          dsimp only [List.set]
          refine X_iloadW dX4_bestHot_92 rfl ?_
          refine X_istoreW dX4_bestHot_94 (by decide) ?_
          dsimp only [List.set]
          refine X_iincW dX4_bestHot_96 rfl ?_
          dsimp only [List.set]
          refine X_goto (tgt := 53) dX4_bestHot_102 (by decide) ?_
          refine X_drop 8 ?_
          dsimp only [List.set]
          have e5 : 500 * (i : Int) + 500 = 500 * ((i + 1 : Nat) : Int) := by omega
          rw [e5]
          have e6 : hbF s t (i + 1) = some (500 * (i : Int), pwH s (500 * (i : Int)) t) := by
            show (if _ then _ else _ : Option (Int × Int)) = _
            rw [if_neg (by omega), hr]; show (if _ then _ else _ : Option (Int × Int)) = _; rw [if_pos (by omega)]
          have h9 := ih (i + 1) (by omega) _ hC hX
          rw [e6] at h9
          exact h9
set_option maxRecDepth 20000 in
set_option maxHeartbeats 4000000 in
theorem pu_bestHot {I : xI} {s : xS} {hs : List xS} {sn : Option xS} {tx : Nat → Int} {len : Nat} (hC : CI I s hs sn tx len) (hg : CG s hs sn tx len) (t : Int) (ht : -2147483648 ≤ t ∧ t ≤ 2147483647) (w : Int) (hw : -2147483648 ≤ w ∧ w ≤ 2147483647) : S kX4_bestHot 6 [rr 0, ii t, ii w] I (q_i (fun ans I1 => ans = qHot s t w ∧ SF I I1)) := by
  refine Sp_intro (by decide +kernel) (Nat.le_of_ble_eq_true rfl) ?_
  show Y kX4_bestHot 6 0 [some (rr 0), some (ii t), some (ii w), none, none, none, none, none, none] [] I _
  refine X_iload dX4_bestHot_0 rfl ?_
  refine X_iconst dX4_bestHot_1 ?_
  refine X_icmp_lt (tgt := 20) dX4_bestHot_2 (by decide) (by omega) (fun c_2 => ?_) (fun c_2 => ?_)
  · refine X_bipush dX4_bestHot_20 (by decide) ?_
    refine X_iret dX4_bestHot_22 (Or.inl rfl) ?_
    exact ⟨rfl, rfl, _, rfl, by unfold qHot; rw [if_pos (by omega)], SF.rf⟩
  · refine X_iload dX4_bestHot_5 rfl ?_
    refine X_bipush dX4_bestHot_6 (by decide) ?_
    refine X_icmp_gt (tgt := 20) dX4_bestHot_8 (by decide) (by omega) (fun c_8 => ?_) (fun c_8 => ?_)
    · refine X_bipush dX4_bestHot_20 (by decide) ?_
      refine X_iret dX4_bestHot_22 (Or.inl rfl) ?_
      exact ⟨rfl, rfl, _, rfl, by unfold qHot; rw [if_pos (by omega)], SF.rf⟩
    · refine X_iload dX4_bestHot_11 rfl ?_
      refine X_if_lt (tgt := 20) dX4_bestHot_12 (by decide) (by omega) (fun c_12 => ?_) (fun c_12 => ?_)
      · refine X_bipush dX4_bestHot_20 (by decide) ?_
        refine X_iret dX4_bestHot_22 (Or.inl rfl) ?_
        exact ⟨rfl, rfl, _, rfl, by unfold qHot; rw [if_pos (by omega)], SF.rf⟩
      · refine X_iload dX4_bestHot_15 rfl ?_
        refine X_iconst dX4_bestHot_16 ?_
        refine X_icmp_le (tgt := 23) dX4_bestHot_17 (by decide) (by omega) (fun c_17 => ?_) (fun c_17 => ?_)
        · obtain ⟨u, rfl⟩ := Int.eq_ofNat_of_zero_le (show 0 ≤ t by omega)
          refine X_aload dX4_bestHot_23 rfl ?_
          refine X_getR dX4_bestHot_24 rfl gf_X4_10 sh_0 (by decide) rfl rf_0_0 ?_
          refine X_getR dX4_bestHot_27 rfl gf_X4_142 sh_1 (by decide) rfl rf_1_0 ?_
          refine X_iconst dX4_bestHot_30 ?_
          refine Y_pS dX4_bestHot_31 cs_X4_108 (t_num st1 hC.2.1 2 (by decide) rfl) rfl ?_
          refine X_istore dX4_bestHot_34 (by decide) ?_
          dsimp only [List.set]
          refine X_getsG dX4_bestHot_35 rfl gs_X4_173 ?_
          refine X_iconst dX4_bestHot_38 ?_
          refine Y_pS dX4_bestHot_39 cs_X4_108 (t_mx hC.1 1 (by decide) rfl) rfl ?_
          rw [show mx 1 = 20000 from rfl]
          refine X_istoreW dX4_bestHot_42 (by decide) ?_
          dsimp only [List.set]
          refine X_iconst dX4_bestHot_44 ?_
          refine X_istoreW dX4_bestHot_45 (by decide) ?_
          dsimp only [List.set]
          refine X_iconst dX4_bestHot_47 ?_
          refine X_istoreW dX4_bestHot_48 (by decide) ?_
          dsimp only [List.set]
          refine X_iconst dX4_bestHot_50 ?_
          refine X_istoreW dX4_bestHot_51 (by decide) ?_
          dsimp only [List.set]
          refine X_weaken (pu_best_loop hg u (by omega) w (by omega) 41 0 (by decide) I hC SF.rf) (fun ro N1 I1 R1 h => ?_)
          obtain ⟨h1, h2, z, h3, h4, h5⟩ := h
          refine ⟨h1, h2, z, h3, ?_, h5⟩
          unfold qHot
          rw [if_neg (by omega), h4]
          obtain ⟨q, hq⟩ := hbF_some hg.1 u
          rw [show (u : Int).toNat = u from rfl, hq]
          rfl
        · refine X_bipush dX4_bestHot_20 (by decide) ?_
          refine X_iret dX4_bestHot_22 (Or.inl rfl) ?_
          exact ⟨rfl, rfl, _, rfl, by unfold qHot; rw [if_pos (by omega)], SF.rf⟩
