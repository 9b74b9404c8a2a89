/-! State: what is done to it -/
set_option maxRecDepth 20000 in
set_option maxHeartbeats 4000000 in
theorem t_moveTo {I : xI} {c : Nat} {g : Nat → Int} {n : Nat} (hc : x_st c) (hR : RS I c g n) (hG : GI g n) (k : Nat) (hk : k < n) {i : Int} (hi : i = (k : Int)) (sh : Nat) (hsh : sh < 3) {i2 : Int} (hi2 : i2 = (sh : Int)) : S kX3_moveTo 1 [rr c, ii i, ii i2] I (q_v (fun I1 => RS I1 c (mv g k (sh : Int)) n ∧ FR I I1 c)) := by
  have lc := st_lt hc
  have hn24 := hG.n24
  subst hi; subst hi2
  have hb := (hG.b hk).2.2.2.1
  obtain ⟨o, ho⟩ := Int.eq_ofNat_of_zero_le hb.1
  refine Sp_intro (by decide +kernel) (Nat.le_of_ble_eq_true rfl) ?_
  show Y kX3_moveTo 1 0 [some (rr c), some (ii (k : Int)), some (ii (sh : Int)), none] [] I _
  refine X_aload dX3_moveTo_0 rfl ?_
  refine X_getR dX3_moveTo_1 rfl gf_X3_21 (sh_st hc) (by omega) rfl (rf_st3 hc) ?_
  refine X_iload dX3_moveTo_4 rfl ?_
  refine Y_pS dX3_moveTo_5 cs_X3_49 (t_blk1 hc hR hn24 k (by omega) rfl) rfl ?_
  refine X_istore dX3_moveTo_8 (by decide) ?_
  dsimp only [List.set]
  refine X_aload dX3_moveTo_9 rfl ?_
  refine X_getR dX3_moveTo_10 rfl gf_X3_15 (sh_st hc) (by omega) rfl (rf_st1 hc) ?_
  refine X_aload dX3_moveTo_13 rfl ?_
  refine X_getR dX3_moveTo_14 rfl gf_X3_27 (sh_st hc) (by omega) rfl (rf_st5 hc) ?_
  refine X_iload dX3_moveTo_17 rfl ?_
  refine Y_pS dX3_moveTo_18 cs_X3_49 (t_blk3 hc hR hn24 k (by omega) rfl) rfl ?_
  refine X_iload dX3_moveTo_21 rfl ?_
  refine X_ineg dX3_moveTo_22 ?_
  refine Y_vS dX3_moveTo_23 cs_X3_71 (t_raisek (sh_st1 hc) (by omega) _ o (by omega) ho _) rfl (fun I1 e1 => ?_)
  refine X_aload dX3_moveTo_26 rfl ?_
  refine X_getR dX3_moveTo_27 rfl gf_X3_15 (sh_st hc) (by omega) rfl (rf_st1 hc) ?_
  refine X_iload dX3_moveTo_30 rfl ?_
  refine X_iload dX3_moveTo_31 rfl ?_
  refine Y_vS dX3_moveTo_32 cs_X3_71 (t_raisek (sh_st1 hc) (by omega) _ sh (by omega) rfl _) rfl (fun I2 e2 => ?_)
  refine X_aload dX3_moveTo_35 rfl ?_
  refine X_getR dX3_moveTo_36 rfl gf_X3_27 (sh_st hc) (by omega) rfl (rf_st5 hc) ?_
  refine X_iload dX3_moveTo_39 rfl ?_
  refine X_iload dX3_moveTo_40 rfl ?_
  refine Y_vS dX3_moveTo_41 cs_X3_67 (t_putk (sh_st5 hc) (by omega) _ k (by omega) rfl _) rfl (fun I3 e3 => ?_)
  refine X_aload dX3_moveTo_44 rfl ?_
  refine X_getR dX3_moveTo_45 rfl gf_X3_39 (sh_st hc) (by omega) rfl (rf_st9 hc) ?_
  refine X_iload dX3_moveTo_48 rfl ?_
  refine X_iconst dX3_moveTo_49 ?_
  refine Y_vS dX3_moveTo_50 cs_X3_71 (t_raisek (sh_st9 hc) (by omega) _ k (by omega) rfl _) rfl (fun I4 e4 => ?_)
  refine X_vret dX3_moveTo_53 rfl ?_
  refine ⟨rfl, rfl, rfl, hR.setM hk ho (by omega) hsh e1 e2 e3 e4, ?_⟩
  subst e1; subst e2; subst e3; subst e4
  exact (((FR.rf.up (by omega) (by omega)).up (by omega) (by omega)).up (by omega) (by omega)).up (by omega) (by omega)
def abP (g : Nat → Int) (k : Nat) : Int := gb g k 1 * g 5 * gb g k 5
def abG1 (g : Nat → Int) (k : Nat) : Nat → Int := gN g 20 (g 20 + abP g k)
def abG2 (g : Nat → Int) (k : Nat) : Nat → Int := gN (abG1 g k) 22 (abG1 g k 22 + 1)
def abG3 (g : Nat → Int) (k : Nat) : Nat → Int := gB (abG2 g k) k 5 0
def abG (g : Nat → Int) (n k : Nat) : Nat → Int := if rmB (abG3 g k) n 0 (gb g k 1) = true then mv (abG3 g k) k ((0 : Nat) : Int) else if rmB (abG3 g k) n 1 (gb g k 1) = true then mv (abG3 g k) k ((1 : Nat) : Int) else abG3 g k
theorem GI.ab3 {g : Nat → Int} {n k : Nat} (h : GI g n) : GI (abG3 g k) n := ((h.acc (by decide) _).acc (by decide) _).setB (by decide) ⟨by omega, by omega, by omega, by omega, by omega, by omega⟩
theorem GI.ab {g : Nat → Int} {n k : Nat} (h : GI g n) : GI (abG g n k) n := by
  unfold abG
  split
  · exact h.ab3.setM (by omega)
  · split
    · exact h.ab3.setM (by omega)
    · exact h.ab3
set_option maxRecDepth 20000 in
set_option maxHeartbeats 4000000 in
theorem t_askBack {I : xI} {c : Nat} {g : Nat → Int} {n : Nat} (hc : x_st c) (hR : RS I c g n) (hG : GI g n) (k : Nat) (hk : k < n) {i : Int} (hi : i = (k : Int)) : S kX3_askBack 2 [rr c, ii i] I (q_i (fun z I1 => z = abP g k ∧ RS I1 c (abG g n k) n ∧ FR I I1 c)) := by
  have lc := st_lt hc
  have hn24 := hG.n24
  have hF : FR I I c := FR.rf
  subst hi
  have hz := (hG.b hk).2.1
  refine Sp_intro (by decide +kernel) (Nat.le_of_ble_eq_true rfl) ?_
  show Y kX3_askBack 2 0 [some (rr c), some (ii (k : Int)), none, none] [] I _
  refine X_aload dX3_askBack_0 rfl ?_
  refine X_getR dX3_askBack_1 rfl gf_X3_21 (sh_st hc) (by omega) rfl (rf_st3 hc) ?_
  refine X_iload dX3_askBack_4 rfl ?_
  refine Y_pS dX3_askBack_5 cs_X3_49 (t_blk1 hc hR hn24 k (by omega) rfl) rfl ?_
  refine X_istore dX3_askBack_8 (by decide) ?_
  dsimp only [List.set]
  refine X_iload dX3_askBack_9 rfl ?_
  refine X_aload dX3_askBack_10 rfl ?_
  refine X_getR dX3_askBack_11 rfl gf_X3_9 (sh_st hc) (by omega) rfl (rf_st0 hc) ?_
  refine X_iconst dX3_askBack_14 ?_
  refine Y_pS dX3_askBack_15 cs_X3_49 (t_num hc hR 5 (by decide) rfl) rfl ?_
  refine X_imul dX3_askBack_18 ?_
  refine X_aload dX3_askBack_19 rfl ?_
  refine X_getR dX3_askBack_20 rfl gf_X3_33 (sh_st hc) (by omega) rfl (rf_st7 hc) ?_
  refine X_iload dX3_askBack_23 rfl ?_
  refine Y_pS dX3_askBack_24 cs_X3_49 (t_blk5 hc hR hn24 k (by omega) rfl) rfl ?_
  refine X_imul dX3_askBack_27 ?_
  refine X_istore dX3_askBack_28 (by decide) ?_
  dsimp only [List.set]
  refine X_aload dX3_askBack_29 rfl ?_
  refine X_getR dX3_askBack_30 rfl gf_X3_9 (sh_st hc) (by omega) rfl (rf_st0 hc) ?_
  refine X_bipush dX3_askBack_33 (by decide) ?_
  refine X_iload dX3_askBack_35 rfl ?_
  refine Y_vS dX3_askBack_36 cs_X3_71 (t_raiseN hc hR 20 (by decide) rfl _) rfl (fun I36 hq36 => ?_)
  obtain ⟨hR, hF36⟩ := hq36
  have hF := hF.trans hF36
  change RS _ c (abG1 g k) n at hR
  have hG := hG.acc (j := 20) (by decide) (g 20 + abP g k)
  change GI (abG1 g k) n at hG
  refine X_aload dX3_askBack_39 rfl ?_
  refine X_getR dX3_askBack_40 rfl gf_X3_9 (sh_st hc) (by omega) rfl (rf_st0 hc) ?_
  refine X_bipush dX3_askBack_43 (by decide) ?_
  refine X_iconst dX3_askBack_45 ?_
  refine Y_vS dX3_askBack_46 cs_X3_71 (t_raiseN hc hR 22 (by decide) rfl _) rfl (fun I46 hq46 => ?_)
  obtain ⟨hR, hF46⟩ := hq46
  have hF := hF.trans hF46
  change RS _ c (abG2 g k) n at hR
  have hG := hG.acc (j := 22) (by decide) (abG1 g k 22 + 1)
  change GI (abG2 g k) n at hG
  refine X_aload dX3_askBack_49 rfl ?_
  refine X_getR dX3_askBack_50 rfl gf_X3_33 (sh_st hc) (by omega) rfl (rf_st7 hc) ?_
  refine X_iload dX3_askBack_53 rfl ?_
  refine X_iconst dX3_askBack_54 ?_
  refine Y_vS dX3_askBack_55 cs_X3_67 (t_putB5 hc hR hn24 k (by omega) rfl _) rfl (fun I55 hq55 => ?_)
  obtain ⟨hR, hF55⟩ := hq55
  have hF := hF.trans hF55
  change RS _ c (abG3 g k) n at hR
  have hG := hG.setB (k := k) (j := 5) (z := 0) (by decide) ⟨by omega, by omega, by omega, by omega, by omega, by omega⟩
  change GI (abG3 g k) n at hG
  refine X_aload dX3_askBack_58 rfl ?_
  refine X_iconst dX3_askBack_59 ?_
  refine X_iload dX3_askBack_60 rfl ?_
  refine Y_pV dX3_askBack_61 cv_X3_74 (sh_st hc) (by omega) (t_hasRoom hc hR hG 0 (by decide) rfl (gb g k 1) (by omega)) rfl ?_
  have hb : (if rmB (abG3 g k) n 0 (gb g k 1) = true then (1 : Int) else 0) = 1 ∨ (if rmB (abG3 g k) n 0 (gb g k 1) = true then (1 : Int) else 0) = 0 := by split <;> simp
  refine X_if_eq (tgt := 76) dX3_askBack_64 (by decide) (by omega) (fun c_64 => ?_) (fun c_64 => ?_)
  · have r0 : ¬ rmB (abG3 g k) n 0 (gb g k 1) = true := fun q => by rw [if_pos q] at c_64; omega
    refine X_aload dX3_askBack_76 rfl ?_
    refine X_iconst dX3_askBack_77 ?_
    refine X_iload dX3_askBack_78 rfl ?_
    refine Y_pV dX3_askBack_79 cv_X3_74 (sh_st hc) (by omega) (t_hasRoom hc hR hG 1 (by decide) rfl (gb g k 1) (by omega)) rfl ?_
    have hb : (if rmB (abG3 g k) n 1 (gb g k 1) = true then (1 : Int) else 0) = 1 ∨ (if rmB (abG3 g k) n 1 (gb g k 1) = true then (1 : Int) else 0) = 0 := by split <;> simp
    refine X_if_eq (tgt := 91) dX3_askBack_82 (by decide) (by omega) (fun c_82 => ?_) (fun c_82 => ?_)
    · have r1 : ¬ rmB (abG3 g k) n 1 (gb g k 1) = true := fun q => by rw [if_pos q] at c_82; omega
      refine X_iload dX3_askBack_91 rfl ?_
      refine X_iret dX3_askBack_92 (Or.inl rfl) ?_
      refine ⟨rfl, rfl, _, rfl, rfl, ?_⟩
      unfold abG
      first
        | (rw [if_pos r0]; exact ⟨hm.1, hF.trans hm.2⟩)
        | (rw [if_neg r0, if_pos r1]; exact ⟨hm.1, hF.trans hm.2⟩)
        | (rw [if_neg r0, if_neg r1]; exact ⟨hR, hF⟩)
    · have r1 : rmB (abG3 g k) n 1 (gb g k 1) = true := by
        by_cases q : rmB (abG3 g k) n 1 (gb g k 1) = true
        · exact q
        · rw [if_neg q] at c_82; omega
      refine X_aload dX3_askBack_85 rfl ?_
      refine X_iload dX3_askBack_86 rfl ?_
      refine X_iconst dX3_askBack_87 ?_
      refine Y_vV dX3_askBack_88 cv_X3_98 (sh_st hc) (by omega) (t_moveTo hc hR hG k hk rfl 1 (by decide) rfl) rfl (fun Im hm => ?_)
      refine X_iload dX3_askBack_91 rfl ?_
      refine X_iret dX3_askBack_92 (Or.inl rfl) ?_
      refine ⟨rfl, rfl, _, rfl, rfl, ?_⟩
      unfold abG
      first
        | (rw [if_pos r0]; exact ⟨hm.1, hF.trans hm.2⟩)
        | (rw [if_neg r0, if_pos r1]; exact ⟨hm.1, hF.trans hm.2⟩)
        | (rw [if_neg r0, if_neg r1]; exact ⟨hR, hF⟩)
  · have r0 : rmB (abG3 g k) n 0 (gb g k 1) = true := by
      by_cases q : rmB (abG3 g k) n 0 (gb g k 1) = true
      · exact q
      · rw [if_neg q] at c_64; omega
    refine X_aload dX3_askBack_67 rfl ?_
    refine X_iload dX3_askBack_68 rfl ?_
    refine X_iconst dX3_askBack_69 ?_
    refine Y_vV dX3_askBack_70 cv_X3_98 (sh_st hc) (by omega) (t_moveTo hc hR hG k hk rfl 0 (by decide) rfl) rfl (fun Im hm => ?_)
    refine X_goto (tgt := 91) dX3_askBack_73 (by decide) ?_
    refine X_iload dX3_askBack_91 rfl ?_
    refine X_iret dX3_askBack_92 (Or.inl rfl) ?_
    refine ⟨rfl, rfl, _, rfl, rfl, ?_⟩
    unfold abG
    first
      | (rw [if_pos r0]; exact ⟨hm.1, hF.trans hm.2⟩)
      | (rw [if_neg r0, if_pos r1]; exact ⟨hm.1, hF.trans hm.2⟩)
      | (rw [if_neg r0, if_neg r1]; exact ⟨hR, hF⟩)
def rdC (g : Nat → Int) (k : Nat) : Int := gb g k 1 * g (12 + (gb g k 3).toNat)
def rdG1 (g : Nat → Int) (k : Nat) : Nat → Int := gN g 19 (g 19 + rdC g k)
def rdG2 (g : Nat → Int) (k : Nat) : Nat → Int := gB (rdG1 g k) k 6 (gb (rdG1 g k) k 6 + 1)
def rdG3 (g : Nat → Int) (k : Nat) : Nat → Int := gB (rdG2 g k) k 2 (min (gb (rdG2 g k) k 2 + 1000) 99999)
def rd1P (g : Nat → Int) (k : Nat) : Int := if gb g k 3 = 2 then rdC g k + abP (rdG3 g k) k else rdC g k
def rd1G (g : Nat → Int) (n k : Nat) : Nat → Int := if gb g k 3 = 2 then abG (rdG3 g k) n k else rdG3 g k
theorem GI.rd2 {g : Nat → Int} {n k : Nat} (h : GI g n) : GI (rdG2 g k) n := (h.acc (j := 19) (by decide) _).setB (by decide) ⟨by omega, by omega, by omega, by omega, by omega, by omega⟩
theorem GI.rd3 {g : Nat → Int} {n k : Nat} (h : GI g n) (hk : k < n) : GI (rdG3 g k) n := by
  have h2 := (h.rd2 (k := k)).b hk
  exact h.rd2.setB (by decide) ⟨by omega, by omega, by omega, by omega, by omega, by omega⟩
theorem GI.rd {g : Nat → Int} {n k : Nat} (h : GI g n) (hk : k < n) : GI (rd1G g n k) n := by
  unfold rd1G
  split
  · exact (h.rd3 hk).ab
  · exact h.rd3 hk
def rbG (g : Nat → Int) (n k : Nat) : Nat → (Nat → Int)
  | 0 => g
  | t + 1 => rd1G (rbG g n k t) n k
def rbP (g : Nat → Int) (n k : Nat) : Nat → Int
  | 0 => 0
  | t + 1 => rbP g n k t + rd1P (rbG g n k t) k
theorem GI.rb {g : Nat → Int} {n k : Nat} (h : GI g n) (hk : k < n) : ∀ t, GI (rbG g n k t) n
  | 0 => h
  | t + 1 => (GI.rb h hk t).rd hk
set_option maxRecDepth 20000 in
set_option maxHeartbeats 4000000 in
theorem t_readOnce {I : xI} {c : Nat} {g : Nat → Int} {n : Nat} (hc : x_st c) (hR : RS I c g n) (hG : GI g n) (k : Nat) (hk : k < n) {i : Int} (hi : i = (k : Int)) : S kX3_readOnce 3 [rr c, ii i] I (q_i (fun z I1 => z = rd1P g k ∧ RS I1 c (rd1G g n k) n ∧ FR I I1 c)) := by
  have lc := st_lt hc
  have hn24 := hG.n24
  have hF : FR I I c := FR.rf
  subst hi
  have hb := (hG.b hk).2.2.2.1
  obtain ⟨o, ho⟩ := Int.eq_ofNat_of_zero_le hb.1
  have ho2 : (gb g k 3).toNat = o := by omega
  have hrc : rdC g k = gb g k 1 * g (12 + o) := by unfold rdC; rw [ho2]
  refine Sp_intro (by decide +kernel) (Nat.le_of_ble_eq_true rfl) ?_
  show Y kX3_readOnce 3 0 [some (rr c), some (ii (k : Int)), none, none] [] I _
  refine X_aload dX3_readOnce_0 rfl ?_
  refine X_getR dX3_readOnce_1 rfl gf_X3_27 (sh_st hc) (by omega) rfl (rf_st5 hc) ?_
  refine X_iload dX3_readOnce_4 rfl ?_
  refine Y_pS dX3_readOnce_5 cs_X3_49 (t_blk3 hc hR hn24 k (by omega) rfl) rfl ?_
  refine X_istore dX3_readOnce_8 (by decide) ?_
  dsimp only [List.set]
  refine X_aload dX3_readOnce_9 rfl ?_
  refine X_getR dX3_readOnce_10 rfl gf_X3_21 (sh_st hc) (by omega) rfl (rf_st3 hc) ?_
  refine X_iload dX3_readOnce_13 rfl ?_
  refine Y_pS dX3_readOnce_14 cs_X3_49 (t_blk1 hc hR hn24 k (by omega) rfl) rfl ?_
  refine X_aload dX3_readOnce_17 rfl ?_
  refine X_getR dX3_readOnce_18 rfl gf_X3_9 (sh_st hc) (by omega) rfl (rf_st0 hc) ?_
  refine X_bipush dX3_readOnce_21 (by decide) ?_
  refine X_iload dX3_readOnce_23 rfl ?_
  refine X_iadd dX3_readOnce_24 ?_
  refine Y_pS dX3_readOnce_25 cs_X3_49 (t_num hc hR (12 + o) (by omega) (by omega)) rfl ?_
  refine X_imul dX3_readOnce_28 ?_
  rw [← hrc]
  refine X_istore dX3_readOnce_29 (by decide) ?_
  dsimp only [List.set]
  refine X_aload dX3_readOnce_30 rfl ?_
  refine X_getR dX3_readOnce_31 rfl gf_X3_9 (sh_st hc) (by omega) rfl (rf_st0 hc) ?_
  refine X_bipush dX3_readOnce_34 (by decide) ?_
  refine X_iload dX3_readOnce_36 rfl ?_
  refine Y_vS dX3_readOnce_37 cs_X3_71 (t_raiseN hc hR 19 (by decide) rfl _) rfl (fun I37 hq37 => ?_)
  obtain ⟨hR, hF37⟩ := hq37
  have hF := hF.trans hF37
  change RS _ c (rdG1 g k) n at hR
  refine X_aload dX3_readOnce_40 rfl ?_
  refine X_getR dX3_readOnce_41 rfl gf_X3_36 (sh_st hc) (by omega) rfl (rf_st8 hc) ?_
  refine X_iload dX3_readOnce_44 rfl ?_
  refine X_iconst dX3_readOnce_45 ?_
  refine Y_vS dX3_readOnce_46 cs_X3_71 (t_raiseB6 hc hR hn24 k (by omega) rfl _) rfl (fun I46 hq46 => ?_)
  obtain ⟨hR, hF46⟩ := hq46
  have hF := hF.trans hF46
  change RS _ c (rdG2 g k) n at hR
  have hG2 := hG.rd2 (k := k)
  have hh := (hG2.b hk).2.2.1
  refine X_aload dX3_readOnce_49 rfl ?_
  refine X_getR dX3_readOnce_50 rfl gf_X3_24 (sh_st hc) (by omega) rfl (rf_st4 hc) ?_
  refine X_iload dX3_readOnce_53 rfl ?_
  refine X_aload dX3_readOnce_54 rfl ?_
  refine X_getR dX3_readOnce_55 rfl gf_X3_24 (sh_st hc) (by omega) rfl (rf_st4 hc) ?_
  refine X_iload dX3_readOnce_58 rfl ?_
  refine Y_pS dX3_readOnce_59 cs_X3_49 (t_blk2 hc hR hn24 k (by omega) rfl) rfl ?_
  refine X_sipush dX3_readOnce_62 (by decide) ?_
  refine X_iadd dX3_readOnce_65 ?_
  refine X_ldc (z := 99999) dX3_readOnce_66 rfl lw_X3_88 (by decide) ?_
  refine X_min dX3_readOnce_68 rfl lk_X3_89 (by omega) (by omega) (by decide) (Nat.le_of_ble_eq_true rfl) ?_
  refine Y_vS dX3_readOnce_71 cs_X3_67 (t_putB2 hc hR hn24 k (by omega) rfl _) rfl (fun I71 hq71 => ?_)
  obtain ⟨hR, hF71⟩ := hq71
  have hF := hF.trans hF71
  change RS _ c (rdG3 g k) n at hR
  have hG := hG.rd3 hk
  refine X_iload dX3_readOnce_74 rfl ?_
  refine X_iconst dX3_readOnce_75 ?_
  refine X_icmp_ne (tgt := 89) dX3_readOnce_76 (by decide) (by omega) (fun c_76 => ?_) (fun c_76 => ?_)
  · rw [rd1P, rd1G, if_neg c_76, if_neg c_76]
    refine X_iload dX3_readOnce_89 rfl ?_
    refine X_iret dX3_readOnce_90 (Or.inl rfl) ?_
    exact ⟨rfl, rfl, _, rfl, rfl, hR, hF⟩
  · rw [rd1P, rd1G, if_pos c_76, if_pos c_76]
    refine X_iload dX3_readOnce_79 rfl ?_
    refine X_aload dX3_readOnce_80 rfl ?_
    refine X_iload dX3_readOnce_81 rfl ?_
    refine Y_iV dX3_readOnce_82 cv_X3_95 (sh_st hc) (by omega) (t_askBack hc hR hG k hk rfl) rfl (fun z82 I82 h82 => ?_)
    obtain ⟨rfl, hR, hF82⟩ := h82
    have hF := hF.trans hF82
    refine X_iadd dX3_readOnce_85 ?_
    refine X_goto (tgt := 90) dX3_readOnce_86 (by decide) ?_
    refine X_iret dX3_readOnce_90 (Or.inl rfl) ?_
    exact ⟨rfl, rfl, _, rfl, rfl, hR, hF⟩
def rbZ (g : Nat → Int) (n : Nat) (b t : Int) : Int := match pl g n b with
  | none => -1
  | some k => if 1 ≤ t ∧ t ≤ 99 then rbP g n k t.toNat else -2
set_option maxRecDepth 20000 in
set_option maxHeartbeats 4000000 in
theorem t_readBlock_loop {I : xI} {c : Nat} {g0 : Nat → Int} {n : Nat} (hc : x_st c) (hG0 : GI g0 n) (b : Int) (k : Nat) (hk : k < n) (t : Nat) (ht : t ≤ 99) : ∀ (m j : Nat), j + m = t → ∀ (I1 : xI), RS I1 c (rbG g0 n k j) n → FR I I1 c → Y kX3_readBlock 4 33 [some (rr c), some (ii b), some (ii (t : Int)), some (ii (k : Int)), some (ii (rbP g0 n k j)), some (ii (j : Int))] [] I1 (q_i (fun z I2 => z = rbP g0 n k t ∧ RS I2 c (rbG g0 n k t) n ∧ FR I I2 c)) := by
  have lc := st_lt hc
  have hn24 := hG0.n24
  intro m
  induction m with
  | zero =>
    intro j hj I1 hR hF
    refine X_iloadW dX3_readBlock_33 rfl ?_
    refine X_iload dX3_readBlock_35 rfl ?_
    refine X_icmp_ge (tgt := 55) dX3_readBlock_36 (by decide) (by omega) (fun c_36 => ?_) (fun c_36 => absurd c_36 (by omega))
    refine X_iloadW dX3_readBlock_55 rfl ?_
    refine X_iret dX3_readBlock_57 (Or.inl rfl) ?_
    rw [show t = j by omega]
    exact ⟨rfl, rfl, _, rfl, rfl, hR, hF⟩
  | succ m ih =>
    intro j hj I1 hR hF
    have hG := hG0.rb hk j
    refine X_iloadW dX3_readBlock_33 rfl ?_
    refine X_iload dX3_readBlock_35 rfl ?_
    refine X_icmp_ge (tgt := 55) dX3_readBlock_36 (by decide) (by omega) (fun c_36 => absurd c_36 (by omega)) (fun c_36 => ?_)
    refine X_iloadW dX3_readBlock_39 rfl ?_
    refine X_aload dX3_readBlock_41 rfl ?_
    refine X_iload dX3_readBlock_42 rfl ?_
    refine Y_iV dX3_readBlock_43 cv_X3_85 (sh_st hc) (by omega) (t_readOnce hc hR hG k hk rfl) rfl (fun z43 I43 h43 => ?_)
    obtain ⟨rfl, hR, hF43⟩ := h43
    have hF := hF.trans hF43
    refine X_iadd dX3_readBlock_46 ?_
    refine X_istoreW dX3_readBlock_47 (by decide) ?_
    dsimp only [List.set]
    refine X_iinc dX3_readBlock_49 rfl ?_
    dsimp only [List.set]
    refine X_goto (tgt := 33) dX3_readBlock_52 (by decide) ?_
    exact ih (j + 1) (by omega) _ hR hF
set_option maxRecDepth 20000 in
set_option maxHeartbeats 4000000 in
theorem t_readBlock {I : xI} {c : Nat} {g : Nat → Int} {n : Nat} (hc : x_st c) (hR : RS I c g n) (hG : GI g n) (b : Int) (hb : -2147483648 ≤ b ∧ b ≤ 2147483647) (t : Int) (ht : -2147483648 ≤ t ∧ t ≤ 2147483647) : S kX3_readBlock 4 [rr c, ii b, ii t] I (q_i (fun z I1 => z = rbZ g n b t ∧ FR I I1 c ∧ (∀ k, pl g n b = some k → 1 ≤ t ∧ t ≤ 99 → RS I1 c (rbG g n k t.toNat) n))) := by
  have lc := st_lt hc
  have hn24 := hG.n24
  have hF : FR I I c := FR.rf
  refine Sp_intro (by decide +kernel) (Nat.le_of_ble_eq_true rfl) ?_
  show Y kX3_readBlock 4 0 [some (rr c), some (ii b), some (ii t), none, none, none] [] I _

  rcases hp : pl g n b with _ | k
  · have hfd := t_find hc hR hG b hb
    rw [hp] at hfd
    change S _ _ _ _ (q_p (ii (-1)) I) at hfd
    refine X_aload dX3_readBlock_0 rfl ?_
    refine X_iload dX3_readBlock_1 rfl ?_
    refine Y_pV dX3_readBlock_2 cv_X3_78 (sh_st hc) (by omega) hfd rfl ?_
    refine X_istore dX3_readBlock_5 (by decide) ?_
    dsimp only [List.set]
    refine X_iload dX3_readBlock_6 rfl ?_
    refine X_iconst dX3_readBlock_7 ?_
    refine X_icmp_ne (tgt := 13) dX3_readBlock_8 (by decide) (by omega) (fun c_8 => absurd c_8 (by omega)) (fun c_8 => ?_)
    refine X_iconst dX3_readBlock_11 ?_
    refine X_iret dX3_readBlock_12 (Or.inl rfl) ?_
    exact ⟨rfl, rfl, _, rfl, by unfold rbZ; rw [hp], hF, fun k h => by cases h⟩
  · have hk := pl_lt hp
    have hfd := t_find hc hR hG b hb
    rw [hp] at hfd
    change S _ _ _ _ (q_p (ii ((k : Nat) : Int)) I) at hfd
    refine X_aload dX3_readBlock_0 rfl ?_
    refine X_iload dX3_readBlock_1 rfl ?_
    refine Y_pV dX3_readBlock_2 cv_X3_78 (sh_st hc) (by omega) hfd rfl ?_
    refine X_istore dX3_readBlock_5 (by decide) ?_
    dsimp only [List.set]
    refine X_iload dX3_readBlock_6 rfl ?_
    refine X_iconst dX3_readBlock_7 ?_
    refine X_icmp_ne (tgt := 13) dX3_readBlock_8 (by decide) (by omega) (fun c_8 => ?_) (fun c_8 => absurd c_8 (by omega))
    refine X_iload dX3_readBlock_13 rfl ?_
    refine X_iconst dX3_readBlock_14 ?_
    refine X_icmp_lt (tgt := 24) dX3_readBlock_15 (by decide) (by omega) (fun c_15 => ?_) (fun c_15 => ?_)
    · refine X_bipush dX3_readBlock_24 (by decide) ?_
      refine X_iret dX3_readBlock_26 (Or.inl rfl) ?_
      exact ⟨rfl, rfl, _, rfl, by unfold rbZ; rw [hp]; show _ = if 1 ≤ t ∧ t ≤ 99 then _ else _; rw [if_neg (by omega)], hF, fun k h1 h2 => absurd h2 (by omega)⟩
    · refine X_iload dX3_readBlock_18 rfl ?_
      refine X_bipush dX3_readBlock_19 (by decide) ?_
      refine X_icmp_le (tgt := 27) dX3_readBlock_21 (by decide) (by omega) (fun c_21 => ?_) (fun c_21 => ?_)
      · refine X_iconst dX3_readBlock_27 ?_
        refine X_istoreW dX3_readBlock_28 (by decide) ?_
        dsimp only [List.set]
        refine X_iconst dX3_readBlock_30 ?_
        refine X_istoreW dX3_readBlock_31 (by decide) ?_
        dsimp only [List.set]
        obtain ⟨u, rfl⟩ := Int.eq_ofNat_of_zero_le (show 0 ≤ t by omega)
        refine X_weaken (t_readBlock_loop hc hG b k hk u (by omega) u 0 (by omega) I hR hF) (fun ro N1 I1 R1 h => ?_)
        obtain ⟨h1, h2, z, h3, h4, h5, h6⟩ := h
        refine ⟨h1, h2, z, h3, ?_, h6, fun k1 h7 _ => ?_⟩
        · unfold rbZ; rw [hp]; show _ = if 1 ≤ (u : Int) ∧ (u : Int) ≤ 99 then _ else _; rw [if_pos (by omega)]; exact h4
        · cases h7; exact h5
      · refine X_bipush dX3_readBlock_24 (by decide) ?_
        refine X_iret dX3_readBlock_26 (Or.inl rfl) ?_
        exact ⟨rfl, rfl, _, rfl, by unfold rbZ; rw [hp]; show _ = if 1 ≤ t ∧ t ≤ 99 then _ else _; rw [if_neg (by omega)], hF, fun k h1 h2 => absurd h2 (by omega)⟩
def pyF (g : Nat → Int) (n : Nat) : Nat → (Nat → Int)
  | 0 => gN g 17 (g 17 + 1)
  | s + 1 => gN (pyF g n s) 18 (pyF g n s 18 + onF (pyF g n s) n (s : Int) 1 * pyF g n s (9 + s))
theorem GI.py {g : Nat → Int} {n : Nat} (h : GI g n) : ∀ s, GI (pyF g n s) n
  | 0 => h.acc (by decide) _
  | s + 1 => (GI.py h s).acc (by decide) _
set_option maxRecDepth 20000 in
set_option maxHeartbeats 4000000 in
theorem t_payNight_loop {I : xI} {c : Nat} {g0 : Nat → Int} {n : Nat} (hc : x_st c) (hG0 : GI g0 n) : ∀ (m k : Nat), k + m = 3 → ∀ (I1 : xI), RS I1 c (pyF g0 n k) n → FR I I1 c → Y kX3_payNight 2 12 [some (rr c), some (ii (k : Int))] [] I1 (q_v (fun I2 => RS I2 c (pyF g0 n 3) n ∧ FR I I2 c)) := by
  have lc := st_lt hc
  have hn24 := hG0.n24
  intro m
  induction m with
  | zero =>
    intro k hk I1 hR hF
    refine X_iload dX3_payNight_12 rfl ?_
    refine X_iconst dX3_payNight_13 ?_
    refine X_icmp_ge (tgt := 37) dX3_payNight_14 (by decide) (by omega) (fun c_14 => ?_) (fun c_14 => absurd c_14 (by omega))
    refine X_vret dX3_payNight_37 rfl ?_
    rw [show k = 3 by omega] at hR
    exact ⟨rfl, rfl, rfl, hR, hF⟩
  | succ m ih =>
    intro k hk I1 hR hF
    have hG := hG0.py k
    refine X_iload dX3_payNight_12 rfl ?_
    refine X_iconst dX3_payNight_13 ?_
    refine X_icmp_ge (tgt := 37) dX3_payNight_14 (by decide) (by omega) (fun c_14 => absurd c_14 (by omega)) (fun c_14 => ?_)
    refine X_aload dX3_payNight_17 rfl ?_
    refine X_getR dX3_payNight_18 rfl gf_X3_9 (sh_st hc) (by omega) rfl (rf_st0 hc) ?_
    refine X_bipush dX3_payNight_21 (by decide) ?_
    refine X_aload dX3_payNight_23 rfl ?_
    refine X_iload dX3_payNight_24 rfl ?_
    refine Y_pV dX3_payNight_25 cv_X3_102 (sh_st hc) (by omega) (t_nightPriceOfShelf hc hR hG k (by omega) rfl) rfl ?_
    refine Y_vS dX3_payNight_28 cs_X3_71 (t_raiseN hc hR 18 (by decide) rfl _) rfl (fun I28 hq28 => ?_)
    obtain ⟨hR, hF28⟩ := hq28
    have hF := hF.trans hF28
    refine X_iinc dX3_payNight_31 rfl ?_
    dsimp only [List.set]
    refine X_goto (tgt := 12) dX3_payNight_34 (by decide) ?_
    exact ih (k + 1) (by omega) _ hR hF
set_option maxRecDepth 20000 in
set_option maxHeartbeats 4000000 in
theorem t_payNight {I : xI} {c : Nat} {g : Nat → Int} {n : Nat} (hc : x_st c) (hR : RS I c g n) (hG : GI g n) : S kX3_payNight 2 [rr c] I (q_v (fun I1 => RS I1 c (pyF g n 3) n ∧ FR I I1 c)) := by
  have lc := st_lt hc
  have hn24 := hG.n24
  have hF : FR I I c := FR.rf
  refine Sp_intro (by decide +kernel) (Nat.le_of_ble_eq_true rfl) ?_
  show Y kX3_payNight 2 0 [some (rr c), none] [] I _
  refine X_aload dX3_payNight_0 rfl ?_
  refine X_getR dX3_payNight_1 rfl gf_X3_9 (sh_st hc) (by omega) rfl (rf_st0 hc) ?_
  refine X_bipush dX3_payNight_4 (by decide) ?_
  refine X_iconst dX3_payNight_6 ?_
  refine Y_vS dX3_payNight_7 cs_X3_71 (t_raiseN hc hR 17 (by decide) rfl _) rfl (fun I7 hq7 => ?_)
  obtain ⟨hR, hF7⟩ := hq7
  have hF := hF.trans hF7
  refine X_iconst dX3_payNight_10 ?_
  refine X_istore dX3_payNight_11 (by decide) ?_
  dsimp only [List.set]
  exact t_payNight_loop hc hG 3 0 (by omega) _ hR hF
def fdH (g : Nat → Int) (k : Nat) (f : Int) : Nat → Int := gB g k 2 (gb g k 2 * f / 100)
def fd1 (g : Nat → Int) (k : Nat) (f : Int) : Nat → Int := gB (fdH g k f) k 5 (max (gb (fdH g k f) k 5 - 1) 0)
def fdF (g : Nat → Int) : Nat → (Nat → Int)
  | 0 => g
  | k + 1 => fd1 (fdF g k) k (g 0)
theorem GI.fdh {g : Nat → Int} {n k : Nat} (h : GI g n) (hk : k < n) {f : Int} (hf : 0 ≤ f ∧ f ≤ 100) : 0 ≤ gb g k 2 * f ∧ gb g k 2 * f ≤ 9999900 := by
  have h2 := (h.b hk).2.2.1
  have a := Int.mul_nonneg h2.1 hf.1
  have b := Int.mul_le_mul h2.2 hf.2 hf.1 (by omega)
  omega
theorem GI.fadeH {g : Nat → Int} {n k : Nat} (h : GI g n) (hk : k < n) {f : Int} (hf : 0 ≤ f ∧ f ≤ 100) : GI (fdH g k f) n := by
  have h2 := h.fdh hk hf
  exact h.setB (by decide) ⟨by omega, by omega, by omega, by omega, by omega, by omega⟩
theorem GI.fade1 {g : Nat → Int} {n k : Nat} (h : GI g n) (hk : k < n) {f : Int} (hf : 0 ≤ f ∧ f ≤ 100) : GI (fd1 g k f) n := by
  have h5 := ((h.fadeH hk hf).b hk).2.2.2.2.2
  exact (h.fadeH hk hf).setB (by decide) ⟨by omega, by omega, by omega, by omega, by omega, by omega⟩
theorem GI.fd {g : Nat → Int} {n : Nat} (h : GI g n) : ∀ k, k ≤ n → GI (fdF g k) n
  | 0, _ => h
  | k + 1, hk => (GI.fd h k (by omega)).fade1 (by omega) h.s0
set_option maxRecDepth 20000 in
set_option maxHeartbeats 4000000 in
theorem t_fade_loop {I : xI} {c : Nat} {g0 : Nat → Int} {n : Nat} (hc : x_st c) (hG0 : GI g0 n) : ∀ (m k : Nat), k + m = n → ∀ (I1 : xI), RS I1 c (fdF g0 k) n → FR I I1 c → Y kX3_fade 2 16 [some (rr c), some (ii (n : Int)), some (ii (g0 0)), some (ii (k : Int))] [] I1 (q_v (fun I2 => RS I2 c (fdF g0 n) n ∧ FR I I2 c)) := by
  have lc := st_lt hc
  have hn24 := hG0.n24
  intro m
  induction m with
  | zero =>
    intro k hk I1 hR hF
    refine X_iload dX3_fade_16 rfl ?_
    refine X_iload dX3_fade_17 rfl ?_
    refine X_icmp_ge (tgt := 70) dX3_fade_18 (by decide) (by omega) (fun c_18 => ?_) (fun c_18 => absurd c_18 (by omega))
    refine X_vret dX3_fade_70 rfl ?_
    rw [show k = n by omega] at hR
    exact ⟨rfl, rfl, rfl, hR, hF⟩
  | succ m ih =>
    intro k hk I1 hR hF
    have hG := hG0.fd k (by omega)
    refine X_iload dX3_fade_16 rfl ?_
    refine X_iload dX3_fade_17 rfl ?_
    refine X_icmp_ge (tgt := 70) dX3_fade_18 (by decide) (by omega) (fun c_18 => absurd c_18 (by omega)) (fun c_18 => ?_)
    refine X_aload dX3_fade_21 rfl ?_
    refine X_getR dX3_fade_22 rfl gf_X3_24 (sh_st hc) (by omega) rfl (rf_st4 hc) ?_
    refine X_iload dX3_fade_25 rfl ?_
    refine X_aload dX3_fade_26 rfl ?_
    refine X_getR dX3_fade_27 rfl gf_X3_24 (sh_st hc) (by omega) rfl (rf_st4 hc) ?_
    refine X_iload dX3_fade_30 rfl ?_
    refine Y_pS dX3_fade_31 cs_X3_49 (t_blk2 hc hR hn24 k (by omega) rfl) rfl ?_
    refine X_iload dX3_fade_34 rfl ?_
    refine X_imul dX3_fade_35 ?_
    refine X_bipush dX3_fade_36 (by decide) ?_
    have hm := hG.fdh (k := k) (by omega) hG0.s0
    refine X_idiv dX3_fade_38 (by omega) (by omega) ?_
    refine Y_vS dX3_fade_39 cs_X3_67 (t_putB2 hc hR hn24 k (by omega) rfl _) rfl (fun I39 hq39 => ?_)
    obtain ⟨hR, hF39⟩ := hq39
    have hF := hF.trans hF39
    change RS _ c (fdH (fdF g0 k) k (g0 0)) n at hR
    have hG := hG.fadeH (k := k) (by omega) hG0.s0
    have h5 := (hG.b (k := k) (by omega)).2.2.2.2.2
    refine X_aload dX3_fade_42 rfl ?_
    refine X_getR dX3_fade_43 rfl gf_X3_33 (sh_st hc) (by omega) rfl (rf_st7 hc) ?_
    refine X_iload dX3_fade_46 rfl ?_
    refine X_aload dX3_fade_47 rfl ?_
    refine X_getR dX3_fade_48 rfl gf_X3_33 (sh_st hc) (by omega) rfl (rf_st7 hc) ?_
    refine X_iload dX3_fade_51 rfl ?_
    refine Y_pS dX3_fade_52 cs_X3_49 (t_blk5 hc hR hn24 k (by omega) rfl) rfl ?_
    refine X_iconst dX3_fade_55 ?_
    refine X_isub dX3_fade_56 ?_
    refine X_iconst dX3_fade_57 ?_
    refine X_max dX3_fade_58 rfl lk_X3_105 (by omega) (by omega) (by decide) (Nat.le_of_ble_eq_true rfl) ?_
    refine Y_vS dX3_fade_61 cs_X3_67 (t_putB5 hc hR hn24 k (by omega) rfl _) rfl (fun I61 hq61 => ?_)
    obtain ⟨hR, hF61⟩ := hq61
    have hF := hF.trans hF61
    refine X_iinc dX3_fade_64 rfl ?_
    dsimp only [List.set]
    refine X_goto (tgt := 16) dX3_fade_67 (by decide) ?_
    exact ih (k + 1) (by omega) _ hR hF
set_option maxRecDepth 20000 in
set_option maxHeartbeats 4000000 in
theorem t_fade {I : xI} {c : Nat} {g : Nat → Int} {n : Nat} (hc : x_st c) (hR : RS I c g n) (hG : GI g n) : S kX3_fade 2 [rr c] I (q_v (fun I1 => RS I1 c (fdF g n) n ∧ FR I I1 c)) := by
  have lc := st_lt hc
  have hn24 := hG.n24
  have hF : FR I I c := FR.rf
  refine Sp_intro (by decide +kernel) (Nat.le_of_ble_eq_true rfl) ?_
  show Y kX3_fade 2 0 [some (rr c), none, none, none] [] I _
  refine X_aload dX3_fade_0 rfl ?_
  refine Y_pV dX3_fade_1 cv_X3_53 (sh_st hc) (by omega) (t_countBlocks hc hR hG) rfl ?_
  refine X_istore dX3_fade_4 (by decide) ?_
  dsimp only [List.set]
  refine X_aload dX3_fade_5 rfl ?_
  refine X_getR dX3_fade_6 rfl gf_X3_9 (sh_st hc) (by omega) rfl (rf_st0 hc) ?_
  refine X_iconst dX3_fade_9 ?_
  refine Y_pS dX3_fade_10 cs_X3_49 (t_num hc hR 0 (by decide) rfl) rfl ?_
  refine X_istore dX3_fade_13 (by decide) ?_
  dsimp only [List.set]
  refine X_iconst dX3_fade_14 ?_
  refine X_istore dX3_fade_15 (by decide) ?_
  dsimp only [List.set]
  exact t_fade_loop hc hG n 0 (by omega) _ hR hF
def tpZ (g : Nat → Int) (n : Nat) (b p : Int) : Int := match pl g n b with
  | none => -1
  | some k => if gb g k 4 = p then -5 else pins (gB g k 4 p) n
set_option maxRecDepth 20000 in
set_option maxHeartbeats 4000000 in
theorem t_turnPin0 {I : xI} {c : Nat} {g : Nat → Int} {n : Nat} (hc : x_st c) (hR : RS I c g n) (hG : GI g n) (b : Int) (hb : -2147483648 ≤ b ∧ b ≤ 2147483647) : S kX3_turnPin 3 [rr c, ii b, ii 0] I (q_i (fun z I1 => z = tpZ g n b 0 ∧ FR I I1 c ∧ (∀ k, pl g n b = some k → ¬ gb g k 4 = 0 → RS I1 c (gB g k 4 0) n))) := by
  have lc := st_lt hc
  have hn24 := hG.n24
  have hF : FR I I c := FR.rf
  refine Sp_intro (by decide +kernel) (Nat.le_of_ble_eq_true rfl) ?_
  show Y kX3_turnPin 3 0 [some (rr c), some (ii b), some (ii 0), none, none] [] I _

  rcases hp : pl g n b with _ | k
  · have hfd := t_find hc hR hG b hb
    rw [hp] at hfd
    change S _ _ _ _ (q_p (ii (-1)) I) at hfd
    refine X_aload dX3_turnPin_0 rfl ?_
    refine X_iload dX3_turnPin_1 rfl ?_
    refine Y_pV dX3_turnPin_2 cv_X3_78 (sh_st hc) (by omega) hfd rfl ?_
    refine X_istore dX3_turnPin_5 (by decide) ?_
    dsimp only [List.set]
    refine X_iload dX3_turnPin_6 rfl ?_
    refine X_iconst dX3_turnPin_7 ?_
    refine X_icmp_ne (tgt := 13) dX3_turnPin_8 (by decide) (by omega) (fun c_8 => absurd c_8 (by omega)) (fun c_8 => ?_)
    refine X_iconst dX3_turnPin_11 ?_
    refine X_iret dX3_turnPin_12 (Or.inl rfl) ?_
    exact ⟨rfl, rfl, _, rfl, by unfold tpZ; rw [hp], hF, fun k h => by cases h⟩
  · have hk := pl_lt hp
    have hfd := t_find hc hR hG b hb
    rw [hp] at hfd
    change S _ _ _ _ (q_p (ii ((k : Nat) : Int)) I) at hfd
    refine X_aload dX3_turnPin_0 rfl ?_
    refine X_iload dX3_turnPin_1 rfl ?_
    refine Y_pV dX3_turnPin_2 cv_X3_78 (sh_st hc) (by omega) hfd rfl ?_
    refine X_istore dX3_turnPin_5 (by decide) ?_
    dsimp only [List.set]
    refine X_iload dX3_turnPin_6 rfl ?_
    refine X_iconst dX3_turnPin_7 ?_
    refine X_icmp_ne (tgt := 13) dX3_turnPin_8 (by decide) (by omega) (fun c_8 => ?_) (fun c_8 => absurd c_8 (by omega))
    refine X_iload dX3_turnPin_13 rfl ?_
    refine X_if_eq (tgt := 21) dX3_turnPin_14 (by decide) (by omega) (fun c_14 => ?_) (fun c_14 => absurd c_14 (by omega))
    refine X_iconst dX3_turnPin_21 ?_
    refine X_istoreW dX3_turnPin_22 (by decide) ?_
    dsimp only [List.set]
    refine X_aload dX3_turnPin_24 rfl ?_
    refine X_getR dX3_turnPin_25 rfl gf_X3_30 (sh_st hc) (by omega) rfl (rf_st6 hc) ?_
    refine X_iload dX3_turnPin_28 rfl ?_
    refine Y_pS dX3_turnPin_29 cs_X3_49 (t_blk4 hc hR hn24 k (by omega) rfl) rfl ?_
    refine X_iloadW dX3_turnPin_32 rfl ?_
    have hb4 := (hG.b hk).2.2.2.2.1
    refine X_icmp_ne (tgt := 40) dX3_turnPin_34 (by decide) (by omega) (fun c_34 => ?_) (fun c_34 => ?_)
    · refine X_aload dX3_turnPin_40 rfl ?_
      refine X_getR dX3_turnPin_41 rfl gf_X3_30 (sh_st hc) (by omega) rfl (rf_st6 hc) ?_
      refine X_iload dX3_turnPin_44 rfl ?_
      refine X_iloadW dX3_turnPin_45 rfl ?_
      refine Y_vS dX3_turnPin_47 cs_X3_67 (t_putB4 hc hR hn24 k (by omega) rfl _) rfl (fun I47 hq47 => ?_)
      obtain ⟨hR, hF47⟩ := hq47
      have hF := hF.trans hF47
      have hG := hG.setB (k := k) (j := 4) (z := 0) (by decide) ⟨by omega, by omega, by omega, by omega, by omega, by omega⟩
      refine X_aload dX3_turnPin_50 rfl ?_
      refine Y_pV dX3_turnPin_51 cv_X3_108 (sh_st hc) (by omega) (t_countPinned hc hR hG) rfl ?_
      refine X_iret dX3_turnPin_54 (Or.inl rfl) ?_
      exact ⟨rfl, rfl, _, rfl, by unfold tpZ; rw [hp]; show _ = if _ then _ else _; rw [if_neg c_34], hF, fun k1 h h2 => by cases h; exact hR⟩
    · refine X_bipush dX3_turnPin_37 (by decide) ?_
      refine X_iret dX3_turnPin_39 (Or.inl rfl) ?_
      exact ⟨rfl, rfl, _, rfl, by unfold tpZ; rw [hp]; show _ = if _ then _ else _; rw [if_pos c_34], hF, fun k1 h h2 => by cases h; exact absurd c_34 h2⟩
set_option maxRecDepth 20000 in
set_option maxHeartbeats 4000000 in
theorem t_turnPin1 {I : xI} {c : Nat} {g : Nat → Int} {n : Nat} (hc : x_st c) (hR : RS I c g n) (hG : GI g n) (b : Int) (hb : -2147483648 ≤ b ∧ b ≤ 2147483647) : S kX3_turnPin 3 [rr c, ii b, ii 1] I (q_i (fun z I1 => z = tpZ g n b 1 ∧ FR I I1 c ∧ (∀ k, pl g n b = some k → ¬ gb g k 4 = 1 → RS I1 c (gB g k 4 1) n))) := by
  have lc := st_lt hc
  have hn24 := hG.n24
  have hF : FR I I c := FR.rf
  refine Sp_intro (by decide +kernel) (Nat.le_of_ble_eq_true rfl) ?_
  show Y kX3_turnPin 3 0 [some (rr c), some (ii b), some (ii 1), none, none] [] I _

  rcases hp : pl g n b with _ | k
  · have hfd := t_find hc hR hG b hb
    rw [hp] at hfd
    change S _ _ _ _ (q_p (ii (-1)) I) at hfd
    refine X_aload dX3_turnPin_0 rfl ?_
    refine X_iload dX3_turnPin_1 rfl ?_
    refine Y_pV dX3_turnPin_2 cv_X3_78 (sh_st hc) (by omega) hfd rfl ?_
    refine X_istore dX3_turnPin_5 (by decide) ?_
    dsimp only [List.set]
    refine X_iload dX3_turnPin_6 rfl ?_
    refine X_iconst dX3_turnPin_7 ?_
    refine X_icmp_ne (tgt := 13) dX3_turnPin_8 (by decide) (by omega) (fun c_8 => absurd c_8 (by omega)) (fun c_8 => ?_)
    refine X_iconst dX3_turnPin_11 ?_
    refine X_iret dX3_turnPin_12 (Or.inl rfl) ?_
    exact ⟨rfl, rfl, _, rfl, by unfold tpZ; rw [hp], hF, fun k h => by cases h⟩
  · have hk := pl_lt hp
    have hfd := t_find hc hR hG b hb
    rw [hp] at hfd
    change S _ _ _ _ (q_p (ii ((k : Nat) : Int)) I) at hfd
    refine X_aload dX3_turnPin_0 rfl ?_
    refine X_iload dX3_turnPin_1 rfl ?_
    refine Y_pV dX3_turnPin_2 cv_X3_78 (sh_st hc) (by omega) hfd rfl ?_
    refine X_istore dX3_turnPin_5 (by decide) ?_
    dsimp only [List.set]
    refine X_iload dX3_turnPin_6 rfl ?_
    refine X_iconst dX3_turnPin_7 ?_
    refine X_icmp_ne (tgt := 13) dX3_turnPin_8 (by decide) (by omega) (fun c_8 => ?_) (fun c_8 => absurd c_8 (by omega))
    refine X_iload dX3_turnPin_13 rfl ?_
    refine X_if_eq (tgt := 21) dX3_turnPin_14 (by decide) (by omega) (fun c_14 => absurd c_14 (by omega)) (fun c_14 => ?_)
    refine X_iconst dX3_turnPin_17 ?_
    refine X_goto (tgt := 22) dX3_turnPin_18 (by decide) ?_
    refine X_istoreW dX3_turnPin_22 (by decide) ?_
    dsimp only [List.set]
    refine X_aload dX3_turnPin_24 rfl ?_
    refine X_getR dX3_turnPin_25 rfl gf_X3_30 (sh_st hc) (by omega) rfl (rf_st6 hc) ?_
    refine X_iload dX3_turnPin_28 rfl ?_
    refine Y_pS dX3_turnPin_29 cs_X3_49 (t_blk4 hc hR hn24 k (by omega) rfl) rfl ?_
    refine X_iloadW dX3_turnPin_32 rfl ?_
    have hb4 := (hG.b hk).2.2.2.2.1
    refine X_icmp_ne (tgt := 40) dX3_turnPin_34 (by decide) (by omega) (fun c_34 => ?_) (fun c_34 => ?_)
    · refine X_aload dX3_turnPin_40 rfl ?_
      refine X_getR dX3_turnPin_41 rfl gf_X3_30 (sh_st hc) (by omega) rfl (rf_st6 hc) ?_
      refine X_iload dX3_turnPin_44 rfl ?_
      refine X_iloadW dX3_turnPin_45 rfl ?_
      refine Y_vS dX3_turnPin_47 cs_X3_67 (t_putB4 hc hR hn24 k (by omega) rfl _) rfl (fun I47 hq47 => ?_)
      obtain ⟨hR, hF47⟩ := hq47
      have hF := hF.trans hF47
      have hG := hG.setB (k := k) (j := 4) (z := 1) (by decide) ⟨by omega, by omega, by omega, by omega, by omega, by omega⟩
      refine X_aload dX3_turnPin_50 rfl ?_
      refine Y_pV dX3_turnPin_51 cv_X3_108 (sh_st hc) (by omega) (t_countPinned hc hR hG) rfl ?_
      refine X_iret dX3_turnPin_54 (Or.inl rfl) ?_
      exact ⟨rfl, rfl, _, rfl, by unfold tpZ; rw [hp]; show _ = if _ then _ else _; rw [if_neg c_34], hF, fun k1 h h2 => by cases h; exact hR⟩
    · refine X_bipush dX3_turnPin_37 (by decide) ?_
      refine X_iret dX3_turnPin_39 (Or.inl rfl) ?_
      exact ⟨rfl, rfl, _, rfl, by unfold tpZ; rw [hp]; show _ = if _ then _ else _; rw [if_pos c_34], hF, fun k1 h h2 => by cases h; exact absurd c_34 h2⟩
theorem t_turnPin {I : xI} {c : Nat} {g : Nat → Int} {n : Nat} (hc : x_st c) (hR : RS I c g n) (hG : GI g n) (b : Int) (hb : -2147483648 ≤ b ∧ b ≤ 2147483647) (p : Int) (hp : p = 0 ∨ p = 1) : S kX3_turnPin 3 [rr c, ii b, ii p] I (q_i (fun z I1 => z = tpZ g n b p ∧ FR I I1 c ∧ (∀ k, pl g n b = some k → ¬ gb g k 4 = p → RS I1 c (gB g k 4 p) n))) := by
  rcases hp with rfl | rfl
  · exact t_turnPin0 hc hR hG b hb
  · exact t_turnPin1 hc hR hG b hb
