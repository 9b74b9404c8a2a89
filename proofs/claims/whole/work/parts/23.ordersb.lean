/-! Orders: an order, all orders; the text grows and is emptied -/
def stO (J : xI) (cn : Nat) (o : xO) : xI := x_up (x_up (x_up (x_up J 85 cn o.1) 86 cn o.2.1) 87 cn o.2.2) 83 5 ((cn : Int) + 1)
def roP (I : xI) (cn : Nat) (r : Option xO × Nat) (z : Int) (I1 : xI) : Prop := match r with
  | (none, e) => z = 0 ∧ I1 = x_up I 83 6 (e : Int)
  | (some o, e) => z = 1 ∧ I1 = stO (x_up I 83 6 (e : Int)) cn o
set_option maxRecDepth 20000 in
set_option maxHeartbeats 4000000 in
theorem t_readOrder {I : xI} {tx : Nat → Int} {len p : Nat} (hO : OI I tx len p) (hT : TB tx len) (hp : p ≤ 100) (hpl : p ≤ len) (cn : Nat) (hcn : I 83 5 = (cn : Int)) (hc30 : cn < 30) : S kX2_readOrder 4 [rr 83] I (q_i (roP I cn (od tx len p))) := by
  have h60 := hT.1
  refine Sp_intro (by decide +kernel) (Nat.le_of_ble_eq_true rfl) ?_
  show Y kX2_readOrder 4 0 [some (rr 83), none, none, none] [] I _
  by_cases hk : kd (sg tx len p) = true
  · have hplt : p < len := sg_lt (tx := tx) (len := len) (i := p) (fun q => by have := kd_iff.mp hk; omega)
    have hfd := t_readNumber (hO.setp (p + 1)) hT (by omega) (lsO (sg tx len p)) (grO (sg tx len p)) (lsO_01 _) (grO_9 _)
    rcases h1 : num tx len (lsO (sg tx len p)) (grO (sg tx len p)) (p + 1) with _ | ⟨v, e⟩
    · rw [h1] at hfd
      refine X_aload dX2_readOrder_0 rfl ?_
      refine Y_pV dX2_readOrder_1 cv_X2_42 sh_83 (by decide) (t_signHere hO hT hp) rfl ?_
      have hs := sg_bounds hT p
      refine X_istore dX2_readOrder_4 (by decide) ?_
      dsimp only [List.set]
      refine X_aload dX2_readOrder_5 rfl ?_
      refine X_iload dX2_readOrder_6 rfl ?_
      refine Y_pV dX2_readOrder_7 cv_X2_46 sh_83 (by decide) (t_isKind (sg tx len p) hs) rfl ?_
      rw [if_pos hk]
      refine X_if_ne (tgt := 15) dX2_readOrder_10 (by decide) (by omega) (fun c_10 => ?_) (fun c_10 => absurd c_10 (by omega))
      refine X_aload dX2_readOrder_15 rfl ?_
      refine X_dup dX2_readOrder_16 ?_
      refine X_getI dX2_readOrder_17 rfl gf_X2_31 sh_83 (by decide) rfl ?_
      rw [hO.2.2]
      refine X_iconst dX2_readOrder_20 ?_
      refine X_iadd dX2_readOrder_21 ?_
      refine X_putI dX2_readOrder_22 rfl pf_X2_31 sh_83 (by decide) rfl (Or.inl rfl) ?_
      refine X_aload dX2_readOrder_25 rfl ?_
      refine X_aload dX2_readOrder_26 rfl ?_
      refine X_iload dX2_readOrder_27 rfl ?_
      refine Y_pV dX2_readOrder_28 cv_X2_50 sh_83 (by decide) (t_leastOf (sg tx len p) hs) rfl ?_
      refine X_aload dX2_readOrder_31 rfl ?_
      refine X_iload dX2_readOrder_32 rfl ?_
      refine Y_pV dX2_readOrder_33 cv_X2_54 sh_83 (by decide) (t_greatestOf (sg tx len p) hs) rfl ?_
      refine Y_iV dX2_readOrder_36 cv_X2_57 sh_83 (by decide) hfd rfl (fun z36 I36 h36 => ?_)
      obtain ⟨rfl, rfl⟩ := (h36 : _ ∧ _)
      refine X_istore dX2_readOrder_39 (by decide) ?_
      dsimp only [List.set]
      refine X_iload dX2_readOrder_40 rfl ?_
      refine X_if_ge (tgt := 46) dX2_readOrder_41 (by decide) (by omega) (fun c_41 => absurd c_41 (by omega)) (fun c_41 => ?_)
      refine X_iconst dX2_readOrder_44 ?_
      refine X_iret dX2_readOrder_45 (Or.inr ⟨rfl, by omega⟩) ?_
      refine ⟨rfl, rfl, _, rfl, ?_⟩
      rw [show od tx len p = (none, p + 1) by unfold od; rw [if_pos hk, h1]]
      exact ⟨rfl, rfl⟩
    · rw [h1] at hfd
      have hn := num_ok (grO_9 _).1 (lsO_01 _).1 h1
      have hls := lsO_01 (sg tx len p)
      have hgr := grO_9 (sg tx len p)
      by_cases h2 : sg tx len p = 114 ∧ sg tx len e = 42
      · have helt : e < len := sg_lt (tx := tx) (len := len) (i := e) (by omega)
        rcases h3 : num tx len 1 99 (e + 1) with _ | ⟨t, e2⟩
        · refine X_aload dX2_readOrder_0 rfl ?_
          refine Y_pV dX2_readOrder_1 cv_X2_42 sh_83 (by decide) (t_signHere hO hT hp) rfl ?_
          have hs := sg_bounds hT p
          refine X_istore dX2_readOrder_4 (by decide) ?_
          dsimp only [List.set]
          refine X_aload dX2_readOrder_5 rfl ?_
          refine X_iload dX2_readOrder_6 rfl ?_
          refine Y_pV dX2_readOrder_7 cv_X2_46 sh_83 (by decide) (t_isKind (sg tx len p) hs) rfl ?_
          rw [if_pos hk]
          refine X_if_ne (tgt := 15) dX2_readOrder_10 (by decide) (by omega) (fun c_10 => ?_) (fun c_10 => absurd c_10 (by omega))
          refine X_aload dX2_readOrder_15 rfl ?_
          refine X_dup dX2_readOrder_16 ?_
          refine X_getI dX2_readOrder_17 rfl gf_X2_31 sh_83 (by decide) rfl ?_
          rw [hO.2.2]
          refine X_iconst dX2_readOrder_20 ?_
          refine X_iadd dX2_readOrder_21 ?_
          refine X_putI dX2_readOrder_22 rfl pf_X2_31 sh_83 (by decide) rfl (Or.inl rfl) ?_
          refine X_aload dX2_readOrder_25 rfl ?_
          refine X_aload dX2_readOrder_26 rfl ?_
          refine X_iload dX2_readOrder_27 rfl ?_
          refine Y_pV dX2_readOrder_28 cv_X2_50 sh_83 (by decide) (t_leastOf (sg tx len p) hs) rfl ?_
          refine X_aload dX2_readOrder_31 rfl ?_
          refine X_iload dX2_readOrder_32 rfl ?_
          refine Y_pV dX2_readOrder_33 cv_X2_54 sh_83 (by decide) (t_greatestOf (sg tx len p) hs) rfl ?_
          refine Y_iV dX2_readOrder_36 cv_X2_57 sh_83 (by decide) hfd rfl (fun z36 I36 h36 => ?_)
          obtain ⟨rfl, rfl⟩ := (h36 : _ ∧ _)
          rw [x_up_up]
          have hOe := hO.setp e
          have hse := sg_bounds hT e
          refine X_istore dX2_readOrder_39 (by decide) ?_
          dsimp only [List.set]
          refine X_iload dX2_readOrder_40 rfl ?_
          refine X_if_ge (tgt := 46) dX2_readOrder_41 (by decide) (by omega) (fun c_41 => ?_) (fun c_41 => absurd c_41 (by omega))
          refine X_iconst dX2_readOrder_46 ?_
          refine X_istore dX2_readOrder_47 (by decide) ?_
          dsimp only [List.set]
          refine X_iload dX2_readOrder_48 rfl ?_
          refine X_bipush dX2_readOrder_49 (by decide) ?_
          refine X_icmp_ne (tgt := 87) dX2_readOrder_51 (by decide) (by omega) (fun c_51 => absurd c_51 (by omega)) (fun c_51 => ?_)
          refine X_aload dX2_readOrder_54 rfl ?_
          refine Y_pV dX2_readOrder_55 cv_X2_42 sh_83 (by decide) (t_signHere hOe hT (by omega)) rfl ?_
          refine X_bipush dX2_readOrder_58 (by decide) ?_
          refine X_icmp_ne (tgt := 87) dX2_readOrder_60 (by decide) (by omega) (fun c_60 => absurd c_60 (by omega)) (fun c_60 => ?_)
          refine X_aload dX2_readOrder_63 rfl ?_
          refine X_dup dX2_readOrder_64 ?_
          refine X_getI dX2_readOrder_65 rfl gf_X2_31 sh_83 (by decide) rfl ?_
          rw [hOe.2.2]
          refine X_iconst dX2_readOrder_68 ?_
          refine X_iadd dX2_readOrder_69 ?_
          refine X_putI dX2_readOrder_70 rfl pf_X2_31 sh_83 (by decide) rfl (Or.inl rfl) ?_
          rw [x_up_up]
          have hfd2 := t_readNumber (hO.setp (e + 1)) hT (by omega) 1 99 (by omega) (by omega)
          rw [h3] at hfd2
          refine X_aload dX2_readOrder_73 rfl ?_
          refine X_iconst dX2_readOrder_74 ?_
          refine X_bipush dX2_readOrder_75 (by decide) ?_
          refine Y_iV dX2_readOrder_77 cv_X2_57 sh_83 (by decide) hfd2 rfl (fun z77 I77 h77 => ?_)
          obtain ⟨rfl, rfl⟩ := (h77 : _ ∧ _)
          refine X_istore dX2_readOrder_80 (by decide) ?_
          dsimp only [List.set]
          refine X_iload dX2_readOrder_81 rfl ?_
          refine X_if_ge (tgt := 87) dX2_readOrder_82 (by decide) (by omega) (fun c_82 => absurd c_82 (by omega)) (fun c_82 => ?_)
          refine X_iconst dX2_readOrder_85 ?_
          refine X_iret dX2_readOrder_86 (Or.inr ⟨rfl, by omega⟩) ?_
          refine ⟨rfl, rfl, _, rfl, ?_⟩
          rw [show od tx len p = (none, e + 1) by unfold od; rw [if_pos hk, h1]; show (if _ then _ else _ : Option xO × Nat) = _; rw [if_pos h2, h3]]
          exact ⟨rfl, rfl⟩
        · have hn2 := num_ok (by decide) (by decide) h3
          have hod : od tx len p = (some (sg tx len p, v, t), e2) := by unfold od; rw [if_pos hk, h1]; show (if _ then _ else _ : Option xO × Nat) = _; rw [if_pos h2, h3]
          refine X_aload dX2_readOrder_0 rfl ?_
          refine Y_pV dX2_readOrder_1 cv_X2_42 sh_83 (by decide) (t_signHere hO hT hp) rfl ?_
          have hs := sg_bounds hT p
          refine X_istore dX2_readOrder_4 (by decide) ?_
          dsimp only [List.set]
          refine X_aload dX2_readOrder_5 rfl ?_
          refine X_iload dX2_readOrder_6 rfl ?_
          refine Y_pV dX2_readOrder_7 cv_X2_46 sh_83 (by decide) (t_isKind (sg tx len p) hs) rfl ?_
          rw [if_pos hk]
          refine X_if_ne (tgt := 15) dX2_readOrder_10 (by decide) (by omega) (fun c_10 => ?_) (fun c_10 => absurd c_10 (by omega))
          refine X_aload dX2_readOrder_15 rfl ?_
          refine X_dup dX2_readOrder_16 ?_
          refine X_getI dX2_readOrder_17 rfl gf_X2_31 sh_83 (by decide) rfl ?_
          rw [hO.2.2]
          refine X_iconst dX2_readOrder_20 ?_
          refine X_iadd dX2_readOrder_21 ?_
          refine X_putI dX2_readOrder_22 rfl pf_X2_31 sh_83 (by decide) rfl (Or.inl rfl) ?_
          refine X_aload dX2_readOrder_25 rfl ?_
          refine X_aload dX2_readOrder_26 rfl ?_
          refine X_iload dX2_readOrder_27 rfl ?_
          refine Y_pV dX2_readOrder_28 cv_X2_50 sh_83 (by decide) (t_leastOf (sg tx len p) hs) rfl ?_
          refine X_aload dX2_readOrder_31 rfl ?_
          refine X_iload dX2_readOrder_32 rfl ?_
          refine Y_pV dX2_readOrder_33 cv_X2_54 sh_83 (by decide) (t_greatestOf (sg tx len p) hs) rfl ?_
          refine Y_iV dX2_readOrder_36 cv_X2_57 sh_83 (by decide) hfd rfl (fun z36 I36 h36 => ?_)
          obtain ⟨rfl, rfl⟩ := (h36 : _ ∧ _)
          rw [x_up_up]
          have hOe := hO.setp e
          have hse := sg_bounds hT e
          refine X_istore dX2_readOrder_39 (by decide) ?_
          dsimp only [List.set]
          refine X_iload dX2_readOrder_40 rfl ?_
          refine X_if_ge (tgt := 46) dX2_readOrder_41 (by decide) (by omega) (fun c_41 => ?_) (fun c_41 => absurd c_41 (by omega))
          refine X_iconst dX2_readOrder_46 ?_
          refine X_istore dX2_readOrder_47 (by decide) ?_
          dsimp only [List.set]
          refine X_iload dX2_readOrder_48 rfl ?_
          refine X_bipush dX2_readOrder_49 (by decide) ?_
          refine X_icmp_ne (tgt := 87) dX2_readOrder_51 (by decide) (by omega) (fun c_51 => absurd c_51 (by omega)) (fun c_51 => ?_)
          refine X_aload dX2_readOrder_54 rfl ?_
          refine Y_pV dX2_readOrder_55 cv_X2_42 sh_83 (by decide) (t_signHere hOe hT (by omega)) rfl ?_
          refine X_bipush dX2_readOrder_58 (by decide) ?_
          refine X_icmp_ne (tgt := 87) dX2_readOrder_60 (by decide) (by omega) (fun c_60 => absurd c_60 (by omega)) (fun c_60 => ?_)
          refine X_aload dX2_readOrder_63 rfl ?_
          refine X_dup dX2_readOrder_64 ?_
          refine X_getI dX2_readOrder_65 rfl gf_X2_31 sh_83 (by decide) rfl ?_
          rw [hOe.2.2]
          refine X_iconst dX2_readOrder_68 ?_
          refine X_iadd dX2_readOrder_69 ?_
          refine X_putI dX2_readOrder_70 rfl pf_X2_31 sh_83 (by decide) rfl (Or.inl rfl) ?_
          rw [x_up_up]
          have hfd2 := t_readNumber (hO.setp (e + 1)) hT (by omega) 1 99 (by omega) (by omega)
          rw [h3] at hfd2
          refine X_aload dX2_readOrder_73 rfl ?_
          refine X_iconst dX2_readOrder_74 ?_
          refine X_bipush dX2_readOrder_75 (by decide) ?_
          refine Y_iV dX2_readOrder_77 cv_X2_57 sh_83 (by decide) hfd2 rfl (fun z77 I77 h77 => ?_)
          obtain ⟨rfl, rfl⟩ := (h77 : _ ∧ _)
          rw [x_up_up]
          refine X_istore dX2_readOrder_80 (by decide) ?_
          dsimp only [List.set]
          refine X_iload dX2_readOrder_81 rfl ?_
          refine X_if_ge (tgt := 87) dX2_readOrder_82 (by decide) (by omega) (fun c_82 => ?_) (fun c_82 => absurd c_82 (by omega))
          have hJ5 : x_up I 83 6 (e2 : Int) 83 5 = (cn : Int) := by rw [x_up_offj (by decide)]; exact hcn
          generalize hJ : x_up I 83 6 (e2 : Int) = J at hJ5 ⊢
          refine X_aload dX2_readOrder_87 rfl ?_
          refine X_getR dX2_readOrder_88 rfl gf_X2_19 sh_83 (by decide) rfl rf_83_2 ?_
          refine X_aload dX2_readOrder_91 rfl ?_
          refine X_getI dX2_readOrder_92 rfl gf_X2_28 sh_83 (by decide) rfl ?_
          rw [hJ5]
          refine X_iload dX2_readOrder_95 rfl ?_
          refine Y_vS dX2_readOrder_96 cs_X2_34 (t_putk sh_85 (by decide) _ cn (by omega) rfl _) rfl (fun I96 e96 => ?_)
          subst e96
          refine X_aload dX2_readOrder_99 rfl ?_
          refine X_getR dX2_readOrder_100 rfl gf_X2_22 sh_83 (by decide) rfl rf_83_3 ?_
          refine X_aload dX2_readOrder_103 rfl ?_
          refine X_getI dX2_readOrder_104 rfl gf_X2_28 sh_83 (by decide) rfl ?_
          rw [x_up_off (by decide), hJ5]
          refine X_iload dX2_readOrder_107 rfl ?_
          refine Y_vS dX2_readOrder_108 cs_X2_34 (t_putk sh_86 (by decide) _ cn (by omega) rfl _) rfl (fun I108 e108 => ?_)
          subst e108
          refine X_aload dX2_readOrder_111 rfl ?_
          refine X_getR dX2_readOrder_112 rfl gf_X2_25 sh_83 (by decide) rfl rf_83_4 ?_
          refine X_aload dX2_readOrder_115 rfl ?_
          refine X_getI dX2_readOrder_116 rfl gf_X2_28 sh_83 (by decide) rfl ?_
          rw [x_up_off (by decide), x_up_off (by decide), hJ5]
          refine X_iload dX2_readOrder_119 rfl ?_
          refine Y_vS dX2_readOrder_120 cs_X2_34 (t_putk sh_87 (by decide) _ cn (by omega) rfl _) rfl (fun I120 e120 => ?_)
          subst e120
          refine X_aload dX2_readOrder_123 rfl ?_
          refine X_dup dX2_readOrder_124 ?_
          refine X_getI dX2_readOrder_125 rfl gf_X2_28 sh_83 (by decide) rfl ?_
          rw [x_up_off (by decide), x_up_off (by decide), x_up_off (by decide), hJ5]
          refine X_iconst dX2_readOrder_128 ?_
          refine X_iadd dX2_readOrder_129 ?_
          refine X_putI dX2_readOrder_130 rfl pf_X2_28 sh_83 (by decide) rfl (Or.inl rfl) ?_
          refine X_iconst dX2_readOrder_133 ?_
          refine X_iret dX2_readOrder_134 (Or.inr ⟨rfl, by omega⟩) ?_
          refine ⟨rfl, rfl, _, rfl, ?_⟩
          subst hJ
          rw [hod]
          exact ⟨rfl, rfl⟩
      · have hod : od tx len p = (some (sg tx len p, v, 1), e) := by unfold od; rw [if_pos hk, h1]; show (if _ then _ else _ : Option xO × Nat) = _; rw [if_neg h2]
        refine X_aload dX2_readOrder_0 rfl ?_
        refine Y_pV dX2_readOrder_1 cv_X2_42 sh_83 (by decide) (t_signHere hO hT hp) rfl ?_
        have hs := sg_bounds hT p
        refine X_istore dX2_readOrder_4 (by decide) ?_
        dsimp only [List.set]
        refine X_aload dX2_readOrder_5 rfl ?_
        refine X_iload dX2_readOrder_6 rfl ?_
        refine Y_pV dX2_readOrder_7 cv_X2_46 sh_83 (by decide) (t_isKind (sg tx len p) hs) rfl ?_
        rw [if_pos hk]
        refine X_if_ne (tgt := 15) dX2_readOrder_10 (by decide) (by omega) (fun c_10 => ?_) (fun c_10 => absurd c_10 (by omega))
        refine X_aload dX2_readOrder_15 rfl ?_
        refine X_dup dX2_readOrder_16 ?_
        refine X_getI dX2_readOrder_17 rfl gf_X2_31 sh_83 (by decide) rfl ?_
        rw [hO.2.2]
        refine X_iconst dX2_readOrder_20 ?_
        refine X_iadd dX2_readOrder_21 ?_
        refine X_putI dX2_readOrder_22 rfl pf_X2_31 sh_83 (by decide) rfl (Or.inl rfl) ?_
        refine X_aload dX2_readOrder_25 rfl ?_
        refine X_aload dX2_readOrder_26 rfl ?_
        refine X_iload dX2_readOrder_27 rfl ?_
        refine Y_pV dX2_readOrder_28 cv_X2_50 sh_83 (by decide) (t_leastOf (sg tx len p) hs) rfl ?_
        refine X_aload dX2_readOrder_31 rfl ?_
        refine X_iload dX2_readOrder_32 rfl ?_
        refine Y_pV dX2_readOrder_33 cv_X2_54 sh_83 (by decide) (t_greatestOf (sg tx len p) hs) rfl ?_
        refine Y_iV dX2_readOrder_36 cv_X2_57 sh_83 (by decide) hfd rfl (fun z36 I36 h36 => ?_)
        obtain ⟨rfl, rfl⟩ := (h36 : _ ∧ _)
        rw [x_up_up]
        have hOe := hO.setp e
        have hse := sg_bounds hT e
        refine X_istore dX2_readOrder_39 (by decide) ?_
        dsimp only [List.set]
        refine X_iload dX2_readOrder_40 rfl ?_
        refine X_if_ge (tgt := 46) dX2_readOrder_41 (by decide) (by omega) (fun c_41 => ?_) (fun c_41 => absurd c_41 (by omega))
        refine X_iconst dX2_readOrder_46 ?_
        refine X_istore dX2_readOrder_47 (by decide) ?_
        dsimp only [List.set]
        refine X_iload dX2_readOrder_48 rfl ?_
        refine X_bipush dX2_readOrder_49 (by decide) ?_
        refine X_icmp_ne (tgt := 87) dX2_readOrder_51 (by decide) (by omega) (fun c_51 => ?_) (fun c_51 => ?_)
        · have hJ5 : x_up I 83 6 (e : Int) 83 5 = (cn : Int) := by rw [x_up_offj (by decide)]; exact hcn
          generalize hJ : x_up I 83 6 (e : Int) = J at hJ5 ⊢
          refine X_aload dX2_readOrder_87 rfl ?_
          refine X_getR dX2_readOrder_88 rfl gf_X2_19 sh_83 (by decide) rfl rf_83_2 ?_
          refine X_aload dX2_readOrder_91 rfl ?_
          refine X_getI dX2_readOrder_92 rfl gf_X2_28 sh_83 (by decide) rfl ?_
          rw [hJ5]
          refine X_iload dX2_readOrder_95 rfl ?_
          refine Y_vS dX2_readOrder_96 cs_X2_34 (t_putk sh_85 (by decide) _ cn (by omega) rfl _) rfl (fun I96 e96 => ?_)
          subst e96
          refine X_aload dX2_readOrder_99 rfl ?_
          refine X_getR dX2_readOrder_100 rfl gf_X2_22 sh_83 (by decide) rfl rf_83_3 ?_
          refine X_aload dX2_readOrder_103 rfl ?_
          refine X_getI dX2_readOrder_104 rfl gf_X2_28 sh_83 (by decide) rfl ?_
          rw [x_up_off (by decide), hJ5]
          refine X_iload dX2_readOrder_107 rfl ?_
          refine Y_vS dX2_readOrder_108 cs_X2_34 (t_putk sh_86 (by decide) _ cn (by omega) rfl _) rfl (fun I108 e108 => ?_)
          subst e108
          refine X_aload dX2_readOrder_111 rfl ?_
          refine X_getR dX2_readOrder_112 rfl gf_X2_25 sh_83 (by decide) rfl rf_83_4 ?_
          refine X_aload dX2_readOrder_115 rfl ?_
          refine X_getI dX2_readOrder_116 rfl gf_X2_28 sh_83 (by decide) rfl ?_
          rw [x_up_off (by decide), x_up_off (by decide), hJ5]
          refine X_iload dX2_readOrder_119 rfl ?_
          refine Y_vS dX2_readOrder_120 cs_X2_34 (t_putk sh_87 (by decide) _ cn (by omega) rfl _) rfl (fun I120 e120 => ?_)
          subst e120
          refine X_aload dX2_readOrder_123 rfl ?_
          refine X_dup dX2_readOrder_124 ?_
          refine X_getI dX2_readOrder_125 rfl gf_X2_28 sh_83 (by decide) rfl ?_
          rw [x_up_off (by decide), x_up_off (by decide), x_up_off (by decide), hJ5]
          refine X_iconst dX2_readOrder_128 ?_
          refine X_iadd dX2_readOrder_129 ?_
          refine X_putI dX2_readOrder_130 rfl pf_X2_28 sh_83 (by decide) rfl (Or.inl rfl) ?_
          refine X_iconst dX2_readOrder_133 ?_
          refine X_iret dX2_readOrder_134 (Or.inr ⟨rfl, by omega⟩) ?_
          refine ⟨rfl, rfl, _, rfl, ?_⟩
          subst hJ
          rw [hod]
          exact ⟨rfl, rfl⟩
        · refine X_aload dX2_readOrder_54 rfl ?_
          refine Y_pV dX2_readOrder_55 cv_X2_42 sh_83 (by decide) (t_signHere hOe hT (by omega)) rfl ?_
          refine X_bipush dX2_readOrder_58 (by decide) ?_
          refine X_icmp_ne (tgt := 87) dX2_readOrder_60 (by decide) (by omega) (fun c_60 => ?_) (fun c_60 => absurd c_60 (by omega))
          have hJ5 : x_up I 83 6 (e : Int) 83 5 = (cn : Int) := by rw [x_up_offj (by decide)]; exact hcn
          generalize hJ : x_up I 83 6 (e : Int) = J at hJ5 ⊢
          refine X_aload dX2_readOrder_87 rfl ?_
          refine X_getR dX2_readOrder_88 rfl gf_X2_19 sh_83 (by decide) rfl rf_83_2 ?_
          refine X_aload dX2_readOrder_91 rfl ?_
          refine X_getI dX2_readOrder_92 rfl gf_X2_28 sh_83 (by decide) rfl ?_
          rw [hJ5]
          refine X_iload dX2_readOrder_95 rfl ?_
          refine Y_vS dX2_readOrder_96 cs_X2_34 (t_putk sh_85 (by decide) _ cn (by omega) rfl _) rfl (fun I96 e96 => ?_)
          subst e96
          refine X_aload dX2_readOrder_99 rfl ?_
          refine X_getR dX2_readOrder_100 rfl gf_X2_22 sh_83 (by decide) rfl rf_83_3 ?_
          refine X_aload dX2_readOrder_103 rfl ?_
          refine X_getI dX2_readOrder_104 rfl gf_X2_28 sh_83 (by decide) rfl ?_
          rw [x_up_off (by decide), hJ5]
          refine X_iload dX2_readOrder_107 rfl ?_
          refine Y_vS dX2_readOrder_108 cs_X2_34 (t_putk sh_86 (by decide) _ cn (by omega) rfl _) rfl (fun I108 e108 => ?_)
          subst e108
          refine X_aload dX2_readOrder_111 rfl ?_
          refine X_getR dX2_readOrder_112 rfl gf_X2_25 sh_83 (by decide) rfl rf_83_4 ?_
          refine X_aload dX2_readOrder_115 rfl ?_
          refine X_getI dX2_readOrder_116 rfl gf_X2_28 sh_83 (by decide) rfl ?_
          rw [x_up_off (by decide), x_up_off (by decide), hJ5]
          refine X_iload dX2_readOrder_119 rfl ?_
          refine Y_vS dX2_readOrder_120 cs_X2_34 (t_putk sh_87 (by decide) _ cn (by omega) rfl _) rfl (fun I120 e120 => ?_)
          subst e120
          refine X_aload dX2_readOrder_123 rfl ?_
          refine X_dup dX2_readOrder_124 ?_
          refine X_getI dX2_readOrder_125 rfl gf_X2_28 sh_83 (by decide) rfl ?_
          rw [x_up_off (by decide), x_up_off (by decide), x_up_off (by decide), hJ5]
          refine X_iconst dX2_readOrder_128 ?_
          refine X_iadd dX2_readOrder_129 ?_
          refine X_putI dX2_readOrder_130 rfl pf_X2_28 sh_83 (by decide) rfl (Or.inl rfl) ?_
          refine X_iconst dX2_readOrder_133 ?_
          refine X_iret dX2_readOrder_134 (Or.inr ⟨rfl, by omega⟩) ?_
          refine ⟨rfl, rfl, _, rfl, ?_⟩
          subst hJ
          rw [hod]
          exact ⟨rfl, rfl⟩
  · refine X_aload dX2_readOrder_0 rfl ?_
    refine Y_pV dX2_readOrder_1 cv_X2_42 sh_83 (by decide) (t_signHere hO hT hp) rfl ?_
    have hs := sg_bounds hT p
    refine X_istore dX2_readOrder_4 (by decide) ?_
    dsimp only [List.set]
    refine X_aload dX2_readOrder_5 rfl ?_
    refine X_iload dX2_readOrder_6 rfl ?_
    refine Y_pV dX2_readOrder_7 cv_X2_46 sh_83 (by decide) (t_isKind (sg tx len p) hs) rfl ?_
    rw [if_neg hk]
    refine X_if_ne (tgt := 15) dX2_readOrder_10 (by decide) (by omega) (fun c_10 => absurd c_10 (by omega)) (fun c_10 => ?_)
    refine X_iconst dX2_readOrder_13 ?_
    refine X_iret dX2_readOrder_14 (Or.inr ⟨rfl, by omega⟩) ?_
    refine ⟨rfl, rfl, _, rfl, ?_⟩
    rw [show od tx len p = (none, p) by unfold od; rw [if_neg hk]]
    exact ⟨rfl, by rw [← hO.2.2]; funext c j; unfold x_up; by_cases q : c = 83 ∧ j = 6; rw [if_pos q, q.1, q.2]; rw [if_neg q]⟩
/-- the orders that are held -/
def AR (K : xI) (os : List xO) : Prop := K 83 5 = os.length ∧ ∀ (q : Nat) (o : xO), os[q]? = some o → K 85 q = o.1 ∧ K 86 q = o.2.1 ∧ K 87 q = o.2.2
def FO (I K : xI) : Prop := ∀ q, q < 83 ∨ 88 ≤ q ∨ q = 84 → K q = I q
theorem OI.st {J : xI} {tx : Nat → Int} {len p cn : Nat} {o : xO} (h : OI J tx len p) : OI (stO J cn o) tx len p := by
  unfold stO
  exact ⟨by rw [x_up_offj (by decide), x_up_off (by decide), x_up_off (by decide), x_up_off (by decide)]; exact h.1, fun j hj => by rw [x_up_off (by decide), x_up_off (by decide), x_up_off (by decide), x_up_off (by decide)]; exact h.2.1 j hj, by rw [x_up_offj (by decide), x_up_off (by decide), x_up_off (by decide), x_up_off (by decide)]; exact h.2.2⟩
theorem AR.setp {K : xI} {os : List xO} (h : AR K os) (e : Int) : AR (x_up K 83 6 e) os := ⟨by rw [x_up_offj (by decide)]; exact h.1, fun q o hq => by rw [x_up_off (by decide), x_up_off (by decide), x_up_off (by decide)]; exact h.2 q o hq⟩
theorem st85 (K : xI) (n : Nat) (o : xO) (q : Nat) : stO K n o 85 q = x_up K 85 n o.1 85 q := by unfold stO; rw [x_up_off (by decide), x_up_off (by decide), x_up_off (by decide)]
theorem st86 (K : xI) (n : Nat) (o : xO) (q : Nat) : stO K n o 86 q = x_up (x_up K 85 n o.1) 86 n o.2.1 86 q := by unfold stO; rw [x_up_off (by decide), x_up_off (by decide)]
theorem st87 (K : xI) (n : Nat) (o : xO) (q : Nat) : stO K n o 87 q = x_up (x_up (x_up K 85 n o.1) 86 n o.2.1) 87 n o.2.2 87 q := by unfold stO; rw [x_up_off (by decide)]
theorem AR.st {K : xI} {os : List xO} (h : AR K os) (o : xO) : AR (stO K os.length o) (os ++ [o]) := by
  refine ⟨by unfold stO; rw [x_up_same, List.length_append]; rfl, fun q o' hq => ?_⟩
  rw [st85, st86, st87]
  by_cases e : q < os.length
  · rw [List.getElem?_append_left e] at hq
    have hne : q ≠ os.length := by omega
    simp only [x_up_offj hne]
    exact h.2 q o' hq
  · have hl := (List.getElem?_eq_some_iff.mp hq).1
    rw [List.length_append] at hl
    have e2 : q = os.length := by simp at hl; omega
    subst e2
    rw [List.getElem?_append_right (Nat.le_refl _), Nat.sub_self] at hq
    cases hq
    exact ⟨x_up_same, x_up_same, x_up_same⟩
theorem FO.st {I J : xI} {cn : Nat} {o : xO} (h : FO I J) : FO I (stO J cn o) := fun q hq => by
  unfold stO
  rw [x_up_ne (by omega), x_up_ne (by omega), x_up_ne (by omega), x_up_ne (by omega)]
  exact h q hq
theorem FO.setp {I J : xI} (h : FO I J) (j : Nat) (e : Int) : FO I (x_up J 83 j e) := fun q hq => by rw [x_up_ne (by omega)]; exact h q hq
set_option maxRecDepth 20000 in
set_option maxHeartbeats 4000000 in
theorem t_readAll_loop {I : xI} {tx : Nat → Int} {len : Nat} (hT : TB tx len) : ∀ (f p : Nat) (os : List xO) (K : xI) (n : Int), os.length + f = 30 → n = (os.length : Int) → p ≤ len → OI K tx len p → AR K os → FO I K → Y kX2_readAll 5 12 [some (rr 83), some (ii n)] [] K (q_i (fun z K1 => z = (rA tx len f p).1 ∧ FO I K1 ∧ OI K1 tx len (K1 83 6).toNat ∧ (z = -1 → AR K1 (os ++ (rA tx len f p).2)))) := by
  have h60 := hT.1
  intro f
  induction f with
  | zero =>
    intro p os K n hl hn hp hO hA hF
    have hl30 : (os.length : Int) = 30 := by omega
    refine X_iload dX2_readAll_12 rfl ?_
    refine X_bipush dX2_readAll_13 (by decide) ?_
    refine X_icmp_ge (tgt := 73) dX2_readAll_15 (by decide) (by omega) (fun c_15 => ?_) (fun c_15 => absurd c_15 (by omega))
    refine X_aload dX2_readAll_73 rfl ?_
    refine X_getI dX2_readAll_74 rfl gf_X2_31 sh_83 (by decide) rfl ?_
    rw [hO.2.2]
    refine X_iret dX2_readAll_77 (Or.inl rfl) ?_
    exact ⟨rfl, rfl, _, rfl, rfl, hF, by rw [hO.2.2]; exact hO, fun q => absurd q (by show ¬ (p : Int) = -1; omega)⟩
  | succ f ih =>
    intro p os K n hl hn hp hO hA hF
    have hro := t_readOrder hO hT (by omega) hp os.length hA.1 (by omega)
    rcases hod : od tx len p with ⟨_ | o, e⟩
    · rw [hod] at hro
      refine X_iload dX2_readAll_12 rfl ?_
      refine X_bipush dX2_readAll_13 (by decide) ?_
      refine X_icmp_ge (tgt := 73) dX2_readAll_15 (by decide) (by omega) (fun c_15 => absurd c_15 (by omega)) (fun c_15 => ?_)
      refine X_aload dX2_readAll_18 rfl ?_
      refine Y_iV dX2_readAll_19 cv_X2_38 sh_83 (by decide) hro rfl (fun z20 K20 h20 => ?_)
      obtain ⟨rfl, rfl⟩ := (h20 : _ ∧ _)
      refine X_if_ne (tgt := 30) dX2_readAll_22 (by decide) (by omega) (fun c_22 => absurd c_22 (by omega)) (fun c_22 => ?_)
      refine X_aload dX2_readAll_25 rfl ?_
      refine X_getI dX2_readAll_26 rfl gf_X2_31 sh_83 (by decide) rfl ?_
      rw [x_up_same]
      refine X_iret dX2_readAll_29 (Or.inl rfl) ?_
      rw [show rA tx len (f + 1) p = ((e : Int), []) by show (match od tx len p with | (none, e) => _ | (some o, e) => _ : Int × List xO) = _; rw [hod]]
      exact ⟨rfl, rfl, _, rfl, rfl, hF.setp 6 _, by rw [x_up_same]; exact hO.setp e, fun q => absurd q (by show ¬ (e : Int) = -1; omega)⟩
    · have hok := od_ok hod
      rw [hod] at hro
      refine X_iload dX2_readAll_12 rfl ?_
      refine X_bipush dX2_readAll_13 (by decide) ?_
      refine X_icmp_ge (tgt := 73) dX2_readAll_15 (by decide) (by omega) (fun c_15 => absurd c_15 (by omega)) (fun c_15 => ?_)
      refine X_aload dX2_readAll_18 rfl ?_
      refine Y_iV dX2_readAll_19 cv_X2_38 sh_83 (by decide) hro rfl (fun z20 K20 h20 => ?_)
      obtain ⟨rfl, rfl⟩ := (h20 : _ ∧ _)
      have hO2 := (hO.setp e).st (cn := os.length) (o := o)
      have hA2 := (hA.setp (e : Int)).st o
      have hF2 := (hF.setp 6 (e : Int)).st (cn := os.length) (o := o)
      generalize stO (x_up K 83 6 (e : Int)) os.length o = K2 at hO2 hA2 hF2 ⊢
      refine X_if_ne (tgt := 30) dX2_readAll_22 (by decide) (by omega) (fun c_22 => ?_) (fun c_22 => absurd c_22 (by omega))
      refine X_aload dX2_readAll_30 rfl ?_
      refine X_getI dX2_readAll_31 rfl gf_X2_31 sh_83 (by decide) rfl ?_
      rw [hO2.2.2]
      refine X_aload dX2_readAll_34 rfl ?_
      refine X_getI dX2_readAll_35 rfl gf_X2_15 sh_83 (by decide) rfl ?_
      rw [hO2.1]
      refine X_icmp_lt (tgt := 43) dX2_readAll_38 (by decide) (by omega) (fun c_38 => ?_) (fun c_38 => ?_)
      · refine X_aload dX2_readAll_43 rfl ?_
        refine Y_pV dX2_readAll_44 cv_X2_42 sh_83 (by decide) (t_signHere hO2 hT (by omega)) rfl ?_
        have hse := sg_bounds hT e
        refine X_bipush dX2_readAll_47 (by decide) ?_
        refine X_icmp_eq (tgt := 57) dX2_readAll_49 (by decide) (by omega) (fun c_49 => ?_) (fun c_49 => ?_)
        · refine X_aload dX2_readAll_57 rfl ?_
          refine X_dup dX2_readAll_58 ?_
          refine X_getI dX2_readAll_59 rfl gf_X2_31 sh_83 (by decide) rfl ?_
          rw [hO2.2.2]
          refine X_iconst dX2_readAll_62 ?_
          refine X_iadd dX2_readAll_63 ?_
          refine X_putI dX2_readAll_64 rfl pf_X2_31 sh_83 (by decide) rfl (Or.inl rfl) ?_
          refine X_iinc dX2_readAll_67 rfl ?_
          dsimp only [List.set]
          refine X_goto (tgt := 12) dX2_readAll_70 (by decide) ?_
          have era : rA tx len (f + 1) p = ((rA tx len f (e + 1)).1, o :: (rA tx len f (e + 1)).2) := by show (match od tx len p with | (none, e) => _ | (some o, e) => _ : Int × List xO) = _; rw [hod]; show (if _ then _ else _ : Int × List xO) = _; rw [if_neg (by omega), if_pos c_49]
          have h9 := ih (e + 1) (os ++ [o]) _ (n + 1) (by rw [List.length_append]; simp; omega) (by rw [List.length_append, hn]; simp) (by omega) (hO2.setp (e + 1)) (hA2.setp _) (hF2.setp 6 _)
          refine X_weaken h9 (fun ro N1 I1 R1 h => ?_)
          obtain ⟨a1, a2, z, a3, a4, a5, a6, a7⟩ := h
          refine ⟨a1, a2, z, a3, by rw [era]; exact a4, a5, a6, fun q => ?_⟩
          rw [era]
          have a8 := a7 q
          rw [List.append_assoc] at a8
          exact a8
        · refine X_aload dX2_readAll_52 rfl ?_
          refine X_getI dX2_readAll_53 rfl gf_X2_31 sh_83 (by decide) rfl ?_
          rw [hO2.2.2]
          refine X_iret dX2_readAll_56 (Or.inl rfl) ?_
          have era : rA tx len (f + 1) p = ((e : Int), [o]) := by show (match od tx len p with | (none, e) => _ | (some o, e) => _ : Int × List xO) = _; rw [hod]; show (if _ then _ else _ : Int × List xO) = _; rw [if_neg (by omega), if_neg c_49]
          rw [era]
          exact ⟨rfl, rfl, _, rfl, rfl, hF2, by rw [hO2.2.2]; exact hO2, fun q => absurd q (by show ¬ (e : Int) = -1; omega)⟩
      · refine X_iconst dX2_readAll_41 ?_
        refine X_iret dX2_readAll_42 (Or.inl rfl) ?_
        have era : rA tx len (f + 1) p = (-1, [o]) := by show (match od tx len p with | (none, e) => _ | (some o, e) => _ : Int × List xO) = _; rw [hod]; show (if _ then _ else _ : Int × List xO) = _; rw [if_pos (by omega)]
        rw [era]
        exact ⟨rfl, rfl, _, rfl, rfl, hF2, by rw [hO2.2.2]; exact hO2, fun _ => hA2⟩
set_option maxRecDepth 20000 in
set_option maxHeartbeats 4000000 in
theorem t_readAll {I : xI} {tx : Nat → Int} {len : Nat} (hT : TB tx len) (hl : I 83 1 = len) (ht : ∀ j, j < len → I 84 j = tx j) : S kX2_readAll 5 [rr 83] I (q_i (fun z K1 => z = (rA tx len 30 0).1 ∧ FO I K1 ∧ OI K1 tx len (K1 83 6).toNat ∧ (z = -1 → AR K1 ((rA tx len 30 0).2)))) := by
  have h60 := hT.1
  refine Sp_intro (by decide +kernel) (Nat.le_of_ble_eq_true rfl) ?_
  show Y kX2_readAll 5 0 [some (rr 83), none] [] I _
  refine X_aload dX2_readAll_0 rfl ?_
  refine X_iconst dX2_readAll_1 ?_
  refine X_putI dX2_readAll_2 rfl pf_X2_28 sh_83 (by decide) rfl (Or.inl rfl) ?_
  refine X_aload dX2_readAll_5 rfl ?_
  refine X_iconst dX2_readAll_6 ?_
  refine X_putI dX2_readAll_7 rfl pf_X2_31 sh_83 (by decide) rfl (Or.inl rfl) ?_
  refine X_iconst dX2_readAll_10 ?_
  refine X_istore dX2_readAll_11 (by decide) ?_
  dsimp only [List.set]
  have hO1 : OI (x_up (x_up I 83 5 0) 83 6 0) tx len 0 := ⟨by rw [x_up_offj (by decide), x_up_offj (by decide)]; exact hl, fun j hj => by rw [x_up_off (by decide), x_up_off (by decide)]; exact ht j hj, x_up_same⟩
  have hA1 : AR (x_up (x_up I 83 5 0) 83 6 0) [] := ⟨by rw [x_up_offj (by decide), x_up_same]; rfl, fun q o hq => by simp at hq⟩
  exact t_readAll_loop hT 30 0 [] _ 0 (by decide) rfl (by omega) hO1 hA1 (fun q hq => by rw [x_up_ne (by omega), x_up_ne (by omega)])
set_option maxRecDepth 20000 in
set_option maxHeartbeats 4000000 in
theorem t_append {I : xI} {len : Nat} (h60 : len ≤ 60) (hl : I 83 1 = len) (z : Int) : S kX2_append 1 [rr 83, ii z] I (q_i (fun a I1 => (len = 60 ∧ a = -3 ∧ I1 = I) ∨ (len < 60 ∧ a = (len : Int) + 1 ∧ I1 = x_up (x_up I 84 len z) 83 1 ((len : Int) + 1)))) := by
  refine Sp_intro (by decide +kernel) (Nat.le_of_ble_eq_true rfl) ?_
  show Y kX2_append 1 0 [some (rr 83), some (ii z)] [] I _
  refine X_aload dX2_append_0 rfl ?_
  refine X_getI dX2_append_1 rfl gf_X2_15 sh_83 (by decide) rfl ?_
  rw [hl]
  refine X_bipush dX2_append_4 (by decide) ?_
  refine X_icmp_lt (tgt := 12) dX2_append_6 (by decide) (by omega) (fun c_6 => ?_) (fun c_6 => ?_)
  · refine X_aload dX2_append_12 rfl ?_
    refine X_getR dX2_append_13 rfl gf_X2_9 sh_83 (by decide) rfl rf_83_0 ?_
    refine X_aload dX2_append_16 rfl ?_
    refine X_getI dX2_append_17 rfl gf_X2_15 sh_83 (by decide) rfl ?_
    rw [hl]
    refine X_iload dX2_append_20 rfl ?_
    refine Y_vS dX2_append_21 cs_X2_34 (t_putk sh_84 (by decide) _ len (by omega) rfl _) rfl (fun I21 e21 => ?_)
    subst e21
    refine X_aload dX2_append_24 rfl ?_
    refine X_dup dX2_append_25 ?_
    refine X_getI dX2_append_26 rfl gf_X2_15 sh_83 (by decide) rfl ?_
    rw [x_up_off (by decide), hl]
    refine X_iconst dX2_append_29 ?_
    refine X_iadd dX2_append_30 ?_
    refine X_putI dX2_append_31 rfl pf_X2_15 sh_83 (by decide) rfl (Or.inl rfl) ?_
    refine X_aload dX2_append_34 rfl ?_
    refine X_getI dX2_append_35 rfl gf_X2_15 sh_83 (by decide) rfl ?_
    rw [x_up_same]
    refine X_iret dX2_append_38 (Or.inl rfl) ?_
    exact ⟨rfl, rfl, _, rfl, Or.inr ⟨by omega, rfl, rfl⟩⟩
  · refine X_bipush dX2_append_9 (by decide) ?_
    refine X_iret dX2_append_11 (Or.inl rfl) ?_
    exact ⟨rfl, rfl, _, rfl, Or.inl ⟨by omega, rfl, rfl⟩⟩
set_option maxRecDepth 20000 in
set_option maxHeartbeats 4000000 in
theorem t_empty {I : xI} {len : Nat} (hl : I 83 1 = len) : S kX2_empty 0 [rr 83] I (q_i (fun a I1 => a = (len : Int) ∧ I1 = x_up I 83 1 0)) := by
  refine Sp_intro (by decide +kernel) (Nat.le_of_ble_eq_true rfl) ?_
  show Y kX2_empty 0 0 [some (rr 83), none] [] I _
  refine X_aload dX2_empty_0 rfl ?_
  refine X_getI dX2_empty_1 rfl gf_X2_15 sh_83 (by decide) rfl ?_
  rw [hl]
  refine X_istore dX2_empty_4 (by decide) ?_
  dsimp only [List.set]
  refine X_aload dX2_empty_5 rfl ?_
  refine X_iconst dX2_empty_6 ?_
  refine X_putI dX2_empty_7 rfl pf_X2_15 sh_83 (by decide) rfl (Or.inl rfl) ?_
  refine X_iload dX2_empty_10 rfl ?_
  refine X_iret dX2_empty_11 (Or.inl rfl) ?_
  exact ⟨rfl, rfl, _, rfl, rfl, rfl⟩
