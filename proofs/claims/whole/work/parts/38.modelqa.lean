/-! the other program: a setting; questions -/
theorem al_no {g : Nat → Int} {n u : Nat} {v : Int} (h : (u = 1 ∧ v < g 2) ∨ (u = 2 ∧ g 1 < v) ∨ (6 ≤ u ∧ u < 9 ∧ v < onF g n ((u - 6 : Nat) : Int) 1)) : alD g n u v = false := by
  cases e : alD g n u v with
  | false => rfl
  | true =>
    obtain ⟨q1, q2, q3⟩ := alD_iff.mp e
    rcases h with h | h | h
    · have := q1 h.1; omega
    · have := q2 h.1; omega
    · have := q3 ⟨h.1, h.2.1⟩; omega
theorem al_yes {g : Nat → Int} {n u : Nat} {v : Int} (h1 : u ≠ 1 ∨ g 2 ≤ v) (h2 : u ≠ 2 ∨ v ≤ g 1) (h3 : ¬ (6 ≤ u ∧ u < 9) ∨ onF g n ((u - 6 : Nat) : Int) 1 ≤ v) : alD g n u v = true := alD_iff.mpr ⟨fun e => h1.resolve_left (fun q => q e), fun e => h2.resolve_left (fun q => q e), fun e => h3.resolve_left (fun q => q e)⟩
theorem MI.set {I : xI} {s : xS} {hs : List xS} {sn : Option xS} {tx : Nat → Int} {len : Nat} (hM : MI I s hs sn tx len) {u : Nat} {v : Int} : MI (x_up I 89 u v) (gN s.1 u v, s.2) hs sn tx len := by
  obtain ⟨c1, c2, c3, c4, c5⟩ := hM
  refine ⟨fun j hj => ?_, c2.of (by rw [x_up_ne (by decide)]) (x_up_ne (by decide)), c3.of (by rw [x_up_ne (by decide)]) (x_up_ne (by decide)), by rw [x_up_ne (by decide)]; exact c4, fun j hj => by rw [x_up_ne (by decide)]; exact c5 j hj⟩
  rw [Nat.zero_add, x_up_app]
  show _ = gN s.1 u v j
  rw [gN_num]
  by_cases a : j = u
  · rw [if_pos ⟨rfl, a⟩, if_pos a]
  · rw [if_neg (by omega), if_neg a]
    have := c1 j hj
    rw [Nat.zero_add] at this
    exact this
set_option maxRecDepth 20000 in
set_option maxHeartbeats 4000000 in
theorem m_set {I : xI} {s : xS} {hs : List xS} {sn : Option xS} {tx : Nat → Int} {len : Nat} (hM : MI I s hs sn tx len) (hg : CG s hs sn tx len) (a : Int) (ha : -2147483648 ≤ a ∧ a ≤ 2147483647) (v : Int) (hv : -2147483648 ≤ v ∧ v ≤ 2147483647) : S kX5_set 4 [rr 88, ii a, ii v] I (q_i (fun ans I1 => ans = (oSet s a v).1 ∧ MI I1 (nxS s (oSet s a v)) (nxH s hs (oSet s a v)) sn tx len ∧ MX I I1)) := by
  refine Sp_intro (by decide +kernel) (Nat.le_of_ble_eq_true rfl) ?_
  show Y kX5_set 4 0 [some (rr 88), some (ii a), some (ii v), none, none] [] I _
  refine X_iload dX5_set_0 rfl ?_
  refine X_iconst dX5_set_1 ?_
  refine X_bipush dX5_set_2 (by decide) ?_
  refine Y_pS dX5_set_4 cs_X5_81 (t5_in I (v := a) (a := 0) (b := 14) (by omega) (by decide) (by decide)) rfl ?_
  refine X_if_ne (tgt := 12) dX5_set_7 (by decide) (by split <;> omega) (fun c_7 => ?_) (fun c_7 => ?_)
  · have hin : 0 ≤ a ∧ a ≤ 14 := by
      by_cases q : 0 ≤ a ∧ a ≤ 14
      · exact q
      · rw [if_neg q] at c_7; exact absurd rfl c_7
    obtain ⟨u, rfl⟩ := Int.eq_ofNat_of_zero_le (show 0 ≤ a by omega)
    have hmx := mx_bounds (j := u) (by omega)
    have hg1 := hg.1.1.s1
    have hg2 := hg.1.1.s2
    have h24 := hg.1.1.n24
    refine X_iload dX5_set_12 rfl ?_
    refine X_iconst dX5_set_13 ?_
    refine X_iload dX5_set_14 rfl ?_
    refine Y_pS dX5_set_15 cs_X5_105 (t5_mostOf I u (by omega)) rfl ?_
    refine Y_pS dX5_set_18 cs_X5_81 (t5_in I (v := v) (a := 0) (b := mx u) (by omega) (by decide) (by omega)) rfl ?_
    refine X_if_ne (tgt := 27) dX5_set_21 (by decide) (by split <;> omega) (fun c_21 => ?_) (fun c_21 => ?_)
    · have hin : 0 ≤ v ∧ v ≤ mx u := by
        by_cases q : 0 ≤ v ∧ v ≤ mx u
        · exact q
        · rw [if_neg q] at c_21; exact absurd rfl c_21
      refine X_iload dX5_set_27 rfl ?_
      refine X_iconst dX5_set_28 ?_
      refine X_icmp_ne (tgt := 42) dX5_set_29 (by decide) (by omega) (fun c_29 => ?_) (fun c_29 => ?_)
      · refine X_iload dX5_set_42 rfl ?_
        refine X_iconst dX5_set_43 ?_
        refine X_icmp_ne (tgt := 61) dX5_set_44 (by decide) (by omega) (fun c_44 => ?_) (fun c_44 => ?_)
        · refine X_iconst dX5_set_61 ?_
          refine X_istore dX5_set_62 (by decide) ?_
          dsimp only [List.set]
          refine X_iload dX5_set_63 rfl ?_
          refine X_if_ne (tgt := 92) dX5_set_64 (by decide) (by omega) (fun c_64 => absurd c_64 (by omega)) (fun c_64 => ?_)
          refine X_iload dX5_set_67 rfl ?_
          refine X_bipush dX5_set_68 (by decide) ?_
          refine X_bipush dX5_set_70 (by decide) ?_
          refine Y_pS dX5_set_72 cs_X5_81 (t5_in I (v := (u : Int)) (a := 6) (b := 8) (by omega) (by decide) (by decide)) rfl ?_
          refine X_if_eq (tgt := 95) dX5_set_75 (by decide) (by split <;> omega) (fun c_75 => ?_) (fun c_75 => ?_)
          · have hin : ¬ (6 ≤ (u : Int) ∧ (u : Int) ≤ 8) := fun q => by rw [if_pos q] at c_75; exact absurd c_75 (by decide)
            refine X_aload dX5_set_95 rfl ?_
            refine X_getR dX5_set_96 rfl gf_X5_7 sh_88 (by decide) rfl rf_88_0 ?_
            refine X_iload dX5_set_99 rfl ?_
            have hal : alD s.1 s.2 u v = true := al_yes (by omega) (by omega) (by omega)
            have hu := set_bounds hg.1.1 (s := u) (by omega)
            refine Y_ald dX5_set_100 hM.1 (by omega) h24 (u) (by omega) (by omega) ?_
            refine X_istoreW dX5_set_101 (by decide) ?_
            dsimp only [List.set]
            refine X_iloadW dX5_set_103 rfl ?_
            refine X_iload dX5_set_105 rfl ?_
            refine X_icmp_ne (tgt := 112) dX5_set_106 (by decide) (by omega) (fun c_106 => ?_) (fun c_106 => ?_)
            · refine X_aload dX5_set_112 rfl ?_
              refine Y_vV dX5_set_113 cv_X5_29 sh_88 (by decide) (t5_remembers hM.1 hg.1.1.n24 hM.2.1 hg.2.1.1 hg.2.1.n24) rfl (fun I1 h1 => ?_)
              have hM1 := (hM.rem h1.1 h1.2).set (u := u) (v := v)
              refine X_aload dX5_set_116 rfl ?_
              refine X_getR dX5_set_117 rfl gf_X5_7 sh_88 (by decide) rfl rf_88_0 ?_
              refine X_iload dX5_set_120 rfl ?_
              refine X_iload dX5_set_121 rfl ?_
              refine X_iast dX5_set_122 sh_89 (by decide) (by omega) ?_
              rw [Int.toNat_natCast]
              refine X_iloadW dX5_set_123 rfl ?_
              refine X_iret dX5_set_125 (Or.inl rfl) ?_
              have e1 : (oSet s (u : Int) v).1 = s.1 u := by
                show csZ s.1 s.2 (u : Int) v = s.1 u
                unfold csZ
                rw [if_neg (by omega), if_neg (by rw [Int.toNat_natCast]; omega), Int.toNat_natCast, if_pos hal, if_neg (by omega)]
              refine ⟨rfl, rfl, _, rfl, e1.symm, ?_, h1.2.mx.trans (fun q hq => x_up_ne (by omega))⟩
              unfold nxS nxH
              rw [if_pos (by omega), if_pos (by omega)]
              show MI _ (gN s.1 (u : Int).toNat v, s.2) _ _ _ _
              rw [Int.toNat_natCast]
              exact hM1
            · refine X_bipush dX5_set_109 (by decide) ?_
              refine X_iret dX5_set_111 (Or.inl rfl) ?_
              have e1 : (oSet s (u : Int) v).1 = -5 := by
                show csZ s.1 s.2 (u : Int) v = -5
                unfold csZ
                rw [if_neg (by omega), if_neg (by rw [Int.toNat_natCast]; omega), Int.toNat_natCast, if_pos hal, if_pos (by omega)]
              exact ⟨rfl, rfl, _, rfl, e1.symm, hM.nx (by rw [e1]; decide), MX.rf⟩
          · have hin : 6 ≤ (u : Int) ∧ (u : Int) ≤ 8 := by
              by_cases q : 6 ≤ (u : Int) ∧ (u : Int) ≤ 8
              · exact q
              · rw [if_neg q] at c_75; exact absurd rfl c_75
            refine X_aload dX5_set_78 rfl ?_
            refine X_iconst dX5_set_79 ?_
            refine X_iload dX5_set_80 rfl ?_
            refine X_bipush dX5_set_81 (by decide) ?_
            refine X_isub dX5_set_83 ?_
            refine X_iconst dX5_set_84 ?_
            refine Y_pV dX5_set_85 cv_X5_36 sh_88 (by decide) (t5_on hM.1 (by decide) hg.1.1 (ip := 0) rfl ((u : Int) - 6) (by omega) 1 (by decide) rfl) rfl ?_
            rw [show (u : Int) - 6 = ((u - 6 : Nat) : Int) by omega]
            have hon := on_bounds hg.1.1 ((u - 6 : Nat) : Int)
            refine X_iload dX5_set_88 rfl ?_
            refine X_icmp_le (tgt := 95) dX5_set_89 (by decide) (by omega) (fun c_89 => ?_) (fun c_89 => ?_)
            · refine X_aload dX5_set_95 rfl ?_
              refine X_getR dX5_set_96 rfl gf_X5_7 sh_88 (by decide) rfl rf_88_0 ?_
              refine X_iload dX5_set_99 rfl ?_
              have hal : alD s.1 s.2 u v = true := al_yes (by omega) (by omega) (by omega)
              have hu := set_bounds hg.1.1 (s := u) (by omega)
              refine Y_ald dX5_set_100 hM.1 (by omega) h24 (u) (by omega) (by omega) ?_
              refine X_istoreW dX5_set_101 (by decide) ?_
              dsimp only [List.set]
              refine X_iloadW dX5_set_103 rfl ?_
              refine X_iload dX5_set_105 rfl ?_
              refine X_icmp_ne (tgt := 112) dX5_set_106 (by decide) (by omega) (fun c_106 => ?_) (fun c_106 => ?_)
              · refine X_aload dX5_set_112 rfl ?_
                refine Y_vV dX5_set_113 cv_X5_29 sh_88 (by decide) (t5_remembers hM.1 hg.1.1.n24 hM.2.1 hg.2.1.1 hg.2.1.n24) rfl (fun I1 h1 => ?_)
                have hM1 := (hM.rem h1.1 h1.2).set (u := u) (v := v)
                refine X_aload dX5_set_116 rfl ?_
                refine X_getR dX5_set_117 rfl gf_X5_7 sh_88 (by decide) rfl rf_88_0 ?_
                refine X_iload dX5_set_120 rfl ?_
                refine X_iload dX5_set_121 rfl ?_
                refine X_iast dX5_set_122 sh_89 (by decide) (by omega) ?_
                rw [Int.toNat_natCast]
                refine X_iloadW dX5_set_123 rfl ?_
                refine X_iret dX5_set_125 (Or.inl rfl) ?_
                have e1 : (oSet s (u : Int) v).1 = s.1 u := by
                  show csZ s.1 s.2 (u : Int) v = s.1 u
                  unfold csZ
                  rw [if_neg (by omega), if_neg (by rw [Int.toNat_natCast]; omega), Int.toNat_natCast, if_pos hal, if_neg (by omega)]
                refine ⟨rfl, rfl, _, rfl, e1.symm, ?_, h1.2.mx.trans (fun q hq => x_up_ne (by omega))⟩
                unfold nxS nxH
                rw [if_pos (by omega), if_pos (by omega)]
                show MI _ (gN s.1 (u : Int).toNat v, s.2) _ _ _ _
                rw [Int.toNat_natCast]
                exact hM1
              · refine X_bipush dX5_set_109 (by decide) ?_
                refine X_iret dX5_set_111 (Or.inl rfl) ?_
                have e1 : (oSet s (u : Int) v).1 = -5 := by
                  show csZ s.1 s.2 (u : Int) v = -5
                  unfold csZ
                  rw [if_neg (by omega), if_neg (by rw [Int.toNat_natCast]; omega), Int.toNat_natCast, if_pos hal, if_pos (by omega)]
                exact ⟨rfl, rfl, _, rfl, e1.symm, hM.nx (by rw [e1]; decide), MX.rf⟩
            · refine X_bipush dX5_set_92 (by decide) ?_
              refine X_iret dX5_set_94 (Or.inl rfl) ?_
              have hal : alD s.1 s.2 u v = false := al_no (by omega)
              have e1 : (oSet s (u : Int) v).1 = -4 := by
                show csZ s.1 s.2 (u : Int) v = -4
                unfold csZ
                rw [if_neg (by omega), if_neg (by rw [Int.toNat_natCast]; omega), Int.toNat_natCast, hal]
                rfl
              exact ⟨rfl, rfl, _, rfl, e1.symm, hM.nx (by rw [e1]; decide), MX.rf⟩
        · refine X_iload dX5_set_47 rfl ?_
          refine X_aload dX5_set_48 rfl ?_
          refine X_getR dX5_set_49 rfl gf_X5_7 sh_88 (by decide) rfl rf_88_0 ?_
          refine X_iconst dX5_set_52 ?_
          refine Y_ald dX5_set_53 hM.1 (by omega) h24 (1) (by omega) (by omega) ?_
          refine X_icmp_le (tgt := 61) dX5_set_54 (by decide) (by omega) (fun c_54 => ?_) (fun c_54 => ?_)
          · refine X_iconst dX5_set_61 ?_
            refine X_istore dX5_set_62 (by decide) ?_
            dsimp only [List.set]
            refine X_iload dX5_set_63 rfl ?_
            refine X_if_ne (tgt := 92) dX5_set_64 (by decide) (by omega) (fun c_64 => absurd c_64 (by omega)) (fun c_64 => ?_)
            refine X_iload dX5_set_67 rfl ?_
            refine X_bipush dX5_set_68 (by decide) ?_
            refine X_bipush dX5_set_70 (by decide) ?_
            refine Y_pS dX5_set_72 cs_X5_81 (t5_in I (v := (u : Int)) (a := 6) (b := 8) (by omega) (by decide) (by decide)) rfl ?_
            refine X_if_eq (tgt := 95) dX5_set_75 (by decide) (by split <;> omega) (fun c_75 => ?_) (fun c_75 => ?_)
            · have hin : ¬ (6 ≤ (u : Int) ∧ (u : Int) ≤ 8) := fun q => by rw [if_pos q] at c_75; exact absurd c_75 (by decide)
              refine X_aload dX5_set_95 rfl ?_
              refine X_getR dX5_set_96 rfl gf_X5_7 sh_88 (by decide) rfl rf_88_0 ?_
              refine X_iload dX5_set_99 rfl ?_
              have hal : alD s.1 s.2 u v = true := al_yes (by omega) (by omega) (by omega)
              have hu := set_bounds hg.1.1 (s := u) (by omega)
              refine Y_ald dX5_set_100 hM.1 (by omega) h24 (u) (by omega) (by omega) ?_
              refine X_istoreW dX5_set_101 (by decide) ?_
              dsimp only [List.set]
              refine X_iloadW dX5_set_103 rfl ?_
              refine X_iload dX5_set_105 rfl ?_
              refine X_icmp_ne (tgt := 112) dX5_set_106 (by decide) (by omega) (fun c_106 => ?_) (fun c_106 => ?_)
              · refine X_aload dX5_set_112 rfl ?_
                refine Y_vV dX5_set_113 cv_X5_29 sh_88 (by decide) (t5_remembers hM.1 hg.1.1.n24 hM.2.1 hg.2.1.1 hg.2.1.n24) rfl (fun I1 h1 => ?_)
                have hM1 := (hM.rem h1.1 h1.2).set (u := u) (v := v)
                refine X_aload dX5_set_116 rfl ?_
                refine X_getR dX5_set_117 rfl gf_X5_7 sh_88 (by decide) rfl rf_88_0 ?_
                refine X_iload dX5_set_120 rfl ?_
                refine X_iload dX5_set_121 rfl ?_
                refine X_iast dX5_set_122 sh_89 (by decide) (by omega) ?_
                rw [Int.toNat_natCast]
                refine X_iloadW dX5_set_123 rfl ?_
                refine X_iret dX5_set_125 (Or.inl rfl) ?_
                have e1 : (oSet s (u : Int) v).1 = s.1 u := by
                  show csZ s.1 s.2 (u : Int) v = s.1 u
                  unfold csZ
                  rw [if_neg (by omega), if_neg (by rw [Int.toNat_natCast]; omega), Int.toNat_natCast, if_pos hal, if_neg (by omega)]
                refine ⟨rfl, rfl, _, rfl, e1.symm, ?_, h1.2.mx.trans (fun q hq => x_up_ne (by omega))⟩
                unfold nxS nxH
                rw [if_pos (by omega), if_pos (by omega)]
                show MI _ (gN s.1 (u : Int).toNat v, s.2) _ _ _ _
                rw [Int.toNat_natCast]
                exact hM1
              · refine X_bipush dX5_set_109 (by decide) ?_
                refine X_iret dX5_set_111 (Or.inl rfl) ?_
                have e1 : (oSet s (u : Int) v).1 = -5 := by
                  show csZ s.1 s.2 (u : Int) v = -5
                  unfold csZ
                  rw [if_neg (by omega), if_neg (by rw [Int.toNat_natCast]; omega), Int.toNat_natCast, if_pos hal, if_pos (by omega)]
                exact ⟨rfl, rfl, _, rfl, e1.symm, hM.nx (by rw [e1]; decide), MX.rf⟩
            · have hin : 6 ≤ (u : Int) ∧ (u : Int) ≤ 8 := by
                by_cases q : 6 ≤ (u : Int) ∧ (u : Int) ≤ 8
                · exact q
                · rw [if_neg q] at c_75; exact absurd rfl c_75
              refine X_aload dX5_set_78 rfl ?_
              refine X_iconst dX5_set_79 ?_
              refine X_iload dX5_set_80 rfl ?_
              refine X_bipush dX5_set_81 (by decide) ?_
              refine X_isub dX5_set_83 ?_
              refine X_iconst dX5_set_84 ?_
              refine Y_pV dX5_set_85 cv_X5_36 sh_88 (by decide) (t5_on hM.1 (by decide) hg.1.1 (ip := 0) rfl ((u : Int) - 6) (by omega) 1 (by decide) rfl) rfl ?_
              rw [show (u : Int) - 6 = ((u - 6 : Nat) : Int) by omega]
              have hon := on_bounds hg.1.1 ((u - 6 : Nat) : Int)
              refine X_iload dX5_set_88 rfl ?_
              refine X_icmp_le (tgt := 95) dX5_set_89 (by decide) (by omega) (fun c_89 => ?_) (fun c_89 => ?_)
              · refine X_aload dX5_set_95 rfl ?_
                refine X_getR dX5_set_96 rfl gf_X5_7 sh_88 (by decide) rfl rf_88_0 ?_
                refine X_iload dX5_set_99 rfl ?_
                have hal : alD s.1 s.2 u v = true := al_yes (by omega) (by omega) (by omega)
                have hu := set_bounds hg.1.1 (s := u) (by omega)
                refine Y_ald dX5_set_100 hM.1 (by omega) h24 (u) (by omega) (by omega) ?_
                refine X_istoreW dX5_set_101 (by decide) ?_
                dsimp only [List.set]
                refine X_iloadW dX5_set_103 rfl ?_
                refine X_iload dX5_set_105 rfl ?_
                refine X_icmp_ne (tgt := 112) dX5_set_106 (by decide) (by omega) (fun c_106 => ?_) (fun c_106 => ?_)
                · refine X_aload dX5_set_112 rfl ?_
                  refine Y_vV dX5_set_113 cv_X5_29 sh_88 (by decide) (t5_remembers hM.1 hg.1.1.n24 hM.2.1 hg.2.1.1 hg.2.1.n24) rfl (fun I1 h1 => ?_)
                  have hM1 := (hM.rem h1.1 h1.2).set (u := u) (v := v)
                  refine X_aload dX5_set_116 rfl ?_
                  refine X_getR dX5_set_117 rfl gf_X5_7 sh_88 (by decide) rfl rf_88_0 ?_
                  refine X_iload dX5_set_120 rfl ?_
                  refine X_iload dX5_set_121 rfl ?_
                  refine X_iast dX5_set_122 sh_89 (by decide) (by omega) ?_
                  rw [Int.toNat_natCast]
                  refine X_iloadW dX5_set_123 rfl ?_
                  refine X_iret dX5_set_125 (Or.inl rfl) ?_
                  have e1 : (oSet s (u : Int) v).1 = s.1 u := by
                    show csZ s.1 s.2 (u : Int) v = s.1 u
                    unfold csZ
                    rw [if_neg (by omega), if_neg (by rw [Int.toNat_natCast]; omega), Int.toNat_natCast, if_pos hal, if_neg (by omega)]
                  refine ⟨rfl, rfl, _, rfl, e1.symm, ?_, h1.2.mx.trans (fun q hq => x_up_ne (by omega))⟩
                  unfold nxS nxH
                  rw [if_pos (by omega), if_pos (by omega)]
                  show MI _ (gN s.1 (u : Int).toNat v, s.2) _ _ _ _
                  rw [Int.toNat_natCast]
                  exact hM1
                · refine X_bipush dX5_set_109 (by decide) ?_
                  refine X_iret dX5_set_111 (Or.inl rfl) ?_
                  have e1 : (oSet s (u : Int) v).1 = -5 := by
                    show csZ s.1 s.2 (u : Int) v = -5
                    unfold csZ
                    rw [if_neg (by omega), if_neg (by rw [Int.toNat_natCast]; omega), Int.toNat_natCast, if_pos hal, if_pos (by omega)]
                  exact ⟨rfl, rfl, _, rfl, e1.symm, hM.nx (by rw [e1]; decide), MX.rf⟩
              · refine X_bipush dX5_set_92 (by decide) ?_
                refine X_iret dX5_set_94 (Or.inl rfl) ?_
                have hal : alD s.1 s.2 u v = false := al_no (by omega)
                have e1 : (oSet s (u : Int) v).1 = -4 := by
                  show csZ s.1 s.2 (u : Int) v = -4
                  unfold csZ
                  rw [if_neg (by omega), if_neg (by rw [Int.toNat_natCast]; omega), Int.toNat_natCast, hal]
                  rfl
                exact ⟨rfl, rfl, _, rfl, e1.symm, hM.nx (by rw [e1]; decide), MX.rf⟩
          · refine X_iconst dX5_set_57 ?_
            refine X_goto (tgt := 62) dX5_set_58 (by decide) ?_
            refine X_istore dX5_set_62 (by decide) ?_
            dsimp only [List.set]
            refine X_iload dX5_set_63 rfl ?_
            refine X_if_ne (tgt := 92) dX5_set_64 (by decide) (by omega) (fun c_64 => ?_) (fun c_64 => absurd c_64 (by omega))
            refine X_bipush dX5_set_92 (by decide) ?_
            refine X_iret dX5_set_94 (Or.inl rfl) ?_
            have hal : alD s.1 s.2 u v = false := al_no (by omega)
            have e1 : (oSet s (u : Int) v).1 = -4 := by
              show csZ s.1 s.2 (u : Int) v = -4
              unfold csZ
              rw [if_neg (by omega), if_neg (by rw [Int.toNat_natCast]; omega), Int.toNat_natCast, hal]
              rfl
            exact ⟨rfl, rfl, _, rfl, e1.symm, hM.nx (by rw [e1]; decide), MX.rf⟩
      · refine X_iload dX5_set_32 rfl ?_
        refine X_aload dX5_set_33 rfl ?_
        refine X_getR dX5_set_34 rfl gf_X5_7 sh_88 (by decide) rfl rf_88_0 ?_
        refine X_iconst dX5_set_37 ?_
        refine Y_ald dX5_set_38 hM.1 (by omega) h24 (2) (by omega) (by omega) ?_
        refine X_icmp_lt (tgt := 57) dX5_set_39 (by decide) (by omega) (fun c_39 => ?_) (fun c_39 => ?_)
        · refine X_iconst dX5_set_57 ?_
          refine X_goto (tgt := 62) dX5_set_58 (by decide) ?_
          refine X_istore dX5_set_62 (by decide) ?_
          dsimp only [List.set]
          refine X_iload dX5_set_63 rfl ?_
          refine X_if_ne (tgt := 92) dX5_set_64 (by decide) (by omega) (fun c_64 => ?_) (fun c_64 => absurd c_64 (by omega))
          refine X_bipush dX5_set_92 (by decide) ?_
          refine X_iret dX5_set_94 (Or.inl rfl) ?_
          have hal : alD s.1 s.2 u v = false := al_no (by omega)
          have e1 : (oSet s (u : Int) v).1 = -4 := by
            show csZ s.1 s.2 (u : Int) v = -4
            unfold csZ
            rw [if_neg (by omega), if_neg (by rw [Int.toNat_natCast]; omega), Int.toNat_natCast, hal]
            rfl
          exact ⟨rfl, rfl, _, rfl, e1.symm, hM.nx (by rw [e1]; decide), MX.rf⟩
        · refine X_iload dX5_set_42 rfl ?_
          refine X_iconst dX5_set_43 ?_
          refine X_icmp_ne (tgt := 61) dX5_set_44 (by decide) (by omega) (fun c_44 => ?_) (fun c_44 => ?_)
          · refine X_iconst dX5_set_61 ?_
            refine X_istore dX5_set_62 (by decide) ?_
            dsimp only [List.set]
            refine X_iload dX5_set_63 rfl ?_
            refine X_if_ne (tgt := 92) dX5_set_64 (by decide) (by omega) (fun c_64 => absurd c_64 (by omega)) (fun c_64 => ?_)
            refine X_iload dX5_set_67 rfl ?_
            refine X_bipush dX5_set_68 (by decide) ?_
            refine X_bipush dX5_set_70 (by decide) ?_
            refine Y_pS dX5_set_72 cs_X5_81 (t5_in I (v := (u : Int)) (a := 6) (b := 8) (by omega) (by decide) (by decide)) rfl ?_
            refine X_if_eq (tgt := 95) dX5_set_75 (by decide) (by split <;> omega) (fun c_75 => ?_) (fun c_75 => ?_)
            · have hin : ¬ (6 ≤ (u : Int) ∧ (u : Int) ≤ 8) := fun q => by rw [if_pos q] at c_75; exact absurd c_75 (by decide)
              refine X_aload dX5_set_95 rfl ?_
              refine X_getR dX5_set_96 rfl gf_X5_7 sh_88 (by decide) rfl rf_88_0 ?_
              refine X_iload dX5_set_99 rfl ?_
              have hal : alD s.1 s.2 u v = true := al_yes (by omega) (by omega) (by omega)
              have hu := set_bounds hg.1.1 (s := u) (by omega)
              refine Y_ald dX5_set_100 hM.1 (by omega) h24 (u) (by omega) (by omega) ?_
              refine X_istoreW dX5_set_101 (by decide) ?_
              dsimp only [List.set]
              refine X_iloadW dX5_set_103 rfl ?_
              refine X_iload dX5_set_105 rfl ?_
              refine X_icmp_ne (tgt := 112) dX5_set_106 (by decide) (by omega) (fun c_106 => ?_) (fun c_106 => ?_)
              · refine X_aload dX5_set_112 rfl ?_
                refine Y_vV dX5_set_113 cv_X5_29 sh_88 (by decide) (t5_remembers hM.1 hg.1.1.n24 hM.2.1 hg.2.1.1 hg.2.1.n24) rfl (fun I1 h1 => ?_)
                have hM1 := (hM.rem h1.1 h1.2).set (u := u) (v := v)
                refine X_aload dX5_set_116 rfl ?_
                refine X_getR dX5_set_117 rfl gf_X5_7 sh_88 (by decide) rfl rf_88_0 ?_
                refine X_iload dX5_set_120 rfl ?_
                refine X_iload dX5_set_121 rfl ?_
                refine X_iast dX5_set_122 sh_89 (by decide) (by omega) ?_
                rw [Int.toNat_natCast]
                refine X_iloadW dX5_set_123 rfl ?_
                refine X_iret dX5_set_125 (Or.inl rfl) ?_
                have e1 : (oSet s (u : Int) v).1 = s.1 u := by
                  show csZ s.1 s.2 (u : Int) v = s.1 u
                  unfold csZ
                  rw [if_neg (by omega), if_neg (by rw [Int.toNat_natCast]; omega), Int.toNat_natCast, if_pos hal, if_neg (by omega)]
                refine ⟨rfl, rfl, _, rfl, e1.symm, ?_, h1.2.mx.trans (fun q hq => x_up_ne (by omega))⟩
                unfold nxS nxH
                rw [if_pos (by omega), if_pos (by omega)]
                show MI _ (gN s.1 (u : Int).toNat v, s.2) _ _ _ _
                rw [Int.toNat_natCast]
                exact hM1
              · refine X_bipush dX5_set_109 (by decide) ?_
                refine X_iret dX5_set_111 (Or.inl rfl) ?_
                have e1 : (oSet s (u : Int) v).1 = -5 := by
                  show csZ s.1 s.2 (u : Int) v = -5
                  unfold csZ
                  rw [if_neg (by omega), if_neg (by rw [Int.toNat_natCast]; omega), Int.toNat_natCast, if_pos hal, if_pos (by omega)]
                exact ⟨rfl, rfl, _, rfl, e1.symm, hM.nx (by rw [e1]; decide), MX.rf⟩
            · have hin : 6 ≤ (u : Int) ∧ (u : Int) ≤ 8 := by
                by_cases q : 6 ≤ (u : Int) ∧ (u : Int) ≤ 8
                · exact q
                · rw [if_neg q] at c_75; exact absurd rfl c_75
              refine X_aload dX5_set_78 rfl ?_
              refine X_iconst dX5_set_79 ?_
              refine X_iload dX5_set_80 rfl ?_
              refine X_bipush dX5_set_81 (by decide) ?_
              refine X_isub dX5_set_83 ?_
              refine X_iconst dX5_set_84 ?_
              refine Y_pV dX5_set_85 cv_X5_36 sh_88 (by decide) (t5_on hM.1 (by decide) hg.1.1 (ip := 0) rfl ((u : Int) - 6) (by omega) 1 (by decide) rfl) rfl ?_
              rw [show (u : Int) - 6 = ((u - 6 : Nat) : Int) by omega]
              have hon := on_bounds hg.1.1 ((u - 6 : Nat) : Int)
              refine X_iload dX5_set_88 rfl ?_
              refine X_icmp_le (tgt := 95) dX5_set_89 (by decide) (by omega) (fun c_89 => ?_) (fun c_89 => ?_)
              · refine X_aload dX5_set_95 rfl ?_
                refine X_getR dX5_set_96 rfl gf_X5_7 sh_88 (by decide) rfl rf_88_0 ?_
                refine X_iload dX5_set_99 rfl ?_
                have hal : alD s.1 s.2 u v = true := al_yes (by omega) (by omega) (by omega)
                have hu := set_bounds hg.1.1 (s := u) (by omega)
                refine Y_ald dX5_set_100 hM.1 (by omega) h24 (u) (by omega) (by omega) ?_
                refine X_istoreW dX5_set_101 (by decide) ?_
                dsimp only [List.set]
                refine X_iloadW dX5_set_103 rfl ?_
                refine X_iload dX5_set_105 rfl ?_
                refine X_icmp_ne (tgt := 112) dX5_set_106 (by decide) (by omega) (fun c_106 => ?_) (fun c_106 => ?_)
                · refine X_aload dX5_set_112 rfl ?_
                  refine Y_vV dX5_set_113 cv_X5_29 sh_88 (by decide) (t5_remembers hM.1 hg.1.1.n24 hM.2.1 hg.2.1.1 hg.2.1.n24) rfl (fun I1 h1 => ?_)
                  have hM1 := (hM.rem h1.1 h1.2).set (u := u) (v := v)
                  refine X_aload dX5_set_116 rfl ?_
                  refine X_getR dX5_set_117 rfl gf_X5_7 sh_88 (by decide) rfl rf_88_0 ?_
                  refine X_iload dX5_set_120 rfl ?_
                  refine X_iload dX5_set_121 rfl ?_
                  refine X_iast dX5_set_122 sh_89 (by decide) (by omega) ?_
                  rw [Int.toNat_natCast]
                  refine X_iloadW dX5_set_123 rfl ?_
                  refine X_iret dX5_set_125 (Or.inl rfl) ?_
                  have e1 : (oSet s (u : Int) v).1 = s.1 u := by
                    show csZ s.1 s.2 (u : Int) v = s.1 u
                    unfold csZ
                    rw [if_neg (by omega), if_neg (by rw [Int.toNat_natCast]; omega), Int.toNat_natCast, if_pos hal, if_neg (by omega)]
                  refine ⟨rfl, rfl, _, rfl, e1.symm, ?_, h1.2.mx.trans (fun q hq => x_up_ne (by omega))⟩
                  unfold nxS nxH
                  rw [if_pos (by omega), if_pos (by omega)]
                  show MI _ (gN s.1 (u : Int).toNat v, s.2) _ _ _ _
                  rw [Int.toNat_natCast]
                  exact hM1
                · refine X_bipush dX5_set_109 (by decide) ?_
                  refine X_iret dX5_set_111 (Or.inl rfl) ?_
                  have e1 : (oSet s (u : Int) v).1 = -5 := by
                    show csZ s.1 s.2 (u : Int) v = -5
                    unfold csZ
                    rw [if_neg (by omega), if_neg (by rw [Int.toNat_natCast]; omega), Int.toNat_natCast, if_pos hal, if_pos (by omega)]
                  exact ⟨rfl, rfl, _, rfl, e1.symm, hM.nx (by rw [e1]; decide), MX.rf⟩
              · refine X_bipush dX5_set_92 (by decide) ?_
                refine X_iret dX5_set_94 (Or.inl rfl) ?_
                have hal : alD s.1 s.2 u v = false := al_no (by omega)
                have e1 : (oSet s (u : Int) v).1 = -4 := by
                  show csZ s.1 s.2 (u : Int) v = -4
                  unfold csZ
                  rw [if_neg (by omega), if_neg (by rw [Int.toNat_natCast]; omega), Int.toNat_natCast, hal]
                  rfl
                exact ⟨rfl, rfl, _, rfl, e1.symm, hM.nx (by rw [e1]; decide), MX.rf⟩
          · refine X_iload dX5_set_47 rfl ?_
            refine X_aload dX5_set_48 rfl ?_
            refine X_getR dX5_set_49 rfl gf_X5_7 sh_88 (by decide) rfl rf_88_0 ?_
            refine X_iconst dX5_set_52 ?_
            refine Y_ald dX5_set_53 hM.1 (by omega) h24 (1) (by omega) (by omega) ?_
            refine X_icmp_le (tgt := 61) dX5_set_54 (by decide) (by omega) (fun c_54 => ?_) (fun c_54 => ?_)
            · refine X_iconst dX5_set_61 ?_
              refine X_istore dX5_set_62 (by decide) ?_
              dsimp only [List.set]
              refine X_iload dX5_set_63 rfl ?_
              refine X_if_ne (tgt := 92) dX5_set_64 (by decide) (by omega) (fun c_64 => absurd c_64 (by omega)) (fun c_64 => ?_)
              refine X_iload dX5_set_67 rfl ?_
              refine X_bipush dX5_set_68 (by decide) ?_
              refine X_bipush dX5_set_70 (by decide) ?_
              refine Y_pS dX5_set_72 cs_X5_81 (t5_in I (v := (u : Int)) (a := 6) (b := 8) (by omega) (by decide) (by decide)) rfl ?_
              refine X_if_eq (tgt := 95) dX5_set_75 (by decide) (by split <;> omega) (fun c_75 => ?_) (fun c_75 => ?_)
              · have hin : ¬ (6 ≤ (u : Int) ∧ (u : Int) ≤ 8) := fun q => by rw [if_pos q] at c_75; exact absurd c_75 (by decide)
                refine X_aload dX5_set_95 rfl ?_
                refine X_getR dX5_set_96 rfl gf_X5_7 sh_88 (by decide) rfl rf_88_0 ?_
                refine X_iload dX5_set_99 rfl ?_
                have hal : alD s.1 s.2 u v = true := al_yes (by omega) (by omega) (by omega)
                have hu := set_bounds hg.1.1 (s := u) (by omega)
                refine Y_ald dX5_set_100 hM.1 (by omega) h24 (u) (by omega) (by omega) ?_
                refine X_istoreW dX5_set_101 (by decide) ?_
                dsimp only [List.set]
                refine X_iloadW dX5_set_103 rfl ?_
                refine X_iload dX5_set_105 rfl ?_
                refine X_icmp_ne (tgt := 112) dX5_set_106 (by decide) (by omega) (fun c_106 => ?_) (fun c_106 => ?_)
                · refine X_aload dX5_set_112 rfl ?_
                  refine Y_vV dX5_set_113 cv_X5_29 sh_88 (by decide) (t5_remembers hM.1 hg.1.1.n24 hM.2.1 hg.2.1.1 hg.2.1.n24) rfl (fun I1 h1 => ?_)
                  have hM1 := (hM.rem h1.1 h1.2).set (u := u) (v := v)
                  refine X_aload dX5_set_116 rfl ?_
                  refine X_getR dX5_set_117 rfl gf_X5_7 sh_88 (by decide) rfl rf_88_0 ?_
                  refine X_iload dX5_set_120 rfl ?_
                  refine X_iload dX5_set_121 rfl ?_
                  refine X_iast dX5_set_122 sh_89 (by decide) (by omega) ?_
                  rw [Int.toNat_natCast]
                  refine X_iloadW dX5_set_123 rfl ?_
                  refine X_iret dX5_set_125 (Or.inl rfl) ?_
                  have e1 : (oSet s (u : Int) v).1 = s.1 u := by
                    show csZ s.1 s.2 (u : Int) v = s.1 u
                    unfold csZ
                    rw [if_neg (by omega), if_neg (by rw [Int.toNat_natCast]; omega), Int.toNat_natCast, if_pos hal, if_neg (by omega)]
                  refine ⟨rfl, rfl, _, rfl, e1.symm, ?_, h1.2.mx.trans (fun q hq => x_up_ne (by omega))⟩
                  unfold nxS nxH
                  rw [if_pos (by omega), if_pos (by omega)]
                  show MI _ (gN s.1 (u : Int).toNat v, s.2) _ _ _ _
                  rw [Int.toNat_natCast]
                  exact hM1
                · refine X_bipush dX5_set_109 (by decide) ?_
                  refine X_iret dX5_set_111 (Or.inl rfl) ?_
                  have e1 : (oSet s (u : Int) v).1 = -5 := by
                    show csZ s.1 s.2 (u : Int) v = -5
                    unfold csZ
                    rw [if_neg (by omega), if_neg (by rw [Int.toNat_natCast]; omega), Int.toNat_natCast, if_pos hal, if_pos (by omega)]
                  exact ⟨rfl, rfl, _, rfl, e1.symm, hM.nx (by rw [e1]; decide), MX.rf⟩
              · have hin : 6 ≤ (u : Int) ∧ (u : Int) ≤ 8 := by
                  by_cases q : 6 ≤ (u : Int) ∧ (u : Int) ≤ 8
                  · exact q
                  · rw [if_neg q] at c_75; exact absurd rfl c_75
                refine X_aload dX5_set_78 rfl ?_
                refine X_iconst dX5_set_79 ?_
                refine X_iload dX5_set_80 rfl ?_
                refine X_bipush dX5_set_81 (by decide) ?_
                refine X_isub dX5_set_83 ?_
                refine X_iconst dX5_set_84 ?_
                refine Y_pV dX5_set_85 cv_X5_36 sh_88 (by decide) (t5_on hM.1 (by decide) hg.1.1 (ip := 0) rfl ((u : Int) - 6) (by omega) 1 (by decide) rfl) rfl ?_
                rw [show (u : Int) - 6 = ((u - 6 : Nat) : Int) by omega]
                have hon := on_bounds hg.1.1 ((u - 6 : Nat) : Int)
                refine X_iload dX5_set_88 rfl ?_
                refine X_icmp_le (tgt := 95) dX5_set_89 (by decide) (by omega) (fun c_89 => ?_) (fun c_89 => ?_)
                · refine X_aload dX5_set_95 rfl ?_
                  refine X_getR dX5_set_96 rfl gf_X5_7 sh_88 (by decide) rfl rf_88_0 ?_
                  refine X_iload dX5_set_99 rfl ?_
                  have hal : alD s.1 s.2 u v = true := al_yes (by omega) (by omega) (by omega)
                  have hu := set_bounds hg.1.1 (s := u) (by omega)
                  refine Y_ald dX5_set_100 hM.1 (by omega) h24 (u) (by omega) (by omega) ?_
                  refine X_istoreW dX5_set_101 (by decide) ?_
                  dsimp only [List.set]
                  refine X_iloadW dX5_set_103 rfl ?_
                  refine X_iload dX5_set_105 rfl ?_
                  refine X_icmp_ne (tgt := 112) dX5_set_106 (by decide) (by omega) (fun c_106 => ?_) (fun c_106 => ?_)
                  · refine X_aload dX5_set_112 rfl ?_
                    refine Y_vV dX5_set_113 cv_X5_29 sh_88 (by decide) (t5_remembers hM.1 hg.1.1.n24 hM.2.1 hg.2.1.1 hg.2.1.n24) rfl (fun I1 h1 => ?_)
                    have hM1 := (hM.rem h1.1 h1.2).set (u := u) (v := v)
                    refine X_aload dX5_set_116 rfl ?_
                    refine X_getR dX5_set_117 rfl gf_X5_7 sh_88 (by decide) rfl rf_88_0 ?_
                    refine X_iload dX5_set_120 rfl ?_
                    refine X_iload dX5_set_121 rfl ?_
                    refine X_iast dX5_set_122 sh_89 (by decide) (by omega) ?_
                    rw [Int.toNat_natCast]
                    refine X_iloadW dX5_set_123 rfl ?_
                    refine X_iret dX5_set_125 (Or.inl rfl) ?_
                    have e1 : (oSet s (u : Int) v).1 = s.1 u := by
                      show csZ s.1 s.2 (u : Int) v = s.1 u
                      unfold csZ
                      rw [if_neg (by omega), if_neg (by rw [Int.toNat_natCast]; omega), Int.toNat_natCast, if_pos hal, if_neg (by omega)]
                    refine ⟨rfl, rfl, _, rfl, e1.symm, ?_, h1.2.mx.trans (fun q hq => x_up_ne (by omega))⟩
                    unfold nxS nxH
                    rw [if_pos (by omega), if_pos (by omega)]
                    show MI _ (gN s.1 (u : Int).toNat v, s.2) _ _ _ _
                    rw [Int.toNat_natCast]
                    exact hM1
                  · refine X_bipush dX5_set_109 (by decide) ?_
                    refine X_iret dX5_set_111 (Or.inl rfl) ?_
                    have e1 : (oSet s (u : Int) v).1 = -5 := by
                      show csZ s.1 s.2 (u : Int) v = -5
                      unfold csZ
                      rw [if_neg (by omega), if_neg (by rw [Int.toNat_natCast]; omega), Int.toNat_natCast, if_pos hal, if_pos (by omega)]
                    exact ⟨rfl, rfl, _, rfl, e1.symm, hM.nx (by rw [e1]; decide), MX.rf⟩
                · refine X_bipush dX5_set_92 (by decide) ?_
                  refine X_iret dX5_set_94 (Or.inl rfl) ?_
                  have hal : alD s.1 s.2 u v = false := al_no (by omega)
                  have e1 : (oSet s (u : Int) v).1 = -4 := by
                    show csZ s.1 s.2 (u : Int) v = -4
                    unfold csZ
                    rw [if_neg (by omega), if_neg (by rw [Int.toNat_natCast]; omega), Int.toNat_natCast, hal]
                    rfl
                  exact ⟨rfl, rfl, _, rfl, e1.symm, hM.nx (by rw [e1]; decide), MX.rf⟩
            · refine X_iconst dX5_set_57 ?_
              refine X_goto (tgt := 62) dX5_set_58 (by decide) ?_
              refine X_istore dX5_set_62 (by decide) ?_
              dsimp only [List.set]
              refine X_iload dX5_set_63 rfl ?_
              refine X_if_ne (tgt := 92) dX5_set_64 (by decide) (by omega) (fun c_64 => ?_) (fun c_64 => absurd c_64 (by omega))
              refine X_bipush dX5_set_92 (by decide) ?_
              refine X_iret dX5_set_94 (Or.inl rfl) ?_
              have hal : alD s.1 s.2 u v = false := al_no (by omega)
              have e1 : (oSet s (u : Int) v).1 = -4 := by
                show csZ s.1 s.2 (u : Int) v = -4
                unfold csZ
                rw [if_neg (by omega), if_neg (by rw [Int.toNat_natCast]; omega), Int.toNat_natCast, hal]
                rfl
              exact ⟨rfl, rfl, _, rfl, e1.symm, hM.nx (by rw [e1]; decide), MX.rf⟩
    · have hin : ¬ (0 ≤ v ∧ v ≤ mx u) := fun q => by rw [if_pos q] at c_21; exact absurd c_21 (by decide)
      refine X_bipush dX5_set_24 (by decide) ?_
      refine X_iret dX5_set_26 (Or.inl rfl) ?_
      have e1 : (oSet s (u : Int) v).1 = -2 := by
        show csZ s.1 s.2 (u : Int) v = -2
        unfold csZ
        rw [if_neg (by omega), if_pos (by rw [Int.toNat_natCast]; omega)]
      exact ⟨rfl, rfl, _, rfl, e1.symm, hM.nx (by rw [e1]; decide), MX.rf⟩
  · have hin : ¬ (0 ≤ a ∧ a ≤ 14) := fun q => by rw [if_pos q] at c_7; exact absurd c_7 (by decide)
    refine X_iconst dX5_set_10 ?_
    refine X_iret dX5_set_11 (Or.inl rfl) ?_
    have e1 : (oSet s a v).1 = -1 := by
      show csZ s.1 s.2 a v = -1
      unfold csZ
      rw [if_pos (by omega)]
    exact ⟨rfl, rfl, _, rfl, e1.symm, hM.nx (by rw [e1]; decide), MX.rf⟩
set_option maxRecDepth 20000 in
set_option maxHeartbeats 4000000 in
theorem m_shelf {I : xI} {s : xS} {hs : List xS} {sn : Option xS} {tx : Nat → Int} {len : Nat} (hM : MI I s hs sn tx len) (hg : CG s hs sn tx len) (sh : Int) (hsh : -2147483648 ≤ sh ∧ sh ≤ 2147483647) (w : Int) (hw : -2147483648 ≤ w ∧ w ≤ 2147483647) : S kX5_shelf 3 [rr 88, ii sh, ii w] I (q_p (ii (qShelf s sh w)) I) := by
  have hR := hM.1
  have hG := hg.1.1
  have hn24 := hG.n24
  have h15 := hG.g15
  refine Sp_intro (by decide +kernel) (Nat.le_of_ble_eq_true rfl) ?_
  show Y kX5_shelf 3 0 [some (rr 88), some (ii sh), some (ii w)] [] I _
  refine X_iload dX5_shelf_0 rfl ?_
  refine X_iconst dX5_shelf_1 ?_
  refine X_iconst dX5_shelf_2 ?_
  refine Y_pS dX5_shelf_3 cs_X5_81 (t5_in I (v := sh) (a := 0) (b := 2) (by omega) (by decide) (by decide)) rfl ?_
  refine X_if_ne (tgt := 11) dX5_shelf_6 (by decide) (by split <;> omega) (fun c_6 => ?_) (fun c_6 => ?_)
  · have hin : 0 ≤ sh ∧ sh ≤ 2 := by
      by_cases q : 0 ≤ sh ∧ sh ≤ 2
      · exact q
      · rw [if_neg q] at c_6; exact absurd rfl c_6
    obtain ⟨u, rfl⟩ := Int.eq_ofNat_of_zero_le (show 0 ≤ sh by omega)
    refine X_iload dX5_shelf_11 rfl ?_
    by_cases w_0 : w = 0
    · refine X_tswIn (v := 0) (tgt := 48) dX5_shelf_12 w_0 (by decide) (by decide) (by decide) rfl (by decide) ?_
      refine X_aload dX5_shelf_48 rfl ?_
      refine X_getR dX5_shelf_49 rfl gf_X5_7 sh_88 (by decide) rfl rf_88_0 ?_
      refine X_bipush dX5_shelf_52 (by decide) ?_
      refine X_iload dX5_shelf_54 rfl ?_
      refine X_iadd dX5_shelf_55 ?_
      refine Y_ald dX5_shelf_56 hR (by omega) hn24 (6 + u) (by omega) (by omega) ?_
      refine X_iret dX5_shelf_57 (Or.inl rfl) ?_
      refine ⟨?_, rfl, rfl, rfl⟩
      unfold qShelf
      rw [if_neg (by omega), if_pos (by omega)]
      try rfl
    by_cases w_1 : w = 1
    · refine X_tswIn (v := 1) (tgt := 58) dX5_shelf_12 w_1 (by decide) (by decide) (by decide) rfl (by decide) ?_
      refine X_aload dX5_shelf_58 rfl ?_
      refine X_iconst dX5_shelf_59 ?_
      refine X_iload dX5_shelf_60 rfl ?_
      refine X_iconst dX5_shelf_61 ?_
      refine Y_pV dX5_shelf_62 cv_X5_36 sh_88 (by decide) (t5_on hR (by decide) hG (ip := 0) rfl (u : Int) (by omega) 1 (by decide) rfl) rfl ?_
      refine X_iret dX5_shelf_65 (Or.inl rfl) ?_
      refine ⟨?_, rfl, rfl, rfl⟩
      unfold qShelf
      rw [if_neg (by omega), if_neg (by omega), if_pos (by omega)]
      try rfl
    by_cases w_2 : w = 2
    · refine X_tswIn (v := 2) (tgt := 66) dX5_shelf_12 w_2 (by decide) (by decide) (by decide) rfl (by decide) ?_
      refine X_aload dX5_shelf_66 rfl ?_
      refine X_iconst dX5_shelf_67 ?_
      refine X_iload dX5_shelf_68 rfl ?_
      refine X_iconst dX5_shelf_69 ?_
      refine Y_pV dX5_shelf_70 cv_X5_36 sh_88 (by decide) (t5_on hR (by decide) hG (ip := 0) rfl (u : Int) (by omega) 0 (by decide) rfl) rfl ?_
      refine X_iret dX5_shelf_73 (Or.inl rfl) ?_
      refine ⟨?_, rfl, rfl, rfl⟩
      unfold qShelf
      rw [if_neg (by omega), if_neg (by omega), if_neg (by omega), if_pos (by omega)]
      try rfl
    by_cases w_3 : w = 3
    · refine X_tswIn (v := 3) (tgt := 74) dX5_shelf_12 w_3 (by decide) (by decide) (by decide) rfl (by decide) ?_
      refine X_aload dX5_shelf_74 rfl ?_
      refine X_iconst dX5_shelf_75 ?_
      refine X_iload dX5_shelf_76 rfl ?_
      refine X_iconst dX5_shelf_77 ?_
      refine Y_pV dX5_shelf_78 cv_X5_36 sh_88 (by decide) (t5_on hR (by decide) hG (ip := 0) rfl (u : Int) (by omega) 2 (by decide) rfl) rfl ?_
      refine X_iret dX5_shelf_81 (Or.inl rfl) ?_
      refine ⟨?_, rfl, rfl, rfl⟩
      unfold qShelf
      rw [if_neg (by omega), if_neg (by omega), if_neg (by omega), if_neg (by omega), if_pos (by omega)]
      try rfl
    by_cases w_4 : w = 4
    · refine X_tswIn (v := 4) (tgt := 82) dX5_shelf_12 w_4 (by decide) (by decide) (by decide) rfl (by decide) ?_
      refine X_aload dX5_shelf_82 rfl ?_
      refine X_iconst dX5_shelf_83 ?_
      refine X_iload dX5_shelf_84 rfl ?_
      refine Y_pV dX5_shelf_85 cv_X5_54 sh_88 (by decide) (t5_costs hR (by decide) hG (ip := 0) rfl u (by omega) rfl) rfl ?_
      refine X_iret dX5_shelf_88 (Or.inl rfl) ?_
      refine ⟨?_, rfl, rfl, rfl⟩
      unfold qShelf
      rw [if_neg (by omega), if_neg (by omega), if_neg (by omega), if_neg (by omega), if_neg (by omega), if_pos (by omega)]
      try rfl
    refine X_tswOut (tgt := 89) dX5_shelf_12 (by omega) (by omega) (by decide) ?_
    refine X_bipush dX5_shelf_89 (by decide) ?_
    refine X_iret dX5_shelf_91 (Or.inl rfl) ?_
    refine ⟨?_, rfl, rfl, rfl⟩
    unfold qShelf
    rw [if_neg (by omega), if_neg (by omega), if_neg (by omega), if_neg (by omega), if_neg (by omega), if_neg (by omega)]
    try rfl
  · have hin : ¬ (0 ≤ sh ∧ sh ≤ 2) := fun q => by rw [if_pos q] at c_6; exact absurd c_6 (by decide)
    refine X_iconst dX5_shelf_9 ?_
    refine X_iret dX5_shelf_10 (Or.inl rfl) ?_
    exact ⟨by unfold qShelf; rw [if_pos (by omega)], rfl, rfl, rfl⟩
set_option maxRecDepth 20000 in
set_option maxHeartbeats 4000000 in
theorem m_total {I : xI} {s : xS} {hs : List xS} {sn : Option xS} {tx : Nat → Int} {len : Nat} (hM : MI I s hs sn tx len) (hg : CG s hs sn tx len) (w : Int) (hw : -2147483648 ≤ w ∧ w ≤ 2147483647) : S kX5_total 3 [rr 88, ii w] I (q_p (ii (qTotal s hs.length len w)) I) := by
  have hR := hM.1
  have hG := hg.1.1
  have hn24 := hG.n24
  have h15 := hG.g15
  refine Sp_intro (by decide +kernel) (Nat.le_of_ble_eq_true rfl) ?_
  show Y kX5_total 3 0 [some (rr 88), some (ii w)] [] I _
  refine X_iload dX5_total_0 rfl ?_
  by_cases w_23 : w = 23
  · refine X_tswIn (v := 23) (tgt := 32) dX5_total_1 w_23 (by decide) (by decide) (by decide) rfl (by decide) ?_
    refine X_aload dX5_total_32 rfl ?_
    refine X_iconst dX5_total_33 ?_
    refine Y_pV dX5_total_34 cv_X5_72 sh_88 (by decide) (t5_pinned hR (by decide) hG (ip := 0) rfl) rfl ?_
    refine X_iret dX5_total_37 (Or.inl rfl) ?_
    refine ⟨?_, rfl, rfl, rfl⟩
    unfold qTotal
    rw [if_neg (by omega), if_pos (by omega)]
    try rfl
  by_cases w_24 : w = 24
  · refine X_tswIn (v := 24) (tgt := 38) dX5_total_1 w_24 (by decide) (by decide) (by decide) rfl (by decide) ?_
    refine X_aload dX5_total_38 rfl ?_
    refine X_iconst dX5_total_39 ?_
    refine Y_pV dX5_total_40 cv_X5_140 sh_88 (by decide) (t5_heat hR (by decide) hG (ip := 0) rfl) rfl ?_
    refine X_iret dX5_total_43 (Or.inl rfl) ?_
    refine ⟨?_, rfl, rfl, rfl⟩
    unfold qTotal
    rw [if_neg (by omega), if_neg (by omega), if_pos (by omega)]
    try rfl
  by_cases w_25 : w = 25
  · refine X_tswIn (v := 25) (tgt := 44) dX5_total_1 w_25 (by decide) (by decide) (by decide) rfl (by decide) ?_
    refine X_aload dX5_total_44 rfl ?_
    refine X_getI dX5_total_45 rfl gf_X5_25 sh_88 (by decide) rfl ?_
    rw [hM.2.1.1]
    refine X_iret dX5_total_48 (Or.inl rfl) ?_
    refine ⟨?_, rfl, rfl, rfl⟩
    unfold qTotal
    rw [if_neg (by omega), if_neg (by omega), if_neg (by omega), if_pos (by omega)]
    try rfl
  by_cases w_26 : w = 26
  · refine X_tswIn (v := 26) (tgt := 49) dX5_total_1 w_26 (by decide) (by decide) (by decide) rfl (by decide) ?_
    refine X_aload dX5_total_49 rfl ?_
    refine X_getI dX5_total_50 rfl gf_X5_108 sh_88 (by decide) rfl ?_
    rw [hM.2.2.2.1]
    refine X_iret dX5_total_53 (Or.inl rfl) ?_
    refine ⟨?_, rfl, rfl, rfl⟩
    unfold qTotal
    rw [if_neg (by omega), if_neg (by omega), if_neg (by omega), if_neg (by omega), if_pos (by omega)]
    try rfl
  refine X_tswOut (tgt := 54) dX5_total_1 (by omega) (by omega) (by decide) ?_
  refine X_iload dX5_total_54 rfl ?_
  refine X_iconst dX5_total_55 ?_
  refine X_bipush dX5_total_56 (by decide) ?_
  refine Y_pS dX5_total_58 cs_X5_81 (t5_in I (v := w) (a := 0) (b := 22) (by omega) (by decide) (by decide)) rfl ?_
  refine X_if_eq (tgt := 73) dX5_total_61 (by decide) (by split <;> omega) (fun c_61 => ?_) (fun c_61 => ?_)
  · have hin : ¬ (0 ≤ w ∧ w ≤ 22) := fun q => by rw [if_pos q] at c_61; exact absurd c_61 (by decide)
    refine X_bipush dX5_total_73 (by decide) ?_
    refine X_iret dX5_total_75 (Or.inl rfl) ?_
    refine ⟨?_, rfl, rfl, rfl⟩
    unfold qTotal
    first | rw [if_pos (by omega)] | rw [if_neg (by omega), if_neg (by omega), if_neg (by omega), if_neg (by omega), if_neg (by omega)]
    try rfl
  · have hin : 0 ≤ w ∧ w ≤ 22 := by
      by_cases q : 0 ≤ w ∧ w ≤ 22
      · exact q
      · rw [if_neg q] at c_61; exact absurd rfl c_61
    refine X_aload dX5_total_64 rfl ?_
    refine X_getR dX5_total_65 rfl gf_X5_7 sh_88 (by decide) rfl rf_88_0 ?_
    refine X_iload dX5_total_68 rfl ?_
    obtain ⟨u, rfl⟩ := Int.eq_ofNat_of_zero_le (show 0 ≤ w by omega)
    refine Y_ald dX5_total_69 hR (by omega) hn24 (u) (by omega) (by omega) ?_
    refine X_goto (tgt := 75) dX5_total_70 (by decide) ?_
    refine X_iret dX5_total_75 (Or.inl rfl) ?_
    refine ⟨?_, rfl, rfl, rfl⟩
    unfold qTotal
    first | rw [if_pos (by omega)] | rw [if_neg (by omega), if_neg (by omega), if_neg (by omega), if_neg (by omega), if_neg (by omega)]
    try rfl
set_option maxRecDepth 20000 in
set_option maxHeartbeats 4000000 in
theorem t5_why {I : xI} {s : xS} {hs : List xS} {sn : Option xS} {tx : Nat → Int} {len : Nat} (hM : MI I s hs sn tx len) (hg : CG s hs sn tx len) (k : Nat) (hk : k < s.2) : S kX5_whyStays 6 [rr 88, ii (k : Int)] I (q_i (fun ans I1 => ans = (ntU s.1 s.2 (s.1 3)).2.1 k ∧ WF I I1)) := by
  have hR := hM.1
  have hG := hg.1.1
  have hn24 := hG.n24
  have h15 := hG.g15
  refine Sp_intro (by decide +kernel) (Nat.le_of_ble_eq_true rfl) ?_
  show Y kX5_whyStays 6 0 [some (rr 88), some (ii (k : Int)), none] [] I _
  refine X_aload dX5_whyStays_0 rfl ?_
  refine Y_vV dX5_whyStays_1 cv_X5_84 sh_88 (by decide) (t5_copies I) rfl (fun I1 h1 => ?_)
  have hRb := h1.rr hR (by omega)
  refine X_aload dX5_whyStays_4 rfl ?_
  refine X_sipush dX5_whyStays_5 (by decide) ?_
  refine Y_iV dX5_whyStays_8 cv_X5_61 sh_88 (by decide) (t5_passesOne hRb hG) rfl (fun z2 I2 h2 => ?_)
  obtain ⟨rfl, -, h93, hF2⟩ := h2
  refine X_istore dX5_whyStays_11 (by decide) ?_
  dsimp only [List.set]
  refine X_aload dX5_whyStays_12 rfl ?_
  refine X_getR dX5_whyStays_13 rfl gf_X5_22 sh_88 (by decide) rfl rf_88_7 ?_
  refine X_iload dX5_whyStays_16 rfl ?_
  refine X_iald dX5_whyStays_17 sh_93 (Or.inl (by decide)) (by omega) ?_
  rw [Int.toNat_natCast, h93 k hk]
  refine X_iret dX5_whyStays_18 (Or.inl rfl) ?_
  exact ⟨rfl, rfl, _, rfl, rfl, h1.2.wf.trans hF2⟩
set_option maxRecDepth 20000 in
set_option maxHeartbeats 4000000 in
theorem m_ofBlock {I : xI} {s : xS} {hs : List xS} {sn : Option xS} {tx : Nat → Int} {len : Nat} (hM : MI I s hs sn tx len) (hg : CG s hs sn tx len) (b : Int) (hb : -2147483648 ≤ b ∧ b ≤ 2147483647) (w : Int) (hw : -2147483648 ≤ w ∧ w ≤ 2147483647) : S kX5_ofBlock 7 [rr 88, ii b, ii w] I (q_i (fun ans I1 => ans = qOf s b w ∧ WF I I1)) := by
  have hR := hM.1
  have hG := hg.1.1
  have hn24 := hG.n24
  have h15 := hG.g15
  refine Sp_intro (by decide +kernel) (Nat.le_of_ble_eq_true rfl) ?_
  show Y kX5_ofBlock 7 0 [some (rr 88), some (ii b), some (ii w), none] [] I _
  rcases hp : pl s.1 s.2 b with _ | k
  · have hfd := t5_placeOf hM.1 (by decide) hg.1.1 (ip := 0) rfl b hb
    rw [hp] at hfd
    change S _ _ _ _ (q_p (ii (-5)) I) at hfd
    refine X_aload dX5_ofBlock_0 rfl ?_
    refine X_iconst dX5_ofBlock_1 ?_
    refine X_iload dX5_ofBlock_2 rfl ?_
    refine Y_pV dX5_ofBlock_3 cv_X5_65 sh_88 (by decide) hfd rfl ?_
    refine X_istore dX5_ofBlock_6 (by decide) ?_
    dsimp only [List.set]
    refine X_iload dX5_ofBlock_7 rfl ?_
    refine X_bipush dX5_ofBlock_8 (by decide) ?_
    refine X_icmp_ne (tgt := 15) dX5_ofBlock_10 (by decide) (by omega) (fun c_10 => absurd c_10 (by omega)) (fun c_10 => ?_)
    refine X_iconst dX5_ofBlock_13 ?_
    refine X_iret dX5_ofBlock_14 (Or.inl rfl) ?_
    exact ⟨rfl, rfl, _, rfl, by unfold qOf; rw [hp], WF.rf⟩
  · have hk := pl_lt hp
    have hfd := t5_placeOf hM.1 (by decide) hg.1.1 (ip := 0) rfl b hb
    rw [hp] at hfd
    change S _ _ _ _ (q_p (ii ((k : Nat) : Int)) I) at hfd
    refine X_aload dX5_ofBlock_0 rfl ?_
    refine X_iconst dX5_ofBlock_1 ?_
    refine X_iload dX5_ofBlock_2 rfl ?_
    refine Y_pV dX5_ofBlock_3 cv_X5_65 sh_88 (by decide) hfd rfl ?_
    refine X_istore dX5_ofBlock_6 (by decide) ?_
    dsimp only [List.set]
    refine X_iload dX5_ofBlock_7 rfl ?_
    refine X_bipush dX5_ofBlock_8 (by decide) ?_
    refine X_icmp_ne (tgt := 15) dX5_ofBlock_10 (by decide) (by omega) (fun c_10 => ?_) (fun c_10 => absurd c_10 (by omega))
    refine X_iload dX5_ofBlock_15 rfl ?_
    by_cases w_0 : w = 0
    · refine X_tswIn (v := 0) (tgt := 68) dX5_ofBlock_16 w_0 (by decide) (by decide) (by decide) rfl (by decide) ?_
      refine X_aload dX5_ofBlock_68 rfl ?_
      refine X_getR dX5_ofBlock_69 rfl gf_X5_7 sh_88 (by decide) rfl rf_88_0 ?_
      refine X_iconst dX5_ofBlock_72 ?_
      refine X_iload dX5_ofBlock_73 rfl ?_
      refine Y_pS dX5_ofBlock_74 cs_X5_32 (t5_at _ _ _) rfl ?_
      refine X_iconst dX5_ofBlock_77 ?_
      refine X_iadd dX5_ofBlock_78 ?_
      refine X_iload dX5_ofBlock_79 rfl ?_
      refine X_iadd dX5_ofBlock_80 ?_
      refine Y_aldB dX5_ofBlock_81 hR (by omega) hn24 (k) (1) (by omega) (by omega) (by omega) ?_
      refine X_iret dX5_ofBlock_82 (Or.inl rfl) ?_
      refine ⟨rfl, rfl, _, rfl, ?_, WF.rf⟩
      unfold qOf
      rw [hp]
      dsimp only
      rw [if_pos (by omega)]
    by_cases w_1 : w = 1
    · refine X_tswIn (v := 1) (tgt := 68) dX5_ofBlock_16 w_1 (by decide) (by decide) (by decide) rfl (by decide) ?_
      refine X_aload dX5_ofBlock_68 rfl ?_
      refine X_getR dX5_ofBlock_69 rfl gf_X5_7 sh_88 (by decide) rfl rf_88_0 ?_
      refine X_iconst dX5_ofBlock_72 ?_
      refine X_iload dX5_ofBlock_73 rfl ?_
      refine Y_pS dX5_ofBlock_74 cs_X5_32 (t5_at _ _ _) rfl ?_
      refine X_iconst dX5_ofBlock_77 ?_
      refine X_iadd dX5_ofBlock_78 ?_
      refine X_iload dX5_ofBlock_79 rfl ?_
      refine X_iadd dX5_ofBlock_80 ?_
      refine Y_aldB dX5_ofBlock_81 hR (by omega) hn24 (k) (2) (by omega) (by omega) (by omega) ?_
      refine X_iret dX5_ofBlock_82 (Or.inl rfl) ?_
      refine ⟨rfl, rfl, _, rfl, ?_, WF.rf⟩
      unfold qOf
      rw [hp]
      dsimp only
      rw [if_neg (by omega), if_pos (by omega)]
    by_cases w_2 : w = 2
    · refine X_tswIn (v := 2) (tgt := 68) dX5_ofBlock_16 w_2 (by decide) (by decide) (by decide) rfl (by decide) ?_
      refine X_aload dX5_ofBlock_68 rfl ?_
      refine X_getR dX5_ofBlock_69 rfl gf_X5_7 sh_88 (by decide) rfl rf_88_0 ?_
      refine X_iconst dX5_ofBlock_72 ?_
      refine X_iload dX5_ofBlock_73 rfl ?_
      refine Y_pS dX5_ofBlock_74 cs_X5_32 (t5_at _ _ _) rfl ?_
      refine X_iconst dX5_ofBlock_77 ?_
      refine X_iadd dX5_ofBlock_78 ?_
      refine X_iload dX5_ofBlock_79 rfl ?_
      refine X_iadd dX5_ofBlock_80 ?_
      refine Y_aldB dX5_ofBlock_81 hR (by omega) hn24 (k) (3) (by omega) (by omega) (by omega) ?_
      refine X_iret dX5_ofBlock_82 (Or.inl rfl) ?_
      refine ⟨rfl, rfl, _, rfl, ?_, WF.rf⟩
      unfold qOf
      rw [hp]
      dsimp only
      rw [if_neg (by omega), if_neg (by omega), if_pos (by omega)]
    by_cases w_3 : w = 3
    · refine X_tswIn (v := 3) (tgt := 83) dX5_ofBlock_16 w_3 (by decide) (by decide) (by decide) rfl (by decide) ?_
      refine X_aload dX5_ofBlock_83 rfl ?_
      refine X_iconst dX5_ofBlock_84 ?_
      refine X_iload dX5_ofBlock_85 rfl ?_
      refine Y_pV dX5_ofBlock_86 cv_X5_40 sh_88 (by decide) (t5_wanted hR (by decide) hG (ip := 0) rfl k (by omega) rfl) rfl ?_
      refine X_iret dX5_ofBlock_89 (Or.inl rfl) ?_
      refine ⟨rfl, rfl, _, rfl, ?_, WF.rf⟩
      unfold qOf
      rw [hp]
      dsimp only
      rw [if_neg (by omega), if_neg (by omega), if_neg (by omega), if_pos (by omega)]
    by_cases w_4 : w = 4
    · refine X_tswIn (v := 4) (tgt := 90) dX5_ofBlock_16 w_4 (by decide) (by decide) (by decide) rfl (by decide) ?_
      refine X_aload dX5_ofBlock_90 rfl ?_
      refine X_getR dX5_ofBlock_91 rfl gf_X5_7 sh_88 (by decide) rfl rf_88_0 ?_
      refine X_iconst dX5_ofBlock_94 ?_
      refine X_iload dX5_ofBlock_95 rfl ?_
      refine Y_pS dX5_ofBlock_96 cs_X5_32 (t5_at _ _ _) rfl ?_
      refine X_iload dX5_ofBlock_99 rfl ?_
      refine X_iadd dX5_ofBlock_100 ?_
      refine Y_aldB dX5_ofBlock_101 hR (by omega) hn24 (k) (4) (by omega) (by omega) (by omega) ?_
      refine X_iret dX5_ofBlock_102 (Or.inl rfl) ?_
      refine ⟨rfl, rfl, _, rfl, ?_, WF.rf⟩
      unfold qOf
      rw [hp]
      dsimp only
      rw [if_neg (by omega), if_neg (by omega), if_neg (by omega), if_neg (by omega), if_pos (by omega)]
    by_cases w_5 : w = 5
    · refine X_tswIn (v := 5) (tgt := 90) dX5_ofBlock_16 w_5 (by decide) (by decide) (by decide) rfl (by decide) ?_
      refine X_aload dX5_ofBlock_90 rfl ?_
      refine X_getR dX5_ofBlock_91 rfl gf_X5_7 sh_88 (by decide) rfl rf_88_0 ?_
      refine X_iconst dX5_ofBlock_94 ?_
      refine X_iload dX5_ofBlock_95 rfl ?_
      refine Y_pS dX5_ofBlock_96 cs_X5_32 (t5_at _ _ _) rfl ?_
      refine X_iload dX5_ofBlock_99 rfl ?_
      refine X_iadd dX5_ofBlock_100 ?_
      refine Y_aldB dX5_ofBlock_101 hR (by omega) hn24 (k) (5) (by omega) (by omega) (by omega) ?_
      refine X_iret dX5_ofBlock_102 (Or.inl rfl) ?_
      refine ⟨rfl, rfl, _, rfl, ?_, WF.rf⟩
      unfold qOf
      rw [hp]
      dsimp only
      rw [if_neg (by omega), if_neg (by omega), if_neg (by omega), if_neg (by omega), if_neg (by omega), if_pos (by omega)]
    by_cases w_6 : w = 6
    · refine X_tswIn (v := 6) (tgt := 90) dX5_ofBlock_16 w_6 (by decide) (by decide) (by decide) rfl (by decide) ?_
      refine X_aload dX5_ofBlock_90 rfl ?_
      refine X_getR dX5_ofBlock_91 rfl gf_X5_7 sh_88 (by decide) rfl rf_88_0 ?_
      refine X_iconst dX5_ofBlock_94 ?_
      refine X_iload dX5_ofBlock_95 rfl ?_
      refine Y_pS dX5_ofBlock_96 cs_X5_32 (t5_at _ _ _) rfl ?_
      refine X_iload dX5_ofBlock_99 rfl ?_
      refine X_iadd dX5_ofBlock_100 ?_
      refine Y_aldB dX5_ofBlock_101 hR (by omega) hn24 (k) (6) (by omega) (by omega) (by omega) ?_
      refine X_iret dX5_ofBlock_102 (Or.inl rfl) ?_
      refine ⟨rfl, rfl, _, rfl, ?_, WF.rf⟩
      unfold qOf
      rw [hp]
      dsimp only
      rw [if_neg (by omega), if_neg (by omega), if_neg (by omega), if_neg (by omega), if_neg (by omega), if_neg (by omega), if_pos (by omega)]
    by_cases w_7 : w = 7
    · refine X_tswIn (v := 7) (tgt := 90) dX5_ofBlock_16 w_7 (by decide) (by decide) (by decide) rfl (by decide) ?_
      refine X_aload dX5_ofBlock_90 rfl ?_
      refine X_getR dX5_ofBlock_91 rfl gf_X5_7 sh_88 (by decide) rfl rf_88_0 ?_
      refine X_iconst dX5_ofBlock_94 ?_
      refine X_iload dX5_ofBlock_95 rfl ?_
      refine Y_pS dX5_ofBlock_96 cs_X5_32 (t5_at _ _ _) rfl ?_
      refine X_iload dX5_ofBlock_99 rfl ?_
      refine X_iadd dX5_ofBlock_100 ?_
      refine Y_aldB dX5_ofBlock_101 hR (by omega) hn24 (k) (7) (by omega) (by omega) (by omega) ?_
      refine X_iret dX5_ofBlock_102 (Or.inl rfl) ?_
      refine ⟨rfl, rfl, _, rfl, ?_, WF.rf⟩
      unfold qOf
      rw [hp]
      dsimp only
      rw [if_neg (by omega), if_neg (by omega), if_neg (by omega), if_neg (by omega), if_neg (by omega), if_neg (by omega), if_neg (by omega), if_pos (by omega)]
    by_cases w_8 : w = 8
    · refine X_tswIn (v := 8) (tgt := 103) dX5_ofBlock_16 w_8 (by decide) (by decide) (by decide) rfl (by decide) ?_
      refine X_aload dX5_ofBlock_103 rfl ?_
      refine X_iload dX5_ofBlock_104 rfl ?_
      refine Y_iV dX5_ofBlock_105 cv_X5_137 sh_88 (by decide) (t5_why hM hg k hk) rfl (fun z5 I5 h5 => ?_)
      refine X_iret dX5_ofBlock_108 (Or.inl rfl) ?_
      refine ⟨rfl, rfl, _, rfl, ?_, h5.2⟩
      unfold qOf
      rw [hp, h5.1]
      dsimp only
      rw [if_neg (by omega), if_neg (by omega), if_neg (by omega), if_neg (by omega), if_neg (by omega), if_neg (by omega), if_neg (by omega), if_neg (by omega), if_pos (by omega)]
    refine X_tswOut (tgt := 109) dX5_ofBlock_16 (by omega) (by omega) (by decide) ?_
    refine X_bipush dX5_ofBlock_109 (by decide) ?_
    refine X_iret dX5_ofBlock_111 (Or.inl rfl) ?_
    refine ⟨rfl, rfl, _, rfl, ?_, WF.rf⟩
    unfold qOf
    rw [hp]
    dsimp only
    rw [if_neg (by omega), if_neg (by omega), if_neg (by omega), if_neg (by omega), if_neg (by omega), if_neg (by omega), if_neg (by omega), if_neg (by omega), if_neg (by omega)]
