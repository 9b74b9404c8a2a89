section XR
variable {κ : xK} {d bc bs pc : Nat} {L : List (Option xAV)} {st : List xAV} {N : Nat} {I : xI} {Rf : xR} {Q : xQ}
/-! calls -/
theorem x_blind (G : xG) (as : List xAV) (N : Nat) (I : xI) (Rf : xR) : FrameBlind (x_pre G as N I Rf) := by
  intro a U g mk h
  obtain ⟨h1, h2, ⟨k1, k2, k3, k4, k5, k6⟩, h4⟩ := h
  have hA : U.vm.Alike (U.calling g mk a).vm := Vm.Alike.refl U.vm
  refine ⟨h1, h2.moved hA, ⟨fun ci q hq => u_Kn_moved hA (k1 ci q hq), fun w hw => va_Nw.same rfl rfl (k2 w hw), fun w hw => va_Nw.same rfl rfl (k3 w hw), k4.moved hA, k5.moved hA, k6.moved hA⟩, h4⟩
theorem x_KF.at {G : xG} {s U : State} {H : Heap} {locs : List Loc} (hK : x_KF G s) (hS : va_S (x_A G) s.heap H locs) (hU : U.heap = H) (hW : s.WarmedH U.vm) : x_KF G U := by
  obtain ⟨k1, k2, k3, k4, k5, k6⟩ := hK
  have hq : ∀ a : Nat, a < s.heap.size → ¬ x_A G a → U.heap[a]? = s.heap[a]? := fun a h1 h2 => by rw [hU]; exact hS.2.1 a h1 h2
  exact ⟨fun ci q hq => u_Kn_moved hW.alike (k1 ci q hq), fun w hw => va_Nw.warmF hW (k2 w hw), fun w hw => va_Nw.warmM hW (k3 w hw), (k4.kept hq).moved hW.alike, (k5.kept hq).moved hW.alike, k6.moved hW.alike⟩
theorem x_good (κ : xK) (h : Cond.code κ.1 κ.2.1 κ.2.2.1 κ.2.2.2 ∈ xT) : GoodIn xT (x_ws κ) := by
  intro w hw
  rcases List.mem_cons.mp hw with rfl | hw
  · exact ⟨h, xT_good h⟩
  · exact ⟨hw, xT_good hw⟩
/-- behind a call -/
theorem x_back {rest : List xAV} {mc1 ms1 : Nat} {Q1 : xQ} {a : Array Value} {G : xG} {p : Program} {l : Launch} {e : Env} {Rm : Room} {s : State} {m : MethodId} {args : Array Value} {below : List Frame} {meth : Method} {c : Code} {H : Heap} {locs : List Loc} {cells slots : Nat} {ls : Array Slot} {Z : State → Prop} {st0 : List Value}
    (hr : va_Run p l e Rm s m args below meth c H locs cells slots mc1 ms1 (F0 m pc ls st0) (rest.map (x_v G)) (x_post G Q1 a) (x_A G)) (hS : va_S (x_A G) s.heap H locs)
    (kk : ∀ (ro : Option xAV) (N1 : Nat) (I1 : xI) (R1 : xR) (H1 : Heap) (locs1 : List Loc), Q1 ro N1 I1 R1 → x_P G N1 I1 R1 s H1 → va_S (x_A G) s.heap H1 locs1 → W p l e Rm s m args below meth c H1 locs1 (cells + mc1) (slots + ms1) Z (F0 m (pc + 3) ls ((ro.toList ++ rest).map (x_v G)))) :
    W p l e Rm s m args below meth c H locs cells slots Z (F0 m pc ls st0) := by
  intro T hT Xs
  obtain ⟨v, st₀, t, T', L1, h0, X', hL1, e1, e2, ⟨⟨ro, N1, I1, R1, hv, hq, hp⟩, hz, hk⟩, step⟩ := hr T hT Xs
  cases hv
  rw [h0] at hz hk
  have hal : t.vm.Alike s.vm := by rw [← e2]; exact X'.warmed.alike.symm
  have hS1 : va_S (x_A G) s.heap T'.heap (locs ++ L1) := ⟨Nat.le_trans hS.1 (by rw [e1]; exact hz), fun q g1 g2 => by rw [e1, hk q (Nat.lt_of_lt_of_le g1 hS.1) g2]; exact hS.2.1 q g1 g2, fun q hq => by
      rcases List.mem_append.mp hq with h | h
      · exact hS.2.2 q h
      · exact hL1 q h⟩
  have hst : (ro.map (x_v G)).toList ++ rest.map (x_v G) = (ro.toList ++ rest).map (x_v G) := by
    cases ro <;> simp
  obtain ⟨t2, a1, b1⟩ := kk ro N1 I1 R1 T'.heap (locs ++ L1) hq (by rw [e1]; exact hp.moved hal) hS1 T' rfl X'
  refine ⟨t2, step t2 ?_, b1⟩
  show Steps p.tables e below (T'.setTop { F0 m pc ls st0 with pc := pc + 3, stack := (ro.map (x_v G)).toList ++ rest.map (x_v G) }) t2
  rw [hst]
  exact a1
theorem X_callV {κ1 : xK} {own : String} {idx n ci c1 d1 mc1 ms1 : Nat} {as rest : List xAV} {Q1 : xQ} (hd : decode κ.2.1 pc = .ok (.invokevirtual idx, 3)) (ho : κ.1.cls = own) (hc : x_CV own idx κ1 n ci) (hsh : x_sh c1 = (2, ci)) (hN : c1 < N) (hsp : Sp κ1 d1 mc1 ms1 (rr c1 :: as) N I Rf Q1) (hst : st = as.reverse ++ rr c1 :: rest) (hn : as.length = n) (hdd : d1 + 1 ≤ d) (hrest : rest.length ≤ 8) (hbc : mc1 ≤ bc) (hbs : ms1 ≤ bs)
    (kk : ∀ ro N1 I1 R1, Q1 ro N1 I1 R1 → X κ d (bc - mc1) (bs - ms1) (pc + 3) L (ro.toList ++ rest) N1 I1 R1 Q) : X κ d bc bs pc L st N I Rf Q := by
  intro G p l e Rm s m args below meth c H locs cells slots mc ms ls Z hC h1 h2 h3 h4 hE hP hS h5 h6 hL
  subst ho; subst hst
  obtain ⟨hlk, ⟨hcode, hini, hdsc, hnl⟩, hinst, hsel, T, Nf, hcl⟩ := hc
  have hts : ∀ w ∈ xT, w.before args s = true := hC.2.2.2.2.1
  have hob := (hP.2.2.2.2 c1 (Or.inl hN)).2.2 (by rw [hsh])
  rw [hsh] at hob
  obtain ⟨cellB, q1, q2, q3, -⟩ := hob
  have hfc := (hC.2.2.2.2.2.1.1 ci _ hcl).2.1
  have hpre : PreV s H κ1.1.cls (x_ad G c1) (x_pre G (rr c1 :: as) N I Rf) (as.map (x_v G)) := ⟨x_blind G _ N I Rf, ⟨cellB, q1, by rw [q3]; rfl, by rw [q2]; exact hfc⟩, fun U hU hW => ⟨rfl, by rw [hU]; exact hP.moved hW.alike, hC.2.2.2.2.2.1.at hS hU hW, by rw [hU]; exact Nat.le_trans hC.2.2.2.2.2.2.2 hS.1⟩⟩
  have hroom : (x_room d1 mc1 ms1).frames + 1 ≤ Rm.frames ∧ 8 + (κ1.2.2.1 + 11) + (x_room d1 mc1 ms1).locals ≤ Rm.locals := ⟨by show d1 + 1 ≤ _; omega, by show 8 + (κ1.2.2.1 + 11) + 40 * d1 ≤ _; omega⟩
  have hrun : va_Run p l e Rm s m args below meth c H locs cells slots mc1 ms1 (F0 m pc ls ((as.reverse ++ rr c1 :: rest).map (x_v G))) (rest.map (x_v G)) (x_post G Q1 (Value.ref (x_ad G c1) :: as.map (x_v G)).toArray) (x_A G) := by
    have hw := x_rsum (G := G) hrest
    have hstk : (as.reverse ++ rr c1 :: rest).map (x_v G) = (as.map (x_v G)).reverse ++ .ref (x_ad G c1) :: rest.map (x_v G) := by rw [List.map_append, List.map_reverse, List.map_cons]; rfl
    rcases hlk with hlk | ⟨host, hlk⟩
    · exact va_runV ⟨hC.1, hC.2.1, hC.2.2.1, hC.2.2.2.1, hts⟩ (hsp G l) ⟨callB_of n hts (x_good κ1 hcode) rfl rfl rfl (hts _ hini) (hts _ hlk) hdsc hroom, hts _ hinst, hts _ hsel⟩ hpre rfl (by rw [List.length_map]; exact hn) (hL.1) hstk (by show 2 * 0 + _ ≤ 8; omega) hd ⟨by omega, by omega⟩
    · exact va_runVN ⟨hC.1, hC.2.1, hC.2.2.1, hC.2.2.2.1, hts⟩ (hsp G l) ⟨va_cnB n hts (x_good κ1 hcode) rfl rfl rfl (hC.2.2.2.2.2.1.2.2.1 _ hlk) (hts _ hini) hdsc hroom, hts _ hinst, hts _ hsel⟩ hpre rfl (by rw [List.length_map]; exact hn) (hL.1) hstk (by show 2 * 0 + _ ≤ 8; omega) hd ⟨by omega, by omega⟩
  exact x_back hrun hS (fun ro N1 I1 R1 H1 locs1 hq hp1 hS1 => kk ro N1 I1 R1 hq hC h1 h2 h3 h4 hE hp1 hS1 (by omega) (by omega) hL)
theorem X_callS {κ1 : xK} {own : String} {idx n d1 mc1 ms1 : Nat} {as rest : List xAV} {Q1 : xQ} (hd : decode κ.2.1 pc = .ok (.invokestatic idx, 3)) (ho : κ.1.cls = own) (hc : x_CS own idx κ1 n) (hsp : Sp κ1 d1 mc1 ms1 as N I Rf Q1) (hst : st = as.reverse ++ rest) (hn : as.length = n) (hdd : d1 + 1 ≤ d) (hrest : rest.length ≤ 8) (hbc : mc1 ≤ bc) (hbs : ms1 ≤ bs)
    (kk : ∀ ro N1 I1 R1, Q1 ro N1 I1 R1 → X κ d (bc - mc1) (bs - ms1) (pc + 3) L (ro.toList ++ rest) N1 I1 R1 Q) : X κ d bc bs pc L st N I Rf Q := by
  intro G p l e Rm s m args below meth c H locs cells slots mc ms ls Z hC h1 h2 h3 h4 hE hP hS h5 h6 hL
  subst ho; subst hst
  obtain ⟨hlk, ⟨hcode, hini, hdsc, hnl⟩, hstat⟩ := hc
  have hts : ∀ w ∈ xT, w.before args s = true := hC.2.2.2.2.1
  have hpre : PreS s H (x_pre G as N I Rf) (as.map (x_v G)) := ⟨x_blind G _ N I Rf, fun U hU hW => ⟨rfl, by rw [hU]; exact hP.moved hW.alike, hC.2.2.2.2.2.1.at hS hU hW, by rw [hU]; exact Nat.le_trans hC.2.2.2.2.2.2.2 hS.1⟩⟩
  have hroom : (x_room d1 mc1 ms1).frames + 1 ≤ Rm.frames ∧ 8 + (κ1.2.2.1 + 11) + (x_room d1 mc1 ms1).locals ≤ Rm.locals := ⟨by show d1 + 1 ≤ _; omega, by show 8 + (κ1.2.2.1 + 11) + 40 * d1 ≤ _; omega⟩
  have hrun : va_Run p l e Rm s m args below meth c H locs cells slots mc1 ms1 (F0 m pc ls ((as.reverse ++ rest).map (x_v G))) (rest.map (x_v G)) (x_post G Q1 (as.map (x_v G)).toArray) (x_A G) := by
    have hw := x_rsum (G := G) hrest
    have hstk : (as.reverse ++ rest).map (x_v G) = (as.map (x_v G)).reverse ++ rest.map (x_v G) := by rw [List.map_append, List.map_reverse]
    rcases hlk with hlk | ⟨host, hlk⟩
    · exact va_runS ⟨hC.1, hC.2.1, hC.2.2.1, hC.2.2.2.1, hts⟩ (hsp G l) ⟨callB_of n hts (x_good κ1 hcode) rfl rfl rfl (hts _ hini) (hts _ hlk) hdsc hroom, hts _ hstat⟩ hpre rfl (by rw [List.length_map]; exact hn) (hL.1) hstk (by show 2 * 0 + _ ≤ 8; omega) hd ⟨by omega, by omega⟩
    · exact va_runSN ⟨hC.1, hC.2.1, hC.2.2.1, hC.2.2.2.1, hts⟩ (hsp G l) ⟨va_cnB n hts (x_good κ1 hcode) rfl rfl rfl (hC.2.2.2.2.2.1.2.2.1 _ hlk) (hts _ hini) hdsc hroom, hts _ hstat, trivial⟩ hpre rfl (by rw [List.length_map]; exact hn) (hL.1) hstk (by show 2 * 0 + _ ≤ 8; omega) hd ⟨by omega, by omega⟩
  exact x_back hrun hS (fun ro N1 I1 R1 H1 locs1 hq hp1 hS1 => kk ro N1 I1 R1 hq hC h1 h2 h3 h4 hE hp1 hS1 (by omega) (by omega) hL)
/-- a constructor's call -/
theorem X_callC {y1 : MethodName} {b1 : ByteArray} {l1 : Nat} {own : String} {idx n c1 d1 mc1 ms1 : Nat} {as rest : List xAV} {Q1 : xQ} (hd : decode κ.2.1 pc = .ok (.invokespecial idx, 3)) (ho : κ.1.cls = own) (hc : x_CC own idx (y1, b1, l1, none) n) (hsp : Sp (y1, b1, l1, none) d1 mc1 ms1 (rr c1 :: as) N I Rf Q1) (hst : st = as.reverse ++ rr c1 :: rest) (hn : as.length = n) (hdd : d1 + 1 ≤ d) (hrest : rest.length ≤ 8) (hbc : mc1 ≤ bc) (hbs : ms1 ≤ bs)
    (kk : ∀ ro N1 I1 R1, Q1 ro N1 I1 R1 → X κ d (bc - mc1) (bs - ms1) (pc + 3) L (ro.toList ++ rest) N1 I1 R1 Q) : X κ d bc bs pc L st N I Rf Q := by
  intro G p l e Rm s m args below meth c H locs cells slots mc ms ls Z hC h1 h2 h3 h4 hE hP hS h5 h6 hL
  subst ho; subst hst
  obtain ⟨hlk, ⟨hcode, hini, hdsc, hnl⟩, hinst, hnm, -⟩ := hc
  have hts : ∀ w ∈ xT, w.before args s = true := hC.2.2.2.2.1
  have hpre : PreS s H (x_pre G (rr c1 :: as) N I Rf) (.ref (x_ad G c1) :: as.map (x_v G)) := ⟨x_blind G _ N I Rf, fun U hU hW => ⟨rfl, by rw [hU]; exact hP.moved hW.alike, hC.2.2.2.2.2.1.at hS hU hW, by rw [hU]; exact Nat.le_trans hC.2.2.2.2.2.2.2 hS.1⟩⟩
  have hroom : (x_room d1 mc1 ms1).frames + 1 ≤ Rm.frames ∧ 8 + (l1 + 11) + (x_room d1 mc1 ms1).locals ≤ Rm.locals := ⟨by show d1 + 1 ≤ _; omega, by
    have hnl : l1 ≤ 21 := hnl
    show 8 + (l1 + 11) + 40 * d1 ≤ _; omega⟩
  have hrun : va_Run p l e Rm s m args below meth c H locs cells slots mc1 ms1 (F0 m pc ls ((as.reverse ++ rr c1 :: rest).map (x_v G))) (rest.map (x_v G)) (x_post G Q1 (Value.ref (x_ad G c1) :: as.map (x_v G)).toArray) (x_A G) := by
    have hw := x_rsum (G := G) hrest
    have hstk : (as.reverse ++ rr c1 :: rest).map (x_v G) = (as.map (x_v G)).reverse ++ .ref (x_ad G c1) :: rest.map (x_v G) := by rw [List.map_append, List.map_reverse, List.map_cons]; rfl
    rcases hlk with hlk | ⟨host, hlk⟩
    · exact va_runI ⟨hC.1, hC.2.1, hC.2.2.1, hC.2.2.2.1, hts⟩ (hsp G l) ⟨callB_of n hts (x_good (y1, b1, l1, none) hcode) rfl rfl rfl (hts _ hini) (hts _ hlk) hdsc hroom, hnm, hts _ hinst⟩ hpre rfl (by rw [List.length_map]; exact hn) (hL.1) hstk (by show 2 * 0 + _ ≤ 8; omega) hd ⟨by omega, by omega⟩
    · exact va_runIN ⟨hC.1, hC.2.1, hC.2.2.1, hC.2.2.2.1, hts⟩ (hsp G l) ⟨va_cnB n hts (x_good (y1, b1, l1, none) hcode) rfl rfl rfl (hC.2.2.2.2.2.1.2.2.1 _ hlk) (hts _ hini) hdsc hroom, hnm, hts _ hinst⟩ hpre rfl (by rw [List.length_map]; exact hn) (hL.1) hstk (by show 2 * 0 + _ ≤ 8; omega) hd ⟨by omega, by omega⟩
  exact x_back hrun hS (fun ro N1 I1 R1 H1 locs1 hq hp1 hS1 => kk ro N1 I1 R1 hq hC h1 h2 h3 h4 hE hp1 hS1 (by omega) (by omega) hL)
theorem X_objInit {own : String} {idx : Nat} {c1 : Nat} (hd : decode κ.2.1 pc = .ok (.invokespecial idx, 3)) (ho : κ.1.cls = own) (hl : Cond.methodLink own idx Lib.objectInit ∈ xT) (hd1 : 1 ≤ d) (hr : st.length ≤ 8) (kk : X κ d bc bs (pc + 3) L st N I Rf Q) : X κ d bc bs pc L (rr c1 :: st) N I Rf Q := by
  intro G p l e Rm s m args below meth c H locs cells slots mc ms ls Z hC h1 h2 h3 h4 hE hP hS h5 h6 hL
  subst ho
  have hw := x_rsum (G := G) hr
  exact W.objInit hC.1 hC.2.1 hC.2.2.2.1 (hC.2.2.2.2.1 _ hl) (hC.2.2.2.2.1 _ xw_obj_inst) (hC.2.2.2.2.1 _ xw_obj_code) rfl (by rw [hC.2.2.1]; exact hL.1) rfl hd (by omega) (by show 2 * 0 + _ + 12 ≤ _; omega) (kk hC h1 h2 h3 h4 hE hP hS h5 h6 hL)
/-! making cells -/
theorem X_new {own : String} {idx ci : Nat} {C : String} {T : u_T} {Nf : Nat} (ty : Nat → FieldType) (hd : decode κ.2.1 pc = .ok (.new idx, 3)) (ho : κ.1.cls = own) (hc : vwCl[ci]? = some (C, T, Nf)) (hnf : x_nf ci = Nf) (hin : ∀ w ∈ u_ws C T Nf, w ∈ xT) (hty : ∀ k, k < Nf → parseFieldDescriptor (T k).2.2.1 = some (ty k)) (hcl : Cond.classLink own idx C ∈ xT) (hins : Cond.instantiable C Nf ∈ xT) (hini : Cond.initialized C ∈ xT) (hsh : x_sh N = (2, ci)) (hN : N < 90) (hfs : ∀ j, j < Nf → defaultValue (ty j) = if x_ir ci j = true then .null else .int 0) {bc' bs' : Nat} (hbc : bc = bc' + 1) (hbs : bs = bs' + Nf)
    (kk : X κ d bc' bs' (pc + 3) L (rr N :: st) (N + 1) (x_z I N) (x_zR Rf N) Q) : X κ d bc bs pc L st N I Rf Q := by
  intro G p l e Rm s m args below meth c H locs cells slots mc ms ls Z hC h1 h2 h3 h4 hE hP hS h5 h6 hL
  subst ho; subst hbc; subst hbs
  have hts : ∀ w ∈ xT, w.before args s = true := hC.2.2.2.2.1
  have hKn := hC.2.2.2.2.2.1.1 ci _ hc
  refine W.newcK hC.1 hC.2.1 hC.2.2.2.1 (hts _ hcl) (hts _ hins) (hts _ hini) rfl hd (by omega) (by omega) hKn.2.1 rfl fun H' kC hkC e1 e2 e3 => ?_
  have had : H.size = x_ad G N := by rw [x_ad_lt (N := N + 1) (by omega) (by omega)]; exact hP.2.1
  rw [had] at e1
  have hcell : x_cell G (x_z I N) (x_zR Rf N) s H' N := by
    refine ⟨fun h => ?_, fun h => ?_, fun _ => ?_⟩
    · rw [hsh] at h; simp at h
    · rw [hsh] at h; simp at h
    · rw [hsh]
      show t_OB (x_ad G N) (G.2.1 ci) (x_nf ci) (G.2.2.1 ci) H' (x_fv G (x_z I N) (x_zR Rf N) N ci)
      rw [hnf]
      refine (u_born ty hts hin hKn hkC e1 hty).to (fun j hj => ?_)
      rw [hfs j hj]
      unfold x_fv x_z x_zR
      split
      · simp [va_rf]
      · simp
  have hP' := hP.push (I' := x_z I N) (Rf' := x_zR Rf N) hN (fun c' h => by funext j; simp [x_z, h]) (fun c' h => by funext j; simp [x_zR, h]) hcell e2 e3
  have kk2 := kk hC h1 h2 h3 h4 hE hP' (H := H') (locs := locs) (cells := cells + 1) (slots := slots + Nf) ⟨Nat.le_trans hS.1 (by omega), fun q g1 g2 => (e3 q (Nat.lt_of_lt_of_le g1 hS.1)).trans (hS.2.1 q g1 g2), hS.2.2⟩ (by omega) (by omega) hL
  rw [had]
  exact kk2
theorem X_newI {n : Int} {n' : Nat} (hd : decode κ.2.1 pc = .ok (.newarray .int, 2)) (hn : n = (n' : Int)) (hsh : x_sh N = (0, n')) (hN : N < 90) {bc' bs' : Nat} (hbc : bc = bc' + 1) (hbs : bs = bs' + n')
    (kk : X κ d bc' bs' (pc + 2) L (rr N :: st) (N + 1) (x_z I N) (x_zR Rf N) Q) : X κ d bc bs pc L (ii n :: st) N I Rf Q := by
  intro G p l e Rm s m args below meth c H locs cells slots mc ms ls Z hC h1 h2 h3 h4 hE hP hS h5 h6 hL
  subst hbc; subst hbs; subst hn
  have hn0 : n' < 1000 := by have := x_sh_lt N; rw [hsh] at this; exact this
  have hts : ∀ w ∈ xT, w.before args s = true := hC.2.2.2.2.1
  have had : H.size = x_ad G N := by rw [x_ad_lt (N := N + 1) (by omega) (by omega)]; exact hP.2.1
  refine va_newaK (atype := .int) hC.1 hC.2.1 (hts _ xw_arr_int) rfl hd (n := Int32.ofInt (n' : Int)) (N := n') (rest := st.map (x_v G)) rfl (fun q => by rw [x_zero, x_lt (by omega) (by omega)] at q; omega) (by rw [x_cl (by omega)]; omega) (by show n' * 4 ≤ _; omega) (by omega) (by omega) had fun H' cA e1 e2 e3 hAr _ => ?_
  have hcell : x_cell G (x_z I N) (x_zR Rf N) s H' N := by
    refine ⟨fun _ => ?_, fun h => ?_, fun h => ?_⟩
    · rw [hsh]
      refine ⟨_, e1, hAr _ _, fun h => (by cases h), by rw [arrV_size], fun j hj => ?_⟩
      rw [arrV_read _ _ hj]
      simp [x_z]
      rfl
    · rw [hsh] at h; simp at h
    · rw [hsh] at h; simp at h
  have hP' := hP.push (I' := x_z I N) (Rf' := x_zR Rf N) hN (fun c' h => by funext j; simp [x_z, h]) (fun c' h => by funext j; simp [x_zR, h]) hcell (by rw [e2, had]) (fun q hq => e3 q (by rw [← had]; exact hq))
  exact kk hC h1 h2 h3 h4 hE hP' (H := H') (locs := locs) (cells := cells + 1) (slots := slots + n') ⟨Nat.le_trans hS.1 (by omega), fun q g1 g2 => (e3 q (by rw [← had]; exact Nat.lt_of_lt_of_le g1 hS.1)).trans (hS.2.1 q g1 g2), hS.2.2⟩ (by omega) (by omega) hL
theorem X_newR {own : String} {idx : Nat} {n : Int} {n' : Nat} (hd : decode κ.2.1 pc = .ok (.anewarray idx, 3)) (ho : κ.1.cls = own) (hcl : Cond.classLink own idx "HeatShelves$State" ∈ xT) (hn : n = (n' : Int)) (hsh : x_sh N = (1, n')) (hN : N < 90) {bc' bs' : Nat} (hbc : bc = bc' + 1) (hbs : bs = bs' + n')
    (kk : X κ d bc' bs' (pc + 3) L (rr N :: st) (N + 1) (x_z I N) (x_zR Rf N) Q) : X κ d bc bs pc L (ii n :: st) N I Rf Q := by
  intro G p l e Rm s m args below meth c H locs cells slots mc ms ls Z hC h1 h2 h3 h4 hE hP hS h5 h6 hL
  subst hbc; subst hbs; subst hn; subst ho
  have hn0 : n' < 1000 := by have := x_sh_lt N; rw [hsh] at this; exact this
  have hts : ∀ w ∈ xT, w.before args s = true := hC.2.2.2.2.1
  have had : H.size = x_ad G N := by rw [x_ad_lt (N := N + 1) (by omega) (by omega)]; exact hP.2.1
  have hcl2 : (Int32.ofInt (n' : Int)).toNatClampNeg = n' := by rw [x_cl (by omega)]; omega
  refine W.anew hC.1 hC.2.1 hC.2.2.2.1 (hts _ hcl) (va_AO.use hC.2.2.2.2.2.1.2.2.2.2.2) rfl hd (n := Int32.ofInt (n' : Int)) (rest := st.map (x_v G)) rfl (fun q => by rw [x_zero, x_lt (by omega) (by omega)] at q; omega) (by rw [hcl2]; omega) (by omega) (by rw [hcl2]; omega) fun cA kA comp f1 f2 f3 f4 => ?_
  rw [hcl2]
  generalize hH1 : H.push ({ cls := cA, slots := Array.replicate n' .null, vm := .none } : Cell) = H'
  have e2 : H'.size = H.size + 1 := by rw [← hH1, Array.size_push]
  have e1 : H'[H.size]? = some (arrV cA n' (fun _ => .null)) := by rw [← hH1, Array.getElem?_push_size, ← arrV_new]
  have e3 : ∀ q : Nat, q < H.size → H'[q]? = H[q]? := fun q hq => by rw [← hH1, Array.getElem?_push, if_neg (Nat.ne_of_lt hq)]
  have hAr : ArrOfT s cA (.object "HeatShelves$State") := fun N z => ⟨(fun k h => by cases h), kA, f2, comp, f3⟩
  have hcell : x_cell G (x_z I N) (x_zR Rf N) s H' N := by
    refine ⟨fun h => ?_, fun _ => ?_, fun h => ?_⟩
    · rw [hsh] at h; simp at h
    · rw [hsh, ← had]
      refine ⟨cA, ?_, hAr, kA, comp, f2, f3, f4, f1⟩
      rw [e1]
      congr 2
      funext q
      simp [x_zR, va_rf]
    · rw [hsh] at h; simp at h
  have hP' := hP.push (I' := x_z I N) (Rf' := x_zR Rf N) hN (fun c' h => by funext j; simp [x_z, h]) (fun c' h => by funext j; simp [x_zR, h]) hcell e2 e3
  have kk2 := kk hC h1 h2 h3 h4 hE hP' (H := H') (locs := locs) (cells := cells + 1) (slots := slots + n') ⟨Nat.le_trans hS.1 (by omega), fun q g1 g2 => (e3 q (Nat.lt_of_lt_of_le g1 hS.1)).trans (hS.2.1 q g1 g2), hS.2.2⟩ (by omega) (by omega) hL
  rw [had]
  exact kk2
/-! a method's contract out of its body -/
theorem x_args (vs : List Value) (h : ∀ v ∈ vs, v.category = 1) : ∀ (i j : Nat) (v : Value), vs[j]? = some v → (i + j, v) ∈ lv_args i vs := by
  induction vs with
  | nil => intro i j v hv; simp at hv
  | cons a vs ih =>
    intro i j v hv
    have ha : ¬ a.category = 2 := by rw [h a List.mem_cons_self]; decide
    cases j with
    | zero =>
      simp at hv
      subst hv
      exact List.mem_cons_self
    | succ j =>
      rw [List.getElem?_cons_succ] at hv
      have h1 := ih (fun v hv => h v (List.mem_cons_of_mem _ hv)) (i + 1) j v hv
      show _ ∈ (i, a) :: lv_args (if a.category = 2 then i + 2 else i + 1) vs
      rw [if_neg ha]
      exact List.mem_cons_of_mem _ (by rw [show i + (j + 1) = i + 1 + j by omega]; exact h1)
theorem x_sl (G : xG) (as : List xAV) : (lg_sl (as.map (x_v G))).length = as.length := by
  induction as with
  | nil => rfl
  | cons a as ih =>
    show ((if (x_v G a).category = 2 then [Slot.val (x_v G a), Slot.second] else [Slot.val (x_v G a)]) ++ lg_sl (as.map (x_v G))).length = _
    rw [if_neg (by rw [x_cat]; decide), List.length_append, ih]
    show 1 + as.length = as.length + 1
    omega
theorem x_start (G : xG) (as : List xAV) {nL : Nat} (h : as.length ≤ nL) : x_L G nL ((lg_sl (as.map (x_v G)) ++ List.replicate (nL - (lg_sl (as.map (x_v G))).length) Slot.unset).toArray) (as.map some ++ List.replicate (nL - as.length) none) := by
  have h1 := lv_entry (as.map (x_v G)) (n := nL) (by rw [x_sl]; exact h)
  refine ⟨h1.1, h1.2.1, by simp; omega, fun i a ha => ?_⟩
  have hlt : i < as.length := by
    rcases Nat.lt_or_ge i as.length with q | q
    · exact q
    · rw [List.getElem?_append_right (by simpa using q)] at ha
      have h2 := List.mem_of_getElem? ha
      rw [List.mem_replicate] at h2
      exact absurd h2.2 (by simp)
  rw [List.getElem?_append_left (by simpa using hlt), List.getElem?_map] at ha
  have ha2 : as[i]? = some a := by
    cases h3 : as[i]? with
    | none => rw [h3] at ha; cases ha
    | some b => rw [h3] at ha; simp at ha; rw [ha]
  have h4 := x_args (as.map (x_v G)) (fun v hv => by obtain ⟨b, -, rfl⟩ := List.mem_map.mp hv; exact x_cat G b) 0 i (x_v G a) (by rw [List.getElem?_map, ha2]; rfl)
  rw [Nat.zero_add] at h4
  exact h1.2.2 _ h4
theorem Sp_intro {mc ms : Nat} {as : List xAV} (hpl : plainName κ.1.cls = true) (hlen : as.length ≤ κ.2.2.1) (body : X κ d mc ms 0 (as.map some ++ List.replicate (κ.2.2.1 - as.length) none) [] N I Rf Q) : Sp κ d mc ms as N I Rf Q := by
  intro G l
  refine Met.ofW (cc := κ.2.1) (maxL := κ.2.2.1) (ret := κ.2.2.2) hpl rfl ?_
  intro p e s m args below meth c s₁ B hml hv
  obtain ⟨rfl, hP, hKF, hsz⟩ := hv
  have hts := atoms_spec (ws := x_ws κ) B.pre
  have hlocks := B.notSynchronized
  rw [lg_entry_eq]
  have hL := x_start G as hlen
  generalize (lg_sl (as.map (x_v G)) ++ List.replicate (κ.2.2.1 - (lg_sl (as.map (x_v G))).length) Slot.unset).toArray = ls at hL ⊢
  refine body (G := G) ⟨B.exec, B.bytes, hml, findClass_of_methodNamed B.named, fun w hw => hts w (List.mem_cons_of_mem _ hw), hKF, (name_of_methodNamed B.named B.method).1, hsz⟩ (Nat.le_refl d) (Nat.le_refl _) (Nat.le_refl mc) (Nat.le_refl ms) ?_ hP va_S.rf (by omega) (by omega) hL
  intro ro N' I' Rf' H' locs' cells' slots' pc' ls' st' hQ hP' hS' g1 g2 hret
  refine W.widen (k := mc) (n := ms) g1 g2 ?_
  rcases hret with ⟨z, rfl, rfl, hd, hr⟩ | ⟨rfl, rfl, hd, hr⟩ | ⟨o, rfl, rfl, hd, hr⟩
  · rcases hr with hr | ⟨hr, hz⟩
    · exact W.iret (v := Int32.ofInt z) B.exec B.bytes (B.returns.trans hr) (fun t ht hW => ⟨⟨some (ii z), N', I', Rf', rfl, hQ, by rw [ht]; exact hP'.moved hW.alike⟩, hS'.F ht⟩) hS'.2.2 hd hlocks
    · exact W.zret (v := Int32.ofInt z) (ty := .boolean) B.exec B.bytes (B.returns.trans hr) (by rcases hz with rfl | rfl <;> rfl) (fun t ht hW => ⟨⟨some (ii z), N', I', Rf', rfl, hQ, by rw [ht]; exact hP'.moved hW.alike⟩, hS'.F ht⟩) hS'.2.2 hd hlocks
  · exact W.vret B.exec B.bytes (B.returns.trans hr) (fun t ht hW => ⟨⟨none, N', I', Rf', rfl, hQ, by rw [ht]; exact hP'.moved hW.alike⟩, hS'.F ht⟩) hS'.2.2 hd hlocks
  · exact W.aret (v := va_rf (o.map (x_ad G))) B.exec B.bytes (B.returns.trans hr) (Or.inl ⟨_, rfl⟩) (by cases o <;> simp [va_rf]) (fun t ht hW => ⟨⟨some (.inr o), N', I', Rf', rfl, hQ, by rw [ht]; exact hP'.moved hW.alike⟩, hS'.F ht⟩) hS'.2.2 hd hlocks
end XR
