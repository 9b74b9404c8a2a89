section XR
variable {κ : xK} {d bc bs pc : Nat} {L : List (Option xAV)} {st : List xAV} {N : Nat} {I : xI} {Rf : xR} {Q : xQ}
/-! fields -/
theorem X_get {own : String} {idx ci k c : Nat} (hd : decode κ.2.1 pc = .ok (.getfield idx, 3)) (ho : κ.1.cls = own) (hg : x_GF own idx ci k) (hsh : x_sh c = (2, ci)) (hN : c < N) (kk : X κ d bc bs (pc + 3) L ((if x_ir ci k = true then .inr (Rf c k) else .inl (I c k)) :: st) N I Rf Q) : X κ d bc bs pc L (rr c :: st) N I Rf Q := by
  intro G p l e Rm s m args below meth c' H locs cells slots mc ms ls Z hC h1 h2 h3 h4 hE hP hS h5 h6 hL
  subst ho
  obtain ⟨C, T, Nf, hc, hnf, hk, hin, hlk⟩ := hg
  obtain ⟨hSl, hfc, kC, hkC, hkind⟩ := hC.2.2.2.2.2.1.1 ci _ hc
  obtain ⟨cf, kf, fi, f, hfi, hsl⟩ := hSl k hk
  have hts : ∀ w ∈ xT, w.before args s = true := hC.2.2.2.2.1
  have hob := (hP.2.2.2.2 c (Or.inl hN)).2.2 (by rw [hsh])
  rw [hsh] at hob
  obtain ⟨cell, q1, q2, q3, q4⟩ := hob
  have hst := (u_facts hfc hkC (u_lays hts hin hk) hfi).1
  have hv := q4 k (by show k < x_nf ci; rw [hnf]; exact hk)
  have e : x_fv G I Rf c ci k = x_v G (if x_ir ci k = true then .inr (Rf c k) else .inl (I c k)) := by
    unfold x_fv
    split <;> rfl
  rw [show x_fv G I Rf c (2, ci).2 k = x_fv G I Rf c ci k from rfl, e] at hv
  rcases hlk with hlk | ⟨host, hlk⟩
  · exact W.getf hC.1 hC.2.1 hC.2.2.2.1 (hts _ hlk) hfi hst q1 (by rw [q3]; exact fun h => by cases h) (by rw [hsl]; exact hv) rfl rfl hd (kk hC h1 h2 h3 h4 hE hP hS h5 h6 hL)
  · exact va_Wgetf hC.1 hC.2.1 hC.2.2.2.1 (va_Nw.use rfl (hC.2.2.2.2.2.1.2.1 _ hlk)) hfi hst q1 (by rw [q3]; exact fun h => by cases h) (by rw [hsl]; exact hv) rfl rfl hd (kk hC h1 h2 h3 h4 hE hP hS h5 h6 hL)
theorem X_getI {own : String} {idx ci k c : Nat} (hd : decode κ.2.1 pc = .ok (.getfield idx, 3)) (ho : κ.1.cls = own) (hg : x_GF own idx ci k) (hsh : x_sh c = (2, ci)) (hN : c < N) (hi : x_ir ci k = false) (kk : X κ d bc bs (pc + 3) L (ii (I c k) :: st) N I Rf Q) : X κ d bc bs pc L (rr c :: st) N I Rf Q := by
  refine X_get hd ho hg hsh hN ?_
  rw [if_neg (by rw [hi]; decide)]
  exact kk
theorem X_getR {own : String} {idx ci k c c' : Nat} (hd : decode κ.2.1 pc = .ok (.getfield idx, 3)) (ho : κ.1.cls = own) (hg : x_GF own idx ci k) (hsh : x_sh c = (2, ci)) (hN : c < N) (hi : x_ir ci k = true) (hr : Rf c k = some c') (kk : X κ d bc bs (pc + 3) L (rr c' :: st) N I Rf Q) : X κ d bc bs pc L (rr c :: st) N I Rf Q := by
  refine X_get hd ho hg hsh hN ?_
  rw [if_pos hi, hr]
  exact kk
theorem x_fv_set {G : xG} {I : xI} {Rf : xR} {c ci k : Nat} {z : Int} (hi : x_ir ci k = false) (j : Nat) : updV (x_fv G I Rf c ci) k (.int (Int32.ofInt z)) j = x_fv G (x_up I c k z) Rf c ci j := by
  unfold updV x_fv x_up
  by_cases h : j = k
  · subst h; simp [hi]
  · simp [h]
theorem x_fv_setR {G : xG} {I : xI} {Rf : xR} {c ci k : Nat} {o : Option Nat} (hi : x_ir ci k = true) (j : Nat) : updV (x_fv G I Rf c ci) k (va_rf (o.map (x_ad G))) j = x_fv G I (x_upR Rf c k o) c ci j := by
  unfold updV x_fv x_upR
  by_cases h : j = k
  · subst h; simp [hi]
  · simp [h]
theorem X_putI {own : String} {idx ci k c : Nat} {ty : FieldType} {z : Int} (hd : decode κ.2.1 pc = .ok (.putfield idx, 3)) (ho : κ.1.cls = own) (hg : x_PF own idx ci k ty false) (hsh : x_sh c = (2, ci)) (hN : c < N) (hi : x_ir ci k = false) (hz : ty = .int ∨ (ty = .boolean ∧ (z = 0 ∨ z = 1))) (kk : X κ d bc bs (pc + 3) L st N (x_up I c k z) Rf Q) : X κ d bc bs pc L (ii z :: rr c :: st) N I Rf Q := by
  intro G p l e Rm s m args below meth c' H locs cells slots mc ms ls Z hC h1 h2 h3 h4 hE hP hS h5 h6 hL
  subst ho
  obtain ⟨C, T, Nf, ty0, hc, hnf, hk, hin, hlk, hty0, hnm, hfin, htk, -⟩ := hg
  have hts : ∀ w ∈ xT, w.before args s = true := hC.2.2.2.2.1
  obtain ⟨hSl, hfc, kC, hkC, hkind⟩ := hC.2.2.2.2.2.1.1 ci _ hc
  have hap : ∀ x y, x < Nf → y < Nf → x ≠ y → (G.2.2.1 ci) x ≠ (G.2.2.1 ci) y := by
    intro x y hx hy hne
    obtain ⟨_, _, _, fa, hia, ea⟩ := hSl x hx
    obtain ⟨_, _, _, fb, hib, eb⟩ := hSl y hy
    rw [← ea, ← eb]
    refine u_apart (u_lays hts hin hx) (u_lays hts hin hy) hia hib ?_
    rw [(State.fieldFound?_type hia (hty0 x hx)).1, (State.fieldFound?_type hib (hty0 y hy)).1]
    exact hnm x hx y hy hne
  obtain ⟨cf, kf, fi, f, hfi, hsl⟩ := hSl k hk
  have hob := (hP.2.2.2.2 c (Or.inl hN)).2.2 (by rw [hsh])
  rw [hsh] at hob
  have hob : t_OB (x_ad G c) (G.2.1 ci) (x_nf ci) (G.2.2.1 ci) H (x_fv G I Rf c ci) := hob
  rw [hnf] at hob
  obtain ⟨cell, q1, q2, q3, q4⟩ := hob
  have hlay := hts _ (hin _ (u_in_lay hk))
  unfold u_lay at hlay
  rw [if_neg (by rw [hfin]; decide)] at hlay
  have hst := (u_facts hfc hkC (u_lays hts hin hk) hfi).1
  have hnf2 : narrow ty (.int (Int32.ofInt z)) = .int (Int32.ofInt z) ∧ fits ty (.int (Int32.ofInt z)) = true := by
    rcases hz with rfl | ⟨rfl, rfl | rfl⟩
    · exact ⟨rfl, rfl⟩
    · exact ⟨rfl, rfl⟩
    · exact ⟨rfl, rfl⟩
  have hk6 : k2_Sd s f (G.2.1 ci) (.int (Int32.ofInt z)) := u_store hfc hkC hkind hlay hfi (by rw [hty0 k hk, htk]) hnf2.1 hnf2.2
  refine W.putK (v := .int (Int32.ofInt z)) hC.1 hC.2.1 (f := f) ⟨hC.2.2.2.1, hts _ hlk, ⟨_, _, _, hfi⟩, hst⟩ (by rw [q2]; exact hk6) q1 q3 (by rw [hsl]; exact k2_hasslot (q4 k hk)) rfl rfl hd fun H' e1 e2 e3 => ?_
  rw [hsl] at e1 ⊢
  refine kk hC h1 h2 h3 h4 hE (hP.set hN (fun c' h => x_up_ne h) (fun _ _ => rfl) ⟨fun h => ?_, fun h => ?_, fun _ => ?_⟩ e2 e3) (hS.put e2 e3 ?_) h5 h6 hL
  · rw [hsh] at h; simp at h
  · rw [hsh] at h; simp at h
  · rw [hsh]
    show t_OB (x_ad G c) (G.2.1 ci) (x_nf ci) (G.2.2.1 ci) H' (x_fv G (x_up I c k z) Rf c ci)
    rw [hnf]
    exact t_OB.to (V := updV (x_fv G I Rf c ci) k (.int (Int32.ofInt z))) ⟨_, e1, q2, q3, t_set q4 hap hk _⟩ (fun j _ => x_fv_set hi j)
  · show G.1 ≤ x_ad G c
    rw [x_ad_lt hP.1 hN]; omega
/-- a final field, in a constructor -/
theorem X_putF {own : String} {idx ci k c : Nat} {ty : FieldType} {v : xAV} {I' : xI} {Rf' : xR} (hd : decode κ.2.1 pc = .ok (.putfield idx, 3)) (ho : κ.1.cls = own) (hinit : κ.1.name = "<init>") (hg : x_PF own idx ci k ty true) (hsh : x_sh c = (2, ci)) (hN : c < N) {o : Option Nat} (hv : v = .inr o) (hi : x_ir ci k = true) (hr : refKind ty = true) (hI : I' = I) (hR : Rf' = x_upR Rf c k o) (kk : X κ d bc bs (pc + 3) L st N I' Rf' Q) : X κ d bc bs pc L (v :: rr c :: st) N I Rf Q := by
  intro G p l e Rm s m args below meth c' H locs cells slots mc ms ls Z hC h1 h2 h3 h4 hE hP hS h5 h6 hL
  subst ho; subst hv; subst hI; subst hR
  obtain ⟨C, T, Nf, ty0, hc, hnf, hk, hin, hlk, hty0, hnm, hfin, htk, hdecl⟩ := hg
  have hts : ∀ w ∈ xT, w.before args s = true := hC.2.2.2.2.1
  obtain ⟨hSl, hfc, kC, hkC, hkind⟩ := hC.2.2.2.2.2.1.1 ci _ hc
  have hap : ∀ x y, x < Nf → y < Nf → x ≠ y → (G.2.2.1 ci) x ≠ (G.2.2.1 ci) y := by
    intro x y hx hy hne
    obtain ⟨_, _, _, fa, hia, ea⟩ := hSl x hx
    obtain ⟨_, _, _, fb, hib, eb⟩ := hSl y hy
    rw [← ea, ← eb]
    refine u_apart (u_lays hts hin hx) (u_lays hts hin hy) hia hib ?_
    rw [(State.fieldFound?_type hia (hty0 x hx)).1, (State.fieldFound?_type hib (hty0 y hy)).1]
    exact hnm x hx y hy hne
  obtain ⟨cf, kf, fi, f, hfi, hsl⟩ := hSl k hk
  have hob := (hP.2.2.2.2 c (Or.inl hN)).2.2 (by rw [hsh])
  rw [hsh] at hob
  have hob : t_OB (x_ad G c) (G.2.1 ci) (x_nf ci) (G.2.2.1 ci) H (x_fv G I' Rf c ci) := hob
  rw [hnf] at hob
  obtain ⟨cell, q1, q2, q3, q4⟩ := hob
  have hlay := hts _ (hin _ (u_in_lay hk))
  unfold u_lay at hlay
  rw [if_pos hfin] at hlay
  have hst := (u_facts hfc hkC (u_lays hts hin hk) hfi).1
  have hcf : m.cls = cf := by
    obtain ⟨_, _, c', _, _, _, -, -, hf', -, -, -, hown2, -⟩ := Cond.laysFinal_spec hlay
    have e1 : c' = cf := by have := hfi.symm.trans hf'; simp at this; exact this.1.symm
    rw [hdecl] at hown2
    rw [← e1]; exact Option.some.inj (hC.2.2.2.1.symm.trans hown2)
  have hnf2 : narrow ty (va_rf (o.map (x_ad G))) = va_rf (o.map (x_ad G)) ∧ fits ty (va_rf (o.map (x_ad G))) = true := by
    cases ty <;> first | (exact absurd hr (by decide)) | (cases o <;> exact ⟨rfl, rfl⟩)
  have hk6 := u_fits hfc hkC hkind (Or.inr hlay) hfi (by rw [hty0 k hk, htk]) hnf2.1 hnf2.2
  refine W.putFinK (v := va_rf (o.map (x_ad G))) hC.1 hC.2.1 hC.2.2.2.1 (hts _ hlk) hfi hst hcf (hC.2.2.2.2.2.2.1.trans hinit) (by rw [q2]; exact hk6) q1 q3 (by rw [hsl]; exact k2_hasslot (q4 k hk)) rfl rfl hd fun H' e1 e2 e3 => ?_
  rw [hsl] at e1 ⊢
  refine kk hC h1 h2 h3 h4 hE (hP.set hN (fun _ _ => rfl) (fun c' h => x_upR_ne h) ⟨fun h => ?_, fun h => ?_, fun _ => ?_⟩ e2 e3) (hS.put e2 e3 ?_) h5 h6 hL
  · rw [hsh] at h; simp at h
  · rw [hsh] at h; simp at h
  · rw [hsh]
    show t_OB (x_ad G c) (G.2.1 ci) (x_nf ci) (G.2.2.1 ci) H' (x_fv G I' (x_upR Rf c k o) c ci)
    rw [hnf]
    exact t_OB.to (V := updV (x_fv G I' Rf c ci) k (va_rf (o.map (x_ad G)))) ⟨_, e1, q2, q3, t_set q4 hap hk _⟩ (fun j _ => x_fv_setR hi j)
  · show G.1 ≤ x_ad G c
    rw [x_ad_lt hP.1 hN]; omega
theorem X_getsF {own : String} {idx : Nat} (hd : decode κ.2.1 pc = .ok (.getstatic idx, 3)) (ho : κ.1.cls = own) (hg : x_GS own idx "FIRST_VALUES") (kk : X κ d bc bs (pc + 3) L (rr 100 :: st) N I Rf Q) : X κ d bc bs pc L st N I Rf Q := by
  intro G p l e Rm s m args below meth c' H locs cells slots mc ms ls Z hC h1 h2 h3 h4 hE hP hS h5 h6 hL
  subst ho
  have hw : x_v G (rr 100) = .ref G.2.2.2.1 := by show Value.ref (x_ad G 100) = _; unfold x_ad; rw [if_pos rfl]
  have kk2 := kk hC h1 h2 h3 h4 hE hP hS h5 h6 hL
  rw [List.map_cons, hw] at kk2
  rcases hg with hlk | ⟨host, hlk⟩
  · exact va_gets hC.1 hC.2.1 hC.2.2.2.2.2.1.2.2.2.1 hS hC.2.2.2.1 (hC.2.2.2.2.1 _ hlk) (fun _ h => h) hd kk2
  · exact va_getsN hC.1 hC.2.1 hC.2.2.2.2.2.1.2.2.2.1 hS hC.2.2.2.1 (va_Nw.use rfl (hC.2.2.2.2.2.1.2.1 _ hlk)) (fun _ h => h) hd kk2
theorem X_getsG {own : String} {idx : Nat} (hd : decode κ.2.1 pc = .ok (.getstatic idx, 3)) (ho : κ.1.cls = own) (hg : x_GS own idx "GREATEST_VALUES") (kk : X κ d bc bs (pc + 3) L (rr 101 :: st) N I Rf Q) : X κ d bc bs pc L st N I Rf Q := by
  intro G p l e Rm s m args below meth c' H locs cells slots mc ms ls Z hC h1 h2 h3 h4 hE hP hS h5 h6 hL
  subst ho
  have hw : x_v G (rr 101) = .ref G.2.2.2.2 := by show Value.ref (x_ad G 101) = _; unfold x_ad; rw [if_neg (by decide), if_pos rfl]
  have kk2 := kk hC h1 h2 h3 h4 hE hP hS h5 h6 hL
  rw [List.map_cons, hw] at kk2
  rcases hg with hlk | ⟨host, hlk⟩
  · exact va_gets hC.1 hC.2.1 hC.2.2.2.2.2.1.2.2.2.2.1 hS hC.2.2.2.1 (hC.2.2.2.2.1 _ hlk) (fun _ h => h) hd kk2
  · exact va_getsN hC.1 hC.2.1 hC.2.2.2.2.2.1.2.2.2.2.1 hS hC.2.2.2.1 (va_Nw.use rfl (hC.2.2.2.2.2.1.2.1 _ hlk)) (fun _ h => h) hd kk2
/-! rows -/
theorem X_iald {c n : Nat} {i : Int} (hd : decode κ.2.1 pc = .ok (.iaload, 1)) (hsh : x_sh c = (0, n)) (hlive : x_live N c) (hi : 0 ≤ i ∧ i < n) (kk : X κ d bc bs (pc + 1) L (ii (I c i.toNat) :: st) N I Rf Q) : X κ d bc bs pc L (ii i :: rr c :: st) N I Rf Q := by
  intro G p l e Rm s m args below meth c' H locs cells slots mc ms ls Z hC h1 h2 h3 h4 hE hP hS h5 h6 hL
  have hX := (hP.2.2.2.2 c hlive).1 (by rw [hsh])
  have hn : n < 1000 := by have := x_sh_lt c; rw [hsh] at this; exact this
  rw [hsh] at hX
  obtain ⟨scr, a1, a2, a3, a4, a5⟩ := hX
  have a4 : scr.slots.size = n := a4
  exact W.iald (v := .int (Int32.ofInt (I c i.toNat))) hC.1 hC.2.1 a1 a2 a3 (by rw [a4]; exact x_in hi (by omega)) (by rw [x_cl (by omega)]; exact a5 _ (by show i.toNat < n; omega)) rfl rfl hd (kk hC h1 h2 h3 h4 hE hP hS h5 h6 hL)
theorem X_iast {c n : Nat} {i z : Int} (hd : decode κ.2.1 pc = .ok (.iastore, 1)) (hsh : x_sh c = (0, n)) (hN : c < N) (hi : 0 ≤ i ∧ i < n) (kk : X κ d bc bs (pc + 1) L st N (x_up I c i.toNat z) Rf Q) : X κ d bc bs pc L (ii z :: ii i :: rr c :: st) N I Rf Q := by
  intro G p l e Rm s m args below meth c' H locs cells slots mc ms ls Z hC h1 h2 h3 h4 hE hP hS h5 h6 hL
  have hX := (hP.2.2.2.2 c (Or.inl hN)).1 (by rw [hsh])
  have hn : n < 1000 := by have := x_sh_lt c; rw [hsh] at this; exact this
  rw [hsh] at hX
  obtain ⟨scr, a1, a2, a3, a4, a5⟩ := hX
  have a4 : scr.slots.size = n := a4
  refine W.iast (x := Int32.ofInt z) (j := Int32.ofInt i) hC.1 hC.2.1 a1 a2 a3 (by rw [a4]; exact x_in hi (by omega)) rfl rfl hd (fun H' e1 e2 e3 => ?_)
  rw [x_cl (by omega)] at e1
  refine kk hC h1 h2 h3 h4 hE (hP.set hN (fun c' h => x_up_ne h) (fun _ _ => rfl) ⟨fun _ => ?_, fun h => ?_, fun h => ?_⟩ e2 e3) (hS.put e2 e3 ?_) h5 h6 hL
  · rw [hsh]
    refine ⟨_, e1, a2, a3, by show (scr.slots.setIfInBounds _ _).size = n; rw [Array.size_setIfInBounds]; exact a4, fun j hj => ?_⟩
    have hj : j < n := hj
    show (scr.slots.setIfInBounds _ _)[j]? = _
    by_cases h : j = i.toNat
    · subst h
      rw [Array.getElem?_setIfInBounds_self_of_lt (by rw [a4]; exact hj)]
      simp [x_up]
    · rw [Array.getElem?_setIfInBounds_ne (Ne.symm h), a5 j hj]
      simp [x_up, h]
  · rw [hsh] at h; simp at h
  · rw [hsh] at h; simp at h
  · show G.1 ≤ x_ad G c
    rw [x_ad_lt hP.1 hN]; omega
theorem X_alen {c n : Nat} (hd : decode κ.2.1 pc = .ok (.arraylength, 1)) (hsh : x_sh c = (0, n)) (hlive : x_live N c) (kk : X κ d bc bs (pc + 1) L (ii (n : Int) :: st) N I Rf Q) : X κ d bc bs pc L (rr c :: st) N I Rf Q := by
  intro G p l e Rm s m args below meth c' H locs cells slots mc ms ls Z hC h1 h2 h3 h4 hE hP hS h5 h6 hL
  have hX := (hP.2.2.2.2 c hlive).1 (by rw [hsh])
  rw [hsh] at hX
  obtain ⟨scr, a1, a2, a3, a4, a5⟩ := hX
  have a4 : scr.slots.size = n := a4
  exact W.alen (n := Int32.ofInt (n : Int)) hC.1 hC.2.1 a1 a2 (by rw [a4]; exact (Int32.ofInt_eq_ofNat).symm) rfl rfl hd (kk hC h1 h2 h3 h4 hE hP hS h5 h6 hL)
theorem X_alenR {c n : Nat} (hd : decode κ.2.1 pc = .ok (.arraylength, 1)) (hsh : x_sh c = (1, n)) (hlive : x_live N c) (kk : X κ d bc bs (pc + 1) L (ii (n : Int) :: st) N I Rf Q) : X κ d bc bs pc L (rr c :: st) N I Rf Q := by
  intro G p l e Rm s m args below meth c' H locs cells slots mc ms ls Z hC h1 h2 h3 h4 hE hP hS h5 h6 hL
  obtain ⟨cS, a1, a2, a3⟩ := (hP.2.2.2.2 c hlive).2.1 (by rw [hsh])
  rw [hsh] at a1
  exact W.alen (n := Int32.ofInt (n : Int)) hC.1 hC.2.1 a1 (a2 _ _) (by rw [arrV_size]; exact (Int32.ofInt_eq_ofNat).symm) rfl rfl hd (kk hC h1 h2 h3 h4 hE hP hS h5 h6 hL)
theorem X_aald {c n c1 : Nat} {i : Int} (hd : decode κ.2.1 pc = .ok (.aaload, 1)) (hsh : x_sh c = (1, n)) (hlive : x_live N c) (hi : 0 ≤ i ∧ i < n) (hr : Rf c i.toNat = some c1) (kk : X κ d bc bs (pc + 1) L (rr c1 :: st) N I Rf Q) : X κ d bc bs pc L (ii i :: rr c :: st) N I Rf Q := by
  intro G p l e Rm s m args below meth c' H locs cells slots mc ms ls Z hC h1 h2 h3 h4 hE hP hS h5 h6 hL
  obtain ⟨cS, a1, a2, a3⟩ := (hP.2.2.2.2 c hlive).2.1 (by rw [hsh])
  have hn : n < 1000 := by have := x_sh_lt c; rw [hsh] at this; exact this
  rw [hsh] at a1
  exact W.aald (v := .ref (x_ad G c1)) (ty := .object "HeatShelves$State") hC.1 hC.2.1 a1 (a2 _ _) rfl (fun q => by cases q) (by rw [arrV_size]; exact x_in hi (by omega)) (by rw [x_cl (by omega), arrV_read _ _ (by show i.toNat < n; omega), hr]; rfl) rfl rfl hd (kk hC h1 h2 h3 h4 hE hP hS h5 h6 hL)
theorem X_aast {c n c1 ci : Nat} {i : Int} (hd : decode κ.2.1 pc = .ok (.aastore, 1)) (hsh : x_sh c = (1, n)) (hN : c < N) (hi : 0 ≤ i ∧ i < n) (hsh1 : x_sh c1 = (2, 3)) (hN1 : c1 < N) (kk : X κ d bc bs (pc + 1) L st N I (x_upR Rf c i.toNat (some c1)) Q) : X κ d bc bs pc L (rr c1 :: ii i :: rr c :: st) N I Rf Q := by
  intro G p l e Rm s m args below meth c' H locs cells slots mc ms ls Z hC h1 h2 h3 h4 hE hP hS h5 h6 hL
  obtain ⟨cS, a1, a2, a3⟩ := (hP.2.2.2.2 c (Or.inl hN)).2.1 (by rw [hsh])
  have hn : n < 1000 := by have := x_sh_lt c; rw [hsh] at this; exact this
  rw [hsh] at a1
  have hob := (hP.2.2.2.2 c1 (Or.inl hN1)).2.2 (by rw [hsh1])
  rw [hsh1] at hob
  obtain ⟨cellV, g1, g2, g3, -⟩ := hob
  have hcls : ClassAt s "HeatShelves$State" (G.2.1 3) := (hC.2.2.2.2.2.1.1 3 _ rfl).2
  obtain ⟨kA, comp, k1, k2, k3, k4⟩ := a3
  have hcomp : comp = G.2.1 3 := Option.some.inj (k3.symm.trans hcls.1)
  subst hcomp
  obtain ⟨kC, hkC, hkk⟩ := id hcls.2
  have hi2 := x_in hi (by omega : n < 2147483648)
  refine W.aast (j := Int32.ofInt i) hC.1 hC.2.1 a1 (fun q h => by cases h) (fun h => by cases h) k1 k2 rfl hkC ⟨fun q => hi2 (Or.inl q), by rw [arrV_size]; exact Nat.not_le.mp fun q => hi2 (Or.inr q)⟩ g1 (fun q h => by rw [g3] at h; cases h) (by rw [g2]; exact hkC) (by rw [g2]; exact va_assign hcls) rfl rfl hd fun H' e1 e2 e3 => ?_
  rw [x_cl (by omega), arrV_store] at e1
  refine kk hC h1 h2 h3 h4 hE (hP.set hN (fun _ _ => rfl) (fun c' h => x_upR_ne h) ⟨fun h => ?_, fun _ => ?_, fun h => ?_⟩ e2 e3) (hS.put e2 e3 ?_) h5 h6 hL
  · rw [hsh] at h; simp at h
  · rw [hsh]
    refine ⟨cS, ?_, a2, kA, G.2.1 3, k1, k2, k3, k4⟩
    rw [e1]
    congr 2
    funext q
    unfold updV x_upR
    by_cases h : q = i.toNat
    · subst h; simp [va_rf]
    · simp [h]
  · rw [hsh] at h; simp at h
  · show G.1 ≤ x_ad G c
    rw [x_ad_lt hP.1 hN]; omega
/-! the library's own: min, max, abs, copies of rows -/
theorem x_rsum {G : xG} {rest : List xAV} (h : rest.length ≤ 8) : ((rest.map (x_v G)).map fun v => v.category).sum ≤ 8 := by
  have e : ∀ l : List xAV, ((l.map (x_v G)).map fun v => v.category).sum = l.length := by
    intro l
    induction l with
    | nil => rfl
    | cons a l ih => rw [List.map_cons, List.map_cons, List.sum_cons, ih, x_cat, List.length_cons]; omega
  rw [e]; exact h
theorem X_min {own : String} {idx : Nat} {a b : Int} (hd : decode κ.2.1 pc = .ok (.invokestatic idx, 3)) (ho : κ.1.cls = own) (hl : Cond.methodLink own idx Lib.Math.min.name ∈ xT) (ha : -2147483648 ≤ a ∧ a ≤ 2147483647) (hb : -2147483648 ≤ b ∧ b ≤ 2147483647) (hd1 : 1 ≤ d) (hr : st.length ≤ 8) (kk : X κ d bc bs (pc + 3) L (ii (min a b) :: st) N I Rf Q) : X κ d bc bs pc L (ii b :: ii a :: st) N I Rf Q := by
  intro G p l e Rm s m args below meth c' H locs cells slots mc ms ls Z hC h1 h2 h3 h4 hE hP hS h5 h6 hL
  subst ho
  refine va_mmin (x := Int32.ofInt a) (y := Int32.ofInt b) hC.1 hC.2.1 (hC.2.2.1.trans hL.1.symm) hC.2.2.2.1 (hC.2.2.2.2.1 _ hl) (hC.2.2.2.2.1 _ xw_min_static) (hC.2.2.2.2.1 _ xw_math_init) (hC.2.2.2.2.1 _ xw_min_code) (by omega) (by have := x_rsum (G := G) hr; omega) (by omega) (by omega) hd ?_
  have e : (if Int32.ofInt b < Int32.ofInt a then Int32.ofInt b else Int32.ofInt a) = Int32.ofInt (min a b) := by
    by_cases h : b < a
    · rw [if_pos ((x_lt hb ha).mpr h)]; congr 1; omega
    · rw [if_neg (fun q => h ((x_lt hb ha).mp q))]; congr 1; omega
  rw [e]
  exact kk hC h1 h2 h3 h4 hE hP hS h5 h6 hL
theorem X_max {own : String} {idx : Nat} {a b : Int} (hd : decode κ.2.1 pc = .ok (.invokestatic idx, 3)) (ho : κ.1.cls = own) (hl : Cond.methodLink own idx Lib.Math.max.name ∈ xT) (ha : -2147483648 ≤ a ∧ a ≤ 2147483647) (hb : -2147483648 ≤ b ∧ b ≤ 2147483647) (hd1 : 1 ≤ d) (hr : st.length ≤ 8) (kk : X κ d bc bs (pc + 3) L (ii (max a b) :: st) N I Rf Q) : X κ d bc bs pc L (ii b :: ii a :: st) N I Rf Q := by
  intro G p l e Rm s m args below meth c' H locs cells slots mc ms ls Z hC h1 h2 h3 h4 hE hP hS h5 h6 hL
  subst ho
  refine va_mmax (x := Int32.ofInt a) (y := Int32.ofInt b) hC.1 hC.2.1 (hC.2.2.1.trans hL.1.symm) hC.2.2.2.1 (hC.2.2.2.2.1 _ hl) (hC.2.2.2.2.1 _ xw_max_static) (hC.2.2.2.2.1 _ xw_math_init) (hC.2.2.2.2.1 _ xw_max_code) (by omega) (by have := x_rsum (G := G) hr; omega) (by omega) (by omega) hd ?_
  have e : (if Int32.ofInt a < Int32.ofInt b then Int32.ofInt b else Int32.ofInt a) = Int32.ofInt (max a b) := by
    by_cases h : a < b
    · rw [if_pos ((x_lt ha hb).mpr h)]; congr 1; omega
    · rw [if_neg (fun q => h ((x_lt ha hb).mp q))]; congr 1; omega
  rw [e]
  exact kk hC h1 h2 h3 h4 hE hP hS h5 h6 hL
theorem X_abs {own : String} {idx : Nat} {a : Int} (hd : decode κ.2.1 pc = .ok (.invokestatic idx, 3)) (ho : κ.1.cls = own) (hl : Cond.methodLink own idx Lib.Math.abs.name ∈ xT) (ha : -2147483647 ≤ a ∧ a ≤ 2147483647) (hd1 : 1 ≤ d) (hr : st.length ≤ 8) (kk : X κ d bc bs (pc + 3) L (ii (if 0 ≤ a then a else -a) :: st) N I Rf Q) : X κ d bc bs pc L (ii a :: st) N I Rf Q := by
  intro G p l e Rm s m args below meth c' H locs cells slots mc ms ls Z hC h1 h2 h3 h4 hE hP hS h5 h6 hL
  subst ho
  refine va_mabs (x := Int32.ofInt a) hC.1 hC.2.1 (hC.2.2.1.trans hL.1.symm) hC.2.2.2.1 (hC.2.2.2.2.1 _ hl) (hC.2.2.2.2.1 _ xw_abs_static) (hC.2.2.2.2.1 _ xw_math_init) (hC.2.2.2.2.1 _ xw_abs_code) (by omega) (by have := x_rsum (G := G) hr; omega) (by omega) (by omega) hd ?_
  have e : (if 0 ≤ Int32.ofInt a then Int32.ofInt a else 0 - Int32.ofInt a) = Int32.ofInt (if 0 ≤ a then a else -a) := by
    rw [x_zero]
    by_cases h : 0 ≤ a
    · rw [if_pos ((x_le (by omega) (by omega)).mpr h), if_pos h]
    · rw [if_neg (fun q => h ((x_le (by omega) (by omega)).mp q)), if_neg h, ← Int32.ofInt_sub]; congr 1; omega
  rw [e]
  exact kk hC h1 h2 h3 h4 hE hP hS h5 h6 hL
theorem X_copy {own : String} {idx c0 c1 n0 n1 : Nat} {n : Int} (hd : decode κ.2.1 pc = .ok (.invokestatic idx, 3)) (ho : κ.1.cls = own) (hl : Cond.methodLink own idx arraycopyName ∈ xT) (hsh0 : x_sh c0 = (0, n0)) (hl0 : x_live N c0) (hsh1 : x_sh c1 = (0, n1)) (hN : c1 < N) (hn : 0 ≤ n ∧ n ≤ n0 ∧ n ≤ n1) (hd1 : 1 ≤ d) (hr : st.length ≤ 8) (kk : X κ d bc bs (pc + 3) L st N (x_cp I c0 c1 n.toNat) Rf Q) : X κ d bc bs pc L (ii n :: ii 0 :: rr c1 :: ii 0 :: rr c0 :: st) N I Rf Q := by
  intro G p l e Rm s m args below meth c' H locs cells slots mc ms ls Z hC h1 h2 h3 h4 hE hP hS h5 h6 hL
  subst ho
  have hn0 : n0 < 1000 := by have := x_sh_lt c0; rw [hsh0] at this; exact this
  have hn1 : n1 < 1000 := by have := x_sh_lt c1; rw [hsh1] at this; exact this
  have hX0 := (hP.2.2.2.2 c0 hl0).1 (by rw [hsh0])
  have hX1 := (hP.2.2.2.2 c1 (Or.inl hN)).1 (by rw [hsh1])
  rw [hsh0] at hX0
  rw [hsh1] at hX1
  obtain ⟨s0, a1, a2, a3, a4, a5⟩ := hX0
  obtain ⟨s1, b1, b2, b3, b4, b5⟩ := hX1
  have a4 : s0.slots.size = n0 := a4
  have b4 : s1.slots.size = n1 := b4
  have ez : (Int32.ofInt 0).toNatClampNeg = 0 := rfl
  have en : (Int32.ofInt n).toNatClampNeg = n.toNat := x_cl (by omega)
  have hst0 : (s0.stretch 0 n.toNat).length = n.toNat := by simp [Cell.stretch]
  obtain ⟨ho1, k0, hk0, cm0, hkk0⟩ := id a2
  obtain ⟨ho2, k1, hk1, cm1, hkk1⟩ := id b2
  intro T hT Xs
  obtain ⟨vm', X', step⟩ := Xs.arraycopy hC.1 hC.2.2.2.1 (hC.2.2.2.2.1 _ hl) (hC.2.2.2.2.1 _ xw_acp_native) (hC.2.2.2.2.1 _ xw_acp_static) (hC.2.2.2.2.1 _ xw_sys_init) (src := x_ad G c0) (dst := x_ad G c1) (cs := s0) (cd := s1) (srcPos := Int32.ofInt 0) (destPos := Int32.ofInt 0) (n := Int32.ofInt n) (by rw [hT]; exact a1) (by rw [hT]; exact b1) ho1 ho2 a3 b3 hk0 hk1 hkk0 hkk1 rfl (by decide) (by decide) (fun q => by rw [x_zero, x_lt (by omega) (by omega)] at q; omega)
    (by rw [x_ti (by omega), x_ti (by omega), a4]; omega) (by rw [x_ti (by omega), x_ti (by omega), b4]; omega)
    (fun vm₁ _ i hi => by
      rw [en] at hi
      have e : s0.slots.getD ((Int32.ofInt 0).toNatClampNeg + i) .null = .int (Int32.ofInt (I c0 i)) := by
        rw [ez, Nat.zero_add, Array.getD_eq_getD_getElem?, a5 i (by show i < n0; omega)]
        rfl
      rw [e]
      exact ⟨rfl, trivial⟩)
    (g := F0 m pc ls ((ii n :: ii 0 :: rr c1 :: ii 0 :: rr c0 :: st).map (x_v G))) rfl (by rw [hC.2.2.1]; exact hL.1) (rest := st.map (x_v G)) rfl (by rw [hC.2.1]; exact hd) (by omega) (by
      have h9 := x_rsum (G := G) hr
      have h8 : nativeFrameWords "java/lang/System" "arraycopy" 5 ≤ 10 := by decide
      show 2 * 0 + _ + _ ≤ _
      omega)
  have hl1 : x_ad G c1 < H.size := (Array.getElem?_eq_some_iff.mp b1).1
  have ecop : copied s0 s1 (Int32.ofInt 0) (Int32.ofInt 0) (Int32.ofInt n) = s1.storeRun 0 (s0.stretch 0 n.toNat) := by
    show s1.storeRun (Int32.ofInt 0).toNatClampNeg (s0.stretch (Int32.ofInt 0).toNatClampNeg (Int32.ofInt n).toNatClampNeg) = _
    rw [ez, en]
  rw [ecop] at X' step
  generalize hcc : s1.storeRun 0 (s0.stretch 0 n.toNat) = s2 at X' step
  obtain ⟨f1, f2, f3, -, -⟩ := Cell.storeRun_facts s1 0 (s0.stretch 0 n.toNat)
  rw [hcc] at f1 f2 f3
  have hget : ∀ j : Nat, s2.slots[j]? = if 0 ≤ j ∧ j < 0 + (s0.stretch 0 n.toNat).length then (s0.stretch 0 n.toNat)[j - 0]? else s1.slots[j]? := fun j => by
    rw [← hcc]
    exact Cell.storeRun_get s1 0 _ j (by rw [hst0, b4]; omega)
  have hheap : ((T.setVm vm').setCell (x_ad G c1) s2).heap = H.setIfInBounds (x_ad G c1) s2 := by rw [← hT]; rfl
  have oq : ∀ q : Nat, q ≠ x_ad G c1 → (H.setIfInBounds (x_ad G c1) s2)[q]? = H[q]? := fun q hq => by simp [Array.getElem?_setIfInBounds, Ne.symm hq]
  have hAd : x_A G (x_ad G c1) := by
    show G.1 ≤ x_ad G c1
    rw [x_ad_lt hP.1 hN]; omega
  have hcell : x_cell G (x_cp I c0 c1 n.toNat) Rf s (H.setIfInBounds (x_ad G c1) s2) c1 := by
    refine ⟨fun _ => ?_, fun h => ?_, fun h => ?_⟩
    · rw [hsh1]
      refine ⟨s2, by simp [Array.getElem?_setIfInBounds, hl1], ?_, by rw [f2]; exact b3, by rw [f3]; exact b4, fun j hj => ?_⟩
      · show (∀ k, s2.vm ≠ .statics k) ∧ _
        rw [f2, f1]
        exact b2
      · have hj : j < n1 := hj
        rw [hget j, hst0]
        by_cases h : j < n.toNat
        · rw [if_pos (by omega)]
          show ((List.range n.toNat).map fun i => s0.slots.getD (0 + i) .null)[j - 0]? = _
          rw [List.getElem?_map, List.getElem?_range (by omega), Option.map_some, Array.getD_eq_getD_getElem?, Nat.zero_add, Nat.sub_zero, a5 j (by show j < n0; omega)]
          simp [x_cp, h]
        · rw [if_neg (by omega), b5 j hj]
          simp [x_cp, h]
    · rw [hsh1] at h; simp at h
    · rw [hsh1] at h; simp at h
  obtain ⟨t, t1, t2⟩ := kk hC h1 h2 h3 h4 hE (hP.set (H' := H.setIfInBounds (x_ad G c1) s2) hN (fun c' h => by funext j; simp [x_cp, h]) (fun _ _ => rfl) hcell (by simp) oq) ⟨by simp; exact hS.1, fun q g1 g2 => by
      rw [oq q (fun e => g2 (by rw [e]; exact hAd))]
      exact hS.2.1 q g1 g2, fun q hq => by
      rcases List.mem_append.mp hq with h | h
      · exact hS.2.2 q h
      · obtain ⟨z, -, hz⟩ := List.mem_map.mp h
        rw [← hz]
        exact hAd⟩ h5 h6 hL _ hheap X'
  exact ⟨t, step t t1, t2⟩
end XR
