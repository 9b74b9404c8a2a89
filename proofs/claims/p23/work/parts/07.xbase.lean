/-- the words that every method here may use: those of the law's tables that stay -/
def xT : List Cond := lw_tbl.filter goodWord
theorem xT_of {w : Cond} (h : w ∈ lw_tbl) (hg : goodWord w = true) : w ∈ xT := List.mem_filter.mpr ⟨h, hg⟩
theorem xT_in {w : Cond} (h : w ∈ xT) : w ∈ lw_tbl := (List.mem_filter.mp h).1
theorem xT_good {w : Cond} (h : w ∈ xT) : (w.onTables && w.keeps) = true ∨ ∃ ty, w = .arrayClass ty := good_of_word (List.mem_filter.mp h).2
/-! A layer over the kit's rows: memory is two functions of cell number and place (whole numbers, references), values on the stack and in the locals are whole numbers or cell numbers; addresses and the machine's state are hidden in the judgement 'X'. -/
abbrev xAV : Type := Int ⊕ Option Nat
abbrev ii (z : Int) : xAV := Sum.inl z
abbrev rr (c : Nat) : xAV := Sum.inr (some c)
abbrev xG : Type := Nat × (Nat → ClassId) × (Nat → Nat → Nat) × Nat × Nat
abbrev xK : Type := MethodName × ByteArray × Nat × Option FieldType
abbrev xI : Type := Nat → Nat → Int
abbrev xR : Type := Nat → Nat → Option Nat
abbrev xQ : Type := Option xAV → Nat → xI → xR → Prop
def x_ad (G : xG) (c : Nat) : Nat := if c = 100 then G.2.2.2.1 else if c = 101 then G.2.2.2.2 else G.1 + c
def x_v (G : xG) : xAV → Value
  | .inl z => .int (Int32.ofInt z)
  | .inr o => va_rf (o.map (x_ad G))
theorem x_cat (G : xG) (v : xAV) : (x_v G v).category = 1 := by
  rcases v with z | o
  · rfl
  · cases o <;> rfl
/-- the shape: which cell is what: (0, n) a row of n numbers, (1, n) a row of n references, (2, k) an object of kind k -/
def x_shL : List (Nat × Nat) := [(2, 4), (2, 3), (0, 23), (0, 3), (0, 24), (0, 24), (0, 24), (0, 24), (0, 24), (0, 24), (0, 24), (0, 24), (2, 3), (0, 23), (0, 3), (0, 24), (0, 24), (0, 24), (0, 24), (0, 24), (0, 24), (0, 24), (0, 24), (2, 3), (0, 23), (0, 3), (0, 24), (0, 24), (0, 24), (0, 24), (0, 24), (0, 24), (0, 24), (0, 24), (2, 0), (1, 4), (2, 3), (0, 23), (0, 3), (0, 24), (0, 24), (0, 24), (0, 24), (0, 24), (0, 24), (0, 24), (0, 24), (2, 3), (0, 23), (0, 3), (0, 24), (0, 24), (0, 24), (0, 24), (0, 24), (0, 24), (0, 24), (0, 24), (2, 3), (0, 23), (0, 3), (0, 24), (0, 24), (0, 24), (0, 24), (0, 24), (0, 24), (0, 24), (0, 24), (2, 3), (0, 23), (0, 3), (0, 24), (0, 24), (0, 24), (0, 24), (0, 24), (0, 24), (0, 24), (0, 24), (2, 1), (0, 24), (0, 24), (2, 2), (0, 60), (0, 30), (0, 30), (0, 30), (0, 24), (0, 24)]
def x_sh (c : Nat) : Nat × Nat := if c = 100 ∨ c = 101 then (0, 15) else x_shL.getD c (9, 0)
def x_ir (ci k : Nat) : Bool := match ci, k with
  | 0, 0 => true
  | 1, _ => true
  | 2, 0 => true
  | 2, 2 => true
  | 2, 3 => true
  | 2, 4 => true
  | 3, _ => true
  | 4, 3 => false
  | 4, _ => true
  | 5, 0 => true
  | 5, 1 => true
  | 5, 3 => true
  | 5, 5 => true
  | 5, 7 => true
  | _, _ => false
def x_nf (ci : Nat) : Nat := match ci with
  | 0 => 3
  | 1 => 2
  | 2 => 7
  | 3 => 10
  | 4 => 7
  | 5 => 8
  | _ => 0
def x_fv (G : xG) (I : xI) (Rf : xR) (c ci k : Nat) : Value := if x_ir ci k = true then va_rf ((Rf c k).map (x_ad G)) else .int (Int32.ofInt (I c k))
def x_cell (G : xG) (I : xI) (Rf : xR) (U : State) (H : Heap) (c : Nat) : Prop :=
  ((x_sh c).1 = 0 → va_X (x_ad G c) (x_sh c).2 (fun j => Int32.ofInt (I c j)) U H) ∧
  ((x_sh c).1 = 1 → ∃ cS : ClassId, H[x_ad G c]? = some (arrV cS (x_sh c).2 (fun j => va_rf ((Rf c j).map (x_ad G)))) ∧ ArrOfT U cS (.object "HeatShelves$State") ∧ va_RA U cS (.object "HeatShelves$State")) ∧
  ((x_sh c).1 = 2 → t_OB (x_ad G c) (G.2.1 (x_sh c).2) (x_nf (x_sh c).2) (G.2.2.1 (x_sh c).2) H (x_fv G I Rf c (x_sh c).2))
def x_live (N c : Nat) : Prop := c < N ∨ c = 100 ∨ c = 101
def x_P (G : xG) (N : Nat) (I : xI) (Rf : xR) (U : State) (H : Heap) : Prop := N ≤ 90 ∧ H.size = G.1 + N ∧ G.2.2.2.1 < G.1 ∧ G.2.2.2.2 < G.1 ∧ ∀ c, x_live N c → x_cell G I Rf U H c
def x_A (G : xG) : Nat → Prop := fun q => G.1 ≤ q
def x_NTf : List (String × Nat × String × String × String × String) := [("HeatShelves$State", 42, "HeatShelves", "FIRST_VALUES", "[I", "HeatShelves"), ("HeatShelves$Night", 18, "HeatShelves$State", "numbers", "[I", "HeatShelves"), ("HeatShelves", 142, "HeatShelves$State", "numbers", "[I", "HeatShelves"), ("HeatShelves", 145, "HeatShelves$State", "taken", "[I", "HeatShelves"), ("HeatShelves", 104, "HeatShelves$State", "names", "[I", "HeatShelves"), ("HeatShelves$Night", 84, "HeatShelves$State", "sizes", "[I", "HeatShelves"), ("HeatShelves", 115, "HeatShelves$State", "sizes", "[I", "HeatShelves"), ("HeatShelves$Night", 81, "HeatShelves$State", "heats", "[I", "HeatShelves"), ("HeatShelves", 118, "HeatShelves$State", "heats", "[I", "HeatShelves"), ("HeatShelves$Night", 62, "HeatShelves$State", "shelves", "[I", "HeatShelves"), ("HeatShelves", 121, "HeatShelves$State", "shelves", "[I", "HeatShelves"), ("HeatShelves$Night", 56, "HeatShelves$State", "pins", "[I", "HeatShelves"), ("HeatShelves", 127, "HeatShelves$State", "pins", "[I", "HeatShelves"), ("HeatShelves$Night", 59, "HeatShelves$State", "promises", "[I", "HeatShelves"), ("HeatShelves", 130, "HeatShelves$State", "promises", "[I", "HeatShelves"), ("HeatShelves", 133, "HeatShelves$State", "readings", "[I", "HeatShelves"), ("HeatShelves", 136, "HeatShelves$State", "moves", "[I", "HeatShelves"), ("HeatShelves", 97, "HeatShelves$History", "count", "I", "HeatShelves"), ("HeatShelves", 198, "HeatShelves$Night", "reasons", "[I", "HeatShelves"), ("HeatShelves", 163, "HeatShelves$Orders", "length", "I", "HeatShelves"), ("HeatShelves$State", 115, "HeatShelves", "GREATEST_VALUES", "[I", "HeatShelves")]
def x_NTm : List (String × Nat × MethodName × String) := [("HeatShelves", 9, ⟨"HeatShelves$State", "<init>", "()V"⟩, "HeatShelves"), ("HeatShelves", 28, ⟨"HeatShelves$History", "<init>", "()V"⟩, "HeatShelves"), ("HeatShelves$History", 24, ⟨"HeatShelves$State", "<init>", "()V"⟩, "HeatShelves"), ("HeatShelves", 35, ⟨"HeatShelves$Night", "<init>", "()V"⟩, "HeatShelves"), ("HeatShelves", 42, ⟨"HeatShelves$Orders", "<init>", "()V"⟩, "HeatShelves"), ("HeatShelves", 47, ⟨"HeatShelves$State", "copyFrom", "(LHeatShelves$State;)V"⟩, "HeatShelves"), ("HeatShelves$State", 45, ⟨"HeatShelves", "copyRow", "([I[I)V"⟩, "HeatShelves"), ("HeatShelves", 51, ⟨"HeatShelves$State", "addBlock", "(I)I"⟩, "HeatShelves"), ("HeatShelves$State", 49, ⟨"HeatShelves", "at", "([II)I"⟩, "HeatShelves"), ("HeatShelves$State", 67, ⟨"HeatShelves", "put", "([III)V"⟩, "HeatShelves"), ("HeatShelves$State", 71, ⟨"HeatShelves", "raise", "([III)V"⟩, "HeatShelves"), ("HeatShelves", 183, ⟨"HeatShelves$History", "record", "(LHeatShelves$State;)V"⟩, "HeatShelves"), ("HeatShelves$History", 29, ⟨"HeatShelves$State", "copyFrom", "(LHeatShelves$State;)V"⟩, "HeatShelves"), ("HeatShelves", 166, ⟨"HeatShelves$Night", "letPass", "(LHeatShelves$State;I)I"⟩, "HeatShelves"), ("HeatShelves$Night", 23, ⟨"HeatShelves", "at", "([II)I"⟩, "HeatShelves"), ("HeatShelves$Night", 27, ⟨"HeatShelves$State", "payNight", "()V"⟩, "HeatShelves"), ("HeatShelves$Night", 30, ⟨"HeatShelves$State", "fade", "()V"⟩, "HeatShelves"), ("HeatShelves$Night", 45, ⟨"HeatShelves$State", "countBlocks", "()I"⟩, "HeatShelves"), ("HeatShelves$Night", 49, ⟨"HeatShelves$State", "wantedShelf", "(I)I"⟩, "HeatShelves"), ("HeatShelves$Night", 53, ⟨"HeatShelves", "put", "([III)V"⟩, "HeatShelves"), ("HeatShelves$Night", 87, ⟨"HeatShelves$State", "hasRoom", "(II)Z"⟩, "HeatShelves"), ("HeatShelves$Night", 73, ⟨"HeatShelves$State", "moveTo", "(II)V"⟩, "HeatShelves"), ("HeatShelves$Night", 41, ⟨"HeatShelves", "raise", "([III)V"⟩, "HeatShelves"), ("HeatShelves", 72, ⟨"HeatShelves$State", "changeSetting", "(II)I"⟩, "HeatShelves"), ("HeatShelves", 93, ⟨"HeatShelves$History", "takeLatest", "(LHeatShelves$State;)Z"⟩, "HeatShelves"), ("HeatShelves", 98, ⟨"HeatShelves$State", "countBlocks", "()I"⟩, "HeatShelves"), ("HeatShelves", 148, ⟨"HeatShelves$State", "countOnShelf", "(I)I"⟩, "HeatShelves"), ("HeatShelves", 151, ⟨"HeatShelves$State", "heatOnShelf", "(I)I"⟩, "HeatShelves"), ("HeatShelves", 154, ⟨"HeatShelves$State", "nightPriceOfShelf", "(I)I"⟩, "HeatShelves"), ("HeatShelves", 157, ⟨"HeatShelves$State", "countPinned", "()I"⟩, "HeatShelves"), ("HeatShelves", 160, ⟨"HeatShelves$State", "heatOfAll", "()I"⟩, "HeatShelves"), ("HeatShelves", 101, ⟨"HeatShelves$State", "placeOfRank", "(I)I"⟩, "HeatShelves"), ("HeatShelves", 112, ⟨"HeatShelves$State", "find", "(I)I"⟩, "HeatShelves"), ("HeatShelves", 124, ⟨"HeatShelves$State", "wantedShelf", "(I)I"⟩, "HeatShelves"), ("HeatShelves", 58, ⟨"HeatShelves$State", "dropBlock", "(I)I"⟩, "HeatShelves"), ("HeatShelves$State", 81, ⟨"HeatShelves", "closeGap", "([II)V"⟩, "HeatShelves"), ("HeatShelves", 65, ⟨"HeatShelves$State", "turnPin", "(IZ)I"⟩, "HeatShelves"), ("HeatShelves", 61, ⟨"HeatShelves$State", "readBlock", "(II)I"⟩, "HeatShelves")]
def x_KF (G : xG) (U : State) : Prop := (∀ (ci : Nat) (q : vw_C), vwCl[ci]? = some q → u_Kn U q.1 q.2.1 q.2.2 (G.2.1 ci) (G.2.2.1 ci)) ∧ (∀ w ∈ x_NTf, va_Nw (.fieldLinkNest w.1 w.2.1 w.2.2.1 w.2.2.2.1 w.2.2.2.2.1 w.2.2.2.2.2) U) ∧ (∀ w ∈ x_NTm, va_Nw (.methodLinkNest w.1 w.2.1 w.2.2.1 w.2.2.2) U) ∧ va_Z "HeatShelves" "FIRST_VALUES" "[I" (.ref G.2.2.2.1) (x_A G) U U.heap ∧ va_Z "HeatShelves" "GREATEST_VALUES" "[I" (.ref G.2.2.2.2) (x_A G) U U.heap ∧ va_AO "HeatShelves$State" U
theorem x_live_lt {N c : Nat} {G : xG} {I : xI} {Rf : xR} {U : State} {H : Heap} (h : x_P G N I Rf U H) (hc : x_live N c) : x_ad G c < H.size := by
  obtain ⟨h1, h2, h3, h4, -⟩ := h
  unfold x_ad
  rcases hc with hc | hc | hc
  · rw [if_neg (by omega), if_neg (by omega)]; omega
  · subst hc; simp; omega
  · subst hc; simp; omega
theorem x_ad_lt {N c : Nat} {G : xG} (hN : N ≤ 90) (hc : c < N) : x_ad G c = G.1 + c := by
  unfold x_ad
  rw [if_neg (by omega), if_neg (by omega)]
theorem x_ad_ne {N c c' : Nat} {G : xG} {I : xI} {Rf : xR} {U : State} {H : Heap} (h : x_P G N I Rf U H) (hc : c < N) (hc' : x_live N c') (hne : c' ≠ c) : x_ad G c' ≠ x_ad G c := by
  obtain ⟨h1, h2, h3, h4, -⟩ := h
  rw [x_ad_lt h1 hc]
  rcases hc' with q | q | q
  · rw [x_ad_lt h1 q]; omega
  · subst q; show (if (100 : Nat) = 100 then _ else _) ≠ _; rw [if_pos rfl]; omega
  · subst q; show (if (101 : Nat) = 100 then _ else if (101 : Nat) = 101 then _ else _) ≠ _; rw [if_neg (by decide), if_pos rfl]; omega
theorem x_cell.kept {G : xG} {I I' : xI} {Rf Rf' : xR} {U : State} {H H' : Heap} {c : Nat} (h : x_cell G I Rf U H c) (hq : H'[x_ad G c]? = H[x_ad G c]?) (hI : I' c = I c) (hR : Rf' c = Rf c) : x_cell G I' Rf' U H' c := by
  obtain ⟨h1, h2, h3⟩ := h
  refine ⟨fun k => ?_, fun k => ?_, fun k => ?_⟩
  · rw [hI]; exact (h1 k).kept hq
  · obtain ⟨cS, a, b⟩ := h2 k
    exact ⟨cS, by rw [hq, hR]; exact a, b⟩
  · have e : x_fv G I' Rf' c (x_sh c).2 = x_fv G I Rf c (x_sh c).2 := by funext j; unfold x_fv; rw [hI, hR]
    rw [e]
    exact (h3 k).kept hq
theorem x_cell.moved {G : xG} {I : xI} {Rf : xR} {u U : State} {H : Heap} {c : Nat} (hvm : u.vm.Alike U.vm) (h : x_cell G I Rf u H c) : x_cell G I Rf U H c := by
  obtain ⟨h1, h2, h3⟩ := h
  refine ⟨fun k => (h1 k).moved hvm, fun k => ?_, h3⟩
  obtain ⟨cS, a, b, d⟩ := h2 k
  exact ⟨cS, a, arrOfT_moved hvm b, d.moved hvm⟩
theorem x_P.moved {G : xG} {N : Nat} {I : xI} {Rf : xR} {u U : State} {H : Heap} (hvm : u.vm.Alike U.vm) (h : x_P G N I Rf u H) : x_P G N I Rf U H := ⟨h.1, h.2.1, h.2.2.1, h.2.2.2.1, fun c hc => (h.2.2.2.2 c hc).moved hvm⟩
theorem x_P.set {G : xG} {N : Nat} {I I' : xI} {Rf Rf' : xR} {U : State} {H H' : Heap} {c : Nat} (h : x_P G N I Rf U H) (hc : c < N) (hI : ∀ c', c' ≠ c → I' c' = I c') (hR : ∀ c', c' ≠ c → Rf' c' = Rf c') (hcell : x_cell G I' Rf' U H' c) (hz : H'.size = H.size) (oq : ∀ q, q ≠ x_ad G c → H'[q]? = H[q]?) : x_P G N I' Rf' U H' := by
  refine ⟨h.1, by rw [hz]; exact h.2.1, h.2.2.1, h.2.2.2.1, fun c' hc' => ?_⟩
  by_cases e : c' = c
  · subst e; exact hcell
  · exact (h.2.2.2.2 c' hc').kept (oq _ (x_ad_ne h hc hc' e)) (hI c' e) (hR c' e)
theorem x_P.push {G : xG} {N : Nat} {I I' : xI} {Rf Rf' : xR} {U : State} {H H' : Heap} (h : x_P G N I Rf U H) (hN : N < 90) (hI : ∀ c', c' ≠ N → I' c' = I c') (hR : ∀ c', c' ≠ N → Rf' c' = Rf c') (hcell : x_cell G I' Rf' U H' N) (hz : H'.size = H.size + 1) (oq : ∀ q, q < H.size → H'[q]? = H[q]?) : x_P G (N + 1) I' Rf' U H' := by
  refine ⟨by omega, by rw [hz, h.2.1]; omega, h.2.2.1, h.2.2.2.1, fun c' hc' => ?_⟩
  by_cases e : c' = N
  · subst e; exact hcell
  · have hl : x_live N c' := by
      rcases hc' with q | q
      · exact Or.inl (by omega)
      · exact Or.inr q
    exact (h.2.2.2.2 c' hl).kept (oq _ (x_live_lt h hl)) (hI c' e) (hR c' e)
def x_up (I : xI) (c j : Nat) (z : Int) : xI := fun c' j' => if c' = c ∧ j' = j then z else I c' j'
def x_upR (R : xR) (c j : Nat) (z : Option Nat) : xR := fun c' j' => if c' = c ∧ j' = j then z else R c' j'
theorem x_up_ne {I : xI} {c j : Nat} {z : Int} {c' : Nat} (h : c' ≠ c) : x_up I c j z c' = I c' := by funext j'; simp [x_up, h]
theorem x_upR_ne {I : xR} {c j : Nat} {z : Option Nat} {c' : Nat} (h : c' ≠ c) : x_upR I c j z c' = I c' := by funext j'; simp [x_upR, h]
/-- the locals: those that hold something known -/
def x_L (G : xG) (nL : Nat) (ls : Array Slot) (L : List (Option xAV)) : Prop := ls.size = nL ∧ lv_wf ls ∧ L.length = nL ∧ ∀ (i : Nat) (a : xAV), L[i]? = some (some a) → ls[i]? = some (.val (x_v G a))
def x_as (G : xG) (L : List (Option xAV)) : List (Nat × Value) := (List.range L.length).filterMap (fun i => match L[i]? with
  | some (some a) => some (i, x_v G a)
  | _ => none)
theorem x_as_mem {G : xG} {L : List (Option xAV)} {i : Nat} {v : Value} : (i, v) ∈ x_as G L ↔ ∃ a, L[i]? = some (some a) ∧ v = x_v G a := by
  unfold x_as
  rw [List.mem_filterMap]
  constructor
  · rintro ⟨j, -, h⟩
    split at h
    · rename_i a e
      cases h
      exact ⟨a, e, rfl⟩
    · cases h
  · rintro ⟨a, e, rfl⟩
    refine ⟨i, List.mem_range.mpr (List.getElem?_eq_some_iff.mp e).1, ?_⟩
    rw [e]
theorem x_L.has {G : xG} {nL : Nat} {ls : Array Slot} {L : List (Option xAV)} (h : x_L G nL ls L) : lv_has ls nL (x_as G L) := by
  refine ⟨h.1, h.2.1, fun q hq => ?_⟩
  obtain ⟨a, e, hv⟩ := x_as_mem.mp (show (q.1, q.2) ∈ x_as G L from hq)
  rw [hv]
  exact h.2.2.2 _ _ e
theorem x_L.stored {G : xG} {nL : Nat} {ls ls' : Array Slot} {L : List (Option xAV)} {i : Nat} {a : xAV} (h : x_L G nL ls L) (hi : i < nL) (h' : lv_has ls' nL ((i, x_v G a) :: (x_as G L).filter (fun q => !(q.1 == i) && !(q.1 + 1 == i && q.2.category == 2)))) : x_L G nL ls' (L.set i (some a)) := by
  refine ⟨h'.1, h'.2.1, by rw [List.length_set]; exact h.2.2.1, fun j b hb => ?_⟩
  by_cases e : j = i
  · subst e
    rw [List.getElem?_set_self (by rw [h.2.2.1]; exact hi)] at hb
    cases hb
    exact h'.2.2 (j, x_v G a) List.mem_cons_self
  · rw [List.getElem?_set_ne (Ne.symm e)] at hb
    refine h'.2.2 (j, x_v G b) (List.mem_cons_of_mem _ (List.mem_filter.mpr ⟨x_as_mem.mpr ⟨b, hb, rfl⟩, ?_⟩))
    simp [e, x_cat]
def x_C (κ : xK) (G : xG) (p : Program) (s : State) (m : MethodId) (args : Array Value) (meth : Method) (c : Code) : Prop :=
  p.tables.exec = Jvm.exec ∧ c.code = κ.2.1 ∧ c.maxLocals = κ.2.2.1 ∧ s.vm.findClass κ.1.cls = some m.cls ∧ (∀ w ∈ xT, w.before args s = true) ∧ x_KF G s ∧ meth.name = κ.1.name ∧ G.1 ≤ s.heap.size
/-- an end of the method: which answer leaves by which instruction -/
def x_ret (κ : xK) (pc : Nat) (ro : Option xAV) (st : List xAV) : Prop :=
  (∃ z : Int, ro = some (ii z) ∧ st = [ii z] ∧ decode κ.2.1 pc = .ok (.ireturn, 1) ∧ (κ.2.2.2 = some .int ∨ (κ.2.2.2 = some .boolean ∧ (z = 0 ∨ z = 1)))) ∨
  (ro = none ∧ st = [] ∧ decode κ.2.1 pc = .ok (.return_, 1) ∧ κ.2.2.2 = none) ∨
  (∃ o : Option Nat, ro = some (.inr o) ∧ st = [.inr o] ∧ decode κ.2.1 pc = .ok (.areturn, 1) ∧ κ.2.2.2 = some (.object "HeatShelves$State"))
def x_end (κ : xK) (G : xG) (p : Program) (l : Launch) (e : Env) (Rm : Room) (s : State) (m : MethodId) (args : Array Value) (below : List Frame) (meth : Method) (c : Code) (mc ms : Nat) (Z : State → Prop) (Q : xQ) : Prop :=
  ∀ (ro : Option xAV) (N : Nat) (I : xI) (Rf : xR) (H : Heap) (locs : List Loc) (cells slots pc : Nat) (ls : Array Slot) (st : List xAV), Q ro N I Rf → x_P G N I Rf s H → va_S (x_A G) s.heap H locs → cells ≤ mc → slots ≤ ms → x_ret κ pc ro st →
    W p l e Rm s m args below meth c H locs cells slots Z (F0 m pc ls (st.map (x_v G)))
/-- the judgement: from here (method κ at pc, locals L, stack st, N cells made, memory I and Rf; d frames and bc cells with bs places left) the method comes to an end with Q -/
def X (κ : xK) (d bc bs pc : Nat) (L : List (Option xAV)) (st : List xAV) (N : Nat) (I : xI) (Rf : xR) (Q : xQ) : Prop :=
  ∀ ⦃G : xG⦄ ⦃p : Program⦄ ⦃l : Launch⦄ ⦃e : Env⦄ ⦃Rm : Room⦄ ⦃s : State⦄ ⦃m : MethodId⦄ ⦃args : Array Value⦄ ⦃below : List Frame⦄ ⦃meth : Method⦄ ⦃c : Code⦄ ⦃H : Heap⦄ ⦃locs : List Loc⦄ ⦃cells slots mc ms : Nat⦄ ⦃ls : Array Slot⦄ ⦃Z : State → Prop⦄,
    x_C κ G p s m args meth c → d ≤ Rm.frames → 40 * d ≤ Rm.locals → mc ≤ Rm.cells → ms ≤ Rm.slots → x_end κ G p l e Rm s m args below meth c mc ms Z Q → x_P G N I Rf s H → va_S (x_A G) s.heap H locs → cells + bc ≤ mc → slots + bs ≤ ms → x_L G κ.2.2.1 ls L →
    W p l e Rm s m args below meth c H locs cells slots Z (F0 m pc ls (st.map (x_v G)))
def x_room (d mc ms : Nat) : Room := { frames := d, cells := mc, slots := ms, locals := 40 * d }
def x_pre (G : xG) (as : List xAV) (N : Nat) (I : xI) (Rf : xR) : Array Value → State → Prop := fun v U => v = (as.map (x_v G)).toArray ∧ x_P G N I Rf U U.heap ∧ x_KF G U ∧ G.1 ≤ U.heap.size
def x_post (G : xG) (Q : xQ) : Array Value → State → Outcome → State → Prop := fun _ st o t => (∃ (ro : Option xAV) (N : Nat) (I : xI) (Rf : xR), o = .returned (ro.map (x_v G)) ∧ Q ro N I Rf ∧ x_P G N I Rf t t.heap) ∧ va_F (x_A G) st t
def x_ws (κ : xK) : List Cond := .code κ.1 κ.2.1 κ.2.2.1 κ.2.2.2 :: xT
/-- a method's contract: called with 'as' in memory (N, I, Rf) it returns, and Q holds of the answer and the memory -/
def Sp (κ : xK) (d mc ms : Nat) (as : List xAV) (N : Nat) (I : xI) (Rf : xR) (Q : xQ) : Prop :=
  ∀ (G : xG) (l : Launch), Met l κ.1 (x_ws κ) (x_room d mc ms) (x_pre G as N I Rf) (x_post G Q) mc ms (x_A G)
