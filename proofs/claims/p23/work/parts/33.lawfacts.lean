/-! what the calls answer, as the law sees it -/
theorem on3 {g : Nat → Int} {n : Nat} (hG : GI g n) (w : Nat) : onF g n 0 w + onF g n 1 w + onF g n 2 w = sm (fun k => if w = 0 then 1 else gb g k w) n := by
  unfold onF
  rw [← sm_add, ← sm_add]
  refine sm_congr (fun k hk => ?_)
  have h3 := (hG.b hk).2.2.2.1
  show (if gb g k 3 = 0 then (if w = 0 then (1 : Int) else gb g k w) else 0) + (if gb g k 3 = 1 then (if w = 0 then (1 : Int) else gb g k w) else 0) + (if gb g k 3 = 2 then (if w = 0 then (1 : Int) else gb g k w) else 0) = (if w = 0 then (1 : Int) else gb g k w)
  rcases (by omega : gb g k 3 = 0 ∨ gb g k 3 = 1 ∨ gb g k 3 = 2) with e | e | e
  · rw [if_pos e, if_neg (show ¬ gb g k 3 = 1 by omega), if_neg (show ¬ gb g k 3 = 2 by omega)]; omega
  · rw [if_neg (show ¬ gb g k 3 = 0 by omega), if_pos e, if_neg (show ¬ gb g k 3 = 2 by omega)]; omega
  · rw [if_neg (show ¬ gb g k 3 = 0 by omega), if_neg (show ¬ gb g k 3 = 1 by omega), if_pos e]; omega
theorem ht_sm {g : Nat → Int} {n : Nat} (hG : GI g n) : htA g n = sm (fun k => gb g k 2) n := by
  have h := on3 hG 2
  unfold htA
  rw [h]
  exact sm_congr (fun k _ => if_neg (by decide))
theorem on_n {g : Nat → Int} {n : Nat} (hG : GI g n) : onF g n 0 0 + onF g n 1 0 + onF g n 2 0 = n := by
  have h := on3 hG 0
  rw [h, sm_congr (h := fun _ => 1) (fun k _ => if_pos rfl), sm_ones]
theorem np1_gb {g : Nat → Int} {n k j : Nat} : gb (npG g n 1) k j = gb (ntU g n (g 3)).1 k j := by
  unfold npG
  exact gN_gb (by decide)
theorem np1_on {g : Nat → Int} {n : Nat} {sh : Int} {w : Nat} (hw : w < 8) : onF (npG g n 1) n sh w = onF (ntU g n (g 3)).1 n sh w := on_congr hw (fun k _ => ⟨np1_gb, np1_gb⟩)
theorem np1_18 {g : Nat → Int} {n : Nat} : npG g n 1 18 = g 18 + (onF g n (0 : Nat) 1 * g 9 + onF g n (1 : Nat) 1 * g 10 + onF g n (2 : Nat) 1 * g 11) := by
  rw [np18]
  show (ntU g n (g 3)).1 18 = _
  rw [nt18, py18_all]
  omega
theorem ns1 {g : Nat → Int} {n : Nat} (hG : GI g n) (hI : IV g n) : nsM g n (g 3) 1 = y0 (ntU g n (g 3)).2.1 n := by
  rw [(NTr.night hG hI.1.n1).2]
  show 0 + ntM g n (g 3) = _
  omega
theorem np1_ht {g : Nat → Int} {n : Nat} (hG : GI g n) (hI : IV g n) : htA (npG g n 1) n = sm (fun k => gb g k 2 * g 0 / 100) n := by
  rw [ht_sm (hG.np 1)]
  exact sm_congr (fun k hk => by rw [np1_gb]; exact (night_k hG hI hk).2.2.1)
theorem nx_late (s : xS) : ∀ m k : Nat, nxM s m (k + 1) ≠ 1
  | 0, k => by show (-5 : Int) ≠ 1; decide
  | m + 1, k => by
    have e : nxM s (m + 1) (k + 1) = if 0 < nvM s (k + 1) then ((k + 1 + 1 : Nat) : Int) else nxM s m (k + 1 + 1) := rfl
    rw [e]
    split
    · omega
    · exact nx_late s m (k + 1)
theorem nx_1 (s : xS) : qNext s = 1 ↔ 0 < nsM s.1 s.2 (s.1 3) 1 := by
  unfold qNext
  show (if 0 < nvM s 0 then ((0 + 1 : Nat) : Int) else nxM s 98 (0 + 1)) = 1 ↔ _
  have e : nvM s 0 = nsM s.1 s.2 (s.1 3) 1 := rfl
  rw [e]
  by_cases h : 0 < nsM s.1 s.2 (s.1 3) 1
  · rw [if_pos h]
    exact ⟨fun _ => h, fun _ => rfl⟩
  · rw [if_neg h]
    exact ⟨fun q => absurd q (nx_late s 98 0), fun q => absurd q h⟩
theorem nx_bounds (s : xS) : ∀ m k : Nat, -5 ≤ nxM s m k ∧ nxM s m k ≤ k + m
  | 0, k => by show (-5 : Int) ≤ -5 ∧ (-5 : Int) ≤ (k : Int) + ((0 : Nat) : Int); omega
  | m + 1, k => by
    have h := nx_bounds s m (k + 1)
    have e : nxM s (m + 1) k = if 0 < nvM s k then ((k + 1 : Nat) : Int) else nxM s m (k + 1) := rfl
    rw [e]
    split <;> omega
/-! the best bound of heat -/
theorem hb_best {s : xS} {t : Nat} : ∀ {i : Nat}, match hbF s t i with
    | none => ∀ q : Nat, q < i → 500 * (q : Int) < s.1 2
    | some (b, l) => (∃ q : Nat, q < i ∧ b = 500 * (q : Int)) ∧ s.1 2 ≤ b ∧ l = pwH s b t ∧ ∀ q : Nat, q < i → s.1 2 ≤ 500 * (q : Int) → (500 * (q : Int) < b → l < pwH s (500 * (q : Int)) t) ∧ (b ≤ 500 * (q : Int) → l ≤ pwH s (500 * (q : Int)) t)
  | 0 => fun q h => absurd h (Nat.not_lt_zero q)
  | i + 1 => by
    have ih := hb_best (s := s) (t := t) (i := i)
    by_cases h2 : 500 * (i : Int) < s.1 2
    · have e : hbF s t (i + 1) = hbF s t i := by show (if _ then _ else _) = _; rw [if_pos h2]
      rw [e]
      cases hh : hbF s t i with
      | none =>
        rw [hh] at ih
        intro q hq
        by_cases z : q = i
        · rw [z]; exact h2
        · exact ih q (by omega)
      | some bl =>
        obtain ⟨b, l⟩ := bl
        rw [hh] at ih
        obtain ⟨⟨q0, a1, a2⟩, a3, a4, a5⟩ := ih
        refine ⟨⟨q0, by omega, a2⟩, a3, a4, fun q hq hq2 => ?_⟩
        by_cases z : q = i
        · subst z; omega
        · exact a5 q (by omega) hq2
    · cases hh : hbF s t i with
      | none =>
        have e : hbF s t (i + 1) = some (500 * (i : Int), pwH s (500 * (i : Int)) t) := by show (if _ then _ else _) = _; rw [if_neg h2, hh]
        rw [hh] at ih
        rw [e]
        refine ⟨⟨i, by omega, rfl⟩, by omega, rfl, fun q hq hq2 => ?_⟩
        by_cases z : q = i
        · subst z; exact ⟨fun w => by omega, fun _ => Int.le_refl _⟩
        · have := ih q (by omega); omega
      | some bl =>
        obtain ⟨b, l⟩ := bl
        rw [hh] at ih
        obtain ⟨⟨q0, a1, a2⟩, a3, a4, a5⟩ := ih
        by_cases hl : pwH s (500 * (i : Int)) t < l
        · have e : hbF s t (i + 1) = some (500 * (i : Int), pwH s (500 * (i : Int)) t) := by show (if _ then _ else _) = _; rw [if_neg h2, hh]; show (if _ then _ else _) = _; rw [if_pos hl]
          rw [e]
          refine ⟨⟨i, by omega, rfl⟩, by omega, rfl, fun q hq hq2 => ?_⟩
          by_cases z : q = i
          · subst z; exact ⟨fun w => by omega, fun _ => Int.le_refl _⟩
          · have hq3 := a5 q (by omega) hq2
            refine ⟨fun w => ?_, fun w => by omega⟩
            rcases (by omega : 500 * (q : Int) < b ∨ b ≤ 500 * (q : Int)) with v | v
            · have := hq3.1 v; omega
            · have := hq3.2 v; omega
        · have e : hbF s t (i + 1) = some (b, l) := by show (if _ then _ else _) = _; rw [if_neg h2, hh]; show (if _ then _ else _) = _; rw [if_neg hl]
          rw [e]
          refine ⟨⟨q0, by omega, a2⟩, a3, a4, fun q hq hq2 => ?_⟩
          by_cases z : q = i
          · subst z; exact ⟨fun w => by omega, fun w => by omega⟩
          · exact a5 q (by omega) hq2
theorem gN_gN {g : Nat → Int} {a b : Int} : gN (gN g 1 a) 1 b = gN g 1 b := by
  funext i
  unfold gN
  by_cases e : i = 1
  · rw [if_pos e, if_pos e]
  · rw [if_neg e, if_neg e, if_neg e]
theorem gN_self {g : Nat → Int} {a : Nat} : gN g a (g a) = g := by
  funext i
  unfold gN
  by_cases e : i = a
  · rw [if_pos e, e]
  · rw [if_neg e]
theorem pw_eq {g : Nat → Int} {n t : Nat} {hot : Int} : npG (gN g 1 hot) n t 18 - gN g 1 hot 18 = pwH (g, n) hot t := by
  unfold pwH
  rw [gN_num (i := 18), if_neg (by decide)]
