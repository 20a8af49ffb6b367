/-! the model's words and names -/
/-- the code of the first k places of a word -/
def wdA (b : Nat → Nat) (s n : Nat) : Nat → Nat
  | 0 => 0
  | k + 1 => wdA b s n k * 27 + wdD b s n k
theorem wdA_4 {b : Nat → Nat} {s n : Nat} : wdA b s n 4 = wdC b s n := by
  unfold wdC
  show (((0 * 27 + wdD b s n 0) * 27 + wdD b s n 1) * 27 + wdD b s n 2) * 27 + wdD b s n 3 = _
  rw [Nat.zero_mul, Nat.zero_add]
def wdX (b : Nat → Nat) (s n : Nat) (t : Nat) : Bool := decide (t < n) && !isL (b (s + t))
theorem wdX_ok {b : Nat → Nat} {s n : Nat} (h1 : 1 ≤ n) (h4 : n ≤ 4) : anyF (wdX b s n) 4 0 = false ↔ wdOk b s n := by
  constructor
  · intro h
    refine ⟨h1, h4, fun i hi => ?_⟩
    have := anyF_f h i (Nat.zero_le _) (by omega)
    unfold wdX at this
    rw [decide_eq_true hi] at this
    cases hl : isL (b (s + i))
    · rw [hl] at this
      cases this
    · exact of_decide_eq_true hl
  · intro h
    cases hx : anyF (wdX b s n) 4 0
    · rfl
    · obtain ⟨j, -, -, h3⟩ := anyF_t hx
      unfold wdX at h3
      by_cases hj : j < n
      · rw [decide_eq_true hj, show isL (b (s + j)) = true from decide_eq_true (h.2.2 j hj)] at h3
        cases h3
      · rw [decide_eq_false hj] at h3
        cases h3
theorem gFind_t {g b : Nat → Nat} {s n : Nat} (h : wdOk b s n) : gFind g b s n = srch (fun p => decide (nC g p = wdC b s n)) (g 4) 0 := by
  unfold gFind
  refine srch_congr (fun j _ _ => ?_)
  by_cases c : nC g j = wdC b s n
  · rw [decide_eq_true c]
    exact @decide_eq_true _ (Classical.propDecidable _) ⟨h, c⟩
  · rw [decide_eq_false c]
    exact @decide_eq_false _ (Classical.propDecidable _) (fun x => c x.2)
theorem gFind_f {g b : Nat → Nat} {s n : Nat} (h : ¬ wdOk b s n) (h4 : g 4 < 1000) : gFind g b s n = -nI 1 := by
  unfold gFind
  rcases srch_s (p := fun p => @decide (wdOk b s n ∧ nC g p = wdC b s n) (Classical.propDecidable _)) (k := g 4) (i := 0) (by omega) with h1 | ⟨j, -, -, h3, -⟩
  · exact h1.1
  · exact absurd (@of_decide_eq_true _ (Classical.propDecidable _) h3).1 h
/-- what a search finds -/
theorem gFind_s {g b : Nat → Nat} {s n : Nat} (h4 : g 4 < 1000) : gFind g b s n = -nI 1 ∨ ∃ p, p < g 4 ∧ gFind g b s n = nI p := by
  unfold gFind
  rcases srch_s (p := fun p => @decide (wdOk b s n ∧ nC g p = wdC b s n) (Classical.propDecidable _)) (k := g 4) (i := 0) (by omega) with h1 | ⟨j, -, h2, -, h5⟩
  · exact Or.inl h1.1
  · exact Or.inr ⟨j, by omega, h5⟩
theorem gFind_new {g b : Nat → Nat} {s n : Nat} (h4 : g 4 < 1000) (hw : wdOk b s n) (h : gFind g b s n = -nI 1) : ∀ p, p < g 4 → nC g p ≠ wdC b s n := by
  unfold gFind at h
  rcases srch_s (p := fun p => @decide (wdOk b s n ∧ nC g p = wdC b s n) (Classical.propDecidable _)) (k := g 4) (i := 0) (by omega) with h1 | ⟨j, -, h2, -, h5⟩
  · intro p hp e
    have := h1.2 p (Nat.zero_le _) (by omega)
    exact (@of_decide_eq_false _ (Classical.propDecidable _) this) ⟨hw, e⟩
  · rw [h5] at h
    have := q_mn (a := j) (by omega)
    rw [this] at h
    exact h.elim
