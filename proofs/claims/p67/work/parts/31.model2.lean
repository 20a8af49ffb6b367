/-! the model's queue, its audit, its penance -/
theorem sQ_MR {w g : Nat → Nat} (h : sQ w g) (hB : okB w) : (∀ q f, cF g q f = cF w q f) ∧ (∀ q, cQ g q = cQ w q) ∧ ∀ q, q % 6 < w 3 → cS g q = cS w q ∧ susp g q = susp w q := by
  obtain ⟨s1, s2, s3, s4⟩ := h
  have b3 := b_3 hB
  have hc := sT_c s1 hB
  refine ⟨hc.1, hc.2.1, fun q hq => ?_⟩
  have e : cS g q = cS w q := by
    unfold cS
    rw [hc.2.1, sD_F s2 (by omega)]
    congr 1
    funext f
    exact hc.1 q f
  refine ⟨e, ?_⟩
  unfold susp
  rw [e, hc.2.1, s4 1 (by omega), s4 2 (by omega)]
theorem gAud_skip {w : Nat → Nat} (hw : Ok w) {p : Nat} (hp : p < 6) : ∀ n, w 3 + n ≤ 6 → gAud w (6 * p + (w 3 + n)) = gAud w (6 * p + w 3) := by
  intro n
  induction n with
  | zero => intro _; rfl
  | succ n ih =>
    intro hn
    have e : gAud w (6 * p + (w 3 + (n + 1))) = gAud1 w (6 * p + (w 3 + n)) (gAud w (6 * p + (w 3 + n))) := rfl
    rw [e]
    unfold gAud1
    rw [susp_0 hw.1 (cQ_0 hw.1 hw.2.2.2.1 (by omega) (Or.inl (by omega))), if_neg (fun h => Bool.false_ne_true h.1)]
    exact ih (by omega)
theorem gAud_end {w : Nat → Nat} (hw : Ok w) : ∀ n, 6 * w 4 + n ≤ 36 → gAud w (6 * w 4 + n) = gAud w (6 * w 4) := by
  intro n
  induction n with
  | zero => intro _; rfl
  | succ n ih =>
    intro hn
    have e : gAud w (6 * w 4 + (n + 1)) = gAud1 w (6 * w 4 + n) (gAud w (6 * w 4 + n)) := rfl
    rw [e]
    unfold gAud1
    have e2 := cQ_0 (p := (6 * w 4 + n) / 6) (d := (6 * w 4 + n) % 6) hw.1 hw.2.2.2.1 (by omega) (Or.inr (by omega))
    rw [show 6 * ((6 * w 4 + n) / 6) + (6 * w 4 + n) % 6 = 6 * w 4 + n by omega] at e2
    rw [susp_0 hw.1 e2, if_neg (fun h => Bool.false_ne_true h.1)]
    exact ih (by omega)
