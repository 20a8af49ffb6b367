/-! the model's penance and pardon: rows taken out from behind -/
theorem cK_congr {kp kp' : Nat → Bool} {n : Nat} (h : ∀ j, j < n → kp j = kp' j) : cK kp n = cK kp' n := sumTo_congr (fun k hk => by rw [h k hk])
def IO (g : Nat → Nat) (kp : Nat → Bool) (i : Nat) (b : Nat → Nat) : Prop := b 6 = i + (cK kp (g 6) - cK kp i) ∧ (∀ t, t ≠ 6 → t < 1291 + 3 * i → b t = g t) ∧ ∀ j, i ≤ j → j < g 6 → kp j = true → ∀ c, c < 3 → b (1291 + 3 * (i + (cK kp j - cK kp i)) + c) = g (1291 + 3 * j + c)
theorem IO_keep {g b : Nat → Nat} {kp : Nat → Bool} {i : Nat} (hi : i < g 6) (hk : kp i = true) (h : IO g kp (i + 1) b) : IO g kp i b := by
  obtain ⟨h1, h2, h3⟩ := h
  have e := cK_t hk
  have m := cK_mono (kp := kp) (show i + 1 ≤ g 6 by omega)
  refine ⟨by omega, fun t ht1 ht2 => h2 t ht1 (by omega), fun j hj1 hj2 hj3 c hc => ?_⟩
  by_cases hji : j = i
  · subst hji
    rw [Nat.sub_self, Nat.add_zero]
    exact h2 _ (by omega) (by omega)
  · have mj := cK_mono (kp := kp) (show i + 1 ≤ j by omega)
    rw [show i + (cK kp j - cK kp i) = (i + 1) + (cK kp j - cK kp (i + 1)) by omega]
    exact h3 j (by omega) hj2 hj3 c hc
theorem IO_drop {g b b' : Nat → Nat} {kp : Nat → Bool} {i : Nat} (hi : i < g 6) (hk : kp i = false) (h : IO g kp (i + 1) b) (d1 : b' 6 = b 6 - 1) (d2 : ∀ t, t ≠ 6 → t < 1291 + 3 * i → b' t = b t) (d3 : ∀ t, 1291 + 3 * i ≤ t → t < 1291 + 3 * (b 6 - 1) → b' t = b (t + 3)) : IO g kp i b' := by
  obtain ⟨h1, h2, h3⟩ := h
  have e := cK_f hk
  have m := cK_mono (kp := kp) (show i + 1 ≤ g 6 by omega)
  refine ⟨by omega, fun t ht1 ht2 => by rw [d2 t ht1 ht2]; exact h2 t ht1 (by omega), fun j hj1 hj2 hj3 c hc => ?_⟩
  have hji : j ≠ i := fun x => by subst x; rw [hk] at hj3; cases hj3
  have mj := cK_mono (kp := kp) (show i + 1 ≤ j by omega)
  have ml := cK_lt hj3 hj2
  rw [d3 _ (by omega) (by omega), ← h3 j (by omega) hj2 hj3 c hc]
  congr 1
  omega
/-! the record, from behind -/
def IT (g : Nat → Nat) (kp : Nat → Bool) (i : Nat) (b : Nat → Nat) : Prop := b 5 = i + (cK kp (g 5) - cK kp i) ∧ (∀ t, t ≠ 5 → t < 91 + 4 * i ∨ 1291 ≤ t → b t = g t) ∧ ∀ j, i ≤ j → j < g 5 → kp j = true → ∀ c, c < 4 → b (91 + 4 * (i + (cK kp j - cK kp i)) + c) = g (91 + 4 * j + c)
theorem IT_keep {g b : Nat → Nat} {kp : Nat → Bool} {i : Nat} (hi : i < g 5) (hk : kp i = true) (h : IT g kp (i + 1) b) : IT g kp i b := by
  obtain ⟨h1, h2, h3⟩ := h
  have e := cK_t hk
  have m := cK_mono (kp := kp) (show i + 1 ≤ g 5 by omega)
  refine ⟨by omega, fun t ht1 ht2 => h2 t ht1 (by omega), fun j hj1 hj2 hj3 c hc => ?_⟩
  by_cases hji : j = i
  · subst hji
    rw [Nat.sub_self, Nat.add_zero]
    exact h2 _ (by omega) (by omega)
  · have mj := cK_mono (kp := kp) (show i + 1 ≤ j by omega)
    rw [show i + (cK kp j - cK kp i) = (i + 1) + (cK kp j - cK kp (i + 1)) by omega]
    exact h3 j (by omega) hj2 hj3 c hc
theorem IT_drop {g b b' : Nat → Nat} {kp : Nat → Bool} {i : Nat} (hi : i < g 5) (hk : kp i = false) (h : IT g kp (i + 1) b) (d1 : b' 5 = b 5 - 1) (d2 : ∀ t, t ≠ 5 → t < 91 + 4 * i ∨ 1291 ≤ t → b' t = b t) (d3 : ∀ t, 91 + 4 * i ≤ t → t < 91 + 4 * (b 5 - 1) → b' t = b (t + 4)) : IT g kp i b' := by
  obtain ⟨h1, h2, h3⟩ := h
  have e := cK_f hk
  have m := cK_mono (kp := kp) (show i + 1 ≤ g 5 by omega)
  refine ⟨by omega, fun t ht1 ht2 => by rw [d2 t ht1 ht2]; exact h2 t ht1 (by omega), fun j hj1 hj2 hj3 c hc => ?_⟩
  have hji : j ≠ i := fun x => by subst x; rw [hk] at hj3; cases hj3
  have mj := cK_mono (kp := kp) (show i + 1 ≤ j by omega)
  have ml := cK_lt hj3 hj2
  rw [d3 _ (by omega) (by omega), ← h3 j (by omega) hj2 hj3 c hc]
  congr 1
  omega
/-- when no more goes, all before is kept -/
theorem kp_all {g : Nat → Nat} {q n i : Nat} (h : qN g q i ≤ n) : ∀ j, j < i → kpT g q n j = true := by
  intro j hj
  refine decide_eq_true ?_
  by_cases c : tQ g j = q
  · have e : qN g q (j + 1) = qN g q j + 1 := by rw [qN_s, if_pos c]
    have m : qN g q (j + 1) ≤ qN g q i := sumTo_mono (by omega)
    exact Or.inr (by omega)
  · exact Or.inl c
theorem IT_all {g b : Nat → Nat} {kp : Nat → Bool} : ∀ i, i ≤ g 5 → (∀ j, j < i → kp j = true) → IT g kp i b → IT g kp 0 b := by
  intro i
  induction i with
  | zero => intro _ _ h; exact h
  | succ i ih => intro hi hk h; exact ih (by omega) (fun j hj => hk j (by omega)) (IT_keep (by omega) (hk i (by omega)) h)
/-! totals, ranks, names -/
