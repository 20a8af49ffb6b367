/-! the model's penance and pardon: rows taken out from behind -/
theorem cK_congr {kp kp' : Nat → Bool} {n : Nat} (h : ∀ j, j < n → kp j = kp' j) : cK kp n = cK kp' n := sumTo_congr (fun k hk => by rw [h k hk])
def IO (g : Nat → Nat) (kp : Nat → Bool) (i : Nat) (b : Nat → Nat) : Prop := b 6 = i + (cK kp (g 6) - cK kp i) ∧ (∀ t, t ≠ 6 → t < 1291 + 3 * i → b t = g t) ∧ ∀ j, i ≤ j → j < g 6 → kp j = true → ∀ c, c < 3 → b (1291 + 3 * (i + (cK kp j - cK kp i)) + c) = g (1291 + 3 * j + c)
theorem IO_keep {g b : Nat → Nat} {kp : Nat → Bool} {i : Nat} (hi : i < g 6) (hk : kp i = true) (h : IO g kp (i + 1) b) : IO g kp i b := by
  obtain ⟨h1, h2, h3⟩ := h
  have e := cK_t hk
  have m := cK_mono (kp := kp) (show i + 1 ≤ g 6 by omega)
  refine ⟨by omega, fun t ht1 ht2 => h2 t ht1 (by omega), fun j hj1 hj2 hj3 c hc => ?_⟩
  by_cases hji : j = i
  · subst hji
    rw [Nat.sub_self, Nat.add_zero]
    exact h2 _ (by omega) (by omega)
  · have mj := cK_mono (kp := kp) (show i + 1 ≤ j by omega)
    rw [show i + (cK kp j - cK kp i) = (i + 1) + (cK kp j - cK kp (i + 1)) by omega]
    exact h3 j (by omega) hj2 hj3 c hc
theorem IO_drop {g b b' : Nat → Nat} {kp : Nat → Bool} {i : Nat} (hi : i < g 6) (hk : kp i = false) (h : IO g kp (i + 1) b) (d1 : b' 6 = b 6 - 1) (d2 : ∀ t, t ≠ 6 → t < 1291 + 3 * i → b' t = b t) (d3 : ∀ t, 1291 + 3 * i ≤ t → t < 1291 + 3 * (b 6 - 1) → b' t = b (t + 3)) : IO g kp i b' := by
  obtain ⟨h1, h2, h3⟩ := h
  have e := cK_f hk
  have m := cK_mono (kp := kp) (show i + 1 ≤ g 6 by omega)
  refine ⟨by omega, fun t ht1 ht2 => by rw [d2 t ht1 ht2]; exact h2 t ht1 (by omega), fun j hj1 hj2 hj3 c hc => ?_⟩
  have hji : j ≠ i := fun x => by subst x; rw [hk] at hj3; cases hj3
  have mj := cK_mono (kp := kp) (show i + 1 ≤ j by omega)
  have ml := cK_lt hj3 hj2
  rw [d3 _ (by omega) (by omega), ← h3 j (by omega) hj2 hj3 c hc]
  congr 1
  omega
theorem m_offByL {N : Nat} {m : Nat → Int32} {g : Nat → Nat} {p : Nat} (h : MR m g) (hB : okB g) (hO : okO g) (hp : p < 6) : ∀ j i : Nat, i ≤ g 6 → g 6 < i + j → f_X11_offencesBy_L4 N 1399 m j (nI p) (nI (gOby g p i)) (nI i) = some (nI (gOby g p (g 6))) := by
  have h6 := b_6 hB
  have e6 := h 6 (by omega)
  intro j
  induction j with
  | zero => intro i h1 h2; omega
  | succ j ih =>
    intro i h1 h2
    by_cases hc : g 6 ≤ i
    · have e : i = g 6 := by omega
      subst e
      simp (disch := omega) only [n_0, n_1, n_2, n_3, n_4, n_5, n_6, n_7, n_8, n_9, n_10, n_12, n_13, n_15, n_20, n_24, n_27, n_31, n_32, n_33, n_36, n_44, n_48, n_50, n_57, n_58, n_59, n_72, n_74, n_75, n_85, n_91, n_96, n_97, n_99, n_122, n_255, n_300, n_432, n_600, n_900, n_999, n_1000, n_1291, n_1399, n_2798, n_11192, n_65536, n_65537, n_99999999, n_1000000, nI_add, pk_mul, q_le, q_lt, q_eq, q_cl, q_gi, q_gz, q_sub, q_div, q_dm, d_dm, q_m1, q_mn, q_nm, q_mlt, q_ltm, q_mle, q_lem, q_mm, Option.bind_some, if_true, if_false, Nat.add_zero, ite_self, q_us, q_un, decide_true, decide_false, Bool.false_eq_true, eq_self, and_self, and_true, true_and, and_false, false_and, or_true, true_or, or_false, false_or, d_ltT, d_ltF, d_leT, d_leF, d_eqT, d_eqF, f_X11_offencesBy_L4, f_X11_offencesBy_L4_F, e6]
    · have hi := ih (i + 1) (by omega) (by omega)
      have hb := o_bd hB hO (show i < g 6 by omega)
      have eo := (m_o h (show i < 36 by omega)).1
      rw [show gOby g p (i + 1) = gOby g p i + if oP g i = p then 1 else 0 from rfl] at hi
      by_cases c1 : oP g i = p
      · rw [if_pos c1] at hi
        simp (disch := omega) only [n_0, n_1, n_2, n_3, n_4, n_5, n_6, n_7, n_8, n_9, n_10, n_12, n_13, n_15, n_20, n_24, n_27, n_31, n_32, n_33, n_36, n_44, n_48, n_50, n_57, n_58, n_59, n_72, n_74, n_75, n_85, n_91, n_96, n_97, n_99, n_122, n_255, n_300, n_432, n_600, n_900, n_999, n_1000, n_1291, n_1399, n_2798, n_11192, n_65536, n_65537, n_99999999, n_1000000, nI_add, pk_mul, q_le, q_lt, q_eq, q_cl, q_gi, q_gz, q_sub, q_div, q_dm, d_dm, q_m1, q_mn, q_nm, q_mlt, q_ltm, q_mle, q_lem, q_mm, Option.bind_some, if_true, if_false, Nat.add_zero, ite_self, q_us, q_un, decide_true, decide_false, Bool.false_eq_true, eq_self, and_self, and_true, true_and, and_false, false_and, or_true, true_or, or_false, false_or, d_ltT, d_ltF, d_leT, d_leF, d_eqT, d_eqF, f_X11_offencesBy_L4, f_X11_offencesBy_L4_F, f_X11_offencesBy_L30, f_X11_ofOffence, e6, eo]
        exact hi
      · rw [if_neg c1] at hi
        simp (disch := omega) only [n_0, n_1, n_2, n_3, n_4, n_5, n_6, n_7, n_8, n_9, n_10, n_12, n_13, n_15, n_20, n_24, n_27, n_31, n_32, n_33, n_36, n_44, n_48, n_50, n_57, n_58, n_59, n_72, n_74, n_75, n_85, n_91, n_96, n_97, n_99, n_122, n_255, n_300, n_432, n_600, n_900, n_999, n_1000, n_1291, n_1399, n_2798, n_11192, n_65536, n_65537, n_99999999, n_1000000, nI_add, pk_mul, q_le, q_lt, q_eq, q_cl, q_gi, q_gz, q_sub, q_div, q_dm, d_dm, q_m1, q_mn, q_nm, q_mlt, q_ltm, q_mle, q_lem, q_mm, Option.bind_some, if_true, if_false, Nat.add_zero, ite_self, q_us, q_un, decide_true, decide_false, Bool.false_eq_true, eq_self, and_self, and_true, true_and, and_false, false_and, or_true, true_or, or_false, false_or, d_ltT, d_ltF, d_leT, d_leF, d_eqT, d_eqF, f_X11_offencesBy_L4, f_X11_offencesBy_L4_F, f_X11_offencesBy_L30, f_X11_ofOffence, e6, eo]
        exact hi
theorem m_offBy {N : Nat} {m : Nat → Int32} {g : Nat → Nat} {p : Nat} (hN : 1000 < N) (h : MR m g) (hB : okB g) (hO : okO g) (hp : p < 6) : f_X11_offencesBy N 1399 m (nI p) = some (nI (gOby g p (g 6))) := by
  have h6 := b_6 hB
  exact m_offByL h hB hO hp N 0 (by omega) (by omega)
theorem m_forgiveL {N : Nat} {g : Nat → Nat} {p : Nat} {x : Int32} (hN : 1000 < N) (hB : okB g) (hO : okO g) (hp : p < 6) : ∀ (i j : Nat) (m : Nat → Int32) (b : Nat → Nat), i ≤ g 6 → i < j → MR m b → IO g (kpO g p) i b → ∃ g' m', f_X11_forgiveAll_L13 N 1399 j (nI p) x (nI i - nI 1) m = some (x, m') ∧ MR m' g' ∧ IO g (kpO g p) 0 g' := by
  have h6 := b_6 hB
  intro i
  induction i with
  | zero =>
    intro j m b h1 h2 h3 h4
    obtain ⟨j, rfl⟩ : ∃ t, j = t + 1 := ⟨j - 1, by omega⟩
    have e : nI 0 - nI 1 < nI 0 := by decide +kernel
    refine ⟨b, m, ?_, h3, h4⟩
    simp (disch := omega) only [n_0, n_1, n_2, n_3, n_4, n_5, n_6, n_7, n_8, n_9, n_10, n_12, n_13, n_15, n_20, n_24, n_27, n_31, n_32, n_33, n_36, n_44, n_48, n_50, n_57, n_58, n_59, n_72, n_74, n_75, n_85, n_91, n_96, n_97, n_99, n_122, n_255, n_300, n_432, n_600, n_900, n_999, n_1000, n_1291, n_1399, n_2798, n_11192, n_65536, n_65537, n_99999999, n_1000000, nI_add, pk_mul, q_le, q_lt, q_eq, q_cl, q_gi, q_gz, q_sub, q_div, q_dm, d_dm, q_m1, q_mn, q_nm, q_mlt, q_ltm, q_mle, q_lem, q_mm, Option.bind_some, if_true, if_false, Nat.add_zero, ite_self, q_us, q_un, decide_true, decide_false, Bool.false_eq_true, eq_self, and_self, and_true, true_and, and_false, false_and, or_true, true_or, or_false, false_or, d_ltT, d_ltF, d_leT, d_leF, d_eqT, d_eqF, f_X11_forgiveAll_L13, f_X11_forgiveAll_L13_F, e]
  | succ i ih =>
    intro j m b h1 h2 h3 h4
    obtain ⟨j, rfl⟩ : ∃ t, j = t + 1 := ⟨j - 1, by omega⟩
    have hb := o_bd hB hO (show i < g 6 by omega)
    have eo := (m_o h3 (show i < 36 by omega)).1
    have eb : oP b i = oP g i := h4.2.1 _ (by omega) (by omega)
    rw [eb] at eo
    have hx : nI i + -nI 1 = nI i - nI 1 := by rw [Int32.sub_eq_add_neg]
    have hm := cK_mono (kp := kpO g p) (show i + 1 ≤ g 6 by omega)
    have hle := cK_le (kp := kpO g p) (n := g 6)
    have hb6 : b 6 ≤ 36 := by
      have e1 := h4.1
      have e2 : cK (kpO g p) (g 6) ≤ cK (kpO g p) (i + 1) + (g 6 - (i + 1)) := by
        have := @cK_oby g p (g 6)
        have h9 := @cK_oby g p (i + 1)
        have h10 : gOby g p (i + 1) ≤ gOby g p (g 6) := sumTo_mono (by omega)
        omega
      omega
    cases hk : kpO g p i
    · have hpi : oP g i = p := by
        have := of_decide_eq_false hk
        omega
      obtain ⟨b', m1, a1, a2, a3, a4, a5⟩ := m_dropO (N := N) (r := i) hN h3 hb6 (by have := h4.1; omega)
      obtain ⟨g', m', c1, c2, c3⟩ := ih j m1 b' (by omega) (by omega) a2 (IO_drop (by omega) hk h4 a3 a4 a5)
      refine ⟨g', m', ?_, c2, c3⟩
      simp (disch := omega) only [n_0, n_1, n_2, n_3, n_4, n_5, n_6, n_7, n_8, n_9, n_10, n_12, n_13, n_15, n_20, n_24, n_27, n_31, n_32, n_33, n_36, n_44, n_48, n_50, n_57, n_58, n_59, n_72, n_74, n_75, n_85, n_91, n_96, n_97, n_99, n_122, n_255, n_300, n_432, n_600, n_900, n_999, n_1000, n_1291, n_1399, n_2798, n_11192, n_65536, n_65537, n_99999999, n_1000000, nI_add, pk_mul, q_le, q_lt, q_eq, q_cl, q_gi, q_gz, q_sub, q_div, q_dm, d_dm, q_mn, q_nm, q_mlt, q_ltm, q_mle, q_lem, q_mm, Option.bind_some, if_true, if_false, Nat.add_zero, ite_self, q_us, q_un, decide_true, decide_false, Bool.false_eq_true, eq_self, and_self, and_true, true_and, and_false, false_and, or_true, true_or, or_false, false_or, d_ltT, d_ltF, d_leT, d_leF, d_eqT, d_eqF, f_X11_forgiveAll_L13, f_X11_forgiveAll_L13_F, f_X11_forgiveAll_L34, f_X11_ofOffence, Nat.add_sub_cancel, eo, a1, hx]
      exact c1
    · have hpi : oP g i ≠ p := of_decide_eq_true hk
      obtain ⟨g', m', c1, c2, c3⟩ := ih j m b (by omega) (by omega) h3 (IO_keep (by omega) hk h4)
      refine ⟨g', m', ?_, c2, c3⟩
      simp (disch := omega) only [n_0, n_1, n_2, n_3, n_4, n_5, n_6, n_7, n_8, n_9, n_10, n_12, n_13, n_15, n_20, n_24, n_27, n_31, n_32, n_33, n_36, n_44, n_48, n_50, n_57, n_58, n_59, n_72, n_74, n_75, n_85, n_91, n_96, n_97, n_99, n_122, n_255, n_300, n_432, n_600, n_900, n_999, n_1000, n_1291, n_1399, n_2798, n_11192, n_65536, n_65537, n_99999999, n_1000000, nI_add, pk_mul, q_le, q_lt, q_eq, q_cl, q_gi, q_gz, q_sub, q_div, q_dm, d_dm, q_mn, q_nm, q_mlt, q_ltm, q_mle, q_lem, q_mm, Option.bind_some, if_true, if_false, Nat.add_zero, ite_self, q_us, q_un, decide_true, decide_false, Bool.false_eq_true, eq_self, and_self, and_true, true_and, and_false, false_and, or_true, true_or, or_false, false_or, d_ltT, d_ltF, d_leT, d_leF, d_eqT, d_eqF, f_X11_forgiveAll_L13, f_X11_forgiveAll_L13_F, f_X11_forgiveAll_L34, f_X11_ofOffence, Nat.add_sub_cancel, eo, hx]
      exact c1
theorem m_forgive {N : Nat} {g : Nat → Nat} {m : Nat → Int32} {p : Nat} (hN : 1000 < N) (h : MR m g) (hB : okB g) (hO : okO g) (hp : p < 6) : ∃ g' m', f_X11_forgiveAll N 1399 m (nI p) = some (nI (gOby g p (g 6)), m') ∧ MR m' g' ∧ isSel (kpO g p) g g' ∧ (∀ t, t ≠ 6 → t < 1291 → g' t = g t) := by
  have h6 := b_6 hB
  have e6 := h 6 (by omega)
  have hi : IO g (kpO g p) (g 6) g := ⟨by omega, fun t _ _ => rfl, fun j h1 h2 => by omega⟩
  obtain ⟨g', m', a1, a2, a3⟩ := m_forgiveL (N := N) (x := nI (gOby g p (g 6))) hN hB hO hp (g 6) N m g (by omega) (by omega) h hi
  obtain ⟨d1, d2, d3⟩ := a3
  have z : cK (kpO g p) 0 = 0 := rfl
  refine ⟨g', m', ?_, a2, ⟨by omega, fun j h1 h2 c hc => ?_⟩, fun t h1 h2 => d2 t h1 (by omega)⟩
  · simp (disch := omega) only [n_0, n_1, n_2, n_3, n_4, n_5, n_6, n_7, n_8, n_9, n_10, n_12, n_13, n_15, n_20, n_24, n_27, n_31, n_32, n_33, n_36, n_44, n_48, n_50, n_57, n_58, n_59, n_72, n_74, n_75, n_85, n_91, n_96, n_97, n_99, n_122, n_255, n_300, n_432, n_600, n_900, n_999, n_1000, n_1291, n_1399, n_2798, n_11192, n_65536, n_65537, n_99999999, n_1000000, nI_add, pk_mul, q_le, q_lt, q_eq, q_cl, q_gi, q_gz, q_div, q_dm, d_dm, q_m1, q_mn, q_nm, q_mlt, q_ltm, q_mle, q_lem, q_mm, Option.bind_some, if_true, if_false, Nat.add_zero, ite_self, q_us, q_un, decide_true, decide_false, Bool.false_eq_true, eq_self, and_self, and_true, true_and, and_false, false_and, or_true, true_or, or_false, false_or, d_ltT, d_ltF, d_leT, d_leF, d_eqT, d_eqF, f_X11_forgiveAll, m_offBy hN h hB hO hp, e6]
    exact a1
  · have := d3 j (by omega) h1 h2 c hc
    rw [z, Nat.sub_zero, Nat.zero_add] at this
    exact this
/-! the record, from behind -/
def IT (g : Nat → Nat) (kp : Nat → Bool) (i : Nat) (b : Nat → Nat) : Prop := b 5 = i + (cK kp (g 5) - cK kp i) ∧ (∀ t, t ≠ 5 → t < 91 + 4 * i ∨ 1291 ≤ t → b t = g t) ∧ ∀ j, i ≤ j → j < g 5 → kp j = true → ∀ c, c < 4 → b (91 + 4 * (i + (cK kp j - cK kp i)) + c) = g (91 + 4 * j + c)
theorem IT_keep {g b : Nat → Nat} {kp : Nat → Bool} {i : Nat} (hi : i < g 5) (hk : kp i = true) (h : IT g kp (i + 1) b) : IT g kp i b := by
  obtain ⟨h1, h2, h3⟩ := h
  have e := cK_t hk
  have m := cK_mono (kp := kp) (show i + 1 ≤ g 5 by omega)
  refine ⟨by omega, fun t ht1 ht2 => h2 t ht1 (by omega), fun j hj1 hj2 hj3 c hc => ?_⟩
  by_cases hji : j = i
  · subst hji
    rw [Nat.sub_self, Nat.add_zero]
    exact h2 _ (by omega) (by omega)
  · have mj := cK_mono (kp := kp) (show i + 1 ≤ j by omega)
    rw [show i + (cK kp j - cK kp i) = (i + 1) + (cK kp j - cK kp (i + 1)) by omega]
    exact h3 j (by omega) hj2 hj3 c hc
theorem IT_drop {g b b' : Nat → Nat} {kp : Nat → Bool} {i : Nat} (hi : i < g 5) (hk : kp i = false) (h : IT g kp (i + 1) b) (d1 : b' 5 = b 5 - 1) (d2 : ∀ t, t ≠ 5 → t < 91 + 4 * i ∨ 1291 ≤ t → b' t = b t) (d3 : ∀ t, 91 + 4 * i ≤ t → t < 91 + 4 * (b 5 - 1) → b' t = b (t + 4)) : IT g kp i b' := by
  obtain ⟨h1, h2, h3⟩ := h
  have e := cK_f hk
  have m := cK_mono (kp := kp) (show i + 1 ≤ g 5 by omega)
  refine ⟨by omega, fun t ht1 ht2 => by rw [d2 t ht1 ht2]; exact h2 t ht1 (by omega), fun j hj1 hj2 hj3 c hc => ?_⟩
  have hji : j ≠ i := fun x => by subst x; rw [hk] at hj3; cases hj3
  have mj := cK_mono (kp := kp) (show i + 1 ≤ j by omega)
  have ml := cK_lt hj3 hj2
  rw [d3 _ (by omega) (by omega), ← h3 j (by omega) hj2 hj3 c hc]
  congr 1
  omega
/-- when no more goes, all before is kept -/
theorem kp_all {g : Nat → Nat} {q n i : Nat} (h : qN g q i ≤ n) : ∀ j, j < i → kpT g q n j = true := by
  intro j hj
  refine decide_eq_true ?_
  by_cases c : tQ g j = q
  · have e : qN g q (j + 1) = qN g q j + 1 := by rw [qN_s, if_pos c]
    have m : qN g q (j + 1) ≤ qN g q i := sumTo_mono (by omega)
    exact Or.inr (by omega)
  · exact Or.inl c
theorem IT_all {g b : Nat → Nat} {kp : Nat → Bool} : ∀ i, i ≤ g 5 → (∀ j, j < i → kp j = true) → IT g kp i b → IT g kp 0 b := by
  intro i
  induction i with
  | zero => intro _ _ h; exact h
  | succ i ih => intro hi hk h; exact ih (by omega) (fun j hj => hk j (by omega)) (IT_keep (by omega) (hk i (by omega)) h)
theorem m_absolveL {N : Nat} {g : Nat → Nat} {p d n x : Nat} (hN : 2000 < N) (hB : okB g) (hD : okD g) (hT : okT g) (hp : p < 6) (hd : d < 6) : ∀ (i j : Nat) (m : Nat → Int32) (b : Nat → Nat), i ≤ g 5 → i < j → MR m b → IT g (kpT g (6 * p + d) n) i b → ∃ g' m', f_X11_absolveFirst_L38 N 1399 j (nI x) (nI p) (nI d) (nI (qN g (6 * p + d) i - n)) (nI i - nI 1) m = f_X11_absolveFirst_L74 N 1399 (nI x) (nI p) (nI d) m' ∧ MR m' g' ∧ IT g (kpT g (6 * p + d) n) 0 g' := by
  have h5 := b_5 hB
  intro i
  induction i with
  | zero =>
    intro j m b h1 h2 h3 h4
    obtain ⟨j, rfl⟩ : ∃ t, j = t + 1 := ⟨j - 1, by omega⟩
    have e : nI 0 - nI 1 < nI 0 := by decide +kernel
    refine ⟨b, m, ?_, h3, h4⟩
    simp (disch := omega) only [n_0, n_1, n_2, n_3, n_4, n_5, n_6, n_7, n_8, n_9, n_10, n_12, n_13, n_15, n_20, n_24, n_27, n_31, n_32, n_33, n_36, n_44, n_48, n_50, n_57, n_58, n_59, n_72, n_74, n_75, n_85, n_91, n_96, n_97, n_99, n_122, n_255, n_300, n_432, n_600, n_900, n_999, n_1000, n_1291, n_1399, n_2798, n_11192, n_65536, n_65537, n_99999999, n_1000000, nI_add, pk_mul, q_le, q_lt, q_eq, q_cl, q_gi, q_gz, q_sub, q_div, q_dm, d_dm, q_m1, q_mn, q_nm, q_mlt, q_ltm, q_mle, q_lem, q_mm, Option.bind_some, if_true, if_false, Nat.add_zero, ite_self, q_us, q_un, decide_true, decide_false, Bool.false_eq_true, eq_self, and_self, and_true, true_and, and_false, false_and, or_true, true_or, or_false, false_or, d_ltT, d_ltF, d_leT, d_leF, d_eqT, d_eqF, f_X11_absolveFirst_L38, f_X11_absolveFirst_L38_F, e]
  | succ i ih =>
    intro j m b h1 h2 h3 h4
    obtain ⟨j, rfl⟩ : ∃ t, j = t + 1 := ⟨j - 1, by omega⟩
    have hql := @qN_le g (6 * p + d) (i + 1)
    by_cases hz : qN g (6 * p + d) (i + 1) ≤ n
    · refine ⟨b, m, ?_, h3, IT_all (i + 1) h1 (kp_all hz) h4⟩
      have e0 : qN g (6 * p + d) (i + 1) - n = 0 := by omega
      rw [e0]
      simp (disch := omega) only [n_0, n_1, n_2, n_3, n_4, n_5, n_6, n_7, n_8, n_9, n_10, n_12, n_13, n_15, n_20, n_24, n_27, n_31, n_32, n_33, n_36, n_44, n_48, n_50, n_57, n_58, n_59, n_72, n_74, n_75, n_85, n_91, n_96, n_97, n_99, n_122, n_255, n_300, n_432, n_600, n_900, n_999, n_1000, n_1291, n_1399, n_2798, n_11192, n_65536, n_65537, n_99999999, n_1000000, nI_add, pk_mul, q_le, q_lt, q_eq, q_cl, q_gi, q_gz, q_sub, q_div, q_dm, d_dm, q_m1, q_mn, q_nm, q_mlt, q_ltm, q_mle, q_lem, q_mm, Option.bind_some, if_true, if_false, Nat.add_zero, ite_self, q_us, q_un, decide_true, decide_false, Bool.false_eq_true, eq_self, and_self, and_true, true_and, and_false, false_and, or_true, true_or, or_false, false_or, d_ltT, d_ltF, d_leT, d_leF, d_eqT, d_eqF, f_X11_absolveFirst_L38, f_X11_absolveFirst_L38_F, Nat.add_sub_cancel]
    · have hx : nI i + -nI 1 = nI i - nI 1 := by rw [Int32.sub_eq_add_neg]
      have et1 : tP b i = tP g i := h4.2.1 _ (by omega) (Or.inl (by omega))
      have et2 : tD b i = tD g i := h4.2.1 _ (by omega) (Or.inl (by omega))
      have hm := cK_mono (kp := kpT g (6 * p + d) n) (show i + 1 ≤ g 5 by omega)
      have hib : i < b 5 := by have := h4.1; omega
      obtain ⟨y1, y2, y3, -, y4⟩ := hT i (by omega)
      have b3 := b_3 hB
      have b4 := b_4 hB
      obtain ⟨u1, u2, -⟩ := m_t h3 (show i < 300 by omega)
      rw [et1] at u1
      rw [et2] at u2
      have hi := tQ_pd (p := p) hB hT hd (show i < g 5 by omega)
      have eo : f_X11_isOf 1399 m (nI i) (nI p) (nI d) = some (bI (decide (tQ g i = 6 * p + d))) := by
        by_cases c1 : tP g i = p
        · by_cases c2 : tD g i = d
          · simp (disch := omega) only [n_0, n_1, n_2, n_3, n_4, n_5, n_6, n_7, n_8, n_9, n_10, n_12, n_13, n_15, n_20, n_24, n_27, n_31, n_32, n_33, n_36, n_44, n_48, n_50, n_57, n_58, n_59, n_72, n_74, n_75, n_85, n_91, n_96, n_97, n_99, n_122, n_255, n_300, n_432, n_600, n_900, n_999, n_1000, n_1291, n_1399, n_2798, n_11192, n_65536, n_65537, n_99999999, n_1000000, nI_add, pk_mul, q_le, q_lt, q_eq, q_cl, q_gi, q_gz, q_sub, q_div, q_dm, d_dm, q_m1, q_mn, q_nm, q_mlt, q_ltm, q_mle, q_lem, q_mm, Option.bind_some, if_true, if_false, Nat.add_zero, ite_self, q_us, q_un, decide_true, decide_false, Bool.false_eq_true, eq_self, and_self, and_true, true_and, and_false, false_and, or_true, true_or, or_false, false_or, d_ltT, d_ltF, d_leT, d_leF, d_eqT, d_eqF, f_X11_isOf, f_X11_ofThrow, u1, u2]
            first | rfl | (rw [decide_eq_true (hi.mpr ⟨c1, c2⟩)]; rfl)
          · simp (disch := omega) only [n_0, n_1, n_2, n_3, n_4, n_5, n_6, n_7, n_8, n_9, n_10, n_12, n_13, n_15, n_20, n_24, n_27, n_31, n_32, n_33, n_36, n_44, n_48, n_50, n_57, n_58, n_59, n_72, n_74, n_75, n_85, n_91, n_96, n_97, n_99, n_122, n_255, n_300, n_432, n_600, n_900, n_999, n_1000, n_1291, n_1399, n_2798, n_11192, n_65536, n_65537, n_99999999, n_1000000, nI_add, pk_mul, q_le, q_lt, q_eq, q_cl, q_gi, q_gz, q_sub, q_div, q_dm, d_dm, q_m1, q_mn, q_nm, q_mlt, q_ltm, q_mle, q_lem, q_mm, Option.bind_some, if_true, if_false, Nat.add_zero, ite_self, q_us, q_un, decide_true, decide_false, Bool.false_eq_true, eq_self, and_self, and_true, true_and, and_false, false_and, or_true, true_or, or_false, false_or, d_ltT, d_ltF, d_leT, d_leF, d_eqT, d_eqF, f_X11_isOf, f_X11_ofThrow, u1, u2]
            first | rfl | (rw [decide_eq_false (fun x => c2 (hi.mp x).2)]; rfl)
        · simp (disch := omega) only [n_0, n_1, n_2, n_3, n_4, n_5, n_6, n_7, n_8, n_9, n_10, n_12, n_13, n_15, n_20, n_24, n_27, n_31, n_32, n_33, n_36, n_44, n_48, n_50, n_57, n_58, n_59, n_72, n_74, n_75, n_85, n_91, n_96, n_97, n_99, n_122, n_255, n_300, n_432, n_600, n_900, n_999, n_1000, n_1291, n_1399, n_2798, n_11192, n_65536, n_65537, n_99999999, n_1000000, nI_add, pk_mul, q_le, q_lt, q_eq, q_cl, q_gi, q_gz, q_sub, q_div, q_dm, d_dm, q_m1, q_mn, q_nm, q_mlt, q_ltm, q_mle, q_lem, q_mm, Option.bind_some, if_true, if_false, Nat.add_zero, ite_self, q_us, q_un, decide_true, decide_false, Bool.false_eq_true, eq_self, and_self, and_true, true_and, and_false, false_and, or_true, true_or, or_false, false_or, d_ltT, d_ltF, d_leT, d_leF, d_eqT, d_eqF, f_X11_isOf, f_X11_ofThrow, u1, u2]
          first | rfl | (rw [decide_eq_false (fun x => c1 (hi.mp x).1)]; rfl)
      have hqs := @qN_s g (6 * p + d) i
      have hb5 : b 5 ≤ 300 := by
        have e1 := h4.1
        have e2 := @cK_T g (6 * p + d) n (g 5)
        have e3 := @cK_T g (6 * p + d) n (i + 1)
        have e4 : qN g (6 * p + d) (i + 1) ≤ qN g (6 * p + d) (g 5) := sumTo_mono (by omega)
        omega
      by_cases hq : tQ g i = 6 * p + d
      · rw [if_pos hq] at hqs
        have hk : kpT g (6 * p + d) n i = false := decide_eq_false (by omega)
        rw [decide_eq_true hq] at eo
        obtain ⟨b', m1, a1, a2, a3, a4, a5⟩ := m_dropT (r := i) hN h3 hb5 hib
        obtain ⟨g', m', c1, c2, c3⟩ := ih j m1 b' (by omega) (by omega) a2 (IT_drop (by omega) hk h4 a3 a4 a5)
        refine ⟨g', m', ?_, c2, c3⟩
        have hl : qN g (6 * p + d) (i + 1) - n - 1 = qN g (6 * p + d) i - n := by omega
        simp (disch := omega) only [n_0, n_1, n_2, n_3, n_4, n_5, n_6, n_7, n_8, n_9, n_10, n_12, n_13, n_15, n_20, n_24, n_27, n_31, n_32, n_33, n_36, n_44, n_48, n_50, n_57, n_58, n_59, n_72, n_74, n_75, n_85, n_91, n_96, n_97, n_99, n_122, n_255, n_300, n_432, n_600, n_900, n_999, n_1000, n_1291, n_1399, n_2798, n_11192, n_65536, n_65537, n_99999999, n_1000000, nI_add, pk_mul, q_le, q_lt, q_eq, q_cl, q_gi, q_gz, q_sub, q_div, q_dm, d_dm, q_mn, q_nm, q_mlt, q_ltm, q_mle, q_lem, q_mm, Option.bind_some, if_true, if_false, Nat.add_zero, ite_self, q_us, q_un, decide_true, decide_false, Bool.false_eq_true, eq_self, and_self, and_true, true_and, and_false, false_and, or_true, true_or, or_false, false_or, d_ltT, d_ltF, d_leT, d_leF, d_eqT, d_eqF, f_X11_absolveFirst_L38, f_X11_absolveFirst_L38_F, f_X11_absolveFirst_L68, Nat.add_sub_cancel, eo, a1, q_b0, Bool.true_eq_false, hl, q_m1 (show 0 < qN g (6 * p + d) (i + 1) - n by omega), hx]
        exact c1
      · rw [if_neg hq] at hqs
        have hk : kpT g (6 * p + d) n i = true := decide_eq_true (Or.inl hq)
        rw [decide_eq_false hq] at eo
        obtain ⟨g', m', c1, c2, c3⟩ := ih j m b (by omega) (by omega) h3 (IT_keep (by omega) hk h4)
        refine ⟨g', m', ?_, c2, c3⟩
        have hl : qN g (6 * p + d) (i + 1) - n = qN g (6 * p + d) i - n := by omega
        simp (disch := omega) only [n_0, n_1, n_2, n_3, n_4, n_5, n_6, n_7, n_8, n_9, n_10, n_12, n_13, n_15, n_20, n_24, n_27, n_31, n_32, n_33, n_36, n_44, n_48, n_50, n_57, n_58, n_59, n_72, n_74, n_75, n_85, n_91, n_96, n_97, n_99, n_122, n_255, n_300, n_432, n_600, n_900, n_999, n_1000, n_1291, n_1399, n_2798, n_11192, n_65536, n_65537, n_99999999, n_1000000, nI_add, pk_mul, q_le, q_lt, q_eq, q_cl, q_gi, q_gz, q_sub, q_div, q_dm, d_dm, q_mn, q_nm, q_mlt, q_ltm, q_mle, q_lem, q_mm, Option.bind_some, if_true, if_false, Nat.add_zero, ite_self, q_us, q_un, decide_true, decide_false, Bool.false_eq_true, eq_self, and_self, and_true, true_and, and_false, false_and, or_true, true_or, or_false, false_or, d_ltT, d_ltF, d_leT, d_leF, d_eqT, d_eqF, f_X11_absolveFirst_L38, f_X11_absolveFirst_L38_F, f_X11_absolveFirst_L68, Nat.add_sub_cancel, eo, q_b0, hl, hx]
        exact c1
theorem m_absolve {N : Nat} {g : Nat → Nat} {m : Nat → Int32} (hN : 2000 < N) (h : MR m g) (hO : Ok g) (h6 : 0 < g 6) : ∃ g' m', isPen g g' ∧ f_X11_absolveFirst N 1399 m = some (nI (gSumT g' (oP g 0) (oD g 0) 1 (gPen g)), m') ∧ MR m' (gThr g' (oP g 0) (oD g 0) 1 (gPen g)) := by
  have b6 := b_6 hO.1
  have b5 := b_5 hO.1
  have b3 := b_3 hO.1
  have hb := o_bd hO.1 hO.2.2.2.2 h6
  have hb2 := hO.2.2.2.2.1 0 h6
  obtain ⟨e1, e2, -⟩ := m_o h (show 0 < 36 by omega)
  rw [Nat.mul_zero, Nat.add_zero] at e1 e2
  have hp : gPen g ≤ cQ g (oQ g 0) := by
    rcases @gPen_le g with h | h
    · omega
    · exact h
  have hq9 : 6 * oP g 0 + oD g 0 = oQ g 0 := rfl
  obtain ⟨b, m1, a1, a2, a3, a4, a5⟩ := m_dropO (N := N) (r := 0) (by omega) h b6 h6
  -- the row without its first offence
  have sT1 : sT g b := ⟨a4 5 (by omega) (by omega), fun k k1 k2 => a4 k (by omega) (by omega)⟩
  have sD1 : sD g b := ⟨a4 3 (by omega) (by omega), fun k k1 k2 => a4 k (by omega) (by omega)⟩
  have sP1 : sP g b := ⟨a4 4 (by omega) (by omega), fun k k1 k2 => a4 k (by omega) (by omega)⟩
  have pop1 : isPop g b := ⟨a3, fun r hr c hc => by
    rw [a5 _ (by omega) (by omega)]
    exact congrArg g (by omega)⟩
  have hc := sT_c sT1 hO.1
  have hB2 : okB b := by
    obtain ⟨c0, c1, c2, c3, c4, c5, c6, c7⟩ := hO.1
    unfold okB
    rw [a4 0 (by omega) (by omega), a4 1 (by omega) (by omega), a4 2 (by omega) (by omega), sD1.1, sP1.1, sT1.1, a3]
    omega
  have hD2 := sD_ok sD1 hO.1 hO.2.1
  have hT2 := sT_ok sT1 sD1 sP1 hO.1 hO.2.2.2.1
  have hkp : ∀ k, k < 300 → ∀ n, kpT b (oQ g 0) n k = kpT g (oQ g 0) n k := fun k hk n => by
    unfold kpT qN
    rw [(sT_t sT1 hk).2.2.2.2, sumTo_congr (fun j hj => by rw [(sT_t sT1 (show j < 300 by omega)).2.2.2.2])]
  have hqT : qN b (6 * oP g 0 + oD g 0) (b 5) = cQ g (oQ g 0) := by
    rw [hq9, ← hc.2.1]
    rfl
  have hi : IT b (kpT b (6 * oP g 0 + oD g 0) (cQ g (oQ g 0) - gPen g)) (b 5) b := ⟨by omega, fun t _ _ => rfl, fun j h1 h2 => by omega⟩
  obtain ⟨g', m2, c1, c2, c3⟩ := m_absolveL (N := N) (x := gPen g) (n := cQ g (oQ g 0) - gPen g) hN hB2 hD2 hT2 hb.2.2.2.2 (show oD g 0 < 6 by omega) (b 5) N m1 b (by omega) (by rw [sT1.1]; omega) a2 hi
  rw [hqT, show cQ g (oQ g 0) - (cQ g (oQ g 0) - gPen g) = gPen g by omega] at c1
  obtain ⟨d1, d2, d3⟩ := c3
  have hcK : ∀ k, k ≤ 300 → cK (kpT b (6 * oP g 0 + oD g 0) (cQ g (oQ g 0) - gPen g)) k = cK (kpT g (oQ g 0) (cQ g (oQ g 0) - gPen g)) k := fun k hk => cK_congr (fun j hj => by rw [hq9]; exact hkp j (by omega) _)
  have z : cK (kpT b (6 * oP g 0 + oD g 0) (cQ g (oQ g 0) - gPen g)) 0 = 0 := rfl
  have x : ∀ t, t ≠ 5 → t < 91 ∨ 1291 ≤ t → g' t = b t := fun t h1 h2 => d2 t h1 (by omega)
  have hpen : isPen g g' := by
    refine ⟨⟨?_, ?_⟩, ⟨?_, ?_⟩, ⟨?_, ?_⟩, ⟨?_, ?_⟩, ?_⟩
    · rw [x 6 (by omega) (by omega)]
      exact a3
    · intro r hr c hc2
      rw [x _ (by omega) (by omega)]
      exact pop1.2 r hr c hc2
    · rw [d1, sT1.1, hcK _ (by omega), z]
      omega
    · intro j h1 h2 c hc2
      have hk2 : kpT b (6 * oP g 0 + oD g 0) (cQ g (oQ g 0) - gPen g) j = true := by rw [hq9, hkp j (by omega)]; exact h2
      have e := d3 j (by omega) (by rw [sT1.1]; exact h1) hk2 c hc2
      rw [z, Nat.sub_zero, Nat.zero_add, hcK _ (by omega)] at e
      rw [e]
      exact sT1.2 _ (by omega) (by omega)
    · rw [x 3 (by omega) (by omega)]
      exact sD1.1
    · intro k k1 k2
      rw [x k (by omega) (by omega)]
      exact sD1.2 k k1 k2
    · rw [x 4 (by omega) (by omega)]
      exact sP1.1
    · intro k k1 k2
      rw [x k (by omega) (by omega)]
      exact sP1.2 k k1 k2
    · intro k hk
      rw [x k (by omega) (by omega)]
      exact a4 k (by omega) (by omega)
  obtain ⟨s1, s2, s3, s4⟩ := pen_s hO h6 hpen
  obtain ⟨m3, f1, f2⟩ := m_throwMany (N := N) (p := oP g 0) (d := oD g 0) (b := 1) (n := gPen g) (by omega) s1 s3 s4 (by omega) (by omega) c2
  refine ⟨g', m3, hpen, ?_, f2⟩
  have e5 : m1 5 = nI (b 5) := a2 5 (by omega)
  simp (disch := omega) only [n_0, n_1, n_2, n_3, n_4, n_5, n_6, n_7, n_8, n_9, n_10, n_12, n_13, n_15, n_20, n_24, n_27, n_31, n_32, n_33, n_36, n_44, n_48, n_50, n_57, n_58, n_59, n_72, n_74, n_75, n_85, n_91, n_96, n_97, n_99, n_122, n_255, n_300, n_432, n_600, n_900, n_999, n_1000, n_1291, n_1399, n_2798, n_11192, n_65536, n_65537, n_99999999, n_1000000, nI_add, pk_mul, q_le, q_lt, q_eq, q_cl, q_gi, q_gz, q_div, q_dm, d_dm, q_m1, q_mn, q_nm, q_mlt, q_ltm, q_mle, q_lem, q_mm, Option.bind_some, if_true, if_false, Nat.add_zero, ite_self, q_us, q_un, decide_true, decide_false, Bool.false_eq_true, eq_self, and_self, and_true, true_and, and_false, false_and, or_true, true_or, or_false, false_or, d_ltT, d_ltF, d_leT, d_leF, d_eqT, d_eqF, f_X11_absolveFirst, f_X11_ofOffence, m_penance (show 1000 < N by omega) h hO, e1, e2, a1, e5, c1, f_X11_absolveFirst_L74, f1]
/-! totals, ranks, names -/
theorem m_totalL {N : Nat} {m : Nat → Int32} {g : Nat → Nat} {p : Nat} (h : MR m g) (hB : okB g) (hD : okD g) (hT : okT g) (hp : p < 6) : ∀ j i : Nat, i ≤ g 5 → g 5 < i + j → f_X11_totalOf_L4 N 1399 m j (nI p) (nI (sumTo i (fun k => if tP g k = p then tF g k else 0))) (nI i) = some (nI (cT g p)) := by
  have h5 := b_5 hB
  have b4 := b_4 hB
  have e5 := h 5 (by omega)
  intro j
  induction j with
  | zero => intro i h1 h2; omega
  | succ j ih =>
    intro i h1 h2
    by_cases hc : g 5 ≤ i
    · have e : i = g 5 := by omega
      subst e
      simp (disch := omega) only [n_0, n_1, n_2, n_3, n_4, n_5, n_6, n_7, n_8, n_9, n_10, n_12, n_13, n_15, n_20, n_24, n_27, n_31, n_32, n_33, n_36, n_44, n_48, n_50, n_57, n_58, n_59, n_72, n_74, n_75, n_85, n_91, n_96, n_97, n_99, n_122, n_255, n_300, n_432, n_600, n_900, n_999, n_1000, n_1291, n_1399, n_2798, n_11192, n_65536, n_65537, n_99999999, n_1000000, nI_add, pk_mul, q_le, q_lt, q_eq, q_cl, q_gi, q_gz, q_sub, q_div, q_dm, d_dm, q_m1, q_mn, q_nm, q_mlt, q_ltm, q_mle, q_lem, q_mm, Option.bind_some, if_true, if_false, Nat.add_zero, ite_self, q_us, q_un, decide_true, decide_false, Bool.false_eq_true, eq_self, and_self, and_true, true_and, and_false, false_and, or_true, true_or, or_false, false_or, d_ltT, d_ltF, d_leT, d_leF, d_eqT, d_eqF, f_X11_totalOf_L4, f_X11_totalOf_L4_F, e5]
      rfl
    · have hi := ih (i + 1) (by omega) (by omega)
      obtain ⟨e1, -, e3, -⟩ := m_t h (show i < 300 by omega)
      have ht := (hT i (by omega)).1
      rw [sumTo_s] at hi
      by_cases c1 : tP g i = p
      · rw [if_pos c1] at hi
        simp (disch := omega) only [n_0, n_1, n_2, n_3, n_4, n_5, n_6, n_7, n_8, n_9, n_10, n_12, n_13, n_15, n_20, n_24, n_27, n_31, n_32, n_33, n_36, n_44, n_48, n_50, n_57, n_58, n_59, n_72, n_74, n_75, n_85, n_91, n_96, n_97, n_99, n_122, n_255, n_300, n_432, n_600, n_900, n_999, n_1000, n_1291, n_1399, n_2798, n_11192, n_65536, n_65537, n_99999999, n_1000000, nI_add, pk_mul, q_le, q_lt, q_eq, q_cl, q_gi, q_gz, q_sub, q_div, q_dm, d_dm, q_m1, q_mn, q_nm, q_mlt, q_ltm, q_mle, q_lem, q_mm, Option.bind_some, if_true, if_false, Nat.add_zero, ite_self, q_us, q_un, decide_true, decide_false, Bool.false_eq_true, eq_self, and_self, and_true, true_and, and_false, false_and, or_true, true_or, or_false, false_or, d_ltT, d_ltF, d_leT, d_leF, d_eqT, d_eqF, f_X11_totalOf_L4, f_X11_totalOf_L4_F, f_X11_totalOf_L36, f_X11_ofThrow, e5, e1, e3]
        exact hi
      · rw [if_neg c1] at hi
        simp (disch := omega) only [n_0, n_1, n_2, n_3, n_4, n_5, n_6, n_7, n_8, n_9, n_10, n_12, n_13, n_15, n_20, n_24, n_27, n_31, n_32, n_33, n_36, n_44, n_48, n_50, n_57, n_58, n_59, n_72, n_74, n_75, n_85, n_91, n_96, n_97, n_99, n_122, n_255, n_300, n_432, n_600, n_900, n_999, n_1000, n_1291, n_1399, n_2798, n_11192, n_65536, n_65537, n_99999999, n_1000000, nI_add, pk_mul, q_le, q_lt, q_eq, q_cl, q_gi, q_gz, q_sub, q_div, q_dm, d_dm, q_m1, q_mn, q_nm, q_mlt, q_ltm, q_mle, q_lem, q_mm, Option.bind_some, if_true, if_false, Nat.add_zero, ite_self, q_us, q_un, decide_true, decide_false, Bool.false_eq_true, eq_self, and_self, and_true, true_and, and_false, false_and, or_true, true_or, or_false, false_or, d_ltT, d_ltF, d_leT, d_leF, d_eqT, d_eqF, f_X11_totalOf_L4, f_X11_totalOf_L4_F, f_X11_totalOf_L36, f_X11_ofThrow, e5, e1, e3]
        exact hi
theorem m_total {N : Nat} {m : Nat → Int32} {g : Nat → Nat} {p : Nat} (hN : 1000 < N) (h : MR m g) (hB : okB g) (hD : okD g) (hT : okT g) (hp : p < 6) : f_X11_totalOf N 1399 m (nI p) = some (nI (cT g p)) := by
  have h5 := b_5 hB
  exact m_totalL h hB hD hT hp N 0 (by omega) (by omega)
theorem m_byL {N : Nat} {m : Nat → Int32} {g : Nat → Nat} {p : Nat} (h : MR m g) (hB : okB g) (hD : okD g) (hT : okT g) (hp : p < 6) : ∀ j i : Nat, i ≤ g 5 → g 5 < i + j → f_X11_throwsBy_L4 N 1399 m j (nI p) (nI (sumTo i (fun k => if tP g k = p then 1 else 0))) (nI i) = some (nI (cP g p)) := by
  have h5 := b_5 hB
  have b4 := b_4 hB
  have e5 := h 5 (by omega)
  intro j
  induction j with
  | zero => intro i h1 h2; omega
  | succ j ih =>
    intro i h1 h2
    by_cases hc : g 5 ≤ i
    · have e : i = g 5 := by omega
      subst e
      simp (disch := omega) only [n_0, n_1, n_2, n_3, n_4, n_5, n_6, n_7, n_8, n_9, n_10, n_12, n_13, n_15, n_20, n_24, n_27, n_31, n_32, n_33, n_36, n_44, n_48, n_50, n_57, n_58, n_59, n_72, n_74, n_75, n_85, n_91, n_96, n_97, n_99, n_122, n_255, n_300, n_432, n_600, n_900, n_999, n_1000, n_1291, n_1399, n_2798, n_11192, n_65536, n_65537, n_99999999, n_1000000, nI_add, pk_mul, q_le, q_lt, q_eq, q_cl, q_gi, q_gz, q_sub, q_div, q_dm, d_dm, q_m1, q_mn, q_nm, q_mlt, q_ltm, q_mle, q_lem, q_mm, Option.bind_some, if_true, if_false, Nat.add_zero, ite_self, q_us, q_un, decide_true, decide_false, Bool.false_eq_true, eq_self, and_self, and_true, true_and, and_false, false_and, or_true, true_or, or_false, false_or, d_ltT, d_ltF, d_leT, d_leF, d_eqT, d_eqF, f_X11_throwsBy_L4, f_X11_throwsBy_L4_F, e5]
      rfl
    · have hi := ih (i + 1) (by omega) (by omega)
      obtain ⟨e1, -, e3, -⟩ := m_t h (show i < 300 by omega)
      have ht := (hT i (by omega)).1
      rw [sumTo_s] at hi
      by_cases c1 : tP g i = p
      · rw [if_pos c1] at hi
        simp (disch := omega) only [n_0, n_1, n_2, n_3, n_4, n_5, n_6, n_7, n_8, n_9, n_10, n_12, n_13, n_15, n_20, n_24, n_27, n_31, n_32, n_33, n_36, n_44, n_48, n_50, n_57, n_58, n_59, n_72, n_74, n_75, n_85, n_91, n_96, n_97, n_99, n_122, n_255, n_300, n_432, n_600, n_900, n_999, n_1000, n_1291, n_1399, n_2798, n_11192, n_65536, n_65537, n_99999999, n_1000000, nI_add, pk_mul, q_le, q_lt, q_eq, q_cl, q_gi, q_gz, q_sub, q_div, q_dm, d_dm, q_m1, q_mn, q_nm, q_mlt, q_ltm, q_mle, q_lem, q_mm, Option.bind_some, if_true, if_false, Nat.add_zero, ite_self, q_us, q_un, decide_true, decide_false, Bool.false_eq_true, eq_self, and_self, and_true, true_and, and_false, false_and, or_true, true_or, or_false, false_or, d_ltT, d_ltF, d_leT, d_leF, d_eqT, d_eqF, f_X11_throwsBy_L4, f_X11_throwsBy_L4_F, f_X11_throwsBy_L29, f_X11_ofThrow, e5, e1, e3]
        exact hi
      · rw [if_neg c1] at hi
        simp (disch := omega) only [n_0, n_1, n_2, n_3, n_4, n_5, n_6, n_7, n_8, n_9, n_10, n_12, n_13, n_15, n_20, n_24, n_27, n_31, n_32, n_33, n_36, n_44, n_48, n_50, n_57, n_58, n_59, n_72, n_74, n_75, n_85, n_91, n_96, n_97, n_99, n_122, n_255, n_300, n_432, n_600, n_900, n_999, n_1000, n_1291, n_1399, n_2798, n_11192, n_65536, n_65537, n_99999999, n_1000000, nI_add, pk_mul, q_le, q_lt, q_eq, q_cl, q_gi, q_gz, q_sub, q_div, q_dm, d_dm, q_m1, q_mn, q_nm, q_mlt, q_ltm, q_mle, q_lem, q_mm, Option.bind_some, if_true, if_false, Nat.add_zero, ite_self, q_us, q_un, decide_true, decide_false, Bool.false_eq_true, eq_self, and_self, and_true, true_and, and_false, false_and, or_true, true_or, or_false, false_or, d_ltT, d_ltF, d_leT, d_leF, d_eqT, d_eqF, f_X11_throwsBy_L4, f_X11_throwsBy_L4_F, f_X11_throwsBy_L29, f_X11_ofThrow, e5, e1, e3]
        exact hi
theorem m_by {N : Nat} {m : Nat → Int32} {g : Nat → Nat} {p : Nat} (hN : 1000 < N) (h : MR m g) (hB : okB g) (hD : okD g) (hT : okT g) (hp : p < 6) : f_X11_throwsBy N 1399 m (nI p) = some (nI (cP g p)) := by
  have h5 := b_5 hB
  exact m_byL h hB hD hT hp N 0 (by omega) (by omega)
/-- no player: no throws -/
theorem m_byN {N : Nat} {m : Nat → Int32} {g : Nat → Nat} (hN : 1000 < N) (h : MR m g) (hB : okB g) (hT : okT g) : f_X11_throwsBy N 1399 m (-nI 1) = some (nI 0) := by
  have h5 := b_5 hB
  have b4 := b_4 hB
  have e5 := h 5 (by omega)
  have L : ∀ j i : Nat, i ≤ g 5 → g 5 < i + j → f_X11_throwsBy_L4 N 1399 m j (-nI 1) (nI 0) (nI i) = some (nI 0) := by
    intro j
    induction j with
    | zero => intro i h1 h2; omega
    | succ j ih =>
      intro i h1 h2
      by_cases hc : g 5 ≤ i
      · simp (disch := omega) only [n_0, n_1, n_2, n_3, n_4, n_5, n_6, n_7, n_8, n_9, n_10, n_12, n_13, n_15, n_20, n_24, n_27, n_31, n_32, n_33, n_36, n_44, n_48, n_50, n_57, n_58, n_59, n_72, n_74, n_75, n_85, n_91, n_96, n_97, n_99, n_122, n_255, n_300, n_432, n_600, n_900, n_999, n_1000, n_1291, n_1399, n_2798, n_11192, n_65536, n_65537, n_99999999, n_1000000, nI_add, pk_mul, q_le, q_lt, q_eq, q_cl, q_gi, q_gz, q_sub, q_div, q_dm, d_dm, q_m1, q_mn, q_nm, q_mlt, q_ltm, q_mle, q_lem, q_mm, Option.bind_some, if_true, if_false, Nat.add_zero, ite_self, q_us, q_un, decide_true, decide_false, Bool.false_eq_true, eq_self, and_self, and_true, true_and, and_false, false_and, or_true, true_or, or_false, false_or, d_ltT, d_ltF, d_leT, d_leF, d_eqT, d_eqF, f_X11_throwsBy_L4, f_X11_throwsBy_L4_F, e5]
      · have hi := ih (i + 1) (by omega) (by omega)
        obtain ⟨e1, -, e3, -⟩ := m_t h (show i < 300 by omega)
        have ht := (hT i (by omega)).1
        simp (disch := omega) only [n_0, n_1, n_2, n_3, n_4, n_5, n_6, n_7, n_8, n_9, n_10, n_12, n_13, n_15, n_20, n_24, n_27, n_31, n_32, n_33, n_36, n_44, n_48, n_50, n_57, n_58, n_59, n_72, n_74, n_75, n_85, n_91, n_96, n_97, n_99, n_122, n_255, n_300, n_432, n_600, n_900, n_999, n_1000, n_1291, n_1399, n_2798, n_11192, n_65536, n_65537, n_99999999, n_1000000, nI_add, pk_mul, q_le, q_lt, q_eq, q_cl, q_gi, q_gz, q_sub, q_div, q_dm, d_dm, q_m1, q_mn, q_nm, q_mlt, q_ltm, q_mle, q_lem, q_mm, Option.bind_some, if_true, if_false, Nat.add_zero, ite_self, q_us, q_un, decide_true, decide_false, Bool.false_eq_true, eq_self, and_self, and_true, true_and, and_false, false_and, or_true, true_or, or_false, false_or, d_ltT, d_ltF, d_leT, d_leF, d_eqT, d_eqF, f_X11_throwsBy_L4, f_X11_throwsBy_L4_F, f_X11_throwsBy_L29, f_X11_ofThrow, e5, e1, e3]
        exact hi
  exact L N 0 (by omega) (by omega)
theorem m_rankL {N : Nat} {m : Nat → Int32} {g : Nat → Nat} {p : Nat} (hN : 1000 < N) (h : MR m g) (hO : Ok g) (hp : p < g 4) : ∀ j i : Nat, i ≤ g 4 → g 4 < i + j → f_X11_rank_L11 N 1399 m j (nI p) (nI (gPl (rB g) i p)) (nI (cT g p)) (nI i) = some (nI (gPl (rB g) (g 4) p)) := by
  have h4 := b_4 hO.1
  have e4 := h 4 (by omega)
  have hl := cT_le hO.1 hO.2.1 hO.2.2.2.1
  intro j
  induction j with
  | zero => intro i h1 h2; omega
  | succ j ih =>
    intro i h1 h2
    by_cases hc : g 4 ≤ i
    · have e : i = g 4 := by omega
      subst e
      simp (disch := omega) only [n_0, n_1, n_2, n_3, n_4, n_5, n_6, n_7, n_8, n_9, n_10, n_12, n_13, n_15, n_20, n_24, n_27, n_31, n_32, n_33, n_36, n_44, n_48, n_50, n_57, n_58, n_59, n_72, n_74, n_75, n_85, n_91, n_96, n_97, n_99, n_122, n_255, n_300, n_432, n_600, n_900, n_999, n_1000, n_1291, n_1399, n_2798, n_11192, n_65536, n_65537, n_99999999, n_1000000, nI_add, pk_mul, q_le, q_lt, q_eq, q_cl, q_gi, q_gz, q_sub, q_div, q_dm, d_dm, q_m1, q_mn, q_nm, q_mlt, q_ltm, q_mle, q_lem, q_mm, Option.bind_some, if_true, if_false, Nat.add_zero, ite_self, q_us, q_un, decide_true, decide_false, Bool.false_eq_true, eq_self, and_self, and_true, true_and, and_false, false_and, or_true, true_or, or_false, false_or, d_ltT, d_ltF, d_leT, d_leF, d_eqT, d_eqF, f_X11_rank_L11, f_X11_rank_L11_F, e4]
    · have hi := ih (i + 1) (by omega) (by omega)
      have hg : gPl (rB g) (i + 1) p = gPl (rB g) i p + if rB g i p = true then 1 else 0 := rfl
      have et := m_total (p := i) hN h hO.1 hO.2.1 hO.2.2.2.1 (by omega)
      have l1 := hl i
      have l2 := hl p
      have n1 : m (85 + i) = nI (nC g i) := h _ (by omega)
      have n2 : m (85 + p) = nI (nC g p) := h _ (by omega)
      have c1 := (hO.2.2.1.1 i (by omega)).1
      have c2 := (hO.2.2.1.1 p hp).1
      rw [hg] at hi
      by_cases d1 : cT g p < cT g i
      · rw [if_pos (show rB g i p = true from decide_eq_true (Or.inl d1))] at hi
        simp (disch := omega) only [n_0, n_1, n_2, n_3, n_4, n_5, n_6, n_7, n_8, n_9, n_10, n_12, n_13, n_15, n_20, n_24, n_27, n_31, n_32, n_33, n_36, n_44, n_48, n_50, n_57, n_58, n_59, n_72, n_74, n_75, n_85, n_91, n_96, n_97, n_99, n_122, n_255, n_300, n_432, n_600, n_900, n_999, n_1000, n_1291, n_1399, n_2798, n_11192, n_65536, n_65537, n_99999999, n_1000000, nI_add, pk_mul, q_le, q_lt, q_eq, q_cl, q_gi, q_gz, q_sub, q_div, q_dm, d_dm, q_m1, q_mn, q_nm, q_mlt, q_ltm, q_mle, q_lem, q_mm, Option.bind_some, if_true, if_false, Nat.add_zero, ite_self, q_us, q_un, decide_true, decide_false, Bool.false_eq_true, eq_self, and_self, and_true, true_and, and_false, false_and, or_true, true_or, or_false, false_or, d_ltT, d_ltF, d_leT, d_leF, d_eqT, d_eqF, f_X11_rank_L11, f_X11_rank_L11_F, f_X11_rank_L56, f_X11_rank_L60, f_X11_rank_L61, e4, et]
        exact hi
      · by_cases d2 : cT g i = cT g p
        · by_cases d3 : nC g i < nC g p
          · rw [if_pos (show rB g i p = true from decide_eq_true (Or.inr ⟨d2, d3⟩))] at hi
            simp (disch := omega) only [n_0, n_1, n_2, n_3, n_4, n_5, n_6, n_7, n_8, n_9, n_10, n_12, n_13, n_15, n_20, n_24, n_27, n_31, n_32, n_33, n_36, n_44, n_48, n_50, n_57, n_58, n_59, n_72, n_74, n_75, n_85, n_91, n_96, n_97, n_99, n_122, n_255, n_300, n_432, n_600, n_900, n_999, n_1000, n_1291, n_1399, n_2798, n_11192, n_65536, n_65537, n_99999999, n_1000000, nI_add, pk_mul, q_le, q_lt, q_eq, q_cl, q_gi, q_gz, q_sub, q_div, q_dm, d_dm, q_m1, q_mn, q_nm, q_mlt, q_ltm, q_mle, q_lem, q_mm, Option.bind_some, if_true, if_false, Nat.add_zero, ite_self, q_us, q_un, decide_true, decide_false, Bool.false_eq_true, eq_self, and_self, and_true, true_and, and_false, false_and, or_true, true_or, or_false, false_or, d_ltT, d_ltF, d_leT, d_leF, d_eqT, d_eqF, f_X11_rank_L11, f_X11_rank_L11_F, f_X11_rank_L56, f_X11_rank_L60, f_X11_rank_L61, e4, et, n1, n2]
            exact hi
          · rw [if_neg (show ¬ rB g i p = true from fun x => by have := of_decide_eq_true x; omega)] at hi
            simp (disch := omega) only [n_0, n_1, n_2, n_3, n_4, n_5, n_6, n_7, n_8, n_9, n_10, n_12, n_13, n_15, n_20, n_24, n_27, n_31, n_32, n_33, n_36, n_44, n_48, n_50, n_57, n_58, n_59, n_72, n_74, n_75, n_85, n_91, n_96, n_97, n_99, n_122, n_255, n_300, n_432, n_600, n_900, n_999, n_1000, n_1291, n_1399, n_2798, n_11192, n_65536, n_65537, n_99999999, n_1000000, nI_add, pk_mul, q_le, q_lt, q_eq, q_cl, q_gi, q_gz, q_sub, q_div, q_dm, d_dm, q_m1, q_mn, q_nm, q_mlt, q_ltm, q_mle, q_lem, q_mm, Option.bind_some, if_true, if_false, Nat.add_zero, ite_self, q_us, q_un, decide_true, decide_false, Bool.false_eq_true, eq_self, and_self, and_true, true_and, and_false, false_and, or_true, true_or, or_false, false_or, d_ltT, d_ltF, d_leT, d_leF, d_eqT, d_eqF, f_X11_rank_L11, f_X11_rank_L11_F, f_X11_rank_L56, f_X11_rank_L60, f_X11_rank_L61, e4, et, n1, n2]
            exact hi
        · rw [if_neg (show ¬ rB g i p = true from fun x => by have := of_decide_eq_true x; omega)] at hi
          simp (disch := omega) only [n_0, n_1, n_2, n_3, n_4, n_5, n_6, n_7, n_8, n_9, n_10, n_12, n_13, n_15, n_20, n_24, n_27, n_31, n_32, n_33, n_36, n_44, n_48, n_50, n_57, n_58, n_59, n_72, n_74, n_75, n_85, n_91, n_96, n_97, n_99, n_122, n_255, n_300, n_432, n_600, n_900, n_999, n_1000, n_1291, n_1399, n_2798, n_11192, n_65536, n_65537, n_99999999, n_1000000, nI_add, pk_mul, q_le, q_lt, q_eq, q_cl, q_gi, q_gz, q_sub, q_div, q_dm, d_dm, q_m1, q_mn, q_nm, q_mlt, q_ltm, q_mle, q_lem, q_mm, Option.bind_some, if_true, if_false, Nat.add_zero, ite_self, q_us, q_un, decide_true, decide_false, Bool.false_eq_true, eq_self, and_self, and_true, true_and, and_false, false_and, or_true, true_or, or_false, false_or, d_ltT, d_ltF, d_leT, d_leF, d_eqT, d_eqF, f_X11_rank_L11, f_X11_rank_L11_F, f_X11_rank_L56, f_X11_rank_L60, f_X11_rank_L61, e4, et, n1, n2]
          exact hi
theorem m_rank {N : Nat} {m : Nat → Int32} {g : Nat → Nat} {p : Nat} (hN : 1000 < N) (h : MR m g) (hO : Ok g) (hp : p < g 4) : f_X11_rank N 1399 m (nI p) = some (nI (gPl (rB g) (g 4) p)) := by
  have h4 := b_4 hO.1
  simp (disch := omega) only [n_0, n_1, n_2, n_3, n_4, n_5, n_6, n_7, n_8, n_9, n_10, n_12, n_13, n_15, n_20, n_24, n_27, n_31, n_32, n_33, n_36, n_44, n_48, n_50, n_57, n_58, n_59, n_72, n_74, n_75, n_85, n_91, n_96, n_97, n_99, n_122, n_255, n_300, n_432, n_600, n_900, n_999, n_1000, n_1291, n_1399, n_2798, n_11192, n_65536, n_65537, n_99999999, n_1000000, nI_add, pk_mul, q_le, q_lt, q_eq, q_cl, q_gi, q_gz, q_sub, q_div, q_dm, d_dm, q_m1, q_mn, q_nm, q_mlt, q_ltm, q_mle, q_lem, q_mm, Option.bind_some, if_true, if_false, Nat.add_zero, ite_self, q_us, q_un, decide_true, decide_false, Bool.false_eq_true, eq_self, and_self, and_true, true_and, and_false, false_and, or_true, true_or, or_false, false_or, d_ltT, d_ltF, d_leT, d_leF, d_eqT, d_eqF, f_X11_rank, m_total hN h hO.1 hO.2.1 hO.2.2.2.1 (show p < 6 by omega)]
  exact m_rankL hN h hO hp N 0 (by omega) (by omega)
theorem m_namedL {N c : Nat} {m : Nat → Int32} {g : Nat → Nat} (h : MR m g) (hB : okB g) (hP : okP g) (hc : c < 531441) : ∀ k i j : Nat, i + k = g 4 → k < j → f_X11_named_L2 N 1399 m j (nI c) (nI i) = some (srch (fun p => decide (nC g p = c)) k i) := by
  have h4 := b_4 hB
  have e4 := h 4 (by omega)
  intro k
  induction k with
  | zero =>
    intro i j h1 h2
    obtain ⟨j, rfl⟩ : ∃ t, j = t + 1 := ⟨j - 1, by omega⟩
    simp (disch := omega) only [n_0, n_1, n_2, n_3, n_4, n_5, n_6, n_7, n_8, n_9, n_10, n_12, n_13, n_15, n_20, n_24, n_27, n_31, n_32, n_33, n_36, n_44, n_48, n_50, n_57, n_58, n_59, n_72, n_74, n_75, n_85, n_91, n_96, n_97, n_99, n_122, n_255, n_300, n_432, n_600, n_900, n_999, n_1000, n_1291, n_1399, n_2798, n_11192, n_65536, n_65537, n_99999999, n_1000000, nI_add, pk_mul, q_le, q_lt, q_eq, q_cl, q_gi, q_gz, q_sub, q_div, q_dm, d_dm, q_m1, q_mn, q_nm, q_mlt, q_ltm, q_mle, q_lem, q_mm, Option.bind_some, if_true, if_false, Nat.add_zero, ite_self, q_us, q_un, decide_true, decide_false, Bool.false_eq_true, eq_self, and_self, and_true, true_and, and_false, false_and, or_true, true_or, or_false, false_or, d_ltT, d_ltF, d_leT, d_leF, d_eqT, d_eqF, f_X11_named_L2, f_X11_named_L2_F, e4]
    rfl
  | succ k ih =>
    intro i j h1 h2
    obtain ⟨j, rfl⟩ : ∃ t, j = t + 1 := ⟨j - 1, by omega⟩
    have n1 : m (85 + i) = nI (nC g i) := h _ (by omega)
    have c1 := (hP.1 i (by omega)).1
    have hi := ih (i + 1) j (by omega) (by omega)
    unfold srch
    by_cases d : nC g i = c
    · rw [if_pos (decide_eq_true d)]
      simp (disch := omega) only [n_0, n_1, n_2, n_3, n_4, n_5, n_6, n_7, n_8, n_9, n_10, n_12, n_13, n_15, n_20, n_24, n_27, n_31, n_32, n_33, n_36, n_44, n_48, n_50, n_57, n_58, n_59, n_72, n_74, n_75, n_85, n_91, n_96, n_97, n_99, n_122, n_255, n_300, n_432, n_600, n_900, n_999, n_1000, n_1291, n_1399, n_2798, n_11192, n_65536, n_65537, n_99999999, n_1000000, nI_add, pk_mul, q_le, q_lt, q_eq, q_cl, q_gi, q_gz, q_sub, q_div, q_dm, d_dm, q_m1, q_mn, q_nm, q_mlt, q_ltm, q_mle, q_lem, q_mm, Option.bind_some, if_true, if_false, Nat.add_zero, ite_self, q_us, q_un, decide_true, decide_false, Bool.false_eq_true, eq_self, and_self, and_true, true_and, and_false, false_and, or_true, true_or, or_false, false_or, d_ltT, d_ltF, d_leT, d_leF, d_eqT, d_eqF, f_X11_named_L2, f_X11_named_L2_F, e4, n1]
    · rw [if_neg (by rw [decide_eq_false d]; exact Bool.false_ne_true)]
      simp (disch := omega) only [n_0, n_1, n_2, n_3, n_4, n_5, n_6, n_7, n_8, n_9, n_10, n_12, n_13, n_15, n_20, n_24, n_27, n_31, n_32, n_33, n_36, n_44, n_48, n_50, n_57, n_58, n_59, n_72, n_74, n_75, n_85, n_91, n_96, n_97, n_99, n_122, n_255, n_300, n_432, n_600, n_900, n_999, n_1000, n_1291, n_1399, n_2798, n_11192, n_65536, n_65537, n_99999999, n_1000000, nI_add, pk_mul, q_le, q_lt, q_eq, q_cl, q_gi, q_gz, q_sub, q_div, q_dm, d_dm, q_m1, q_mn, q_nm, q_mlt, q_ltm, q_mle, q_lem, q_mm, Option.bind_some, if_true, if_false, Nat.add_zero, ite_self, q_us, q_un, decide_true, decide_false, Bool.false_eq_true, eq_self, and_self, and_true, true_and, and_false, false_and, or_true, true_or, or_false, false_or, d_ltT, d_ltF, d_leT, d_leF, d_eqT, d_eqF, f_X11_named_L2, f_X11_named_L2_F, e4, n1]
      exact hi
theorem m_named {N c : Nat} {m : Nat → Int32} {g : Nat → Nat} (hN : 1000 < N) (h : MR m g) (hB : okB g) (hP : okP g) (hc : c < 531441) : f_X11_named N 1399 m (nI c) = some (srch (fun p => decide (nC g p = c)) (g 4) 0) := by
  have h4 := b_4 hB
  exact m_namedL h hB hP hc (g 4) 0 N (by omega) (by omega)
theorem m_namedN {N : Nat} {m : Nat → Int32} {g : Nat → Nat} (hN : 1000 < N) (h : MR m g) (hB : okB g) (hP : okP g) : f_X11_named N 1399 m (-nI 1) = some (-nI 1) := by
  have h4 := b_4 hB
  have e4 := h 4 (by omega)
  have L : ∀ k i j : Nat, i + k = g 4 → k < j → f_X11_named_L2 N 1399 m j (-nI 1) (nI i) = some (-nI 1) := by
    intro k
    induction k with
    | zero =>
      intro i j h1 h2
      obtain ⟨j, rfl⟩ : ∃ t, j = t + 1 := ⟨j - 1, by omega⟩
      simp (disch := omega) only [n_0, n_1, n_2, n_3, n_4, n_5, n_6, n_7, n_8, n_9, n_10, n_12, n_13, n_15, n_20, n_24, n_27, n_31, n_32, n_33, n_36, n_44, n_48, n_50, n_57, n_58, n_59, n_72, n_74, n_75, n_85, n_91, n_96, n_97, n_99, n_122, n_255, n_300, n_432, n_600, n_900, n_999, n_1000, n_1291, n_1399, n_2798, n_11192, n_65536, n_65537, n_99999999, n_1000000, nI_add, pk_mul, q_le, q_lt, q_eq, q_cl, q_gi, q_gz, q_sub, q_div, q_dm, d_dm, q_m1, q_mn, q_nm, q_mlt, q_ltm, q_mle, q_lem, q_mm, Option.bind_some, if_true, if_false, Nat.add_zero, ite_self, q_us, q_un, decide_true, decide_false, Bool.false_eq_true, eq_self, and_self, and_true, true_and, and_false, false_and, or_true, true_or, or_false, false_or, d_ltT, d_ltF, d_leT, d_leF, d_eqT, d_eqF, f_X11_named_L2, f_X11_named_L2_F, e4]
    | succ k ih =>
      intro i j h1 h2
      obtain ⟨j, rfl⟩ : ∃ t, j = t + 1 := ⟨j - 1, by omega⟩
      have n1 : m (85 + i) = nI (nC g i) := h _ (by omega)
      have c1 := (hP.1 i (by omega)).1
      have hi := ih (i + 1) j (by omega) (by omega)
      simp (disch := omega) only [n_0, n_1, n_2, n_3, n_4, n_5, n_6, n_7, n_8, n_9, n_10, n_12, n_13, n_15, n_20, n_24, n_27, n_31, n_32, n_33, n_36, n_44, n_48, n_50, n_57, n_58, n_59, n_72, n_74, n_75, n_85, n_91, n_96, n_97, n_99, n_122, n_255, n_300, n_432, n_600, n_900, n_999, n_1000, n_1291, n_1399, n_2798, n_11192, n_65536, n_65537, n_99999999, n_1000000, nI_add, pk_mul, q_le, q_lt, q_eq, q_cl, q_gi, q_gz, q_sub, q_div, q_dm, d_dm, q_m1, q_mn, q_nm, q_mlt, q_ltm, q_mle, q_lem, q_mm, Option.bind_some, if_true, if_false, Nat.add_zero, ite_self, q_us, q_un, decide_true, decide_false, Bool.false_eq_true, eq_self, and_self, and_true, true_and, and_false, false_and, or_true, true_or, or_false, false_or, d_ltT, d_ltF, d_leT, d_leF, d_eqT, d_eqF, f_X11_named_L2, f_X11_named_L2_F, e4, n1]
      exact hi
  exact L (g 4) 0 N (by omega) (by omega)
