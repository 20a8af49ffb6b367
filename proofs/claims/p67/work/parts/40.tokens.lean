/-! the words of the input, both readers side by side -/
/-- the first place from i on, of k, where p is over -/
def skp (p : Nat → Bool) : Nat → Nat → Nat
  | 0, i => i
  | k + 1, i => if p i = true then skp p k (i + 1) else i
theorem skp_bd {p : Nat → Bool} {k i : Nat} : i ≤ skp p k i ∧ skp p k i ≤ i + k := by
  induction k generalizing i with
  | zero => exact ⟨Nat.le_refl _, Nat.le_refl _⟩
  | succ k ih =>
    unfold skp
    split
    · have := @ih (i + 1)
      omega
    · omega
theorem skp_in {p : Nat → Bool} {k i : Nat} : ∀ t, i ≤ t → t < skp p k i → p t = true := by
  induction k generalizing i with
  | zero => intro t h1 h2; unfold skp at h2; omega
  | succ k ih =>
    intro t h1 h2
    unfold skp at h2
    by_cases hp : p i = true
    · rw [if_pos hp] at h2
      rcases Nat.lt_or_ge i t with h3 | h3
      · exact ih t (by omega) h2
      · rw [show t = i by omega]; exact hp
    · rw [if_neg hp] at h2
      omega
theorem skp_at {p : Nat → Bool} {k i : Nat} (h : skp p k i < i + k) : p (skp p k i) = false := by
  induction k generalizing i with
  | zero => unfold skp at h; omega
  | succ k ih =>
    unfold skp at h ⊢
    by_cases hp : p i = true
    · rw [if_pos hp] at h ⊢
      exact ih (by omega)
    · rw [if_neg hp]
      exact Bool.eq_false_iff.mpr hp
def isB (x : Nat) : Bool := decide (x = 32 ∨ x = 10)
def isD (x : Nat) : Bool := decide (48 ≤ x ∧ x ≤ 57)
theorem x_isB {x : Nat} (h : x < 256) : f_X9_isBlank (nI x) = some (bI (isB x)) := by
  unfold isB
  by_cases c1 : x = 32
  · simp (disch := omega) only [n_0, n_1, n_2, n_3, n_4, n_5, n_6, n_7, n_8, n_9, n_10, n_12, n_13, n_15, n_20, n_24, n_27, n_31, n_32, n_33, n_36, n_44, n_48, n_50, n_57, n_58, n_59, n_72, n_74, n_75, n_85, n_91, n_96, n_97, n_99, n_122, n_255, n_300, n_432, n_600, n_900, n_999, n_1000, n_1291, n_1399, n_2798, n_11192, n_65536, n_65537, n_99999999, n_1000000, nI_add, pk_mul, q_le, q_lt, q_eq, q_cl, q_gi, q_gz, q_sub, q_div, q_dm, d_dm, q_m1, q_mn, q_nm, q_mlt, q_ltm, q_mle, q_lem, q_mm, Option.bind_some, if_true, if_false, Nat.add_zero, ite_self, q_us, q_un, decide_true, decide_false, Bool.false_eq_true, eq_self, and_self, and_true, true_and, and_false, false_and, or_true, true_or, or_false, false_or, d_ltT, d_ltF, d_leT, d_leF, d_eqT, d_eqF, f_X9_isBlank]
    first | rfl | (rw [decide_eq_true (Or.inl c1)]; rfl)
  · by_cases c2 : x = 10
    · simp (disch := omega) only [n_0, n_1, n_2, n_3, n_4, n_5, n_6, n_7, n_8, n_9, n_10, n_12, n_13, n_15, n_20, n_24, n_27, n_31, n_32, n_33, n_36, n_44, n_48, n_50, n_57, n_58, n_59, n_72, n_74, n_75, n_85, n_91, n_96, n_97, n_99, n_122, n_255, n_300, n_432, n_600, n_900, n_999, n_1000, n_1291, n_1399, n_2798, n_11192, n_65536, n_65537, n_99999999, n_1000000, nI_add, pk_mul, q_le, q_lt, q_eq, q_cl, q_gi, q_gz, q_sub, q_div, q_dm, d_dm, q_m1, q_mn, q_nm, q_mlt, q_ltm, q_mle, q_lem, q_mm, Option.bind_some, if_true, if_false, Nat.add_zero, ite_self, q_us, q_un, decide_true, decide_false, Bool.false_eq_true, eq_self, and_self, and_true, true_and, and_false, false_and, or_true, true_or, or_false, false_or, d_ltT, d_ltF, d_leT, d_leF, d_eqT, d_eqF, f_X9_isBlank]
      first | rfl | (rw [decide_eq_true (Or.inr c2)]; rfl)
    · simp (disch := omega) only [n_0, n_1, n_2, n_3, n_4, n_5, n_6, n_7, n_8, n_9, n_10, n_12, n_13, n_15, n_20, n_24, n_27, n_31, n_32, n_33, n_36, n_44, n_48, n_50, n_57, n_58, n_59, n_72, n_74, n_75, n_85, n_91, n_96, n_97, n_99, n_122, n_255, n_300, n_432, n_600, n_900, n_999, n_1000, n_1291, n_1399, n_2798, n_11192, n_65536, n_65537, n_99999999, n_1000000, nI_add, pk_mul, q_le, q_lt, q_eq, q_cl, q_gi, q_gz, q_sub, q_div, q_dm, d_dm, q_m1, q_mn, q_nm, q_mlt, q_ltm, q_mle, q_lem, q_mm, Option.bind_some, if_true, if_false, Nat.add_zero, ite_self, q_us, q_un, decide_true, decide_false, Bool.false_eq_true, eq_self, and_self, and_true, true_and, and_false, false_and, or_true, true_or, or_false, false_or, d_ltT, d_ltF, d_leT, d_leF, d_eqT, d_eqF, f_X9_isBlank]
      first | rfl | (rw [decide_eq_false (by omega)]; rfl)
theorem x_isL {x : Nat} (h : x < 256) : f_X9_isLetter (nI x) = some (bI (isL x)) := by
  unfold isL
  by_cases c1 : 97 ≤ x
  · by_cases c2 : x ≤ 122
    · simp (disch := omega) only [n_0, n_1, n_2, n_3, n_4, n_5, n_6, n_7, n_8, n_9, n_10, n_12, n_13, n_15, n_20, n_24, n_27, n_31, n_32, n_33, n_36, n_44, n_48, n_50, n_57, n_58, n_59, n_72, n_74, n_75, n_85, n_91, n_96, n_97, n_99, n_122, n_255, n_300, n_432, n_600, n_900, n_999, n_1000, n_1291, n_1399, n_2798, n_11192, n_65536, n_65537, n_99999999, n_1000000, nI_add, pk_mul, q_le, q_lt, q_eq, q_cl, q_gi, q_gz, q_sub, q_div, q_dm, d_dm, q_m1, q_mn, q_nm, q_mlt, q_ltm, q_mle, q_lem, q_mm, Option.bind_some, if_true, if_false, Nat.add_zero, ite_self, q_us, q_un, decide_true, decide_false, Bool.false_eq_true, eq_self, and_self, and_true, true_and, and_false, false_and, or_true, true_or, or_false, false_or, d_ltT, d_ltF, d_leT, d_leF, d_eqT, d_eqF, f_X9_isLetter]
      first | rfl | (rw [decide_eq_true ⟨c1, c2⟩]; rfl)
    · simp (disch := omega) only [n_0, n_1, n_2, n_3, n_4, n_5, n_6, n_7, n_8, n_9, n_10, n_12, n_13, n_15, n_20, n_24, n_27, n_31, n_32, n_33, n_36, n_44, n_48, n_50, n_57, n_58, n_59, n_72, n_74, n_75, n_85, n_91, n_96, n_97, n_99, n_122, n_255, n_300, n_432, n_600, n_900, n_999, n_1000, n_1291, n_1399, n_2798, n_11192, n_65536, n_65537, n_99999999, n_1000000, nI_add, pk_mul, q_le, q_lt, q_eq, q_cl, q_gi, q_gz, q_sub, q_div, q_dm, d_dm, q_m1, q_mn, q_nm, q_mlt, q_ltm, q_mle, q_lem, q_mm, Option.bind_some, if_true, if_false, Nat.add_zero, ite_self, q_us, q_un, decide_true, decide_false, Bool.false_eq_true, eq_self, and_self, and_true, true_and, and_false, false_and, or_true, true_or, or_false, false_or, d_ltT, d_ltF, d_leT, d_leF, d_eqT, d_eqF, f_X9_isLetter]
      first | rfl | (rw [decide_eq_false (by omega)]; rfl)
  · simp (disch := omega) only [n_0, n_1, n_2, n_3, n_4, n_5, n_6, n_7, n_8, n_9, n_10, n_12, n_13, n_15, n_20, n_24, n_27, n_31, n_32, n_33, n_36, n_44, n_48, n_50, n_57, n_58, n_59, n_72, n_74, n_75, n_85, n_91, n_96, n_97, n_99, n_122, n_255, n_300, n_432, n_600, n_900, n_999, n_1000, n_1291, n_1399, n_2798, n_11192, n_65536, n_65537, n_99999999, n_1000000, nI_add, pk_mul, q_le, q_lt, q_eq, q_cl, q_gi, q_gz, q_sub, q_div, q_dm, d_dm, q_m1, q_mn, q_nm, q_mlt, q_ltm, q_mle, q_lem, q_mm, Option.bind_some, if_true, if_false, Nat.add_zero, ite_self, q_us, q_un, decide_true, decide_false, Bool.false_eq_true, eq_self, and_self, and_true, true_and, and_false, false_and, or_true, true_or, or_false, false_or, d_ltT, d_ltF, d_leT, d_leF, d_eqT, d_eqF, f_X9_isLetter]
    first | rfl | (rw [decide_eq_false (by omega)]; rfl)
theorem x_isD {x : Nat} (h : x < 256) : f_X9_isDigit (nI x) = some (bI (isD x)) := by
  unfold isD
  by_cases c1 : 48 ≤ x
  · by_cases c2 : x ≤ 57
    · simp (disch := omega) only [n_0, n_1, n_2, n_3, n_4, n_5, n_6, n_7, n_8, n_9, n_10, n_12, n_13, n_15, n_20, n_24, n_27, n_31, n_32, n_33, n_36, n_44, n_48, n_50, n_57, n_58, n_59, n_72, n_74, n_75, n_85, n_91, n_96, n_97, n_99, n_122, n_255, n_300, n_432, n_600, n_900, n_999, n_1000, n_1291, n_1399, n_2798, n_11192, n_65536, n_65537, n_99999999, n_1000000, nI_add, pk_mul, q_le, q_lt, q_eq, q_cl, q_gi, q_gz, q_sub, q_div, q_dm, d_dm, q_m1, q_mn, q_nm, q_mlt, q_ltm, q_mle, q_lem, q_mm, Option.bind_some, if_true, if_false, Nat.add_zero, ite_self, q_us, q_un, decide_true, decide_false, Bool.false_eq_true, eq_self, and_self, and_true, true_and, and_false, false_and, or_true, true_or, or_false, false_or, d_ltT, d_ltF, d_leT, d_leF, d_eqT, d_eqF, f_X9_isDigit]
      first | rfl | (rw [decide_eq_true ⟨c1, c2⟩]; rfl)
    · simp (disch := omega) only [n_0, n_1, n_2, n_3, n_4, n_5, n_6, n_7, n_8, n_9, n_10, n_12, n_13, n_15, n_20, n_24, n_27, n_31, n_32, n_33, n_36, n_44, n_48, n_50, n_57, n_58, n_59, n_72, n_74, n_75, n_85, n_91, n_96, n_97, n_99, n_122, n_255, n_300, n_432, n_600, n_900, n_999, n_1000, n_1291, n_1399, n_2798, n_11192, n_65536, n_65537, n_99999999, n_1000000, nI_add, pk_mul, q_le, q_lt, q_eq, q_cl, q_gi, q_gz, q_sub, q_div, q_dm, d_dm, q_m1, q_mn, q_nm, q_mlt, q_ltm, q_mle, q_lem, q_mm, Option.bind_some, if_true, if_false, Nat.add_zero, ite_self, q_us, q_un, decide_true, decide_false, Bool.false_eq_true, eq_self, and_self, and_true, true_and, and_false, false_and, or_true, true_or, or_false, false_or, d_ltT, d_ltF, d_leT, d_leF, d_eqT, d_eqF, f_X9_isDigit]
      first | rfl | (rw [decide_eq_false (by omega)]; rfl)
  · simp (disch := omega) only [n_0, n_1, n_2, n_3, n_4, n_5, n_6, n_7, n_8, n_9, n_10, n_12, n_13, n_15, n_20, n_24, n_27, n_31, n_32, n_33, n_36, n_44, n_48, n_50, n_57, n_58, n_59, n_72, n_74, n_75, n_85, n_91, n_96, n_97, n_99, n_122, n_255, n_300, n_432, n_600, n_900, n_999, n_1000, n_1291, n_1399, n_2798, n_11192, n_65536, n_65537, n_99999999, n_1000000, nI_add, pk_mul, q_le, q_lt, q_eq, q_cl, q_gi, q_gz, q_sub, q_div, q_dm, d_dm, q_m1, q_mn, q_nm, q_mlt, q_ltm, q_mle, q_lem, q_mm, Option.bind_some, if_true, if_false, Nat.add_zero, ite_self, q_us, q_un, decide_true, decide_false, Bool.false_eq_true, eq_self, and_self, and_true, true_and, and_false, false_and, or_true, true_or, or_false, false_or, d_ltT, d_ltF, d_leT, d_leF, d_eqT, d_eqF, f_X9_isDigit]
    first | rfl | (rw [decide_eq_false (by omega)]; rfl)
/-- a number's value, as the model counts it -/
def nV (b : Nat → Nat) : Nat → Nat → Nat → Nat
  | 0, _, v => v
  | k + 1, i, v => if isD (b i) = true then nV b k (i + 1) (if v ≤ 99999999 then 10 * v + b i - 48 else v) else v
theorem nV_lt {b : Nat → Nat} {k i v : Nat} (h : v < 1000000000) : nV b k i v < 1000000000 := by
  induction k generalizing i v with
  | zero => exact h
  | succ k ih =>
    unfold nV
    by_cases hd : isD (b i) = true
    · rw [if_pos hd]
      have := of_decide_eq_true hd
      exact ih (by split <;> omega)
    · rw [if_neg hd]
      exact h
def cap (v : Nat) : Nat := if 1000000 < v then 1000000 else v
theorem x_lettersL {N L : Nat} {b : Nat → Nat} {tb : Nat → Int32} (hT : TR b L tb) : ∀ k i j : Nat, i + k = L → k < j → f_X9_passLetters_L0 N (nI L) tb j (nI i) = some (nI (skp (fun t => isL (b t)) k i)) := by
  have hL := hT.1
  intro k
  induction k with
  | zero =>
    intro i j h1 h2
    obtain ⟨j, rfl⟩ : ∃ t, j = t + 1 := ⟨j - 1, by omega⟩
    simp (disch := omega) only [n_0, n_1, n_2, n_3, n_4, n_5, n_6, n_7, n_8, n_9, n_10, n_12, n_13, n_15, n_20, n_24, n_27, n_31, n_32, n_33, n_36, n_44, n_48, n_50, n_57, n_58, n_59, n_72, n_74, n_75, n_85, n_91, n_96, n_97, n_99, n_122, n_255, n_300, n_432, n_600, n_900, n_999, n_1000, n_1291, n_1399, n_2798, n_11192, n_65536, n_65537, n_99999999, n_1000000, nI_add, pk_mul, q_le, q_lt, q_eq, q_cl, q_gi, q_gz, q_sub, q_div, q_dm, d_dm, q_m1, q_mn, q_nm, q_mlt, q_ltm, q_mle, q_lem, q_mm, Option.bind_some, if_true, if_false, Nat.add_zero, ite_self, q_us, q_un, decide_true, decide_false, Bool.false_eq_true, eq_self, and_self, and_true, true_and, and_false, false_and, or_true, true_or, or_false, false_or, d_ltT, d_ltF, d_leT, d_leF, d_eqT, d_eqF, f_X9_passLetters_L0, f_X9_passLetters_L0_F]
    rfl
  | succ k ih =>
    intro i j h1 h2
    obtain ⟨j, rfl⟩ : ∃ t, j = t + 1 := ⟨j - 1, by omega⟩
    have hb := (hT.2 i (by omega)).1
    have hi := ih (i + 1) j (by omega) (by omega)
    unfold skp
    cases hc : isL (b i)
    · rw [if_neg Bool.false_ne_true]
      simp (disch := omega) only [n_0, n_1, n_2, n_3, n_4, n_5, n_6, n_7, n_8, n_9, n_10, n_12, n_13, n_15, n_20, n_24, n_27, n_31, n_32, n_33, n_36, n_44, n_48, n_50, n_57, n_58, n_59, n_72, n_74, n_75, n_85, n_91, n_96, n_97, n_99, n_122, n_255, n_300, n_432, n_600, n_900, n_999, n_1000, n_1291, n_1399, n_2798, n_11192, n_65536, n_65537, n_99999999, n_1000000, nI_add, pk_mul, q_le, q_lt, q_eq, q_cl, q_gi, q_gz, q_sub, q_div, q_dm, d_dm, q_m1, q_mn, q_nm, q_mlt, q_ltm, q_mle, q_lem, q_mm, Option.bind_some, if_true, if_false, Nat.add_zero, ite_self, q_us, q_un, decide_true, decide_false, Bool.false_eq_true, eq_self, and_self, and_true, true_and, and_false, false_and, or_true, true_or, or_false, false_or, d_ltT, d_ltF, d_leT, d_leF, d_eqT, d_eqF, f_X9_passLetters_L0, f_X9_passLetters_L0_F, e_byte hT (show i < L by omega), x_isL hb, hc, q_b0]
    · rw [if_pos rfl]
      simp (disch := omega) only [n_0, n_1, n_2, n_3, n_4, n_5, n_6, n_7, n_8, n_9, n_10, n_12, n_13, n_15, n_20, n_24, n_27, n_31, n_32, n_33, n_36, n_44, n_48, n_50, n_57, n_58, n_59, n_72, n_74, n_75, n_85, n_91, n_96, n_97, n_99, n_122, n_255, n_300, n_432, n_600, n_900, n_999, n_1000, n_1291, n_1399, n_2798, n_11192, n_65536, n_65537, n_99999999, n_1000000, nI_add, pk_mul, q_le, q_lt, q_eq, q_cl, q_gi, q_gz, q_sub, q_div, q_dm, d_dm, q_m1, q_mn, q_nm, q_mlt, q_ltm, q_mle, q_lem, q_mm, Option.bind_some, if_true, if_false, Nat.add_zero, ite_self, q_us, q_un, decide_true, decide_false, Bool.false_eq_true, eq_self, and_self, and_true, true_and, and_false, false_and, or_true, true_or, or_false, false_or, d_ltT, d_ltF, d_leT, d_leF, d_eqT, d_eqF, f_X9_passLetters_L0, f_X9_passLetters_L0_F, e_byte hT (show i < L by omega), x_isL hb, hc, q_b0, Bool.true_eq_false]
      exact hi
theorem x_digitsL {N L : Nat} {b : Nat → Nat} {tb : Nat → Int32} (hT : TR b L tb) : ∀ k i v j : Nat, i + k = L → k < j → v < 1000000000 → f_X9_passDigits_L5 N (nI L) tb j (nI i) (nI (cap v)) = some (nI (skp (fun t => isD (b t)) k i), nI (cap (nV b k i v))) := by
  have hL := hT.1
  intro k
  induction k with
  | zero =>
    intro i v j h1 h2 h3
    obtain ⟨j, rfl⟩ : ∃ t, j = t + 1 := ⟨j - 1, by omega⟩
    simp (disch := omega) only [n_0, n_1, n_2, n_3, n_4, n_5, n_6, n_7, n_8, n_9, n_10, n_12, n_13, n_15, n_20, n_24, n_27, n_31, n_32, n_33, n_36, n_44, n_48, n_50, n_57, n_58, n_59, n_72, n_74, n_75, n_85, n_91, n_96, n_97, n_99, n_122, n_255, n_300, n_432, n_600, n_900, n_999, n_1000, n_1291, n_1399, n_2798, n_11192, n_65536, n_65537, n_99999999, n_1000000, nI_add, pk_mul, q_le, q_lt, q_eq, q_cl, q_gi, q_gz, q_sub, q_div, q_dm, d_dm, q_m1, q_mn, q_nm, q_mlt, q_ltm, q_mle, q_lem, q_mm, Option.bind_some, if_true, if_false, Nat.add_zero, ite_self, q_us, q_un, decide_true, decide_false, Bool.false_eq_true, eq_self, and_self, and_true, true_and, and_false, false_and, or_true, true_or, or_false, false_or, d_ltT, d_ltF, d_leT, d_leF, d_eqT, d_eqF, f_X9_passDigits_L5, f_X9_passDigits_L5_F]
    rfl
  | succ k ih =>
    intro i v j h1 h2 h3
    obtain ⟨j, rfl⟩ : ∃ t, j = t + 1 := ⟨j - 1, by omega⟩
    have hb := (hT.2 i (by omega)).1
    unfold skp nV
    cases hc : isD (b i)
    · rw [if_neg Bool.false_ne_true, if_neg Bool.false_ne_true]
      simp (disch := omega) only [n_0, n_1, n_2, n_3, n_4, n_5, n_6, n_7, n_8, n_9, n_10, n_12, n_13, n_15, n_20, n_24, n_27, n_31, n_32, n_33, n_36, n_44, n_48, n_50, n_57, n_58, n_59, n_72, n_74, n_75, n_85, n_91, n_96, n_97, n_99, n_122, n_255, n_300, n_432, n_600, n_900, n_999, n_1000, n_1291, n_1399, n_2798, n_11192, n_65536, n_65537, n_99999999, n_1000000, nI_add, pk_mul, q_le, q_lt, q_eq, q_cl, q_gi, q_gz, q_sub, q_div, q_dm, d_dm, q_m1, q_mn, q_nm, q_mlt, q_ltm, q_mle, q_lem, q_mm, Option.bind_some, if_true, if_false, Nat.add_zero, ite_self, q_us, q_un, decide_true, decide_false, Bool.false_eq_true, eq_self, and_self, and_true, true_and, and_false, false_and, or_true, true_or, or_false, false_or, d_ltT, d_ltF, d_leT, d_leF, d_eqT, d_eqF, f_X9_passDigits_L5, f_X9_passDigits_L5_F, e_byte hT (show i < L by omega), x_isD hb, hc, q_b0]
    · have hd := of_decide_eq_true hc
      rw [if_pos rfl, if_pos rfl]
      have hv : (if v ≤ 99999999 then 10 * v + b i - 48 else v) < 1000000000 := by split <;> omega
      have hi := ih (i + 1) _ j (by omega) (by omega) hv
      have hcap : (if 1000000 < cap v * 10 + b i - 48 then 1000000 else cap v * 10 + b i - 48) = cap (if v ≤ 99999999 then 10 * v + b i - 48 else v) := by
        unfold cap
        split <;> split <;> split <;> (try split) <;> omega
      have hcv : cap v ≤ 1000000 := by unfold cap; split <;> omega
      rw [← hcap] at hi
      by_cases hx : 1000000 < cap v * 10 + b i - 48
      · rw [if_pos hx] at hi
        simp (disch := omega) only [n_0, n_1, n_2, n_3, n_4, n_5, n_6, n_7, n_8, n_9, n_10, n_12, n_13, n_15, n_20, n_24, n_27, n_31, n_32, n_33, n_36, n_44, n_48, n_50, n_57, n_58, n_59, n_72, n_74, n_75, n_85, n_91, n_96, n_97, n_99, n_122, n_255, n_300, n_432, n_600, n_900, n_999, n_1000, n_1291, n_1399, n_2798, n_11192, n_65536, n_65537, n_99999999, n_1000000, nI_add, pk_mul, q_le, q_lt, q_eq, q_cl, q_gi, q_gz, q_sub, q_div, q_dm, d_dm, q_m1, q_mn, q_nm, q_mlt, q_ltm, q_mle, q_lem, q_mm, Option.bind_some, if_true, if_false, Nat.add_zero, ite_self, q_us, q_un, decide_true, decide_false, Bool.false_eq_true, eq_self, and_self, and_true, true_and, and_false, false_and, or_true, true_or, or_false, false_or, d_ltT, d_ltF, d_leT, d_leF, d_eqT, d_eqF, f_X9_passDigits_L5, f_X9_passDigits_L5_F, e_byte hT (show i < L by omega), x_isD hb, hc, q_b0, Bool.true_eq_false]
        rw [if_pos hx] at *
        exact hi
      · rw [if_neg hx] at hi
        simp (disch := omega) only [n_0, n_1, n_2, n_3, n_4, n_5, n_6, n_7, n_8, n_9, n_10, n_12, n_13, n_15, n_20, n_24, n_27, n_31, n_32, n_33, n_36, n_44, n_48, n_50, n_57, n_58, n_59, n_72, n_74, n_75, n_85, n_91, n_96, n_97, n_99, n_122, n_255, n_300, n_432, n_600, n_900, n_999, n_1000, n_1291, n_1399, n_2798, n_11192, n_65536, n_65537, n_99999999, n_1000000, nI_add, pk_mul, q_le, q_lt, q_eq, q_cl, q_gi, q_gz, q_sub, q_div, q_dm, d_dm, q_m1, q_mn, q_nm, q_mlt, q_ltm, q_mle, q_lem, q_mm, Option.bind_some, if_true, if_false, Nat.add_zero, ite_self, q_us, q_un, decide_true, decide_false, Bool.false_eq_true, eq_self, and_self, and_true, true_and, and_false, false_and, or_true, true_or, or_false, false_or, d_ltT, d_ltF, d_leT, d_leF, d_eqT, d_eqF, f_X9_passDigits_L5, f_X9_passDigits_L5_F, e_byte hT (show i < L by omega), x_isD hb, hc, q_b0, Bool.true_eq_false]
        exact hi
/-- the token that begins at s: its kind (0 end, 1 word, 2 number, 3 sign), its end, its value -/
def tkK (b : Nat → Nat) (L s : Nat) : Nat := if L ≤ s then 0 else if isL (b s) = true then 1 else if isD (b s) = true then 2 else 3
def tkE (b : Nat → Nat) (L s : Nat) : Nat := if L ≤ s then s else if isL (b s) = true then skp (fun t => isL (b t)) (L - s) s else if isD (b s) = true then skp (fun t => isD (b t)) (L - s) s else s + 1
def tkV (b : Nat → Nat) (L s : Nat) : Nat := nV b (L - s) s 0
def tkM (k : Nat) : Nat := if k = 0 then 0 else if k = 1 then 3 else if k = 2 then 2 else 1
theorem tkK_le {b : Nat → Nat} {L s : Nat} : tkK b L s ≤ 3 := by
  unfold tkK
  split
  · omega
  · split
    · omega
    · split <;> omega
theorem tkE_s {b : Nat → Nat} {L s : Nat} (h : s ≤ L) : s ≤ tkE b L s ∧ tkE b L s ≤ L ∧ (tkK b L s ≠ 0 → s < L ∧ s < tkE b L s) ∧ (tkK b L s = 0 → s = L) ∧ (tkK b L s = 1 → ∀ t, s ≤ t → t < tkE b L s → isL (b t) = true) ∧ (tkK b L s = 3 → tkE b L s = s + 1) := by
  have h1 := @skp_bd (fun t => isL (b t)) (L - s) s
  have h2 := @skp_bd (fun t => isD (b t)) (L - s) s
  have g1 : s < L → isL (b s) = true → s < skp (fun t => isL (b t)) (L - s) s := fun hs hl => by
    obtain ⟨k, hk⟩ : ∃ k, L - s = k + 1 := ⟨L - s - 1, by omega⟩
    rw [hk]
    unfold skp
    rw [if_pos hl]
    have := @skp_bd (fun t => isL (b t)) k (s + 1)
    omega
  have g2 : s < L → isD (b s) = true → s < skp (fun t => isD (b t)) (L - s) s := fun hs hl => by
    obtain ⟨k, hk⟩ : ∃ k, L - s = k + 1 := ⟨L - s - 1, by omega⟩
    rw [hk]
    unfold skp
    rw [if_pos hl]
    have := @skp_bd (fun t => isD (b t)) k (s + 1)
    omega
  unfold tkE tkK
  by_cases c0 : L ≤ s
  · rw [if_pos c0, if_pos c0]
    exact ⟨Nat.le_refl _, h, fun x => absurd rfl x, fun _ => by omega, fun x => absurd x (by decide), fun x => absurd x (by decide)⟩
  · rw [if_neg c0, if_neg c0]
    by_cases c1 : isL (b s) = true
    · rw [if_pos c1, if_pos c1]
      have := g1 (by omega) c1
      exact ⟨by omega, by omega, fun _ => ⟨by omega, by omega⟩, fun x => absurd x (by decide), fun _ => skp_in, fun x => absurd x (by decide)⟩
    · rw [if_neg c1, if_neg c1]
      by_cases c2 : isD (b s) = true
      · rw [if_pos c2, if_pos c2]
        have := g2 (by omega) c2
        exact ⟨by omega, by omega, fun _ => ⟨by omega, by omega⟩, fun x => absurd x (by decide), fun x => absurd x (by decide), fun x => absurd x (by decide)⟩
      · rw [if_neg c2, if_neg c2]
        exact ⟨by omega, by omega, fun _ => ⟨by omega, by omega⟩, fun x => absurd x (by decide), fun x => absurd x (by decide), fun _ => rfl⟩
/-- a token in the class's hands, in the model's -/
def TC (b : Nat → Nat) (L s : Nat) (kd ts te tv : Int32) : Prop := s ≤ L ∧ kd = nI (tkK b L s) ∧ ts = nI s ∧ te = nI (tkE b L s) ∧ (tkK b L s = 2 → tv = nI (cap (tkV b L s)))
def TM (b : Nat → Nat) (L s : Nat) (po st tk vl lt : Int32) : Prop := s ≤ L ∧ po = nI (tkE b L s) ∧ st = nI s ∧ tk = nI (tkM (tkK b L s)) ∧ (tkK b L s = 2 → vl = nI (tkV b L s)) ∧ (tkK b L s = 1 → lt = nI (tkE b L s - s))
theorem x_at {N L s : Nat} {b : Nat → Nat} {tb : Nat → Int32} {kd te tv : Int32} (hN : 1000 < N) (hT : TR b L tb) (hs : s ≤ L) : ∃ kd' ts' te' tv', f_X9_advance_L52 N (nI L) tb kd (nI s) te tv = some (kd', ts', te', tv') ∧ TC b L s kd' ts' te' tv' := by
  have hL := hT.1
  unfold TC tkK tkE
  by_cases c0 : L ≤ s
  · have e : s = L := by omega
    subst e
    refine ⟨nI 0, nI s, nI s, tv, ?_, hs, ?_, rfl, ?_, ?_⟩
    · simp (disch := omega) only [n_0, n_1, n_2, n_3, n_4, n_5, n_6, n_7, n_8, n_9, n_10, n_12, n_13, n_15, n_20, n_24, n_27, n_31, n_32, n_33, n_36, n_44, n_48, n_50, n_57, n_58, n_59, n_72, n_74, n_75, n_85, n_91, n_96, n_97, n_99, n_122, n_255, n_300, n_432, n_600, n_900, n_999, n_1000, n_1291, n_1399, n_2798, n_11192, n_65536, n_65537, n_99999999, n_1000000, nI_add, pk_mul, q_le, q_lt, q_eq, q_cl, q_gi, q_gz, q_sub, q_div, q_dm, d_dm, q_m1, q_mn, q_nm, q_mlt, q_ltm, q_mle, q_lem, q_mm, Option.bind_some, if_true, if_false, Nat.add_zero, ite_self, q_us, q_un, decide_true, decide_false, Bool.false_eq_true, eq_self, and_self, and_true, true_and, and_false, false_and, or_true, true_or, or_false, false_or, d_ltT, d_ltF, d_leT, d_leF, d_eqT, d_eqF, f_X9_advance_L52, e_byteN hT (show s ≤ s by omega) (show s < 2147483648 by omega)]
    · rw [if_pos c0]
    · rw [if_pos c0]
    · rw [if_pos c0]; intro x; cases x
  · have hb := (hT.2 s (by omega)).1
    rw [if_neg c0, if_neg c0]
    by_cases c1 : isL (b s) = true
    · refine ⟨nI 1, nI s, nI (skp (fun t => isL (b t)) (L - s) s), tv, ?_, hs, ?_, rfl, ?_, ?_⟩
      · simp (disch := omega) only [n_0, n_1, n_2, n_3, n_4, n_5, n_6, n_7, n_8, n_9, n_10, n_12, n_13, n_15, n_20, n_24, n_27, n_31, n_32, n_33, n_36, n_44, n_48, n_50, n_57, n_58, n_59, n_72, n_74, n_75, n_85, n_91, n_96, n_97, n_99, n_122, n_255, n_300, n_432, n_600, n_900, n_999, n_1000, n_1291, n_1399, n_2798, n_11192, n_65536, n_65537, n_99999999, n_1000000, nI_add, pk_mul, q_le, q_lt, q_eq, q_cl, q_gi, q_gz, q_sub, q_div, q_dm, d_dm, q_m1, q_mn, q_nm, q_mlt, q_ltm, q_mle, q_lem, q_mm, Option.bind_some, if_true, if_false, Nat.add_zero, ite_self, q_us, q_un, decide_true, decide_false, Bool.false_eq_true, eq_self, and_self, and_true, true_and, and_false, false_and, or_true, true_or, or_false, false_or, d_ltT, d_ltF, d_leT, d_leF, d_eqT, d_eqF, f_X9_advance_L52, f_X9_passLetters, e_byte hT (show s < L by omega), x_isL hb, c1, q_b0, Bool.true_eq_false, x_lettersL (N := N) hT (L - s) s N (by omega) (by omega)]
      · rw [if_pos c1]
      · rw [if_pos c1]
      · rw [if_pos c1]; intro x; cases x
    · rw [if_neg c1, if_neg c1]
      have c1' : isL (b s) = false := Bool.eq_false_iff.mpr c1
      by_cases c2 : isD (b s) = true
      · refine ⟨nI 2, nI s, nI (skp (fun t => isD (b t)) (L - s) s), nI (cap (tkV b L s)), ?_, hs, ?_, rfl, ?_, fun _ => rfl⟩
        · have e := x_digitsL (N := N) hT (L - s) s 0 N (by omega) (by omega) (by omega)
          rw [show cap 0 = 0 from rfl] at e
          simp (disch := omega) only [n_0, n_1, n_2, n_3, n_4, n_5, n_6, n_7, n_8, n_9, n_10, n_12, n_13, n_15, n_20, n_24, n_27, n_31, n_32, n_33, n_36, n_44, n_48, n_50, n_57, n_58, n_59, n_72, n_74, n_75, n_85, n_91, n_96, n_97, n_99, n_122, n_255, n_300, n_432, n_600, n_900, n_999, n_1000, n_1291, n_1399, n_2798, n_11192, n_65536, n_65537, n_99999999, n_1000000, nI_add, pk_mul, q_le, q_lt, q_eq, q_cl, q_gi, q_gz, q_sub, q_div, q_dm, d_dm, q_m1, q_mn, q_nm, q_mlt, q_ltm, q_mle, q_lem, q_mm, Option.bind_some, if_true, if_false, Nat.add_zero, ite_self, q_us, q_un, decide_true, decide_false, Bool.false_eq_true, eq_self, and_self, and_true, true_and, and_false, false_and, or_true, true_or, or_false, false_or, d_ltT, d_ltF, d_leT, d_leF, d_eqT, d_eqF, f_X9_advance_L52, f_X9_passDigits, e_byte hT (show s < L by omega), x_isL hb, x_isD hb, c1', c2, q_b0, Bool.true_eq_false, e]
          rfl
        · rw [if_pos c2]
        · rw [if_pos c2]
      · have c2' : isD (b s) = false := Bool.eq_false_iff.mpr c2
        refine ⟨nI 3, nI s, nI (s + 1), tv, ?_, hs, ?_, rfl, ?_, ?_⟩
        · simp (disch := omega) only [n_0, n_1, n_2, n_3, n_4, n_5, n_6, n_7, n_8, n_9, n_10, n_12, n_13, n_15, n_20, n_24, n_27, n_31, n_32, n_33, n_36, n_44, n_48, n_50, n_57, n_58, n_59, n_72, n_74, n_75, n_85, n_91, n_96, n_97, n_99, n_122, n_255, n_300, n_432, n_600, n_900, n_999, n_1000, n_1291, n_1399, n_2798, n_11192, n_65536, n_65537, n_99999999, n_1000000, nI_add, pk_mul, q_le, q_lt, q_eq, q_cl, q_gi, q_gz, q_sub, q_div, q_dm, d_dm, q_m1, q_mn, q_nm, q_mlt, q_ltm, q_mle, q_lem, q_mm, Option.bind_some, if_true, if_false, Nat.add_zero, ite_self, q_us, q_un, decide_true, decide_false, Bool.false_eq_true, eq_self, and_self, and_true, true_and, and_false, false_and, or_true, true_or, or_false, false_or, d_ltT, d_ltF, d_leT, d_leF, d_eqT, d_eqF, f_X9_advance_L52, e_byte hT (show s < L by omega), x_isL hb, x_isD hb, c1', c2', q_b0]
        · rw [if_neg c2]
        · rw [if_neg c2]
        · rw [if_neg c2]; intro x; cases x
/-- the next token's begin -/
def tkN (b : Nat → Nat) (L e : Nat) : Nat := skp (fun t => isB (b t)) (L - e) e
theorem tkN_bd {b : Nat → Nat} {L e : Nat} (h : e ≤ L) : e ≤ tkN b L e ∧ tkN b L e ≤ L := by
  have := @skp_bd (fun t => isB (b t)) (L - e) e
  unfold tkN
  omega
theorem x_advL {N L : Nat} {b : Nat → Nat} {tb : Nat → Int32} {kd te tv : Int32} (hN : 1000 < N) (hT : TR b L tb) : ∀ k i j : Nat, i + k = L → k < j → ∃ kd' ts' te' tv', f_X9_advance_L8 N (nI L) tb j kd (nI i) te tv = some (kd', ts', te', tv') ∧ TC b L (skp (fun t => isB (b t)) k i) kd' ts' te' tv' := by
  have hL := hT.1
  intro k
  induction k with
  | zero =>
    intro i j h1 h2
    obtain ⟨j, rfl⟩ : ∃ t, j = t + 1 := ⟨j - 1, by omega⟩
    obtain ⟨k1, k2, k3, k4, e1, e2⟩ := x_at (N := N) (kd := kd) (te := te) (tv := tv) hN hT (show i ≤ L by omega)
    refine ⟨k1, k2, k3, k4, ?_, e2⟩
    simp (disch := omega) only [n_0, n_1, n_2, n_3, n_4, n_5, n_6, n_7, n_8, n_9, n_10, n_12, n_13, n_15, n_20, n_24, n_27, n_31, n_32, n_33, n_36, n_44, n_48, n_50, n_57, n_58, n_59, n_72, n_74, n_75, n_85, n_91, n_96, n_97, n_99, n_122, n_255, n_300, n_432, n_600, n_900, n_999, n_1000, n_1291, n_1399, n_2798, n_11192, n_65536, n_65537, n_99999999, n_1000000, nI_add, pk_mul, q_le, q_lt, q_eq, q_cl, q_gi, q_gz, q_sub, q_div, q_dm, d_dm, q_m1, q_mn, q_nm, q_mlt, q_ltm, q_mle, q_lem, q_mm, Option.bind_some, if_true, if_false, Nat.add_zero, ite_self, q_us, q_un, decide_true, decide_false, Bool.false_eq_true, eq_self, and_self, and_true, true_and, and_false, false_and, or_true, true_or, or_false, false_or, d_ltT, d_ltF, d_leT, d_leF, d_eqT, d_eqF, f_X9_advance_L8, f_X9_advance_L8_F, e1]
  | succ k ih =>
    intro i j h1 h2
    obtain ⟨j, rfl⟩ : ∃ t, j = t + 1 := ⟨j - 1, by omega⟩
    have hb := (hT.2 i (by omega)).1
    unfold skp
    cases hc : isB (b i)
    · obtain ⟨k1, k2, k3, k4, e1, e2⟩ := x_at (N := N) (kd := kd) (te := te) (tv := tv) hN hT (show i ≤ L by omega)
      refine ⟨k1, k2, k3, k4, ?_, ?_⟩
      · simp (disch := omega) only [n_0, n_1, n_2, n_3, n_4, n_5, n_6, n_7, n_8, n_9, n_10, n_12, n_13, n_15, n_20, n_24, n_27, n_31, n_32, n_33, n_36, n_44, n_48, n_50, n_57, n_58, n_59, n_72, n_74, n_75, n_85, n_91, n_96, n_97, n_99, n_122, n_255, n_300, n_432, n_600, n_900, n_999, n_1000, n_1291, n_1399, n_2798, n_11192, n_65536, n_65537, n_99999999, n_1000000, nI_add, pk_mul, q_le, q_lt, q_eq, q_cl, q_gi, q_gz, q_sub, q_div, q_dm, d_dm, q_m1, q_mn, q_nm, q_mlt, q_ltm, q_mle, q_lem, q_mm, Option.bind_some, if_true, if_false, Nat.add_zero, ite_self, q_us, q_un, decide_true, decide_false, Bool.false_eq_true, eq_self, and_self, and_true, true_and, and_false, false_and, or_true, true_or, or_false, false_or, d_ltT, d_ltF, d_leT, d_leF, d_eqT, d_eqF, f_X9_advance_L8, f_X9_advance_L8_F, e_byte hT (show i < L by omega), x_isB hb, hc, q_b0, e1]
      · rw [if_neg Bool.false_ne_true]; exact e2
    · obtain ⟨k1, k2, k3, k4, e1, e2⟩ := ih (i + 1) j (by omega) (by omega)
      refine ⟨k1, k2, k3, k4, ?_, ?_⟩
      · simp (disch := omega) only [n_0, n_1, n_2, n_3, n_4, n_5, n_6, n_7, n_8, n_9, n_10, n_12, n_13, n_15, n_20, n_24, n_27, n_31, n_32, n_33, n_36, n_44, n_48, n_50, n_57, n_58, n_59, n_72, n_74, n_75, n_85, n_91, n_96, n_97, n_99, n_122, n_255, n_300, n_432, n_600, n_900, n_999, n_1000, n_1291, n_1399, n_2798, n_11192, n_65536, n_65537, n_99999999, n_1000000, nI_add, pk_mul, q_le, q_lt, q_eq, q_cl, q_gi, q_gz, q_sub, q_div, q_dm, d_dm, q_m1, q_mn, q_nm, q_mlt, q_ltm, q_mle, q_lem, q_mm, Option.bind_some, if_true, if_false, Nat.add_zero, ite_self, q_us, q_un, decide_true, decide_false, Bool.false_eq_true, eq_self, and_self, and_true, true_and, and_false, false_and, or_true, true_or, or_false, false_or, d_ltT, d_ltF, d_leT, d_leF, d_eqT, d_eqF, f_X9_advance_L8, f_X9_advance_L8_F, e_byte hT (show i < L by omega), x_isB hb, hc, q_b0, Bool.true_eq_false, e1]
      · rw [if_pos rfl]; exact e2
theorem x_adv {N L e : Nat} {b : Nat → Nat} {tb : Nat → Int32} {kd ts tv : Int32} (hN : 1000 < N) (hT : TR b L tb) (he : e ≤ L) : ∃ kd' ts' te' tv', f_X9_advance N (nI L) tb kd ts (nI e) tv = some (kd', ts', te', tv') ∧ TC b L (tkN b L e) kd' ts' te' tv' := by
  have hL := hT.1
  exact x_advL hN hT (L - e) e N (by omega) (by omega)
