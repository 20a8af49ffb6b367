/-! the class's static methods and its dice -/
theorem e_at {n i : Nat} {f : Nat → Int32} (h : i < n) (hn : n < 2147483648) : f_X10_at n f (nI i) = some (f i) := by
  simp (disch := omega) only [n_0, n_1, n_2, n_3, n_4, n_5, n_6, n_7, n_8, n_9, n_10, n_12, n_13, n_15, n_20, n_24, n_27, n_31, n_32, n_33, n_36, n_44, n_48, n_50, n_57, n_58, n_59, n_72, n_74, n_75, n_85, n_91, n_96, n_97, n_99, n_122, n_255, n_300, n_432, n_600, n_900, n_999, n_1000, n_1291, n_1399, n_2798, n_11192, n_65536, n_65537, n_99999999, n_1000000, nI_add, pk_mul, q_le, q_lt, q_eq, q_cl, q_gi, q_gz, q_sub, q_div, q_dm, d_dm, q_m1, q_mn, q_nm, q_mlt, q_ltm, q_mle, q_lem, q_mm, Option.bind_some, if_true, if_false, Nat.add_zero, ite_self, q_us, q_un, decide_true, decide_false, Bool.false_eq_true, eq_self, and_self, and_true, true_and, and_false, false_and, or_true, true_or, or_false, false_or, d_ltT, d_ltF, d_leT, d_leF, d_eqT, d_eqF, f_X10_at]
theorem e_put {n i : Nat} {f : Nat → Int32} {v : Int32} (h : i < n) (hn : n < 2147483648) : f_X10_put n f (nI i) v = some (upd f i v) := by
  simp (disch := omega) only [n_0, n_1, n_2, n_3, n_4, n_5, n_6, n_7, n_8, n_9, n_10, n_12, n_13, n_15, n_20, n_24, n_27, n_31, n_32, n_33, n_36, n_44, n_48, n_50, n_57, n_58, n_59, n_72, n_74, n_75, n_85, n_91, n_96, n_97, n_99, n_122, n_255, n_300, n_432, n_600, n_900, n_999, n_1000, n_1291, n_1399, n_2798, n_11192, n_65536, n_65537, n_99999999, n_1000000, nI_add, pk_mul, q_le, q_lt, q_eq, q_cl, q_gi, q_gz, q_sub, q_div, q_dm, d_dm, q_m1, q_mn, q_nm, q_mlt, q_ltm, q_mle, q_lem, q_mm, Option.bind_some, if_true, if_false, Nat.add_zero, ite_self, q_us, q_un, decide_true, decide_false, Bool.false_eq_true, eq_self, and_self, and_true, true_and, and_false, false_and, or_true, true_or, or_false, false_or, d_ltT, d_ltF, d_leT, d_leF, d_eqT, d_eqF, f_X10_put]
theorem e_copyRow {n : Nat} {f g : Nat → Int32} (hn : n < 2147483648) : f_X10_copyRow n f n g = some (va_cpy f g 0 0 n) := by
  have h0 : (0 : Int32).toNatClampNeg = 0 := by decide +kernel
  have hc : cpok 0 0 (nI n) n n = true := decide_eq_true ⟨by decide +kernel, by decide +kernel, nI_pos hn, by rw [h0, nI_clamp hn]; omega, by rw [h0, nI_clamp hn]; omega⟩
  unfold f_X10_copyRow gd
  rw [if_pos rfl, if_pos hc, h0, nI_clamp hn]
theorem cpy_lt {f g : Nat → Int32} {n k : Nat} (h : k < n) : va_cpy f g 0 0 n k = f k := by
  rw [pk_cpy_in (Nat.zero_le _) (by omega), Nat.zero_add, Nat.sub_zero]
theorem e_cell {q f : Nat} : f_X10_cellOf (nI q) (nI (f + 1)) = some (nI (12 * q + f)) := by
  simp (disch := omega) only [n_0, n_1, n_2, n_3, n_4, n_5, n_6, n_7, n_8, n_9, n_10, n_12, n_13, n_15, n_20, n_24, n_27, n_31, n_32, n_33, n_36, n_44, n_48, n_50, n_57, n_58, n_59, n_72, n_74, n_75, n_85, n_91, n_96, n_97, n_99, n_122, n_255, n_300, n_432, n_600, n_900, n_999, n_1000, n_1291, n_1399, n_2798, n_11192, n_65536, n_65537, n_99999999, n_1000000, nI_add, pk_mul, q_le, q_lt, q_eq, q_cl, q_gi, q_gz, q_sub, q_div, q_dm, d_dm, q_m1, q_mn, q_nm, q_mlt, q_ltm, q_mle, q_lem, q_mm, Option.bind_some, if_true, if_false, Nat.add_zero, ite_self, q_us, q_un, decide_true, decide_false, Bool.false_eq_true, eq_self, and_self, and_true, true_and, and_false, false_and, or_true, true_or, or_false, false_or, d_ltT, d_ltF, d_leT, d_leF, d_eqT, d_eqF, f_X10_cellOf]
  exact eN (by omega)
theorem e_cell1 {q : Nat} : f_X10_cellOf (nI q) (nI 1) = some (nI (12 * q)) := by
  simp (disch := omega) only [n_0, n_1, n_2, n_3, n_4, n_5, n_6, n_7, n_8, n_9, n_10, n_12, n_13, n_15, n_20, n_24, n_27, n_31, n_32, n_33, n_36, n_44, n_48, n_50, n_57, n_58, n_59, n_72, n_74, n_75, n_85, n_91, n_96, n_97, n_99, n_122, n_255, n_300, n_432, n_600, n_900, n_999, n_1000, n_1291, n_1399, n_2798, n_11192, n_65536, n_65537, n_99999999, n_1000000, nI_add, pk_mul, q_le, q_lt, q_eq, q_cl, q_gi, q_gz, q_sub, q_div, q_dm, d_dm, q_m1, q_mn, q_nm, q_mlt, q_ltm, q_mle, q_lem, q_mm, Option.bind_some, if_true, if_false, Nat.add_zero, ite_self, q_us, q_un, decide_true, decide_false, Bool.false_eq_true, eq_self, and_self, and_true, true_and, and_false, false_and, or_true, true_or, or_false, false_or, d_ltT, d_ltF, d_leT, d_leF, d_eqT, d_eqF, f_X10_cellOf]
  exact eN (by omega)
theorem e_pair {p d : Nat} : f_X10_pairOf (nI p) (nI d) = some (nI (6 * p + d)) := by
  simp (disch := omega) only [n_0, n_1, n_2, n_3, n_4, n_5, n_6, n_7, n_8, n_9, n_10, n_12, n_13, n_15, n_20, n_24, n_27, n_31, n_32, n_33, n_36, n_44, n_48, n_50, n_57, n_58, n_59, n_72, n_74, n_75, n_85, n_91, n_96, n_97, n_99, n_122, n_255, n_300, n_432, n_600, n_900, n_999, n_1000, n_1291, n_1399, n_2798, n_11192, n_65536, n_65537, n_99999999, n_1000000, nI_add, pk_mul, q_le, q_lt, q_eq, q_cl, q_gi, q_gz, q_sub, q_div, q_dm, d_dm, q_m1, q_mn, q_nm, q_mlt, q_ltm, q_mle, q_lem, q_mm, Option.bind_some, if_true, if_false, Nat.add_zero, ite_self, q_us, q_un, decide_true, decide_false, Bool.false_eq_true, eq_self, and_self, and_true, true_and, and_false, false_and, or_true, true_or, or_false, false_or, d_ltT, d_ltF, d_leT, d_leF, d_eqT, d_eqF, f_X10_pairOf]
  exact eN (by omega)
theorem e_pair0 {p : Nat} : f_X10_pairOf (nI p) (nI 0) = some (nI (6 * p)) := by
  simp (disch := omega) only [n_0, n_1, n_2, n_3, n_4, n_5, n_6, n_7, n_8, n_9, n_10, n_12, n_13, n_15, n_20, n_24, n_27, n_31, n_32, n_33, n_36, n_44, n_48, n_50, n_57, n_58, n_59, n_72, n_74, n_75, n_85, n_91, n_96, n_97, n_99, n_122, n_255, n_300, n_432, n_600, n_900, n_999, n_1000, n_1291, n_1399, n_2798, n_11192, n_65536, n_65537, n_99999999, n_1000000, nI_add, pk_mul, q_le, q_lt, q_eq, q_cl, q_gi, q_gz, q_sub, q_div, q_dm, d_dm, q_m1, q_mn, q_nm, q_mlt, q_ltm, q_mle, q_lem, q_mm, Option.bind_some, if_true, if_false, Nat.add_zero, ite_self, q_us, q_un, decide_true, decide_false, Bool.false_eq_true, eq_self, and_self, and_true, true_and, and_false, false_and, or_true, true_or, or_false, false_or, d_ltT, d_ltF, d_leT, d_leF, d_eqT, d_eqF, f_X10_pairOf]
  exact eN (by omega)
theorem e_playerOf {q : Nat} (h : q < 2147483648) : f_X10_playerOf (nI q) = some (nI (q / 6)) := by
  simp (disch := omega) only [n_0, n_1, n_2, n_3, n_4, n_5, n_6, n_7, n_8, n_9, n_10, n_12, n_13, n_15, n_20, n_24, n_27, n_31, n_32, n_33, n_36, n_44, n_48, n_50, n_57, n_58, n_59, n_72, n_74, n_75, n_85, n_91, n_96, n_97, n_99, n_122, n_255, n_300, n_432, n_600, n_900, n_999, n_1000, n_1291, n_1399, n_2798, n_11192, n_65536, n_65537, n_99999999, n_1000000, nI_add, pk_mul, q_le, q_lt, q_eq, q_cl, q_gi, q_gz, q_sub, q_div, q_dm, d_dm, q_m1, q_mn, q_nm, q_mlt, q_ltm, q_mle, q_lem, q_mm, Option.bind_some, if_true, if_false, Nat.add_zero, ite_self, q_us, q_un, decide_true, decide_false, Bool.false_eq_true, eq_self, and_self, and_true, true_and, and_false, false_and, or_true, true_or, or_false, false_or, d_ltT, d_ltF, d_leT, d_leF, d_eqT, d_eqF, f_X10_playerOf]
theorem e_dieOf {q : Nat} (h : q < 2147483648) : f_X10_dieOf (nI q) = some (nI (q % 6)) := by
  simp (disch := omega) only [n_0, n_1, n_2, n_3, n_4, n_5, n_6, n_7, n_8, n_9, n_10, n_12, n_13, n_15, n_20, n_24, n_27, n_31, n_32, n_33, n_36, n_44, n_48, n_50, n_57, n_58, n_59, n_72, n_74, n_75, n_85, n_91, n_96, n_97, n_99, n_122, n_255, n_300, n_432, n_600, n_900, n_999, n_1000, n_1291, n_1399, n_2798, n_11192, n_65536, n_65537, n_99999999, n_1000000, nI_add, pk_mul, q_le, q_lt, q_eq, q_cl, q_gi, q_gz, q_sub, q_div, q_dm, d_dm, q_m1, q_mn, q_nm, q_mlt, q_ltm, q_mle, q_lem, q_mm, Option.bind_some, if_true, if_false, Nat.add_zero, ite_self, q_us, q_un, decide_true, decide_false, Bool.false_eq_true, eq_self, and_self, and_true, true_and, and_false, false_and, or_true, true_or, or_false, false_or, d_ltT, d_ltF, d_leT, d_leF, d_eqT, d_eqF, f_X10_dieOf]
/-- the next seed -/
def gNx (s : Nat) : Nat := (75 * s + 74) % 65537
theorem gNx_le (s : Nat) : gNx s ≤ 65536 := by
  have := Nat.mod_lt (75 * s + 74) (show 0 < 65537 by decide)
  unfold gNx
  omega
theorem e_next {s : Nat} (h : s ≤ 65536) : f_X10_nextSeed (nI s) = some (nI (gNx s)) := by
  simp (disch := omega) only [n_0, n_1, n_2, n_3, n_4, n_5, n_6, n_7, n_8, n_9, n_10, n_12, n_13, n_15, n_20, n_24, n_27, n_31, n_32, n_33, n_36, n_44, n_48, n_50, n_57, n_58, n_59, n_72, n_74, n_75, n_85, n_91, n_96, n_97, n_99, n_122, n_255, n_300, n_432, n_600, n_900, n_999, n_1000, n_1291, n_1399, n_2798, n_11192, n_65536, n_65537, n_99999999, n_1000000, nI_add, pk_mul, q_le, q_lt, q_eq, q_cl, q_gi, q_gz, q_sub, q_div, q_dm, d_dm, q_m1, q_mn, q_nm, q_mlt, q_ltm, q_mle, q_lem, q_mm, Option.bind_some, if_true, if_false, Nat.add_zero, ite_self, q_us, q_un, decide_true, decide_false, Bool.false_eq_true, eq_self, and_self, and_true, true_and, and_false, false_and, or_true, true_or, or_false, false_or, d_ltT, d_ltF, d_leT, d_leF, d_eqT, d_eqF, f_X10_nextSeed]
  rfl
theorem e_sumL {N n a k : Nat} {f : Nat → Int32} {g : Nat → Nat} (hk : a + k ≤ n) (hn : n < 1073741824) (hf : ∀ t, t < k → f (a + t) = nI (g t)) : ∀ j i : Nat, i ≤ k → k < i + j → f_X10_sumOf_L5 N n f j (nI a) (nI k) (nI (sumTo i g)) (nI i) = some (nI (sumTo k g)) := by
  intro j
  induction j with
  | zero => intro i h1 h2; omega
  | succ j ih =>
    intro i h1 h2
    by_cases h : k ≤ i
    · have e : i = k := by omega
      subst e
      simp (disch := omega) only [n_0, n_1, n_2, n_3, n_4, n_5, n_6, n_7, n_8, n_9, n_10, n_12, n_13, n_15, n_20, n_24, n_27, n_31, n_32, n_33, n_36, n_44, n_48, n_50, n_57, n_58, n_59, n_72, n_74, n_75, n_85, n_91, n_96, n_97, n_99, n_122, n_255, n_300, n_432, n_600, n_900, n_999, n_1000, n_1291, n_1399, n_2798, n_11192, n_65536, n_65537, n_99999999, n_1000000, nI_add, pk_mul, q_le, q_lt, q_eq, q_cl, q_gi, q_gz, q_sub, q_div, q_dm, d_dm, q_m1, q_mn, q_nm, q_mlt, q_ltm, q_mle, q_lem, q_mm, Option.bind_some, if_true, if_false, Nat.add_zero, ite_self, q_us, q_un, decide_true, decide_false, Bool.false_eq_true, eq_self, and_self, and_true, true_and, and_false, false_and, or_true, true_or, or_false, false_or, d_ltT, d_ltF, d_leT, d_leF, d_eqT, d_eqF, f_X10_sumOf_L5, f_X10_sumOf_L5_F]
    · have hfi := hf i (by omega)
      simp (disch := omega) only [n_0, n_1, n_2, n_3, n_4, n_5, n_6, n_7, n_8, n_9, n_10, n_12, n_13, n_15, n_20, n_24, n_27, n_31, n_32, n_33, n_36, n_44, n_48, n_50, n_57, n_58, n_59, n_72, n_74, n_75, n_85, n_91, n_96, n_97, n_99, n_122, n_255, n_300, n_432, n_600, n_900, n_999, n_1000, n_1291, n_1399, n_2798, n_11192, n_65536, n_65537, n_99999999, n_1000000, nI_add, pk_mul, q_le, q_lt, q_eq, q_cl, q_gi, q_gz, q_sub, q_div, q_dm, d_dm, q_m1, q_mn, q_nm, q_mlt, q_ltm, q_mle, q_lem, q_mm, Option.bind_some, if_true, if_false, Nat.add_zero, ite_self, q_us, q_un, decide_true, decide_false, Bool.false_eq_true, eq_self, and_self, and_true, true_and, and_false, false_and, or_true, true_or, or_false, false_or, d_ltT, d_ltF, d_leT, d_leF, d_eqT, d_eqF, f_X10_sumOf_L5, f_X10_sumOf_L5_F, f_X10_sumOf_L37, f_X10_sumOf_L38, hfi]
      exact ih (i + 1) (by omega) (by omega)
theorem e_sum {N n a k : Nat} {f : Nat → Int32} (g : Nat → Nat) (hk : a + k ≤ n) (hn : n < 1073741824) (hN : k < N) (hf : ∀ t, t < k → f (a + t) = nI (g t)) : f_X10_sumOf N n f (nI a) (nI k) = some (nI (sumTo k g)) := e_sumL (N := N) hk hn hf N 0 (Nat.zero_le _) (by omega)
/-- a row of cells of which none is read: an unknown player's -/
theorem e_sumN {N n k : Nat} {f : Nat → Int32} {a : Int32} (hn : n < 1073741824) (ha : ∀ i, i < k → a + nI i < 0) (hk : k < 1073741824) : ∀ j i : Nat, i ≤ k → k < i + j → f_X10_sumOf_L5 N n f j a (nI k) (nI 0) (nI i) = some (nI 0) := by
  intro j
  induction j with
  | zero => intro i h1 h2; omega
  | succ j ih =>
    intro i h1 h2
    by_cases h : k ≤ i
    · simp (disch := omega) only [n_0, n_1, n_2, n_3, n_4, n_5, n_6, n_7, n_8, n_9, n_10, n_12, n_13, n_15, n_20, n_24, n_27, n_31, n_32, n_33, n_36, n_44, n_48, n_50, n_57, n_58, n_59, n_72, n_74, n_75, n_85, n_91, n_96, n_97, n_99, n_122, n_255, n_300, n_432, n_600, n_900, n_999, n_1000, n_1291, n_1399, n_2798, n_11192, n_65536, n_65537, n_99999999, n_1000000, nI_add, pk_mul, q_le, q_lt, q_eq, q_cl, q_gi, q_gz, q_sub, q_div, q_dm, d_dm, q_m1, q_mn, q_nm, q_mlt, q_ltm, q_mle, q_lem, q_mm, Option.bind_some, if_true, if_false, Nat.add_zero, ite_self, q_us, q_un, decide_true, decide_false, Bool.false_eq_true, eq_self, and_self, and_true, true_and, and_false, false_and, or_true, true_or, or_false, false_or, d_ltT, d_ltF, d_leT, d_leF, d_eqT, d_eqF, f_X10_sumOf_L5, f_X10_sumOf_L5_F]
    · have hai := ha i (by omega)
      rw [n_0] at hai
      simp (disch := omega) only [n_0, n_1, n_2, n_3, n_4, n_5, n_6, n_7, n_8, n_9, n_10, n_12, n_13, n_15, n_20, n_24, n_27, n_31, n_32, n_33, n_36, n_44, n_48, n_50, n_57, n_58, n_59, n_72, n_74, n_75, n_85, n_91, n_96, n_97, n_99, n_122, n_255, n_300, n_432, n_600, n_900, n_999, n_1000, n_1291, n_1399, n_2798, n_11192, n_65536, n_65537, n_99999999, n_1000000, nI_add, pk_mul, q_le, q_lt, q_eq, q_cl, q_gi, q_gz, q_sub, q_div, q_dm, d_dm, q_m1, q_mn, q_nm, q_mlt, q_ltm, q_mle, q_lem, q_mm, Option.bind_some, if_true, if_false, Nat.add_zero, ite_self, q_us, q_un, decide_true, decide_false, Bool.false_eq_true, eq_self, and_self, and_true, true_and, and_false, false_and, or_true, true_or, or_false, false_or, d_ltT, d_ltF, d_leT, d_leF, d_eqT, d_eqF, f_X10_sumOf_L5, f_X10_sumOf_L5_F, f_X10_sumOf_L37, f_X10_sumOf_L38, hai]
      exact ih (i + 1) (by omega) (by omega)
/-- the first greatest of the cells 0 .. k - 1 of g, from 1; none is above 0: 0 -/
def gMax (g : Nat → Nat) : Nat → Nat × Nat
  | 0 => (0, 0)
  | k + 1 => if g k ≤ (gMax g k).2 then gMax g k else (k + 1, g k)
def gNum (m : Nat) : Int32 := if m = 0 then -nI 1 else nI m
theorem gMax_s {g : Nat → Nat} {k : Nat} : gMax g (k + 1) = if g k ≤ (gMax g k).2 then gMax g k else (k + 1, g k) := rfl
theorem gMax_bd {g : Nat → Nat} {b : Nat} (h0 : 0 < b) {k : Nat} (hb : ∀ i, i < k → g i < b) : (gMax g k).1 ≤ k ∧ (gMax g k).2 < b := by
  induction k with
  | zero => exact ⟨Nat.le_refl _, h0⟩
  | succ k ih =>
    have h1 := ih (fun i hi => hb i (by omega))
    rw [gMax_s]
    by_cases h : g k ≤ (gMax g k).2
    · rw [if_pos h]; exact ⟨by omega, h1.2⟩
    · rw [if_neg h]; exact ⟨Nat.le_refl _, hb k (by omega)⟩
theorem gMax_ge {g : Nat → Nat} {k i : Nat} (h : i < k) : g i ≤ (gMax g k).2 := by
  induction k with
  | zero => omega
  | succ k ih =>
    rw [gMax_s]
    by_cases h2 : g k ≤ (gMax g k).2
    · rw [if_pos h2]
      rcases Nat.lt_or_ge i k with h3 | h3
      · exact ih h3
      · rw [show i = k by omega]; exact h2
    · rw [if_neg h2]
      rcases Nat.lt_or_ge i k with h3 | h3
      · have := ih h3; omega
      · rw [show i = k by omega]; exact Nat.le_refl _
theorem gMax_at {g : Nat → Nat} {k : Nat} : ((gMax g k).1 = 0 ∧ (gMax g k).2 = 0) ∨ ((gMax g k).1 ≠ 0 ∧ g ((gMax g k).1 - 1) = (gMax g k).2) := by
  induction k with
  | zero => exact Or.inl ⟨rfl, rfl⟩
  | succ k ih =>
    rw [gMax_s]
    by_cases h2 : g k ≤ (gMax g k).2
    · rw [if_pos h2]; exact ih
    · rw [if_neg h2]; exact Or.inr ⟨by omega, rfl⟩
/-- cells of 0 behind change nothing -/
theorem gMax_z {g : Nat → Nat} {k w : Nat} (h : ∀ i, k ≤ i → i < k + w → g i = 0) : gMax g (k + w) = gMax g k := by
  induction w with
  | zero => rfl
  | succ w ih =>
    rw [← Nat.add_assoc, gMax_s, h (k + w) (by omega) (by omega), if_pos (Nat.zero_le _)]
    exact ih (fun i h1 h2 => h i h1 (by omega))
/-- a distance, squared -/
def gSq (a b : Nat) : Nat := if a ≤ b then (b - a) * (b - a) else (a - b) * (a - b)
theorem e_sq {a b : Nat} (ha : a < 1073741824) (hb : b < 1073741824) : (nI a - nI b) * (nI a - nI b) = nI (gSq a b) := by
  unfold gSq
  by_cases h : a ≤ b
  · rw [if_pos h]
    have e : nI a - nI b = -nI (b - a) := by
      apply Int32.toInt_inj.mp
      rw [pk_sub_toInt ha hb, sb_negT (by omega)]
      omega
    rw [e, Int32.neg_mul, Int32.mul_neg, Int32.neg_neg, pk_mul]
  · rw [if_neg h, pk_sub (by omega), pk_mul]
theorem gSq_le {a b M : Nat} (ha : a ≤ M) (hb : b ≤ M) : gSq a b ≤ M * M := by
  unfold gSq
  split
  · exact Nat.mul_le_mul (by omega) (by omega)
  · exact Nat.mul_le_mul (by omega) (by omega)
/-- the test of k frequencies with the sum S -/
def gTest (g : Nat → Nat) (S k : Nat) : Nat := if S * k = 0 then 0 else sumTo k (fun t => gSq (k * g t) S) / (S * k)
theorem gTest_bd {g : Nat → Nat} {S k : Nat} (hk : k ≤ 12) (hS : S ≤ 350) (hg : ∀ t, t < k → g t ≤ 350) : sumTo k (fun t => gSq (k * g t) S) < 214000000 ∧ ∀ i, i ≤ k → sumTo i (fun t => gSq (k * g t) S) < 214000000 := by
  have hs : sumTo k (fun t => gSq (k * g t) S) ≤ k * (4200 * 4200) := sumTo_le (fun t ht => gSq_le (Nat.le_trans (Nat.mul_le_mul hk (hg t ht)) (by decide)) (by omega))
  have hs2 : k * (4200 * 4200) ≤ 12 * (4200 * 4200) := Nat.mul_le_mul_right _ hk
  refine ⟨by omega, fun i hi => ?_⟩
  have := sumTo_mono (f := fun t => gSq (k * g t) S) hi
  omega
theorem e_testL {N n a k : Nat} {f : Nat → Int32} {g : Nat → Nat} (S : Nat) (hk : a + k ≤ n) (hn : n < 1073741824) (h12 : k ≤ 12) (hS : S ≤ 350) (hD : 0 < S * k) (hD2 : S * k < 2147483648) (hg : ∀ t, t < k → g t ≤ 350) (hf : ∀ t, t < k → f (a + t) = nI (g t)) : ∀ j i : Nat, i ≤ k → k < i + j → f_X10_testScore_L25 N n f j (nI a) (nI k) (nI S) (nI (S * k)) (nI (sumTo i (fun t => gSq (k * g t) S))) (nI i) = some (nI (sumTo k (fun t => gSq (k * g t) S) / (S * k))) := by
  intro j
  induction j with
  | zero => intro i h1 h2; omega
  | succ j ih =>
    intro i h1 h2
    have hb := gTest_bd h12 hS hg
    by_cases h : k ≤ i
    · have e : i = k := by omega
      subst e
      simp (disch := omega) only [n_0, n_1, n_2, n_3, n_4, n_5, n_6, n_7, n_8, n_9, n_10, n_12, n_13, n_15, n_20, n_24, n_27, n_31, n_32, n_33, n_36, n_44, n_48, n_50, n_57, n_58, n_59, n_72, n_74, n_75, n_85, n_91, n_96, n_97, n_99, n_122, n_255, n_300, n_432, n_600, n_900, n_999, n_1000, n_1291, n_1399, n_2798, n_11192, n_65536, n_65537, n_99999999, n_1000000, nI_add, pk_mul, q_le, q_lt, q_eq, q_cl, q_gi, q_gz, q_sub, q_div, q_dm, d_dm, q_m1, q_mn, q_nm, q_mlt, q_ltm, q_mle, q_lem, q_mm, Option.bind_some, if_true, if_false, Nat.add_zero, ite_self, q_us, q_un, decide_true, decide_false, Bool.false_eq_true, eq_self, and_self, and_true, true_and, and_false, false_and, or_true, true_or, or_false, false_or, d_ltT, d_ltF, d_leT, d_leF, d_eqT, d_eqF, f_X10_testScore_L25, f_X10_testScore_L25_F]
    · have hfi := hf i (by omega)
      have hg1 := Nat.mul_le_mul h12 (hg i (by omega))
      simp (disch := omega) only [n_0, n_1, n_2, n_3, n_4, n_5, n_6, n_7, n_8, n_9, n_10, n_12, n_13, n_15, n_20, n_24, n_27, n_31, n_32, n_33, n_36, n_44, n_48, n_50, n_57, n_58, n_59, n_72, n_74, n_75, n_85, n_91, n_96, n_97, n_99, n_122, n_255, n_300, n_432, n_600, n_900, n_999, n_1000, n_1291, n_1399, n_2798, n_11192, n_65536, n_65537, n_99999999, n_1000000, nI_add, pk_mul, q_le, q_lt, q_eq, q_cl, q_gi, q_gz, q_sub, q_div, q_dm, d_dm, q_m1, q_mn, q_nm, q_mlt, q_ltm, q_mle, q_lem, q_mm, Option.bind_some, if_true, if_false, Nat.add_zero, ite_self, q_us, q_un, decide_true, decide_false, Bool.false_eq_true, eq_self, and_self, and_true, true_and, and_false, false_and, or_true, true_or, or_false, false_or, d_ltT, d_ltF, d_leT, d_leF, d_eqT, d_eqF, f_X10_testScore_L25, f_X10_testScore_L25_F, e_at, hfi, e_sq]
      exact ih (i + 1) (by omega) (by omega)
theorem e_test {N n a k : Nat} {f : Nat → Int32} (g : Nat → Nat) (hk : a + k ≤ n) (hn : n < 1073741824) (hN : k < N) (h12 : k ≤ 12) (h300 : sumTo k g ≤ 350) (hf : ∀ t, t < k → f (a + t) = nI (g t)) : f_X10_testScore N n f (nI a) (nI k) = some (nI (gTest g (sumTo k g) k)) := by
  unfold f_X10_testScore gTest
  rw [e_sum g hk hn hN hf]
  have hb : sumTo k g * k ≤ 350 * 12 := Nat.mul_le_mul h300 h12
  by_cases h : sumTo k g * k = 0
  · simp (disch := omega) only [n_0, n_1, n_2, n_3, n_4, n_5, n_6, n_7, n_8, n_9, n_10, n_12, n_13, n_15, n_20, n_24, n_27, n_31, n_32, n_33, n_36, n_44, n_48, n_50, n_57, n_58, n_59, n_72, n_74, n_75, n_85, n_91, n_96, n_97, n_99, n_122, n_255, n_300, n_432, n_600, n_900, n_999, n_1000, n_1291, n_1399, n_2798, n_11192, n_65536, n_65537, n_99999999, n_1000000, nI_add, pk_mul, q_le, q_lt, q_eq, q_cl, q_gi, q_gz, q_sub, q_div, q_dm, d_dm, q_m1, q_mn, q_nm, q_mlt, q_ltm, q_mle, q_lem, q_mm, Option.bind_some, if_true, if_false, Nat.add_zero, ite_self, q_us, q_un, decide_true, decide_false, Bool.false_eq_true, eq_self, and_self, and_true, true_and, and_false, false_and, or_true, true_or, or_false, false_or, d_ltT, d_ltF, d_leT, d_leF, d_eqT, d_eqF, h]
  · rw [if_neg h]
    simp (disch := omega) only [n_0, n_1, n_2, n_3, n_4, n_5, n_6, n_7, n_8, n_9, n_10, n_12, n_13, n_15, n_20, n_24, n_27, n_31, n_32, n_33, n_36, n_44, n_48, n_50, n_57, n_58, n_59, n_72, n_74, n_75, n_85, n_91, n_96, n_97, n_99, n_122, n_255, n_300, n_432, n_600, n_900, n_999, n_1000, n_1291, n_1399, n_2798, n_11192, n_65536, n_65537, n_99999999, n_1000000, nI_add, pk_mul, q_le, q_lt, q_eq, q_cl, q_gi, q_gz, q_sub, q_div, q_dm, d_dm, q_m1, q_mn, q_nm, q_mlt, q_ltm, q_mle, q_lem, q_mm, Option.bind_some, if_true, if_false, Nat.add_zero, ite_self, q_us, q_un, decide_true, decide_false, Bool.false_eq_true, eq_self, and_self, and_true, true_and, and_false, false_and, or_true, true_or, or_false, false_or, d_ltT, d_ltF, d_leT, d_leF, d_eqT, d_eqF]
    exact e_testL (N := N) (sumTo k g) hk hn h12 h300 (by omega) (by omega) (fun t ht => Nat.le_trans (sumTo_ge ht) h300) hf N 0 (Nat.zero_le _) (by omega)
theorem e_fillL {N n : Nat} {v : Int32} (hn : n < 1073741824) : ∀ (j i : Nat) (f : Nat → Int32), i ≤ n → n < i + j → ∃ f', f_J7_fill_53178_L5 N n j v (nI i) (nI n) f = some f' ∧ (∀ t, i ≤ t → t < n → f' t = v) ∧ ∀ t, t < i → f' t = f t := by
  intro j
  induction j with
  | zero => intro i f h1 h2; omega
  | succ j ih =>
    intro i f h1 h2
    by_cases h : n ≤ i
    · refine ⟨f, by simp (disch := omega) only [n_0, n_1, n_2, n_3, n_4, n_5, n_6, n_7, n_8, n_9, n_10, n_12, n_13, n_15, n_20, n_24, n_27, n_31, n_32, n_33, n_36, n_44, n_48, n_50, n_57, n_58, n_59, n_72, n_74, n_75, n_85, n_91, n_96, n_97, n_99, n_122, n_255, n_300, n_432, n_600, n_900, n_999, n_1000, n_1291, n_1399, n_2798, n_11192, n_65536, n_65537, n_99999999, n_1000000, nI_add, pk_mul, q_le, q_lt, q_eq, q_cl, q_gi, q_gz, q_sub, q_div, q_dm, d_dm, q_m1, q_mn, q_nm, q_mlt, q_ltm, q_mle, q_lem, q_mm, Option.bind_some, if_true, if_false, Nat.add_zero, ite_self, q_us, q_un, decide_true, decide_false, Bool.false_eq_true, eq_self, and_self, and_true, true_and, and_false, false_and, or_true, true_or, or_false, false_or, d_ltT, d_ltF, d_leT, d_leF, d_eqT, d_eqF, f_J7_fill_53178_L5, f_J7_fill_53178_L5_F], fun t h3 h4 => absurd h4 (by omega), fun t _ => rfl⟩
    · obtain ⟨f', e1, e2, e3⟩ := ih (i + 1) (upd f i v) (by omega) (by omega)
      refine ⟨f', ?_, fun t h3 h4 => ?_, fun t h3 => ?_⟩
      · simp (disch := omega) only [n_0, n_1, n_2, n_3, n_4, n_5, n_6, n_7, n_8, n_9, n_10, n_12, n_13, n_15, n_20, n_24, n_27, n_31, n_32, n_33, n_36, n_44, n_48, n_50, n_57, n_58, n_59, n_72, n_74, n_75, n_85, n_91, n_96, n_97, n_99, n_122, n_255, n_300, n_432, n_600, n_900, n_999, n_1000, n_1291, n_1399, n_2798, n_11192, n_65536, n_65537, n_99999999, n_1000000, nI_add, pk_mul, q_le, q_lt, q_eq, q_cl, q_gi, q_gz, q_sub, q_div, q_dm, d_dm, q_m1, q_mn, q_nm, q_mlt, q_ltm, q_mle, q_lem, q_mm, Option.bind_some, if_true, if_false, Nat.add_zero, ite_self, q_us, q_un, decide_true, decide_false, Bool.false_eq_true, eq_self, and_self, and_true, true_and, and_false, false_and, or_true, true_or, or_false, false_or, d_ltT, d_ltF, d_leT, d_leF, d_eqT, d_eqF, f_J7_fill_53178_L5, f_J7_fill_53178_L5_F]
        exact e1
      · rcases Nat.lt_or_ge i t with h5 | h5
        · exact e2 t h5 h4
        · have e : t = i := by omega
          subst e
          rw [e3 t (by omega), q_us rfl]
      · rw [e3 t (by omega), q_un (by omega)]
theorem e_fill {N n : Nat} {v : Int32} (hn : n < 1073741824) (hN : n < N) (f : Nat → Int32) : ∃ f', f_J7_fill_53178 N n f v = some f' ∧ ∀ t, t < n → f' t = v := by
  obtain ⟨f', e1, e2, -⟩ := e_fillL (N := N) (v := v) hn N 0 f (Nat.zero_le _) (by omega)
  exact ⟨f', e1, fun t ht => e2 t (Nat.zero_le _) ht⟩
/-! dice -/
theorem b_3 {g : Nat → Nat} (h : okB g) : g 3 ≤ 6 := h.2.2.2.2.1
theorem b_4 {g : Nat → Nat} (h : okB g) : g 4 ≤ 6 := h.2.2.2.2.2.1
theorem b_5 {g : Nat → Nat} (h : okB g) : g 5 ≤ 300 := h.2.2.2.2.2.2.1
theorem b_6 {g : Nat → Nat} (h : okB g) : g 6 ≤ 36 := h.2.2.2.2.2.2.2
theorem e_faces {g : Nat → Nat} {fc dw : Nat → Int32} {d : Nat} (hB : okB g) (hR : DR g fc dw) (hd : d < g 3) : f_X0_faceCount fc (nI d) = some (nI (dF g d)) := by
  have h3 := b_3 hB
  have h := (hR d hd).1
  simp (disch := omega) only [n_0, n_1, n_2, n_3, n_4, n_5, n_6, n_7, n_8, n_9, n_10, n_12, n_13, n_15, n_20, n_24, n_27, n_31, n_32, n_33, n_36, n_44, n_48, n_50, n_57, n_58, n_59, n_72, n_74, n_75, n_85, n_91, n_96, n_97, n_99, n_122, n_255, n_300, n_432, n_600, n_900, n_999, n_1000, n_1291, n_1399, n_2798, n_11192, n_65536, n_65537, n_99999999, n_1000000, nI_add, pk_mul, q_le, q_lt, q_eq, q_cl, q_gi, q_gz, q_sub, q_div, q_dm, d_dm, q_m1, q_mn, q_nm, q_mlt, q_ltm, q_mle, q_lem, q_mm, Option.bind_some, if_true, if_false, Nat.add_zero, ite_self, q_us, q_un, decide_true, decide_false, Bool.false_eq_true, eq_self, and_self, and_true, true_and, and_false, false_and, or_true, true_or, or_false, false_or, d_ltT, d_ltF, d_leT, d_leF, d_eqT, d_eqF, f_X0_faceCount, e_at, h]
theorem e_weight {g : Nat → Nat} {fc dw : Nat → Int32} {d i : Nat} (hB : okB g) (hD : okD g) (hR : DR g fc dw) (hd : d < g 3) (hi : i < dF g d) : f_X0_weight dw (nI d) (nI (i + 1)) = some (nI (dW g d i)) := by
  have h3 := b_3 hB
  have hf := (hD d hd).2.1
  have h := (hR d hd).2 i hi
  simp (disch := omega) only [n_0, n_1, n_2, n_3, n_4, n_5, n_6, n_7, n_8, n_9, n_10, n_12, n_13, n_15, n_20, n_24, n_27, n_31, n_32, n_33, n_36, n_44, n_48, n_50, n_57, n_58, n_59, n_72, n_74, n_75, n_85, n_91, n_96, n_97, n_99, n_122, n_255, n_300, n_432, n_600, n_900, n_999, n_1000, n_1291, n_1399, n_2798, n_11192, n_65536, n_65537, n_99999999, n_1000000, nI_add, pk_mul, q_le, q_lt, q_eq, q_cl, q_gi, q_gz, q_sub, q_div, q_dm, d_dm, q_m1, q_mn, q_nm, q_mlt, q_ltm, q_mle, q_lem, q_mm, Option.bind_some, if_true, if_false, Nat.add_zero, ite_self, q_us, q_un, decide_true, decide_false, Bool.false_eq_true, eq_self, and_self, and_true, true_and, and_false, false_and, or_true, true_or, or_false, false_or, d_ltT, d_ltF, d_leT, d_leF, d_eqT, d_eqF, f_X0_weight, e_cell, e_at, h]
theorem e_wsum {N : Nat} {g : Nat → Nat} {fc dw : Nat → Int32} {d : Nat} (hN : 1000 < N) (hB : okB g) (hD : okD g) (hR : DR g fc dw) (hd : d < g 3) : f_X0_weightSum N fc dw (nI d) = some (nI (dS g d)) := by
  have h3 := b_3 hB
  have hf := (hD d hd).2.1
  have h := e_sum (N := N) (n := 72) (a := 12 * d) (k := dF g d) (f := dw) (dW g d) (by omega) (by omega) (by omega) (hR d hd).2
  simp (disch := omega) only [n_0, n_1, n_2, n_3, n_4, n_5, n_6, n_7, n_8, n_9, n_10, n_12, n_13, n_15, n_20, n_24, n_27, n_31, n_32, n_33, n_36, n_44, n_48, n_50, n_57, n_58, n_59, n_72, n_74, n_75, n_85, n_91, n_96, n_97, n_99, n_122, n_255, n_300, n_432, n_600, n_900, n_999, n_1000, n_1291, n_1399, n_2798, n_11192, n_65536, n_65537, n_99999999, n_1000000, nI_add, pk_mul, q_le, q_lt, q_eq, q_cl, q_gi, q_gz, q_sub, q_div, q_dm, d_dm, q_m1, q_mn, q_nm, q_mlt, q_ltm, q_mle, q_lem, q_mm, Option.bind_some, if_true, if_false, Nat.add_zero, ite_self, q_us, q_un, decide_true, decide_false, Bool.false_eq_true, eq_self, and_self, and_true, true_and, and_false, false_and, or_true, true_or, or_false, false_or, d_ltT, d_ltF, d_leT, d_leF, d_eqT, d_eqF, f_X0_weightSum, e_cell1, e_faces hB hR hd, h]
  rfl
theorem dS_le {g : Nat → Nat} {d : Nat} (hD : okD g) (hd : d < g 3) : dS g d ≤ 108 := by
  have h := hD d hd
  have : dS g d ≤ dF g d * 9 := sumTo_le h.2.2.1
  omega
/-- whether all weights of a die are equal -/
def gEq (g : Nat → Nat) (d : Nat) : Bool := !anyF (fun i => decide (dW g d i ≠ dW g d 0)) (dF g d - 1) 1
/-- the face that a number picks -/
def isF (w : Nat → Nat) (pick i : Nat) : Prop := sumTo i w ≤ pick ∧ pick < sumTo (i + 1) w
def gIx (w : Nat → Nat) (pick : Nat) : Nat → Nat
  | 0 => 0
  | k + 1 => if sumTo k w ≤ pick then k else gIx w pick k
theorem gIx_s {w : Nat → Nat} {pick k : Nat} (hk : 0 < k) (h : pick < sumTo k w) : gIx w pick k < k ∧ isF w pick (gIx w pick k) := by
  induction k with
  | zero => omega
  | succ k ih =>
    unfold gIx
    by_cases hc : sumTo k w ≤ pick
    · rw [if_pos hc]
      exact ⟨by omega, hc, h⟩
    · rw [if_neg hc]
      rcases Nat.eq_zero_or_pos k with h0 | h0
      · subst h0
        rw [sumTo_0] at hc
        omega
      · have := ih h0 (by omega)
        exact ⟨by omega, this.2⟩
/-- the face that a die shows with a seed -/
def gShow (g : Nat → Nat) (d s : Nat) : Nat := gIx (dW g d) (s % dS g d) (dF g d) + 1
theorem gShow_s {g : Nat → Nat} {d s : Nat} (hD : okD g) (hd : d < g 3) : 1 ≤ gShow g d s ∧ gShow g d s ≤ dF g d ∧ isF (dW g d) (s % dS g d) (gShow g d s - 1) := by
  have h := hD d hd
  have := gIx_s (w := dW g d) (pick := s % dS g d) (k := dF g d) (by omega) (Nat.mod_lt _ h.2.2.2)
  unfold gShow
  exact ⟨by omega, by omega, this.2⟩
theorem e_shownL {N : Nat} {g : Nat → Nat} {fc dw : Nat → Int32} {d pick i0 : Nat} (hB : okB g) (hD : okD g) (hR : DR g fc dw) (hd : d < g 3) (h0 : isF (dW g d) pick i0) (hi0 : i0 < dF g d) (hp : pick < 108) : ∀ k i j : Nat, i + k = i0 → k < j → f_X0_faceShown_L45 N fc dw j (nI d) (nI (dF g d)) (nI pick) (nI (sumTo i (dW g d))) (nI (i + 1)) = some (nI (i0 + 1)) := by
  have h3 := b_3 hB
  have hf := (hD d hd).2.1
  have hw := (hD d hd).2.2.1
  have hs : ∀ i, i ≤ dF g d → sumTo i (dW g d) ≤ 108 := fun i hi => by
    have h1 := sumTo_mono (f := dW g d) hi
    have h2 := dS_le hD hd
    unfold dS at h2
    omega
  intro k
  induction k with
  | zero =>
    intro i j h1 h2
    obtain ⟨j, rfl⟩ : ∃ t, j = t + 1 := ⟨j - 1, by omega⟩
    have e : i = i0 := by omega
    subst e
    have hwi := (hR d hd).2 i hi0
    have h5 := h0.1
    have h6 := h0.2
    have h7 := hs (i + 1) hi0
    rw [sumTo_s] at h6 h7
    by_cases hl : dF g d ≤ i + 1
    · have e : dF g d = i + 1 := by omega
      simp (disch := omega) only [n_0, n_1, n_2, n_3, n_4, n_5, n_6, n_7, n_8, n_9, n_10, n_12, n_13, n_15, n_20, n_24, n_27, n_31, n_32, n_33, n_36, n_44, n_48, n_50, n_57, n_58, n_59, n_72, n_74, n_75, n_85, n_91, n_96, n_97, n_99, n_122, n_255, n_300, n_432, n_600, n_900, n_999, n_1000, n_1291, n_1399, n_2798, n_11192, n_65536, n_65537, n_99999999, n_1000000, nI_add, pk_mul, q_le, q_lt, q_eq, q_cl, q_gi, q_gz, q_sub, q_div, q_dm, d_dm, q_m1, q_mn, q_nm, q_mlt, q_ltm, q_mle, q_lem, q_mm, Option.bind_some, if_true, if_false, Nat.add_zero, ite_self, q_us, q_un, decide_true, decide_false, Bool.false_eq_true, eq_self, and_self, and_true, true_and, and_false, false_and, or_true, true_or, or_false, false_or, d_ltT, d_ltF, d_leT, d_leF, d_eqT, d_eqF, f_X0_faceShown_L45, f_X0_faceShown_L45_F, e]
    · simp (disch := omega) only [n_0, n_1, n_2, n_3, n_4, n_5, n_6, n_7, n_8, n_9, n_10, n_12, n_13, n_15, n_20, n_24, n_27, n_31, n_32, n_33, n_36, n_44, n_48, n_50, n_57, n_58, n_59, n_72, n_74, n_75, n_85, n_91, n_96, n_97, n_99, n_122, n_255, n_300, n_432, n_600, n_900, n_999, n_1000, n_1291, n_1399, n_2798, n_11192, n_65536, n_65537, n_99999999, n_1000000, nI_add, pk_mul, q_le, q_lt, q_eq, q_cl, q_gi, q_gz, q_sub, q_div, q_dm, d_dm, q_m1, q_mn, q_nm, q_mlt, q_ltm, q_mle, q_lem, q_mm, Option.bind_some, if_true, if_false, Nat.add_zero, ite_self, q_us, q_un, decide_true, decide_false, Bool.false_eq_true, eq_self, and_self, and_true, true_and, and_false, false_and, or_true, true_or, or_false, false_or, d_ltT, d_ltF, d_leT, d_leF, d_eqT, d_eqF, f_X0_faceShown_L45, f_X0_faceShown_L45_F, e_cell, e_at, hwi]
  | succ k ih =>
    intro i j h1 h2
    obtain ⟨j, rfl⟩ : ∃ t, j = t + 1 := ⟨j - 1, by omega⟩
    have hwi := (hR d hd).2 i (by omega)
    have h5 := sumTo_mono (f := dW g d) (show i + 1 ≤ i0 by omega)
    have h6 := h0.1
    have h7 := hs (i + 1) (by omega)
    rw [sumTo_s] at h5 h7
    simp (disch := omega) only [n_0, n_1, n_2, n_3, n_4, n_5, n_6, n_7, n_8, n_9, n_10, n_12, n_13, n_15, n_20, n_24, n_27, n_31, n_32, n_33, n_36, n_44, n_48, n_50, n_57, n_58, n_59, n_72, n_74, n_75, n_85, n_91, n_96, n_97, n_99, n_122, n_255, n_300, n_432, n_600, n_900, n_999, n_1000, n_1291, n_1399, n_2798, n_11192, n_65536, n_65537, n_99999999, n_1000000, nI_add, pk_mul, q_le, q_lt, q_eq, q_cl, q_gi, q_gz, q_sub, q_div, q_dm, d_dm, q_m1, q_mn, q_nm, q_mlt, q_ltm, q_mle, q_lem, q_mm, Option.bind_some, if_true, if_false, Nat.add_zero, ite_self, q_us, q_un, decide_true, decide_false, Bool.false_eq_true, eq_self, and_self, and_true, true_and, and_false, false_and, or_true, true_or, or_false, false_or, d_ltT, d_ltF, d_leT, d_leF, d_eqT, d_eqF, f_X0_faceShown_L45, f_X0_faceShown_L45_F, e_cell, e_at, hwi]
    exact ih (i + 1) j (by omega) (by omega)
theorem e_shown {N s : Nat} {g : Nat → Nat} {fc dw : Nat → Int32} {d : Nat} (hN : 1000 < N) (hB : okB g) (hD : okD g) (hR : DR g fc dw) (hd : d < g 3) (hs : s ≤ 65536) : f_X0_faceShown N fc dw (nI d) (nI s) = some (nI (gShow g d s)) := by
  have h3 := b_3 hB
  have hf := hD d hd
  have hfc := (hR d hd).1
  have h := e_sum (N := N) (n := 72) (a := 12 * d) (k := dF g d) (f := dw) (dW g d) (by omega) (by omega) (by omega) (hR d hd).2
  have h4 := hf.2.2.2
  have h5 := dS_le hD hd
  have h6 := gShow_s (s := s) hD hd
  have h7 := Nat.mod_lt s h4
  unfold dS at h4 h5 h6 h7
  have e := e_shownL (N := N) hB hD hR hd h6.2.2 (by omega) (by omega) (gShow g d s - 1) 0 N (by omega) (by omega)
  rw [sumTo_0, Nat.zero_add, show gShow g d s - 1 + 1 = gShow g d s by omega] at e
  simp (disch := omega) only [n_0, n_1, n_2, n_3, n_4, n_5, n_6, n_7, n_8, n_9, n_10, n_12, n_13, n_15, n_20, n_24, n_27, n_31, n_32, n_33, n_36, n_44, n_48, n_50, n_57, n_58, n_59, n_72, n_74, n_75, n_85, n_91, n_96, n_97, n_99, n_122, n_255, n_300, n_432, n_600, n_900, n_999, n_1000, n_1291, n_1399, n_2798, n_11192, n_65536, n_65537, n_99999999, n_1000000, nI_add, pk_mul, q_le, q_lt, q_eq, q_cl, q_gi, q_gz, q_sub, q_div, q_dm, d_dm, q_m1, q_mn, q_nm, q_mlt, q_ltm, q_mle, q_lem, q_mm, Option.bind_some, if_true, if_false, Nat.add_zero, ite_self, q_us, q_un, decide_true, decide_false, Bool.false_eq_true, eq_self, and_self, and_true, true_and, and_false, false_and, or_true, true_or, or_false, false_or, d_ltT, d_ltF, d_leT, d_leF, d_eqT, d_eqF, f_X0_faceShown, f_X0_faceShown_L37, e_at, hfc, e_cell1, h]
  exact e
theorem e_fair {s : Nat} {g : Nat → Nat} {fc dw : Nat → Int32} {d : Nat} (hB : okB g) (hD : okD g) (hR : DR g fc dw) (hd : d < g 3) (hs : s ≤ 65536) : f_X0_fairFaceShown fc (nI d) (nI s) = some (nI (s % dF g d + 1)) := by
  have h3 := b_3 hB
  have hf := hD d hd
  have hfc := (hR d hd).1
  simp (disch := omega) only [n_0, n_1, n_2, n_3, n_4, n_5, n_6, n_7, n_8, n_9, n_10, n_12, n_13, n_15, n_20, n_24, n_27, n_31, n_32, n_33, n_36, n_44, n_48, n_50, n_57, n_58, n_59, n_72, n_74, n_75, n_85, n_91, n_96, n_97, n_99, n_122, n_255, n_300, n_432, n_600, n_900, n_999, n_1000, n_1291, n_1399, n_2798, n_11192, n_65536, n_65537, n_99999999, n_1000000, nI_add, pk_mul, q_le, q_lt, q_eq, q_cl, q_gi, q_gz, q_sub, q_div, q_dm, d_dm, q_m1, q_mn, q_nm, q_mlt, q_ltm, q_mle, q_lem, q_mm, Option.bind_some, if_true, if_false, Nat.add_zero, ite_self, q_us, q_un, decide_true, decide_false, Bool.false_eq_true, eq_self, and_self, and_true, true_and, and_false, false_and, or_true, true_or, or_false, false_or, d_ltT, d_ltF, d_leT, d_leF, d_eqT, d_eqF, f_X0_fairFaceShown, e_at, hfc]
