/-! one step of both readers -/
theorem kSl_n {j : Nat} (h : kSn j < 1000) : kSl j = nI (kSn j) := by
  have e := pk_shrN (n := kSn j) (by omega) ((0 : Int32) &&& 31) 0 (by decide +kernel)
  refine Eq.trans (b := nI (kSn j) >>> ((0 : Int32) &&& 31)) rfl (e.trans ?_)
  rw [Nat.pow_zero, Nat.div_one]
theorem q_01 : nI 0 - nI 1 = -nI 1 := by decide +kernel
/-- whether the token at s is the keyword j -/
def chE (b : Nat → Nat) (s j t : Nat) : Bool := decide (kSc j (nI t) = nI (b (s + t)))
def isW (b : Nat → Nat) (L s j : Nat) : Bool := if tkK b L s = 1 ∧ tkE b L s - s = kSn j then !anyF (fun t => !chE b s j t) (kSn j) 0 else false
theorem x_wordL {N L s j0 : Nat} {b : Nat → Nat} {tb : Nat → Int32} {kd te : Int32} (hT : TR b L tb) (hj : kSn j0 < 1000) (hs : s + kSn j0 ≤ L) : ∀ k i j : Nat, i + k = kSn j0 → k < j → f_X9_isWord_L28 N (nI L) tb kd (nI s) te j0 j (nI i) = some (bI (!anyF (fun t => !chE b s j0 t) k i)) := by
  have hL := hT.1
  have hl := kSl_n hj
  intro k
  induction k with
  | zero =>
    intro i j h1 h2
    obtain ⟨j, rfl⟩ : ∃ t, j = t + 1 := ⟨j - 1, by omega⟩
    simp (disch := omega) only [n_0, n_1, n_2, n_3, n_4, n_5, n_6, n_7, n_8, n_9, n_10, n_12, n_13, n_15, n_20, n_24, n_27, n_31, n_32, n_33, n_36, n_44, n_48, n_50, n_57, n_58, n_59, n_72, n_74, n_75, n_85, n_91, n_96, n_97, n_99, n_122, n_255, n_300, n_432, n_600, n_900, n_999, n_1000, n_1291, n_1399, n_2798, n_11192, n_65536, n_65537, n_99999999, n_1000000, nI_add, pk_mul, q_le, q_lt, q_eq, q_cl, q_gi, q_gz, q_sub, q_div, q_dm, d_dm, q_m1, q_mn, q_nm, q_mlt, q_ltm, q_mle, q_lem, q_mm, Option.bind_some, if_true, if_false, Nat.add_zero, ite_self, q_us, q_un, decide_true, decide_false, Bool.false_eq_true, eq_self, and_self, and_true, true_and, and_false, false_and, or_true, true_or, or_false, false_or, d_ltT, d_ltF, d_leT, d_leF, d_eqT, d_eqF, f_X9_isWord_L28, f_X9_isWord_L28_F, hl]
    rfl
  | succ k ih =>
    intro i j h1 h2
    obtain ⟨j, rfl⟩ : ∃ t, j = t + 1 := ⟨j - 1, by omega⟩
    have hi := ih (i + 1) j (by omega) (by omega)
    have hb := e_byte hT (show s + i < L by omega)
    unfold anyF
    by_cases hc : kSc j0 (nI i) = nI (b (s + i))
    · have hx : chE b s j0 i = true := decide_eq_true hc
      simp (disch := omega) only [n_0, n_1, n_2, n_3, n_4, n_5, n_6, n_7, n_8, n_9, n_10, n_12, n_13, n_15, n_20, n_24, n_27, n_31, n_32, n_33, n_36, n_44, n_48, n_50, n_57, n_58, n_59, n_72, n_74, n_75, n_85, n_91, n_96, n_97, n_99, n_122, n_255, n_300, n_432, n_600, n_900, n_999, n_1000, n_1291, n_1399, n_2798, n_11192, n_65536, n_65537, n_99999999, n_1000000, nI_add, pk_mul, q_le, q_lt, q_eq, q_cl, q_gi, q_gz, q_sub, q_div, q_dm, d_dm, q_m1, q_mn, q_nm, q_mlt, q_ltm, q_mle, q_lem, q_mm, Option.bind_some, if_true, if_false, Nat.add_zero, ite_self, q_us, q_un, decide_true, decide_false, Bool.false_eq_true, eq_self, and_self, and_true, true_and, and_false, false_and, or_true, true_or, or_false, false_or, d_ltT, d_ltF, d_leT, d_leF, d_eqT, d_eqF, f_X9_isWord_L28, f_X9_isWord_L28_F, hl, hb, hc]
      rw [hx]
      exact hi
    · have hx : chE b s j0 i = false := decide_eq_false hc
      simp (disch := omega) only [n_0, n_1, n_2, n_3, n_4, n_5, n_6, n_7, n_8, n_9, n_10, n_12, n_13, n_15, n_20, n_24, n_27, n_31, n_32, n_33, n_36, n_44, n_48, n_50, n_57, n_58, n_59, n_72, n_74, n_75, n_85, n_91, n_96, n_97, n_99, n_122, n_255, n_300, n_432, n_600, n_900, n_999, n_1000, n_1291, n_1399, n_2798, n_11192, n_65536, n_65537, n_99999999, n_1000000, nI_add, pk_mul, q_le, q_lt, q_eq, q_cl, q_gi, q_gz, q_sub, q_div, q_dm, d_dm, q_m1, q_mn, q_nm, q_mlt, q_ltm, q_mle, q_lem, q_mm, Option.bind_some, if_true, if_false, Nat.add_zero, ite_self, q_us, q_un, decide_true, decide_false, Bool.false_eq_true, eq_self, and_self, and_true, true_and, and_false, false_and, or_true, true_or, or_false, false_or, d_ltT, d_ltF, d_leT, d_leF, d_eqT, d_eqF, f_X9_isWord_L28, f_X9_isWord_L28_F, hl, hb, hc]
      rw [hx]
      rfl
theorem x_isWord {N L s j : Nat} {b : Nat → Nat} {tb : Nat → Int32} {kd ts te tv : Int32} (hN : 1000 < N) (hT : TR b L tb) (hj : kSn j < 1000) (h : TC b L s kd ts te tv) : f_X9_isWord N (nI L) tb kd ts te j = some (bI (isW b L s j)) := by
  obtain ⟨h1, h2, h3, h4, h5⟩ := h
  have hL := hT.1
  have hl := kSl_n hj
  have hk := @tkK_le b L s
  obtain ⟨e1, e2, e3, -⟩ := tkE_s (b := b) h1
  subst h2 h3 h4
  unfold isW
  by_cases c1 : tkK b L s = 1
  · by_cases c2 : tkE b L s - s = kSn j
    · rw [if_pos ⟨c1, c2⟩]
      simp (disch := omega) only [n_0, n_1, n_2, n_3, n_4, n_5, n_6, n_7, n_8, n_9, n_10, n_12, n_13, n_15, n_20, n_24, n_27, n_31, n_32, n_33, n_36, n_44, n_48, n_50, n_57, n_58, n_59, n_72, n_74, n_75, n_85, n_91, n_96, n_97, n_99, n_122, n_255, n_300, n_432, n_600, n_900, n_999, n_1000, n_1291, n_1399, n_2798, n_11192, n_65536, n_65537, n_99999999, n_1000000, nI_add, pk_mul, q_le, q_lt, q_eq, q_cl, q_gi, q_gz, q_sub, q_div, q_dm, d_dm, q_m1, q_mn, q_nm, q_mlt, q_ltm, q_mle, q_lem, q_mm, Option.bind_some, if_true, if_false, Nat.add_zero, ite_self, q_us, q_un, decide_true, decide_false, Bool.false_eq_true, eq_self, and_self, and_true, true_and, and_false, false_and, or_true, true_or, or_false, false_or, d_ltT, d_ltF, d_leT, d_leF, d_eqT, d_eqF, f_X9_isWord, hl, c1, c2]
      exact x_wordL hT hj (by omega) (kSn j) 0 N (by omega) (by omega)
    · rw [if_neg (fun x => c2 x.2)]
      simp (disch := omega) only [n_0, n_1, n_2, n_3, n_4, n_5, n_6, n_7, n_8, n_9, n_10, n_12, n_13, n_15, n_20, n_24, n_27, n_31, n_32, n_33, n_36, n_44, n_48, n_50, n_57, n_58, n_59, n_72, n_74, n_75, n_85, n_91, n_96, n_97, n_99, n_122, n_255, n_300, n_432, n_600, n_900, n_999, n_1000, n_1291, n_1399, n_2798, n_11192, n_65536, n_65537, n_99999999, n_1000000, nI_add, pk_mul, q_le, q_lt, q_eq, q_cl, q_gi, q_gz, q_sub, q_div, q_dm, d_dm, q_m1, q_mn, q_nm, q_mlt, q_ltm, q_mle, q_lem, q_mm, Option.bind_some, if_true, if_false, Nat.add_zero, ite_self, q_us, q_un, decide_true, decide_false, Bool.false_eq_true, eq_self, and_self, and_true, true_and, and_false, false_and, or_true, true_or, or_false, false_or, d_ltT, d_ltF, d_leT, d_leF, d_eqT, d_eqF, f_X9_isWord, hl, c1]
      rfl
  · rw [if_neg (fun x => c1 x.1)]
    simp (disch := omega) only [n_0, n_1, n_2, n_3, n_4, n_5, n_6, n_7, n_8, n_9, n_10, n_12, n_13, n_15, n_20, n_24, n_27, n_31, n_32, n_33, n_36, n_44, n_48, n_50, n_57, n_58, n_59, n_72, n_74, n_75, n_85, n_91, n_96, n_97, n_99, n_122, n_255, n_300, n_432, n_600, n_900, n_999, n_1000, n_1291, n_1399, n_2798, n_11192, n_65536, n_65537, n_99999999, n_1000000, nI_add, pk_mul, q_le, q_lt, q_eq, q_cl, q_gi, q_gz, q_sub, q_div, q_dm, d_dm, q_m1, q_mn, q_nm, q_mlt, q_ltm, q_mle, q_lem, q_mm, Option.bind_some, if_true, if_false, Nat.add_zero, ite_self, q_us, q_un, decide_true, decide_false, Bool.false_eq_true, eq_self, and_self, and_true, true_and, and_false, false_and, or_true, true_or, or_false, false_or, d_ltT, d_ltF, d_leT, d_leF, d_eqT, d_eqF, f_X9_isWord, hl]
    rfl
theorem tkM_eq {k : Nat} (h : k ≤ 3) : (tkM k = 3 ↔ k = 1) ∧ (tkM k = 2 ↔ k = 2) ∧ (tkM k = 1 ↔ k = 3) ∧ (tkM k = 0 ↔ k = 0) ∧ tkM k ≤ 3 := by
  rcases (show k = 0 ∨ k = 1 ∨ k = 2 ∨ k = 3 by omega) with e | e | e | e <;> subst e <;> decide
theorem x_fail0 {ts eo a : Int32} : f_X5_fail ts (nI 0) eo a = some (a, ts) := by
  simp (disch := omega) only [n_0, n_1, n_2, n_3, n_4, n_5, n_6, n_7, n_8, n_9, n_10, n_12, n_13, n_15, n_20, n_24, n_27, n_31, n_32, n_33, n_36, n_44, n_48, n_50, n_57, n_58, n_59, n_72, n_74, n_75, n_85, n_91, n_96, n_97, n_99, n_122, n_255, n_300, n_432, n_600, n_900, n_999, n_1000, n_1291, n_1399, n_2798, n_11192, n_65536, n_65537, n_99999999, n_1000000, nI_add, pk_mul, q_le, q_lt, q_eq, q_cl, q_gi, q_gz, q_sub, q_div, q_dm, d_dm, q_m1, q_mn, q_nm, q_mlt, q_ltm, q_mle, q_lem, q_mm, Option.bind_some, if_true, if_false, Nat.add_zero, ite_self, q_us, q_un, decide_true, decide_false, Bool.false_eq_true, eq_self, and_self, and_true, true_and, and_false, false_and, or_true, true_or, or_false, false_or, d_ltT, d_ltF, d_leT, d_leF, d_eqT, d_eqF, f_X5_fail]
theorem x_fail_e {ts eo a : Int32} {c : Nat} (h : 0 < c) (h2 : c < 100) : f_X5_fail ts (nI c) eo a = some (nI c, eo) := by
  simp (disch := omega) only [n_0, n_1, n_2, n_3, n_4, n_5, n_6, n_7, n_8, n_9, n_10, n_12, n_13, n_15, n_20, n_24, n_27, n_31, n_32, n_33, n_36, n_44, n_48, n_50, n_57, n_58, n_59, n_72, n_74, n_75, n_85, n_91, n_96, n_97, n_99, n_122, n_255, n_300, n_432, n_600, n_900, n_999, n_1000, n_1291, n_1399, n_2798, n_11192, n_65536, n_65537, n_99999999, n_1000000, nI_add, pk_mul, q_le, q_lt, q_eq, q_cl, q_gi, q_gz, q_sub, q_div, q_dm, d_dm, q_m1, q_mn, q_nm, q_mlt, q_ltm, q_mle, q_lem, q_mm, Option.bind_some, if_true, if_false, Nat.add_zero, ite_self, q_us, q_un, decide_true, decide_false, Bool.false_eq_true, eq_self, and_self, and_true, true_and, and_false, false_and, or_true, true_or, or_false, false_or, d_ltT, d_ltF, d_leT, d_leF, d_eqT, d_eqF, f_X5_fail]
theorem x_num_e {N : Nat} {tl eo kd ts te tv a0 a1 : Int32} {tb : Nat → Int32} {c : Nat} (h : 0 < c) (h2 : c < 100) : f_X5_takeNumber N tl tb (nI c) eo kd ts te tv a0 a1 = some (-nI 1, nI c, eo, kd, ts, te, tv) := by
  simp (disch := omega) only [n_0, n_1, n_2, n_3, n_4, n_5, n_6, n_7, n_8, n_9, n_10, n_12, n_13, n_15, n_20, n_24, n_27, n_31, n_32, n_33, n_36, n_44, n_48, n_50, n_57, n_58, n_59, n_72, n_74, n_75, n_85, n_91, n_96, n_97, n_99, n_122, n_255, n_300, n_432, n_600, n_900, n_999, n_1000, n_1291, n_1399, n_2798, n_11192, n_65536, n_65537, n_99999999, n_1000000, nI_add, pk_mul, q_le, q_lt, q_eq, q_cl, q_gi, q_gz, q_sub, q_div, q_dm, d_dm, q_m1, q_mn, q_nm, q_mlt, q_ltm, q_mle, q_lem, q_mm, Option.bind_some, if_true, if_false, Nat.add_zero, ite_self, q_us, q_un, decide_true, decide_false, Bool.false_eq_true, eq_self, and_self, and_true, true_and, and_false, false_and, or_true, true_or, or_false, false_or, d_ltT, d_ltF, d_leT, d_leF, d_eqT, d_eqF, f_X5_takeNumber]
theorem x_semi_e {N : Nat} {tl eo kd ts te tv a0 : Int32} {tb : Nat → Int32} {c : Nat} (h : 0 < c) (h2 : c < 100) : f_X5_takeSemicolon N tl tb (nI c) eo kd ts te tv a0 = some (nI c, eo, kd, ts, te, tv) := by
  simp (disch := omega) only [n_0, n_1, n_2, n_3, n_4, n_5, n_6, n_7, n_8, n_9, n_10, n_12, n_13, n_15, n_20, n_24, n_27, n_31, n_32, n_33, n_36, n_44, n_48, n_50, n_57, n_58, n_59, n_72, n_74, n_75, n_85, n_91, n_96, n_97, n_99, n_122, n_255, n_300, n_432, n_600, n_900, n_999, n_1000, n_1291, n_1399, n_2798, n_11192, n_65536, n_65537, n_99999999, n_1000000, nI_add, pk_mul, q_le, q_lt, q_eq, q_cl, q_gi, q_gz, q_sub, q_div, q_dm, d_dm, q_m1, q_mn, q_nm, q_mlt, q_ltm, q_mle, q_lem, q_mm, Option.bind_some, if_true, if_false, Nat.add_zero, ite_self, q_us, q_un, decide_true, decide_false, Bool.false_eq_true, eq_self, and_self, and_true, true_and, and_false, false_and, or_true, true_or, or_false, false_or, d_ltT, d_ltF, d_leT, d_leF, d_eqT, d_eqF, f_X5_takeSemicolon]
def isS (b : Nat → Nat) (L s : Nat) : Prop := tkK b L s = 3 ∧ b s = 59
theorem x_isS_t {L s : Nat} {b : Nat → Nat} {tb : Nat → Int32} {kd ts te tv : Int32} (hT : TR b L tb) (h : TC b L s kd ts te tv) (hs : isS b L s) : f_X9_isSemicolon (nI L) tb kd ts = some (nI 1) := by
  obtain ⟨a1, a2, a3, a4, -⟩ := h
  subst a2 a3
  obtain ⟨e1, e2, e3, -⟩ := tkE_s (b := b) a1
  have hs2 := (e3 (by have := hs.1; omega)).1
  rw [hs.1]
  simp (disch := omega) only [n_0, n_1, n_2, n_3, n_4, n_5, n_6, n_7, n_8, n_9, n_10, n_12, n_13, n_15, n_20, n_24, n_27, n_31, n_32, n_33, n_36, n_44, n_48, n_50, n_57, n_58, n_59, n_72, n_74, n_75, n_85, n_91, n_96, n_97, n_99, n_122, n_255, n_300, n_432, n_600, n_900, n_999, n_1000, n_1291, n_1399, n_2798, n_11192, n_65536, n_65537, n_99999999, n_1000000, nI_add, pk_mul, q_le, q_lt, q_eq, q_cl, q_gi, q_gz, q_sub, q_div, q_dm, d_dm, q_m1, q_mn, q_nm, q_mlt, q_ltm, q_mle, q_lem, q_mm, Option.bind_some, if_true, if_false, Nat.add_zero, ite_self, q_us, q_un, decide_true, decide_false, Bool.false_eq_true, eq_self, and_self, and_true, true_and, and_false, false_and, or_true, true_or, or_false, false_or, d_ltT, d_ltF, d_leT, d_leF, d_eqT, d_eqF, f_X9_isSemicolon, e_byte hT hs2, hs.2]
theorem x_isS_f {L s : Nat} {b : Nat → Nat} {tb : Nat → Int32} {kd ts te tv : Int32} (hT : TR b L tb) (h : TC b L s kd ts te tv) (hs : ¬ isS b L s) : f_X9_isSemicolon (nI L) tb kd ts = some (nI 0) := by
  obtain ⟨a1, a2, a3, a4, -⟩ := h
  have hk := @tkK_le b L s
  subst a2 a3
  by_cases c3 : tkK b L s = 3
  · obtain ⟨e1, e2, e3, -⟩ := tkE_s (b := b) a1
    have hs2 := (e3 (by omega)).1
    have c4 : b s ≠ 59 := fun x => hs ⟨c3, x⟩
    have hb := (hT.2 s hs2).1
    rw [c3]
    simp (disch := omega) only [n_0, n_1, n_2, n_3, n_4, n_5, n_6, n_7, n_8, n_9, n_10, n_12, n_13, n_15, n_20, n_24, n_27, n_31, n_32, n_33, n_36, n_44, n_48, n_50, n_57, n_58, n_59, n_72, n_74, n_75, n_85, n_91, n_96, n_97, n_99, n_122, n_255, n_300, n_432, n_600, n_900, n_999, n_1000, n_1291, n_1399, n_2798, n_11192, n_65536, n_65537, n_99999999, n_1000000, nI_add, pk_mul, q_le, q_lt, q_eq, q_cl, q_gi, q_gz, q_sub, q_div, q_dm, d_dm, q_m1, q_mn, q_nm, q_mlt, q_ltm, q_mle, q_lem, q_mm, Option.bind_some, if_true, if_false, Nat.add_zero, ite_self, q_us, q_un, decide_true, decide_false, Bool.false_eq_true, eq_self, and_self, and_true, true_and, and_false, false_and, or_true, true_or, or_false, false_or, d_ltT, d_ltF, d_leT, d_leF, d_eqT, d_eqF, f_X9_isSemicolon, e_byte hT hs2]
  · simp (disch := omega) only [n_0, n_1, n_2, n_3, n_4, n_5, n_6, n_7, n_8, n_9, n_10, n_12, n_13, n_15, n_20, n_24, n_27, n_31, n_32, n_33, n_36, n_44, n_48, n_50, n_57, n_58, n_59, n_72, n_74, n_75, n_85, n_91, n_96, n_97, n_99, n_122, n_255, n_300, n_432, n_600, n_900, n_999, n_1000, n_1291, n_1399, n_2798, n_11192, n_65536, n_65537, n_99999999, n_1000000, nI_add, pk_mul, q_le, q_lt, q_eq, q_cl, q_gi, q_gz, q_sub, q_div, q_dm, d_dm, q_m1, q_mn, q_nm, q_mlt, q_ltm, q_mle, q_lem, q_mm, Option.bind_some, if_true, if_false, Nat.add_zero, ite_self, q_us, q_un, decide_true, decide_false, Bool.false_eq_true, eq_self, and_self, and_true, true_and, and_false, false_and, or_true, true_or, or_false, false_or, d_ltT, d_ltF, d_leT, d_leF, d_eqT, d_eqF, f_X9_isSemicolon]
theorem x_semi_f {N L s : Nat} {b : Nat → Nat} {tb : Nat → Int32} {kd ts te tv eo a : Int32} (hT : TR b L tb) (h : TC b L s kd ts te tv) (hs : ¬ isS b L s) : f_X5_takeSemicolon N (nI L) tb (nI 0) eo kd ts te tv a = some (nI 1, ts, kd, ts, te, tv) := by
  simp (disch := omega) only [n_0, n_1, n_2, n_3, n_4, n_5, n_6, n_7, n_8, n_9, n_10, n_12, n_13, n_15, n_20, n_24, n_27, n_31, n_32, n_33, n_36, n_44, n_48, n_50, n_57, n_58, n_59, n_72, n_74, n_75, n_85, n_91, n_96, n_97, n_99, n_122, n_255, n_300, n_432, n_600, n_900, n_999, n_1000, n_1291, n_1399, n_2798, n_11192, n_65536, n_65537, n_99999999, n_1000000, nI_add, pk_mul, q_le, q_lt, q_eq, q_cl, q_gi, q_gz, q_sub, q_div, q_dm, d_dm, q_m1, q_mn, q_nm, q_mlt, q_ltm, q_mle, q_lem, q_mm, Option.bind_some, if_true, if_false, Nat.add_zero, ite_self, q_us, q_un, decide_true, decide_false, Bool.false_eq_true, eq_self, and_self, and_true, true_and, and_false, false_and, or_true, true_or, or_false, false_or, d_ltT, d_ltF, d_leT, d_leF, d_eqT, d_eqF, f_X5_takeSemicolon, x_isS_f hT h hs, x_fail0]
theorem x_semi_a {N L s c : Nat} {b : Nat → Nat} {tb : Nat → Int32} {kd ts te tv eo : Int32} (hT : TR b L tb) (h : TC b L s kd ts te tv) (hs : isS b L s) (h0 : 0 < c) (h2 : c < 100) : f_X5_takeSemicolon N (nI L) tb (nI 0) eo kd ts te tv (nI c) = some (nI c, ts, kd, ts, te, tv) := by
  simp (disch := omega) only [n_0, n_1, n_2, n_3, n_4, n_5, n_6, n_7, n_8, n_9, n_10, n_12, n_13, n_15, n_20, n_24, n_27, n_31, n_32, n_33, n_36, n_44, n_48, n_50, n_57, n_58, n_59, n_72, n_74, n_75, n_85, n_91, n_96, n_97, n_99, n_122, n_255, n_300, n_432, n_600, n_900, n_999, n_1000, n_1291, n_1399, n_2798, n_11192, n_65536, n_65537, n_99999999, n_1000000, nI_add, pk_mul, q_le, q_lt, q_eq, q_cl, q_gi, q_gz, q_sub, q_div, q_dm, d_dm, q_m1, q_mn, q_nm, q_mlt, q_ltm, q_mle, q_lem, q_mm, Option.bind_some, if_true, if_false, Nat.add_zero, ite_self, q_us, q_un, decide_true, decide_false, Bool.false_eq_true, eq_self, and_self, and_true, true_and, and_false, false_and, or_true, true_or, or_false, false_or, d_ltT, d_ltF, d_leT, d_leF, d_eqT, d_eqF, f_X5_takeSemicolon, x_isS_t hT h hs, x_fail0]
theorem x_semi_t {N L s : Nat} {b : Nat → Nat} {tb : Nat → Int32} {kd ts te tv eo kd' ts' te' tv' : Int32} (hT : TR b L tb) (h : TC b L s kd ts te tv) (hs : isS b L s) (ha : f_X9_advance N (nI L) tb kd ts te tv = some (kd', ts', te', tv')) : f_X5_takeSemicolon N (nI L) tb (nI 0) eo kd ts te tv (nI 0) = some (nI 0, eo, kd', ts', te', tv') := by
  simp (disch := omega) only [n_0, n_1, n_2, n_3, n_4, n_5, n_6, n_7, n_8, n_9, n_10, n_12, n_13, n_15, n_20, n_24, n_27, n_31, n_32, n_33, n_36, n_44, n_48, n_50, n_57, n_58, n_59, n_72, n_74, n_75, n_85, n_91, n_96, n_97, n_99, n_122, n_255, n_300, n_432, n_600, n_900, n_999, n_1000, n_1291, n_1399, n_2798, n_11192, n_65536, n_65537, n_99999999, n_1000000, nI_add, pk_mul, q_le, q_lt, q_eq, q_cl, q_gi, q_gz, q_sub, q_div, q_dm, d_dm, q_m1, q_mn, q_nm, q_mlt, q_ltm, q_mle, q_lem, q_mm, Option.bind_some, if_true, if_false, Nat.add_zero, ite_self, q_us, q_un, decide_true, decide_false, Bool.false_eq_true, eq_self, and_self, and_true, true_and, and_false, false_and, or_true, true_or, or_false, false_or, d_ltT, d_ltF, d_leT, d_leF, d_eqT, d_eqF, f_X5_takeSemicolon, x_isS_t hT h hs, ha]
theorem hi_of {h : Nat} (hh : h < 100000) : ∀ v, v < 1000000000 → (nI h < nI v) = (h + 1 ≤ v) := fun v hv => by
  rw [q_lt (by omega) (by omega)]
  exact propext ⟨fun x => x, fun x => x⟩
theorem hi_of1 {h : Nat} (hh : h < 100000) : ∀ v, v < 1000000000 → (nI h - nI 1 < nI v) = (h ≤ v) := fun v hv => by
  rcases Nat.eq_zero_or_pos h with e | e
  · subst e
    rw [q_01, q_mlt (by omega)]
    exact (eq_true (Nat.zero_le v)).symm
  · rw [pk_sub e, q_lt (by omega) (by omega)]
    exact propext ⟨fun x => by omega, fun x => by omega⟩
