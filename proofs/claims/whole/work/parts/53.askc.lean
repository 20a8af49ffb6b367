/-! forecasts -/
theorem k_nextFace {N : Nat} {g : Nat → Nat} {fc dw m : Nat → Int32} (hN : 1000 < N) (hB : okB g) (hD : okD g) (hR : DR g fc dw) (hM : MR m g) (x mt : Int32) : Qr "" (f_X10_nextFace N (nI (g 0)) (nI (g 3)) fc dw x) (f_X11_nextFace N m mt x) := by
  have e0 : m 0 = nI (g 0) := hM 0 (by omega)
  have b0 := hB.1
  rcases die_cs hB hM x with ⟨d, hd, rfl, h1, h2⟩ | ⟨h1, h2⟩
  · have hn := gNx_le (g 0)
    have u1 := e_shown hN hB hD hR hd hn
    have u2 := m_faceBy hN hM hB hD hd hn
    have u3 := e_next b0
    have u4 := m_nextSeed b0
    exact Qr_v (nI (gShow g d (gNx (g 0)))) (by simp (disch := omega) only [n_0, n_1, n_2, n_3, n_4, n_5, n_6, n_7, n_8, n_9, n_10, n_12, n_13, n_15, n_20, n_24, n_27, n_31, n_32, n_33, n_36, n_44, n_48, n_50, n_57, n_58, n_59, n_72, n_74, n_75, n_85, n_91, n_96, n_97, n_99, n_122, n_255, n_300, n_432, n_600, n_900, n_999, n_1000, n_1291, n_1399, n_2798, n_11192, n_65536, n_65537, n_99999999, n_1000000, nI_add, pk_mul, q_le, q_lt, q_eq, q_cl, q_gi, q_gz, q_sub, q_div, q_dm, d_dm, q_m1, q_mn, q_nm, q_mlt, q_ltm, q_mle, q_lem, q_mm, Option.bind_some, if_true, if_false, Nat.add_zero, ite_self, q_us, q_un, decide_true, decide_false, Bool.false_eq_true, eq_self, and_self, and_true, true_and, and_false, false_and, or_true, true_or, or_false, false_or, d_ltT, d_ltF, d_leT, d_leF, d_eqT, d_eqF, f_X10_nextFace, h1, sbd_t, u3, u1]) (by simp (disch := omega) only [n_0, n_1, n_2, n_3, n_4, n_5, n_6, n_7, n_8, n_9, n_10, n_12, n_13, n_15, n_20, n_24, n_27, n_31, n_32, n_33, n_36, n_44, n_48, n_50, n_57, n_58, n_59, n_72, n_74, n_75, n_85, n_91, n_96, n_97, n_99, n_122, n_255, n_300, n_432, n_600, n_900, n_999, n_1000, n_1291, n_1399, n_2798, n_11192, n_65536, n_65537, n_99999999, n_1000000, nI_add, pk_mul, q_le, q_lt, q_eq, q_cl, q_gi, q_gz, q_sub, q_div, q_dm, d_dm, q_m1, q_mn, q_nm, q_mlt, q_ltm, q_mle, q_lem, q_mm, Option.bind_some, if_true, if_false, Nat.add_zero, ite_self, q_us, q_un, decide_true, decide_false, Bool.false_eq_true, eq_self, and_self, and_true, true_and, and_false, false_and, or_true, true_or, or_false, false_or, d_ltT, d_ltF, d_leT, d_leF, d_eqT, d_eqF, f_X11_nextFace, h2, e0, u4, u2])
  · exact Qr_1 (nI 0) (by simp (disch := omega) only [n_0, n_1, n_2, n_3, n_4, n_5, n_6, n_7, n_8, n_9, n_10, n_12, n_13, n_15, n_20, n_24, n_27, n_31, n_32, n_33, n_36, n_44, n_48, n_50, n_57, n_58, n_59, n_72, n_74, n_75, n_85, n_91, n_96, n_97, n_99, n_122, n_255, n_300, n_432, n_600, n_900, n_999, n_1000, n_1291, n_1399, n_2798, n_11192, n_65536, n_65537, n_99999999, n_1000000, nI_add, pk_mul, q_le, q_lt, q_eq, q_cl, q_gi, q_gz, q_sub, q_div, q_dm, d_dm, q_m1, q_mn, q_nm, q_mlt, q_ltm, q_mle, q_lem, q_mm, Option.bind_some, if_true, if_false, Nat.add_zero, ite_self, q_us, q_un, decide_true, decide_false, Bool.false_eq_true, eq_self, and_self, and_true, true_and, and_false, false_and, or_true, true_or, or_false, false_or, d_ltT, d_ltF, d_leT, d_leF, d_eqT, d_eqF, f_X10_nextFace, h1, sbd_f]) (by simp (disch := omega) only [n_0, n_1, n_2, n_3, n_4, n_5, n_6, n_7, n_8, n_9, n_10, n_12, n_13, n_15, n_20, n_24, n_27, n_31, n_32, n_33, n_36, n_44, n_48, n_50, n_57, n_58, n_59, n_72, n_74, n_75, n_85, n_91, n_96, n_97, n_99, n_122, n_255, n_300, n_432, n_600, n_900, n_999, n_1000, n_1291, n_1399, n_2798, n_11192, n_65536, n_65537, n_99999999, n_1000000, nI_add, pk_mul, q_le, q_lt, q_eq, q_cl, q_gi, q_gz, q_sub, q_div, q_dm, d_dm, q_m1, q_mn, q_nm, q_mlt, q_ltm, q_mle, q_lem, q_mm, Option.bind_some, if_true, if_false, Nat.add_zero, ite_self, q_us, q_un, decide_true, decide_false, Bool.false_eq_true, eq_self, and_self, and_true, true_and, and_false, false_and, or_true, true_or, or_false, false_or, d_ltT, d_ltF, d_leT, d_leF, d_eqT, d_eqF, f_X11_nextFace, h2])
theorem e_afterL {N : Nat} {g : Nat → Nat} {fc dw : Nat → Int32} {sd dc : Int32} {d s n : Nat} (hN : 1000 < N) (hB : okB g) (hD : okD g) (hR : DR g fc dw) (hd : d < g 3) (hs : s ≤ 65536) (hn : n ≤ 200) : ∀ k i j : Nat, i + k = n → k < j → f_X10_faceAfter_L24 N sd dc fc dw j (nI d) (nI n) (nI (gSd s i)) (nI i) = some (.inr (nI (gShow g d (gSd s n)))) := by
  intro k
  induction k with
  | zero =>
    intro i j h1 h2
    obtain ⟨j, rfl⟩ : ∃ t, j = t + 1 := ⟨j - 1, by omega⟩
    have e : i = n := by omega
    subst e
    have u1 := e_shown hN hB hD hR hd (gSd_le (k := i) hs)
    simp (disch := omega) only [n_0, n_1, n_2, n_3, n_4, n_5, n_6, n_7, n_8, n_9, n_10, n_12, n_13, n_15, n_20, n_24, n_27, n_31, n_32, n_33, n_36, n_44, n_48, n_50, n_57, n_58, n_59, n_72, n_74, n_75, n_85, n_91, n_96, n_97, n_99, n_122, n_255, n_300, n_432, n_600, n_900, n_999, n_1000, n_1291, n_1399, n_2798, n_11192, n_65536, n_65537, n_99999999, n_1000000, nI_add, pk_mul, q_le, q_lt, q_eq, q_cl, q_gi, q_gz, q_sub, q_div, q_dm, d_dm, q_m1, q_mn, q_nm, q_mlt, q_ltm, q_mle, q_lem, q_mm, Option.bind_some, if_true, if_false, Nat.add_zero, ite_self, q_us, q_un, decide_true, decide_false, Bool.false_eq_true, eq_self, and_self, and_true, true_and, and_false, false_and, or_true, true_or, or_false, false_or, d_ltT, d_ltF, d_leT, d_leF, d_eqT, d_eqF, f_X10_faceAfter_L24, f_X10_faceAfter_L24_F, u1]
  | succ k ih =>
    intro i j h1 h2
    obtain ⟨j, rfl⟩ : ∃ t, j = t + 1 := ⟨j - 1, by omega⟩
    have hi := ih (i + 1) j (by omega) (by omega)
    have u3 := e_next (gSd_le (k := i) hs)
    simp (disch := omega) only [n_0, n_1, n_2, n_3, n_4, n_5, n_6, n_7, n_8, n_9, n_10, n_12, n_13, n_15, n_20, n_24, n_27, n_31, n_32, n_33, n_36, n_44, n_48, n_50, n_57, n_58, n_59, n_72, n_74, n_75, n_85, n_91, n_96, n_97, n_99, n_122, n_255, n_300, n_432, n_600, n_900, n_999, n_1000, n_1291, n_1399, n_2798, n_11192, n_65536, n_65537, n_99999999, n_1000000, nI_add, pk_mul, q_le, q_lt, q_eq, q_cl, q_gi, q_gz, q_sub, q_div, q_dm, d_dm, q_m1, q_mn, q_nm, q_mlt, q_ltm, q_mle, q_lem, q_mm, Option.bind_some, if_true, if_false, Nat.add_zero, ite_self, q_us, q_un, decide_true, decide_false, Bool.false_eq_true, eq_self, and_self, and_true, true_and, and_false, false_and, or_true, true_or, or_false, false_or, d_ltT, d_ltF, d_leT, d_leF, d_eqT, d_eqF, f_X10_faceAfter_L24, f_X10_faceAfter_L24_F, u3]
    exact hi
theorem m_afterL {N : Nat} {g : Nat → Nat} {m : Nat → Int32} {mt : Int32} {d s n : Nat} (hN : 1000 < N) (hB : okB g) (hD : okD g) (hM : MR m g) (hd : d < g 3) (hs : s ≤ 65536) (hn : n ≤ 200) : ∀ k i j : Nat, i + k = n → k < j → f_X11_faceAfter_L32 N m j (nI d) (nI n) (nI (gSd s i)) (nI i) mt = some (nI (gShow g d (gSd s n)), mt) := by
  intro k
  induction k with
  | zero =>
    intro i j h1 h2
    obtain ⟨j, rfl⟩ : ∃ t, j = t + 1 := ⟨j - 1, by omega⟩
    have e : i = n := by omega
    subst e
    have u1 := m_faceBy hN hM hB hD hd (gSd_le (k := i) hs)
    simp (disch := omega) only [n_0, n_1, n_2, n_3, n_4, n_5, n_6, n_7, n_8, n_9, n_10, n_12, n_13, n_15, n_20, n_24, n_27, n_31, n_32, n_33, n_36, n_44, n_48, n_50, n_57, n_58, n_59, n_72, n_74, n_75, n_85, n_91, n_96, n_97, n_99, n_122, n_255, n_300, n_432, n_600, n_900, n_999, n_1000, n_1291, n_1399, n_2798, n_11192, n_65536, n_65537, n_99999999, n_1000000, nI_add, pk_mul, q_le, q_lt, q_eq, q_cl, q_gi, q_gz, q_sub, q_div, q_dm, d_dm, q_m1, q_mn, q_nm, q_mlt, q_ltm, q_mle, q_lem, q_mm, Option.bind_some, if_true, if_false, Nat.add_zero, ite_self, q_us, q_un, decide_true, decide_false, Bool.false_eq_true, eq_self, and_self, and_true, true_and, and_false, false_and, or_true, true_or, or_false, false_or, d_ltT, d_ltF, d_leT, d_leF, d_eqT, d_eqF, f_X11_faceAfter_L32, f_X11_faceAfter_L32_F, u1]
  | succ k ih =>
    intro i j h1 h2
    obtain ⟨j, rfl⟩ : ∃ t, j = t + 1 := ⟨j - 1, by omega⟩
    have hi := ih (i + 1) j (by omega) (by omega)
    have u3 := m_nextSeed (gSd_le (k := i) hs)
    simp (disch := omega) only [n_0, n_1, n_2, n_3, n_4, n_5, n_6, n_7, n_8, n_9, n_10, n_12, n_13, n_15, n_20, n_24, n_27, n_31, n_32, n_33, n_36, n_44, n_48, n_50, n_57, n_58, n_59, n_72, n_74, n_75, n_85, n_91, n_96, n_97, n_99, n_122, n_255, n_300, n_432, n_600, n_900, n_999, n_1000, n_1291, n_1399, n_2798, n_11192, n_65536, n_65537, n_99999999, n_1000000, nI_add, pk_mul, q_le, q_lt, q_eq, q_cl, q_gi, q_gz, q_sub, q_div, q_dm, d_dm, q_m1, q_mn, q_nm, q_mlt, q_ltm, q_mle, q_lem, q_mm, Option.bind_some, if_true, if_false, Nat.add_zero, ite_self, q_us, q_un, decide_true, decide_false, Bool.false_eq_true, eq_self, and_self, and_true, true_and, and_false, false_and, or_true, true_or, or_false, false_or, d_ltT, d_ltF, d_leT, d_leF, d_eqT, d_eqF, f_X11_faceAfter_L32, f_X11_faceAfter_L32_F, u3]
    exact hi
theorem k_faceAfter {N : Nat} {g : Nat → Nat} {fc dw m : Nat → Int32} (hN : 1000 < N) (hB : okB g) (hD : okD g) (hR : DR g fc dw) (hM : MR m g) (x y mt : Int32) : Qr "java/lang/IllegalArgumentException" (f_X10_faceAfter N (nI (g 0)) (nI (g 3)) fc dw x y) (f_X11_faceAfter N m mt x y) := by
  have e0 : m 0 = nI (g 0) := hM 0 (by omega)
  have b0 := hB.1
  rcases die_cs hB hM x with ⟨d, hd, rfl, h1, h2⟩ | ⟨h1, h2⟩
  · rcases rg_cs y (lo := 1) (hi := 200) (by omega) (by omega) with ⟨n, h3, h4, rfl⟩ | h
    · have u1 := cr_t h3 h4 (by omega)
      have u2 := mo_t h3 h4 (by omega)
      have u3 := e_afterL (N := N) (sd := nI (g 0)) (dc := nI (g 3)) hN hB hD hR hd b0 h4 n 0 N (by omega) (by omega)
      have u4 := m_afterL (N := N) (mt := nI 0) hN hB hD hM hd b0 h4 n 0 N (by omega) (by omega)
      refine Qr_v (nI (gShow g d (gSd (g 0) n))) ?_ ?_
      · unfold f_X10_faceAfter
        rw [n_200]
        simp only [n_0, n_1, n_2, n_3, n_4, n_5, n_6, n_7, n_8, n_9, n_10, n_12, n_13, n_15, n_20, n_24, n_27, n_31, n_32, n_33, n_36, n_44, n_48, n_50, n_57, n_58, n_59, n_72, n_74, n_75, n_85, n_91, n_96, n_97, n_99, n_122, n_255, n_300, n_432, n_600, n_900, n_999, n_1000, n_1291, n_1399, n_2798, n_11192, n_65536, n_65537, n_99999999, n_1000000]
        rw [h1, sbd_t, u1, sbd_t]
        exact u3
      · unfold f_X11_faceAfter
        rw [n_200]
        simp only [n_0, n_1, n_2, n_3, n_4, n_5, n_6, n_7, n_8, n_9, n_10, n_12, n_13, n_15, n_20, n_24, n_27, n_31, n_32, n_33, n_36, n_44, n_48, n_50, n_57, n_58, n_59, n_72, n_74, n_75, n_85, n_91, n_96, n_97, n_99, n_122, n_255, n_300, n_432, n_600, n_900, n_999, n_1000, n_1291, n_1399, n_2798, n_11192, n_65536, n_65537, n_99999999, n_1000000]
        rw [h2, Option.bind_some, if_pos rfl, u2, Option.bind_some, if_pos rfl, q_cl (by omega), e0]
        exact u4
    · have u1 := cr_f h
      have u2 := mo_f h
      exact Qr_2 (nI 0) (by simp (disch := omega) only [n_0, n_1, n_2, n_3, n_4, n_5, n_6, n_7, n_8, n_9, n_10, n_12, n_13, n_15, n_20, n_24, n_27, n_31, n_32, n_33, n_36, n_44, n_48, n_50, n_57, n_58, n_59, n_72, n_74, n_75, n_85, n_91, n_96, n_97, n_99, n_122, n_255, n_300, n_432, n_600, n_900, n_999, n_1000, n_1291, n_1399, n_2798, n_11192, n_65536, n_65537, n_99999999, n_1000000, nI_add, pk_mul, q_le, q_lt, q_eq, q_cl, q_gi, q_gz, q_sub, q_div, q_dm, d_dm, q_m1, q_mn, q_nm, q_mlt, q_ltm, q_mle, q_lem, q_mm, Option.bind_some, if_true, if_false, Nat.add_zero, ite_self, q_us, q_un, decide_true, decide_false, Bool.false_eq_true, eq_self, and_self, and_true, true_and, and_false, false_and, or_true, true_or, or_false, false_or, d_ltT, d_ltF, d_leT, d_leF, d_eqT, d_eqF, f_X10_faceAfter, n_200, h1, sbd_t, u1, sbd_f]) (by simp (disch := omega) only [n_0, n_1, n_2, n_3, n_4, n_5, n_6, n_7, n_8, n_9, n_10, n_12, n_13, n_15, n_20, n_24, n_27, n_31, n_32, n_33, n_36, n_44, n_48, n_50, n_57, n_58, n_59, n_72, n_74, n_75, n_85, n_91, n_96, n_97, n_99, n_122, n_255, n_300, n_432, n_600, n_900, n_999, n_1000, n_1291, n_1399, n_2798, n_11192, n_65536, n_65537, n_99999999, n_1000000, nI_add, pk_mul, q_le, q_lt, q_eq, q_cl, q_gi, q_gz, q_sub, q_div, q_dm, d_dm, q_m1, q_mn, q_nm, q_mlt, q_ltm, q_mle, q_lem, q_mm, Option.bind_some, if_true, if_false, Nat.add_zero, ite_self, q_us, q_un, decide_true, decide_false, Bool.false_eq_true, eq_self, and_self, and_true, true_and, and_false, false_and, or_true, true_or, or_false, false_or, d_ltT, d_ltF, d_leT, d_leF, d_eqT, d_eqF, f_X11_faceAfter, n_200, h2, u2])
  · exact Qr_1 (nI 0) (by simp (disch := omega) only [n_0, n_1, n_2, n_3, n_4, n_5, n_6, n_7, n_8, n_9, n_10, n_12, n_13, n_15, n_20, n_24, n_27, n_31, n_32, n_33, n_36, n_44, n_48, n_50, n_57, n_58, n_59, n_72, n_74, n_75, n_85, n_91, n_96, n_97, n_99, n_122, n_255, n_300, n_432, n_600, n_900, n_999, n_1000, n_1291, n_1399, n_2798, n_11192, n_65536, n_65537, n_99999999, n_1000000, nI_add, pk_mul, q_le, q_lt, q_eq, q_cl, q_gi, q_gz, q_sub, q_div, q_dm, d_dm, q_m1, q_mn, q_nm, q_mlt, q_ltm, q_mle, q_lem, q_mm, Option.bind_some, if_true, if_false, Nat.add_zero, ite_self, q_us, q_un, decide_true, decide_false, Bool.false_eq_true, eq_self, and_self, and_true, true_and, and_false, false_and, or_true, true_or, or_false, false_or, d_ltT, d_ltF, d_leT, d_leF, d_eqT, d_eqF, f_X10_faceAfter, h1, sbd_f]) (by simp (disch := omega) only [n_0, n_1, n_2, n_3, n_4, n_5, n_6, n_7, n_8, n_9, n_10, n_12, n_13, n_15, n_20, n_24, n_27, n_31, n_32, n_33, n_36, n_44, n_48, n_50, n_57, n_58, n_59, n_72, n_74, n_75, n_85, n_91, n_96, n_97, n_99, n_122, n_255, n_300, n_432, n_600, n_900, n_999, n_1000, n_1291, n_1399, n_2798, n_11192, n_65536, n_65537, n_99999999, n_1000000, nI_add, pk_mul, q_le, q_lt, q_eq, q_cl, q_gi, q_gz, q_sub, q_div, q_dm, d_dm, q_m1, q_mn, q_nm, q_mlt, q_ltm, q_mle, q_lem, q_mm, Option.bind_some, if_true, if_false, Nat.add_zero, ite_self, q_us, q_un, decide_true, decide_false, Bool.false_eq_true, eq_self, and_self, and_true, true_and, and_false, false_and, or_true, true_or, or_false, false_or, d_ltT, d_ltF, d_leT, d_leF, d_eqT, d_eqF, f_X11_faceAfter, h2])
theorem k_untilL {N : Nat} {g : Nat → Nat} {fc dw m : Nat → Int32} {sd dc mt : Int32} {d s f : Nat} (hN : 1000 < N) (hB : okB g) (hD : okD g) (hR : DR g fc dw) (hM : MR m g) (hd : d < g 3) (hs : s ≤ 65536) (hf : f < 100) : ∀ k i j j' : Nat, i + k = 200 → k < j → k < j' → ∃ v, f_X10_throwsUntil_L22 N sd dc fc dw j (nI d) (nI f) (nI (gSd s i)) (nI (i + 1)) = some (.inr v) ∧ f_X11_throwsUntil_L37 N m j' (nI d) (nI f) (nI (gSd s i)) (nI (i + 1)) mt = some (v, mt) := by
  intro k
  induction k with
  | zero =>
    intro i j j' h1 h2 h3
    obtain ⟨j, rfl⟩ : ∃ t, j = t + 1 := ⟨j - 1, by omega⟩
    obtain ⟨j', rfl⟩ : ∃ t, j' = t + 1 := ⟨j' - 1, by omega⟩
    have e : i = 200 := by omega
    subst e
    refine ⟨-nI 1, ?_, ?_⟩
    · simp (disch := omega) only [n_0, n_1, n_2, n_3, n_4, n_5, n_6, n_7, n_8, n_9, n_10, n_12, n_13, n_15, n_20, n_24, n_27, n_31, n_32, n_33, n_36, n_44, n_48, n_50, n_57, n_58, n_59, n_72, n_74, n_75, n_85, n_91, n_96, n_97, n_99, n_122, n_255, n_300, n_432, n_600, n_900, n_999, n_1000, n_1291, n_1399, n_2798, n_11192, n_65536, n_65537, n_99999999, n_1000000, nI_add, pk_mul, q_le, q_lt, q_eq, q_cl, q_gi, q_gz, q_sub, q_div, q_dm, d_dm, q_m1, q_mn, q_nm, q_mlt, q_ltm, q_mle, q_lem, q_mm, Option.bind_some, if_true, if_false, Nat.add_zero, ite_self, q_us, q_un, decide_true, decide_false, Bool.false_eq_true, eq_self, and_self, and_true, true_and, and_false, false_and, or_true, true_or, or_false, false_or, d_ltT, d_ltF, d_leT, d_leF, d_eqT, d_eqF, f_X10_throwsUntil_L22, f_X10_throwsUntil_L22_F, n_200]
    · simp (disch := omega) only [n_0, n_1, n_2, n_3, n_4, n_5, n_6, n_7, n_8, n_9, n_10, n_12, n_13, n_15, n_20, n_24, n_27, n_31, n_32, n_33, n_36, n_44, n_48, n_50, n_57, n_58, n_59, n_72, n_74, n_75, n_85, n_91, n_96, n_97, n_99, n_122, n_255, n_300, n_432, n_600, n_900, n_999, n_1000, n_1291, n_1399, n_2798, n_11192, n_65536, n_65537, n_99999999, n_1000000, nI_add, pk_mul, q_le, q_lt, q_eq, q_cl, q_gi, q_gz, q_sub, q_div, q_dm, d_dm, q_m1, q_mn, q_nm, q_mlt, q_ltm, q_mle, q_lem, q_mm, Option.bind_some, if_true, if_false, Nat.add_zero, ite_self, q_us, q_un, decide_true, decide_false, Bool.false_eq_true, eq_self, and_self, and_true, true_and, and_false, false_and, or_true, true_or, or_false, false_or, d_ltT, d_ltF, d_leT, d_leF, d_eqT, d_eqF, f_X11_throwsUntil_L37, f_X11_throwsUntil_L37_F, n_200]
  | succ k ih =>
    intro i j j' h1 h2 h3
    obtain ⟨j, rfl⟩ : ∃ t, j = t + 1 := ⟨j - 1, by omega⟩
    obtain ⟨j', rfl⟩ : ∃ t, j' = t + 1 := ⟨j' - 1, by omega⟩
    have u3 := e_next (gSd_le (k := i) hs)
    have u4 := m_nextSeed (gSd_le (k := i) hs)
    have hn := gNx_le (gSd s i)
    have u1 := e_shown hN hB hD hR hd hn
    have u2 := m_faceBy hN hM hB hD hd hn
    have hsh := gShow_s (s := gNx (gSd s i)) hD hd
    have h12 := (hD d hd).2.1
    by_cases c : gShow g d (gNx (gSd s i)) = f
    · refine ⟨nI (i + 1), ?_, ?_⟩
      · simp (disch := omega) only [n_0, n_1, n_2, n_3, n_4, n_5, n_6, n_7, n_8, n_9, n_10, n_12, n_13, n_15, n_20, n_24, n_27, n_31, n_32, n_33, n_36, n_44, n_48, n_50, n_57, n_58, n_59, n_72, n_74, n_75, n_85, n_91, n_96, n_97, n_99, n_122, n_255, n_300, n_432, n_600, n_900, n_999, n_1000, n_1291, n_1399, n_2798, n_11192, n_65536, n_65537, n_99999999, n_1000000, nI_add, pk_mul, q_le, q_lt, q_eq, q_cl, q_gi, q_gz, q_sub, q_div, q_dm, d_dm, q_m1, q_mn, q_nm, q_mlt, q_ltm, q_mle, q_lem, q_mm, Option.bind_some, if_true, if_false, Nat.add_zero, ite_self, q_us, q_un, decide_true, decide_false, Bool.false_eq_true, eq_self, and_self, and_true, true_and, and_false, false_and, or_true, true_or, or_false, false_or, d_ltT, d_ltF, d_leT, d_leF, d_eqT, d_eqF, f_X10_throwsUntil_L22, f_X10_throwsUntil_L22_F, n_200, u3, u1, c]
      · simp (disch := omega) only [n_0, n_1, n_2, n_3, n_4, n_5, n_6, n_7, n_8, n_9, n_10, n_12, n_13, n_15, n_20, n_24, n_27, n_31, n_32, n_33, n_36, n_44, n_48, n_50, n_57, n_58, n_59, n_72, n_74, n_75, n_85, n_91, n_96, n_97, n_99, n_122, n_255, n_300, n_432, n_600, n_900, n_999, n_1000, n_1291, n_1399, n_2798, n_11192, n_65536, n_65537, n_99999999, n_1000000, nI_add, pk_mul, q_le, q_lt, q_eq, q_cl, q_gi, q_gz, q_sub, q_div, q_dm, d_dm, q_m1, q_mn, q_nm, q_mlt, q_ltm, q_mle, q_lem, q_mm, Option.bind_some, if_true, if_false, Nat.add_zero, ite_self, q_us, q_un, decide_true, decide_false, Bool.false_eq_true, eq_self, and_self, and_true, true_and, and_false, false_and, or_true, true_or, or_false, false_or, d_ltT, d_ltF, d_leT, d_leF, d_eqT, d_eqF, f_X11_throwsUntil_L37, f_X11_throwsUntil_L37_F, n_200, u4, u2, c]
    · obtain ⟨v, v1, v2⟩ := ih (i + 1) j j' (by omega) (by omega) (by omega)
      refine ⟨v, ?_, ?_⟩
      · simp (disch := omega) only [n_0, n_1, n_2, n_3, n_4, n_5, n_6, n_7, n_8, n_9, n_10, n_12, n_13, n_15, n_20, n_24, n_27, n_31, n_32, n_33, n_36, n_44, n_48, n_50, n_57, n_58, n_59, n_72, n_74, n_75, n_85, n_91, n_96, n_97, n_99, n_122, n_255, n_300, n_432, n_600, n_900, n_999, n_1000, n_1291, n_1399, n_2798, n_11192, n_65536, n_65537, n_99999999, n_1000000, nI_add, pk_mul, q_le, q_lt, q_eq, q_cl, q_gi, q_gz, q_sub, q_div, q_dm, d_dm, q_m1, q_mn, q_nm, q_mlt, q_ltm, q_mle, q_lem, q_mm, Option.bind_some, if_true, if_false, Nat.add_zero, ite_self, q_us, q_un, decide_true, decide_false, Bool.false_eq_true, eq_self, and_self, and_true, true_and, and_false, false_and, or_true, true_or, or_false, false_or, d_ltT, d_ltF, d_leT, d_leF, d_eqT, d_eqF, f_X10_throwsUntil_L22, f_X10_throwsUntil_L22_F, n_200, u3, u1]
        exact v1
      · simp (disch := omega) only [n_0, n_1, n_2, n_3, n_4, n_5, n_6, n_7, n_8, n_9, n_10, n_12, n_13, n_15, n_20, n_24, n_27, n_31, n_32, n_33, n_36, n_44, n_48, n_50, n_57, n_58, n_59, n_72, n_74, n_75, n_85, n_91, n_96, n_97, n_99, n_122, n_255, n_300, n_432, n_600, n_900, n_999, n_1000, n_1291, n_1399, n_2798, n_11192, n_65536, n_65537, n_99999999, n_1000000, nI_add, pk_mul, q_le, q_lt, q_eq, q_cl, q_gi, q_gz, q_sub, q_div, q_dm, d_dm, q_m1, q_mn, q_nm, q_mlt, q_ltm, q_mle, q_lem, q_mm, Option.bind_some, if_true, if_false, Nat.add_zero, ite_self, q_us, q_un, decide_true, decide_false, Bool.false_eq_true, eq_self, and_self, and_true, true_and, and_false, false_and, or_true, true_or, or_false, false_or, d_ltT, d_ltF, d_leT, d_leF, d_eqT, d_eqF, f_X11_throwsUntil_L37, f_X11_throwsUntil_L37_F, n_200, u4, u2]
        exact v2
theorem k_throwsUntil {N : Nat} {g : Nat → Nat} {fc dw m : Nat → Int32} (hN : 1000 < N) (hB : okB g) (hD : okD g) (hR : DR g fc dw) (hM : MR m g) (x y mt : Int32) : Qr "java/lang/IllegalArgumentException" (f_X10_throwsUntil N (nI (g 0)) (nI (g 3)) fc dw x y) (f_X11_throwsUntil N m mt x y) := by
  have e0 : m 0 = nI (g 0) := hM 0 (by omega)
  have b0 := hB.1
  have b3 := b_3 hB
  rcases die_cs hB hM x with ⟨d, hd, rfl, h1, h2⟩ | ⟨h1, h2⟩
  · have hf := hD d hd
    have u2 := m_faces hM (d := d) (by omega)
    rcases fa_cs hB hD hR hd y with ⟨i, hi, rfl, h3, h4⟩ | ⟨h3, h4⟩
    · obtain ⟨v, v1, v2⟩ := k_untilL (N := N) (sd := nI (g 0)) (dc := nI (g 3)) (mt := nI 0) (f := i + 1) hN hB hD hR hM hd b0 (by omega) 200 0 N N (by omega) (by omega) (by omega)
      refine Qr_v v ?_ ?_
      · unfold f_X10_throwsUntil
        simp only [n_0, n_1, n_2, n_3, n_4, n_5, n_6, n_7, n_8, n_9, n_10, n_12, n_13, n_15, n_20, n_24, n_27, n_31, n_32, n_33, n_36, n_44, n_48, n_50, n_57, n_58, n_59, n_72, n_74, n_75, n_85, n_91, n_96, n_97, n_99, n_122, n_255, n_300, n_432, n_600, n_900, n_999, n_1000, n_1291, n_1399, n_2798, n_11192, n_65536, n_65537, n_99999999, n_1000000]
        rw [h1, sbd_t, h3, sbd_t]
        exact v1
      · unfold f_X11_throwsUntil
        simp only [n_0, n_1, n_2, n_3, n_4, n_5, n_6, n_7, n_8, n_9, n_10, n_12, n_13, n_15, n_20, n_24, n_27, n_31, n_32, n_33, n_36, n_44, n_48, n_50, n_57, n_58, n_59, n_72, n_74, n_75, n_85, n_91, n_96, n_97, n_99, n_122, n_255, n_300, n_432, n_600, n_900, n_999, n_1000, n_1291, n_1399, n_2798, n_11192, n_65536, n_65537, n_99999999, n_1000000]
        rw [h2, Option.bind_some, if_pos rfl, u2, Option.bind_some, h4, Option.bind_some, if_pos rfl, q_cl (by omega), e0]
        exact v2
    · exact Qr_2 (nI 0) (by simp (disch := omega) only [n_0, n_1, n_2, n_3, n_4, n_5, n_6, n_7, n_8, n_9, n_10, n_12, n_13, n_15, n_20, n_24, n_27, n_31, n_32, n_33, n_36, n_44, n_48, n_50, n_57, n_58, n_59, n_72, n_74, n_75, n_85, n_91, n_96, n_97, n_99, n_122, n_255, n_300, n_432, n_600, n_900, n_999, n_1000, n_1291, n_1399, n_2798, n_11192, n_65536, n_65537, n_99999999, n_1000000, nI_add, pk_mul, q_le, q_lt, q_eq, q_cl, q_gi, q_gz, q_sub, q_div, q_dm, d_dm, q_m1, q_mn, q_nm, q_mlt, q_ltm, q_mle, q_lem, q_mm, Option.bind_some, if_true, if_false, Nat.add_zero, ite_self, q_us, q_un, decide_true, decide_false, Bool.false_eq_true, eq_self, and_self, and_true, true_and, and_false, false_and, or_true, true_or, or_false, false_or, d_ltT, d_ltF, d_leT, d_leF, d_eqT, d_eqF, f_X10_throwsUntil, h1, sbd_t, h3, sbd_f]) (by simp (disch := omega) only [n_0, n_1, n_2, n_3, n_4, n_5, n_6, n_7, n_8, n_9, n_10, n_12, n_13, n_15, n_20, n_24, n_27, n_31, n_32, n_33, n_36, n_44, n_48, n_50, n_57, n_58, n_59, n_72, n_74, n_75, n_85, n_91, n_96, n_97, n_99, n_122, n_255, n_300, n_432, n_600, n_900, n_999, n_1000, n_1291, n_1399, n_2798, n_11192, n_65536, n_65537, n_99999999, n_1000000, nI_add, pk_mul, q_le, q_lt, q_eq, q_cl, q_gi, q_gz, q_sub, q_div, q_dm, d_dm, q_m1, q_mn, q_nm, q_mlt, q_ltm, q_mle, q_lem, q_mm, Option.bind_some, if_true, if_false, Nat.add_zero, ite_self, q_us, q_un, decide_true, decide_false, Bool.false_eq_true, eq_self, and_self, and_true, true_and, and_false, false_and, or_true, true_or, or_false, false_or, d_ltT, d_ltF, d_leT, d_leF, d_eqT, d_eqF, f_X11_throwsUntil, h2, u2, h4])
  · exact Qr_1 (nI 0) (by simp (disch := omega) only [n_0, n_1, n_2, n_3, n_4, n_5, n_6, n_7, n_8, n_9, n_10, n_12, n_13, n_15, n_20, n_24, n_27, n_31, n_32, n_33, n_36, n_44, n_48, n_50, n_57, n_58, n_59, n_72, n_74, n_75, n_85, n_91, n_96, n_97, n_99, n_122, n_255, n_300, n_432, n_600, n_900, n_999, n_1000, n_1291, n_1399, n_2798, n_11192, n_65536, n_65537, n_99999999, n_1000000, nI_add, pk_mul, q_le, q_lt, q_eq, q_cl, q_gi, q_gz, q_sub, q_div, q_dm, d_dm, q_m1, q_mn, q_nm, q_mlt, q_ltm, q_mle, q_lem, q_mm, Option.bind_some, if_true, if_false, Nat.add_zero, ite_self, q_us, q_un, decide_true, decide_false, Bool.false_eq_true, eq_self, and_self, and_true, true_and, and_false, false_and, or_true, true_or, or_false, false_or, d_ltT, d_ltF, d_leT, d_leF, d_eqT, d_eqF, f_X10_throwsUntil, h1, sbd_f]) (by simp (disch := omega) only [n_0, n_1, n_2, n_3, n_4, n_5, n_6, n_7, n_8, n_9, n_10, n_12, n_13, n_15, n_20, n_24, n_27, n_31, n_32, n_33, n_36, n_44, n_48, n_50, n_57, n_58, n_59, n_72, n_74, n_75, n_85, n_91, n_96, n_97, n_99, n_122, n_255, n_300, n_432, n_600, n_900, n_999, n_1000, n_1291, n_1399, n_2798, n_11192, n_65536, n_65537, n_99999999, n_1000000, nI_add, pk_mul, q_le, q_lt, q_eq, q_cl, q_gi, q_gz, q_sub, q_div, q_dm, d_dm, q_m1, q_mn, q_nm, q_mlt, q_ltm, q_mle, q_lem, q_mm, Option.bind_some, if_true, if_false, Nat.add_zero, ite_self, q_us, q_un, decide_true, decide_false, Bool.false_eq_true, eq_self, and_self, and_true, true_and, and_false, false_and, or_true, true_or, or_false, false_or, d_ltT, d_ltF, d_leT, d_leF, d_eqT, d_eqF, f_X11_throwsUntil, h2])
theorem m_countT {N : Nat} {g : Nat → Nat} {m o : Nat → Int32} {c : Nat → Nat} {d s k S : Nat} (hN : 1000 < N) (hB : okB g) (hD : okD g) (hM : MR m g) (hd : d < g 3) (hs : s ≤ 65536) (ho : ∀ f, f < 12 → o (f + 1) = nI (gCn g d s c k f)) : ∃ o', f_X11_countThrow N m (nI (S + k)) o (nI d) (nI (gSd s k)) = some (nI (gSd s (k + 1)), nI (S + (k + 1)), o') ∧ ∀ f, f < 12 → o' (f + 1) = nI (gCn g d s c (k + 1) f) := by
  have hk := gSd_le (k := k) hs
  have hn := gNx_le (gSd s k)
  have hsh := gShow_s (s := gNx (gSd s k)) hD hd
  have h12 := (hD d hd).2.1
  have hfi := ho (gShow g d (gNx (gSd s k)) - 1) (by omega)
  rw [show gShow g d (gNx (gSd s k)) - 1 + 1 = gShow g d (gNx (gSd s k)) by omega] at hfi
  have u1 := m_nextSeed hk
  have u2 := m_faceBy hN hM hB hD hd hn
  refine ⟨upd o (gShow g d (gNx (gSd s k))) (nI (gCn g d s c k (gShow g d (gNx (gSd s k)) - 1) + 1)), ?_, fun f hf2 => ?_⟩
  · simp (disch := omega) only [n_0, n_1, n_2, n_3, n_4, n_5, n_6, n_7, n_8, n_9, n_10, n_12, n_13, n_15, n_20, n_24, n_27, n_31, n_32, n_33, n_36, n_44, n_48, n_50, n_57, n_58, n_59, n_72, n_74, n_75, n_85, n_91, n_96, n_97, n_99, n_122, n_255, n_300, n_432, n_600, n_900, n_999, n_1000, n_1291, n_1399, n_2798, n_11192, n_65536, n_65537, n_99999999, n_1000000, nI_add, pk_mul, q_le, q_lt, q_eq, q_cl, q_gi, q_gz, q_sub, q_div, q_dm, d_dm, q_m1, q_mn, q_nm, q_mlt, q_ltm, q_mle, q_lem, q_mm, Option.bind_some, if_true, if_false, Nat.add_zero, ite_self, q_us, q_un, decide_true, decide_false, Bool.false_eq_true, eq_self, and_self, and_true, true_and, and_false, false_and, or_true, true_or, or_false, false_or, d_ltT, d_ltF, d_leT, d_leF, d_eqT, d_eqF, f_X11_countThrow, u1, u2, hfi]
    rfl
  · have e : gCn g d s c (k + 1) f = gCn g d s c k f + if gShow g d (gNx (gSd s k)) = f + 1 then 1 else 0 := rfl
    rw [e]
    by_cases h : gShow g d (gNx (gSd s k)) = f + 1
    · rw [h, q_us rfl, if_pos rfl, Nat.add_sub_cancel]
    · rw [q_un (by omega), if_neg h, Nat.add_zero]
      exact ho f hf2
theorem gCn_bd {g : Nat → Nat} {d s : Nat} {c : Nat → Nat} (hB : okB g) (hD : okD g) (hd : d < g 3) (h : sumTo (dF g d) c ≤ 300) {k : Nat} (hk : k ≤ 50) : ∀ t, t < dF g d → gCn g d s c k t ≤ 350 := fun t ht => by
  have h1 := gCn_sum (s := s) (c := c) hB hD hd k (dF g d) (by omega)
  have h2 := sumTo_ge (f := gCn g d s c k) ht
  omega
theorem e_afterSL {N : Nat} {g : Nat → Nat} {fc dw fr : Nat → Int32} {sd dc pc : Int32} {c : Nat → Nat} {d s n : Nat} (hN : 1000 < N) (hB : okB g) (hD : okD g) (hR : DR g fc dw) (hd : d < g 3) (hs : s ≤ 65536) (hn : n ≤ 50) (hc : sumTo (dF g d) c ≤ 300) : ∀ (k i j : Nat) (ff : Nat → Int32), i + k = n → k < j → (∀ f, f < 12 → ff f = nI (gCn g d s c i f)) → ∃ r, f_X10_scoreAfter_L29 N sd dc fc dw pc fr j (nI n) (nI i) (nI d) (nI (gSd s i)) ff = some (.inr (nI (gTest (gCn g d s c n) (sumTo (dF g d) c + n) (dF g d)), r)) := by
  intro k
  induction k with
  | zero =>
    intro i j ff h1 h2 h3
    obtain ⟨j, rfl⟩ : ∃ t, j = t + 1 := ⟨j - 1, by omega⟩
    have e : i = n := by omega
    subst e
    have hsm := gCn_sum (s := s) (c := c) hB hD hd i (dF g d) (by omega)
    have u1 := e_fscore hN hB hD hR hd (by omega) h3
    rw [hsm] at u1
    refine ⟨(nI d, nI (gSd s i), ff), ?_⟩
    simp (disch := omega) only [n_0, n_1, n_2, n_3, n_4, n_5, n_6, n_7, n_8, n_9, n_10, n_12, n_13, n_15, n_20, n_24, n_27, n_31, n_32, n_33, n_36, n_44, n_48, n_50, n_57, n_58, n_59, n_72, n_74, n_75, n_85, n_91, n_96, n_97, n_99, n_122, n_255, n_300, n_432, n_600, n_900, n_999, n_1000, n_1291, n_1399, n_2798, n_11192, n_65536, n_65537, n_99999999, n_1000000, nI_add, pk_mul, q_le, q_lt, q_eq, q_cl, q_gi, q_gz, q_sub, q_div, q_dm, d_dm, q_m1, q_mn, q_nm, q_mlt, q_ltm, q_mle, q_lem, q_mm, Option.bind_some, if_true, if_false, Nat.add_zero, ite_self, q_us, q_un, decide_true, decide_false, Bool.false_eq_true, eq_self, and_self, and_true, true_and, and_false, false_and, or_true, true_or, or_false, false_or, d_ltT, d_ltF, d_leT, d_leF, d_eqT, d_eqF, f_X10_scoreAfter_L29, f_X10_scoreAfter_L29_F, u1]
  | succ k ih =>
    intro i j ff h1 h2 h3
    obtain ⟨j, rfl⟩ : ∃ t, j = t + 1 := ⟨j - 1, by omega⟩
    obtain ⟨ff', u1, u2⟩ := e_fthrow hN hB hD hR hd hs h3
    obtain ⟨r, hi⟩ := ih (i + 1) j ff' (by omega) (by omega) u2
    refine ⟨r, ?_⟩
    simp (disch := omega) only [n_0, n_1, n_2, n_3, n_4, n_5, n_6, n_7, n_8, n_9, n_10, n_12, n_13, n_15, n_20, n_24, n_27, n_31, n_32, n_33, n_36, n_44, n_48, n_50, n_57, n_58, n_59, n_72, n_74, n_75, n_85, n_91, n_96, n_97, n_99, n_122, n_255, n_300, n_432, n_600, n_900, n_999, n_1000, n_1291, n_1399, n_2798, n_11192, n_65536, n_65537, n_99999999, n_1000000, nI_add, pk_mul, q_le, q_lt, q_eq, q_cl, q_gi, q_gz, q_sub, q_div, q_dm, d_dm, q_m1, q_mn, q_nm, q_mlt, q_ltm, q_mle, q_lem, q_mm, Option.bind_some, if_true, if_false, Nat.add_zero, ite_self, q_us, q_un, decide_true, decide_false, Bool.false_eq_true, eq_self, and_self, and_true, true_and, and_false, false_and, or_true, true_or, or_false, false_or, d_ltT, d_ltF, d_leT, d_leF, d_eqT, d_eqF, f_X10_scoreAfter_L29, f_X10_scoreAfter_L29_F, u1]
    exact hi
theorem m_afterSL {N : Nat} {g : Nat → Nat} {m : Nat → Int32} {mt : Int32} {c : Nat → Nat} {d s n S : Nat} (hN : 1000 < N) (hB : okB g) (hD : okD g) (hM : MR m g) (hd : d < g 3) (hs : s ≤ 65536) (hn : n ≤ 50) (hS : sumTo (dF g d) c = S) (hc : S ≤ 300) : ∀ (k i j : Nat) (o : Nat → Int32), i + k = n → k < j → (∀ f, f < 12 → o (f + 1) = nI (gCn g d s c i f)) → ∃ r, f_X11_scoreAfter_L43 N m j (nI d) (nI n) (nI (gSd s i)) (nI i) mt (nI (S + i)) o = some (nI (gTest (gCn g d s c n) (S + n) (dF g d)), mt, r) := by
  have b3 := b_3 hB
  have hf := hD d hd
  have u0 := m_faces hM (d := d) (by omega)
  intro k
  induction k with
  | zero =>
    intro i j o h1 h2 h3
    obtain ⟨j, rfl⟩ : ∃ t, j = t + 1 := ⟨j - 1, by omega⟩
    have e : i = n := by omega
    subst e
    have u1 := m_score (N := N) (S := S + i) (k := dF g d) hN (by omega) (by omega) (by omega) (gCn_bd hB hD hd (by omega) hn) h3
    refine ⟨(nI (S + i), o), ?_⟩
    simp (disch := omega) only [n_0, n_1, n_2, n_3, n_4, n_5, n_6, n_7, n_8, n_9, n_10, n_12, n_13, n_15, n_20, n_24, n_27, n_31, n_32, n_33, n_36, n_44, n_48, n_50, n_57, n_58, n_59, n_72, n_74, n_75, n_85, n_91, n_96, n_97, n_99, n_122, n_255, n_300, n_432, n_600, n_900, n_999, n_1000, n_1291, n_1399, n_2798, n_11192, n_65536, n_65537, n_99999999, n_1000000, nI_add, pk_mul, q_le, q_lt, q_eq, q_cl, q_gi, q_gz, q_sub, q_div, q_dm, d_dm, q_m1, q_mn, q_nm, q_mlt, q_ltm, q_mle, q_lem, q_mm, Option.bind_some, if_true, if_false, Nat.add_zero, ite_self, q_us, q_un, decide_true, decide_false, Bool.false_eq_true, eq_self, and_self, and_true, true_and, and_false, false_and, or_true, true_or, or_false, false_or, d_ltT, d_ltF, d_leT, d_leF, d_eqT, d_eqF, f_X11_scoreAfter_L43, f_X11_scoreAfter_L43_F, u0, u1]
  | succ k ih =>
    intro i j o h1 h2 h3
    obtain ⟨j, rfl⟩ : ∃ t, j = t + 1 := ⟨j - 1, by omega⟩
    obtain ⟨o', u1, u2⟩ := m_countT (S := S) hN hB hD hM hd hs h3
    obtain ⟨r, hi⟩ := ih (i + 1) j o' (by omega) (by omega) u2
    refine ⟨r, ?_⟩
    simp (disch := omega) only [n_0, n_1, n_2, n_3, n_4, n_5, n_6, n_7, n_8, n_9, n_10, n_12, n_13, n_15, n_20, n_24, n_27, n_31, n_32, n_33, n_36, n_44, n_48, n_50, n_57, n_58, n_59, n_72, n_74, n_75, n_85, n_91, n_96, n_97, n_99, n_122, n_255, n_300, n_432, n_600, n_900, n_999, n_1000, n_1291, n_1399, n_2798, n_11192, n_65536, n_65537, n_99999999, n_1000000, nI_add, pk_mul, q_le, q_lt, q_eq, q_cl, q_gi, q_gz, q_sub, q_div, q_dm, d_dm, q_m1, q_mn, q_nm, q_mlt, q_ltm, q_mle, q_lem, q_mm, Option.bind_some, if_true, if_false, Nat.add_zero, ite_self, q_us, q_un, decide_true, decide_false, Bool.false_eq_true, eq_self, and_self, and_true, true_and, and_false, false_and, or_true, true_or, or_false, false_or, d_ltT, d_ltF, d_leT, d_leF, d_eqT, d_eqF, f_X11_scoreAfter_L43, f_X11_scoreAfter_L43_F, u1]
    exact hi
/-- a forecast's answer: the class's and the model's -/
def Qf {σ ρ : Type} (C2 : String) (o : Option (String ⊕ (Int32 × σ))) (m : Option (Int32 × Int32 × ρ)) : Prop := (∃ v r r', o = some (.inr (v, r')) ∧ m = some (v, nI 0, r)) ∨ (∃ y r, o = some (.inl "java/lang/IndexOutOfBoundsException") ∧ m = some (y, nI 1, r)) ∨ ∃ y r, C2 ≠ "" ∧ o = some (.inl C2) ∧ m = some (y, nI 2, r)
theorem k_scoreAfter {N : Nat} {g : Nat → Nat} {fc dw fr m o ff : Nat → Int32} {a fd fs : Int32} (hN : 1000 < N) (hB : okB g) (hD : okD g) (hT : okT g) (hR : DR g fc dw) (hF : FR g fr) (hM : MR m g) (x y z mt : Int32) : Qf "java/lang/IllegalArgumentException" (f_X10_scoreAfter N (nI (g 0)) (nI (g 3)) fc dw (nI (g 4)) fr fd fs ff x y z) (f_X11_scoreAfter N m mt a o x y z) := by
  have e0 : m 0 = nI (g 0) := hM 0 (by omega)
  have b0 := hB.1
  have b3 := b_3 hB
  have b4 := b_4 hB
  rcases pr_cs hB hM x y with ⟨p, d, hp, hd, rfl, rfl, h1, h2⟩ | ⟨h1, h2⟩
  · rcases rg_cs z (lo := 0) (hi := 50) (by omega) (by omega) with ⟨n, h3, h4, rfl⟩ | h
    · have u1 := cr_t h3 h4 (by omega)
      have u2 := mo_t h3 h4 (by omega)
      obtain ⟨ff', u3, u4⟩ := e_fbegin (N := N) (sd := nI (g 0)) (fd := fd) (fs := fs) (ff := ff) (p := p) (d := d) hN hF (by omega) (by omega)
      obtain ⟨o', u5, u6⟩ := m_count (a := a) (o := o) (p := p) (d := d) hN hM hB hD hT (by omega) (by omega)
      have hsm := cQ_faces (p := p) hB hT hd
      have hle := cQ_le hB (6 * p + d)
      obtain ⟨r', u7⟩ := e_afterSL (N := N) (sd := nI (g 0)) (dc := nI (g 3)) (pc := nI (g 4)) (fr := fr) (c := cF g (6 * p + d)) hN hB hD hR hd b0 h4 (by omega) n 0 N ff' (by omega) (by omega) u4
      obtain ⟨r, u8⟩ := m_afterSL (N := N) (mt := nI 0) (c := cF g (6 * p + d)) (S := cQ g (6 * p + d)) hN hB hD hM hd b0 h4 hsm hle n 0 N o' (by omega) (by omega) u6
      rw [hsm] at u7
      refine Or.inl ⟨nI (gTest (gCn g d (g 0) (cF g (6 * p + d)) n) (cQ g (6 * p + d) + n) (dF g d)), r, r', ?_, ?_⟩
      · unfold f_X10_scoreAfter
        simp only [n_0, n_1, n_2, n_3, n_4, n_5, n_6, n_7, n_8, n_9, n_10, n_12, n_13, n_15, n_20, n_24, n_27, n_31, n_32, n_33, n_36, n_44, n_48, n_50, n_57, n_58, n_59, n_72, n_74, n_75, n_85, n_91, n_96, n_97, n_99, n_122, n_255, n_300, n_432, n_600, n_900, n_999, n_1000, n_1291, n_1399, n_2798, n_11192, n_65536, n_65537, n_99999999, n_1000000]
        rw [h1, sbd_t, u1, sbd_t, u3, Option.bind_some]
        exact u7
      · unfold f_X11_scoreAfter
        simp only [n_0, n_1, n_2, n_3, n_4, n_5, n_6, n_7, n_8, n_9, n_10, n_12, n_13, n_15, n_20, n_24, n_27, n_31, n_32, n_33, n_36, n_44, n_48, n_50, n_57, n_58, n_59, n_72, n_74, n_75, n_85, n_91, n_96, n_97, n_99, n_122, n_255, n_300, n_432, n_600, n_900, n_999, n_1000, n_1291, n_1399, n_2798, n_11192, n_65536, n_65537, n_99999999, n_1000000]
        rw [h2, Option.bind_some, if_pos rfl, u2, Option.bind_some, if_pos rfl, u5, Option.bind_some, q_cl (by omega), e0]
        exact u8
    · have u1 := cr_f h
      have u2 := mo_f h
      exact Or.inr (Or.inr ⟨nI 0, (a, o), by decide, by simp (disch := omega) only [n_0, n_1, n_2, n_3, n_4, n_5, n_6, n_7, n_8, n_9, n_10, n_12, n_13, n_15, n_20, n_24, n_27, n_31, n_32, n_33, n_36, n_44, n_48, n_50, n_57, n_58, n_59, n_72, n_74, n_75, n_85, n_91, n_96, n_97, n_99, n_122, n_255, n_300, n_432, n_600, n_900, n_999, n_1000, n_1291, n_1399, n_2798, n_11192, n_65536, n_65537, n_99999999, n_1000000, nI_add, pk_mul, q_le, q_lt, q_eq, q_cl, q_gi, q_gz, q_sub, q_div, q_dm, d_dm, q_m1, q_mn, q_nm, q_mlt, q_ltm, q_mle, q_lem, q_mm, Option.bind_some, if_true, if_false, Nat.add_zero, ite_self, q_us, q_un, decide_true, decide_false, Bool.false_eq_true, eq_self, and_self, and_true, true_and, and_false, false_and, or_true, true_or, or_false, false_or, d_ltT, d_ltF, d_leT, d_leF, d_eqT, d_eqF, f_X10_scoreAfter, h1, sbd_t, u1, sbd_f], by simp (disch := omega) only [n_0, n_1, n_2, n_3, n_4, n_5, n_6, n_7, n_8, n_9, n_10, n_12, n_13, n_15, n_20, n_24, n_27, n_31, n_32, n_33, n_36, n_44, n_48, n_50, n_57, n_58, n_59, n_72, n_74, n_75, n_85, n_91, n_96, n_97, n_99, n_122, n_255, n_300, n_432, n_600, n_900, n_999, n_1000, n_1291, n_1399, n_2798, n_11192, n_65536, n_65537, n_99999999, n_1000000, nI_add, pk_mul, q_le, q_lt, q_eq, q_cl, q_gi, q_gz, q_sub, q_div, q_dm, d_dm, q_m1, q_mn, q_nm, q_mlt, q_ltm, q_mle, q_lem, q_mm, Option.bind_some, if_true, if_false, Nat.add_zero, ite_self, q_us, q_un, decide_true, decide_false, Bool.false_eq_true, eq_self, and_self, and_true, true_and, and_false, false_and, or_true, true_or, or_false, false_or, d_ltT, d_ltF, d_leT, d_leF, d_eqT, d_eqF, f_X11_scoreAfter, h2, u2]⟩)
  · exact Or.inr (Or.inl ⟨nI 0, (a, o), by simp (disch := omega) only [n_0, n_1, n_2, n_3, n_4, n_5, n_6, n_7, n_8, n_9, n_10, n_12, n_13, n_15, n_20, n_24, n_27, n_31, n_32, n_33, n_36, n_44, n_48, n_50, n_57, n_58, n_59, n_72, n_74, n_75, n_85, n_91, n_96, n_97, n_99, n_122, n_255, n_300, n_432, n_600, n_900, n_999, n_1000, n_1291, n_1399, n_2798, n_11192, n_65536, n_65537, n_99999999, n_1000000, nI_add, pk_mul, q_le, q_lt, q_eq, q_cl, q_gi, q_gz, q_sub, q_div, q_dm, d_dm, q_m1, q_mn, q_nm, q_mlt, q_ltm, q_mle, q_lem, q_mm, Option.bind_some, if_true, if_false, Nat.add_zero, ite_self, q_us, q_un, decide_true, decide_false, Bool.false_eq_true, eq_self, and_self, and_true, true_and, and_false, false_and, or_true, true_or, or_false, false_or, d_ltT, d_ltF, d_leT, d_leF, d_eqT, d_eqF, f_X10_scoreAfter, h1, sbd_f], by simp (disch := omega) only [n_0, n_1, n_2, n_3, n_4, n_5, n_6, n_7, n_8, n_9, n_10, n_12, n_13, n_15, n_20, n_24, n_27, n_31, n_32, n_33, n_36, n_44, n_48, n_50, n_57, n_58, n_59, n_72, n_74, n_75, n_85, n_91, n_96, n_97, n_99, n_122, n_255, n_300, n_432, n_600, n_900, n_999, n_1000, n_1291, n_1399, n_2798, n_11192, n_65536, n_65537, n_99999999, n_1000000, nI_add, pk_mul, q_le, q_lt, q_eq, q_cl, q_gi, q_gz, q_sub, q_div, q_dm, d_dm, q_m1, q_mn, q_nm, q_mlt, q_ltm, q_mle, q_lem, q_mm, Option.bind_some, if_true, if_false, Nat.add_zero, ite_self, q_us, q_un, decide_true, decide_false, Bool.false_eq_true, eq_self, and_self, and_true, true_and, and_false, false_and, or_true, true_or, or_false, false_or, d_ltT, d_ltF, d_leT, d_leF, d_eqT, d_eqF, f_X11_scoreAfter, h2]⟩)
theorem k_untilSL {N : Nat} {g : Nat → Nat} {fc dw fr m : Nat → Int32} {sd dc pc mt : Int32} {c : Nat → Nat} {d s S : Nat} (hN : 1000 < N) (hB : okB g) (hD : okD g) (hR : DR g fc dw) (hM : MR m g) (hd : d < g 3) (hs : s ≤ 65536) (hS : sumTo (dF g d) c = S) (hS2 : sumTo 12 c = S) (hc : S ≤ 300) : ∀ (k i j j' : Nat) (ff o : Nat → Int32), i + k = 51 → k < j → k < j' → (∀ f, f < 12 → ff f = nI (gCn g d s c i f)) → (∀ f, f < 12 → o (f + 1) = nI (gCn g d s c i f)) → ∃ v r r', f_X10_throwsUntilSuspicious_L21 N sd (nI (g 1)) (nI (g 2)) dc fc dw pc fr j (nI i) (nI d) (nI (gSd s i)) ff = some (.inr (v, r')) ∧ f_X11_throwsUntilSuspicious_L31 N m j' (nI d) (nI (gSd s i)) (nI i) mt (nI (S + i)) o = some (v, mt, r) := by
  have b1 := hB.2.2.1
  have b2 := hB.2.2.2.1
  have b3 := b_3 hB
  have hf := hD d hd
  have u0 := m_faces hM (d := d) (by omega)
  intro k
  induction k with
  | zero =>
    intro i j j' ff o h1 h2 h3 h4 h5
    obtain ⟨j, rfl⟩ : ∃ t, j = t + 1 := ⟨j - 1, by omega⟩
    obtain ⟨j', rfl⟩ : ∃ t, j' = t + 1 := ⟨j' - 1, by omega⟩
    have e : i = 51 := by omega
    subst e
    refine ⟨-nI 1, (nI (S + 51), o), (nI d, nI (gSd s 51), ff), ?_, ?_⟩
    · simp (disch := omega) only [n_0, n_1, n_2, n_3, n_4, n_5, n_6, n_7, n_8, n_9, n_10, n_12, n_13, n_15, n_20, n_24, n_27, n_31, n_32, n_33, n_36, n_44, n_48, n_50, n_57, n_58, n_59, n_72, n_74, n_75, n_85, n_91, n_96, n_97, n_99, n_122, n_255, n_300, n_432, n_600, n_900, n_999, n_1000, n_1291, n_1399, n_2798, n_11192, n_65536, n_65537, n_99999999, n_1000000, nI_add, pk_mul, q_le, q_lt, q_eq, q_cl, q_gi, q_gz, q_sub, q_div, q_dm, d_dm, q_m1, q_mn, q_nm, q_mlt, q_ltm, q_mle, q_lem, q_mm, Option.bind_some, if_true, if_false, Nat.add_zero, ite_self, q_us, q_un, decide_true, decide_false, Bool.false_eq_true, eq_self, and_self, and_true, true_and, and_false, false_and, or_true, true_or, or_false, false_or, d_ltT, d_ltF, d_leT, d_leF, d_eqT, d_eqF, f_X10_throwsUntilSuspicious_L21, f_X10_throwsUntilSuspicious_L21_F]
    · simp (disch := omega) only [n_0, n_1, n_2, n_3, n_4, n_5, n_6, n_7, n_8, n_9, n_10, n_12, n_13, n_15, n_20, n_24, n_27, n_31, n_32, n_33, n_36, n_44, n_48, n_50, n_57, n_58, n_59, n_72, n_74, n_75, n_85, n_91, n_96, n_97, n_99, n_122, n_255, n_300, n_432, n_600, n_900, n_999, n_1000, n_1291, n_1399, n_2798, n_11192, n_65536, n_65537, n_99999999, n_1000000, nI_add, pk_mul, q_le, q_lt, q_eq, q_cl, q_gi, q_gz, q_sub, q_div, q_dm, d_dm, q_m1, q_mn, q_nm, q_mlt, q_ltm, q_mle, q_lem, q_mm, Option.bind_some, if_true, if_false, Nat.add_zero, ite_self, q_us, q_un, decide_true, decide_false, Bool.false_eq_true, eq_self, and_self, and_true, true_and, and_false, false_and, or_true, true_or, or_false, false_or, d_ltT, d_ltF, d_leT, d_leF, d_eqT, d_eqF, f_X11_throwsUntilSuspicious_L31, f_X11_throwsUntilSuspicious_L31_F]
  | succ k ih =>
    intro i j j' ff o h1 h2 h3 h4 h5
    obtain ⟨j, rfl⟩ : ∃ t, j = t + 1 := ⟨j - 1, by omega⟩
    obtain ⟨j', rfl⟩ : ∃ t, j' = t + 1 := ⟨j' - 1, by omega⟩
    have hsm := gCn_sum (s := s) (c := c) hB hD hd i (dF g d) (by omega)
    have hsm2 := gCn_sum (s := s) (c := c) hB hD hd i 12 (by omega)
    have hbd := gCn_bd (s := s) (c := c) hB hD hd (by omega) (k := i) (by omega)
    have u1 := e_fscore hN hB hD hR hd (by omega) h4
    rw [hsm, hS] at u1
    have u2 := e_fmade (N := N) hN h4
    rw [hsm2, hS2] at u2
    have ht := (gTest_bd (k := dF g d) (S := S + i) (g := gCn g d s c i) (by omega) (by omega) hbd).1
    have hl : gTest (gCn g d s c i) (S + i) (dF g d) < 214000000 := by
      unfold gTest
      split
      · omega
      · exact Nat.lt_of_le_of_lt (Nat.div_le_self _ _) ht
    have u3 := e_exceeds (m := g 1) (t := g 2) (a := S + i) (b := gTest (gCn g d s c i) (S + i) (dF g d)) (by omega) (by omega) (by omega) (by omega)
    have u4 := m_isBad (N := N) (S := S + i) (k := dF g d) (c := gCn g d s c i) hN hM hB (by omega) (by omega) (by omega) hbd h5
    cases hq : decide (g 1 ≤ S + i ∧ g 2 < gTest (gCn g d s c i) (S + i) (dF g d))
    · rw [hq] at u3 u4
      obtain ⟨ff', u5, u6⟩ := e_fthrow hN hB hD hR hd hs h4
      obtain ⟨o', u7, u8⟩ := m_countT (S := S) hN hB hD hM hd hs h5
      obtain ⟨v, r, r', v1, v2⟩ := ih (i + 1) j j' ff' o' (by omega) (by omega) (by omega) u6 u8
      refine ⟨v, r, r', ?_, ?_⟩
      · simp (disch := omega) only [n_0, n_1, n_2, n_3, n_4, n_5, n_6, n_7, n_8, n_9, n_10, n_12, n_13, n_15, n_20, n_24, n_27, n_31, n_32, n_33, n_36, n_44, n_48, n_50, n_57, n_58, n_59, n_72, n_74, n_75, n_85, n_91, n_96, n_97, n_99, n_122, n_255, n_300, n_432, n_600, n_900, n_999, n_1000, n_1291, n_1399, n_2798, n_11192, n_65536, n_65537, n_99999999, n_1000000, nI_add, pk_mul, q_le, q_lt, q_eq, q_cl, q_gi, q_gz, q_sub, q_div, q_dm, d_dm, q_m1, q_mn, q_nm, q_mlt, q_ltm, q_mle, q_lem, q_mm, Option.bind_some, if_true, if_false, Nat.add_zero, ite_self, q_us, q_un, decide_true, decide_false, Bool.false_eq_true, eq_self, and_self, and_true, true_and, and_false, false_and, or_true, true_or, or_false, false_or, d_ltT, d_ltF, d_leT, d_leF, d_eqT, d_eqF, f_X10_throwsUntilSuspicious_L21, f_X10_throwsUntilSuspicious_L21_F, u1, u2, u3, q_b0, u5]
        exact v1
      · simp (disch := omega) only [n_0, n_1, n_2, n_3, n_4, n_5, n_6, n_7, n_8, n_9, n_10, n_12, n_13, n_15, n_20, n_24, n_27, n_31, n_32, n_33, n_36, n_44, n_48, n_50, n_57, n_58, n_59, n_72, n_74, n_75, n_85, n_91, n_96, n_97, n_99, n_122, n_255, n_300, n_432, n_600, n_900, n_999, n_1000, n_1291, n_1399, n_2798, n_11192, n_65536, n_65537, n_99999999, n_1000000, nI_add, pk_mul, q_le, q_lt, q_eq, q_cl, q_gi, q_gz, q_sub, q_div, q_dm, d_dm, q_m1, q_mn, q_nm, q_mlt, q_ltm, q_mle, q_lem, q_mm, Option.bind_some, if_true, if_false, Nat.add_zero, ite_self, q_us, q_un, decide_true, decide_false, Bool.false_eq_true, eq_self, and_self, and_true, true_and, and_false, false_and, or_true, true_or, or_false, false_or, d_ltT, d_ltF, d_leT, d_leF, d_eqT, d_eqF, f_X11_throwsUntilSuspicious_L31, f_X11_throwsUntilSuspicious_L31_F, u0, u4, q_b0, u7]
        exact v2
    · rw [hq] at u3 u4
      refine ⟨nI i, (nI (S + i), o), (nI d, nI (gSd s i), ff), ?_, ?_⟩
      · simp (disch := omega) only [n_0, n_1, n_2, n_3, n_4, n_5, n_6, n_7, n_8, n_9, n_10, n_12, n_13, n_15, n_20, n_24, n_27, n_31, n_32, n_33, n_36, n_44, n_48, n_50, n_57, n_58, n_59, n_72, n_74, n_75, n_85, n_91, n_96, n_97, n_99, n_122, n_255, n_300, n_432, n_600, n_900, n_999, n_1000, n_1291, n_1399, n_2798, n_11192, n_65536, n_65537, n_99999999, n_1000000, nI_add, pk_mul, q_le, q_lt, q_eq, q_cl, q_gi, q_gz, q_sub, q_div, q_dm, d_dm, q_m1, q_mn, q_nm, q_mlt, q_ltm, q_mle, q_lem, q_mm, Option.bind_some, if_true, if_false, Nat.add_zero, ite_self, q_us, q_un, decide_true, decide_false, Bool.false_eq_true, eq_self, and_self, and_true, true_and, and_false, false_and, or_true, true_or, or_false, false_or, d_ltT, d_ltF, d_leT, d_leF, d_eqT, d_eqF, f_X10_throwsUntilSuspicious_L21, f_X10_throwsUntilSuspicious_L21_F, u1, u2, u3, q_b0, Bool.true_eq_false]
      · simp (disch := omega) only [n_0, n_1, n_2, n_3, n_4, n_5, n_6, n_7, n_8, n_9, n_10, n_12, n_13, n_15, n_20, n_24, n_27, n_31, n_32, n_33, n_36, n_44, n_48, n_50, n_57, n_58, n_59, n_72, n_74, n_75, n_85, n_91, n_96, n_97, n_99, n_122, n_255, n_300, n_432, n_600, n_900, n_999, n_1000, n_1291, n_1399, n_2798, n_11192, n_65536, n_65537, n_99999999, n_1000000, nI_add, pk_mul, q_le, q_lt, q_eq, q_cl, q_gi, q_gz, q_sub, q_div, q_dm, d_dm, q_m1, q_mn, q_nm, q_mlt, q_ltm, q_mle, q_lem, q_mm, Option.bind_some, if_true, if_false, Nat.add_zero, ite_self, q_us, q_un, decide_true, decide_false, Bool.false_eq_true, eq_self, and_self, and_true, true_and, and_false, false_and, or_true, true_or, or_false, false_or, d_ltT, d_ltF, d_leT, d_leF, d_eqT, d_eqF, f_X11_throwsUntilSuspicious_L31, f_X11_throwsUntilSuspicious_L31_F, u0, u4, q_b0, Bool.true_eq_false]
theorem k_untilS {N : Nat} {g : Nat → Nat} {fc dw fr m o ff : Nat → Int32} {a fd fs : Int32} (hN : 1000 < N) (hB : okB g) (hD : okD g) (hT : okT g) (hR : DR g fc dw) (hF : FR g fr) (hM : MR m g) (x y mt : Int32) : Qf "" (f_X10_throwsUntilSuspicious N (nI (g 0)) (nI (g 1)) (nI (g 2)) (nI (g 3)) fc dw (nI (g 4)) fr fd fs ff x y) (f_X11_throwsUntilSuspicious N m mt a o x y) := by
  have e0 : m 0 = nI (g 0) := hM 0 (by omega)
  have b0 := hB.1
  have b3 := b_3 hB
  have b4 := b_4 hB
  rcases pr_cs hB hM x y with ⟨p, d, hp, hd, rfl, rfl, h1, h2⟩ | ⟨h1, h2⟩
  · obtain ⟨ff', u3, u4⟩ := e_fbegin (N := N) (sd := nI (g 0)) (fd := fd) (fs := fs) (ff := ff) (p := p) (d := d) hN hF (by omega) (by omega)
    obtain ⟨o', u5, u6⟩ := m_count (a := a) (o := o) (p := p) (d := d) hN hM hB hD hT (by omega) (by omega)
    have hsm := cQ_faces (p := p) hB hT hd
    have hle := cQ_le hB (6 * p + d)
    have hs12 := cQ_of hB hD hT (6 * p + d)
    obtain ⟨v, r, r', u7, u8⟩ := k_untilSL (N := N) (sd := nI (g 0)) (dc := nI (g 3)) (pc := nI (g 4)) (fr := fr) (mt := nI 0) (c := cF g (6 * p + d)) hN hB hD hR hM hd b0 hsm hs12 hle 51 0 N N ff' o' (by omega) (by omega) (by omega) u4 u6
    refine Or.inl ⟨v, r, r', ?_, ?_⟩
    · unfold f_X10_throwsUntilSuspicious
      simp only [n_0, n_1, n_2, n_3, n_4, n_5, n_6, n_7, n_8, n_9, n_10, n_12, n_13, n_15, n_20, n_24, n_27, n_31, n_32, n_33, n_36, n_44, n_48, n_50, n_57, n_58, n_59, n_72, n_74, n_75, n_85, n_91, n_96, n_97, n_99, n_122, n_255, n_300, n_432, n_600, n_900, n_999, n_1000, n_1291, n_1399, n_2798, n_11192, n_65536, n_65537, n_99999999, n_1000000]
      rw [h1, sbd_t, u3, Option.bind_some]
      exact u7
    · unfold f_X11_throwsUntilSuspicious
      simp only [n_0, n_1, n_2, n_3, n_4, n_5, n_6, n_7, n_8, n_9, n_10, n_12, n_13, n_15, n_20, n_24, n_27, n_31, n_32, n_33, n_36, n_44, n_48, n_50, n_57, n_58, n_59, n_72, n_74, n_75, n_85, n_91, n_96, n_97, n_99, n_122, n_255, n_300, n_432, n_600, n_900, n_999, n_1000, n_1291, n_1399, n_2798, n_11192, n_65536, n_65537, n_99999999, n_1000000]
      rw [h2, Option.bind_some, if_pos rfl, u5, Option.bind_some, q_cl (by omega), e0]
      exact u8
  · exact Or.inr (Or.inl ⟨nI 0, (a, o), by simp (disch := omega) only [n_0, n_1, n_2, n_3, n_4, n_5, n_6, n_7, n_8, n_9, n_10, n_12, n_13, n_15, n_20, n_24, n_27, n_31, n_32, n_33, n_36, n_44, n_48, n_50, n_57, n_58, n_59, n_72, n_74, n_75, n_85, n_91, n_96, n_97, n_99, n_122, n_255, n_300, n_432, n_600, n_900, n_999, n_1000, n_1291, n_1399, n_2798, n_11192, n_65536, n_65537, n_99999999, n_1000000, nI_add, pk_mul, q_le, q_lt, q_eq, q_cl, q_gi, q_gz, q_sub, q_div, q_dm, d_dm, q_m1, q_mn, q_nm, q_mlt, q_ltm, q_mle, q_lem, q_mm, Option.bind_some, if_true, if_false, Nat.add_zero, ite_self, q_us, q_un, decide_true, decide_false, Bool.false_eq_true, eq_self, and_self, and_true, true_and, and_false, false_and, or_true, true_or, or_false, false_or, d_ltT, d_ltF, d_leT, d_leF, d_eqT, d_eqF, f_X10_throwsUntilSuspicious, h1, sbd_f], by simp (disch := omega) only [n_0, n_1, n_2, n_3, n_4, n_5, n_6, n_7, n_8, n_9, n_10, n_12, n_13, n_15, n_20, n_24, n_27, n_31, n_32, n_33, n_36, n_44, n_48, n_50, n_57, n_58, n_59, n_72, n_74, n_75, n_85, n_91, n_96, n_97, n_99, n_122, n_255, n_300, n_432, n_600, n_900, n_999, n_1000, n_1291, n_1399, n_2798, n_11192, n_65536, n_65537, n_99999999, n_1000000, nI_add, pk_mul, q_le, q_lt, q_eq, q_cl, q_gi, q_gz, q_sub, q_div, q_dm, d_dm, q_m1, q_mn, q_nm, q_mlt, q_ltm, q_mle, q_lem, q_mm, Option.bind_some, if_true, if_false, Nat.add_zero, ite_self, q_us, q_un, decide_true, decide_false, Bool.false_eq_true, eq_self, and_self, and_true, true_and, and_false, false_and, or_true, true_or, or_false, false_or, d_ltT, d_ltF, d_leT, d_leF, d_eqT, d_eqF, f_X11_throwsUntilSuspicious, h2]⟩)
