/-! the model's methods over a row -/
theorem MR_get {m : Nat → Int32} {g : Nat → Nat} (h : MR m g) {i j : Nat} (hi : i < 1399) (e : i = j) : m i = nI (g j) := by
  subst e
  exact h i hi
theorem m_faces {m : Nat → Int32} {g : Nat → Nat} {d : Nat} (h : MR m g) (hd : d < 6) : f_X11_facesOf 1399 m (nI d) = some (nI (dF g d)) := by
  simp (disch := omega) only [n_0, n_1, n_2, n_3, n_4, n_5, n_6, n_7, n_8, n_9, n_10, n_12, n_13, n_15, n_20, n_24, n_27, n_31, n_32, n_33, n_36, n_44, n_48, n_50, n_57, n_58, n_59, n_72, n_74, n_75, n_85, n_91, n_96, n_97, n_99, n_122, n_255, n_300, n_432, n_600, n_900, n_999, n_1000, n_1291, n_1399, n_2798, n_11192, n_65536, n_65537, n_99999999, n_1000000, nI_add, pk_mul, q_le, q_lt, q_eq, q_cl, q_gi, q_gz, q_sub, q_div, q_dm, d_dm, q_m1, q_mn, q_nm, q_mlt, q_ltm, q_mle, q_lem, q_mm, Option.bind_some, if_true, if_false, Nat.add_zero, ite_self, q_us, q_un, decide_true, decide_false, Bool.false_eq_true, eq_self, and_self, and_true, true_and, and_false, false_and, or_true, true_or, or_false, false_or, d_ltT, d_ltF, d_leT, d_leF, d_eqT, d_eqF, f_X11_facesOf, f_X11_ofDie, h (7 + 13 * d) (by omega)]
  rfl
theorem m_weight {m : Nat → Int32} {g : Nat → Nat} {d i : Nat} (h : MR m g) (hd : d < 6) (hi : i < 12) : f_X11_weight 1399 m (nI d) (nI (i + 1)) = some (nI (dW g d i)) := by
  simp (disch := omega) only [n_0, n_1, n_2, n_3, n_4, n_5, n_6, n_7, n_8, n_9, n_10, n_12, n_13, n_15, n_20, n_24, n_27, n_31, n_32, n_33, n_36, n_44, n_48, n_50, n_57, n_58, n_59, n_72, n_74, n_75, n_85, n_91, n_96, n_97, n_99, n_122, n_255, n_300, n_432, n_600, n_900, n_999, n_1000, n_1291, n_1399, n_2798, n_11192, n_65536, n_65537, n_99999999, n_1000000, nI_add, pk_mul, q_le, q_lt, q_eq, q_cl, q_gi, q_gz, q_sub, q_div, q_dm, d_dm, q_m1, q_mn, q_nm, q_mlt, q_ltm, q_mle, q_lem, q_mm, Option.bind_some, if_true, if_false, Nat.add_zero, ite_self, q_us, q_un, decide_true, decide_false, Bool.false_eq_true, eq_self, and_self, and_true, true_and, and_false, false_and, or_true, true_or, or_false, false_or, d_ltT, d_ltF, d_leT, d_leF, d_eqT, d_eqF, f_X11_weight, f_X11_ofDie]
  exact congrArg some (MR_get h (by omega) (by omega))
theorem m_weight1 {m : Nat → Int32} {g : Nat → Nat} {d : Nat} (h : MR m g) (hd : d < 6) : f_X11_weight 1399 m (nI d) (nI 1) = some (nI (dW g d 0)) := m_weight (i := 0) h hd (by omega)
theorem m_allWL {N : Nat} {m : Nat → Int32} {g : Nat → Nat} {d : Nat} (h : MR m g) (hd : d < 6) (hf : dF g d ≤ 12) : ∀ j i : Nat, i ≤ dF g d → dF g d < i + j → f_X11_allWeights_L4 N 1399 m j (nI d) (nI (sumTo i (dW g d))) (nI (i + 1)) = some (nI (dS g d)) := by
  intro j
  induction j with
  | zero => intro i h1 h2; omega
  | succ j ih =>
    intro i h1 h2
    by_cases hc : dF g d ≤ i
    · have e : i = dF g d := by omega
      subst e
      simp (disch := omega) only [n_0, n_1, n_2, n_3, n_4, n_5, n_6, n_7, n_8, n_9, n_10, n_12, n_13, n_15, n_20, n_24, n_27, n_31, n_32, n_33, n_36, n_44, n_48, n_50, n_57, n_58, n_59, n_72, n_74, n_75, n_85, n_91, n_96, n_97, n_99, n_122, n_255, n_300, n_432, n_600, n_900, n_999, n_1000, n_1291, n_1399, n_2798, n_11192, n_65536, n_65537, n_99999999, n_1000000, nI_add, pk_mul, q_le, q_lt, q_eq, q_cl, q_gi, q_gz, q_sub, q_div, q_dm, d_dm, q_m1, q_mn, q_nm, q_mlt, q_ltm, q_mle, q_lem, q_mm, Option.bind_some, if_true, if_false, Nat.add_zero, ite_self, q_us, q_un, decide_true, decide_false, Bool.false_eq_true, eq_self, and_self, and_true, true_and, and_false, false_and, or_true, true_or, or_false, false_or, d_ltT, d_ltF, d_leT, d_leF, d_eqT, d_eqF, f_X11_allWeights_L4, f_X11_allWeights_L4_F, m_faces h hd]
      rfl
    · simp (disch := omega) only [n_0, n_1, n_2, n_3, n_4, n_5, n_6, n_7, n_8, n_9, n_10, n_12, n_13, n_15, n_20, n_24, n_27, n_31, n_32, n_33, n_36, n_44, n_48, n_50, n_57, n_58, n_59, n_72, n_74, n_75, n_85, n_91, n_96, n_97, n_99, n_122, n_255, n_300, n_432, n_600, n_900, n_999, n_1000, n_1291, n_1399, n_2798, n_11192, n_65536, n_65537, n_99999999, n_1000000, nI_add, pk_mul, q_le, q_lt, q_eq, q_cl, q_gi, q_gz, q_sub, q_div, q_dm, d_dm, q_m1, q_mn, q_nm, q_mlt, q_ltm, q_mle, q_lem, q_mm, Option.bind_some, if_true, if_false, Nat.add_zero, ite_self, q_us, q_un, decide_true, decide_false, Bool.false_eq_true, eq_self, and_self, and_true, true_and, and_false, false_and, or_true, true_or, or_false, false_or, d_ltT, d_ltF, d_leT, d_leF, d_eqT, d_eqF, f_X11_allWeights_L4, f_X11_allWeights_L4_F, m_faces h hd, m_weight h hd (show i < 12 by omega)]
      exact ih (i + 1) (by omega) (by omega)
theorem m_allW {N : Nat} {m : Nat → Int32} {g : Nat → Nat} {d : Nat} (hN : 1000 < N) (h : MR m g) (hd : d < 6) (hf : dF g d ≤ 12) : f_X11_allWeights N 1399 m (nI d) = some (nI (dS g d)) := m_allWL h hd hf N 0 (by omega) (by omega)
theorem m_nextSeed {s : Nat} (h : s ≤ 65536) : f_X11_nextSeed (nI s) = some (nI (gNx s)) := by
  simp (disch := omega) only [n_0, n_1, n_2, n_3, n_4, n_5, n_6, n_7, n_8, n_9, n_10, n_12, n_13, n_15, n_20, n_24, n_27, n_31, n_32, n_33, n_36, n_44, n_48, n_50, n_57, n_58, n_59, n_72, n_74, n_75, n_85, n_91, n_96, n_97, n_99, n_122, n_255, n_300, n_432, n_600, n_900, n_999, n_1000, n_1291, n_1399, n_2798, n_11192, n_65536, n_65537, n_99999999, n_1000000, nI_add, pk_mul, q_le, q_lt, q_eq, q_cl, q_gi, q_gz, q_sub, q_div, q_dm, d_dm, q_m1, q_mn, q_nm, q_mlt, q_ltm, q_mle, q_lem, q_mm, Option.bind_some, if_true, if_false, Nat.add_zero, ite_self, q_us, q_un, decide_true, decide_false, Bool.false_eq_true, eq_self, and_self, and_true, true_and, and_false, false_and, or_true, true_or, or_false, false_or, d_ltT, d_ltF, d_leT, d_leF, d_eqT, d_eqF, f_X11_nextSeed]
  rfl
theorem m_faceByL {N : Nat} {m : Nat → Int32} {g : Nat → Nat} {d pick i0 : Nat} (h : MR m g) (hd : d < 6) (hf : dF g d ≤ 12) (hw : ∀ i, i < dF g d → dW g d i ≤ 9) (h0 : isF (dW g d) pick i0) (hi0 : i0 < dF g d) (hp : pick < 108) : ∀ k i j : Nat, i + k = i0 → k < j → f_X11_faceBy_L11 N 1399 m j (nI d) (nI (pick - sumTo i (dW g d))) (nI (i + 1)) = some (nI (i0 + 1)) := by
  intro k
  induction k with
  | zero =>
    intro i j h1 h2
    obtain ⟨j, rfl⟩ : ∃ t, j = t + 1 := ⟨j - 1, by omega⟩
    have e : i = i0 := by omega
    subst e
    have h5 := h0.1
    have h6 := h0.2
    have h7 := hw i hi0
    rw [sumTo_s] at h6
    simp (disch := omega) only [n_0, n_1, n_2, n_3, n_4, n_5, n_6, n_7, n_8, n_9, n_10, n_12, n_13, n_15, n_20, n_24, n_27, n_31, n_32, n_33, n_36, n_44, n_48, n_50, n_57, n_58, n_59, n_72, n_74, n_75, n_85, n_91, n_96, n_97, n_99, n_122, n_255, n_300, n_432, n_600, n_900, n_999, n_1000, n_1291, n_1399, n_2798, n_11192, n_65536, n_65537, n_99999999, n_1000000, nI_add, pk_mul, q_le, q_lt, q_eq, q_cl, q_gi, q_gz, q_sub, q_div, q_dm, d_dm, q_m1, q_mn, q_nm, q_mlt, q_ltm, q_mle, q_lem, q_mm, Option.bind_some, if_true, if_false, Nat.add_zero, ite_self, q_us, q_un, decide_true, decide_false, Bool.false_eq_true, eq_self, and_self, and_true, true_and, and_false, false_and, or_true, true_or, or_false, false_or, d_ltT, d_ltF, d_leT, d_leF, d_eqT, d_eqF, f_X11_faceBy_L11, f_X11_faceBy_L11_F, m_weight h hd (show i < 12 by omega)]
  | succ k ih =>
    intro i j h1 h2
    obtain ⟨j, rfl⟩ : ∃ t, j = t + 1 := ⟨j - 1, by omega⟩
    have h5 := sumTo_mono (f := dW g d) (show i + 1 ≤ i0 by omega)
    have h6 := h0.1
    have h7 := hw i (by omega)
    have hi := ih (i + 1) j (by omega) (by omega)
    rw [sumTo_s] at h5 hi
    simp (disch := omega) only [n_0, n_1, n_2, n_3, n_4, n_5, n_6, n_7, n_8, n_9, n_10, n_12, n_13, n_15, n_20, n_24, n_27, n_31, n_32, n_33, n_36, n_44, n_48, n_50, n_57, n_58, n_59, n_72, n_74, n_75, n_85, n_91, n_96, n_97, n_99, n_122, n_255, n_300, n_432, n_600, n_900, n_999, n_1000, n_1291, n_1399, n_2798, n_11192, n_65536, n_65537, n_99999999, n_1000000, nI_add, pk_mul, q_le, q_lt, q_eq, q_cl, q_gi, q_gz, q_sub, q_div, q_dm, d_dm, q_m1, q_mn, q_nm, q_mlt, q_ltm, q_mle, q_lem, q_mm, Option.bind_some, if_true, if_false, Nat.add_zero, ite_self, q_us, q_un, decide_true, decide_false, Bool.false_eq_true, eq_self, and_self, and_true, true_and, and_false, false_and, or_true, true_or, or_false, false_or, d_ltT, d_ltF, d_leT, d_leF, d_eqT, d_eqF, f_X11_faceBy_L11, f_X11_faceBy_L11_F, m_weight h hd (show i < 12 by omega)]
    rw [show pick - sumTo i (dW g d) - dW g d i = pick - (sumTo i (dW g d) + dW g d i) by omega]
    exact hi
theorem m_faceBy {N s : Nat} {m : Nat → Int32} {g : Nat → Nat} {d : Nat} (hN : 1000 < N) (h : MR m g) (hB : okB g) (hD : okD g) (hd : d < g 3) (hs : s ≤ 65536) : f_X11_faceBy N 1399 m (nI d) (nI s) = some (nI (gShow g d s)) := by
  have h3 := b_3 hB
  have hf := hD d hd
  have h5 := dS_le hD hd
  have h6 := gShow_s (s := s) hD hd
  have h7 := Nat.mod_lt s hf.2.2.2
  have e := m_faceByL (N := N) h (by omega) hf.2.1 hf.2.2.1 h6.2.2 (by omega) (by omega) (gShow g d s - 1) 0 N (by omega) (by omega)
  rw [sumTo_0, Nat.sub_zero, Nat.zero_add, show gShow g d s - 1 + 1 = gShow g d s by omega] at e
  simp (disch := omega) only [n_0, n_1, n_2, n_3, n_4, n_5, n_6, n_7, n_8, n_9, n_10, n_12, n_13, n_15, n_20, n_24, n_27, n_31, n_32, n_33, n_36, n_44, n_48, n_50, n_57, n_58, n_59, n_72, n_74, n_75, n_85, n_91, n_96, n_97, n_99, n_122, n_255, n_300, n_432, n_600, n_900, n_999, n_1000, n_1291, n_1399, n_2798, n_11192, n_65536, n_65537, n_99999999, n_1000000, nI_add, pk_mul, q_le, q_lt, q_eq, q_cl, q_gi, q_gz, q_sub, q_div, q_dm, d_dm, q_m1, q_mn, q_nm, q_mlt, q_ltm, q_mle, q_lem, q_mm, Option.bind_some, if_true, if_false, Nat.add_zero, ite_self, q_us, q_un, decide_true, decide_false, Bool.false_eq_true, eq_self, and_self, and_true, true_and, and_false, false_and, or_true, true_or, or_false, false_or, d_ltT, d_ltF, d_leT, d_leF, d_eqT, d_eqF, f_X11_faceBy, m_allW hN h (show d < 6 by omega) hf.2.1]
  exact e
theorem m_enter {m : Nat → Int32} {g : Nat → Nat} {s p d f b : Nat} (h : MR m (up g 0 s)) (h5 : g 5 < 300) : ∃ m', f_X11_enter 1399 m (nI p) (nI d) (nI f) (nI b) = some m' ∧ MR m' (gAdd g s p d f b) := by
  have e5 : m 5 = nI (g 5) := by rw [h 5 (by omega), up_n (by omega)]
  refine ⟨upd (upd (upd (upd (upd m (91 + 4 * g 5) (nI p)) (91 + 4 * g 5 + 1) (nI d)) (91 + 4 * g 5 + 2) (nI f)) (91 + 4 * g 5 + 3) (nI b)) 5 (nI (g 5 + 1)), ?_, fun k hk => ?_⟩
  · simp (disch := omega) only [n_0, n_1, n_2, n_3, n_4, n_5, n_6, n_7, n_8, n_9, n_10, n_12, n_13, n_15, n_20, n_24, n_27, n_31, n_32, n_33, n_36, n_44, n_48, n_50, n_57, n_58, n_59, n_72, n_74, n_75, n_85, n_91, n_96, n_97, n_99, n_122, n_255, n_300, n_432, n_600, n_900, n_999, n_1000, n_1291, n_1399, n_2798, n_11192, n_65536, n_65537, n_99999999, n_1000000, nI_add, pk_mul, q_le, q_lt, q_eq, q_cl, q_gi, q_gz, q_sub, q_div, q_dm, d_dm, q_m1, q_mn, q_nm, q_mlt, q_ltm, q_mle, q_lem, q_mm, Option.bind_some, if_true, if_false, Nat.add_zero, ite_self, q_us, q_un, decide_true, decide_false, Bool.false_eq_true, eq_self, and_self, and_true, true_and, and_false, false_and, or_true, true_or, or_false, false_or, d_ltT, d_ltF, d_leT, d_leF, d_eqT, d_eqF, f_X11_enter, f_X11_ofThrow, e5]
  · unfold gAdd
    by_cases c5 : k = 5
    · rw [q_us c5, if_neg (by omega), if_pos c5]
    · rw [q_un c5]
      by_cases c3 : k = 91 + 4 * g 5 + 3
      · rw [q_us c3, if_neg (by omega), if_neg (by omega), if_neg (by omega), if_neg (by omega), if_neg (by omega), if_pos c3]
      · rw [q_un c3]
        by_cases c2 : k = 91 + 4 * g 5 + 2
        · rw [q_us c2, if_neg (by omega), if_neg (by omega), if_neg (by omega), if_neg (by omega), if_pos c2]
        · rw [q_un c2]
          by_cases c1 : k = 91 + 4 * g 5 + 1
          · rw [q_us c1, if_neg (by omega), if_neg (by omega), if_neg (by omega), if_pos c1]
          · rw [q_un c1]
            by_cases c0 : k = 91 + 4 * g 5
            · rw [q_us c0, if_neg (by omega), if_neg (by omega), if_pos c0]
            · rw [q_un c0, h k hk]
              by_cases cz : k = 0
              · rw [up_s cz, if_pos cz]
              · rw [up_n cz, if_neg cz, if_neg c5, if_neg c0, if_neg c1, if_neg c2, if_neg c3]
theorem up_sD {g : Nat → Nat} {s : Nat} : sD g (up g 0 s) := ⟨up_n (by omega), fun k _ _ => up_n (by omega)⟩
theorem m_throwL {N : Nat} {g : Nat → Nat} {p d b n : Nat} (hN : 1000 < N) (hO : Ok g) (hp : p < g 4) (hd : d < g 3) (hb : b ≤ 1) (hn : g 5 + n ≤ 300) : ∀ (k i j : Nat) (m : Nat → Int32), i + k = n → k < j → MR m (gThr g p d b i) → ∃ m', f_X11_throwMany_L6 N 1399 j (nI p) (nI d) (nI n) (nI b) (nI (gSumT g p d b i)) (nI i) m = some (nI (gSumT g p d b n), m') ∧ MR m' (gThr g p d b n) := by
  have b3 := b_3 hO.1
  intro k
  induction k with
  | zero =>
    intro i j m h1 h2 h3
    obtain ⟨j, rfl⟩ : ∃ t, j = t + 1 := ⟨j - 1, by omega⟩
    have e : i = n := by omega
    subst e
    refine ⟨m, ?_, h3⟩
    simp (disch := omega) only [n_0, n_1, n_2, n_3, n_4, n_5, n_6, n_7, n_8, n_9, n_10, n_12, n_13, n_15, n_20, n_24, n_27, n_31, n_32, n_33, n_36, n_44, n_48, n_50, n_57, n_58, n_59, n_72, n_74, n_75, n_85, n_91, n_96, n_97, n_99, n_122, n_255, n_300, n_432, n_600, n_900, n_999, n_1000, n_1291, n_1399, n_2798, n_11192, n_65536, n_65537, n_99999999, n_1000000, nI_add, pk_mul, q_le, q_lt, q_eq, q_cl, q_gi, q_gz, q_sub, q_div, q_dm, d_dm, q_m1, q_mn, q_nm, q_mlt, q_ltm, q_mle, q_lem, q_mm, Option.bind_some, if_true, if_false, Nat.add_zero, ite_self, q_us, q_un, decide_true, decide_false, Bool.false_eq_true, eq_self, and_self, and_true, true_and, and_false, false_and, or_true, true_or, or_false, false_or, d_ltT, d_ltF, d_leT, d_leF, d_eqT, d_eqF, f_X11_throwMany_L6, f_X11_throwMany_L6_F]
  | succ k ih =>
    intro i j m h1 h2 h3
    obtain ⟨j, rfl⟩ : ∃ t, j = t + 1 := ⟨j - 1, by omega⟩
    obtain ⟨w1, w2, w3, w4, w5, -, -⟩ := gThr_s hO hp hd hb i (by omega)
    have hs0 : gThr g p d b i 0 ≤ 65536 := w1.1.1
    have hd2 : d < gThr g p d b i 3 := by rw [w3.1]; exact hd
    have hf := gFace_s (b := b) w1.2.1 hd2
    have hf12 := (w1.2.1 d hd2)
    have hnx := gNx_le (gThr g p d b i 0)
    have e0 := h3 0 (by omega)
    have hu := h3.up (i := 0) (v := gNx (gThr g p d b i 0))
    have hD2 := sD_ok (up_sD (s := gNx (gThr g p d b i 0))) w1.1 w1.2.1
    have hB2 : okB (up (gThr g p d b i) 0 (gNx (gThr g p d b i 0))) := by
      obtain ⟨b0, b1, b2, b3, b4, b5, b6, b7⟩ := w1.1
      unfold okB
      rw [up_s rfl, up_n (by omega), up_n (by omega), up_n (by omega), up_n (by omega), up_n (by omega), up_n (by omega)]
      exact ⟨hnx, b1, b2, b3, b4, b5, b6, b7⟩
    have hd3 : d < up (gThr g p d b i) 0 (gNx (gThr g p d b i 0)) 3 := by rw [up_n (by omega)]; exact hd2
    have ef := m_faceBy hN hu hB2 hD2 hd3 hnx
    rw [sD_show up_sD w1.1 w1.2.1 hd2] at ef
    have eg := m_faces hu (show d < 6 by omega)
    rw [sD_F up_sD (by omega)] at eg
    obtain ⟨m', a1, a2⟩ := m_enter (p := p) (d := d) (f := gFace (gThr g p d b i) d b) (b := b) hu (by omega)
    obtain ⟨m2, c1, c2⟩ := ih (i + 1) j m' (by omega) (by omega) a2
    refine ⟨m2, ?_, c2⟩
    have es1 : gSumT g p d b (i + 1) = gSumT g p d b i + gFace (gThr g p d b i) d b := rfl
    rw [es1] at c1
    rcases (show b = 0 ∨ b = 1 by omega) with hb2 | hb2
    · subst hb2
      have ef0 : gFace (gThr g p d 0 i) d 0 = gShow (gThr g p d 0 i) d (gNx (gThr g p d 0 i 0)) := rfl
      rw [← ef0] at ef
      simp (disch := omega) only [n_0, n_1, n_2, n_3, n_4, n_5, n_6, n_7, n_8, n_9, n_10, n_12, n_13, n_15, n_20, n_24, n_27, n_31, n_32, n_33, n_36, n_44, n_48, n_50, n_57, n_58, n_59, n_72, n_74, n_75, n_85, n_91, n_96, n_97, n_99, n_122, n_255, n_300, n_432, n_600, n_900, n_999, n_1000, n_1291, n_1399, n_2798, n_11192, n_65536, n_65537, n_99999999, n_1000000, nI_add, pk_mul, q_le, q_lt, q_eq, q_cl, q_gi, q_gz, q_sub, q_div, q_dm, d_dm, q_m1, q_mn, q_nm, q_mlt, q_ltm, q_mle, q_lem, q_mm, Option.bind_some, if_true, if_false, Nat.add_zero, ite_self, q_us, q_un, decide_true, decide_false, Bool.false_eq_true, eq_self, and_self, and_true, true_and, and_false, false_and, or_true, true_or, or_false, false_or, d_ltT, d_ltF, d_leT, d_leF, d_eqT, d_eqF, f_X11_throwMany_L6, f_X11_throwMany_L6_F, f_X11_throwMany_L48, f_X11_throwMany_L65, e0, m_nextSeed, ef, a1]
      exact c1
    · subst hb2
      have ef0 : gFace (gThr g p d 1 i) d 1 = gNx (gThr g p d 1 i 0) % dF (gThr g p d 1 i) d + 1 := rfl
      rw [ef0] at a1 c1
      simp (disch := omega) only [n_0, n_1, n_2, n_3, n_4, n_5, n_6, n_7, n_8, n_9, n_10, n_12, n_13, n_15, n_20, n_24, n_27, n_31, n_32, n_33, n_36, n_44, n_48, n_50, n_57, n_58, n_59, n_72, n_74, n_75, n_85, n_91, n_96, n_97, n_99, n_122, n_255, n_300, n_432, n_600, n_900, n_999, n_1000, n_1291, n_1399, n_2798, n_11192, n_65536, n_65537, n_99999999, n_1000000, nI_add, pk_mul, q_le, q_lt, q_eq, q_cl, q_gi, q_gz, q_sub, q_div, q_dm, d_dm, q_m1, q_mn, q_nm, q_mlt, q_ltm, q_mle, q_lem, q_mm, Option.bind_some, if_true, if_false, Nat.add_zero, ite_self, q_us, q_un, decide_true, decide_false, Bool.false_eq_true, eq_self, and_self, and_true, true_and, and_false, false_and, or_true, true_or, or_false, false_or, d_ltT, d_ltF, d_leT, d_leF, d_eqT, d_eqF, f_X11_throwMany_L6, f_X11_throwMany_L6_F, f_X11_throwMany_L48, f_X11_throwMany_L65, e0, m_nextSeed, eg, a1]
      exact c1
theorem m_throwMany {N : Nat} {g : Nat → Nat} {m : Nat → Int32} {p d b n : Nat} (hN : 1000 < N) (hO : Ok g) (hp : p < g 4) (hd : d < g 3) (hb : b ≤ 1) (hn : g 5 + n ≤ 300) (h : MR m g) : ∃ m', f_X11_throwMany N 1399 m (nI p) (nI d) (nI n) (nI b) = some (nI (gSumT g p d b n), m') ∧ MR m' (gThr g p d b n) := m_throwL hN hO hp hd hb hn n 0 N m (by omega) (by omega) h
theorem m_t {m : Nat → Int32} {g : Nat → Nat} {k : Nat} (h : MR m g) (hk : k < 300) : m (91 + 4 * k) = nI (tP g k) ∧ m (91 + 4 * k + 1) = nI (tD g k) ∧ m (91 + 4 * k + 2) = nI (tF g k) ∧ m (91 + 4 * k + 3) = nI (tB g k) := ⟨h _ (by omega), h _ (by omega), h _ (by omega), h _ (by omega)⟩
theorem m_o {m : Nat → Int32} {g : Nat → Nat} {r : Nat} (h : MR m g) (hr : r < 36) : m (1291 + 3 * r) = nI (oP g r) ∧ m (1291 + 3 * r + 1) = nI (oD g r) ∧ m (1291 + 3 * r + 2) = nI (oS g r) := ⟨h _ (by omega), h _ (by omega), h _ (by omega)⟩
theorem m_isOf {m : Nat → Int32} {g : Nat → Nat} {k p d : Nat} (h : MR m g) (hB : okB g) (hT : okT g) (hk : k < g 5) (hp : p < 6) (hd : d < 6) : f_X11_isOf 1399 m (nI k) (nI p) (nI d) = some (bI (decide (tQ g k = 6 * p + d))) := by
  have h5 := b_5 hB
  have h3 := b_3 hB
  have h4 := b_4 hB
  obtain ⟨t1, t2, -⟩ := hT k hk
  obtain ⟨e1, e2, -⟩ := m_t h (show k < 300 by omega)
  have hi := tQ_pd (p := p) hB hT hd hk
  by_cases c1 : tP g k = p
  · by_cases c2 : tD g k = d
    · simp (disch := omega) only [n_0, n_1, n_2, n_3, n_4, n_5, n_6, n_7, n_8, n_9, n_10, n_12, n_13, n_15, n_20, n_24, n_27, n_31, n_32, n_33, n_36, n_44, n_48, n_50, n_57, n_58, n_59, n_72, n_74, n_75, n_85, n_91, n_96, n_97, n_99, n_122, n_255, n_300, n_432, n_600, n_900, n_999, n_1000, n_1291, n_1399, n_2798, n_11192, n_65536, n_65537, n_99999999, n_1000000, nI_add, pk_mul, q_le, q_lt, q_eq, q_cl, q_gi, q_gz, q_sub, q_div, q_dm, d_dm, q_m1, q_mn, q_nm, q_mlt, q_ltm, q_mle, q_lem, q_mm, Option.bind_some, if_true, if_false, Nat.add_zero, ite_self, q_us, q_un, decide_true, decide_false, Bool.false_eq_true, eq_self, and_self, and_true, true_and, and_false, false_and, or_true, true_or, or_false, false_or, d_ltT, d_ltF, d_leT, d_leF, d_eqT, d_eqF, f_X11_isOf, f_X11_ofThrow, e1, e2]
      first | rfl | (rw [decide_eq_true (hi.mpr ⟨c1, c2⟩)]; rfl)
    · simp (disch := omega) only [n_0, n_1, n_2, n_3, n_4, n_5, n_6, n_7, n_8, n_9, n_10, n_12, n_13, n_15, n_20, n_24, n_27, n_31, n_32, n_33, n_36, n_44, n_48, n_50, n_57, n_58, n_59, n_72, n_74, n_75, n_85, n_91, n_96, n_97, n_99, n_122, n_255, n_300, n_432, n_600, n_900, n_999, n_1000, n_1291, n_1399, n_2798, n_11192, n_65536, n_65537, n_99999999, n_1000000, nI_add, pk_mul, q_le, q_lt, q_eq, q_cl, q_gi, q_gz, q_sub, q_div, q_dm, d_dm, q_m1, q_mn, q_nm, q_mlt, q_ltm, q_mle, q_lem, q_mm, Option.bind_some, if_true, if_false, Nat.add_zero, ite_self, q_us, q_un, decide_true, decide_false, Bool.false_eq_true, eq_self, and_self, and_true, true_and, and_false, false_and, or_true, true_or, or_false, false_or, d_ltT, d_ltF, d_leT, d_leF, d_eqT, d_eqF, f_X11_isOf, f_X11_ofThrow, e1, e2]
      first | rfl | (rw [decide_eq_false (fun x => c2 (hi.mp x).2)]; rfl)
  · simp (disch := omega) only [n_0, n_1, n_2, n_3, n_4, n_5, n_6, n_7, n_8, n_9, n_10, n_12, n_13, n_15, n_20, n_24, n_27, n_31, n_32, n_33, n_36, n_44, n_48, n_50, n_57, n_58, n_59, n_72, n_74, n_75, n_85, n_91, n_96, n_97, n_99, n_122, n_255, n_300, n_432, n_600, n_900, n_999, n_1000, n_1291, n_1399, n_2798, n_11192, n_65536, n_65537, n_99999999, n_1000000, nI_add, pk_mul, q_le, q_lt, q_eq, q_cl, q_gi, q_gz, q_sub, q_div, q_dm, d_dm, q_m1, q_mn, q_nm, q_mlt, q_ltm, q_mle, q_lem, q_mm, Option.bind_some, if_true, if_false, Nat.add_zero, ite_self, q_us, q_un, decide_true, decide_false, Bool.false_eq_true, eq_self, and_self, and_true, true_and, and_false, false_and, or_true, true_or, or_false, false_or, d_ltT, d_ltF, d_leT, d_leF, d_eqT, d_eqF, f_X11_isOf, f_X11_ofThrow, e1, e2]
    first | rfl | (rw [decide_eq_false (fun x => c1 (hi.mp x).1)]; rfl)
theorem m_ofPairL {N : Nat} {m : Nat → Int32} {g : Nat → Nat} {p d : Nat} (h : MR m g) (hB : okB g) (hT : okT g) (hp : p < 6) (hd : d < 6) : ∀ j i : Nat, i ≤ g 5 → g 5 < i + j → f_X11_ofPair_L5 N 1399 m j (nI p) (nI d) (nI (qN g (6 * p + d) i)) (nI i) = some (nI (cQ g (6 * p + d))) := by
  have h5 := b_5 hB
  have e5 := h 5 (by omega)
  intro j
  induction j with
  | zero => intro i h1 h2; omega
  | succ j ih =>
    intro i h1 h2
    by_cases hc : g 5 ≤ i
    · have e : i = g 5 := by omega
      subst e
      simp (disch := omega) only [n_0, n_1, n_2, n_3, n_4, n_5, n_6, n_7, n_8, n_9, n_10, n_12, n_13, n_15, n_20, n_24, n_27, n_31, n_32, n_33, n_36, n_44, n_48, n_50, n_57, n_58, n_59, n_72, n_74, n_75, n_85, n_91, n_96, n_97, n_99, n_122, n_255, n_300, n_432, n_600, n_900, n_999, n_1000, n_1291, n_1399, n_2798, n_11192, n_65536, n_65537, n_99999999, n_1000000, nI_add, pk_mul, q_le, q_lt, q_eq, q_cl, q_gi, q_gz, q_sub, q_div, q_dm, d_dm, q_m1, q_mn, q_nm, q_mlt, q_ltm, q_mle, q_lem, q_mm, Option.bind_some, if_true, if_false, Nat.add_zero, ite_self, q_us, q_un, decide_true, decide_false, Bool.false_eq_true, eq_self, and_self, and_true, true_and, and_false, false_and, or_true, true_or, or_false, false_or, d_ltT, d_ltF, d_leT, d_leF, d_eqT, d_eqF, f_X11_ofPair_L5, f_X11_ofPair_L5_F, e5]
      rfl
    · have hi := ih (i + 1) (by omega) (by omega)
      have eo := m_isOf h hB hT (show i < g 5 by omega) hp hd
      rw [qN_s] at hi
      by_cases hq : tQ g i = 6 * p + d
      · rw [if_pos hq] at hi
        rw [decide_eq_true hq] at eo
        simp (disch := omega) only [n_0, n_1, n_2, n_3, n_4, n_5, n_6, n_7, n_8, n_9, n_10, n_12, n_13, n_15, n_20, n_24, n_27, n_31, n_32, n_33, n_36, n_44, n_48, n_50, n_57, n_58, n_59, n_72, n_74, n_75, n_85, n_91, n_96, n_97, n_99, n_122, n_255, n_300, n_432, n_600, n_900, n_999, n_1000, n_1291, n_1399, n_2798, n_11192, n_65536, n_65537, n_99999999, n_1000000, nI_add, pk_mul, q_le, q_lt, q_eq, q_cl, q_gi, q_gz, q_sub, q_div, q_dm, d_dm, q_m1, q_mn, q_nm, q_mlt, q_ltm, q_mle, q_lem, q_mm, Option.bind_some, if_true, if_false, Nat.add_zero, ite_self, q_us, q_un, decide_true, decide_false, Bool.false_eq_true, eq_self, and_self, and_true, true_and, and_false, false_and, or_true, true_or, or_false, false_or, d_ltT, d_ltF, d_leT, d_leF, d_eqT, d_eqF, f_X11_ofPair_L5, f_X11_ofPair_L5_F, f_X11_ofPair_L30, e5, eo, q_b0, Bool.true_eq_false]
        exact hi
      · rw [if_neg hq] at hi
        rw [decide_eq_false hq] at eo
        simp (disch := omega) only [n_0, n_1, n_2, n_3, n_4, n_5, n_6, n_7, n_8, n_9, n_10, n_12, n_13, n_15, n_20, n_24, n_27, n_31, n_32, n_33, n_36, n_44, n_48, n_50, n_57, n_58, n_59, n_72, n_74, n_75, n_85, n_91, n_96, n_97, n_99, n_122, n_255, n_300, n_432, n_600, n_900, n_999, n_1000, n_1291, n_1399, n_2798, n_11192, n_65536, n_65537, n_99999999, n_1000000, nI_add, pk_mul, q_le, q_lt, q_eq, q_cl, q_gi, q_gz, q_sub, q_div, q_dm, d_dm, q_m1, q_mn, q_nm, q_mlt, q_ltm, q_mle, q_lem, q_mm, Option.bind_some, if_true, if_false, Nat.add_zero, ite_self, q_us, q_un, decide_true, decide_false, Bool.false_eq_true, eq_self, and_self, and_true, true_and, and_false, false_and, or_true, true_or, or_false, false_or, d_ltT, d_ltF, d_leT, d_leF, d_eqT, d_eqF, f_X11_ofPair_L5, f_X11_ofPair_L5_F, f_X11_ofPair_L30, e5, eo, q_b0]
        exact hi
theorem m_ofPair {N : Nat} {m : Nat → Int32} {g : Nat → Nat} {p d : Nat} (hN : 1000 < N) (h : MR m g) (hB : okB g) (hT : okT g) (hp : p < 6) (hd : d < 6) : f_X11_ofPair N 1399 m (nI p) (nI d) = some (nI (cQ g (6 * p + d))) := by
  have h5 := b_5 hB
  exact m_ofPairL h hB hT hp hd N 0 (by omega) (by omega)
/-- the counts of a pair's faces in the first n throws -/
def cN (g : Nat → Nat) (q f n : Nat) : Nat := sumTo n (fun k => if tQ g k = q ∧ tF g k = f + 1 then 1 else 0)
theorem cN_le {g : Nat → Nat} {q f n : Nat} : cN g q f n ≤ n := by
  have h : cN g q f n ≤ n * 1 := sumTo_le (fun k hk => by split <;> omega)
  omega
theorem m_countL2 {N : Nat} {m : Nat → Int32} {g : Nat → Nat} {p d : Nat} (h : MR m g) (hB : okB g) (hD : okD g) (hT : okT g) (hp : p < 6) (hd : d < 6) : ∀ (k i j : Nat) (o : Nat → Int32), i + k = g 5 → k < j → (∀ f, f < 12 → o (f + 1) = nI (cN g (6 * p + d) f i)) → ∃ o', f_X11_countPair_L32 N 1399 m j (nI p) (nI d) (nI i) (nI (qN g (6 * p + d) i)) o = some (nI (cQ g (6 * p + d)), o') ∧ ∀ f, f < 12 → o' (f + 1) = nI (cF g (6 * p + d) f) := by
  have h5 := b_5 hB
  have e5 := h 5 (by omega)
  intro k
  induction k with
  | zero =>
    intro i j o h1 h2 h3
    obtain ⟨j, rfl⟩ : ∃ t, j = t + 1 := ⟨j - 1, by omega⟩
    have e : i = g 5 := by omega
    subst e
    refine ⟨o, ?_, h3⟩
    simp (disch := omega) only [n_0, n_1, n_2, n_3, n_4, n_5, n_6, n_7, n_8, n_9, n_10, n_12, n_13, n_15, n_20, n_24, n_27, n_31, n_32, n_33, n_36, n_44, n_48, n_50, n_57, n_58, n_59, n_72, n_74, n_75, n_85, n_91, n_96, n_97, n_99, n_122, n_255, n_300, n_432, n_600, n_900, n_999, n_1000, n_1291, n_1399, n_2798, n_11192, n_65536, n_65537, n_99999999, n_1000000, nI_add, pk_mul, q_le, q_lt, q_eq, q_cl, q_gi, q_gz, q_sub, q_div, q_dm, d_dm, q_m1, q_mn, q_nm, q_mlt, q_ltm, q_mle, q_lem, q_mm, Option.bind_some, if_true, if_false, Nat.add_zero, ite_self, q_us, q_un, decide_true, decide_false, Bool.false_eq_true, eq_self, and_self, and_true, true_and, and_false, false_and, or_true, true_or, or_false, false_or, d_ltT, d_ltF, d_leT, d_leF, d_eqT, d_eqF, f_X11_countPair_L32, f_X11_countPair_L32_F, e5]
    rfl
  | succ k ih =>
    intro i j o h1 h2 h3
    obtain ⟨j, rfl⟩ : ∃ t, j = t + 1 := ⟨j - 1, by omega⟩
    have eo := m_isOf h hB hT (show i < g 5 by omega) hp hd
    obtain ⟨t1, t2, t3, t4⟩ := t_bd hB hD hT (show i < g 5 by omega)
    obtain ⟨-, -, e3, -⟩ := m_t h (show i < 300 by omega)
    have hs : ∀ f, cN g (6 * p + d) f (i + 1) = cN g (6 * p + d) f i + if tQ g i = 6 * p + d ∧ tF g i = f + 1 then 1 else 0 := fun f => rfl
    by_cases hq : tQ g i = 6 * p + d
    · rw [decide_eq_true hq] at eo
      have ho := h3 (tF g i - 1) (by omega)
      rw [show tF g i - 1 + 1 = tF g i by omega] at ho
      obtain ⟨o', a1, a2⟩ := ih (i + 1) j (upd o (tF g i) (nI (cN g (6 * p + d) (tF g i - 1) i + 1))) (by omega) (by omega) (fun f hf => by
        rw [hs]
        by_cases c : tF g i = f + 1
        · rw [q_us c.symm, if_pos ⟨hq, c⟩, c, Nat.add_sub_cancel]
        · rw [q_un (fun x => c x.symm), if_neg (fun x => c x.2), Nat.add_zero]
          exact h3 f hf)
      refine ⟨o', ?_, a2⟩
      rw [qN_s, if_pos hq] at a1
      simp (disch := omega) only [n_0, n_1, n_2, n_3, n_4, n_5, n_6, n_7, n_8, n_9, n_10, n_12, n_13, n_15, n_20, n_24, n_27, n_31, n_32, n_33, n_36, n_44, n_48, n_50, n_57, n_58, n_59, n_72, n_74, n_75, n_85, n_91, n_96, n_97, n_99, n_122, n_255, n_300, n_432, n_600, n_900, n_999, n_1000, n_1291, n_1399, n_2798, n_11192, n_65536, n_65537, n_99999999, n_1000000, nI_add, pk_mul, q_le, q_lt, q_eq, q_cl, q_gi, q_gz, q_sub, q_div, q_dm, d_dm, q_m1, q_mn, q_nm, q_mlt, q_ltm, q_mle, q_lem, q_mm, Option.bind_some, if_true, if_false, Nat.add_zero, ite_self, q_us, q_un, decide_true, decide_false, Bool.false_eq_true, eq_self, and_self, and_true, true_and, and_false, false_and, or_true, true_or, or_false, false_or, d_ltT, d_ltF, d_leT, d_leF, d_eqT, d_eqF, f_X11_countPair_L32, f_X11_countPair_L32_F, f_X11_countPair_L79, f_X11_ofThrow, e5, eo, q_b0, Bool.true_eq_false, e3, ho]
      exact a1
    · rw [decide_eq_false hq] at eo
      obtain ⟨o', a1, a2⟩ := ih (i + 1) j o (by omega) (by omega) (fun f hf => by
        rw [hs, if_neg (fun x => hq x.1), Nat.add_zero]
        exact h3 f hf)
      refine ⟨o', ?_, a2⟩
      rw [qN_s, if_neg hq, Nat.add_zero] at a1
      simp (disch := omega) only [n_0, n_1, n_2, n_3, n_4, n_5, n_6, n_7, n_8, n_9, n_10, n_12, n_13, n_15, n_20, n_24, n_27, n_31, n_32, n_33, n_36, n_44, n_48, n_50, n_57, n_58, n_59, n_72, n_74, n_75, n_85, n_91, n_96, n_97, n_99, n_122, n_255, n_300, n_432, n_600, n_900, n_999, n_1000, n_1291, n_1399, n_2798, n_11192, n_65536, n_65537, n_99999999, n_1000000, nI_add, pk_mul, q_le, q_lt, q_eq, q_cl, q_gi, q_gz, q_sub, q_div, q_dm, d_dm, q_m1, q_mn, q_nm, q_mlt, q_ltm, q_mle, q_lem, q_mm, Option.bind_some, if_true, if_false, Nat.add_zero, ite_self, q_us, q_un, decide_true, decide_false, Bool.false_eq_true, eq_self, and_self, and_true, true_and, and_false, false_and, or_true, true_or, or_false, false_or, d_ltT, d_ltF, d_leT, d_leF, d_eqT, d_eqF, f_X11_countPair_L32, f_X11_countPair_L32_F, f_X11_countPair_L79, f_X11_ofThrow, e5, eo, q_b0]
      exact a1
theorem m_countL {N : Nat} {m : Nat → Int32} {g : Nat → Nat} {p d : Nat} (hN : 1000 < N) (h : MR m g) (hB : okB g) (hD : okD g) (hT : okT g) (hp : p < 6) (hd : d < 6) : ∀ (k i j : Nat) (o : Nat → Int32), i + k = 13 → k < j → (∀ f, f < i → o f = nI 0) → ∃ o', f_X11_countPair_L8 N 1399 m j (nI p) (nI d) (nI i) (nI 0) o = some (nI (cQ g (6 * p + d)), o') ∧ ∀ f, f < 12 → o' (f + 1) = nI (cF g (6 * p + d) f) := by
  have h5 := b_5 hB
  intro k
  induction k with
  | zero =>
    intro i j o h1 h2 h3
    obtain ⟨j, rfl⟩ : ∃ t, j = t + 1 := ⟨j - 1, by omega⟩
    obtain ⟨o', a1, a2⟩ := m_countL2 (N := N) h hB hD hT hp hd (g 5) 0 N o (by omega) (by omega) (fun f hf => h3 (f + 1) (by omega))
    refine ⟨o', ?_, a2⟩
    simp (disch := omega) only [n_0, n_1, n_2, n_3, n_4, n_5, n_6, n_7, n_8, n_9, n_10, n_12, n_13, n_15, n_20, n_24, n_27, n_31, n_32, n_33, n_36, n_44, n_48, n_50, n_57, n_58, n_59, n_72, n_74, n_75, n_85, n_91, n_96, n_97, n_99, n_122, n_255, n_300, n_432, n_600, n_900, n_999, n_1000, n_1291, n_1399, n_2798, n_11192, n_65536, n_65537, n_99999999, n_1000000, nI_add, pk_mul, q_le, q_lt, q_eq, q_cl, q_gi, q_gz, q_sub, q_div, q_dm, d_dm, q_m1, q_mn, q_nm, q_mlt, q_ltm, q_mle, q_lem, q_mm, Option.bind_some, if_true, if_false, Nat.add_zero, ite_self, q_us, q_un, decide_true, decide_false, Bool.false_eq_true, eq_self, and_self, and_true, true_and, and_false, false_and, or_true, true_or, or_false, false_or, d_ltT, d_ltF, d_leT, d_leF, d_eqT, d_eqF, f_X11_countPair_L8, f_X11_countPair_L8_F]
    exact a1
  | succ k ih =>
    intro i j o h1 h2 h3
    obtain ⟨j, rfl⟩ : ∃ t, j = t + 1 := ⟨j - 1, by omega⟩
    obtain ⟨o', a1, a2⟩ := ih (i + 1) j (upd o i (nI 0)) (by omega) (by omega) (fun f hf => by
      by_cases c : f = i
      · rw [q_us c]
      · rw [q_un c]; exact h3 f (by omega))
    refine ⟨o', ?_, a2⟩
    simp (disch := omega) only [n_0, n_1, n_2, n_3, n_4, n_5, n_6, n_7, n_8, n_9, n_10, n_12, n_13, n_15, n_20, n_24, n_27, n_31, n_32, n_33, n_36, n_44, n_48, n_50, n_57, n_58, n_59, n_72, n_74, n_75, n_85, n_91, n_96, n_97, n_99, n_122, n_255, n_300, n_432, n_600, n_900, n_999, n_1000, n_1291, n_1399, n_2798, n_11192, n_65536, n_65537, n_99999999, n_1000000, nI_add, pk_mul, q_le, q_lt, q_eq, q_cl, q_gi, q_gz, q_sub, q_div, q_dm, d_dm, q_m1, q_mn, q_nm, q_mlt, q_ltm, q_mle, q_lem, q_mm, Option.bind_some, if_true, if_false, Nat.add_zero, ite_self, q_us, q_un, decide_true, decide_false, Bool.false_eq_true, eq_self, and_self, and_true, true_and, and_false, false_and, or_true, true_or, or_false, false_or, d_ltT, d_ltF, d_leT, d_leF, d_eqT, d_eqF, f_X11_countPair_L8, f_X11_countPair_L8_F]
    exact a1
theorem m_count {N : Nat} {m o : Nat → Int32} {g : Nat → Nat} {a : Int32} {p d : Nat} (hN : 1000 < N) (h : MR m g) (hB : okB g) (hD : okD g) (hT : okT g) (hp : p < 6) (hd : d < 6) : ∃ o', f_X11_countPair N 1399 m a o (nI p) (nI d) = some (nI (cQ g (6 * p + d)), o') ∧ ∀ f, f < 12 → o' (f + 1) = nI (cF g (6 * p + d) f) := m_countL hN h hB hD hT hp hd 13 0 N o (by omega) (by omega) (fun f hf => by omega)
theorem m_scoreL {N S k : Nat} {o : Nat → Int32} {c : Nat → Nat} (hk : k ≤ 12) (hk0 : 2 ≤ k) (hS : S ≤ 350) (hc : ∀ t, t < k → c t ≤ 350) (ho : ∀ f, f < 12 → o (f + 1) = nI (c f)) : ∀ j i : Nat, i ≤ k → k < i + j → f_X11_scoreOfCounts_L4 N (nI S) o j (nI k) (nI (sumTo i (fun t => gSq (k * c t) S))) (nI (i + 1)) = some (nI (gTest c S k)) := by
  have hS2 : S * k ≤ 350 * 12 := Nat.mul_le_mul hS hk
  intro j
  induction j with
  | zero => intro i h1 h2; omega
  | succ j ih =>
    intro i h1 h2
    have hb := gTest_bd hk hS hc
    by_cases h : k ≤ i
    · have e : i = k := by omega
      subst e
      unfold gTest
      by_cases hz : S = 0
      · subst hz
        rw [Nat.zero_mul, if_pos rfl]
        simp (disch := omega) only [n_0, n_1, n_2, n_3, n_4, n_5, n_6, n_7, n_8, n_9, n_10, n_12, n_13, n_15, n_20, n_24, n_27, n_31, n_32, n_33, n_36, n_44, n_48, n_50, n_57, n_58, n_59, n_72, n_74, n_75, n_85, n_91, n_96, n_97, n_99, n_122, n_255, n_300, n_432, n_600, n_900, n_999, n_1000, n_1291, n_1399, n_2798, n_11192, n_65536, n_65537, n_99999999, n_1000000, nI_add, pk_mul, q_le, q_lt, q_eq, q_cl, q_gi, q_gz, q_sub, q_div, q_dm, d_dm, q_m1, q_mn, q_nm, q_mlt, q_ltm, q_mle, q_lem, q_mm, Option.bind_some, if_true, if_false, Nat.add_zero, ite_self, q_us, q_un, decide_true, decide_false, Bool.false_eq_true, eq_self, and_self, and_true, true_and, and_false, false_and, or_true, true_or, or_false, false_or, d_ltT, d_ltF, d_leT, d_leF, d_eqT, d_eqF, f_X11_scoreOfCounts_L4, f_X11_scoreOfCounts_L4_F]
      · have hp : 0 < S * i := Nat.mul_pos (by omega) (by omega)
        rw [if_neg (by omega)]
        simp (disch := omega) only [n_0, n_1, n_2, n_3, n_4, n_5, n_6, n_7, n_8, n_9, n_10, n_12, n_13, n_15, n_20, n_24, n_27, n_31, n_32, n_33, n_36, n_44, n_48, n_50, n_57, n_58, n_59, n_72, n_74, n_75, n_85, n_91, n_96, n_97, n_99, n_122, n_255, n_300, n_432, n_600, n_900, n_999, n_1000, n_1291, n_1399, n_2798, n_11192, n_65536, n_65537, n_99999999, n_1000000, nI_add, pk_mul, q_le, q_lt, q_eq, q_cl, q_gi, q_gz, q_sub, q_div, q_dm, d_dm, q_m1, q_mn, q_nm, q_mlt, q_ltm, q_mle, q_lem, q_mm, Option.bind_some, if_true, if_false, Nat.add_zero, ite_self, q_us, q_un, decide_true, decide_false, Bool.false_eq_true, eq_self, and_self, and_true, true_and, and_false, false_and, or_true, true_or, or_false, false_or, d_ltT, d_ltF, d_leT, d_leF, d_eqT, d_eqF, f_X11_scoreOfCounts_L4, f_X11_scoreOfCounts_L4_F]
    · have hoi := ho i (by omega)
      have hg1 := Nat.mul_le_mul hk (hc i (by omega))
      simp (disch := omega) only [n_0, n_1, n_2, n_3, n_4, n_5, n_6, n_7, n_8, n_9, n_10, n_12, n_13, n_15, n_20, n_24, n_27, n_31, n_32, n_33, n_36, n_44, n_48, n_50, n_57, n_58, n_59, n_72, n_74, n_75, n_85, n_91, n_96, n_97, n_99, n_122, n_255, n_300, n_432, n_600, n_900, n_999, n_1000, n_1291, n_1399, n_2798, n_11192, n_65536, n_65537, n_99999999, n_1000000, nI_add, pk_mul, q_le, q_lt, q_eq, q_cl, q_gi, q_gz, q_sub, q_div, q_dm, d_dm, q_m1, q_mn, q_nm, q_mlt, q_ltm, q_mle, q_lem, q_mm, Option.bind_some, if_true, if_false, Nat.add_zero, ite_self, q_us, q_un, decide_true, decide_false, Bool.false_eq_true, eq_self, and_self, and_true, true_and, and_false, false_and, or_true, true_or, or_false, false_or, d_ltT, d_ltF, d_leT, d_leF, d_eqT, d_eqF, f_X11_scoreOfCounts_L4, f_X11_scoreOfCounts_L4_F, hoi, e_sq]
      exact ih (i + 1) (by omega) (by omega)
theorem m_score {N S k : Nat} {o : Nat → Int32} {c : Nat → Nat} (hN : 1000 < N) (hk : k ≤ 12) (hk0 : 2 ≤ k) (hS : S ≤ 350) (hc : ∀ t, t < k → c t ≤ 350) (ho : ∀ f, f < 12 → o (f + 1) = nI (c f)) : f_X11_scoreOfCounts N (nI S) o (nI k) = some (nI (gTest c S k)) := m_scoreL hk hk0 hS hc ho N 0 (by omega) (by omega)
theorem m_isBad {N S k : Nat} {m o : Nat → Int32} {g c : Nat → Nat} (hN : 1000 < N) (h : MR m g) (hB : okB g) (hk : k ≤ 12) (hk0 : 2 ≤ k) (hS : S ≤ 350) (hc : ∀ t, t < k → c t ≤ 350) (ho : ∀ f, f < 12 → o (f + 1) = nI (c f)) : f_X11_isBad N (nI S) o 1399 m (nI k) = some (bI (decide (g 1 ≤ S ∧ g 2 < gTest c S k))) := by
  have e1 := h 1 (by omega)
  have e2 := h 2 (by omega)
  have b1 := hB.2.2.1
  have b2 := hB.2.2.2.1
  have es := m_score hN hk hk0 hS hc ho
  have hb := (gTest_bd hk hS hc).1
  have hl : gTest c S k < 214000000 := by
    unfold gTest
    split
    · omega
    · exact Nat.lt_of_le_of_lt (Nat.div_le_self _ _) hb
  by_cases c1 : g 1 ≤ S
  · by_cases c2 : g 2 < gTest c S k
    · simp (disch := omega) only [n_0, n_1, n_2, n_3, n_4, n_5, n_6, n_7, n_8, n_9, n_10, n_12, n_13, n_15, n_20, n_24, n_27, n_31, n_32, n_33, n_36, n_44, n_48, n_50, n_57, n_58, n_59, n_72, n_74, n_75, n_85, n_91, n_96, n_97, n_99, n_122, n_255, n_300, n_432, n_600, n_900, n_999, n_1000, n_1291, n_1399, n_2798, n_11192, n_65536, n_65537, n_99999999, n_1000000, nI_add, pk_mul, q_le, q_lt, q_eq, q_cl, q_gi, q_gz, q_sub, q_div, q_dm, d_dm, q_m1, q_mn, q_nm, q_mlt, q_ltm, q_mle, q_lem, q_mm, Option.bind_some, if_true, if_false, Nat.add_zero, ite_self, q_us, q_un, decide_true, decide_false, Bool.false_eq_true, eq_self, and_self, and_true, true_and, and_false, false_and, or_true, true_or, or_false, false_or, d_ltT, d_ltF, d_leT, d_leF, d_eqT, d_eqF, f_X11_isBad, e1, e2, es]
      simp [bI, c1, c2]
    · simp (disch := omega) only [n_0, n_1, n_2, n_3, n_4, n_5, n_6, n_7, n_8, n_9, n_10, n_12, n_13, n_15, n_20, n_24, n_27, n_31, n_32, n_33, n_36, n_44, n_48, n_50, n_57, n_58, n_59, n_72, n_74, n_75, n_85, n_91, n_96, n_97, n_99, n_122, n_255, n_300, n_432, n_600, n_900, n_999, n_1000, n_1291, n_1399, n_2798, n_11192, n_65536, n_65537, n_99999999, n_1000000, nI_add, pk_mul, q_le, q_lt, q_eq, q_cl, q_gi, q_gz, q_sub, q_div, q_dm, d_dm, q_m1, q_mn, q_nm, q_mlt, q_ltm, q_mle, q_lem, q_mm, Option.bind_some, if_true, if_false, Nat.add_zero, ite_self, q_us, q_un, decide_true, decide_false, Bool.false_eq_true, eq_self, and_self, and_true, true_and, and_false, false_and, or_true, true_or, or_false, false_or, d_ltT, d_ltF, d_leT, d_leF, d_eqT, d_eqF, f_X11_isBad, e1, e2, es]
      simp [bI, c1, c2]
  · simp (disch := omega) only [n_0, n_1, n_2, n_3, n_4, n_5, n_6, n_7, n_8, n_9, n_10, n_12, n_13, n_15, n_20, n_24, n_27, n_31, n_32, n_33, n_36, n_44, n_48, n_50, n_57, n_58, n_59, n_72, n_74, n_75, n_85, n_91, n_96, n_97, n_99, n_122, n_255, n_300, n_432, n_600, n_900, n_999, n_1000, n_1291, n_1399, n_2798, n_11192, n_65536, n_65537, n_99999999, n_1000000, nI_add, pk_mul, q_le, q_lt, q_eq, q_cl, q_gi, q_gz, q_sub, q_div, q_dm, d_dm, q_m1, q_mn, q_nm, q_mlt, q_ltm, q_mle, q_lem, q_mm, Option.bind_some, if_true, if_false, Nat.add_zero, ite_self, q_us, q_un, decide_true, decide_false, Bool.false_eq_true, eq_self, and_self, and_true, true_and, and_false, false_and, or_true, true_or, or_false, false_or, d_ltT, d_ltF, d_leT, d_leF, d_eqT, d_eqF, f_X11_isBad, e1, e2, es]
    simp [bI, c1]
theorem m_susp {N : Nat} {m o : Nat → Int32} {a : Int32} {g : Nat → Nat} {p d : Nat} (hN : 1000 < N) (h : MR m g) (hB : okB g) (hD : okD g) (hT : okT g) (hp : p < 6) (hd : d < g 3) : ∃ o', f_X11_suspects N 1399 m a o (nI p) (nI d) = some (bI (susp g (6 * p + d)), nI (cQ g (6 * p + d)), o') := by
  have b3 := b_3 hB
  have hf := hD d hd
  obtain ⟨o', e1, e2⟩ := m_count (a := a) (o := o) hN h hB hD hT hp (show d < 6 by omega)
  have hc := cQ_le hB (6 * p + d)
  have e3 := m_isBad hN h hB hf.2.1 hf.1 (S := cQ g (6 * p + d)) (by omega) (fun t _ => by have := cF_le (g := g) (6 * p + d) t; omega) e2
  refine ⟨o', ?_⟩
  simp (disch := omega) only [n_0, n_1, n_2, n_3, n_4, n_5, n_6, n_7, n_8, n_9, n_10, n_12, n_13, n_15, n_20, n_24, n_27, n_31, n_32, n_33, n_36, n_44, n_48, n_50, n_57, n_58, n_59, n_72, n_74, n_75, n_85, n_91, n_96, n_97, n_99, n_122, n_255, n_300, n_432, n_600, n_900, n_999, n_1000, n_1291, n_1399, n_2798, n_11192, n_65536, n_65537, n_99999999, n_1000000, nI_add, pk_mul, q_le, q_lt, q_eq, q_cl, q_gi, q_gz, q_sub, q_div, q_dm, d_dm, q_m1, q_mn, q_nm, q_mlt, q_ltm, q_mle, q_lem, q_mm, Option.bind_some, if_true, if_false, Nat.add_zero, ite_self, q_us, q_un, decide_true, decide_false, Bool.false_eq_true, eq_self, and_self, and_true, true_and, and_false, false_and, or_true, true_or, or_false, false_or, d_ltT, d_ltF, d_leT, d_leF, d_eqT, d_eqF, f_X11_suspects, e1, m_faces h (show d < 6 by omega), e3]
  unfold susp cS
  rw [show (6 * p + d) % 6 = d by omega]
theorem m_scoreOf {N : Nat} {m o : Nat → Int32} {a : Int32} {g : Nat → Nat} {p d : Nat} (hN : 1000 < N) (h : MR m g) (hB : okB g) (hD : okD g) (hT : okT g) (hp : p < 6) (hd : d < g 3) : ∃ o', f_X11_scoreOf N 1399 m a o (nI p) (nI d) = some (nI (cS g (6 * p + d)), nI (cQ g (6 * p + d)), o') := by
  have b3 := b_3 hB
  have hf := hD d hd
  obtain ⟨o', e1, e2⟩ := m_count (a := a) (o := o) hN h hB hD hT hp (show d < 6 by omega)
  have hc := cQ_le hB (6 * p + d)
  have e3 := m_score hN hf.2.1 hf.1 (S := cQ g (6 * p + d)) (by omega) (fun t _ => by have := cF_le (g := g) (6 * p + d) t; omega) e2
  refine ⟨o', ?_⟩
  simp (disch := omega) only [n_0, n_1, n_2, n_3, n_4, n_5, n_6, n_7, n_8, n_9, n_10, n_12, n_13, n_15, n_20, n_24, n_27, n_31, n_32, n_33, n_36, n_44, n_48, n_50, n_57, n_58, n_59, n_72, n_74, n_75, n_85, n_91, n_96, n_97, n_99, n_122, n_255, n_300, n_432, n_600, n_900, n_999, n_1000, n_1291, n_1399, n_2798, n_11192, n_65536, n_65537, n_99999999, n_1000000, nI_add, pk_mul, q_le, q_lt, q_eq, q_cl, q_gi, q_gz, q_sub, q_div, q_dm, d_dm, q_m1, q_mn, q_nm, q_mlt, q_ltm, q_mle, q_lem, q_mm, Option.bind_some, if_true, if_false, Nat.add_zero, ite_self, q_us, q_un, decide_true, decide_false, Bool.false_eq_true, eq_self, and_self, and_true, true_and, and_false, false_and, or_true, true_or, or_false, false_or, d_ltT, d_ltF, d_leT, d_leF, d_eqT, d_eqF, f_X11_scoreOf, e1, m_faces h (show d < 6 by omega), e3]
  unfold cS
  rw [show (6 * p + d) % 6 = d by omega]
theorem m_hasL {N : Nat} {m : Nat → Int32} {g : Nat → Nat} {p d : Nat} (h : MR m g) (hB : okB g) (hO : okO g) (hp : p < 6) (hd : d < 6) : ∀ k i j : Nat, i + k = g 6 → k < j → f_X11_hasOffence_L2 N 1399 m j (nI p) (nI d) (nI i) = some (bI (anyF (fun r => decide (oQ g r = 6 * p + d)) k i)) := by
  have h6 := b_6 hB
  have b3 := b_3 hB
  have e6 := h 6 (by omega)
  intro k
  induction k with
  | zero =>
    intro i j h1 h2
    obtain ⟨j, rfl⟩ : ∃ t, j = t + 1 := ⟨j - 1, by omega⟩
    simp (disch := omega) only [n_0, n_1, n_2, n_3, n_4, n_5, n_6, n_7, n_8, n_9, n_10, n_12, n_13, n_15, n_20, n_24, n_27, n_31, n_32, n_33, n_36, n_44, n_48, n_50, n_57, n_58, n_59, n_72, n_74, n_75, n_85, n_91, n_96, n_97, n_99, n_122, n_255, n_300, n_432, n_600, n_900, n_999, n_1000, n_1291, n_1399, n_2798, n_11192, n_65536, n_65537, n_99999999, n_1000000, nI_add, pk_mul, q_le, q_lt, q_eq, q_cl, q_gi, q_gz, q_sub, q_div, q_dm, d_dm, q_m1, q_mn, q_nm, q_mlt, q_ltm, q_mle, q_lem, q_mm, Option.bind_some, if_true, if_false, Nat.add_zero, ite_self, q_us, q_un, decide_true, decide_false, Bool.false_eq_true, eq_self, and_self, and_true, true_and, and_false, false_and, or_true, true_or, or_false, false_or, d_ltT, d_ltF, d_leT, d_leF, d_eqT, d_eqF, f_X11_hasOffence_L2, f_X11_hasOffence_L2_F, e6]
    rfl
  | succ k ih =>
    intro i j h1 h2
    obtain ⟨j, rfl⟩ : ∃ t, j = t + 1 := ⟨j - 1, by omega⟩
    have hb := o_bd hB hO (show i < g 6 by omega)
    have hb2 := hO.1 i (by omega)
    obtain ⟨e1, e2, -⟩ := m_o h (show i < 36 by omega)
    have hq : oQ g i = 6 * p + d ↔ oP g i = p ∧ oD g i = d := by
      unfold oQ
      exact ⟨fun x => by omega, fun x => by omega⟩
    have hi := ih (i + 1) j (by omega) (by omega)
    unfold anyF
    by_cases c1 : oP g i = p
    · by_cases c2 : oD g i = d
      · simp (disch := omega) only [n_0, n_1, n_2, n_3, n_4, n_5, n_6, n_7, n_8, n_9, n_10, n_12, n_13, n_15, n_20, n_24, n_27, n_31, n_32, n_33, n_36, n_44, n_48, n_50, n_57, n_58, n_59, n_72, n_74, n_75, n_85, n_91, n_96, n_97, n_99, n_122, n_255, n_300, n_432, n_600, n_900, n_999, n_1000, n_1291, n_1399, n_2798, n_11192, n_65536, n_65537, n_99999999, n_1000000, nI_add, pk_mul, q_le, q_lt, q_eq, q_cl, q_gi, q_gz, q_sub, q_div, q_dm, d_dm, q_m1, q_mn, q_nm, q_mlt, q_ltm, q_mle, q_lem, q_mm, Option.bind_some, if_true, if_false, Nat.add_zero, ite_self, q_us, q_un, decide_true, decide_false, Bool.false_eq_true, eq_self, and_self, and_true, true_and, and_false, false_and, or_true, true_or, or_false, false_or, d_ltT, d_ltF, d_leT, d_leF, d_eqT, d_eqF, f_X11_hasOffence_L2, f_X11_hasOffence_L2_F, f_X11_hasOffence_L36, f_X11_ofOffence, e6, e1, e2]
        first | rfl | (rw [decide_eq_true (hq.mpr ⟨c1, c2⟩), Bool.true_or]; rfl)
      · simp (disch := omega) only [n_0, n_1, n_2, n_3, n_4, n_5, n_6, n_7, n_8, n_9, n_10, n_12, n_13, n_15, n_20, n_24, n_27, n_31, n_32, n_33, n_36, n_44, n_48, n_50, n_57, n_58, n_59, n_72, n_74, n_75, n_85, n_91, n_96, n_97, n_99, n_122, n_255, n_300, n_432, n_600, n_900, n_999, n_1000, n_1291, n_1399, n_2798, n_11192, n_65536, n_65537, n_99999999, n_1000000, nI_add, pk_mul, q_le, q_lt, q_eq, q_cl, q_gi, q_gz, q_sub, q_div, q_dm, d_dm, q_m1, q_mn, q_nm, q_mlt, q_ltm, q_mle, q_lem, q_mm, Option.bind_some, if_true, if_false, Nat.add_zero, ite_self, q_us, q_un, decide_true, decide_false, Bool.false_eq_true, eq_self, and_self, and_true, true_and, and_false, false_and, or_true, true_or, or_false, false_or, d_ltT, d_ltF, d_leT, d_leF, d_eqT, d_eqF, f_X11_hasOffence_L2, f_X11_hasOffence_L2_F, f_X11_hasOffence_L36, f_X11_ofOffence, e6, e1, e2]
        first | exact hi | (rw [decide_eq_false (fun x => c2 (hq.mp x).2), Bool.false_or]; exact hi)
    · simp (disch := omega) only [n_0, n_1, n_2, n_3, n_4, n_5, n_6, n_7, n_8, n_9, n_10, n_12, n_13, n_15, n_20, n_24, n_27, n_31, n_32, n_33, n_36, n_44, n_48, n_50, n_57, n_58, n_59, n_72, n_74, n_75, n_85, n_91, n_96, n_97, n_99, n_122, n_255, n_300, n_432, n_600, n_900, n_999, n_1000, n_1291, n_1399, n_2798, n_11192, n_65536, n_65537, n_99999999, n_1000000, nI_add, pk_mul, q_le, q_lt, q_eq, q_cl, q_gi, q_gz, q_sub, q_div, q_dm, d_dm, q_m1, q_mn, q_nm, q_mlt, q_ltm, q_mle, q_lem, q_mm, Option.bind_some, if_true, if_false, Nat.add_zero, ite_self, q_us, q_un, decide_true, decide_false, Bool.false_eq_true, eq_self, and_self, and_true, true_and, and_false, false_and, or_true, true_or, or_false, false_or, d_ltT, d_ltF, d_leT, d_leF, d_eqT, d_eqF, f_X11_hasOffence_L2, f_X11_hasOffence_L2_F, f_X11_hasOffence_L36, f_X11_ofOffence, e6, e1, e2]
      first | exact hi | (rw [decide_eq_false (fun x => c1 (hq.mp x).1), Bool.false_or]; exact hi)
theorem m_has {N : Nat} {m : Nat → Int32} {g : Nat → Nat} {p d : Nat} (hN : 1000 < N) (h : MR m g) (hB : okB g) (hO : okO g) (hp : p < 6) (hd : d < 6) : f_X11_hasOffence N 1399 m (nI p) (nI d) = some (bI (gHas g (6 * p + d))) := by
  have h6 := b_6 hB
  exact m_hasL h hB hO hp hd (g 6) 0 N (by omega) (by omega)
