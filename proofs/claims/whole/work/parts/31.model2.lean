/-! the model's queue, its audit, its penance -/
theorem m_ahead {m : Nat → Int32} {g : Nat → Nat} {q s r : Nat} (hr : r < 36) (hs : s < 2147483648) (hq : q < 36) (e1 : m (1291 + 3 * r) = nI (oP g r)) (e2 : m (1291 + 3 * r + 1) = nI (oD g r)) (e3 : m (1291 + 3 * r + 2) = nI (oS g r)) (b1 : oP g r < 6) (b2 : oD g r < 6) (b3 : oS g r < 2147483648) (hne : oQ g r ≠ q) : f_X11_isAhead 1399 m (nI (1291 + 3 * r)) (nI (q / 6)) (nI (q % 6)) (nI s) = some (bI (!gBf g q s r)) := by
  unfold oQ at hne
  unfold gBf oQ
  by_cases c1 : oS g r = s
  · by_cases c2 : oP g r = q / 6
    · by_cases c3 : q % 6 ≤ oD g r
      · simp (disch := omega) only [n_0, n_1, n_2, n_3, n_4, n_5, n_6, n_7, n_8, n_9, n_10, n_12, n_13, n_15, n_20, n_24, n_27, n_31, n_32, n_33, n_36, n_44, n_48, n_50, n_57, n_58, n_59, n_72, n_74, n_75, n_85, n_91, n_96, n_97, n_99, n_122, n_255, n_300, n_432, n_600, n_900, n_999, n_1000, n_1291, n_1399, n_2798, n_11192, n_65536, n_65537, n_99999999, n_1000000, nI_add, pk_mul, q_le, q_lt, q_eq, q_cl, q_gi, q_gz, q_sub, q_div, q_dm, d_dm, q_m1, q_mn, q_nm, q_mlt, q_ltm, q_mle, q_lem, q_mm, Option.bind_some, if_true, if_false, Nat.add_zero, ite_self, q_us, q_un, decide_true, decide_false, Bool.false_eq_true, eq_self, and_self, and_true, true_and, and_false, false_and, or_true, true_or, or_false, false_or, d_ltT, d_ltF, d_leT, d_leF, d_eqT, d_eqF, f_X11_isAhead, e1, e2, e3]
        first | rfl | (rw [decide_eq_true (by omega)]; rfl)
      · simp (disch := omega) only [n_0, n_1, n_2, n_3, n_4, n_5, n_6, n_7, n_8, n_9, n_10, n_12, n_13, n_15, n_20, n_24, n_27, n_31, n_32, n_33, n_36, n_44, n_48, n_50, n_57, n_58, n_59, n_72, n_74, n_75, n_85, n_91, n_96, n_97, n_99, n_122, n_255, n_300, n_432, n_600, n_900, n_999, n_1000, n_1291, n_1399, n_2798, n_11192, n_65536, n_65537, n_99999999, n_1000000, nI_add, pk_mul, q_le, q_lt, q_eq, q_cl, q_gi, q_gz, q_sub, q_div, q_dm, d_dm, q_m1, q_mn, q_nm, q_mlt, q_ltm, q_mle, q_lem, q_mm, Option.bind_some, if_true, if_false, Nat.add_zero, ite_self, q_us, q_un, decide_true, decide_false, Bool.false_eq_true, eq_self, and_self, and_true, true_and, and_false, false_and, or_true, true_or, or_false, false_or, d_ltT, d_ltF, d_leT, d_leF, d_eqT, d_eqF, f_X11_isAhead, e1, e2, e3]
        first | rfl | (rw [decide_eq_false (by omega)]; rfl)
    · by_cases c3 : q / 6 ≤ oP g r
      · simp (disch := omega) only [n_0, n_1, n_2, n_3, n_4, n_5, n_6, n_7, n_8, n_9, n_10, n_12, n_13, n_15, n_20, n_24, n_27, n_31, n_32, n_33, n_36, n_44, n_48, n_50, n_57, n_58, n_59, n_72, n_74, n_75, n_85, n_91, n_96, n_97, n_99, n_122, n_255, n_300, n_432, n_600, n_900, n_999, n_1000, n_1291, n_1399, n_2798, n_11192, n_65536, n_65537, n_99999999, n_1000000, nI_add, pk_mul, q_le, q_lt, q_eq, q_cl, q_gi, q_gz, q_sub, q_div, q_dm, d_dm, q_m1, q_mn, q_nm, q_mlt, q_ltm, q_mle, q_lem, q_mm, Option.bind_some, if_true, if_false, Nat.add_zero, ite_self, q_us, q_un, decide_true, decide_false, Bool.false_eq_true, eq_self, and_self, and_true, true_and, and_false, false_and, or_true, true_or, or_false, false_or, d_ltT, d_ltF, d_leT, d_leF, d_eqT, d_eqF, f_X11_isAhead, e1, e2, e3]
        first | rfl | (rw [decide_eq_true (by omega)]; rfl)
      · simp (disch := omega) only [n_0, n_1, n_2, n_3, n_4, n_5, n_6, n_7, n_8, n_9, n_10, n_12, n_13, n_15, n_20, n_24, n_27, n_31, n_32, n_33, n_36, n_44, n_48, n_50, n_57, n_58, n_59, n_72, n_74, n_75, n_85, n_91, n_96, n_97, n_99, n_122, n_255, n_300, n_432, n_600, n_900, n_999, n_1000, n_1291, n_1399, n_2798, n_11192, n_65536, n_65537, n_99999999, n_1000000, nI_add, pk_mul, q_le, q_lt, q_eq, q_cl, q_gi, q_gz, q_sub, q_div, q_dm, d_dm, q_m1, q_mn, q_nm, q_mlt, q_ltm, q_mle, q_lem, q_mm, Option.bind_some, if_true, if_false, Nat.add_zero, ite_self, q_us, q_un, decide_true, decide_false, Bool.false_eq_true, eq_self, and_self, and_true, true_and, and_false, false_and, or_true, true_or, or_false, false_or, d_ltT, d_ltF, d_leT, d_leF, d_eqT, d_eqF, f_X11_isAhead, e1, e2, e3]
        first | rfl | (rw [decide_eq_false (by omega)]; rfl)
  · by_cases c2 : oS g r ≤ s
    · simp (disch := omega) only [n_0, n_1, n_2, n_3, n_4, n_5, n_6, n_7, n_8, n_9, n_10, n_12, n_13, n_15, n_20, n_24, n_27, n_31, n_32, n_33, n_36, n_44, n_48, n_50, n_57, n_58, n_59, n_72, n_74, n_75, n_85, n_91, n_96, n_97, n_99, n_122, n_255, n_300, n_432, n_600, n_900, n_999, n_1000, n_1291, n_1399, n_2798, n_11192, n_65536, n_65537, n_99999999, n_1000000, nI_add, pk_mul, q_le, q_lt, q_eq, q_cl, q_gi, q_gz, q_sub, q_div, q_dm, d_dm, q_m1, q_mn, q_nm, q_mlt, q_ltm, q_mle, q_lem, q_mm, Option.bind_some, if_true, if_false, Nat.add_zero, ite_self, q_us, q_un, decide_true, decide_false, Bool.false_eq_true, eq_self, and_self, and_true, true_and, and_false, false_and, or_true, true_or, or_false, false_or, d_ltT, d_ltF, d_leT, d_leF, d_eqT, d_eqF, f_X11_isAhead, e1, e2, e3]
      first | rfl | (rw [decide_eq_true (by omega)]; rfl)
    · simp (disch := omega) only [n_0, n_1, n_2, n_3, n_4, n_5, n_6, n_7, n_8, n_9, n_10, n_12, n_13, n_15, n_20, n_24, n_27, n_31, n_32, n_33, n_36, n_44, n_48, n_50, n_57, n_58, n_59, n_72, n_74, n_75, n_85, n_91, n_96, n_97, n_99, n_122, n_255, n_300, n_432, n_600, n_900, n_999, n_1000, n_1291, n_1399, n_2798, n_11192, n_65536, n_65537, n_99999999, n_1000000, nI_add, pk_mul, q_le, q_lt, q_eq, q_cl, q_gi, q_gz, q_sub, q_div, q_dm, d_dm, q_m1, q_mn, q_nm, q_mlt, q_ltm, q_mle, q_lem, q_mm, Option.bind_some, if_true, if_false, Nat.add_zero, ite_self, q_us, q_un, decide_true, decide_false, Bool.false_eq_true, eq_self, and_self, and_true, true_and, and_false, false_and, or_true, true_or, or_false, false_or, d_ltT, d_ltF, d_leT, d_leF, d_eqT, d_eqF, f_X11_isAhead, e1, e2, e3]
      first | rfl | (rw [decide_eq_false (by omega)]; rfl)
theorem m_layL2 {N l : Nat} {m : Nat → Int32} {r6 : Int32 → Int32 → Int32 → Int32 → (Nat → Int32) → Option (Nat → Int32)} {x1 x2 x3 : Int32} (hN : 1000 < N) (hl : l + 1 < 36) {o : Option (Nat → Int32)} (hr : r6 x1 x2 x3 (nI l) (upd (upd (upd m (1291 + 3 * (l + 1)) (m (1291 + 3 * l))) (1291 + 3 * (l + 1) + 1) (m (1291 + 3 * l + 1))) (1291 + 3 * (l + 1) + 2) (m (1291 + 3 * l + 2))) = o) : f_X11_layOffence_L31 N 1399 r6 N x1 x2 x3 (nI (l + 1)) (nI 0) m = o := by
  obtain ⟨n, e⟩ : ∃ n, N = n + 4 := ⟨N - 4, by omega⟩
  generalize hX : f_X11_layOffence_L31 N 1399 r6 = L
  rw [e]
  have hs : ∀ j, L (j + 1) = f_X11_layOffence_L31_F N 1399 r6 (L j) := fun j => by rw [← hX]; rfl
  rw [show n + 4 = (n + 3) + 1 by rfl, hs]
  simp (disch := omega) only [n_0, n_1, n_2, n_3, n_4, n_5, n_6, n_7, n_8, n_9, n_10, n_12, n_13, n_15, n_20, n_24, n_27, n_31, n_32, n_33, n_36, n_44, n_48, n_50, n_57, n_58, n_59, n_72, n_74, n_75, n_85, n_91, n_96, n_97, n_99, n_122, n_255, n_300, n_432, n_600, n_900, n_999, n_1000, n_1291, n_1399, n_2798, n_11192, n_65536, n_65537, n_99999999, n_1000000, nI_add, pk_mul, q_le, q_lt, q_eq, q_cl, q_gi, q_gz, q_sub, q_div, q_dm, d_dm, q_m1, q_mn, q_nm, q_mlt, q_ltm, q_mle, q_lem, q_mm, Option.bind_some, if_true, if_false, Nat.add_zero, ite_self, q_us, q_un, decide_true, decide_false, Bool.false_eq_true, eq_self, and_self, and_true, true_and, and_false, false_and, or_true, true_or, or_false, false_or, d_ltT, d_ltF, d_leT, d_leF, d_eqT, d_eqF, f_X11_layOffence_L31_F, f_X11_ofOffence, Nat.add_sub_cancel]
  rw [show n + 3 = (n + 2) + 1 by rfl, hs]
  simp (disch := omega) only [n_0, n_1, n_2, n_3, n_4, n_5, n_6, n_7, n_8, n_9, n_10, n_12, n_13, n_15, n_20, n_24, n_27, n_31, n_32, n_33, n_36, n_44, n_48, n_50, n_57, n_58, n_59, n_72, n_74, n_75, n_85, n_91, n_96, n_97, n_99, n_122, n_255, n_300, n_432, n_600, n_900, n_999, n_1000, n_1291, n_1399, n_2798, n_11192, n_65536, n_65537, n_99999999, n_1000000, nI_add, pk_mul, q_le, q_lt, q_eq, q_cl, q_gi, q_gz, q_sub, q_div, q_dm, d_dm, q_m1, q_mn, q_nm, q_mlt, q_ltm, q_mle, q_lem, q_mm, Option.bind_some, if_true, if_false, Nat.add_zero, ite_self, q_us, q_un, decide_true, decide_false, Bool.false_eq_true, eq_self, and_self, and_true, true_and, and_false, false_and, or_true, true_or, or_false, false_or, d_ltT, d_ltF, d_leT, d_leF, d_eqT, d_eqF, f_X11_layOffence_L31_F, f_X11_ofOffence, Nat.add_sub_cancel]
  rw [show n + 2 = (n + 1) + 1 by rfl, hs]
  simp (disch := omega) only [n_0, n_1, n_2, n_3, n_4, n_5, n_6, n_7, n_8, n_9, n_10, n_12, n_13, n_15, n_20, n_24, n_27, n_31, n_32, n_33, n_36, n_44, n_48, n_50, n_57, n_58, n_59, n_72, n_74, n_75, n_85, n_91, n_96, n_97, n_99, n_122, n_255, n_300, n_432, n_600, n_900, n_999, n_1000, n_1291, n_1399, n_2798, n_11192, n_65536, n_65537, n_99999999, n_1000000, nI_add, pk_mul, q_le, q_lt, q_eq, q_cl, q_gi, q_gz, q_sub, q_div, q_dm, d_dm, q_m1, q_mn, q_nm, q_mlt, q_ltm, q_mle, q_lem, q_mm, Option.bind_some, if_true, if_false, Nat.add_zero, ite_self, q_us, q_un, decide_true, decide_false, Bool.false_eq_true, eq_self, and_self, and_true, true_and, and_false, false_and, or_true, true_or, or_false, false_or, d_ltT, d_ltF, d_leT, d_leF, d_eqT, d_eqF, f_X11_layOffence_L31_F, f_X11_ofOffence, Nat.add_sub_cancel]
  rw [hs]
  simp (disch := omega) only [n_0, n_1, n_2, n_3, n_4, n_5, n_6, n_7, n_8, n_9, n_10, n_12, n_13, n_15, n_20, n_24, n_27, n_31, n_32, n_33, n_36, n_44, n_48, n_50, n_57, n_58, n_59, n_72, n_74, n_75, n_85, n_91, n_96, n_97, n_99, n_122, n_255, n_300, n_432, n_600, n_900, n_999, n_1000, n_1291, n_1399, n_2798, n_11192, n_65536, n_65537, n_99999999, n_1000000, nI_add, pk_mul, q_le, q_lt, q_eq, q_cl, q_gi, q_gz, q_sub, q_div, q_dm, d_dm, q_m1, q_mn, q_nm, q_mlt, q_ltm, q_mle, q_lem, q_mm, Option.bind_some, if_true, if_false, Nat.add_zero, ite_self, q_us, q_un, decide_true, decide_false, Bool.false_eq_true, eq_self, and_self, and_true, true_and, and_false, false_and, or_true, true_or, or_false, false_or, d_ltT, d_ltF, d_leT, d_leF, d_eqT, d_eqF, f_X11_layOffence_L31_F, f_X11_ofOffence, Nat.add_sub_cancel]
  exact hr
theorem m_layL {N : Nat} {g : Nat → Nat} {m0 : Nat → Int32} {q s : Nat} (hN : 1000 < N) (h : MR m0 g) (hB : okB g) (hO : okO g) (hh : gHas g q = false) (hn : g 6 < 36) (hq : q < 36) (hs : s < 2147483648) : ∀ (l j : Nat) (m : Nat → Int32), l ≤ g 6 → l < j → (∀ k, k < 1291 + 3 * l ∨ 1291 + 3 * (g 6 + 1) ≤ k → m k = m0 k) → (∀ k, 1291 + 3 * (l + 1) ≤ k → k < 1291 + 3 * (g 6 + 1) → m k = m0 (k - 3)) → ∃ m', f_X11_layOffence_L6 N 1399 j (nI (q / 6)) (nI (q % 6)) (nI s) (nI l) m = some m' ∧ MR m' (gLay g q s (gPos g q s l)) := by
  have h6 := h 6 (by omega)
  have hfin : ∀ (l : Nat) (m : Nat → Int32), l ≤ g 6 → (∀ k, k < 1291 + 3 * l ∨ 1291 + 3 * (g 6 + 1) ≤ k → m k = m0 k) → (∀ k, 1291 + 3 * (l + 1) ≤ k → k < 1291 + 3 * (g 6 + 1) → m k = m0 (k - 3)) → ∃ m', f_X11_layOffence_L71 N 1399 (nI (q / 6)) (nI (q % 6)) (nI s) (nI l) m = some m' ∧ MR m' (gLay g q s l) := by
    intro l m hl h3 h4
    have e6 : m 6 = nI (g 6) := by rw [h3 6 (by omega)]; exact h6
    refine ⟨upd (upd (upd (upd m (1291 + 3 * l) (nI (q / 6))) (1291 + 3 * l + 1) (nI (q % 6))) (1291 + 3 * l + 2) (nI s)) 6 (nI (g 6 + 1)), ?_, fun k hk => ?_⟩
    · simp (disch := omega) only [n_0, n_1, n_2, n_3, n_4, n_5, n_6, n_7, n_8, n_9, n_10, n_12, n_13, n_15, n_20, n_24, n_27, n_31, n_32, n_33, n_36, n_44, n_48, n_50, n_57, n_58, n_59, n_72, n_74, n_75, n_85, n_91, n_96, n_97, n_99, n_122, n_255, n_300, n_432, n_600, n_900, n_999, n_1000, n_1291, n_1399, n_2798, n_11192, n_65536, n_65537, n_99999999, n_1000000, nI_add, pk_mul, q_le, q_lt, q_eq, q_cl, q_gi, q_gz, q_sub, q_div, q_dm, d_dm, q_m1, q_mn, q_nm, q_mlt, q_ltm, q_mle, q_lem, q_mm, Option.bind_some, if_true, if_false, Nat.add_zero, ite_self, q_us, q_un, decide_true, decide_false, Bool.false_eq_true, eq_self, and_self, and_true, true_and, and_false, false_and, or_true, true_or, or_false, false_or, d_ltT, d_ltF, d_leT, d_leF, d_eqT, d_eqF, f_X11_layOffence_L71, f_X11_ofOffence, e6]
    · unfold gLay
      by_cases c6 : k = 6
      · rw [q_us c6, if_pos c6]
      · rw [q_un c6, if_neg c6]
        by_cases cx : k < 1291 + 3 * l ∨ 1291 + 3 * (g 6 + 1) ≤ k
        · rw [q_un (by omega), q_un (by omega), q_un (by omega), if_pos cx, h3 k cx]
          exact h k hk
        · rw [if_neg cx]
          by_cases c2 : k = 1291 + 3 * l + 2
          · rw [q_us c2, if_neg (by omega), if_neg (by omega), if_pos c2]
          · rw [q_un c2]
            by_cases c1 : k = 1291 + 3 * l + 1
            · rw [q_us c1, if_neg (by omega), if_pos c1]
            · rw [q_un c1]
              by_cases c0 : k = 1291 + 3 * l
              · rw [q_us c0, if_pos c0]
              · rw [q_un c0, if_neg c0, if_neg c1, if_neg c2, h4 k (by omega) (by omega)]
                exact h (k - 3) (by omega)
  intro l
  induction l with
  | zero =>
    intro j m h1 h2 h3 h4
    obtain ⟨j, rfl⟩ : ∃ t, j = t + 1 := ⟨j - 1, by omega⟩
    obtain ⟨m', e1, e2⟩ := hfin 0 m (by omega) h3 h4
    refine ⟨m', ?_, e2⟩
    simp (disch := omega) only [n_0, n_1, n_2, n_3, n_4, n_5, n_6, n_7, n_8, n_9, n_10, n_12, n_13, n_15, n_20, n_24, n_27, n_31, n_32, n_33, n_36, n_44, n_48, n_50, n_57, n_58, n_59, n_72, n_74, n_75, n_85, n_91, n_96, n_97, n_99, n_122, n_255, n_300, n_432, n_600, n_900, n_999, n_1000, n_1291, n_1399, n_2798, n_11192, n_65536, n_65537, n_99999999, n_1000000, nI_add, pk_mul, q_le, q_lt, q_eq, q_cl, q_gi, q_gz, q_sub, q_div, q_dm, d_dm, q_m1, q_mn, q_nm, q_mlt, q_ltm, q_mle, q_lem, q_mm, Option.bind_some, if_true, if_false, Nat.add_zero, ite_self, q_us, q_un, decide_true, decide_false, Bool.false_eq_true, eq_self, and_self, and_true, true_and, and_false, false_and, or_true, true_or, or_false, false_or, d_ltT, d_ltF, d_leT, d_leF, d_eqT, d_eqF, f_X11_layOffence_L6, f_X11_layOffence_L6_F]
    exact e1
  | succ l ih =>
    intro j m h1 h2 h3 h4
    obtain ⟨j, rfl⟩ : ∃ t, j = t + 1 := ⟨j - 1, by omega⟩
    have hb := o_bd hB hO (show l < g 6 by omega)
    have hb2 := hO.1 l (by omega)
    have b3 := b_3 hB
    obtain ⟨a1, a2, a3⟩ := m_o h (show l < 36 by omega)
    have ea := m_ahead (m := m) (g := g) (q := q) (s := s) (r := l) (by omega) hs hq ((h3 _ (by omega)).trans a1) ((h3 _ (by omega)).trans a2) ((h3 _ (by omega)).trans a3) hb.2.2.2.2 (by omega) (by omega) (gHas_f hh l (by omega))
    unfold gPos
    cases hc : gBf g q s l
    · rw [hc] at ea
      obtain ⟨m', e1, e2⟩ := hfin (l + 1) m (by omega) h3 h4
      refine ⟨m', ?_, e2⟩
      simp (disch := omega) only [n_0, n_1, n_2, n_3, n_4, n_5, n_6, n_7, n_8, n_9, n_10, n_12, n_13, n_15, n_20, n_24, n_27, n_31, n_32, n_33, n_36, n_44, n_48, n_50, n_57, n_58, n_59, n_72, n_74, n_75, n_85, n_91, n_96, n_97, n_99, n_122, n_255, n_300, n_432, n_600, n_900, n_999, n_1000, n_1291, n_1399, n_2798, n_11192, n_65536, n_65537, n_99999999, n_1000000, nI_add, pk_mul, q_le, q_lt, q_eq, q_cl, q_gi, q_gz, q_sub, q_div, q_dm, d_dm, q_m1, q_mn, q_nm, q_mlt, q_ltm, q_mle, q_lem, q_mm, Option.bind_some, if_true, if_false, Nat.add_zero, ite_self, q_us, q_un, decide_true, decide_false, Bool.false_eq_true, eq_self, and_self, and_true, true_and, and_false, false_and, or_true, true_or, or_false, false_or, d_ltT, d_ltF, d_leT, d_leF, d_eqT, d_eqF, f_X11_layOffence_L6, f_X11_layOffence_L6_F, f_X11_ofOffence, Nat.add_sub_cancel, ea, q_b0, Bool.not_false, Bool.true_eq_false]
      exact e1
    · rw [hc] at ea
      obtain ⟨m', e1, e2⟩ := ih j (upd (upd (upd m (1291 + 3 * (l + 1)) (m (1291 + 3 * l))) (1291 + 3 * (l + 1) + 1) (m (1291 + 3 * l + 1))) (1291 + 3 * (l + 1) + 2) (m (1291 + 3 * l + 2))) (by omega) (by omega)
        (fun k hk => by
          rw [q_un (by omega), q_un (by omega), q_un (by omega)]
          exact h3 k (by omega))
        (fun k hk1 hk2 => by
          by_cases c2 : k = 1291 + 3 * (l + 1) + 2
          · rw [q_us c2, h3 _ (by omega)]
            exact congrArg m0 (by omega)
          · rw [q_un c2]
            by_cases c1 : k = 1291 + 3 * (l + 1) + 1
            · rw [q_us c1, h3 _ (by omega)]
              exact congrArg m0 (by omega)
            · rw [q_un c1]
              by_cases c0 : k = 1291 + 3 * (l + 1)
              · rw [q_us c0, h3 _ (by omega)]
                exact congrArg m0 (by omega)
              · rw [q_un c0]
                exact h4 k (by omega) hk2)
      refine ⟨m', ?_, by rw [if_pos rfl]; exact e2⟩
      simp (disch := omega) only [n_0, n_1, n_2, n_3, n_4, n_5, n_6, n_7, n_8, n_9, n_10, n_12, n_13, n_15, n_20, n_24, n_27, n_31, n_32, n_33, n_36, n_44, n_48, n_50, n_57, n_58, n_59, n_72, n_74, n_75, n_85, n_91, n_96, n_97, n_99, n_122, n_255, n_300, n_432, n_600, n_900, n_999, n_1000, n_1291, n_1399, n_2798, n_11192, n_65536, n_65537, n_99999999, n_1000000, nI_add, pk_mul, q_le, q_lt, q_eq, q_cl, q_gi, q_gz, q_sub, q_div, q_dm, d_dm, q_m1, q_mn, q_nm, q_mlt, q_ltm, q_mle, q_lem, q_mm, Option.bind_some, if_true, if_false, Nat.add_zero, ite_self, q_us, q_un, decide_true, decide_false, Bool.false_eq_true, eq_self, and_self, and_true, true_and, and_false, false_and, or_true, true_or, or_false, false_or, d_ltT, d_ltF, d_leT, d_leF, d_eqT, d_eqF, f_X11_layOffence_L6, f_X11_layOffence_L6_F, f_X11_ofOffence, Nat.add_sub_cancel, ea, q_b0, Bool.not_true]
      exact m_layL2 hN (by omega) e1
theorem m_lay {N : Nat} {g : Nat → Nat} {m : Nat → Int32} {q s : Nat} (hN : 1000 < N) (h : MR m g) (hB : okB g) (hO : okO g) (hh : gHas g q = false) (hn : g 6 < 36) (hq : q < 36) (hs : s < 2147483648) : ∃ m', f_X11_layOffence N 1399 m (nI (q / 6)) (nI (q % 6)) (nI s) = some m' ∧ MR m' (gLay g q s (gPos g q s (g 6))) := by
  obtain ⟨m', e1, e2⟩ := m_layL (N := N) hN h hB hO hh hn hq hs (g 6) N m (Nat.le_refl _) (by omega) (fun k _ => rfl) (fun k h1 h2 => by omega)
  refine ⟨m', ?_, e2⟩
  simp (disch := omega) only [n_0, n_1, n_2, n_3, n_4, n_5, n_6, n_7, n_8, n_9, n_10, n_12, n_13, n_15, n_20, n_24, n_27, n_31, n_32, n_33, n_36, n_44, n_48, n_50, n_57, n_58, n_59, n_72, n_74, n_75, n_85, n_91, n_96, n_97, n_99, n_122, n_255, n_300, n_432, n_600, n_900, n_999, n_1000, n_1291, n_1399, n_2798, n_11192, n_65536, n_65537, n_99999999, n_1000000, nI_add, pk_mul, q_le, q_lt, q_eq, q_cl, q_gi, q_gz, q_sub, q_div, q_dm, d_dm, q_m1, q_mn, q_nm, q_mlt, q_ltm, q_mle, q_lem, q_mm, Option.bind_some, if_true, if_false, Nat.add_zero, ite_self, q_us, q_un, decide_true, decide_false, Bool.false_eq_true, eq_self, and_self, and_true, true_and, and_false, false_and, or_true, true_or, or_false, false_or, d_ltT, d_ltF, d_leT, d_leF, d_eqT, d_eqF, f_X11_layOffence, h 6 (by omega)]
  exact e1
theorem sQ_MR {w g : Nat → Nat} (h : sQ w g) (hB : okB w) : (∀ q f, cF g q f = cF w q f) ∧ (∀ q, cQ g q = cQ w q) ∧ ∀ q, q % 6 < w 3 → cS g q = cS w q ∧ susp g q = susp w q := by
  obtain ⟨s1, s2, s3, s4⟩ := h
  have b3 := b_3 hB
  have hc := sT_c s1 hB
  refine ⟨hc.1, hc.2.1, fun q hq => ?_⟩
  have e : cS g q = cS w q := by
    unfold cS
    rw [hc.2.1, sD_F s2 (by omega)]
    congr 1
    funext f
    exact hc.1 q f
  refine ⟨e, ?_⟩
  unfold susp
  rw [e, hc.2.1, s4 1 (by omega), s4 2 (by omega)]
theorem gAud_skip {w : Nat → Nat} (hw : Ok w) {p : Nat} (hp : p < 6) : ∀ n, w 3 + n ≤ 6 → gAud w (6 * p + (w 3 + n)) = gAud w (6 * p + w 3) := by
  intro n
  induction n with
  | zero => intro _; rfl
  | succ n ih =>
    intro hn
    have e : gAud w (6 * p + (w 3 + (n + 1))) = gAud1 w (6 * p + (w 3 + n)) (gAud w (6 * p + (w 3 + n))) := rfl
    rw [e]
    unfold gAud1
    rw [susp_0 hw.1 (cQ_0 hw.1 hw.2.2.2.1 (by omega) (Or.inl (by omega))), if_neg (fun h => Bool.false_ne_true h.1)]
    exact ih (by omega)
theorem gAud_end {w : Nat → Nat} (hw : Ok w) : ∀ n, 6 * w 4 + n ≤ 36 → gAud w (6 * w 4 + n) = gAud w (6 * w 4) := by
  intro n
  induction n with
  | zero => intro _; rfl
  | succ n ih =>
    intro hn
    have e : gAud w (6 * w 4 + (n + 1)) = gAud1 w (6 * w 4 + n) (gAud w (6 * w 4 + n)) := rfl
    rw [e]
    unfold gAud1
    have e2 := cQ_0 (p := (6 * w 4 + n) / 6) (d := (6 * w 4 + n) % 6) hw.1 hw.2.2.2.1 (by omega) (Or.inr (by omega))
    rw [show 6 * ((6 * w 4 + n) / 6) + (6 * w 4 + n) % 6 = 6 * w 4 + n by omega] at e2
    rw [susp_0 hw.1 e2, if_neg (fun h => Bool.false_ne_true h.1)]
    exact ih (by omega)
theorem m_auditL2 {N : Nat} {w : Nat → Nat} {p : Nat} {r4 : Int32 → Int32 → Int32 → (Nat → Int32) → (Nat → Int32) → Option (Int32 × Int32 × (Nat → Int32) × (Nat → Int32))} {P : Int32 × Int32 × (Nat → Int32) × (Nat → Int32) → Prop} (hN : 1000 < N) (hw : Ok w) (hp : p < w 4) (hr : ∀ a o m, MR m (gAud w (6 * p + w 3)) → ∃ t, r4 (nI (gAud w (6 * p + w 3) 6 - w 6)) (nI (p + 1)) a o m = some t ∧ P t) : ∀ (k d j : Nat) (a : Int32) (o m : Nat → Int32), d + k = w 3 → k < j → MR m (gAud w (6 * p + d)) → ∃ t, f_X11_holdAudit_L14 N 1399 r4 j (nI (gAud w (6 * p + d) 6 - w 6)) (nI p) (nI d) a o m = some t ∧ P t := by
  have b3 := b_3 hw.1
  have b4 := b_4 hw.1
  intro k
  induction k with
  | zero =>
    intro d j a o m h1 h2 h3
    obtain ⟨j, rfl⟩ : ∃ t, j = t + 1 := ⟨j - 1, by omega⟩
    have e : d = w 3 := by omega
    subst e
    obtain ⟨s1, s2, s3⟩ := gAud_s hw (6 * p + w 3) (by omega)
    have e3 := h3 3 (by omega)
    rw [s2.2.1.1] at e3
    obtain ⟨t, t1, t2⟩ := hr a o m h3
    refine ⟨t, ?_, t2⟩
    simp (disch := omega) only [n_0, n_1, n_2, n_3, n_4, n_5, n_6, n_7, n_8, n_9, n_10, n_12, n_13, n_15, n_20, n_24, n_27, n_31, n_32, n_33, n_36, n_44, n_48, n_50, n_57, n_58, n_59, n_72, n_74, n_75, n_85, n_91, n_96, n_97, n_99, n_122, n_255, n_300, n_432, n_600, n_900, n_999, n_1000, n_1291, n_1399, n_2798, n_11192, n_65536, n_65537, n_99999999, n_1000000, nI_add, pk_mul, q_le, q_lt, q_eq, q_cl, q_gi, q_gz, q_sub, q_div, q_dm, d_dm, q_m1, q_mn, q_nm, q_mlt, q_ltm, q_mle, q_lem, q_mm, Option.bind_some, if_true, if_false, Nat.add_zero, ite_self, q_us, q_un, decide_true, decide_false, Bool.false_eq_true, eq_self, and_self, and_true, true_and, and_false, false_and, or_true, true_or, or_false, false_or, d_ltT, d_ltF, d_leT, d_leF, d_eqT, d_eqF, f_X11_holdAudit_L14, f_X11_holdAudit_L14_F, e3]
    exact t1
  | succ k ih =>
    intro d j a o m h1 h2 h3
    obtain ⟨j, rfl⟩ : ∃ t, j = t + 1 := ⟨j - 1, by omega⟩
    obtain ⟨s1, s2, s3⟩ := gAud_s hw (6 * p + d) (by omega)
    obtain ⟨x1, x2, x3⟩ := sQ_MR s2 hw.1
    obtain ⟨y1, y2⟩ := x3 (6 * p + d) (by omega)
    have e3 := h3 3 (by omega)
    rw [s2.2.1.1] at e3
    have hd3 : d < gAud w (6 * p + d) 3 := by rw [s2.2.1.1]; omega
    obtain ⟨o1, u1⟩ := m_susp (a := a) (o := o) hN h3 s1.1 s1.2.1 s1.2.2.2.1 (show p < 6 by omega) hd3
    rw [y2] at u1
    have es : gAud w (6 * p + (d + 1)) = gAud1 w (6 * p + d) (gAud w (6 * p + d)) := rfl
    have hi := fun a o m => ih (d + 1) j a o m (by omega) (by omega)
    rw [es] at hi
    unfold gAud1 at hi
    have u2 := m_has hN h3 s1.1 s1.2.2.2.2 (show p < 6 by omega) (show d < 6 by omega)
    have hq : 6 * p + d < 36 := by omega
    have b6 := b_6 s1.1
    cases hc : susp w (6 * p + d)
    · rw [hc] at u1 hi
      rw [if_neg (fun h => Bool.false_ne_true h.1)] at hi
      obtain ⟨t, t1, t2⟩ := hi (nI (cQ (gAud w (6 * p + d)) (6 * p + d))) o1 m h3
      refine ⟨t, ?_, t2⟩
      simp (disch := omega) only [n_0, n_1, n_2, n_3, n_4, n_5, n_6, n_7, n_8, n_9, n_10, n_12, n_13, n_15, n_20, n_24, n_27, n_31, n_32, n_33, n_36, n_44, n_48, n_50, n_57, n_58, n_59, n_72, n_74, n_75, n_85, n_91, n_96, n_97, n_99, n_122, n_255, n_300, n_432, n_600, n_900, n_999, n_1000, n_1291, n_1399, n_2798, n_11192, n_65536, n_65537, n_99999999, n_1000000, nI_add, pk_mul, q_le, q_lt, q_eq, q_cl, q_gi, q_gz, q_sub, q_div, q_dm, d_dm, q_m1, q_mn, q_nm, q_mlt, q_ltm, q_mle, q_lem, q_mm, Option.bind_some, if_true, if_false, Nat.add_zero, ite_self, q_us, q_un, decide_true, decide_false, Bool.false_eq_true, eq_self, and_self, and_true, true_and, and_false, false_and, or_true, true_or, or_false, false_or, d_ltT, d_ltF, d_leT, d_leF, d_eqT, d_eqF, f_X11_holdAudit_L14, f_X11_holdAudit_L14_F, f_X11_holdAudit_L61, e3, u1, q_b0]
      exact t1
    · rw [hc] at u1 hi
      cases hh : gHas (gAud w (6 * p + d)) (6 * p + d)
      · rw [hh] at u2 hi
        rw [if_pos ⟨rfl, rfl⟩] at hi
        have hn := full_has s1.1 s1.2.2.2.2 hq hh
        obtain ⟨o2, u3⟩ := m_scoreOf (a := nI (cQ (gAud w (6 * p + d)) (6 * p + d))) (o := o1) hN h3 s1.1 s1.2.1 s1.2.2.2.1 (show p < 6 by omega) hd3
        rw [y1] at u3
        have cl := cS_lt (q := 6 * p + d) hw.1 hw.2.1 hw.2.2.2.1
        obtain ⟨m2, u4, u5⟩ := m_lay (s := cS w (6 * p + d)) hN h3 s1.1 s1.2.2.2.2 hh hn hq (by omega)
        rw [show (6 * p + d) / 6 = p by omega, show (6 * p + d) % 6 = d by omega] at u4
        obtain ⟨t, t1, t2⟩ := hi (nI (cQ (gAud w (6 * p + d)) (6 * p + d))) o2 m2 u5
        refine ⟨t, ?_, t2⟩
        rw [gLay_6, show gAud w (6 * p + d) 6 + 1 - w 6 = gAud w (6 * p + d) 6 - w 6 + 1 by omega] at t1
        simp (disch := omega) only [n_0, n_1, n_2, n_3, n_4, n_5, n_6, n_7, n_8, n_9, n_10, n_12, n_13, n_15, n_20, n_24, n_27, n_31, n_32, n_33, n_36, n_44, n_48, n_50, n_57, n_58, n_59, n_72, n_74, n_75, n_85, n_91, n_96, n_97, n_99, n_122, n_255, n_300, n_432, n_600, n_900, n_999, n_1000, n_1291, n_1399, n_2798, n_11192, n_65536, n_65537, n_99999999, n_1000000, nI_add, pk_mul, q_le, q_lt, q_eq, q_cl, q_gi, q_gz, q_sub, q_div, q_dm, d_dm, q_m1, q_mn, q_nm, q_mlt, q_ltm, q_mle, q_lem, q_mm, Option.bind_some, if_true, if_false, Nat.add_zero, ite_self, q_us, q_un, decide_true, decide_false, Bool.false_eq_true, eq_self, and_self, and_true, true_and, and_false, false_and, or_true, true_or, or_false, false_or, d_ltT, d_ltF, d_leT, d_leF, d_eqT, d_eqF, f_X11_holdAudit_L14, f_X11_holdAudit_L14_F, f_X11_holdAudit_L61, e3, u1, u2, u3, u4, q_b0, Bool.true_eq_false]
        exact t1
      · rw [hh] at u2 hi
        rw [if_neg (fun h => Bool.false_ne_true h.2.symm)] at hi
        obtain ⟨t, t1, t2⟩ := hi (nI (cQ (gAud w (6 * p + d)) (6 * p + d))) o1 m h3
        refine ⟨t, ?_, t2⟩
        simp (disch := omega) only [n_0, n_1, n_2, n_3, n_4, n_5, n_6, n_7, n_8, n_9, n_10, n_12, n_13, n_15, n_20, n_24, n_27, n_31, n_32, n_33, n_36, n_44, n_48, n_50, n_57, n_58, n_59, n_72, n_74, n_75, n_85, n_91, n_96, n_97, n_99, n_122, n_255, n_300, n_432, n_600, n_900, n_999, n_1000, n_1291, n_1399, n_2798, n_11192, n_65536, n_65537, n_99999999, n_1000000, nI_add, pk_mul, q_le, q_lt, q_eq, q_cl, q_gi, q_gz, q_sub, q_div, q_dm, d_dm, q_m1, q_mn, q_nm, q_mlt, q_ltm, q_mle, q_lem, q_mm, Option.bind_some, if_true, if_false, Nat.add_zero, ite_self, q_us, q_un, decide_true, decide_false, Bool.false_eq_true, eq_self, and_self, and_true, true_and, and_false, false_and, or_true, true_or, or_false, false_or, d_ltT, d_ltF, d_leT, d_leF, d_eqT, d_eqF, f_X11_holdAudit_L14, f_X11_holdAudit_L14_F, f_X11_holdAudit_L61, e3, u1, u2, q_b0, Bool.true_eq_false]
        exact t1
theorem m_auditL {N : Nat} {w : Nat → Nat} (hN : 1000 < N) (hw : Ok w) : ∀ (k p j : Nat) (a : Int32) (o m : Nat → Int32), p + k = w 4 → k < j → MR m (gAud w (6 * p)) → ∃ t, f_X11_holdAudit_L4 N 1399 j (nI (gAud w (6 * p) 6 - w 6)) (nI p) a o m = some t ∧ (t.1 = nI (gAud w 36 6 - w 6) ∧ MR t.2.2.2 (gAud w 36)) := by
  have b3 := b_3 hw.1
  have b4 := b_4 hw.1
  intro k
  induction k with
  | zero =>
    intro p j a o m h1 h2 h3
    obtain ⟨j, rfl⟩ : ∃ t, j = t + 1 := ⟨j - 1, by omega⟩
    have e : p = w 4 := by omega
    subst e
    obtain ⟨s1, s2, s3⟩ := gAud_s hw (6 * w 4) (by omega)
    have e4 := h3 4 (by omega)
    rw [s2.2.2.1.1] at e4
    have ee := gAud_end hw (36 - 6 * w 4) (by omega)
    rw [show 6 * w 4 + (36 - 6 * w 4) = 36 by omega] at ee
    refine ⟨(nI (gAud w (6 * w 4) 6 - w 6), a, o, m), ?_, ?_⟩
    · simp (disch := omega) only [n_0, n_1, n_2, n_3, n_4, n_5, n_6, n_7, n_8, n_9, n_10, n_12, n_13, n_15, n_20, n_24, n_27, n_31, n_32, n_33, n_36, n_44, n_48, n_50, n_57, n_58, n_59, n_72, n_74, n_75, n_85, n_91, n_96, n_97, n_99, n_122, n_255, n_300, n_432, n_600, n_900, n_999, n_1000, n_1291, n_1399, n_2798, n_11192, n_65536, n_65537, n_99999999, n_1000000, nI_add, pk_mul, q_le, q_lt, q_eq, q_cl, q_gi, q_gz, q_sub, q_div, q_dm, d_dm, q_m1, q_mn, q_nm, q_mlt, q_ltm, q_mle, q_lem, q_mm, Option.bind_some, if_true, if_false, Nat.add_zero, ite_self, q_us, q_un, decide_true, decide_false, Bool.false_eq_true, eq_self, and_self, and_true, true_and, and_false, false_and, or_true, true_or, or_false, false_or, d_ltT, d_ltF, d_leT, d_leF, d_eqT, d_eqF, f_X11_holdAudit_L4, f_X11_holdAudit_L4_F, e4]
    · rw [ee]
      exact ⟨rfl, h3⟩
  | succ k ih =>
    intro p j a o m h1 h2 h3
    obtain ⟨j, rfl⟩ : ∃ t, j = t + 1 := ⟨j - 1, by omega⟩
    obtain ⟨s1, s2, s3⟩ := gAud_s hw (6 * p) (by omega)
    have e4 := h3 4 (by omega)
    rw [s2.2.2.1.1] at e4
    have es := gAud_skip hw (show p < 6 by omega) (6 - w 3) (by omega)
    rw [show 6 * p + (w 3 + (6 - w 3)) = 6 * (p + 1) by omega] at es
    have hi := fun a o m => ih (p + 1) j a o m (by omega) (by omega)
    rw [es] at hi
    obtain ⟨t, t1, t2⟩ := m_auditL2 (N := N) (p := p) (r4 := f_X11_holdAudit_L4 N 1399 j) (P := fun t => t.1 = nI (gAud w 36 6 - w 6) ∧ MR t.2.2.2 (gAud w 36)) hN hw (by omega) hi (w 3) 0 N a o m (by omega) (by omega) h3
    refine ⟨t, ?_, t2⟩
    simp (disch := omega) only [n_0, n_1, n_2, n_3, n_4, n_5, n_6, n_7, n_8, n_9, n_10, n_12, n_13, n_15, n_20, n_24, n_27, n_31, n_32, n_33, n_36, n_44, n_48, n_50, n_57, n_58, n_59, n_72, n_74, n_75, n_85, n_91, n_96, n_97, n_99, n_122, n_255, n_300, n_432, n_600, n_900, n_999, n_1000, n_1291, n_1399, n_2798, n_11192, n_65536, n_65537, n_99999999, n_1000000, nI_add, pk_mul, q_le, q_lt, q_eq, q_cl, q_gi, q_gz, q_sub, q_div, q_dm, d_dm, q_m1, q_mn, q_nm, q_mlt, q_ltm, q_mle, q_lem, q_mm, Option.bind_some, if_true, if_false, Nat.add_zero, ite_self, q_us, q_un, decide_true, decide_false, Bool.false_eq_true, eq_self, and_self, and_true, true_and, and_false, false_and, or_true, true_or, or_false, false_or, d_ltT, d_ltF, d_leT, d_leF, d_eqT, d_eqF, f_X11_holdAudit_L4, f_X11_holdAudit_L4_F, e4]
    exact t1
theorem m_audit {N : Nat} {w : Nat → Nat} {a : Int32} {o m : Nat → Int32} (hN : 1000 < N) (hw : Ok w) (h : MR m w) : ∃ t, f_X11_holdAudit N 1399 a o m = some t ∧ (t.1 = nI (gAud w 36 6 - w 6) ∧ MR t.2.2.2 (gAud w 36)) := by
  have b4 := b_4 hw.1
  have e := m_auditL hN hw (w 4) 0 N a o m (by omega) (by omega) h
  rw [show gAud w (6 * 0) = w from rfl, Nat.sub_self] at e
  exact e
theorem m_penance {N : Nat} {m : Nat → Int32} {g : Nat → Nat} (hN : 1000 < N) (h : MR m g) (hO : Ok g) : f_X11_penance N 1399 m = some (nI (gPen g)) := by
  have h6 := b_6 hO.1
  have b3 := b_3 hO.1
  have e6 := h 6 (by omega)
  unfold gPen
  by_cases hz : g 6 = 0
  · simp (disch := omega) only [n_0, n_1, n_2, n_3, n_4, n_5, n_6, n_7, n_8, n_9, n_10, n_12, n_13, n_15, n_20, n_24, n_27, n_31, n_32, n_33, n_36, n_44, n_48, n_50, n_57, n_58, n_59, n_72, n_74, n_75, n_85, n_91, n_96, n_97, n_99, n_122, n_255, n_300, n_432, n_600, n_900, n_999, n_1000, n_1291, n_1399, n_2798, n_11192, n_65536, n_65537, n_99999999, n_1000000, nI_add, pk_mul, q_le, q_lt, q_eq, q_cl, q_gi, q_gz, q_sub, q_div, q_dm, d_dm, q_m1, q_mn, q_nm, q_mlt, q_ltm, q_mle, q_lem, q_mm, Option.bind_some, if_true, if_false, Nat.add_zero, ite_self, q_us, q_un, decide_true, decide_false, Bool.false_eq_true, eq_self, and_self, and_true, true_and, and_false, false_and, or_true, true_or, or_false, false_or, d_ltT, d_ltF, d_leT, d_leF, d_eqT, d_eqF, f_X11_penance, e6, hz]
  · have hb := o_bd hO.1 hO.2.2.2.2 (show 0 < g 6 by omega)
    have hb2 := hO.2.2.2.2.1 0 (by omega)
    obtain ⟨e1, e2, e3⟩ := m_o h (show 0 < 36 by omega)
    rw [Nat.mul_zero, Nat.add_zero] at e1 e2 e3
    have hc := cQ_le hO.1 (oQ g 0)
    have ep := m_ofPair (p := oP g 0) (d := oD g 0) hN h hO.1 hO.2.2.2.1 hb.2.2.2.2 (by omega)
    rw [show 6 * oP g 0 + oD g 0 = oQ g 0 from rfl] at ep
    by_cases hl : cQ g (oQ g 0) ≤ oS g 0
    · by_cases hl2 : cQ g (oQ g 0) < oS g 0
      · simp (disch := omega) only [n_0, n_1, n_2, n_3, n_4, n_5, n_6, n_7, n_8, n_9, n_10, n_12, n_13, n_15, n_20, n_24, n_27, n_31, n_32, n_33, n_36, n_44, n_48, n_50, n_57, n_58, n_59, n_72, n_74, n_75, n_85, n_91, n_96, n_97, n_99, n_122, n_255, n_300, n_432, n_600, n_900, n_999, n_1000, n_1291, n_1399, n_2798, n_11192, n_65536, n_65537, n_99999999, n_1000000, nI_add, pk_mul, q_le, q_lt, q_eq, q_cl, q_gi, q_gz, q_sub, q_div, q_dm, d_dm, q_m1, q_mn, q_nm, q_mlt, q_ltm, q_mle, q_lem, q_mm, Option.bind_some, if_true, if_false, Nat.add_zero, ite_self, q_us, q_un, decide_true, decide_false, Bool.false_eq_true, eq_self, and_self, and_true, true_and, and_false, false_and, or_true, true_or, or_false, false_or, d_ltT, d_ltF, d_leT, d_leF, d_eqT, d_eqF, f_X11_penance, f_X11_ofOffence, e6, e1, e2, e3, ep]
      · simp (disch := omega) only [n_0, n_1, n_2, n_3, n_4, n_5, n_6, n_7, n_8, n_9, n_10, n_12, n_13, n_15, n_20, n_24, n_27, n_31, n_32, n_33, n_36, n_44, n_48, n_50, n_57, n_58, n_59, n_72, n_74, n_75, n_85, n_91, n_96, n_97, n_99, n_122, n_255, n_300, n_432, n_600, n_900, n_999, n_1000, n_1291, n_1399, n_2798, n_11192, n_65536, n_65537, n_99999999, n_1000000, nI_add, pk_mul, q_le, q_lt, q_eq, q_cl, q_gi, q_gz, q_sub, q_div, q_dm, d_dm, q_m1, q_mn, q_nm, q_mlt, q_ltm, q_mle, q_lem, q_mm, Option.bind_some, if_true, if_false, Nat.add_zero, ite_self, q_us, q_un, decide_true, decide_false, Bool.false_eq_true, eq_self, and_self, and_true, true_and, and_false, false_and, or_true, true_or, or_false, false_or, d_ltT, d_ltF, d_leT, d_leF, d_eqT, d_eqF, f_X11_penance, f_X11_ofOffence, e6, e1, e2, e3, ep]
        exact eN (by omega)
    · simp (disch := omega) only [n_0, n_1, n_2, n_3, n_4, n_5, n_6, n_7, n_8, n_9, n_10, n_12, n_13, n_15, n_20, n_24, n_27, n_31, n_32, n_33, n_36, n_44, n_48, n_50, n_57, n_58, n_59, n_72, n_74, n_75, n_85, n_91, n_96, n_97, n_99, n_122, n_255, n_300, n_432, n_600, n_900, n_999, n_1000, n_1291, n_1399, n_2798, n_11192, n_65536, n_65537, n_99999999, n_1000000, nI_add, pk_mul, q_le, q_lt, q_eq, q_cl, q_gi, q_gz, q_sub, q_div, q_dm, d_dm, q_m1, q_mn, q_nm, q_mlt, q_ltm, q_mle, q_lem, q_mm, Option.bind_some, if_true, if_false, Nat.add_zero, ite_self, q_us, q_un, decide_true, decide_false, Bool.false_eq_true, eq_self, and_self, and_true, true_and, and_false, false_and, or_true, true_or, or_false, false_or, d_ltT, d_ltF, d_leT, d_leF, d_eqT, d_eqF, f_X11_penance, f_X11_ofOffence, e6, e1, e2, e3, ep]
/-- rows of w cells from a on: the row r is taken out of n -/
theorem m_dropOL {N : Nat} {g : Nat → Nat} {r n : Nat} {m0 : Nat → Int32} (hn : n < 36) (h6 : m0 6 = nI n) : ∀ (k i j : Nat) (m : Nat → Int32), i + k = 3 * n → k < j → 3 * r ≤ i → (∀ t, t < 1291 + 3 * r ∨ 1291 + i ≤ t → m t = m0 t) → (∀ t, 1291 + 3 * r ≤ t → t < 1291 + i → m t = m0 (t + 3)) → ∃ m', f_X11_dropOffence_L13 N 1399 j (nI (1291 + i)) m = some m' ∧ (∀ t, t < 1291 + 3 * r ∨ 1291 + 3 * n ≤ t → m' t = m0 t) ∧ ∀ t, 1291 + 3 * r ≤ t → t < 1291 + 3 * n → m' t = m0 (t + 3) := by
  intro k
  induction k with
  | zero =>
    intro i j m h1 h2 hi h3 h4
    obtain ⟨j, rfl⟩ : ∃ t, j = t + 1 := ⟨j - 1, by omega⟩
    have e6 : m 6 = nI n := by rw [h3 6 (by omega)]; exact h6
    refine ⟨m, ?_, fun t ht => h3 t (by omega), fun t ht1 ht2 => h4 t ht1 (by omega)⟩
    simp (disch := omega) only [n_0, n_1, n_2, n_3, n_4, n_5, n_6, n_7, n_8, n_9, n_10, n_12, n_13, n_15, n_20, n_24, n_27, n_31, n_32, n_33, n_36, n_44, n_48, n_50, n_57, n_58, n_59, n_72, n_74, n_75, n_85, n_91, n_96, n_97, n_99, n_122, n_255, n_300, n_432, n_600, n_900, n_999, n_1000, n_1291, n_1399, n_2798, n_11192, n_65536, n_65537, n_99999999, n_1000000, nI_add, pk_mul, q_le, q_lt, q_eq, q_cl, q_gi, q_gz, q_sub, q_div, q_dm, d_dm, q_m1, q_mn, q_nm, q_mlt, q_ltm, q_mle, q_lem, q_mm, Option.bind_some, if_true, if_false, Nat.add_zero, ite_self, q_us, q_un, decide_true, decide_false, Bool.false_eq_true, eq_self, and_self, and_true, true_and, and_false, false_and, or_true, true_or, or_false, false_or, d_ltT, d_ltF, d_leT, d_leF, d_eqT, d_eqF, f_X11_dropOffence_L13, f_X11_dropOffence_L13_F, f_X11_ofOffence, e6]
  | succ k ih =>
    intro i j m h1 h2 hi h3 h4
    obtain ⟨j, rfl⟩ : ∃ t, j = t + 1 := ⟨j - 1, by omega⟩
    have e6 : m 6 = nI n := by rw [h3 6 (by omega)]; exact h6
    obtain ⟨m', a1, a2, a3⟩ := ih (i + 1) j (upd m (1291 + i) (m (1291 + i + 3))) (by omega) (by omega) (by omega)
      (fun t ht => by rw [q_un (by omega)]; exact h3 t (by omega))
      (fun t ht1 ht2 => by
        by_cases c : t = 1291 + i
        · rw [q_us c, h3 _ (by omega), c]
        · rw [q_un c]; exact h4 t ht1 (by omega))
    refine ⟨m', ?_, a2, a3⟩
    simp (disch := omega) only [n_0, n_1, n_2, n_3, n_4, n_5, n_6, n_7, n_8, n_9, n_10, n_12, n_13, n_15, n_20, n_24, n_27, n_31, n_32, n_33, n_36, n_44, n_48, n_50, n_57, n_58, n_59, n_72, n_74, n_75, n_85, n_91, n_96, n_97, n_99, n_122, n_255, n_300, n_432, n_600, n_900, n_999, n_1000, n_1291, n_1399, n_2798, n_11192, n_65536, n_65537, n_99999999, n_1000000, nI_add, pk_mul, q_le, q_lt, q_eq, q_cl, q_gi, q_gz, q_sub, q_div, q_dm, d_dm, q_m1, q_mn, q_nm, q_mlt, q_ltm, q_mle, q_lem, q_mm, Option.bind_some, if_true, if_false, Nat.add_zero, ite_self, q_us, q_un, decide_true, decide_false, Bool.false_eq_true, eq_self, and_self, and_true, true_and, and_false, false_and, or_true, true_or, or_false, false_or, d_ltT, d_ltF, d_leT, d_leF, d_eqT, d_eqF, f_X11_dropOffence_L13, f_X11_dropOffence_L13_F, f_X11_ofOffence, e6]
    exact a1
theorem m_dropO {N : Nat} {g : Nat → Nat} {m : Nat → Int32} {r : Nat} (hN : 1000 < N) (h : MR m g) (hn : g 6 ≤ 36) (hr : r < g 6) : ∃ g' m', f_X11_dropOffence N 1399 m (nI r) = some m' ∧ MR m' g' ∧ g' 6 = g 6 - 1 ∧ (∀ t, t ≠ 6 → t < 1291 + 3 * r → g' t = g t) ∧ ∀ t, 1291 + 3 * r ≤ t → t < 1291 + 3 * (g 6 - 1) → g' t = g (t + 3) := by
  have e6 := h 6 (by omega)
  have hu := h.up (i := 6) (v := g 6 - 1)
  obtain ⟨m', a1, a2, a3⟩ := m_dropOL (N := N) (g := g) (r := r) (n := g 6 - 1) (m0 := upd m 6 (nI (g 6 - 1))) (by omega) (q_us rfl) (3 * (g 6 - 1) - 3 * r) (3 * r) N (upd m 6 (nI (g 6 - 1))) (by omega) (by omega) (by omega) (fun t _ => rfl) (fun t h1 h2 => by omega)
  refine ⟨fun t => if t < 1291 + 3 * r ∨ 1291 + 3 * (g 6 - 1) ≤ t then up g 6 (g 6 - 1) t else up g 6 (g 6 - 1) (t + 3), m', ?_, fun k hk => ?_, ?_, fun t h1 h2 => ?_, fun t h1 h2 => ?_⟩
  · simp (disch := omega) only [n_0, n_1, n_2, n_3, n_4, n_5, n_6, n_7, n_8, n_9, n_10, n_12, n_13, n_15, n_20, n_24, n_27, n_31, n_32, n_33, n_36, n_44, n_48, n_50, n_57, n_58, n_59, n_72, n_74, n_75, n_85, n_91, n_96, n_97, n_99, n_122, n_255, n_300, n_432, n_600, n_900, n_999, n_1000, n_1291, n_1399, n_2798, n_11192, n_65536, n_65537, n_99999999, n_1000000, nI_add, pk_mul, q_le, q_lt, q_eq, q_cl, q_gi, q_gz, q_sub, q_div, q_dm, d_dm, q_m1, q_mn, q_nm, q_mlt, q_ltm, q_mle, q_lem, q_mm, Option.bind_some, if_true, if_false, Nat.add_zero, ite_self, q_us, q_un, decide_true, decide_false, Bool.false_eq_true, eq_self, and_self, and_true, true_and, and_false, false_and, or_true, true_or, or_false, false_or, d_ltT, d_ltF, d_leT, d_leF, d_eqT, d_eqF, f_X11_dropOffence, f_X11_ofOffence, e6]
    exact a1
  · by_cases c : k < 1291 + 3 * r ∨ 1291 + 3 * (g 6 - 1) ≤ k
    · rw [a2 k c]
      show _ = nI (if _ then _ else _)
      rw [if_pos c]
      exact hu k hk
    · rw [a3 k (by omega) (by omega)]
      show _ = nI (if _ then _ else _)
      rw [if_neg c]
      exact hu (k + 3) (by omega)
  · show (if _ then _ else _) = _
    rw [if_pos (by omega), up_s rfl]
  · show (if _ then _ else _) = _
    rw [if_pos (by omega), up_n h1]
  · show (if _ then _ else _) = _
    rw [if_neg (by omega), up_n (by omega)]
theorem m_dropTL {N : Nat} {r n : Nat} {m0 : Nat → Int32} (hn : n < 300) (h5 : m0 5 = nI n) : ∀ (k i j : Nat) (m : Nat → Int32), i + k = 4 * n → k < j → 4 * r ≤ i → (∀ t, t < 91 + 4 * r ∨ 91 + i ≤ t → m t = m0 t) → (∀ t, 91 + 4 * r ≤ t → t < 91 + i → m t = m0 (t + 4)) → ∃ m', f_X11_dropThrow_L12 N 1399 j (nI (91 + i)) m = some m' ∧ (∀ t, t < 91 + 4 * r ∨ 91 + 4 * n ≤ t → m' t = m0 t) ∧ ∀ t, 91 + 4 * r ≤ t → t < 91 + 4 * n → m' t = m0 (t + 4) := by
  intro k
  induction k with
  | zero =>
    intro i j m h1 h2 hi h3 h4
    obtain ⟨j, rfl⟩ : ∃ t, j = t + 1 := ⟨j - 1, by omega⟩
    have e5 : m 5 = nI n := by rw [h3 5 (by omega)]; exact h5
    refine ⟨m, ?_, fun t ht => h3 t (by omega), fun t ht1 ht2 => h4 t ht1 (by omega)⟩
    simp (disch := omega) only [n_0, n_1, n_2, n_3, n_4, n_5, n_6, n_7, n_8, n_9, n_10, n_12, n_13, n_15, n_20, n_24, n_27, n_31, n_32, n_33, n_36, n_44, n_48, n_50, n_57, n_58, n_59, n_72, n_74, n_75, n_85, n_91, n_96, n_97, n_99, n_122, n_255, n_300, n_432, n_600, n_900, n_999, n_1000, n_1291, n_1399, n_2798, n_11192, n_65536, n_65537, n_99999999, n_1000000, nI_add, pk_mul, q_le, q_lt, q_eq, q_cl, q_gi, q_gz, q_sub, q_div, q_dm, d_dm, q_m1, q_mn, q_nm, q_mlt, q_ltm, q_mle, q_lem, q_mm, Option.bind_some, if_true, if_false, Nat.add_zero, ite_self, q_us, q_un, decide_true, decide_false, Bool.false_eq_true, eq_self, and_self, and_true, true_and, and_false, false_and, or_true, true_or, or_false, false_or, d_ltT, d_ltF, d_leT, d_leF, d_eqT, d_eqF, f_X11_dropThrow_L12, f_X11_dropThrow_L12_F, f_X11_ofThrow, e5]
  | succ k ih =>
    intro i j m h1 h2 hi h3 h4
    obtain ⟨j, rfl⟩ : ∃ t, j = t + 1 := ⟨j - 1, by omega⟩
    have e5 : m 5 = nI n := by rw [h3 5 (by omega)]; exact h5
    obtain ⟨m', a1, a2, a3⟩ := ih (i + 1) j (upd m (91 + i) (m (91 + i + 4))) (by omega) (by omega) (by omega)
      (fun t ht => by rw [q_un (by omega)]; exact h3 t (by omega))
      (fun t ht1 ht2 => by
        by_cases c : t = 91 + i
        · rw [q_us c, h3 _ (by omega), c]
        · rw [q_un c]; exact h4 t ht1 (by omega))
    refine ⟨m', ?_, a2, a3⟩
    simp (disch := omega) only [n_0, n_1, n_2, n_3, n_4, n_5, n_6, n_7, n_8, n_9, n_10, n_12, n_13, n_15, n_20, n_24, n_27, n_31, n_32, n_33, n_36, n_44, n_48, n_50, n_57, n_58, n_59, n_72, n_74, n_75, n_85, n_91, n_96, n_97, n_99, n_122, n_255, n_300, n_432, n_600, n_900, n_999, n_1000, n_1291, n_1399, n_2798, n_11192, n_65536, n_65537, n_99999999, n_1000000, nI_add, pk_mul, q_le, q_lt, q_eq, q_cl, q_gi, q_gz, q_sub, q_div, q_dm, d_dm, q_m1, q_mn, q_nm, q_mlt, q_ltm, q_mle, q_lem, q_mm, Option.bind_some, if_true, if_false, Nat.add_zero, ite_self, q_us, q_un, decide_true, decide_false, Bool.false_eq_true, eq_self, and_self, and_true, true_and, and_false, false_and, or_true, true_or, or_false, false_or, d_ltT, d_ltF, d_leT, d_leF, d_eqT, d_eqF, f_X11_dropThrow_L12, f_X11_dropThrow_L12_F, f_X11_ofThrow, e5]
    exact a1
theorem m_dropT {N : Nat} {g : Nat → Nat} {m : Nat → Int32} {r : Nat} (hN : 2000 < N) (h : MR m g) (hn : g 5 ≤ 300) (hr : r < g 5) : ∃ g' m', f_X11_dropThrow N 1399 m (nI r) = some m' ∧ MR m' g' ∧ g' 5 = g 5 - 1 ∧ (∀ t, t ≠ 5 → t < 91 + 4 * r ∨ 1291 ≤ t → g' t = g t) ∧ ∀ t, 91 + 4 * r ≤ t → t < 91 + 4 * (g 5 - 1) → g' t = g (t + 4) := by
  have e5 := h 5 (by omega)
  have hu := h.up (i := 5) (v := g 5 - 1)
  obtain ⟨m', a1, a2, a3⟩ := m_dropTL (N := N) (r := r) (n := g 5 - 1) (m0 := upd m 5 (nI (g 5 - 1))) (by omega) (q_us rfl) (4 * (g 5 - 1) - 4 * r) (4 * r) N (upd m 5 (nI (g 5 - 1))) (by omega) (by omega) (by omega) (fun t _ => rfl) (fun t h1 h2 => by omega)
  refine ⟨fun t => if t < 91 + 4 * r ∨ 91 + 4 * (g 5 - 1) ≤ t then up g 5 (g 5 - 1) t else up g 5 (g 5 - 1) (t + 4), m', ?_, fun k hk => ?_, ?_, fun t h1 h2 => ?_, fun t h1 h2 => ?_⟩
  · simp (disch := omega) only [n_0, n_1, n_2, n_3, n_4, n_5, n_6, n_7, n_8, n_9, n_10, n_12, n_13, n_15, n_20, n_24, n_27, n_31, n_32, n_33, n_36, n_44, n_48, n_50, n_57, n_58, n_59, n_72, n_74, n_75, n_85, n_91, n_96, n_97, n_99, n_122, n_255, n_300, n_432, n_600, n_900, n_999, n_1000, n_1291, n_1399, n_2798, n_11192, n_65536, n_65537, n_99999999, n_1000000, nI_add, pk_mul, q_le, q_lt, q_eq, q_cl, q_gi, q_gz, q_sub, q_div, q_dm, d_dm, q_m1, q_mn, q_nm, q_mlt, q_ltm, q_mle, q_lem, q_mm, Option.bind_some, if_true, if_false, Nat.add_zero, ite_self, q_us, q_un, decide_true, decide_false, Bool.false_eq_true, eq_self, and_self, and_true, true_and, and_false, false_and, or_true, true_or, or_false, false_or, d_ltT, d_ltF, d_leT, d_leF, d_eqT, d_eqF, f_X11_dropThrow, f_X11_ofThrow, e5]
    exact a1
  · by_cases c : k < 91 + 4 * r ∨ 91 + 4 * (g 5 - 1) ≤ k
    · rw [a2 k c]
      show _ = nI (if _ then _ else _)
      rw [if_pos c]
      exact hu k hk
    · rw [a3 k (by omega) (by omega)]
      show _ = nI (if _ then _ else _)
      rw [if_neg c]
      exact hu (k + 4) (by omega)
  · show (if _ then _ else _) = _
    rw [if_pos (by omega), up_s rfl]
  · show (if _ then _ else _) = _
    rw [if_pos (by omega), up_n h1]
  · show (if _ then _ else _) = _
    rw [if_neg (by omega), up_n (by omega)]
