/-! the cases that write -/
theorem o_rec {N p L : Nat} {g : Nat → Nat} {ln lt fr op os m tb mo : Nat → Int32} (hN : 1000 < N) (hO : Ok g) (hR : NR g ln lt) (hF : FR g fr) (hQ : QR g op os) (hM : MR m g) (hp : p < g 4) (h0 : cP g p ≠ 0) (hL : L + 11 ≤ 900) (h : OR L tb mo) : ∃ L' tb' mo', L' ≤ L + 11 ∧ f_X10_writeRecordOf N ln lt fr (nI (g 6)) op (nI L) tb (nI p) = some (nI L', tb') ∧ f_X11_printPlayer N m (nI L) mo (nI p) = some (nI L', mo') ∧ OR L' tb' mo' := by
  have b4 := b_4 hO.1
  obtain ⟨l1, l2, l3⟩ := nL_sp (hO.2.2.1.1 p hp)
  have u3 := e_playerThrows (p := p) hN hO.1 hO.2.1 hO.2.2.2.1 hF (by omega)
  have hc := cP_le hO.1 p
  have hne : ¬ nI (cP g p) = nI 0 := by rw [q_eq (by omega) (by omega)]; exact h0
  rcases Nat.eq_zero_or_pos L with c | c
  · subst c
    obtain ⟨L', tb', mo', i0, i1, i2, i3⟩ := o_nameL (N := N) hN hO hR hF hQ hM hp (nL (nC g p)) 0 N N 0 tb mo (by omega) (by omega) (by omega) (by omega) h
    refine ⟨L', tb', mo', by omega, ?_, ?_, i3⟩
    · unfold f_X10_writeRecordOf f_X8_appendSeparator
      simp only [n_0, n_1, n_2, n_3, n_4, n_5, n_6, n_7, n_8, n_9, n_10, n_12, n_13, n_15, n_20, n_24, n_27, n_31, n_32, n_33, n_36, n_44, n_48, n_50, n_57, n_58, n_59, n_72, n_74, n_75, n_85, n_91, n_96, n_97, n_99, n_122, n_255, n_300, n_432, n_600, n_900, n_999, n_1000, n_1291, n_1399, n_2798, n_11192, n_65536, n_65537, n_99999999, n_1000000]
      rw [u3, Option.bind_some, if_neg hne, if_pos (by rw [q_le (by omega) (by omega)]; omega), Option.bind_some]
      exact i1
    · unfold f_X11_printPlayer f_X11_printPlayer_L13
      simp only [n_0, n_1, n_2, n_3, n_4, n_5, n_6, n_7, n_8, n_9, n_10, n_12, n_13, n_15, n_20, n_24, n_27, n_31, n_32, n_33, n_36, n_44, n_48, n_50, n_57, n_58, n_59, n_72, n_74, n_75, n_85, n_91, n_96, n_97, n_99, n_122, n_255, n_300, n_432, n_600, n_900, n_999, n_1000, n_1291, n_1399, n_2798, n_11192, n_65536, n_65537, n_99999999, n_1000000]
      rw [if_pos (by rw [q_le (by omega) (by omega)]; omega)]
      exact i2
  · obtain ⟨p1, p2, p3⟩ := o_push (L := L) (v := 32) (by omega) (by omega) h
    obtain ⟨L', tb', mo', i0, i1, i2, i3⟩ := o_nameL (N := N) hN hO hR hF hQ hM hp (nL (nC g p)) 0 N N (L + 1) _ _ (by omega) (by omega) (by omega) (by omega) p3
    refine ⟨L', tb', mo', by omega, ?_, ?_, i3⟩
    · unfold f_X10_writeRecordOf f_X8_appendSeparator
      simp only [n_0, n_1, n_2, n_3, n_4, n_5, n_6, n_7, n_8, n_9, n_10, n_12, n_13, n_15, n_20, n_24, n_27, n_31, n_32, n_33, n_36, n_44, n_48, n_50, n_57, n_58, n_59, n_72, n_74, n_75, n_85, n_91, n_96, n_97, n_99, n_122, n_255, n_300, n_432, n_600, n_900, n_999, n_1000, n_1291, n_1399, n_2798, n_11192, n_65536, n_65537, n_99999999, n_1000000]
      rw [u3, Option.bind_some, if_neg hne, if_neg (by rw [q_le (by omega) (by omega)]; omega), p1, Option.bind_some, Option.bind_some]
      exact i1
    · unfold f_X11_printPlayer f_X11_printPlayer_L13
      simp only [n_0, n_1, n_2, n_3, n_4, n_5, n_6, n_7, n_8, n_9, n_10, n_12, n_13, n_15, n_20, n_24, n_27, n_31, n_32, n_33, n_36, n_44, n_48, n_50, n_57, n_58, n_59, n_72, n_74, n_75, n_85, n_91, n_96, n_97, n_99, n_122, n_255, n_300, n_432, n_600, n_900, n_999, n_1000, n_1291, n_1399, n_2798, n_11192, n_65536, n_65537, n_99999999, n_1000000]
      rw [if_neg (by rw [q_le (by omega) (by omega)]; omega), p2, Option.bind_some]
      exact i2
theorem m_byNameL2 {N n p : Nat} {m : Nat → Int32} {g : Nat → Nat} {r2 : Int32 → Int32 → Option Int32} (hM : MR m g) (hB : okB g) (hP : okP g) (hn : n < 1000) (hp : p < g 4) : ∀ j i : Nat, i ≤ g 4 → g 4 < i + j → f_X11_byName_L17 N m r2 j (nI n) (nI p) (nI (gPl (nLt g) i p)) (nI i) = if gPl (nLt g) (g 4) p = n then some (nI p) else r2 (nI n) (nI (p + 1)) := by
  have b4 := b_4 hB
  have e4 : m 4 = nI (g 4) := hM 4 (by omega)
  intro j
  induction j with
  | zero => intro i h1 h2; omega
  | succ j ih =>
    intro i h1 h2
    have hl := gPl_le (P := nLt g) (n := i) (p := p)
    by_cases h : g 4 ≤ i
    · have e : i = g 4 := by omega
      subst e
      by_cases c : gPl (nLt g) (g 4) p = n
      · rw [if_pos c]
        simp (disch := omega) only [n_0, n_1, n_2, n_3, n_4, n_5, n_6, n_7, n_8, n_9, n_10, n_12, n_13, n_15, n_20, n_24, n_27, n_31, n_32, n_33, n_36, n_44, n_48, n_50, n_57, n_58, n_59, n_72, n_74, n_75, n_85, n_91, n_96, n_97, n_99, n_122, n_255, n_300, n_432, n_600, n_900, n_999, n_1000, n_1291, n_1399, n_2798, n_11192, n_65536, n_65537, n_99999999, n_1000000, nI_add, pk_mul, q_le, q_lt, q_eq, q_cl, q_gi, q_gz, q_sub, q_div, q_dm, d_dm, q_m1, q_mn, q_nm, q_mlt, q_ltm, q_mle, q_lem, q_mm, Option.bind_some, if_true, if_false, Nat.add_zero, ite_self, q_us, q_un, decide_true, decide_false, Bool.false_eq_true, eq_self, and_self, and_true, true_and, and_false, false_and, or_true, true_or, or_false, false_or, d_ltT, d_ltF, d_leT, d_leF, d_eqT, d_eqF, f_X11_byName_L17, f_X11_byName_L17_F, e4, c]
      · rw [if_neg c]
        simp (disch := omega) only [n_0, n_1, n_2, n_3, n_4, n_5, n_6, n_7, n_8, n_9, n_10, n_12, n_13, n_15, n_20, n_24, n_27, n_31, n_32, n_33, n_36, n_44, n_48, n_50, n_57, n_58, n_59, n_72, n_74, n_75, n_85, n_91, n_96, n_97, n_99, n_122, n_255, n_300, n_432, n_600, n_900, n_999, n_1000, n_1291, n_1399, n_2798, n_11192, n_65536, n_65537, n_99999999, n_1000000, nI_add, pk_mul, q_le, q_lt, q_eq, q_cl, q_gi, q_gz, q_sub, q_div, q_dm, d_dm, q_m1, q_mn, q_nm, q_mlt, q_ltm, q_mle, q_lem, q_mm, Option.bind_some, if_true, if_false, Nat.add_zero, ite_self, q_us, q_un, decide_true, decide_false, Bool.false_eq_true, eq_self, and_self, and_true, true_and, and_false, false_and, or_true, true_or, or_false, false_or, d_ltT, d_ltF, d_leT, d_leF, d_eqT, d_eqF, f_X11_byName_L17, f_X11_byName_L17_F, e4]
    · have hi := ih (i + 1) (by omega) (by omega)
      have o1 : m (85 + i) = nI (nC g i) := hM _ (by omega)
      have o2 : m (85 + p) = nI (nC g p) := hM _ (by omega)
      have c1 := (hP.1 i (by omega)).1
      have c2 := (hP.1 p hp).1
      rw [show gPl (nLt g) (i + 1) p = gPl (nLt g) i p + if nLt g i p = true then 1 else 0 from rfl] at hi
      by_cases c : nC g p ≤ nC g i
      · have e : nLt g i p = false := decide_eq_false (by omega)
        rw [e, if_neg Bool.false_ne_true, Nat.add_zero] at hi
        simp (disch := omega) only [n_0, n_1, n_2, n_3, n_4, n_5, n_6, n_7, n_8, n_9, n_10, n_12, n_13, n_15, n_20, n_24, n_27, n_31, n_32, n_33, n_36, n_44, n_48, n_50, n_57, n_58, n_59, n_72, n_74, n_75, n_85, n_91, n_96, n_97, n_99, n_122, n_255, n_300, n_432, n_600, n_900, n_999, n_1000, n_1291, n_1399, n_2798, n_11192, n_65536, n_65537, n_99999999, n_1000000, nI_add, pk_mul, q_le, q_lt, q_eq, q_cl, q_gi, q_gz, q_sub, q_div, q_dm, d_dm, q_m1, q_mn, q_nm, q_mlt, q_ltm, q_mle, q_lem, q_mm, Option.bind_some, if_true, if_false, Nat.add_zero, ite_self, q_us, q_un, decide_true, decide_false, Bool.false_eq_true, eq_self, and_self, and_true, true_and, and_false, false_and, or_true, true_or, or_false, false_or, d_ltT, d_ltF, d_leT, d_leF, d_eqT, d_eqF, f_X11_byName_L17, f_X11_byName_L17_F, f_X11_byName_L56, e4, o1, o2]
        exact hi
      · have e : nLt g i p = true := decide_eq_true (by omega)
        rw [e, if_pos rfl] at hi
        simp (disch := omega) only [n_0, n_1, n_2, n_3, n_4, n_5, n_6, n_7, n_8, n_9, n_10, n_12, n_13, n_15, n_20, n_24, n_27, n_31, n_32, n_33, n_36, n_44, n_48, n_50, n_57, n_58, n_59, n_72, n_74, n_75, n_85, n_91, n_96, n_97, n_99, n_122, n_255, n_300, n_432, n_600, n_900, n_999, n_1000, n_1291, n_1399, n_2798, n_11192, n_65536, n_65537, n_99999999, n_1000000, nI_add, pk_mul, q_le, q_lt, q_eq, q_cl, q_gi, q_gz, q_sub, q_div, q_dm, d_dm, q_m1, q_mn, q_nm, q_mlt, q_ltm, q_mle, q_lem, q_mm, Option.bind_some, if_true, if_false, Nat.add_zero, ite_self, q_us, q_un, decide_true, decide_false, Bool.false_eq_true, eq_self, and_self, and_true, true_and, and_false, false_and, or_true, true_or, or_false, false_or, d_ltT, d_ltF, d_leT, d_leF, d_eqT, d_eqF, f_X11_byName_L17, f_X11_byName_L17_F, f_X11_byName_L56, e4, o1, o2]
        exact hi
theorem m_byNameL {N n : Nat} {m : Nat → Int32} {g : Nat → Nat} (hN : 1000 < N) (hM : MR m g) (hB : okB g) (hP : okP g) (hn : n < 1000) : ∀ k i j : Nat, i + k = g 4 → k < j → f_X11_byName_L2 N m j (nI n) (nI i) = some (srch (fun p => decide (gPl (nLt g) (g 4) p = n)) k i) := by
  have b4 := b_4 hB
  have e4 : m 4 = nI (g 4) := hM 4 (by omega)
  intro k
  induction k with
  | zero =>
    intro i j h1 h2
    obtain ⟨j, rfl⟩ : ∃ t, j = t + 1 := ⟨j - 1, by omega⟩
    simp (disch := omega) only [n_0, n_1, n_2, n_3, n_4, n_5, n_6, n_7, n_8, n_9, n_10, n_12, n_13, n_15, n_20, n_24, n_27, n_31, n_32, n_33, n_36, n_44, n_48, n_50, n_57, n_58, n_59, n_72, n_74, n_75, n_85, n_91, n_96, n_97, n_99, n_122, n_255, n_300, n_432, n_600, n_900, n_999, n_1000, n_1291, n_1399, n_2798, n_11192, n_65536, n_65537, n_99999999, n_1000000, nI_add, pk_mul, q_le, q_lt, q_eq, q_cl, q_gi, q_gz, q_sub, q_div, q_dm, d_dm, q_m1, q_mn, q_nm, q_mlt, q_ltm, q_mle, q_lem, q_mm, Option.bind_some, if_true, if_false, Nat.add_zero, ite_self, q_us, q_un, decide_true, decide_false, Bool.false_eq_true, eq_self, and_self, and_true, true_and, and_false, false_and, or_true, true_or, or_false, false_or, d_ltT, d_ltF, d_leT, d_leF, d_eqT, d_eqF, f_X11_byName_L2, f_X11_byName_L2_F, e4]
    rfl
  | succ k ih =>
    intro i j h1 h2
    obtain ⟨j, rfl⟩ : ∃ t, j = t + 1 := ⟨j - 1, by omega⟩
    have hi := ih (i + 1) j (by omega) (by omega)
    have u := m_byNameL2 (N := N) (p := i) (r2 := f_X11_byName_L2 N m j) hM hB hP hn (by omega) N 0 (by omega) (by omega)
    show f_X11_byName_L2_F N m (f_X11_byName_L2 N m j) (nI n) (nI i) = _
    unfold f_X11_byName_L2_F srch
    simp only [n_0, n_1, n_2, n_3, n_4, n_5, n_6, n_7, n_8, n_9, n_10, n_12, n_13, n_15, n_20, n_24, n_27, n_31, n_32, n_33, n_36, n_44, n_48, n_50, n_57, n_58, n_59, n_72, n_74, n_75, n_85, n_91, n_96, n_97, n_99, n_122, n_255, n_300, n_432, n_600, n_900, n_999, n_1000, n_1291, n_1399, n_2798, n_11192, n_65536, n_65537, n_99999999, n_1000000]
    rw [q_cl (by omega), e4, if_neg (by rw [q_le (by omega) (by omega)]; omega)]
    refine u.trans ?_
    by_cases c : gPl (nLt g) (g 4) i = n
    · rw [if_pos c, if_pos (decide_eq_true c)]
    · rw [if_neg c, if_neg (fun h => c (of_decide_eq_true h))]
      exact hi
theorem m_byName {N n : Nat} {m : Nat → Int32} {g : Nat → Nat} (hN : 1000 < N) (hM : MR m g) (hB : okB g) (hP : okP g) (hn : n < 1000) : f_X11_byName N m (nI n) = some (srch (fun p => decide (gPl (nLt g) (g 4) p = n)) (g 4) 0) := by
  have b4 := b_4 hB
  exact m_byNameL hN hM hB hP hn (g 4) 0 N (by omega) (by omega)
theorem e_throwsM {N : Nat} {fr : Nat → Int32} (hN : 1000 < N) : f_X4_playerThrows N fr (-nI 1) = some (nI 0) := by
  have h1 : f_X10_pairOf (-nI 1) (nI 0) = some (-nI 6) := by decide +kernel
  have h2 : f_X10_cellOf (-nI 6) (nI 1) = some (-nI 72) := by decide +kernel
  have h3 : ∀ i, i < 72 → -nI 72 + nI i < 0 := by decide +kernel
  have h4 := e_sumN (N := N) (n := 432) (k := 72) (f := fr) (a := -nI 72) (by omega) h3 (by omega) N 0 (by omega) (by omega)
  unfold f_X4_playerThrows
  simp only [n_0, n_1, n_2, n_3, n_4, n_5, n_6, n_7, n_8, n_9, n_10, n_12, n_13, n_15, n_20, n_24, n_27, n_31, n_32, n_33, n_36, n_44, n_48, n_50, n_57, n_58, n_59, n_72, n_74, n_75, n_85, n_91, n_96, n_97, n_99, n_122, n_255, n_300, n_432, n_600, n_900, n_999, n_1000, n_1291, n_1399, n_2798, n_11192, n_65536, n_65537, n_99999999, n_1000000]
  rw [h1, Option.bind_some, h2, Option.bind_some]
  unfold f_X10_sumOf
  simp only [n_0, n_1, n_2, n_3, n_4, n_5, n_6, n_7, n_8, n_9, n_10, n_12, n_13, n_15, n_20, n_24, n_27, n_31, n_32, n_33, n_36, n_44, n_48, n_50, n_57, n_58, n_59, n_72, n_74, n_75, n_85, n_91, n_96, n_97, n_99, n_122, n_255, n_300, n_432, n_600, n_900, n_999, n_1000, n_1291, n_1399, n_2798, n_11192, n_65536, n_65537, n_99999999, n_1000000]
  rw [h4, Option.bind_some]
theorem o_recsL {N : Nat} {g : Nat → Nat} {ln lt fr op os m : Nat → Int32} {mt : Int32} (hN : 1000 < N) (hO : Ok g) (hR : NR g ln lt) (hF : FR g fr) (hQ : QR g op os) (hM : MR m g) : ∀ (k i j j' L : Nat) (tb mo : Nat → Int32), i + k = g 4 → k < j → k < j' → L ≤ 11 * i → OR L tb mo → ∃ L' tb' mo', L' ≤ 900 ∧ f_X10_writeRecords_L10 N (nI (g 4)) ln lt fr (nI (g 6)) op j (nI i) (nI L) tb = some (nI L', nI L', tb') ∧ f_X11_writeRecords_L12 N m j' (nI i) mt (nI L) mo = some (nI L', mt, nI L', mo') ∧ OR L' tb' mo' := by
  have b4 := b_4 hO.1
  have e4 : m 4 = nI (g 4) := hM 4 (by omega)
  intro k
  induction k with
  | zero =>
    intro i j j' L tb mo h1 h2 h3 h4 h5
    obtain ⟨j, rfl⟩ : ∃ t, j = t + 1 := ⟨j - 1, by omega⟩
    obtain ⟨j', rfl⟩ : ∃ t, j' = t + 1 := ⟨j' - 1, by omega⟩
    refine ⟨L, tb, mo, by omega, ?_, ?_, h5⟩
    · simp (disch := omega) only [n_0, n_1, n_2, n_3, n_4, n_5, n_6, n_7, n_8, n_9, n_10, n_12, n_13, n_15, n_20, n_24, n_27, n_31, n_32, n_33, n_36, n_44, n_48, n_50, n_57, n_58, n_59, n_72, n_74, n_75, n_85, n_91, n_96, n_97, n_99, n_122, n_255, n_300, n_432, n_600, n_900, n_999, n_1000, n_1291, n_1399, n_2798, n_11192, n_65536, n_65537, n_99999999, n_1000000, nI_add, pk_mul, q_le, q_lt, q_eq, q_cl, q_gi, q_gz, q_sub, q_div, q_dm, d_dm, q_m1, q_mn, q_nm, q_mlt, q_ltm, q_mle, q_lem, q_mm, Option.bind_some, if_true, if_false, Nat.add_zero, ite_self, q_us, q_un, decide_true, decide_false, Bool.false_eq_true, eq_self, and_self, and_true, true_and, and_false, false_and, or_true, true_or, or_false, false_or, d_ltT, d_ltF, d_leT, d_leF, d_eqT, d_eqF, f_X10_writeRecords_L10, f_X10_writeRecords_L10_F]
    · simp (disch := omega) only [n_0, n_1, n_2, n_3, n_4, n_5, n_6, n_7, n_8, n_9, n_10, n_12, n_13, n_15, n_20, n_24, n_27, n_31, n_32, n_33, n_36, n_44, n_48, n_50, n_57, n_58, n_59, n_72, n_74, n_75, n_85, n_91, n_96, n_97, n_99, n_122, n_255, n_300, n_432, n_600, n_900, n_999, n_1000, n_1291, n_1399, n_2798, n_11192, n_65536, n_65537, n_99999999, n_1000000, nI_add, pk_mul, q_le, q_lt, q_eq, q_cl, q_gi, q_gz, q_sub, q_div, q_dm, d_dm, q_m1, q_mn, q_nm, q_mlt, q_ltm, q_mle, q_lem, q_mm, Option.bind_some, if_true, if_false, Nat.add_zero, ite_self, q_us, q_un, decide_true, decide_false, Bool.false_eq_true, eq_self, and_self, and_true, true_and, and_false, false_and, or_true, true_or, or_false, false_or, d_ltT, d_ltF, d_leT, d_leF, d_eqT, d_eqF, f_X11_writeRecords_L12, f_X11_writeRecords_L12_F, e4]
  | succ k ih =>
    intro i j j' L tb mo h1 h2 h3 h4 h5
    obtain ⟨j, rfl⟩ : ∃ t, j = t + 1 := ⟨j - 1, by omega⟩
    obtain ⟨j', rfl⟩ : ∃ t, j' = t + 1 := ⟨j' - 1, by omega⟩
    have u1 := e_inPlace (N := N) (n := i) hN (by omega) hO.1 hO.2.2.1 hR
    have u2 := m_byName (N := N) (n := i) hN hM hO.1 hO.2.2.1 (by omega)
    have skip : ∀ x : Int32, srch (fun p => decide (gPl (nLt g) (g 4) p = i)) (g 4) 0 = x → f_X4_playerThrows N fr x = some (nI 0) → f_X11_throwsBy N 1399 m x = some (nI 0) → ∃ L' tb' mo', L' ≤ 900 ∧ f_X10_writeRecords_L10 N (nI (g 4)) ln lt fr (nI (g 6)) op (j + 1) (nI i) (nI L) tb = some (nI L', nI L', tb') ∧ f_X11_writeRecords_L12 N m (j' + 1) (nI i) mt (nI L) mo = some (nI L', mt, nI L', mo') ∧ OR L' tb' mo' := by
      intro x hx k1 k2
      rw [hx] at u1 u2
      obtain ⟨L', tb', mo', i0, i1, i2, i3⟩ := ih (i + 1) j j' L tb mo (by omega) (by omega) (by omega) (by omega) h5
      refine ⟨L', tb', mo', i0, ?_, ?_, i3⟩
      · show f_X10_writeRecords_L10_F N (nI (g 4)) ln lt fr (nI (g 6)) op (f_X10_writeRecords_L10 N (nI (g 4)) ln lt fr (nI (g 6)) op j) (nI i) (nI L) tb = _
        unfold f_X10_writeRecords_L10_F f_X10_writeRecordOf
        simp only [n_0, n_1, n_2, n_3, n_4, n_5, n_6, n_7, n_8, n_9, n_10, n_12, n_13, n_15, n_20, n_24, n_27, n_31, n_32, n_33, n_36, n_44, n_48, n_50, n_57, n_58, n_59, n_72, n_74, n_75, n_85, n_91, n_96, n_97, n_99, n_122, n_255, n_300, n_432, n_600, n_900, n_999, n_1000, n_1291, n_1399, n_2798, n_11192, n_65536, n_65537, n_99999999, n_1000000]
        rw [if_neg (by rw [q_le (by omega) (by omega)]; omega), u1, Option.bind_some, k1, Option.bind_some, if_pos rfl, Option.bind_some, nI_add]
        exact i1
      · show f_X11_writeRecords_L12_F N m (f_X11_writeRecords_L12 N m j') (nI i) mt (nI L) mo = _
        unfold f_X11_writeRecords_L12_F f_X11_writeRecords_L46
        simp only [n_0, n_1, n_2, n_3, n_4, n_5, n_6, n_7, n_8, n_9, n_10, n_12, n_13, n_15, n_20, n_24, n_27, n_31, n_32, n_33, n_36, n_44, n_48, n_50, n_57, n_58, n_59, n_72, n_74, n_75, n_85, n_91, n_96, n_97, n_99, n_122, n_255, n_300, n_432, n_600, n_900, n_999, n_1000, n_1291, n_1399, n_2798, n_11192, n_65536, n_65537, n_99999999, n_1000000]
        rw [q_cl (by omega), e4, if_neg (by rw [q_le (by omega) (by omega)]; omega), u2, Option.bind_some, k2, Option.bind_some, if_pos (by rw [q_le (by omega) (by omega)]; omega), nI_add]
        exact i2
    rcases srch_s (p := fun p => decide (gPl (nLt g) (g 4) p = i)) (k := g 4) (i := 0) (by omega) with ⟨hs, _⟩ | ⟨p, _, hp, _, hs⟩
    · exact skip _ hs (e_throwsM hN) (m_byN hN hM hO.1 hO.2.2.2.1)
    · have k1 := e_playerThrows (p := p) hN hO.1 hO.2.1 hO.2.2.2.1 hF (by omega)
      have k2 := m_by (p := p) hN hM hO.1 hO.2.1 hO.2.2.2.1 (by omega)
      have hc := cP_le hO.1 p
      by_cases c : cP g p = 0
      · rw [c] at k1 k2
        exact skip _ hs k1 k2
      · rw [hs] at u1 u2
        obtain ⟨L1, tb1, mo1, q0, q1, q2, q3⟩ := o_rec (N := N) (L := L) hN hO hR hF hQ hM (show p < g 4 by omega) c (by omega) h5
        obtain ⟨L', tb', mo', i0, i1, i2, i3⟩ := ih (i + 1) j j' L1 tb1 mo1 (by omega) (by omega) (by omega) (by omega) q3
        refine ⟨L', tb', mo', i0, ?_, ?_, i3⟩
        · show f_X10_writeRecords_L10_F N (nI (g 4)) ln lt fr (nI (g 6)) op (f_X10_writeRecords_L10 N (nI (g 4)) ln lt fr (nI (g 6)) op j) (nI i) (nI L) tb = _
          unfold f_X10_writeRecords_L10_F
          simp only [n_0, n_1, n_2, n_3, n_4, n_5, n_6, n_7, n_8, n_9, n_10, n_12, n_13, n_15, n_20, n_24, n_27, n_31, n_32, n_33, n_36, n_44, n_48, n_50, n_57, n_58, n_59, n_72, n_74, n_75, n_85, n_91, n_96, n_97, n_99, n_122, n_255, n_300, n_432, n_600, n_900, n_999, n_1000, n_1291, n_1399, n_2798, n_11192, n_65536, n_65537, n_99999999, n_1000000]
          rw [if_neg (by rw [q_le (by omega) (by omega)]; omega), u1, Option.bind_some, q1, Option.bind_some, nI_add]
          exact i1
        · show f_X11_writeRecords_L12_F N m (f_X11_writeRecords_L12 N m j') (nI i) mt (nI L) mo = _
          unfold f_X11_writeRecords_L12_F f_X11_writeRecords_L46
          simp only [n_0, n_1, n_2, n_3, n_4, n_5, n_6, n_7, n_8, n_9, n_10, n_12, n_13, n_15, n_20, n_24, n_27, n_31, n_32, n_33, n_36, n_44, n_48, n_50, n_57, n_58, n_59, n_72, n_74, n_75, n_85, n_91, n_96, n_97, n_99, n_122, n_255, n_300, n_432, n_600, n_900, n_999, n_1000, n_1291, n_1399, n_2798, n_11192, n_65536, n_65537, n_99999999, n_1000000]
          rw [q_cl (by omega), e4, if_neg (by rw [q_le (by omega) (by omega)]; omega), u2, Option.bind_some, k2, Option.bind_some, if_neg (by rw [q_le (by omega) (by omega)]; omega), Option.bind_some, q2, Option.bind_some, nI_add]
          exact i2
theorem o_facesL {N p : Nat} {g : Nat → Nat} {en m : Nat → Int32} {mt pc : Int32} (hN : 1000 < N) (hB : okB g) (hD : okD g) (hT : okT g) (hE : ER g en) (hM : MR m g) (hp : p < 6) : ∀ (k i j j' L : Nat) (tb mo : Nat → Int32), i + k = g 5 → k < j → k < j' → L ≤ 3 * i → OR L tb mo → ∃ L' tb' mo', L' ≤ 900 ∧ f_X10_writeFaces_L15 N pc (nI (g 5)) en j (nI p) (nI i) (nI L) tb = some (.inr (nI L', nI L', tb')) ∧ f_X11_writeFaces_L17 N m j' (nI p) (nI i) mt (nI L) mo = some (nI L', mt, nI L', mo') ∧ OR L' tb' mo' := by
  have b5 := b_5 hB
  have b3 := b_3 hB
  have e5 : m 5 = nI (g 5) := hM 5 (by omega)
  intro k
  induction k with
  | zero =>
    intro i j j' L tb mo h1 h2 h3 h4 h5
    obtain ⟨j, rfl⟩ : ∃ t, j = t + 1 := ⟨j - 1, by omega⟩
    obtain ⟨j', rfl⟩ : ∃ t, j' = t + 1 := ⟨j' - 1, by omega⟩
    refine ⟨L, tb, mo, by omega, ?_, ?_, h5⟩
    · simp (disch := omega) only [n_0, n_1, n_2, n_3, n_4, n_5, n_6, n_7, n_8, n_9, n_10, n_12, n_13, n_15, n_20, n_24, n_27, n_31, n_32, n_33, n_36, n_44, n_48, n_50, n_57, n_58, n_59, n_72, n_74, n_75, n_85, n_91, n_96, n_97, n_99, n_122, n_255, n_300, n_432, n_600, n_900, n_999, n_1000, n_1291, n_1399, n_2798, n_11192, n_65536, n_65537, n_99999999, n_1000000, nI_add, pk_mul, q_le, q_lt, q_eq, q_cl, q_gi, q_gz, q_sub, q_div, q_dm, d_dm, q_m1, q_mn, q_nm, q_mlt, q_ltm, q_mle, q_lem, q_mm, Option.bind_some, if_true, if_false, Nat.add_zero, ite_self, q_us, q_un, decide_true, decide_false, Bool.false_eq_true, eq_self, and_self, and_true, true_and, and_false, false_and, or_true, true_or, or_false, false_or, d_ltT, d_ltF, d_leT, d_leF, d_eqT, d_eqF, f_X10_writeFaces_L15, f_X10_writeFaces_L15_F]
    · simp (disch := omega) only [n_0, n_1, n_2, n_3, n_4, n_5, n_6, n_7, n_8, n_9, n_10, n_12, n_13, n_15, n_20, n_24, n_27, n_31, n_32, n_33, n_36, n_44, n_48, n_50, n_57, n_58, n_59, n_72, n_74, n_75, n_85, n_91, n_96, n_97, n_99, n_122, n_255, n_300, n_432, n_600, n_900, n_999, n_1000, n_1291, n_1399, n_2798, n_11192, n_65536, n_65537, n_99999999, n_1000000, nI_add, pk_mul, q_le, q_lt, q_eq, q_cl, q_gi, q_gz, q_sub, q_div, q_dm, d_dm, q_m1, q_mn, q_nm, q_mlt, q_ltm, q_mle, q_lem, q_mm, Option.bind_some, if_true, if_false, Nat.add_zero, ite_self, q_us, q_un, decide_true, decide_false, Bool.false_eq_true, eq_self, and_self, and_true, true_and, and_false, false_and, or_true, true_or, or_false, false_or, d_ltT, d_ltF, d_leT, d_leF, d_eqT, d_eqF, f_X11_writeFaces_L17, f_X11_writeFaces_L17_F, e5]
  | succ k ih =>
    intro i j j' L tb mo h1 h2 h3 h4 h5
    obtain ⟨j, rfl⟩ : ∃ t, j = t + 1 := ⟨j - 1, by omega⟩
    obtain ⟨j', rfl⟩ : ∃ t, j' = t + 1 := ⟨j' - 1, by omega⟩
    have u1 := e_pairIn hB hD hT hE (show i < g 5 by omega)
    have u2 := e_faceIn hB hD hT hE (show i < g 5 by omega)
    obtain ⟨t1, t2, t3, t4⟩ := t_bd hB hD hT (show i < g 5 by omega)
    obtain ⟨o1, o2, o3, o4⟩ := m_t hM (k := i) (by omega)
    have hk2 := hT i (by omega)
    have e : tQ g i / 6 = tP g i := by unfold tQ; omega
    have hP : tP g i < 6 := by have := b_4 hB; omega
    have hd := dg_le (a := tF g i)
    by_cases c : tP g i = p
    · by_cases c2 : L = 0
      · subst c2
        obtain ⟨tb1, mo1, p4, p5, p6⟩ := o_num (N := N) (a := tF g i) (L := 0) hN (by omega) (by omega) h5
        obtain ⟨L', tb', mo', i0, i1, i2, i3⟩ := ih (i + 1) j j' (0 + dg (tF g i)) tb1 mo1 (by omega) (by omega) (by omega) (by omega) p6
        refine ⟨L', tb', mo', i0, ?_, ?_, i3⟩
        · show f_X10_writeFaces_L15_F N pc (nI (g 5)) en (f_X10_writeFaces_L15 N pc (nI (g 5)) en j) (nI p) (nI i) (nI 0) tb = _
          unfold f_X10_writeFaces_L15_F f_X10_writeFaces_L74 f_X8_appendSeparator
          simp only [n_0, n_1, n_2, n_3, n_4, n_5, n_6, n_7, n_8, n_9, n_10, n_12, n_13, n_15, n_20, n_24, n_27, n_31, n_32, n_33, n_36, n_44, n_48, n_50, n_57, n_58, n_59, n_72, n_74, n_75, n_85, n_91, n_96, n_97, n_99, n_122, n_255, n_300, n_432, n_600, n_900, n_999, n_1000, n_1291, n_1399, n_2798, n_11192, n_65536, n_65537, n_99999999, n_1000000]
          rw [if_neg (by rw [q_le (by omega) (by omega)]; omega), u1, Option.bind_some, e_playerOf (by omega), Option.bind_some, e, c, if_pos rfl, if_pos (by rw [q_le (by omega) (by omega)]; omega), Option.bind_some, u2, Option.bind_some, p4, Option.bind_some, nI_add]
          exact i1
        · show f_X11_writeFaces_L17_F N m (f_X11_writeFaces_L17 N m j') (nI p) (nI i) mt (nI 0) mo = _
          unfold f_X11_writeFaces_L17_F f_X11_writeFaces_L55 f_X11_writeFaces_L70 f_X11_ofThrow
          simp only [n_0, n_1, n_2, n_3, n_4, n_5, n_6, n_7, n_8, n_9, n_10, n_12, n_13, n_15, n_20, n_24, n_27, n_31, n_32, n_33, n_36, n_44, n_48, n_50, n_57, n_58, n_59, n_72, n_74, n_75, n_85, n_91, n_96, n_97, n_99, n_122, n_255, n_300, n_432, n_600, n_900, n_999, n_1000, n_1291, n_1399, n_2798, n_11192, n_65536, n_65537, n_99999999, n_1000000]
          simp (disch := omega) only [n_0, n_1, n_2, n_3, n_4, n_5, n_6, n_7, n_8, n_9, n_10, n_12, n_13, n_15, n_20, n_24, n_27, n_31, n_32, n_33, n_36, n_44, n_48, n_50, n_57, n_58, n_59, n_72, n_74, n_75, n_85, n_91, n_96, n_97, n_99, n_122, n_255, n_300, n_432, n_600, n_900, n_999, n_1000, n_1291, n_1399, n_2798, n_11192, n_65536, n_65537, n_99999999, n_1000000, nI_add, pk_mul, q_le, q_lt, q_eq, q_cl, q_gi, q_gz, q_sub, q_div, q_dm, d_dm, q_m1, q_mn, q_nm, q_mlt, q_ltm, q_mle, q_lem, q_mm, Option.bind_some, if_true, if_false, Nat.add_zero, ite_self, q_us, q_un, decide_true, decide_false, Bool.false_eq_true, eq_self, and_self, and_true, true_and, and_false, false_and, or_true, true_or, or_false, false_or, d_ltT, d_ltF, d_leT, d_leF, d_eqT, d_eqF, e5, o1, o3, c, p5]
          exact i2
      · obtain ⟨p1, p2, p3⟩ := o_push (L := L) (v := 44) (by omega) (by omega) h5
        obtain ⟨tb1, mo1, p4, p5, p6⟩ := o_num (N := N) (a := tF g i) (L := L + 1) hN (by omega) (by omega) p3
        obtain ⟨L', tb', mo', i0, i1, i2, i3⟩ := ih (i + 1) j j' (L + 1 + dg (tF g i)) tb1 mo1 (by omega) (by omega) (by omega) (by omega) p6
        refine ⟨L', tb', mo', i0, ?_, ?_, i3⟩
        · show f_X10_writeFaces_L15_F N pc (nI (g 5)) en (f_X10_writeFaces_L15 N pc (nI (g 5)) en j) (nI p) (nI i) (nI L) tb = _
          unfold f_X10_writeFaces_L15_F f_X10_writeFaces_L74 f_X8_appendSeparator
          simp only [n_0, n_1, n_2, n_3, n_4, n_5, n_6, n_7, n_8, n_9, n_10, n_12, n_13, n_15, n_20, n_24, n_27, n_31, n_32, n_33, n_36, n_44, n_48, n_50, n_57, n_58, n_59, n_72, n_74, n_75, n_85, n_91, n_96, n_97, n_99, n_122, n_255, n_300, n_432, n_600, n_900, n_999, n_1000, n_1291, n_1399, n_2798, n_11192, n_65536, n_65537, n_99999999, n_1000000]
          rw [if_neg (by rw [q_le (by omega) (by omega)]; omega), u1, Option.bind_some, e_playerOf (by omega), Option.bind_some, e, c, if_pos rfl, if_neg (by rw [q_le (by omega) (by omega)]; omega), p1, Option.bind_some, Option.bind_some, u2, Option.bind_some, p4, Option.bind_some, nI_add]
          exact i1
        · show f_X11_writeFaces_L17_F N m (f_X11_writeFaces_L17 N m j') (nI p) (nI i) mt (nI L) mo = _
          unfold f_X11_writeFaces_L17_F f_X11_writeFaces_L55 f_X11_writeFaces_L70 f_X11_ofThrow
          simp only [n_0, n_1, n_2, n_3, n_4, n_5, n_6, n_7, n_8, n_9, n_10, n_12, n_13, n_15, n_20, n_24, n_27, n_31, n_32, n_33, n_36, n_44, n_48, n_50, n_57, n_58, n_59, n_72, n_74, n_75, n_85, n_91, n_96, n_97, n_99, n_122, n_255, n_300, n_432, n_600, n_900, n_999, n_1000, n_1291, n_1399, n_2798, n_11192, n_65536, n_65537, n_99999999, n_1000000]
          simp (disch := omega) only [n_0, n_1, n_2, n_3, n_4, n_5, n_6, n_7, n_8, n_9, n_10, n_12, n_13, n_15, n_20, n_24, n_27, n_31, n_32, n_33, n_36, n_44, n_48, n_50, n_57, n_58, n_59, n_72, n_74, n_75, n_85, n_91, n_96, n_97, n_99, n_122, n_255, n_300, n_432, n_600, n_900, n_999, n_1000, n_1291, n_1399, n_2798, n_11192, n_65536, n_65537, n_99999999, n_1000000, nI_add, pk_mul, q_le, q_lt, q_eq, q_cl, q_gi, q_gz, q_sub, q_div, q_dm, d_dm, q_m1, q_mn, q_nm, q_mlt, q_ltm, q_mle, q_lem, q_mm, Option.bind_some, if_true, if_false, Nat.add_zero, ite_self, q_us, q_un, decide_true, decide_false, Bool.false_eq_true, eq_self, and_self, and_true, true_and, and_false, false_and, or_true, true_or, or_false, false_or, d_ltT, d_ltF, d_leT, d_leF, d_eqT, d_eqF, e5, o1, o3, c, p2, p5]
          exact i2
    · obtain ⟨L', tb', mo', i0, i1, i2, i3⟩ := ih (i + 1) j j' L tb mo (by omega) (by omega) (by omega) (by omega) h5
      refine ⟨L', tb', mo', i0, ?_, ?_, i3⟩
      · show f_X10_writeFaces_L15_F N pc (nI (g 5)) en (f_X10_writeFaces_L15 N pc (nI (g 5)) en j) (nI p) (nI i) (nI L) tb = _
        unfold f_X10_writeFaces_L15_F f_X10_writeFaces_L74
        simp only [n_0, n_1, n_2, n_3, n_4, n_5, n_6, n_7, n_8, n_9, n_10, n_12, n_13, n_15, n_20, n_24, n_27, n_31, n_32, n_33, n_36, n_44, n_48, n_50, n_57, n_58, n_59, n_72, n_74, n_75, n_85, n_91, n_96, n_97, n_99, n_122, n_255, n_300, n_432, n_600, n_900, n_999, n_1000, n_1291, n_1399, n_2798, n_11192, n_65536, n_65537, n_99999999, n_1000000]
        rw [if_neg (by rw [q_le (by omega) (by omega)]; omega), u1, Option.bind_some, e_playerOf (by omega), Option.bind_some, e, if_neg (by rw [q_eq (by omega) (by omega)]; exact c), nI_add]
        exact i1
      · show f_X11_writeFaces_L17_F N m (f_X11_writeFaces_L17 N m j') (nI p) (nI i) mt (nI L) mo = _
        unfold f_X11_writeFaces_L17_F f_X11_writeFaces_L70 f_X11_ofThrow
        simp only [n_0, n_1, n_2, n_3, n_4, n_5, n_6, n_7, n_8, n_9, n_10, n_12, n_13, n_15, n_20, n_24, n_27, n_31, n_32, n_33, n_36, n_44, n_48, n_50, n_57, n_58, n_59, n_72, n_74, n_75, n_85, n_91, n_96, n_97, n_99, n_122, n_255, n_300, n_432, n_600, n_900, n_999, n_1000, n_1291, n_1399, n_2798, n_11192, n_65536, n_65537, n_99999999, n_1000000]
        simp (disch := omega) only [n_0, n_1, n_2, n_3, n_4, n_5, n_6, n_7, n_8, n_9, n_10, n_12, n_13, n_15, n_20, n_24, n_27, n_31, n_32, n_33, n_36, n_44, n_48, n_50, n_57, n_58, n_59, n_72, n_74, n_75, n_85, n_91, n_96, n_97, n_99, n_122, n_255, n_300, n_432, n_600, n_900, n_999, n_1000, n_1291, n_1399, n_2798, n_11192, n_65536, n_65537, n_99999999, n_1000000, nI_add, pk_mul, q_le, q_lt, q_eq, q_cl, q_gi, q_gz, q_sub, q_div, q_dm, d_dm, q_m1, q_mn, q_nm, q_mlt, q_ltm, q_mle, q_lem, q_mm, Option.bind_some, if_true, if_false, Nat.add_zero, ite_self, q_us, q_un, decide_true, decide_false, Bool.false_eq_true, eq_self, and_self, and_true, true_and, and_false, false_and, or_true, true_or, or_false, false_or, d_ltT, d_ltF, d_leT, d_leF, d_eqT, d_eqF, e5, o1]
        exact i2
/-- both outputs -/
def OQ (otl : Int32) (otb : Nat → Int32) (mol : Int32) (mo : Nat → Int32) : Prop := ∃ L, L ≤ 900 ∧ otl = nI L ∧ mol = nI L ∧ OR L otb mo
theorem w_57 {N : Nat} {g : Nat → Nat} {m_s : Nat → Int32} {sd : Int32} {mn : Int32} {th : Int32} {dc : Int32} {fc : Nat → Int32} {dw : Nat → Int32} {pc : Int32} {ln : Nat → Int32} {lt : Nat → Int32} {tc : Int32} {en : Nat → Int32} {fr : Nat → Int32} {oc : Int32} {op : Nat → Int32} {os : Nat → Int32} {xs : Nat → Int32} {l5 otl m_thrown m_outputLength : Int32} {otb m_output : Nat → Int32} (h : QC N g m_s sd mn th dc fc dw pc ln lt tc en fr oc op os) : ∃ a b t c d, f_W57 N xs l5 pc ln lt fr oc op m_s otl otb m_thrown m_outputLength m_output = some (a, b, t, c, d) ∧ OQ a b c d := by
  obtain ⟨hN, hO0, ⟨⟨rfl, rfl, rfl, rfl, rfl, rfl, rfl⟩, hR, hNR, hE, hF, hQ⟩, hZ, hM⟩ := h
  have b4 := b_4 hO0.1
  obtain ⟨L', tb', mo', i0, i1, i2, i3⟩ := o_recsL (N := N) (mt := nI 0) (by omega) hO0 hNR hF hQ hM (g 4) 0 N N 0 otb m_output (by omega) (by omega) (by omega) (by omega) (fun i hi => by omega)
  refine ⟨nI L', tb', nI 0, nI L', mo', ?_, L', i0, rfl, rfl, i3⟩
  unfold f_W57 f_X10_writeRecords f_X8_cutTo f_X11_writeRecords
  simp only [n_0, n_1, n_2, n_3, n_4, n_5, n_6, n_7, n_8, n_9, n_10, n_12, n_13, n_15, n_20, n_24, n_27, n_31, n_32, n_33, n_36, n_44, n_48, n_50, n_57, n_58, n_59, n_72, n_74, n_75, n_85, n_91, n_96, n_97, n_99, n_122, n_255, n_300, n_432, n_600, n_900, n_999, n_1000, n_1291, n_1399, n_2798, n_11192, n_65536, n_65537, n_99999999, n_1000000]
  rw [Option.bind_some, i1, Option.bind_some, i2, Option.bind_some, if_pos rfl]
theorem w_58 {N : Nat} {g : Nat → Nat} {m_s : Nat → Int32} {sd : Int32} {mn : Int32} {th : Int32} {dc : Int32} {fc : Nat → Int32} {dw : Nat → Int32} {pc : Int32} {ln : Nat → Int32} {lt : Nat → Int32} {tc : Int32} {en : Nat → Int32} {fr : Nat → Int32} {oc : Int32} {op : Nat → Int32} {os : Nat → Int32} {xs : Nat → Int32} {l5 otl m_thrown m_outputLength : Int32} {otb m_output : Nat → Int32} {ov : Nat → Int64} (h : QC N g m_s sd mn th dc fc dw pc ln lt tc en fr oc op os) (ho : OQ otl otb m_outputLength m_output) : ∃ a b t c d v, f_W58 N xs l5 pc tc en m_s otl otb m_thrown m_outputLength m_output ov = some (a, b, t, c, d, v) ∧ OQ a b c d := by
  obtain ⟨hN, hO0, ⟨⟨rfl, rfl, rfl, rfl, rfl, rfl, rfl⟩, hR, hNR, hE, hF, hQ⟩, hZ, hM⟩ := h
  have b4 := b_4 hO0.1
  have b5 := b_5 hO0.1
  rcases pl_cs hO0.1 hM (xs (Int32.toNatClampNeg (l5 + nI 1))) with ⟨p, hp, hx, h1, h2⟩ | ⟨h1, h2⟩
  · obtain ⟨L', tb', mo', i0, i1, i2, i3⟩ := o_facesL (N := N) (p := p) (mt := nI 0) (pc := nI (g 4)) (by omega) hO0.1 hO0.2.1 hO0.2.2.2.1 hE hM (by omega) (g 5) 0 N N 0 otb m_output (by omega) (by omega) (by omega) (by omega) (fun i hi => by omega)
    refine ⟨nI L', tb', nI 0, nI L', mo', vp_updL ov 0 (nI L').toInt64, ?_, L', i0, rfl, rfl, i3⟩
    unfold f_W58 f_L_writeFaces f_X10_writeFaces f_X8_cutTo f_X11_writeFaces f_X11_thrown
    simp only [n_0, n_1, n_2, n_3, n_4, n_5, n_6, n_7, n_8, n_9, n_10, n_12, n_13, n_15, n_20, n_24, n_27, n_31, n_32, n_33, n_36, n_44, n_48, n_50, n_57, n_58, n_59, n_72, n_74, n_75, n_85, n_91, n_96, n_97, n_99, n_122, n_255, n_300, n_432, n_600, n_900, n_999, n_1000, n_1291, n_1399, n_2798, n_11192, n_65536, n_65537, n_99999999, n_1000000]
    rw [hx] at h1 h2
    rw [hx, h1, sbd_t, Option.bind_some, i1, hbd_t, Option.bind_some, h2, Option.bind_some, if_pos rfl, i2, Option.bind_some, Option.bind_some, if_pos rfl, if_pos rfl, q_cl (by omega), lgc, if_pos rfl]
  · refine ⟨otl, otb, nI 1, m_outputLength, m_output, ov, ?_, ho⟩
    unfold f_W58 f_L_writeFaces f_X10_writeFaces f_X11_writeFaces f_X11_thrown
    simp only [n_0, n_1, n_2, n_3, n_4, n_5, n_6, n_7, n_8, n_9, n_10, n_12, n_13, n_15, n_20, n_24, n_27, n_31, n_32, n_33, n_36, n_44, n_48, n_50, n_57, n_58, n_59, n_72, n_74, n_75, n_85, n_91, n_96, n_97, n_99, n_122, n_255, n_300, n_432, n_600, n_900, n_999, n_1000, n_1291, n_1399, n_2798, n_11192, n_65536, n_65537, n_99999999, n_1000000]
    rw [h1, sbd_f, hbd_f, if_pos rfl, Option.bind_some, h2, Option.bind_some, if_neg (by rw [q_eq (by omega) (by omega)]; omega), Option.bind_some, Option.bind_some, if_pos rfl, if_neg (by rw [q_eq (by omega) (by omega)]; omega)]
theorem w_59 {xs : Nat → Int32} {l5 otl m_thrown m_outputLength : Int32} {otb m_output : Nat → Int32} {ov : Nat → Int64} (ho : OQ otl otb m_outputLength m_output) : Go (f_W59 xs l5 otl otb m_outputLength m_output m_thrown ov) := by
  obtain ⟨L, h0, rfl, rfl, h3⟩ := ho
  rcases k_outByte h0 h3 (xs (Int32.toNatClampNeg (l5 + nI 1))) m_thrown with ⟨v, h1, h2⟩ | ⟨h1, h2⟩
  · simp (disch := omega) only [n_0, n_1, n_2, n_3, n_4, n_5, n_6, n_7, n_8, n_9, n_10, n_12, n_13, n_15, n_20, n_24, n_27, n_31, n_32, n_33, n_36, n_44, n_48, n_50, n_57, n_58, n_59, n_72, n_74, n_75, n_85, n_91, n_96, n_97, n_99, n_122, n_255, n_300, n_432, n_600, n_900, n_999, n_1000, n_1291, n_1399, n_2798, n_11192, n_65536, n_65537, n_99999999, n_1000000, nI_add, pk_mul, q_le, q_lt, q_eq, q_cl, q_gi, q_gz, q_sub, q_div, q_dm, d_dm, q_m1, q_mn, q_nm, q_mlt, q_ltm, q_mle, q_lem, q_mm, Option.bind_some, if_true, if_false, Nat.add_zero, ite_self, q_us, q_un, decide_true, decide_false, Bool.false_eq_true, eq_self, and_self, and_true, true_and, and_false, false_and, or_true, true_or, or_false, false_or, d_ltT, d_ltF, d_leT, d_leF, d_eqT, d_eqF, f_W59, f_L_outputByte, h1, h2, f_X11_thrown, go_some, hbd_t, lgc]
  · simp (disch := omega) only [n_0, n_1, n_2, n_3, n_4, n_5, n_6, n_7, n_8, n_9, n_10, n_12, n_13, n_15, n_20, n_24, n_27, n_31, n_32, n_33, n_36, n_44, n_48, n_50, n_57, n_58, n_59, n_72, n_74, n_75, n_85, n_91, n_96, n_97, n_99, n_122, n_255, n_300, n_432, n_600, n_900, n_999, n_1000, n_1291, n_1399, n_2798, n_11192, n_65536, n_65537, n_99999999, n_1000000, nI_add, pk_mul, q_le, q_lt, q_eq, q_cl, q_gi, q_gz, q_sub, q_div, q_dm, d_dm, q_m1, q_mn, q_nm, q_mlt, q_ltm, q_mle, q_lem, q_mm, Option.bind_some, if_true, if_false, Nat.add_zero, ite_self, q_us, q_un, decide_true, decide_false, Bool.false_eq_true, eq_self, and_self, and_true, true_and, and_false, false_and, or_true, true_or, or_false, false_or, d_ltT, d_ltF, d_leT, d_leF, d_eqT, d_eqF, f_W59, f_L_outputByte, h1, h2, f_X11_thrown, go_some, hbd_f, s_13]
