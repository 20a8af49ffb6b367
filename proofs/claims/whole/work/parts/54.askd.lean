/-! questions over all pairs and players -/
theorem gCnt_skip {g : Nat → Nat} (hO : Ok g) {p n : Nat} (hp : p < 6) (hn : g 3 + n ≤ 6) : gCnt g (6 * p + g 3 + n) = gCnt g (6 * p + g 3) := by
  unfold gCnt
  rw [sumTo_app (a := 6 * p + g 3) (w := n), sumTo_z (n := n) (fun k hk => ?_), Nat.add_zero]
  by_cases c : susp g (6 * p + g 3 + k) = true
  · have := (susp_in hO c (by omega)).2
    omega
  · exact if_neg c
theorem gCnt_end {g : Nat → Nat} (hO : Ok g) {n : Nat} (hn : 6 * g 4 + n ≤ 36) : gCnt g (6 * g 4 + n) = gCnt g (6 * g 4) := by
  unfold gCnt
  rw [sumTo_app (a := 6 * g 4) (w := n), sumTo_z (n := n) (fun k hk => ?_), Nat.add_zero]
  by_cases c : susp g (6 * g 4 + k) = true
  · have := (susp_in hO c (by omega)).1
    omega
  · exact if_neg c
theorem gCnt_le {g : Nat → Nat} {n : Nat} : gCnt g n ≤ n := by
  have h : gCnt g n ≤ n * 1 := sumTo_le (fun k hk => by split <;> omega)
  omega
theorem m_suspL2 {N p V : Nat} {m : Nat → Int32} {g : Nat → Nat} {r4 : Int32 → Int32 → Int32 → (Nat → Int32) → Option (Int32 × Int32 × (Nat → Int32))} (hN : 1000 < N) (hM : MR m g) (hO : Ok g) (hp : p < g 4) (hr : ∀ a o, ∃ r, r4 (nI (gCnt g (6 * p + g 3))) (nI (p + 1)) a o = some (nI V, r)) : ∀ (k d j : Nat) (a : Int32) (o : Nat → Int32), d + k = g 3 → k < j → ∃ r, f_X11_suspiciousIn_L16 N m r4 j (nI (gCnt g (6 * p + d))) (nI p) (nI d) a o = some (nI V, r) := by
  have b3 := b_3 hO.1
  have b4 := b_4 hO.1
  have e3 : m 3 = nI (g 3) := hM 3 (by omega)
  intro k
  induction k with
  | zero =>
    intro d j a o h1 h2
    obtain ⟨j, rfl⟩ : ∃ t, j = t + 1 := ⟨j - 1, by omega⟩
    have e : d = g 3 := by omega
    subst e
    obtain ⟨r, h3⟩ := hr a o
    refine ⟨r, ?_⟩
    simp (disch := omega) only [n_0, n_1, n_2, n_3, n_4, n_5, n_6, n_7, n_8, n_9, n_10, n_12, n_13, n_15, n_20, n_24, n_27, n_31, n_32, n_33, n_36, n_44, n_48, n_50, n_57, n_58, n_59, n_72, n_74, n_75, n_85, n_91, n_96, n_97, n_99, n_122, n_255, n_300, n_432, n_600, n_900, n_999, n_1000, n_1291, n_1399, n_2798, n_11192, n_65536, n_65537, n_99999999, n_1000000, nI_add, pk_mul, q_le, q_lt, q_eq, q_cl, q_gi, q_gz, q_sub, q_div, q_dm, d_dm, q_m1, q_mn, q_nm, q_mlt, q_ltm, q_mle, q_lem, q_mm, Option.bind_some, if_true, if_false, Nat.add_zero, ite_self, q_us, q_un, decide_true, decide_false, Bool.false_eq_true, eq_self, and_self, and_true, true_and, and_false, false_and, or_true, true_or, or_false, false_or, d_ltT, d_ltF, d_leT, d_leF, d_eqT, d_eqF, f_X11_suspiciousIn_L16, f_X11_suspiciousIn_L16_F, e3]
    exact h3
  | succ k ih =>
    intro d j a o h1 h2
    obtain ⟨j, rfl⟩ : ∃ t, j = t + 1 := ⟨j - 1, by omega⟩
    obtain ⟨o', u1⟩ := m_susp (a := a) (o := o) (p := p) (d := d) hN hM hO.1 hO.2.1 hO.2.2.2.1 (by omega) (by omega)
    obtain ⟨r, h3⟩ := ih (d + 1) j (nI (cQ g (6 * p + d))) o' (by omega) (by omega)
    have hl := gCnt_le (g := g) (n := 6 * p + d)
    have hs : gCnt g (6 * p + (d + 1)) = gCnt g (6 * p + d) + if susp g (6 * p + d) = true then 1 else 0 := rfl
    rw [hs] at h3
    refine ⟨r, ?_⟩
    cases hc : susp g (6 * p + d)
    · rw [hc] at u1 h3
      rw [if_neg Bool.false_ne_true, Nat.add_zero] at h3
      simp (disch := omega) only [n_0, n_1, n_2, n_3, n_4, n_5, n_6, n_7, n_8, n_9, n_10, n_12, n_13, n_15, n_20, n_24, n_27, n_31, n_32, n_33, n_36, n_44, n_48, n_50, n_57, n_58, n_59, n_72, n_74, n_75, n_85, n_91, n_96, n_97, n_99, n_122, n_255, n_300, n_432, n_600, n_900, n_999, n_1000, n_1291, n_1399, n_2798, n_11192, n_65536, n_65537, n_99999999, n_1000000, nI_add, pk_mul, q_le, q_lt, q_eq, q_cl, q_gi, q_gz, q_sub, q_div, q_dm, d_dm, q_m1, q_mn, q_nm, q_mlt, q_ltm, q_mle, q_lem, q_mm, Option.bind_some, if_true, if_false, Nat.add_zero, ite_self, q_us, q_un, decide_true, decide_false, Bool.false_eq_true, eq_self, and_self, and_true, true_and, and_false, false_and, or_true, true_or, or_false, false_or, d_ltT, d_ltF, d_leT, d_leF, d_eqT, d_eqF, f_X11_suspiciousIn_L16, f_X11_suspiciousIn_L16_F, f_X11_suspiciousIn_L45, e3, u1, q_b0]
      exact h3
    · rw [hc] at u1 h3
      rw [if_pos rfl] at h3
      simp (disch := omega) only [n_0, n_1, n_2, n_3, n_4, n_5, n_6, n_7, n_8, n_9, n_10, n_12, n_13, n_15, n_20, n_24, n_27, n_31, n_32, n_33, n_36, n_44, n_48, n_50, n_57, n_58, n_59, n_72, n_74, n_75, n_85, n_91, n_96, n_97, n_99, n_122, n_255, n_300, n_432, n_600, n_900, n_999, n_1000, n_1291, n_1399, n_2798, n_11192, n_65536, n_65537, n_99999999, n_1000000, nI_add, pk_mul, q_le, q_lt, q_eq, q_cl, q_gi, q_gz, q_sub, q_div, q_dm, d_dm, q_m1, q_mn, q_nm, q_mlt, q_ltm, q_mle, q_lem, q_mm, Option.bind_some, if_true, if_false, Nat.add_zero, ite_self, q_us, q_un, decide_true, decide_false, Bool.false_eq_true, eq_self, and_self, and_true, true_and, and_false, false_and, or_true, true_or, or_false, false_or, d_ltT, d_ltF, d_leT, d_leF, d_eqT, d_eqF, f_X11_suspiciousIn_L16, f_X11_suspiciousIn_L16_F, f_X11_suspiciousIn_L45, e3, u1, q_b0, Bool.true_eq_false]
      exact h3
theorem m_suspL {N : Nat} {m : Nat → Int32} {g : Nat → Nat} (hN : 1000 < N) (hM : MR m g) (hO : Ok g) : ∀ (k p j : Nat) (a : Int32) (o : Nat → Int32), p + k = g 4 → k < j → ∃ r, f_X11_suspiciousIn_L4 N m j (nI (gCnt g (6 * p))) (nI p) a o = some (nI (gCnt g 36), r) := by
  have b3 := b_3 hO.1
  have b4 := b_4 hO.1
  have e4 : m 4 = nI (g 4) := hM 4 (by omega)
  intro k
  induction k with
  | zero =>
    intro p j a o h1 h2
    obtain ⟨j, rfl⟩ : ∃ t, j = t + 1 := ⟨j - 1, by omega⟩
    have e : p = g 4 := by omega
    subst e
    have h3 := gCnt_end hO (n := 36 - 6 * g 4) (by omega)
    rw [show 6 * g 4 + (36 - 6 * g 4) = 36 by omega] at h3
    refine ⟨(a, o), ?_⟩
    rw [h3]
    simp (disch := omega) only [n_0, n_1, n_2, n_3, n_4, n_5, n_6, n_7, n_8, n_9, n_10, n_12, n_13, n_15, n_20, n_24, n_27, n_31, n_32, n_33, n_36, n_44, n_48, n_50, n_57, n_58, n_59, n_72, n_74, n_75, n_85, n_91, n_96, n_97, n_99, n_122, n_255, n_300, n_432, n_600, n_900, n_999, n_1000, n_1291, n_1399, n_2798, n_11192, n_65536, n_65537, n_99999999, n_1000000, nI_add, pk_mul, q_le, q_lt, q_eq, q_cl, q_gi, q_gz, q_sub, q_div, q_dm, d_dm, q_m1, q_mn, q_nm, q_mlt, q_ltm, q_mle, q_lem, q_mm, Option.bind_some, if_true, if_false, Nat.add_zero, ite_self, q_us, q_un, decide_true, decide_false, Bool.false_eq_true, eq_self, and_self, and_true, true_and, and_false, false_and, or_true, true_or, or_false, false_or, d_ltT, d_ltF, d_leT, d_leF, d_eqT, d_eqF, f_X11_suspiciousIn_L4, f_X11_suspiciousIn_L4_F, e4]
  | succ k ih =>
    intro p j a o h1 h2
    obtain ⟨j, rfl⟩ : ∃ t, j = t + 1 := ⟨j - 1, by omega⟩
    have hs := gCnt_skip hO (p := p) (n := 6 - g 3) (by omega) (by omega)
    rw [show 6 * p + g 3 + (6 - g 3) = 6 * (p + 1) by omega] at hs
    obtain ⟨r, h3⟩ := m_suspL2 (N := N) (p := p) (V := gCnt g 36) (r4 := f_X11_suspiciousIn_L4 N m j) hN hM hO (by omega) (fun a o => by
      rw [← hs]
      exact ih (p + 1) j a o (by omega) (by omega)) (g 3) 0 N a o (by omega) (by omega)
    refine ⟨r, ?_⟩
    simp (disch := omega) only [n_0, n_1, n_2, n_3, n_4, n_5, n_6, n_7, n_8, n_9, n_10, n_12, n_13, n_15, n_20, n_24, n_27, n_31, n_32, n_33, n_36, n_44, n_48, n_50, n_57, n_58, n_59, n_72, n_74, n_75, n_85, n_91, n_96, n_97, n_99, n_122, n_255, n_300, n_432, n_600, n_900, n_999, n_1000, n_1291, n_1399, n_2798, n_11192, n_65536, n_65537, n_99999999, n_1000000, nI_add, pk_mul, q_le, q_lt, q_eq, q_cl, q_gi, q_gz, q_sub, q_div, q_dm, d_dm, q_m1, q_mn, q_nm, q_mlt, q_ltm, q_mle, q_lem, q_mm, Option.bind_some, if_true, if_false, Nat.add_zero, ite_self, q_us, q_un, decide_true, decide_false, Bool.false_eq_true, eq_self, and_self, and_true, true_and, and_false, false_and, or_true, true_or, or_false, false_or, d_ltT, d_ltF, d_leT, d_leF, d_eqT, d_eqF, f_X11_suspiciousIn_L4, f_X11_suspiciousIn_L4_F, e4]
    exact h3
theorem k_suspPairs {N : Nat} {g : Nat → Nat} {fc dw fr m o : Nat → Int32} {a mt : Int32} (hN : 1000 < N) (hO : Ok g) (hR : DR g fc dw) (hZ : ZR fc) (hF : FR g fr) (hM : MR m g) : ∃ v r, f_X10_suspiciousPairs N (nI (g 1)) (nI (g 2)) fc fr = some v ∧ f_X11_suspiciousPairs N m mt a o = some (v, nI 0, r) := by
  have b4 := b_4 hO.1
  have u1 := e_count hN hO.1 hO.2.1 hO.2.2.2.1 hR hZ hF
  obtain ⟨r, u2⟩ := m_suspL (N := N) hN hM hO (g 4) 0 N a o (by omega) (by omega)
  have u3 : f_X11_suspiciousIn N m a o = some (nI (gCnt g 36), r) := u2
  exact ⟨nI (gCnt g 36), r, by simp (disch := omega) only [n_0, n_1, n_2, n_3, n_4, n_5, n_6, n_7, n_8, n_9, n_10, n_12, n_13, n_15, n_20, n_24, n_27, n_31, n_32, n_33, n_36, n_44, n_48, n_50, n_57, n_58, n_59, n_72, n_74, n_75, n_85, n_91, n_96, n_97, n_99, n_122, n_255, n_300, n_432, n_600, n_900, n_999, n_1000, n_1291, n_1399, n_2798, n_11192, n_65536, n_65537, n_99999999, n_1000000, nI_add, pk_mul, q_le, q_lt, q_eq, q_cl, q_gi, q_gz, q_sub, q_div, q_dm, d_dm, q_m1, q_mn, q_nm, q_mlt, q_ltm, q_mle, q_lem, q_mm, Option.bind_some, if_true, if_false, Nat.add_zero, ite_self, q_us, q_un, decide_true, decide_false, Bool.false_eq_true, eq_self, and_self, and_true, true_and, and_false, false_and, or_true, true_or, or_false, false_or, d_ltT, d_ltF, d_leT, d_leF, d_eqT, d_eqF, f_X10_suspiciousPairs, u1], by simp (disch := omega) only [n_0, n_1, n_2, n_3, n_4, n_5, n_6, n_7, n_8, n_9, n_10, n_12, n_13, n_15, n_20, n_24, n_27, n_31, n_32, n_33, n_36, n_44, n_48, n_50, n_57, n_58, n_59, n_72, n_74, n_75, n_85, n_91, n_96, n_97, n_99, n_122, n_255, n_300, n_432, n_600, n_900, n_999, n_1000, n_1291, n_1399, n_2798, n_11192, n_65536, n_65537, n_99999999, n_1000000, nI_add, pk_mul, q_le, q_lt, q_eq, q_cl, q_gi, q_gz, q_sub, q_div, q_dm, d_dm, q_m1, q_mn, q_nm, q_mlt, q_ltm, q_mle, q_lem, q_mm, Option.bind_some, if_true, if_false, Nat.add_zero, ite_self, q_us, q_un, decide_true, decide_false, Bool.false_eq_true, eq_self, and_self, and_true, true_and, and_false, false_and, or_true, true_or, or_false, false_or, d_ltT, d_ltF, d_leT, d_leF, d_eqT, d_eqF, f_X11_suspiciousPairs, u3]⟩
def wsA (g : Nat → Nat) (q : Nat) : Int32 := if q = 0 then -nI 1 else nI (10 * ((gWst g q).1 / 6) + (gWst g q).1 % 6)
def wsB (g : Nat → Nat) (q : Nat) : Int32 := if q = 0 then -nI 1 else nI (gWst g q).2
theorem gWst_s {g : Nat → Nat} {q : Nat} : gWst g (q + 1) = if cS g q ≤ (gWst g q).2 then gWst g q else (q, cS g q) := rfl
theorem ws_keep {g : Nat → Nat} {q n : Nat} (h0 : 0 < q) (h : ∀ k, k < n → cS g (q + k) = 0) : wsA g (q + n) = wsA g q ∧ wsB g (q + n) = wsB g q := by
  have e : gWst g (q + n) = gWst g q := by
    induction n with
    | zero => rfl
    | succ n ih =>
      have h2 := ih (fun k hk => h k (by omega))
      rw [show q + (n + 1) = q + n + 1 by omega, gWst_s, h n (by omega), if_pos (by omega), h2]
  unfold wsA wsB
  rw [if_neg (by omega), if_neg (by omega), if_neg (by omega), if_neg (by omega), e]
  exact ⟨rfl, rfl⟩
theorem m_worstL2 {N p : Nat} {m : Nat → Int32} {g : Nat → Nat} {mt V : Int32} {r11 : Int32 → Int32 → Int32 → Int32 → Int32 → (Nat → Int32) → Option (Int32 × Int32 × Int32 × (Nat → Int32))} (hN : 1000 < N) (hM : MR m g) (hO : Ok g) (hp : p < g 4) (hr : ∀ a o, ∃ r, r11 (wsA g (6 * p + g 3)) (wsB g (6 * p + g 3)) (nI (p + 1)) mt a o = some (V, mt, r)) : ∀ (k d j : Nat) (a : Int32) (o : Nat → Int32), d + k = g 3 → k < j → ∃ r, f_X11_worstPair_L33 N m r11 j (wsA g (6 * p + d)) (wsB g (6 * p + d)) (nI p) (nI d) mt a o = some (V, mt, r) := by
  have b3 := b_3 hO.1
  have b4 := b_4 hO.1
  have e3 : m 3 = nI (g 3) := hM 3 (by omega)
  intro k
  induction k with
  | zero =>
    intro d j a o h1 h2
    obtain ⟨j, rfl⟩ : ∃ t, j = t + 1 := ⟨j - 1, by omega⟩
    have e : d = g 3 := by omega
    subst e
    obtain ⟨r, h3⟩ := hr a o
    refine ⟨r, ?_⟩
    simp (disch := omega) only [n_0, n_1, n_2, n_3, n_4, n_5, n_6, n_7, n_8, n_9, n_10, n_12, n_13, n_15, n_20, n_24, n_27, n_31, n_32, n_33, n_36, n_44, n_48, n_50, n_57, n_58, n_59, n_72, n_74, n_75, n_85, n_91, n_96, n_97, n_99, n_122, n_255, n_300, n_432, n_600, n_900, n_999, n_1000, n_1291, n_1399, n_2798, n_11192, n_65536, n_65537, n_99999999, n_1000000, nI_add, pk_mul, q_le, q_lt, q_eq, q_cl, q_gi, q_gz, q_sub, q_div, q_dm, d_dm, q_m1, q_mn, q_nm, q_mlt, q_ltm, q_mle, q_lem, q_mm, Option.bind_some, if_true, if_false, Nat.add_zero, ite_self, q_us, q_un, decide_true, decide_false, Bool.false_eq_true, eq_self, and_self, and_true, true_and, and_false, false_and, or_true, true_or, or_false, false_or, d_ltT, d_ltF, d_leT, d_leF, d_eqT, d_eqF, f_X11_worstPair_L33, f_X11_worstPair_L33_F, e3]
    exact h3
  | succ k ih =>
    intro d j a o h1 h2
    obtain ⟨j, rfl⟩ : ∃ t, j = t + 1 := ⟨j - 1, by omega⟩
    obtain ⟨o', u1⟩ := m_scoreOf (a := a) (o := o) (p := p) (d := d) hN hM hO.1 hO.2.1 hO.2.2.2.1 (by omega) (by omega)
    obtain ⟨r, h3⟩ := ih (d + 1) j (nI (cQ g (6 * p + d))) o' (by omega) (by omega)
    obtain ⟨w1, w2⟩ := gWst_bd hO.1 hO.2.1 hO.2.2.2.1 (6 * p + d)
    have w3 := cS_lt (q := 6 * p + d) hO.1 hO.2.1 hO.2.2.2.1
    refine ⟨r, ?_⟩
    by_cases h0 : 6 * p + d = 0
    · have ep : p = 0 := by omega
      have ed : d = 0 := by omega
      subst ep ed
      have eA : wsA g (6 * 0 + (0 + 1)) = nI 0 := by
        show (if 1 = 0 then _ else nI (10 * ((gWst g 1).1 / 6) + (gWst g 1).1 % 6)) = _
        rw [if_neg (by omega), show (gWst g 1).1 = 0 by rw [gWst_s]; split <;> rfl]
      have eB : wsB g (6 * 0 + (0 + 1)) = nI (cS g 0) := by
        show (if 1 = 0 then _ else nI (gWst g 1).2) = _
        rw [if_neg (by omega), gWst_s]
        by_cases c : cS g 0 ≤ (gWst g 0).2
        · rw [if_pos c]
          have : cS g 0 = 0 := by
            have h4 : (gWst g 0).2 = 0 := rfl
            omega
          rw [this]
          rfl
        · rw [if_neg c]
      rw [eA, eB] at h3
      have eA0 : wsA g (6 * 0 + 0) = -nI 1 := rfl
      have eB0 : wsB g (6 * 0 + 0) = -nI 1 := rfl
      rw [eA0, eB0]
      have w4 : cS g (6 * 0) < 214000000 := w3
      simp (disch := omega) only [n_0, n_1, n_2, n_3, n_4, n_5, n_6, n_7, n_8, n_9, n_10, n_12, n_13, n_15, n_20, n_24, n_27, n_31, n_32, n_33, n_36, n_44, n_48, n_50, n_57, n_58, n_59, n_72, n_74, n_75, n_85, n_91, n_96, n_97, n_99, n_122, n_255, n_300, n_432, n_600, n_900, n_999, n_1000, n_1291, n_1399, n_2798, n_11192, n_65536, n_65537, n_99999999, n_1000000, nI_add, pk_mul, q_le, q_lt, q_eq, q_cl, q_gi, q_gz, q_sub, q_div, q_dm, d_dm, q_m1, q_mn, q_nm, q_mlt, q_ltm, q_mle, q_lem, q_mm, Option.bind_some, if_true, if_false, Nat.add_zero, ite_self, q_us, q_un, decide_true, decide_false, Bool.false_eq_true, eq_self, and_self, and_true, true_and, and_false, false_and, or_true, true_or, or_false, false_or, d_ltT, d_ltF, d_leT, d_leF, d_eqT, d_eqF, f_X11_worstPair_L33, f_X11_worstPair_L33_F, f_X11_worstPair_L74, f_X11_worstPair_L87, e3, u1]
      exact h3
    · have eA : wsA g (6 * p + d) = nI (10 * ((gWst g (6 * p + d)).1 / 6) + (gWst g (6 * p + d)).1 % 6) := if_neg h0
      have eB : wsB g (6 * p + d) = nI (gWst g (6 * p + d)).2 := if_neg h0
      have eA1 : wsA g (6 * p + (d + 1)) = nI (10 * ((gWst g (6 * p + d + 1)).1 / 6) + (gWst g (6 * p + d + 1)).1 % 6) := if_neg (by omega)
      have eB1 : wsB g (6 * p + (d + 1)) = nI (gWst g (6 * p + d + 1)).2 := if_neg (by omega)
      rw [eA1, eB1, gWst_s] at h3
      rw [eA, eB]
      by_cases c : cS g (6 * p + d) ≤ (gWst g (6 * p + d)).2
      · rw [if_pos c] at h3
        simp (disch := omega) only [n_0, n_1, n_2, n_3, n_4, n_5, n_6, n_7, n_8, n_9, n_10, n_12, n_13, n_15, n_20, n_24, n_27, n_31, n_32, n_33, n_36, n_44, n_48, n_50, n_57, n_58, n_59, n_72, n_74, n_75, n_85, n_91, n_96, n_97, n_99, n_122, n_255, n_300, n_432, n_600, n_900, n_999, n_1000, n_1291, n_1399, n_2798, n_11192, n_65536, n_65537, n_99999999, n_1000000, nI_add, pk_mul, q_le, q_lt, q_eq, q_cl, q_gi, q_gz, q_sub, q_div, q_dm, d_dm, q_m1, q_mn, q_nm, q_mlt, q_ltm, q_mle, q_lem, q_mm, Option.bind_some, if_true, if_false, Nat.add_zero, ite_self, q_us, q_un, decide_true, decide_false, Bool.false_eq_true, eq_self, and_self, and_true, true_and, and_false, false_and, or_true, true_or, or_false, false_or, d_ltT, d_ltF, d_leT, d_leF, d_eqT, d_eqF, f_X11_worstPair_L33, f_X11_worstPair_L33_F, f_X11_worstPair_L74, f_X11_worstPair_L87, e3, u1]
        exact h3
      · rw [if_neg c] at h3
        have e5 : (6 * p + d) / 6 = p := by omega
        have e6 : (6 * p + d) % 6 = d := by omega
        rw [show ((6 * p + d, cS g (6 * p + d)) : Nat × Nat).1 = 6 * p + d from rfl, show ((6 * p + d, cS g (6 * p + d)) : Nat × Nat).2 = cS g (6 * p + d) from rfl, e5, e6] at h3
        simp (disch := omega) only [n_0, n_1, n_2, n_3, n_4, n_5, n_6, n_7, n_8, n_9, n_10, n_12, n_13, n_15, n_20, n_24, n_27, n_31, n_32, n_33, n_36, n_44, n_48, n_50, n_57, n_58, n_59, n_72, n_74, n_75, n_85, n_91, n_96, n_97, n_99, n_122, n_255, n_300, n_432, n_600, n_900, n_999, n_1000, n_1291, n_1399, n_2798, n_11192, n_65536, n_65537, n_99999999, n_1000000, nI_add, pk_mul, q_le, q_lt, q_eq, q_cl, q_gi, q_gz, q_sub, q_div, q_dm, d_dm, q_m1, q_mn, q_nm, q_mlt, q_ltm, q_mle, q_lem, q_mm, Option.bind_some, if_true, if_false, Nat.add_zero, ite_self, q_us, q_un, decide_true, decide_false, Bool.false_eq_true, eq_self, and_self, and_true, true_and, and_false, false_and, or_true, true_or, or_false, false_or, d_ltT, d_ltF, d_leT, d_leF, d_eqT, d_eqF, f_X11_worstPair_L33, f_X11_worstPair_L33_F, f_X11_worstPair_L74, f_X11_worstPair_L87, e3, u1]
        exact h3
theorem m_worstL {N : Nat} {m : Nat → Int32} {g : Nat → Nat} {mt : Int32} (hN : 1000 < N) (hM : MR m g) (hO : Ok g) (h5 : 0 < g 5) : ∀ (k p j : Nat) (a : Int32) (o : Nat → Int32), p + k = g 4 → k < j → ∃ r, f_X11_worstPair_L11 N m j (wsA g (6 * p)) (wsB g (6 * p)) (nI p) mt a o = some (wsA g 36, mt, r) := by
  have b3 := b_3 hO.1
  have b4 := b_4 hO.1
  have b5 := b_5 hO.1
  have e4 : m 4 = nI (g 4) := hM 4 (by omega)
  have e5 : m 5 = nI (g 5) := hM 5 (by omega)
  have ht := hO.2.2.2.1 0 h5
  intro k
  induction k with
  | zero =>
    intro p j a o h1 h2
    obtain ⟨j, rfl⟩ : ∃ t, j = t + 1 := ⟨j - 1, by omega⟩
    have e : p = g 4 := by omega
    subst e
    have h3 := (ws_keep (g := g) (q := 6 * g 4) (n := 36 - 6 * g 4) (by omega) (fun k hk => cS_0 (by
      have := cQ_0 hO.1 hO.2.2.2.1 (p := (6 * g 4 + k) / 6) (d := (6 * g 4 + k) % 6) (by omega) (Or.inr (by omega))
      rw [show 6 * ((6 * g 4 + k) / 6) + (6 * g 4 + k) % 6 = 6 * g 4 + k by omega] at this
      exact this))).1
    rw [show 6 * g 4 + (36 - 6 * g 4) = 36 by omega] at h3
    refine ⟨(a, o), ?_⟩
    rw [h3]
    simp (disch := omega) only [n_0, n_1, n_2, n_3, n_4, n_5, n_6, n_7, n_8, n_9, n_10, n_12, n_13, n_15, n_20, n_24, n_27, n_31, n_32, n_33, n_36, n_44, n_48, n_50, n_57, n_58, n_59, n_72, n_74, n_75, n_85, n_91, n_96, n_97, n_99, n_122, n_255, n_300, n_432, n_600, n_900, n_999, n_1000, n_1291, n_1399, n_2798, n_11192, n_65536, n_65537, n_99999999, n_1000000, nI_add, pk_mul, q_le, q_lt, q_eq, q_cl, q_gi, q_gz, q_sub, q_div, q_dm, d_dm, q_m1, q_mn, q_nm, q_mlt, q_ltm, q_mle, q_lem, q_mm, Option.bind_some, if_true, if_false, Nat.add_zero, ite_self, q_us, q_un, decide_true, decide_false, Bool.false_eq_true, eq_self, and_self, and_true, true_and, and_false, false_and, or_true, true_or, or_false, false_or, d_ltT, d_ltF, d_leT, d_leF, d_eqT, d_eqF, f_X11_worstPair_L11, f_X11_worstPair_L11_F, e4]
  | succ k ih =>
    intro p j a o h1 h2
    obtain ⟨j, rfl⟩ : ∃ t, j = t + 1 := ⟨j - 1, by omega⟩
    obtain ⟨k1, k2⟩ := ws_keep (g := g) (q := 6 * p + g 3) (n := 6 - g 3) (by omega) (fun k hk => cS_0 (by
      have := cQ_0 hO.1 hO.2.2.2.1 (p := p) (d := g 3 + k) (by omega) (Or.inl (by omega))
      rw [← Nat.add_assoc] at this
      exact this))
    rw [show 6 * p + g 3 + (6 - g 3) = 6 * (p + 1) by omega] at k1 k2
    obtain ⟨r, h3⟩ := m_worstL2 (N := N) (p := p) (mt := mt) (V := wsA g 36) (r11 := f_X11_worstPair_L11 N m j) hN hM hO (by omega) (fun a o => by
      rw [← k1, ← k2]
      exact ih (p + 1) j a o (by omega) (by omega)) (g 3) 0 N a o (by omega) (by omega)
    refine ⟨r, ?_⟩
    simp (disch := omega) only [n_0, n_1, n_2, n_3, n_4, n_5, n_6, n_7, n_8, n_9, n_10, n_12, n_13, n_15, n_20, n_24, n_27, n_31, n_32, n_33, n_36, n_44, n_48, n_50, n_57, n_58, n_59, n_72, n_74, n_75, n_85, n_91, n_96, n_97, n_99, n_122, n_255, n_300, n_432, n_600, n_900, n_999, n_1000, n_1291, n_1399, n_2798, n_11192, n_65536, n_65537, n_99999999, n_1000000, nI_add, pk_mul, q_le, q_lt, q_eq, q_cl, q_gi, q_gz, q_sub, q_div, q_dm, d_dm, q_m1, q_mn, q_nm, q_mlt, q_ltm, q_mle, q_lem, q_mm, Option.bind_some, if_true, if_false, Nat.add_zero, ite_self, q_us, q_un, decide_true, decide_false, Bool.false_eq_true, eq_self, and_self, and_true, true_and, and_false, false_and, or_true, true_or, or_false, false_or, d_ltT, d_ltF, d_leT, d_leF, d_eqT, d_eqF, f_X11_worstPair_L11, f_X11_worstPair_L11_F, e4, e5]
    exact h3
theorem k_worst {N : Nat} {g : Nat → Nat} {fc dw fr m o : Nat → Int32} {a mt : Int32} (hN : 1000 < N) (hO : Ok g) (hR : DR g fc dw) (hZ : ZR fc) (hF : FR g fr) (hM : MR m g) : ∃ v r, f_X10_worstPair N fc (nI (g 5)) fr = some v ∧ f_X11_worstPair N m mt a o = some (v, nI 0, r) := by
  have b4 := b_4 hO.1
  have b5 := b_5 hO.1
  have e4 : m 4 = nI (g 4) := hM 4 (by omega)
  have e5 : m 5 = nI (g 5) := hM 5 (by omega)
  rcases Nat.eq_zero_or_pos (g 5) with h0 | h0
  · rw [h0] at e5
    obtain ⟨N, rfl⟩ : ∃ t, N = t + 1 := ⟨N - 1, by omega⟩
    refine ⟨-nI 1, (a, o), ?_, ?_⟩
    · rw [h0]
      simp (disch := omega) only [n_0, n_1, n_2, n_3, n_4, n_5, n_6, n_7, n_8, n_9, n_10, n_12, n_13, n_15, n_20, n_24, n_27, n_31, n_32, n_33, n_36, n_44, n_48, n_50, n_57, n_58, n_59, n_72, n_74, n_75, n_85, n_91, n_96, n_97, n_99, n_122, n_255, n_300, n_432, n_600, n_900, n_999, n_1000, n_1291, n_1399, n_2798, n_11192, n_65536, n_65537, n_99999999, n_1000000, nI_add, pk_mul, q_le, q_lt, q_eq, q_cl, q_gi, q_gz, q_sub, q_div, q_dm, d_dm, q_m1, q_mn, q_nm, q_mlt, q_ltm, q_mle, q_lem, q_mm, Option.bind_some, if_true, if_false, Nat.add_zero, ite_self, q_us, q_un, decide_true, decide_false, Bool.false_eq_true, eq_self, and_self, and_true, true_and, and_false, false_and, or_true, true_or, or_false, false_or, d_ltT, d_ltF, d_leT, d_leF, d_eqT, d_eqF, f_X10_worstPair]
    · rcases Nat.eq_zero_or_pos (g 4) with h4 | h4
      · rw [h4] at e4
        simp (disch := omega) only [n_0, n_1, n_2, n_3, n_4, n_5, n_6, n_7, n_8, n_9, n_10, n_12, n_13, n_15, n_20, n_24, n_27, n_31, n_32, n_33, n_36, n_44, n_48, n_50, n_57, n_58, n_59, n_72, n_74, n_75, n_85, n_91, n_96, n_97, n_99, n_122, n_255, n_300, n_432, n_600, n_900, n_999, n_1000, n_1291, n_1399, n_2798, n_11192, n_65536, n_65537, n_99999999, n_1000000, nI_add, pk_mul, q_le, q_lt, q_eq, q_cl, q_gi, q_gz, q_sub, q_div, q_dm, d_dm, q_m1, q_mn, q_nm, q_mlt, q_ltm, q_mle, q_lem, q_mm, Option.bind_some, if_true, if_false, Nat.add_zero, ite_self, q_us, q_un, decide_true, decide_false, Bool.false_eq_true, eq_self, and_self, and_true, true_and, and_false, false_and, or_true, true_or, or_false, false_or, d_ltT, d_ltF, d_leT, d_leF, d_eqT, d_eqF, f_X11_worstPair, f_X11_worstPair_L11, f_X11_worstPair_L11_F, e4]
      · simp (disch := omega) only [n_0, n_1, n_2, n_3, n_4, n_5, n_6, n_7, n_8, n_9, n_10, n_12, n_13, n_15, n_20, n_24, n_27, n_31, n_32, n_33, n_36, n_44, n_48, n_50, n_57, n_58, n_59, n_72, n_74, n_75, n_85, n_91, n_96, n_97, n_99, n_122, n_255, n_300, n_432, n_600, n_900, n_999, n_1000, n_1291, n_1399, n_2798, n_11192, n_65536, n_65537, n_99999999, n_1000000, nI_add, pk_mul, q_le, q_lt, q_eq, q_cl, q_gi, q_gz, q_sub, q_div, q_dm, d_dm, q_m1, q_mn, q_nm, q_mlt, q_ltm, q_mle, q_lem, q_mm, Option.bind_some, if_true, if_false, Nat.add_zero, ite_self, q_us, q_un, decide_true, decide_false, Bool.false_eq_true, eq_self, and_self, and_true, true_and, and_false, false_and, or_true, true_or, or_false, false_or, d_ltT, d_ltF, d_leT, d_leF, d_eqT, d_eqF, f_X11_worstPair, f_X11_worstPair_L11, f_X11_worstPair_L11_F, e4, e5]
  · have u1 := e_worst hN hO.1 hO.2.1 hO.2.2.2.1 hR hZ hF
    have hb := (gWst_bd hO.1 hO.2.1 hO.2.2.2.1 36).1
    obtain ⟨r, u2⟩ := m_worstL (N := N) (mt := nI 0) hN hM hO h0 (g 4) 0 N a o (by omega) (by omega)
    refine ⟨wsA g 36, r, ?_, ?_⟩
    · simp (disch := omega) only [n_0, n_1, n_2, n_3, n_4, n_5, n_6, n_7, n_8, n_9, n_10, n_12, n_13, n_15, n_20, n_24, n_27, n_31, n_32, n_33, n_36, n_44, n_48, n_50, n_57, n_58, n_59, n_72, n_74, n_75, n_85, n_91, n_96, n_97, n_99, n_122, n_255, n_300, n_432, n_600, n_900, n_999, n_1000, n_1291, n_1399, n_2798, n_11192, n_65536, n_65537, n_99999999, n_1000000, nI_add, pk_mul, q_le, q_lt, q_eq, q_cl, q_gi, q_gz, q_sub, q_div, q_dm, d_dm, q_m1, q_mn, q_nm, q_mlt, q_ltm, q_mle, q_lem, q_mm, Option.bind_some, if_true, if_false, Nat.add_zero, ite_self, q_us, q_un, decide_true, decide_false, Bool.false_eq_true, eq_self, and_self, and_true, true_and, and_false, false_and, or_true, true_or, or_false, false_or, d_ltT, d_ltF, d_leT, d_leF, d_eqT, d_eqF, f_X10_worstPair, u1, e_playerOf, e_dieOf]
      rfl
    · unfold f_X11_worstPair
      simp only [n_0, n_1, n_2, n_3, n_4, n_5, n_6, n_7, n_8, n_9, n_10, n_12, n_13, n_15, n_20, n_24, n_27, n_31, n_32, n_33, n_36, n_44, n_48, n_50, n_57, n_58, n_59, n_72, n_74, n_75, n_85, n_91, n_96, n_97, n_99, n_122, n_255, n_300, n_432, n_600, n_900, n_999, n_1000, n_1291, n_1399, n_2798, n_11192, n_65536, n_65537, n_99999999, n_1000000]
      exact u2
theorem k_penance {N : Nat} {g : Nat → Nat} {fr op os m : Nat → Int32} {mt : Int32} (hN : 1000 < N) (hO : Ok g) (hF : FR g fr) (hQ : QR g op os) (hM : MR m g) : ∃ v, f_X10_penanceNow N fr (nI (g 6)) op os = some v ∧ f_X11_penanceNow N m mt = some (v, nI 0) := by
  have u1 := e_penance hN hO hF hQ
  have u2 := m_penance hN hM hO
  exact ⟨nI (gPen g), by simp (disch := omega) only [n_0, n_1, n_2, n_3, n_4, n_5, n_6, n_7, n_8, n_9, n_10, n_12, n_13, n_15, n_20, n_24, n_27, n_31, n_32, n_33, n_36, n_44, n_48, n_50, n_57, n_58, n_59, n_72, n_74, n_75, n_85, n_91, n_96, n_97, n_99, n_122, n_255, n_300, n_432, n_600, n_900, n_999, n_1000, n_1291, n_1399, n_2798, n_11192, n_65536, n_65537, n_99999999, n_1000000, nI_add, pk_mul, q_le, q_lt, q_eq, q_cl, q_gi, q_gz, q_sub, q_div, q_dm, d_dm, q_m1, q_mn, q_nm, q_mlt, q_ltm, q_mle, q_lem, q_mm, Option.bind_some, if_true, if_false, Nat.add_zero, ite_self, q_us, q_un, decide_true, decide_false, Bool.false_eq_true, eq_self, and_self, and_true, true_and, and_false, false_and, or_true, true_or, or_false, false_or, d_ltT, d_ltF, d_leT, d_leF, d_eqT, d_eqF, f_X10_penanceNow, u1], by simp (disch := omega) only [n_0, n_1, n_2, n_3, n_4, n_5, n_6, n_7, n_8, n_9, n_10, n_12, n_13, n_15, n_20, n_24, n_27, n_31, n_32, n_33, n_36, n_44, n_48, n_50, n_57, n_58, n_59, n_72, n_74, n_75, n_85, n_91, n_96, n_97, n_99, n_122, n_255, n_300, n_432, n_600, n_900, n_999, n_1000, n_1291, n_1399, n_2798, n_11192, n_65536, n_65537, n_99999999, n_1000000, nI_add, pk_mul, q_le, q_lt, q_eq, q_cl, q_gi, q_gz, q_sub, q_div, q_dm, d_dm, q_m1, q_mn, q_nm, q_mlt, q_ltm, q_mle, q_lem, q_mm, Option.bind_some, if_true, if_false, Nat.add_zero, ite_self, q_us, q_un, decide_true, decide_false, Bool.false_eq_true, eq_self, and_self, and_true, true_and, and_false, false_and, or_true, true_or, or_false, false_or, d_ltT, d_ltF, d_leT, d_leF, d_eqT, d_eqF, f_X11_penanceNow, u2]⟩
theorem cQ_all {g : Nat → Nat} (hB : okB g) (hD : okD g) (hT : okT g) : sumTo 36 (cQ g) = g 5 := by
  show sumTo 36 (fun q => sumTo (g 5) (fun k => if tQ g k = q then 1 else 0)) = g 5
  rw [sumTo_swap]
  refine (sumTo_congr (g := fun _ => 1) (fun k hk => ?_)).trans ?_
  · obtain ⟨t1, t2, t3, t4⟩ := t_bd hB hD hT hk
    refine (sumTo_congr (fun q hq => ?_)).trans (sumTo_one (a := tQ g k) (c := 1) t1)
    by_cases h9 : tQ g k = q
    · rw [if_pos h9, if_pos h9.symm]
    · rw [if_neg h9, if_neg (fun h => h9 h.symm)]
  · generalize g 5 = n
    induction n with
    | zero => rfl
    | succ n ih => rw [sumTo_s, ih]
theorem cQ_pl {g : Nat → Nat} (hB : okB g) (hD : okD g) (hT : okT g) : sumTo (6 * g 4) (cQ g) = g 5 := by
  have b4 := b_4 hB
  have h := sumTo_app (a := 6 * g 4) (w := 36 - 6 * g 4) (f := cQ g)
  rw [show 6 * g 4 + (36 - 6 * g 4) = 36 by omega, cQ_all hB hD hT, sumTo_z (n := 36 - 6 * g 4) (fun k hk => by
    have := cQ_0 hB hT (p := (6 * g 4 + k) / 6) (d := (6 * g 4 + k) % 6) (by omega) (Or.inr (by omega))
    rw [show 6 * ((6 * g 4 + k) / 6) + (6 * g 4 + k) % 6 = 6 * g 4 + k by omega] at this
    exact this)] at h
  omega
theorem cQ_sk {g : Nat → Nat} (hB : okB g) (hT : okT g) {p : Nat} : sumTo (6 * (p + 1)) (cQ g) = sumTo (6 * p + g 3) (cQ g) := by
  have b3 := b_3 hB
  have h := sumTo_app (a := 6 * p + g 3) (w := 6 - g 3) (f := cQ g)
  rw [show 6 * p + g 3 + (6 - g 3) = 6 * (p + 1) by omega, sumTo_z (n := 6 - g 3) (fun k hk => by
    have := cQ_0 hB hT (p := p) (d := g 3 + k) (by omega) (Or.inl (by omega))
    rw [← Nat.add_assoc] at this
    exact this)] at h
  exact h
theorem q_gs {s a c : Nat} : nI s - nI a + nI c = nI (s + c) - nI a := by
  rw [Int32.sub_eq_add_neg, Int32.sub_eq_add_neg, ← nI_add, Int32.add_assoc, Int32.add_assoc, Int32.add_comm (-nI a) (nI c)]
theorem q_ng {a : Nat} : -nI a = nI 0 - nI a := by
  rw [Int32.sub_eq_add_neg, nI_0, Int32.zero_add]
theorem m_freqL3 {N p d s0 T : Nat} {m o : Nat → Int32} {c : Nat → Nat} {a mt : Int32} {r15 : Int32 → Int32 → Int32 → Int32 → (Nat → Int32) → Option (Int32 × Int32 × Int32 × (Nat → Int32))} {r27 : Int32 → Int32 → Int32 → Int32 → Int32 → (Nat → Int32) → Option (Int32 × Int32 × Int32 × (Nat → Int32))} (ho : ∀ f, f < 12 → o (f + 1) = nI (c f)) : ∀ j i : Nat, i ≤ 12 → 12 < i + j → f_X11_frequencyDifference_L50 N m r15 r27 j (nI (s0 + sumTo i c) - nI T) (nI p) (nI d) (nI (i + 1)) mt a o = r27 (nI (s0 + sumTo 12 c) - nI T) (nI p) (nI (d + 1)) mt a o := by
  intro j
  induction j with
  | zero => intro i h1 h2; omega
  | succ j ih =>
    intro i h1 h2
    show f_X11_frequencyDifference_L50_F N m r15 r27 (f_X11_frequencyDifference_L50 N m r15 r27 j) _ _ _ _ _ _ _ = _
    unfold f_X11_frequencyDifference_L50_F
    simp only [n_0, n_1, n_2, n_3, n_4, n_5, n_6, n_7, n_8, n_9, n_10, n_12, n_13, n_15, n_20, n_24, n_27, n_31, n_32, n_33, n_36, n_44, n_48, n_50, n_57, n_58, n_59, n_72, n_74, n_75, n_85, n_91, n_96, n_97, n_99, n_122, n_255, n_300, n_432, n_600, n_900, n_999, n_1000, n_1291, n_1399, n_2798, n_11192, n_65536, n_65537, n_99999999, n_1000000]
    by_cases h : 12 ≤ i
    · have e : i = 12 := by omega
      subst e
      rw [if_pos (by rw [q_lt (by omega) (by omega)]; omega), nI_add]
    · have hi := ih (i + 1) (by omega) (by omega)
      rw [if_neg (by rw [q_lt (by omega) (by omega)]; omega), q_gi (by omega) (by omega), q_cl (by omega), ho i (by omega), nI_add, q_gs, Nat.add_assoc s0]
      exact hi
theorem m_freqL2 {N p T : Nat} {m : Nat → Int32} {g : Nat → Nat} {mt : Int32} {r15 : Int32 → Int32 → Int32 → Int32 → (Nat → Int32) → Option (Int32 × Int32 × Int32 × (Nat → Int32))} (hN : 1000 < N) (hM : MR m g) (hO : Ok g) (hp : p < g 4) (hr : ∀ a o, ∃ r, r15 (nI (sumTo (6 * p + g 3) (cQ g)) - nI T) (nI (p + 1)) mt a o = some (nI 0, mt, r)) : ∀ (k d j : Nat) (a : Int32) (o : Nat → Int32), d + k = g 3 → k < j → ∃ r, f_X11_frequencyDifference_L27 N m r15 j (nI (sumTo (6 * p + d) (cQ g)) - nI T) (nI p) (nI d) mt a o = some (nI 0, mt, r) := by
  have b3 := b_3 hO.1
  have b4 := b_4 hO.1
  have e3 : m 3 = nI (g 3) := hM 3 (by omega)
  intro k
  induction k with
  | zero =>
    intro d j a o h1 h2
    obtain ⟨j, rfl⟩ : ∃ t, j = t + 1 := ⟨j - 1, by omega⟩
    have e : d = g 3 := by omega
    subst e
    obtain ⟨r, h3⟩ := hr a o
    refine ⟨r, ?_⟩
    show f_X11_frequencyDifference_L27_F N m r15 (f_X11_frequencyDifference_L27 N m r15 j) _ _ _ _ _ _ = _
    unfold f_X11_frequencyDifference_L27_F
    simp only [n_0, n_1, n_2, n_3, n_4, n_5, n_6, n_7, n_8, n_9, n_10, n_12, n_13, n_15, n_20, n_24, n_27, n_31, n_32, n_33, n_36, n_44, n_48, n_50, n_57, n_58, n_59, n_72, n_74, n_75, n_85, n_91, n_96, n_97, n_99, n_122, n_255, n_300, n_432, n_600, n_900, n_999, n_1000, n_1291, n_1399, n_2798, n_11192, n_65536, n_65537, n_99999999, n_1000000]
    rw [q_cl (by omega), e3, if_pos (by rw [q_le (by omega) (by omega)]; omega), nI_add]
    exact h3
  | succ k ih =>
    intro d j a o h1 h2
    obtain ⟨j, rfl⟩ : ∃ t, j = t + 1 := ⟨j - 1, by omega⟩
    obtain ⟨o', u1, u2⟩ := m_count (a := a) (o := o) (p := p) (d := d) hN hM hO.1 hO.2.1 hO.2.2.2.1 (by omega) (by omega)
    obtain ⟨r, h3⟩ := ih (d + 1) j (nI (cQ g (6 * p + d))) o' (by omega) (by omega)
    have h4 := m_freqL3 (N := N) (m := m) (p := p) (d := d) (s0 := sumTo (6 * p + d) (cQ g)) (T := T) (a := nI (cQ g (6 * p + d))) (mt := mt) (r15 := r15) (r27 := f_X11_frequencyDifference_L27 N m r15 j) u2 N 0 (by omega) (by omega)
    rw [cQ_of hO.1 hO.2.1 hO.2.2.2.1] at h4
    refine ⟨r, ?_⟩
    show f_X11_frequencyDifference_L27_F N m r15 (f_X11_frequencyDifference_L27 N m r15 j) _ _ _ _ _ _ = _
    unfold f_X11_frequencyDifference_L27_F
    simp only [n_0, n_1, n_2, n_3, n_4, n_5, n_6, n_7, n_8, n_9, n_10, n_12, n_13, n_15, n_20, n_24, n_27, n_31, n_32, n_33, n_36, n_44, n_48, n_50, n_57, n_58, n_59, n_72, n_74, n_75, n_85, n_91, n_96, n_97, n_99, n_122, n_255, n_300, n_432, n_600, n_900, n_999, n_1000, n_1291, n_1399, n_2798, n_11192, n_65536, n_65537, n_99999999, n_1000000]
    rw [q_cl (by omega), e3, if_neg (by rw [q_le (by omega) (by omega)]; omega), u1, Option.bind_some]
    exact h4.trans h3
theorem m_freqL {N : Nat} {m : Nat → Int32} {g : Nat → Nat} {mt : Int32} (hN : 1000 < N) (hM : MR m g) (hO : Ok g) : ∀ (k p j : Nat) (a : Int32) (o : Nat → Int32), p + k = g 4 → k < j → ∃ r, f_X11_frequencyDifference_L15 N m j (nI (sumTo (6 * p) (cQ g)) - nI (g 5)) (nI p) mt a o = some (nI 0, mt, r) := by
  have b3 := b_3 hO.1
  have b4 := b_4 hO.1
  have e4 : m 4 = nI (g 4) := hM 4 (by omega)
  intro k
  induction k with
  | zero =>
    intro p j a o h1 h2
    obtain ⟨j, rfl⟩ : ∃ t, j = t + 1 := ⟨j - 1, by omega⟩
    have e : p = g 4 := by omega
    subst e
    refine ⟨(a, o), ?_⟩
    show f_X11_frequencyDifference_L15_F N m (f_X11_frequencyDifference_L15 N m j) _ _ _ _ _ = _
    unfold f_X11_frequencyDifference_L15_F
    simp only [n_0, n_1, n_2, n_3, n_4, n_5, n_6, n_7, n_8, n_9, n_10, n_12, n_13, n_15, n_20, n_24, n_27, n_31, n_32, n_33, n_36, n_44, n_48, n_50, n_57, n_58, n_59, n_72, n_74, n_75, n_85, n_91, n_96, n_97, n_99, n_122, n_255, n_300, n_432, n_600, n_900, n_999, n_1000, n_1291, n_1399, n_2798, n_11192, n_65536, n_65537, n_99999999, n_1000000]
    rw [q_cl (by omega), e4, if_pos (by rw [q_le (by omega) (by omega)]; omega), cQ_pl hO.1 hO.2.1 hO.2.2.2.1, pk_sub (by omega), Nat.sub_self]
  | succ k ih =>
    intro p j a o h1 h2
    obtain ⟨j, rfl⟩ : ∃ t, j = t + 1 := ⟨j - 1, by omega⟩
    obtain ⟨r, h3⟩ := m_freqL2 (N := N) (p := p) (T := g 5) (mt := mt) (r15 := f_X11_frequencyDifference_L15 N m j) hN hM hO (by omega) (fun a o => by
      rw [← cQ_sk hO.1 hO.2.2.2.1]
      exact ih (p + 1) j a o (by omega) (by omega)) (g 3) 0 N a o (by omega) (by omega)
    refine ⟨r, ?_⟩
    show f_X11_frequencyDifference_L15_F N m (f_X11_frequencyDifference_L15 N m j) _ _ _ _ _ = _
    unfold f_X11_frequencyDifference_L15_F
    simp only [n_0, n_1, n_2, n_3, n_4, n_5, n_6, n_7, n_8, n_9, n_10, n_12, n_13, n_15, n_20, n_24, n_27, n_31, n_32, n_33, n_36, n_44, n_48, n_50, n_57, n_58, n_59, n_72, n_74, n_75, n_85, n_91, n_96, n_97, n_99, n_122, n_255, n_300, n_432, n_600, n_900, n_999, n_1000, n_1291, n_1399, n_2798, n_11192, n_65536, n_65537, n_99999999, n_1000000]
    rw [q_cl (by omega), e4, if_neg (by rw [q_le (by omega) (by omega)]; omega)]
    exact h3
theorem k_freqDiff {N : Nat} {g : Nat → Nat} {fr m o : Nat → Int32} {a mt : Int32} (hN : 1000 < N) (hO : Ok g) (hF : FR g fr) (hM : MR m g) : ∃ v r, f_X10_frequencyDifference N (nI (g 5)) fr = some v ∧ f_X11_frequencyDifference N m mt a o = some (v, nI 0, r) := by
  have b4 := b_4 hO.1
  have e5 : m 5 = nI (g 5) := hM 5 (by omega)
  have u1 := e_freqSum hN hO.1 hO.2.1 hO.2.2.2.1 hF
  obtain ⟨r, u2⟩ := m_freqL (N := N) (mt := nI 0) hN hM hO (g 4) 0 N a o (by omega) (by omega)
  refine ⟨nI 0, r, by simp (disch := omega) only [n_0, n_1, n_2, n_3, n_4, n_5, n_6, n_7, n_8, n_9, n_10, n_12, n_13, n_15, n_20, n_24, n_27, n_31, n_32, n_33, n_36, n_44, n_48, n_50, n_57, n_58, n_59, n_72, n_74, n_75, n_85, n_91, n_96, n_97, n_99, n_122, n_255, n_300, n_432, n_600, n_900, n_999, n_1000, n_1291, n_1399, n_2798, n_11192, n_65536, n_65537, n_99999999, n_1000000, nI_add, pk_mul, q_le, q_lt, q_eq, q_cl, q_gi, q_gz, q_sub, q_div, q_dm, d_dm, q_m1, q_mn, q_nm, q_mlt, q_ltm, q_mle, q_lem, q_mm, Option.bind_some, if_true, if_false, Nat.add_zero, ite_self, q_us, q_un, decide_true, decide_false, Bool.false_eq_true, eq_self, and_self, and_true, true_and, and_false, false_and, or_true, true_or, or_false, false_or, d_ltT, d_ltF, d_leT, d_leF, d_eqT, d_eqF, f_X10_frequencyDifference, u1, Nat.sub_self], ?_⟩
  unfold f_X11_frequencyDifference
  simp only [n_0, n_1, n_2, n_3, n_4, n_5, n_6, n_7, n_8, n_9, n_10, n_12, n_13, n_15, n_20, n_24, n_27, n_31, n_32, n_33, n_36, n_44, n_48, n_50, n_57, n_58, n_59, n_72, n_74, n_75, n_85, n_91, n_96, n_97, n_99, n_122, n_255, n_300, n_432, n_600, n_900, n_999, n_1000, n_1291, n_1399, n_2798, n_11192, n_65536, n_65537, n_99999999, n_1000000]
  rw [q_cl (by omega), e5, q_ng]
  exact u2
theorem cT_all {g : Nat → Nat} (hT : okT g) : sumTo (g 4) (cT g) = sumTo (g 5) (tF g) := by
  show sumTo (g 4) (fun p => sumTo (g 5) (fun k => if tP g k = p then tF g k else 0)) = _
  rw [sumTo_swap]
  refine sumTo_congr (fun k hk => ?_)
  refine (sumTo_congr (fun q hq => ?_)).trans (sumTo_one (a := tP g k) (c := tF g k) (hT k hk).1)
  by_cases h9 : tP g k = q
  · rw [if_pos h9, if_pos h9.symm]
  · rw [if_neg h9, if_neg (fun h => h9 h.symm)]
theorem tF_le {g : Nat → Nat} (hB : okB g) (hD : okD g) (hT : okT g) {n : Nat} (hn : n ≤ g 5) : sumTo n (tF g) ≤ 3600 := by
  have b5 := b_5 hB
  have h : sumTo n (tF g) ≤ n * 12 := sumTo_le (fun k hk => (t_bd hB hD hT (show k < g 5 by omega)).2.2.1)
  omega
theorem e_totDL {N : Nat} {g : Nat → Nat} {en fr : Nat → Int32} (hN : 1000 < N) (hB : okB g) (hD : okD g) (hT : okT g) (hE : ER g en) (hF : FR g fr) : ∀ k p j : Nat, p + k = g 4 → k < j → f_X10_totalDifference_L4 N (nI (g 4)) (nI (g 5)) en fr j (nI (sumTo p (cT g))) (nI p) = some (nI 0) := by
  have b4 := b_4 hB
  intro k
  induction k with
  | zero =>
    intro p j h1 h2
    obtain ⟨j, rfl⟩ : ∃ t, j = t + 1 := ⟨j - 1, by omega⟩
    have e : p = g 4 := by omega
    subst e
    have u1 := e_faceSum hN hB hD hT hE
    rw [cT_all hT]
    simp (disch := omega) only [n_0, n_1, n_2, n_3, n_4, n_5, n_6, n_7, n_8, n_9, n_10, n_12, n_13, n_15, n_20, n_24, n_27, n_31, n_32, n_33, n_36, n_44, n_48, n_50, n_57, n_58, n_59, n_72, n_74, n_75, n_85, n_91, n_96, n_97, n_99, n_122, n_255, n_300, n_432, n_600, n_900, n_999, n_1000, n_1291, n_1399, n_2798, n_11192, n_65536, n_65537, n_99999999, n_1000000, nI_add, pk_mul, q_le, q_lt, q_eq, q_cl, q_gi, q_gz, q_sub, q_div, q_dm, d_dm, q_m1, q_mn, q_nm, q_mlt, q_ltm, q_mle, q_lem, q_mm, Option.bind_some, if_true, if_false, Nat.add_zero, ite_self, q_us, q_un, decide_true, decide_false, Bool.false_eq_true, eq_self, and_self, and_true, true_and, and_false, false_and, or_true, true_or, or_false, false_or, d_ltT, d_ltF, d_leT, d_leF, d_eqT, d_eqF, f_X10_totalDifference_L4, f_X10_totalDifference_L4_F, u1, Nat.sub_self]
  | succ k ih =>
    intro p j h1 h2
    obtain ⟨j, rfl⟩ : ∃ t, j = t + 1 := ⟨j - 1, by omega⟩
    have u1 := e_total (p := p) hN hB hD hT hF (by omega)
    have hi := ih (p + 1) j (by omega) (by omega)
    simp (disch := omega) only [n_0, n_1, n_2, n_3, n_4, n_5, n_6, n_7, n_8, n_9, n_10, n_12, n_13, n_15, n_20, n_24, n_27, n_31, n_32, n_33, n_36, n_44, n_48, n_50, n_57, n_58, n_59, n_72, n_74, n_75, n_85, n_91, n_96, n_97, n_99, n_122, n_255, n_300, n_432, n_600, n_900, n_999, n_1000, n_1291, n_1399, n_2798, n_11192, n_65536, n_65537, n_99999999, n_1000000, nI_add, pk_mul, q_le, q_lt, q_eq, q_cl, q_gi, q_gz, q_sub, q_div, q_dm, d_dm, q_m1, q_mn, q_nm, q_mlt, q_ltm, q_mle, q_lem, q_mm, Option.bind_some, if_true, if_false, Nat.add_zero, ite_self, q_us, q_un, decide_true, decide_false, Bool.false_eq_true, eq_self, and_self, and_true, true_and, and_false, false_and, or_true, true_or, or_false, false_or, d_ltT, d_ltF, d_leT, d_leF, d_eqT, d_eqF, f_X10_totalDifference_L4, f_X10_totalDifference_L4_F, u1]
    exact hi
theorem m_totD2 {N : Nat} {m : Nat → Int32} {g : Nat → Nat} {mt : Int32} (hM : MR m g) (hB : okB g) (hD : okD g) (hT : okT g) : ∀ k i j : Nat, i + k = g 5 → k < j → f_X11_totalDifference_L38 N m j (nI (sumTo (g 5) (tF g) - sumTo i (tF g))) (nI i) mt = some (nI 0, mt) := by
  have b5 := b_5 hB
  have e5 : m 5 = nI (g 5) := hM 5 (by omega)
  intro k
  induction k with
  | zero =>
    intro i j h1 h2
    obtain ⟨j, rfl⟩ : ∃ t, j = t + 1 := ⟨j - 1, by omega⟩
    have e : i = g 5 := by omega
    subst e
    simp (disch := omega) only [n_0, n_1, n_2, n_3, n_4, n_5, n_6, n_7, n_8, n_9, n_10, n_12, n_13, n_15, n_20, n_24, n_27, n_31, n_32, n_33, n_36, n_44, n_48, n_50, n_57, n_58, n_59, n_72, n_74, n_75, n_85, n_91, n_96, n_97, n_99, n_122, n_255, n_300, n_432, n_600, n_900, n_999, n_1000, n_1291, n_1399, n_2798, n_11192, n_65536, n_65537, n_99999999, n_1000000, nI_add, pk_mul, q_le, q_lt, q_eq, q_cl, q_gi, q_gz, q_sub, q_div, q_dm, d_dm, q_m1, q_mn, q_nm, q_mlt, q_ltm, q_mle, q_lem, q_mm, Option.bind_some, if_true, if_false, Nat.add_zero, ite_self, q_us, q_un, decide_true, decide_false, Bool.false_eq_true, eq_self, and_self, and_true, true_and, and_false, false_and, or_true, true_or, or_false, false_or, d_ltT, d_ltF, d_leT, d_leF, d_eqT, d_eqF, f_X11_totalDifference_L38, f_X11_totalDifference_L38_F, e5, Nat.sub_self]
  | succ k ih =>
    intro i j h1 h2
    obtain ⟨j, rfl⟩ : ∃ t, j = t + 1 := ⟨j - 1, by omega⟩
    have hi := ih (i + 1) j (by omega) (by omega)
    have hl := tF_le hB hD hT (Nat.le_refl (g 5))
    have hm := sumTo_mono (f := tF g) (show i + 1 ≤ g 5 by omega)
    rw [sumTo_s] at hm hi
    obtain ⟨o1, o2, o3, o4⟩ := m_t hM (k := i) (by omega)
    rw [← Nat.sub_sub] at hi
    simp (disch := omega) only [n_0, n_1, n_2, n_3, n_4, n_5, n_6, n_7, n_8, n_9, n_10, n_12, n_13, n_15, n_20, n_24, n_27, n_31, n_32, n_33, n_36, n_44, n_48, n_50, n_57, n_58, n_59, n_72, n_74, n_75, n_85, n_91, n_96, n_97, n_99, n_122, n_255, n_300, n_432, n_600, n_900, n_999, n_1000, n_1291, n_1399, n_2798, n_11192, n_65536, n_65537, n_99999999, n_1000000, nI_add, pk_mul, q_le, q_lt, q_eq, q_cl, q_gi, q_gz, q_sub, q_div, q_dm, d_dm, q_m1, q_mn, q_nm, q_mlt, q_ltm, q_mle, q_lem, q_mm, Option.bind_some, if_true, if_false, Nat.add_zero, ite_self, q_us, q_un, decide_true, decide_false, Bool.false_eq_true, eq_self, and_self, and_true, true_and, and_false, false_and, or_true, true_or, or_false, false_or, d_ltT, d_ltF, d_leT, d_leF, d_eqT, d_eqF, f_X11_totalDifference_L38, f_X11_totalDifference_L38_F, f_X11_ofThrow, e5, o3]
    exact hi
theorem m_totDL {N : Nat} {m : Nat → Int32} {g : Nat → Nat} {mt : Int32} (hN : 1000 < N) (hM : MR m g) (hB : okB g) (hD : okD g) (hT : okT g) : ∀ k p j : Nat, p + k = g 4 → k < j → f_X11_totalDifference_L9 N m j (nI (sumTo p (cT g))) (nI p) mt = some (nI 0, mt) := by
  have b4 := b_4 hB
  have b5 := b_5 hB
  have e4 : m 4 = nI (g 4) := hM 4 (by omega)
  intro k
  induction k with
  | zero =>
    intro p j h1 h2
    obtain ⟨j, rfl⟩ : ∃ t, j = t + 1 := ⟨j - 1, by omega⟩
    have e : p = g 4 := by omega
    subst e
    have u1 := m_totD2 (N := N) (mt := mt) hM hB hD hT (g 5) 0 N (by omega) (by omega)
    rw [cT_all hT]
    simp (disch := omega) only [n_0, n_1, n_2, n_3, n_4, n_5, n_6, n_7, n_8, n_9, n_10, n_12, n_13, n_15, n_20, n_24, n_27, n_31, n_32, n_33, n_36, n_44, n_48, n_50, n_57, n_58, n_59, n_72, n_74, n_75, n_85, n_91, n_96, n_97, n_99, n_122, n_255, n_300, n_432, n_600, n_900, n_999, n_1000, n_1291, n_1399, n_2798, n_11192, n_65536, n_65537, n_99999999, n_1000000, nI_add, pk_mul, q_le, q_lt, q_eq, q_cl, q_gi, q_gz, q_sub, q_div, q_dm, d_dm, q_m1, q_mn, q_nm, q_mlt, q_ltm, q_mle, q_lem, q_mm, Option.bind_some, if_true, if_false, Nat.add_zero, ite_self, q_us, q_un, decide_true, decide_false, Bool.false_eq_true, eq_self, and_self, and_true, true_and, and_false, false_and, or_true, true_or, or_false, false_or, d_ltT, d_ltF, d_leT, d_leF, d_eqT, d_eqF, f_X11_totalDifference_L9, f_X11_totalDifference_L9_F, e4]
    exact u1
  | succ k ih =>
    intro p j h1 h2
    obtain ⟨j, rfl⟩ : ∃ t, j = t + 1 := ⟨j - 1, by omega⟩
    have u1 := m_total (p := p) hN hM hB hD hT (by omega)
    have hi := ih (p + 1) j (by omega) (by omega)
    simp (disch := omega) only [n_0, n_1, n_2, n_3, n_4, n_5, n_6, n_7, n_8, n_9, n_10, n_12, n_13, n_15, n_20, n_24, n_27, n_31, n_32, n_33, n_36, n_44, n_48, n_50, n_57, n_58, n_59, n_72, n_74, n_75, n_85, n_91, n_96, n_97, n_99, n_122, n_255, n_300, n_432, n_600, n_900, n_999, n_1000, n_1291, n_1399, n_2798, n_11192, n_65536, n_65537, n_99999999, n_1000000, nI_add, pk_mul, q_le, q_lt, q_eq, q_cl, q_gi, q_gz, q_sub, q_div, q_dm, d_dm, q_m1, q_mn, q_nm, q_mlt, q_ltm, q_mle, q_lem, q_mm, Option.bind_some, if_true, if_false, Nat.add_zero, ite_self, q_us, q_un, decide_true, decide_false, Bool.false_eq_true, eq_self, and_self, and_true, true_and, and_false, false_and, or_true, true_or, or_false, false_or, d_ltT, d_ltF, d_leT, d_leF, d_eqT, d_eqF, f_X11_totalDifference_L9, f_X11_totalDifference_L9_F, e4, u1]
    exact hi
theorem k_totDiff {N : Nat} {g : Nat → Nat} {en fr m : Nat → Int32} {mt : Int32} (hN : 1000 < N) (hB : okB g) (hD : okD g) (hT : okT g) (hE : ER g en) (hF : FR g fr) (hM : MR m g) : ∃ v, f_X10_totalDifference N (nI (g 4)) (nI (g 5)) en fr = some v ∧ f_X11_totalDifference N m mt = some (v, nI 0) := by
  have b4 := b_4 hB
  exact ⟨nI 0, e_totDL hN hB hD hT hE hF (g 4) 0 N (by omega) (by omega), m_totDL (mt := nI 0) hN hM hB hD hT (g 4) 0 N (by omega) (by omega)⟩
theorem pl_lt {P : Nat → Nat → Bool} {n p p' : Nat} (hp : p < n) (h : P p p' = true) (tr : ∀ o, o < n → P o p = true → P o p' = true) (ir : P p p = false) : gPl P n p < gPl P n p' := by
  have h1 : sumTo n (fun o => (if P o p = true then 1 else 0) + if o = p then 1 else 0) ≤ gPl P n p' := sumTo_le2 (fun o ho => by
    by_cases c : o = p
    · subst c
      rw [ir, h, if_pos rfl, if_pos rfl, if_neg Bool.false_ne_true]
      omega
    · rw [if_neg c, Nat.add_zero]
      by_cases c2 : P o p = true
      · rw [if_pos c2, if_pos (tr o ho c2)]
        omega
      · rw [if_neg c2]
        omega)
  rw [sumTo_add, sumTo_one hp] at h1
  exact h1
theorem pl_bd {P : Nat → Nat → Bool} {n p : Nat} (hp : p < n) (ir : P p p = false) : gPl P n p < n := by
  have h1 : sumTo n (fun o => (if P o p = true then 1 else 0) + if o = p then 1 else 0) ≤ n * 1 := sumTo_le (fun o ho => by
    by_cases c : o = p
    · subst c
      rw [ir, if_pos rfl, if_neg Bool.false_ne_true]
      omega
    · rw [if_neg c, Nat.add_zero]
      split <;> omega)
  rw [sumTo_add, sumTo_one hp] at h1
  have h2 : gPl P n p = sumTo n (fun o => if P o p = true then 1 else 0) := rfl
  omega
theorem rB_t {g : Nat → Nat} {o p : Nat} : rB g o p = true ↔ cT g p < cT g o ∨ cT g o = cT g p ∧ nC g o < nC g p := decide_eq_true_iff
theorem rB_ir {g : Nat → Nat} {p : Nat} : rB g p p = false := decide_eq_false (by omega)
theorem rk_bd {g : Nat → Nat} {p : Nat} (hp : p < g 4) : gPl (rB g) (g 4) p < g 4 := pl_bd hp rB_ir
theorem rk_lt {g : Nat → Nat} {p p' : Nat} (hp : p < g 4) (h : rB g p p' = true) : gPl (rB g) (g 4) p < gPl (rB g) (g 4) p' := pl_lt hp h (fun o ho h2 => by
  have h1 := rB_t.mp h
  have h3 := rB_t.mp h2
  exact rB_t.mpr (by omega)) rB_ir
theorem rk_inj {g : Nat → Nat} (hP : okP g) {p p' : Nat} (hp : p < g 4) (hp' : p' < g 4) (h : gPl (rB g) (g 4) p = gPl (rB g) (g 4) p') : p = p' := by
  by_cases c : rB g p p' = true
  · have := rk_lt hp c
    omega
  · by_cases c2 : rB g p' p = true
    · have := rk_lt hp' c2
      omega
    · refine hP.2 p p' hp hp' ?_
      have h1 : ¬ (cT g p' < cT g p ∨ cT g p = cT g p' ∧ nC g p < nC g p') := fun h => c (rB_t.mpr h)
      have h2 : ¬ (cT g p < cT g p' ∨ cT g p' = cT g p ∧ nC g p' < nC g p) := fun h => c2 (rB_t.mpr h)
      omega
theorem rk_all {g : Nat → Nat} (hP : okP g) {v : Nat} (hv : v < g 4) : ∃ p, p < g 4 ∧ gPl (rB g) (g 4) p = v := pig_all (gPl (rB g) (g 4)) (fun i hi => rk_bd hi) (fun i j hi hj h => rk_inj hP hi hj h) v hv
theorem k_rankL {N : Nat} {g : Nat → Nat} {ln lt fr m : Nat → Int32} {mt : Int32} {a : Nat} (hN : 1000 < N) (hO : Ok g) (hR : NR g ln lt) (hF : FR g fr) (hM : MR m g) (ha : a < g 4) : ∀ k i j j' : Nat, i + k = g 4 → k < j → k < j' → (∀ t, t < i → gPl (rB g) (g 4) t ≠ a) → ∃ v, f_X10_playerWithRank_L2 N (nI (g 4)) lt fr j (nI a) (nI i) = some (.inr v) ∧ f_X11_playerWithRank_L21 N m j' (nI a) (nI i) mt = some (v, mt) := by
  have b4 := b_4 hO.1
  intro k
  induction k with
  | zero =>
    intro i j j' h1 h2 h3 h4
    obtain ⟨p, hp, hq⟩ := rk_all hO.2.2.1 ha
    exact absurd hq (h4 p (by omega))
  | succ k ih =>
    intro i j j' h1 h2 h3 h4
    obtain ⟨j, rfl⟩ : ∃ t, j = t + 1 := ⟨j - 1, by omega⟩
    obtain ⟨j', rfl⟩ : ∃ t, j' = t + 1 := ⟨j' - 1, by omega⟩
    have u1 := e_rank hN hO hR hF (show i < g 4 by omega)
    have u2 := m_rank hN hM hO (show i < g 4 by omega)
    have u3 := rk_bd (g := g) (show i < g 4 by omega)
    by_cases c : gPl (rB g) (g 4) i = a
    · rw [c] at u1 u2
      refine ⟨nI i, ?_, ?_⟩
      · simp (disch := omega) only [n_0, n_1, n_2, n_3, n_4, n_5, n_6, n_7, n_8, n_9, n_10, n_12, n_13, n_15, n_20, n_24, n_27, n_31, n_32, n_33, n_36, n_44, n_48, n_50, n_57, n_58, n_59, n_72, n_74, n_75, n_85, n_91, n_96, n_97, n_99, n_122, n_255, n_300, n_432, n_600, n_900, n_999, n_1000, n_1291, n_1399, n_2798, n_11192, n_65536, n_65537, n_99999999, n_1000000, nI_add, pk_mul, q_le, q_lt, q_eq, q_cl, q_gi, q_gz, q_sub, q_div, q_dm, d_dm, q_m1, q_mn, q_nm, q_mlt, q_ltm, q_mle, q_lem, q_mm, Option.bind_some, if_true, if_false, Nat.add_zero, ite_self, q_us, q_un, decide_true, decide_false, Bool.false_eq_true, eq_self, and_self, and_true, true_and, and_false, false_and, or_true, true_or, or_false, false_or, d_ltT, d_ltF, d_leT, d_leF, d_eqT, d_eqF, f_X10_playerWithRank_L2, f_X10_playerWithRank_L2_F, u1]
      · simp (disch := omega) only [n_0, n_1, n_2, n_3, n_4, n_5, n_6, n_7, n_8, n_9, n_10, n_12, n_13, n_15, n_20, n_24, n_27, n_31, n_32, n_33, n_36, n_44, n_48, n_50, n_57, n_58, n_59, n_72, n_74, n_75, n_85, n_91, n_96, n_97, n_99, n_122, n_255, n_300, n_432, n_600, n_900, n_999, n_1000, n_1291, n_1399, n_2798, n_11192, n_65536, n_65537, n_99999999, n_1000000, nI_add, pk_mul, q_le, q_lt, q_eq, q_cl, q_gi, q_gz, q_sub, q_div, q_dm, d_dm, q_m1, q_mn, q_nm, q_mlt, q_ltm, q_mle, q_lem, q_mm, Option.bind_some, if_true, if_false, Nat.add_zero, ite_self, q_us, q_un, decide_true, decide_false, Bool.false_eq_true, eq_self, and_self, and_true, true_and, and_false, false_and, or_true, true_or, or_false, false_or, d_ltT, d_ltF, d_leT, d_leF, d_eqT, d_eqF, f_X11_playerWithRank_L21, f_X11_playerWithRank_L21_F, u2]
    · obtain ⟨v, v1, v2⟩ := ih (i + 1) j j' (by omega) (by omega) (by omega) (fun t ht => by
        by_cases c2 : t = i
        · subst c2; exact c
        · exact h4 t (by omega))
      refine ⟨v, ?_, ?_⟩
      · simp (disch := omega) only [n_0, n_1, n_2, n_3, n_4, n_5, n_6, n_7, n_8, n_9, n_10, n_12, n_13, n_15, n_20, n_24, n_27, n_31, n_32, n_33, n_36, n_44, n_48, n_50, n_57, n_58, n_59, n_72, n_74, n_75, n_85, n_91, n_96, n_97, n_99, n_122, n_255, n_300, n_432, n_600, n_900, n_999, n_1000, n_1291, n_1399, n_2798, n_11192, n_65536, n_65537, n_99999999, n_1000000, nI_add, pk_mul, q_le, q_lt, q_eq, q_cl, q_gi, q_gz, q_sub, q_div, q_dm, d_dm, q_m1, q_mn, q_nm, q_mlt, q_ltm, q_mle, q_lem, q_mm, Option.bind_some, if_true, if_false, Nat.add_zero, ite_self, q_us, q_un, decide_true, decide_false, Bool.false_eq_true, eq_self, and_self, and_true, true_and, and_false, false_and, or_true, true_or, or_false, false_or, d_ltT, d_ltF, d_leT, d_leF, d_eqT, d_eqF, f_X10_playerWithRank_L2, f_X10_playerWithRank_L2_F, u1]
        exact v1
      · simp (disch := omega) only [n_0, n_1, n_2, n_3, n_4, n_5, n_6, n_7, n_8, n_9, n_10, n_12, n_13, n_15, n_20, n_24, n_27, n_31, n_32, n_33, n_36, n_44, n_48, n_50, n_57, n_58, n_59, n_72, n_74, n_75, n_85, n_91, n_96, n_97, n_99, n_122, n_255, n_300, n_432, n_600, n_900, n_999, n_1000, n_1291, n_1399, n_2798, n_11192, n_65536, n_65537, n_99999999, n_1000000, nI_add, pk_mul, q_le, q_lt, q_eq, q_cl, q_gi, q_gz, q_sub, q_div, q_dm, d_dm, q_m1, q_mn, q_nm, q_mlt, q_ltm, q_mle, q_lem, q_mm, Option.bind_some, if_true, if_false, Nat.add_zero, ite_self, q_us, q_un, decide_true, decide_false, Bool.false_eq_true, eq_self, and_self, and_true, true_and, and_false, false_and, or_true, true_or, or_false, false_or, d_ltT, d_ltF, d_leT, d_leF, d_eqT, d_eqF, f_X11_playerWithRank_L21, f_X11_playerWithRank_L21_F, u2]
        exact v2
theorem e_noRankL {N : Nat} {g : Nat → Nat} {ln lt fr : Nat → Int32} {x : Int32} (hN : 1000 < N) (hO : Ok g) (hR : NR g ln lt) (hF : FR g fr) (hx : x < nI 0 ∨ nI (g 4) ≤ x) : ∀ k i j : Nat, i + k = g 4 → k < j → f_X10_playerWithRank_L2 N (nI (g 4)) lt fr j x (nI i) = some (.inl "java/util/NoSuchElementException") := by
  have b4 := b_4 hO.1
  intro k
  induction k with
  | zero =>
    intro i j h1 h2
    obtain ⟨j, rfl⟩ : ∃ t, j = t + 1 := ⟨j - 1, by omega⟩
    simp (disch := omega) only [n_0, n_1, n_2, n_3, n_4, n_5, n_6, n_7, n_8, n_9, n_10, n_12, n_13, n_15, n_20, n_24, n_27, n_31, n_32, n_33, n_36, n_44, n_48, n_50, n_57, n_58, n_59, n_72, n_74, n_75, n_85, n_91, n_96, n_97, n_99, n_122, n_255, n_300, n_432, n_600, n_900, n_999, n_1000, n_1291, n_1399, n_2798, n_11192, n_65536, n_65537, n_99999999, n_1000000, nI_add, pk_mul, q_le, q_lt, q_eq, q_cl, q_gi, q_gz, q_sub, q_div, q_dm, d_dm, q_m1, q_mn, q_nm, q_mlt, q_ltm, q_mle, q_lem, q_mm, Option.bind_some, if_true, if_false, Nat.add_zero, ite_self, q_us, q_un, decide_true, decide_false, Bool.false_eq_true, eq_self, and_self, and_true, true_and, and_false, false_and, or_true, true_or, or_false, false_or, d_ltT, d_ltF, d_leT, d_leF, d_eqT, d_eqF, f_X10_playerWithRank_L2, f_X10_playerWithRank_L2_F]
  | succ k ih =>
    intro i j h1 h2
    obtain ⟨j, rfl⟩ : ∃ t, j = t + 1 := ⟨j - 1, by omega⟩
    have u1 := e_rank hN hO hR hF (show i < g 4 by omega)
    have u3 := rk_bd (g := g) (show i < g 4 by omega)
    have hi := ih (i + 1) j (by omega) (by omega)
    have hne : ¬ nI (gPl (rB g) (g 4) i) = x := by
      intro h
      subst h
      rcases hx with h | h
      · rw [q_lt (by omega) (by omega)] at h
        omega
      · rw [q_le (by omega) (by omega)] at h
        omega
    show f_X10_playerWithRank_L2_F N (nI (g 4)) lt fr (f_X10_playerWithRank_L2 N (nI (g 4)) lt fr j) x (nI i) = _
    unfold f_X10_playerWithRank_L2_F
    simp only [n_0, n_1, n_2, n_3, n_4, n_5, n_6, n_7, n_8, n_9, n_10, n_12, n_13, n_15, n_20, n_24, n_27, n_31, n_32, n_33, n_36, n_44, n_48, n_50, n_57, n_58, n_59, n_72, n_74, n_75, n_85, n_91, n_96, n_97, n_99, n_122, n_255, n_300, n_432, n_600, n_900, n_999, n_1000, n_1291, n_1399, n_2798, n_11192, n_65536, n_65537, n_99999999, n_1000000]
    rw [if_neg (by rw [q_le (by omega) (by omega)]; omega), u1, Option.bind_some, if_neg hne, nI_add]
    exact hi
theorem k_withRank {N : Nat} {g : Nat → Nat} {ln lt fr m : Nat → Int32} (hN : 1000 < N) (hO : Ok g) (hR : NR g ln lt) (hF : FR g fr) (hM : MR m g) (x mt : Int32) : (∃ v, f_X10_playerWithRank N (nI (g 4)) lt fr x = some (.inr v) ∧ f_X11_playerWithRank N m mt x = some (v, nI 0)) ∨ (f_X10_playerWithRank N (nI (g 4)) lt fr x = some (.inl "java/util/NoSuchElementException") ∧ f_X11_playerWithRank N m mt x = some (nI 0, nI 1)) := by
  have b4 := b_4 hO.1
  have e4 : m 4 = nI (g 4) := hM 4 (by omega)
  rcases ix_cs x (n := g 4) (by omega) with ⟨a, ha, rfl⟩ | h
  · have h1 := mi_t (mt := mt) ha (by omega)
    obtain ⟨v, v1, v2⟩ := k_rankL (N := N) (mt := nI 0) hN hO hR hF hM ha (g 4) 0 N N (by omega) (by omega) (by omega) (fun t ht => by omega)
    refine Or.inl ⟨v, v1, ?_⟩
    unfold f_X11_playerWithRank
    simp only [n_0, n_1, n_2, n_3, n_4, n_5, n_6, n_7, n_8, n_9, n_10, n_12, n_13, n_15, n_20, n_24, n_27, n_31, n_32, n_33, n_36, n_44, n_48, n_50, n_57, n_58, n_59, n_72, n_74, n_75, n_85, n_91, n_96, n_97, n_99, n_122, n_255, n_300, n_432, n_600, n_900, n_999, n_1000, n_1291, n_1399, n_2798, n_11192, n_65536, n_65537, n_99999999, n_1000000]
    rw [q_cl (by omega), e4, h1, Option.bind_some, if_pos rfl]
    exact v2
  · have h1 := mi_f (mt := mt) h (by omega)
    refine Or.inr ⟨e_noRankL hN hO hR hF h (g 4) 0 N (by omega) (by omega), ?_⟩
    unfold f_X11_playerWithRank
    simp only [n_0, n_1, n_2, n_3, n_4, n_5, n_6, n_7, n_8, n_9, n_10, n_12, n_13, n_15, n_20, n_24, n_27, n_31, n_32, n_33, n_36, n_44, n_48, n_50, n_57, n_58, n_59, n_72, n_74, n_75, n_85, n_91, n_96, n_97, n_99, n_122, n_255, n_300, n_432, n_600, n_900, n_999, n_1000, n_1291, n_1399, n_2798, n_11192, n_65536, n_65537, n_99999999, n_1000000]
    rw [q_cl (by omega), e4, h1, Option.bind_some, if_neg (by rw [q_eq (by omega) (by omega)]; omega)]
theorem k_find {N L : Nat} {g b : Nat → Nat} {ln lt itb mi m : Nat → Int32} {mt : Int32} (hN : 1000 < N) (hO : Ok g) (hR : NR g ln lt) (hM : MR m g) (hI : TR b L itb) (hJ : TR b L mi) : ∃ v, f_X10_findPlayer N (nI (g 4)) ln lt (nI L) itb = some v ∧ f_X11_findPlayer N (nI L) m mi mt = some (v, nI 0) := by
  have u1 := e_find (s := 0) (e := L) hN hO.1 hO.2.2.1 hR hI (Nat.zero_le _) (Nat.le_refl _)
  rw [Nat.sub_zero] at u1
  obtain ⟨c, u2, u3⟩ := y_find (s := 0) (n := L) hN hJ (by omega) hM hO
  refine ⟨gFind g b 0 L, by simp (disch := omega) only [n_0, n_1, n_2, n_3, n_4, n_5, n_6, n_7, n_8, n_9, n_10, n_12, n_13, n_15, n_20, n_24, n_27, n_31, n_32, n_33, n_36, n_44, n_48, n_50, n_57, n_58, n_59, n_72, n_74, n_75, n_85, n_91, n_96, n_97, n_99, n_122, n_255, n_300, n_432, n_600, n_900, n_999, n_1000, n_1291, n_1399, n_2798, n_11192, n_65536, n_65537, n_99999999, n_1000000, nI_add, pk_mul, q_le, q_lt, q_eq, q_cl, q_gi, q_gz, q_sub, q_div, q_dm, d_dm, q_m1, q_mn, q_nm, q_mlt, q_ltm, q_mle, q_lem, q_mm, Option.bind_some, if_true, if_false, Nat.add_zero, ite_self, q_us, q_un, decide_true, decide_false, Bool.false_eq_true, eq_self, and_self, and_true, true_and, and_false, false_and, or_true, true_or, or_false, false_or, d_ltT, d_ltF, d_leT, d_leF, d_eqT, d_eqF, f_X10_findPlayer, u1], ?_⟩
  unfold f_X11_findPlayer
  simp only [n_0, n_1, n_2, n_3, n_4, n_5, n_6, n_7, n_8, n_9, n_10, n_12, n_13, n_15, n_20, n_24, n_27, n_31, n_32, n_33, n_36, n_44, n_48, n_50, n_57, n_58, n_59, n_72, n_74, n_75, n_85, n_91, n_96, n_97, n_99, n_122, n_255, n_300, n_432, n_600, n_900, n_999, n_1000, n_1291, n_1399, n_2798, n_11192, n_65536, n_65537, n_99999999, n_1000000]
  rw [u2, Option.bind_some]
  by_cases h : c = -nI 1
  · subst h
    rw [m_namedN hN hM hO.1 hO.2.2.1] at u3
    rw [if_pos rfl, Option.some.inj u3]
  · rw [if_neg h, u3, Option.bind_some]
