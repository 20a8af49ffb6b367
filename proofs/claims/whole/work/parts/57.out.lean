/-! what is written out -/
def OR (L : Nat) (tb mo : Nat → Int32) : Prop := ∀ i, i < L → tb i = mo i
theorem nar_b : ∀ v, v < 128 → vp_nar .byte (nI v).toInt8.toInt32 = nI v := by decide +kernel
theorem o_push {L v : Nat} {tb mo : Nat → Int32} (hL : L < 900) (hv : v < 128) (h : OR L tb mo) : f_X8_append (nI L) tb (nI v) = some (nI (L + 1), upd tb L (nI v)) ∧ f_X11_print (nI L) mo (nI v) = some (nI (L + 1), upd mo L (nI v)) ∧ OR (L + 1) (upd tb L (nI v)) (upd mo L (nI v)) := by
  refine ⟨?_, ?_, fun i hi => ?_⟩
  · simp (disch := omega) only [n_0, n_1, n_2, n_3, n_4, n_5, n_6, n_7, n_8, n_9, n_10, n_12, n_13, n_15, n_20, n_24, n_27, n_31, n_32, n_33, n_36, n_44, n_48, n_50, n_57, n_58, n_59, n_72, n_74, n_75, n_85, n_91, n_96, n_97, n_99, n_122, n_255, n_300, n_432, n_600, n_900, n_999, n_1000, n_1291, n_1399, n_2798, n_11192, n_65536, n_65537, n_99999999, n_1000000, nI_add, pk_mul, q_le, q_lt, q_eq, q_cl, q_gi, q_gz, q_sub, q_div, q_dm, d_dm, q_m1, q_mn, q_nm, q_mlt, q_ltm, q_mle, q_lem, q_mm, Option.bind_some, if_true, if_false, Nat.add_zero, ite_self, q_us, q_un, decide_true, decide_false, Bool.false_eq_true, eq_self, and_self, and_true, true_and, and_false, false_and, or_true, true_or, or_false, false_or, d_ltT, d_ltF, d_leT, d_leF, d_eqT, d_eqF, f_X8_append, e_put]
  · unfold f_X11_print
    simp only [n_0, n_1, n_2, n_3, n_4, n_5, n_6, n_7, n_8, n_9, n_10, n_12, n_13, n_15, n_20, n_24, n_27, n_31, n_32, n_33, n_36, n_44, n_48, n_50, n_57, n_58, n_59, n_72, n_74, n_75, n_85, n_91, n_96, n_97, n_99, n_122, n_255, n_300, n_432, n_600, n_900, n_999, n_1000, n_1291, n_1399, n_2798, n_11192, n_65536, n_65537, n_99999999, n_1000000]
    rw [q_gi (by omega) (by omega), q_cl (by omega), nar_b v hv, nI_add]
  · by_cases c : i = L
    · rw [q_us c, q_us c]
    · rw [q_un c, q_un c]
      exact h i (by omega)
theorem o_dig {N a : Nat} (ha : a < 10000) : ∀ (e j j' L : Nat) (tb mo : Nat → Int32), e ≤ 3 → e + 1 < j → e + 1 < j' → (10 ^ e ≤ a ∨ e = 0) → L + e + 1 ≤ 900 → OR L tb mo → ∃ tb' mo', f_X8_appendNumber_L4 N j (nI a) (nI (10 ^ e)) (nI L) tb = some (nI (L + e + 1), tb') ∧ f_X11_printNumber_L20 N j' (nI a) (nI (10 ^ e)) (nI L) mo = some (nI (L + e + 1), mo') ∧ OR (L + e + 1) tb' mo' := by
  intro e
  induction e with
  | zero =>
    intro j j' L tb mo h1 h2 h3 h4 h5 h6
    obtain ⟨j, rfl⟩ : ∃ t, j = t + 2 := ⟨j - 2, by omega⟩
    obtain ⟨j', rfl⟩ : ∃ t, j' = t + 2 := ⟨j' - 2, by omega⟩
    obtain ⟨p1, p2, p3⟩ := o_push (L := L) (v := 48 + a % 10) (by omega) (by omega) h6
    refine ⟨_, _, ?_, ?_, p3⟩
    · rw [Nat.pow_zero]
      by_cases c : 1 ≤ a
      · simp (disch := omega) only [n_0, n_1, n_2, n_3, n_4, n_5, n_6, n_7, n_8, n_9, n_10, n_12, n_13, n_15, n_20, n_24, n_27, n_31, n_32, n_33, n_36, n_44, n_48, n_50, n_57, n_58, n_59, n_72, n_74, n_75, n_85, n_91, n_96, n_97, n_99, n_122, n_255, n_300, n_432, n_600, n_900, n_999, n_1000, n_1291, n_1399, n_2798, n_11192, n_65536, n_65537, n_99999999, n_1000000, nI_add, pk_mul, q_le, q_lt, q_eq, q_cl, q_gi, q_gz, q_sub, q_div, q_dm, d_dm, q_m1, q_mn, q_nm, q_mlt, q_ltm, q_mle, q_lem, q_mm, Option.bind_some, if_true, if_false, Nat.add_zero, ite_self, q_us, q_un, decide_true, decide_false, Bool.false_eq_true, eq_self, and_self, and_true, true_and, and_false, false_and, or_true, true_or, or_false, false_or, d_ltT, d_ltF, d_leT, d_leF, d_eqT, d_eqF, f_X8_appendNumber_L4, f_X8_appendNumber_L4_F, f_X8_appendNumber_L19, f_X8_appendNumber_L32, q_gz, Nat.div_one, p1]
      · simp (disch := omega) only [n_0, n_1, n_2, n_3, n_4, n_5, n_6, n_7, n_8, n_9, n_10, n_12, n_13, n_15, n_20, n_24, n_27, n_31, n_32, n_33, n_36, n_44, n_48, n_50, n_57, n_58, n_59, n_72, n_74, n_75, n_85, n_91, n_96, n_97, n_99, n_122, n_255, n_300, n_432, n_600, n_900, n_999, n_1000, n_1291, n_1399, n_2798, n_11192, n_65536, n_65537, n_99999999, n_1000000, nI_add, pk_mul, q_le, q_lt, q_eq, q_cl, q_gi, q_gz, q_sub, q_div, q_dm, d_dm, q_m1, q_mn, q_nm, q_mlt, q_ltm, q_mle, q_lem, q_mm, Option.bind_some, if_true, if_false, Nat.add_zero, ite_self, q_us, q_un, decide_true, decide_false, Bool.false_eq_true, eq_self, and_self, and_true, true_and, and_false, false_and, or_true, true_or, or_false, false_or, d_ltT, d_ltF, d_leT, d_leF, d_eqT, d_eqF, f_X8_appendNumber_L4, f_X8_appendNumber_L4_F, f_X8_appendNumber_L19, f_X8_appendNumber_L32, q_gz, Nat.div_one, p1]
    · rw [Nat.pow_zero]
      simp (disch := omega) only [n_0, n_1, n_2, n_3, n_4, n_5, n_6, n_7, n_8, n_9, n_10, n_12, n_13, n_15, n_20, n_24, n_27, n_31, n_32, n_33, n_36, n_44, n_48, n_50, n_57, n_58, n_59, n_72, n_74, n_75, n_85, n_91, n_96, n_97, n_99, n_122, n_255, n_300, n_432, n_600, n_900, n_999, n_1000, n_1291, n_1399, n_2798, n_11192, n_65536, n_65537, n_99999999, n_1000000, nI_add, pk_mul, q_le, q_lt, q_eq, q_cl, q_gi, q_gz, q_sub, q_div, q_dm, d_dm, q_m1, q_mn, q_nm, q_mlt, q_ltm, q_mle, q_lem, q_mm, Option.bind_some, if_true, if_false, Nat.add_zero, ite_self, q_us, q_un, decide_true, decide_false, Bool.false_eq_true, eq_self, and_self, and_true, true_and, and_false, false_and, or_true, true_or, or_false, false_or, d_ltT, d_ltF, d_leT, d_leF, d_eqT, d_eqF, f_X11_printNumber_L20, f_X11_printNumber_L20_F, q_gz, Nat.div_one, p2]
  | succ e ih =>
    intro j j' L tb mo h1 h2 h3 h4 h5 h6
    obtain ⟨j, rfl⟩ : ∃ t, j = t + 1 := ⟨j - 1, by omega⟩
    obtain ⟨j', rfl⟩ : ∃ t, j' = t + 1 := ⟨j' - 1, by omega⟩
    obtain ⟨p1, p2, p3⟩ := o_push (L := L) (v := 48 + a / 10 ^ (e + 1) % 10) (by omega) (by omega) h6
    have h7 : 10 ^ (e + 1) = 10 * 10 ^ e := by rw [Nat.pow_succ, Nat.mul_comm]
    have h8 : 10 ^ e ≤ 100 := by
      have : 10 ^ e ≤ 10 ^ 2 := Nat.pow_le_pow_right (by omega) (by omega)
      omega
    have h9 : 0 < 10 ^ e := Nat.pow_pos (by omega)
    obtain ⟨tb', mo', i1, i2, i3⟩ := ih j j' (L + 1) _ _ (by omega) (by omega) (by omega) (by omega) (by omega) p3
    rw [h7] at p1 p2 h4
    rw [show L + 1 + e + 1 = L + (e + 1) + 1 by omega] at i1 i2 i3
    rw [h7] at i1 i2
    generalize 10 ^ e = t at *
    have h10 : a / (10 * t) < 10000 := Nat.lt_of_le_of_lt (Nat.div_le_self _ _) ha
    refine ⟨tb', mo', ?_, ?_, i3⟩
    · rw [h7]
      simp (disch := omega) only [n_0, n_1, n_2, n_3, n_4, n_5, n_6, n_7, n_8, n_9, n_10, n_12, n_13, n_15, n_20, n_24, n_27, n_31, n_32, n_33, n_36, n_44, n_48, n_50, n_57, n_58, n_59, n_72, n_74, n_75, n_85, n_91, n_96, n_97, n_99, n_122, n_255, n_300, n_432, n_600, n_900, n_999, n_1000, n_1291, n_1399, n_2798, n_11192, n_65536, n_65537, n_99999999, n_1000000, nI_add, pk_mul, q_le, q_lt, q_eq, q_cl, q_gi, q_gz, q_sub, q_div, q_dm, d_dm, q_m1, q_mn, q_nm, q_mlt, q_ltm, q_mle, q_lem, q_mm, Option.bind_some, if_true, if_false, Nat.add_zero, ite_self, q_us, q_un, decide_true, decide_false, Bool.false_eq_true, eq_self, and_self, and_true, true_and, and_false, false_and, or_true, true_or, or_false, false_or, d_ltT, d_ltF, d_leT, d_leF, d_eqT, d_eqF, f_X8_appendNumber_L4, f_X8_appendNumber_L4_F, f_X8_appendNumber_L19, f_X8_appendNumber_L32, q_gz, p1, show 10 * t / 10 = t by omega]
      exact i1
    · rw [h7]
      simp (disch := omega) only [n_0, n_1, n_2, n_3, n_4, n_5, n_6, n_7, n_8, n_9, n_10, n_12, n_13, n_15, n_20, n_24, n_27, n_31, n_32, n_33, n_36, n_44, n_48, n_50, n_57, n_58, n_59, n_72, n_74, n_75, n_85, n_91, n_96, n_97, n_99, n_122, n_255, n_300, n_432, n_600, n_900, n_999, n_1000, n_1291, n_1399, n_2798, n_11192, n_65536, n_65537, n_99999999, n_1000000, nI_add, pk_mul, q_le, q_lt, q_eq, q_cl, q_gi, q_gz, q_sub, q_div, q_dm, d_dm, q_m1, q_mn, q_nm, q_mlt, q_ltm, q_mle, q_lem, q_mm, Option.bind_some, if_true, if_false, Nat.add_zero, ite_self, q_us, q_un, decide_true, decide_false, Bool.false_eq_true, eq_self, and_self, and_true, true_and, and_false, false_and, or_true, true_or, or_false, false_or, d_ltT, d_ltF, d_leT, d_leF, d_eqT, d_eqF, f_X11_printNumber_L20, f_X11_printNumber_L20_F, q_gz, p2, show 10 * t / 10 = t by omega]
      exact i2
theorem o_skip {N a t j : Nat} {L : Int32} {tb : Nat → Int32} (ht : a < 10 * t) (h1 : t < 1000) (h0 : 0 < t) : f_X8_appendNumber_L4 N (j + 1) (nI a) (nI (10 * t)) L tb = f_X8_appendNumber_L4 N j (nI a) (nI t) L tb := by
  simp (disch := omega) only [n_0, n_1, n_2, n_3, n_4, n_5, n_6, n_7, n_8, n_9, n_10, n_12, n_13, n_15, n_20, n_24, n_27, n_31, n_32, n_33, n_36, n_44, n_48, n_50, n_57, n_58, n_59, n_72, n_74, n_75, n_85, n_91, n_96, n_97, n_99, n_122, n_255, n_300, n_432, n_600, n_900, n_999, n_1000, n_1291, n_1399, n_2798, n_11192, n_65536, n_65537, n_99999999, n_1000000, nI_add, pk_mul, q_le, q_lt, q_eq, q_cl, q_gi, q_gz, q_sub, q_div, q_dm, d_dm, q_m1, q_mn, q_nm, q_mlt, q_ltm, q_mle, q_lem, q_mm, Option.bind_some, if_true, if_false, Nat.add_zero, ite_self, q_us, q_un, decide_true, decide_false, Bool.false_eq_true, eq_self, and_self, and_true, true_and, and_false, false_and, or_true, true_or, or_false, false_or, d_ltT, d_ltF, d_leT, d_leF, d_eqT, d_eqF, f_X8_appendNumber_L4, f_X8_appendNumber_L4_F, f_X8_appendNumber_L32, show 10 * t / 10 = t by omega]
theorem o_grow {N a t j : Nat} {L : Int32} {mo : Nat → Int32} (ha : a < 10000) (h : 10 * t ≤ a) (h0 : 0 < t) : f_X11_printNumber_L2 N (j + 1) (nI a) (nI t) L mo = f_X11_printNumber_L2 N j (nI a) (nI (10 * t)) L mo := by
  have h1 : ¬ a / t ≤ 9 := by
    have : 10 ≤ a / t := (Nat.le_div_iff_mul_le h0).mpr h
    omega
  have h2 : a / t < 2147483648 := Nat.lt_of_le_of_lt (Nat.div_le_self a t) (by omega)
  show f_X11_printNumber_L2_F N (f_X11_printNumber_L2 N j) (nI a) (nI t) L mo = _
  unfold f_X11_printNumber_L2_F
  simp only [n_0, n_1, n_2, n_3, n_4, n_5, n_6, n_7, n_8, n_9, n_10, n_12, n_13, n_15, n_20, n_24, n_27, n_31, n_32, n_33, n_36, n_44, n_48, n_50, n_57, n_58, n_59, n_72, n_74, n_75, n_85, n_91, n_96, n_97, n_99, n_122, n_255, n_300, n_432, n_600, n_900, n_999, n_1000, n_1291, n_1399, n_2798, n_11192, n_65536, n_65537, n_99999999, n_1000000]
  rw [q_gz h0 (by omega), pk_div (by omega) h0 (by omega), if_neg (by rw [q_le h2 (by omega)]; exact h1), pk_mul, Nat.mul_comm t 10]
theorem o_stop {N a t j : Nat} {L : Int32} {mo : Nat → Int32} (h : a < 10 * t) (ht : t ≤ 1000) (h0 : 0 < t) : f_X11_printNumber_L2 N (j + 1) (nI a) (nI t) L mo = f_X11_printNumber_L20 N N (nI a) (nI t) L mo := by
  have h1 : a / t ≤ 9 := by
    have := Nat.div_lt_of_lt_mul (show a < t * 10 by omega)
    omega
  show f_X11_printNumber_L2_F N (f_X11_printNumber_L2 N j) (nI a) (nI t) L mo = _
  unfold f_X11_printNumber_L2_F
  simp only [n_0, n_1, n_2, n_3, n_4, n_5, n_6, n_7, n_8, n_9, n_10, n_12, n_13, n_15, n_20, n_24, n_27, n_31, n_32, n_33, n_36, n_44, n_48, n_50, n_57, n_58, n_59, n_72, n_74, n_75, n_85, n_91, n_96, n_97, n_99, n_122, n_255, n_300, n_432, n_600, n_900, n_999, n_1000, n_1291, n_1399, n_2798, n_11192, n_65536, n_65537, n_99999999, n_1000000]
  rw [q_gz h0 (by omega), pk_div (by omega) h0 (by omega), if_pos (by rw [q_le (by omega) (by omega)]; exact h1)]
def dg (a : Nat) : Nat := if a < 10 then 1 else if a < 100 then 2 else if a < 1000 then 3 else 4
theorem o_num {N a L : Nat} {tb mo : Nat → Int32} (hN : 1000 < N) (ha : a < 10000) (hL : L + dg a ≤ 900) (h : OR L tb mo) : ∃ tb' mo', f_X8_appendNumber N (nI L) tb (nI a) = some (nI (L + dg a), tb') ∧ f_X11_printNumber N (nI L) mo (nI a) = some (nI (L + dg a), mo') ∧ OR (L + dg a) tb' mo' := by
  unfold f_X8_appendNumber f_X11_printNumber
  simp only [n_0, n_1, n_2, n_3, n_4, n_5, n_6, n_7, n_8, n_9, n_10, n_12, n_13, n_15, n_20, n_24, n_27, n_31, n_32, n_33, n_36, n_44, n_48, n_50, n_57, n_58, n_59, n_72, n_74, n_75, n_85, n_91, n_96, n_97, n_99, n_122, n_255, n_300, n_432, n_600, n_900, n_999, n_1000, n_1291, n_1399, n_2798, n_11192, n_65536, n_65537, n_99999999, n_1000000]
  obtain ⟨n, rfl⟩ : ∃ t, N = t + 4 := ⟨N - 4, by omega⟩
  generalize hM : n + 4 = M
  have e1 : (1000 : Nat) = 10 * 100 := by omega
  have e2 : (100 : Nat) = 10 * 10 := by omega
  have e3 : (10 : Nat) = 10 * 1 := by omega
  unfold dg at *
  by_cases c1 : a < 10
  · rw [if_pos c1] at *
    obtain ⟨tb', mo', h1, h2, h3⟩ := o_dig (N := M) ha 0 (n + 1) M L tb mo (by omega) (by omega) (by omega) (Or.inr rfl) (by omega) h
    refine ⟨tb', mo', ?_, ?_, h3⟩
    · rw [← hM, e1, o_skip (by omega) (by omega) (by omega), e2, o_skip (by omega) (by omega) (by omega), e3, o_skip (by omega) (by omega) (by omega), hM]
      exact h1
    · rw [← hM, o_stop (by omega) (by omega) (by omega), hM]
      exact h2
  · rw [if_neg c1] at *
    by_cases c2 : a < 100
    · rw [if_pos c2] at *
      obtain ⟨tb', mo', h1, h2, h3⟩ := o_dig (N := M) ha 1 (n + 2) M L tb mo (by omega) (by omega) (by omega) (Or.inl (by omega)) (by omega) h
      refine ⟨tb', mo', ?_, ?_, h3⟩
      · rw [← hM, e1, o_skip (by omega) (by omega) (by omega), e2, o_skip (by omega) (by omega) (by omega), hM]
        exact h1
      · rw [← hM, o_grow ha (by omega) (by omega), o_stop (by omega) (by omega) (by omega), hM]
        exact h2
    · rw [if_neg c2] at *
      by_cases c3 : a < 1000
      · rw [if_pos c3] at *
        obtain ⟨tb', mo', h1, h2, h3⟩ := o_dig (N := M) ha 2 (n + 3) M L tb mo (by omega) (by omega) (by omega) (Or.inl (by omega)) (by omega) h
        refine ⟨tb', mo', ?_, ?_, h3⟩
        · rw [← hM, e1, o_skip (by omega) (by omega) (by omega), hM]
          exact h1
        · rw [← hM, o_grow ha (by omega) (by omega), o_grow ha (by omega) (by omega), o_stop (by omega) (by omega) (by omega), hM]
          exact h2
      · rw [if_neg c3] at *
        obtain ⟨tb', mo', h1, h2, h3⟩ := o_dig (N := M) ha 3 (n + 4) M L tb mo (by omega) (by omega) (by omega) (Or.inl (by omega)) (by omega) h
        refine ⟨tb', mo', ?_, ?_, h3⟩
        · rw [← hM]
          rw [hM] at h1 ⊢
          exact h1
        · rw [← hM, o_grow ha (by omega) (by omega), o_grow ha (by omega) (by omega), o_grow ha (by omega) (by omega), o_stop (by omega) (by omega) (by omega), hM]
          exact h2
theorem dg_le {a : Nat} : 1 ≤ dg a ∧ dg a ≤ 4 ∧ (a < 100 → dg a ≤ 2) := by
  unfold dg
  split
  · omega
  · split
    · omega
    · split <;> omega
theorem o_nameL {N p : Nat} {g : Nat → Nat} {ln lt fr op os m : Nat → Int32} (hN : 1000 < N) (hO : Ok g) (hR : NR g ln lt) (hF : FR g fr) (hQ : QR g op os) (hM : MR m g) (hp : p < g 4) : ∀ (k i j j' L : Nat) (tb mo : Nat → Int32), i + k = nL (nC g p) → k < j → k < j' → L + k + 6 ≤ 900 → OR L tb mo → ∃ L' tb' mo', L' ≤ L + k + 6 ∧ f_X10_writeRecordOf_L26 N ln lt fr (nI (g 6)) op j (nI p) (nI i) (nI L) tb = some (nI L', tb') ∧ f_X11_printPlayer_L15 N m j' (nI p) (nI i) (nI L) mo = some (nI L', mo') ∧ OR L' tb' mo' := by
  have b4 := b_4 hO.1
  have b6 := b_6 hO.1
  obtain ⟨l1, l2, l3⟩ := nL_sp (hO.2.2.1.1 p hp)
  have hc := (hO.2.2.1.1 p hp).1
  have u0 := e_nameLength (g := g) (p := p) hO.1 hR hp
  have u1 : m (85 + p) = nI (nC g p) := hM _ (by omega)
  have u2 := m_lettersOf (N := N) hN hc
  have ht := cT_le hO.1 hO.2.1 hO.2.2.2.1 p
  have u3 := e_total (p := p) hN hO.1 hO.2.1 hO.2.2.2.1 hF (by omega)
  have u4 := m_total (p := p) hN hM hO.1 hO.2.1 hO.2.2.2.1 (by omega)
  have u5 := e_countOf (p := p) hN hO.1 hO.2.2.2.2 hQ (by omega)
  have u6 := m_offBy (p := p) hN hM hO.1 hO.2.2.2.2 (by omega)
  have hob := gOby_le (g := g) (p := p) (n := g 6)
  intro k
  induction k with
  | zero =>
    intro i j j' L tb mo h1 h2 h3 h4 h5
    obtain ⟨j, rfl⟩ : ∃ t, j = t + 1 := ⟨j - 1, by omega⟩
    obtain ⟨j', rfl⟩ : ∃ t, j' = t + 1 := ⟨j' - 1, by omega⟩
    have hd := dg_le (a := cT g p)
    obtain ⟨p1, p2, p3⟩ := o_push (L := L) (v := 58) (by omega) (by omega) h5
    obtain ⟨tb1, mo1, p4, p5, p6⟩ := o_num (N := N) (a := cT g p) (L := L + 1) hN (by omega) (by omega) p3
    by_cases c : gOby g p (g 6) = 0
    · rw [c] at u5 u6
      refine ⟨L + 1 + dg (cT g p), tb1, mo1, by omega, ?_, ?_, p6⟩
      · show f_X10_writeRecordOf_L26_F N ln lt fr (nI (g 6)) op (f_X10_writeRecordOf_L26 N ln lt fr (nI (g 6)) op j) (nI p) (nI i) (nI L) tb = _
        unfold f_X10_writeRecordOf_L26_F
        simp only [n_0, n_1, n_2, n_3, n_4, n_5, n_6, n_7, n_8, n_9, n_10, n_12, n_13, n_15, n_20, n_24, n_27, n_31, n_32, n_33, n_36, n_44, n_48, n_50, n_57, n_58, n_59, n_72, n_74, n_75, n_85, n_91, n_96, n_97, n_99, n_122, n_255, n_300, n_432, n_600, n_900, n_999, n_1000, n_1291, n_1399, n_2798, n_11192, n_65536, n_65537, n_99999999, n_1000000]
        rw [u0, Option.bind_some, if_pos (by rw [q_le (by omega) (by omega)]; omega), p1, Option.bind_some, u3, Option.bind_some, p4, Option.bind_some, u5, Option.bind_some, if_pos (by rw [q_le (by omega) (by omega)]; omega)]
      · show f_X11_printPlayer_L15_F N m (f_X11_printPlayer_L15 N m j') (nI p) (nI i) (nI L) mo = _
        unfold f_X11_printPlayer_L15_F
        simp only [n_0, n_1, n_2, n_3, n_4, n_5, n_6, n_7, n_8, n_9, n_10, n_12, n_13, n_15, n_20, n_24, n_27, n_31, n_32, n_33, n_36, n_44, n_48, n_50, n_57, n_58, n_59, n_72, n_74, n_75, n_85, n_91, n_96, n_97, n_99, n_122, n_255, n_300, n_432, n_600, n_900, n_999, n_1000, n_1291, n_1399, n_2798, n_11192, n_65536, n_65537, n_99999999, n_1000000]
        rw [nI_add, q_gi (by omega) (by omega), q_cl (by omega), u1, u2, Option.bind_some, if_pos (by rw [q_le (by omega) (by omega)]; omega), p2, Option.bind_some, u4, Option.bind_some, p5, Option.bind_some, u6, Option.bind_some, if_pos (by rw [q_le (by omega) (by omega)]; omega)]
    · obtain ⟨p7, p8, p9⟩ := o_push (L := L + 1 + dg (cT g p)) (v := 33) (by omega) (by omega) p6
      refine ⟨L + 1 + dg (cT g p) + 1, _, _, by omega, ?_, ?_, p9⟩
      · show f_X10_writeRecordOf_L26_F N ln lt fr (nI (g 6)) op (f_X10_writeRecordOf_L26 N ln lt fr (nI (g 6)) op j) (nI p) (nI i) (nI L) tb = _
        unfold f_X10_writeRecordOf_L26_F
        simp only [n_0, n_1, n_2, n_3, n_4, n_5, n_6, n_7, n_8, n_9, n_10, n_12, n_13, n_15, n_20, n_24, n_27, n_31, n_32, n_33, n_36, n_44, n_48, n_50, n_57, n_58, n_59, n_72, n_74, n_75, n_85, n_91, n_96, n_97, n_99, n_122, n_255, n_300, n_432, n_600, n_900, n_999, n_1000, n_1291, n_1399, n_2798, n_11192, n_65536, n_65537, n_99999999, n_1000000]
        rw [u0, Option.bind_some, if_pos (by rw [q_le (by omega) (by omega)]; omega), p1, Option.bind_some, u3, Option.bind_some, p4, Option.bind_some, u5, Option.bind_some, if_neg (by rw [q_le (by omega) (by omega)]; omega), p7, Option.bind_some]
      · show f_X11_printPlayer_L15_F N m (f_X11_printPlayer_L15 N m j') (nI p) (nI i) (nI L) mo = _
        unfold f_X11_printPlayer_L15_F
        simp only [n_0, n_1, n_2, n_3, n_4, n_5, n_6, n_7, n_8, n_9, n_10, n_12, n_13, n_15, n_20, n_24, n_27, n_31, n_32, n_33, n_36, n_44, n_48, n_50, n_57, n_58, n_59, n_72, n_74, n_75, n_85, n_91, n_96, n_97, n_99, n_122, n_255, n_300, n_432, n_600, n_900, n_999, n_1000, n_1291, n_1399, n_2798, n_11192, n_65536, n_65537, n_99999999, n_1000000]
        rw [nI_add, q_gi (by omega) (by omega), q_cl (by omega), u1, u2, Option.bind_some, if_pos (by rw [q_le (by omega) (by omega)]; omega), p2, Option.bind_some, u4, Option.bind_some, p5, Option.bind_some, u6, Option.bind_some, if_neg (by rw [q_le (by omega) (by omega)]; omega), p8, Option.bind_some]
  | succ k ih =>
    intro i j j' L tb mo h1 h2 h3 h4 h5
    obtain ⟨j, rfl⟩ : ∃ t, j = t + 1 := ⟨j - 1, by omega⟩
    obtain ⟨j', rfl⟩ : ∃ t, j' = t + 1 := ⟨j' - 1, by omega⟩
    have u7 := m_letterOf (N := N) (i := i) hN hc (by omega)
    have u8 := e_letter (i := i) hO.1 hR hp (by omega)
    have l4 : ¬ nD (nC g p) i = 0 := fun h => by have := (l3 i (by omega)).mp h; omega
    have l5 : nA (nC g p) i = 96 + nD (nC g p) i := if_neg l4
    rw [l5] at u8
    have l6 := nD_lt (c := nC g p) (i := i)
    obtain ⟨p1, p2, p3⟩ := o_push (L := L) (v := 96 + nD (nC g p) i) (by omega) (by omega) h5
    obtain ⟨L', tb', mo', i0, i1, i2, i3⟩ := ih (i + 1) j j' (L + 1) _ _ (by omega) (by omega) (by omega) (by omega) p3
    refine ⟨L', tb', mo', by omega, ?_, ?_, i3⟩
    · show f_X10_writeRecordOf_L26_F N ln lt fr (nI (g 6)) op (f_X10_writeRecordOf_L26 N ln lt fr (nI (g 6)) op j) (nI p) (nI i) (nI L) tb = _
      unfold f_X10_writeRecordOf_L26_F
      simp only [n_0, n_1, n_2, n_3, n_4, n_5, n_6, n_7, n_8, n_9, n_10, n_12, n_13, n_15, n_20, n_24, n_27, n_31, n_32, n_33, n_36, n_44, n_48, n_50, n_57, n_58, n_59, n_72, n_74, n_75, n_85, n_91, n_96, n_97, n_99, n_122, n_255, n_300, n_432, n_600, n_900, n_999, n_1000, n_1291, n_1399, n_2798, n_11192, n_65536, n_65537, n_99999999, n_1000000]
      rw [u0, Option.bind_some, if_neg (by rw [q_le (by omega) (by omega)]; omega), u8, Option.bind_some, p1, Option.bind_some, nI_add]
      exact i1
    · show f_X11_printPlayer_L15_F N m (f_X11_printPlayer_L15 N m j') (nI p) (nI i) (nI L) mo = _
      unfold f_X11_printPlayer_L15_F
      simp only [n_0, n_1, n_2, n_3, n_4, n_5, n_6, n_7, n_8, n_9, n_10, n_12, n_13, n_15, n_20, n_24, n_27, n_31, n_32, n_33, n_36, n_44, n_48, n_50, n_57, n_58, n_59, n_72, n_74, n_75, n_85, n_91, n_96, n_97, n_99, n_122, n_255, n_300, n_432, n_600, n_900, n_999, n_1000, n_1291, n_1399, n_2798, n_11192, n_65536, n_65537, n_99999999, n_1000000]
      rw [nI_add, q_gi (by omega) (by omega), q_cl (by omega), u1, u2, Option.bind_some, if_neg (by rw [q_le (by omega) (by omega)]; omega), q_gi (by omega) (by omega), u7, Option.bind_some, nI_add, p2, Option.bind_some, nI_add]
      exact i2
theorem e_byteIn {L i : Nat} {tb : Nat → Int32} (h : i < L) (hL : L ≤ 900) : f_X8_byteIn (nI L) tb (nI i) = some (tb i) := by
  simp (disch := omega) only [n_0, n_1, n_2, n_3, n_4, n_5, n_6, n_7, n_8, n_9, n_10, n_12, n_13, n_15, n_20, n_24, n_27, n_31, n_32, n_33, n_36, n_44, n_48, n_50, n_57, n_58, n_59, n_72, n_74, n_75, n_85, n_91, n_96, n_97, n_99, n_122, n_255, n_300, n_432, n_600, n_900, n_999, n_1000, n_1291, n_1399, n_2798, n_11192, n_65536, n_65537, n_99999999, n_1000000, nI_add, pk_mul, q_le, q_lt, q_eq, q_cl, q_gi, q_gz, q_sub, q_div, q_dm, d_dm, q_m1, q_mn, q_nm, q_mlt, q_ltm, q_mle, q_lem, q_mm, Option.bind_some, if_true, if_false, Nat.add_zero, ite_self, q_us, q_un, decide_true, decide_false, Bool.false_eq_true, eq_self, and_self, and_true, true_and, and_false, false_and, or_true, true_or, or_false, false_or, d_ltT, d_ltF, d_leT, d_leF, d_eqT, d_eqF, f_X8_byteIn]
theorem k_outByte {L : Nat} {tb mo : Nat → Int32} (hL : L ≤ 900) (h : OR L tb mo) (x mt : Int32) : (∃ v, f_X10_outputByte (nI L) tb x = some (.inr v) ∧ f_X11_outputByte (nI L) mo mt x = some (v, nI 0)) ∨ (f_X10_outputByte (nI L) tb x = some (.inl "java/util/NoSuchElementException") ∧ f_X11_outputByte (nI L) mo mt x = some (nI 0, nI 1)) := by
  rcases ix_cs x (n := L) (by omega) with ⟨a, ha, rfl⟩ | hx
  · have h1 := mi_t (mt := mt) ha (by omega)
    have h2 := e_byteIn (tb := tb) ha hL
    refine Or.inl ⟨tb a, ?_, ?_⟩
    · simp (disch := omega) only [n_0, n_1, n_2, n_3, n_4, n_5, n_6, n_7, n_8, n_9, n_10, n_12, n_13, n_15, n_20, n_24, n_27, n_31, n_32, n_33, n_36, n_44, n_48, n_50, n_57, n_58, n_59, n_72, n_74, n_75, n_85, n_91, n_96, n_97, n_99, n_122, n_255, n_300, n_432, n_600, n_900, n_999, n_1000, n_1291, n_1399, n_2798, n_11192, n_65536, n_65537, n_99999999, n_1000000, nI_add, pk_mul, q_le, q_lt, q_eq, q_cl, q_gi, q_gz, q_sub, q_div, q_dm, d_dm, q_m1, q_mn, q_nm, q_mlt, q_ltm, q_mle, q_lem, q_mm, Option.bind_some, if_true, if_false, Nat.add_zero, ite_self, q_us, q_un, decide_true, decide_false, Bool.false_eq_true, eq_self, and_self, and_true, true_and, and_false, false_and, or_true, true_or, or_false, false_or, d_ltT, d_ltF, d_leT, d_leF, d_eqT, d_eqF, f_X10_outputByte, h2]
    · unfold f_X11_outputByte
      simp only [n_0, n_1, n_2, n_3, n_4, n_5, n_6, n_7, n_8, n_9, n_10, n_12, n_13, n_15, n_20, n_24, n_27, n_31, n_32, n_33, n_36, n_44, n_48, n_50, n_57, n_58, n_59, n_72, n_74, n_75, n_85, n_91, n_96, n_97, n_99, n_122, n_255, n_300, n_432, n_600, n_900, n_999, n_1000, n_1291, n_1399, n_2798, n_11192, n_65536, n_65537, n_99999999, n_1000000]
      rw [h1, Option.bind_some, if_pos rfl, q_gi (by omega) (by omega), q_cl (by omega), h a ha]
  · have h1 := mi_f (mt := mt) hx (by omega)
    refine Or.inr ⟨?_, ?_⟩
    · unfold f_X10_outputByte f_X10_outputByte_L15
      simp only [n_0, n_1, n_2, n_3, n_4, n_5, n_6, n_7, n_8, n_9, n_10, n_12, n_13, n_15, n_20, n_24, n_27, n_31, n_32, n_33, n_36, n_44, n_48, n_50, n_57, n_58, n_59, n_72, n_74, n_75, n_85, n_91, n_96, n_97, n_99, n_122, n_255, n_300, n_432, n_600, n_900, n_999, n_1000, n_1291, n_1399, n_2798, n_11192, n_65536, n_65537, n_99999999, n_1000000]
      rcases hx with hx | hx
      · rw [if_pos hx]
      · obtain ⟨b, h3, h4, h5⟩ := i_nn hx (by omega)
        subst h5
        rw [if_neg (by rw [q_lt (by omega) (by omega)]; omega), if_neg (by rw [q_lt (by omega) (by omega)]; omega)]
    · unfold f_X11_outputByte
      simp only [n_0, n_1, n_2, n_3, n_4, n_5, n_6, n_7, n_8, n_9, n_10, n_12, n_13, n_15, n_20, n_24, n_27, n_31, n_32, n_33, n_36, n_44, n_48, n_50, n_57, n_58, n_59, n_72, n_74, n_75, n_85, n_91, n_96, n_97, n_99, n_122, n_255, n_300, n_432, n_600, n_900, n_999, n_1000, n_1291, n_1399, n_2798, n_11192, n_65536, n_65537, n_99999999, n_1000000]
      rw [h1, Option.bind_some, if_neg (by rw [q_eq (by omega) (by omega)]; omega)]
