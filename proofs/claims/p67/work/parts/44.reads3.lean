/-! player and die -/
theorem e_addNameL {N L s e P : Nat} {b : Nat → Nat} {tb ln lt0 : Nat → Int32} (hT : TR b L tb) (hse : s ≤ e) (he : e ≤ L) (hP : P < 6) : ∀ (k i j : Nat) (lt : Nat → Int32), i + k = 4 → k < j → (∀ t, t < i → lt (4 * P + t) = nI (if t < e - s then b (s + t) else 0)) → (∀ t, t < 4 * P → lt t = lt0 t) → ∃ lt', f_X7_add_L13 N (nI L) tb j (nI s) (nI e) (nI i) (nI P) ln lt = some (nI (P + 1), upd ln P (nI (e - s)), lt') ∧ (∀ t, t < 4 → lt' (4 * P + t) = nI (if t < e - s then b (s + t) else 0)) ∧ ∀ t, t < 4 * P → lt' t = lt0 t := by
  have hL := hT.1
  intro k
  induction k with
  | zero =>
    intro i j lt h1 h2 h3 h4
    obtain ⟨j, rfl⟩ : ∃ t, j = t + 1 := ⟨j - 1, by omega⟩
    refine ⟨lt, ?_, fun t ht => h3 t (by omega), h4⟩
    simp (disch := omega) only [n_0, n_1, n_2, n_3, n_4, n_5, n_6, n_7, n_8, n_9, n_10, n_12, n_13, n_15, n_20, n_24, n_27, n_31, n_32, n_33, n_36, n_44, n_48, n_50, n_57, n_58, n_59, n_72, n_74, n_75, n_85, n_91, n_96, n_97, n_99, n_122, n_255, n_300, n_432, n_600, n_900, n_999, n_1000, n_1291, n_1399, n_2798, n_11192, n_65536, n_65537, n_99999999, n_1000000, nI_add, pk_mul, q_le, q_lt, q_eq, q_cl, q_gi, q_gz, q_sub, q_div, q_dm, d_dm, q_m1, q_mn, q_nm, q_mlt, q_ltm, q_mle, q_lem, q_mm, Option.bind_some, if_true, if_false, Nat.add_zero, ite_self, q_us, q_un, decide_true, decide_false, Bool.false_eq_true, eq_self, and_self, and_true, true_and, and_false, false_and, or_true, true_or, or_false, false_or, d_ltT, d_ltF, d_leT, d_leF, d_eqT, d_eqF, f_X7_add_L13, f_X7_add_L13_F, e_put]
  | succ k ih =>
    intro i j lt h1 h2 h3 h4
    obtain ⟨j, rfl⟩ : ∃ t, j = t + 1 := ⟨j - 1, by omega⟩
    have hx := fun v => ih (i + 1) j (upd lt (4 * P + i) v) (by omega) (by omega)
    have hkeep : ∀ v t, t < 4 * P → upd lt (4 * P + i) v t = lt0 t := fun v t ht => by
      rw [q_un (by omega)]
      exact h4 t ht
    by_cases hi : i < e - s
    · have hb := e_byte hT (show s + i < L by omega)
      obtain ⟨lt', e1, e2⟩ := hx (nI (b (s + i))) (fun t ht => by
        by_cases c : t = i
        · rw [q_us (by omega), c, if_pos hi]
        · rw [q_un (by omega)]
          exact h3 t (by omega)) (hkeep _)
      refine ⟨lt', ?_, e2⟩
      simp (disch := omega) only [n_0, n_1, n_2, n_3, n_4, n_5, n_6, n_7, n_8, n_9, n_10, n_12, n_13, n_15, n_20, n_24, n_27, n_31, n_32, n_33, n_36, n_44, n_48, n_50, n_57, n_58, n_59, n_72, n_74, n_75, n_85, n_91, n_96, n_97, n_99, n_122, n_255, n_300, n_432, n_600, n_900, n_999, n_1000, n_1291, n_1399, n_2798, n_11192, n_65536, n_65537, n_99999999, n_1000000, nI_add, pk_mul, q_le, q_lt, q_eq, q_cl, q_gi, q_gz, q_sub, q_div, q_dm, d_dm, q_m1, q_mn, q_nm, q_mlt, q_ltm, q_mle, q_lem, q_mm, Option.bind_some, if_true, if_false, Nat.add_zero, ite_self, q_us, q_un, decide_true, decide_false, Bool.false_eq_true, eq_self, and_self, and_true, true_and, and_false, false_and, or_true, true_or, or_false, false_or, d_ltT, d_ltF, d_leT, d_leF, d_eqT, d_eqF, f_X7_add_L13, f_X7_add_L13_F, f_X7_add_L52, hb, Nat.mul_comm P 4, e_put]
      exact e1
    · obtain ⟨lt', e1, e2⟩ := hx (nI 0) (fun t ht => by
        by_cases c : t = i
        · rw [q_us (by omega), c, if_neg hi]
        · rw [q_un (by omega)]
          exact h3 t (by omega)) (hkeep _)
      refine ⟨lt', ?_, e2⟩
      simp (disch := omega) only [n_0, n_1, n_2, n_3, n_4, n_5, n_6, n_7, n_8, n_9, n_10, n_12, n_13, n_15, n_20, n_24, n_27, n_31, n_32, n_33, n_36, n_44, n_48, n_50, n_57, n_58, n_59, n_72, n_74, n_75, n_85, n_91, n_96, n_97, n_99, n_122, n_255, n_300, n_432, n_600, n_900, n_999, n_1000, n_1291, n_1399, n_2798, n_11192, n_65536, n_65537, n_99999999, n_1000000, nI_add, pk_mul, q_le, q_lt, q_eq, q_cl, q_gi, q_gz, q_sub, q_div, q_dm, d_dm, q_m1, q_mn, q_nm, q_mlt, q_ltm, q_mle, q_lem, q_mm, Option.bind_some, if_true, if_false, Nat.add_zero, ite_self, q_us, q_un, decide_true, decide_false, Bool.false_eq_true, eq_self, and_self, and_true, true_and, and_false, false_and, or_true, true_or, or_false, false_or, d_ltT, d_ltF, d_leT, d_leF, d_eqT, d_eqF, f_X7_add_L13, f_X7_add_L13_F, f_X7_add_L52, Nat.mul_comm P 4, e_put]
      exact e1
/-- the row with one player more -/
def gPlay (g : Nat → Nat) (c : Nat) : Nat → Nat := up (up g (85 + g 4) c) 4 (g 4 + 1)
theorem gPlay_n {g : Nat → Nat} {c k : Nat} (h : k ≠ 4) (h2 : k ≠ 85 + g 4) : gPlay g c k = g k := by
  unfold gPlay
  rw [up_n h, up_n h2]
theorem gPlay_4 {g : Nat → Nat} {c : Nat} : gPlay g c 4 = g 4 + 1 := up_s rfl
theorem gPlay_C {g : Nat → Nat} {c : Nat} : nC (gPlay g c) (g 4) = c := by
  unfold nC gPlay
  rw [up_n (by omega), up_s rfl]
theorem gPlay_s {g : Nat → Nat} {c : Nat} (hO : Ok g) (h4 : g 4 < 6) : sD g (gPlay g c) ∧ sT g (gPlay g c) ∧ sO g (gPlay g c) := ⟨⟨gPlay_n (by omega) (by omega), fun k k1 k2 => gPlay_n (by omega) (by omega)⟩, ⟨gPlay_n (by omega) (by omega), fun k k1 k2 => gPlay_n (by omega) (by omega)⟩, ⟨gPlay_n (by omega) (by omega), fun k k1 k2 => gPlay_n (by omega) (by omega)⟩⟩
theorem gPlay_ok {g : Nat → Nat} {c : Nat} (hO : Ok g) (h4 : g 4 < 6) (hc : nOk c) (hn : ∀ p, p < g 4 → nC g p ≠ c) : Ok (gPlay g c) := by
  obtain ⟨s1, s2, s3⟩ := gPlay_s (c := c) hO h4
  have hC : ∀ p, p < g 4 → nC (gPlay g c) p = nC g p := fun p hp => gPlay_n (by omega) (by omega)
  obtain ⟨hB, hD, hP, hT, hOo⟩ := hO
  refine ⟨?_, sD_ok s1 hB hD, ⟨fun p hp => ?_, fun p p' hp hp' e => ?_⟩, fun k hk => ?_, ⟨fun r hr => ?_, fun r r' hr hr' e => ?_⟩⟩
  · obtain ⟨b0, b1, b2, b3, b4, b5, b6, b7⟩ := hB
    unfold okB
    rw [gPlay_4, gPlay_n (k := 0) (by omega) (by omega), gPlay_n (k := 1) (by omega) (by omega), gPlay_n (k := 2) (by omega) (by omega), gPlay_n (k := 3) (by omega) (by omega), gPlay_n (k := 5) (by omega) (by omega), gPlay_n (k := 6) (by omega) (by omega)]
    omega
  · rw [gPlay_4] at hp
    by_cases h : p = g 4
    · rw [h, gPlay_C]
      exact hc
    · rw [hC p (by omega)]
      exact hP.1 p (by omega)
  · rw [gPlay_4] at hp hp'
    by_cases h : p = g 4
    · by_cases h' : p' = g 4
      · omega
      · rw [h, gPlay_C, hC p' (by omega)] at e
        exact absurd e.symm (hn p' (by omega))
    · by_cases h' : p' = g 4
      · rw [h', gPlay_C, hC p (by omega)] at e
        exact absurd e (hn p (by omega))
      · rw [hC p (by omega), hC p' (by omega)] at e
        exact hP.2 p p' (by omega) (by omega) e
  · have b5 := b_5 hB
    have b3 := b_3 hB
    rw [s2.1] at hk
    obtain ⟨e1, e2, e3, e4, -⟩ := sT_t s2 (show k < 300 by omega)
    have ht := hT k hk
    rw [e1, e2, e3, e4, gPlay_4, s1.1, sD_F s1 (by omega)]
    exact ⟨by omega, ht.2⟩
  · have b6 := b_6 hB
    rw [s3.1] at hr
    obtain ⟨e1, e2, e3, -⟩ := sO_o s3 (show r < 36 by omega)
    have := hOo.1 r hr
    rw [e1, e2, e3, gPlay_4, s1.1]
    exact ⟨by omega, this.2⟩
  · have b6 := b_6 hB
    rw [s3.1] at hr hr'
    rw [(sO_o s3 (show r < 36 by omega)).2.2.2, (sO_o s3 (show r' < 36 by omega)).2.2.2] at e
    exact hOo.2 r r' hr hr' e
/-- a new name while an error stands: nothing of it counts -/
theorem x_new_e {N L s c : Nat} {b g : Nat → Nat} {tb ln lt : Nat → Int32} {kd ts te tv eo : Int32} (hN : 1000 < N) (hT : TR b L tb) (h1 : TC b L s kd ts te tv) (hO : Ok g) (hR : NR g ln lt) (c0 : 0 < c) (c1 : c < 100) : ∃ kd' ts' te' tv', f_X5_takeNewName N (nI L) tb (nI (g 4)) ln lt (nI c) eo kd ts te tv = some (nI c, eo, kd', ts', te', tv') := by
  have hk := @tkK_le b L s
  have h4 := b_4 hO.1
  have hL := hT.1
  obtain ⟨e1, e2, e3, -⟩ := tkE_s (b := b) h1.1
  obtain ⟨a1, a2, a3, a4, a5⟩ := h1
  subst a2 a3 a4
  have xf := fun a => @x_fail_e (nI s) eo a c c0 c1
  by_cases k1 : tkK b L s = 1
  · rw [k1]
    by_cases hl : tkE b L s - s ≤ 4
    · have hf := e_find (N := N) (s := s) (e := tkE b L s) hN hO.1 hO.2.2.1 hR hT e1 e2
      rcases gFind_s (g := g) (b := b) (s := s) (n := tkE b L s - s) (by omega) with q | ⟨p, q1, q2⟩
      · obtain ⟨kd', ts', te', tv', u1, u2⟩ := x_adv (N := N) (kd := nI 1) (ts := nI s) (tv := tv) hN hT e2
        rw [q] at hf
        refine ⟨kd', ts', te', tv', ?_⟩
        simp (disch := omega) only [n_0, n_1, n_2, n_3, n_4, n_5, n_6, n_7, n_8, n_9, n_10, n_12, n_13, n_15, n_20, n_24, n_27, n_31, n_32, n_33, n_36, n_44, n_48, n_50, n_57, n_58, n_59, n_72, n_74, n_75, n_85, n_91, n_96, n_97, n_99, n_122, n_255, n_300, n_432, n_600, n_900, n_999, n_1000, n_1291, n_1399, n_2798, n_11192, n_65536, n_65537, n_99999999, n_1000000, nI_add, pk_mul, q_le, q_lt, q_eq, q_cl, q_gi, q_gz, q_sub, q_div, q_dm, d_dm, q_m1, q_mn, q_nm, q_mlt, q_ltm, q_mle, q_lem, q_mm, Option.bind_some, if_true, if_false, Nat.add_zero, ite_self, q_us, q_un, decide_true, decide_false, Bool.false_eq_true, eq_self, and_self, and_true, true_and, and_false, false_and, or_true, true_or, or_false, false_or, d_ltT, d_ltF, d_leT, d_leF, d_eqT, d_eqF, f_X5_takeNewName, hf, u1]
      · rw [q2] at hf
        refine ⟨nI 1, nI s, nI (tkE b L s), tv, ?_⟩
        simp (disch := omega) only [n_0, n_1, n_2, n_3, n_4, n_5, n_6, n_7, n_8, n_9, n_10, n_12, n_13, n_15, n_20, n_24, n_27, n_31, n_32, n_33, n_36, n_44, n_48, n_50, n_57, n_58, n_59, n_72, n_74, n_75, n_85, n_91, n_96, n_97, n_99, n_122, n_255, n_300, n_432, n_600, n_900, n_999, n_1000, n_1291, n_1399, n_2798, n_11192, n_65536, n_65537, n_99999999, n_1000000, nI_add, pk_mul, q_le, q_lt, q_eq, q_cl, q_gi, q_gz, q_sub, q_div, q_dm, d_dm, q_m1, q_mn, q_nm, q_mlt, q_ltm, q_mle, q_lem, q_mm, Option.bind_some, if_true, if_false, Nat.add_zero, ite_self, q_us, q_un, decide_true, decide_false, Bool.false_eq_true, eq_self, and_self, and_true, true_and, and_false, false_and, or_true, true_or, or_false, false_or, d_ltT, d_ltF, d_leT, d_leF, d_eqT, d_eqF, f_X5_takeNewName, hf, xf]
    · refine ⟨nI 1, nI s, nI (tkE b L s), tv, ?_⟩
      simp (disch := omega) only [n_0, n_1, n_2, n_3, n_4, n_5, n_6, n_7, n_8, n_9, n_10, n_12, n_13, n_15, n_20, n_24, n_27, n_31, n_32, n_33, n_36, n_44, n_48, n_50, n_57, n_58, n_59, n_72, n_74, n_75, n_85, n_91, n_96, n_97, n_99, n_122, n_255, n_300, n_432, n_600, n_900, n_999, n_1000, n_1291, n_1399, n_2798, n_11192, n_65536, n_65537, n_99999999, n_1000000, nI_add, pk_mul, q_le, q_lt, q_eq, q_cl, q_gi, q_gz, q_sub, q_div, q_dm, d_dm, q_m1, q_mn, q_nm, q_mlt, q_ltm, q_mle, q_lem, q_mm, Option.bind_some, if_true, if_false, Nat.add_zero, ite_self, q_us, q_un, decide_true, decide_false, Bool.false_eq_true, eq_self, and_self, and_true, true_and, and_false, false_and, or_true, true_or, or_false, false_or, d_ltT, d_ltF, d_leT, d_leF, d_eqT, d_eqF, f_X5_takeNewName, xf]
  · refine ⟨nI (tkK b L s), nI s, nI (tkE b L s), tv, ?_⟩
    simp (disch := omega) only [n_0, n_1, n_2, n_3, n_4, n_5, n_6, n_7, n_8, n_9, n_10, n_12, n_13, n_15, n_20, n_24, n_27, n_31, n_32, n_33, n_36, n_44, n_48, n_50, n_57, n_58, n_59, n_72, n_74, n_75, n_85, n_91, n_96, n_97, n_99, n_122, n_255, n_300, n_432, n_600, n_900, n_999, n_1000, n_1291, n_1399, n_2798, n_11192, n_65536, n_65537, n_99999999, n_1000000, nI_add, pk_mul, q_le, q_lt, q_eq, q_cl, q_gi, q_gz, q_sub, q_div, q_dm, d_dm, q_m1, q_mn, q_nm, q_mlt, q_ltm, q_mle, q_lem, q_mm, Option.bind_some, if_true, if_false, Nat.add_zero, ite_self, q_us, q_un, decide_true, decide_false, Bool.false_eq_true, eq_self, and_self, and_true, true_and, and_false, false_and, or_true, true_or, or_false, false_or, d_ltT, d_ltF, d_leT, d_leF, d_eqT, d_eqF, f_X5_takeNewName, xf]
