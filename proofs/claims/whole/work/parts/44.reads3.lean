/-! player and die -/
theorem e_addNameL {N L s e P : Nat} {b : Nat → Nat} {tb ln lt0 : Nat → Int32} (hT : TR b L tb) (hse : s ≤ e) (he : e ≤ L) (hP : P < 6) : ∀ (k i j : Nat) (lt : Nat → Int32), i + k = 4 → k < j → (∀ t, t < i → lt (4 * P + t) = nI (if t < e - s then b (s + t) else 0)) → (∀ t, t < 4 * P → lt t = lt0 t) → ∃ lt', f_X7_add_L13 N (nI L) tb j (nI s) (nI e) (nI i) (nI P) ln lt = some (nI (P + 1), upd ln P (nI (e - s)), lt') ∧ (∀ t, t < 4 → lt' (4 * P + t) = nI (if t < e - s then b (s + t) else 0)) ∧ ∀ t, t < 4 * P → lt' t = lt0 t := by
  have hL := hT.1
  intro k
  induction k with
  | zero =>
    intro i j lt h1 h2 h3 h4
    obtain ⟨j, rfl⟩ : ∃ t, j = t + 1 := ⟨j - 1, by omega⟩
    refine ⟨lt, ?_, fun t ht => h3 t (by omega), h4⟩
    simp (disch := omega) only [n_0, n_1, n_2, n_3, n_4, n_5, n_6, n_7, n_8, n_9, n_10, n_12, n_13, n_15, n_20, n_24, n_27, n_31, n_32, n_33, n_36, n_44, n_48, n_50, n_57, n_58, n_59, n_72, n_74, n_75, n_85, n_91, n_96, n_97, n_99, n_122, n_255, n_300, n_432, n_600, n_900, n_999, n_1000, n_1291, n_1399, n_2798, n_11192, n_65536, n_65537, n_99999999, n_1000000, nI_add, pk_mul, q_le, q_lt, q_eq, q_cl, q_gi, q_gz, q_sub, q_div, q_dm, d_dm, q_m1, q_mn, q_nm, q_mlt, q_ltm, q_mle, q_lem, q_mm, Option.bind_some, if_true, if_false, Nat.add_zero, ite_self, q_us, q_un, decide_true, decide_false, Bool.false_eq_true, eq_self, and_self, and_true, true_and, and_false, false_and, or_true, true_or, or_false, false_or, d_ltT, d_ltF, d_leT, d_leF, d_eqT, d_eqF, f_X7_add_L13, f_X7_add_L13_F, e_put]
  | succ k ih =>
    intro i j lt h1 h2 h3 h4
    obtain ⟨j, rfl⟩ : ∃ t, j = t + 1 := ⟨j - 1, by omega⟩
    have hx := fun v => ih (i + 1) j (upd lt (4 * P + i) v) (by omega) (by omega)
    have hkeep : ∀ v t, t < 4 * P → upd lt (4 * P + i) v t = lt0 t := fun v t ht => by
      rw [q_un (by omega)]
      exact h4 t ht
    by_cases hi : i < e - s
    · have hb := e_byte hT (show s + i < L by omega)
      obtain ⟨lt', e1, e2⟩ := hx (nI (b (s + i))) (fun t ht => by
        by_cases c : t = i
        · rw [q_us (by omega), c, if_pos hi]
        · rw [q_un (by omega)]
          exact h3 t (by omega)) (hkeep _)
      refine ⟨lt', ?_, e2⟩
      simp (disch := omega) only [n_0, n_1, n_2, n_3, n_4, n_5, n_6, n_7, n_8, n_9, n_10, n_12, n_13, n_15, n_20, n_24, n_27, n_31, n_32, n_33, n_36, n_44, n_48, n_50, n_57, n_58, n_59, n_72, n_74, n_75, n_85, n_91, n_96, n_97, n_99, n_122, n_255, n_300, n_432, n_600, n_900, n_999, n_1000, n_1291, n_1399, n_2798, n_11192, n_65536, n_65537, n_99999999, n_1000000, nI_add, pk_mul, q_le, q_lt, q_eq, q_cl, q_gi, q_gz, q_sub, q_div, q_dm, d_dm, q_m1, q_mn, q_nm, q_mlt, q_ltm, q_mle, q_lem, q_mm, Option.bind_some, if_true, if_false, Nat.add_zero, ite_self, q_us, q_un, decide_true, decide_false, Bool.false_eq_true, eq_self, and_self, and_true, true_and, and_false, false_and, or_true, true_or, or_false, false_or, d_ltT, d_ltF, d_leT, d_leF, d_eqT, d_eqF, f_X7_add_L13, f_X7_add_L13_F, f_X7_add_L52, hb, Nat.mul_comm P 4, e_put]
      exact e1
    · obtain ⟨lt', e1, e2⟩ := hx (nI 0) (fun t ht => by
        by_cases c : t = i
        · rw [q_us (by omega), c, if_neg hi]
        · rw [q_un (by omega)]
          exact h3 t (by omega)) (hkeep _)
      refine ⟨lt', ?_, e2⟩
      simp (disch := omega) only [n_0, n_1, n_2, n_3, n_4, n_5, n_6, n_7, n_8, n_9, n_10, n_12, n_13, n_15, n_20, n_24, n_27, n_31, n_32, n_33, n_36, n_44, n_48, n_50, n_57, n_58, n_59, n_72, n_74, n_75, n_85, n_91, n_96, n_97, n_99, n_122, n_255, n_300, n_432, n_600, n_900, n_999, n_1000, n_1291, n_1399, n_2798, n_11192, n_65536, n_65537, n_99999999, n_1000000, nI_add, pk_mul, q_le, q_lt, q_eq, q_cl, q_gi, q_gz, q_sub, q_div, q_dm, d_dm, q_m1, q_mn, q_nm, q_mlt, q_ltm, q_mle, q_lem, q_mm, Option.bind_some, if_true, if_false, Nat.add_zero, ite_self, q_us, q_un, decide_true, decide_false, Bool.false_eq_true, eq_self, and_self, and_true, true_and, and_false, false_and, or_true, true_or, or_false, false_or, d_ltT, d_ltF, d_leT, d_leF, d_eqT, d_eqF, f_X7_add_L13, f_X7_add_L13_F, f_X7_add_L52, Nat.mul_comm P 4, e_put]
      exact e1
/-- the row with one player more -/
def gPlay (g : Nat → Nat) (c : Nat) : Nat → Nat := up (up g (85 + g 4) c) 4 (g 4 + 1)
theorem gPlay_n {g : Nat → Nat} {c k : Nat} (h : k ≠ 4) (h2 : k ≠ 85 + g 4) : gPlay g c k = g k := by
  unfold gPlay
  rw [up_n h, up_n h2]
theorem gPlay_4 {g : Nat → Nat} {c : Nat} : gPlay g c 4 = g 4 + 1 := up_s rfl
theorem gPlay_C {g : Nat → Nat} {c : Nat} : nC (gPlay g c) (g 4) = c := by
  unfold nC gPlay
  rw [up_n (by omega), up_s rfl]
theorem gPlay_s {g : Nat → Nat} {c : Nat} (hO : Ok g) (h4 : g 4 < 6) : sD g (gPlay g c) ∧ sT g (gPlay g c) ∧ sO g (gPlay g c) := ⟨⟨gPlay_n (by omega) (by omega), fun k k1 k2 => gPlay_n (by omega) (by omega)⟩, ⟨gPlay_n (by omega) (by omega), fun k k1 k2 => gPlay_n (by omega) (by omega)⟩, ⟨gPlay_n (by omega) (by omega), fun k k1 k2 => gPlay_n (by omega) (by omega)⟩⟩
theorem gPlay_ok {g : Nat → Nat} {c : Nat} (hO : Ok g) (h4 : g 4 < 6) (hc : nOk c) (hn : ∀ p, p < g 4 → nC g p ≠ c) : Ok (gPlay g c) := by
  obtain ⟨s1, s2, s3⟩ := gPlay_s (c := c) hO h4
  have hC : ∀ p, p < g 4 → nC (gPlay g c) p = nC g p := fun p hp => gPlay_n (by omega) (by omega)
  obtain ⟨hB, hD, hP, hT, hOo⟩ := hO
  refine ⟨?_, sD_ok s1 hB hD, ⟨fun p hp => ?_, fun p p' hp hp' e => ?_⟩, fun k hk => ?_, ⟨fun r hr => ?_, fun r r' hr hr' e => ?_⟩⟩
  · obtain ⟨b0, b1, b2, b3, b4, b5, b6, b7⟩ := hB
    unfold okB
    rw [gPlay_4, gPlay_n (k := 0) (by omega) (by omega), gPlay_n (k := 1) (by omega) (by omega), gPlay_n (k := 2) (by omega) (by omega), gPlay_n (k := 3) (by omega) (by omega), gPlay_n (k := 5) (by omega) (by omega), gPlay_n (k := 6) (by omega) (by omega)]
    omega
  · rw [gPlay_4] at hp
    by_cases h : p = g 4
    · rw [h, gPlay_C]
      exact hc
    · rw [hC p (by omega)]
      exact hP.1 p (by omega)
  · rw [gPlay_4] at hp hp'
    by_cases h : p = g 4
    · by_cases h' : p' = g 4
      · omega
      · rw [h, gPlay_C, hC p' (by omega)] at e
        exact absurd e.symm (hn p' (by omega))
    · by_cases h' : p' = g 4
      · rw [h', gPlay_C, hC p (by omega)] at e
        exact absurd e (hn p (by omega))
      · rw [hC p (by omega), hC p' (by omega)] at e
        exact hP.2 p p' (by omega) (by omega) e
  · have b5 := b_5 hB
    have b3 := b_3 hB
    rw [s2.1] at hk
    obtain ⟨e1, e2, e3, e4, -⟩ := sT_t s2 (show k < 300 by omega)
    have ht := hT k hk
    rw [e1, e2, e3, e4, gPlay_4, s1.1, sD_F s1 (by omega)]
    exact ⟨by omega, ht.2⟩
  · have b6 := b_6 hB
    rw [s3.1] at hr
    obtain ⟨e1, e2, e3, -⟩ := sO_o s3 (show r < 36 by omega)
    have := hOo.1 r hr
    rw [e1, e2, e3, gPlay_4, s1.1]
    exact ⟨by omega, this.2⟩
  · have b6 := b_6 hB
    rw [s3.1] at hr hr'
    rw [(sO_o s3 (show r < 36 by omega)).2.2.2, (sO_o s3 (show r' < 36 by omega)).2.2.2] at e
    exact hOo.2 r r' hr hr' e
/-- a new name while an error stands: nothing of it counts -/
theorem x_new_e {N L s c : Nat} {b g : Nat → Nat} {tb ln lt : Nat → Int32} {kd ts te tv eo : Int32} (hN : 1000 < N) (hT : TR b L tb) (h1 : TC b L s kd ts te tv) (hO : Ok g) (hR : NR g ln lt) (c0 : 0 < c) (c1 : c < 100) : ∃ kd' ts' te' tv', f_X5_takeNewName N (nI L) tb (nI (g 4)) ln lt (nI c) eo kd ts te tv = some (nI c, eo, kd', ts', te', tv') := by
  have hk := @tkK_le b L s
  have h4 := b_4 hO.1
  have hL := hT.1
  obtain ⟨e1, e2, e3, -⟩ := tkE_s (b := b) h1.1
  obtain ⟨a1, a2, a3, a4, a5⟩ := h1
  subst a2 a3 a4
  have xf := fun a => @x_fail_e (nI s) eo a c c0 c1
  by_cases k1 : tkK b L s = 1
  · rw [k1]
    by_cases hl : tkE b L s - s ≤ 4
    · have hf := e_find (N := N) (s := s) (e := tkE b L s) hN hO.1 hO.2.2.1 hR hT e1 e2
      rcases gFind_s (g := g) (b := b) (s := s) (n := tkE b L s - s) (by omega) with q | ⟨p, q1, q2⟩
      · obtain ⟨kd', ts', te', tv', u1, u2⟩ := x_adv (N := N) (kd := nI 1) (ts := nI s) (tv := tv) hN hT e2
        rw [q] at hf
        refine ⟨kd', ts', te', tv', ?_⟩
        simp (disch := omega) only [n_0, n_1, n_2, n_3, n_4, n_5, n_6, n_7, n_8, n_9, n_10, n_12, n_13, n_15, n_20, n_24, n_27, n_31, n_32, n_33, n_36, n_44, n_48, n_50, n_57, n_58, n_59, n_72, n_74, n_75, n_85, n_91, n_96, n_97, n_99, n_122, n_255, n_300, n_432, n_600, n_900, n_999, n_1000, n_1291, n_1399, n_2798, n_11192, n_65536, n_65537, n_99999999, n_1000000, nI_add, pk_mul, q_le, q_lt, q_eq, q_cl, q_gi, q_gz, q_sub, q_div, q_dm, d_dm, q_m1, q_mn, q_nm, q_mlt, q_ltm, q_mle, q_lem, q_mm, Option.bind_some, if_true, if_false, Nat.add_zero, ite_self, q_us, q_un, decide_true, decide_false, Bool.false_eq_true, eq_self, and_self, and_true, true_and, and_false, false_and, or_true, true_or, or_false, false_or, d_ltT, d_ltF, d_leT, d_leF, d_eqT, d_eqF, f_X5_takeNewName, hf, u1]
      · rw [q2] at hf
        refine ⟨nI 1, nI s, nI (tkE b L s), tv, ?_⟩
        simp (disch := omega) only [n_0, n_1, n_2, n_3, n_4, n_5, n_6, n_7, n_8, n_9, n_10, n_12, n_13, n_15, n_20, n_24, n_27, n_31, n_32, n_33, n_36, n_44, n_48, n_50, n_57, n_58, n_59, n_72, n_74, n_75, n_85, n_91, n_96, n_97, n_99, n_122, n_255, n_300, n_432, n_600, n_900, n_999, n_1000, n_1291, n_1399, n_2798, n_11192, n_65536, n_65537, n_99999999, n_1000000, nI_add, pk_mul, q_le, q_lt, q_eq, q_cl, q_gi, q_gz, q_sub, q_div, q_dm, d_dm, q_m1, q_mn, q_nm, q_mlt, q_ltm, q_mle, q_lem, q_mm, Option.bind_some, if_true, if_false, Nat.add_zero, ite_self, q_us, q_un, decide_true, decide_false, Bool.false_eq_true, eq_self, and_self, and_true, true_and, and_false, false_and, or_true, true_or, or_false, false_or, d_ltT, d_ltF, d_leT, d_leF, d_eqT, d_eqF, f_X5_takeNewName, hf, xf]
    · refine ⟨nI 1, nI s, nI (tkE b L s), tv, ?_⟩
      simp (disch := omega) only [n_0, n_1, n_2, n_3, n_4, n_5, n_6, n_7, n_8, n_9, n_10, n_12, n_13, n_15, n_20, n_24, n_27, n_31, n_32, n_33, n_36, n_44, n_48, n_50, n_57, n_58, n_59, n_72, n_74, n_75, n_85, n_91, n_96, n_97, n_99, n_122, n_255, n_300, n_432, n_600, n_900, n_999, n_1000, n_1291, n_1399, n_2798, n_11192, n_65536, n_65537, n_99999999, n_1000000, nI_add, pk_mul, q_le, q_lt, q_eq, q_cl, q_gi, q_gz, q_sub, q_div, q_dm, d_dm, q_m1, q_mn, q_nm, q_mlt, q_ltm, q_mle, q_lem, q_mm, Option.bind_some, if_true, if_false, Nat.add_zero, ite_self, q_us, q_un, decide_true, decide_false, Bool.false_eq_true, eq_self, and_self, and_true, true_and, and_false, false_and, or_true, true_or, or_false, false_or, d_ltT, d_ltF, d_leT, d_leF, d_eqT, d_eqF, f_X5_takeNewName, xf]
  · refine ⟨nI (tkK b L s), nI s, nI (tkE b L s), tv, ?_⟩
    simp (disch := omega) only [n_0, n_1, n_2, n_3, n_4, n_5, n_6, n_7, n_8, n_9, n_10, n_12, n_13, n_15, n_20, n_24, n_27, n_31, n_32, n_33, n_36, n_44, n_48, n_50, n_57, n_58, n_59, n_72, n_74, n_75, n_85, n_91, n_96, n_97, n_99, n_122, n_255, n_300, n_432, n_600, n_900, n_999, n_1000, n_1291, n_1399, n_2798, n_11192, n_65536, n_65537, n_99999999, n_1000000, nI_add, pk_mul, q_le, q_lt, q_eq, q_cl, q_gi, q_gz, q_sub, q_div, q_dm, d_dm, q_m1, q_mn, q_nm, q_mlt, q_ltm, q_mle, q_lem, q_mm, Option.bind_some, if_true, if_false, Nat.add_zero, ite_self, q_us, q_un, decide_true, decide_false, Bool.false_eq_true, eq_self, and_self, and_true, true_and, and_false, false_and, or_true, true_or, or_false, false_or, d_ltT, d_ltF, d_leT, d_leF, d_eqT, d_eqF, f_X5_takeNewName, xf]
/-- a new name, in both: what the model checks, and in what order -/
theorem s_new {N L s : Nat} {b g : Nat → Nat} {tb mi m : Nat → Int32} {ln lt : Nat → Int32} {kd ts te tv po st tk vl lw eo pl : Int32} (hN : 1000 < N) (hT : TR b L tb) (hM : TR b L mi) (h1 : TC b L s kd ts te tv) (h2 : TM b L s po st tk vl lw) (hO : Ok g) (hR : NR g ln lt) (h : MR m g) : (∃ s' kd' ts' te' tv' po' st' tk' vl' lw', wdOk b s (tkE b L s - s) ∧ (∀ p, p < g 4 → nC g p ≠ wdC b s (tkE b L s - s)) ∧ tkE b L s ≤ s' ∧ f_X5_takeNewName N (nI L) tb (nI (g 4)) ln lt (nI 0) eo kd ts te tv = some (nI 0, eo, kd', ts', te', tv') ∧ f_X11_advance N (nI L) mi po st tk vl lw = some (po', st', tk', vl', lw') ∧ TC b L s' kd' ts' te' tv' ∧ TM b L s' po' st' tk' vl' lw' ∧ tk = nI 3 ∧ f_X11_nameFrom N mi st lw = some (nI (wdC b s (tkE b L s - s))) ∧ f_X11_named N 1399 m (nI (wdC b s (tkE b L s - s))) = some (-nI 1)) ∨ (∃ c, 0 < c ∧ c < 100 ∧ f_X5_takeNewName N (nI L) tb (nI (g 4)) ln lt (nI 0) eo kd ts te tv = some (nI c, ts, kd, ts, te, tv) ∧ ((c = 1 ∧ ∃ k, tk = nI k ∧ k ≤ 3 ∧ k ≠ 3) ∨ (c = 2 ∧ tk = nI 3 ∧ f_X11_nameFrom N mi st lw = some (-nI 1)) ∨ (c = 3 ∧ ∃ x p, tk = nI 3 ∧ f_X11_nameFrom N mi st lw = some (nI x) ∧ x < 531441 ∧ p < 6 ∧ f_X11_named N 1399 m (nI x) = some (nI p)))) := by
  obtain ⟨m1, m2, m3, m4, m5⟩ := tkM_eq (@tkK_le b L s)
  have hk := @tkK_le b L s
  have h4 := b_4 hO.1
  have hL := hT.1
  obtain ⟨e1, e2, e3, -, e5, -⟩ := tkE_s (b := b) h1.1
  have c1 := h1.2.1
  have c2 := h2.2.2.2.1
  have g1 := h1.2.2.1
  have g2 := h1.2.2.2.1
  have g3 := h2.2.2.1
  by_cases k1 : tkK b L s = 1
  · have g4 := h2.2.2.2.2.2 k1
    have hlt := e3 (by omega)
    have hlet := e5 k1
    by_cases hl : tkE b L s - s ≤ 4
    · have hw : wdOk b s (tkE b L s - s) := ⟨by omega, hl, fun i hi => of_decide_eq_true (hlet (s + i) (by omega) (by omega))⟩
      have hf := e_find (N := N) (s := s) (e := tkE b L s) hN hO.1 hO.2.2.1 hR hT e1 e2
      have hn := m_nameT (N := N) (n := tkE b L s - s) hN hM (by omega) hw
      have hm := m_named (N := N) hN h hO.1 hO.2.2.1 (wdC_lt hw)
      rw [← gFind_t hw] at hm
      rw [← g1, ← g2] at hf
      rw [← g3, ← g4] at hn
      rcases gFind_s (g := g) (b := b) (s := s) (n := tkE b L s - s) (by omega) with q | ⟨p, q1, q2⟩
      · obtain ⟨s', kd', ts', te', tv', po', st', tk', vl', lt', a1, a2, a3, a4, a5⟩ := s_adv hN hT hM h1 h2
        rw [q] at hf hm
        refine Or.inl ⟨s', kd', ts', te', tv', po', st', tk', vl', lt', hw, gFind_new (by omega) hw q, a1, ?_, a3, a4, a5, by rw [c2, m1.mpr k1], hn, hm⟩
        rw [k1] at c1
        have hd : te - ts = nI (tkE b L s - s) := by rw [g1, g2, pk_sub (by omega)]
        subst c1
        simp (disch := omega) only [n_0, n_1, n_2, n_3, n_4, n_5, n_6, n_7, n_8, n_9, n_10, n_12, n_13, n_15, n_20, n_24, n_27, n_31, n_32, n_33, n_36, n_44, n_48, n_50, n_57, n_58, n_59, n_72, n_74, n_75, n_85, n_91, n_96, n_97, n_99, n_122, n_255, n_300, n_432, n_600, n_900, n_999, n_1000, n_1291, n_1399, n_2798, n_11192, n_65536, n_65537, n_99999999, n_1000000, nI_add, pk_mul, q_le, q_lt, q_eq, q_cl, q_gi, q_gz, q_sub, q_div, q_dm, d_dm, q_m1, q_mn, q_nm, q_mlt, q_ltm, q_mle, q_lem, q_mm, Option.bind_some, if_true, if_false, Nat.add_zero, ite_self, q_us, q_un, decide_true, decide_false, Bool.false_eq_true, eq_self, and_self, and_true, true_and, and_false, false_and, or_true, true_or, or_false, false_or, d_ltT, d_ltF, d_leT, d_leF, d_eqT, d_eqF, f_X5_takeNewName, hd, hf, a2]
      · rw [q2] at hf hm
        refine Or.inr ⟨3, by omega, by omega, ?_, Or.inr (Or.inr ⟨rfl, wdC b s (tkE b L s - s), p, by rw [c2, m1.mpr k1], hn, wdC_lt hw, by omega, hm⟩)⟩
        rw [k1] at c1
        have hd : te - ts = nI (tkE b L s - s) := by rw [g1, g2, pk_sub (by omega)]
        subst c1
        simp (disch := omega) only [n_0, n_1, n_2, n_3, n_4, n_5, n_6, n_7, n_8, n_9, n_10, n_12, n_13, n_15, n_20, n_24, n_27, n_31, n_32, n_33, n_36, n_44, n_48, n_50, n_57, n_58, n_59, n_72, n_74, n_75, n_85, n_91, n_96, n_97, n_99, n_122, n_255, n_300, n_432, n_600, n_900, n_999, n_1000, n_1291, n_1399, n_2798, n_11192, n_65536, n_65537, n_99999999, n_1000000, nI_add, pk_mul, q_le, q_lt, q_eq, q_cl, q_gi, q_gz, q_sub, q_div, q_dm, d_dm, q_m1, q_mn, q_nm, q_mlt, q_ltm, q_mle, q_lem, q_mm, Option.bind_some, if_true, if_false, Nat.add_zero, ite_self, q_us, q_un, decide_true, decide_false, Bool.false_eq_true, eq_self, and_self, and_true, true_and, and_false, false_and, or_true, true_or, or_false, false_or, d_ltT, d_ltF, d_leT, d_leF, d_eqT, d_eqF, f_X5_takeNewName, hd, hf, x_fail0]
    · have hw : ¬ wdOk b s (tkE b L s - s) := fun x => hl x.2.1
      have hn := m_nameF (N := N) (n := tkE b L s - s) hN hM (by omega) hw
      rw [← g3, ← g4] at hn
      refine Or.inr ⟨2, by omega, by omega, ?_, Or.inr (Or.inl ⟨rfl, by rw [c2, m1.mpr k1], hn⟩)⟩
      rw [k1] at c1
      have hd : te - ts = nI (tkE b L s - s) := by rw [g1, g2, pk_sub (by omega)]
      subst c1
      simp (disch := omega) only [n_0, n_1, n_2, n_3, n_4, n_5, n_6, n_7, n_8, n_9, n_10, n_12, n_13, n_15, n_20, n_24, n_27, n_31, n_32, n_33, n_36, n_44, n_48, n_50, n_57, n_58, n_59, n_72, n_74, n_75, n_85, n_91, n_96, n_97, n_99, n_122, n_255, n_300, n_432, n_600, n_900, n_999, n_1000, n_1291, n_1399, n_2798, n_11192, n_65536, n_65537, n_99999999, n_1000000, nI_add, pk_mul, q_le, q_lt, q_eq, q_cl, q_gi, q_gz, q_sub, q_div, q_dm, d_dm, q_m1, q_mn, q_nm, q_mlt, q_ltm, q_mle, q_lem, q_mm, Option.bind_some, if_true, if_false, Nat.add_zero, ite_self, q_us, q_un, decide_true, decide_false, Bool.false_eq_true, eq_self, and_self, and_true, true_and, and_false, false_and, or_true, true_or, or_false, false_or, d_ltT, d_ltF, d_leT, d_leF, d_eqT, d_eqF, f_X5_takeNewName, hd, x_fail0]
  · refine Or.inr ⟨1, by omega, by omega, ?_, Or.inl ⟨rfl, tkM (tkK b L s), c2, m5, fun x => k1 (m1.mp x)⟩⟩
    subst c1
    simp (disch := omega) only [n_0, n_1, n_2, n_3, n_4, n_5, n_6, n_7, n_8, n_9, n_10, n_12, n_13, n_15, n_20, n_24, n_27, n_31, n_32, n_33, n_36, n_44, n_48, n_50, n_57, n_58, n_59, n_72, n_74, n_75, n_85, n_91, n_96, n_97, n_99, n_122, n_255, n_300, n_432, n_600, n_900, n_999, n_1000, n_1291, n_1399, n_2798, n_11192, n_65536, n_65537, n_99999999, n_1000000, nI_add, pk_mul, q_le, q_lt, q_eq, q_cl, q_gi, q_gz, q_sub, q_div, q_dm, d_dm, q_m1, q_mn, q_nm, q_mlt, q_ltm, q_mle, q_lem, q_mm, Option.bind_some, if_true, if_false, Nat.add_zero, ite_self, q_us, q_un, decide_true, decide_false, Bool.false_eq_true, eq_self, and_self, and_true, true_and, and_false, false_and, or_true, true_or, or_false, false_or, d_ltT, d_ltF, d_leT, d_leF, d_eqT, d_eqF, f_X5_takeNewName, x_fail0]
theorem r_player {N L s : Nat} {b g : Nat → Nat} {tb mi m : Nat → Int32} {sd : Int32} {mn : Int32} {th : Int32} {dc : Int32} {fc : Nat → Int32} {dw : Nat → Int32} {pc : Int32} {ln : Nat → Int32} {lt : Nat → Int32} {tc : Int32} {en : Nat → Int32} {fr : Nat → Int32} {oc : Int32} {op : Nat → Int32} {os : Nat → Int32} {kd ts te tv po st tk vl lw eo : Int32} (hN : 2000 < N) (hT : TR b L tb) (hM : TR b L mi) (h1 : TC b L s kd ts te tv) (h2 : TM b L s po st tk vl lw) (hO : Ok g) (hZ : ZR fc) (hH : HR g sd mn th dc fc dw pc ln lt tc en fr oc op os) (h : MR m g) : ∃ ec' eo' pc' ln' lt' kd' ts' te' tv' po' st' tk' vl' lw' code' pl' m', f_X5_readPlayer N (nI L) tb (nI 0) eo pc ln lt kd ts te tv = some (ec', eo', pc', ln', lt', kd', ts', te', tv') ∧ f_X11_readPlayer N (nI L) mi po st tk vl lw (nI 0) eo m = some (po', st', tk', vl', lw', code', pl', m') ∧ PS b L (tkE b L s) ec' eo' sd mn th dc fc dw pc' ln' lt' tc en fr oc op os kd' ts' te' tv' po' st' tk' vl' lw' code' pl' m' := by
  obtain ⟨⟨q0, q1, q2, q3, q4, q5, q6⟩, hD, hP, hE, hF, hQ⟩ := hH
  have b4 := b_4 hO.1
  have m4 := h 4 (by omega)
  have hNx : 1000 < N := by omega
  have hc : ∀ c, 0 < c → c < 100 → ¬ nI c = nI 0 := fun c c1 c2 => by rw [q_eq (by omega) (by omega)]; omega
  by_cases h6 : g 4 = 6
  · -- too many
    obtain ⟨kd', ts', te', tv', xn⟩ := x_new_e (c := 5) (eo := ts) hNx hT h1 hO hP (by omega) (by omega)
    have xs := @x_semi_e N (nI L) ts kd' ts' te' tv' (nI 0) tb 5 (by omega) (by omega)
    have yf := @y_check_f st eo 5 (by omega) (by omega)
    have ye := fun a0 a1 => @y_check_e st st a0 a1 5 (by omega) (by omega)
    have yn := @y_next_e N (nI L) po st tk vl lw mi 5 (by omega) (by omega)
    have yz := y_semi_e (pl := st) (c := 5) hM h2 (by omega) (by omega)
    refine ⟨nI 5, ts, pc, ln, lt, kd', ts', te', tv', po, st, tk, vl, lw, nI 5, st, m, ?_, ?_, hZ, Or.inr ⟨5, by omega, by omega, rfl, rfl, h1.2.2.1.trans h2.2.2.1.symm⟩⟩
    · subst q4
      unfold f_X5_readPlayer
      simp only [n_0, n_1, n_2, n_3, n_4, n_5, n_6, n_7, n_8, n_9, n_10, n_12, n_13, n_15, n_20, n_24, n_27, n_31, n_32, n_33, n_36, n_44, n_48, n_50, n_57, n_58, n_59, n_72, n_74, n_75, n_85, n_91, n_96, n_97, n_99, n_122, n_255, n_300, n_432, n_600, n_900, n_999, n_1000, n_1291, n_1399, n_2798, n_11192, n_65536, n_65537, n_99999999, n_1000000]
      rw [if_neg (by rw [q_lt (by omega) (by omega)]; omega)]
      unfold f_X5_readPlayer_L21 f_X5_takeKeyword
      simp only [n_0, n_1, n_2, n_3, n_4, n_5, n_6, n_7, n_8, n_9, n_10, n_12, n_13, n_15, n_20, n_24, n_27, n_31, n_32, n_33, n_36, n_44, n_48, n_50, n_57, n_58, n_59, n_72, n_74, n_75, n_85, n_91, n_96, n_97, n_99, n_122, n_255, n_300, n_432, n_600, n_900, n_999, n_1000, n_1291, n_1399, n_2798, n_11192, n_65536, n_65537, n_99999999, n_1000000]
      rw [if_neg (hc 5 (by omega) (by omega)), x_fail0, Option.bind_some, Option.bind_some, xn, Option.bind_some, xs, Option.bind_some, if_neg (hc 5 (by omega) (by omega))]
    · unfold f_X11_readPlayer
      simp only [n_0, n_1, n_2, n_3, n_4, n_5, n_6, n_7, n_8, n_9, n_10, n_12, n_13, n_15, n_20, n_24, n_27, n_31, n_32, n_33, n_36, n_44, n_48, n_50, n_57, n_58, n_59, n_72, n_74, n_75, n_85, n_91, n_96, n_97, n_99, n_122, n_255, n_300, n_432, n_600, n_900, n_999, n_1000, n_1291, n_1399, n_2798, n_11192, n_65536, n_65537, n_99999999, n_1000000]
      rw [q_cl (by omega), m4, if_pos (by rw [q_le (by omega) (by omega)]; omega)]
      unfold f_X11_readPlayer_L17
      simp only [n_0, n_1, n_2, n_3, n_4, n_5, n_6, n_7, n_8, n_9, n_10, n_12, n_13, n_15, n_20, n_24, n_27, n_31, n_32, n_33, n_36, n_44, n_48, n_50, n_57, n_58, n_59, n_72, n_74, n_75, n_85, n_91, n_96, n_97, n_99, n_122, n_255, n_300, n_432, n_600, n_900, n_999, n_1000, n_1291, n_1399, n_2798, n_11192, n_65536, n_65537, n_99999999, n_1000000]
      rw [yf, Option.bind_some, yn, Option.bind_some]
      have hr : ∀ a, f_X11_readPlayer_L40 N (nI L) mi a po st tk vl lw (nI 5) st m = some (po, st, tk, vl, lw, nI 5, st, m) := fun a => by
        unfold f_X11_readPlayer_L40
        simp only [n_0, n_1, n_2, n_3, n_4, n_5, n_6, n_7, n_8, n_9, n_10, n_12, n_13, n_15, n_20, n_24, n_27, n_31, n_32, n_33, n_36, n_44, n_48, n_50, n_57, n_58, n_59, n_72, n_74, n_75, n_85, n_91, n_96, n_97, n_99, n_122, n_255, n_300, n_432, n_600, n_900, n_999, n_1000, n_1291, n_1399, n_2798, n_11192, n_65536, n_65537, n_99999999, n_1000000]
        rw [ye, Option.bind_some, if_neg (hc 5 (by omega) (by omega))]
        unfold f_X11_readPlayer_L68
        simp only [n_0, n_1, n_2, n_3, n_4, n_5, n_6, n_7, n_8, n_9, n_10, n_12, n_13, n_15, n_20, n_24, n_27, n_31, n_32, n_33, n_36, n_44, n_48, n_50, n_57, n_58, n_59, n_72, n_74, n_75, n_85, n_91, n_96, n_97, n_99, n_122, n_255, n_300, n_432, n_600, n_900, n_999, n_1000, n_1291, n_1399, n_2798, n_11192, n_65536, n_65537, n_99999999, n_1000000]
        rw [if_neg (by rw [q_nm2 0 (by omega)]; exact id)]
        unfold f_X11_readPlayer_L80
        simp only [n_0, n_1, n_2, n_3, n_4, n_5, n_6, n_7, n_8, n_9, n_10, n_12, n_13, n_15, n_20, n_24, n_27, n_31, n_32, n_33, n_36, n_44, n_48, n_50, n_57, n_58, n_59, n_72, n_74, n_75, n_85, n_91, n_96, n_97, n_99, n_122, n_255, n_300, n_432, n_600, n_900, n_999, n_1000, n_1291, n_1399, n_2798, n_11192, n_65536, n_65537, n_99999999, n_1000000]
        rw [ye, Option.bind_some, if_neg (hc 5 (by omega) (by omega))]
        unfold f_X11_readPlayer_L105 f_X11_readPlayer_L110 f_X11_finish
        simp only [n_0, n_1, n_2, n_3, n_4, n_5, n_6, n_7, n_8, n_9, n_10, n_12, n_13, n_15, n_20, n_24, n_27, n_31, n_32, n_33, n_36, n_44, n_48, n_50, n_57, n_58, n_59, n_72, n_74, n_75, n_85, n_91, n_96, n_97, n_99, n_122, n_255, n_300, n_432, n_600, n_900, n_999, n_1000, n_1291, n_1399, n_2798, n_11192, n_65536, n_65537, n_99999999, n_1000000]
        rw [ye, Option.bind_some, yn, Option.bind_some, yz, Option.bind_some, yn, Option.bind_some, Option.bind_some, if_neg (hc 5 (by omega) (by omega))]
      split
      · exact hr _
      · exact hr _
  · obtain ⟨s1, k1, k2, k3, k4, k5, k6, k7, k8, k9, a1, a2, a3, a4, a5⟩ := s_adv hNx hT hM h1 h2
    obtain ⟨e1, e2, -⟩ := tkE_s (b := b) a4.1
    have hcl : ∀ X, f_X5_readPlayer_L21 N (nI L) tb (nI 0) (nI 0) eo (nI (g 4)) ln lt kd ts te tv = X → f_X5_readPlayer N (nI L) tb (nI 0) eo (nI (g 4)) ln lt kd ts te tv = X := fun X hX => by
      unfold f_X5_readPlayer
      simp only [n_0, n_1, n_2, n_3, n_4, n_5, n_6, n_7, n_8, n_9, n_10, n_12, n_13, n_15, n_20, n_24, n_27, n_31, n_32, n_33, n_36, n_44, n_48, n_50, n_57, n_58, n_59, n_72, n_74, n_75, n_85, n_91, n_96, n_97, n_99, n_122, n_255, n_300, n_432, n_600, n_900, n_999, n_1000, n_1291, n_1399, n_2798, n_11192, n_65536, n_65537, n_99999999, n_1000000]
      rw [if_pos (by rw [q_lt (by omega) (by omega)]; omega)]
      exact hX
    have hmo : ∀ X, (∀ a, (a = nI 1 ∧ k7 = nI 3) ∨ (a = nI 0 ∧ ¬ k7 = nI 3) → f_X11_readPlayer_L40 N (nI L) mi a k5 k6 k7 k8 k9 (nI 0) eo m = X) → f_X11_readPlayer N (nI L) mi po st tk vl lw (nI 0) eo m = X := fun X hX => by
      unfold f_X11_readPlayer
      simp only [n_0, n_1, n_2, n_3, n_4, n_5, n_6, n_7, n_8, n_9, n_10, n_12, n_13, n_15, n_20, n_24, n_27, n_31, n_32, n_33, n_36, n_44, n_48, n_50, n_57, n_58, n_59, n_72, n_74, n_75, n_85, n_91, n_96, n_97, n_99, n_122, n_255, n_300, n_432, n_600, n_900, n_999, n_1000, n_1291, n_1399, n_2798, n_11192, n_65536, n_65537, n_99999999, n_1000000]
      rw [q_cl (by omega), m4, if_neg (by rw [q_le (by omega) (by omega)]; omega)]
      unfold f_X11_readPlayer_L17
      simp only [n_0, n_1, n_2, n_3, n_4, n_5, n_6, n_7, n_8, n_9, n_10, n_12, n_13, n_15, n_20, n_24, n_27, n_31, n_32, n_33, n_36, n_44, n_48, n_50, n_57, n_58, n_59, n_72, n_74, n_75, n_85, n_91, n_96, n_97, n_99, n_122, n_255, n_300, n_432, n_600, n_900, n_999, n_1000, n_1291, n_1399, n_2798, n_11192, n_65536, n_65537, n_99999999, n_1000000]
      rw [y_check_t, Option.bind_some, y_next_t a3, Option.bind_some]
      by_cases h7 : k7 = nI 3
      · rw [if_pos h7]
        exact hX _ (Or.inl ⟨rfl, h7⟩)
      · rw [if_neg h7]
        exact hX _ (Or.inr ⟨rfl, h7⟩)
    have hkey : f_X5_takeKeyword N (nI L) tb (nI 0) eo kd ts te tv (nI 0) = some (nI 0, eo, k1, k2, k3, k4) := by
      simp (disch := omega) only [n_0, n_1, n_2, n_3, n_4, n_5, n_6, n_7, n_8, n_9, n_10, n_12, n_13, n_15, n_20, n_24, n_27, n_31, n_32, n_33, n_36, n_44, n_48, n_50, n_57, n_58, n_59, n_72, n_74, n_75, n_85, n_91, n_96, n_97, n_99, n_122, n_255, n_300, n_432, n_600, n_900, n_999, n_1000, n_1291, n_1399, n_2798, n_11192, n_65536, n_65537, n_99999999, n_1000000, nI_add, pk_mul, q_le, q_lt, q_eq, q_cl, q_gi, q_gz, q_sub, q_div, q_dm, d_dm, q_m1, q_mn, q_nm, q_mlt, q_ltm, q_mle, q_lem, q_mm, Option.bind_some, if_true, if_false, Nat.add_zero, ite_self, q_us, q_un, decide_true, decide_false, Bool.false_eq_true, eq_self, and_self, and_true, true_and, and_false, false_and, or_true, true_or, or_false, false_or, d_ltT, d_ltF, d_leT, d_leF, d_eqT, d_eqF, f_X5_takeKeyword, a2]
    rcases s_new (eo := eo) (pl := eo) hNx hT hM a4 a5 hO hP h with ⟨s2, l1, l2, l3, l4, l5, l6, l7, l8, l9, w1, w2, c1, c2, c3, c4, c5, c6, c7, c8⟩ | ⟨c, d1, d2, d3, d4⟩
    · obtain ⟨e3, e4, -⟩ := tkE_s (b := b) c4.1
      have w3 := wdC_ok w1
      rcases s_fin (eo := eo) (pl := eo) hNx hT hM c4 c5 with ⟨s3, n1, n2, n3, n4, n5, n6, n7, n8, n9, f1, f2, f3, f4, f5⟩ | ⟨f2, f3⟩
      · obtain ⟨lt', u1, u2, u3⟩ := e_addNameL (N := N) (ln := ln) (lt0 := lt) (P := g 4) hT e1 e2 (by omega) 4 0 N lt (by omega) (by omega) (fun t ht => by omega) (fun t _ => rfl)
        have hok := gPlay_ok hO (show g 4 < 6 by omega) w3.1 w2
        obtain ⟨s5, s6, s7⟩ := gPlay_s (c := wdC b s1 (tkE b L s1 - s1)) hO (show g 4 < 6 by omega)
        have hmr : MR (upd (upd m (85 + g 4) (nI (wdC b s1 (tkE b L s1 - s1)))) 4 (nI (g 4 + 1))) (gPlay g (wdC b s1 (tkE b L s1 - s1))) := (h.up).up
        have hnr : NR (gPlay g (wdC b s1 (tkE b L s1 - s1))) (upd ln (g 4) (nI (tkE b L s1 - s1))) lt' := fun p hp => by
          rw [gPlay_4] at hp
          by_cases hpe : p = g 4
          · rw [hpe, gPlay_C, q_us rfl, w3.2.1]
            exact ⟨rfl, fun i hi => by rw [u2 i hi, w3.2.2 i hi]⟩
          · have eC : nC (gPlay g (wdC b s1 (tkE b L s1 - s1))) p = nC g p := gPlay_n (by omega) (by omega)
            rw [eC, q_un hpe]
            exact ⟨(hP p (by omega)).1, fun i hi => by rw [u3 _ (by omega)]; exact (hP p (by omega)).2 i hi⟩
        refine ⟨nI 0, eo, nI (g 4 + 1), upd ln (g 4) (nI (tkE b L s1 - s1)), lt', n1, n2, n3, n4, n5, n6, n7, n8, n9, nI 0, eo, _, ?_, ?_, hZ, Or.inl ⟨_, s3, rfl, rfl, rfl, by omega, f4, f5, hok, hmr, ⟨?_, ?_, ?_, ?_, ?_, ?_, ?_⟩, sD_R s5 hO.1 hO.2.1 hD, hnr, sT_E s6 hO.1 hE, sT_F s6 hO.1 hF, sO_Q s7 hO.1 hQ⟩⟩
        · subst q4
          refine hcl _ ?_
          unfold f_X5_readPlayer_L21
          simp only [n_0, n_1, n_2, n_3, n_4, n_5, n_6, n_7, n_8, n_9, n_10, n_12, n_13, n_15, n_20, n_24, n_27, n_31, n_32, n_33, n_36, n_44, n_48, n_50, n_57, n_58, n_59, n_72, n_74, n_75, n_85, n_91, n_96, n_97, n_99, n_122, n_255, n_300, n_432, n_600, n_900, n_999, n_1000, n_1291, n_1399, n_2798, n_11192, n_65536, n_65537, n_99999999, n_1000000]
          have ha : f_X7_add N (nI L) tb (nI (g 4)) ln lt (nI s1) (nI (tkE b L s1)) = some (nI (g 4 + 1), upd ln (g 4) (nI (tkE b L s1 - s1)), lt') := by
            simp (disch := omega) only [n_0, n_1, n_2, n_3, n_4, n_5, n_6, n_7, n_8, n_9, n_10, n_12, n_13, n_15, n_20, n_24, n_27, n_31, n_32, n_33, n_36, n_44, n_48, n_50, n_57, n_58, n_59, n_72, n_74, n_75, n_85, n_91, n_96, n_97, n_99, n_122, n_255, n_300, n_432, n_600, n_900, n_999, n_1000, n_1291, n_1399, n_2798, n_11192, n_65536, n_65537, n_99999999, n_1000000, nI_add, pk_mul, q_le, q_lt, q_eq, q_cl, q_gi, q_gz, q_sub, q_div, q_dm, d_dm, q_m1, q_mn, q_nm, q_mlt, q_ltm, q_mle, q_lem, q_mm, Option.bind_some, if_true, if_false, Nat.add_zero, ite_self, q_us, q_un, decide_true, decide_false, Bool.false_eq_true, eq_self, and_self, and_true, true_and, and_false, false_and, or_true, true_or, or_false, false_or, d_ltT, d_ltF, d_leT, d_leF, d_eqT, d_eqF, f_X7_add]
            exact u1
          rw [← a4.2.2.1, ← a4.2.2.2.1] at ha
          rw [hkey, Option.bind_some, c2, Option.bind_some, f2, Option.bind_some, if_pos rfl, ha, Option.bind_some]
        · refine hmo _ (fun a ha => ?_)
          rcases ha with ⟨ha, -⟩ | ⟨-, ha⟩
          · subst ha
            have m4' : upd m (85 + g 4) (nI (wdC b s1 (tkE b L s1 - s1))) 4 = nI (g 4) := by rw [q_un (by omega)]; exact m4
            unfold f_X11_readPlayer_L40
            simp only [n_0, n_1, n_2, n_3, n_4, n_5, n_6, n_7, n_8, n_9, n_10, n_12, n_13, n_15, n_20, n_24, n_27, n_31, n_32, n_33, n_36, n_44, n_48, n_50, n_57, n_58, n_59, n_72, n_74, n_75, n_85, n_91, n_96, n_97, n_99, n_122, n_255, n_300, n_432, n_600, n_900, n_999, n_1000, n_1291, n_1399, n_2798, n_11192, n_65536, n_65537, n_99999999, n_1000000]
            rw [y_check_t, Option.bind_some, if_pos rfl, c7, Option.bind_some]
            unfold f_X11_readPlayer_L68
            simp only [n_0, n_1, n_2, n_3, n_4, n_5, n_6, n_7, n_8, n_9, n_10, n_12, n_13, n_15, n_20, n_24, n_27, n_31, n_32, n_33, n_36, n_44, n_48, n_50, n_57, n_58, n_59, n_72, n_74, n_75, n_85, n_91, n_96, n_97, n_99, n_122, n_255, n_300, n_432, n_600, n_900, n_999, n_1000, n_1291, n_1399, n_2798, n_11192, n_65536, n_65537, n_99999999, n_1000000]
            rw [if_neg (by rw [q_nm2 _ (by have := wdC_lt w1; omega)]; exact id)]
            unfold f_X11_readPlayer_L80
            simp only [n_0, n_1, n_2, n_3, n_4, n_5, n_6, n_7, n_8, n_9, n_10, n_12, n_13, n_15, n_20, n_24, n_27, n_31, n_32, n_33, n_36, n_44, n_48, n_50, n_57, n_58, n_59, n_72, n_74, n_75, n_85, n_91, n_96, n_97, n_99, n_122, n_255, n_300, n_432, n_600, n_900, n_999, n_1000, n_1291, n_1399, n_2798, n_11192, n_65536, n_65537, n_99999999, n_1000000]
            rw [y_check_t, Option.bind_some, if_pos rfl, c8, Option.bind_some, if_pos rfl]
            unfold f_X11_readPlayer_L105 f_X11_readPlayer_L110
            simp only [n_0, n_1, n_2, n_3, n_4, n_5, n_6, n_7, n_8, n_9, n_10, n_12, n_13, n_15, n_20, n_24, n_27, n_31, n_32, n_33, n_36, n_44, n_48, n_50, n_57, n_58, n_59, n_72, n_74, n_75, n_85, n_91, n_96, n_97, n_99, n_122, n_255, n_300, n_432, n_600, n_900, n_999, n_1000, n_1291, n_1399, n_2798, n_11192, n_65536, n_65537, n_99999999, n_1000000]
            rw [y_check_t, Option.bind_some, y_next_t c3, Option.bind_some, f3, Option.bind_some, if_pos rfl, q_cl (show 4 < 2147483648 by omega), m4, nI_add, q_gi (by omega) (by omega), q_cl (show 85 + g 4 < 2147483648 by omega), m4', nI_add]
          · exact absurd c6 ha
        · rw [q0, gPlay_n (by omega) (by omega)]
        · rw [q1, gPlay_n (by omega) (by omega)]
        · rw [q2, gPlay_n (by omega) (by omega)]
        · rw [q3, s5.1]
        · rw [gPlay_4]
        · rw [q5, s6.1]
        · rw [q6, s7.1]
      · refine ⟨nI 1, l2, pc, ln, lt, l1, l2, l3, l4, l5, l6, l7, l8, l9, nI 1, l6, m, ?_, ?_, hZ, Or.inr ⟨1, by omega, by omega, rfl, rfl, c4.2.2.1.trans c5.2.2.1.symm⟩⟩
        · subst q4
          refine hcl _ ?_
          unfold f_X5_readPlayer_L21
          simp only [n_0, n_1, n_2, n_3, n_4, n_5, n_6, n_7, n_8, n_9, n_10, n_12, n_13, n_15, n_20, n_24, n_27, n_31, n_32, n_33, n_36, n_44, n_48, n_50, n_57, n_58, n_59, n_72, n_74, n_75, n_85, n_91, n_96, n_97, n_99, n_122, n_255, n_300, n_432, n_600, n_900, n_999, n_1000, n_1291, n_1399, n_2798, n_11192, n_65536, n_65537, n_99999999, n_1000000]
          rw [hkey, Option.bind_some, c2, Option.bind_some, f2, Option.bind_some, if_neg (hc 1 (by omega) (by omega))]
        · refine hmo _ (fun a ha => ?_)
          rcases ha with ⟨ha, -⟩ | ⟨-, ha⟩
          · subst ha
            unfold f_X11_readPlayer_L40
            simp only [n_0, n_1, n_2, n_3, n_4, n_5, n_6, n_7, n_8, n_9, n_10, n_12, n_13, n_15, n_20, n_24, n_27, n_31, n_32, n_33, n_36, n_44, n_48, n_50, n_57, n_58, n_59, n_72, n_74, n_75, n_85, n_91, n_96, n_97, n_99, n_122, n_255, n_300, n_432, n_600, n_900, n_999, n_1000, n_1291, n_1399, n_2798, n_11192, n_65536, n_65537, n_99999999, n_1000000]
            rw [y_check_t, Option.bind_some, if_pos rfl, c7, Option.bind_some]
            unfold f_X11_readPlayer_L68
            simp only [n_0, n_1, n_2, n_3, n_4, n_5, n_6, n_7, n_8, n_9, n_10, n_12, n_13, n_15, n_20, n_24, n_27, n_31, n_32, n_33, n_36, n_44, n_48, n_50, n_57, n_58, n_59, n_72, n_74, n_75, n_85, n_91, n_96, n_97, n_99, n_122, n_255, n_300, n_432, n_600, n_900, n_999, n_1000, n_1291, n_1399, n_2798, n_11192, n_65536, n_65537, n_99999999, n_1000000]
            rw [if_neg (by rw [q_nm2 _ (by have := wdC_lt w1; omega)]; exact id)]
            unfold f_X11_readPlayer_L80
            simp only [n_0, n_1, n_2, n_3, n_4, n_5, n_6, n_7, n_8, n_9, n_10, n_12, n_13, n_15, n_20, n_24, n_27, n_31, n_32, n_33, n_36, n_44, n_48, n_50, n_57, n_58, n_59, n_72, n_74, n_75, n_85, n_91, n_96, n_97, n_99, n_122, n_255, n_300, n_432, n_600, n_900, n_999, n_1000, n_1291, n_1399, n_2798, n_11192, n_65536, n_65537, n_99999999, n_1000000]
            rw [y_check_t, Option.bind_some, if_pos rfl, c8, Option.bind_some, if_pos rfl]
            unfold f_X11_readPlayer_L105 f_X11_readPlayer_L110
            simp only [n_0, n_1, n_2, n_3, n_4, n_5, n_6, n_7, n_8, n_9, n_10, n_12, n_13, n_15, n_20, n_24, n_27, n_31, n_32, n_33, n_36, n_44, n_48, n_50, n_57, n_58, n_59, n_72, n_74, n_75, n_85, n_91, n_96, n_97, n_99, n_122, n_255, n_300, n_432, n_600, n_900, n_999, n_1000, n_1291, n_1399, n_2798, n_11192, n_65536, n_65537, n_99999999, n_1000000]
            rw [y_check_t, Option.bind_some, y_next_t c3, Option.bind_some, f3, Option.bind_some, if_neg (hc 1 (by omega) (by omega))]
          · exact absurd c6 ha
    · have xs := @x_semi_e N (nI L) k2 k1 k2 k3 k4 (nI 0) tb c d1 d2
      have ye := fun a0 a1 => @y_check_e k6 k6 a0 a1 c d1 d2
      have yn := @y_next_e N (nI L) k5 k6 k7 k8 k9 mi c d1 d2
      have yz := y_semi_e (pl := k6) hM a5 d1 d2
      have hfin : ∀ l a, f_X11_readPlayer_L110 N (nI L) mi l a k5 k6 k7 k8 k9 (nI c) k6 m = some (k5, k6, k7, k8, k9, nI c, k6, m) := fun l a => by
        unfold f_X11_readPlayer_L110 f_X11_finish
        simp only [n_0, n_1, n_2, n_3, n_4, n_5, n_6, n_7, n_8, n_9, n_10, n_12, n_13, n_15, n_20, n_24, n_27, n_31, n_32, n_33, n_36, n_44, n_48, n_50, n_57, n_58, n_59, n_72, n_74, n_75, n_85, n_91, n_96, n_97, n_99, n_122, n_255, n_300, n_432, n_600, n_900, n_999, n_1000, n_1291, n_1399, n_2798, n_11192, n_65536, n_65537, n_99999999, n_1000000]
        rw [ye, Option.bind_some, yn, Option.bind_some, yz, Option.bind_some, yn, Option.bind_some, Option.bind_some, if_neg (hc c d1 d2)]
      have h80 : ∀ l a, f_X11_readPlayer_L80 N (nI L) mi l a k5 k6 k7 k8 k9 (nI c) k6 m = some (k5, k6, k7, k8, k9, nI c, k6, m) := fun l a => by
        unfold f_X11_readPlayer_L80
        simp only [n_0, n_1, n_2, n_3, n_4, n_5, n_6, n_7, n_8, n_9, n_10, n_12, n_13, n_15, n_20, n_24, n_27, n_31, n_32, n_33, n_36, n_44, n_48, n_50, n_57, n_58, n_59, n_72, n_74, n_75, n_85, n_91, n_96, n_97, n_99, n_122, n_255, n_300, n_432, n_600, n_900, n_999, n_1000, n_1291, n_1399, n_2798, n_11192, n_65536, n_65537, n_99999999, n_1000000]
        rw [ye, Option.bind_some, if_neg (hc c d1 d2)]
        exact hfin _ _
      have h68 : ∀ a, f_X11_readPlayer_L68 N (nI L) mi a k5 k6 k7 k8 k9 (nI c) k6 m = some (k5, k6, k7, k8, k9, nI c, k6, m) := fun a => by
        unfold f_X11_readPlayer_L68
        simp only [n_0, n_1, n_2, n_3, n_4, n_5, n_6, n_7, n_8, n_9, n_10, n_12, n_13, n_15, n_20, n_24, n_27, n_31, n_32, n_33, n_36, n_44, n_48, n_50, n_57, n_58, n_59, n_72, n_74, n_75, n_85, n_91, n_96, n_97, n_99, n_122, n_255, n_300, n_432, n_600, n_900, n_999, n_1000, n_1291, n_1399, n_2798, n_11192, n_65536, n_65537, n_99999999, n_1000000]
        split
        · exact h80 _ _
        · exact h80 _ _
      refine ⟨nI c, k2, pc, ln, lt, k1, k2, k3, k4, k5, k6, k7, k8, k9, nI c, k6, m, ?_, ?_, hZ, Or.inr ⟨c, d1, d2, rfl, rfl, a4.2.2.1.trans a5.2.2.1.symm⟩⟩
      · subst q4
        refine hcl _ ?_
        unfold f_X5_readPlayer_L21
        simp only [n_0, n_1, n_2, n_3, n_4, n_5, n_6, n_7, n_8, n_9, n_10, n_12, n_13, n_15, n_20, n_24, n_27, n_31, n_32, n_33, n_36, n_44, n_48, n_50, n_57, n_58, n_59, n_72, n_74, n_75, n_85, n_91, n_96, n_97, n_99, n_122, n_255, n_300, n_432, n_600, n_900, n_999, n_1000, n_1291, n_1399, n_2798, n_11192, n_65536, n_65537, n_99999999, n_1000000]
        rw [hkey, Option.bind_some, d3, Option.bind_some, xs, Option.bind_some, if_neg (hc c d1 d2)]
      · refine hmo _ (fun a ha => ?_)
        rcases d4 with ⟨rfl, k, v1, v2, v3⟩ | ⟨rfl, v1, v2⟩ | ⟨rfl, x, p, v1, v2, v3, v4, v5⟩
        · rcases ha with ⟨-, ha⟩ | ⟨ha, -⟩
          · rw [v1] at ha
            exact absurd (nI_in2 (by omega) (by omega) ha) v3
          · subst ha
            have yf := @y_check_f k6 eo 1 (by omega) (by omega)
            unfold f_X11_readPlayer_L40
            simp only [n_0, n_1, n_2, n_3, n_4, n_5, n_6, n_7, n_8, n_9, n_10, n_12, n_13, n_15, n_20, n_24, n_27, n_31, n_32, n_33, n_36, n_44, n_48, n_50, n_57, n_58, n_59, n_72, n_74, n_75, n_85, n_91, n_96, n_97, n_99, n_122, n_255, n_300, n_432, n_600, n_900, n_999, n_1000, n_1291, n_1399, n_2798, n_11192, n_65536, n_65537, n_99999999, n_1000000]
            rw [yf, Option.bind_some, if_neg (hc 1 (by omega) (by omega))]
            exact h68 _
        · rcases ha with ⟨ha, -⟩ | ⟨-, ha⟩
          · subst ha
            have yf := @y_check_f k6 eo 2 (by omega) (by omega)
            unfold f_X11_readPlayer_L40
            simp only [n_0, n_1, n_2, n_3, n_4, n_5, n_6, n_7, n_8, n_9, n_10, n_12, n_13, n_15, n_20, n_24, n_27, n_31, n_32, n_33, n_36, n_44, n_48, n_50, n_57, n_58, n_59, n_72, n_74, n_75, n_85, n_91, n_96, n_97, n_99, n_122, n_255, n_300, n_432, n_600, n_900, n_999, n_1000, n_1291, n_1399, n_2798, n_11192, n_65536, n_65537, n_99999999, n_1000000]
            rw [y_check_t, Option.bind_some, if_pos rfl, v2, Option.bind_some]
            unfold f_X11_readPlayer_L68
            simp only [n_0, n_1, n_2, n_3, n_4, n_5, n_6, n_7, n_8, n_9, n_10, n_12, n_13, n_15, n_20, n_24, n_27, n_31, n_32, n_33, n_36, n_44, n_48, n_50, n_57, n_58, n_59, n_72, n_74, n_75, n_85, n_91, n_96, n_97, n_99, n_122, n_255, n_300, n_432, n_600, n_900, n_999, n_1000, n_1291, n_1399, n_2798, n_11192, n_65536, n_65537, n_99999999, n_1000000]
            rw [if_pos trivial]
            unfold f_X11_readPlayer_L80
            simp only [n_0, n_1, n_2, n_3, n_4, n_5, n_6, n_7, n_8, n_9, n_10, n_12, n_13, n_15, n_20, n_24, n_27, n_31, n_32, n_33, n_36, n_44, n_48, n_50, n_57, n_58, n_59, n_72, n_74, n_75, n_85, n_91, n_96, n_97, n_99, n_122, n_255, n_300, n_432, n_600, n_900, n_999, n_1000, n_1291, n_1399, n_2798, n_11192, n_65536, n_65537, n_99999999, n_1000000]
            rw [yf, Option.bind_some, if_neg (hc 2 (by omega) (by omega))]
            exact hfin _ _
          · exact absurd v1 ha
        · rcases ha with ⟨ha, -⟩ | ⟨-, ha⟩
          · subst ha
            have yf := @y_check_f k6 eo 3 (by omega) (by omega)
            have yn3 := yn
            unfold f_X11_readPlayer_L40
            simp only [n_0, n_1, n_2, n_3, n_4, n_5, n_6, n_7, n_8, n_9, n_10, n_12, n_13, n_15, n_20, n_24, n_27, n_31, n_32, n_33, n_36, n_44, n_48, n_50, n_57, n_58, n_59, n_72, n_74, n_75, n_85, n_91, n_96, n_97, n_99, n_122, n_255, n_300, n_432, n_600, n_900, n_999, n_1000, n_1291, n_1399, n_2798, n_11192, n_65536, n_65537, n_99999999, n_1000000]
            rw [y_check_t, Option.bind_some, if_pos rfl, v2, Option.bind_some]
            unfold f_X11_readPlayer_L68
            simp only [n_0, n_1, n_2, n_3, n_4, n_5, n_6, n_7, n_8, n_9, n_10, n_12, n_13, n_15, n_20, n_24, n_27, n_31, n_32, n_33, n_36, n_44, n_48, n_50, n_57, n_58, n_59, n_72, n_74, n_75, n_85, n_91, n_96, n_97, n_99, n_122, n_255, n_300, n_432, n_600, n_900, n_999, n_1000, n_1291, n_1399, n_2798, n_11192, n_65536, n_65537, n_99999999, n_1000000]
            rw [if_neg (by rw [q_nm2 x (by omega)]; exact id)]
            unfold f_X11_readPlayer_L80
            simp only [n_0, n_1, n_2, n_3, n_4, n_5, n_6, n_7, n_8, n_9, n_10, n_12, n_13, n_15, n_20, n_24, n_27, n_31, n_32, n_33, n_36, n_44, n_48, n_50, n_57, n_58, n_59, n_72, n_74, n_75, n_85, n_91, n_96, n_97, n_99, n_122, n_255, n_300, n_432, n_600, n_900, n_999, n_1000, n_1291, n_1399, n_2798, n_11192, n_65536, n_65537, n_99999999, n_1000000]
            rw [y_check_t, Option.bind_some, if_pos rfl, v5, Option.bind_some, if_neg (by rw [q_nm2 p (by omega)]; exact id)]
            unfold f_X11_readPlayer_L110 f_X11_finish
            simp only [n_0, n_1, n_2, n_3, n_4, n_5, n_6, n_7, n_8, n_9, n_10, n_12, n_13, n_15, n_20, n_24, n_27, n_31, n_32, n_33, n_36, n_44, n_48, n_50, n_57, n_58, n_59, n_72, n_74, n_75, n_85, n_91, n_96, n_97, n_99, n_122, n_255, n_300, n_432, n_600, n_900, n_999, n_1000, n_1291, n_1399, n_2798, n_11192, n_65536, n_65537, n_99999999, n_1000000]
            rw [yf, Option.bind_some, yn, Option.bind_some, yz, Option.bind_some, yn, Option.bind_some, Option.bind_some, if_neg (hc 3 (by omega) (by omega))]
          · exact absurd v1 ha
