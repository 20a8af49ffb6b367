/-! the statements of the input, both readers side by side -/
def PS (b : Nat → Nat) (L s0 : Nat) (ec eo sd mn th dc : Int32) (fc dw : Nat → Int32) (pc : Int32) (ln lt : Nat → Int32) (tc : Int32) (en fr : Nat → Int32) (oc : Int32) (op os : Nat → Int32) (kd ts te tv po st tk vl lw code pl : Int32) (m : Nat → Int32) : Prop :=
  ZR fc ∧ ((∃ (g : Nat → Nat) (s : Nat), ec = nI 0 ∧ code = nI 0 ∧ eo = pl ∧ s0 ≤ s ∧ TC b L s kd ts te tv ∧ TM b L s po st tk vl lw ∧ Ok g ∧ MR m g ∧ HR g sd mn th dc fc dw pc ln lt tc en fr oc op os) ∨ ∃ c : Nat, 0 < c ∧ c < 100 ∧ ec = nI c ∧ code = nI c ∧ eo = pl)
theorem y_find {N L s n : Nat} {b g : Nat → Nat} {mi m : Nat → Int32} (hN : 1000 < N) (hM : TR b L mi) (hs : s + n ≤ L) (h : MR m g) (hO : Ok g) : ∃ c, f_X11_nameFrom N mi (nI s) (nI n) = some c ∧ f_X11_named N 1399 m c = some (gFind g b s n) := by
  have h4 := b_4 hO.1
  by_cases hw : wdOk b s n
  · exact ⟨_, m_nameT hN hM hs hw, by rw [gFind_t hw]; exact m_named hN h hO.1 hO.2.2.1 (wdC_lt hw)⟩
  · exact ⟨_, m_nameF hN hM hs hw, by rw [gFind_f hw (by omega)]; exact m_namedN hN h hO.1 hO.2.2.1⟩
/-- a name that is known, in both -/
theorem s_known {N L s : Nat} {b g : Nat → Nat} {tb mi m : Nat → Int32} {ln lt : Nat → Int32} {kd ts te tv po st tk vl lw eo pl : Int32} (hN : 1000 < N) (hT : TR b L tb) (hM : TR b L mi) (h1 : TC b L s kd ts te tv) (h2 : TM b L s po st tk vl lw) (hO : Ok g) (hR : NR g ln lt) (h : MR m g) : (∃ p s' kd' ts' te' tv' po' st' tk' vl' lw', p < g 4 ∧ tkE b L s ≤ s' ∧ f_X5_takeKnownName N (nI L) tb (nI (g 4)) ln lt (nI 0) eo kd ts te tv = some (nI p, nI 0, eo, kd', ts', te', tv') ∧ f_X11_player N (nI L) m mi po st tk vl lw (nI 0) pl = some (nI p, po', st', tk', vl', lw', nI 0, pl) ∧ TC b L s' kd' ts' te' tv' ∧ TM b L s' po' st' tk' vl' lw') ∨ (∃ c x, 0 < c ∧ c < 100 ∧ f_X5_takeKnownName N (nI L) tb (nI (g 4)) ln lt (nI 0) eo kd ts te tv = some (-nI 1, nI c, ts, kd, ts, te, tv) ∧ f_X11_player N (nI L) m mi po st tk vl lw (nI 0) pl = some (x, po, st, tk, vl, lw, nI c, st)) := by
  obtain ⟨m1, m2, m3, m4, m5⟩ := tkM_eq (@tkK_le b L s)
  have hk := @tkK_le b L s
  have h4 := b_4 hO.1
  have hL := hT.1
  obtain ⟨e1, e2, e3, -⟩ := tkE_s (b := b) h1.1
  have c1 := h1.2.1
  have c2 := h2.2.2.2.1
  by_cases k1 : tkK b L s = 1
  · have hf := e_find (N := N) (s := s) (e := tkE b L s) hN hO.1 hO.2.2.1 hR hT e1 e2
    obtain ⟨cc, f1, f2⟩ := y_find (b := b) (L := L) (s := s) (n := tkE b L s - s) hN hM (by omega) h hO
    have hl := h2.2.2.2.2.2 k1
    rw [← h1.2.2.1, ← h1.2.2.2.1] at hf
    rw [← h2.2.2.1, ← hl] at f1
    rw [k1] at c1
    rw [m1.mpr k1] at c2
    rcases gFind_s (g := g) (b := b) (s := s) (n := tkE b L s - s) (by omega) with q | ⟨p, q1, q2⟩
    · refine Or.inr ⟨4, -nI 1, by omega, by omega, ?_, ?_⟩
      · subst c1
        rw [q] at hf
        simp (disch := omega) only [n_0, n_1, n_2, n_3, n_4, n_5, n_6, n_7, n_8, n_9, n_10, n_12, n_13, n_15, n_20, n_24, n_27, n_31, n_32, n_33, n_36, n_44, n_48, n_50, n_57, n_58, n_59, n_72, n_74, n_75, n_85, n_91, n_96, n_97, n_99, n_122, n_255, n_300, n_432, n_600, n_900, n_999, n_1000, n_1291, n_1399, n_2798, n_11192, n_65536, n_65537, n_99999999, n_1000000, nI_add, pk_mul, q_le, q_lt, q_eq, q_cl, q_gi, q_gz, q_sub, q_div, q_dm, d_dm, q_m1, q_mn, q_nm, q_mlt, q_ltm, q_mle, q_lem, q_mm, Option.bind_some, if_true, if_false, Nat.add_zero, ite_self, q_us, q_un, decide_true, decide_false, Bool.false_eq_true, eq_self, and_self, and_true, true_and, and_false, false_and, or_true, true_or, or_false, false_or, d_ltT, d_ltF, d_leT, d_leF, d_eqT, d_eqF, f_X5_takeKnownName, hf, x_fail0]
      · subst c2
        rw [q] at f2
        have yf := @y_check_f st pl 4 (by omega) (by omega)
        have yn := @y_next_e N (nI L) po st (nI 3) vl lw mi 4 (by omega) (by omega)
        simp (disch := omega) only [n_0, n_1, n_2, n_3, n_4, n_5, n_6, n_7, n_8, n_9, n_10, n_12, n_13, n_15, n_20, n_24, n_27, n_31, n_32, n_33, n_36, n_44, n_48, n_50, n_57, n_58, n_59, n_72, n_74, n_75, n_85, n_91, n_96, n_97, n_99, n_122, n_255, n_300, n_432, n_600, n_900, n_999, n_1000, n_1291, n_1399, n_2798, n_11192, n_65536, n_65537, n_99999999, n_1000000, nI_add, pk_mul, q_le, q_lt, q_eq, q_cl, q_gi, q_gz, q_sub, q_div, q_dm, d_dm, q_m1, q_mn, q_nm, q_mlt, q_ltm, q_mle, q_lem, q_mm, Option.bind_some, if_true, if_false, Nat.add_zero, ite_self, q_us, q_un, decide_true, decide_false, Bool.false_eq_true, eq_self, and_self, and_true, true_and, and_false, false_and, or_true, true_or, or_false, false_or, d_ltT, d_ltF, d_leT, d_leF, d_eqT, d_eqF, f_X11_player, f_X11_player_L14, f_X11_player_L49, f_X11_player_L68, y_check_t, f1, f2, yf, yn]
    · obtain ⟨s', kd', ts', te', tv', po', st', tk', vl', lt', a1, a2, a3, a4, a5⟩ := s_adv hN hT hM h1 h2
      refine Or.inl ⟨p, s', kd', ts', te', tv', po', st', tk', vl', lt', q1, a1, ?_, ?_, a4, a5⟩
      · subst c1
        rw [q2] at hf
        simp (disch := omega) only [n_0, n_1, n_2, n_3, n_4, n_5, n_6, n_7, n_8, n_9, n_10, n_12, n_13, n_15, n_20, n_24, n_27, n_31, n_32, n_33, n_36, n_44, n_48, n_50, n_57, n_58, n_59, n_72, n_74, n_75, n_85, n_91, n_96, n_97, n_99, n_122, n_255, n_300, n_432, n_600, n_900, n_999, n_1000, n_1291, n_1399, n_2798, n_11192, n_65536, n_65537, n_99999999, n_1000000, nI_add, pk_mul, q_le, q_lt, q_eq, q_cl, q_gi, q_gz, q_sub, q_div, q_dm, d_dm, q_m1, q_mn, q_nm, q_mlt, q_ltm, q_mle, q_lem, q_mm, Option.bind_some, if_true, if_false, Nat.add_zero, ite_self, q_us, q_un, decide_true, decide_false, Bool.false_eq_true, eq_self, and_self, and_true, true_and, and_false, false_and, or_true, true_or, or_false, false_or, d_ltT, d_ltF, d_leT, d_leF, d_eqT, d_eqF, f_X5_takeKnownName, hf, a2]
      · subst c2
        rw [q2] at f2
        simp (disch := omega) only [n_0, n_1, n_2, n_3, n_4, n_5, n_6, n_7, n_8, n_9, n_10, n_12, n_13, n_15, n_20, n_24, n_27, n_31, n_32, n_33, n_36, n_44, n_48, n_50, n_57, n_58, n_59, n_72, n_74, n_75, n_85, n_91, n_96, n_97, n_99, n_122, n_255, n_300, n_432, n_600, n_900, n_999, n_1000, n_1291, n_1399, n_2798, n_11192, n_65536, n_65537, n_99999999, n_1000000, nI_add, pk_mul, q_le, q_lt, q_eq, q_cl, q_gi, q_gz, q_sub, q_div, q_dm, d_dm, q_m1, q_mn, q_nm, q_mlt, q_ltm, q_mle, q_lem, q_mm, Option.bind_some, if_true, if_false, Nat.add_zero, ite_self, q_us, q_un, decide_true, decide_false, Bool.false_eq_true, eq_self, and_self, and_true, true_and, and_false, false_and, or_true, true_or, or_false, false_or, d_ltT, d_ltF, d_leT, d_leF, d_eqT, d_eqF, f_X11_player, f_X11_player_L14, f_X11_player_L49, f_X11_player_L63, f_X11_player_L68, y_check_t, f1, f2, y_next_t a3]
  · refine Or.inr ⟨1, nI 0, by omega, by omega, ?_, ?_⟩
    · subst c1
      simp (disch := omega) only [n_0, n_1, n_2, n_3, n_4, n_5, n_6, n_7, n_8, n_9, n_10, n_12, n_13, n_15, n_20, n_24, n_27, n_31, n_32, n_33, n_36, n_44, n_48, n_50, n_57, n_58, n_59, n_72, n_74, n_75, n_85, n_91, n_96, n_97, n_99, n_122, n_255, n_300, n_432, n_600, n_900, n_999, n_1000, n_1291, n_1399, n_2798, n_11192, n_65536, n_65537, n_99999999, n_1000000, nI_add, pk_mul, q_le, q_lt, q_eq, q_cl, q_gi, q_gz, q_sub, q_div, q_dm, d_dm, q_m1, q_mn, q_nm, q_mlt, q_ltm, q_mle, q_lem, q_mm, Option.bind_some, if_true, if_false, Nat.add_zero, ite_self, q_us, q_un, decide_true, decide_false, Bool.false_eq_true, eq_self, and_self, and_true, true_and, and_false, false_and, or_true, true_or, or_false, false_or, d_ltT, d_ltF, d_leT, d_leF, d_eqT, d_eqF, f_X5_takeKnownName, x_fail0]
    · subst c2
      have : tkM (tkK b L s) ≠ 3 := fun x => k1 (m1.mp x)
      have yf := @y_check_f st pl 1 (by omega) (by omega)
      have ye := @y_check_e st st (nI 1) (nI 4) 1 (by omega) (by omega)
      have yn := @y_next_e N (nI L) po st (nI (tkM (tkK b L s))) vl lw mi 1 (by omega) (by omega)
      simp (disch := omega) only [n_0, n_1, n_2, n_3, n_4, n_5, n_6, n_7, n_8, n_9, n_10, n_12, n_13, n_15, n_20, n_24, n_27, n_31, n_32, n_33, n_36, n_44, n_48, n_50, n_57, n_58, n_59, n_72, n_74, n_75, n_85, n_91, n_96, n_97, n_99, n_122, n_255, n_300, n_432, n_600, n_900, n_999, n_1000, n_1291, n_1399, n_2798, n_11192, n_65536, n_65537, n_99999999, n_1000000, nI_add, pk_mul, q_le, q_lt, q_eq, q_cl, q_gi, q_gz, q_sub, q_div, q_dm, d_dm, q_m1, q_mn, q_nm, q_mlt, q_ltm, q_mle, q_lem, q_mm, Option.bind_some, if_true, if_false, Nat.add_zero, ite_self, q_us, q_un, decide_true, decide_false, Bool.false_eq_true, eq_self, and_self, and_true, true_and, and_false, false_and, or_true, true_or, or_false, false_or, d_ltT, d_ltF, d_leT, d_leF, d_eqT, d_eqF, f_X11_player, f_X11_player_L14, f_X11_player_L49, f_X11_player_L63, f_X11_player_L68, yf, ye, yn]
/-- forgive -/
theorem r_forgive {N L s : Nat} {b g : Nat → Nat} {tb mi m : Nat → Int32} {sd : Int32} {mn : Int32} {th : Int32} {dc : Int32} {fc : Nat → Int32} {dw : Nat → Int32} {pc : Int32} {ln : Nat → Int32} {lt : Nat → Int32} {tc : Int32} {en : Nat → Int32} {fr : Nat → Int32} {oc : Int32} {op : Nat → Int32} {os : Nat → Int32} {kd ts te tv po st tk vl lw eo : Int32} (hN : 1000 < N) (hT : TR b L tb) (hM : TR b L mi) (h1 : TC b L s kd ts te tv) (h2 : TM b L s po st tk vl lw) (hO : Ok g) (hZ : ZR fc) (hH : HR g sd mn th dc fc dw pc ln lt tc en fr oc op os) (h : MR m g) : ∃ ec' eo' oc' op' os' kd' ts' te' tv' po' st' tk' vl' lw' code' pl' m', f_X5_readForgive N (nI L) tb pc ln lt (nI 0) eo oc op os kd ts te tv = some (ec', eo', oc', op', os', kd', ts', te', tv') ∧ f_X11_readForgive N (nI L) mi po st tk vl lw (nI 0) eo m = some (po', st', tk', vl', lw', code', pl', m') ∧ PS b L (tkE b L s) ec' eo' sd mn th dc fc dw pc ln lt tc en fr oc' op' os' kd' ts' te' tv' po' st' tk' vl' lw' code' pl' m' := by
  obtain ⟨⟨q0, q1, q2, q3, q4, q5, q6⟩, hD, hP, hE, hF, hQ⟩ := hH
  have b4 := b_4 hO.1
  have b6 := b_6 hO.1
  obtain ⟨s1, k1, k2, k3, k4, k5, k6, k7, k8, k9, a1, a2, a3, a4, a5⟩ := s_adv hN hT hM h1 h2
  obtain ⟨e1, e2, -⟩ := tkE_s (b := b) a4.1
  rcases s_known (eo := eo) (pl := eo) hN hT hM a4 a5 hO hP h with ⟨p, s2, l1, l2, l3, l4, l5, l6, l7, l8, l9, c1, c2, c3, c4, c5, c6⟩ | ⟨c, x, c1, c2, c3, c4⟩
  · obtain ⟨e3, e4, -⟩ := tkE_s (b := b) c5.1
    rcases s_fin (eo := eo) (pl := eo) hN hT hM c5 c6 with ⟨s3, n1, n2, n3, n4, n5, n6, n7, n8, n9, d1, d2, d3, d4, d5⟩ | ⟨d1, d2⟩
    · obtain ⟨p', t', f1, f2⟩ := e_allOf (N := N) (p := p) hN hO.1 hO.2.2.2.2 hQ (by omega)
      obtain ⟨g', m', u1, u2, u3, u4⟩ := m_forgive (N := N) (p := p) hN h hO.1 hO.2.2.2.2 (by omega)
      have hob := @gOby_le g p (g 6)
      have w1 : sT g g' := ⟨u4 5 (by omega) (by omega), fun k k1 k2 => u4 k (by omega) (by omega)⟩
      have w2 : sD g g' := ⟨u4 3 (by omega) (by omega), fun k k1 k2 => u4 k (by omega) (by omega)⟩
      have w3 : sP g g' := ⟨u4 4 (by omega) (by omega), fun k k1 k2 => u4 k (by omega) (by omega)⟩
      have hcl := @cK_le (kpO g p) (g 6)
      have hB2 : okB g' := by
        obtain ⟨z0, z1, z2, z3, z4, z5, z6, z7⟩ := hO.1
        unfold okB
        rw [u4 0 (by omega) (by omega), u4 1 (by omega) (by omega), u4 2 (by omega) (by omega), w2.1, w3.1, w1.1, u3.1]
        omega
      refine ⟨nI 0, eo, nI (cK (kpO g p) (g 6)), p', t', n1, n2, n3, n4, n5, n6, n7, n8, n9, nI 0, eo, m', ?_, ?_, hZ, Or.inl ⟨g', s3, rfl, rfl, rfl, by omega, d4, d5, ⟨hB2, sD_ok w2 hO.1 hO.2.1, sP_ok w3 hO.1 hO.2.2.1, sT_ok w1 w2 w3 hO.1 hO.2.2.2.1, sel_ok u3 w2.1 w3.1 hO.2.2.2.2⟩, u2, ⟨?_, ?_, ?_, ?_, ?_, ?_, ?_⟩, sD_R w2 hO.1 hO.2.1 hD, sP_R w3 hO.1 hP, sT_E w1 hO.1 hE, sT_F w1 hO.1 hF, sel_Q u3 hQ f2⟩⟩
      · subst q4 q6
        simp (disch := omega) only [n_0, n_1, n_2, n_3, n_4, n_5, n_6, n_7, n_8, n_9, n_10, n_12, n_13, n_15, n_20, n_24, n_27, n_31, n_32, n_33, n_36, n_44, n_48, n_50, n_57, n_58, n_59, n_72, n_74, n_75, n_85, n_91, n_96, n_97, n_99, n_122, n_255, n_300, n_432, n_600, n_900, n_999, n_1000, n_1291, n_1399, n_2798, n_11192, n_65536, n_65537, n_99999999, n_1000000, nI_add, pk_mul, q_le, q_lt, q_eq, q_cl, q_gi, q_gz, q_sub, q_div, q_dm, d_dm, q_m1, q_mn, q_nm, q_mlt, q_ltm, q_mle, q_lem, q_mm, Option.bind_some, if_true, if_false, Nat.add_zero, ite_self, q_us, q_un, decide_true, decide_false, Bool.false_eq_true, eq_self, and_self, and_true, true_and, and_false, false_and, or_true, true_or, or_false, false_or, d_ltT, d_ltF, d_leT, d_leF, d_eqT, d_eqF, f_X5_readForgive, a2, c3, d2, f1]
      · simp (disch := omega) only [n_0, n_1, n_2, n_3, n_4, n_5, n_6, n_7, n_8, n_9, n_10, n_12, n_13, n_15, n_20, n_24, n_27, n_31, n_32, n_33, n_36, n_44, n_48, n_50, n_57, n_58, n_59, n_72, n_74, n_75, n_85, n_91, n_96, n_97, n_99, n_122, n_255, n_300, n_432, n_600, n_900, n_999, n_1000, n_1291, n_1399, n_2798, n_11192, n_65536, n_65537, n_99999999, n_1000000, nI_add, pk_mul, q_le, q_lt, q_eq, q_cl, q_gi, q_gz, q_sub, q_div, q_dm, d_dm, q_m1, q_mn, q_nm, q_mlt, q_ltm, q_mle, q_lem, q_mm, Option.bind_some, if_true, if_false, Nat.add_zero, ite_self, q_us, q_un, decide_true, decide_false, Bool.false_eq_true, eq_self, and_self, and_true, true_and, and_false, false_and, or_true, true_or, or_false, false_or, d_ltT, d_ltF, d_leT, d_leF, d_eqT, d_eqF, f_X11_readForgive, y_next_t a3, c4, d3, u1]
      · rw [q0, u4 0 (by omega) (by omega)]
      · rw [q1, u4 1 (by omega) (by omega)]
      · rw [q2, u4 2 (by omega) (by omega)]
      · rw [q3, w2.1]
      · rw [q4, w3.1]
      · rw [q5, w1.1]
      · rw [u3.1]
    · refine ⟨nI 1, l2, oc, op, os, l1, l2, l3, l4, l5, l6, l7, l8, l9, nI 1, l6, m, ?_, ?_, hZ, Or.inr ⟨1, by omega, by omega, rfl, rfl, ?_⟩⟩
      · subst q4 q6
        simp (disch := omega) only [n_0, n_1, n_2, n_3, n_4, n_5, n_6, n_7, n_8, n_9, n_10, n_12, n_13, n_15, n_20, n_24, n_27, n_31, n_32, n_33, n_36, n_44, n_48, n_50, n_57, n_58, n_59, n_72, n_74, n_75, n_85, n_91, n_96, n_97, n_99, n_122, n_255, n_300, n_432, n_600, n_900, n_999, n_1000, n_1291, n_1399, n_2798, n_11192, n_65536, n_65537, n_99999999, n_1000000, nI_add, pk_mul, q_le, q_lt, q_eq, q_cl, q_gi, q_gz, q_sub, q_div, q_dm, d_dm, q_m1, q_mn, q_nm, q_mlt, q_ltm, q_mle, q_lem, q_mm, Option.bind_some, if_true, if_false, Nat.add_zero, ite_self, q_us, q_un, decide_true, decide_false, Bool.false_eq_true, eq_self, and_self, and_true, true_and, and_false, false_and, or_true, true_or, or_false, false_or, d_ltT, d_ltF, d_leT, d_leF, d_eqT, d_eqF, f_X5_readForgive, a2, c3, d1]
      · simp (disch := omega) only [n_0, n_1, n_2, n_3, n_4, n_5, n_6, n_7, n_8, n_9, n_10, n_12, n_13, n_15, n_20, n_24, n_27, n_31, n_32, n_33, n_36, n_44, n_48, n_50, n_57, n_58, n_59, n_72, n_74, n_75, n_85, n_91, n_96, n_97, n_99, n_122, n_255, n_300, n_432, n_600, n_900, n_999, n_1000, n_1291, n_1399, n_2798, n_11192, n_65536, n_65537, n_99999999, n_1000000, nI_add, pk_mul, q_le, q_lt, q_eq, q_cl, q_gi, q_gz, q_sub, q_div, q_dm, d_dm, q_m1, q_mn, q_nm, q_mlt, q_ltm, q_mle, q_lem, q_mm, Option.bind_some, if_true, if_false, Nat.add_zero, ite_self, q_us, q_un, decide_true, decide_false, Bool.false_eq_true, eq_self, and_self, and_true, true_and, and_false, false_and, or_true, true_or, or_false, false_or, d_ltT, d_ltF, d_leT, d_leF, d_eqT, d_eqF, f_X11_readForgive, y_next_t a3, c4, d2]
      · exact c5.2.2.1.trans c6.2.2.1.symm
  · have xe := @x_semi_e N (nI L) k2 k1 k2 k3 k4 (nI 0) tb c c1 c2
    have ye := y_semi_e (pl := k6) hM a5 c1 c2
    have yn := @y_next_e N (nI L) k5 k6 k7 k8 k9 mi c c1 c2
    refine ⟨nI c, k2, oc, op, os, k1, k2, k3, k4, k5, k6, k7, k8, k9, nI c, k6, m, ?_, ?_, hZ, Or.inr ⟨c, c1, c2, rfl, rfl, ?_⟩⟩
    · subst q4 q6
      simp (disch := omega) only [n_0, n_1, n_2, n_3, n_4, n_5, n_6, n_7, n_8, n_9, n_10, n_12, n_13, n_15, n_20, n_24, n_27, n_31, n_32, n_33, n_36, n_44, n_48, n_50, n_57, n_58, n_59, n_72, n_74, n_75, n_85, n_91, n_96, n_97, n_99, n_122, n_255, n_300, n_432, n_600, n_900, n_999, n_1000, n_1291, n_1399, n_2798, n_11192, n_65536, n_65537, n_99999999, n_1000000, nI_add, pk_mul, q_le, q_lt, q_eq, q_cl, q_gi, q_gz, q_sub, q_div, q_dm, d_dm, q_m1, q_mn, q_nm, q_mlt, q_ltm, q_mle, q_lem, q_mm, Option.bind_some, if_true, if_false, Nat.add_zero, ite_self, q_us, q_un, decide_true, decide_false, Bool.false_eq_true, eq_self, and_self, and_true, true_and, and_false, false_and, or_true, true_or, or_false, false_or, d_ltT, d_ltF, d_leT, d_leF, d_eqT, d_eqF, f_X5_readForgive, a2, c3, xe]
    · simp (disch := omega) only [n_0, n_1, n_2, n_3, n_4, n_5, n_6, n_7, n_8, n_9, n_10, n_12, n_13, n_15, n_20, n_24, n_27, n_31, n_32, n_33, n_36, n_44, n_48, n_50, n_57, n_58, n_59, n_72, n_74, n_75, n_85, n_91, n_96, n_97, n_99, n_122, n_255, n_300, n_432, n_600, n_900, n_999, n_1000, n_1291, n_1399, n_2798, n_11192, n_65536, n_65537, n_99999999, n_1000000, nI_add, pk_mul, q_le, q_lt, q_eq, q_cl, q_gi, q_gz, q_sub, q_div, q_dm, d_dm, q_m1, q_mn, q_nm, q_mlt, q_ltm, q_mle, q_lem, q_mm, Option.bind_some, if_true, if_false, Nat.add_zero, ite_self, q_us, q_un, decide_true, decide_false, Bool.false_eq_true, eq_self, and_self, and_true, true_and, and_false, false_and, or_true, true_or, or_false, false_or, d_ltT, d_ltF, d_leT, d_leF, d_eqT, d_eqF, f_X11_readForgive, f_X11_finish, y_next_t a3, c4, ye, yn]
    · exact a4.2.2.1.trans a5.2.2.1.symm
/-- audit -/
theorem sQ_ok {w g : Nat → Nat} (h : sQ w g) (hO : Ok w) {fc dw ln lt en fr : Nat → Int32} (hD : DR w fc dw) (hP : NR w ln lt) (hE : ER w en) (hF : FR w fr) : DR g fc dw ∧ NR g ln lt ∧ ER g en ∧ FR g fr := ⟨sD_R h.2.1 hO.1 hO.2.1 hD, sP_R h.2.2.1 hO.1 hP, sT_E h.1 hO.1 hE, sT_F h.1 hO.1 hF⟩
theorem r_audit {N L s : Nat} {b g : Nat → Nat} {tb mi m o : Nat → Int32} {a : Int32} {sd : Int32} {mn : Int32} {th : Int32} {dc : Int32} {fc : Nat → Int32} {dw : Nat → Int32} {pc : Int32} {ln : Nat → Int32} {lt : Nat → Int32} {tc : Int32} {en : Nat → Int32} {fr : Nat → Int32} {oc : Int32} {op : Nat → Int32} {os : Nat → Int32} {kd ts te tv po st tk vl lw eo : Int32} (hN : 1000 < N) (hT : TR b L tb) (hM : TR b L mi) (h1 : TC b L s kd ts te tv) (h2 : TM b L s po st tk vl lw) (hO : Ok g) (hZ : ZR fc) (hH : HR g sd mn th dc fc dw pc ln lt tc en fr oc op os) (h : MR m g) : ∃ ec' eo' oc' op' os' kd' ts' te' tv' a' po' st' tk' vl' lw' code' pl' m' o', f_X5_readAudit N (nI L) tb mn th fc fr (nI 0) eo oc op os kd ts te tv = some (ec', eo', oc', op', os', kd', ts', te', tv') ∧ f_X11_readAudit N (nI L) mi a po st tk vl lw (nI 0) eo m o = some (a', po', st', tk', vl', lw', code', pl', m', o') ∧ PS b L (tkE b L s) ec' eo' sd mn th dc fc dw pc ln lt tc en fr oc' op' os' kd' ts' te' tv' po' st' tk' vl' lw' code' pl' m' := by
  obtain ⟨⟨q0, q1, q2, q3, q4, q5, q6⟩, hD, hP, hE, hF, hQ⟩ := hH
  obtain ⟨s1, k1, k2, k3, k4, k5, k6, k7, k8, k9, a1, a2, a3, a4, a5⟩ := s_adv hN hT hM h1 h2
  obtain ⟨e1, e2, -⟩ := tkE_s (b := b) a4.1
  rcases s_fin (eo := eo) (pl := eo) hN hT hM a4 a5 with ⟨s3, n1, n2, n3, n4, n5, n6, n7, n8, n9, d1, d2, d3, d4, d5⟩ | ⟨d1, d2⟩
  · obtain ⟨op', os', f1, f2⟩ := e_audit (N := N) hN hO hD hZ hF hQ
    obtain ⟨⟨t1, t2, t3, t4⟩, u1, u2, u3⟩ := m_audit (N := N) (a := a) (o := o) hN hO h
    obtain ⟨w1, w2, w3⟩ := gAud_s hO 36 (by omega)
    obtain ⟨v1, v2, v3, v4⟩ := sQ_ok w2 hO hD hP hE hF
    have b6 := b_6 w1.1
    have u2 : t1 = nI (gAud g 36 6 - g 6) := u2
    subst u2
    refine ⟨nI 0, eo, nI (gAud g 36 6), op', os', n1, n2, n3, n4, t2, n5, n6, n7, n8, n9, nI 0, eo, t4, t3, ?_, ?_, hZ, Or.inl ⟨gAud g 36, s3, rfl, rfl, rfl, by omega, d4, d5, w1, u3, ⟨?_, ?_, ?_, ?_, ?_, ?_, ?_⟩, v1, v2, v3, v4, f2⟩⟩
    · subst q1 q2 q6
      simp (disch := omega) only [n_0, n_1, n_2, n_3, n_4, n_5, n_6, n_7, n_8, n_9, n_10, n_12, n_13, n_15, n_20, n_24, n_27, n_31, n_32, n_33, n_36, n_44, n_48, n_50, n_57, n_58, n_59, n_72, n_74, n_75, n_85, n_91, n_96, n_97, n_99, n_122, n_255, n_300, n_432, n_600, n_900, n_999, n_1000, n_1291, n_1399, n_2798, n_11192, n_65536, n_65537, n_99999999, n_1000000, nI_add, pk_mul, q_le, q_lt, q_eq, q_cl, q_gi, q_gz, q_sub, q_div, q_dm, d_dm, q_m1, q_mn, q_nm, q_mlt, q_ltm, q_mle, q_lem, q_mm, Option.bind_some, if_true, if_false, Nat.add_zero, ite_self, q_us, q_un, decide_true, decide_false, Bool.false_eq_true, eq_self, and_self, and_true, true_and, and_false, false_and, or_true, true_or, or_false, false_or, d_ltT, d_ltF, d_leT, d_leF, d_eqT, d_eqF, f_X5_readAudit, a2, d2, f1]
    · simp (disch := omega) only [n_0, n_1, n_2, n_3, n_4, n_5, n_6, n_7, n_8, n_9, n_10, n_12, n_13, n_15, n_20, n_24, n_27, n_31, n_32, n_33, n_36, n_44, n_48, n_50, n_57, n_58, n_59, n_72, n_74, n_75, n_85, n_91, n_96, n_97, n_99, n_122, n_255, n_300, n_432, n_600, n_900, n_999, n_1000, n_1291, n_1399, n_2798, n_11192, n_65536, n_65537, n_99999999, n_1000000, nI_add, pk_mul, q_le, q_lt, q_eq, q_cl, q_gi, q_gz, q_sub, q_div, q_dm, d_dm, q_m1, q_mn, q_nm, q_mlt, q_ltm, q_mle, q_lem, q_mm, Option.bind_some, if_true, if_false, Nat.add_zero, ite_self, q_us, q_un, decide_true, decide_false, Bool.false_eq_true, eq_self, and_self, and_true, true_and, and_false, false_and, or_true, true_or, or_false, false_or, d_ltT, d_ltF, d_leT, d_leF, d_eqT, d_eqF, f_X11_readAudit, y_next_t a3, d3, u1]
    · rw [q0, w2.2.2.2 0 (by omega)]
    · rw [q1, w2.2.2.2 1 (by omega)]
    · rw [q2, w2.2.2.2 2 (by omega)]
    · rw [q3, w2.2.1.1]
    · rw [q4, w2.2.2.1.1]
    · rw [q5, w2.1.1]
    · rfl
  · refine ⟨nI 1, k2, oc, op, os, k1, k2, k3, k4, a, k5, k6, k7, k8, k9, nI 1, k6, m, o, ?_, ?_, hZ, Or.inr ⟨1, by omega, by omega, rfl, rfl, ?_⟩⟩
    · simp (disch := omega) only [n_0, n_1, n_2, n_3, n_4, n_5, n_6, n_7, n_8, n_9, n_10, n_12, n_13, n_15, n_20, n_24, n_27, n_31, n_32, n_33, n_36, n_44, n_48, n_50, n_57, n_58, n_59, n_72, n_74, n_75, n_85, n_91, n_96, n_97, n_99, n_122, n_255, n_300, n_432, n_600, n_900, n_999, n_1000, n_1291, n_1399, n_2798, n_11192, n_65536, n_65537, n_99999999, n_1000000, nI_add, pk_mul, q_le, q_lt, q_eq, q_cl, q_gi, q_gz, q_sub, q_div, q_dm, d_dm, q_m1, q_mn, q_nm, q_mlt, q_ltm, q_mle, q_lem, q_mm, Option.bind_some, if_true, if_false, Nat.add_zero, ite_self, q_us, q_un, decide_true, decide_false, Bool.false_eq_true, eq_self, and_self, and_true, true_and, and_false, false_and, or_true, true_or, or_false, false_or, d_ltT, d_ltF, d_leT, d_leF, d_eqT, d_eqF, f_X5_readAudit, a2, d1]
    · simp (disch := omega) only [n_0, n_1, n_2, n_3, n_4, n_5, n_6, n_7, n_8, n_9, n_10, n_12, n_13, n_15, n_20, n_24, n_27, n_31, n_32, n_33, n_36, n_44, n_48, n_50, n_57, n_58, n_59, n_72, n_74, n_75, n_85, n_91, n_96, n_97, n_99, n_122, n_255, n_300, n_432, n_600, n_900, n_999, n_1000, n_1291, n_1399, n_2798, n_11192, n_65536, n_65537, n_99999999, n_1000000, nI_add, pk_mul, q_le, q_lt, q_eq, q_cl, q_gi, q_gz, q_sub, q_div, q_dm, d_dm, q_m1, q_mn, q_nm, q_mlt, q_ltm, q_mle, q_lem, q_mm, Option.bind_some, if_true, if_false, Nat.add_zero, ite_self, q_us, q_un, decide_true, decide_false, Bool.false_eq_true, eq_self, and_self, and_true, true_and, and_false, false_and, or_true, true_or, or_false, false_or, d_ltT, d_ltF, d_leT, d_leF, d_eqT, d_eqF, f_X11_readAudit, y_next_t a3, d2]
    · exact a4.2.2.1.trans a5.2.2.1.symm
