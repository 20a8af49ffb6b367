/-! audits, penances, forgiving, weights, seeds and limits -/
theorem w_51 {N a : Nat} {g : Nat → Nat} {m_s rem xs often : Nat → Int32} {sd : Int32} {mn : Int32} {th : Int32} {dc : Int32} {fc : Nat → Int32} {dw : Nat → Int32} {pc : Int32} {ln : Nat → Int32} {lt : Nat → Int32} {tc : Int32} {en : Nat → Int32} {fr : Nat → Int32} {oc : Int32} {op : Nat → Int32} {os : Nat → Int32} {sd1 : Int32} {mn1 : Int32} {th1 : Int32} {dc1 : Int32} {fc1 : Nat → Int32} {dw1 : Nat → Int32} {pc1 : Int32} {ln1 : Nat → Int32} {lt1 : Nat → Int32} {tc1 : Int32} {en1 : Nat → Int32} {fr1 : Nat → Int32} {oc1 : Int32} {op1 : Nat → Int32} {os1 : Nat → Int32} {l5 nx dp und ust mt oa : Int32} {hs : Nat → HC} (h : QC N g m_s sd mn th dc fc dw pc ln lt tc en fr oc op os) (hi : HI hs nx dp und ust rem) (ha : nx = nI a) (ha8 : a < 8) : Ho (f_W51 N xs l5 sd mn th dc fc dw pc ln lt tc en fr oc op os nx dp und ust mt oa m_s rem often sd1 mn1 th1 dc1 fc1 dw1 pc1 ln1 lt1 tc1 en1 fr1 oc1 op1 os1) (fun t => QS N t.2.2.2.2.2.2.2.2.2.1 sd mn th dc fc dw pc ln lt tc en fr t.1 t.2.1 t.2.2.1 ∧ HI (hup hs a t.2.2.2.2.2.2.2.2.2.2.2.2) t.2.2.2.1 t.2.2.2.2.1 t.2.2.2.2.2.1 t.2.2.2.2.2.2.1 t.2.2.2.2.2.2.2.2.2.2.1) := by
  obtain ⟨nx', dp', und', ust', rem', r1, r2, r3⟩ := rem_at (sd1 := sd1) (mn1 := mn1) (th1 := th1) (dc1 := dc1) (fc1 := fc1) (dw1 := dw1) (pc1 := pc1) (ln1 := ln1) (lt1 := lt1) (tc1 := tc1) (en1 := en1) (fr1 := fr1) (oc1 := oc1) (op1 := op1) (os1 := os1) h hi ha ha8
  obtain ⟨hN, hO0, ⟨⟨rfl, rfl, rfl, rfl, rfl, rfl, rfl⟩, hR, hNR, hE, hF, hQ⟩, hZ, hM⟩ := h
  have hN1 : 1000 < N := by omega
  obtain ⟨op', os', f1, f2⟩ := e_audit (N := N) hN1 hO0 hR hZ hF hQ
  obtain ⟨⟨t1, t2, t3, t4⟩, u1, u2, u3⟩ := m_audit (N := N) (a := oa) (o := often) hN1 hO0 hM
  obtain ⟨w1, w2, w3⟩ := gAud_s hO0 36 (by omega)
  obtain ⟨v1, v2, v3, v4⟩ := sQ_ok w2 hO0 hR hNR hE hF
  have u2 : t1 = nI (gAud g 36 6 - g 6) := u2
  subst u2
  unfold f_W51 f_X10_audit f_X11_audit
  simp only [n_0, n_1, n_2, n_3, n_4, n_5, n_6, n_7, n_8, n_9, n_10, n_12, n_13, n_15, n_20, n_24, n_27, n_31, n_32, n_33, n_36, n_44, n_48, n_50, n_57, n_58, n_59, n_72, n_74, n_75, n_85, n_91, n_96, n_97, n_99, n_122, n_255, n_300, n_432, n_600, n_900, n_999, n_1000, n_1291, n_1399, n_2798, n_11192, n_65536, n_65537, n_99999999, n_1000000]
  rw [r1, Option.bind_some, f1, Option.bind_some, Option.bind_some, r2, Option.bind_some, u1, Option.bind_some, Option.bind_some, if_pos rfl]
  refine ⟨_, rfl, ⟨gAud g 36, hN, w1, ⟨⟨?_, ?_, ?_, ?_, ?_, ?_, rfl⟩, v1, v2, v3, v4, f2⟩, hZ, u3⟩, r3⟩
  · rw [w2.2.2.2 0 (by omega)]
  · rw [w2.2.2.2 1 (by omega)]
  · rw [w2.2.2.2 2 (by omega)]
  · rw [w2.2.1.1]
  · rw [w2.2.2.1.1]
  · rw [w2.1.1]
theorem w_52 {N a : Nat} {g : Nat → Nat} {m_s rem xs : Nat → Int32} {sd : Int32} {mn : Int32} {th : Int32} {dc : Int32} {fc : Nat → Int32} {dw : Nat → Int32} {pc : Int32} {ln : Nat → Int32} {lt : Nat → Int32} {tc : Int32} {en : Nat → Int32} {fr : Nat → Int32} {oc : Int32} {op : Nat → Int32} {os : Nat → Int32} {sd1 : Int32} {mn1 : Int32} {th1 : Int32} {dc1 : Int32} {fc1 : Nat → Int32} {dw1 : Nat → Int32} {pc1 : Int32} {ln1 : Nat → Int32} {lt1 : Nat → Int32} {tc1 : Int32} {en1 : Nat → Int32} {fr1 : Nat → Int32} {oc1 : Int32} {op1 : Nat → Int32} {os1 : Nat → Int32} {l5 nx dp und ust mt : Int32} {hs : Nat → HC} {ov : Nat → Int64} (h : QC N g m_s sd mn th dc fc dw pc ln lt tc en fr oc op os) (hi : HI hs nx dp und ust rem) (ha : nx = nI a) (ha8 : a < 8) (hv : hs a = mkH sd1 mn1 th1 dc1 fc1 dw1 pc1 ln1 lt1 tc1 en1 fr1 oc1 op1 os1) : Ho (f_W52 N xs l5 mn th dc fc dw pc ln lt sd tc en fr oc op os nx dp und ust mt m_s rem ov sd1 mn1 th1 dc1 fc1 dw1 pc1 ln1 lt1 tc1 en1 fr1 oc1 op1 os1) (fun t => QS N t.2.2.2.2.2.2.2.2.2.2.2.2.1 t.1 mn th dc fc dw pc ln lt t.2.1 t.2.2.1 t.2.2.2.1 t.2.2.2.2.1 t.2.2.2.2.2.1 t.2.2.2.2.2.2.1 ∧ HI (hup hs a t.2.2.2.2.2.2.2.2.2.2.2.2.2.2.2) t.2.2.2.2.2.2.2.1 t.2.2.2.2.2.2.2.2.1 t.2.2.2.2.2.2.2.2.2.1 t.2.2.2.2.2.2.2.2.2.2.1 t.2.2.2.2.2.2.2.2.2.2.2.2.2.1) := by
  obtain ⟨nx', dp', und', ust', rem', r1, r2, r3⟩ := rem_at (sd1 := sd1) (mn1 := mn1) (th1 := th1) (dc1 := dc1) (fc1 := fc1) (dw1 := dw1) (pc1 := pc1) (ln1 := ln1) (lt1 := lt1) (tc1 := tc1) (en1 := en1) (fr1 := fr1) (oc1 := oc1) (op1 := op1) (os1 := os1) h hi ha ha8
  have h0 := h
  obtain ⟨hN, hO0, ⟨⟨rfl, rfl, rfl, rfl, rfl, rfl, rfl⟩, hR, hNR, hE, hF, hQ⟩, hZ, hM⟩ := h
  have hN1 : 1000 < N := by omega
  have b6 := b_6 hO0.1
  have e6 : m_s 6 = nI (g 6) := hM 6 (by omega)
  have n10 : ¬ nI 1 = nI 0 := by decide +kernel
  unfold f_W52 f_L_absolve f_X10_absolve f_X11_absolve f_X11_absolve_L21 f_X11_refuses f_X11_refuses_L16 f_X11_thrown
  simp only [n_0, n_1, n_2, n_3, n_4, n_5, n_6, n_7, n_8, n_9, n_10, n_12, n_13, n_15, n_20, n_24, n_27, n_31, n_32, n_33, n_36, n_44, n_48, n_50, n_57, n_58, n_59, n_72, n_74, n_75, n_85, n_91, n_96, n_97, n_99, n_122, n_255, n_300, n_432, n_600, n_900, n_999, n_1000, n_1291, n_1399, n_2798, n_11192, n_65536, n_65537, n_99999999, n_1000000]
  by_cases c : g 6 = 0
  · rw [if_pos (by rw [q_eq (by omega) (by omega)]; exact c), hbd_f, if_pos rfl, Option.bind_some, q_cl (by omega), e6, if_pos (by rw [q_eq (by omega) (by omega)]; exact c)]
    simp (disch := omega) only [n_0, n_1, n_2, n_3, n_4, n_5, n_6, n_7, n_8, n_9, n_10, n_12, n_13, n_15, n_20, n_24, n_27, n_31, n_32, n_33, n_36, n_44, n_48, n_50, n_57, n_58, n_59, n_72, n_74, n_75, n_85, n_91, n_96, n_97, n_99, n_122, n_255, n_300, n_432, n_600, n_900, n_999, n_1000, n_1291, n_1399, n_2798, n_11192, n_65536, n_65537, n_99999999, n_1000000, nI_add, pk_mul, q_le, q_lt, q_eq, q_cl, q_gi, q_gz, q_sub, q_div, q_dm, d_dm, q_m1, q_mn, q_nm, q_mlt, q_ltm, q_mle, q_lem, q_mm, Option.bind_some, if_true, if_false, Nat.add_zero, ite_self, q_us, q_un, decide_true, decide_false, Bool.false_eq_true, eq_self, and_self, and_true, true_and, and_false, false_and, or_true, true_or, or_false, false_or, d_ltT, d_ltF, d_leT, d_leF, d_eqT, d_eqF]
    exact ⟨_, rfl, ⟨g, h0⟩, HI_same hi hv⟩
  · obtain ⟨g', m', k1, k2, k3⟩ := m_absolve (N := N) hN hM hO0 (by omega)
    obtain ⟨en', fr', op', os', k4, k5, k6, k7⟩ := e_doPen (N := N) hN1 hO0 (by omega) k1 hR hE hF hQ
    obtain ⟨k8, k9⟩ := pen_HR hO0 (by omega) k1 h0.2.2.1 k5 k6 k7
    rw [if_neg (by rw [q_eq (by omega) (by omega)]; exact c), r1, Option.bind_some, k4, Option.bind_some, hbd_t, Option.bind_some, q_cl (by omega), e6, if_neg (by rw [q_eq (by omega) (by omega)]; exact c)]
    simp (disch := omega) only [n_0, n_1, n_2, n_3, n_4, n_5, n_6, n_7, n_8, n_9, n_10, n_12, n_13, n_15, n_20, n_24, n_27, n_31, n_32, n_33, n_36, n_44, n_48, n_50, n_57, n_58, n_59, n_72, n_74, n_75, n_85, n_91, n_96, n_97, n_99, n_122, n_255, n_300, n_432, n_600, n_900, n_999, n_1000, n_1291, n_1399, n_2798, n_11192, n_65536, n_65537, n_99999999, n_1000000, nI_add, pk_mul, q_le, q_lt, q_eq, q_cl, q_gi, q_gz, q_sub, q_div, q_dm, d_dm, q_m1, q_mn, q_nm, q_mlt, q_ltm, q_mle, q_lem, q_mm, Option.bind_some, if_true, if_false, Nat.add_zero, ite_self, q_us, q_un, decide_true, decide_false, Bool.false_eq_true, eq_self, and_self, and_true, true_and, and_false, false_and, or_true, true_or, or_false, false_or, d_ltT, d_ltF, d_leT, d_leF, d_eqT, d_eqF, r2, k2, lgc]
    exact ⟨_, rfl, ⟨gThr g' (oP g 0) (oD g 0) 1 (gPen g), hN, k8, k9, hZ, k3⟩, r3⟩
theorem w_53 {N a : Nat} {g : Nat → Nat} {m_s rem xs : Nat → Int32} {sd : Int32} {mn : Int32} {th : Int32} {dc : Int32} {fc : Nat → Int32} {dw : Nat → Int32} {pc : Int32} {ln : Nat → Int32} {lt : Nat → Int32} {tc : Int32} {en : Nat → Int32} {fr : Nat → Int32} {oc : Int32} {op : Nat → Int32} {os : Nat → Int32} {sd1 : Int32} {mn1 : Int32} {th1 : Int32} {dc1 : Int32} {fc1 : Nat → Int32} {dw1 : Nat → Int32} {pc1 : Int32} {ln1 : Nat → Int32} {lt1 : Nat → Int32} {tc1 : Int32} {en1 : Nat → Int32} {fr1 : Nat → Int32} {oc1 : Int32} {op1 : Nat → Int32} {os1 : Nat → Int32} {l5 nx dp und ust mt : Int32} {hs : Nat → HC} {ov : Nat → Int64} (h : QC N g m_s sd mn th dc fc dw pc ln lt tc en fr oc op os) (hi : HI hs nx dp und ust rem) (ha : nx = nI a) (ha8 : a < 8) (hv : hs a = mkH sd1 mn1 th1 dc1 fc1 dw1 pc1 ln1 lt1 tc1 en1 fr1 oc1 op1 os1) : Ho (f_W53 N xs l5 sd mn th dc fc dw pc ln lt tc en fr oc op os nx dp und ust mt m_s rem ov sd1 mn1 th1 dc1 fc1 dw1 pc1 ln1 lt1 tc1 en1 fr1 oc1 op1 os1) (fun t => QS N t.2.2.2.2.2.2.2.2.1 sd mn th dc fc dw pc ln lt tc en fr t.1 t.2.1 t.2.2.1 ∧ HI (hup hs a t.2.2.2.2.2.2.2.2.2.2.2) t.2.2.2.1 t.2.2.2.2.1 t.2.2.2.2.2.1 t.2.2.2.2.2.2.1 t.2.2.2.2.2.2.2.2.2.1) := by
  obtain ⟨nx', dp', und', ust', rem', r1, r2, r3⟩ := rem_at (sd1 := sd1) (mn1 := mn1) (th1 := th1) (dc1 := dc1) (fc1 := fc1) (dw1 := dw1) (pc1 := pc1) (ln1 := ln1) (lt1 := lt1) (tc1 := tc1) (en1 := en1) (fr1 := fr1) (oc1 := oc1) (op1 := op1) (os1 := os1) h hi ha ha8
  have h0 := h
  obtain ⟨hN, hO0, ⟨⟨rfl, rfl, rfl, rfl, rfl, rfl, rfl⟩, hR, hNR, hE, hF, hQ⟩, hZ, hM⟩ := h
  have hN1 : 1000 < N := by omega
  have b4 := b_4 hO0.1
  have n10 : ¬ nI 1 = nI 0 := by decide +kernel
  unfold f_W53 f_L_forgive f_X10_forgive f_X11_forgive f_X11_thrown
  simp only [n_0, n_1, n_2, n_3, n_4, n_5, n_6, n_7, n_8, n_9, n_10, n_12, n_13, n_15, n_20, n_24, n_27, n_31, n_32, n_33, n_36, n_44, n_48, n_50, n_57, n_58, n_59, n_72, n_74, n_75, n_85, n_91, n_96, n_97, n_99, n_122, n_255, n_300, n_432, n_600, n_900, n_999, n_1000, n_1291, n_1399, n_2798, n_11192, n_65536, n_65537, n_99999999, n_1000000]
  generalize xs (l5 + nI 1).toNatClampNeg = x1
  rcases pl_cs hO0.1 hM x1 with ⟨p, hp, rfl, h1, h2⟩ | ⟨h1, h2⟩
  · obtain ⟨p', t', f1, f2⟩ := e_allOf (N := N) (p := p) hN1 hO0.1 hO0.2.2.2.2 hQ (by omega)
    obtain ⟨g', m', u1, u2, u3, u4⟩ := m_forgive (N := N) (p := p) hN1 hM hO0.1 hO0.2.2.2.2 (by omega)
    have w1 : sT g g' := ⟨u4 5 (by omega) (by omega), fun k k1 k2 => u4 k (by omega) (by omega)⟩
    have w2 : sD g g' := ⟨u4 3 (by omega) (by omega), fun k k1 k2 => u4 k (by omega) (by omega)⟩
    have w3 : sP g g' := ⟨u4 4 (by omega) (by omega), fun k k1 k2 => u4 k (by omega) (by omega)⟩
    have hcl := @cK_le (kpO g p) (g 6)
    have hck := @cK_oby g p (g 6)
    have hB2 : okB g' := by
      obtain ⟨z0, z1, z2, z3, z4, z5, z6, z7⟩ := hO0.1
      unfold okB
      rw [u4 0 (by omega) (by omega), u4 1 (by omega) (by omega), u4 2 (by omega) (by omega), w2.1, w3.1, w1.1, u3.1]
      omega
    rw [show g 6 - cK (kpO g p) (g 6) = gOby g p (g 6) by omega] at f1
    rw [h1, sbd_t, r1, Option.bind_some, f1, Option.bind_some, hbd_t, Option.bind_some, h2, Option.bind_some, if_pos rfl, r2, Option.bind_some, u1, Option.bind_some, Option.bind_some, Option.bind_some, if_pos rfl, if_pos rfl, q_cl (by omega), lgc, if_pos rfl]
    refine ⟨_, rfl, ⟨g', hN, ⟨hB2, sD_ok w2 hO0.1 hO0.2.1, sP_ok w3 hO0.1 hO0.2.2.1, sT_ok w1 w2 w3 hO0.1 hO0.2.2.2.1, sel_ok u3 w2.1 w3.1 hO0.2.2.2.2⟩, ⟨⟨?_, ?_, ?_, ?_, ?_, ?_, ?_⟩, sD_R w2 hO0.1 hO0.2.1 hR, sP_R w3 hO0.1 hNR, sT_E w1 hO0.1 hE, sT_F w1 hO0.1 hF, sel_Q u3 hQ f2⟩, hZ, u2⟩, r3⟩
    · rw [u4 0 (by omega) (by omega)]
    · rw [u4 1 (by omega) (by omega)]
    · rw [u4 2 (by omega) (by omega)]
    · rw [w2.1]
    · rw [w3.1]
    · rw [w1.1]
    · rw [u3.1]
  · rw [h1, sbd_f, hbd_f, if_pos rfl, Option.bind_some, h2, Option.bind_some, if_neg n10, Option.bind_some, Option.bind_some, if_pos rfl, if_neg n10]
    exact ⟨_, rfl, ⟨g, h0⟩, HI_same hi hv⟩
theorem sc_HR {g g' : Nat → Nat} {sd : Int32} {mn : Int32} {th : Int32} {dc : Int32} {fc : Nat → Int32} {dw : Nat → Int32} {pc : Int32} {ln : Nat → Int32} {lt : Nat → Int32} {tc : Int32} {en : Nat → Int32} {fr : Nat → Int32} {oc : Int32} {op : Nat → Int32} {os : Nat → Int32} (hk : ∀ k, 3 ≤ k → g' k = g k) (hB : okB g') (hO : Ok g) (hH : HR g sd mn th dc fc dw pc ln lt tc en fr oc op os) : Ok g' ∧ HR g' (nI (g' 0)) (nI (g' 1)) (nI (g' 2)) dc fc dw pc ln lt tc en fr oc op os := by
  obtain ⟨⟨q0, q1, q2, q3, q4, q5, q6⟩, hR, hNR, hE, hF, hQ⟩ := hH
  have w1 : sT g g' := ⟨hk 5 (by omega), fun k k1 k2 => hk k (by omega)⟩
  have w2 : sD g g' := ⟨hk 3 (by omega), fun k k1 k2 => hk k (by omega)⟩
  have w3 : sP g g' := ⟨hk 4 (by omega), fun k k1 k2 => hk k (by omega)⟩
  have w4 : sO g g' := ⟨hk 6 (by omega), fun k k1 k2 => hk k (by omega)⟩
  exact ⟨⟨hB, sD_ok w2 hO.1 hO.2.1, sP_ok w3 hO.1 hO.2.2.1, sT_ok w1 w2 w3 hO.1 hO.2.2.2.1, sO_ok w4 w2.1 w3.1 hO.1 hO.2.2.2.2⟩, ⟨rfl, rfl, rfl, by rw [w2.1]; exact q3, by rw [w3.1]; exact q4, by rw [w1.1]; exact q5, by rw [w4.1]; exact q6⟩, sD_R w2 hO.1 hO.2.1 hR, sP_R w3 hO.1 hNR, sT_E w1 hO.1 hE, sT_F w1 hO.1 hF, sO_Q w4 hO.1 hQ⟩
theorem w_55 {N a : Nat} {g : Nat → Nat} {m_s rem xs : Nat → Int32} {sd : Int32} {mn : Int32} {th : Int32} {dc : Int32} {fc : Nat → Int32} {dw : Nat → Int32} {pc : Int32} {ln : Nat → Int32} {lt : Nat → Int32} {tc : Int32} {en : Nat → Int32} {fr : Nat → Int32} {oc : Int32} {op : Nat → Int32} {os : Nat → Int32} {sd1 : Int32} {mn1 : Int32} {th1 : Int32} {dc1 : Int32} {fc1 : Nat → Int32} {dw1 : Nat → Int32} {pc1 : Int32} {ln1 : Nat → Int32} {lt1 : Nat → Int32} {tc1 : Int32} {en1 : Nat → Int32} {fr1 : Nat → Int32} {oc1 : Int32} {op1 : Nat → Int32} {os1 : Nat → Int32} {l5 nx dp und ust mt : Int32} {hs : Nat → HC} {ov : Nat → Int64} (h : QC N g m_s sd mn th dc fc dw pc ln lt tc en fr oc op os) (hi : HI hs nx dp und ust rem) (ha : nx = nI a) (ha8 : a < 8) (hv : hs a = mkH sd1 mn1 th1 dc1 fc1 dw1 pc1 ln1 lt1 tc1 en1 fr1 oc1 op1 os1) : Ho (f_W55 N xs l5 mn th dc fc dw pc ln lt tc en fr oc op os sd nx dp und ust mt m_s rem ov sd1 mn1 th1 dc1 fc1 dw1 pc1 ln1 lt1 tc1 en1 fr1 oc1 op1 os1) (fun t => QS N t.2.2.2.2.2.2.1 t.1 mn th dc fc dw pc ln lt tc en fr oc op os ∧ HI (hup hs a t.2.2.2.2.2.2.2.2.2) t.2.1 t.2.2.1 t.2.2.2.1 t.2.2.2.2.1 t.2.2.2.2.2.2.2.1) := by
  obtain ⟨nx', dp', und', ust', rem', r1, r2, r3⟩ := rem_at (sd1 := sd1) (mn1 := mn1) (th1 := th1) (dc1 := dc1) (fc1 := fc1) (dw1 := dw1) (pc1 := pc1) (ln1 := ln1) (lt1 := lt1) (tc1 := tc1) (en1 := en1) (fr1 := fr1) (oc1 := oc1) (op1 := op1) (os1 := os1) h hi ha ha8
  have h0 := h
  obtain ⟨hN, hO0, ⟨⟨rfl, rfl, rfl, rfl, rfl, rfl, rfl⟩, hR, hNR, hE, hF, hQ⟩, hZ, hM⟩ := h
  have e0 : m_s 0 = nI (g 0) := hM 0 (by omega)
  have n10 : ¬ nI 1 = nI 0 := by decide +kernel
  unfold f_W55 f_L_setSeed f_X10_setSeed f_X11_setSeed f_X11_thrown
  simp only [n_0, n_1, n_2, n_3, n_4, n_5, n_6, n_7, n_8, n_9, n_10, n_12, n_13, n_15, n_20, n_24, n_27, n_31, n_32, n_33, n_36, n_44, n_48, n_50, n_57, n_58, n_59, n_72, n_74, n_75, n_85, n_91, n_96, n_97, n_99, n_122, n_255, n_300, n_432, n_600, n_900, n_999, n_1000, n_1291, n_1399, n_2798, n_11192, n_65536, n_65537, n_99999999, n_1000000]
  generalize xs (l5 + nI 1).toNatClampNeg = x1
  rcases rg_cs x1 (lo := 0) (hi := 65536) (by omega) (by omega) with ⟨n, h3, h4, rfl⟩ | hx
  · have u1 := cr_t h3 h4 (by omega)
    have u2 := mi_t (mt := mt) (a := n) (n := 65537) (by omega) (by omega)
    rw [pk_sub (by omega)] at u2
    have u2 : f_X11_noNumber mt (nI n) (nI 0) (nI 65536) = some (nI 0, nI 0) := u2
    have hB2 : okB (up g 0 n) := by
      obtain ⟨z0, z1, z2, z3, z4, z5, z6, z7⟩ := hO0.1
      unfold okB
      rw [up_s rfl, up_n (by omega), up_n (by omega), up_n (by omega), up_n (by omega), up_n (by omega), up_n (by omega)]
      omega
    obtain ⟨k1, k2⟩ := sc_HR (g' := up g 0 n) (fun k hk => up_n (by omega)) hB2 hO0 h0.2.2.1
    rw [u1, sbd_t, r1, Option.bind_some, hbd_t, Option.bind_some, u2, Option.bind_some, if_pos rfl, r2, Option.bind_some, Option.bind_some, Option.bind_some, if_pos rfl, if_pos rfl, q_cl (by omega), e0, lgc, if_pos rfl]
    exact ⟨_, rfl, ⟨up g 0 n, hN, k1, k2, hZ, hM.up⟩, r3⟩
  · have u1 := cr_f hx
    have u2 := mi_f (x := x1) (mt := mt) (n := 65537) (by
      rcases hx with hx | ⟨c, c1, c2, c3, c4⟩
      · exact Or.inl hx
      · rw [c4]
        exact Or.inr (nI_le (by omega) c3)) (by omega)
    rw [pk_sub (by omega)] at u2
    have u2 : f_X11_noNumber mt x1 (nI 0) (nI 65536) = some (nI 1, nI 1) := u2
    rw [u1, sbd_f, hbd_f, if_pos rfl, Option.bind_some, u2, Option.bind_some, if_neg n10, Option.bind_some, Option.bind_some, if_pos rfl, if_neg n10]
    exact ⟨_, rfl, ⟨g, h0⟩, HI_same hi hv⟩
theorem bt_t {a lo hi : Nat} (h1 : lo ≤ a) (h2 : a ≤ hi) (hn : hi < 2147483648) : f_X11_isBetween (nI a) (nI lo) (nI hi) = some (nI 1) := by
  simp (disch := omega) only [n_0, n_1, n_2, n_3, n_4, n_5, n_6, n_7, n_8, n_9, n_10, n_12, n_13, n_15, n_20, n_24, n_27, n_31, n_32, n_33, n_36, n_44, n_48, n_50, n_57, n_58, n_59, n_72, n_74, n_75, n_85, n_91, n_96, n_97, n_99, n_122, n_255, n_300, n_432, n_600, n_900, n_999, n_1000, n_1291, n_1399, n_2798, n_11192, n_65536, n_65537, n_99999999, n_1000000, nI_add, pk_mul, q_le, q_lt, q_eq, q_cl, q_gi, q_gz, q_sub, q_div, q_dm, d_dm, q_m1, q_mn, q_nm, q_mlt, q_ltm, q_mle, q_lem, q_mm, Option.bind_some, if_true, if_false, Nat.add_zero, ite_self, q_us, q_un, decide_true, decide_false, Bool.false_eq_true, eq_self, and_self, and_true, true_and, and_false, false_and, or_true, true_or, or_false, false_or, d_ltT, d_ltF, d_leT, d_leF, d_eqT, d_eqF, f_X11_isBetween]
theorem bt_f {x : Int32} {lo hi : Nat} (h : x < nI lo ∨ ∃ b, hi < b ∧ lo ≤ b ∧ b < 2147483648 ∧ x = nI b) : f_X11_isBetween x (nI lo) (nI hi) = some (nI 0) := by
  rcases h with h | ⟨b, h1, h2, h3, h4⟩
  · unfold f_X11_isBetween
    rw [if_pos h]
    rfl
  · subst h4
    simp (disch := omega) only [n_0, n_1, n_2, n_3, n_4, n_5, n_6, n_7, n_8, n_9, n_10, n_12, n_13, n_15, n_20, n_24, n_27, n_31, n_32, n_33, n_36, n_44, n_48, n_50, n_57, n_58, n_59, n_72, n_74, n_75, n_85, n_91, n_96, n_97, n_99, n_122, n_255, n_300, n_432, n_600, n_900, n_999, n_1000, n_1291, n_1399, n_2798, n_11192, n_65536, n_65537, n_99999999, n_1000000, nI_add, pk_mul, q_le, q_lt, q_eq, q_cl, q_gi, q_gz, q_sub, q_div, q_dm, d_dm, q_m1, q_mn, q_nm, q_mlt, q_ltm, q_mle, q_lem, q_mm, Option.bind_some, if_true, if_false, Nat.add_zero, ite_self, q_us, q_un, decide_true, decide_false, Bool.false_eq_true, eq_self, and_self, and_true, true_and, and_false, false_and, or_true, true_or, or_false, false_or, d_ltT, d_ltF, d_leT, d_leF, d_eqT, d_eqF, f_X11_isBetween]
theorem w_56 {N a : Nat} {g : Nat → Nat} {m_s rem xs often : Nat → Int32} {sd : Int32} {mn : Int32} {th : Int32} {dc : Int32} {fc : Nat → Int32} {dw : Nat → Int32} {pc : Int32} {ln : Nat → Int32} {lt : Nat → Int32} {tc : Int32} {en : Nat → Int32} {fr : Nat → Int32} {oc : Int32} {op : Nat → Int32} {os : Nat → Int32} {sd1 : Int32} {mn1 : Int32} {th1 : Int32} {dc1 : Int32} {fc1 : Nat → Int32} {dw1 : Nat → Int32} {pc1 : Int32} {ln1 : Nat → Int32} {lt1 : Nat → Int32} {tc1 : Int32} {en1 : Nat → Int32} {fr1 : Nat → Int32} {oc1 : Int32} {op1 : Nat → Int32} {os1 : Nat → Int32} {l5 nx dp und ust mt oa : Int32} {hs : Nat → HC} {ov : Nat → Int64} (h : QC N g m_s sd mn th dc fc dw pc ln lt tc en fr oc op os) (hi : HI hs nx dp und ust rem) (ha : nx = nI a) (ha8 : a < 8) (hv : hs a = mkH sd1 mn1 th1 dc1 fc1 dw1 pc1 ln1 lt1 tc1 en1 fr1 oc1 op1 os1) : Ho (f_W56 N xs l5 sd dc fc dw pc ln lt tc en fr oc op os mn th nx dp und ust mt oa m_s rem often ov sd1 mn1 th1 dc1 fc1 dw1 pc1 ln1 lt1 tc1 en1 fr1 oc1 op1 os1) (fun t => QS N t.2.2.2.2.2.2.2.2.1 sd t.1 t.2.1 dc fc dw pc ln lt tc en fr oc op os ∧ HI (hup hs a t.2.2.2.2.2.2.2.2.2.2.2.2) t.2.2.1 t.2.2.2.1 t.2.2.2.2.1 t.2.2.2.2.2.1 t.2.2.2.2.2.2.2.2.2.1) := by
  obtain ⟨nx', dp', und', ust', rem', r1, r2, r3⟩ := rem_at (sd1 := sd1) (mn1 := mn1) (th1 := th1) (dc1 := dc1) (fc1 := fc1) (dw1 := dw1) (pc1 := pc1) (ln1 := ln1) (lt1 := lt1) (tc1 := tc1) (en1 := en1) (fr1 := fr1) (oc1 := oc1) (op1 := op1) (os1 := os1) h hi ha ha8
  have h0 := h
  obtain ⟨hN, hO0, ⟨⟨rfl, rfl, rfl, rfl, rfl, rfl, rfl⟩, hR, hNR, hE, hF, hQ⟩, hZ, hM⟩ := h
  have hN1 : 1000 < N := by omega
  have b4 := b_4 hO0.1
  have n10 : ¬ nI 1 = nI 0 := by decide +kernel
  unfold f_W56 f_L_setLimits f_X10_setLimits f_X11_setLimits f_X11_setLimits_L28 f_X11_refuses f_X11_refuses_L16 f_X11_noNumber f_X11_noNumber_L20 f_X11_refuses f_X11_refuses_L16 f_X11_thrown
  simp only [n_0, n_1, n_2, n_3, n_4, n_5, n_6, n_7, n_8, n_9, n_10, n_12, n_13, n_15, n_20, n_24, n_27, n_31, n_32, n_33, n_36, n_44, n_48, n_50, n_57, n_58, n_59, n_72, n_74, n_75, n_85, n_91, n_96, n_97, n_99, n_122, n_255, n_300, n_432, n_600, n_900, n_999, n_1000, n_1291, n_1399, n_2798, n_11192, n_65536, n_65537, n_99999999, n_1000000]
  generalize xs (l5 + nI 1).toNatClampNeg = x1
  generalize xs (l5 + nI 2).toNatClampNeg = x2
  rcases rg_cs x1 (lo := 1) (hi := 99) (by omega) (by omega) with ⟨n, h3, h4, rfl⟩ | hx
  · have u1 := cr_t h3 h4 (by omega)
    have u2 := bt_t h3 h4 (by omega)
    rcases rg_cs x2 (lo := 0) (hi := 999) (by omega) (by omega) with ⟨v, h5, h6, rfl⟩ | hx2
    · have u3 := cr_t h5 h6 (by omega)
      have u4 := bt_t h5 h6 (by omega)
      have hB2 : okB (up (up g 1 n) 2 v) := by
        obtain ⟨z0, z1, z2, z3, z4, z5, z6, z7⟩ := hO0.1
        unfold okB
        rw [up_n (by omega), up_n (by omega), up_n (i := 2) (by omega), up_s rfl, up_s rfl, up_n (by omega), up_n (by omega), up_n (by omega), up_n (by omega), up_n (by omega), up_n (by omega), up_n (by omega), up_n (by omega)]
        omega
      obtain ⟨k1, k2⟩ := sc_HR (g' := up (up g 1 n) 2 v) (fun k hk => by rw [up_n (by omega), up_n (by omega)]) hB2 hO0 h0.2.2.1
      have k3 := e_count (N := N) hN1 k1.1 k1.2.1 k1.2.2.2.1 k2.2.1 hZ k2.2.2.2.2.1
      have hM2 : MR (upd (upd m_s 1 (nI n)) 2 (nI v)) (up (up g 1 n) 2 v) := (hM.up).up
      obtain ⟨r, k4⟩ := m_suspL (N := N) hN1 hM2 k1 (g 4) 0 N oa often (by rw [up_n (by omega), up_n (by omega)]; omega) (by omega)
      have k5 : f_X11_suspiciousIn N (upd (upd m_s 1 (nI n)) 2 (nI v)) oa often = some (nI (gCnt (up (up g 1 n) 2 v) 36), r) := k4
      have k6 : up (up g 1 n) 2 v 0 = g 0 := by rw [up_n (by omega), up_n (by omega)]
      have k7 : up (up g 1 n) 2 v 1 = n := by rw [up_n (by omega), up_s rfl]
      have k8 : up (up g 1 n) 2 v 2 = v := up_s rfl
      rw [k6, k7, k8] at k2
      rw [k7, k8] at k3
      rw [u1, sbd_t, u3, sbd_t, r1, Option.bind_some, k3, Option.bind_some, hbd_t, Option.bind_some]
      simp (disch := omega) only [n_0, n_1, n_2, n_3, n_4, n_5, n_6, n_7, n_8, n_9, n_10, n_12, n_13, n_15, n_20, n_24, n_27, n_31, n_32, n_33, n_36, n_44, n_48, n_50, n_57, n_58, n_59, n_72, n_74, n_75, n_85, n_91, n_96, n_97, n_99, n_122, n_255, n_300, n_432, n_600, n_900, n_999, n_1000, n_1291, n_1399, n_2798, n_11192, n_65536, n_65537, n_99999999, n_1000000, nI_add, pk_mul, q_le, q_lt, q_eq, q_cl, q_gi, q_gz, q_sub, q_div, q_dm, d_dm, q_m1, q_mn, q_nm, q_mlt, q_ltm, q_mle, q_lem, q_mm, Option.bind_some, if_true, if_false, Nat.add_zero, ite_self, q_us, q_un, decide_true, decide_false, Bool.false_eq_true, eq_self, and_self, and_true, true_and, and_false, false_and, or_true, true_or, or_false, false_or, d_ltT, d_ltF, d_leT, d_leF, d_eqT, d_eqF, u2, u4, r2, k5, lgc]
      exact ⟨_, rfl, ⟨up (up g 1 n) 2 v, hN, k1, k2, hZ, hM2⟩, r3⟩
    · have u3 := cr_f hx2
      have u4 := bt_f hx2
      rw [u1, sbd_t, u3, sbd_f, hbd_f, if_pos rfl, Option.bind_some]
      simp (disch := omega) only [n_0, n_1, n_2, n_3, n_4, n_5, n_6, n_7, n_8, n_9, n_10, n_12, n_13, n_15, n_20, n_24, n_27, n_31, n_32, n_33, n_36, n_44, n_48, n_50, n_57, n_58, n_59, n_72, n_74, n_75, n_85, n_91, n_96, n_97, n_99, n_122, n_255, n_300, n_432, n_600, n_900, n_999, n_1000, n_1291, n_1399, n_2798, n_11192, n_65536, n_65537, n_99999999, n_1000000, nI_add, pk_mul, q_le, q_lt, q_eq, q_cl, q_gi, q_gz, q_sub, q_div, q_dm, d_dm, q_m1, q_mn, q_nm, q_mlt, q_ltm, q_mle, q_lem, q_mm, Option.bind_some, if_true, if_false, Nat.add_zero, ite_self, q_us, q_un, decide_true, decide_false, Bool.false_eq_true, eq_self, and_self, and_true, true_and, and_false, false_and, or_true, true_or, or_false, false_or, d_ltT, d_ltF, d_leT, d_leF, d_eqT, d_eqF, u2, u4]
      exact ⟨_, rfl, ⟨g, h0⟩, HI_same hi hv⟩
  · have u1 := cr_f hx
    have u2 := bt_f hx
    rw [u1, sbd_f, hbd_f, if_pos rfl, Option.bind_some]
    simp (disch := omega) only [n_0, n_1, n_2, n_3, n_4, n_5, n_6, n_7, n_8, n_9, n_10, n_12, n_13, n_15, n_20, n_24, n_27, n_31, n_32, n_33, n_36, n_44, n_48, n_50, n_57, n_58, n_59, n_72, n_74, n_75, n_85, n_91, n_96, n_97, n_99, n_122, n_255, n_300, n_432, n_600, n_900, n_999, n_1000, n_1291, n_1399, n_2798, n_11192, n_65536, n_65537, n_99999999, n_1000000, nI_add, pk_mul, q_le, q_lt, q_eq, q_cl, q_gi, q_gz, q_sub, q_div, q_dm, d_dm, q_m1, q_mn, q_nm, q_mlt, q_ltm, q_mle, q_lem, q_mm, Option.bind_some, if_true, if_false, Nat.add_zero, ite_self, q_us, q_un, decide_true, decide_false, Bool.false_eq_true, eq_self, and_self, and_true, true_and, and_false, false_and, or_true, true_or, or_false, false_or, d_ltT, d_ltF, d_leT, d_leF, d_eqT, d_eqF, u2]
    exact ⟨_, rfl, ⟨g, h0⟩, HI_same hi hv⟩
