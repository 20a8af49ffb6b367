/-! the cases that change the hall -/
def QS (N : Nat) (m : Nat → Int32) (sd mn th dc : Int32) (fc dw : Nat → Int32) (pc : Int32) (ln lt : Nat → Int32) (tc : Int32) (en fr : Nat → Int32) (oc : Int32) (op os : Nat → Int32) : Prop := ∃ g : Nat → Nat, QC N g m sd mn th dc fc dw pc ln lt tc en fr oc op os
theorem rem_at {N a : Nat} {g : Nat → Nat} {m_s rem : Nat → Int32} {sd : Int32} {mn : Int32} {th : Int32} {dc : Int32} {fc : Nat → Int32} {dw : Nat → Int32} {pc : Int32} {ln : Nat → Int32} {lt : Nat → Int32} {tc : Int32} {en : Nat → Int32} {fr : Nat → Int32} {oc : Int32} {op : Nat → Int32} {os : Nat → Int32} {sd1 : Int32} {mn1 : Int32} {th1 : Int32} {dc1 : Int32} {fc1 : Nat → Int32} {dw1 : Nat → Int32} {pc1 : Int32} {ln1 : Nat → Int32} {lt1 : Nat → Int32} {tc1 : Int32} {en1 : Nat → Int32} {fr1 : Nat → Int32} {oc1 : Int32} {op1 : Nat → Int32} {os1 : Nat → Int32} {nx dp und ust : Int32} {hs : Nat → HC} (h : QC N g m_s sd mn th dc fc dw pc ln lt tc en fr oc op os) (hi : HI hs nx dp und ust rem) (ha : nx = nI a) (ha8 : a < 8) : ∃ nx' dp' und' ust' rem', f_X3_remember sd mn th dc fc dw pc ln lt tc en fr oc op os nx dp sd1 mn1 th1 dc1 fc1 dw1 pc1 ln1 lt1 tc1 en1 fr1 oc1 op1 os1 = some (nx', dp', cpH sd mn th dc fc dw pc ln lt tc en fr oc op os (mkH sd1 mn1 th1 dc1 fc1 dw1 pc1 ln1 lt1 tc1 en1 fr1 oc1 op1 os1)) ∧ f_X11_remember N m_s und ust rem = some (und', ust', rem') ∧ HI (hup hs a (cpH sd mn th dc fc dw pc ln lt tc en fr oc op os (mkH sd1 mn1 th1 dc1 fc1 dw1 pc1 ln1 lt1 tc1 en1 fr1 oc1 op1 os1))) nx' dp' und' ust' rem' := by
  obtain ⟨a', nx', dp', und', ust', rem', h1, h2, h3, h4, h5⟩ := rem_ok h hi
  have e : a' = a := nI_in2 (by omega) (by omega) (h2.symm.trans ha)
  subst e
  exact ⟨nx', dp', und', ust', rem', h3 _ _ _ _ _ _ _ _ _ _ _ _ _ _ _, h4, h5 _⟩
theorem HI_same {hs : Nat → HC} {a : Nat} {v : HC} {nx dp und ust : Int32} {rem : Nat → Int32} (hi : HI hs nx dp und ust rem) (hv : hs a = v) : HI (hup hs a v) nx dp und ust rem := by
  rw [hup_same hv]
  exact hi
theorem w_50 {N a : Nat} {g : Nat → Nat} {m_s rem xs : Nat → Int32} {sd : Int32} {mn : Int32} {th : Int32} {dc : Int32} {fc : Nat → Int32} {dw : Nat → Int32} {pc : Int32} {ln : Nat → Int32} {lt : Nat → Int32} {tc : Int32} {en : Nat → Int32} {fr : Nat → Int32} {oc : Int32} {op : Nat → Int32} {os : Nat → Int32} {sd1 : Int32} {mn1 : Int32} {th1 : Int32} {dc1 : Int32} {fc1 : Nat → Int32} {dw1 : Nat → Int32} {pc1 : Int32} {ln1 : Nat → Int32} {lt1 : Nat → Int32} {tc1 : Int32} {en1 : Nat → Int32} {fr1 : Nat → Int32} {oc1 : Int32} {op1 : Nat → Int32} {os1 : Nat → Int32} {l5 nx dp und ust mt : Int32} {hs : Nat → HC} {ov : Nat → Int64} (h : QC N g m_s sd mn th dc fc dw pc ln lt tc en fr oc op os) (hi : HI hs nx dp und ust rem) (ha : nx = nI a) (ha8 : a < 8) (hv : hs a = mkH sd1 mn1 th1 dc1 fc1 dw1 pc1 ln1 lt1 tc1 en1 fr1 oc1 op1 os1) : Ho (f_W50 N xs l5 mn th dc fc dw pc ln lt oc op os sd tc en fr nx dp und ust mt m_s rem ov sd1 mn1 th1 dc1 fc1 dw1 pc1 ln1 lt1 tc1 en1 fr1 oc1 op1 os1) (fun t => QS N t.2.2.2.2.2.2.2.2.2.1 t.1 mn th dc fc dw pc ln lt t.2.1 t.2.2.1 t.2.2.2.1 oc op os ∧ HI (hup hs a t.2.2.2.2.2.2.2.2.2.2.2.2) t.2.2.2.2.1 t.2.2.2.2.2.1 t.2.2.2.2.2.2.1 t.2.2.2.2.2.2.2.1 t.2.2.2.2.2.2.2.2.2.2.1) := by
  obtain ⟨nx', dp', und', ust', rem', r1, r2, r3⟩ := rem_at (sd1 := sd1) (mn1 := mn1) (th1 := th1) (dc1 := dc1) (fc1 := fc1) (dw1 := dw1) (pc1 := pc1) (ln1 := ln1) (lt1 := lt1) (tc1 := tc1) (en1 := en1) (fr1 := fr1) (oc1 := oc1) (op1 := op1) (os1 := os1) h hi ha ha8
  have h0 := h
  obtain ⟨hN, hO0, ⟨⟨rfl, rfl, rfl, rfl, rfl, rfl, rfl⟩, hR, hNR, hE, hF, hQ⟩, hZ, hM⟩ := h
  have hN1 : 1000 < N := by omega
  have b5 := b_5 hO0.1
  have b4 := b_4 hO0.1
  have e5 : m_s 5 = nI (g 5) := hM 5 (by omega)
  unfold f_W50 f_L_throwDie f_X10_throwDie f_X11_throwDie f_X11_throwDie_L40 f_X11_refuses f_X11_refuses_L16 f_X11_thrown
  simp only [n_0, n_1, n_2, n_3, n_4, n_5, n_6, n_7, n_8, n_9, n_10, n_12, n_13, n_15, n_20, n_24, n_27, n_31, n_32, n_33, n_36, n_44, n_48, n_50, n_57, n_58, n_59, n_72, n_74, n_75, n_85, n_91, n_96, n_97, n_99, n_122, n_255, n_300, n_432, n_600, n_900, n_999, n_1000, n_1291, n_1399, n_2798, n_11192, n_65536, n_65537, n_99999999, n_1000000]
  generalize xs (l5 + nI 1).toNatClampNeg = x1
  generalize xs (l5 + nI 2).toNatClampNeg = x2
  generalize xs (l5 + nI 3).toNatClampNeg = x3
  have n10 : ¬ nI 1 = nI 0 := by decide +kernel
  have n20 : ¬ nI 2 = nI 0 := by decide +kernel
  have n30 : ¬ nI 3 = nI 0 := by decide +kernel
  rcases pr_cs hO0.1 hM x1 x2 with ⟨p, d, hp, hd, rfl, rfl, h1, h2⟩ | ⟨h1, h2⟩
  · rcases rg_cs x3 (lo := 1) (hi := 50) (by omega) (by omega) with ⟨n, h3, h4, rfl⟩ | hx
    · have u1 := cr_t h3 h4 (by omega)
      have u2 := mo_t h3 h4 (by omega)
      by_cases c : g 5 + n ≤ 300
      · obtain ⟨en', fr', k1, k2, k3⟩ := e_make (N := N) (p := p) (d := d) (b := 0) (n := n) hN1 hO0 hp hd (by omega) c hR hE hF
        obtain ⟨m', k4, k5⟩ := m_throwMany (N := N) (p := p) (d := d) (b := 0) (n := n) hN1 hO0 hp hd (by omega) c hM
        rw [h1, sbd_t, u1, sbd_t, nI_add, if_pos (by rw [q_le (by omega) (by omega)]; omega), r1, Option.bind_some, e_pair, Option.bind_some, k1, Option.bind_some, hbd_t, Option.bind_some, h2, Option.bind_some, if_pos rfl, u2, Option.bind_some, if_pos rfl, q_cl (by omega), e5, nI_add, if_pos (by rw [q_le (by omega) (by omega)]; omega)]
        simp (disch := omega) only [n_0, n_1, n_2, n_3, n_4, n_5, n_6, n_7, n_8, n_9, n_10, n_12, n_13, n_15, n_20, n_24, n_27, n_31, n_32, n_33, n_36, n_44, n_48, n_50, n_57, n_58, n_59, n_72, n_74, n_75, n_85, n_91, n_96, n_97, n_99, n_122, n_255, n_300, n_432, n_600, n_900, n_999, n_1000, n_1291, n_1399, n_2798, n_11192, n_65536, n_65537, n_99999999, n_1000000, nI_add, pk_mul, q_le, q_lt, q_eq, q_cl, q_gi, q_gz, q_sub, q_div, q_dm, d_dm, q_m1, q_mn, q_nm, q_mlt, q_ltm, q_mle, q_lem, q_mm, Option.bind_some, if_true, if_false, Nat.add_zero, ite_self, q_us, q_un, decide_true, decide_false, Bool.false_eq_true, eq_self, and_self, and_true, true_and, and_false, false_and, or_true, true_or, or_false, false_or, d_ltT, d_ltF, d_leT, d_leF, d_eqT, d_eqF, r2, k4, lgc]
        refine ⟨_, rfl, ?_, r3⟩
        exact ⟨gThr g p d 0 n, hN, (gThr_s hO0 hp hd (by omega) n c).1, thr_HR hO0 hp hd (by omega) c h0.2.2.1 k2 k3, hZ, k5⟩
      · rw [h1, sbd_t, u1, sbd_t, nI_add, if_neg (by rw [q_le (by omega) (by omega)]; omega), hbd_f, if_neg (by decide), if_neg (by decide), if_pos rfl, Option.bind_some, h2, Option.bind_some, if_pos rfl, u2, Option.bind_some, if_pos rfl, q_cl (by omega), e5, nI_add, if_neg (by rw [q_le (by omega) (by omega)]; omega)]
        simp (disch := omega) only [n_0, n_1, n_2, n_3, n_4, n_5, n_6, n_7, n_8, n_9, n_10, n_12, n_13, n_15, n_20, n_24, n_27, n_31, n_32, n_33, n_36, n_44, n_48, n_50, n_57, n_58, n_59, n_72, n_74, n_75, n_85, n_91, n_96, n_97, n_99, n_122, n_255, n_300, n_432, n_600, n_900, n_999, n_1000, n_1291, n_1399, n_2798, n_11192, n_65536, n_65537, n_99999999, n_1000000, nI_add, pk_mul, q_le, q_lt, q_eq, q_cl, q_gi, q_gz, q_sub, q_div, q_dm, d_dm, q_m1, q_mn, q_nm, q_mlt, q_ltm, q_mle, q_lem, q_mm, Option.bind_some, if_true, if_false, Nat.add_zero, ite_self, q_us, q_un, decide_true, decide_false, Bool.false_eq_true, eq_self, and_self, and_true, true_and, and_false, false_and, or_true, true_or, or_false, false_or, d_ltT, d_ltF, d_leT, d_leF, d_eqT, d_eqF]
        exact ⟨_, rfl, ⟨g, h0⟩, HI_same hi hv⟩
    · have u1 := cr_f hx
      have u2 := mo_f hx
      rw [h1, sbd_t, u1, sbd_f, hbd_f, if_neg (by decide), if_pos rfl, Option.bind_some, h2, Option.bind_some, if_pos rfl, u2, Option.bind_some, if_neg n10]
      simp (disch := omega) only [n_0, n_1, n_2, n_3, n_4, n_5, n_6, n_7, n_8, n_9, n_10, n_12, n_13, n_15, n_20, n_24, n_27, n_31, n_32, n_33, n_36, n_44, n_48, n_50, n_57, n_58, n_59, n_72, n_74, n_75, n_85, n_91, n_96, n_97, n_99, n_122, n_255, n_300, n_432, n_600, n_900, n_999, n_1000, n_1291, n_1399, n_2798, n_11192, n_65536, n_65537, n_99999999, n_1000000, nI_add, pk_mul, q_le, q_lt, q_eq, q_cl, q_gi, q_gz, q_sub, q_div, q_dm, d_dm, q_m1, q_mn, q_nm, q_mlt, q_ltm, q_mle, q_lem, q_mm, Option.bind_some, if_true, if_false, Nat.add_zero, ite_self, q_us, q_un, decide_true, decide_false, Bool.false_eq_true, eq_self, and_self, and_true, true_and, and_false, false_and, or_true, true_or, or_false, false_or, d_ltT, d_ltF, d_leT, d_leF, d_eqT, d_eqF]
      exact ⟨_, rfl, ⟨g, h0⟩, HI_same hi hv⟩
  · rw [h1, sbd_f, hbd_f, if_pos rfl, Option.bind_some, h2, Option.bind_some, if_neg n10]
    simp (disch := omega) only [n_0, n_1, n_2, n_3, n_4, n_5, n_6, n_7, n_8, n_9, n_10, n_12, n_13, n_15, n_20, n_24, n_27, n_31, n_32, n_33, n_36, n_44, n_48, n_50, n_57, n_58, n_59, n_72, n_74, n_75, n_85, n_91, n_96, n_97, n_99, n_122, n_255, n_300, n_432, n_600, n_900, n_999, n_1000, n_1291, n_1399, n_2798, n_11192, n_65536, n_65537, n_99999999, n_1000000, nI_add, pk_mul, q_le, q_lt, q_eq, q_cl, q_gi, q_gz, q_sub, q_div, q_dm, d_dm, q_m1, q_mn, q_nm, q_mlt, q_ltm, q_mle, q_lem, q_mm, Option.bind_some, if_true, if_false, Nat.add_zero, ite_self, q_us, q_un, decide_true, decide_false, Bool.false_eq_true, eq_self, and_self, and_true, true_and, and_false, false_and, or_true, true_or, or_false, false_or, d_ltT, d_ltF, d_leT, d_leF, d_eqT, d_eqF]
    exact ⟨_, rfl, ⟨g, h0⟩, HI_same hi hv⟩
