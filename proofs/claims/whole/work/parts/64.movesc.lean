/-! a weight, the slots and the way back -/
theorem sum_up {f f' : Nat → Nat} {n i v : Nat} (hi : i < n) (h1 : f' i = v) (h2 : ∀ j, j < n → j ≠ i → f' j = f j) : sumTo n f' + f i = sumTo n f + v := by
  have e1 : sumTo n (fun j => f' j + if j = i then f i else 0) = sumTo n (fun j => f j + if j = i then v else 0) := sumTo_congr (fun j hj => by
    by_cases c : j = i
    · subst c; rw [if_pos rfl, if_pos rfl, h1]; omega
    · rw [if_neg c, if_neg c, h2 j hj c])
  rw [sumTo_add, sumTo_add, sumTo_one hi, sumTo_one hi] at e1
  exact e1
theorem w_54 {N a : Nat} {g : Nat → Nat} {m_s rem xs : Nat → Int32} {sd : Int32} {mn : Int32} {th : Int32} {dc : Int32} {fc : Nat → Int32} {dw : Nat → Int32} {pc : Int32} {ln : Nat → Int32} {lt : Nat → Int32} {tc : Int32} {en : Nat → Int32} {fr : Nat → Int32} {oc : Int32} {op : Nat → Int32} {os : Nat → Int32} {sd1 : Int32} {mn1 : Int32} {th1 : Int32} {dc1 : Int32} {fc1 : Nat → Int32} {dw1 : Nat → Int32} {pc1 : Int32} {ln1 : Nat → Int32} {lt1 : Nat → Int32} {tc1 : Int32} {en1 : Nat → Int32} {fr1 : Nat → Int32} {oc1 : Int32} {op1 : Nat → Int32} {os1 : Nat → Int32} {l5 nx dp und ust mt : Int32} {hs : Nat → HC} {ov : Nat → Int64} (h : QC N g m_s sd mn th dc fc dw pc ln lt tc en fr oc op os) (hi : HI hs nx dp und ust rem) (ha : nx = nI a) (ha8 : a < 8) (hv : hs a = mkH sd1 mn1 th1 dc1 fc1 dw1 pc1 ln1 lt1 tc1 en1 fr1 oc1 op1 os1) : Ho (f_W54 N xs l5 sd mn th dc fc pc ln lt tc en fr oc op os dw nx dp und ust mt m_s rem ov sd1 mn1 th1 dc1 fc1 dw1 pc1 ln1 lt1 tc1 en1 fr1 oc1 op1 os1) (fun t => QS N t.2.2.2.2.2.2.1 sd mn th dc fc t.1 pc ln lt tc en fr oc op os ∧ HI (hup hs a t.2.2.2.2.2.2.2.2.2) t.2.1 t.2.2.1 t.2.2.2.1 t.2.2.2.2.1 t.2.2.2.2.2.2.2.1) := by
  obtain ⟨nx', dp', und', ust', rem', r1, r2, r3⟩ := rem_at (sd1 := sd1) (mn1 := mn1) (th1 := th1) (dc1 := dc1) (fc1 := fc1) (dw1 := dw1) (pc1 := pc1) (ln1 := ln1) (lt1 := lt1) (tc1 := tc1) (en1 := en1) (fr1 := fr1) (oc1 := oc1) (op1 := op1) (os1 := os1) h hi ha ha8
  have h0 := h
  obtain ⟨hN, hO0, ⟨⟨rfl, rfl, rfl, rfl, rfl, rfl, rfl⟩, hR, hNR, hE, hF, hQ⟩, hZ, hM⟩ := h
  have hN1 : 1000 < N := by omega
  have b3 := b_3 hO0.1
  have n10 : ¬ nI 1 = nI 0 := by decide +kernel
  unfold f_W54 f_L_setWeight f_X10_setWeight f_X11_setWeight f_X11_setWeight_L71 f_X11_refuses f_X11_refuses_L16 f_X11_thrown
  simp only [n_0, n_1, n_2, n_3, n_4, n_5, n_6, n_7, n_8, n_9, n_10, n_12, n_13, n_15, n_20, n_24, n_27, n_31, n_32, n_33, n_36, n_44, n_48, n_50, n_57, n_58, n_59, n_72, n_74, n_75, n_85, n_91, n_96, n_97, n_99, n_122, n_255, n_300, n_432, n_600, n_900, n_999, n_1000, n_1291, n_1399, n_2798, n_11192, n_65536, n_65537, n_99999999, n_1000000]
  generalize xs (l5 + nI 1).toNatClampNeg = x1
  generalize xs (l5 + nI 2).toNatClampNeg = x2
  generalize xs (l5 + nI 3).toNatClampNeg = x3
  rcases die_cs hO0.1 hM x1 with ⟨d, hd, rfl, h1, h2⟩ | ⟨h1, h2⟩
  · have hf := hO0.2.1 d hd
    have u0 := m_faces hM (d := d) (by omega)
    rcases fa_cs hO0.1 hO0.2.1 hR hd x2 with ⟨i, hi2, rfl, h3, h4⟩ | ⟨h3, h4⟩
    · have u1 := e_weight hO0.1 hO0.2.1 hR hd hi2
      have u2 := m_weight hM (d := d) (i := i) (by omega) (by omega)
      have u3 := e_wsum (N := N) hN1 hO0.1 hO0.2.1 hR hd
      have u4 := m_allW (N := N) hN1 hM (d := d) (by omega) hf.2.1
      have hle := dS_le hO0.2.1 hd
      have hwi := sumTo_ge (f := dW g d) hi2
      have hwi : dW g d i ≤ dS g d := hwi
      rcases rg_cs x3 (lo := 0) (hi := 9) (by omega) (by omega) with ⟨v, h5, h6, rfl⟩ | hx
      · have u5 := cr_t h5 h6 (by omega)
        have u6 := mo_t h5 h6 (by omega)
        by_cases c : dS g d - dW g d i + v = 0
        · rw [h1, sbd_t, h3, sbd_t, u5, sbd_t, u1, Option.bind_some, u3, Option.bind_some, pk_sub hwi, nI_add, if_pos (by rw [q_eq (by omega) (by omega)]; exact c), hbd_f, if_neg (by decide), if_neg (by decide), if_pos rfl, Option.bind_some]
          simp (disch := omega) only [n_0, n_1, n_2, n_3, n_4, n_5, n_6, n_7, n_8, n_9, n_10, n_12, n_13, n_15, n_20, n_24, n_27, n_31, n_32, n_33, n_36, n_44, n_48, n_50, n_57, n_58, n_59, n_72, n_74, n_75, n_85, n_91, n_96, n_97, n_99, n_122, n_255, n_300, n_432, n_600, n_900, n_999, n_1000, n_1291, n_1399, n_2798, n_11192, n_65536, n_65537, n_99999999, n_1000000, nI_add, pk_mul, q_le, q_lt, q_eq, q_cl, q_gi, q_gz, q_sub, q_div, q_dm, d_dm, q_m1, q_mn, q_nm, q_mlt, q_ltm, q_mle, q_lem, q_mm, Option.bind_some, if_true, if_false, Nat.add_zero, ite_self, q_us, q_un, decide_true, decide_false, Bool.false_eq_true, eq_self, and_self, and_true, true_and, and_false, false_and, or_true, true_or, or_false, false_or, d_ltT, d_ltF, d_leT, d_leF, d_eqT, d_eqF, h2, u0, h4, u6, u2, u4, c]
          exact ⟨_, rfl, ⟨g, h0⟩, HI_same hi hv⟩
        · have k0 : f_X0_putWeight dw (nI d) (nI (i + 1)) (nI v) = some (upd dw (12 * d + i) (nI v)) := by
            simp (disch := omega) only [n_0, n_1, n_2, n_3, n_4, n_5, n_6, n_7, n_8, n_9, n_10, n_12, n_13, n_15, n_20, n_24, n_27, n_31, n_32, n_33, n_36, n_44, n_48, n_50, n_57, n_58, n_59, n_72, n_74, n_75, n_85, n_91, n_96, n_97, n_99, n_122, n_255, n_300, n_432, n_600, n_900, n_999, n_1000, n_1291, n_1399, n_2798, n_11192, n_65536, n_65537, n_99999999, n_1000000, nI_add, pk_mul, q_le, q_lt, q_eq, q_cl, q_gi, q_gz, q_sub, q_div, q_dm, d_dm, q_m1, q_mn, q_nm, q_mlt, q_ltm, q_mle, q_lem, q_mm, Option.bind_some, if_true, if_false, Nat.add_zero, ite_self, q_us, q_un, decide_true, decide_false, Bool.false_eq_true, eq_self, and_self, and_true, true_and, and_false, false_and, or_true, true_or, or_false, false_or, d_ltT, d_ltF, d_leT, d_leF, d_eqT, d_eqF, f_X0_putWeight, e_cell, e_put]
          have hx : ∀ k, k ≠ 8 + 13 * d + i → up g (8 + 13 * d + i) v k = g k := fun k hk => up_n hk
          have hdF : ∀ d', dF (up g (8 + 13 * d + i) v) d' = dF g d' := fun d' => hx _ (by omega)
          have hdWn : ∀ d' j, j < 12 → ¬ (d' = d ∧ j = i) → dW (up g (8 + 13 * d + i) v) d' j = dW g d' j := fun d' j hj hne => hx _ (by omega)
          have hdWs : dW (up g (8 + 13 * d + i) v) d i = v := up_s (by omega)
          have hsum : dS (up g (8 + 13 * d + i) v) d + dW g d i = dS g d + v := by
            unfold dS
            rw [hdF]
            exact sum_up hi2 hdWs (fun j hj hne => hdWn d j (by omega) (fun h => hne h.2))
          have w1 : sT g (up g (8 + 13 * d + i) v) := ⟨hx 5 (by omega), fun k k1 k2 => hx k (by omega)⟩
          have w3 : sP g (up g (8 + 13 * d + i) v) := ⟨hx 4 (by omega), fun k k1 k2 => hx k (by omega)⟩
          have w4 : sO g (up g (8 + 13 * d + i) v) := ⟨hx 6 (by omega), fun k k1 k2 => hx k (by omega)⟩
          have w5 : up g (8 + 13 * d + i) v 3 = g 3 := hx 3 (by omega)
          have hB2 : okB (up g (8 + 13 * d + i) v) := by
            have z := hO0.1
            unfold okB at z ⊢
            rw [hx 0 (by omega), hx 1 (by omega), hx 2 (by omega), w5, w3.1, w1.1, w4.1]
            exact z
          have hD2 : okD (up g (8 + 13 * d + i) v) := fun d' hd' => by
            rw [w5] at hd'
            obtain ⟨y1, y2, y3, y4⟩ := hO0.2.1 d' hd'
            rw [hdF]
            refine ⟨y1, y2, fun j hj => ?_, ?_⟩
            · by_cases c2 : d' = d ∧ j = i
              · rw [c2.1, c2.2, hdWs]; exact h6
              · rw [hdWn d' j (by omega) c2]; exact y3 j hj
            · by_cases c2 : d' = d
              · subst c2; omega
              · have e : dS (up g (8 + 13 * d + i) v) d' = dS g d' := by
                  unfold dS
                  rw [hdF]
                  exact sumTo_congr (fun j hj => hdWn d' j (by omega) (fun h => c2 h.1))
                rw [e]; exact y4
          have hT2 : okT (up g (8 + 13 * d + i) v) := fun k hk => by
            rw [w1.1] at hk
            have b5 := b_5 hO0.1
            obtain ⟨y1, y2, y3, y4, y5⟩ := sT_t w1 (k := k) (by omega)
            obtain ⟨z1, z2, z3, z4, z5⟩ := hO0.2.2.2.1 k hk
            rw [y1, y2, y3, y4, w3.1, w5, hdF]
            exact ⟨z1, z2, z3, z4, z5⟩
          have hR2 : DR (up g (8 + 13 * d + i) v) fc (upd dw (12 * d + i) (nI v)) := fun d' hd' => by
            rw [w5] at hd'
            obtain ⟨y1, y2⟩ := hR d' hd'
            have y3 := (hO0.2.1 d' hd').2.1
            rw [hdF]
            refine ⟨y1, fun j hj => ?_⟩
            by_cases c2 : d' = d ∧ j = i
            · rw [c2.1, c2.2, hdWs, q_us rfl]
            · rw [hdWn d' j (by omega) c2, q_un (by omega)]
              exact y2 j hj
          have hM2 : MR (upd m_s (8 + 13 * d + i) (nI v)) (up g (8 + 13 * d + i) v) := hM.up
          have hix : 7 + 13 * d + 1 + (i + 1) - 1 = 8 + 13 * d + i := by omega
          rw [h1, sbd_t, h3, sbd_t, u5, sbd_t, u1, Option.bind_some, u3, Option.bind_some, pk_sub hwi, nI_add, if_neg (by rw [q_eq (by omega) (by omega)]; exact c), r1, Option.bind_some, k0, Option.bind_some, hbd_t, Option.bind_some]
          simp (disch := omega) only [n_0, n_1, n_2, n_3, n_4, n_5, n_6, n_7, n_8, n_9, n_10, n_12, n_13, n_15, n_20, n_24, n_27, n_31, n_32, n_33, n_36, n_44, n_48, n_50, n_57, n_58, n_59, n_72, n_74, n_75, n_85, n_91, n_96, n_97, n_99, n_122, n_255, n_300, n_432, n_600, n_900, n_999, n_1000, n_1291, n_1399, n_2798, n_11192, n_65536, n_65537, n_99999999, n_1000000, nI_add, pk_mul, q_le, q_lt, q_eq, q_cl, q_gi, q_gz, q_sub, q_div, q_dm, d_dm, q_m1, q_mn, q_nm, q_mlt, q_ltm, q_mle, q_lem, q_mm, Option.bind_some, if_true, if_false, Nat.add_zero, ite_self, q_us, q_un, decide_true, decide_false, Bool.false_eq_true, eq_self, and_self, and_true, true_and, and_false, false_and, or_true, true_or, or_false, false_or, d_ltT, d_ltF, d_leT, d_leF, d_eqT, d_eqF, h2, u0, h4, u6, u2, u4, r2, f_X11_ofDie, hix, lgc]
          refine ⟨_, rfl, ⟨up g (8 + 13 * d + i) v, hN, ⟨hB2, hD2, sP_ok w3 hO0.1 hO0.2.2.1, hT2, sO_ok w4 w5 w3.1 hO0.1 hO0.2.2.2.2⟩, ⟨⟨?_, ?_, ?_, ?_, ?_, ?_, ?_⟩, hR2, sP_R w3 hO0.1 hNR, sT_E w1 hO0.1 hE, sT_F w1 hO0.1 hF, sO_Q w4 hO0.1 hQ⟩, hZ, hM2⟩, r3⟩
          · rw [hx 0 (by omega)]
          · rw [hx 1 (by omega)]
          · rw [hx 2 (by omega)]
          · rw [w5]
          · rw [w3.1]
          · rw [w1.1]
          · rw [w4.1]
      · have u5 := cr_f hx
        have u6 := mo_f hx
        rw [h1, sbd_t, h3, sbd_t, u5, sbd_f, hbd_f, if_neg (by decide), if_pos rfl, Option.bind_some]
        simp (disch := omega) only [n_0, n_1, n_2, n_3, n_4, n_5, n_6, n_7, n_8, n_9, n_10, n_12, n_13, n_15, n_20, n_24, n_27, n_31, n_32, n_33, n_36, n_44, n_48, n_50, n_57, n_58, n_59, n_72, n_74, n_75, n_85, n_91, n_96, n_97, n_99, n_122, n_255, n_300, n_432, n_600, n_900, n_999, n_1000, n_1291, n_1399, n_2798, n_11192, n_65536, n_65537, n_99999999, n_1000000, nI_add, pk_mul, q_le, q_lt, q_eq, q_cl, q_gi, q_gz, q_sub, q_div, q_dm, d_dm, q_m1, q_mn, q_nm, q_mlt, q_ltm, q_mle, q_lem, q_mm, Option.bind_some, if_true, if_false, Nat.add_zero, ite_self, q_us, q_un, decide_true, decide_false, Bool.false_eq_true, eq_self, and_self, and_true, true_and, and_false, false_and, or_true, true_or, or_false, false_or, d_ltT, d_ltF, d_leT, d_leF, d_eqT, d_eqF, h2, u0, h4, u6]
        exact ⟨_, rfl, ⟨g, h0⟩, HI_same hi hv⟩
    · rw [h1, sbd_t, h3, sbd_f, hbd_f, if_neg (by decide), if_pos rfl, Option.bind_some]
      simp (disch := omega) only [n_0, n_1, n_2, n_3, n_4, n_5, n_6, n_7, n_8, n_9, n_10, n_12, n_13, n_15, n_20, n_24, n_27, n_31, n_32, n_33, n_36, n_44, n_48, n_50, n_57, n_58, n_59, n_72, n_74, n_75, n_85, n_91, n_96, n_97, n_99, n_122, n_255, n_300, n_432, n_600, n_900, n_999, n_1000, n_1291, n_1399, n_2798, n_11192, n_65536, n_65537, n_99999999, n_1000000, nI_add, pk_mul, q_le, q_lt, q_eq, q_cl, q_gi, q_gz, q_sub, q_div, q_dm, d_dm, q_m1, q_mn, q_nm, q_mlt, q_ltm, q_mle, q_lem, q_mm, Option.bind_some, if_true, if_false, Nat.add_zero, ite_self, q_us, q_un, decide_true, decide_false, Bool.false_eq_true, eq_self, and_self, and_true, true_and, and_false, false_and, or_true, true_or, or_false, false_or, d_ltT, d_ltF, d_leT, d_leF, d_eqT, d_eqF, h2, u0, h4]
      exact ⟨_, rfl, ⟨g, h0⟩, HI_same hi hv⟩
  · rw [h1, sbd_f, hbd_f, if_pos rfl, Option.bind_some]
    simp (disch := omega) only [n_0, n_1, n_2, n_3, n_4, n_5, n_6, n_7, n_8, n_9, n_10, n_12, n_13, n_15, n_20, n_24, n_27, n_31, n_32, n_33, n_36, n_44, n_48, n_50, n_57, n_58, n_59, n_72, n_74, n_75, n_85, n_91, n_96, n_97, n_99, n_122, n_255, n_300, n_432, n_600, n_900, n_999, n_1000, n_1291, n_1399, n_2798, n_11192, n_65536, n_65537, n_99999999, n_1000000, nI_add, pk_mul, q_le, q_lt, q_eq, q_cl, q_gi, q_gz, q_sub, q_div, q_dm, d_dm, q_m1, q_mn, q_nm, q_mlt, q_ltm, q_mle, q_lem, q_mm, Option.bind_some, if_true, if_false, Nat.add_zero, ite_self, q_us, q_un, decide_true, decide_false, Bool.false_eq_true, eq_self, and_self, and_true, true_and, and_false, false_and, or_true, true_or, or_false, false_or, d_ltT, d_ltF, d_leT, d_leF, d_eqT, d_eqF, h2]
    exact ⟨_, rfl, ⟨g, h0⟩, HI_same hi hv⟩
theorem w_62 {N a : Nat} {g : Nat → Nat} {m_s rem xs : Nat → Int32} {sd : Int32} {mn : Int32} {th : Int32} {dc : Int32} {fc : Nat → Int32} {dw : Nat → Int32} {pc : Int32} {ln : Nat → Int32} {lt : Nat → Int32} {tc : Int32} {en : Nat → Int32} {fr : Nat → Int32} {oc : Int32} {op : Nat → Int32} {os : Nat → Int32} {sd1 : Int32} {mn1 : Int32} {th1 : Int32} {dc1 : Int32} {fc1 : Nat → Int32} {dw1 : Nat → Int32} {pc1 : Int32} {ln1 : Nat → Int32} {lt1 : Nat → Int32} {tc1 : Int32} {en1 : Nat → Int32} {fr1 : Nat → Int32} {oc1 : Int32} {op1 : Nat → Int32} {os1 : Nat → Int32} {l5 nx dp und ust mt : Int32} {hs : Nat → HC} {ov : Nat → Int64} (h : QC N g m_s sd mn th dc fc dw pc ln lt tc en fr oc op os) (hi : HI hs nx dp und ust rem) (ha : nx = nI a) (ha8 : a < 8) (hv : hs ((a + 7) % 8) = mkH sd1 mn1 th1 dc1 fc1 dw1 pc1 ln1 lt1 tc1 en1 fr1 oc1 op1 os1) : Ho (f_W62 N xs l5 ust rem sd1 mn1 th1 dc1 fc1 dw1 pc1 ln1 lt1 tc1 en1 fr1 oc1 op1 os1 sd mn th dc fc dw pc ln lt tc en fr oc op os nx dp und mt m_s ov) (fun t => QS N t.2.2.2.2.2.2.2.2.2.2.2.2.2.2.2.2.2.2.2.1 t.1 t.2.1 t.2.2.1 t.2.2.2.1 t.2.2.2.2.1 t.2.2.2.2.2.1 t.2.2.2.2.2.2.1 t.2.2.2.2.2.2.2.1 t.2.2.2.2.2.2.2.2.1 t.2.2.2.2.2.2.2.2.2.1 t.2.2.2.2.2.2.2.2.2.2.1 t.2.2.2.2.2.2.2.2.2.2.2.1 t.2.2.2.2.2.2.2.2.2.2.2.2.1 t.2.2.2.2.2.2.2.2.2.2.2.2.2.1 t.2.2.2.2.2.2.2.2.2.2.2.2.2.2.1 ∧ HI hs t.2.2.2.2.2.2.2.2.2.2.2.2.2.2.2.1 t.2.2.2.2.2.2.2.2.2.2.2.2.2.2.2.2.1 t.2.2.2.2.2.2.2.2.2.2.2.2.2.2.2.2.2.1 ust rem) := by
  have h0 := h
  have hi0 := hi
  obtain ⟨hN, hO0, hH, hZ, hM⟩ := h
  obtain ⟨u, D, hu, hD, hn, rfl, rfl, rfl, hr⟩ := hi
  have n10 : ¬ nI 1 = nI 0 := by decide +kernel
  have hau : a = (u + D) % 8 := nI_in2 (by omega) (by omega) (ha.symm.trans hn)
  subst ha
  unfold f_W62 f_L_undo f_X10_undo f_X11_undo f_X11_undo_L18 f_X11_refuses f_X11_refuses_L16 f_X11_thrown
  simp only [n_0, n_1, n_2, n_3, n_4, n_5, n_6, n_7, n_8, n_9, n_10, n_12, n_13, n_15, n_20, n_24, n_27, n_31, n_32, n_33, n_36, n_44, n_48, n_50, n_57, n_58, n_59, n_72, n_74, n_75, n_85, n_91, n_96, n_97, n_99, n_122, n_255, n_300, n_432, n_600, n_900, n_999, n_1000, n_1291, n_1399, n_2798, n_11192, n_65536, n_65537, n_99999999, n_1000000]
  by_cases c : D = 0
  · rw [if_pos (by rw [q_eq (by omega) (by omega)]; exact c), hbd_f, if_pos rfl, Option.bind_some, if_pos (by rw [q_eq (by omega) (by omega)]; exact c)]
    simp (disch := omega) only [n_0, n_1, n_2, n_3, n_4, n_5, n_6, n_7, n_8, n_9, n_10, n_12, n_13, n_15, n_20, n_24, n_27, n_31, n_32, n_33, n_36, n_44, n_48, n_50, n_57, n_58, n_59, n_72, n_74, n_75, n_85, n_91, n_96, n_97, n_99, n_122, n_255, n_300, n_432, n_600, n_900, n_999, n_1000, n_1291, n_1399, n_2798, n_11192, n_65536, n_65537, n_99999999, n_1000000, nI_add, pk_mul, q_le, q_lt, q_eq, q_cl, q_gi, q_gz, q_sub, q_div, q_dm, d_dm, q_m1, q_mn, q_nm, q_mlt, q_ltm, q_mle, q_lem, q_mm, Option.bind_some, if_true, if_false, Nat.add_zero, ite_self, q_us, q_un, decide_true, decide_false, Bool.false_eq_true, eq_self, and_self, and_true, true_and, and_false, false_and, or_true, true_or, or_false, false_or, d_ltT, d_ltF, d_leT, d_leF, d_eqT, d_eqF]
    exact ⟨_, rfl, ⟨g, h0⟩, hi0⟩
  · have k1 := e_back (sd := sd1) (mn := mn1) (th := th1) (dc := dc1) (fc := fc1) (dw := dw1) (pc := pc1) (ln := ln1) (lt := lt1) (tc := tc1) (en := en1) (fr := fr1) (oc := oc1) (op := op1) (os := os1) (sd1 := sd) (mn1 := mn) (th1 := th) (dc1 := dc) (fc1 := fc) (dw1 := dw) (pc1 := pc) (ln1 := ln) (lt1 := lt) (tc1 := tc) (en1 := en) (fr1 := fr) (oc1 := oc) (op1 := op) (os1 := os) ha8 hD (by omega)
    have hrow := hr (D - 1) (by omega)
    have e1 : (u + (D - 1)) % 8 = (a + 7) % 8 := by omega
    rw [e1, hv] at hrow
    obtain ⟨m', k2, k3, k4⟩ := m_copy (N := N) (gn := 11192) (qn := 1399) (a := 1399 * ((a + 7) % 8)) (b := 0) (gf := rem) (qf := m_s) hN (by omega) (by omega) (by omega) (by omega)
    obtain ⟨g', g1, g2, g3, g4⟩ := RowOK_cp hrow (mkH sd mn th dc fc dw pc ln lt tc en fr oc op os)
    have k5 : MR m' g' := fun k hk => by
      have := k3 k hk
      rw [Nat.zero_add] at this
      rw [this]
      exact g4 k hk
    rw [if_neg (by rw [q_eq (by omega) (by omega)]; exact c), k1, Option.bind_some, hbd_t, Option.bind_some, if_neg (by rw [q_eq (by omega) (by omega)]; exact c)]
    simp (disch := omega) only [n_0, n_1, n_2, n_3, n_4, n_5, n_6, n_7, n_8, n_9, n_10, n_12, n_13, n_15, n_20, n_24, n_27, n_31, n_32, n_33, n_36, n_44, n_48, n_50, n_57, n_58, n_59, n_72, n_74, n_75, n_85, n_91, n_96, n_97, n_99, n_122, n_255, n_300, n_432, n_600, n_900, n_999, n_1000, n_1291, n_1399, n_2798, n_11192, n_65536, n_65537, n_99999999, n_1000000, nI_add, pk_mul, q_le, q_lt, q_eq, q_cl, q_gi, q_gz, q_sub, q_div, q_dm, d_dm, q_m1, q_mn, q_nm, q_mlt, q_ltm, q_mle, q_lem, q_mm, Option.bind_some, if_true, if_false, Nat.add_zero, ite_self, q_us, q_un, decide_true, decide_false, Bool.false_eq_true, eq_self, and_self, and_true, true_and, and_false, false_and, or_true, true_or, or_false, false_or, d_ltT, d_ltF, d_leT, d_leF, d_eqT, d_eqF, e1, k2, lgc]
    exact ⟨_, rfl, ⟨g', hN, g1, g2, g3, k5⟩, u, D - 1, hu, by omega, by rw [show (u + (D - 1)) % 8 = (a + 7) % 8 by omega], rfl, rfl, rfl, fun i hi => hr i (by omega)⟩
def SI (sl : Nat → HC) (su kept slots : Nat → Int32) : Prop := ∀ j, j < 2 → (su j = nI 0 ∧ kept j = nI 0) ∨ (su j = nI 1 ∧ kept j = nI 1 ∧ RowOK (sl j) (fun k => slots (1399 * j + k)))
theorem nar_z : vp_nar .boolean (nI 1) = nI 1 := by decide +kernel
theorem w_60 {N j : Nat} {g : Nat → Nat} {m_s xs su slots kept : Nat → Int32} {sd : Int32} {mn : Int32} {th : Int32} {dc : Int32} {fc : Nat → Int32} {dw : Nat → Int32} {pc : Int32} {ln : Nat → Int32} {lt : Nat → Int32} {tc : Int32} {en : Nat → Int32} {fr : Nat → Int32} {oc : Int32} {op : Nat → Int32} {os : Nat → Int32} {sd1 : Int32} {mn1 : Int32} {th1 : Int32} {dc1 : Int32} {fc1 : Nat → Int32} {dw1 : Nat → Int32} {pc1 : Int32} {ln1 : Nat → Int32} {lt1 : Nat → Int32} {tc1 : Int32} {en1 : Nat → Int32} {fr1 : Nat → Int32} {oc1 : Int32} {op1 : Nat → Int32} {os1 : Nat → Int32} {l5 mt : Int32} {sl : Nat → HC} {ov : Nat → Int64} (h : QC N g m_s sd mn th dc fc dw pc ln lt tc en fr oc op os) (hi : SI sl su kept slots) (hj : ∀ i, i < 2 → xs (l5 + nI 1).toNatClampNeg = nI i → i = j) (hw : sl j = mkH sd1 mn1 th1 dc1 fc1 dw1 pc1 ln1 lt1 tc1 en1 fr1 oc1 op1 os1) : Ho (f_W60 N xs l5 sd mn th dc fc dw pc ln lt tc en fr oc op os m_s su mt slots kept ov sd1 mn1 th1 dc1 fc1 dw1 pc1 ln1 lt1 tc1 en1 fr1 oc1 op1 os1) (fun t => SI (hup sl j t.2.2.2.2.2) t.1 t.2.2.2.1 t.2.2.1) := by
  have h0 := h
  obtain ⟨hN, hO0, ⟨⟨rfl, rfl, rfl, rfl, rfl, rfl, rfl⟩, hR, hNR, hE, hF, hQ⟩, hZ, hM⟩ := h
  have b5 := b_5 hO0.1
  have e5 : m_s 5 = nI (g 5) := hM 5 (by omega)
  have n10 : ¬ nI 1 = nI 0 := by decide +kernel
  unfold f_W60 f_L_save f_X10_save f_X10_save_L48 f_X10_requireSlot f_X11_save f_X11_thrown
  simp only [n_0, n_1, n_2, n_3, n_4, n_5, n_6, n_7, n_8, n_9, n_10, n_12, n_13, n_15, n_20, n_24, n_27, n_31, n_32, n_33, n_36, n_44, n_48, n_50, n_57, n_58, n_59, n_72, n_74, n_75, n_85, n_91, n_96, n_97, n_99, n_122, n_255, n_300, n_432, n_600, n_900, n_999, n_1000, n_1291, n_1399, n_2798, n_11192, n_65536, n_65537, n_99999999, n_1000000]
  generalize xs (l5 + nI 1).toNatClampNeg = x1 at *
  rcases ix_cs x1 (n := 2) (by omega) with ⟨i, hi2, rfl⟩ | hx
  · have e : i = j := hj i hi2 rfl
    subst e
    have u1 := ci_t hi2 (by omega)
    have u2 := mi_t (mt := mt) hi2 (by omega)
    rw [pk_sub (by omega)] at u2
    have u2 : f_X11_noNumber mt (nI i) (nI 0) (nI 1) = some (nI 0, nI 0) := u2
    obtain ⟨q', k2, k3, k4⟩ := m_copy (N := N) (gn := 1399) (qn := 2798) (a := 0) (b := 1399 * i) (gf := m_s) (qf := slots) hN (by omega) (by omega) (by omega) (by omega)
    rw [u1, sbd_t, sbd_t, if_neg (by rw [q_lt (by omega) (by omega)]; omega), if_neg (by rw [q_le (by omega) (by omega)]; omega), q_gi (by omega) (by omega), q_gi (by omega) (by omega), e_copyHall, Option.bind_some, e_put (by omega) (by omega), Option.bind_some, hbd_t, Option.bind_some]
    simp (disch := omega) only [n_0, n_1, n_2, n_3, n_4, n_5, n_6, n_7, n_8, n_9, n_10, n_12, n_13, n_15, n_20, n_24, n_27, n_31, n_32, n_33, n_36, n_44, n_48, n_50, n_57, n_58, n_59, n_72, n_74, n_75, n_85, n_91, n_96, n_97, n_99, n_122, n_255, n_300, n_432, n_600, n_900, n_999, n_1000, n_1291, n_1399, n_2798, n_11192, n_65536, n_65537, n_99999999, n_1000000, nI_add, pk_mul, q_le, q_lt, q_eq, q_cl, q_gi, q_gz, q_sub, q_div, q_dm, d_dm, q_m1, q_mn, q_nm, q_mlt, q_ltm, q_mle, q_lem, q_mm, Option.bind_some, if_true, if_false, Nat.add_zero, ite_self, q_us, q_un, decide_true, decide_false, Bool.false_eq_true, eq_self, and_self, and_true, true_and, and_false, false_and, or_true, true_or, or_false, false_or, d_ltT, d_ltF, d_leT, d_leF, d_eqT, d_eqF, u2, k2, e5, nar_z, lgc]
    refine ⟨_, rfl, fun i2 hi3 => ?_⟩
    by_cases c : i2 = i
    · subst c
      refine Or.inr ⟨q_us rfl, q_us rfl, ?_⟩
      rw [hup_s]
      exact RowOK_m (cpH_ok h0 (mkH sd1 mn1 th1 dc1 fc1 dw1 pc1 ln1 lt1 tc1 en1 fr1 oc1 op1 os1)) (fun k hk => by
        show q' (1399 * i2 + k) = m_s k
        rw [k3 k hk, Nat.zero_add])
    · have e1 : upd su i (nI 1) i2 = su i2 := q_un c
      have e2 : upd kept i (nI 1) i2 = kept i2 := q_un c
      rcases hi i2 hi3 with ⟨y1, y2⟩ | ⟨y1, y2, y3⟩
      · exact Or.inl ⟨e1.trans y1, e2.trans y2⟩
      · refine Or.inr ⟨e1.trans y1, e2.trans y2, ?_⟩
        rw [hup_n c]
        exact RowOK_m y3 (fun k hk => k4 _ (by omega))
  · have u1 := ci_f hx (by omega)
    have u2 := mi_f (mt := mt) hx (by omega)
    rw [pk_sub (by omega)] at u2
    have u2 : f_X11_noNumber mt x1 (nI 0) (nI 1) = some (nI 1, nI 1) := u2
    rw [u1, sbd_f, sbd_f, hbd_f, if_pos rfl, Option.bind_some]
    simp (disch := omega) only [n_0, n_1, n_2, n_3, n_4, n_5, n_6, n_7, n_8, n_9, n_10, n_12, n_13, n_15, n_20, n_24, n_27, n_31, n_32, n_33, n_36, n_44, n_48, n_50, n_57, n_58, n_59, n_72, n_74, n_75, n_85, n_91, n_96, n_97, n_99, n_122, n_255, n_300, n_432, n_600, n_900, n_999, n_1000, n_1291, n_1399, n_2798, n_11192, n_65536, n_65537, n_99999999, n_1000000, nI_add, pk_mul, q_le, q_lt, q_eq, q_cl, q_gi, q_gz, q_sub, q_div, q_dm, d_dm, q_m1, q_mn, q_nm, q_mlt, q_ltm, q_mle, q_lem, q_mm, Option.bind_some, if_true, if_false, Nat.add_zero, ite_self, q_us, q_un, decide_true, decide_false, Bool.false_eq_true, eq_self, and_self, and_true, true_and, and_false, false_and, or_true, true_or, or_false, false_or, d_ltT, d_ltF, d_leT, d_leF, d_eqT, d_eqF, u2]
    refine ⟨_, rfl, ?_⟩
    have e : hup sl j (mkH sd1 mn1 th1 dc1 fc1 dw1 pc1 ln1 lt1 tc1 en1 fr1 oc1 op1 os1) = sl := hup_same hw
    show SI (hup sl j (mkH sd1 mn1 th1 dc1 fc1 dw1 pc1 ln1 lt1 tc1 en1 fr1 oc1 op1 os1)) su kept slots
    rw [e]
    exact hi
theorem w_61 {N a j : Nat} {g : Nat → Nat} {m_s rem xs su slots kept : Nat → Int32} {sd : Int32} {mn : Int32} {th : Int32} {dc : Int32} {fc : Nat → Int32} {dw : Nat → Int32} {pc : Int32} {ln : Nat → Int32} {lt : Nat → Int32} {tc : Int32} {en : Nat → Int32} {fr : Nat → Int32} {oc : Int32} {op : Nat → Int32} {os : Nat → Int32} {sd1 : Int32} {mn1 : Int32} {th1 : Int32} {dc1 : Int32} {fc1 : Nat → Int32} {dw1 : Nat → Int32} {pc1 : Int32} {ln1 : Nat → Int32} {lt1 : Nat → Int32} {tc1 : Int32} {en1 : Nat → Int32} {fr1 : Nat → Int32} {oc1 : Int32} {op1 : Nat → Int32} {os1 : Nat → Int32} {sd2 : Int32} {mn2 : Int32} {th2 : Int32} {dc2 : Int32} {fc2 : Nat → Int32} {dw2 : Nat → Int32} {pc2 : Int32} {ln2 : Nat → Int32} {lt2 : Nat → Int32} {tc2 : Int32} {en2 : Nat → Int32} {fr2 : Nat → Int32} {oc2 : Int32} {op2 : Nat → Int32} {os2 : Nat → Int32} {l5 nx dp und ust mt : Int32} {hs sl : Nat → HC} {ov : Nat → Int64} (h : QC N g m_s sd mn th dc fc dw pc ln lt tc en fr oc op os) (hi : HI hs nx dp und ust rem) (ha : nx = nI a) (ha8 : a < 8) (hv : hs a = mkH sd1 mn1 th1 dc1 fc1 dw1 pc1 ln1 lt1 tc1 en1 fr1 oc1 op1 os1) (hs2 : SI sl su kept slots) (hj : ∀ i, i < 2 → xs (l5 + nI 1).toNatClampNeg = nI i → i = j) (hw : sl j = mkH sd2 mn2 th2 dc2 fc2 dw2 pc2 ln2 lt2 tc2 en2 fr2 oc2 op2 os2) : Ho (f_W61 N xs l5 su slots kept sd2 mn2 th2 dc2 fc2 dw2 pc2 ln2 lt2 tc2 en2 fr2 oc2 op2 os2 sd mn th dc fc dw pc ln lt tc en fr oc op os nx dp und ust mt m_s rem ov sd1 mn1 th1 dc1 fc1 dw1 pc1 ln1 lt1 tc1 en1 fr1 oc1 op1 os1) (fun t => QS N t.2.2.2.2.2.2.2.2.2.2.2.2.2.2.2.2.2.2.2.2.1 t.1 t.2.1 t.2.2.1 t.2.2.2.1 t.2.2.2.2.1 t.2.2.2.2.2.1 t.2.2.2.2.2.2.1 t.2.2.2.2.2.2.2.1 t.2.2.2.2.2.2.2.2.1 t.2.2.2.2.2.2.2.2.2.1 t.2.2.2.2.2.2.2.2.2.2.1 t.2.2.2.2.2.2.2.2.2.2.2.1 t.2.2.2.2.2.2.2.2.2.2.2.2.1 t.2.2.2.2.2.2.2.2.2.2.2.2.2.1 t.2.2.2.2.2.2.2.2.2.2.2.2.2.2.1 ∧ HI (hup hs a t.2.2.2.2.2.2.2.2.2.2.2.2.2.2.2.2.2.2.2.2.2.2.2) t.2.2.2.2.2.2.2.2.2.2.2.2.2.2.2.1 t.2.2.2.2.2.2.2.2.2.2.2.2.2.2.2.2.1 t.2.2.2.2.2.2.2.2.2.2.2.2.2.2.2.2.2.1 t.2.2.2.2.2.2.2.2.2.2.2.2.2.2.2.2.2.2.1 t.2.2.2.2.2.2.2.2.2.2.2.2.2.2.2.2.2.2.2.2.2.1) := by
  obtain ⟨nx', dp', und', ust', rem', r1, r2, r3⟩ := rem_at (sd1 := sd1) (mn1 := mn1) (th1 := th1) (dc1 := dc1) (fc1 := fc1) (dw1 := dw1) (pc1 := pc1) (ln1 := ln1) (lt1 := lt1) (tc1 := tc1) (en1 := en1) (fr1 := fr1) (oc1 := oc1) (op1 := op1) (os1 := os1) h hi ha ha8
  have h0 := h
  obtain ⟨hN, hO0, hH, hZ, hM⟩ := h
  have n10 : ¬ nI 1 = nI 0 := by decide +kernel
  unfold f_W61 f_L_restore f_X10_restore f_X10_restore_L72 f_X10_requireSlot f_X11_restore f_X11_restore_L25 f_X11_refuses f_X11_refuses_L16 f_X11_thrown
  simp only [n_0, n_1, n_2, n_3, n_4, n_5, n_6, n_7, n_8, n_9, n_10, n_12, n_13, n_15, n_20, n_24, n_27, n_31, n_32, n_33, n_36, n_44, n_48, n_50, n_57, n_58, n_59, n_72, n_74, n_75, n_85, n_91, n_96, n_97, n_99, n_122, n_255, n_300, n_432, n_600, n_900, n_999, n_1000, n_1291, n_1399, n_2798, n_11192, n_65536, n_65537, n_99999999, n_1000000]
  generalize xs (l5 + nI 1).toNatClampNeg = x1 at *
  rcases ix_cs x1 (n := 2) (by omega) with ⟨i, hi2, rfl⟩ | hx
  · have e : i = j := hj i hi2 rfl
    subst e
    have u1 := ci_t hi2 (by omega)
    have u2 := mi_t (mt := mt) hi2 (by omega)
    rw [pk_sub (by omega)] at u2
    have u2 : f_X11_noNumber mt (nI i) (nI 0) (nI 1) = some (nI 0, nI 0) := u2
    rcases hs2 i hi2 with ⟨y1, y2⟩ | ⟨y1, y2, y3⟩
    · rw [u1, sbd_t, sbd_t, e_at (by omega) (by omega), Option.bind_some, y1, if_pos rfl, hbd_f, if_neg (by decide), if_pos rfl, Option.bind_some]
      simp (disch := omega) only [n_0, n_1, n_2, n_3, n_4, n_5, n_6, n_7, n_8, n_9, n_10, n_12, n_13, n_15, n_20, n_24, n_27, n_31, n_32, n_33, n_36, n_44, n_48, n_50, n_57, n_58, n_59, n_72, n_74, n_75, n_85, n_91, n_96, n_97, n_99, n_122, n_255, n_300, n_432, n_600, n_900, n_999, n_1000, n_1291, n_1399, n_2798, n_11192, n_65536, n_65537, n_99999999, n_1000000, nI_add, pk_mul, q_le, q_lt, q_eq, q_cl, q_gi, q_gz, q_sub, q_div, q_dm, d_dm, q_m1, q_mn, q_nm, q_mlt, q_ltm, q_mle, q_lem, q_mm, Option.bind_some, if_true, if_false, Nat.add_zero, ite_self, q_us, q_un, decide_true, decide_false, Bool.false_eq_true, eq_self, and_self, and_true, true_and, and_false, false_and, or_true, true_or, or_false, false_or, d_ltT, d_ltF, d_leT, d_leF, d_eqT, d_eqF, u2, y2]
      exact ⟨_, rfl, ⟨g, h0⟩, HI_same hi hv⟩
    · rw [hw] at y3
      obtain ⟨m', k2, k3, k4⟩ := m_copy (N := N) (gn := 2798) (qn := 1399) (a := 1399 * i) (b := 0) (gf := slots) (qf := m_s) hN (by omega) (by omega) (by omega) (by omega)
      obtain ⟨g', g1, g2, g3, g4⟩ := RowOK_cp y3 (mkH sd mn th dc fc dw pc ln lt tc en fr oc op os)
      have k5 : MR m' g' := fun k hk => by
        have := k3 k hk
        rw [Nat.zero_add] at this
        rw [this]
        exact g4 k hk
      have k6 : m' 5 = nI (g' 5) := k5 5 (by omega)
      have k7 : tc2 = nI (g' 5) := g2.1.2.2.2.2.2.1
      rw [u1, sbd_t, sbd_t, e_at (by omega) (by omega), Option.bind_some, y1, if_neg n10, r1, Option.bind_some, if_neg (by rw [q_lt (by omega) (by omega)]; omega), if_neg (by rw [q_le (by omega) (by omega)]; omega), q_gi (by omega) (by omega), q_gi (by omega) (by omega), e_copyHall, Option.bind_some, hbd_t, Option.bind_some]
      subst k7
      simp (disch := omega) only [n_0, n_1, n_2, n_3, n_4, n_5, n_6, n_7, n_8, n_9, n_10, n_12, n_13, n_15, n_20, n_24, n_27, n_31, n_32, n_33, n_36, n_44, n_48, n_50, n_57, n_58, n_59, n_72, n_74, n_75, n_85, n_91, n_96, n_97, n_99, n_122, n_255, n_300, n_432, n_600, n_900, n_999, n_1000, n_1291, n_1399, n_2798, n_11192, n_65536, n_65537, n_99999999, n_1000000, nI_add, pk_mul, q_le, q_lt, q_eq, q_cl, q_gi, q_gz, q_sub, q_div, q_dm, d_dm, q_m1, q_mn, q_nm, q_mlt, q_ltm, q_mle, q_lem, q_mm, Option.bind_some, if_true, if_false, Nat.add_zero, ite_self, q_us, q_un, decide_true, decide_false, Bool.false_eq_true, eq_self, and_self, and_true, true_and, and_false, false_and, or_true, true_or, or_false, false_or, d_ltT, d_ltF, d_leT, d_leF, d_eqT, d_eqF, u2, y2, k2, r2, k6, lgc]
      exact ⟨_, rfl, ⟨g', hN, g1, g2, g3, k5⟩, r3⟩
  · have u1 := ci_f hx (by omega)
    have u2 := mi_f (mt := mt) hx (by omega)
    rw [pk_sub (by omega)] at u2
    have u2 : f_X11_noNumber mt x1 (nI 0) (nI 1) = some (nI 1, nI 1) := u2
    rw [u1, sbd_f, sbd_f, hbd_f, if_pos rfl, Option.bind_some]
    simp (disch := omega) only [n_0, n_1, n_2, n_3, n_4, n_5, n_6, n_7, n_8, n_9, n_10, n_12, n_13, n_15, n_20, n_24, n_27, n_31, n_32, n_33, n_36, n_44, n_48, n_50, n_57, n_58, n_59, n_72, n_74, n_75, n_85, n_91, n_96, n_97, n_99, n_122, n_255, n_300, n_432, n_600, n_900, n_999, n_1000, n_1291, n_1399, n_2798, n_11192, n_65536, n_65537, n_99999999, n_1000000, nI_add, pk_mul, q_le, q_lt, q_eq, q_cl, q_gi, q_gz, q_sub, q_div, q_dm, d_dm, q_m1, q_mn, q_nm, q_mlt, q_ltm, q_mle, q_lem, q_mm, Option.bind_some, if_true, if_false, Nat.add_zero, ite_self, q_us, q_un, decide_true, decide_false, Bool.false_eq_true, eq_self, and_self, and_true, true_and, and_false, false_and, or_true, true_or, or_false, false_or, d_ltT, d_ltF, d_leT, d_leF, d_eqT, d_eqF, u2]
    exact ⟨_, rfl, ⟨g, h0⟩, HI_same hi hv⟩
