/-! absolve and throw -/
theorem thr_HR {g : Nat → Nat} {p d b n : Nat} {sd : Int32} {mn : Int32} {th : Int32} {dc : Int32} {fc : Nat → Int32} {dw : Nat → Int32} {pc : Int32} {ln : Nat → Int32} {lt : Nat → Int32} {tc : Int32} {en : Nat → Int32} {fr : Nat → Int32} {oc : Int32} {op : Nat → Int32} {os : Nat → Int32} {en' fr' : Nat → Int32} (hO : Ok g) (hp : p < g 4) (hd : d < g 3) (hb : b ≤ 1) (hn : g 5 + n ≤ 300) (hH : HR g sd mn th dc fc dw pc ln lt tc en fr oc op os) (hE : ER (gThr g p d b n) en') (hF : FR (gThr g p d b n) fr') : HR (gThr g p d b n) (nI (gThr g p d b n 0)) mn th dc fc dw pc ln lt (nI (gThr g p d b n 5)) en' fr' oc op os := by
  obtain ⟨⟨q0, q1, q2, q3, q4, q5, q6⟩, hD, hP, -, -, hQ⟩ := hH
  obtain ⟨w1, w2, w3, w4, w5, w6, w7⟩ := gThr_s hO hp hd hb n hn
  exact ⟨⟨rfl, by rw [q1, w6], by rw [q2, w7], by rw [q3, w3.1], by rw [q4, w4.1], rfl, by rw [q6, w5.1]⟩, sD_R w3 hO.1 hO.2.1 hD, sP_R w4 hO.1 hP, hE, hF, sO_Q w5 hO.1 hQ⟩
theorem pen_HR {g g' : Nat → Nat} {sd : Int32} {mn : Int32} {th : Int32} {dc : Int32} {fc : Nat → Int32} {dw : Nat → Int32} {pc : Int32} {ln : Nat → Int32} {lt : Nat → Int32} {tc : Int32} {en : Nat → Int32} {fr : Nat → Int32} {oc : Int32} {op : Nat → Int32} {os : Nat → Int32} {en' fr' op' os' : Nat → Int32} (hO : Ok g) (h6 : 0 < g 6) (hg : isPen g g') (hH : HR g sd mn th dc fc dw pc ln lt tc en fr oc op os) (hE : ER (gThr g' (oP g 0) (oD g 0) 1 (gPen g)) en') (hF : FR (gThr g' (oP g 0) (oD g 0) 1 (gPen g)) fr') (hQ : QR g' op' os') : Ok (gThr g' (oP g 0) (oD g 0) 1 (gPen g)) ∧ HR (gThr g' (oP g 0) (oD g 0) 1 (gPen g)) (nI (gThr g' (oP g 0) (oD g 0) 1 (gPen g) 0)) mn th dc fc dw pc ln lt (nI (gThr g' (oP g 0) (oD g 0) 1 (gPen g) 5)) en' fr' (nI (g' 6)) op' os' := by
  obtain ⟨⟨q0, q1, q2, q3, q4, q5, q6⟩, hD, hP, -, -, -⟩ := hH
  obtain ⟨s1, s2, s3, s4⟩ := pen_s hO h6 hg
  obtain ⟨p1, p2, p3, p4, p5⟩ := hg
  obtain ⟨w1, w2, w3, w4, w5, w6, w7⟩ := gThr_s (b := 1) s1 s3 s4 (by omega) (gPen g) (by have := b_5 hO.1; omega)
  exact ⟨w1, ⟨rfl, by rw [q1, w6, p5 1 (by omega)], by rw [q2, w7, p5 2 (by omega)], by rw [q3, w3.1, p3.1], by rw [q4, w4.1, p4.1], rfl, by rw [w5.1]⟩, sD_R w3 s1.1 s1.2.1 (sD_R p3 hO.1 hO.2.1 hD), sP_R w4 s1.1 (sP_R p4 hO.1 hP), hE, hF, sO_Q w5 s1.1 hQ⟩
theorem r_absolve {N L s : Nat} {b g : Nat → Nat} {tb mi m : Nat → Int32} {sd : Int32} {mn : Int32} {th : Int32} {dc : Int32} {fc : Nat → Int32} {dw : Nat → Int32} {pc : Int32} {ln : Nat → Int32} {lt : Nat → Int32} {tc : Int32} {en : Nat → Int32} {fr : Nat → Int32} {oc : Int32} {op : Nat → Int32} {os : Nat → Int32} {kd ts te tv po st tk vl lw eo : Int32} (hN : 2000 < N) (hT : TR b L tb) (hM : TR b L mi) (h1 : TC b L s kd ts te tv) (h2 : TM b L s po st tk vl lw) (hO : Ok g) (hZ : ZR fc) (hH : HR g sd mn th dc fc dw pc ln lt tc en fr oc op os) (h : MR m g) : ∃ ec' eo' sd' tc' en' fr' oc' op' os' kd' ts' te' tv' po' st' tk' vl' lw' code' pl' m', f_X5_readAbsolve N (nI L) tb fc dw (nI 0) eo sd tc en fr oc op os kd ts te tv = some (ec', eo', sd', tc', en', fr', oc', op', os', kd', ts', te', tv') ∧ f_X11_readAbsolve N (nI L) mi po st tk vl lw (nI 0) eo m = some (po', st', tk', vl', lw', code', pl', m') ∧ PS b L (tkE b L s) ec' eo' sd' mn th dc fc dw pc ln lt tc' en' fr' oc' op' os' kd' ts' te' tv' po' st' tk' vl' lw' code' pl' m' := by
  have hH0 := hH
  obtain ⟨⟨q0, q1, q2, q3, q4, q5, q6⟩, hD, hP, hE, hF, hQ⟩ := hH
  have b6 := b_6 hO.1
  have m6 := h 6 (by omega)
  have hNx : 1000 < N := by omega
  obtain ⟨s1, k1, k2, k3, k4, k5, k6, k7, k8, k9, a1, a2, a3, a4, a5⟩ := s_adv hNx hT hM h1 h2
  obtain ⟨e1, e2, -⟩ := tkE_s (b := b) a4.1
  by_cases hs : isS b L s1
  · by_cases h6 : g 6 = 0
    · have yf := @y_check_f k6 eo 6 (by omega) (by omega)
      have yn := @y_next_e N (nI L) k5 k6 k7 k8 k9 mi 6 (by omega) (by omega)
      have xs := x_semi_a (N := N) (eo := eo) (c := 6) hT a4 hs (by omega) (by omega)
      refine ⟨nI 6, k2, sd, tc, en, fr, oc, op, os, k1, k2, k3, k4, k5, k6, k7, k8, k9, nI 6, k6, m, ?_, ?_, hZ, Or.inr ⟨6, by omega, by omega, rfl, rfl, a4.2.2.1.trans a5.2.2.1.symm⟩⟩
      · rw [h6] at q6
        subst q6
        unfold f_X5_readAbsolve
        simp only [n_0, n_1, n_2, n_3, n_4, n_5, n_6, n_7, n_8, n_9, n_10, n_12, n_13, n_15, n_20, n_24, n_27, n_31, n_32, n_33, n_36, n_44, n_48, n_50, n_57, n_58, n_59, n_72, n_74, n_75, n_85, n_91, n_96, n_97, n_99, n_122, n_255, n_300, n_432, n_600, n_900, n_999, n_1000, n_1291, n_1399, n_2798, n_11192, n_65536, n_65537, n_99999999, n_1000000]
        rw [a2, Option.bind_some, if_pos trivial]
        unfold f_X5_readAbsolve_L27
        simp only [n_0, n_1, n_2, n_3, n_4, n_5, n_6, n_7, n_8, n_9, n_10, n_12, n_13, n_15, n_20, n_24, n_27, n_31, n_32, n_33, n_36, n_44, n_48, n_50, n_57, n_58, n_59, n_72, n_74, n_75, n_85, n_91, n_96, n_97, n_99, n_122, n_255, n_300, n_432, n_600, n_900, n_999, n_1000, n_1291, n_1399, n_2798, n_11192, n_65536, n_65537, n_99999999, n_1000000]
        rw [xs, Option.bind_some, if_neg (by rw [q_eq (by omega) (by omega)]; omega)]
      · rw [h6] at m6
        unfold f_X11_readAbsolve
        simp only [n_0, n_1, n_2, n_3, n_4, n_5, n_6, n_7, n_8, n_9, n_10, n_12, n_13, n_15, n_20, n_24, n_27, n_31, n_32, n_33, n_36, n_44, n_48, n_50, n_57, n_58, n_59, n_72, n_74, n_75, n_85, n_91, n_96, n_97, n_99, n_122, n_255, n_300, n_432, n_600, n_900, n_999, n_1000, n_1291, n_1399, n_2798, n_11192, n_65536, n_65537, n_99999999, n_1000000]
        rw [y_next_t a3, Option.bind_some, y_semi_t hM a5 hs, Option.bind_some, if_pos rfl, q_cl (by omega), m6, if_pos (by rw [q_le (by omega) (by omega)]; omega)]
        unfold f_X11_readAbsolve_L31
        simp only [n_0, n_1, n_2, n_3, n_4, n_5, n_6, n_7, n_8, n_9, n_10, n_12, n_13, n_15, n_20, n_24, n_27, n_31, n_32, n_33, n_36, n_44, n_48, n_50, n_57, n_58, n_59, n_72, n_74, n_75, n_85, n_91, n_96, n_97, n_99, n_122, n_255, n_300, n_432, n_600, n_900, n_999, n_1000, n_1291, n_1399, n_2798, n_11192, n_65536, n_65537, n_99999999, n_1000000]
        rw [yf, Option.bind_some, if_neg (by rw [q_eq (by omega) (by omega)]; omega)]
        unfold f_X11_readAbsolve_L59
        rw [yn, Option.bind_some]
    · obtain ⟨s3, n1, n2, n3, n4, n5, n6, n7, n8, n9, d1, d2, d3, d4, d5⟩ := s_adv hNx hT hM a4 a5
      obtain ⟨g', m', u1, u2, u3⟩ := m_absolve hN h hO (by omega)
      obtain ⟨en', fr', op', os', v1, v2, v3, v4⟩ := e_doPen (N := N) hNx hO (by omega) u1 hD hE hF hQ
      obtain ⟨w1, w2⟩ := pen_HR hO (by omega) u1 hH0 v2 v3 v4
      obtain ⟨z1, z2, z3, z4⟩ := pen_s hO (by omega) u1
      have b5 := b_5 hO.1
      have zl := gSumT_le (b := 1) (n := gPen g) z1 z3 z4 (by omega) (by omega)
      have xs := x_semi_t (N := N) (eo := eo) hT a4 hs d2
      refine ⟨nI 0, eo, nI (gThr g' (oP g 0) (oD g 0) 1 (gPen g) 0), nI (gThr g' (oP g 0) (oD g 0) 1 (gPen g) 5), en', fr', nI (g' 6), op', os', n1, n2, n3, n4, n5, n6, n7, n8, n9, nI 0, eo, m', ?_, ?_, hZ, Or.inl ⟨_, s3, rfl, rfl, rfl, by omega, d4, d5, w1, u3, w2⟩⟩
      · subst q0 q5 q6
        unfold f_X5_readAbsolve
        simp only [n_0, n_1, n_2, n_3, n_4, n_5, n_6, n_7, n_8, n_9, n_10, n_12, n_13, n_15, n_20, n_24, n_27, n_31, n_32, n_33, n_36, n_44, n_48, n_50, n_57, n_58, n_59, n_72, n_74, n_75, n_85, n_91, n_96, n_97, n_99, n_122, n_255, n_300, n_432, n_600, n_900, n_999, n_1000, n_1291, n_1399, n_2798, n_11192, n_65536, n_65537, n_99999999, n_1000000]
        rw [a2, Option.bind_some, if_neg (by rw [q_eq (by omega) (by omega)]; omega)]
        unfold f_X5_readAbsolve_L27
        simp only [n_0, n_1, n_2, n_3, n_4, n_5, n_6, n_7, n_8, n_9, n_10, n_12, n_13, n_15, n_20, n_24, n_27, n_31, n_32, n_33, n_36, n_44, n_48, n_50, n_57, n_58, n_59, n_72, n_74, n_75, n_85, n_91, n_96, n_97, n_99, n_122, n_255, n_300, n_432, n_600, n_900, n_999, n_1000, n_1291, n_1399, n_2798, n_11192, n_65536, n_65537, n_99999999, n_1000000]
        rw [xs, Option.bind_some, if_pos rfl, v1, Option.bind_some]
      · unfold f_X11_readAbsolve
        simp only [n_0, n_1, n_2, n_3, n_4, n_5, n_6, n_7, n_8, n_9, n_10, n_12, n_13, n_15, n_20, n_24, n_27, n_31, n_32, n_33, n_36, n_44, n_48, n_50, n_57, n_58, n_59, n_72, n_74, n_75, n_85, n_91, n_96, n_97, n_99, n_122, n_255, n_300, n_432, n_600, n_900, n_999, n_1000, n_1291, n_1399, n_2798, n_11192, n_65536, n_65537, n_99999999, n_1000000]
        rw [y_next_t a3, Option.bind_some, y_semi_t hM a5 hs, Option.bind_some, if_pos rfl, q_cl (by omega), m6, if_neg (by rw [q_le (by omega) (by omega)]; omega)]
        unfold f_X11_readAbsolve_L26 f_X11_readAbsolve_L31
        simp only [n_0, n_1, n_2, n_3, n_4, n_5, n_6, n_7, n_8, n_9, n_10, n_12, n_13, n_15, n_20, n_24, n_27, n_31, n_32, n_33, n_36, n_44, n_48, n_50, n_57, n_58, n_59, n_72, n_74, n_75, n_85, n_91, n_96, n_97, n_99, n_122, n_255, n_300, n_432, n_600, n_900, n_999, n_1000, n_1291, n_1399, n_2798, n_11192, n_65536, n_65537, n_99999999, n_1000000]
        rw [y_check_t, Option.bind_some, if_pos rfl, u2, Option.bind_some, if_pos (by rw [q_le (by omega) (by omega)]; omega)]
        unfold f_X11_readAbsolve_L59
        rw [y_next_t d3, Option.bind_some]
  · have ye := @y_check_e k6 k6 (nI 1) (nI 6) 1 (by omega) (by omega)
    have yn := @y_next_e N (nI L) k5 k6 k7 k8 k9 mi 1 (by omega) (by omega)
    refine ⟨nI 1, k2, sd, tc, en, fr, oc, op, os, k1, k2, k3, k4, k5, k6, k7, k8, k9, nI 1, k6, m, ?_, ?_, hZ, Or.inr ⟨1, by omega, by omega, rfl, rfl, a4.2.2.1.trans a5.2.2.1.symm⟩⟩
    · unfold f_X5_readAbsolve
      simp only [n_0, n_1, n_2, n_3, n_4, n_5, n_6, n_7, n_8, n_9, n_10, n_12, n_13, n_15, n_20, n_24, n_27, n_31, n_32, n_33, n_36, n_44, n_48, n_50, n_57, n_58, n_59, n_72, n_74, n_75, n_85, n_91, n_96, n_97, n_99, n_122, n_255, n_300, n_432, n_600, n_900, n_999, n_1000, n_1291, n_1399, n_2798, n_11192, n_65536, n_65537, n_99999999, n_1000000]
      rw [a2, Option.bind_some]
      unfold f_X5_readAbsolve_L27
      simp only [n_0, n_1, n_2, n_3, n_4, n_5, n_6, n_7, n_8, n_9, n_10, n_12, n_13, n_15, n_20, n_24, n_27, n_31, n_32, n_33, n_36, n_44, n_48, n_50, n_57, n_58, n_59, n_72, n_74, n_75, n_85, n_91, n_96, n_97, n_99, n_122, n_255, n_300, n_432, n_600, n_900, n_999, n_1000, n_1291, n_1399, n_2798, n_11192, n_65536, n_65537, n_99999999, n_1000000]
      have hc : ¬ nI 1 = nI 0 := by rw [q_eq (by omega) (by omega)]; omega
      split <;> rw [x_semi_f hT a4 hs, Option.bind_some, if_neg hc]
    · unfold f_X11_readAbsolve
      simp only [n_0, n_1, n_2, n_3, n_4, n_5, n_6, n_7, n_8, n_9, n_10, n_12, n_13, n_15, n_20, n_24, n_27, n_31, n_32, n_33, n_36, n_44, n_48, n_50, n_57, n_58, n_59, n_72, n_74, n_75, n_85, n_91, n_96, n_97, n_99, n_122, n_255, n_300, n_432, n_600, n_900, n_999, n_1000, n_1291, n_1399, n_2798, n_11192, n_65536, n_65537, n_99999999, n_1000000]
      have hc : ¬ nI 1 = nI 0 := by rw [q_eq (by omega) (by omega)]; omega
      rw [y_next_t a3, Option.bind_some, y_semi_f hM a5 hs, Option.bind_some, if_neg hc]
      unfold f_X11_readAbsolve_L26 f_X11_readAbsolve_L31
      simp only [n_0, n_1, n_2, n_3, n_4, n_5, n_6, n_7, n_8, n_9, n_10, n_12, n_13, n_15, n_20, n_24, n_27, n_31, n_32, n_33, n_36, n_44, n_48, n_50, n_57, n_58, n_59, n_72, n_74, n_75, n_85, n_91, n_96, n_97, n_99, n_122, n_255, n_300, n_432, n_600, n_900, n_999, n_1000, n_1291, n_1399, n_2798, n_11192, n_65536, n_65537, n_99999999, n_1000000]
      rw [ye, Option.bind_some, if_neg hc]
      unfold f_X11_readAbsolve_L59
      rw [yn, Option.bind_some]
theorem r_throw {N L s : Nat} {b g : Nat → Nat} {tb mi m : Nat → Int32} {sd : Int32} {mn : Int32} {th : Int32} {dc : Int32} {fc : Nat → Int32} {dw : Nat → Int32} {pc : Int32} {ln : Nat → Int32} {lt : Nat → Int32} {tc : Int32} {en : Nat → Int32} {fr : Nat → Int32} {oc : Int32} {op : Nat → Int32} {os : Nat → Int32} {kd ts te tv po st tk vl lw eo : Int32} (hN : 2000 < N) (hT : TR b L tb) (hM : TR b L mi) (h1 : TC b L s kd ts te tv) (h2 : TM b L s po st tk vl lw) (hO : Ok g) (hZ : ZR fc) (hH : HR g sd mn th dc fc dw pc ln lt tc en fr oc op os) (h : MR m g) : ∃ ec' eo' sd' tc' en' fr' kd' ts' te' tv' po' st' tk' vl' lw' code' pl' m', f_X5_readThrow N (nI L) tb dc fc dw pc ln lt (nI 0) eo sd tc en fr kd ts te tv = some (ec', eo', sd', tc', en', fr', kd', ts', te', tv') ∧ f_X11_readThrow N (nI L) mi po st tk vl lw (nI 0) eo m = some (po', st', tk', vl', lw', code', pl', m') ∧ PS b L (tkE b L s) ec' eo' sd' mn th dc fc dw pc ln lt tc' en' fr' oc op os kd' ts' te' tv' po' st' tk' vl' lw' code' pl' m' := by
  have hH0 := hH
  obtain ⟨⟨q0, q1, q2, q3, q4, q5, q6⟩, hD, hP, hE, hF, hQ⟩ := hH
  have b5 := b_5 hO.1
  have b3 := b_3 hO.1
  have b4 := b_4 hO.1
  have m3 := h 3 (by omega)
  have m5 := h 5 (by omega)
  have hNx : 1000 < N := by omega
  obtain ⟨s1, k1, k2, k3, k4, k5, k6, k7, k8, k9, a1, a2, a3, a4, a5⟩ := s_adv hNx hT hM h1 h2
  obtain ⟨e1, e2, -⟩ := tkE_s (b := b) a4.1
  rcases s_known (eo := eo) (pl := eo) hNx hT hM a4 a5 hO hP h with ⟨p, s2, l1, l2, l3, l4, l5, l6, l7, l8, l9, c1, c2, c3, c4, c5, c6⟩ | ⟨c, x, c1, c2, c3, c4⟩
  · obtain ⟨e3, e4, -⟩ := tkE_s (b := b) c5.1
    rcases s_num (eo := eo) (pl := eo) (lo := 0) (n := g 3) (hi := nI (g 3) - nI 1) hNx hT hM c5 c6 (by omega) (by omega) (hi_of1 (by omega)) with ⟨d, s3, n1, n2, n3, n4, n5, n6, n7, n8, n9, d1, d2, d3, d4, d5, d6, d7⟩ | ⟨c, d1, d2, d3, d4⟩
    · obtain ⟨e5, e6, -⟩ := tkE_s (b := b) d6.1
      rcases s_num (eo := eo) (pl := eo) (lo := 1) (n := 51) (hi := nI 50) hNx hT hM d6 d7 (by omega) (by omega) (hi_of (by omega)) with ⟨t, s4, o1, o2, o3, o4, o5, o6, o7, o8, o9, f1, f2, f3, f4, f5, f6, f7⟩ | ⟨c, f1, f2, f3, f4⟩
      · obtain ⟨e7, e8, -⟩ := tkE_s (b := b) f6.1
        by_cases hs : isS b L s4
        · by_cases h300 : g 5 + t ≤ 300
          · obtain ⟨s5, x1, x2, x3, x4, x5, x6, x7, x8, x9, y1, y2, y3, y4, y5⟩ := s_adv hNx hT hM f6 f7
            obtain ⟨m', u2, u3⟩ := m_throwMany (N := N) (p := p) (d := d) (b := 0) (n := t) hNx hO c1 d2 (by omega) h300 h
            obtain ⟨en', fr', v1, v2, v3⟩ := e_make (N := N) (p := p) (d := d) (b := 0) (n := t) hNx hO c1 d2 (by omega) h300 hD hE hF
            have w2 := thr_HR (b := 0) hO c1 d2 (by omega) h300 hH0 v2 v3
            have w1 := (gThr_s (b := 0) hO c1 d2 (by omega) t h300).1
            have zl := gSumT_le (b := 0) (n := t) hO c1 d2 (by omega) h300
            have xs := x_semi_t (N := N) (eo := eo) hT f6 hs y2
            refine ⟨nI 0, eo, nI (gThr g p d 0 t 0), nI (gThr g p d 0 t 5), en', fr', x1, x2, x3, x4, x5, x6, x7, x8, x9, nI 0, eo, m', ?_, ?_, hZ, Or.inl ⟨_, s5, rfl, rfl, rfl, by omega, y4, y5, w1, u3, w2⟩⟩
            · subst q0 q3 q4 q5
              unfold f_X5_readThrow
              simp only [n_0, n_1, n_2, n_3, n_4, n_5, n_6, n_7, n_8, n_9, n_10, n_12, n_13, n_15, n_20, n_24, n_27, n_31, n_32, n_33, n_36, n_44, n_48, n_50, n_57, n_58, n_59, n_72, n_74, n_75, n_85, n_91, n_96, n_97, n_99, n_122, n_255, n_300, n_432, n_600, n_900, n_999, n_1000, n_1291, n_1399, n_2798, n_11192, n_65536, n_65537, n_99999999, n_1000000]
              rw [a2, Option.bind_some, c3, Option.bind_some, d4, Option.bind_some, f4, Option.bind_some]
              unfold f_X5_readThrow_L63
              simp only [n_0, n_1, n_2, n_3, n_4, n_5, n_6, n_7, n_8, n_9, n_10, n_12, n_13, n_15, n_20, n_24, n_27, n_31, n_32, n_33, n_36, n_44, n_48, n_50, n_57, n_58, n_59, n_72, n_74, n_75, n_85, n_91, n_96, n_97, n_99, n_122, n_255, n_300, n_432, n_600, n_900, n_999, n_1000, n_1291, n_1399, n_2798, n_11192, n_65536, n_65537, n_99999999, n_1000000]
              rw [if_pos (by rw [nI_add, q_le (by omega) (by omega)]; omega), xs, Option.bind_some, if_pos rfl, e_pair, Option.bind_some, v1, Option.bind_some]
            · unfold f_X11_readThrow
              simp only [n_0, n_1, n_2, n_3, n_4, n_5, n_6, n_7, n_8, n_9, n_10, n_12, n_13, n_15, n_20, n_24, n_27, n_31, n_32, n_33, n_36, n_44, n_48, n_50, n_57, n_58, n_59, n_72, n_74, n_75, n_85, n_91, n_96, n_97, n_99, n_122, n_255, n_300, n_432, n_600, n_900, n_999, n_1000, n_1291, n_1399, n_2798, n_11192, n_65536, n_65537, n_99999999, n_1000000]
              rw [y_next_t a3, Option.bind_some, c4, Option.bind_some, q_cl (show 3 < 2147483648 by omega), m3, d5, Option.bind_some, f5, Option.bind_some, y_semi_t hM f7 hs, Option.bind_some]
              rw [if_pos rfl, q_cl (show 5 < 2147483648 by omega), m5, if_neg (by rw [nI_add, q_lt (by omega) (by omega)]; omega)]
              unfold f_X11_readThrow_L57 f_X11_readThrow_L62
              simp only [n_0, n_1, n_2, n_3, n_4, n_5, n_6, n_7, n_8, n_9, n_10, n_12, n_13, n_15, n_20, n_24, n_27, n_31, n_32, n_33, n_36, n_44, n_48, n_50, n_57, n_58, n_59, n_72, n_74, n_75, n_85, n_91, n_96, n_97, n_99, n_122, n_255, n_300, n_432, n_600, n_900, n_999, n_1000, n_1291, n_1399, n_2798, n_11192, n_65536, n_65537, n_99999999, n_1000000]
              rw [y_check_t, Option.bind_some, if_pos rfl, u2, Option.bind_some, if_pos (by rw [q_le (by omega) (by omega)]; omega)]
              unfold f_X11_readThrow_L94
              rw [y_next_t y3, Option.bind_some]
          · have yf := @y_check_f o6 eo 6 (by omega) (by omega)
            have yn := @y_next_e N (nI L) o5 o6 o7 o8 o9 mi 6 (by omega) (by omega)
            have xs := x_semi_a (N := N) (eo := eo) (c := 6) hT f6 hs (by omega) (by omega)
            refine ⟨nI 6, o2, sd, tc, en, fr, o1, o2, o3, o4, o5, o6, o7, o8, o9, nI 6, o6, m, ?_, ?_, hZ, Or.inr ⟨6, by omega, by omega, rfl, rfl, f6.2.2.1.trans f7.2.2.1.symm⟩⟩
            · subst q3 q4 q5
              unfold f_X5_readThrow
              simp only [n_0, n_1, n_2, n_3, n_4, n_5, n_6, n_7, n_8, n_9, n_10, n_12, n_13, n_15, n_20, n_24, n_27, n_31, n_32, n_33, n_36, n_44, n_48, n_50, n_57, n_58, n_59, n_72, n_74, n_75, n_85, n_91, n_96, n_97, n_99, n_122, n_255, n_300, n_432, n_600, n_900, n_999, n_1000, n_1291, n_1399, n_2798, n_11192, n_65536, n_65537, n_99999999, n_1000000]
              rw [a2, Option.bind_some, c3, Option.bind_some, d4, Option.bind_some, f4, Option.bind_some]
              unfold f_X5_readThrow_L63
              simp only [n_0, n_1, n_2, n_3, n_4, n_5, n_6, n_7, n_8, n_9, n_10, n_12, n_13, n_15, n_20, n_24, n_27, n_31, n_32, n_33, n_36, n_44, n_48, n_50, n_57, n_58, n_59, n_72, n_74, n_75, n_85, n_91, n_96, n_97, n_99, n_122, n_255, n_300, n_432, n_600, n_900, n_999, n_1000, n_1291, n_1399, n_2798, n_11192, n_65536, n_65537, n_99999999, n_1000000]
              rw [if_neg (by rw [nI_add, q_le (by omega) (by omega)]; omega), xs, Option.bind_some, if_neg (by rw [q_eq (by omega) (by omega)]; omega)]
            · unfold f_X11_readThrow
              simp only [n_0, n_1, n_2, n_3, n_4, n_5, n_6, n_7, n_8, n_9, n_10, n_12, n_13, n_15, n_20, n_24, n_27, n_31, n_32, n_33, n_36, n_44, n_48, n_50, n_57, n_58, n_59, n_72, n_74, n_75, n_85, n_91, n_96, n_97, n_99, n_122, n_255, n_300, n_432, n_600, n_900, n_999, n_1000, n_1291, n_1399, n_2798, n_11192, n_65536, n_65537, n_99999999, n_1000000]
              rw [y_next_t a3, Option.bind_some, c4, Option.bind_some, q_cl (show 3 < 2147483648 by omega), m3, d5, Option.bind_some, f5, Option.bind_some, y_semi_t hM f7 hs, Option.bind_some]
              rw [if_pos rfl, q_cl (show 5 < 2147483648 by omega), m5, if_pos (by rw [nI_add, q_lt (by omega) (by omega)]; omega)]
              unfold f_X11_readThrow_L62
              simp only [n_0, n_1, n_2, n_3, n_4, n_5, n_6, n_7, n_8, n_9, n_10, n_12, n_13, n_15, n_20, n_24, n_27, n_31, n_32, n_33, n_36, n_44, n_48, n_50, n_57, n_58, n_59, n_72, n_74, n_75, n_85, n_91, n_96, n_97, n_99, n_122, n_255, n_300, n_432, n_600, n_900, n_999, n_1000, n_1291, n_1399, n_2798, n_11192, n_65536, n_65537, n_99999999, n_1000000]
              rw [yf, Option.bind_some, if_neg (by rw [q_eq (by omega) (by omega)]; omega)]
              unfold f_X11_readThrow_L94
              rw [yn, Option.bind_some]
        · have ye := @y_check_e o6 o6 (nI 1) (nI 6) 1 (by omega) (by omega)
          have yn := @y_next_e N (nI L) o5 o6 o7 o8 o9 mi 1 (by omega) (by omega)
          refine ⟨nI 1, o2, sd, tc, en, fr, o1, o2, o3, o4, o5, o6, o7, o8, o9, nI 1, o6, m, ?_, ?_, hZ, Or.inr ⟨1, by omega, by omega, rfl, rfl, f6.2.2.1.trans f7.2.2.1.symm⟩⟩
          · subst q3 q4 q5
            unfold f_X5_readThrow
            simp only [n_0, n_1, n_2, n_3, n_4, n_5, n_6, n_7, n_8, n_9, n_10, n_12, n_13, n_15, n_20, n_24, n_27, n_31, n_32, n_33, n_36, n_44, n_48, n_50, n_57, n_58, n_59, n_72, n_74, n_75, n_85, n_91, n_96, n_97, n_99, n_122, n_255, n_300, n_432, n_600, n_900, n_999, n_1000, n_1291, n_1399, n_2798, n_11192, n_65536, n_65537, n_99999999, n_1000000]
            rw [a2, Option.bind_some, c3, Option.bind_some, d4, Option.bind_some, f4, Option.bind_some]
            unfold f_X5_readThrow_L63
            simp only [n_0, n_1, n_2, n_3, n_4, n_5, n_6, n_7, n_8, n_9, n_10, n_12, n_13, n_15, n_20, n_24, n_27, n_31, n_32, n_33, n_36, n_44, n_48, n_50, n_57, n_58, n_59, n_72, n_74, n_75, n_85, n_91, n_96, n_97, n_99, n_122, n_255, n_300, n_432, n_600, n_900, n_999, n_1000, n_1291, n_1399, n_2798, n_11192, n_65536, n_65537, n_99999999, n_1000000]
            split <;> rw [x_semi_f hT f6 hs, Option.bind_some, if_neg (by rw [q_eq (by omega) (by omega)]; omega)]
          · unfold f_X11_readThrow
            simp only [n_0, n_1, n_2, n_3, n_4, n_5, n_6, n_7, n_8, n_9, n_10, n_12, n_13, n_15, n_20, n_24, n_27, n_31, n_32, n_33, n_36, n_44, n_48, n_50, n_57, n_58, n_59, n_72, n_74, n_75, n_85, n_91, n_96, n_97, n_99, n_122, n_255, n_300, n_432, n_600, n_900, n_999, n_1000, n_1291, n_1399, n_2798, n_11192, n_65536, n_65537, n_99999999, n_1000000]
            rw [y_next_t a3, Option.bind_some, c4, Option.bind_some, q_cl (show 3 < 2147483648 by omega), m3, d5, Option.bind_some, f5, Option.bind_some, y_semi_f hM f7 hs, Option.bind_some]
            rw [if_neg (by rw [q_eq (by omega) (by omega)]; omega)]
            unfold f_X11_readThrow_L57 f_X11_readThrow_L62
            simp only [n_0, n_1, n_2, n_3, n_4, n_5, n_6, n_7, n_8, n_9, n_10, n_12, n_13, n_15, n_20, n_24, n_27, n_31, n_32, n_33, n_36, n_44, n_48, n_50, n_57, n_58, n_59, n_72, n_74, n_75, n_85, n_91, n_96, n_97, n_99, n_122, n_255, n_300, n_432, n_600, n_900, n_999, n_1000, n_1291, n_1399, n_2798, n_11192, n_65536, n_65537, n_99999999, n_1000000]
            rw [ye, Option.bind_some, if_neg (by rw [q_eq (by omega) (by omega)]; omega)]
            unfold f_X11_readThrow_L94
            rw [yn, Option.bind_some]
      · have xe := fun a0 => @x_semi_e N (nI L) n2 n1 n2 n3 n4 a0 tb c f1 f2
        have yz := y_semi_e (pl := n6) hM d7 f1 f2
        have ye := @y_check_e n6 n6 (nI 1) (nI 6) c f1 f2
        have yn := @y_next_e N (nI L) n5 n6 n7 n8 n9 mi c f1 f2
        refine ⟨nI c, n2, sd, tc, en, fr, n1, n2, n3, n4, n5, n6, n7, n8, n9, nI c, n6, m, ?_, ?_, hZ, Or.inr ⟨c, f1, f2, rfl, rfl, d6.2.2.1.trans d7.2.2.1.symm⟩⟩
        · subst q3 q4 q5
          unfold f_X5_readThrow
          simp only [n_0, n_1, n_2, n_3, n_4, n_5, n_6, n_7, n_8, n_9, n_10, n_12, n_13, n_15, n_20, n_24, n_27, n_31, n_32, n_33, n_36, n_44, n_48, n_50, n_57, n_58, n_59, n_72, n_74, n_75, n_85, n_91, n_96, n_97, n_99, n_122, n_255, n_300, n_432, n_600, n_900, n_999, n_1000, n_1291, n_1399, n_2798, n_11192, n_65536, n_65537, n_99999999, n_1000000]
          rw [a2, Option.bind_some, c3, Option.bind_some, d4, Option.bind_some, f3, Option.bind_some]
          unfold f_X5_readThrow_L63
          simp only [n_0, n_1, n_2, n_3, n_4, n_5, n_6, n_7, n_8, n_9, n_10, n_12, n_13, n_15, n_20, n_24, n_27, n_31, n_32, n_33, n_36, n_44, n_48, n_50, n_57, n_58, n_59, n_72, n_74, n_75, n_85, n_91, n_96, n_97, n_99, n_122, n_255, n_300, n_432, n_600, n_900, n_999, n_1000, n_1291, n_1399, n_2798, n_11192, n_65536, n_65537, n_99999999, n_1000000]
          split <;> rw [xe, Option.bind_some, if_neg (by rw [q_eq (by omega) (by omega)]; omega)]
        · unfold f_X11_readThrow
          simp only [n_0, n_1, n_2, n_3, n_4, n_5, n_6, n_7, n_8, n_9, n_10, n_12, n_13, n_15, n_20, n_24, n_27, n_31, n_32, n_33, n_36, n_44, n_48, n_50, n_57, n_58, n_59, n_72, n_74, n_75, n_85, n_91, n_96, n_97, n_99, n_122, n_255, n_300, n_432, n_600, n_900, n_999, n_1000, n_1291, n_1399, n_2798, n_11192, n_65536, n_65537, n_99999999, n_1000000]
          rw [y_next_t a3, Option.bind_some, c4, Option.bind_some, q_cl (show 3 < 2147483648 by omega), m3, d5, Option.bind_some, f4, Option.bind_some, yz, Option.bind_some]
          rw [if_neg (by rw [q_eq (by omega) (by omega)]; omega)]
          unfold f_X11_readThrow_L57 f_X11_readThrow_L62
          simp only [n_0, n_1, n_2, n_3, n_4, n_5, n_6, n_7, n_8, n_9, n_10, n_12, n_13, n_15, n_20, n_24, n_27, n_31, n_32, n_33, n_36, n_44, n_48, n_50, n_57, n_58, n_59, n_72, n_74, n_75, n_85, n_91, n_96, n_97, n_99, n_122, n_255, n_300, n_432, n_600, n_900, n_999, n_1000, n_1291, n_1399, n_2798, n_11192, n_65536, n_65537, n_99999999, n_1000000]
          rw [ye, Option.bind_some, if_neg (by rw [q_eq (by omega) (by omega)]; omega)]
          unfold f_X11_readThrow_L94
          rw [yn, Option.bind_some]
    · have xe := fun a0 => @x_semi_e N (nI L) l2 l1 l2 l3 l4 a0 tb c d1 d2
      have xn := fun a0 a1 => @x_num_e N (nI L) l2 l1 l2 l3 l4 a0 a1 tb c d1 d2
      have yz := y_semi_e (pl := l6) hM c6 d1 d2
      have ye := @y_check_e l6 l6 (nI 1) (nI 6) c d1 d2
      have yn := @y_next_e N (nI L) l5 l6 l7 l8 l9 mi c d1 d2
      have yu := fun lo hi => @y_num_e N (nI L) l5 l6 l7 l8 l9 l6 lo hi mi c d1 d2
      refine ⟨nI c, l2, sd, tc, en, fr, l1, l2, l3, l4, l5, l6, l7, l8, l9, nI c, l6, m, ?_, ?_, hZ, Or.inr ⟨c, d1, d2, rfl, rfl, c5.2.2.1.trans c6.2.2.1.symm⟩⟩
      · subst q3 q4 q5
        unfold f_X5_readThrow
        simp only [n_0, n_1, n_2, n_3, n_4, n_5, n_6, n_7, n_8, n_9, n_10, n_12, n_13, n_15, n_20, n_24, n_27, n_31, n_32, n_33, n_36, n_44, n_48, n_50, n_57, n_58, n_59, n_72, n_74, n_75, n_85, n_91, n_96, n_97, n_99, n_122, n_255, n_300, n_432, n_600, n_900, n_999, n_1000, n_1291, n_1399, n_2798, n_11192, n_65536, n_65537, n_99999999, n_1000000]
        rw [a2, Option.bind_some, c3, Option.bind_some, d3, Option.bind_some, xn, Option.bind_some]
        unfold f_X5_readThrow_L63
        simp only [n_0, n_1, n_2, n_3, n_4, n_5, n_6, n_7, n_8, n_9, n_10, n_12, n_13, n_15, n_20, n_24, n_27, n_31, n_32, n_33, n_36, n_44, n_48, n_50, n_57, n_58, n_59, n_72, n_74, n_75, n_85, n_91, n_96, n_97, n_99, n_122, n_255, n_300, n_432, n_600, n_900, n_999, n_1000, n_1291, n_1399, n_2798, n_11192, n_65536, n_65537, n_99999999, n_1000000]
        split <;> rw [xe, Option.bind_some, if_neg (by rw [q_eq (by omega) (by omega)]; omega)]
      · unfold f_X11_readThrow
        simp only [n_0, n_1, n_2, n_3, n_4, n_5, n_6, n_7, n_8, n_9, n_10, n_12, n_13, n_15, n_20, n_24, n_27, n_31, n_32, n_33, n_36, n_44, n_48, n_50, n_57, n_58, n_59, n_72, n_74, n_75, n_85, n_91, n_96, n_97, n_99, n_122, n_255, n_300, n_432, n_600, n_900, n_999, n_1000, n_1291, n_1399, n_2798, n_11192, n_65536, n_65537, n_99999999, n_1000000]
        rw [y_next_t a3, Option.bind_some, c4, Option.bind_some, q_cl (show 3 < 2147483648 by omega), m3, d4, Option.bind_some, yu, Option.bind_some, yz, Option.bind_some]
        rw [if_neg (by rw [q_eq (by omega) (by omega)]; omega)]
        unfold f_X11_readThrow_L57 f_X11_readThrow_L62
        simp only [n_0, n_1, n_2, n_3, n_4, n_5, n_6, n_7, n_8, n_9, n_10, n_12, n_13, n_15, n_20, n_24, n_27, n_31, n_32, n_33, n_36, n_44, n_48, n_50, n_57, n_58, n_59, n_72, n_74, n_75, n_85, n_91, n_96, n_97, n_99, n_122, n_255, n_300, n_432, n_600, n_900, n_999, n_1000, n_1291, n_1399, n_2798, n_11192, n_65536, n_65537, n_99999999, n_1000000]
        rw [ye, Option.bind_some, if_neg (by rw [q_eq (by omega) (by omega)]; omega)]
        unfold f_X11_readThrow_L94
        rw [yn, Option.bind_some]
  · have xe := fun a0 => @x_semi_e N (nI L) k2 k1 k2 k3 k4 a0 tb c c1 c2
    have xn := fun a0 a1 => @x_num_e N (nI L) k2 k1 k2 k3 k4 a0 a1 tb c c1 c2
    have yz := y_semi_e (pl := k6) hM a5 c1 c2
    have ye := @y_check_e k6 k6 (nI 1) (nI 6) c c1 c2
    have yn := @y_next_e N (nI L) k5 k6 k7 k8 k9 mi c c1 c2
    have yu := fun lo hi => @y_num_e N (nI L) k5 k6 k7 k8 k9 k6 lo hi mi c c1 c2
    refine ⟨nI c, k2, sd, tc, en, fr, k1, k2, k3, k4, k5, k6, k7, k8, k9, nI c, k6, m, ?_, ?_, hZ, Or.inr ⟨c, c1, c2, rfl, rfl, a4.2.2.1.trans a5.2.2.1.symm⟩⟩
    · subst q3 q4 q5
      unfold f_X5_readThrow
      simp only [n_0, n_1, n_2, n_3, n_4, n_5, n_6, n_7, n_8, n_9, n_10, n_12, n_13, n_15, n_20, n_24, n_27, n_31, n_32, n_33, n_36, n_44, n_48, n_50, n_57, n_58, n_59, n_72, n_74, n_75, n_85, n_91, n_96, n_97, n_99, n_122, n_255, n_300, n_432, n_600, n_900, n_999, n_1000, n_1291, n_1399, n_2798, n_11192, n_65536, n_65537, n_99999999, n_1000000]
      rw [a2, Option.bind_some, c3, Option.bind_some, xn, Option.bind_some, xn, Option.bind_some]
      unfold f_X5_readThrow_L63
      simp only [n_0, n_1, n_2, n_3, n_4, n_5, n_6, n_7, n_8, n_9, n_10, n_12, n_13, n_15, n_20, n_24, n_27, n_31, n_32, n_33, n_36, n_44, n_48, n_50, n_57, n_58, n_59, n_72, n_74, n_75, n_85, n_91, n_96, n_97, n_99, n_122, n_255, n_300, n_432, n_600, n_900, n_999, n_1000, n_1291, n_1399, n_2798, n_11192, n_65536, n_65537, n_99999999, n_1000000]
      split <;> rw [xe, Option.bind_some, if_neg (by rw [q_eq (by omega) (by omega)]; omega)]
    · unfold f_X11_readThrow
      simp only [n_0, n_1, n_2, n_3, n_4, n_5, n_6, n_7, n_8, n_9, n_10, n_12, n_13, n_15, n_20, n_24, n_27, n_31, n_32, n_33, n_36, n_44, n_48, n_50, n_57, n_58, n_59, n_72, n_74, n_75, n_85, n_91, n_96, n_97, n_99, n_122, n_255, n_300, n_432, n_600, n_900, n_999, n_1000, n_1291, n_1399, n_2798, n_11192, n_65536, n_65537, n_99999999, n_1000000]
      rw [y_next_t a3, Option.bind_some, c4, Option.bind_some, q_cl (show 3 < 2147483648 by omega), m3, yu, Option.bind_some, yu, Option.bind_some, yz, Option.bind_some]
      rw [if_neg (by rw [q_eq (by omega) (by omega)]; omega)]
      unfold f_X11_readThrow_L57 f_X11_readThrow_L62
      simp only [n_0, n_1, n_2, n_3, n_4, n_5, n_6, n_7, n_8, n_9, n_10, n_12, n_13, n_15, n_20, n_24, n_27, n_31, n_32, n_33, n_36, n_44, n_48, n_50, n_57, n_58, n_59, n_72, n_74, n_75, n_85, n_91, n_96, n_97, n_99, n_122, n_255, n_300, n_432, n_600, n_900, n_999, n_1000, n_1291, n_1399, n_2798, n_11192, n_65536, n_65537, n_99999999, n_1000000]
      rw [ye, Option.bind_some, if_neg (by rw [q_eq (by omega) (by omega)]; omega)]
      unfold f_X11_readThrow_L94
      rw [yn, Option.bind_some]
