/-! the head of the text, and all of it -/
/-- after an error nothing more of the head is taken -/
theorem x_head_e {N c : Nat} {tl eo sd mn th dc pc tc oc kd ts te tv : Int32} {tb fr : Nat → Int32} (c1 : 0 < c) (c2 : c < 100) (lo1 hi1 lo2 hi2 lo3 hi3 : Int32) : ∃ q1 q2 q3, f_X5_takeNumber N tl tb (nI c) eo kd ts te tv lo1 hi1 = some (q1, nI c, eo, kd, ts, te, tv) ∧ f_X5_takeNumber N tl tb (nI c) eo kd ts te tv lo2 hi2 = some (q2, nI c, eo, kd, ts, te, tv) ∧ f_X5_takeNumber N tl tb (nI c) eo kd ts te tv lo3 hi3 = some (q3, nI c, eo, kd, ts, te, tv) ∧ f_X5_takeSemicolon N tl tb (nI c) eo kd ts te tv (nI 0) = some (nI c, eo, kd, ts, te, tv) := ⟨_, _, _, x_num_e c1 c2, x_num_e c1 c2, x_num_e c1 c2, x_semi_e c1 c2⟩
theorem r_head {N L s : Nat} {b : Nat → Nat} {tb mi m o : Nat → Int32} {a : Int32} {sd : Int32} {mn : Int32} {th : Int32} {dc : Int32} {fc : Nat → Int32} {dw : Nat → Int32} {pc : Int32} {ln : Nat → Int32} {lt : Nat → Int32} {tc : Int32} {en : Nat → Int32} {fr : Nat → Int32} {oc : Int32} {op : Nat → Int32} {os : Nat → Int32} {kd ts te tv po st tk vl lw eo : Int32} (hN : 2000 < N) (hT : TR b L tb) (hM : TR b L mi) (h1 : TC b L s kd ts te tv) (h2 : TM b L s po st tk vl lw) (hZ : ZR fc) (hz : ∀ t, t < 1399 → m t = nI 0) : ∃ ec' eo' sd1 mn1 th1 dc1 pc1 tc1 fr1 oc1 kd' ts' te' tv' po' st' tk' vl' lw' code' pl' m', f_X5_readHall N (nI L) tb (nI 0) eo sd mn th dc pc tc fr oc kd ts te tv = some (ec', eo', sd1, mn1, th1, dc1, pc1, tc1, fr1, oc1, kd', ts', te', tv') ∧ ((f_X11_is N st tk lw mi 1).bind fun t2 => (f_X11_check st (nI 0) eo t2 (nI 1)).bind fun t3 => (f_X11_next N (nI L) t3.2.1 mi po st tk vl lw).bind fun t4 => (f_X11_number N (nI L) mi t4.1 t4.2.1 t4.2.2.1 t4.2.2.2.1 t4.2.2.2.2 t3.2.1 t3.2.2 (nI 0) (nI 65536)).bind fun t5 => (f_X11_number N (nI L) mi t5.2.1 t5.2.2.1 t5.2.2.2.1 t5.2.2.2.2.1 t5.2.2.2.2.2.1 t5.2.2.2.2.2.2.1 t5.2.2.2.2.2.2.2 (nI 1) (nI 99)).bind fun t6 => (f_X11_number N (nI L) mi t6.2.1 t6.2.2.1 t6.2.2.2.1 t6.2.2.2.2.1 t6.2.2.2.2.2.1 t6.2.2.2.2.2.2.1 t6.2.2.2.2.2.2.2 (nI 0) (nI 999)).bind fun t7 => (f_X11_finish N (nI L) mi t7.2.1 t7.2.2.1 t7.2.2.2.1 t7.2.2.2.2.1 t7.2.2.2.2.2.1 t7.2.2.2.2.2.2.1 t7.2.2.2.2.2.2.2).bind fun t8 => f_X11_read_L103 N (nI L) mi N a t8.1 t8.2.1 t8.2.2.1 t8.2.2.2.1 t8.2.2.2.2.1 t8.2.2.2.2.2.1 t8.2.2.2.2.2.2 (upd (upd (upd m 0 t5.1) 1 t6.1) 2 t7.1) o) = f_X11_read_L103 N (nI L) mi N a po' st' tk' vl' lw' code' pl' m' o ∧ eo' = pl' ∧ ((∃ g s', ec' = nI 0 ∧ code' = nI 0 ∧ TC b L s' kd' ts' te' tv' ∧ TM b L s' po' st' tk' vl' lw' ∧ Ok g ∧ MR m' g ∧ HR g sd1 mn1 th1 dc1 fc dw pc1 ln lt tc1 en fr1 oc1 op os) ∨ (∃ c, 0 < c ∧ c < 100 ∧ ec' = nI c ∧ code' = nI c)) := by
  have hNx : 1000 < N := by omega
  have x1 := x_isWord hNx hT k_1 h1
  have y1 := y_is hNx hM k_1 h2
  -- how both go on while an error stands
  have goE : ∀ (c : Nat), 0 < c → c < 100 → ∀ (eo kd ts te tv : Int32) q, f_X5_takeNumber N (nI L) tb (nI c) eo kd ts te tv q (nI 99) = some (-nI 1, nI c, eo, kd, ts, te, tv) := fun c c1 c2 eo kd ts te tv q => x_num_e c1 c2
  unfold f_X5_readHall
  simp only [n_0, n_1, n_2, n_3, n_4, n_5, n_6, n_7, n_8, n_9, n_10, n_12, n_13, n_15, n_20, n_24, n_27, n_31, n_32, n_33, n_36, n_44, n_48, n_50, n_57, n_58, n_59, n_72, n_74, n_75, n_85, n_91, n_96, n_97, n_99, n_122, n_255, n_300, n_432, n_600, n_900, n_999, n_1000, n_1291, n_1399, n_2798, n_11192, n_65536, n_65537, n_99999999, n_1000000]
  rw [x1, y1, Option.bind_some, Option.bind_some]
  cases hw : isW b L s 1
  · -- no head
    have yf := @y_check_f st eo 1 (by omega) (by omega)
    have yn := @y_next_e N (nI L) po st tk vl lw mi 1 (by omega) (by omega)
    have yu := fun lo hi => @y_num_e N (nI L) po st tk vl lw st lo hi mi 1 (by omega) (by omega)
    have yz := y_semi_e (pl := st) (c := 1) hM h2 (by omega) (by omega)
    have xu := fun lo hi => @x_num_e N (nI L) ts kd ts te tv lo hi tb 1 (by omega) (by omega)
    have xs := @x_semi_e N (nI L) ts kd ts te tv (nI 0) tb 1 (by omega) (by omega)
    have yfi : f_X11_finish N (nI L) mi po st tk vl lw (nI 1) st = some (po, st, tk, vl, lw, nI 1, st) := by
      unfold f_X11_finish
      rw [yz, Option.bind_some, yn, Option.bind_some]
    refine ⟨nI 1, ts, sd, mn, th, dc, pc, tc, fr, oc, kd, ts, te, tv, po, st, tk, vl, lw, nI 1, st, upd (upd (upd m 0 (nI 0)) 1 (nI 1)) 2 (nI 0), ?_, ?_, h1.2.2.1.trans h2.2.2.1.symm, Or.inr ⟨1, by omega, by omega, rfl, rfl⟩⟩
    · rw [if_pos b_f]
      unfold f_X5_readHall_L18 f_X5_takeKeyword
      simp only [n_0, n_1, n_2, n_3, n_4, n_5, n_6, n_7, n_8, n_9, n_10, n_12, n_13, n_15, n_20, n_24, n_27, n_31, n_32, n_33, n_36, n_44, n_48, n_50, n_57, n_58, n_59, n_72, n_74, n_75, n_85, n_91, n_96, n_97, n_99, n_122, n_255, n_300, n_432, n_600, n_900, n_999, n_1000, n_1291, n_1399, n_2798, n_11192, n_65536, n_65537, n_99999999, n_1000000]
      rw [if_neg (c_n0 (c := 1) (by omega) (by omega)), x_fail0, Option.bind_some, Option.bind_some, xu, Option.bind_some, xu, Option.bind_some, xu, Option.bind_some, xs, Option.bind_some, if_neg (c_n0 (c := 1) (by omega) (by omega))]
    · rw [show bI false = nI 0 from rfl, yf, Option.bind_some, yn, Option.bind_some, yu, Option.bind_some, yu, Option.bind_some, yu, Option.bind_some, yfi, Option.bind_some]
  · obtain ⟨s1, k1, k2, k3, k4, k5, k6, k7, k8, k9, a1, a2, a3, a4, a5⟩ := s_adv hNx hT hM h1 h2
    have hkey : f_X5_takeKeyword N (nI L) tb (nI 0) eo kd ts te tv (nI 0) = some (nI 0, eo, k1, k2, k3, k4) := by
      simp (disch := omega) only [n_0, n_1, n_2, n_3, n_4, n_5, n_6, n_7, n_8, n_9, n_10, n_12, n_13, n_15, n_20, n_24, n_27, n_31, n_32, n_33, n_36, n_44, n_48, n_50, n_57, n_58, n_59, n_72, n_74, n_75, n_85, n_91, n_96, n_97, n_99, n_122, n_255, n_300, n_432, n_600, n_900, n_999, n_1000, n_1291, n_1399, n_2798, n_11192, n_65536, n_65537, n_99999999, n_1000000, nI_add, pk_mul, q_le, q_lt, q_eq, q_cl, q_gi, q_gz, q_sub, q_div, q_dm, d_dm, q_m1, q_mn, q_nm, q_mlt, q_ltm, q_mle, q_lem, q_mm, Option.bind_some, if_true, if_false, Nat.add_zero, ite_self, q_us, q_un, decide_true, decide_false, Bool.false_eq_true, eq_self, and_self, and_true, true_and, and_false, false_and, or_true, true_or, or_false, false_or, d_ltT, d_ltF, d_leT, d_leF, d_eqT, d_eqF, f_X5_takeKeyword, a2]
    rw [if_neg b_t, show bI true = nI 1 from rfl, y_check_t, Option.bind_some, y_next_t a3, Option.bind_some]
    unfold f_X5_readHall_L18
    simp only [n_0, n_1, n_2, n_3, n_4, n_5, n_6, n_7, n_8, n_9, n_10, n_12, n_13, n_15, n_20, n_24, n_27, n_31, n_32, n_33, n_36, n_44, n_48, n_50, n_57, n_58, n_59, n_72, n_74, n_75, n_85, n_91, n_96, n_97, n_99, n_122, n_255, n_300, n_432, n_600, n_900, n_999, n_1000, n_1291, n_1399, n_2798, n_11192, n_65536, n_65537, n_99999999, n_1000000]
    rw [hkey, Option.bind_some]
    rcases s_num (eo := eo) (pl := eo) (lo := 0) (n := 65537) (hi := nI 65536) hNx hT hM a4 a5 (by omega) (by omega) (hi_of (by omega)) with ⟨v, s2, l1, l2, l3, l4, l5, l6, l7, l8, l9, c1, c2, c3, c4, c5, c6, c7⟩ | ⟨c, c1, c2, c3, c4⟩
    · rw [c4, c5, Option.bind_some, Option.bind_some]
      rcases s_num (eo := eo) (pl := eo) (lo := 1) (n := 100) (hi := nI 99) hNx hT hM c6 c7 (by omega) (by omega) (hi_of (by omega)) with ⟨v2, s3, n1, n2, n3, n4, n5, n6, n7, n8, n9, d1, d2, d3, d4, d5, d6, d7⟩ | ⟨c, d1, d2, d3, d4⟩
      · rw [d4, d5, Option.bind_some, Option.bind_some]
        rcases s_num (eo := eo) (pl := eo) (lo := 0) (n := 1000) (hi := nI 999) hNx hT hM d6 d7 (by omega) (by omega) (hi_of (by omega)) with ⟨v3, s4, o1, o2, o3, o4, o5, o6, o7, o8, o9, f1, f2, f3, f4, f5, f6, f7⟩ | ⟨c, f1, f2, f3, f4⟩
        · rw [f4, f5, Option.bind_some, Option.bind_some]
          rcases s_fin (eo := eo) (pl := eo) hNx hT hM f6 f7 with ⟨s5, p1, p2, p3, p4, p5, p6, p7, p8, p9, g1, g2, g3, g4, g5⟩ | ⟨g2, g3⟩
          · obtain ⟨fr', u1, u2⟩ := e_fill (N := N) (n := 432) (v := nI 0) (by omega) (by omega) fr
            refine ⟨nI 0, eo, nI v, nI v2, nI v3, nI 0, nI 0, nI 0, fr', nI 0, p1, p2, p3, p4, p5, p6, p7, p8, p9, nI 0, eo, upd (upd (upd m 0 (nI v)) 1 (nI v2)) 2 (nI v3), ?_, ?_, rfl, Or.inl ⟨gH v v2 v3, s5, rfl, rfl, g4, g5, gH_ok (by omega) d1 (by omega) (by omega), gH_M hz, gH_R u2⟩⟩
            · rw [g2, Option.bind_some, if_pos rfl]
              unfold f_X2_begin f_X0_clear f_X7_clear f_X4_clear f_X6_clear
              simp only [n_0, n_1, n_2, n_3, n_4, n_5, n_6, n_7, n_8, n_9, n_10, n_12, n_13, n_15, n_20, n_24, n_27, n_31, n_32, n_33, n_36, n_44, n_48, n_50, n_57, n_58, n_59, n_72, n_74, n_75, n_85, n_91, n_96, n_97, n_99, n_122, n_255, n_300, n_432, n_600, n_900, n_999, n_1000, n_1291, n_1399, n_2798, n_11192, n_65536, n_65537, n_99999999, n_1000000]
              rw [u1]
              rfl
            · rw [g3, Option.bind_some]
          · refine ⟨nI 1, o2, sd, mn, th, dc, pc, tc, fr, oc, o1, o2, o3, o4, o5, o6, o7, o8, o9, nI 1, o6, upd (upd (upd m 0 (nI v)) 1 (nI v2)) 2 (nI v3), ?_, ?_, f6.2.2.1.trans f7.2.2.1.symm, Or.inr ⟨1, by omega, by omega, rfl, rfl⟩⟩
            · rw [g2, Option.bind_some, if_neg (c_n0 (c := 1) (by omega) (by omega))]
            · rw [g3, Option.bind_some]
        · have xs := @x_semi_e N (nI L) n2 n1 n2 n3 n4 (nI 0) tb c f1 f2
          have yz := y_semi_e (pl := n6) hM d7 f1 f2
          have yn := @y_next_e N (nI L) n5 n6 n7 n8 n9 mi c f1 f2
          have yfi : f_X11_finish N (nI L) mi n5 n6 n7 n8 n9 (nI c) n6 = some (n5, n6, n7, n8, n9, nI c, n6) := by
            unfold f_X11_finish
            rw [yz, Option.bind_some, yn, Option.bind_some]
          refine ⟨nI c, n2, sd, mn, th, dc, pc, tc, fr, oc, n1, n2, n3, n4, n5, n6, n7, n8, n9, nI c, n6, upd (upd (upd m 0 (nI v)) 1 (nI v2)) 2 (nI 0), ?_, ?_, d6.2.2.1.trans d7.2.2.1.symm, Or.inr ⟨c, f1, f2, rfl, rfl⟩⟩
          · rw [f3, Option.bind_some, xs, Option.bind_some, if_neg (c_n0 f1 f2)]
          · rw [f4, Option.bind_some, yfi, Option.bind_some]
      · have xu := fun lo hi => @x_num_e N (nI L) l2 l1 l2 l3 l4 lo hi tb c d1 d2
        have xs := @x_semi_e N (nI L) l2 l1 l2 l3 l4 (nI 0) tb c d1 d2
        have yu := fun lo hi => @y_num_e N (nI L) l5 l6 l7 l8 l9 l6 lo hi mi c d1 d2
        have yz := y_semi_e (pl := l6) hM c7 d1 d2
        have yn := @y_next_e N (nI L) l5 l6 l7 l8 l9 mi c d1 d2
        have yfi : f_X11_finish N (nI L) mi l5 l6 l7 l8 l9 (nI c) l6 = some (l5, l6, l7, l8, l9, nI c, l6) := by
          unfold f_X11_finish
          rw [yz, Option.bind_some, yn, Option.bind_some]
        refine ⟨nI c, l2, sd, mn, th, dc, pc, tc, fr, oc, l1, l2, l3, l4, l5, l6, l7, l8, l9, nI c, l6, upd (upd (upd m 0 (nI v)) 1 (nI 1)) 2 (nI 0), ?_, ?_, c6.2.2.1.trans c7.2.2.1.symm, Or.inr ⟨c, d1, d2, rfl, rfl⟩⟩
        · rw [d3, Option.bind_some, xu, Option.bind_some, xs, Option.bind_some, if_neg (c_n0 d1 d2)]
        · rw [d4, Option.bind_some, yu, Option.bind_some, yfi, Option.bind_some]
    · have xu := fun lo hi => @x_num_e N (nI L) k2 k1 k2 k3 k4 lo hi tb c c1 c2
      have xs := @x_semi_e N (nI L) k2 k1 k2 k3 k4 (nI 0) tb c c1 c2
      have yu := fun lo hi => @y_num_e N (nI L) k5 k6 k7 k8 k9 k6 lo hi mi c c1 c2
      have yz := y_semi_e (pl := k6) hM a5 c1 c2
      have yn := @y_next_e N (nI L) k5 k6 k7 k8 k9 mi c c1 c2
      have yfi : f_X11_finish N (nI L) mi k5 k6 k7 k8 k9 (nI c) k6 = some (k5, k6, k7, k8, k9, nI c, k6) := by
        unfold f_X11_finish
        rw [yz, Option.bind_some, yn, Option.bind_some]
      refine ⟨nI c, k2, sd, mn, th, dc, pc, tc, fr, oc, k1, k2, k3, k4, k5, k6, k7, k8, k9, nI c, k6, upd (upd (upd m 0 (nI 0)) 1 (nI 1)) 2 (nI 0), ?_, ?_, a4.2.2.1.trans a5.2.2.1.symm, Or.inr ⟨c, c1, c2, rfl, rfl⟩⟩
      · rw [c3, Option.bind_some, xu, Option.bind_some, xu, Option.bind_some, xs, Option.bind_some, if_neg (c_n0 c1 c2)]
      · rw [c4, Option.bind_some, yu, Option.bind_some, yu, Option.bind_some, yfi, Option.bind_some]
/-- the whole text, in both -/
theorem r_all {N L : Nat} {b : Nat → Nat} {tb mi m o : Nat → Int32} {a : Int32} {sd : Int32} {mn : Int32} {th : Int32} {dc : Int32} {fc : Nat → Int32} {dw : Nat → Int32} {pc : Int32} {ln : Nat → Int32} {lt : Nat → Int32} {tc : Int32} {en : Nat → Int32} {fr : Nat → Int32} {oc : Int32} {op : Nat → Int32} {os : Nat → Int32} {ec eo kd ts te tv po st tk vl lw code pl : Int32} (hN : 2000 < N) (hT : TR b L tb) (hM : TR b L mi) (hZ : ZR fc) : ∃ fl ec' eo' sd1 mn1 th1 dc1 fc1 dw1 pc1 ln1 lt1 tc1 en1 fr1 oc1 op1 os1 kd' ts' te' tv' a' po' st' tk' vl' lw' code' pl' m' o', f_X5_parse N (nI L) tb ec eo sd mn th dc fc dw pc ln lt tc en fr oc op os kd ts te tv = some (fl, ec', eo', sd1, mn1, th1, dc1, fc1, dw1, pc1, ln1, lt1, tc1, en1, fr1, oc1, op1, os1, kd', ts', te', tv') ∧ f_X11_read N (nI L) mi a po st tk vl lw code pl m o = some (a', po', st', tk', vl', lw', code', pl', m', o') ∧ PF fl ec' eo' sd1 mn1 th1 dc1 fc1 dw1 pc1 ln1 lt1 tc1 en1 fr1 oc1 op1 os1 code' pl' m' := by
  have hNx : 1000 < N := by omega
  have hL := hT.1
  obtain ⟨k1, k2, k3, k4, a1, a2⟩ := x_adv (N := N) (e := 0) (kd := kd) (ts := ts) (tv := tv) hNx hT (by omega)
  obtain ⟨k5, k6, k7, k8, k9, a3, a4⟩ := y_adv (N := N) (e := 0) (st := st) (tk := tk) (vl := vl) (lt := lw) hNx hM (by omega)
  obtain ⟨m1, hz, y1⟩ := y_zeroL (N := N) (tl := nI L) (a := a) (po := nI 0) (st := st) (tk := tk) (vl := vl) (lw := lw) (code := nI 0) (pl := -nI 1) (mi := mi) (o := o) 1399 0 N m (by omega) (by omega) (fun t ht => by omega)
  obtain ⟨ec', eo', sd1, mn1, th1, dc1, pc1, tc1, fr1, oc1, kd', ts', te', tv', po', st', tk', vl', lw', code', pl', m', z1, z2, z3, z4⟩ := r_head (m := m1) (o := o) (a := a) (eo := -nI 1) (sd := sd) (mn := mn) (th := th) (dc := dc) (dw := dw) (pc := pc) (ln := ln) (lt := lt) (tc := tc) (en := en) (fr := fr) (oc := oc) (op := op) (os := os) hN hT hM a2 a4 hZ hz
  have hc : f_X5_parse N (nI L) tb ec eo sd mn th dc fc dw pc ln lt tc en fr oc op os kd ts te tv = f_X5_parse_L23 N (nI L) tb N (nI 0) ec' eo' sd1 mn1 th1 dc1 fc dw pc1 ln lt tc1 en fr1 oc1 op os kd' ts' te' tv' := by
    unfold f_X5_parse f_X9_rewind
    simp only [n_0, n_1, n_2, n_3, n_4, n_5, n_6, n_7, n_8, n_9, n_10, n_12, n_13, n_15, n_20, n_24, n_27, n_31, n_32, n_33, n_36, n_44, n_48, n_50, n_57, n_58, n_59, n_72, n_74, n_75, n_85, n_91, n_96, n_97, n_99, n_122, n_255, n_300, n_432, n_600, n_900, n_999, n_1000, n_1291, n_1399, n_2798, n_11192, n_65536, n_65537, n_99999999, n_1000000]
    rw [a1, Option.bind_some, Option.bind_some, z1, Option.bind_some]
  have hm : f_X11_read N (nI L) mi a po st tk vl lw code pl m o = f_X11_read_L103 N (nI L) mi N a po' st' tk' vl' lw' code' pl' m' o := by
    unfold f_X11_read
    simp only [n_0, n_1, n_2, n_3, n_4, n_5, n_6, n_7, n_8, n_9, n_10, n_12, n_13, n_15, n_20, n_24, n_27, n_31, n_32, n_33, n_36, n_44, n_48, n_50, n_57, n_58, n_59, n_72, n_74, n_75, n_85, n_91, n_96, n_97, n_99, n_122, n_255, n_300, n_432, n_600, n_900, n_999, n_1000, n_1291, n_1399, n_2798, n_11192, n_65536, n_65537, n_99999999, n_1000000]
    rw [y1]
    unfold f_X11_read_L17_F
    simp only [n_0, n_1, n_2, n_3, n_4, n_5, n_6, n_7, n_8, n_9, n_10, n_12, n_13, n_15, n_20, n_24, n_27, n_31, n_32, n_33, n_36, n_44, n_48, n_50, n_57, n_58, n_59, n_72, n_74, n_75, n_85, n_91, n_96, n_97, n_99, n_122, n_255, n_300, n_432, n_600, n_900, n_999, n_1000, n_1291, n_1399, n_2798, n_11192, n_65536, n_65537, n_99999999, n_1000000]
    rw [if_pos (by rw [q_le (by omega) (by omega)]; omega), a3, Option.bind_some, q_cl (show 0 < 2147483648 by omega), q_cl (show 1 < 2147483648 by omega), q_cl (show 2 < 2147483648 by omega)]
    exact z2
  rw [hc, hm]
  rcases z4 with ⟨g, s, w1, w2, w3, w4, w5, w6, w7⟩ | ⟨c, w1, w2, w3, w4⟩
  · subst w1 w2 z3
    have hsL := w3.1
    exact r_loop hN hT hM (L - s) s 0 N N g m' o a sd1 mn1 th1 dc1 fc dw pc1 ln lt tc1 en fr1 oc1 op os kd' ts' te' tv' po' st' tk' vl' lw' eo' (by omega) (by omega) (by omega) (by omega) w3 w4 w5 hZ w7 w6
  · subst w3 w4 z3
    obtain ⟨n, e⟩ : ∃ n, N = n + 1 := ⟨N - 1, by omega⟩
    refine ⟨nI 0, nI c, eo', sd1, mn1, th1, dc1, fc, dw, pc1, ln, lt, tc1, en, fr1, oc1, op, os, kd', ts', te', tv', a, po', st', tk', vl', lw', nI c, eo', m', o, ?_, ?_, hZ, rfl, Or.inr ⟨rfl, c, w1, w2, rfl, rfl⟩⟩
    · generalize hX : f_X5_parse_L23 N (nI L) tb = X
      rw [e, ← hX]
      exact x_loop_e (by omega) w1 w2
    · generalize hX : f_X11_read_L103 N (nI L) mi = X
      rw [e, ← hX]
      show f_X11_read_L103_F N (nI L) mi (f_X11_read_L103 N (nI L) mi n) a po' st' tk' vl' lw' (nI c) eo' m' o = _
      unfold f_X11_read_L103_F
      simp only [n_0, n_1, n_2, n_3, n_4, n_5, n_6, n_7, n_8, n_9, n_10, n_12, n_13, n_15, n_20, n_24, n_27, n_31, n_32, n_33, n_36, n_44, n_48, n_50, n_57, n_58, n_59, n_72, n_74, n_75, n_85, n_91, n_96, n_97, n_99, n_122, n_255, n_300, n_432, n_600, n_900, n_999, n_1000, n_1291, n_1399, n_2798, n_11192, n_65536, n_65537, n_99999999, n_1000000]
      rw [if_neg (c_n0 w1 w2)]
