/-! a statement, the loop, the whole text -/
theorem b_t : ¬ bI true = nI 0 := by rw [q_b0]; exact Bool.true_eq_false ▸ id
theorem b_f : bI false = nI 0 := by rw [q_b0]
theorem k_2 : kSn 2 < 1000 := by decide +kernel
theorem k_3 : kSn 3 < 1000 := by decide +kernel
theorem k_4 : kSn 4 < 1000 := by decide +kernel
theorem k_5 : kSn 5 < 1000 := by decide +kernel
theorem k_6 : kSn 6 < 1000 := by decide +kernel
theorem k_7 : kSn 7 < 1000 := by decide +kernel
theorem k_1 : kSn 1 < 1000 := by decide +kernel
theorem r_stmt {N L s : Nat} {b g : Nat → Nat} {tb mi m o : Nat → Int32} {a : Int32} {sd : Int32} {mn : Int32} {th : Int32} {dc : Int32} {fc : Nat → Int32} {dw : Nat → Int32} {pc : Int32} {ln : Nat → Int32} {lt : Nat → Int32} {tc : Int32} {en : Nat → Int32} {fr : Nat → Int32} {oc : Int32} {op : Nat → Int32} {os : Nat → Int32} {kd ts te tv po st tk vl lw eo : Int32} (hN : 2000 < N) (hT : TR b L tb) (hM : TR b L mi) (h1 : TC b L s kd ts te tv) (h2 : TM b L s po st tk vl lw) (hO : Ok g) (hZ : ZR fc) (hH : HR g sd mn th dc fc dw pc ln lt tc en fr oc op os) (h : MR m g) : ∃ ec' eo' sd1 dc1 fc1 dw1 pc1 ln1 lt1 tc1 en1 fr1 oc1 op1 os1 kd' ts' te' tv' a' po' st' tk' vl' lw' code' pl' m' o', f_X5_readStatement N (nI L) tb mn th (nI 0) eo sd dc fc dw pc ln lt tc en fr oc op os kd ts te tv = some (ec', eo', sd1, dc1, fc1, dw1, pc1, ln1, lt1, tc1, en1, fr1, oc1, op1, os1, kd', ts', te', tv') ∧ f_X11_readStatement N (nI L) mi a po st tk vl lw (nI 0) eo m o = some (a', po', st', tk', vl', lw', code', pl', m', o') ∧ PS b L (tkE b L s) ec' eo' sd1 mn th dc1 fc1 dw1 pc1 ln1 lt1 tc1 en1 fr1 oc1 op1 os1 kd' ts' te' tv' po' st' tk' vl' lw' code' pl' m' := by
  have hNx : 1000 < N := by omega
  have x2 := x_isWord hNx hT k_2 h1
  have x3 := x_isWord hNx hT k_3 h1
  have x4 := x_isWord hNx hT k_4 h1
  have x5 := x_isWord hNx hT k_5 h1
  have x6 := x_isWord hNx hT k_6 h1
  have x7 := x_isWord hNx hT k_7 h1
  have y2 := y_is hNx hM k_2 h2
  have y3 := y_is hNx hM k_3 h2
  have y4 := y_is hNx hM k_4 h2
  have y5 := y_is hNx hM k_5 h2
  have y6 := y_is hNx hM k_6 h2
  have y7 := y_is hNx hM k_7 h2
  unfold f_X5_readStatement f_X11_readStatement
  simp only [n_0, n_1, n_2, n_3, n_4, n_5, n_6, n_7, n_8, n_9, n_10, n_12, n_13, n_15, n_20, n_24, n_27, n_31, n_32, n_33, n_36, n_44, n_48, n_50, n_57, n_58, n_59, n_72, n_74, n_75, n_85, n_91, n_96, n_97, n_99, n_122, n_255, n_300, n_432, n_600, n_900, n_999, n_1000, n_1291, n_1399, n_2798, n_11192, n_65536, n_65537, n_99999999, n_1000000]
  rw [x2, y2, Option.bind_some, Option.bind_some]
  cases c2 : isW b L s 2
  · rw [if_pos b_f, if_pos b_f, x3, y3, Option.bind_some, Option.bind_some]
    cases c3 : isW b L s 3
    · rw [if_pos b_f, if_pos b_f, x4, y4, Option.bind_some, Option.bind_some]
      cases c4 : isW b L s 4
      · rw [if_pos b_f, if_pos b_f, x5, y5, Option.bind_some, Option.bind_some]
        cases c5 : isW b L s 5
        · rw [if_pos b_f, if_pos b_f, x6, y6, Option.bind_some, Option.bind_some]
          cases c6 : isW b L s 6
          · rw [if_pos b_f, if_pos b_f, x7, y7, Option.bind_some, Option.bind_some]
            cases c7 : isW b L s 7
            · have yf := @y_check_f st eo 1 (by omega) (by omega)
              rw [if_pos b_f, if_pos b_f, x_fail0, yf, Option.bind_some, Option.bind_some]
              exact ⟨nI 1, ts, sd, dc, fc, dw, pc, ln, lt, tc, en, fr, oc, op, os, kd, ts, te, tv, a, po, st, tk, vl, lw, nI 1, st, m, o, rfl, rfl, hZ, Or.inr ⟨1, by omega, by omega, rfl, rfl, h1.2.2.1.trans h2.2.2.1.symm⟩⟩
            · obtain ⟨v1, v2, v3, v4, v5, v6, v7, v8, v9, w1, w2, w3, w4, w5, w6, w7, w8, z1, z2, z3⟩ := r_forgive (eo := eo) hNx hT hM h1 h2 hO hZ hH h
              rw [if_neg b_t, if_neg b_t, z1, z2, Option.bind_some, Option.bind_some]
              exact ⟨v1, v2, sd, dc, fc, dw, pc, ln, lt, tc, en, fr, v3, v4, v5, v6, v7, v8, v9, a, w1, w2, w3, w4, w5, w6, w7, w8, o, rfl, rfl, z3⟩
          · obtain ⟨v1, v2, v3, v4, v5, v6, v7, v8, v9, va, vb, vc, vd, w1, w2, w3, w4, w5, w6, w7, w8, z1, z2, z3⟩ := r_absolve (eo := eo) hN hT hM h1 h2 hO hZ hH h
            rw [if_neg b_t, if_neg b_t, z1, z2, Option.bind_some, Option.bind_some]
            exact ⟨v1, v2, v3, dc, fc, dw, pc, ln, lt, v4, v5, v6, v7, v8, v9, va, vb, vc, vd, a, w1, w2, w3, w4, w5, w6, w7, w8, o, rfl, rfl, z3⟩
        · obtain ⟨v1, v2, v3, v4, v5, v6, v7, v8, v9, w0, w1, w2, w3, w4, w5, w6, w7, w8, w9, z1, z2, z3⟩ := r_audit (a := a) (o := o) (eo := eo) hNx hT hM h1 h2 hO hZ hH h
          rw [if_neg b_t, if_neg b_t, z1, z2, Option.bind_some, Option.bind_some]
          exact ⟨v1, v2, sd, dc, fc, dw, pc, ln, lt, tc, en, fr, v3, v4, v5, v6, v7, v8, v9, w0, w1, w2, w3, w4, w5, w6, w7, w8, w9, rfl, rfl, z3⟩
      · obtain ⟨v1, v2, v3, v4, v5, v6, v7, v8, v9, va, w1, w2, w3, w4, w5, w6, w7, w8, z1, z2, z3⟩ := r_throw (eo := eo) hN hT hM h1 h2 hO hZ hH h
        rw [if_neg b_t, if_neg b_t, z1, z2, Option.bind_some, Option.bind_some]
        exact ⟨v1, v2, v3, dc, fc, dw, pc, ln, lt, v4, v5, v6, oc, op, os, v7, v8, v9, va, a, w1, w2, w3, w4, w5, w6, w7, w8, o, rfl, rfl, z3⟩
    · obtain ⟨v1, v2, v3, v4, v5, v6, v7, v8, v9, w1, w2, w3, w4, w5, w6, w7, w8, z1, z2, z3⟩ := r_player (eo := eo) hN hT hM h1 h2 hO hZ hH h
      rw [if_neg b_t, if_neg b_t, z1, z2, Option.bind_some, Option.bind_some]
      exact ⟨v1, v2, sd, dc, fc, dw, v3, v4, v5, tc, en, fr, oc, op, os, v6, v7, v8, v9, a, w1, w2, w3, w4, w5, w6, w7, w8, o, rfl, rfl, z3⟩
  · obtain ⟨v1, v2, v3, v4, v5, v6, v7, v8, v9, w1, w2, w3, w4, w5, w6, w7, w8, z1, z2, z3⟩ := r_die (eo := eo) hN hT hM h1 h2 hO hZ hH h
    rw [if_neg b_t, if_neg b_t, z1, z2, Option.bind_some, Option.bind_some]
    exact ⟨v1, v2, sd, v3, v4, v5, pc, ln, lt, tc, en, fr, oc, op, os, v6, v7, v8, v9, a, w1, w2, w3, w4, w5, w6, w7, w8, o, rfl, rfl, z3⟩
/-- how a reading ends -/
def PF (fl ec eo sd mn th dc : Int32) (fc dw : Nat → Int32) (pc : Int32) (ln lt : Nat → Int32) (tc : Int32) (en fr : Nat → Int32) (oc : Int32) (op os : Nat → Int32) (code pl : Int32) (m : Nat → Int32) : Prop :=
  ZR fc ∧ eo = pl ∧ ((fl = nI 1 ∧ ec = nI 0 ∧ code = nI 0 ∧ ∃ g : Nat → Nat, Ok g ∧ MR m g ∧ HR g sd mn th dc fc dw pc ln lt tc en fr oc op os) ∨ (fl = nI 0 ∧ ∃ c : Nat, 0 < c ∧ c < 100 ∧ ec = nI c ∧ code = nI c))
theorem x_loop_e {N j i c : Nat} {tl eo : Int32} {tb : Nat → Int32} {sd : Int32} {mn : Int32} {th : Int32} {dc : Int32} {fc : Nat → Int32} {dw : Nat → Int32} {pc : Int32} {ln : Nat → Int32} {lt : Nat → Int32} {tc : Int32} {en : Nat → Int32} {fr : Nat → Int32} {oc : Int32} {op : Nat → Int32} {os : Nat → Int32} {kd ts te tv : Int32} (hi : i < 100000) (c1 : 0 < c) (c2 : c < 100) : f_X5_parse_L23 N tl tb (j + 1) (nI i) (nI c) eo sd mn th dc fc dw pc ln lt tc en fr oc op os kd ts te tv = some (nI 0, nI c, eo, sd, mn, th, dc, fc, dw, pc, ln, lt, tc, en, fr, oc, op, os, kd, ts, te, tv) := by
  have h47 : f_X5_parse_L47 N tl tb (nI c) eo sd mn th dc fc dw pc ln lt tc en fr oc op os kd ts te tv = some (nI 0, nI c, eo, sd, mn, th, dc, fc, dw, pc, ln, lt, tc, en, fr, oc, op, os, kd, ts, te, tv) := by
    unfold f_X5_parse_L47
    simp only [n_0, n_1, n_2, n_3, n_4, n_5, n_6, n_7, n_8, n_9, n_10, n_12, n_13, n_15, n_20, n_24, n_27, n_31, n_32, n_33, n_36, n_44, n_48, n_50, n_57, n_58, n_59, n_72, n_74, n_75, n_85, n_91, n_96, n_97, n_99, n_122, n_255, n_300, n_432, n_600, n_900, n_999, n_1000, n_1291, n_1399, n_2798, n_11192, n_65536, n_65537, n_99999999, n_1000000]
    rw [if_neg (c_n0 c1 c2)]
  show f_X5_parse_L23_F N tl tb (f_X5_parse_L23 N tl tb j) (nI i) (nI c) eo sd mn th dc fc dw pc ln lt tc en fr oc op os kd ts te tv = _
  unfold f_X5_parse_L23_F f_X5_hasMore
  simp only [n_0, n_1, n_2, n_3, n_4, n_5, n_6, n_7, n_8, n_9, n_10, n_12, n_13, n_15, n_20, n_24, n_27, n_31, n_32, n_33, n_36, n_44, n_48, n_50, n_57, n_58, n_59, n_72, n_74, n_75, n_85, n_91, n_96, n_97, n_99, n_122, n_255, n_300, n_432, n_600, n_900, n_999, n_1000, n_1291, n_1399, n_2798, n_11192, n_65536, n_65537, n_99999999, n_1000000]
  rw [if_neg (c_n0 c1 c2), Option.bind_some, h47]
  split
  · rfl
  · rw [if_pos rfl]
theorem r_loop {N L : Nat} {b : Nat → Nat} {tb mi : Nat → Int32} (hN : 2000 < N) (hT : TR b L tb) (hM : TR b L mi) : ∀ (n s i jc jm : Nat) (g : Nat → Nat) (m o : Nat → Int32) (a sd mn th dc : Int32) (fc dw : Nat → Int32) (pc : Int32) (ln lt : Nat → Int32) (tc : Int32) (en fr : Nat → Int32) (oc : Int32) (op os : Nat → Int32) (kd ts te tv po st tk vl lw eo : Int32), s + n = L → n + 1 < jc → n + 1 < jm → i ≤ s → TC b L s kd ts te tv → TM b L s po st tk vl lw → Ok g → ZR fc → HR g sd mn th dc fc dw pc ln lt tc en fr oc op os → MR m g → ∃ fl ec' eo' sd1 mn1 th1 dc1 fc1 dw1 pc1 ln1 lt1 tc1 en1 fr1 oc1 op1 os1 kd' ts' te' tv' a' po' st' tk' vl' lw' code' pl' m' o', f_X5_parse_L23 N (nI L) tb jc (nI i) (nI 0) eo sd mn th dc fc dw pc ln lt tc en fr oc op os kd ts te tv = some (fl, ec', eo', sd1, mn1, th1, dc1, fc1, dw1, pc1, ln1, lt1, tc1, en1, fr1, oc1, op1, os1, kd', ts', te', tv') ∧ f_X11_read_L103 N (nI L) mi jm a po st tk vl lw (nI 0) eo m o = some (a', po', st', tk', vl', lw', code', pl', m', o') ∧ PF fl ec' eo' sd1 mn1 th1 dc1 fc1 dw1 pc1 ln1 lt1 tc1 en1 fr1 oc1 op1 os1 code' pl' m' := by
  intro n
  induction n using Nat.strongRecOn with
  | ind n ih =>
    intro s i jc jm g m o a sd mn th dc fc dw pc ln lt tc en fr oc op os kd ts te tv po st tk vl lw eo h1 h2 h3 h4 hC hK hO hZ hH h
    obtain ⟨jc, rfl⟩ : ∃ t, jc = t + 1 := ⟨jc - 1, by omega⟩
    obtain ⟨jm, rfl⟩ : ∃ t, jm = t + 1 := ⟨jm - 1, by omega⟩
    obtain ⟨m1, m2, m3, m4, m5⟩ := tkM_eq (@tkK_le b L s)
    have hkl := @tkK_le b L s
    have hL := hT.1
    obtain ⟨e1, e2, e3, -⟩ := tkE_s (b := b) hC.1
    have hkd := hC.2.1
    have htk := hK.2.2.2.1
    show ∃ fl ec' eo' sd1 mn1 th1 dc1 fc1 dw1 pc1 ln1 lt1 tc1 en1 fr1 oc1 op1 os1 kd' ts' te' tv' a' po' st' tk' vl' lw' code' pl' m' o', f_X5_parse_L23_F N (nI L) tb (f_X5_parse_L23 N (nI L) tb jc) (nI i) (nI 0) eo sd mn th dc fc dw pc ln lt tc en fr oc op os kd ts te tv = some (fl, ec', eo', sd1, mn1, th1, dc1, fc1, dw1, pc1, ln1, lt1, tc1, en1, fr1, oc1, op1, os1, kd', ts', te', tv') ∧ f_X11_read_L103_F N (nI L) mi (f_X11_read_L103 N (nI L) mi jm) a po st tk vl lw (nI 0) eo m o = some (a', po', st', tk', vl', lw', code', pl', m', o') ∧ _
    by_cases hk : tkK b L s = 0
    · refine ⟨nI 1, nI 0, eo, sd, mn, th, dc, fc, dw, pc, ln, lt, tc, en, fr, oc, op, os, kd, ts, te, tv, a, po, st, tk, vl, lw, nI 0, eo, m, o, ?_, ?_, hZ, rfl, Or.inl ⟨rfl, rfl, rfl, g, hO, h, hH⟩⟩
      · have h47 : f_X5_parse_L47 N (nI L) tb (nI 0) eo sd mn th dc fc dw pc ln lt tc en fr oc op os kd ts te tv = some (nI 1, nI 0, eo, sd, mn, th, dc, fc, dw, pc, ln, lt, tc, en, fr, oc, op, os, kd, ts, te, tv) := by
          unfold f_X5_parse_L47
          simp only [n_0, n_1, n_2, n_3, n_4, n_5, n_6, n_7, n_8, n_9, n_10, n_12, n_13, n_15, n_20, n_24, n_27, n_31, n_32, n_33, n_36, n_44, n_48, n_50, n_57, n_58, n_59, n_72, n_74, n_75, n_85, n_91, n_96, n_97, n_99, n_122, n_255, n_300, n_432, n_600, n_900, n_999, n_1000, n_1291, n_1399, n_2798, n_11192, n_65536, n_65537, n_99999999, n_1000000]
          rw [if_pos trivial]
        unfold f_X5_parse_L23_F f_X5_hasMore
        simp only [n_0, n_1, n_2, n_3, n_4, n_5, n_6, n_7, n_8, n_9, n_10, n_12, n_13, n_15, n_20, n_24, n_27, n_31, n_32, n_33, n_36, n_44, n_48, n_50, n_57, n_58, n_59, n_72, n_74, n_75, n_85, n_91, n_96, n_97, n_99, n_122, n_255, n_300, n_432, n_600, n_900, n_999, n_1000, n_1291, n_1399, n_2798, n_11192, n_65536, n_65537, n_99999999, n_1000000]
        rw [if_pos trivial, if_pos (show kd = nI 0 by rw [hkd, hk]), Option.bind_some, h47]
        split
        · rfl
        · rw [if_pos rfl]
      · unfold f_X11_read_L103_F
        simp only [n_0, n_1, n_2, n_3, n_4, n_5, n_6, n_7, n_8, n_9, n_10, n_12, n_13, n_15, n_20, n_24, n_27, n_31, n_32, n_33, n_36, n_44, n_48, n_50, n_57, n_58, n_59, n_72, n_74, n_75, n_85, n_91, n_96, n_97, n_99, n_122, n_255, n_300, n_432, n_600, n_900, n_999, n_1000, n_1291, n_1399, n_2798, n_11192, n_65536, n_65537, n_99999999, n_1000000]
        rw [if_pos trivial, if_pos (show tk = nI 0 by rw [htk, m4.mpr hk])]
    · obtain ⟨hsL, hse⟩ := e3 hk
      obtain ⟨ec', eo', sd1, dc1, fc1, dw1, pc1, ln1, lt1, tc1, en1, fr1, oc1, op1, os1, kd', ts', te', tv', a', po', st', tk', vl', lw', code', pl', m', o', z1, z2, z3, z4⟩ := r_stmt (a := a) (o := o) (eo := eo) hN hT hM hC hK hO hZ hH h
      have hc1 : f_X5_parse_L23_F N (nI L) tb (f_X5_parse_L23 N (nI L) tb jc) (nI i) (nI 0) eo sd mn th dc fc dw pc ln lt tc en fr oc op os kd ts te tv = f_X5_parse_L23 N (nI L) tb jc (nI (i + 1)) ec' eo' sd1 mn th dc1 fc1 dw1 pc1 ln1 lt1 tc1 en1 fr1 oc1 op1 os1 kd' ts' te' tv' := by
        unfold f_X5_parse_L23_F f_X5_hasMore
        simp only [n_0, n_1, n_2, n_3, n_4, n_5, n_6, n_7, n_8, n_9, n_10, n_12, n_13, n_15, n_20, n_24, n_27, n_31, n_32, n_33, n_36, n_44, n_48, n_50, n_57, n_58, n_59, n_72, n_74, n_75, n_85, n_91, n_96, n_97, n_99, n_122, n_255, n_300, n_432, n_600, n_900, n_999, n_1000, n_1291, n_1399, n_2798, n_11192, n_65536, n_65537, n_99999999, n_1000000]
        rw [if_neg (show ¬ nI 600 ≤ nI i by rw [q_le (by omega) (by omega)]; omega), if_pos trivial, if_neg (show ¬ kd = nI 0 by rw [hkd, q_eq (by omega) (by omega)]; exact hk), Option.bind_some, if_neg (c_n0 (c := 1) (by omega) (by omega)), z1, Option.bind_some, nI_add]
      have hm1 : f_X11_read_L103_F N (nI L) mi (f_X11_read_L103 N (nI L) mi jm) a po st tk vl lw (nI 0) eo m o = f_X11_read_L103 N (nI L) mi jm a' po' st' tk' vl' lw' code' pl' m' o' := by
        unfold f_X11_read_L103_F
        simp only [n_0, n_1, n_2, n_3, n_4, n_5, n_6, n_7, n_8, n_9, n_10, n_12, n_13, n_15, n_20, n_24, n_27, n_31, n_32, n_33, n_36, n_44, n_48, n_50, n_57, n_58, n_59, n_72, n_74, n_75, n_85, n_91, n_96, n_97, n_99, n_122, n_255, n_300, n_432, n_600, n_900, n_999, n_1000, n_1291, n_1399, n_2798, n_11192, n_65536, n_65537, n_99999999, n_1000000]
        rw [if_pos trivial, if_neg (show ¬ tk = nI 0 by rw [htk, q_eq (by omega) (by omega)]; exact fun x => hk (m4.mp x)), z2, Option.bind_some]
      rw [hc1, hm1]
      rcases z4 with ⟨g', s', w1, w2, w3, w4, w5, w6, w7, w8, w9⟩ | ⟨c, w1, w2, w3, w4, w5⟩
      · subst w1 w2 w3
        have hs'L := w5.1
        exact ih (L - s') (by omega) s' (i + 1) jc jm g' m' o' a' sd1 mn th dc1 fc1 dw1 pc1 ln1 lt1 tc1 en1 fr1 oc1 op1 os1 kd' ts' te' tv' po' st' tk' vl' lw' eo' (by omega) (by omega) (by omega) (by omega) w5 w6 w7 z3 w9 w8
      · subst w3 w4 w5
        obtain ⟨jc, rfl⟩ : ∃ t, jc = t + 1 := ⟨jc - 1, by omega⟩
        obtain ⟨jm, rfl⟩ : ∃ t, jm = t + 1 := ⟨jm - 1, by omega⟩
        refine ⟨nI 0, nI c, eo', sd1, mn, th, dc1, fc1, dw1, pc1, ln1, lt1, tc1, en1, fr1, oc1, op1, os1, kd', ts', te', tv', a', po', st', tk', vl', lw', nI c, eo', m', o', x_loop_e (by omega) w1 w2, ?_, z3, rfl, Or.inr ⟨rfl, c, w1, w2, rfl, rfl⟩⟩
        show f_X11_read_L103_F N (nI L) mi (f_X11_read_L103 N (nI L) mi jm) a' po' st' tk' vl' lw' (nI c) eo' m' o' = _
        unfold f_X11_read_L103_F
        simp only [n_0, n_1, n_2, n_3, n_4, n_5, n_6, n_7, n_8, n_9, n_10, n_12, n_13, n_15, n_20, n_24, n_27, n_31, n_32, n_33, n_36, n_44, n_48, n_50, n_57, n_58, n_59, n_72, n_74, n_75, n_85, n_91, n_96, n_97, n_99, n_122, n_255, n_300, n_432, n_600, n_900, n_999, n_1000, n_1291, n_1399, n_2798, n_11192, n_65536, n_65537, n_99999999, n_1000000]
        rw [if_neg (c_n0 w1 w2)]
/-- the row of an empty hall -/
def gH (x y z : Nat) : Nat → Nat := fun k => if k = 0 then x else if k = 1 then y else if k = 2 then z else 0
theorem gH_n {x y z k : Nat} (h : 3 ≤ k) : gH x y z k = 0 := by
  unfold gH
  rw [if_neg (by omega), if_neg (by omega), if_neg (by omega)]
theorem gH_ok {x y z : Nat} (h1 : x ≤ 65536) (h2 : 1 ≤ y) (h3 : y ≤ 99) (h4 : z ≤ 999) : Ok (gH x y z) := by
  have e3 : gH x y z 3 = 0 := gH_n (by omega)
  have e4 : gH x y z 4 = 0 := gH_n (by omega)
  have e5 : gH x y z 5 = 0 := gH_n (by omega)
  have e6 : gH x y z 6 = 0 := gH_n (by omega)
  refine ⟨?_, fun d hd => by omega, ⟨fun p hp => by omega, fun p p' hp => by omega⟩, fun k hk => by omega, ⟨fun r hr => by omega, fun r r' hr => by omega⟩⟩
  unfold okB
  rw [e3, e4, e5, e6]
  exact ⟨h1, h2, h3, h4, by omega, by omega, by omega, by omega⟩
theorem gH_R {x y z : Nat} {fc dw ln lt en fr op os : Nat → Int32} (hf : ∀ t, t < 432 → fr t = nI 0) : HR (gH x y z) (nI x) (nI y) (nI z) (nI 0) fc dw (nI 0) ln lt (nI 0) en fr (nI 0) op os := by
  have e3 : gH x y z 3 = 0 := gH_n (by omega)
  have e4 : gH x y z 4 = 0 := gH_n (by omega)
  have e5 : gH x y z 5 = 0 := gH_n (by omega)
  have e6 : gH x y z 6 = 0 := gH_n (by omega)
  refine ⟨⟨rfl, rfl, rfl, by rw [e3], by rw [e4], by rw [e5], by rw [e6]⟩, fun d hd => by omega, fun p hp => by omega, fun k hk => by omega, fun q hq f hf2 => ?_, fun r hr => by omega⟩
  rw [hf _ (by omega)]
  unfold cF
  rw [e5]
  rfl
theorem gH_M {x y z : Nat} {m : Nat → Int32} (hm : ∀ t, t < 1399 → m t = nI 0) : MR (upd (upd (upd m 0 (nI x)) 1 (nI y)) 2 (nI z)) (gH x y z) := by
  intro k hk
  unfold gH
  by_cases c2 : k = 2
  · rw [q_us c2, if_neg (by omega), if_neg (by omega), if_pos c2]
  · rw [q_un c2]
    by_cases c1 : k = 1
    · rw [q_us c1, if_neg (by omega), if_pos c1]
    · rw [q_un c1]
      by_cases c0 : k = 0
      · rw [q_us c0, if_pos c0]
      · rw [q_un c0, if_neg c0, if_neg c1, if_neg c2]
        exact hm k hk
/-- the model's row is emptied first -/
theorem y_zeroL {N : Nat} {tl a po st tk vl lw code pl : Int32} {mi o : Nat → Int32} : ∀ (k i j : Nat) (m : Nat → Int32), i + k = 1399 → k < j → (∀ t, t < i → m t = nI 0) → ∃ m', (∀ t, t < 1399 → m' t = nI 0) ∧ f_X11_read_L17 N tl mi j (nI i) a po st tk vl lw code pl m o = f_X11_read_L17_F N tl mi (fun _ _ _ _ _ _ _ _ _ _ _ => none) (nI 1399) a po st tk vl lw code pl m' o := by
  intro k
  induction k with
  | zero =>
    intro i j m h1 h2 h3
    obtain ⟨j, rfl⟩ : ∃ t, j = t + 1 := ⟨j - 1, by omega⟩
    have e : i = 1399 := by omega
    subst e
    refine ⟨m, h3, ?_⟩
    show f_X11_read_L17_F N tl mi (f_X11_read_L17 N tl mi j) (nI 1399) a po st tk vl lw code pl m o = _
    unfold f_X11_read_L17_F
    simp only [n_0, n_1, n_2, n_3, n_4, n_5, n_6, n_7, n_8, n_9, n_10, n_12, n_13, n_15, n_20, n_24, n_27, n_31, n_32, n_33, n_36, n_44, n_48, n_50, n_57, n_58, n_59, n_72, n_74, n_75, n_85, n_91, n_96, n_97, n_99, n_122, n_255, n_300, n_432, n_600, n_900, n_999, n_1000, n_1291, n_1399, n_2798, n_11192, n_65536, n_65537, n_99999999, n_1000000]
    rw [if_pos (by rw [q_le (by omega) (by omega)]; omega), if_pos (by rw [q_le (by omega) (by omega)]; omega)]
  | succ k ih =>
    intro i j m h1 h2 h3
    obtain ⟨j, rfl⟩ : ∃ t, j = t + 1 := ⟨j - 1, by omega⟩
    obtain ⟨m', a1, a2⟩ := ih (i + 1) j (upd m i (nI 0)) (by omega) (by omega) (fun t ht => by
      by_cases c : t = i
      · rw [q_us c]
      · rw [q_un c]; exact h3 t (by omega))
    refine ⟨m', a1, ?_⟩
    rw [← a2]
    show f_X11_read_L17_F N tl mi (f_X11_read_L17 N tl mi j) (nI i) a po st tk vl lw code pl m o = _
    unfold f_X11_read_L17_F
    simp only [n_0, n_1, n_2, n_3, n_4, n_5, n_6, n_7, n_8, n_9, n_10, n_12, n_13, n_15, n_20, n_24, n_27, n_31, n_32, n_33, n_36, n_44, n_48, n_50, n_57, n_58, n_59, n_72, n_74, n_75, n_85, n_91, n_96, n_97, n_99, n_122, n_255, n_300, n_432, n_600, n_900, n_999, n_1000, n_1291, n_1399, n_2798, n_11192, n_65536, n_65537, n_99999999, n_1000000]
    rw [if_neg (by rw [q_le (by omega) (by omega)]; omega), q_gi (by omega) (by omega), q_cl (by omega), nI_add]
