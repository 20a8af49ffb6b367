/-! how it begins -/
theorem fTR (i : Nat) (hi : i < 134) {tb : Nat → Int32} (h : TR fb i tb) : TR fb (i + 1) (upd tb i (nI (fb i))) := by
  refine ⟨by omega, fun t ht => ?_⟩
  by_cases c : t = i
  · subst c
    exact ⟨fb_lt t hi, q_us rfl⟩
  · rw [q_un c]
    exact h.2 t (by omega)
theorem i_strL {N : Nat} : ∀ (k i j : Nat) (tb : Nat → Int32), i + k = 134 → k < j → TR fb i tb → ∃ tb', f_X8_appendString_L2 N 0 j (nI i) (nI i) tb = some (nI 134, tb') ∧ TR fb 134 tb' := by
  intro k
  induction k with
  | zero =>
    intro i j tb h1 h2 h3
    obtain ⟨j, rfl⟩ : ∃ t, j = t + 1 := ⟨j - 1, by omega⟩
    have e : i = 134 := by omega
    subst e
    refine ⟨tb, ?_, h3⟩
    show f_X8_appendString_L2_F N 0 (f_X8_appendString_L2 N 0 j) (nI 134) (nI 134) tb = _
    unfold f_X8_appendString_L2_F
    rw [f_kl, if_pos (by rw [q_le (by omega) (by omega)]; omega)]
  | succ k ih =>
    intro i j tb h1 h2 h3
    obtain ⟨j, rfl⟩ : ∃ t, j = t + 1 := ⟨j - 1, by omega⟩
    obtain ⟨tb', e1, e2⟩ := ih (i + 1) j (upd tb i (nI (fb i))) (by omega) (by omega) (fTR i (by omega) h3)
    refine ⟨tb', ?_, e2⟩
    show f_X8_appendString_L2_F N 0 (f_X8_appendString_L2 N 0 j) (nI i) (nI i) tb = _
    unfold f_X8_appendString_L2_F f_X8_append
    simp only [n_0, n_1, n_2, n_3, n_4, n_5, n_6, n_7, n_8, n_9, n_10, n_12, n_13, n_15, n_20, n_24, n_27, n_31, n_32, n_33, n_36, n_44, n_48, n_50, n_57, n_58, n_59, n_72, n_74, n_75, n_85, n_91, n_96, n_97, n_99, n_122, n_255, n_300, n_432, n_600, n_900, n_999, n_1000, n_1291, n_1399, n_2798, n_11192, n_65536, n_65537, n_99999999, n_1000000]
    rw [f_kl, if_neg (by rw [q_le (by omega) (by omega)]; omega), f_kn, q_gi (by omega) (by omega), if_neg (by rw [q_le (by omega) (by omega)]; omega), fb_k i (by omega), e_put (by omega) (by omega), Option.bind_some, Option.bind_some, nI_add]
    exact e1
theorem i_layL {N : Nat} {x : Int32} : ∀ (k i j : Nat) (tb : Nat → Int32), i + k = 134 → k < j → TR fb i tb → ∃ tb', f_X11_layInput_L2 N 0 j (nI i) x tb = some (nI 134, tb') ∧ TR fb 134 tb' := by
  intro k
  induction k with
  | zero =>
    intro i j tb h1 h2 h3
    obtain ⟨j, rfl⟩ : ∃ t, j = t + 1 := ⟨j - 1, by omega⟩
    have e : i = 134 := by omega
    subst e
    refine ⟨tb, ?_, h3⟩
    show f_X11_layInput_L2_F N 0 (f_X11_layInput_L2 N 0 j) (nI 134) x tb = _
    unfold f_X11_layInput_L2_F
    rw [f_kl, if_pos (by rw [q_le (by omega) (by omega)]; omega)]
  | succ k ih =>
    intro i j tb h1 h2 h3
    obtain ⟨j, rfl⟩ : ∃ t, j = t + 1 := ⟨j - 1, by omega⟩
    obtain ⟨tb', e1, e2⟩ := ih (i + 1) j (upd tb i (nI (fb i))) (by omega) (by omega) (fTR i (by omega) h3)
    refine ⟨tb', ?_, e2⟩
    show f_X11_layInput_L2_F N 0 (f_X11_layInput_L2 N 0 j) (nI i) x tb = _
    unfold f_X11_layInput_L2_F
    simp only [n_0, n_1, n_2, n_3, n_4, n_5, n_6, n_7, n_8, n_9, n_10, n_12, n_13, n_15, n_20, n_24, n_27, n_31, n_32, n_33, n_36, n_44, n_48, n_50, n_57, n_58, n_59, n_72, n_74, n_75, n_85, n_91, n_96, n_97, n_99, n_122, n_255, n_300, n_432, n_600, n_900, n_999, n_1000, n_1291, n_1399, n_2798, n_11192, n_65536, n_65537, n_99999999, n_1000000]
    rw [f_kl, if_neg (by rw [q_le (by omega) (by omega)]; omega), f_kn, q_gi (by omega) (by omega), q_gi (by omega) (by omega), q_cl (by omega), fb_k i (by omega), nI_add]
    exact e1
theorem i_all : ∃ tb fl ec eo sd mn th dc fc dw pc ln lt tc en fr oc op os kd ts te tv t4 mi a po st tk vl lw pl m o u3, f_X8_appendString 3000 0 0 (fun _ => 0) = some (nI 134, tb) ∧ f_X5_parse 3000 (nI 134) tb 0 (-1) 0 1 0 0 (fun _ => 0) (fun _ => 0) 0 (fun _ => 0) (fun _ => 0) 0 (fun _ => 0) (fun _ => 0) 0 (fun _ => 0) (fun _ => 0) 0 0 0 0 = some (fl, ec, eo, sd, mn, th, dc, fc, dw, pc, ln, lt, tc, en, fr, oc, op, os, kd, ts, te, tv) ∧ f_X2_copyFrom sd mn th dc fc dw pc ln lt tc en fr oc op os 0 1 0 0 (fun _ => 0) (fun _ => 0) 0 (fun _ => 0) (fun _ => 0) 0 (fun _ => 0) (fun _ => 0) 0 (fun _ => 0) (fun _ => 0) = some t4 ∧ f_X11_layInput 3000 0 0 (fun _ => 0) = some (nI 134, mi) ∧ f_X11_read 3000 (nI 134) mi 0 0 0 0 0 0 0 (-1) (fun _ => 0) (fun _ => 0) = some (a, po, st, tk, vl, lw, ec, pl, m, o) ∧ f_X11_copyRow 3000 1399 m 1399 (fun _ => 0) 0 0 = some u3 ∧ RowOK t4 u3 ∧ ZR fc ∧ eo = pl := by
  obtain ⟨tb, a1, a2⟩ := i_strL (N := 3000) 134 0 3000 (fun _ => 0) (by omega) (by omega) ⟨by omega, fun t ht => by omega⟩
  obtain ⟨mi, b1, b2⟩ := i_layL (N := 3000) (x := 0) 134 0 3000 (fun _ => 0) (by omega) (by omega) ⟨by omega, fun t ht => by omega⟩
  have hZ : ZR (fun _ => (0 : Int32)) := fun d hd => ⟨0, by omega, nI_0.symm⟩
  have hF : TR fb 134 fmi := ⟨by omega, fun t ht => ⟨fb_lt t ht, rfl⟩⟩
  obtain ⟨fl, ec', eo', sd1, mn1, th1, dc1, fc1, dw1, pc1, ln1, lt1, tc1, en1, fr1, oc1, op1, os1, kd', ts', te', tv', a', po', st', tk', vl', lw', code', pl', m', o', k1, k2, k3, k4, k5⟩ := r_all (N := 3000) (sd := 0) (mn := 1) (th := 0) (dc := 0) (fc := fun _ => 0) (dw := fun _ => 0) (pc := 0) (ln := fun _ => 0) (lt := fun _ => 0) (tc := 0) (en := fun _ => 0) (fr := fun _ => 0) (oc := 0) (op := fun _ => 0) (os := fun _ => 0) (m := fun _ => 0) (o := fun _ => 0) (a := 0) (ec := 0) (eo := -1) (kd := 0) (ts := 0) (te := 0) (tv := 0) (po := 0) (st := 0) (tk := 0) (vl := 0) (lw := 0) (code := 0) (pl := -1) (by omega) a2 hF hZ
  have hc := f_code
  rw [k2] at hc
  have hc : code' = 0 := Option.some.inj hc
  have hfl : fl = nI 1 := by
    rcases k5 with ⟨h1, _⟩ | ⟨_, c, c1, c2, _, h3⟩
    · exact h1
    · rw [h3, ← nI_0] at hc
      exact absurd hc (c_n0 c1 c2)
  obtain ⟨fl2, ec2, eo2, sd2, mn2, th2, dc2, fc2, dw2, pc2, ln2, lt2, tc2, en2, fr2, oc2, op2, os2, kd2, ts2, te2, tv2, a2', po2, st2, tk2, vl2, lw2, code2, pl2, m2, o2, j1, j2, j3, j4, j5⟩ := r_all (N := 3000) (sd := 0) (mn := 1) (th := 0) (dc := 0) (fc := fun _ => 0) (dw := fun _ => 0) (pc := 0) (ln := fun _ => 0) (lt := fun _ => 0) (tc := 0) (en := fun _ => 0) (fr := fun _ => 0) (oc := 0) (op := fun _ => 0) (os := fun _ => 0) (m := fun _ => 0) (o := fun _ => 0) (a := 0) (ec := 0) (eo := -1) (kd := 0) (ts := 0) (te := 0) (tv := 0) (po := 0) (st := 0) (tk := 0) (vl := 0) (lw := 0) (code := 0) (pl := -1) (by omega) a2 b2 hZ
  have hfl2 : fl2 = nI 1 := by
    have h := Option.some.inj (k1.symm.trans j1)
    have h2 : fl = fl2 := congrArg Prod.fst h
    exact h2.symm.trans hfl
  rcases j5 with ⟨_, h1, h2, g, g1, g2, g3⟩ | ⟨h1, _⟩
  · obtain ⟨q', q1, q2, q3⟩ := m_copy (N := 3000) (gn := 1399) (qn := 1399) (a := 0) (b := 0) (gf := m2) (qf := fun _ => 0) (by omega) (by omega) (by omega) (by omega) (by omega)
    rw [nI_0] at q1
    have q4 : MR q' g := fun k hk => by
      have := q2 k hk
      rw [Nat.zero_add] at this
      rw [this]
      exact g2 k hk
    have hec : ec2 = code2 := h1.trans h2.symm
    subst hec
    have e0 : f_X8_appendString 3000 0 0 (fun _ => 0) = some (nI 134, tb) := by
      unfold f_X8_appendString
      rw [← nI_0]
      rw [← nI_0] at a1
      exact a1
    have e1 : f_X11_layInput 3000 0 0 (fun _ => 0) = some (nI 134, mi) := by
      unfold f_X11_layInput
      rw [← nI_0]
      rw [← nI_0] at b1
      exact b1
    exact ⟨tb, fl2, ec2, eo2, sd2, mn2, th2, dc2, fc2, dw2, pc2, ln2, lt2, tc2, en2, fr2, oc2, op2, os2, kd2, ts2, te2, tv2, _, mi, a2', po2, st2, tk2, vl2, lw2, pl2, m2, o2, q', e0, j1, e_copyHall, e1, j2, q1, ⟨g, g1, HR_cpy (sd1 := nI 0) (mn1 := nI 0) (th1 := nI 0) (dc1 := nI 0) (pc1 := nI 0) (tc1 := nI 0) (oc1 := nI 0) g1 g3, ZR_cpy j3, q4⟩, j3, j4⟩
  · rw [hfl2] at h1
    exact absurd h1 (by decide +kernel)
