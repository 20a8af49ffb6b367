/-! the history and the slots -/
theorem m_copyL {N gn qn a b : Nat} {gf q0 : Nat → Int32} (ha : a + 1399 ≤ gn) (hb : b + 1399 ≤ qn) (hg : gn < 1000000) (hq : qn < 1000000) : ∀ (k i j : Nat) (qf : Nat → Int32), i + k = 1399 → k < j → (∀ t, t < i → qf (b + t) = gf (a + t)) → (∀ t, t < b ∨ b + i ≤ t → qf t = q0 t) → ∃ qf', f_X11_copyRow_L3 N gn gf qn j (nI a) (nI b) (nI i) qf = some qf' ∧ (∀ t, t < 1399 → qf' (b + t) = gf (a + t)) ∧ ∀ t, t < b ∨ b + 1399 ≤ t → qf' t = q0 t := by
  intro k
  induction k with
  | zero =>
    intro i j qf h1 h2 h3 h4
    obtain ⟨j, rfl⟩ : ∃ t, j = t + 1 := ⟨j - 1, by omega⟩
    have e : i = 1399 := by omega
    subst e
    refine ⟨qf, ?_, h3, h4⟩
    simp (disch := omega) only [n_0, n_1, n_2, n_3, n_4, n_5, n_6, n_7, n_8, n_9, n_10, n_12, n_13, n_15, n_20, n_24, n_27, n_31, n_32, n_33, n_36, n_44, n_48, n_50, n_57, n_58, n_59, n_72, n_74, n_75, n_85, n_91, n_96, n_97, n_99, n_122, n_255, n_300, n_432, n_600, n_900, n_999, n_1000, n_1291, n_1399, n_2798, n_11192, n_65536, n_65537, n_99999999, n_1000000, nI_add, pk_mul, q_le, q_lt, q_eq, q_cl, q_gi, q_gz, q_sub, q_div, q_dm, d_dm, q_m1, q_mn, q_nm, q_mlt, q_ltm, q_mle, q_lem, q_mm, Option.bind_some, if_true, if_false, Nat.add_zero, ite_self, q_us, q_un, decide_true, decide_false, Bool.false_eq_true, eq_self, and_self, and_true, true_and, and_false, false_and, or_true, true_or, or_false, false_or, d_ltT, d_ltF, d_leT, d_leF, d_eqT, d_eqF, f_X11_copyRow_L3, f_X11_copyRow_L3_F]
  | succ k ih =>
    intro i j qf h1 h2 h3 h4
    obtain ⟨j, rfl⟩ : ∃ t, j = t + 1 := ⟨j - 1, by omega⟩
    obtain ⟨qf', e1, e2, e3⟩ := ih (i + 1) j (upd qf (b + i) (gf (a + i))) (by omega) (by omega) (fun t ht => by
      by_cases c : t = i
      · subst c; exact q_us rfl
      · rw [q_un (by omega)]; exact h3 t (by omega)) (fun t ht => by
        rw [q_un (by omega)]; exact h4 t (by omega))
    refine ⟨qf', ?_, e2, e3⟩
    show f_X11_copyRow_L3_F N gn gf qn (f_X11_copyRow_L3 N gn gf qn j) (nI a) (nI b) (nI i) qf = _
    unfold f_X11_copyRow_L3_F
    simp only [n_0, n_1, n_2, n_3, n_4, n_5, n_6, n_7, n_8, n_9, n_10, n_12, n_13, n_15, n_20, n_24, n_27, n_31, n_32, n_33, n_36, n_44, n_48, n_50, n_57, n_58, n_59, n_72, n_74, n_75, n_85, n_91, n_96, n_97, n_99, n_122, n_255, n_300, n_432, n_600, n_900, n_999, n_1000, n_1291, n_1399, n_2798, n_11192, n_65536, n_65537, n_99999999, n_1000000]
    rw [if_neg (by rw [q_le (by omega) (by omega)]; omega), nI_add, nI_add, nI_add, q_gi (by omega) (by omega), q_gi (by omega) (by omega), q_cl (by omega), q_cl (by omega)]
    exact e1
theorem m_copy {N gn qn a b : Nat} {gf qf : Nat → Int32} (hN : 2000 < N) (ha : a + 1399 ≤ gn) (hb : b + 1399 ≤ qn) (hg : gn < 1000000) (hq : qn < 1000000) : ∃ qf', f_X11_copyRow N gn gf qn qf (nI a) (nI b) = some qf' ∧ (∀ t, t < 1399 → qf' (b + t) = gf (a + t)) ∧ ∀ t, t < b ∨ b + 1399 ≤ t → qf' t = qf t := by
  obtain ⟨qf', e1, e2, e3⟩ := m_copyL (N := N) (gf := gf) (q0 := qf) ha hb hg hq 1399 0 N qf (by omega) (by omega) (fun t ht => by omega) (fun t ht => rfl)
  refine ⟨qf', ?_, e2, e3⟩
  unfold f_X11_copyRow
  simp only [n_0, n_1, n_2, n_3, n_4, n_5, n_6, n_7, n_8, n_9, n_10, n_12, n_13, n_15, n_20, n_24, n_27, n_31, n_32, n_33, n_36, n_44, n_48, n_50, n_57, n_58, n_59, n_72, n_74, n_75, n_85, n_91, n_96, n_97, n_99, n_122, n_255, n_300, n_432, n_600, n_900, n_999, n_1000, n_1291, n_1399, n_2798, n_11192, n_65536, n_65537, n_99999999, n_1000000]
  exact e1
abbrev HC : Type := Int32 × Int32 × Int32 × Int32 × (Nat → Int32) × (Nat → Int32) × Int32 × (Nat → Int32) × (Nat → Int32) × Int32 × (Nat → Int32) × (Nat → Int32) × Int32 × (Nat → Int32) × (Nat → Int32)
def RowOK (h : HC) (m : Nat → Int32) : Prop := ∃ g : Nat → Nat, Ok g ∧ HR g h.1 h.2.1 h.2.2.1 h.2.2.2.1 h.2.2.2.2.1 h.2.2.2.2.2.1 h.2.2.2.2.2.2.1 h.2.2.2.2.2.2.2.1 h.2.2.2.2.2.2.2.2.1 h.2.2.2.2.2.2.2.2.2.1 h.2.2.2.2.2.2.2.2.2.2.1 h.2.2.2.2.2.2.2.2.2.2.2.1 h.2.2.2.2.2.2.2.2.2.2.2.2.1 h.2.2.2.2.2.2.2.2.2.2.2.2.2.1 h.2.2.2.2.2.2.2.2.2.2.2.2.2.2 ∧ ZR h.2.2.2.2.1 ∧ MR m g
def mkH (sd mn th dc : Int32) (fc dw : Nat → Int32) (pc : Int32) (ln lt : Nat → Int32) (tc : Int32) (en fr : Nat → Int32) (oc : Int32) (op os : Nat → Int32) : HC := (sd, mn, th, dc, fc, dw, pc, ln, lt, tc, en, fr, oc, op, os)
def cpH (sd mn th dc : Int32) (fc dw : Nat → Int32) (pc : Int32) (ln lt : Nat → Int32) (tc : Int32) (en fr : Nat → Int32) (oc : Int32) (op os : Nat → Int32) (h : HC) : HC := (sd, mn, th, dc, va_cpy fc h.2.2.2.2.1 0 0 6, va_cpy dw h.2.2.2.2.2.1 0 0 72, pc, va_cpy ln h.2.2.2.2.2.2.2.1 0 0 6, va_cpy lt h.2.2.2.2.2.2.2.2.1 0 0 24, tc, va_cpy en h.2.2.2.2.2.2.2.2.2.2.1 0 0 300, va_cpy fr h.2.2.2.2.2.2.2.2.2.2.2.1 0 0 432, oc, va_cpy op h.2.2.2.2.2.2.2.2.2.2.2.2.2.1 0 0 36, va_cpy os h.2.2.2.2.2.2.2.2.2.2.2.2.2.2 0 0 36)
theorem RowOK_m {h : HC} {m m' : Nat → Int32} (hr : RowOK h m) (e : ∀ k, k < 1399 → m' k = m k) : RowOK h m' := by
  obtain ⟨g, h1, h2, h3, h4⟩ := hr
  exact ⟨g, h1, h2, h3, fun k hk => by rw [e k hk]; exact h4 k hk⟩
theorem cpH_ok {N : Nat} {g : Nat → Nat} {m : Nat → Int32} {sd : Int32} {mn : Int32} {th : Int32} {dc : Int32} {fc : Nat → Int32} {dw : Nat → Int32} {pc : Int32} {ln : Nat → Int32} {lt : Nat → Int32} {tc : Int32} {en : Nat → Int32} {fr : Nat → Int32} {oc : Int32} {op : Nat → Int32} {os : Nat → Int32} (h : QC N g m sd mn th dc fc dw pc ln lt tc en fr oc op os) (v : HC) : RowOK (cpH sd mn th dc fc dw pc ln lt tc en fr oc op os v) m := by
  obtain ⟨hN, hO, hH, hZ, hM⟩ := h
  exact ⟨g, hO, HR_cpy (sd1 := nI 0) (mn1 := nI 0) (th1 := nI 0) (dc1 := nI 0) (pc1 := nI 0) (tc1 := nI 0) (oc1 := nI 0) hO hH, ZR_cpy hZ, hM⟩
theorem RowOK_cp {m : Nat → Int32} {sd : Int32} {mn : Int32} {th : Int32} {dc : Int32} {fc : Nat → Int32} {dw : Nat → Int32} {pc : Int32} {ln : Nat → Int32} {lt : Nat → Int32} {tc : Int32} {en : Nat → Int32} {fr : Nat → Int32} {oc : Int32} {op : Nat → Int32} {os : Nat → Int32} (h : RowOK (mkH sd mn th dc fc dw pc ln lt tc en fr oc op os) m) (v : HC) : RowOK (cpH sd mn th dc fc dw pc ln lt tc en fr oc op os v) m := by
  obtain ⟨g, hO, hH, hZ, hM⟩ := h
  have hH2 : HR g sd mn th dc fc dw pc ln lt tc en fr oc op os := hH
  have hZ2 : ZR fc := hZ
  exact ⟨g, hO, HR_cpy (sd1 := nI 0) (mn1 := nI 0) (th1 := nI 0) (dc1 := nI 0) (pc1 := nI 0) (tc1 := nI 0) (oc1 := nI 0) hO hH2, ZR_cpy hZ2, hM⟩
def hup (hs : Nat → HC) (a : Nat) (h : HC) : Nat → HC := fun i => if i = a then h else hs i
theorem hup_s {hs : Nat → HC} {a : Nat} {h : HC} : hup hs a h a = h := if_pos rfl
theorem hup_n {hs : Nat → HC} {a i : Nat} {h : HC} (c : i ≠ a) : hup hs a h i = hs i := if_neg c
theorem hup_same {hs : Nat → HC} {a : Nat} {h : HC} (e : hs a = h) : hup hs a h = hs := by
  funext i
  by_cases c : i = a
  · subst c; rw [hup_s, e]
  · exact hup_n c
def HI (hs : Nat → HC) (nx dp und ust : Int32) (rem : Nat → Int32) : Prop := ∃ u D : Nat, u < 8 ∧ D ≤ 8 ∧ nx = nI ((u + D) % 8) ∧ dp = nI D ∧ und = nI D ∧ ust = nI u ∧ ∀ i, i < D → RowOK (hs ((u + i) % 8)) (fun k => rem (1399 * ((u + i) % 8) + k))
theorem rem_ok {N : Nat} {g : Nat → Nat} {m_s rem : Nat → Int32} {sd : Int32} {mn : Int32} {th : Int32} {dc : Int32} {fc : Nat → Int32} {dw : Nat → Int32} {pc : Int32} {ln : Nat → Int32} {lt : Nat → Int32} {tc : Int32} {en : Nat → Int32} {fr : Nat → Int32} {oc : Int32} {op : Nat → Int32} {os : Nat → Int32} {nx dp und ust : Int32} {hs : Nat → HC} (h : QC N g m_s sd mn th dc fc dw pc ln lt tc en fr oc op os) (hi : HI hs nx dp und ust rem) : ∃ a nx' dp' und' ust' rem', a < 8 ∧ nx = nI a ∧ (∀ v_sd v_mn v_th v_dc v_fc v_dw v_pc v_ln v_lt v_tc v_en v_fr v_oc v_op v_os, f_X3_remember sd mn th dc fc dw pc ln lt tc en fr oc op os nx dp v_sd v_mn v_th v_dc v_fc v_dw v_pc v_ln v_lt v_tc v_en v_fr v_oc v_op v_os = some (nx', dp', cpH sd mn th dc fc dw pc ln lt tc en fr oc op os (mkH v_sd v_mn v_th v_dc v_fc v_dw v_pc v_ln v_lt v_tc v_en v_fr v_oc v_op v_os))) ∧ f_X11_remember N m_s und ust rem = some (und', ust', rem') ∧ ∀ v, HI (hup hs a (cpH sd mn th dc fc dw pc ln lt tc en fr oc op os v)) nx' dp' und' ust' rem' := by
  have hN := h.1
  obtain ⟨u, D, hu, hD, rfl, rfl, rfl, rfl, hr⟩ := hi
  have ha : (u + D) % 8 < 8 := Nat.mod_lt _ (by omega)
  obtain ⟨rem', r1, r2, r3⟩ := m_copy (N := N) (gn := 1399) (qn := 11192) (a := 0) (b := 1399 * ((u + D) % 8)) (gf := m_s) (qf := rem) hN (by omega) (by omega) (by omega) (by omega)
  have hnew : ∀ v, RowOK (cpH sd mn th dc fc dw pc ln lt tc en fr oc op os v) (fun k => rem' (1399 * ((u + D) % 8) + k)) := fun v => RowOK_m (cpH_ok h v) (fun k hk => by
    show rem' (1399 * ((u + D) % 8) + k) = m_s k
    rw [r2 k hk, Nat.zero_add])
  have hold : ∀ i, i < D → (u + i) % 8 ≠ (u + D) % 8 → RowOK (hs ((u + i) % 8)) (fun k => rem' (1399 * ((u + i) % 8) + k)) := fun i hi hne => RowOK_m (hr i hi) (fun k hk => r3 _ (by omega))
  have hc : ∀ v_sd v_mn v_th v_dc v_fc v_dw v_pc v_ln v_lt v_tc v_en v_fr v_oc v_op v_os, f_X3_remember sd mn th dc fc dw pc ln lt tc en fr oc op os (nI ((u + D) % 8)) (nI D) v_sd v_mn v_th v_dc v_fc v_dw v_pc v_ln v_lt v_tc v_en v_fr v_oc v_op v_os = some (nI (((u + D) % 8 + 1) % 8), nI (if 8 < D + 1 then 8 else D + 1), cpH sd mn th dc fc dw pc ln lt tc en fr oc op os (mkH v_sd v_mn v_th v_dc v_fc v_dw v_pc v_ln v_lt v_tc v_en v_fr v_oc v_op v_os)) := fun v_sd v_mn v_th v_dc v_fc v_dw v_pc v_ln v_lt v_tc v_en v_fr v_oc v_op v_os => e_remember ha hD
  by_cases c : D = 8
  · subst c
    refine ⟨(u + 8) % 8, nI (((u + 8) % 8 + 1) % 8), nI (if 8 < 8 + 1 then 8 else 8 + 1), nI 8, nI ((u + 1) % 8), rem', ha, rfl, hc, ?_, fun v => ?_⟩
    · have e : ((u + 1) % 8 + 7) % 8 = (u + 8) % 8 := by omega
      simp (disch := omega) only [n_0, n_1, n_2, n_3, n_4, n_5, n_6, n_7, n_8, n_9, n_10, n_12, n_13, n_15, n_20, n_24, n_27, n_31, n_32, n_33, n_36, n_44, n_48, n_50, n_57, n_58, n_59, n_72, n_74, n_75, n_85, n_91, n_96, n_97, n_99, n_122, n_255, n_300, n_432, n_600, n_900, n_999, n_1000, n_1291, n_1399, n_2798, n_11192, n_65536, n_65537, n_99999999, n_1000000, nI_add, pk_mul, q_le, q_lt, q_eq, q_cl, q_gi, q_gz, q_sub, q_div, q_dm, d_dm, q_m1, q_mn, q_nm, q_mlt, q_ltm, q_mle, q_lem, q_mm, Option.bind_some, if_true, if_false, Nat.add_zero, ite_self, q_us, q_un, decide_true, decide_false, Bool.false_eq_true, eq_self, and_self, and_true, true_and, and_false, false_and, or_true, true_or, or_false, false_or, d_ltT, d_ltF, d_leT, d_leF, d_eqT, d_eqF, f_X11_remember, f_X11_remember_L32, e, r1]
    · refine ⟨(u + 1) % 8, 8, by omega, by omega, by rw [show ((u + 1) % 8 + 8) % 8 = ((u + 8) % 8 + 1) % 8 by omega], rfl, rfl, rfl, fun i hi => ?_⟩
      by_cases c2 : ((u + 1) % 8 + i) % 8 = (u + 8) % 8
      · rw [c2, hup_s]
        exact hnew v
      · rw [hup_n c2]
        have h9 := hold (i + 1) (by omega) (by omega)
        rw [show (u + (i + 1)) % 8 = ((u + 1) % 8 + i) % 8 by omega] at h9
        exact h9
  · refine ⟨(u + D) % 8, nI (((u + D) % 8 + 1) % 8), nI (if 8 < D + 1 then 8 else D + 1), nI (D + 1), nI u, rem', ha, rfl, hc, ?_, fun v => ?_⟩
    · simp (disch := omega) only [n_0, n_1, n_2, n_3, n_4, n_5, n_6, n_7, n_8, n_9, n_10, n_12, n_13, n_15, n_20, n_24, n_27, n_31, n_32, n_33, n_36, n_44, n_48, n_50, n_57, n_58, n_59, n_72, n_74, n_75, n_85, n_91, n_96, n_97, n_99, n_122, n_255, n_300, n_432, n_600, n_900, n_999, n_1000, n_1291, n_1399, n_2798, n_11192, n_65536, n_65537, n_99999999, n_1000000, nI_add, pk_mul, q_le, q_lt, q_eq, q_cl, q_gi, q_gz, q_sub, q_div, q_dm, d_dm, q_m1, q_mn, q_nm, q_mlt, q_ltm, q_mle, q_lem, q_mm, Option.bind_some, if_true, if_false, Nat.add_zero, ite_self, q_us, q_un, decide_true, decide_false, Bool.false_eq_true, eq_self, and_self, and_true, true_and, and_false, false_and, or_true, true_or, or_false, false_or, d_ltT, d_ltF, d_leT, d_leF, d_eqT, d_eqF, f_X11_remember, f_X11_remember_L32, r1]
    · refine ⟨u, D + 1, hu, by omega, by rw [show (u + (D + 1)) % 8 = ((u + D) % 8 + 1) % 8 by omega], by rw [if_neg (by omega)], rfl, rfl, fun i hi => ?_⟩
      by_cases c2 : (u + i) % 8 = (u + D) % 8
      · rw [c2, hup_s]
        exact hnew v
      · rw [hup_n c2]
        exact hold i (by omega) c2
