/-! die -/
theorem c_n0 {c : Nat} (c1 : 0 < c) (c2 : c < 100) : ¬ nI c = nI 0 := by rw [q_eq (by omega) (by omega)]; omega
/-- a weight, in both -/
theorem s_w {N L s : Nat} {b : Nat → Nat} {tb mi : Nat → Int32} {kd ts te tv po st tk vl lt eo pl : Int32} (hN : 1000 < N) (hT : TR b L tb) (hM : TR b L mi) (h1 : TC b L s kd ts te tv) (h2 : TM b L s po st tk vl lt) : (∃ v s' kd' ts' te' tv' po' st' tk' vl' lt', v ≤ 9 ∧ tkK b L s = 2 ∧ tkE b L s ≤ s' ∧ f_X5_isNumberIn kd tv (nI 0) (nI 9) = some (nI 1) ∧ f_X5_takeNumber N (nI L) tb (nI 0) eo kd ts te tv (nI 0) (nI 9) = some (nI v, nI 0, eo, kd', ts', te', tv') ∧ f_X11_look st tk vl (nI 0) pl (nI 0) (nI 9) = some (nI v, nI 0, pl) ∧ f_X11_advance N (nI L) mi po st tk vl lt = some (po', st', tk', vl', lt') ∧ TC b L s' kd' ts' te' tv' ∧ TM b L s' po' st' tk' vl' lt') ∨ (∃ c, 0 < c ∧ c < 100 ∧ f_X5_isNumberIn kd tv (nI 0) (nI 9) = some (nI 0) ∧ f_X5_takeNumber N (nI L) tb (nI 0) eo kd ts te tv (nI 0) (nI 9) = some (-nI 1, nI c, ts, kd, ts, te, tv) ∧ f_X11_look st tk vl (nI 0) pl (nI 0) (nI 9) = some (nI 0, nI c, st) ∧ (tkK b L s ≠ 2 → c = 1)) := by
  obtain ⟨m1, m2, m3, m4, m5⟩ := tkM_eq (@tkK_le b L s)
  have hk := @tkK_le b L s
  have c1 := h1.2.1
  have c2 := h2.2.2.2.1
  by_cases k2 : tkK b L s = 2
  · have v1 := h1.2.2.2.2 k2
    have v2 := h2.2.2.2.2.1 k2
    have vl9 : tkV b L s < 1000000000 := nV_lt (by omega)
    have hcap : cap (tkV b L s) < 1000001 := by unfold cap; split <;> omega
    rw [k2] at c1
    rw [m2.mpr k2] at c2
    by_cases hr : tkV b L s ≤ 9
    · have ec : cap (tkV b L s) = tkV b L s := by unfold cap; rw [if_neg (by omega)]
      rw [ec] at v1
      obtain ⟨s', kd', ts', te', tv', po', st', tk', vl', lt', a1, a2, a3, a4, a5⟩ := s_adv hN hT hM h1 h2
      refine Or.inl ⟨tkV b L s, s', kd', ts', te', tv', po', st', tk', vl', lt', hr, k2, a1, ?_, ?_, ?_, a3, a4, a5⟩
      · subst c1 v1
        simp (disch := omega) only [n_0, n_1, n_2, n_3, n_4, n_5, n_6, n_7, n_8, n_9, n_10, n_12, n_13, n_15, n_20, n_24, n_27, n_31, n_32, n_33, n_36, n_44, n_48, n_50, n_57, n_58, n_59, n_72, n_74, n_75, n_85, n_91, n_96, n_97, n_99, n_122, n_255, n_300, n_432, n_600, n_900, n_999, n_1000, n_1291, n_1399, n_2798, n_11192, n_65536, n_65537, n_99999999, n_1000000, nI_add, pk_mul, q_le, q_lt, q_eq, q_cl, q_gi, q_gz, q_sub, q_div, q_dm, d_dm, q_m1, q_mn, q_nm, q_mlt, q_ltm, q_mle, q_lem, q_mm, Option.bind_some, if_true, if_false, Nat.add_zero, ite_self, q_us, q_un, decide_true, decide_false, Bool.false_eq_true, eq_self, and_self, and_true, true_and, and_false, false_and, or_true, true_or, or_false, false_or, d_ltT, d_ltF, d_leT, d_leF, d_eqT, d_eqF, f_X5_isNumberIn]
      · subst c1 v1
        simp (disch := omega) only [n_0, n_1, n_2, n_3, n_4, n_5, n_6, n_7, n_8, n_9, n_10, n_12, n_13, n_15, n_20, n_24, n_27, n_31, n_32, n_33, n_36, n_44, n_48, n_50, n_57, n_58, n_59, n_72, n_74, n_75, n_85, n_91, n_96, n_97, n_99, n_122, n_255, n_300, n_432, n_600, n_900, n_999, n_1000, n_1291, n_1399, n_2798, n_11192, n_65536, n_65537, n_99999999, n_1000000, nI_add, pk_mul, q_le, q_lt, q_eq, q_cl, q_gi, q_gz, q_sub, q_div, q_dm, d_dm, q_m1, q_mn, q_nm, q_mlt, q_ltm, q_mle, q_lem, q_mm, Option.bind_some, if_true, if_false, Nat.add_zero, ite_self, q_us, q_un, decide_true, decide_false, Bool.false_eq_true, eq_self, and_self, and_true, true_and, and_false, false_and, or_true, true_or, or_false, false_or, d_ltT, d_ltF, d_leT, d_leF, d_eqT, d_eqF, f_X5_takeNumber, f_X5_isNumberIn, a2]
      · subst c2 v2
        simp (disch := omega) only [n_0, n_1, n_2, n_3, n_4, n_5, n_6, n_7, n_8, n_9, n_10, n_12, n_13, n_15, n_20, n_24, n_27, n_31, n_32, n_33, n_36, n_44, n_48, n_50, n_57, n_58, n_59, n_72, n_74, n_75, n_85, n_91, n_96, n_97, n_99, n_122, n_255, n_300, n_432, n_600, n_900, n_999, n_1000, n_1291, n_1399, n_2798, n_11192, n_65536, n_65537, n_99999999, n_1000000, nI_add, pk_mul, q_le, q_lt, q_eq, q_cl, q_gi, q_gz, q_sub, q_div, q_dm, d_dm, q_m1, q_mn, q_nm, q_mlt, q_ltm, q_mle, q_lem, q_mm, Option.bind_some, if_true, if_false, Nat.add_zero, ite_self, q_us, q_un, decide_true, decide_false, Bool.false_eq_true, eq_self, and_self, and_true, true_and, and_false, false_and, or_true, true_or, or_false, false_or, d_ltT, d_ltF, d_leT, d_leF, d_eqT, d_eqF, f_X11_look, f_X11_look_L14, f_X11_isBetween, y_check_t]
    · have hx : 9 < cap (tkV b L s) := by unfold cap; split <;> omega
      have yf := @y_check_f st pl 2 (by omega) (by omega)
      refine Or.inr ⟨2, by omega, by omega, ?_, ?_, ?_, fun x => absurd k2 x⟩
      · subst c1 v1
        simp (disch := omega) only [n_0, n_1, n_2, n_3, n_4, n_5, n_6, n_7, n_8, n_9, n_10, n_12, n_13, n_15, n_20, n_24, n_27, n_31, n_32, n_33, n_36, n_44, n_48, n_50, n_57, n_58, n_59, n_72, n_74, n_75, n_85, n_91, n_96, n_97, n_99, n_122, n_255, n_300, n_432, n_600, n_900, n_999, n_1000, n_1291, n_1399, n_2798, n_11192, n_65536, n_65537, n_99999999, n_1000000, nI_add, pk_mul, q_le, q_lt, q_eq, q_cl, q_gi, q_gz, q_sub, q_div, q_dm, d_dm, q_m1, q_mn, q_nm, q_mlt, q_ltm, q_mle, q_lem, q_mm, Option.bind_some, if_true, if_false, Nat.add_zero, ite_self, q_us, q_un, decide_true, decide_false, Bool.false_eq_true, eq_self, and_self, and_true, true_and, and_false, false_and, or_true, true_or, or_false, false_or, d_ltT, d_ltF, d_leT, d_leF, d_eqT, d_eqF, f_X5_isNumberIn]
      · subst c1 v1
        simp (disch := omega) only [n_0, n_1, n_2, n_3, n_4, n_5, n_6, n_7, n_8, n_9, n_10, n_12, n_13, n_15, n_20, n_24, n_27, n_31, n_32, n_33, n_36, n_44, n_48, n_50, n_57, n_58, n_59, n_72, n_74, n_75, n_85, n_91, n_96, n_97, n_99, n_122, n_255, n_300, n_432, n_600, n_900, n_999, n_1000, n_1291, n_1399, n_2798, n_11192, n_65536, n_65537, n_99999999, n_1000000, nI_add, pk_mul, q_le, q_lt, q_eq, q_cl, q_gi, q_gz, q_sub, q_div, q_dm, d_dm, q_m1, q_mn, q_nm, q_mlt, q_ltm, q_mle, q_lem, q_mm, Option.bind_some, if_true, if_false, Nat.add_zero, ite_self, q_us, q_un, decide_true, decide_false, Bool.false_eq_true, eq_self, and_self, and_true, true_and, and_false, false_and, or_true, true_or, or_false, false_or, d_ltT, d_ltF, d_leT, d_leF, d_eqT, d_eqF, f_X5_takeNumber, f_X5_takeNumber_L35, f_X5_isNumberIn, x_fail0]
      · subst c2 v2
        simp (disch := omega) only [n_0, n_1, n_2, n_3, n_4, n_5, n_6, n_7, n_8, n_9, n_10, n_12, n_13, n_15, n_20, n_24, n_27, n_31, n_32, n_33, n_36, n_44, n_48, n_50, n_57, n_58, n_59, n_72, n_74, n_75, n_85, n_91, n_96, n_97, n_99, n_122, n_255, n_300, n_432, n_600, n_900, n_999, n_1000, n_1291, n_1399, n_2798, n_11192, n_65536, n_65537, n_99999999, n_1000000, nI_add, pk_mul, q_le, q_lt, q_eq, q_cl, q_gi, q_gz, q_sub, q_div, q_dm, d_dm, q_m1, q_mn, q_nm, q_mlt, q_ltm, q_mle, q_lem, q_mm, Option.bind_some, if_true, if_false, Nat.add_zero, ite_self, q_us, q_un, decide_true, decide_false, Bool.false_eq_true, eq_self, and_self, and_true, true_and, and_false, false_and, or_true, true_or, or_false, false_or, d_ltT, d_ltF, d_leT, d_leF, d_eqT, d_eqF, f_X11_look, f_X11_look_L14, f_X11_isBetween, y_check_t, yf]
  · refine Or.inr ⟨1, by omega, by omega, ?_, ?_, ?_, fun _ => rfl⟩
    · subst c1
      simp (disch := omega) only [n_0, n_1, n_2, n_3, n_4, n_5, n_6, n_7, n_8, n_9, n_10, n_12, n_13, n_15, n_20, n_24, n_27, n_31, n_32, n_33, n_36, n_44, n_48, n_50, n_57, n_58, n_59, n_72, n_74, n_75, n_85, n_91, n_96, n_97, n_99, n_122, n_255, n_300, n_432, n_600, n_900, n_999, n_1000, n_1291, n_1399, n_2798, n_11192, n_65536, n_65537, n_99999999, n_1000000, nI_add, pk_mul, q_le, q_lt, q_eq, q_cl, q_gi, q_gz, q_sub, q_div, q_dm, d_dm, q_m1, q_mn, q_nm, q_mlt, q_ltm, q_mle, q_lem, q_mm, Option.bind_some, if_true, if_false, Nat.add_zero, ite_self, q_us, q_un, decide_true, decide_false, Bool.false_eq_true, eq_self, and_self, and_true, true_and, and_false, false_and, or_true, true_or, or_false, false_or, d_ltT, d_ltF, d_leT, d_leF, d_eqT, d_eqF, f_X5_isNumberIn]
    · subst c1
      simp (disch := omega) only [n_0, n_1, n_2, n_3, n_4, n_5, n_6, n_7, n_8, n_9, n_10, n_12, n_13, n_15, n_20, n_24, n_27, n_31, n_32, n_33, n_36, n_44, n_48, n_50, n_57, n_58, n_59, n_72, n_74, n_75, n_85, n_91, n_96, n_97, n_99, n_122, n_255, n_300, n_432, n_600, n_900, n_999, n_1000, n_1291, n_1399, n_2798, n_11192, n_65536, n_65537, n_99999999, n_1000000, nI_add, pk_mul, q_le, q_lt, q_eq, q_cl, q_gi, q_gz, q_sub, q_div, q_dm, d_dm, q_m1, q_mn, q_nm, q_mlt, q_ltm, q_mle, q_lem, q_mm, Option.bind_some, if_true, if_false, Nat.add_zero, ite_self, q_us, q_un, decide_true, decide_false, Bool.false_eq_true, eq_self, and_self, and_true, true_and, and_false, false_and, or_true, true_or, or_false, false_or, d_ltT, d_ltF, d_leT, d_leF, d_eqT, d_eqF, f_X5_takeNumber, f_X5_takeNumber_L35, f_X5_isNumberIn, x_fail0]
    · subst c2
      obtain ⟨r, hr⟩ := @y_btw vl (nI 0) (nI 9)
      have : tkM (tkK b L s) ≠ 2 := fun x => k2 (m2.mp x)
      have yf := @y_check_f st pl 1 (by omega) (by omega)
      have ye := @y_check_e st st r (nI 2) 1 (by omega) (by omega)
      simp (disch := omega) only [n_0, n_1, n_2, n_3, n_4, n_5, n_6, n_7, n_8, n_9, n_10, n_12, n_13, n_15, n_20, n_24, n_27, n_31, n_32, n_33, n_36, n_44, n_48, n_50, n_57, n_58, n_59, n_72, n_74, n_75, n_85, n_91, n_96, n_97, n_99, n_122, n_255, n_300, n_432, n_600, n_900, n_999, n_1000, n_1291, n_1399, n_2798, n_11192, n_65536, n_65537, n_99999999, n_1000000, nI_add, pk_mul, q_le, q_lt, q_eq, q_cl, q_gi, q_gz, q_sub, q_div, q_dm, d_dm, q_m1, q_mn, q_nm, q_mlt, q_ltm, q_mle, q_lem, q_mm, Option.bind_some, if_true, if_false, Nat.add_zero, ite_self, q_us, q_un, decide_true, decide_false, Bool.false_eq_true, eq_self, and_self, and_true, true_and, and_false, false_and, or_true, true_or, or_false, false_or, d_ltT, d_ltF, d_leT, d_leF, d_eqT, d_eqF, f_X11_look, f_X11_look_L14, hr, yf, ye]
/-- while an error stands the class's loop ends, and so does the model's -/
theorem x_die_e {N j c i : Nat} {tl l1 l3 eo dc kd ts te tv : Int32} {tb fc dw : Nat → Int32} (c1 : 0 < c) (c2 : c < 100) (hi : i < 100) : f_X5_readDie_L30 N tl tb (j + 1) l1 (nI i) l3 (nI c) eo dc fc dw kd ts te tv = some (nI c, eo, dc, fc, dw, kd, ts, te, tv) := by
  have xs := fun a0 => @x_semi_e N tl eo kd ts te tv a0 tb c c1 c2
  have h120 : f_X5_readDie_L120 N tl tb (nI i) l3 (nI c) eo dc fc dw kd ts te tv = some (nI c, eo, dc, fc, dw, kd, ts, te, tv) := by
    unfold f_X5_readDie_L120 f_X5_readDie_L131
    simp only [n_0, n_1, n_2, n_3, n_4, n_5, n_6, n_7, n_8, n_9, n_10, n_12, n_13, n_15, n_20, n_24, n_27, n_31, n_32, n_33, n_36, n_44, n_48, n_50, n_57, n_58, n_59, n_72, n_74, n_75, n_85, n_91, n_96, n_97, n_99, n_122, n_255, n_300, n_432, n_600, n_900, n_999, n_1000, n_1291, n_1399, n_2798, n_11192, n_65536, n_65537, n_99999999, n_1000000]
    split <;> rw [xs, Option.bind_some, if_neg (c_n0 c1 c2)]
  show f_X5_readDie_L30_F N tl tb (f_X5_readDie_L30 N tl tb j) l1 (nI i) l3 (nI c) eo dc fc dw kd ts te tv = _
  unfold f_X5_readDie_L30_F
  simp only [n_0, n_1, n_2, n_3, n_4, n_5, n_6, n_7, n_8, n_9, n_10, n_12, n_13, n_15, n_20, n_24, n_27, n_31, n_32, n_33, n_36, n_44, n_48, n_50, n_57, n_58, n_59, n_72, n_74, n_75, n_85, n_91, n_96, n_97, n_99, n_122, n_255, n_300, n_432, n_600, n_900, n_999, n_1000, n_1291, n_1399, n_2798, n_11192, n_65536, n_65537, n_99999999, n_1000000]
  rw [if_neg (c_n0 c1 c2)]
  split
  · exact h120
  · exact h120
theorem y_die_e {N j c L s : Nat} {b : Nat → Nat} {mi m : Nat → Int32} {l1 l2 po st tk vl lt pl : Int32} (hM : TR b L mi) (h : TM b L s po st tk vl lt) (c1 : 0 < c) (c2 : c < 100) : f_X11_readDie_L52 N (nI L) mi (j + 1) l1 l2 po st tk vl lt (nI c) pl m = some (po, st, tk, vl, lt, nI c, pl, m) := by
  have yz := y_semi_e (pl := pl) hM h c1 c2
  have yn := @y_next_e N (nI L) po st tk vl lt mi c c1 c2
  show f_X11_readDie_L52_F N (nI L) mi (f_X11_readDie_L52 N (nI L) mi j) l1 l2 po st tk vl lt (nI c) pl m = _
  unfold f_X11_readDie_L52_F
  simp only [n_0, n_1, n_2, n_3, n_4, n_5, n_6, n_7, n_8, n_9, n_10, n_12, n_13, n_15, n_20, n_24, n_27, n_31, n_32, n_33, n_36, n_44, n_48, n_50, n_57, n_58, n_59, n_72, n_74, n_75, n_85, n_91, n_96, n_97, n_99, n_122, n_255, n_300, n_432, n_600, n_900, n_999, n_1000, n_1291, n_1399, n_2798, n_11192, n_65536, n_65537, n_99999999, n_1000000]
  rw [if_neg (c_n0 c1 c2)]
  unfold f_X11_readDie_L125
  simp only [n_0, n_1, n_2, n_3, n_4, n_5, n_6, n_7, n_8, n_9, n_10, n_12, n_13, n_15, n_20, n_24, n_27, n_31, n_32, n_33, n_36, n_44, n_48, n_50, n_57, n_58, n_59, n_72, n_74, n_75, n_85, n_91, n_96, n_97, n_99, n_122, n_255, n_300, n_432, n_600, n_900, n_999, n_1000, n_1291, n_1399, n_2798, n_11192, n_65536, n_65537, n_99999999, n_1000000]
  rw [yz, Option.bind_some, if_neg (c_n0 c1 c2)]
  unfold f_X11_readDie_L183
  rw [yn, Option.bind_some]
/-- the row with one die more, of n faces -/
def gDie (g : Nat → Nat) (n : Nat) : Nat → Nat := up (up g (7 + 13 * g 3) n) 3 (g 3 + 1)
theorem gDie_n {g : Nat → Nat} {n k : Nat} (h : k ≠ 3) (h2 : k ≠ 7 + 13 * g 3) : gDie g n k = g k := by
  unfold gDie
  rw [up_n h, up_n h2]
theorem gDie_3 {g : Nat → Nat} {n : Nat} : gDie g n 3 = g 3 + 1 := up_s rfl
theorem gDie_F {g : Nat → Nat} {n : Nat} : dF (gDie g n) (g 3) = n := by
  unfold dF gDie
  rw [up_n (by omega), up_s rfl]
theorem gDie_W {g : Nat → Nat} {n i : Nat} {d : Nat} (hi : i < 12) : dW (gDie g n) d i = dW g d i := gDie_n (by omega) (by omega)
theorem gDie_Fo {g : Nat → Nat} {n d : Nat} (hd : d ≠ g 3) : dF (gDie g n) d = dF g d := gDie_n (by omega) (by omega)
theorem gDie_s {g : Nat → Nat} {n : Nat} (h3 : g 3 < 6) : sP g (gDie g n) ∧ sT g (gDie g n) ∧ sO g (gDie g n) := ⟨⟨gDie_n (by omega) (by omega), fun k k1 k2 => gDie_n (by omega) (by omega)⟩, ⟨gDie_n (by omega) (by omega), fun k k1 k2 => gDie_n (by omega) (by omega)⟩, ⟨gDie_n (by omega) (by omega), fun k k1 k2 => gDie_n (by omega) (by omega)⟩⟩
theorem gDie_ok {g : Nat → Nat} {n : Nat} (hO : Ok g) (h3 : g 3 < 6) (h2 : 2 ≤ n) (h12 : n ≤ 12) (hw : ∀ i, i < n → dW g (g 3) i ≤ 9) (hs : 0 < sumTo n (dW g (g 3))) : Ok (gDie g n) := by
  obtain ⟨s1, s2, s3⟩ := gDie_s (n := n) h3
  obtain ⟨hB, hD, hP, hT, hOo⟩ := hO
  refine ⟨?_, fun d hd => ?_, sP_ok s1 hB hP, fun k hk => ?_, ⟨fun r hr => ?_, fun r r' hr hr' e => ?_⟩⟩
  · obtain ⟨b0, b1, b2, b3, b4, b5, b6, b7⟩ := hB
    unfold okB
    rw [gDie_3, gDie_n (k := 0) (by omega) (by omega), gDie_n (k := 1) (by omega) (by omega), gDie_n (k := 2) (by omega) (by omega), gDie_n (k := 4) (by omega) (by omega), gDie_n (k := 5) (by omega) (by omega), gDie_n (k := 6) (by omega) (by omega)]
    omega
  · rw [gDie_3] at hd
    by_cases h : d = g 3
    · rw [h]
      unfold dS
      rw [gDie_F]
      exact ⟨h2, h12, fun i hi => by rw [gDie_W (by omega)]; exact hw i hi, by rw [sumTo_congr (fun i hi => gDie_W (show i < 12 by omega))]; exact hs⟩
    · have hdd := hD d (by omega)
      unfold dS
      rw [gDie_Fo h]
      exact ⟨hdd.1, hdd.2.1, fun i hi => by rw [gDie_W (by omega)]; exact hdd.2.2.1 i hi, by rw [sumTo_congr (fun i hi => gDie_W (show i < 12 by omega))]; exact hdd.2.2.2⟩
  · have b5 := b_5 hB
    rw [s2.1] at hk
    obtain ⟨e1, e2, e3, e4, -⟩ := sT_t s2 (show k < 300 by omega)
    have ht := hT k hk
    rw [e1, e2, e3, e4, gDie_3, s1.1, gDie_Fo (by omega)]
    exact ⟨ht.1, by omega, ht.2.2⟩
  · have b6 := b_6 hB
    rw [s3.1] at hr
    obtain ⟨e1, e2, e3, -⟩ := sO_o s3 (show r < 36 by omega)
    have := hOo.1 r hr
    rw [e1, e2, e3, gDie_3, s1.1]
    exact ⟨this.1, by omega, this.2.2⟩
  · have b6 := b_6 hB
    rw [s3.1] at hr hr'
    rw [(sO_o s3 (show r < 36 by omega)).2.2.2, (sO_o s3 (show r' < 36 by omega)).2.2.2] at e
    exact hOo.2 r r' hr hr' e
/-- the row w of the start with some weights of the next die in g -/
def sW (w g : Nat → Nat) : Prop := ∀ k, (k < 8 + 13 * w 3 ∨ 20 + 13 * w 3 ≤ k) → g k = w k
theorem sW_ok {w g : Nat → Nat} (h : sW w g) (hO : Ok w) (h3 : w 3 < 6) : Ok g ∧ g 3 = w 3 ∧ sP w g ∧ sT w g ∧ sO w g ∧ (∀ k, k < 7 → g k = w k) := by
  have e3 : g 3 = w 3 := h 3 (by omega)
  have sp : sP w g := ⟨h 4 (by omega), fun k k1 k2 => h k (by omega)⟩
  have st : sT w g := ⟨h 5 (by omega), fun k k1 k2 => h k (by omega)⟩
  have so : sO w g := ⟨h 6 (by omega), fun k k1 k2 => h k (by omega)⟩
  have hF : ∀ d, d < w 3 → dF g d = dF w d := fun d hd => h _ (by omega)
  have hW : ∀ d i, d < w 3 → i < 12 → dW g d i = dW w d i := fun d i hd hi => h _ (by omega)
  obtain ⟨hB, hD, hP, hT, hOo⟩ := hO
  refine ⟨⟨?_, fun d hd => ?_, sP_ok sp hB hP, fun k hk => ?_, sO_ok so e3 sp.1 hB hOo⟩, e3, sp, st, so, fun k hk => h k (by omega)⟩
  · obtain ⟨b0, b1, b2, b3, b4, b5, b6, b7⟩ := hB
    unfold okB
    rw [h 0 (by omega), h 1 (by omega), h 2 (by omega), e3, sp.1, st.1, so.1]
    omega
  · rw [e3] at hd
    have hdd := hD d hd
    unfold dS
    rw [hF d hd]
    exact ⟨hdd.1, hdd.2.1, fun i hi => by rw [hW d i hd (by omega)]; exact hdd.2.2.1 i hi, by rw [sumTo_congr (fun i hi => hW d i hd (by omega))]; exact hdd.2.2.2⟩
  · have b5 := b_5 hB
    rw [st.1] at hk
    obtain ⟨e1, e2, e3', e4, -⟩ := sT_t st (show k < 300 by omega)
    have ht := hT k hk
    rw [e1, e2, e3', e4, sp.1, e3, hF _ ht.2.1]
    exact ht
theorem r_dieL {N L : Nat} {b w : Nat → Nat} {tb mi : Nat → Int32} {fc dw0 : Nat → Int32} {eo : Int32} (hN : 2000 < N) (hT : TR b L tb) (hM : TR b L mi) (hO : Ok w) (h3 : w 3 < 6) (hD : DR w fc dw0) : ∀ (k i jc jm s : Nat) (kd ts te tv po st tk vl lw : Int32) (g : Nat → Nat) (m dw : Nat → Int32), i + k = 13 → k < jc → k < jm → TC b L s kd ts te tv → TM b L s po st tk vl lw → MR m g → sW w g → (∀ t, t < i → dW g (w 3) t ≤ 9 ∧ dw (12 * w 3 + t) = nI (dW g (w 3) t)) → (∀ t, t < 12 * w 3 → dw t = dw0 t) → i ≤ 12 → ∃ ec' eo' dc' fc' dw' kd' ts' te' tv' po' st' tk' vl' lw' code' pl' m', f_X5_readDie_L30 N (nI L) tb jc (nI (w 3)) (nI i) (nI (sumTo i (dW g (w 3)))) (nI 0) eo (nI (w 3)) fc dw kd ts te tv = some (ec', eo', dc', fc', dw', kd', ts', te', tv') ∧ f_X11_readDie_L52 N (nI L) mi jm (nI (7 + 13 * w 3)) (nI i) po st tk vl lw (nI 0) eo m = some (po', st', tk', vl', lw', code', pl', m') ∧ ((∃ s' n g', ec' = nI 0 ∧ code' = nI 0 ∧ eo' = pl' ∧ s ≤ s' ∧ TC b L s' kd' ts' te' tv' ∧ TM b L s' po' st' tk' vl' lw' ∧ 2 ≤ n ∧ n ≤ 12 ∧ sW w g' ∧ MR m' (gDie g' n) ∧ dc' = nI (w 3 + 1) ∧ fc' = upd fc (w 3) (nI n) ∧ (∀ t, t < n → dW g' (w 3) t ≤ 9 ∧ dw' (12 * w 3 + t) = nI (dW g' (w 3) t)) ∧ 0 < sumTo n (dW g' (w 3)) ∧ (∀ t, t < 12 * w 3 → dw' t = dw0 t)) ∨ (∃ c, 0 < c ∧ c < 100 ∧ ec' = nI c ∧ code' = nI c ∧ eo' = pl' ∧ fc' = fc)) := by
  have hNx : 1000 < N := by omega
  intro k
  induction k with
  | zero => intro i jc jm s kd ts te tv po st tk vl lw g m dw h1; omega
  | succ k ih =>
    intro i jc jm s kd ts te tv po st tk vl lw g m dw h1 h2 h4 hC hK hR hS hw hk hi
    obtain ⟨jc, rfl⟩ : ∃ t, jc = t + 1 := ⟨jc - 1, by omega⟩
    obtain ⟨jm, rfl⟩ : ∃ t, jm = t + 1 := ⟨jm - 1, by omega⟩
    obtain ⟨m1, m2, m3, m4, m5⟩ := tkM_eq (@tkK_le b L s)
    have hkl := @tkK_le b L s
    obtain ⟨e1, e2, -⟩ := tkE_s (b := b) hC.1
    obtain ⟨so, so3, -⟩ := sW_ok hS hO h3
    have htk := hK.2.2.2.1
    have hL79 : ∀ X, f_X5_readDie_L79 N (nI L) tb (f_X5_readDie_L30 N (nI L) tb jc) (nI (w 3)) (nI i) (nI (sumTo i (dW g (w 3)))) (nI 0) eo (nI (w 3)) fc dw kd ts te tv = X → i < 12 → f_X5_readDie_L58 N (nI L) tb (f_X5_readDie_L30 N (nI L) tb jc) (nI (w 3)) (nI i) (nI (sumTo i (dW g (w 3)))) (nI 0) eo (nI (w 3)) fc dw kd ts te tv = X := fun X hX hi2 => by
      unfold f_X5_readDie_L58
      simp only [n_0, n_1, n_2, n_3, n_4, n_5, n_6, n_7, n_8, n_9, n_10, n_12, n_13, n_15, n_20, n_24, n_27, n_31, n_32, n_33, n_36, n_44, n_48, n_50, n_57, n_58, n_59, n_72, n_74, n_75, n_85, n_91, n_96, n_97, n_99, n_122, n_255, n_300, n_432, n_600, n_900, n_999, n_1000, n_1291, n_1399, n_2798, n_11192, n_65536, n_65537, n_99999999, n_1000000]
      rw [if_pos (by rw [q_lt (by omega) (by omega)]; exact hi2)]
      exact hX
    show ∃ ec' eo' dc' fc' dw' kd' ts' te' tv' po' st' tk' vl' lw' code' pl' m', f_X5_readDie_L30_F N (nI L) tb (f_X5_readDie_L30 N (nI L) tb jc) (nI (w 3)) (nI i) (nI (sumTo i (dW g (w 3)))) (nI 0) eo (nI (w 3)) fc dw kd ts te tv = some (ec', eo', dc', fc', dw', kd', ts', te', tv') ∧ f_X11_readDie_L52_F N (nI L) mi (f_X11_readDie_L52 N (nI L) mi jm) (nI (7 + 13 * w 3)) (nI i) po st tk vl lw (nI 0) eo m = some (po', st', tk', vl', lw', code', pl', m') ∧ _
    unfold f_X5_readDie_L30_F f_X11_readDie_L52_F
    simp only [n_0, n_1, n_2, n_3, n_4, n_5, n_6, n_7, n_8, n_9, n_10, n_12, n_13, n_15, n_20, n_24, n_27, n_31, n_32, n_33, n_36, n_44, n_48, n_50, n_57, n_58, n_59, n_72, n_74, n_75, n_85, n_91, n_96, n_97, n_99, n_122, n_255, n_300, n_432, n_600, n_900, n_999, n_1000, n_1291, n_1399, n_2798, n_11192, n_65536, n_65537, n_99999999, n_1000000]
    rw [if_neg (show ¬ nI 12 < nI i by rw [q_lt (by omega) (by omega)]; omega)]
    by_cases hend : 2 ≤ i ∧ isS b L s
    · -- the die ends
      obtain ⟨hi2, hs⟩ := hend
      have hk7 : ¬ tk = nI 2 := fun x => by
        rw [htk] at x
        have := nI_in2 (by omega) (by omega) x
        have := m2.mp this
        have := hs.1
        omega
      rw [if_neg (show ¬ nI i < nI 2 by rw [q_lt (by omega) (by omega)]; omega), x_isS_t hT hC hs, Option.bind_some]
      have hn3 : nI (w 3) = nI (w 3) := rfl
      have hsl : sumTo i (dW g (w 3)) ≤ i * 9 := sumTo_le (fun t ht => (hw t ht).1)
      have hm3 : upd m (7 + 13 * w 3) (nI i) 3 = nI (w 3) := by
        rw [q_un (by omega), hR 3 (by omega), so3]
      have hmr := hR.up (i := 7 + 13 * w 3) (v := i)
      have haw : f_X11_allWeights N 1399 (upd m (7 + 13 * w 3) (nI i)) (nI (w 3)) = some (nI (sumTo i (dW g (w 3)))) := by
        have hdF : dF (up g (7 + 13 * w 3) i) (w 3) = i := up_s rfl
        have e := m_allW (N := N) hNx hmr h3 (by rw [hdF]; omega)
        unfold dS at e
        rw [hdF, sumTo_congr (f := dW (up g (7 + 13 * w 3) i) (w 3)) (g := dW g (w 3)) (fun t ht => up_n (by omega))] at e
        exact e
      have hgd : MR (upd (upd m (7 + 13 * w 3) (nI i)) 3 (nI (w 3 + 1))) (gDie g i) := by
        unfold gDie
        rw [so3]
        exact hmr.up
      have h125 : ∀ X, (∀ t, f_X11_semicolon st tk mi (nI 0) eo = some (nI 0, eo) → t = (if 0 < sumTo i (dW g (w 3)) then nI 1 else nI 0) → f_X11_readDie_L167 N (nI L) mi t po st tk vl lw (nI 0) eo (upd m (7 + 13 * w 3) (nI i)) = X) → (if nI 0 = nI 0 then if nI i < nI 2 then f_X11_readDie_L72 N (nI L) mi (f_X11_readDie_L52 N (nI L) mi jm) (nI (7 + 13 * w 3)) (nI i) po st tk vl lw (nI 0) eo m else if tk = nI 2 then f_X11_readDie_L72 N (nI L) mi (f_X11_readDie_L52 N (nI L) mi jm) (nI (7 + 13 * w 3)) (nI i) po st tk vl lw (nI 0) eo m else f_X11_readDie_L125 N (nI L) mi (nI (7 + 13 * w 3)) (nI i) po st tk vl lw (nI 0) eo m else f_X11_readDie_L125 N (nI L) mi (nI (7 + 13 * w 3)) (nI i) po st tk vl lw (nI 0) eo m) = X := fun X hX => by
        rw [if_pos rfl, if_neg (show ¬ nI i < nI 2 by rw [q_lt (by omega) (by omega)]; omega), if_neg hk7]
        unfold f_X11_readDie_L125
        simp only [n_0, n_1, n_2, n_3, n_4, n_5, n_6, n_7, n_8, n_9, n_10, n_12, n_13, n_15, n_20, n_24, n_27, n_31, n_32, n_33, n_36, n_44, n_48, n_50, n_57, n_58, n_59, n_72, n_74, n_75, n_85, n_91, n_96, n_97, n_99, n_122, n_255, n_300, n_432, n_600, n_900, n_999, n_1000, n_1291, n_1399, n_2798, n_11192, n_65536, n_65537, n_99999999, n_1000000]
        have yz := y_semi_t (pl := eo) hM hK hs
        rw [yz, Option.bind_some, if_pos rfl, nI_add, Nat.add_zero, q_gi (by omega) (by omega), q_cl (show 7 + 13 * w 3 < 2147483648 by omega), q_cl (show 3 < 2147483648 by omega), hm3, haw, Option.bind_some]
        by_cases hz : 0 < sumTo i (dW g (w 3))
        · rw [if_neg (show ¬ nI (sumTo i (dW g (w 3))) ≤ nI 0 by rw [q_le (by omega) (by omega)]; omega)]
          exact hX _ yz (by rw [if_pos hz])
        · rw [if_pos (show nI (sumTo i (dW g (w 3))) ≤ nI 0 by rw [q_le (by omega) (by omega)]; omega)]
          exact hX _ yz (by rw [if_neg hz])
      by_cases hz : 0 < sumTo i (dW g (w 3))
      · obtain ⟨s', kd', ts', te', tv', po', st', tk', vl', lt', a1, a2, a3, a4, a5⟩ := s_adv hNx hT hM hC hK
        have xs := x_semi_t (N := N) (eo := eo) hT hC hs a2
        refine ⟨nI 0, eo, nI (w 3 + 1), upd fc (w 3) (nI i), dw, kd', ts', te', tv', po', st', tk', vl', lt', nI 0, eo, _, ?_, h125 _ (fun t yz ht => ?_), Or.inl ⟨s', i, g, rfl, rfl, rfl, by omega, a4, a5, hi2, hi, hS, hgd, rfl, rfl, hw, hz, hk⟩⟩
        · rw [if_pos trivial, if_neg (c_n0 (c := 1) (by omega) (by omega))]
          unfold f_X5_readDie_L120
          simp only [n_0, n_1, n_2, n_3, n_4, n_5, n_6, n_7, n_8, n_9, n_10, n_12, n_13, n_15, n_20, n_24, n_27, n_31, n_32, n_33, n_36, n_44, n_48, n_50, n_57, n_58, n_59, n_72, n_74, n_75, n_85, n_91, n_96, n_97, n_99, n_122, n_255, n_300, n_432, n_600, n_900, n_999, n_1000, n_1291, n_1399, n_2798, n_11192, n_65536, n_65537, n_99999999, n_1000000]
          rw [if_neg (show ¬ nI (sumTo i (dW g (w 3))) = nI 0 by rw [q_eq (by omega) (by omega)]; omega)]
          unfold f_X5_readDie_L131
          simp only [n_0, n_1, n_2, n_3, n_4, n_5, n_6, n_7, n_8, n_9, n_10, n_12, n_13, n_15, n_20, n_24, n_27, n_31, n_32, n_33, n_36, n_44, n_48, n_50, n_57, n_58, n_59, n_72, n_74, n_75, n_85, n_91, n_96, n_97, n_99, n_122, n_255, n_300, n_432, n_600, n_900, n_999, n_1000, n_1291, n_1399, n_2798, n_11192, n_65536, n_65537, n_99999999, n_1000000]
          rw [xs, Option.bind_some, if_pos rfl]
          simp (disch := omega) only [n_0, n_1, n_2, n_3, n_4, n_5, n_6, n_7, n_8, n_9, n_10, n_12, n_13, n_15, n_20, n_24, n_27, n_31, n_32, n_33, n_36, n_44, n_48, n_50, n_57, n_58, n_59, n_72, n_74, n_75, n_85, n_91, n_96, n_97, n_99, n_122, n_255, n_300, n_432, n_600, n_900, n_999, n_1000, n_1291, n_1399, n_2798, n_11192, n_65536, n_65537, n_99999999, n_1000000, nI_add, pk_mul, q_le, q_lt, q_eq, q_cl, q_gi, q_gz, q_sub, q_div, q_dm, d_dm, q_m1, q_mn, q_nm, q_mlt, q_ltm, q_mle, q_lem, q_mm, Option.bind_some, if_true, if_false, Nat.add_zero, ite_self, q_us, q_un, decide_true, decide_false, Bool.false_eq_true, eq_self, and_self, and_true, true_and, and_false, false_and, or_true, true_or, or_false, false_or, d_ltT, d_ltF, d_leT, d_leF, d_eqT, d_eqF, f_X0_add, e_put]
        · rw [if_pos hz] at ht
          subst ht
          unfold f_X11_readDie_L167
          simp only [n_0, n_1, n_2, n_3, n_4, n_5, n_6, n_7, n_8, n_9, n_10, n_12, n_13, n_15, n_20, n_24, n_27, n_31, n_32, n_33, n_36, n_44, n_48, n_50, n_57, n_58, n_59, n_72, n_74, n_75, n_85, n_91, n_96, n_97, n_99, n_122, n_255, n_300, n_432, n_600, n_900, n_999, n_1000, n_1291, n_1399, n_2798, n_11192, n_65536, n_65537, n_99999999, n_1000000]
          rw [y_check_t, Option.bind_some, q_cl (show 3 < 2147483648 by omega), hm3, nI_add]
          unfold f_X11_readDie_L183
          rw [y_next_t a3, Option.bind_some]
      · have xs := x_semi_a (N := N) (eo := eo) (c := 6) hT hC hs (by omega) (by omega)
        have yf := @y_check_f st eo 6 (by omega) (by omega)
        have yn := @y_next_e N (nI L) po st tk vl lw mi 6 (by omega) (by omega)
        refine ⟨nI 6, ts, nI (w 3), fc, dw, kd, ts, te, tv, po, st, tk, vl, lw, nI 6, st, upd (upd m (7 + 13 * w 3) (nI i)) 3 (nI (w 3 + 1)), ?_, h125 _ (fun t yz ht => ?_), Or.inr ⟨6, by omega, by omega, rfl, rfl, hC.2.2.1.trans hK.2.2.1.symm, rfl⟩⟩
        · rw [if_pos trivial, if_neg (c_n0 (c := 1) (by omega) (by omega))]
          unfold f_X5_readDie_L120
          simp only [n_0, n_1, n_2, n_3, n_4, n_5, n_6, n_7, n_8, n_9, n_10, n_12, n_13, n_15, n_20, n_24, n_27, n_31, n_32, n_33, n_36, n_44, n_48, n_50, n_57, n_58, n_59, n_72, n_74, n_75, n_85, n_91, n_96, n_97, n_99, n_122, n_255, n_300, n_432, n_600, n_900, n_999, n_1000, n_1291, n_1399, n_2798, n_11192, n_65536, n_65537, n_99999999, n_1000000]
          rw [if_pos (show nI (sumTo i (dW g (w 3))) = nI 0 by rw [show sumTo i (dW g (w 3)) = 0 by omega])]
          unfold f_X5_readDie_L131
          simp only [n_0, n_1, n_2, n_3, n_4, n_5, n_6, n_7, n_8, n_9, n_10, n_12, n_13, n_15, n_20, n_24, n_27, n_31, n_32, n_33, n_36, n_44, n_48, n_50, n_57, n_58, n_59, n_72, n_74, n_75, n_85, n_91, n_96, n_97, n_99, n_122, n_255, n_300, n_432, n_600, n_900, n_999, n_1000, n_1291, n_1399, n_2798, n_11192, n_65536, n_65537, n_99999999, n_1000000]
          rw [xs, Option.bind_some, if_neg (c_n0 (c := 6) (by omega) (by omega))]
        · rw [if_neg hz] at ht
          subst ht
          unfold f_X11_readDie_L167
          simp only [n_0, n_1, n_2, n_3, n_4, n_5, n_6, n_7, n_8, n_9, n_10, n_12, n_13, n_15, n_20, n_24, n_27, n_31, n_32, n_33, n_36, n_44, n_48, n_50, n_57, n_58, n_59, n_72, n_74, n_75, n_85, n_91, n_96, n_97, n_99, n_122, n_255, n_300, n_432, n_600, n_900, n_999, n_1000, n_1291, n_1399, n_2798, n_11192, n_65536, n_65537, n_99999999, n_1000000]
          rw [yf, Option.bind_some, q_cl (show 3 < 2147483648 by omega), hm3, nI_add]
          unfold f_X11_readDie_L183
          rw [yn, Option.bind_some]
    · -- a weight, or an error
      have hcl : ∀ X, f_X5_readDie_L58 N (nI L) tb (f_X5_readDie_L30 N (nI L) tb jc) (nI (w 3)) (nI i) (nI (sumTo i (dW g (w 3)))) (nI 0) eo (nI (w 3)) fc dw kd ts te tv = X → (if nI 0 = nI 0 then if nI i < nI 2 then f_X5_readDie_L58 N (nI L) tb (f_X5_readDie_L30 N (nI L) tb jc) (nI (w 3)) (nI i) (nI (sumTo i (dW g (w 3)))) (nI 0) eo (nI (w 3)) fc dw kd ts te tv else (f_X9_isSemicolon (nI L) tb kd ts).bind fun t2 => if t2 = nI 0 then f_X5_readDie_L58 N (nI L) tb (f_X5_readDie_L30 N (nI L) tb jc) (nI (w 3)) (nI i) (nI (sumTo i (dW g (w 3)))) (nI 0) eo (nI (w 3)) fc dw kd ts te tv else f_X5_readDie_L120 N (nI L) tb (nI i) (nI (sumTo i (dW g (w 3)))) (nI 0) eo (nI (w 3)) fc dw kd ts te tv else f_X5_readDie_L120 N (nI L) tb (nI i) (nI (sumTo i (dW g (w 3)))) (nI 0) eo (nI (w 3)) fc dw kd ts te tv) = X := fun X hX => by
        rw [if_pos rfl]
        by_cases hi2 : i < 2
        · rw [if_pos (by rw [q_lt (by omega) (by omega)]; exact hi2)]
          exact hX
        · rw [if_neg (by rw [q_lt (by omega) (by omega)]; exact hi2), x_isS_f hT hC (fun x => hend ⟨by omega, x⟩), Option.bind_some, if_pos rfl]
          exact hX
      by_cases hk2 : i < 2 ∨ tkK b L s = 2
      · have hmo : ∀ X, f_X11_readDie_L72 N (nI L) mi (f_X11_readDie_L52 N (nI L) mi jm) (nI (7 + 13 * w 3)) (nI i) po st tk vl lw (nI 0) eo m = X → (if nI 0 = nI 0 then if nI i < nI 2 then f_X11_readDie_L72 N (nI L) mi (f_X11_readDie_L52 N (nI L) mi jm) (nI (7 + 13 * w 3)) (nI i) po st tk vl lw (nI 0) eo m else if tk = nI 2 then f_X11_readDie_L72 N (nI L) mi (f_X11_readDie_L52 N (nI L) mi jm) (nI (7 + 13 * w 3)) (nI i) po st tk vl lw (nI 0) eo m else f_X11_readDie_L125 N (nI L) mi (nI (7 + 13 * w 3)) (nI i) po st tk vl lw (nI 0) eo m else f_X11_readDie_L125 N (nI L) mi (nI (7 + 13 * w 3)) (nI i) po st tk vl lw (nI 0) eo m) = X := fun X hX => by
          rw [if_pos rfl]
          by_cases hi2 : i < 2
          · rw [if_pos (by rw [q_lt (by omega) (by omega)]; exact hi2)]
            exact hX
          · rw [if_neg (by rw [q_lt (by omega) (by omega)]; exact hi2), if_pos (by rw [htk, m2.mpr (by omega)])]
            exact hX
        rcases s_w (eo := eo) (pl := eo) hNx hT hM hC hK with ⟨v, s', kd', ts', te', tv', po', st', tk', vl', lt', v1, v2, v3, v4, v5, v6, v7, v8, v9⟩ | ⟨c, c1, c2, c3, c4, c5, c6⟩
        · by_cases hi12 : i < 12
          · -- the weight is taken
            have hmr := hR.up (i := 7 + 13 * w 3 + 1 + i) (v := v)
            have hdW : ∀ t, t < i → dW (up g (7 + 13 * w 3 + 1 + i) v) (w 3) t = dW g (w 3) t := fun t ht => up_n (by omega)
            have hdi : dW (up g (7 + 13 * w 3 + 1 + i) v) (w 3) i = v := up_s rfl
            have hS2 : sW w (up g (7 + 13 * w 3 + 1 + i) v) := fun k hk => by
              rw [up_n (by omega)]
              exact hS k hk
            have hsum : sumTo (i + 1) (dW (up g (7 + 13 * w 3 + 1 + i) v) (w 3)) = sumTo i (dW g (w 3)) + v := by
              rw [sumTo_s, hdi, sumTo_congr hdW]
            obtain ⟨ec', eo', dc', fc', dw', q1, q2, q3, q4, q5, q6, q7, q8, q9, code', pl', m', z1, z2, z3⟩ := ih (i + 1) jc jm s' kd' ts' te' tv' po' st' tk' vl' lt' (up g (7 + 13 * w 3 + 1 + i) v) _ (upd dw (12 * w 3 + i) (nI v)) (by omega) (by omega) (by omega) v8 v9 hmr hS2 (fun t ht => by
              by_cases hti : t = i
              · rw [hti, hdi, q_us rfl]
                exact ⟨v1, rfl⟩
              · rw [hdW t (by omega), q_un (by omega)]
                exact hw t (by omega)) (fun t ht => by rw [q_un (by omega)]; exact hk t ht) (by omega)
            rw [hsum] at z1
            refine ⟨ec', eo', dc', fc', dw', q1, q2, q3, q4, q5, q6, q7, q8, q9, code', pl', m', hcl _ (hL79 _ ?_ hi12), hmo _ ?_, ?_⟩
            · unfold f_X5_readDie_L79
              simp only [n_0, n_1, n_2, n_3, n_4, n_5, n_6, n_7, n_8, n_9, n_10, n_12, n_13, n_15, n_20, n_24, n_27, n_31, n_32, n_33, n_36, n_44, n_48, n_50, n_57, n_58, n_59, n_72, n_74, n_75, n_85, n_91, n_96, n_97, n_99, n_122, n_255, n_300, n_432, n_600, n_900, n_999, n_1000, n_1291, n_1399, n_2798, n_11192, n_65536, n_65537, n_99999999, n_1000000]
              rw [v5, Option.bind_some, if_pos rfl, nI_add]
              have hpw : f_X0_putWeight dw (nI (w 3)) (nI (i + 1)) (nI v) = some (upd dw (12 * w 3 + i) (nI v)) := by
                simp (disch := omega) only [n_0, n_1, n_2, n_3, n_4, n_5, n_6, n_7, n_8, n_9, n_10, n_12, n_13, n_15, n_20, n_24, n_27, n_31, n_32, n_33, n_36, n_44, n_48, n_50, n_57, n_58, n_59, n_72, n_74, n_75, n_85, n_91, n_96, n_97, n_99, n_122, n_255, n_300, n_432, n_600, n_900, n_999, n_1000, n_1291, n_1399, n_2798, n_11192, n_65536, n_65537, n_99999999, n_1000000, nI_add, pk_mul, q_le, q_lt, q_eq, q_cl, q_gi, q_gz, q_sub, q_div, q_dm, d_dm, q_m1, q_mn, q_nm, q_mlt, q_ltm, q_mle, q_lem, q_mm, Option.bind_some, if_true, if_false, Nat.add_zero, ite_self, q_us, q_un, decide_true, decide_false, Bool.false_eq_true, eq_self, and_self, and_true, true_and, and_false, false_and, or_true, true_or, or_false, false_or, d_ltT, d_ltF, d_leT, d_leF, d_eqT, d_eqF, f_X0_putWeight, e_cell, e_put]
              rw [hpw, Option.bind_some]
              unfold f_X5_readDie_L117
              rw [nI_add]
              exact z1
            · unfold f_X11_readDie_L72
              simp only [n_0, n_1, n_2, n_3, n_4, n_5, n_6, n_7, n_8, n_9, n_10, n_12, n_13, n_15, n_20, n_24, n_27, n_31, n_32, n_33, n_36, n_44, n_48, n_50, n_57, n_58, n_59, n_72, n_74, n_75, n_85, n_91, n_96, n_97, n_99, n_122, n_255, n_300, n_432, n_600, n_900, n_999, n_1000, n_1291, n_1399, n_2798, n_11192, n_65536, n_65537, n_99999999, n_1000000]
              rw [v6, Option.bind_some, if_neg (show ¬ nI 12 ≤ nI i by rw [q_le (by omega) (by omega)]; omega)]
              unfold f_X11_readDie_L92
              simp only [n_0, n_1, n_2, n_3, n_4, n_5, n_6, n_7, n_8, n_9, n_10, n_12, n_13, n_15, n_20, n_24, n_27, n_31, n_32, n_33, n_36, n_44, n_48, n_50, n_57, n_58, n_59, n_72, n_74, n_75, n_85, n_91, n_96, n_97, n_99, n_122, n_255, n_300, n_432, n_600, n_900, n_999, n_1000, n_1291, n_1399, n_2798, n_11192, n_65536, n_65537, n_99999999, n_1000000]
              rw [y_check_t, Option.bind_some, if_pos rfl, nI_add, nI_add, q_gi (by omega) (by omega), q_cl (show 7 + 13 * w 3 + 1 + i < 2147483648 by omega), nI_add]
              unfold f_X11_readDie_L118
              rw [y_next_t v7, Option.bind_some]
              exact z2
            · rcases z3 with ⟨s2, n, g', p1, p2, p3, p4, p5⟩ | z3
              · exact Or.inl ⟨s2, n, g', p1, p2, p3, by omega, p5⟩
              · exact Or.inr z3
          · -- a 13th
            have e12 : i = 12 := by omega
            have yf := @y_check_f st eo 5 (by omega) (by omega)
            have yn := @y_next_e N (nI L) po st tk vl lw mi 5 (by omega) (by omega)
            have xn := fun a0 a1 => @x_num_e N (nI L) ts kd ts te tv a0 a1 tb 5 (by omega) (by omega)
            obtain ⟨jc2, rfl⟩ : ∃ t, jc = t + 1 := ⟨jc - 1, by omega⟩
            obtain ⟨jm2, rfl⟩ : ∃ t, jm = t + 1 := ⟨jm - 1, by omega⟩
            refine ⟨nI 5, ts, nI (w 3), fc, dw, kd, ts, te, tv, po, st, tk, vl, lw, nI 5, st, m, hcl _ ?_, hmo _ ?_, Or.inr ⟨5, by omega, by omega, rfl, rfl, hC.2.2.1.trans hK.2.2.1.symm, rfl⟩⟩
            · unfold f_X5_readDie_L58
              simp only [n_0, n_1, n_2, n_3, n_4, n_5, n_6, n_7, n_8, n_9, n_10, n_12, n_13, n_15, n_20, n_24, n_27, n_31, n_32, n_33, n_36, n_44, n_48, n_50, n_57, n_58, n_59, n_72, n_74, n_75, n_85, n_91, n_96, n_97, n_99, n_122, n_255, n_300, n_432, n_600, n_900, n_999, n_1000, n_1291, n_1399, n_2798, n_11192, n_65536, n_65537, n_99999999, n_1000000]
              rw [if_neg (by rw [q_lt (by omega) (by omega)]; omega), v4, Option.bind_some, if_neg (c_n0 (c := 1) (by omega) (by omega)), x_fail0, Option.bind_some]
              unfold f_X5_readDie_L79
              simp only [n_0, n_1, n_2, n_3, n_4, n_5, n_6, n_7, n_8, n_9, n_10, n_12, n_13, n_15, n_20, n_24, n_27, n_31, n_32, n_33, n_36, n_44, n_48, n_50, n_57, n_58, n_59, n_72, n_74, n_75, n_85, n_91, n_96, n_97, n_99, n_122, n_255, n_300, n_432, n_600, n_900, n_999, n_1000, n_1291, n_1399, n_2798, n_11192, n_65536, n_65537, n_99999999, n_1000000]
              rw [xn, Option.bind_some, if_neg (c_n0 (c := 5) (by omega) (by omega)), nI_add]
              unfold f_X5_readDie_L117
              exact x_die_e (by omega) (by omega) (by omega)
            · unfold f_X11_readDie_L72
              simp only [n_0, n_1, n_2, n_3, n_4, n_5, n_6, n_7, n_8, n_9, n_10, n_12, n_13, n_15, n_20, n_24, n_27, n_31, n_32, n_33, n_36, n_44, n_48, n_50, n_57, n_58, n_59, n_72, n_74, n_75, n_85, n_91, n_96, n_97, n_99, n_122, n_255, n_300, n_432, n_600, n_900, n_999, n_1000, n_1291, n_1399, n_2798, n_11192, n_65536, n_65537, n_99999999, n_1000000]
              rw [v6, Option.bind_some, if_pos (show nI 12 ≤ nI i by rw [q_le (by omega) (by omega)]; omega)]
              unfold f_X11_readDie_L92
              simp only [n_0, n_1, n_2, n_3, n_4, n_5, n_6, n_7, n_8, n_9, n_10, n_12, n_13, n_15, n_20, n_24, n_27, n_31, n_32, n_33, n_36, n_44, n_48, n_50, n_57, n_58, n_59, n_72, n_74, n_75, n_85, n_91, n_96, n_97, n_99, n_122, n_255, n_300, n_432, n_600, n_900, n_999, n_1000, n_1291, n_1399, n_2798, n_11192, n_65536, n_65537, n_99999999, n_1000000]
              rw [yf, Option.bind_some, if_neg (c_n0 (c := 5) (by omega) (by omega))]
              unfold f_X11_readDie_L118
              rw [yn, Option.bind_some]
              exact y_die_e hM hK (by omega) (by omega)
        · -- no weight
          have xl : f_X5_readDie_L79 N (nI L) tb (f_X5_readDie_L30 N (nI L) tb jc) (nI (w 3)) (nI i) (nI (sumTo i (dW g (w 3)))) (nI 0) eo (nI (w 3)) fc dw kd ts te tv = some (nI c, ts, nI (w 3), fc, dw, kd, ts, te, tv) := by
            obtain ⟨jc2, rfl⟩ : ∃ t, jc = t + 1 := ⟨jc - 1, by omega⟩
            unfold f_X5_readDie_L79
            simp only [n_0, n_1, n_2, n_3, n_4, n_5, n_6, n_7, n_8, n_9, n_10, n_12, n_13, n_15, n_20, n_24, n_27, n_31, n_32, n_33, n_36, n_44, n_48, n_50, n_57, n_58, n_59, n_72, n_74, n_75, n_85, n_91, n_96, n_97, n_99, n_122, n_255, n_300, n_432, n_600, n_900, n_999, n_1000, n_1291, n_1399, n_2798, n_11192, n_65536, n_65537, n_99999999, n_1000000]
            rw [c4, Option.bind_some, if_neg (c_n0 c1 c2), nI_add]
            unfold f_X5_readDie_L117
            exact x_die_e c1 c2 (by omega)
          have ye := fun a0 => @y_check_e st st a0 (nI 5) c c1 c2
          have yn := @y_next_e N (nI L) po st tk vl lw mi c c1 c2
          refine ⟨nI c, ts, nI (w 3), fc, dw, kd, ts, te, tv, po, st, tk, vl, lw, nI c, st, m, hcl _ ?_, hmo _ ?_, Or.inr ⟨c, c1, c2, rfl, rfl, hC.2.2.1.trans hK.2.2.1.symm, rfl⟩⟩
          · by_cases hi12 : i < 12
            · exact hL79 _ xl hi12
            · unfold f_X5_readDie_L58
              simp only [n_0, n_1, n_2, n_3, n_4, n_5, n_6, n_7, n_8, n_9, n_10, n_12, n_13, n_15, n_20, n_24, n_27, n_31, n_32, n_33, n_36, n_44, n_48, n_50, n_57, n_58, n_59, n_72, n_74, n_75, n_85, n_91, n_96, n_97, n_99, n_122, n_255, n_300, n_432, n_600, n_900, n_999, n_1000, n_1291, n_1399, n_2798, n_11192, n_65536, n_65537, n_99999999, n_1000000]
              rw [if_neg (by rw [q_lt (by omega) (by omega)]; omega), c3, Option.bind_some, if_pos rfl]
              exact xl
          · obtain ⟨jm2, rfl⟩ : ∃ t, jm = t + 1 := ⟨jm - 1, by omega⟩
            unfold f_X11_readDie_L72
            simp only [n_0, n_1, n_2, n_3, n_4, n_5, n_6, n_7, n_8, n_9, n_10, n_12, n_13, n_15, n_20, n_24, n_27, n_31, n_32, n_33, n_36, n_44, n_48, n_50, n_57, n_58, n_59, n_72, n_74, n_75, n_85, n_91, n_96, n_97, n_99, n_122, n_255, n_300, n_432, n_600, n_900, n_999, n_1000, n_1291, n_1399, n_2798, n_11192, n_65536, n_65537, n_99999999, n_1000000]
            rw [c5, Option.bind_some]
            unfold f_X11_readDie_L92
            simp only [n_0, n_1, n_2, n_3, n_4, n_5, n_6, n_7, n_8, n_9, n_10, n_12, n_13, n_15, n_20, n_24, n_27, n_31, n_32, n_33, n_36, n_44, n_48, n_50, n_57, n_58, n_59, n_72, n_74, n_75, n_85, n_91, n_96, n_97, n_99, n_122, n_255, n_300, n_432, n_600, n_900, n_999, n_1000, n_1291, n_1399, n_2798, n_11192, n_65536, n_65537, n_99999999, n_1000000]
            split <;> (rw [ye, Option.bind_some, if_neg (c_n0 c1 c2)]; unfold f_X11_readDie_L118; rw [yn, Option.bind_some]; exact y_die_e hM hK c1 c2)
      · -- neither a weight nor the end
        have hi2 : ¬ i < 2 := fun x => hk2 (Or.inl x)
        have hkk : tkK b L s ≠ 2 := fun x => hk2 (Or.inr x)
        have hns : ¬ isS b L s := fun x => hend ⟨by omega, x⟩
        rcases s_w (eo := eo) (pl := eo) hNx hT hM hC hK with ⟨v, s', kd', ts', te', tv', po', st', tk', vl', lt', v1, v2, -⟩ | ⟨c, c1, c2, c3, c4, c5, c6⟩
        · exact absurd v2 hkk
        · have e1c := c6 hkk
          subst e1c
          have yn := @y_next_e N (nI L) po st tk vl lw mi 1 (by omega) (by omega)
          refine ⟨nI 1, ts, nI (w 3), fc, dw, kd, ts, te, tv, po, st, tk, vl, lw, nI 1, st, m, hcl _ ?_, ?_, Or.inr ⟨1, by omega, by omega, rfl, rfl, hC.2.2.1.trans hK.2.2.1.symm, rfl⟩⟩
          · have xl : f_X5_readDie_L79 N (nI L) tb (f_X5_readDie_L30 N (nI L) tb jc) (nI (w 3)) (nI i) (nI (sumTo i (dW g (w 3)))) (nI 0) eo (nI (w 3)) fc dw kd ts te tv = some (nI 1, ts, nI (w 3), fc, dw, kd, ts, te, tv) := by
              obtain ⟨jc2, rfl⟩ : ∃ t, jc = t + 1 := ⟨jc - 1, by omega⟩
              unfold f_X5_readDie_L79
              simp only [n_0, n_1, n_2, n_3, n_4, n_5, n_6, n_7, n_8, n_9, n_10, n_12, n_13, n_15, n_20, n_24, n_27, n_31, n_32, n_33, n_36, n_44, n_48, n_50, n_57, n_58, n_59, n_72, n_74, n_75, n_85, n_91, n_96, n_97, n_99, n_122, n_255, n_300, n_432, n_600, n_900, n_999, n_1000, n_1291, n_1399, n_2798, n_11192, n_65536, n_65537, n_99999999, n_1000000]
              rw [c4, Option.bind_some, if_neg (c_n0 c1 c2), nI_add]
              unfold f_X5_readDie_L117
              exact x_die_e c1 c2 (by omega)
            by_cases hi12 : i < 12
            · exact hL79 _ xl hi12
            · unfold f_X5_readDie_L58
              simp only [n_0, n_1, n_2, n_3, n_4, n_5, n_6, n_7, n_8, n_9, n_10, n_12, n_13, n_15, n_20, n_24, n_27, n_31, n_32, n_33, n_36, n_44, n_48, n_50, n_57, n_58, n_59, n_72, n_74, n_75, n_85, n_91, n_96, n_97, n_99, n_122, n_255, n_300, n_432, n_600, n_900, n_999, n_1000, n_1291, n_1399, n_2798, n_11192, n_65536, n_65537, n_99999999, n_1000000]
              rw [if_neg (by rw [q_lt (by omega) (by omega)]; omega), c3, Option.bind_some, if_pos rfl]
              exact xl
          · rw [if_pos trivial, if_neg (show ¬ nI i < nI 2 by rw [q_lt (by omega) (by omega)]; exact hi2), if_neg (show ¬ tk = nI 2 from fun x => by
              rw [htk] at x
              exact hkk (m2.mp (nI_in2 (by omega) (by omega) x)))]
            unfold f_X11_readDie_L125
            simp only [n_0, n_1, n_2, n_3, n_4, n_5, n_6, n_7, n_8, n_9, n_10, n_12, n_13, n_15, n_20, n_24, n_27, n_31, n_32, n_33, n_36, n_44, n_48, n_50, n_57, n_58, n_59, n_72, n_74, n_75, n_85, n_91, n_96, n_97, n_99, n_122, n_255, n_300, n_432, n_600, n_900, n_999, n_1000, n_1291, n_1399, n_2798, n_11192, n_65536, n_65537, n_99999999, n_1000000]
            rw [y_semi_f hM hK hns, Option.bind_some, if_neg (c_n0 (c := 1) (by omega) (by omega))]
            unfold f_X11_readDie_L183
            rw [yn, Option.bind_some]
theorem r_die {N L s : Nat} {b g : Nat → Nat} {tb mi m : Nat → Int32} {sd : Int32} {mn : Int32} {th : Int32} {dc : Int32} {fc : Nat → Int32} {dw : Nat → Int32} {pc : Int32} {ln : Nat → Int32} {lt : Nat → Int32} {tc : Int32} {en : Nat → Int32} {fr : Nat → Int32} {oc : Int32} {op : Nat → Int32} {os : Nat → Int32} {kd ts te tv po st tk vl lw eo : Int32} (hN : 2000 < N) (hT : TR b L tb) (hM : TR b L mi) (h1 : TC b L s kd ts te tv) (h2 : TM b L s po st tk vl lw) (hO : Ok g) (hZ : ZR fc) (hH : HR g sd mn th dc fc dw pc ln lt tc en fr oc op os) (h : MR m g) : ∃ ec' eo' dc' fc' dw' kd' ts' te' tv' po' st' tk' vl' lw' code' pl' m', f_X5_readDie N (nI L) tb (nI 0) eo dc fc dw kd ts te tv = some (ec', eo', dc', fc', dw', kd', ts', te', tv') ∧ f_X11_readDie N (nI L) mi po st tk vl lw (nI 0) eo m = some (po', st', tk', vl', lw', code', pl', m') ∧ PS b L (tkE b L s) ec' eo' sd mn th dc' fc' dw' pc ln lt tc en fr oc op os kd' ts' te' tv' po' st' tk' vl' lw' code' pl' m' := by
  obtain ⟨⟨q0, q1, q2, q3, q4, q5, q6⟩, hD, hP, hE, hF, hQ⟩ := hH
  have b3 := b_3 hO.1
  have m3 := h 3 (by omega)
  have hNx : 1000 < N := by omega
  subst q3
  by_cases h6 : g 3 = 6
  · have yf := @y_check_f st eo 5 (by omega) (by omega)
    have yn := @y_next_e N (nI L) po st tk vl lw mi 5 (by omega) (by omega)
    obtain ⟨jc, rfl⟩ : ∃ t, N = t + 1 := ⟨N - 1, by omega⟩
    refine ⟨nI 5, ts, nI (g 3), fc, dw, kd, ts, te, tv, po, st, tk, vl, lw, nI 5, st, m, ?_, ?_, hZ, Or.inr ⟨5, by omega, by omega, rfl, rfl, h1.2.2.1.trans h2.2.2.1.symm⟩⟩
    · unfold f_X5_readDie
      simp only [n_0, n_1, n_2, n_3, n_4, n_5, n_6, n_7, n_8, n_9, n_10, n_12, n_13, n_15, n_20, n_24, n_27, n_31, n_32, n_33, n_36, n_44, n_48, n_50, n_57, n_58, n_59, n_72, n_74, n_75, n_85, n_91, n_96, n_97, n_99, n_122, n_255, n_300, n_432, n_600, n_900, n_999, n_1000, n_1291, n_1399, n_2798, n_11192, n_65536, n_65537, n_99999999, n_1000000]
      rw [if_neg (by rw [q_lt (by omega) (by omega)]; omega)]
      unfold f_X5_readDie_L23 f_X5_takeKeyword
      simp only [n_0, n_1, n_2, n_3, n_4, n_5, n_6, n_7, n_8, n_9, n_10, n_12, n_13, n_15, n_20, n_24, n_27, n_31, n_32, n_33, n_36, n_44, n_48, n_50, n_57, n_58, n_59, n_72, n_74, n_75, n_85, n_91, n_96, n_97, n_99, n_122, n_255, n_300, n_432, n_600, n_900, n_999, n_1000, n_1291, n_1399, n_2798, n_11192, n_65536, n_65537, n_99999999, n_1000000]
      rw [if_neg (c_n0 (c := 5) (by omega) (by omega)), x_fail0, Option.bind_some, Option.bind_some]
      exact x_die_e (i := 0) (by omega) (by omega) (by omega)
    · unfold f_X11_readDie
      simp only [n_0, n_1, n_2, n_3, n_4, n_5, n_6, n_7, n_8, n_9, n_10, n_12, n_13, n_15, n_20, n_24, n_27, n_31, n_32, n_33, n_36, n_44, n_48, n_50, n_57, n_58, n_59, n_72, n_74, n_75, n_85, n_91, n_96, n_97, n_99, n_122, n_255, n_300, n_432, n_600, n_900, n_999, n_1000, n_1291, n_1399, n_2798, n_11192, n_65536, n_65537, n_99999999, n_1000000]
      rw [q_cl (by omega), m3, if_pos (by rw [q_le (by omega) (by omega)]; omega)]
      unfold f_X11_readDie_L17
      simp only [n_0, n_1, n_2, n_3, n_4, n_5, n_6, n_7, n_8, n_9, n_10, n_12, n_13, n_15, n_20, n_24, n_27, n_31, n_32, n_33, n_36, n_44, n_48, n_50, n_57, n_58, n_59, n_72, n_74, n_75, n_85, n_91, n_96, n_97, n_99, n_122, n_255, n_300, n_432, n_600, n_900, n_999, n_1000, n_1291, n_1399, n_2798, n_11192, n_65536, n_65537, n_99999999, n_1000000]
      rw [yf, Option.bind_some, yn, Option.bind_some, if_neg (c_n0 (c := 5) (by omega) (by omega))]
      unfold f_X11_ofDie
      rw [Option.bind_some]
      unfold f_X11_readDie_L49
      exact y_die_e hM h2 (by omega) (by omega)
  · obtain ⟨s1, k1, k2, k3, k4, k5, k6, k7, k8, k9, a1, a2, a3, a4, a5⟩ := s_adv hNx hT hM h1 h2
    have hkey : f_X5_takeKeyword N (nI L) tb (nI 0) eo kd ts te tv (nI 0) = some (nI 0, eo, k1, k2, k3, k4) := by
      simp (disch := omega) only [n_0, n_1, n_2, n_3, n_4, n_5, n_6, n_7, n_8, n_9, n_10, n_12, n_13, n_15, n_20, n_24, n_27, n_31, n_32, n_33, n_36, n_44, n_48, n_50, n_57, n_58, n_59, n_72, n_74, n_75, n_85, n_91, n_96, n_97, n_99, n_122, n_255, n_300, n_432, n_600, n_900, n_999, n_1000, n_1291, n_1399, n_2798, n_11192, n_65536, n_65537, n_99999999, n_1000000, nI_add, pk_mul, q_le, q_lt, q_eq, q_cl, q_gi, q_gz, q_sub, q_div, q_dm, d_dm, q_m1, q_mn, q_nm, q_mlt, q_ltm, q_mle, q_lem, q_mm, Option.bind_some, if_true, if_false, Nat.add_zero, ite_self, q_us, q_un, decide_true, decide_false, Bool.false_eq_true, eq_self, and_self, and_true, true_and, and_false, false_and, or_true, true_or, or_false, false_or, d_ltT, d_ltF, d_leT, d_leF, d_eqT, d_eqF, f_X5_takeKeyword, a2]
    obtain ⟨ec', eo', dc', fc', dw', p1, p2, p3, p4, p5, p6, p7, p8, p9, code', pl', m', z1, z2, z3⟩ := r_dieL (eo := eo) hN hT hM hO (show g 3 < 6 by omega) hD 13 0 N N s1 k1 k2 k3 k4 k5 k6 k7 k8 k9 g m dw (by omega) (by omega) (by omega) a4 a5 h (fun k _ => rfl) (fun t ht => by omega) (fun t _ => rfl) (by omega)
    refine ⟨ec', eo', dc', fc', dw', p1, p2, p3, p4, p5, p6, p7, p8, p9, code', pl', m', ?_, ?_, ?_⟩
    · unfold f_X5_readDie
      simp only [n_0, n_1, n_2, n_3, n_4, n_5, n_6, n_7, n_8, n_9, n_10, n_12, n_13, n_15, n_20, n_24, n_27, n_31, n_32, n_33, n_36, n_44, n_48, n_50, n_57, n_58, n_59, n_72, n_74, n_75, n_85, n_91, n_96, n_97, n_99, n_122, n_255, n_300, n_432, n_600, n_900, n_999, n_1000, n_1291, n_1399, n_2798, n_11192, n_65536, n_65537, n_99999999, n_1000000]
      rw [if_pos (by rw [q_lt (by omega) (by omega)]; omega)]
      unfold f_X5_readDie_L23
      simp only [n_0, n_1, n_2, n_3, n_4, n_5, n_6, n_7, n_8, n_9, n_10, n_12, n_13, n_15, n_20, n_24, n_27, n_31, n_32, n_33, n_36, n_44, n_48, n_50, n_57, n_58, n_59, n_72, n_74, n_75, n_85, n_91, n_96, n_97, n_99, n_122, n_255, n_300, n_432, n_600, n_900, n_999, n_1000, n_1291, n_1399, n_2798, n_11192, n_65536, n_65537, n_99999999, n_1000000]
      rw [hkey, Option.bind_some]
      exact z1
    · unfold f_X11_readDie
      simp only [n_0, n_1, n_2, n_3, n_4, n_5, n_6, n_7, n_8, n_9, n_10, n_12, n_13, n_15, n_20, n_24, n_27, n_31, n_32, n_33, n_36, n_44, n_48, n_50, n_57, n_58, n_59, n_72, n_74, n_75, n_85, n_91, n_96, n_97, n_99, n_122, n_255, n_300, n_432, n_600, n_900, n_999, n_1000, n_1291, n_1399, n_2798, n_11192, n_65536, n_65537, n_99999999, n_1000000]
      rw [q_cl (by omega), m3, if_neg (by rw [q_le (by omega) (by omega)]; omega)]
      unfold f_X11_readDie_L17
      simp only [n_0, n_1, n_2, n_3, n_4, n_5, n_6, n_7, n_8, n_9, n_10, n_12, n_13, n_15, n_20, n_24, n_27, n_31, n_32, n_33, n_36, n_44, n_48, n_50, n_57, n_58, n_59, n_72, n_74, n_75, n_85, n_91, n_96, n_97, n_99, n_122, n_255, n_300, n_432, n_600, n_900, n_999, n_1000, n_1291, n_1399, n_2798, n_11192, n_65536, n_65537, n_99999999, n_1000000]
      rw [y_check_t, Option.bind_some, y_next_t a3, Option.bind_some, if_pos rfl, q_cl (by omega), m3]
      unfold f_X11_ofDie
      rw [Option.bind_some]
      unfold f_X11_readDie_L49
      simp only [n_0, n_1, n_2, n_3, n_4, n_5, n_6, n_7, n_8, n_9, n_10, n_12, n_13, n_15, n_20, n_24, n_27, n_31, n_32, n_33, n_36, n_44, n_48, n_50, n_57, n_58, n_59, n_72, n_74, n_75, n_85, n_91, n_96, n_97, n_99, n_122, n_255, n_300, n_432, n_600, n_900, n_999, n_1000, n_1291, n_1399, n_2798, n_11192, n_65536, n_65537, n_99999999, n_1000000]
      rw [pk_mul, nI_add]
      exact z2
    · rcases z3 with ⟨s', n, g', r1, r2, r3, r4, r5, r6, r7, r8, r9, r10, r11, r12, r13, r14, r15⟩ | ⟨c, c1, c2, c3, c4, c5, c6⟩
      · obtain ⟨o1, o2, o3, o4, o5, o6⟩ := sW_ok r9 hO (show g 3 < 6 by omega)
        have hok := gDie_ok o1 (show g' 3 < 6 by omega) r7 r8 (fun i hi => by rw [o2]; exact (r13 i hi).1) (by rw [o2]; exact r14)
        obtain ⟨t1, t2, t3⟩ := gDie_s (g := g') (n := n) (show g' 3 < 6 by omega)
        refine ⟨?_, Or.inl ⟨gDie g' n, s', r1, r2, r3, by omega, r5, r6, hok, r10, ⟨?_, ?_, ?_, ?_, ?_, ?_, ?_⟩, ?_, sP_R t1 o1.1 (sP_R o3 hO.1 hP), sT_E t2 o1.1 (sT_E o4 hO.1 hE), sT_F t2 o1.1 (sT_F o4 hO.1 hF), sO_Q t3 o1.1 (sO_Q o5 hO.1 hQ)⟩⟩
        · rw [r12]
          intro d hd
          by_cases hdg : d = g 3
          · rw [q_us hdg]
            exact ⟨n, r8, rfl⟩
          · rw [q_un hdg]
            exact hZ d hd
        · rw [q0, gDie_n (by omega) (by omega), o6 0 (by omega)]
        · rw [q1, gDie_n (by omega) (by omega), o6 1 (by omega)]
        · rw [q2, gDie_n (by omega) (by omega), o6 2 (by omega)]
        · rw [r11, gDie_3, o2]
        · rw [q4, t1.1, o3.1]
        · rw [q5, t2.1, o4.1]
        · rw [q6, t3.1, o5.1]
        · intro d hd
          rw [gDie_3, o2] at hd
          rw [r12]
          by_cases hdg : d = g 3
          · rw [q_us hdg, hdg, ← o2, gDie_F]
            exact ⟨rfl, fun i hi => by rw [gDie_W (by omega), o2]; exact (r13 i hi).2⟩
          · have eF : dF g' d = dF g d := r9 _ (by omega)
            rw [q_un hdg, gDie_Fo (by omega), eF]
            have hdd := hO.2.1 d (by omega)
            refine ⟨(hD d (by omega)).1, fun i hi => ?_⟩
            have eW : dW g' d i = dW g d i := r9 _ (by omega)
            rw [gDie_W (by omega), eW, r15 _ (by omega)]
            exact (hD d (by omega)).2 i hi
      · refine ⟨by rw [c6]; exact hZ, Or.inr ⟨c, c1, c2, c3, c4, c5⟩⟩
