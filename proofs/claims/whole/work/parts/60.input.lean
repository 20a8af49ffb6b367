/-! the input -/
def Ho {α : Type} (o : Option α) (P : α → Prop) : Prop := ∃ r, o = some r ∧ P r
def TI (itl : Int32) (itb : Nat → Int32) (mil : Int32) (mi : Nat → Int32) : Prop := ∃ (L : Nat) (b : Nat → Nat), itl = nI L ∧ mil = nI L ∧ TR b L itb ∧ TR b L mi
theorem TR_push {b : Nat → Nat} {L w : Nat} {tb : Nat → Int32} (h : TR b L tb) (hL : L < 600) (hw : w < 256) : TR (up b L w) (L + 1) (upd tb L (nI w)) := by
  refine ⟨by omega, fun i hi => ?_⟩
  by_cases c : i = L
  · subst c
    rw [up_s rfl, q_us rfl]
    exact ⟨hw, rfl⟩
  · rw [up_n c, q_un c]
    exact h.2 i (by omega)
theorem TR_cut {b : Nat → Nat} {L n : Nat} {tb : Nat → Int32} (h : TR b L tb) (hn : n ≤ L) : TR b n tb := ⟨by have := h.1; omega, fun i hi => h.2 i (by omega)⟩
theorem aw_step {N L : Nat} {b : Nat → Nat} {x s t : Int32} {tb mi : Nat → Int32} (hs : ¬ s < nI 0) (ht : s + -nI 8 = t) (hL : L < 600) (h1 : TR b L tb) (h2 : TR b L mi) (j j' : Nat) : ∃ b' tb' mi', f_X8_appendWord_L3 N (j + 1) x s (nI L) tb = f_X8_appendWord_L3 N j x t (nI (L + 1)) tb' ∧ f_X11_appendWord_L3 N (j' + 1) x s (nI L) mi = f_X11_appendWord_L3 N j' x t (nI (L + 1)) mi' ∧ TR b' (L + 1) tb' ∧ TR b' (L + 1) mi' := by
  obtain ⟨w, hw, e⟩ := pk_andE (x >>> (s &&& nI 31)) (m := nI 255) 8 (by decide +kernel)
  have hw2 : w < 256 := hw
  refine ⟨up b L w, upd tb L (nI w), upd mi L (nI w), ?_, ?_, TR_push h1 hL hw2, TR_push h2 hL hw2⟩
  · show f_X8_appendWord_L3_F N (f_X8_appendWord_L3 N j) x s (nI L) tb = _
    unfold f_X8_appendWord_L3_F f_X8_append
    simp only [n_0, n_1, n_2, n_3, n_4, n_5, n_6, n_7, n_8, n_9, n_10, n_12, n_13, n_15, n_20, n_24, n_27, n_31, n_32, n_33, n_36, n_44, n_48, n_50, n_57, n_58, n_59, n_72, n_74, n_75, n_85, n_91, n_96, n_97, n_99, n_122, n_255, n_300, n_432, n_600, n_900, n_999, n_1000, n_1291, n_1399, n_2798, n_11192, n_65536, n_65537, n_99999999, n_1000000]
    rw [if_neg hs, e, if_neg (by rw [q_le (by omega) (by omega)]; omega), e_put (by omega) (by omega), Option.bind_some, Option.bind_some, nI_add, ht]
  · show f_X11_appendWord_L3_F N (f_X11_appendWord_L3 N j') x s (nI L) mi = _
    unfold f_X11_appendWord_L3_F
    simp only [n_0, n_1, n_2, n_3, n_4, n_5, n_6, n_7, n_8, n_9, n_10, n_12, n_13, n_15, n_20, n_24, n_27, n_31, n_32, n_33, n_36, n_44, n_48, n_50, n_57, n_58, n_59, n_72, n_74, n_75, n_85, n_91, n_96, n_97, n_99, n_122, n_255, n_300, n_432, n_600, n_900, n_999, n_1000, n_1291, n_1399, n_2798, n_11192, n_65536, n_65537, n_99999999, n_1000000]
    rw [if_neg hs, e, q_gi (by omega) (by omega), q_cl (by omega), nI_add, ht]
theorem aw {N L : Nat} {b : Nat → Nat} (x : Int32) {tb mi : Nat → Int32} (hN : 1000 < N) (hL : L + 4 ≤ 600) (h1 : TR b L tb) (h2 : TR b L mi) : ∃ b' tb' mi', f_X8_appendWord N (nI L) tb x = some (nI (L + 4), tb') ∧ f_X11_appendWord N (nI L) mi x = some (nI (L + 4), mi') ∧ TR b' (L + 4) tb' ∧ TR b' (L + 4) mi' := by
  unfold f_X8_appendWord f_X11_appendWord
  simp only [n_0, n_1, n_2, n_3, n_4, n_5, n_6, n_7, n_8, n_9, n_10, n_12, n_13, n_15, n_20, n_24, n_27, n_31, n_32, n_33, n_36, n_44, n_48, n_50, n_57, n_58, n_59, n_72, n_74, n_75, n_85, n_91, n_96, n_97, n_99, n_122, n_255, n_300, n_432, n_600, n_900, n_999, n_1000, n_1291, n_1399, n_2798, n_11192, n_65536, n_65537, n_99999999, n_1000000]
  obtain ⟨n, rfl⟩ : ∃ t, N = t + 5 := ⟨N - 5, by omega⟩
  obtain ⟨b1, t1, m1, p1, q1, r1, s1⟩ := aw_step (N := n + 5) (x := x) (s := nI 24) (t := nI 16) (by decide +kernel) (by decide +kernel) (by omega) h1 h2 (n + 4) (n + 4)
  obtain ⟨b2, t2, m2, p2, q2, r2, s2⟩ := aw_step (N := n + 5) (x := x) (s := nI 16) (t := nI 8) (by decide +kernel) (by decide +kernel) (by omega) r1 s1 (n + 3) (n + 3)
  obtain ⟨b3, t3, m3, p3, q3, r3, s3⟩ := aw_step (N := n + 5) (x := x) (s := nI 8) (t := nI 0) (by decide +kernel) (by decide +kernel) (by omega) r2 s2 (n + 2) (n + 2)
  obtain ⟨b4, t4, m4, p4, q4, r4, s4⟩ := aw_step (N := n + 5) (x := x) (s := nI 0) (t := -nI 8) (by decide +kernel) (by decide +kernel) (by omega) r3 s3 (n + 1) (n + 1)
  have hm : -nI 8 < nI 0 := by decide +kernel
  refine ⟨b4, t4, m4, ?_, ?_, r4, s4⟩
  · rw [p1, p2, p3, p4]
    show f_X8_appendWord_L3_F (n + 5) (f_X8_appendWord_L3 (n + 5) n) x (-nI 8) (nI (L + 4)) t4 = _
    unfold f_X8_appendWord_L3_F
    simp only [n_0, n_1, n_2, n_3, n_4, n_5, n_6, n_7, n_8, n_9, n_10, n_12, n_13, n_15, n_20, n_24, n_27, n_31, n_32, n_33, n_36, n_44, n_48, n_50, n_57, n_58, n_59, n_72, n_74, n_75, n_85, n_91, n_96, n_97, n_99, n_122, n_255, n_300, n_432, n_600, n_900, n_999, n_1000, n_1291, n_1399, n_2798, n_11192, n_65536, n_65537, n_99999999, n_1000000]
    rw [if_pos hm]
  · rw [q1, q2, q3, q4]
    show f_X11_appendWord_L3_F (n + 5) (f_X11_appendWord_L3 (n + 5) n) x (-nI 8) (nI (L + 4)) m4 = _
    unfold f_X11_appendWord_L3_F
    simp only [n_0, n_1, n_2, n_3, n_4, n_5, n_6, n_7, n_8, n_9, n_10, n_12, n_13, n_15, n_20, n_24, n_27, n_31, n_32, n_33, n_36, n_44, n_48, n_50, n_57, n_58, n_59, n_72, n_74, n_75, n_85, n_91, n_96, n_97, n_99, n_122, n_255, n_300, n_432, n_600, n_900, n_999, n_1000, n_1291, n_1399, n_2798, n_11192, n_65536, n_65537, n_99999999, n_1000000]
    rw [if_pos hm]
theorem w_0 {N : Nat} {xs : Nat → Int32} {l5 itl mt mil : Int32} {itb mi : Nat → Int32} {ov : Nat → Int64} (hN : 1000 < N) (h : TI itl itb mil mi) : Ho (f_W0 N xs l5 itl itb mt mil mi ov) (fun t => TI t.1 t.2.1 t.2.2.2.1 t.2.2.2.2.1) := by
  obtain ⟨L, b, rfl, rfl, h1, h2⟩ := h
  have hL := h1.1
  by_cases c : L + 20 ≤ 600
  · obtain ⟨b1, t1, m1, p1, q1, r1, s1⟩ := aw (N := N) (xs (Int32.toNatClampNeg (l5 + nI 1))) hN (by omega) h1 h2
    obtain ⟨b2, t2, m2, p2, q2, r2, s2⟩ := aw (N := N) (xs (Int32.toNatClampNeg (l5 + nI 2))) hN (by omega) r1 s1
    obtain ⟨b3, t3, m3, p3, q3, r3, s3⟩ := aw (N := N) (xs (Int32.toNatClampNeg (l5 + nI 3))) hN (by omega) r2 s2
    obtain ⟨b4, t4, m4, p4, q4, r4, s4⟩ := aw (N := N) (xs (Int32.toNatClampNeg (l5 + nI 4))) hN (by omega) r3 s3
    obtain ⟨b5, t5, m5, p5, q5, r5, s5⟩ := aw (N := N) (xs (Int32.toNatClampNeg (l5 + nI 5))) hN (by omega) r4 s4
    unfold f_W0 f_L_appendInput f_X10_appendInput f_X11_appendInput f_X11_appendInput_L24 f_X11_refuses f_X11_refuses_L16 f_X11_thrown
    simp only [n_0, n_1, n_2, n_3, n_4, n_5, n_6, n_7, n_8, n_9, n_10, n_12, n_13, n_15, n_20, n_24, n_27, n_31, n_32, n_33, n_36, n_44, n_48, n_50, n_57, n_58, n_59, n_72, n_74, n_75, n_85, n_91, n_96, n_97, n_99, n_122, n_255, n_300, n_432, n_600, n_900, n_999, n_1000, n_1291, n_1399, n_2798, n_11192, n_65536, n_65537, n_99999999, n_1000000]
    rw [nI_add, if_pos (by rw [q_le (by omega) (by omega)]; omega), p1, Option.bind_some, p2, Option.bind_some, p3, Option.bind_some, p4, Option.bind_some, p5, Option.bind_some, hbd_t, Option.bind_some, if_pos (by rw [q_le (by omega) (by omega)]; omega)]
    rw [if_pos trivial, if_pos trivial, Option.bind_some, if_pos rfl, q1, Option.bind_some, q2, Option.bind_some, q3, Option.bind_some, q4, Option.bind_some, q5, Option.bind_some, Option.bind_some, Option.bind_some, if_pos rfl, if_pos rfl, q_cl (by omega), lgc, if_pos rfl]
    exact ⟨_, rfl, L + 4 + 4 + 4 + 4 + 4, b5, rfl, rfl, r5, s5⟩
  · unfold f_W0 f_L_appendInput f_X10_appendInput f_X11_appendInput f_X11_appendInput_L24 f_X11_refuses f_X11_refuses_L16 f_X11_thrown
    simp only [n_0, n_1, n_2, n_3, n_4, n_5, n_6, n_7, n_8, n_9, n_10, n_12, n_13, n_15, n_20, n_24, n_27, n_31, n_32, n_33, n_36, n_44, n_48, n_50, n_57, n_58, n_59, n_72, n_74, n_75, n_85, n_91, n_96, n_97, n_99, n_122, n_255, n_300, n_432, n_600, n_900, n_999, n_1000, n_1291, n_1399, n_2798, n_11192, n_65536, n_65537, n_99999999, n_1000000]
    rw [nI_add, if_neg (by rw [q_le (by omega) (by omega)]; omega), hbd_f, if_pos rfl, Option.bind_some, if_neg (by rw [q_le (by omega) (by omega)]; omega)]
    have h10 : ¬ nI 1 = nI 0 := by decide +kernel
    simp (disch := omega) only [n_0, n_1, n_2, n_3, n_4, n_5, n_6, n_7, n_8, n_9, n_10, n_12, n_13, n_15, n_20, n_24, n_27, n_31, n_32, n_33, n_36, n_44, n_48, n_50, n_57, n_58, n_59, n_72, n_74, n_75, n_85, n_91, n_96, n_97, n_99, n_122, n_255, n_300, n_432, n_600, n_900, n_999, n_1000, n_1291, n_1399, n_2798, n_11192, n_65536, n_65537, n_99999999, n_1000000, nI_add, pk_mul, q_le, q_lt, q_eq, q_cl, q_gi, q_gz, q_sub, q_div, q_dm, d_dm, q_m1, q_mn, q_nm, q_mlt, q_ltm, q_mle, q_lem, q_mm, Option.bind_some, if_true, if_false, Nat.add_zero, ite_self, q_us, q_un, decide_true, decide_false, Bool.false_eq_true, eq_self, and_self, and_true, true_and, and_false, false_and, or_true, true_or, or_false, false_or, d_ltT, d_ltF, d_leT, d_leF, d_eqT, d_eqF]
    exact ⟨_, rfl, L, b, rfl, rfl, h1, h2⟩
theorem w_1 {xs : Nat → Int32} {l5 itl mt mil : Int32} {itb mi : Nat → Int32} {ov : Nat → Int64} (h : TI itl itb mil mi) : Ho (f_W1 xs l5 itl mt mil ov) (fun t => TI t.1 itb t.2.2.1 mi) := by
  obtain ⟨L, b, rfl, rfl, h1, h2⟩ := h
  have hL := h1.1
  rcases rg_cs (xs (Int32.toNatClampNeg (l5 + nI 1))) (lo := 0) (hi := L) (by omega) (by omega) with ⟨a, h3, h4, hx⟩ | hx
  · have u1 := cr_t h3 h4 (by omega)
    have u2 := mi_t (mt := mt) (a := a) (n := L + 1) (by omega) (by omega)
    rw [pk_sub (by omega), Nat.add_sub_cancel] at u2
    simp (disch := omega) only [n_0, n_1, n_2, n_3, n_4, n_5, n_6, n_7, n_8, n_9, n_10, n_12, n_13, n_15, n_20, n_24, n_27, n_31, n_32, n_33, n_36, n_44, n_48, n_50, n_57, n_58, n_59, n_72, n_74, n_75, n_85, n_91, n_96, n_97, n_99, n_122, n_255, n_300, n_432, n_600, n_900, n_999, n_1000, n_1291, n_1399, n_2798, n_11192, n_65536, n_65537, n_99999999, n_1000000, nI_add, pk_mul, q_le, q_lt, q_eq, q_cl, q_gi, q_gz, q_sub, q_div, q_dm, d_dm, q_m1, q_mn, q_nm, q_mlt, q_ltm, q_mle, q_lem, q_mm, Option.bind_some, if_true, if_false, Nat.add_zero, ite_self, q_us, q_un, decide_true, decide_false, Bool.false_eq_true, eq_self, and_self, and_true, true_and, and_false, false_and, or_true, true_or, or_false, false_or, d_ltT, d_ltF, d_leT, d_leF, d_eqT, d_eqF, f_W1, f_L_truncateInput, f_X10_truncateInput, f_X8_cutTo, f_X11_truncateInput, f_X11_thrown, hx, u1, u2, sbd_t, hbd_t, lgc]
    exact ⟨_, rfl, a, b, rfl, rfl, TR_cut h1 h4, TR_cut h2 h4⟩
  · have u1 := cr_f hx
    have u2 := mi_f (x := xs (Int32.toNatClampNeg (l5 + nI 1))) (mt := mt) (n := L + 1) (by
      rcases hx with hx | ⟨c, c1, c2, c3, c4⟩
      · exact Or.inl hx
      · rw [c4]
        exact Or.inr (nI_le (by omega) c3)) (by omega)
    rw [pk_sub (by omega), Nat.add_sub_cancel] at u2
    simp (disch := omega) only [n_0, n_1, n_2, n_3, n_4, n_5, n_6, n_7, n_8, n_9, n_10, n_12, n_13, n_15, n_20, n_24, n_27, n_31, n_32, n_33, n_36, n_44, n_48, n_50, n_57, n_58, n_59, n_72, n_74, n_75, n_85, n_91, n_96, n_97, n_99, n_122, n_255, n_300, n_432, n_600, n_900, n_999, n_1000, n_1291, n_1399, n_2798, n_11192, n_65536, n_65537, n_99999999, n_1000000, nI_add, pk_mul, q_le, q_lt, q_eq, q_cl, q_gi, q_gz, q_sub, q_div, q_dm, d_dm, q_m1, q_mn, q_nm, q_mlt, q_ltm, q_mle, q_lem, q_mm, Option.bind_some, if_true, if_false, Nat.add_zero, ite_self, q_us, q_un, decide_true, decide_false, Bool.false_eq_true, eq_self, and_self, and_true, true_and, and_false, false_and, or_true, true_or, or_false, false_or, d_ltT, d_ltF, d_leT, d_leF, d_eqT, d_eqF, f_W1, f_L_truncateInput, f_X10_truncateInput, f_X8_cutTo, f_X11_truncateInput, f_X11_thrown, u1, u2, sbd_f, hbd_f]
    exact ⟨_, rfl, L, b, rfl, rfl, h1, h2⟩
