/-! one step of both readers -/
theorem kSl_n {j : Nat} (h : kSn j < 1000) : kSl j = nI (kSn j) := by
  have e := pk_shrN (n := kSn j) (by omega) ((0 : Int32) &&& 31) 0 (by decide +kernel)
  refine Eq.trans (b := nI (kSn j) >>> ((0 : Int32) &&& 31)) rfl (e.trans ?_)
  rw [Nat.pow_zero, Nat.div_one]
theorem q_01 : nI 0 - nI 1 = -nI 1 := by decide +kernel
/-- whether the token at s is the keyword j -/
def chE (b : Nat → Nat) (s j t : Nat) : Bool := decide (kSc j (nI t) = nI (b (s + t)))
def isW (b : Nat → Nat) (L s j : Nat) : Bool := if tkK b L s = 1 ∧ tkE b L s - s = kSn j then !anyF (fun t => !chE b s j t) (kSn j) 0 else false
theorem x_wordL {N L s j0 : Nat} {b : Nat → Nat} {tb : Nat → Int32} {kd te : Int32} (hT : TR b L tb) (hj : kSn j0 < 1000) (hs : s + kSn j0 ≤ L) : ∀ k i j : Nat, i + k = kSn j0 → k < j → f_X9_isWord_L28 N (nI L) tb kd (nI s) te j0 j (nI i) = some (bI (!anyF (fun t => !chE b s j0 t) k i)) := by
  have hL := hT.1
  have hl := kSl_n hj
  intro k
  induction k with
  | zero =>
    intro i j h1 h2
    obtain ⟨j, rfl⟩ : ∃ t, j = t + 1 := ⟨j - 1, by omega⟩
    simp (disch := omega) only [n_0, n_1, n_2, n_3, n_4, n_5, n_6, n_7, n_8, n_9, n_10, n_12, n_13, n_15, n_20, n_24, n_27, n_31, n_32, n_33, n_36, n_44, n_48, n_50, n_57, n_58, n_59, n_72, n_74, n_75, n_85, n_91, n_96, n_97, n_99, n_122, n_255, n_300, n_432, n_600, n_900, n_999, n_1000, n_1291, n_1399, n_2798, n_11192, n_65536, n_65537, n_99999999, n_1000000, nI_add, pk_mul, q_le, q_lt, q_eq, q_cl, q_gi, q_gz, q_sub, q_div, q_dm, d_dm, q_m1, q_mn, q_nm, q_mlt, q_ltm, q_mle, q_lem, q_mm, Option.bind_some, if_true, if_false, Nat.add_zero, ite_self, q_us, q_un, decide_true, decide_false, Bool.false_eq_true, eq_self, and_self, and_true, true_and, and_false, false_and, or_true, true_or, or_false, false_or, d_ltT, d_ltF, d_leT, d_leF, d_eqT, d_eqF, f_X9_isWord_L28, f_X9_isWord_L28_F, hl]
    rfl
  | succ k ih =>
    intro i j h1 h2
    obtain ⟨j, rfl⟩ : ∃ t, j = t + 1 := ⟨j - 1, by omega⟩
    have hi := ih (i + 1) j (by omega) (by omega)
    have hb := e_byte hT (show s + i < L by omega)
    unfold anyF
    by_cases hc : kSc j0 (nI i) = nI (b (s + i))
    · have hx : chE b s j0 i = true := decide_eq_true hc
      simp (disch := omega) only [n_0, n_1, n_2, n_3, n_4, n_5, n_6, n_7, n_8, n_9, n_10, n_12, n_13, n_15, n_20, n_24, n_27, n_31, n_32, n_33, n_36, n_44, n_48, n_50, n_57, n_58, n_59, n_72, n_74, n_75, n_85, n_91, n_96, n_97, n_99, n_122, n_255, n_300, n_432, n_600, n_900, n_999, n_1000, n_1291, n_1399, n_2798, n_11192, n_65536, n_65537, n_99999999, n_1000000, nI_add, pk_mul, q_le, q_lt, q_eq, q_cl, q_gi, q_gz, q_sub, q_div, q_dm, d_dm, q_m1, q_mn, q_nm, q_mlt, q_ltm, q_mle, q_lem, q_mm, Option.bind_some, if_true, if_false, Nat.add_zero, ite_self, q_us, q_un, decide_true, decide_false, Bool.false_eq_true, eq_self, and_self, and_true, true_and, and_false, false_and, or_true, true_or, or_false, false_or, d_ltT, d_ltF, d_leT, d_leF, d_eqT, d_eqF, f_X9_isWord_L28, f_X9_isWord_L28_F, hl, hb, hc]
      rw [hx]
      exact hi
    · have hx : chE b s j0 i = false := decide_eq_false hc
      simp (disch := omega) only [n_0, n_1, n_2, n_3, n_4, n_5, n_6, n_7, n_8, n_9, n_10, n_12, n_13, n_15, n_20, n_24, n_27, n_31, n_32, n_33, n_36, n_44, n_48, n_50, n_57, n_58, n_59, n_72, n_74, n_75, n_85, n_91, n_96, n_97, n_99, n_122, n_255, n_300, n_432, n_600, n_900, n_999, n_1000, n_1291, n_1399, n_2798, n_11192, n_65536, n_65537, n_99999999, n_1000000, nI_add, pk_mul, q_le, q_lt, q_eq, q_cl, q_gi, q_gz, q_sub, q_div, q_dm, d_dm, q_m1, q_mn, q_nm, q_mlt, q_ltm, q_mle, q_lem, q_mm, Option.bind_some, if_true, if_false, Nat.add_zero, ite_self, q_us, q_un, decide_true, decide_false, Bool.false_eq_true, eq_self, and_self, and_true, true_and, and_false, false_and, or_true, true_or, or_false, false_or, d_ltT, d_ltF, d_leT, d_leF, d_eqT, d_eqF, f_X9_isWord_L28, f_X9_isWord_L28_F, hl, hb, hc]
      rw [hx]
      rfl
theorem x_isWord {N L s j : Nat} {b : Nat → Nat} {tb : Nat → Int32} {kd ts te tv : Int32} (hN : 1000 < N) (hT : TR b L tb) (hj : kSn j < 1000) (h : TC b L s kd ts te tv) : f_X9_isWord N (nI L) tb kd ts te j = some (bI (isW b L s j)) := by
  obtain ⟨h1, h2, h3, h4, h5⟩ := h
  have hL := hT.1
  have hl := kSl_n hj
  have hk := @tkK_le b L s
  obtain ⟨e1, e2, e3, -⟩ := tkE_s (b := b) h1
  subst h2 h3 h4
  unfold isW
  by_cases c1 : tkK b L s = 1
  · by_cases c2 : tkE b L s - s = kSn j
    · rw [if_pos ⟨c1, c2⟩]
      simp (disch := omega) only [n_0, n_1, n_2, n_3, n_4, n_5, n_6, n_7, n_8, n_9, n_10, n_12, n_13, n_15, n_20, n_24, n_27, n_31, n_32, n_33, n_36, n_44, n_48, n_50, n_57, n_58, n_59, n_72, n_74, n_75, n_85, n_91, n_96, n_97, n_99, n_122, n_255, n_300, n_432, n_600, n_900, n_999, n_1000, n_1291, n_1399, n_2798, n_11192, n_65536, n_65537, n_99999999, n_1000000, nI_add, pk_mul, q_le, q_lt, q_eq, q_cl, q_gi, q_gz, q_sub, q_div, q_dm, d_dm, q_m1, q_mn, q_nm, q_mlt, q_ltm, q_mle, q_lem, q_mm, Option.bind_some, if_true, if_false, Nat.add_zero, ite_self, q_us, q_un, decide_true, decide_false, Bool.false_eq_true, eq_self, and_self, and_true, true_and, and_false, false_and, or_true, true_or, or_false, false_or, d_ltT, d_ltF, d_leT, d_leF, d_eqT, d_eqF, f_X9_isWord, hl, c1, c2]
      exact x_wordL hT hj (by omega) (kSn j) 0 N (by omega) (by omega)
    · rw [if_neg (fun x => c2 x.2)]
      simp (disch := omega) only [n_0, n_1, n_2, n_3, n_4, n_5, n_6, n_7, n_8, n_9, n_10, n_12, n_13, n_15, n_20, n_24, n_27, n_31, n_32, n_33, n_36, n_44, n_48, n_50, n_57, n_58, n_59, n_72, n_74, n_75, n_85, n_91, n_96, n_97, n_99, n_122, n_255, n_300, n_432, n_600, n_900, n_999, n_1000, n_1291, n_1399, n_2798, n_11192, n_65536, n_65537, n_99999999, n_1000000, nI_add, pk_mul, q_le, q_lt, q_eq, q_cl, q_gi, q_gz, q_sub, q_div, q_dm, d_dm, q_m1, q_mn, q_nm, q_mlt, q_ltm, q_mle, q_lem, q_mm, Option.bind_some, if_true, if_false, Nat.add_zero, ite_self, q_us, q_un, decide_true, decide_false, Bool.false_eq_true, eq_self, and_self, and_true, true_and, and_false, false_and, or_true, true_or, or_false, false_or, d_ltT, d_ltF, d_leT, d_leF, d_eqT, d_eqF, f_X9_isWord, hl, c1]
      rfl
  · rw [if_neg (fun x => c1 x.1)]
    simp (disch := omega) only [n_0, n_1, n_2, n_3, n_4, n_5, n_6, n_7, n_8, n_9, n_10, n_12, n_13, n_15, n_20, n_24, n_27, n_31, n_32, n_33, n_36, n_44, n_48, n_50, n_57, n_58, n_59, n_72, n_74, n_75, n_85, n_91, n_96, n_97, n_99, n_122, n_255, n_300, n_432, n_600, n_900, n_999, n_1000, n_1291, n_1399, n_2798, n_11192, n_65536, n_65537, n_99999999, n_1000000, nI_add, pk_mul, q_le, q_lt, q_eq, q_cl, q_gi, q_gz, q_sub, q_div, q_dm, d_dm, q_m1, q_mn, q_nm, q_mlt, q_ltm, q_mle, q_lem, q_mm, Option.bind_some, if_true, if_false, Nat.add_zero, ite_self, q_us, q_un, decide_true, decide_false, Bool.false_eq_true, eq_self, and_self, and_true, true_and, and_false, false_and, or_true, true_or, or_false, false_or, d_ltT, d_ltF, d_leT, d_leF, d_eqT, d_eqF, f_X9_isWord, hl]
    rfl
theorem y_wordL {N L s j0 : Nat} {b : Nat → Nat} {mi : Nat → Int32} {tk : Int32} (hT : TR b L mi) (hj : kSn j0 < 1000) (hs : s + kSn j0 ≤ L) : ∀ k i j : Nat, i + k = kSn j0 → k < j → f_X11_is_L23 N (nI s) tk (nI (kSn j0)) mi j0 j (nI i) = some (bI (!anyF (fun t => !chE b s j0 t) k i)) := by
  have hL := hT.1
  intro k
  induction k with
  | zero =>
    intro i j h1 h2
    obtain ⟨j, rfl⟩ : ∃ t, j = t + 1 := ⟨j - 1, by omega⟩
    simp (disch := omega) only [n_0, n_1, n_2, n_3, n_4, n_5, n_6, n_7, n_8, n_9, n_10, n_12, n_13, n_15, n_20, n_24, n_27, n_31, n_32, n_33, n_36, n_44, n_48, n_50, n_57, n_58, n_59, n_72, n_74, n_75, n_85, n_91, n_96, n_97, n_99, n_122, n_255, n_300, n_432, n_600, n_900, n_999, n_1000, n_1291, n_1399, n_2798, n_11192, n_65536, n_65537, n_99999999, n_1000000, nI_add, pk_mul, q_le, q_lt, q_eq, q_cl, q_gi, q_gz, q_sub, q_div, q_dm, d_dm, q_m1, q_mn, q_nm, q_mlt, q_ltm, q_mle, q_lem, q_mm, Option.bind_some, if_true, if_false, Nat.add_zero, ite_self, q_us, q_un, decide_true, decide_false, Bool.false_eq_true, eq_self, and_self, and_true, true_and, and_false, false_and, or_true, true_or, or_false, false_or, d_ltT, d_ltF, d_leT, d_leF, d_eqT, d_eqF, f_X11_is_L23, f_X11_is_L23_F]
    rfl
  | succ k ih =>
    intro i j h1 h2
    obtain ⟨j, rfl⟩ : ∃ t, j = t + 1 := ⟨j - 1, by omega⟩
    have hi := ih (i + 1) j (by omega) (by omega)
    have hb := (hT.2 (s + i) (by omega)).2
    unfold anyF
    by_cases hc : nI (b (s + i)) = kSc j0 (nI i)
    · have hx : chE b s j0 i = true := decide_eq_true hc.symm
      simp (disch := omega) only [n_0, n_1, n_2, n_3, n_4, n_5, n_6, n_7, n_8, n_9, n_10, n_12, n_13, n_15, n_20, n_24, n_27, n_31, n_32, n_33, n_36, n_44, n_48, n_50, n_57, n_58, n_59, n_72, n_74, n_75, n_85, n_91, n_96, n_97, n_99, n_122, n_255, n_300, n_432, n_600, n_900, n_999, n_1000, n_1291, n_1399, n_2798, n_11192, n_65536, n_65537, n_99999999, n_1000000, nI_add, pk_mul, q_le, q_lt, q_eq, q_cl, q_gi, q_gz, q_sub, q_div, q_dm, d_dm, q_m1, q_mn, q_nm, q_mlt, q_ltm, q_mle, q_lem, q_mm, Option.bind_some, if_true, if_false, Nat.add_zero, ite_self, q_us, q_un, decide_true, decide_false, Bool.false_eq_true, eq_self, and_self, and_true, true_and, and_false, false_and, or_true, true_or, or_false, false_or, d_ltT, d_ltF, d_leT, d_leF, d_eqT, d_eqF, f_X11_is_L23, f_X11_is_L23_F, hb, hc]
      rw [hx]
      exact hi
    · have hx : chE b s j0 i = false := decide_eq_false (fun x => hc x.symm)
      simp (disch := omega) only [n_0, n_1, n_2, n_3, n_4, n_5, n_6, n_7, n_8, n_9, n_10, n_12, n_13, n_15, n_20, n_24, n_27, n_31, n_32, n_33, n_36, n_44, n_48, n_50, n_57, n_58, n_59, n_72, n_74, n_75, n_85, n_91, n_96, n_97, n_99, n_122, n_255, n_300, n_432, n_600, n_900, n_999, n_1000, n_1291, n_1399, n_2798, n_11192, n_65536, n_65537, n_99999999, n_1000000, nI_add, pk_mul, q_le, q_lt, q_eq, q_cl, q_gi, q_gz, q_sub, q_div, q_dm, d_dm, q_m1, q_mn, q_nm, q_mlt, q_ltm, q_mle, q_lem, q_mm, Option.bind_some, if_true, if_false, Nat.add_zero, ite_self, q_us, q_un, decide_true, decide_false, Bool.false_eq_true, eq_self, and_self, and_true, true_and, and_false, false_and, or_true, true_or, or_false, false_or, d_ltT, d_ltF, d_leT, d_leF, d_eqT, d_eqF, f_X11_is_L23, f_X11_is_L23_F, hb, hc]
      rw [hx]
      rfl
theorem tkM_eq {k : Nat} (h : k ≤ 3) : (tkM k = 3 ↔ k = 1) ∧ (tkM k = 2 ↔ k = 2) ∧ (tkM k = 1 ↔ k = 3) ∧ (tkM k = 0 ↔ k = 0) ∧ tkM k ≤ 3 := by
  rcases (show k = 0 ∨ k = 1 ∨ k = 2 ∨ k = 3 by omega) with e | e | e | e <;> subst e <;> decide
theorem y_is {N L s j : Nat} {b : Nat → Nat} {mi : Nat → Int32} {po st tk vl lt : Int32} (hN : 1000 < N) (hT : TR b L mi) (hj : kSn j < 1000) (h : TM b L s po st tk vl lt) : f_X11_is N st tk lt mi j = some (bI (isW b L s j)) := by
  obtain ⟨h1, h2, h3, h4, h5, h6⟩ := h
  have hL := hT.1
  have hl := kSl_n hj
  have hk := @tkK_le b L s
  obtain ⟨m1, m2, m3, m4, m5⟩ := tkM_eq hk
  obtain ⟨e1, e2, e3, -⟩ := tkE_s (b := b) h1
  subst h3 h4
  unfold isW
  by_cases c1 : tkK b L s = 1
  · rw [h6 c1, m1.mpr c1]
    by_cases c2 : tkE b L s - s = kSn j
    · rw [if_pos ⟨c1, c2⟩]
      simp (disch := omega) only [n_0, n_1, n_2, n_3, n_4, n_5, n_6, n_7, n_8, n_9, n_10, n_12, n_13, n_15, n_20, n_24, n_27, n_31, n_32, n_33, n_36, n_44, n_48, n_50, n_57, n_58, n_59, n_72, n_74, n_75, n_85, n_91, n_96, n_97, n_99, n_122, n_255, n_300, n_432, n_600, n_900, n_999, n_1000, n_1291, n_1399, n_2798, n_11192, n_65536, n_65537, n_99999999, n_1000000, nI_add, pk_mul, q_le, q_lt, q_eq, q_cl, q_gi, q_gz, q_sub, q_div, q_dm, d_dm, q_m1, q_mn, q_nm, q_mlt, q_ltm, q_mle, q_lem, q_mm, Option.bind_some, if_true, if_false, Nat.add_zero, ite_self, q_us, q_un, decide_true, decide_false, Bool.false_eq_true, eq_self, and_self, and_true, true_and, and_false, false_and, or_true, true_or, or_false, false_or, d_ltT, d_ltF, d_leT, d_leF, d_eqT, d_eqF, f_X11_is, hl, c2]
      exact y_wordL hT hj (by omega) (kSn j) 0 N (by omega) (by omega)
    · rw [if_neg (fun x => c2 x.2)]
      simp (disch := omega) only [n_0, n_1, n_2, n_3, n_4, n_5, n_6, n_7, n_8, n_9, n_10, n_12, n_13, n_15, n_20, n_24, n_27, n_31, n_32, n_33, n_36, n_44, n_48, n_50, n_57, n_58, n_59, n_72, n_74, n_75, n_85, n_91, n_96, n_97, n_99, n_122, n_255, n_300, n_432, n_600, n_900, n_999, n_1000, n_1291, n_1399, n_2798, n_11192, n_65536, n_65537, n_99999999, n_1000000, nI_add, pk_mul, q_le, q_lt, q_eq, q_cl, q_gi, q_gz, q_sub, q_div, q_dm, d_dm, q_m1, q_mn, q_nm, q_mlt, q_ltm, q_mle, q_lem, q_mm, Option.bind_some, if_true, if_false, Nat.add_zero, ite_self, q_us, q_un, decide_true, decide_false, Bool.false_eq_true, eq_self, and_self, and_true, true_and, and_false, false_and, or_true, true_or, or_false, false_or, d_ltT, d_ltF, d_leT, d_leF, d_eqT, d_eqF, f_X11_is, hl]
      rfl
  · rw [if_neg (fun x => c1 x.1)]
    have : tkM (tkK b L s) ≠ 3 := fun x => c1 (m1.mp x)
    simp (disch := omega) only [n_0, n_1, n_2, n_3, n_4, n_5, n_6, n_7, n_8, n_9, n_10, n_12, n_13, n_15, n_20, n_24, n_27, n_31, n_32, n_33, n_36, n_44, n_48, n_50, n_57, n_58, n_59, n_72, n_74, n_75, n_85, n_91, n_96, n_97, n_99, n_122, n_255, n_300, n_432, n_600, n_900, n_999, n_1000, n_1291, n_1399, n_2798, n_11192, n_65536, n_65537, n_99999999, n_1000000, nI_add, pk_mul, q_le, q_lt, q_eq, q_cl, q_gi, q_gz, q_sub, q_div, q_dm, d_dm, q_m1, q_mn, q_nm, q_mlt, q_ltm, q_mle, q_lem, q_mm, Option.bind_some, if_true, if_false, Nat.add_zero, ite_self, q_us, q_un, decide_true, decide_false, Bool.false_eq_true, eq_self, and_self, and_true, true_and, and_false, false_and, or_true, true_or, or_false, false_or, d_ltT, d_ltF, d_leT, d_leF, d_eqT, d_eqF, f_X11_is, hl]
    rfl
/-- the next token, in both -/
theorem s_adv {N L s : Nat} {b : Nat → Nat} {tb mi : Nat → Int32} {kd ts te tv po st tk vl lt : Int32} (hN : 1000 < N) (hT : TR b L tb) (hM : TR b L mi) (h1 : TC b L s kd ts te tv) (h2 : TM b L s po st tk vl lt) : ∃ s' kd' ts' te' tv' po' st' tk' vl' lt', tkE b L s ≤ s' ∧ f_X9_advance N (nI L) tb kd ts te tv = some (kd', ts', te', tv') ∧ f_X11_advance N (nI L) mi po st tk vl lt = some (po', st', tk', vl', lt') ∧ TC b L s' kd' ts' te' tv' ∧ TM b L s' po' st' tk' vl' lt' := by
  obtain ⟨e1, e2, -⟩ := tkE_s (b := b) h1.1
  obtain ⟨kd', ts', te', tv', a1, a2⟩ := x_adv (N := N) (kd := kd) (ts := ts) (tv := tv) hN hT e2
  obtain ⟨po', st', tk', vl', lt', c1, c2⟩ := y_adv (N := N) (st := st) (tk := tk) (vl := vl) (lt := lt) hN hM e2
  rw [← h1.2.2.2.1] at a1
  rw [← h2.2.1] at c1
  exact ⟨tkN b L (tkE b L s), kd', ts', te', tv', po', st', tk', vl', lt', (tkN_bd e2).1, a1, c1, a2, c2⟩
theorem x_fail0 {ts eo a : Int32} : f_X5_fail ts (nI 0) eo a = some (a, ts) := by
  simp (disch := omega) only [n_0, n_1, n_2, n_3, n_4, n_5, n_6, n_7, n_8, n_9, n_10, n_12, n_13, n_15, n_20, n_24, n_27, n_31, n_32, n_33, n_36, n_44, n_48, n_50, n_57, n_58, n_59, n_72, n_74, n_75, n_85, n_91, n_96, n_97, n_99, n_122, n_255, n_300, n_432, n_600, n_900, n_999, n_1000, n_1291, n_1399, n_2798, n_11192, n_65536, n_65537, n_99999999, n_1000000, nI_add, pk_mul, q_le, q_lt, q_eq, q_cl, q_gi, q_gz, q_sub, q_div, q_dm, d_dm, q_m1, q_mn, q_nm, q_mlt, q_ltm, q_mle, q_lem, q_mm, Option.bind_some, if_true, if_false, Nat.add_zero, ite_self, q_us, q_un, decide_true, decide_false, Bool.false_eq_true, eq_self, and_self, and_true, true_and, and_false, false_and, or_true, true_or, or_false, false_or, d_ltT, d_ltF, d_leT, d_leF, d_eqT, d_eqF, f_X5_fail]
theorem x_fail_e {ts eo a : Int32} {c : Nat} (h : 0 < c) (h2 : c < 100) : f_X5_fail ts (nI c) eo a = some (nI c, eo) := by
  simp (disch := omega) only [n_0, n_1, n_2, n_3, n_4, n_5, n_6, n_7, n_8, n_9, n_10, n_12, n_13, n_15, n_20, n_24, n_27, n_31, n_32, n_33, n_36, n_44, n_48, n_50, n_57, n_58, n_59, n_72, n_74, n_75, n_85, n_91, n_96, n_97, n_99, n_122, n_255, n_300, n_432, n_600, n_900, n_999, n_1000, n_1291, n_1399, n_2798, n_11192, n_65536, n_65537, n_99999999, n_1000000, nI_add, pk_mul, q_le, q_lt, q_eq, q_cl, q_gi, q_gz, q_sub, q_div, q_dm, d_dm, q_m1, q_mn, q_nm, q_mlt, q_ltm, q_mle, q_lem, q_mm, Option.bind_some, if_true, if_false, Nat.add_zero, ite_self, q_us, q_un, decide_true, decide_false, Bool.false_eq_true, eq_self, and_self, and_true, true_and, and_false, false_and, or_true, true_or, or_false, false_or, d_ltT, d_ltF, d_leT, d_leF, d_eqT, d_eqF, f_X5_fail]
theorem x_num_e {N : Nat} {tl eo kd ts te tv a0 a1 : Int32} {tb : Nat → Int32} {c : Nat} (h : 0 < c) (h2 : c < 100) : f_X5_takeNumber N tl tb (nI c) eo kd ts te tv a0 a1 = some (-nI 1, nI c, eo, kd, ts, te, tv) := by
  simp (disch := omega) only [n_0, n_1, n_2, n_3, n_4, n_5, n_6, n_7, n_8, n_9, n_10, n_12, n_13, n_15, n_20, n_24, n_27, n_31, n_32, n_33, n_36, n_44, n_48, n_50, n_57, n_58, n_59, n_72, n_74, n_75, n_85, n_91, n_96, n_97, n_99, n_122, n_255, n_300, n_432, n_600, n_900, n_999, n_1000, n_1291, n_1399, n_2798, n_11192, n_65536, n_65537, n_99999999, n_1000000, nI_add, pk_mul, q_le, q_lt, q_eq, q_cl, q_gi, q_gz, q_sub, q_div, q_dm, d_dm, q_m1, q_mn, q_nm, q_mlt, q_ltm, q_mle, q_lem, q_mm, Option.bind_some, if_true, if_false, Nat.add_zero, ite_self, q_us, q_un, decide_true, decide_false, Bool.false_eq_true, eq_self, and_self, and_true, true_and, and_false, false_and, or_true, true_or, or_false, false_or, d_ltT, d_ltF, d_leT, d_leF, d_eqT, d_eqF, f_X5_takeNumber]
theorem x_semi_e {N : Nat} {tl eo kd ts te tv a0 : Int32} {tb : Nat → Int32} {c : Nat} (h : 0 < c) (h2 : c < 100) : f_X5_takeSemicolon N tl tb (nI c) eo kd ts te tv a0 = some (nI c, eo, kd, ts, te, tv) := by
  simp (disch := omega) only [n_0, n_1, n_2, n_3, n_4, n_5, n_6, n_7, n_8, n_9, n_10, n_12, n_13, n_15, n_20, n_24, n_27, n_31, n_32, n_33, n_36, n_44, n_48, n_50, n_57, n_58, n_59, n_72, n_74, n_75, n_85, n_91, n_96, n_97, n_99, n_122, n_255, n_300, n_432, n_600, n_900, n_999, n_1000, n_1291, n_1399, n_2798, n_11192, n_65536, n_65537, n_99999999, n_1000000, nI_add, pk_mul, q_le, q_lt, q_eq, q_cl, q_gi, q_gz, q_sub, q_div, q_dm, d_dm, q_m1, q_mn, q_nm, q_mlt, q_ltm, q_mle, q_lem, q_mm, Option.bind_some, if_true, if_false, Nat.add_zero, ite_self, q_us, q_un, decide_true, decide_false, Bool.false_eq_true, eq_self, and_self, and_true, true_and, and_false, false_and, or_true, true_or, or_false, false_or, d_ltT, d_ltF, d_leT, d_leF, d_eqT, d_eqF, f_X5_takeSemicolon]
theorem y_check_e {st pl a0 a1 : Int32} {c : Nat} (h : 0 < c) (h2 : c < 100) : f_X11_check st (nI c) pl a0 a1 = some (nI 0, nI c, pl) := by
  simp (disch := omega) only [n_0, n_1, n_2, n_3, n_4, n_5, n_6, n_7, n_8, n_9, n_10, n_12, n_13, n_15, n_20, n_24, n_27, n_31, n_32, n_33, n_36, n_44, n_48, n_50, n_57, n_58, n_59, n_72, n_74, n_75, n_85, n_91, n_96, n_97, n_99, n_122, n_255, n_300, n_432, n_600, n_900, n_999, n_1000, n_1291, n_1399, n_2798, n_11192, n_65536, n_65537, n_99999999, n_1000000, nI_add, pk_mul, q_le, q_lt, q_eq, q_cl, q_gi, q_gz, q_sub, q_div, q_dm, d_dm, q_m1, q_mn, q_nm, q_mlt, q_ltm, q_mle, q_lem, q_mm, Option.bind_some, if_true, if_false, Nat.add_zero, ite_self, q_us, q_un, decide_true, decide_false, Bool.false_eq_true, eq_self, and_self, and_true, true_and, and_false, false_and, or_true, true_or, or_false, false_or, d_ltT, d_ltF, d_leT, d_leF, d_eqT, d_eqF, f_X11_check, f_X11_check_L24]
theorem y_check_t {st pl a1 : Int32} : f_X11_check st (nI 0) pl (nI 1) a1 = some (nI 1, nI 0, pl) := by
  simp (disch := omega) only [n_0, n_1, n_2, n_3, n_4, n_5, n_6, n_7, n_8, n_9, n_10, n_12, n_13, n_15, n_20, n_24, n_27, n_31, n_32, n_33, n_36, n_44, n_48, n_50, n_57, n_58, n_59, n_72, n_74, n_75, n_85, n_91, n_96, n_97, n_99, n_122, n_255, n_300, n_432, n_600, n_900, n_999, n_1000, n_1291, n_1399, n_2798, n_11192, n_65536, n_65537, n_99999999, n_1000000, nI_add, pk_mul, q_le, q_lt, q_eq, q_cl, q_gi, q_gz, q_sub, q_div, q_dm, d_dm, q_m1, q_mn, q_nm, q_mlt, q_ltm, q_mle, q_lem, q_mm, Option.bind_some, if_true, if_false, Nat.add_zero, ite_self, q_us, q_un, decide_true, decide_false, Bool.false_eq_true, eq_self, and_self, and_true, true_and, and_false, false_and, or_true, true_or, or_false, false_or, d_ltT, d_ltF, d_leT, d_leF, d_eqT, d_eqF, f_X11_check, f_X11_check_L24]
theorem y_check_f {st pl : Int32} {c : Nat} (h : 0 < c) (h2 : c < 100) : f_X11_check st (nI 0) pl (nI 0) (nI c) = some (nI 0, nI c, st) := by
  simp (disch := omega) only [n_0, n_1, n_2, n_3, n_4, n_5, n_6, n_7, n_8, n_9, n_10, n_12, n_13, n_15, n_20, n_24, n_27, n_31, n_32, n_33, n_36, n_44, n_48, n_50, n_57, n_58, n_59, n_72, n_74, n_75, n_85, n_91, n_96, n_97, n_99, n_122, n_255, n_300, n_432, n_600, n_900, n_999, n_1000, n_1291, n_1399, n_2798, n_11192, n_65536, n_65537, n_99999999, n_1000000, nI_add, pk_mul, q_le, q_lt, q_eq, q_cl, q_gi, q_gz, q_sub, q_div, q_dm, d_dm, q_m1, q_mn, q_nm, q_mlt, q_ltm, q_mle, q_lem, q_mm, Option.bind_some, if_true, if_false, Nat.add_zero, ite_self, q_us, q_un, decide_true, decide_false, Bool.false_eq_true, eq_self, and_self, and_true, true_and, and_false, false_and, or_true, true_or, or_false, false_or, d_ltT, d_ltF, d_leT, d_leF, d_eqT, d_eqF, f_X11_check, f_X11_check_L24]
theorem y_next_e {N : Nat} {tl po st tk vl lt : Int32} {mi : Nat → Int32} {c : Nat} (h : 0 < c) (h2 : c < 100) : f_X11_next N tl (nI c) mi po st tk vl lt = some (po, st, tk, vl, lt) := by
  simp (disch := omega) only [n_0, n_1, n_2, n_3, n_4, n_5, n_6, n_7, n_8, n_9, n_10, n_12, n_13, n_15, n_20, n_24, n_27, n_31, n_32, n_33, n_36, n_44, n_48, n_50, n_57, n_58, n_59, n_72, n_74, n_75, n_85, n_91, n_96, n_97, n_99, n_122, n_255, n_300, n_432, n_600, n_900, n_999, n_1000, n_1291, n_1399, n_2798, n_11192, n_65536, n_65537, n_99999999, n_1000000, nI_add, pk_mul, q_le, q_lt, q_eq, q_cl, q_gi, q_gz, q_sub, q_div, q_dm, d_dm, q_m1, q_mn, q_nm, q_mlt, q_ltm, q_mle, q_lem, q_mm, Option.bind_some, if_true, if_false, Nat.add_zero, ite_self, q_us, q_un, decide_true, decide_false, Bool.false_eq_true, eq_self, and_self, and_true, true_and, and_false, false_and, or_true, true_or, or_false, false_or, d_ltT, d_ltF, d_leT, d_leF, d_eqT, d_eqF, f_X11_next]
theorem y_btw {x lo hi : Int32} : ∃ r, f_X11_isBetween x lo hi = some r := by
  unfold f_X11_isBetween
  split
  · exact ⟨_, rfl⟩
  · split
    · exact ⟨_, rfl⟩
    · exact ⟨_, rfl⟩
theorem y_num_e {N : Nat} {tl po st tk vl lt pl lo hi : Int32} {mi : Nat → Int32} {c : Nat} (h : 0 < c) (h2 : c < 100) : f_X11_number N tl mi po st tk vl lt (nI c) pl lo hi = some (lo, po, st, tk, vl, lt, nI c, pl) := by
  obtain ⟨r, hr⟩ := @y_btw vl lo hi
  simp (disch := omega) only [n_0, n_1, n_2, n_3, n_4, n_5, n_6, n_7, n_8, n_9, n_10, n_12, n_13, n_15, n_20, n_24, n_27, n_31, n_32, n_33, n_36, n_44, n_48, n_50, n_57, n_58, n_59, n_72, n_74, n_75, n_85, n_91, n_96, n_97, n_99, n_122, n_255, n_300, n_432, n_600, n_900, n_999, n_1000, n_1291, n_1399, n_2798, n_11192, n_65536, n_65537, n_99999999, n_1000000, nI_add, pk_mul, q_le, q_lt, q_eq, q_cl, q_gi, q_gz, q_sub, q_div, q_dm, d_dm, q_m1, q_mn, q_nm, q_mlt, q_ltm, q_mle, q_lem, q_mm, Option.bind_some, if_true, if_false, Nat.add_zero, ite_self, q_us, q_un, decide_true, decide_false, Bool.false_eq_true, eq_self, and_self, and_true, true_and, and_false, false_and, or_true, true_or, or_false, false_or, d_ltT, d_ltF, d_leT, d_leF, d_eqT, d_eqF, f_X11_number, f_X11_look, f_X11_look_L14, y_check_e h h2, hr, y_next_e h h2]
/-- a sign that may be read -/
theorem y_semi_e {L s c : Nat} {b : Nat → Nat} {mi : Nat → Int32} {po st tk vl lt pl : Int32} (hT : TR b L mi) (h : TM b L s po st tk vl lt) (h0 : 0 < c) (h2 : c < 100) : f_X11_semicolon st tk mi (nI c) pl = some (nI c, pl) := by
  obtain ⟨a1, a2, a3, a4, -⟩ := h
  obtain ⟨m1, m2, m3, m4, m5⟩ := tkM_eq (@tkK_le b L s)
  have hL := hT.1
  subst a3 a4
  by_cases c3 : tkK b L s = 3
  · obtain ⟨e1, e2, e3, -⟩ := tkE_s (b := b) a1
    have hs := (e3 (by omega)).1
    rw [m3.mpr c3]
    obtain ⟨hb, hv⟩ := hT.2 s hs
    by_cases c4 : b s = 59
    · simp (disch := omega) only [n_0, n_1, n_2, n_3, n_4, n_5, n_6, n_7, n_8, n_9, n_10, n_12, n_13, n_15, n_20, n_24, n_27, n_31, n_32, n_33, n_36, n_44, n_48, n_50, n_57, n_58, n_59, n_72, n_74, n_75, n_85, n_91, n_96, n_97, n_99, n_122, n_255, n_300, n_432, n_600, n_900, n_999, n_1000, n_1291, n_1399, n_2798, n_11192, n_65536, n_65537, n_99999999, n_1000000, nI_add, pk_mul, q_le, q_lt, q_eq, q_cl, q_gi, q_gz, q_sub, q_div, q_dm, d_dm, q_m1, q_mn, q_nm, q_mlt, q_ltm, q_mle, q_lem, q_mm, Option.bind_some, if_true, if_false, Nat.add_zero, ite_self, q_us, q_un, decide_true, decide_false, Bool.false_eq_true, eq_self, and_self, and_true, true_and, and_false, false_and, or_true, true_or, or_false, false_or, d_ltT, d_ltF, d_leT, d_leF, d_eqT, d_eqF, f_X11_semicolon, f_X11_semicolon_L28, f_X11_semicolon_L27, hv, y_check_e h0 h2]
    · simp (disch := omega) only [n_0, n_1, n_2, n_3, n_4, n_5, n_6, n_7, n_8, n_9, n_10, n_12, n_13, n_15, n_20, n_24, n_27, n_31, n_32, n_33, n_36, n_44, n_48, n_50, n_57, n_58, n_59, n_72, n_74, n_75, n_85, n_91, n_96, n_97, n_99, n_122, n_255, n_300, n_432, n_600, n_900, n_999, n_1000, n_1291, n_1399, n_2798, n_11192, n_65536, n_65537, n_99999999, n_1000000, nI_add, pk_mul, q_le, q_lt, q_eq, q_cl, q_gi, q_gz, q_sub, q_div, q_dm, d_dm, q_m1, q_mn, q_nm, q_mlt, q_ltm, q_mle, q_lem, q_mm, Option.bind_some, if_true, if_false, Nat.add_zero, ite_self, q_us, q_un, decide_true, decide_false, Bool.false_eq_true, eq_self, and_self, and_true, true_and, and_false, false_and, or_true, true_or, or_false, false_or, d_ltT, d_ltF, d_leT, d_leF, d_eqT, d_eqF, f_X11_semicolon, f_X11_semicolon_L28, f_X11_semicolon_L27, hv, y_check_e h0 h2]
  · have : tkM (tkK b L s) ≠ 1 := fun x => c3 (m3.mp x)
    simp (disch := omega) only [n_0, n_1, n_2, n_3, n_4, n_5, n_6, n_7, n_8, n_9, n_10, n_12, n_13, n_15, n_20, n_24, n_27, n_31, n_32, n_33, n_36, n_44, n_48, n_50, n_57, n_58, n_59, n_72, n_74, n_75, n_85, n_91, n_96, n_97, n_99, n_122, n_255, n_300, n_432, n_600, n_900, n_999, n_1000, n_1291, n_1399, n_2798, n_11192, n_65536, n_65537, n_99999999, n_1000000, nI_add, pk_mul, q_le, q_lt, q_eq, q_cl, q_gi, q_gz, q_sub, q_div, q_dm, d_dm, q_m1, q_mn, q_nm, q_mlt, q_ltm, q_mle, q_lem, q_mm, Option.bind_some, if_true, if_false, Nat.add_zero, ite_self, q_us, q_un, decide_true, decide_false, Bool.false_eq_true, eq_self, and_self, and_true, true_and, and_false, false_and, or_true, true_or, or_false, false_or, d_ltT, d_ltF, d_leT, d_leF, d_eqT, d_eqF, f_X11_semicolon, f_X11_semicolon_L28, f_X11_semicolon_L27, y_check_e h0 h2]
def isS (b : Nat → Nat) (L s : Nat) : Prop := tkK b L s = 3 ∧ b s = 59
theorem y_semi_t {L s : Nat} {b : Nat → Nat} {mi : Nat → Int32} {po st tk vl lt pl : Int32} (hT : TR b L mi) (h : TM b L s po st tk vl lt) (hs : isS b L s) : f_X11_semicolon st tk mi (nI 0) pl = some (nI 0, pl) := by
  obtain ⟨a1, a2, a3, a4, -⟩ := h
  obtain ⟨m1, m2, m3, m4, m5⟩ := tkM_eq (@tkK_le b L s)
  have hL := hT.1
  subst a3 a4
  obtain ⟨e1, e2, e3, -⟩ := tkE_s (b := b) a1
  have hs2 := (e3 (by have := hs.1; omega)).1
  rw [m3.mpr hs.1]
  have hv := (hT.2 s hs2).2
  rw [hs.2] at hv
  simp (disch := omega) only [n_0, n_1, n_2, n_3, n_4, n_5, n_6, n_7, n_8, n_9, n_10, n_12, n_13, n_15, n_20, n_24, n_27, n_31, n_32, n_33, n_36, n_44, n_48, n_50, n_57, n_58, n_59, n_72, n_74, n_75, n_85, n_91, n_96, n_97, n_99, n_122, n_255, n_300, n_432, n_600, n_900, n_999, n_1000, n_1291, n_1399, n_2798, n_11192, n_65536, n_65537, n_99999999, n_1000000, nI_add, pk_mul, q_le, q_lt, q_eq, q_cl, q_gi, q_gz, q_sub, q_div, q_dm, d_dm, q_m1, q_mn, q_nm, q_mlt, q_ltm, q_mle, q_lem, q_mm, Option.bind_some, if_true, if_false, Nat.add_zero, ite_self, q_us, q_un, decide_true, decide_false, Bool.false_eq_true, eq_self, and_self, and_true, true_and, and_false, false_and, or_true, true_or, or_false, false_or, d_ltT, d_ltF, d_leT, d_leF, d_eqT, d_eqF, f_X11_semicolon, f_X11_semicolon_L28, hv, y_check_t]
theorem y_semi_f {L s : Nat} {b : Nat → Nat} {mi : Nat → Int32} {po st tk vl lt pl : Int32} (hT : TR b L mi) (h : TM b L s po st tk vl lt) (hs : ¬ isS b L s) : f_X11_semicolon st tk mi (nI 0) pl = some (nI 1, st) := by
  obtain ⟨a1, a2, a3, a4, -⟩ := h
  obtain ⟨m1, m2, m3, m4, m5⟩ := tkM_eq (@tkK_le b L s)
  have hL := hT.1
  subst a3 a4
  have yf := @y_check_f (nI s) pl 1 (by omega) (by omega)
  by_cases c3 : tkK b L s = 3
  · obtain ⟨e1, e2, e3, -⟩ := tkE_s (b := b) a1
    have hs2 := (e3 (by omega)).1
    obtain ⟨hb, hv⟩ := hT.2 s hs2
    have c4 : b s ≠ 59 := fun x => hs ⟨c3, x⟩
    rw [m3.mpr c3]
    simp (disch := omega) only [n_0, n_1, n_2, n_3, n_4, n_5, n_6, n_7, n_8, n_9, n_10, n_12, n_13, n_15, n_20, n_24, n_27, n_31, n_32, n_33, n_36, n_44, n_48, n_50, n_57, n_58, n_59, n_72, n_74, n_75, n_85, n_91, n_96, n_97, n_99, n_122, n_255, n_300, n_432, n_600, n_900, n_999, n_1000, n_1291, n_1399, n_2798, n_11192, n_65536, n_65537, n_99999999, n_1000000, nI_add, pk_mul, q_le, q_lt, q_eq, q_cl, q_gi, q_gz, q_sub, q_div, q_dm, d_dm, q_m1, q_mn, q_nm, q_mlt, q_ltm, q_mle, q_lem, q_mm, Option.bind_some, if_true, if_false, Nat.add_zero, ite_self, q_us, q_un, decide_true, decide_false, Bool.false_eq_true, eq_self, and_self, and_true, true_and, and_false, false_and, or_true, true_or, or_false, false_or, d_ltT, d_ltF, d_leT, d_leF, d_eqT, d_eqF, f_X11_semicolon, f_X11_semicolon_L28, f_X11_semicolon_L27, hv, yf]
  · have : tkM (tkK b L s) ≠ 1 := fun x => c3 (m3.mp x)
    simp (disch := omega) only [n_0, n_1, n_2, n_3, n_4, n_5, n_6, n_7, n_8, n_9, n_10, n_12, n_13, n_15, n_20, n_24, n_27, n_31, n_32, n_33, n_36, n_44, n_48, n_50, n_57, n_58, n_59, n_72, n_74, n_75, n_85, n_91, n_96, n_97, n_99, n_122, n_255, n_300, n_432, n_600, n_900, n_999, n_1000, n_1291, n_1399, n_2798, n_11192, n_65536, n_65537, n_99999999, n_1000000, nI_add, pk_mul, q_le, q_lt, q_eq, q_cl, q_gi, q_gz, q_sub, q_div, q_dm, d_dm, q_m1, q_mn, q_nm, q_mlt, q_ltm, q_mle, q_lem, q_mm, Option.bind_some, if_true, if_false, Nat.add_zero, ite_self, q_us, q_un, decide_true, decide_false, Bool.false_eq_true, eq_self, and_self, and_true, true_and, and_false, false_and, or_true, true_or, or_false, false_or, d_ltT, d_ltF, d_leT, d_leF, d_eqT, d_eqF, f_X11_semicolon, f_X11_semicolon_L28, f_X11_semicolon_L27, yf]
theorem x_isS_t {L s : Nat} {b : Nat → Nat} {tb : Nat → Int32} {kd ts te tv : Int32} (hT : TR b L tb) (h : TC b L s kd ts te tv) (hs : isS b L s) : f_X9_isSemicolon (nI L) tb kd ts = some (nI 1) := by
  obtain ⟨a1, a2, a3, a4, -⟩ := h
  subst a2 a3
  obtain ⟨e1, e2, e3, -⟩ := tkE_s (b := b) a1
  have hs2 := (e3 (by have := hs.1; omega)).1
  rw [hs.1]
  simp (disch := omega) only [n_0, n_1, n_2, n_3, n_4, n_5, n_6, n_7, n_8, n_9, n_10, n_12, n_13, n_15, n_20, n_24, n_27, n_31, n_32, n_33, n_36, n_44, n_48, n_50, n_57, n_58, n_59, n_72, n_74, n_75, n_85, n_91, n_96, n_97, n_99, n_122, n_255, n_300, n_432, n_600, n_900, n_999, n_1000, n_1291, n_1399, n_2798, n_11192, n_65536, n_65537, n_99999999, n_1000000, nI_add, pk_mul, q_le, q_lt, q_eq, q_cl, q_gi, q_gz, q_sub, q_div, q_dm, d_dm, q_m1, q_mn, q_nm, q_mlt, q_ltm, q_mle, q_lem, q_mm, Option.bind_some, if_true, if_false, Nat.add_zero, ite_self, q_us, q_un, decide_true, decide_false, Bool.false_eq_true, eq_self, and_self, and_true, true_and, and_false, false_and, or_true, true_or, or_false, false_or, d_ltT, d_ltF, d_leT, d_leF, d_eqT, d_eqF, f_X9_isSemicolon, e_byte hT hs2, hs.2]
theorem x_isS_f {L s : Nat} {b : Nat → Nat} {tb : Nat → Int32} {kd ts te tv : Int32} (hT : TR b L tb) (h : TC b L s kd ts te tv) (hs : ¬ isS b L s) : f_X9_isSemicolon (nI L) tb kd ts = some (nI 0) := by
  obtain ⟨a1, a2, a3, a4, -⟩ := h
  have hk := @tkK_le b L s
  subst a2 a3
  by_cases c3 : tkK b L s = 3
  · obtain ⟨e1, e2, e3, -⟩ := tkE_s (b := b) a1
    have hs2 := (e3 (by omega)).1
    have c4 : b s ≠ 59 := fun x => hs ⟨c3, x⟩
    have hb := (hT.2 s hs2).1
    rw [c3]
    simp (disch := omega) only [n_0, n_1, n_2, n_3, n_4, n_5, n_6, n_7, n_8, n_9, n_10, n_12, n_13, n_15, n_20, n_24, n_27, n_31, n_32, n_33, n_36, n_44, n_48, n_50, n_57, n_58, n_59, n_72, n_74, n_75, n_85, n_91, n_96, n_97, n_99, n_122, n_255, n_300, n_432, n_600, n_900, n_999, n_1000, n_1291, n_1399, n_2798, n_11192, n_65536, n_65537, n_99999999, n_1000000, nI_add, pk_mul, q_le, q_lt, q_eq, q_cl, q_gi, q_gz, q_sub, q_div, q_dm, d_dm, q_m1, q_mn, q_nm, q_mlt, q_ltm, q_mle, q_lem, q_mm, Option.bind_some, if_true, if_false, Nat.add_zero, ite_self, q_us, q_un, decide_true, decide_false, Bool.false_eq_true, eq_self, and_self, and_true, true_and, and_false, false_and, or_true, true_or, or_false, false_or, d_ltT, d_ltF, d_leT, d_leF, d_eqT, d_eqF, f_X9_isSemicolon, e_byte hT hs2]
  · simp (disch := omega) only [n_0, n_1, n_2, n_3, n_4, n_5, n_6, n_7, n_8, n_9, n_10, n_12, n_13, n_15, n_20, n_24, n_27, n_31, n_32, n_33, n_36, n_44, n_48, n_50, n_57, n_58, n_59, n_72, n_74, n_75, n_85, n_91, n_96, n_97, n_99, n_122, n_255, n_300, n_432, n_600, n_900, n_999, n_1000, n_1291, n_1399, n_2798, n_11192, n_65536, n_65537, n_99999999, n_1000000, nI_add, pk_mul, q_le, q_lt, q_eq, q_cl, q_gi, q_gz, q_sub, q_div, q_dm, d_dm, q_m1, q_mn, q_nm, q_mlt, q_ltm, q_mle, q_lem, q_mm, Option.bind_some, if_true, if_false, Nat.add_zero, ite_self, q_us, q_un, decide_true, decide_false, Bool.false_eq_true, eq_self, and_self, and_true, true_and, and_false, false_and, or_true, true_or, or_false, false_or, d_ltT, d_ltF, d_leT, d_leF, d_eqT, d_eqF, f_X9_isSemicolon]
theorem x_semi_f {N L s : Nat} {b : Nat → Nat} {tb : Nat → Int32} {kd ts te tv eo a : Int32} (hT : TR b L tb) (h : TC b L s kd ts te tv) (hs : ¬ isS b L s) : f_X5_takeSemicolon N (nI L) tb (nI 0) eo kd ts te tv a = some (nI 1, ts, kd, ts, te, tv) := by
  simp (disch := omega) only [n_0, n_1, n_2, n_3, n_4, n_5, n_6, n_7, n_8, n_9, n_10, n_12, n_13, n_15, n_20, n_24, n_27, n_31, n_32, n_33, n_36, n_44, n_48, n_50, n_57, n_58, n_59, n_72, n_74, n_75, n_85, n_91, n_96, n_97, n_99, n_122, n_255, n_300, n_432, n_600, n_900, n_999, n_1000, n_1291, n_1399, n_2798, n_11192, n_65536, n_65537, n_99999999, n_1000000, nI_add, pk_mul, q_le, q_lt, q_eq, q_cl, q_gi, q_gz, q_sub, q_div, q_dm, d_dm, q_m1, q_mn, q_nm, q_mlt, q_ltm, q_mle, q_lem, q_mm, Option.bind_some, if_true, if_false, Nat.add_zero, ite_self, q_us, q_un, decide_true, decide_false, Bool.false_eq_true, eq_self, and_self, and_true, true_and, and_false, false_and, or_true, true_or, or_false, false_or, d_ltT, d_ltF, d_leT, d_leF, d_eqT, d_eqF, f_X5_takeSemicolon, x_isS_f hT h hs, x_fail0]
theorem x_semi_a {N L s c : Nat} {b : Nat → Nat} {tb : Nat → Int32} {kd ts te tv eo : Int32} (hT : TR b L tb) (h : TC b L s kd ts te tv) (hs : isS b L s) (h0 : 0 < c) (h2 : c < 100) : f_X5_takeSemicolon N (nI L) tb (nI 0) eo kd ts te tv (nI c) = some (nI c, ts, kd, ts, te, tv) := by
  simp (disch := omega) only [n_0, n_1, n_2, n_3, n_4, n_5, n_6, n_7, n_8, n_9, n_10, n_12, n_13, n_15, n_20, n_24, n_27, n_31, n_32, n_33, n_36, n_44, n_48, n_50, n_57, n_58, n_59, n_72, n_74, n_75, n_85, n_91, n_96, n_97, n_99, n_122, n_255, n_300, n_432, n_600, n_900, n_999, n_1000, n_1291, n_1399, n_2798, n_11192, n_65536, n_65537, n_99999999, n_1000000, nI_add, pk_mul, q_le, q_lt, q_eq, q_cl, q_gi, q_gz, q_sub, q_div, q_dm, d_dm, q_m1, q_mn, q_nm, q_mlt, q_ltm, q_mle, q_lem, q_mm, Option.bind_some, if_true, if_false, Nat.add_zero, ite_self, q_us, q_un, decide_true, decide_false, Bool.false_eq_true, eq_self, and_self, and_true, true_and, and_false, false_and, or_true, true_or, or_false, false_or, d_ltT, d_ltF, d_leT, d_leF, d_eqT, d_eqF, f_X5_takeSemicolon, x_isS_t hT h hs, x_fail0]
theorem x_semi_t {N L s : Nat} {b : Nat → Nat} {tb : Nat → Int32} {kd ts te tv eo kd' ts' te' tv' : Int32} (hT : TR b L tb) (h : TC b L s kd ts te tv) (hs : isS b L s) (ha : f_X9_advance N (nI L) tb kd ts te tv = some (kd', ts', te', tv')) : f_X5_takeSemicolon N (nI L) tb (nI 0) eo kd ts te tv (nI 0) = some (nI 0, eo, kd', ts', te', tv') := by
  simp (disch := omega) only [n_0, n_1, n_2, n_3, n_4, n_5, n_6, n_7, n_8, n_9, n_10, n_12, n_13, n_15, n_20, n_24, n_27, n_31, n_32, n_33, n_36, n_44, n_48, n_50, n_57, n_58, n_59, n_72, n_74, n_75, n_85, n_91, n_96, n_97, n_99, n_122, n_255, n_300, n_432, n_600, n_900, n_999, n_1000, n_1291, n_1399, n_2798, n_11192, n_65536, n_65537, n_99999999, n_1000000, nI_add, pk_mul, q_le, q_lt, q_eq, q_cl, q_gi, q_gz, q_sub, q_div, q_dm, d_dm, q_m1, q_mn, q_nm, q_mlt, q_ltm, q_mle, q_lem, q_mm, Option.bind_some, if_true, if_false, Nat.add_zero, ite_self, q_us, q_un, decide_true, decide_false, Bool.false_eq_true, eq_self, and_self, and_true, true_and, and_false, false_and, or_true, true_or, or_false, false_or, d_ltT, d_ltF, d_leT, d_leF, d_eqT, d_eqF, f_X5_takeSemicolon, x_isS_t hT h hs, ha]
theorem y_next_t {N : Nat} {tl po st tk vl lt po' st' tk' vl' lt' : Int32} {mi : Nat → Int32} (ha : f_X11_advance N tl mi po st tk vl lt = some (po', st', tk', vl', lt')) : f_X11_next N tl (nI 0) mi po st tk vl lt = some (po', st', tk', vl', lt') := by
  simp (disch := omega) only [n_0, n_1, n_2, n_3, n_4, n_5, n_6, n_7, n_8, n_9, n_10, n_12, n_13, n_15, n_20, n_24, n_27, n_31, n_32, n_33, n_36, n_44, n_48, n_50, n_57, n_58, n_59, n_72, n_74, n_75, n_85, n_91, n_96, n_97, n_99, n_122, n_255, n_300, n_432, n_600, n_900, n_999, n_1000, n_1291, n_1399, n_2798, n_11192, n_65536, n_65537, n_99999999, n_1000000, nI_add, pk_mul, q_le, q_lt, q_eq, q_cl, q_gi, q_gz, q_sub, q_div, q_dm, d_dm, q_m1, q_mn, q_nm, q_mlt, q_ltm, q_mle, q_lem, q_mm, Option.bind_some, if_true, if_false, Nat.add_zero, ite_self, q_us, q_un, decide_true, decide_false, Bool.false_eq_true, eq_self, and_self, and_true, true_and, and_false, false_and, or_true, true_or, or_false, false_or, d_ltT, d_ltF, d_leT, d_leF, d_eqT, d_eqF, f_X11_next, ha]
/-- a closing ';', in both -/
theorem s_fin {N L s : Nat} {b : Nat → Nat} {tb mi : Nat → Int32} {kd ts te tv po st tk vl lt eo pl : Int32} (hN : 1000 < N) (hT : TR b L tb) (hM : TR b L mi) (h1 : TC b L s kd ts te tv) (h2 : TM b L s po st tk vl lt) : (∃ s' kd' ts' te' tv' po' st' tk' vl' lt', tkE b L s ≤ s' ∧ f_X5_takeSemicolon N (nI L) tb (nI 0) eo kd ts te tv (nI 0) = some (nI 0, eo, kd', ts', te', tv') ∧ f_X11_finish N (nI L) mi po st tk vl lt (nI 0) pl = some (po', st', tk', vl', lt', nI 0, pl) ∧ TC b L s' kd' ts' te' tv' ∧ TM b L s' po' st' tk' vl' lt') ∨ (f_X5_takeSemicolon N (nI L) tb (nI 0) eo kd ts te tv (nI 0) = some (nI 1, ts, kd, ts, te, tv) ∧ f_X11_finish N (nI L) mi po st tk vl lt (nI 0) pl = some (po, st, tk, vl, lt, nI 1, st)) := by
  by_cases hs : isS b L s
  · obtain ⟨s', kd', ts', te', tv', po', st', tk', vl', lt', a1, a2, a3, a4, a5⟩ := s_adv hN hT hM h1 h2
    refine Or.inl ⟨s', kd', ts', te', tv', po', st', tk', vl', lt', a1, x_semi_t hT h1 hs a2, ?_, a4, a5⟩
    simp (disch := omega) only [n_0, n_1, n_2, n_3, n_4, n_5, n_6, n_7, n_8, n_9, n_10, n_12, n_13, n_15, n_20, n_24, n_27, n_31, n_32, n_33, n_36, n_44, n_48, n_50, n_57, n_58, n_59, n_72, n_74, n_75, n_85, n_91, n_96, n_97, n_99, n_122, n_255, n_300, n_432, n_600, n_900, n_999, n_1000, n_1291, n_1399, n_2798, n_11192, n_65536, n_65537, n_99999999, n_1000000, nI_add, pk_mul, q_le, q_lt, q_eq, q_cl, q_gi, q_gz, q_sub, q_div, q_dm, d_dm, q_m1, q_mn, q_nm, q_mlt, q_ltm, q_mle, q_lem, q_mm, Option.bind_some, if_true, if_false, Nat.add_zero, ite_self, q_us, q_un, decide_true, decide_false, Bool.false_eq_true, eq_self, and_self, and_true, true_and, and_false, false_and, or_true, true_or, or_false, false_or, d_ltT, d_ltF, d_leT, d_leF, d_eqT, d_eqF, f_X11_finish, y_semi_t hM h2 hs, y_next_t a3]
  · refine Or.inr ⟨x_semi_f hT h1 hs, ?_⟩
    have yn := @y_next_e N (nI L) po st tk vl lt mi 1 (by omega) (by omega)
    simp (disch := omega) only [n_0, n_1, n_2, n_3, n_4, n_5, n_6, n_7, n_8, n_9, n_10, n_12, n_13, n_15, n_20, n_24, n_27, n_31, n_32, n_33, n_36, n_44, n_48, n_50, n_57, n_58, n_59, n_72, n_74, n_75, n_85, n_91, n_96, n_97, n_99, n_122, n_255, n_300, n_432, n_600, n_900, n_999, n_1000, n_1291, n_1399, n_2798, n_11192, n_65536, n_65537, n_99999999, n_1000000, nI_add, pk_mul, q_le, q_lt, q_eq, q_cl, q_gi, q_gz, q_sub, q_div, q_dm, d_dm, q_m1, q_mn, q_nm, q_mlt, q_ltm, q_mle, q_lem, q_mm, Option.bind_some, if_true, if_false, Nat.add_zero, ite_self, q_us, q_un, decide_true, decide_false, Bool.false_eq_true, eq_self, and_self, and_true, true_and, and_false, false_and, or_true, true_or, or_false, false_or, d_ltT, d_ltF, d_leT, d_leF, d_eqT, d_eqF, f_X11_finish, y_semi_f hM h2 hs, yn]
/-- a number, in both: below n -/
theorem s_num {N L s lo n : Nat} {b : Nat → Nat} {tb mi : Nat → Int32} {kd ts te tv po st tk vl lt eo pl hi : Int32} (hN : 1000 < N) (hT : TR b L tb) (hM : TR b L mi) (h1 : TC b L s kd ts te tv) (h2 : TM b L s po st tk vl lt) (hl : lo < 1000) (hn : n < 100000) (hh : ∀ v, v < 1000000000 → (hi < nI v) = (n ≤ v)) : (∃ v s' kd' ts' te' tv' po' st' tk' vl' lt', lo ≤ v ∧ v < n ∧ tkE b L s ≤ s' ∧ f_X5_takeNumber N (nI L) tb (nI 0) eo kd ts te tv (nI lo) hi = some (nI v, nI 0, eo, kd', ts', te', tv') ∧ f_X11_number N (nI L) mi po st tk vl lt (nI 0) pl (nI lo) hi = some (nI v, po', st', tk', vl', lt', nI 0, pl) ∧ TC b L s' kd' ts' te' tv' ∧ TM b L s' po' st' tk' vl' lt') ∨ (∃ c, 0 < c ∧ c < 100 ∧ f_X5_takeNumber N (nI L) tb (nI 0) eo kd ts te tv (nI lo) hi = some (-nI 1, nI c, ts, kd, ts, te, tv) ∧ f_X11_number N (nI L) mi po st tk vl lt (nI 0) pl (nI lo) hi = some (nI lo, po, st, tk, vl, lt, nI c, st)) := by
  obtain ⟨m1, m2, m3, m4, m5⟩ := tkM_eq (@tkK_le b L s)
  have hk := @tkK_le b L s
  have c1 := h1.2.1
  have c2 := h2.2.2.2.1
  by_cases k2 : tkK b L s = 2
  · have v1 := h1.2.2.2.2 k2
    have v2 := h2.2.2.2.2.1 k2
    have vl9 : tkV b L s < 1000000000 := nV_lt (by omega)
    have hcap : cap (tkV b L s) < 1000001 := by unfold cap; split <;> omega
    have hh1 := hh _ vl9
    have hh2 := hh (cap (tkV b L s)) (by omega)
    rw [k2] at c1
    rw [m2.mpr k2] at c2
    by_cases hr : lo ≤ tkV b L s ∧ tkV b L s < n
    · have ec : cap (tkV b L s) = tkV b L s := by unfold cap; rw [if_neg (by omega)]
      rw [ec] at v1 hh2
      obtain ⟨s', kd', ts', te', tv', po', st', tk', vl', lt', a1, a2, a3, a4, a5⟩ := s_adv hN hT hM h1 h2
      refine Or.inl ⟨tkV b L s, s', kd', ts', te', tv', po', st', tk', vl', lt', hr.1, hr.2, a1, ?_, ?_, a4, a5⟩
      · subst c1 v1
        simp (disch := omega) only [n_0, n_1, n_2, n_3, n_4, n_5, n_6, n_7, n_8, n_9, n_10, n_12, n_13, n_15, n_20, n_24, n_27, n_31, n_32, n_33, n_36, n_44, n_48, n_50, n_57, n_58, n_59, n_72, n_74, n_75, n_85, n_91, n_96, n_97, n_99, n_122, n_255, n_300, n_432, n_600, n_900, n_999, n_1000, n_1291, n_1399, n_2798, n_11192, n_65536, n_65537, n_99999999, n_1000000, nI_add, pk_mul, q_le, q_lt, q_eq, q_cl, q_gi, q_gz, q_sub, q_div, q_dm, d_dm, q_m1, q_mn, q_nm, q_mlt, q_ltm, q_mle, q_lem, q_mm, Option.bind_some, if_true, if_false, Nat.add_zero, ite_self, q_us, q_un, decide_true, decide_false, Bool.false_eq_true, eq_self, and_self, and_true, true_and, and_false, false_and, or_true, true_or, or_false, false_or, d_ltT, d_ltF, d_leT, d_leF, d_eqT, d_eqF, f_X5_takeNumber, f_X5_isNumberIn, hh1, a2]
      · subst c2 v2
        simp (disch := omega) only [n_0, n_1, n_2, n_3, n_4, n_5, n_6, n_7, n_8, n_9, n_10, n_12, n_13, n_15, n_20, n_24, n_27, n_31, n_32, n_33, n_36, n_44, n_48, n_50, n_57, n_58, n_59, n_72, n_74, n_75, n_85, n_91, n_96, n_97, n_99, n_122, n_255, n_300, n_432, n_600, n_900, n_999, n_1000, n_1291, n_1399, n_2798, n_11192, n_65536, n_65537, n_99999999, n_1000000, nI_add, pk_mul, q_le, q_lt, q_eq, q_cl, q_gi, q_gz, q_sub, q_div, q_dm, d_dm, q_m1, q_mn, q_nm, q_mlt, q_ltm, q_mle, q_lem, q_mm, Option.bind_some, if_true, if_false, Nat.add_zero, ite_self, q_us, q_un, decide_true, decide_false, Bool.false_eq_true, eq_self, and_self, and_true, true_and, and_false, false_and, or_true, true_or, or_false, false_or, d_ltT, d_ltF, d_leT, d_leF, d_eqT, d_eqF, f_X11_number, f_X11_look, f_X11_look_L14, f_X11_isBetween, hh1, y_check_t, y_next_t a3]
    · refine Or.inr ⟨2, by omega, by omega, ?_, ?_⟩
      · subst c1 v1
        have hx : (n ≤ cap (tkV b L s)) ∨ cap (tkV b L s) < lo := by unfold cap; split <;> omega
        by_cases hy : cap (tkV b L s) < lo
        · simp (disch := omega) only [n_0, n_1, n_2, n_3, n_4, n_5, n_6, n_7, n_8, n_9, n_10, n_12, n_13, n_15, n_20, n_24, n_27, n_31, n_32, n_33, n_36, n_44, n_48, n_50, n_57, n_58, n_59, n_72, n_74, n_75, n_85, n_91, n_96, n_97, n_99, n_122, n_255, n_300, n_432, n_600, n_900, n_999, n_1000, n_1291, n_1399, n_2798, n_11192, n_65536, n_65537, n_99999999, n_1000000, nI_add, pk_mul, q_le, q_lt, q_eq, q_cl, q_gi, q_gz, q_sub, q_div, q_dm, d_dm, q_m1, q_mn, q_nm, q_mlt, q_ltm, q_mle, q_lem, q_mm, Option.bind_some, if_true, if_false, Nat.add_zero, ite_self, q_us, q_un, decide_true, decide_false, Bool.false_eq_true, eq_self, and_self, and_true, true_and, and_false, false_and, or_true, true_or, or_false, false_or, d_ltT, d_ltF, d_leT, d_leF, d_eqT, d_eqF, f_X5_takeNumber, f_X5_takeNumber_L35, f_X5_isNumberIn, hh2, x_fail0]
        · simp (disch := omega) only [n_0, n_1, n_2, n_3, n_4, n_5, n_6, n_7, n_8, n_9, n_10, n_12, n_13, n_15, n_20, n_24, n_27, n_31, n_32, n_33, n_36, n_44, n_48, n_50, n_57, n_58, n_59, n_72, n_74, n_75, n_85, n_91, n_96, n_97, n_99, n_122, n_255, n_300, n_432, n_600, n_900, n_999, n_1000, n_1291, n_1399, n_2798, n_11192, n_65536, n_65537, n_99999999, n_1000000, nI_add, pk_mul, q_le, q_lt, q_eq, q_cl, q_gi, q_gz, q_sub, q_div, q_dm, d_dm, q_m1, q_mn, q_nm, q_mlt, q_ltm, q_mle, q_lem, q_mm, Option.bind_some, if_true, if_false, Nat.add_zero, ite_self, q_us, q_un, decide_true, decide_false, Bool.false_eq_true, eq_self, and_self, and_true, true_and, and_false, false_and, or_true, true_or, or_false, false_or, d_ltT, d_ltF, d_leT, d_leF, d_eqT, d_eqF, f_X5_takeNumber, f_X5_takeNumber_L35, f_X5_isNumberIn, hh2, x_fail0]
      · subst c2 v2
        have yf := @y_check_f st pl 2 (by omega) (by omega)
        have yn := @y_next_e N (nI L) po st (nI 2) (nI (tkV b L s)) lt mi 2 (by omega) (by omega)
        by_cases hy : tkV b L s < lo
        · simp (disch := omega) only [n_0, n_1, n_2, n_3, n_4, n_5, n_6, n_7, n_8, n_9, n_10, n_12, n_13, n_15, n_20, n_24, n_27, n_31, n_32, n_33, n_36, n_44, n_48, n_50, n_57, n_58, n_59, n_72, n_74, n_75, n_85, n_91, n_96, n_97, n_99, n_122, n_255, n_300, n_432, n_600, n_900, n_999, n_1000, n_1291, n_1399, n_2798, n_11192, n_65536, n_65537, n_99999999, n_1000000, nI_add, pk_mul, q_le, q_lt, q_eq, q_cl, q_gi, q_gz, q_sub, q_div, q_dm, d_dm, q_m1, q_mn, q_nm, q_mlt, q_ltm, q_mle, q_lem, q_mm, Option.bind_some, if_true, if_false, Nat.add_zero, ite_self, q_us, q_un, decide_true, decide_false, Bool.false_eq_true, eq_self, and_self, and_true, true_and, and_false, false_and, or_true, true_or, or_false, false_or, d_ltT, d_ltF, d_leT, d_leF, d_eqT, d_eqF, f_X11_number, f_X11_look, f_X11_look_L14, f_X11_isBetween, hh1, y_check_t, yf, yn]
        · simp (disch := omega) only [n_0, n_1, n_2, n_3, n_4, n_5, n_6, n_7, n_8, n_9, n_10, n_12, n_13, n_15, n_20, n_24, n_27, n_31, n_32, n_33, n_36, n_44, n_48, n_50, n_57, n_58, n_59, n_72, n_74, n_75, n_85, n_91, n_96, n_97, n_99, n_122, n_255, n_300, n_432, n_600, n_900, n_999, n_1000, n_1291, n_1399, n_2798, n_11192, n_65536, n_65537, n_99999999, n_1000000, nI_add, pk_mul, q_le, q_lt, q_eq, q_cl, q_gi, q_gz, q_sub, q_div, q_dm, d_dm, q_m1, q_mn, q_nm, q_mlt, q_ltm, q_mle, q_lem, q_mm, Option.bind_some, if_true, if_false, Nat.add_zero, ite_self, q_us, q_un, decide_true, decide_false, Bool.false_eq_true, eq_self, and_self, and_true, true_and, and_false, false_and, or_true, true_or, or_false, false_or, d_ltT, d_ltF, d_leT, d_leF, d_eqT, d_eqF, f_X11_number, f_X11_look, f_X11_look_L14, f_X11_isBetween, hh1, y_check_t, yf, yn]
  · refine Or.inr ⟨1, by omega, by omega, ?_, ?_⟩
    · subst c1
      simp (disch := omega) only [n_0, n_1, n_2, n_3, n_4, n_5, n_6, n_7, n_8, n_9, n_10, n_12, n_13, n_15, n_20, n_24, n_27, n_31, n_32, n_33, n_36, n_44, n_48, n_50, n_57, n_58, n_59, n_72, n_74, n_75, n_85, n_91, n_96, n_97, n_99, n_122, n_255, n_300, n_432, n_600, n_900, n_999, n_1000, n_1291, n_1399, n_2798, n_11192, n_65536, n_65537, n_99999999, n_1000000, nI_add, pk_mul, q_le, q_lt, q_eq, q_cl, q_gi, q_gz, q_sub, q_div, q_dm, d_dm, q_m1, q_mn, q_nm, q_mlt, q_ltm, q_mle, q_lem, q_mm, Option.bind_some, if_true, if_false, Nat.add_zero, ite_self, q_us, q_un, decide_true, decide_false, Bool.false_eq_true, eq_self, and_self, and_true, true_and, and_false, false_and, or_true, true_or, or_false, false_or, d_ltT, d_ltF, d_leT, d_leF, d_eqT, d_eqF, f_X5_takeNumber, f_X5_takeNumber_L35, f_X5_isNumberIn, x_fail0]
    · subst c2
      obtain ⟨r, hr⟩ := @y_btw vl (nI lo) hi
      have : tkM (tkK b L s) ≠ 2 := fun x => k2 (m2.mp x)
      have yf := @y_check_f st pl 1 (by omega) (by omega)
      have ye := @y_check_e st st r (nI 2) 1 (by omega) (by omega)
      have yn := @y_next_e N (nI L) po st (nI (tkM (tkK b L s))) vl lt mi 1 (by omega) (by omega)
      simp (disch := omega) only [n_0, n_1, n_2, n_3, n_4, n_5, n_6, n_7, n_8, n_9, n_10, n_12, n_13, n_15, n_20, n_24, n_27, n_31, n_32, n_33, n_36, n_44, n_48, n_50, n_57, n_58, n_59, n_72, n_74, n_75, n_85, n_91, n_96, n_97, n_99, n_122, n_255, n_300, n_432, n_600, n_900, n_999, n_1000, n_1291, n_1399, n_2798, n_11192, n_65536, n_65537, n_99999999, n_1000000, nI_add, pk_mul, q_le, q_lt, q_eq, q_cl, q_gi, q_gz, q_sub, q_div, q_dm, d_dm, q_m1, q_mn, q_nm, q_mlt, q_ltm, q_mle, q_lem, q_mm, Option.bind_some, if_true, if_false, Nat.add_zero, ite_self, q_us, q_un, decide_true, decide_false, Bool.false_eq_true, eq_self, and_self, and_true, true_and, and_false, false_and, or_true, true_or, or_false, false_or, d_ltT, d_ltF, d_leT, d_leF, d_eqT, d_eqF, f_X11_number, f_X11_look, f_X11_look_L14, hr, yf, ye, yn]
theorem hi_of {h : Nat} (hh : h < 100000) : ∀ v, v < 1000000000 → (nI h < nI v) = (h + 1 ≤ v) := fun v hv => by
  rw [q_lt (by omega) (by omega)]
  exact propext ⟨fun x => x, fun x => x⟩
theorem hi_of1 {h : Nat} (hh : h < 100000) : ∀ v, v < 1000000000 → (nI h - nI 1 < nI v) = (h ≤ v) := fun v hv => by
  rcases Nat.eq_zero_or_pos h with e | e
  · subst e
    rw [q_01, q_mlt (by omega)]
    exact (eq_true (Nat.zero_le v)).symm
  · rw [pk_sub e, q_lt (by omega) (by omega)]
    exact propext ⟨fun x => by omega, fun x => by omega⟩
