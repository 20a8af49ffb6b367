/-! the class's queue; what is kept of a row -/
theorem o_bd {g : Nat → Nat} (hB : okB g) (hO : okO g) {r : Nat} (hr : r < g 6) : oQ g r < 36 ∧ oS g r < 214000000 ∧ oQ g r / 6 = oP g r ∧ oQ g r % 6 = oD g r ∧ oP g r < 6 := by
  obtain ⟨h1, h2, h3⟩ := hO.1 r hr
  have h4 := b_3 hB
  have h5 := b_4 hB
  unfold oQ
  omega
def gHas (g : Nat → Nat) (q : Nat) : Bool := anyF (fun r => decide (oQ g r = q)) (g 6) 0
theorem e_hasL {N : Nat} {g : Nat → Nat} {op os : Nat → Int32} (hB : okB g) (hO : okO g) (hQ : QR g op os) {q : Nat} (hq : q < 36) : ∀ k i j : Nat, i + k = g 6 → k < j → f_X6_has_L2 N (nI (g 6)) op j (nI q) (nI i) = some (bI (anyF (fun r => decide (oQ g r = q)) k i)) := by
  have h6 := b_6 hB
  intro k
  induction k with
  | zero =>
    intro i j h1 h2
    obtain ⟨j, rfl⟩ : ∃ t, j = t + 1 := ⟨j - 1, by omega⟩
    simp (disch := omega) only [n_0, n_1, n_2, n_3, n_4, n_5, n_6, n_7, n_8, n_9, n_10, n_12, n_13, n_15, n_20, n_24, n_27, n_31, n_32, n_33, n_36, n_44, n_48, n_50, n_57, n_58, n_59, n_72, n_74, n_75, n_85, n_91, n_96, n_97, n_99, n_122, n_255, n_300, n_432, n_600, n_900, n_999, n_1000, n_1291, n_1399, n_2798, n_11192, n_65536, n_65537, n_99999999, n_1000000, nI_add, pk_mul, q_le, q_lt, q_eq, q_cl, q_gi, q_gz, q_sub, q_div, q_dm, d_dm, q_m1, q_mn, q_nm, q_mlt, q_ltm, q_mle, q_lem, q_mm, Option.bind_some, if_true, if_false, Nat.add_zero, ite_self, q_us, q_un, decide_true, decide_false, Bool.false_eq_true, eq_self, and_self, and_true, true_and, and_false, false_and, or_true, true_or, or_false, false_or, d_ltT, d_ltF, d_leT, d_leF, d_eqT, d_eqF, f_X6_has_L2, f_X6_has_L2_F]
    rfl
  | succ k ih =>
    intro i j h1 h2
    obtain ⟨j, rfl⟩ : ∃ t, j = t + 1 := ⟨j - 1, by omega⟩
    have hb := o_bd hB hO (show i < g 6 by omega)
    have ho := (hQ i (by omega)).1
    unfold anyF
    by_cases hc : oQ g i = q
    · simp (disch := omega) only [n_0, n_1, n_2, n_3, n_4, n_5, n_6, n_7, n_8, n_9, n_10, n_12, n_13, n_15, n_20, n_24, n_27, n_31, n_32, n_33, n_36, n_44, n_48, n_50, n_57, n_58, n_59, n_72, n_74, n_75, n_85, n_91, n_96, n_97, n_99, n_122, n_255, n_300, n_432, n_600, n_900, n_999, n_1000, n_1291, n_1399, n_2798, n_11192, n_65536, n_65537, n_99999999, n_1000000, nI_add, pk_mul, q_le, q_lt, q_eq, q_cl, q_gi, q_gz, q_sub, q_div, q_dm, d_dm, q_m1, q_mn, q_nm, q_mlt, q_ltm, q_mle, q_lem, q_mm, Option.bind_some, if_true, if_false, Nat.add_zero, ite_self, q_us, q_un, decide_true, decide_false, Bool.false_eq_true, eq_self, and_self, and_true, true_and, and_false, false_and, or_true, true_or, or_false, false_or, d_ltT, d_ltF, d_leT, d_leF, d_eqT, d_eqF, f_X6_has_L2, f_X6_has_L2_F, e_at, ho]
      simp [hc, bI]
    · simp (disch := omega) only [n_0, n_1, n_2, n_3, n_4, n_5, n_6, n_7, n_8, n_9, n_10, n_12, n_13, n_15, n_20, n_24, n_27, n_31, n_32, n_33, n_36, n_44, n_48, n_50, n_57, n_58, n_59, n_72, n_74, n_75, n_85, n_91, n_96, n_97, n_99, n_122, n_255, n_300, n_432, n_600, n_900, n_999, n_1000, n_1291, n_1399, n_2798, n_11192, n_65536, n_65537, n_99999999, n_1000000, nI_add, pk_mul, q_le, q_lt, q_eq, q_cl, q_gi, q_gz, q_sub, q_div, q_dm, d_dm, q_m1, q_mn, q_nm, q_mlt, q_ltm, q_mle, q_lem, q_mm, Option.bind_some, if_true, if_false, Nat.add_zero, ite_self, q_us, q_un, decide_true, decide_false, Bool.false_eq_true, eq_self, and_self, and_true, true_and, and_false, false_and, or_true, true_or, or_false, false_or, d_ltT, d_ltF, d_leT, d_leF, d_eqT, d_eqF, f_X6_has_L2, f_X6_has_L2_F, e_at, ho]
      refine (ih (i + 1) j (by omega) (by omega)).trans ?_
      simp [hc]
theorem e_has {N : Nat} {g : Nat → Nat} {op os : Nat → Int32} (hN : 1000 < N) (hB : okB g) (hO : okO g) (hQ : QR g op os) {q : Nat} (hq : q < 36) : f_X6_has N (nI (g 6)) op (nI q) = some (bI (gHas g q)) := by
  have h6 := b_6 hB
  exact e_hasL hB hO hQ hq (g 6) 0 N (by omega) (by omega)
/-- the offences of a player -/
def gOby (g : Nat → Nat) (p n : Nat) : Nat := sumTo n (fun r => if oP g r = p then 1 else 0)
theorem gOby_le {g : Nat → Nat} {p n : Nat} : gOby g p n ≤ n := by
  have h : gOby g p n ≤ n * 1 := sumTo_le (fun k hk => by split <;> omega)
  omega
theorem e_set {op os : Nat → Int32} {r : Nat} {a b : Int32} (h : r < 36) : f_X6_set op os (nI r) a b = some (upd op r a, upd os r b) := by
  simp (disch := omega) only [n_0, n_1, n_2, n_3, n_4, n_5, n_6, n_7, n_8, n_9, n_10, n_12, n_13, n_15, n_20, n_24, n_27, n_31, n_32, n_33, n_36, n_44, n_48, n_50, n_57, n_58, n_59, n_72, n_74, n_75, n_85, n_91, n_96, n_97, n_99, n_122, n_255, n_300, n_432, n_600, n_900, n_999, n_1000, n_1291, n_1399, n_2798, n_11192, n_65536, n_65537, n_99999999, n_1000000, nI_add, pk_mul, q_le, q_lt, q_eq, q_cl, q_gi, q_gz, q_sub, q_div, q_dm, d_dm, q_m1, q_mn, q_nm, q_mlt, q_ltm, q_mle, q_lem, q_mm, Option.bind_some, if_true, if_false, Nat.add_zero, ite_self, q_us, q_un, decide_true, decide_false, Bool.false_eq_true, eq_self, and_self, and_true, true_and, and_false, false_and, or_true, true_or, or_false, false_or, d_ltT, d_ltF, d_leT, d_leF, d_eqT, d_eqF, f_X6_set, e_put]
theorem e_firstL {N n : Nat} {op os : Nat → Int32} (hn : n ≤ 36) : ∀ (k i j : Nat) (p s : Nat → Int32), i + k + 1 = n → k < j → (∀ r, r < i → p r = op (r + 1) ∧ s r = os (r + 1)) → (∀ r, i ≤ r → p r = op r ∧ s r = os r) → ∃ p' s', f_X6_removeFirst_L2 N j (nI (i + 1)) (nI n) p s = some (nI (n - 1), p', s') ∧ ∀ r, r < n - 1 → p' r = op (r + 1) ∧ s' r = os (r + 1) := by
  intro k
  induction k with
  | zero =>
    intro i j p s h1 h2 h3 h4
    obtain ⟨j, rfl⟩ : ∃ t, j = t + 1 := ⟨j - 1, by omega⟩
    refine ⟨p, s, ?_, fun r hr => h3 r (by omega)⟩
    by_cases hz : n - 1 = 0
    · simp (disch := omega) only [n_0, n_1, n_2, n_3, n_4, n_5, n_6, n_7, n_8, n_9, n_10, n_12, n_13, n_15, n_20, n_24, n_27, n_31, n_32, n_33, n_36, n_44, n_48, n_50, n_57, n_58, n_59, n_72, n_74, n_75, n_85, n_91, n_96, n_97, n_99, n_122, n_255, n_300, n_432, n_600, n_900, n_999, n_1000, n_1291, n_1399, n_2798, n_11192, n_65536, n_65537, n_99999999, n_1000000, nI_add, pk_mul, q_le, q_lt, q_eq, q_cl, q_gi, q_gz, q_sub, q_div, q_dm, d_dm, q_m1, q_mn, q_nm, q_mlt, q_ltm, q_mle, q_lem, q_mm, Option.bind_some, if_true, if_false, Nat.add_zero, ite_self, q_us, q_un, decide_true, decide_false, Bool.false_eq_true, eq_self, and_self, and_true, true_and, and_false, false_and, or_true, true_or, or_false, false_or, d_ltT, d_ltF, d_leT, d_leF, d_eqT, d_eqF, f_X6_removeFirst_L2, f_X6_removeFirst_L2_F, hz]
    · simp (disch := omega) only [n_0, n_1, n_2, n_3, n_4, n_5, n_6, n_7, n_8, n_9, n_10, n_12, n_13, n_15, n_20, n_24, n_27, n_31, n_32, n_33, n_36, n_44, n_48, n_50, n_57, n_58, n_59, n_72, n_74, n_75, n_85, n_91, n_96, n_97, n_99, n_122, n_255, n_300, n_432, n_600, n_900, n_999, n_1000, n_1291, n_1399, n_2798, n_11192, n_65536, n_65537, n_99999999, n_1000000, nI_add, pk_mul, q_le, q_lt, q_eq, q_cl, q_gi, q_gz, q_sub, q_div, q_dm, d_dm, q_m1, q_mn, q_nm, q_mlt, q_ltm, q_mle, q_lem, q_mm, Option.bind_some, if_true, if_false, Nat.add_zero, ite_self, q_us, q_un, decide_true, decide_false, Bool.false_eq_true, eq_self, and_self, and_true, true_and, and_false, false_and, or_true, true_or, or_false, false_or, d_ltT, d_ltF, d_leT, d_leF, d_eqT, d_eqF, f_X6_removeFirst_L2, f_X6_removeFirst_L2_F]
  | succ k ih =>
    intro i j p s h1 h2 h3 h4
    obtain ⟨j, rfl⟩ : ∃ t, j = t + 1 := ⟨j - 1, by omega⟩
    obtain ⟨a1, a2⟩ := h4 (i + 1) (by omega)
    obtain ⟨p', s', e1, e2⟩ := ih (i + 1) j (upd p i (op (i + 1))) (upd s i (os (i + 1))) (by omega) (by omega)
      (fun r hr => by
        by_cases hri : r = i
        · subst hri
          exact ⟨q_us rfl, q_us rfl⟩
        · rw [q_un hri, q_un hri]
          exact h3 r (by omega))
      (fun r hr => by
        rw [q_un (by omega), q_un (by omega)]
        exact h4 r (by omega))
    refine ⟨p', s', ?_, e2⟩
    simp (disch := omega) only [n_0, n_1, n_2, n_3, n_4, n_5, n_6, n_7, n_8, n_9, n_10, n_12, n_13, n_15, n_20, n_24, n_27, n_31, n_32, n_33, n_36, n_44, n_48, n_50, n_57, n_58, n_59, n_72, n_74, n_75, n_85, n_91, n_96, n_97, n_99, n_122, n_255, n_300, n_432, n_600, n_900, n_999, n_1000, n_1291, n_1399, n_2798, n_11192, n_65536, n_65537, n_99999999, n_1000000, nI_add, pk_mul, q_le, q_lt, q_eq, q_cl, q_gi, q_gz, q_sub, q_div, q_dm, d_dm, q_m1, q_mn, q_nm, q_mlt, q_ltm, q_mle, q_lem, q_mm, Option.bind_some, if_true, if_false, Nat.add_zero, ite_self, q_us, q_un, decide_true, decide_false, Bool.false_eq_true, eq_self, and_self, and_true, true_and, and_false, false_and, or_true, true_or, or_false, false_or, d_ltT, d_ltF, d_leT, d_leF, d_eqT, d_eqF, f_X6_removeFirst_L2, f_X6_removeFirst_L2_F, e_at, e_set, Nat.add_sub_cancel, a1, a2]
    exact e1
theorem e_first {N n : Nat} {op os : Nat → Int32} (hN : 1000 < N) (h0 : 0 < n) (hn : n ≤ 36) : ∃ p' s', f_X6_removeFirst N (nI n) op os = some (nI (n - 1), p', s') ∧ ∀ r, r < n - 1 → p' r = op (r + 1) ∧ s' r = os (r + 1) := e_firstL hn (n - 1) 0 N op os (by omega) (by omega) (fun r hr => by omega) (fun r hr => ⟨rfl, rfl⟩)
/-- a row with one more in it -/
def insF {α : Type} (pos : Nat) (f : Nat → α) (v : α) (r : Nat) : α := if r < pos then f r else if r = pos then v else f (r - 1)
theorem insF_lt {α : Type} {pos r : Nat} {f : Nat → α} {v : α} (h : r < pos) : insF pos f v r = f r := if_pos h
theorem insF_eq {α : Type} {pos r : Nat} {f : Nat → α} {v : α} (h : r = pos) : insF pos f v r = v := by
  unfold insF
  rw [if_neg (by omega), if_pos h]
theorem insF_gt {α : Type} {pos r : Nat} {f : Nat → α} {v : α} (h : pos < r) : insF pos f v r = f (r - 1) := by
  unfold insF
  rw [if_neg (by omega), if_neg (by omega)]
/-- whether a new offence goes before that of rank r; its place -/
def gBf (g : Nat → Nat) (q s r : Nat) : Bool := decide (oS g r < s ∨ oS g r = s ∧ q < oQ g r)
def gPos (g : Nat → Nat) (q s : Nat) : Nat → Nat
  | 0 => 0
  | l + 1 => if gBf g q s l = true then gPos g q s l else l + 1
theorem gPos_le {g : Nat → Nat} {q s l : Nat} : gPos g q s l ≤ l := by
  induction l with
  | zero => exact Nat.le_refl _
  | succ l ih =>
    unfold gPos
    split <;> omega
theorem e_before2 {g : Nat → Nat} {op os : Nat → Int32} {q s r : Nat} (hr : r < 36) (hs : s < 2147483648) (hq : q < 36) (h1 : op r = nI (oQ g r)) (h2 : os r = nI (oS g r)) (h3 : oQ g r < 36) (h4 : oS g r < 2147483648) : f_X6_goesBefore op os (nI q) (nI s) (nI r) = some (bI (gBf g q s r)) := by
  unfold gBf
  by_cases c1 : oS g r < s
  · simp (disch := omega) only [n_0, n_1, n_2, n_3, n_4, n_5, n_6, n_7, n_8, n_9, n_10, n_12, n_13, n_15, n_20, n_24, n_27, n_31, n_32, n_33, n_36, n_44, n_48, n_50, n_57, n_58, n_59, n_72, n_74, n_75, n_85, n_91, n_96, n_97, n_99, n_122, n_255, n_300, n_432, n_600, n_900, n_999, n_1000, n_1291, n_1399, n_2798, n_11192, n_65536, n_65537, n_99999999, n_1000000, nI_add, pk_mul, q_le, q_lt, q_eq, q_cl, q_gi, q_gz, q_sub, q_div, q_dm, d_dm, q_m1, q_mn, q_nm, q_mlt, q_ltm, q_mle, q_lem, q_mm, Option.bind_some, if_true, if_false, Nat.add_zero, ite_self, q_us, q_un, decide_true, decide_false, Bool.false_eq_true, eq_self, and_self, and_true, true_and, and_false, false_and, or_true, true_or, or_false, false_or, d_ltT, d_ltF, d_leT, d_leF, d_eqT, d_eqF, f_X6_goesBefore, e_at, h1, h2]
    simp [bI, c1]
  · by_cases c2 : s = oS g r
    · by_cases c3 : q < oQ g r
      · simp (disch := omega) only [n_0, n_1, n_2, n_3, n_4, n_5, n_6, n_7, n_8, n_9, n_10, n_12, n_13, n_15, n_20, n_24, n_27, n_31, n_32, n_33, n_36, n_44, n_48, n_50, n_57, n_58, n_59, n_72, n_74, n_75, n_85, n_91, n_96, n_97, n_99, n_122, n_255, n_300, n_432, n_600, n_900, n_999, n_1000, n_1291, n_1399, n_2798, n_11192, n_65536, n_65537, n_99999999, n_1000000, nI_add, pk_mul, q_le, q_lt, q_eq, q_cl, q_gi, q_gz, q_sub, q_div, q_dm, d_dm, q_m1, q_mn, q_nm, q_mlt, q_ltm, q_mle, q_lem, q_mm, Option.bind_some, if_true, if_false, Nat.add_zero, ite_self, q_us, q_un, decide_true, decide_false, Bool.false_eq_true, eq_self, and_self, and_true, true_and, and_false, false_and, or_true, true_or, or_false, false_or, d_ltT, d_ltF, d_leT, d_leF, d_eqT, d_eqF, f_X6_goesBefore, e_at, h1, h2]
        simp [bI, c2, c3]
      · simp (disch := omega) only [n_0, n_1, n_2, n_3, n_4, n_5, n_6, n_7, n_8, n_9, n_10, n_12, n_13, n_15, n_20, n_24, n_27, n_31, n_32, n_33, n_36, n_44, n_48, n_50, n_57, n_58, n_59, n_72, n_74, n_75, n_85, n_91, n_96, n_97, n_99, n_122, n_255, n_300, n_432, n_600, n_900, n_999, n_1000, n_1291, n_1399, n_2798, n_11192, n_65536, n_65537, n_99999999, n_1000000, nI_add, pk_mul, q_le, q_lt, q_eq, q_cl, q_gi, q_gz, q_sub, q_div, q_dm, d_dm, q_m1, q_mn, q_nm, q_mlt, q_ltm, q_mle, q_lem, q_mm, Option.bind_some, if_true, if_false, Nat.add_zero, ite_self, q_us, q_un, decide_true, decide_false, Bool.false_eq_true, eq_self, and_self, and_true, true_and, and_false, false_and, or_true, true_or, or_false, false_or, d_ltT, d_ltF, d_leT, d_leF, d_eqT, d_eqF, f_X6_goesBefore, e_at, h1, h2]
        simp [bI, c2, c3]
    · simp (disch := omega) only [n_0, n_1, n_2, n_3, n_4, n_5, n_6, n_7, n_8, n_9, n_10, n_12, n_13, n_15, n_20, n_24, n_27, n_31, n_32, n_33, n_36, n_44, n_48, n_50, n_57, n_58, n_59, n_72, n_74, n_75, n_85, n_91, n_96, n_97, n_99, n_122, n_255, n_300, n_432, n_600, n_900, n_999, n_1000, n_1291, n_1399, n_2798, n_11192, n_65536, n_65537, n_99999999, n_1000000, nI_add, pk_mul, q_le, q_lt, q_eq, q_cl, q_gi, q_gz, q_sub, q_div, q_dm, d_dm, q_m1, q_mn, q_nm, q_mlt, q_ltm, q_mle, q_lem, q_mm, Option.bind_some, if_true, if_false, Nat.add_zero, ite_self, q_us, q_un, decide_true, decide_false, Bool.false_eq_true, eq_self, and_self, and_true, true_and, and_false, false_and, or_true, true_or, or_false, false_or, d_ltT, d_ltF, d_leT, d_leF, d_eqT, d_eqF, f_X6_goesBefore, e_at, h1, h2]
      simp [bI, c1, show ¬ oS g r = s from fun e => c2 e.symm]
theorem e_addL {N : Nat} {g : Nat → Nat} {op os : Nat → Int32} {q s : Nat} (hB : okB g) (hO : okO g) (hQ : QR g op os) (hn : g 6 < 36) (hq : q < 36) (hs : s < 2147483648) : ∀ (l j : Nat) (p t : Nat → Int32), l ≤ g 6 → l < j → (∀ r, r < l → p r = op r ∧ t r = os r) → (∀ r, l < r → r ≤ g 6 → p r = op (r - 1) ∧ t r = os (r - 1)) → ∃ p' t', f_X6_add_L15 N j (nI q) (nI s) (nI l) (nI (g 6)) p t = some (nI (g 6 + 1), p', t') ∧ ∀ r, r ≤ g 6 → p' r = insF (gPos g q s l) op (nI q) r ∧ t' r = insF (gPos g q s l) os (nI s) r := by
  intro l
  induction l with
  | zero =>
    intro j p t h1 h2 h3 h4
    obtain ⟨j, rfl⟩ : ∃ t, j = t + 1 := ⟨j - 1, by omega⟩
    refine ⟨upd p 0 (nI q), upd t 0 (nI s), ?_, fun r hr => ?_⟩
    · simp (disch := omega) only [n_0, n_1, n_2, n_3, n_4, n_5, n_6, n_7, n_8, n_9, n_10, n_12, n_13, n_15, n_20, n_24, n_27, n_31, n_32, n_33, n_36, n_44, n_48, n_50, n_57, n_58, n_59, n_72, n_74, n_75, n_85, n_91, n_96, n_97, n_99, n_122, n_255, n_300, n_432, n_600, n_900, n_999, n_1000, n_1291, n_1399, n_2798, n_11192, n_65536, n_65537, n_99999999, n_1000000, nI_add, pk_mul, q_le, q_lt, q_eq, q_cl, q_gi, q_gz, q_sub, q_div, q_dm, d_dm, q_m1, q_mn, q_nm, q_mlt, q_ltm, q_mle, q_lem, q_mm, Option.bind_some, if_true, if_false, Nat.add_zero, ite_self, q_us, q_un, decide_true, decide_false, Bool.false_eq_true, eq_self, and_self, and_true, true_and, and_false, false_and, or_true, true_or, or_false, false_or, d_ltT, d_ltF, d_leT, d_leF, d_eqT, d_eqF, f_X6_add_L15, f_X6_add_L15_F, f_X6_add_L62, e_set]
    · rw [show gPos g q s 0 = 0 from rfl]
      by_cases hz : r = 0
      · rw [q_us hz, q_us hz, insF_eq hz, insF_eq hz]
        exact ⟨rfl, rfl⟩
      · rw [q_un hz, q_un hz, insF_gt (by omega), insF_gt (by omega)]
        exact h4 r (by omega) hr
  | succ l ih =>
    intro j p t h1 h2 h3 h4
    obtain ⟨j, rfl⟩ : ∃ t, j = t + 1 := ⟨j - 1, by omega⟩
    obtain ⟨a1, a2⟩ := h3 l (by omega)
    obtain ⟨c1, c2⟩ := hQ l (by omega)
    have hb := o_bd hB hO (show l < g 6 by omega)
    have eb := e_before2 (g := g) (op := p) (os := t) (q := q) (s := s) (r := l) (by omega) hs hq (a1.trans c1) (a2.trans c2) hb.1 (by omega)
    unfold gPos
    cases hc : gBf g q s l
    · rw [hc] at eb
      refine ⟨upd p (l + 1) (nI q), upd t (l + 1) (nI s), ?_, fun r hr => ?_⟩
      · simp (disch := omega) only [n_0, n_1, n_2, n_3, n_4, n_5, n_6, n_7, n_8, n_9, n_10, n_12, n_13, n_15, n_20, n_24, n_27, n_31, n_32, n_33, n_36, n_44, n_48, n_50, n_57, n_58, n_59, n_72, n_74, n_75, n_85, n_91, n_96, n_97, n_99, n_122, n_255, n_300, n_432, n_600, n_900, n_999, n_1000, n_1291, n_1399, n_2798, n_11192, n_65536, n_65537, n_99999999, n_1000000, nI_add, pk_mul, q_le, q_lt, q_eq, q_cl, q_gi, q_gz, q_sub, q_div, q_dm, d_dm, q_m1, q_mn, q_nm, q_mlt, q_ltm, q_mle, q_lem, q_mm, Option.bind_some, if_true, if_false, Nat.add_zero, ite_self, q_us, q_un, decide_true, decide_false, Bool.false_eq_true, eq_self, and_self, and_true, true_and, and_false, false_and, or_true, true_or, or_false, false_or, d_ltT, d_ltF, d_leT, d_leF, d_eqT, d_eqF, f_X6_add_L15, f_X6_add_L15_F, f_X6_add_L62, e_set, Nat.add_sub_cancel, eb, q_b0]
      · rw [if_neg (by simp)]
        by_cases hz : r = l + 1
        · rw [q_us hz, q_us hz, insF_eq hz, insF_eq hz]
          exact ⟨rfl, rfl⟩
        · rw [q_un hz, q_un hz]
          by_cases hl : r < l + 1
          · rw [insF_lt hl, insF_lt hl]
            exact h3 r hl
          · rw [insF_gt (by omega), insF_gt (by omega)]
            exact h4 r (by omega) hr
    · rw [hc] at eb
      obtain ⟨p', t', e1, e2⟩ := ih j (upd p (l + 1) (p l)) (upd t (l + 1) (t l)) (by omega) (by omega)
        (fun r hr => by
          rw [q_un (by omega), q_un (by omega)]
          exact h3 r (by omega))
        (fun r hr1 hr2 => by
          by_cases hz : r = l + 1
          · subst hz
            rw [q_us rfl, q_us rfl, Nat.add_sub_cancel]
            exact ⟨a1, a2⟩
          · rw [q_un hz, q_un hz]
            exact h4 r (by omega) hr2)
      refine ⟨p', t', ?_, ?_⟩
      · simp (disch := omega) only [n_0, n_1, n_2, n_3, n_4, n_5, n_6, n_7, n_8, n_9, n_10, n_12, n_13, n_15, n_20, n_24, n_27, n_31, n_32, n_33, n_36, n_44, n_48, n_50, n_57, n_58, n_59, n_72, n_74, n_75, n_85, n_91, n_96, n_97, n_99, n_122, n_255, n_300, n_432, n_600, n_900, n_999, n_1000, n_1291, n_1399, n_2798, n_11192, n_65536, n_65537, n_99999999, n_1000000, nI_add, pk_mul, q_le, q_lt, q_eq, q_cl, q_gi, q_gz, q_sub, q_div, q_dm, d_dm, q_m1, q_mn, q_nm, q_mlt, q_ltm, q_mle, q_lem, q_mm, Option.bind_some, if_true, if_false, Nat.add_zero, ite_self, q_us, q_un, decide_true, decide_false, Bool.false_eq_true, eq_self, and_self, and_true, true_and, and_false, false_and, or_true, true_or, or_false, false_or, d_ltT, d_ltF, d_leT, d_leF, d_eqT, d_eqF, f_X6_add_L15, f_X6_add_L15_F, f_X6_add_L62, e_set, e_at, Nat.add_sub_cancel, eb, q_b0, Bool.true_eq_false]
        exact e1
      · rw [if_pos rfl]
        exact e2
theorem e_addO {N : Nat} {g : Nat → Nat} {op os : Nat → Int32} {q s : Nat} (hN : 1000 < N) (hB : okB g) (hO : okO g) (hQ : QR g op os) (hn : g 6 < 36) (hq : q < 36) (hs : s < 2147483648) : ∃ p' t', f_X6_add N (nI (g 6)) op os (nI q) (nI s) = some (nI (g 6 + 1), p', t') ∧ ∀ r, r ≤ g 6 → p' r = insF (gPos g q s (g 6)) op (nI q) r ∧ t' r = insF (gPos g q s (g 6)) os (nI s) r := by
  obtain ⟨p', t', e1, e2⟩ := e_addL (N := N) hB hO hQ hn hq hs (g 6) N op os (Nat.le_refl _) (by omega) (fun r hr => ⟨rfl, rfl⟩) (fun r h1 h2 => by omega)
  refine ⟨p', t', ?_, e2⟩
  simp (disch := omega) only [n_0, n_1, n_2, n_3, n_4, n_5, n_6, n_7, n_8, n_9, n_10, n_12, n_13, n_15, n_20, n_24, n_27, n_31, n_32, n_33, n_36, n_44, n_48, n_50, n_57, n_58, n_59, n_72, n_74, n_75, n_85, n_91, n_96, n_97, n_99, n_122, n_255, n_300, n_432, n_600, n_900, n_999, n_1000, n_1291, n_1399, n_2798, n_11192, n_65536, n_65537, n_99999999, n_1000000, nI_add, pk_mul, q_le, q_lt, q_eq, q_cl, q_gi, q_gz, q_sub, q_div, q_dm, d_dm, q_m1, q_mn, q_nm, q_mlt, q_ltm, q_mle, q_lem, q_mm, Option.bind_some, if_true, if_false, Nat.add_zero, ite_self, q_us, q_un, decide_true, decide_false, Bool.false_eq_true, eq_self, and_self, and_true, true_and, and_false, false_and, or_true, true_or, or_false, false_or, d_ltT, d_ltF, d_leT, d_leF, d_eqT, d_eqF, f_X6_add]
  exact e1
/-- the row with the new offence -/
def gLay (g : Nat → Nat) (q s pos : Nat) : Nat → Nat := fun k => if k = 6 then g 6 + 1 else if k < 1291 + 3 * pos ∨ 1291 + 3 * (g 6 + 1) ≤ k then g k else if k = 1291 + 3 * pos then q / 6 else if k = 1291 + 3 * pos + 1 then q % 6 else if k = 1291 + 3 * pos + 2 then s else g (k - 3)
theorem gLay_lo {g : Nat → Nat} {q s pos k : Nat} (h : k ≠ 6) (hk : k < 1291) : gLay g q s pos k = g k := by
  unfold gLay
  rw [if_neg h, if_pos (Or.inl (by omega))]
theorem gLay_6 {g : Nat → Nat} {q s pos : Nat} : gLay g q s pos 6 = g 6 + 1 := if_pos rfl
theorem gLay_row {g : Nat → Nat} {q s pos : Nat} (hp : pos ≤ g 6) (c v : Nat) (hc : c < 3) (hv : (c = 0 → v = q / 6) ∧ (c = 1 → v = q % 6) ∧ (c = 2 → v = s)) (r : Nat) (hr : r ≤ g 6) : gLay g q s pos (1291 + 3 * r + c) = insF pos (fun r => g (1291 + 3 * r + c)) v r := by
  unfold gLay
  rw [if_neg (by omega)]
  by_cases h1 : r < pos
  · rw [if_pos (Or.inl (by omega)), insF_lt h1]
  · rw [if_neg (by omega)]
    by_cases h2 : r = pos
    · rw [insF_eq h2]
      subst h2
      rcases (show c = 0 ∨ c = 1 ∨ c = 2 by omega) with e | e | e
      · rw [if_pos (by omega), hv.1 e]
      · rw [if_neg (by omega), if_pos (by omega), hv.2.1 e]
      · rw [if_neg (by omega), if_neg (by omega), if_pos (by omega), hv.2.2 e]
    · rw [if_neg (by omega), if_neg (by omega), if_neg (by omega), insF_gt (by omega)]
      show g _ = g _
      congr 1
      omega
theorem gLay_o {g : Nat → Nat} {q s pos : Nat} (hp : pos ≤ g 6) (r : Nat) (hr : r ≤ g 6) : oP (gLay g q s pos) r = insF pos (oP g) (q / 6) r ∧ oD (gLay g q s pos) r = insF pos (oD g) (q % 6) r ∧ oS (gLay g q s pos) r = insF pos (oS g) s r ∧ oQ (gLay g q s pos) r = insF pos (oQ g) q r := by
  have k0 : oP (gLay g q s pos) r = insF pos (oP g) (q / 6) r := gLay_row (q := q) (s := s) hp 0 (q / 6) (by omega) ⟨fun _ => rfl, fun h => by omega, fun h => by omega⟩ r hr
  have k1 : oD (gLay g q s pos) r = insF pos (oD g) (q % 6) r := gLay_row (q := q) (s := s) hp 1 (q % 6) (by omega) ⟨fun h => by omega, fun _ => rfl, fun h => by omega⟩ r hr
  have k2 : oS (gLay g q s pos) r = insF pos (oS g) s r := gLay_row (q := q) (s := s) hp 2 s (by omega) ⟨fun h => by omega, fun h => by omega, fun _ => rfl⟩ r hr
  refine ⟨k0, k1, k2, ?_⟩
  show 6 * oP (gLay g q s pos) r + oD (gLay g q s pos) r = _
  rw [k0, k1]
  rcases Nat.lt_trichotomy r pos with h | h | h
  · rw [insF_lt h, insF_lt h, insF_lt h]
    rfl
  · rw [insF_eq h, insF_eq h, insF_eq h]
    omega
  · rw [insF_gt h, insF_gt h, insF_gt h]
    rfl
theorem gLay_Q {g : Nat → Nat} {op os p' t' : Nat → Int32} {q s pos : Nat} (hp : pos ≤ g 6) (hQ : QR g op os) (h : ∀ r, r ≤ g 6 → p' r = insF pos op (nI q) r ∧ t' r = insF pos os (nI s) r) : QR (gLay g q s pos) p' t' := by
  intro r hr
  rw [gLay_6] at hr
  obtain ⟨h1, h2⟩ := h r (by omega)
  obtain ⟨-, -, k2, k3⟩ := gLay_o (q := q) (s := s) hp r (by omega)
  rw [h1, h2, k2, k3]
  rcases Nat.lt_trichotomy r pos with h | h | h
  · rw [insF_lt h, insF_lt h, insF_lt h, insF_lt h]
    exact hQ r (by omega)
  · rw [insF_eq h, insF_eq h, insF_eq h, insF_eq h]
    exact ⟨rfl, rfl⟩
  · rw [insF_gt h, insF_gt h, insF_gt h, insF_gt h]
    exact hQ (r - 1) (by omega)
theorem gHas_f {g : Nat → Nat} {q : Nat} (h : gHas g q = false) : ∀ r, r < g 6 → oQ g r ≠ q := fun r hr e => by
  have := anyF_f h r (Nat.zero_le _) (by omega)
  simp [e] at this
theorem gLay_okO {g : Nat → Nat} {q s pos : Nat} (hp : pos ≤ g 6) (hO : okO g) (hh : gHas g q = false) (h1 : q / 6 < g 4) (h2 : q % 6 < g 3) (h3 : s < 214000000) : okO (gLay g q s pos) := by
  have hx := gHas_f hh
  refine ⟨fun r hr => ?_, fun r r' hr hr' e => ?_⟩
  · rw [gLay_6] at hr
    obtain ⟨k0, k1, k2, k3⟩ := gLay_o (q := q) (s := s) hp r (by omega)
    rw [k0, k1, k2, gLay_lo (by omega) (by omega), gLay_lo (by omega) (by omega)]
    rcases Nat.lt_trichotomy r pos with h | h | h
    · rw [insF_lt h, insF_lt h, insF_lt h]
      exact hO.1 r (by omega)
    · rw [insF_eq h, insF_eq h, insF_eq h]
      exact ⟨h1, h2, h3⟩
    · rw [insF_gt h, insF_gt h, insF_gt h]
      exact hO.1 (r - 1) (by omega)
  · rw [gLay_6] at hr hr'
    obtain ⟨-, -, -, k3⟩ := gLay_o (q := q) (s := s) hp r (by omega)
    obtain ⟨-, -, -, k4⟩ := gLay_o (q := q) (s := s) hp r' (by omega)
    rw [k3, k4] at e
    rcases Nat.lt_trichotomy r pos with c | c | c
    · rw [insF_lt c] at e
      rcases Nat.lt_trichotomy r' pos with d | d | d
      · rw [insF_lt d] at e
        exact hO.2 r r' (by omega) (by omega) e
      · rw [insF_eq d] at e
        exact absurd e (hx r (by omega))
      · rw [insF_gt d] at e
        have := hO.2 r (r' - 1) (by omega) (by omega) e
        omega
    · rw [insF_eq c] at e
      rcases Nat.lt_trichotomy r' pos with d | d | d
      · rw [insF_lt d] at e
        exact absurd e.symm (hx r' (by omega))
      · omega
      · rw [insF_gt d] at e
        exact absurd e.symm (hx (r' - 1) (by omega))
    · rw [insF_gt c] at e
      rcases Nat.lt_trichotomy r' pos with d | d | d
      · rw [insF_lt d] at e
        have := hO.2 (r - 1) r' (by omega) (by omega) e
        omega
      · rw [insF_eq d] at e
        exact absurd e (hx (r - 1) (by omega))
      · rw [insF_gt d] at e
        have := hO.2 (r - 1) (r' - 1) (by omega) (by omega) e
        omega
/-- numbers below n that are all different: there are at most n of them -/
theorem pig {n : Nat} : ∀ (m : Nat) (f : Nat → Nat), (∀ i, i < m → f i < n) → (∀ i j, i < m → j < m → f i = f j → i = j) → m ≤ n := by
  induction n with
  | zero =>
    intro m f h1 h2
    rcases Nat.eq_zero_or_pos m with h | h
    · omega
    · have := h1 0 h
      omega
  | succ n ih =>
    intro m f h1 h2
    by_cases hx : ∃ i, i < m ∧ f i = n
    · obtain ⟨i, hi, he⟩ := hx
      have := ih (m - 1) (fun k => f (if k < i then k else k + 1)) (fun k hk => by
        have h3 : (if k < i then k else k + 1) < m := by split <;> omega
        have h4 : (if k < i then k else k + 1) ≠ i := by split <;> omega
        have h5 := h1 _ h3
        have h6 : f (if k < i then k else k + 1) ≠ n := fun e => h4 (h2 _ _ h3 hi (e.trans he.symm))
        show f (if k < i then k else k + 1) < n
        omega) (fun a b ha hb e => by
        have h3 : (if a < i then a else a + 1) < m := by split <;> omega
        have h4 : (if b < i then b else b + 1) < m := by split <;> omega
        have h5 := h2 _ _ h3 h4 e
        by_cases c1 : a < i
        · rw [if_pos c1] at h5
          by_cases c2 : b < i
          · rw [if_pos c2] at h5; exact h5
          · rw [if_neg c2] at h5; omega
        · rw [if_neg c1] at h5
          by_cases c2 : b < i
          · rw [if_pos c2] at h5; omega
          · rw [if_neg c2] at h5; omega)
      omega
    · have := ih m f (fun i hi => by
        have h3 := h1 i hi
        have h4 : f i ≠ n := fun e => hx ⟨i, hi, e⟩
        omega) h2
      omega
/-- all of n numbers below n that are different: each is there -/
theorem pig_all {n : Nat} (f : Nat → Nat) (h1 : ∀ i, i < n → f i < n) (h2 : ∀ i j, i < n → j < n → f i = f j → i = j) (v : Nat) (hv : v < n) : ∃ i, i < n ∧ f i = v := by
  refine Classical.byContradiction (fun hx => ?_)
  have := pig (n := n) (n + 1) (fun k => if k < n then f k else v) (fun k hk => by
    show (if k < n then f k else v) < n
    by_cases c : k < n
    · rw [if_pos c]; exact h1 k c
    · rw [if_neg c]; exact hv) (fun a b ha hb e => by
    have e : (if a < n then f a else v) = (if b < n then f b else v) := e
    by_cases c1 : a < n
    · rw [if_pos c1] at e
      by_cases c2 : b < n
      · rw [if_pos c2] at e; exact h2 a b c1 c2 e
      · rw [if_neg c2] at e; exact absurd ⟨a, c1, e⟩ hx
    · rw [if_neg c1] at e
      by_cases c2 : b < n
      · rw [if_pos c2] at e; exact absurd ⟨b, c2, e.symm⟩ hx
      · omega)
  omega
/-- a queue that is full has every pair -/
theorem full_has {g : Nat → Nat} {q : Nat} (hB : okB g) (hO : okO g) (hq : q < 36) (hh : gHas g q = false) : g 6 < 36 := by
  have h6 := b_6 hB
  refine Nat.lt_of_not_le (fun hx => ?_)
  have e : g 6 = 36 := by omega
  obtain ⟨r, hr, he⟩ := pig_all (n := 36) (oQ g) (fun i hi => (o_bd hB hO (by omega)).1) (fun i j hi hj => hO.2 i j (by omega) (by omega)) q hq
  exact gHas_f hh r (by omega) he
/-! what is kept of the places of a row: their number, their new places -/
def cK (kp : Nat → Bool) (n : Nat) : Nat := sumTo n (fun k => if kp k = true then 1 else 0)
theorem cK_t {kp : Nat → Bool} {n : Nat} (h : kp n = true) : cK kp (n + 1) = cK kp n + 1 := by
  unfold cK
  rw [sumTo_s, if_pos h]
theorem cK_f {kp : Nat → Bool} {n : Nat} (h : kp n = false) : cK kp (n + 1) = cK kp n := by
  unfold cK
  rw [sumTo_s, if_neg (by rw [h]; exact Bool.false_ne_true), Nat.add_zero]
theorem cK_le {kp : Nat → Bool} {n : Nat} : cK kp n ≤ n := by
  have h : cK kp n ≤ n * 1 := sumTo_le (fun k hk => by split <;> omega)
  omega
theorem cK_mono {kp : Nat → Bool} {m n : Nat} (h : m ≤ n) : cK kp m ≤ cK kp n := sumTo_mono h
theorem cK_lt {kp : Nat → Bool} {m n : Nat} (hk : kp m = true) (h : m < n) : cK kp m < cK kp n := by
  have h1 := cK_mono (kp := kp) (show m + 1 ≤ n by omega)
  rw [cK_t hk] at h1
  omega
theorem cK_surj {kp : Nat → Bool} {n k : Nat} (h : k < cK kp n) : ∃ j, j < n ∧ kp j = true ∧ cK kp j = k := by
  induction n with
  | zero => exact absurd h (Nat.not_lt_zero _)
  | succ n ih =>
    cases hk : kp n
    · rw [cK_f hk] at h
      obtain ⟨j, h1, h2, h3⟩ := ih h
      exact ⟨j, by omega, h2, h3⟩
    · rw [cK_t hk] at h
      by_cases hc : k < cK kp n
      · obtain ⟨j, h1, h2, h3⟩ := ih hc
        exact ⟨j, by omega, h2, h3⟩
      · exact ⟨n, by omega, hk, by omega⟩
theorem cK_sum {kp : Nat → Bool} {h h' : Nat → Nat} {n : Nat} (hh : ∀ j, j < n → kp j = true → h' (cK kp j) = h j) : sumTo (cK kp n) h' = sumTo n (fun j => if kp j = true then h j else 0) := by
  induction n with
  | zero => rfl
  | succ n ih =>
    have e := ih (fun j hj => hh j (by omega))
    cases hk : kp n
    · rw [cK_f hk, sumTo_s, e, if_neg (by rw [hk]; exact Bool.false_ne_true), Nat.add_zero]
    · rw [cK_t hk, sumTo_s, sumTo_s, e, if_pos hk, hh n (by omega) hk]
def kpO (g : Nat → Nat) (p r : Nat) : Bool := decide (oP g r ≠ p)
theorem e_allOfL {N : Nat} {g : Nat → Nat} {op os : Nat → Int32} (hB : okB g) (hO : okO g) (hQ : QR g op os) {p : Nat} (hp : p < 6) : ∀ (k i j : Nat) (a b : Nat → Int32), i + k = g 6 → k < j → (∀ r, r < i → kpO g p r = true → a (cK (kpO g p) r) = op r ∧ b (cK (kpO g p) r) = os r) → (∀ r, i ≤ r → a r = op r ∧ b r = os r) → ∃ a' b', f_X6_removeAllOf_L4 N j (nI p) (nI (cK (kpO g p) i)) (nI i) (nI (g 6)) a b = some (nI (g 6 - cK (kpO g p) (g 6)), nI (cK (kpO g p) (g 6)), a', b') ∧ ∀ r, r < g 6 → kpO g p r = true → a' (cK (kpO g p) r) = op r ∧ b' (cK (kpO g p) r) = os r := by
  have h6 := b_6 hB
  intro k
  induction k with
  | zero =>
    intro i j a b h1 h2 h3 h4
    obtain ⟨j, rfl⟩ : ∃ t, j = t + 1 := ⟨j - 1, by omega⟩
    have e : i = g 6 := by omega
    subst e
    have hl := cK_le (kp := kpO g p) (n := g 6)
    refine ⟨a, b, ?_, h3⟩
    simp (disch := omega) only [n_0, n_1, n_2, n_3, n_4, n_5, n_6, n_7, n_8, n_9, n_10, n_12, n_13, n_15, n_20, n_24, n_27, n_31, n_32, n_33, n_36, n_44, n_48, n_50, n_57, n_58, n_59, n_72, n_74, n_75, n_85, n_91, n_96, n_97, n_99, n_122, n_255, n_300, n_432, n_600, n_900, n_999, n_1000, n_1291, n_1399, n_2798, n_11192, n_65536, n_65537, n_99999999, n_1000000, nI_add, pk_mul, q_le, q_lt, q_eq, q_cl, q_gi, q_gz, q_sub, q_div, q_dm, d_dm, q_m1, q_mn, q_nm, q_mlt, q_ltm, q_mle, q_lem, q_mm, Option.bind_some, if_true, if_false, Nat.add_zero, ite_self, q_us, q_un, decide_true, decide_false, Bool.false_eq_true, eq_self, and_self, and_true, true_and, and_false, false_and, or_true, true_or, or_false, false_or, d_ltT, d_ltF, d_leT, d_leF, d_eqT, d_eqF, f_X6_removeAllOf_L4, f_X6_removeAllOf_L4_F]
  | succ k ih =>
    intro i j a b h1 h2 h3 h4
    obtain ⟨j, rfl⟩ : ∃ t, j = t + 1 := ⟨j - 1, by omega⟩
    obtain ⟨a1, a2⟩ := h4 i (by omega)
    obtain ⟨c1, c2⟩ := hQ i (by omega)
    have hb := o_bd hB hO (show i < g 6 by omega)
    have ep := e_playerOf (q := oQ g i) (by omega)
    rw [hb.2.2.1] at ep
    have hl := cK_le (kp := kpO g p) (n := i)
    cases hk : kpO g p i
    · have hpi : oP g i = p := by
        have := of_decide_eq_false hk
        omega
      obtain ⟨a', b', e1, e2⟩ := ih (i + 1) j a b (by omega) (by omega)
        (fun r hr hkr => by
          by_cases hri : r = i
          · subst hri
            rw [hk] at hkr
            cases hkr
          · exact h3 r (by omega) hkr)
        (fun r hr => h4 r (by omega))
      refine ⟨a', b', ?_, e2⟩
      rw [cK_f hk] at e1
      simp (disch := omega) only [n_0, n_1, n_2, n_3, n_4, n_5, n_6, n_7, n_8, n_9, n_10, n_12, n_13, n_15, n_20, n_24, n_27, n_31, n_32, n_33, n_36, n_44, n_48, n_50, n_57, n_58, n_59, n_72, n_74, n_75, n_85, n_91, n_96, n_97, n_99, n_122, n_255, n_300, n_432, n_600, n_900, n_999, n_1000, n_1291, n_1399, n_2798, n_11192, n_65536, n_65537, n_99999999, n_1000000, nI_add, pk_mul, q_le, q_lt, q_eq, q_cl, q_gi, q_gz, q_sub, q_div, q_dm, d_dm, q_m1, q_mn, q_nm, q_mlt, q_ltm, q_mle, q_lem, q_mm, Option.bind_some, if_true, if_false, Nat.add_zero, ite_self, q_us, q_un, decide_true, decide_false, Bool.false_eq_true, eq_self, and_self, and_true, true_and, and_false, false_and, or_true, true_or, or_false, false_or, d_ltT, d_ltF, d_leT, d_leF, d_eqT, d_eqF, f_X6_removeAllOf_L4, f_X6_removeAllOf_L4_F, f_X6_removeAllOf_L51, e_at, a1, c1, ep]
      exact e1
    · have hpi : oP g i ≠ p := of_decide_eq_true hk
      obtain ⟨a', b', e1, e2⟩ := ih (i + 1) j (upd a (cK (kpO g p) i) (op i)) (upd b (cK (kpO g p) i) (os i)) (by omega) (by omega)
        (fun r hr hkr => by
          by_cases hri : r = i
          · subst hri
            rw [q_us rfl, q_us rfl]
            exact ⟨rfl, rfl⟩
          · have := cK_lt hkr (show r < i by omega)
            rw [q_un (by omega), q_un (by omega)]
            exact h3 r (by omega) hkr)
        (fun r hr => by
          rw [q_un (by omega), q_un (by omega)]
          exact h4 r (by omega))
      refine ⟨a', b', ?_, e2⟩
      rw [cK_t hk] at e1
      rw [c1, c2] at e1
      simp (disch := omega) only [n_0, n_1, n_2, n_3, n_4, n_5, n_6, n_7, n_8, n_9, n_10, n_12, n_13, n_15, n_20, n_24, n_27, n_31, n_32, n_33, n_36, n_44, n_48, n_50, n_57, n_58, n_59, n_72, n_74, n_75, n_85, n_91, n_96, n_97, n_99, n_122, n_255, n_300, n_432, n_600, n_900, n_999, n_1000, n_1291, n_1399, n_2798, n_11192, n_65536, n_65537, n_99999999, n_1000000, nI_add, pk_mul, q_le, q_lt, q_eq, q_cl, q_gi, q_gz, q_sub, q_div, q_dm, d_dm, q_m1, q_mn, q_nm, q_mlt, q_ltm, q_mle, q_lem, q_mm, Option.bind_some, if_true, if_false, Nat.add_zero, ite_self, q_us, q_un, decide_true, decide_false, Bool.false_eq_true, eq_self, and_self, and_true, true_and, and_false, false_and, or_true, true_or, or_false, false_or, d_ltT, d_ltF, d_leT, d_leF, d_eqT, d_eqF, f_X6_removeAllOf_L4, f_X6_removeAllOf_L4_F, f_X6_removeAllOf_L51, e_at, e_set, a1, a2, c1, c2, ep]
      exact e1
theorem e_allOf {N : Nat} {g : Nat → Nat} {op os : Nat → Int32} (hN : 1000 < N) (hB : okB g) (hO : okO g) (hQ : QR g op os) {p : Nat} (hp : p < 6) : ∃ a' b', f_X6_removeAllOf N (nI (g 6)) op os (nI p) = some (nI (g 6 - cK (kpO g p) (g 6)), nI (cK (kpO g p) (g 6)), a', b') ∧ ∀ r, r < g 6 → kpO g p r = true → a' (cK (kpO g p) r) = op r ∧ b' (cK (kpO g p) r) = os r := by
  have h6 := b_6 hB
  exact e_allOfL hB hO hQ hp (g 6) 0 N op os (by omega) (by omega) (fun r hr => by omega) (fun r hr => ⟨rfl, rfl⟩)
theorem cK_oby {g : Nat → Nat} {p n : Nat} : cK (kpO g p) n + gOby g p n = n := by
  induction n with
  | zero => rfl
  | succ n ih =>
    have e : gOby g p (n + 1) = gOby g p n + if oP g n = p then 1 else 0 := rfl
    cases hk : kpO g p n
    · have hpi : oP g n = p := by
        have := of_decide_eq_false hk
        omega
      rw [cK_f hk, e, if_pos hpi]
      omega
    · have hpi : oP g n ≠ p := of_decide_eq_true hk
      rw [cK_t hk, e, if_neg hpi]
      omega
