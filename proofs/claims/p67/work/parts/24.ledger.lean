/-! the class's record and its table -/
theorem q_or {a b : Nat} : nI a ||| nI b = nI (a ||| b) := by
  apply Int32.toBitVec_inj.1
  show BitVec.ofNat 32 a ||| BitVec.ofNat 32 b = BitVec.ofNat 32 (a ||| b)
  apply BitVec.eq_of_getLsbD_eq
  intro i hi
  simp [hi]
theorem q_sh5 {n : Nat} (h : n < 2147483648) : nI n >>> (nI 5 &&& nI 31) = nI (n / 32) := pk_shrN h _ 5 (by decide +kernel)
theorem q_sh1 {n : Nat} (h : n < 2147483648) : nI n >>> (nI 1 &&& nI 31) = nI (n / 2) := pk_shrN h _ 1 (by decide +kernel)
theorem q_sl5 {n : Nat} (h : n < 1000000) : nI n <<< (nI 5 &&& nI 31) = nI (n * 32) := pk_shlN _ 5 (by decide +kernel) (by omega)
theorem q_sl1 {n : Nat} (h : n < 1000000) : nI n <<< (nI 1 &&& nI 31) = nI (n * 2) := pk_shlN _ 1 (by decide +kernel) (by omega)
theorem q_an15 {n : Nat} (h : n < 2147483648) : nI n &&& nI 15 = nI (n % 16) := pk_andN (by omega) 4 (by decide +kernel)
theorem q_an1 {n : Nat} (h : n < 2147483648) : nI n &&& nI 1 = nI (n % 2) := pk_andN (by omega) 1 (by decide +kernel)
theorem q_ent {q f b : Nat} (hf : f < 16) (hb : b < 2) : nI (q * 32) ||| nI (f * 2) ||| nI b = nI (32 * q + 2 * f + b) := by
  have e1 := Nat.two_pow_add_eq_or_of_lt (b := f * 2) (i := 5) (by omega) q
  have e2 := Nat.two_pow_add_eq_or_of_lt (b := b) (i := 1) (by omega) (16 * q + f)
  rw [q_or, q_or, Nat.mul_comm q 32, ← e1, show (2 : Nat) ^ 5 * q + f * 2 = 2 ^ 1 * (16 * q + f) by omega, ← e2]
  exact cI (by omega)
theorem t_bd {g : Nat → Nat} (hB : okB g) (hD : okD g) (hT : okT g) {k : Nat} (hk : k < g 5) : tQ g k < 36 ∧ 1 ≤ tF g k ∧ tF g k ≤ 12 ∧ tB g k < 2 := by
  obtain ⟨h1, h2, h3, h4, h5⟩ := hT k hk
  have h6 := (hD _ h2).2.1
  have h7 := b_3 hB
  have h8 := b_4 hB
  unfold tQ
  omega
theorem e_pairIn {g : Nat → Nat} {en : Nat → Int32} (hB : okB g) (hD : okD g) (hT : okT g) (hE : ER g en) {k : Nat} (hk : k < g 5) : f_X4_pairIn en (nI k) = some (nI (tQ g k)) := by
  have h5 := b_5 hB
  obtain ⟨h1, h2, h3, h4⟩ := t_bd hB hD hT hk
  have h := hE k hk
  simp (disch := omega) only [n_0, n_1, n_2, n_3, n_4, n_5, n_6, n_7, n_8, n_9, n_10, n_12, n_13, n_15, n_20, n_24, n_27, n_31, n_32, n_33, n_36, n_44, n_48, n_50, n_57, n_58, n_59, n_72, n_74, n_75, n_85, n_91, n_96, n_97, n_99, n_122, n_255, n_300, n_432, n_600, n_900, n_999, n_1000, n_1291, n_1399, n_2798, n_11192, n_65536, n_65537, n_99999999, n_1000000, nI_add, pk_mul, q_le, q_lt, q_eq, q_cl, q_gi, q_gz, q_sub, q_div, q_dm, d_dm, q_m1, q_mn, q_nm, q_mlt, q_ltm, q_mle, q_lem, q_mm, Option.bind_some, if_true, if_false, Nat.add_zero, ite_self, q_us, q_un, decide_true, decide_false, Bool.false_eq_true, eq_self, and_self, and_true, true_and, and_false, false_and, or_true, true_or, or_false, false_or, d_ltT, d_ltF, d_leT, d_leF, d_eqT, d_eqF, f_X4_pairIn, e_at, h, q_sh5]
  exact eN (by omega)
theorem e_faceIn {g : Nat → Nat} {en : Nat → Int32} (hB : okB g) (hD : okD g) (hT : okT g) (hE : ER g en) {k : Nat} (hk : k < g 5) : f_X4_faceIn en (nI k) = some (nI (tF g k)) := by
  have h5 := b_5 hB
  obtain ⟨h1, h2, h3, h4⟩ := t_bd hB hD hT hk
  have h := hE k hk
  simp (disch := omega) only [n_0, n_1, n_2, n_3, n_4, n_5, n_6, n_7, n_8, n_9, n_10, n_12, n_13, n_15, n_20, n_24, n_27, n_31, n_32, n_33, n_36, n_44, n_48, n_50, n_57, n_58, n_59, n_72, n_74, n_75, n_85, n_91, n_96, n_97, n_99, n_122, n_255, n_300, n_432, n_600, n_900, n_999, n_1000, n_1291, n_1399, n_2798, n_11192, n_65536, n_65537, n_99999999, n_1000000, nI_add, pk_mul, q_le, q_lt, q_eq, q_cl, q_gi, q_gz, q_sub, q_div, q_dm, d_dm, q_m1, q_mn, q_nm, q_mlt, q_ltm, q_mle, q_lem, q_mm, Option.bind_some, if_true, if_false, Nat.add_zero, ite_self, q_us, q_un, decide_true, decide_false, Bool.false_eq_true, eq_self, and_self, and_true, true_and, and_false, false_and, or_true, true_or, or_false, false_or, d_ltT, d_ltF, d_leT, d_leF, d_eqT, d_eqF, f_X4_faceIn, e_at, h, q_sh1, q_an15]
  exact eN (by omega)
theorem e_isMarked {g : Nat → Nat} {en : Nat → Int32} (hB : okB g) (hD : okD g) (hT : okT g) (hE : ER g en) {k : Nat} (hk : k < g 5) : f_X4_isMarked en (nI k) = some (nI (tB g k)) := by
  have h5 := b_5 hB
  obtain ⟨h1, h2, h3, h4⟩ := t_bd hB hD hT hk
  have h := hE k hk
  by_cases hb : tB g k = 1
  · simp (disch := omega) only [n_0, n_1, n_2, n_3, n_4, n_5, n_6, n_7, n_8, n_9, n_10, n_12, n_13, n_15, n_20, n_24, n_27, n_31, n_32, n_33, n_36, n_44, n_48, n_50, n_57, n_58, n_59, n_72, n_74, n_75, n_85, n_91, n_96, n_97, n_99, n_122, n_255, n_300, n_432, n_600, n_900, n_999, n_1000, n_1291, n_1399, n_2798, n_11192, n_65536, n_65537, n_99999999, n_1000000, nI_add, pk_mul, q_le, q_lt, q_eq, q_cl, q_gi, q_gz, q_sub, q_div, q_dm, d_dm, q_m1, q_mn, q_nm, q_mlt, q_ltm, q_mle, q_lem, q_mm, Option.bind_some, if_true, if_false, Nat.add_zero, ite_self, q_us, q_un, decide_true, decide_false, Bool.false_eq_true, eq_self, and_self, and_true, true_and, and_false, false_and, or_true, true_or, or_false, false_or, d_ltT, d_ltF, d_leT, d_leF, d_eqT, d_eqF, f_X4_isMarked, e_at, h, q_an1]
    exact eN (by omega)
  · simp (disch := omega) only [n_0, n_1, n_2, n_3, n_4, n_5, n_6, n_7, n_8, n_9, n_10, n_12, n_13, n_15, n_20, n_24, n_27, n_31, n_32, n_33, n_36, n_44, n_48, n_50, n_57, n_58, n_59, n_72, n_74, n_75, n_85, n_91, n_96, n_97, n_99, n_122, n_255, n_300, n_432, n_600, n_900, n_999, n_1000, n_1291, n_1399, n_2798, n_11192, n_65536, n_65537, n_99999999, n_1000000, nI_add, pk_mul, q_le, q_lt, q_eq, q_cl, q_gi, q_gz, q_sub, q_div, q_dm, d_dm, q_m1, q_mn, q_nm, q_mlt, q_ltm, q_mle, q_lem, q_mm, Option.bind_some, if_true, if_false, Nat.add_zero, ite_self, q_us, q_un, decide_true, decide_false, Bool.false_eq_true, eq_self, and_self, and_true, true_and, and_false, false_and, or_true, true_or, or_false, false_or, d_ltT, d_ltF, d_leT, d_leF, d_eqT, d_eqF, f_X4_isMarked, e_at, h, q_an1]
    exact eN (by omega)
theorem e_pairThrows {N : Nat} {g : Nat → Nat} {fr : Nat → Int32} (hN : 1000 < N) (hB : okB g) (hD : okD g) (hT : okT g) (hF : FR g fr) {q : Nat} (hq : q < 36) : f_X4_pairThrows N fr (nI q) = some (nI (cQ g q)) := by
  have h := e_sum (N := N) (n := 432) (a := 12 * q) (k := 12) (f := fr) (cF g q) (by omega) (by omega) (by omega) (hF q hq)
  rw [cQ_of hB hD hT] at h
  simp (disch := omega) only [n_0, n_1, n_2, n_3, n_4, n_5, n_6, n_7, n_8, n_9, n_10, n_12, n_13, n_15, n_20, n_24, n_27, n_31, n_32, n_33, n_36, n_44, n_48, n_50, n_57, n_58, n_59, n_72, n_74, n_75, n_85, n_91, n_96, n_97, n_99, n_122, n_255, n_300, n_432, n_600, n_900, n_999, n_1000, n_1291, n_1399, n_2798, n_11192, n_65536, n_65537, n_99999999, n_1000000, nI_add, pk_mul, q_le, q_lt, q_eq, q_cl, q_gi, q_gz, q_sub, q_div, q_dm, d_dm, q_m1, q_mn, q_nm, q_mlt, q_ltm, q_mle, q_lem, q_mm, Option.bind_some, if_true, if_false, Nat.add_zero, ite_self, q_us, q_un, decide_true, decide_false, Bool.false_eq_true, eq_self, and_self, and_true, true_and, and_false, false_and, or_true, true_or, or_false, false_or, d_ltT, d_ltF, d_leT, d_leF, d_eqT, d_eqF, f_X4_pairThrows, e_cell1, h]
def gSeen (g : Nat → Nat) (q n : Nat) : Nat := sumTo n (fun f => if 0 < cF g q f then 1 else 0)
/-- the last of the places 0 .. k - 1 -/
def srchD (p : Nat → Bool) : Nat → Int32
  | 0 => -nI 1
  | k + 1 => if p k = true then nI k else srchD p k
theorem e_totalL2 {N : Nat} {fr : Nat → Int32} {r : Int32 → Int32 → Int32 → Option Int32} {c : Nat → Nat} {p d a M : Nat} (hN : 1000 < N) (hp : p < 6) (hd : d < 6) (hF : ∀ f, f < 12 → fr (12 * (6 * p + d) + f) = nI (c f)) {o : Option Int32} (hM : M = a + sumTo 12 (fun f => (f + 1) * c f)) (hr : r (nI p) (nI M) (nI (d + 1)) = o) : ∀ j i s : Nat, i ≤ 12 → 12 < i + j → s = a + sumTo i (fun f => (f + 1) * c f) → f_X4_playerTotal_L13 N fr r j (nI p) (nI s) (nI d) (nI (i + 1)) = o := by
  intro j
  induction j with
  | zero => intro i s h1 h2; omega
  | succ j ih =>
    intro i s h1 h2 h3
    by_cases h : 12 ≤ i
    · have e : i = 12 := by omega
      have es : s = M := by rw [h3, hM, e]
      simp (disch := omega) only [n_0, n_1, n_2, n_3, n_4, n_5, n_6, n_7, n_8, n_9, n_10, n_12, n_13, n_15, n_20, n_24, n_27, n_31, n_32, n_33, n_36, n_44, n_48, n_50, n_57, n_58, n_59, n_72, n_74, n_75, n_85, n_91, n_96, n_97, n_99, n_122, n_255, n_300, n_432, n_600, n_900, n_999, n_1000, n_1291, n_1399, n_2798, n_11192, n_65536, n_65537, n_99999999, n_1000000, nI_add, pk_mul, q_le, q_lt, q_eq, q_cl, q_gi, q_gz, q_sub, q_div, q_dm, d_dm, q_m1, q_mn, q_nm, q_mlt, q_ltm, q_mle, q_lem, q_mm, Option.bind_some, if_true, if_false, Nat.add_zero, ite_self, q_us, q_un, decide_true, decide_false, Bool.false_eq_true, eq_self, and_self, and_true, true_and, and_false, false_and, or_true, true_or, or_false, false_or, d_ltT, d_ltF, d_leT, d_leF, d_eqT, d_eqF, f_X4_playerTotal_L13, f_X4_playerTotal_L13_F]
      rw [es]
      exact hr
    · have hi := ih (i + 1) (s + (i + 1) * c i) (by omega) (by omega) (by rw [sumTo_s, h3]; omega)
      have hf := hF i (by omega)
      have e1 := e_at (f := fr) (show 12 * (6 * p + d) + i < 432 by omega) (by omega)
      rw [hf] at e1
      show f_X4_playerTotal_L13_F N fr r (f_X4_playerTotal_L13 N fr r j) (nI p) (nI s) (nI d) (nI (i + 1)) = o
      unfold f_X4_playerTotal_L13_F
      rw [if_neg (by rw [n_12, q_lt (by omega) (by omega)]; omega), e_pair, Option.bind_some, e_cell, Option.bind_some, e1, Option.bind_some, pk_mul, nI_add, n_1, nI_add]
      exact hi
theorem e_totalL {N : Nat} {g : Nat → Nat} {fr : Nat → Int32} (hN : 1000 < N) (hF : FR g fr) {p : Nat} (hp : p < 6) : ∀ j i : Nat, i ≤ 6 → 6 < i + j → f_X4_playerTotal_L4 N fr j (nI p) (nI (sumTo i (fun d => sumTo 12 (fun f => (f + 1) * cF g (6 * p + d) f)))) (nI i) = some (nI (sumTo 6 (fun d => sumTo 12 (fun f => (f + 1) * cF g (6 * p + d) f)))) := by
  intro j
  induction j with
  | zero => intro i h1 h2; omega
  | succ j ih =>
    intro i h1 h2
    by_cases h : 6 ≤ i
    · have e : i = 6 := by omega
      subst e
      simp (disch := omega) only [n_0, n_1, n_2, n_3, n_4, n_5, n_6, n_7, n_8, n_9, n_10, n_12, n_13, n_15, n_20, n_24, n_27, n_31, n_32, n_33, n_36, n_44, n_48, n_50, n_57, n_58, n_59, n_72, n_74, n_75, n_85, n_91, n_96, n_97, n_99, n_122, n_255, n_300, n_432, n_600, n_900, n_999, n_1000, n_1291, n_1399, n_2798, n_11192, n_65536, n_65537, n_99999999, n_1000000, nI_add, pk_mul, q_le, q_lt, q_eq, q_cl, q_gi, q_gz, q_sub, q_div, q_dm, d_dm, q_m1, q_mn, q_nm, q_mlt, q_ltm, q_mle, q_lem, q_mm, Option.bind_some, if_true, if_false, Nat.add_zero, ite_self, q_us, q_un, decide_true, decide_false, Bool.false_eq_true, eq_self, and_self, and_true, true_and, and_false, false_and, or_true, true_or, or_false, false_or, d_ltT, d_ltF, d_leT, d_leF, d_eqT, d_eqF, f_X4_playerTotal_L4, f_X4_playerTotal_L4_F]
    · have hi := ih (i + 1) (by omega) (by omega)
      simp (disch := omega) only [n_0, n_1, n_2, n_3, n_4, n_5, n_6, n_7, n_8, n_9, n_10, n_12, n_13, n_15, n_20, n_24, n_27, n_31, n_32, n_33, n_36, n_44, n_48, n_50, n_57, n_58, n_59, n_72, n_74, n_75, n_85, n_91, n_96, n_97, n_99, n_122, n_255, n_300, n_432, n_600, n_900, n_999, n_1000, n_1291, n_1399, n_2798, n_11192, n_65536, n_65537, n_99999999, n_1000000, nI_add, pk_mul, q_le, q_lt, q_eq, q_cl, q_gi, q_gz, q_sub, q_div, q_dm, d_dm, q_m1, q_mn, q_nm, q_mlt, q_ltm, q_mle, q_lem, q_mm, Option.bind_some, if_true, if_false, Nat.add_zero, ite_self, q_us, q_un, decide_true, decide_false, Bool.false_eq_true, eq_self, and_self, and_true, true_and, and_false, false_and, or_true, true_or, or_false, false_or, d_ltT, d_ltF, d_leT, d_leF, d_eqT, d_eqF, f_X4_playerTotal_L4, f_X4_playerTotal_L4_F]
      exact e_totalL2 (N := N) (c := cF g (6 * p + i)) (a := sumTo i (fun d => sumTo 12 (fun f => (f + 1) * cF g (6 * p + d) f))) hN hp (show i < 6 by omega) (fun f hf => hF (6 * p + i) (by omega) f hf) sumTo_s hi N 0 _ (by omega) (by omega) rfl
theorem e_total {N : Nat} {g : Nat → Nat} {fr : Nat → Int32} (hN : 1000 < N) (hB : okB g) (hD : okD g) (hT : okT g) (hF : FR g fr) {p : Nat} (hp : p < 6) : f_X4_playerTotal N fr (nI p) = some (nI (cT g p)) := by
  rw [← cT_of hB hD hT]
  exact e_totalL hN hF hp N 0 (by omega) (by omega)
/-- a player's runs: (longest, present, face before) after k throws -/
def gRun (g : Nat → Nat) (p : Nat) : Nat → Nat × Nat × Nat
  | 0 => (0, 0, 0)
  | k + 1 => if tP g k = p then (max (gRun g p k).1 (if tF g k = (gRun g p k).2.2 then (gRun g p k).2.1 + 1 else 1), (if tF g k = (gRun g p k).2.2 then (gRun g p k).2.1 + 1 else 1), tF g k) else gRun g p k
theorem gRun_s {g : Nat → Nat} {p k : Nat} : gRun g p (k + 1) = if tP g k = p then (max (gRun g p k).1 (if tF g k = (gRun g p k).2.2 then (gRun g p k).2.1 + 1 else 1), (if tF g k = (gRun g p k).2.2 then (gRun g p k).2.1 + 1 else 1), tF g k) else gRun g p k := rfl
theorem gRun_bd {g : Nat → Nat} {p : Nat} (hB : okB g) (hD : okD g) (hT : okT g) : ∀ k, k ≤ g 5 → (gRun g p k).1 ≤ k ∧ (gRun g p k).2.1 ≤ k ∧ (gRun g p k).2.2 ≤ 12 := by
  intro k
  induction k with
  | zero => intro _; exact ⟨Nat.le_refl _, Nat.le_refl _, Nat.zero_le _⟩
  | succ k ih =>
    intro hk
    have h := ih (by omega)
    obtain ⟨t1, t2, t3, t4⟩ := t_bd hB hD hT (show k < g 5 by omega)
    rw [gRun_s]
    by_cases hp : tP g k = p
    · rw [if_pos hp]
      have hx : (if tF g k = (gRun g p k).2.2 then (gRun g p k).2.1 + 1 else 1) ≤ k + 1 := by split <;> omega
      exact ⟨by show max _ _ ≤ _; omega, hx, t3⟩
    · rw [if_neg hp]
      omega
theorem e_freqSum {N : Nat} {g : Nat → Nat} {fr : Nat → Int32} (hN : 1000 < N) (hB : okB g) (hD : okD g) (hT : okT g) (hF : FR g fr) : f_X4_frequencySum N fr = some (nI (g 5)) := by
  have h := e_sum (N := N) (n := 432) (a := 0) (k := 432) (f := fr) (fun t => cF g (t / 12) (t % 12)) (by omega) (by omega) (by omega) (fun t ht => by
    have e := hF (t / 12) (by omega) (t % 12) (by omega)
    rw [← e]
    congr 1
    omega)
  have e2 : sumTo 432 (fun t => cF g (t / 12) (t % 12)) = g 5 := by
    have e3 := sumTo_rows (n := 36) (w := 12) (f := fun t => cF g (t / 12) (t % 12))
    refine (show sumTo 432 (fun t => cF g (t / 12) (t % 12)) = sumTo (36 * 12) (fun t => cF g (t / 12) (t % 12)) from rfl).trans (e3.trans ?_)
    have e4 : ∀ q, q < 36 → sumTo 12 (fun f => cF g ((q * 12 + f) / 12) ((q * 12 + f) % 12)) = cQ g q := fun q hq => by
      rw [← cQ_of hB hD hT]
      refine sumTo_congr (fun f hf => ?_)
      rw [show (q * 12 + f) / 12 = q by omega, show (q * 12 + f) % 12 = f by omega]
    rw [sumTo_congr e4]
    unfold cQ
    rw [sumTo_swap]
    refine (sumTo_congr (g := fun _ => 1) (fun k hk => ?_)).trans ?_
    · obtain ⟨t1, t2, t3, t4⟩ := t_bd hB hD hT hk
      refine (sumTo_congr (fun q hq => ?_)).trans (sumTo_one (a := tQ g k) (c := 1) t1)
      by_cases h9 : tQ g k = q
      · rw [if_pos h9, if_pos h9.symm]
      · rw [if_neg h9, if_neg (fun e => h9 e.symm)]
    · clear h
      induction (g 5) with
      | zero => rfl
      | succ n ih => rw [sumTo_s, ih]
  rw [e2] at h
  simp (disch := omega) only [n_0, n_1, n_2, n_3, n_4, n_5, n_6, n_7, n_8, n_9, n_10, n_12, n_13, n_15, n_20, n_24, n_27, n_31, n_32, n_33, n_36, n_44, n_48, n_50, n_57, n_58, n_59, n_72, n_74, n_75, n_85, n_91, n_96, n_97, n_99, n_122, n_255, n_300, n_432, n_600, n_900, n_999, n_1000, n_1291, n_1399, n_2798, n_11192, n_65536, n_65537, n_99999999, n_1000000, nI_add, pk_mul, q_le, q_lt, q_eq, q_cl, q_gi, q_gz, q_sub, q_div, q_dm, d_dm, q_m1, q_mn, q_nm, q_mlt, q_ltm, q_mle, q_lem, q_mm, Option.bind_some, if_true, if_false, Nat.add_zero, ite_self, q_us, q_un, decide_true, decide_false, Bool.false_eq_true, eq_self, and_self, and_true, true_and, and_false, false_and, or_true, true_or, or_false, false_or, d_ltT, d_ltF, d_leT, d_leF, d_eqT, d_eqF, f_X4_frequencySum, h]
theorem e_faceSumL {N : Nat} {g : Nat → Nat} {en : Nat → Int32} (hB : okB g) (hD : okD g) (hT : okT g) (hE : ER g en) : ∀ j i : Nat, i ≤ g 5 → g 5 < i + j → f_X4_faceSum_L4 N (nI (g 5)) en j (nI (sumTo i (tF g))) (nI i) = some (nI (sumTo (g 5) (tF g))) := by
  have h5 := b_5 hB
  intro j
  induction j with
  | zero => intro i h1 h2; omega
  | succ j ih =>
    intro i h1 h2
    by_cases h : g 5 ≤ i
    · have e : i = g 5 := by omega
      subst e
      simp (disch := omega) only [n_0, n_1, n_2, n_3, n_4, n_5, n_6, n_7, n_8, n_9, n_10, n_12, n_13, n_15, n_20, n_24, n_27, n_31, n_32, n_33, n_36, n_44, n_48, n_50, n_57, n_58, n_59, n_72, n_74, n_75, n_85, n_91, n_96, n_97, n_99, n_122, n_255, n_300, n_432, n_600, n_900, n_999, n_1000, n_1291, n_1399, n_2798, n_11192, n_65536, n_65537, n_99999999, n_1000000, nI_add, pk_mul, q_le, q_lt, q_eq, q_cl, q_gi, q_gz, q_sub, q_div, q_dm, d_dm, q_m1, q_mn, q_nm, q_mlt, q_ltm, q_mle, q_lem, q_mm, Option.bind_some, if_true, if_false, Nat.add_zero, ite_self, q_us, q_un, decide_true, decide_false, Bool.false_eq_true, eq_self, and_self, and_true, true_and, and_false, false_and, or_true, true_or, or_false, false_or, d_ltT, d_ltF, d_leT, d_leF, d_eqT, d_eqF, f_X4_faceSum_L4, f_X4_faceSum_L4_F]
    · simp (disch := omega) only [n_0, n_1, n_2, n_3, n_4, n_5, n_6, n_7, n_8, n_9, n_10, n_12, n_13, n_15, n_20, n_24, n_27, n_31, n_32, n_33, n_36, n_44, n_48, n_50, n_57, n_58, n_59, n_72, n_74, n_75, n_85, n_91, n_96, n_97, n_99, n_122, n_255, n_300, n_432, n_600, n_900, n_999, n_1000, n_1291, n_1399, n_2798, n_11192, n_65536, n_65537, n_99999999, n_1000000, nI_add, pk_mul, q_le, q_lt, q_eq, q_cl, q_gi, q_gz, q_sub, q_div, q_dm, d_dm, q_m1, q_mn, q_nm, q_mlt, q_ltm, q_mle, q_lem, q_mm, Option.bind_some, if_true, if_false, Nat.add_zero, ite_self, q_us, q_un, decide_true, decide_false, Bool.false_eq_true, eq_self, and_self, and_true, true_and, and_false, false_and, or_true, true_or, or_false, false_or, d_ltT, d_ltF, d_leT, d_leF, d_eqT, d_eqF, f_X4_faceSum_L4, f_X4_faceSum_L4_F, e_faceIn hB hD hT hE (show i < g 5 by omega)]
      exact ih (i + 1) (by omega) (by omega)
theorem e_faceSum {N : Nat} {g : Nat → Nat} {en : Nat → Int32} (hN : 1000 < N) (hB : okB g) (hD : okD g) (hT : okT g) (hE : ER g en) : f_X4_faceSum N (nI (g 5)) en = some (nI (sumTo (g 5) (tF g))) := by
  have h5 := b_5 hB
  exact e_faceSumL hB hD hT hE N 0 (by omega) (by omega)
