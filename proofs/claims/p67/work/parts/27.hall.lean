/-! the hall: the test, the audit -/
def ZR (fc : Nat → Int32) : Prop := ∀ d, d < 6 → ∃ v, v ≤ 12 ∧ fc d = nI v
def cS (g : Nat → Nat) (q : Nat) : Nat := gTest (cF g q) (cQ g q) (dF g (q % 6))
def susp (g : Nat → Nat) (q : Nat) : Bool := decide (g 1 ≤ cQ g q ∧ g 2 < cS g q)
theorem cS_0 {g : Nat → Nat} {q : Nat} (h : cQ g q = 0) : cS g q = 0 := by
  unfold cS gTest
  rw [h, Nat.zero_mul, if_pos rfl]
theorem cS_lt {g : Nat → Nat} {q : Nat} (hB : okB g) (hD : okD g) (hT : okT g) : cS g q < 214000000 := by
  have h1 := cQ_le hB q
  by_cases hd : q % 6 < g 3
  · unfold cS gTest
    split
    · omega
    · have h2 := (gTest_bd (g := cF g q) (S := cQ g q) (k := dF g (q % 6)) (hD _ hd).2.1 (by omega) (fun t ht => by have := cF_le (g := g) q t; omega)).1
      exact Nat.lt_of_le_of_lt (Nat.div_le_self _ _) h2
  · have e := cQ_0 (p := q / 6) hB hT (show q % 6 < 6 by omega) (Or.inl (by omega))
    rw [show 6 * (q / 6) + q % 6 = q by omega] at e
    rw [cS_0 e]
    omega
theorem e_pairScore {N : Nat} {g : Nat → Nat} {fc dw fr : Nat → Int32} (hN : 1000 < N) (hB : okB g) (hD : okD g) (hT : okT g) (hR : DR g fc dw) (hZ : ZR fc) (hF : FR g fr) {q : Nat} (hq : q < 36) : f_X2_pairScore N fc fr (nI q) = some (nI (cS g q)) := by
  have h1 := cQ_le hB q
  have hqe : 6 * (q / 6) + q % 6 = q := by omega
  by_cases hd : q % 6 < g 3
  · have h2 := (hD _ hd).2.1
    have e := cQ_faces (p := q / 6) hB hT hd
    rw [hqe] at e
    have h3 := e_test (N := N) (n := 432) (a := 12 * q) (k := dF g (q % 6)) (f := fr) (cF g q) (by omega) (by omega) (by omega) h2 (by omega) (fun t ht => hF q hq t (by omega))
    rw [e] at h3
    simp (disch := omega) only [n_0, n_1, n_2, n_3, n_4, n_5, n_6, n_7, n_8, n_9, n_10, n_12, n_13, n_15, n_20, n_24, n_27, n_31, n_32, n_33, n_36, n_44, n_48, n_50, n_57, n_58, n_59, n_72, n_74, n_75, n_85, n_91, n_96, n_97, n_99, n_122, n_255, n_300, n_432, n_600, n_900, n_999, n_1000, n_1291, n_1399, n_2798, n_11192, n_65536, n_65537, n_99999999, n_1000000, nI_add, pk_mul, q_le, q_lt, q_eq, q_cl, q_gi, q_gz, q_sub, q_div, q_dm, d_dm, q_m1, q_mn, q_nm, q_mlt, q_ltm, q_mle, q_lem, q_mm, Option.bind_some, if_true, if_false, Nat.add_zero, ite_self, q_us, q_un, decide_true, decide_false, Bool.false_eq_true, eq_self, and_self, and_true, true_and, and_false, false_and, or_true, true_or, or_false, false_or, d_ltT, d_ltF, d_leT, d_leF, d_eqT, d_eqF, f_X2_pairScore, e_cell1, e_dieOf, e_faces hB hR hd, h3]
    rfl
  · obtain ⟨v, hv, ev⟩ := hZ (q % 6) (by omega)
    have hz : ∀ t, cF g q t = 0 := fun t => by
      have e := cF_0 (p := q / 6) (f := t) hB hT (show q % 6 < 6 by omega) (Or.inl (by omega))
      rw [hqe] at e
      exact e
    have hs : sumTo v (cF g q) = 0 := sumTo_z (fun t _ => hz t)
    have h3 := e_test (N := N) (n := 432) (a := 12 * q) (k := v) (f := fr) (cF g q) (by omega) (by omega) (by omega) hv (by omega) (fun t ht => hF q hq t (by omega))
    have h4 : gTest (cF g q) (sumTo v (cF g q)) v = 0 := by
      unfold gTest
      rw [hs, Nat.zero_mul, if_pos rfl]
    have h5 : cQ g q = 0 := by
      have e := cQ_0 (p := q / 6) hB hT (show q % 6 < 6 by omega) (Or.inl (by omega))
      rw [hqe] at e
      exact e
    rw [h4] at h3
    simp (disch := omega) only [n_0, n_1, n_2, n_3, n_4, n_5, n_6, n_7, n_8, n_9, n_10, n_12, n_13, n_15, n_20, n_24, n_27, n_31, n_32, n_33, n_36, n_44, n_48, n_50, n_57, n_58, n_59, n_72, n_74, n_75, n_85, n_91, n_96, n_97, n_99, n_122, n_255, n_300, n_432, n_600, n_900, n_999, n_1000, n_1291, n_1399, n_2798, n_11192, n_65536, n_65537, n_99999999, n_1000000, nI_add, pk_mul, q_le, q_lt, q_eq, q_cl, q_gi, q_gz, q_sub, q_div, q_dm, d_dm, q_m1, q_mn, q_nm, q_mlt, q_ltm, q_mle, q_lem, q_mm, Option.bind_some, if_true, if_false, Nat.add_zero, ite_self, q_us, q_un, decide_true, decide_false, Bool.false_eq_true, eq_self, and_self, and_true, true_and, and_false, false_and, or_true, true_or, or_false, false_or, d_ltT, d_ltF, d_leT, d_leF, d_eqT, d_eqF, f_X2_pairScore, f_X0_faceCount, e_cell1, e_dieOf, e_at, ev, h3, cS_0 h5]
theorem e_exceeds {m t a b : Nat} (hm : m < 2147483648) (ht : t < 2147483648) (ha : a < 2147483648) (hb : b < 2147483648) : f_X2_exceedsLimits (nI m) (nI t) (nI a) (nI b) = some (bI (decide (m ≤ a ∧ t < b))) := by
  by_cases h1 : m ≤ a
  · by_cases h2 : t < b
    · simp (disch := omega) only [n_0, n_1, n_2, n_3, n_4, n_5, n_6, n_7, n_8, n_9, n_10, n_12, n_13, n_15, n_20, n_24, n_27, n_31, n_32, n_33, n_36, n_44, n_48, n_50, n_57, n_58, n_59, n_72, n_74, n_75, n_85, n_91, n_96, n_97, n_99, n_122, n_255, n_300, n_432, n_600, n_900, n_999, n_1000, n_1291, n_1399, n_2798, n_11192, n_65536, n_65537, n_99999999, n_1000000, nI_add, pk_mul, q_le, q_lt, q_eq, q_cl, q_gi, q_gz, q_sub, q_div, q_dm, d_dm, q_m1, q_mn, q_nm, q_mlt, q_ltm, q_mle, q_lem, q_mm, Option.bind_some, if_true, if_false, Nat.add_zero, ite_self, q_us, q_un, decide_true, decide_false, Bool.false_eq_true, eq_self, and_self, and_true, true_and, and_false, false_and, or_true, true_or, or_false, false_or, d_ltT, d_ltF, d_leT, d_leF, d_eqT, d_eqF, f_X2_exceedsLimits]
      simp [bI, h1, h2]
    · simp (disch := omega) only [n_0, n_1, n_2, n_3, n_4, n_5, n_6, n_7, n_8, n_9, n_10, n_12, n_13, n_15, n_20, n_24, n_27, n_31, n_32, n_33, n_36, n_44, n_48, n_50, n_57, n_58, n_59, n_72, n_74, n_75, n_85, n_91, n_96, n_97, n_99, n_122, n_255, n_300, n_432, n_600, n_900, n_999, n_1000, n_1291, n_1399, n_2798, n_11192, n_65536, n_65537, n_99999999, n_1000000, nI_add, pk_mul, q_le, q_lt, q_eq, q_cl, q_gi, q_gz, q_sub, q_div, q_dm, d_dm, q_m1, q_mn, q_nm, q_mlt, q_ltm, q_mle, q_lem, q_mm, Option.bind_some, if_true, if_false, Nat.add_zero, ite_self, q_us, q_un, decide_true, decide_false, Bool.false_eq_true, eq_self, and_self, and_true, true_and, and_false, false_and, or_true, true_or, or_false, false_or, d_ltT, d_ltF, d_leT, d_leF, d_eqT, d_eqF, f_X2_exceedsLimits]
      simp [bI, h1, h2]
  · simp (disch := omega) only [n_0, n_1, n_2, n_3, n_4, n_5, n_6, n_7, n_8, n_9, n_10, n_12, n_13, n_15, n_20, n_24, n_27, n_31, n_32, n_33, n_36, n_44, n_48, n_50, n_57, n_58, n_59, n_72, n_74, n_75, n_85, n_91, n_96, n_97, n_99, n_122, n_255, n_300, n_432, n_600, n_900, n_999, n_1000, n_1291, n_1399, n_2798, n_11192, n_65536, n_65537, n_99999999, n_1000000, nI_add, pk_mul, q_le, q_lt, q_eq, q_cl, q_gi, q_gz, q_sub, q_div, q_dm, d_dm, q_m1, q_mn, q_nm, q_mlt, q_ltm, q_mle, q_lem, q_mm, Option.bind_some, if_true, if_false, Nat.add_zero, ite_self, q_us, q_un, decide_true, decide_false, Bool.false_eq_true, eq_self, and_self, and_true, true_and, and_false, false_and, or_true, true_or, or_false, false_or, d_ltT, d_ltF, d_leT, d_leF, d_eqT, d_eqF, f_X2_exceedsLimits]
    simp [bI, h1]
theorem e_susp {N : Nat} {g : Nat → Nat} {fc dw fr : Nat → Int32} (hN : 1000 < N) (hB : okB g) (hD : okD g) (hT : okT g) (hR : DR g fc dw) (hZ : ZR fc) (hF : FR g fr) {q : Nat} (hq : q < 36) : f_X2_isPairSuspicious N (nI (g 1)) (nI (g 2)) fc fr (nI q) = some (bI (susp g q)) := by
  have h1 := cQ_le hB q
  have h2 := cS_lt (q := q) hB hD hT
  have h3 := hB.2.2.1
  have h4 := hB.2.2.2.1
  have e := e_exceeds (m := g 1) (t := g 2) (a := cQ g q) (b := cS g q) (by omega) (by omega) (by omega) (by omega)
  simp (disch := omega) only [n_0, n_1, n_2, n_3, n_4, n_5, n_6, n_7, n_8, n_9, n_10, n_12, n_13, n_15, n_20, n_24, n_27, n_31, n_32, n_33, n_36, n_44, n_48, n_50, n_57, n_58, n_59, n_72, n_74, n_75, n_85, n_91, n_96, n_97, n_99, n_122, n_255, n_300, n_432, n_600, n_900, n_999, n_1000, n_1291, n_1399, n_2798, n_11192, n_65536, n_65537, n_99999999, n_1000000, nI_add, pk_mul, q_le, q_lt, q_eq, q_cl, q_gi, q_gz, q_sub, q_div, q_dm, d_dm, q_m1, q_mn, q_nm, q_mlt, q_ltm, q_mle, q_lem, q_mm, Option.bind_some, if_true, if_false, Nat.add_zero, ite_self, q_us, q_un, decide_true, decide_false, Bool.false_eq_true, eq_self, and_self, and_true, true_and, and_false, false_and, or_true, true_or, or_false, false_or, d_ltT, d_ltF, d_leT, d_leF, d_eqT, d_eqF, f_X2_isPairSuspicious, e_pairThrows hN hB hD hT hF hq, e_pairScore hN hB hD hT hR hZ hF hq, e]
  rfl
theorem susp_0 {g : Nat → Nat} (hB : okB g) {q : Nat} (h : cQ g q = 0) : susp g q = false := by
  have := hB.2.1
  exact decide_eq_false (fun h2 => by omega)
def gCnt (g : Nat → Nat) (n : Nat) : Nat := sumTo n (fun q => if susp g q = true then 1 else 0)
theorem e_countL {N : Nat} {g : Nat → Nat} {fc dw fr : Nat → Int32} (hN : 1000 < N) (hB : okB g) (hD : okD g) (hT : okT g) (hR : DR g fc dw) (hZ : ZR fc) (hF : FR g fr) : ∀ j i : Nat, i ≤ 36 → 36 < i + j → f_X2_countSuspicious_L4 N (nI (g 1)) (nI (g 2)) fc fr j (nI (gCnt g i)) (nI i) = some (nI (gCnt g 36)) := by
  intro j
  induction j with
  | zero => intro i h1 h2; omega
  | succ j ih =>
    intro i h1 h2
    by_cases h : 36 ≤ i
    · have e : i = 36 := by omega
      subst e
      simp (disch := omega) only [n_0, n_1, n_2, n_3, n_4, n_5, n_6, n_7, n_8, n_9, n_10, n_12, n_13, n_15, n_20, n_24, n_27, n_31, n_32, n_33, n_36, n_44, n_48, n_50, n_57, n_58, n_59, n_72, n_74, n_75, n_85, n_91, n_96, n_97, n_99, n_122, n_255, n_300, n_432, n_600, n_900, n_999, n_1000, n_1291, n_1399, n_2798, n_11192, n_65536, n_65537, n_99999999, n_1000000, nI_add, pk_mul, q_le, q_lt, q_eq, q_cl, q_gi, q_gz, q_sub, q_div, q_dm, d_dm, q_m1, q_mn, q_nm, q_mlt, q_ltm, q_mle, q_lem, q_mm, Option.bind_some, if_true, if_false, Nat.add_zero, ite_self, q_us, q_un, decide_true, decide_false, Bool.false_eq_true, eq_self, and_self, and_true, true_and, and_false, false_and, or_true, true_or, or_false, false_or, d_ltT, d_ltF, d_leT, d_leF, d_eqT, d_eqF, f_X2_countSuspicious_L4, f_X2_countSuspicious_L4_F]
    · have hi := ih (i + 1) (by omega) (by omega)
      have es := e_susp hN hB hD hT hR hZ hF (show i < 36 by omega)
      rw [show gCnt g (i + 1) = gCnt g i + if susp g i = true then 1 else 0 from rfl] at hi
      cases hc : susp g i
      · rw [hc] at es hi
        rw [if_neg Bool.false_ne_true] at hi
        simp (disch := omega) only [n_0, n_1, n_2, n_3, n_4, n_5, n_6, n_7, n_8, n_9, n_10, n_12, n_13, n_15, n_20, n_24, n_27, n_31, n_32, n_33, n_36, n_44, n_48, n_50, n_57, n_58, n_59, n_72, n_74, n_75, n_85, n_91, n_96, n_97, n_99, n_122, n_255, n_300, n_432, n_600, n_900, n_999, n_1000, n_1291, n_1399, n_2798, n_11192, n_65536, n_65537, n_99999999, n_1000000, nI_add, pk_mul, q_le, q_lt, q_eq, q_cl, q_gi, q_gz, q_sub, q_div, q_dm, d_dm, q_m1, q_mn, q_nm, q_mlt, q_ltm, q_mle, q_lem, q_mm, Option.bind_some, if_true, if_false, Nat.add_zero, ite_self, q_us, q_un, decide_true, decide_false, Bool.false_eq_true, eq_self, and_self, and_true, true_and, and_false, false_and, or_true, true_or, or_false, false_or, d_ltT, d_ltF, d_leT, d_leF, d_eqT, d_eqF, f_X2_countSuspicious_L4, f_X2_countSuspicious_L4_F, f_X2_countSuspicious_L21, es, q_b0]
        exact hi
      · rw [hc] at es hi
        rw [if_pos rfl] at hi
        simp (disch := omega) only [n_0, n_1, n_2, n_3, n_4, n_5, n_6, n_7, n_8, n_9, n_10, n_12, n_13, n_15, n_20, n_24, n_27, n_31, n_32, n_33, n_36, n_44, n_48, n_50, n_57, n_58, n_59, n_72, n_74, n_75, n_85, n_91, n_96, n_97, n_99, n_122, n_255, n_300, n_432, n_600, n_900, n_999, n_1000, n_1291, n_1399, n_2798, n_11192, n_65536, n_65537, n_99999999, n_1000000, nI_add, pk_mul, q_le, q_lt, q_eq, q_cl, q_gi, q_gz, q_sub, q_div, q_dm, d_dm, q_m1, q_mn, q_nm, q_mlt, q_ltm, q_mle, q_lem, q_mm, Option.bind_some, if_true, if_false, Nat.add_zero, ite_self, q_us, q_un, decide_true, decide_false, Bool.false_eq_true, eq_self, and_self, and_true, true_and, and_false, false_and, or_true, true_or, or_false, false_or, d_ltT, d_ltF, d_leT, d_leF, d_eqT, d_eqF, f_X2_countSuspicious_L4, f_X2_countSuspicious_L4_F, f_X2_countSuspicious_L21, es, q_b0, Bool.true_eq_false]
        exact hi
theorem e_count {N : Nat} {g : Nat → Nat} {fc dw fr : Nat → Int32} (hN : 1000 < N) (hB : okB g) (hD : okD g) (hT : okT g) (hR : DR g fc dw) (hZ : ZR fc) (hF : FR g fr) : f_X2_countSuspicious N (nI (g 1)) (nI (g 2)) fc fr = some (nI (gCnt g 36)) := e_countL hN hB hD hT hR hZ hF N 0 (by omega) (by omega)
/-- the pair with the greatest score of the first n: (pair, score) -/
def gWst (g : Nat → Nat) : Nat → Nat × Nat
  | 0 => (0, 0)
  | n + 1 => if cS g n ≤ (gWst g n).2 then gWst g n else (n, cS g n)
theorem gWst_bd {g : Nat → Nat} (hB : okB g) (hD : okD g) (hT : okT g) (n : Nat) : (gWst g n).1 ≤ n ∧ (gWst g n).2 < 214000000 := by
  induction n with
  | zero => exact ⟨Nat.le_refl _, by show 0 < _; omega⟩
  | succ n ih =>
    unfold gWst
    split
    · exact ⟨by omega, ih.2⟩
    · exact ⟨by show n ≤ _; omega, cS_lt hB hD hT⟩
/-- the audit of a pair, against the row w of the start -/
def gAud1 (w : Nat → Nat) (q : Nat) (g : Nat → Nat) : Nat → Nat := if susp w q = true ∧ gHas g q = false then gLay g q (cS w q) (gPos g q (cS w q) (g 6)) else g
def gAud (w : Nat → Nat) : Nat → Nat → Nat
  | 0 => w
  | n + 1 => gAud1 w n (gAud w n)
theorem gLay_sT {g : Nat → Nat} {q s pos : Nat} (hp : pos ≤ g 6) : sT g (gLay g q s pos) ∧ sD g (gLay g q s pos) ∧ sP g (gLay g q s pos) ∧ (∀ k, k < 3 → gLay g q s pos k = g k) := ⟨⟨gLay_lo (by omega) (by omega), fun k h1 h2 => gLay_lo (by omega) (by omega)⟩, ⟨gLay_lo (by omega) (by omega), fun k h1 h2 => gLay_lo (by omega) (by omega)⟩, ⟨gLay_lo (by omega) (by omega), fun k h1 h2 => gLay_lo (by omega) (by omega)⟩, fun k hk => gLay_lo (by omega) (by omega)⟩
theorem susp_in {w : Nat → Nat} {q : Nat} (hO : Ok w) (h : susp w q = true) (hq : q < 36) : q / 6 < w 4 ∧ q % 6 < w 3 := by
  have h1 := of_decide_eq_true h
  have h2 := hO.1.2.1
  refine ⟨Nat.lt_of_not_le (fun hx => ?_), Nat.lt_of_not_le (fun hx => ?_)⟩
  · have e := cQ_0 (p := q / 6) hO.1 hO.2.2.2.1 (show q % 6 < 6 by omega) (Or.inr hx)
    rw [show 6 * (q / 6) + q % 6 = q by omega] at e
    omega
  · have e := cQ_0 (p := q / 6) hO.1 hO.2.2.2.1 (show q % 6 < 6 by omega) (Or.inl hx)
    rw [show 6 * (q / 6) + q % 6 = q by omega] at e
    omega
/-- rows that differ in the queue alone -/
def sQ (w g : Nat → Nat) : Prop := sT w g ∧ sD w g ∧ sP w g ∧ ∀ k, k < 3 → g k = w k
theorem gAud1_s {w g : Nat → Nat} {q : Nat} (hw : Ok w) (hg : Ok g) (hs : sQ w g) (hq : q < 36) : Ok (gAud1 w q g) ∧ sQ w (gAud1 w q g) ∧ g 6 ≤ gAud1 w q g 6 := by
  unfold gAud1
  by_cases hc : susp w q = true ∧ gHas g q = false
  · rw [if_pos hc]
    obtain ⟨i1, i2⟩ := susp_in hw hc.1 hq
    obtain ⟨s1, s2, s3, s4⟩ := hs
    have hn := full_has hg.1 hg.2.2.2.2 hq hc.2
    have hp := @gPos_le g q (cS w q) (g 6)
    obtain ⟨t1, t2, t3, t4⟩ := gLay_sT (g := g) (q := q) (s := cS w q) hp
    have hO := gLay_okO (s := cS w q) hp hg.2.2.2.2 hc.2 (by rw [s3.1]; exact i1) (by rw [s2.1]; exact i2) (cS_lt hw.1 hw.2.1 hw.2.2.2.1)
    have hB : okB (gLay g q (cS w q) (gPos g q (cS w q) (g 6))) := by
      obtain ⟨b0, b1, b2, b3, b4, b5, b6, b7⟩ := hg.1
      unfold okB
      rw [gLay_6, t4 0 (by omega), t4 1 (by omega), t4 2 (by omega), t2.1, t3.1, t1.1]
      omega
    refine ⟨⟨hB, sD_ok t2 hg.1 hg.2.1, sP_ok t3 hg.1 hg.2.2.1, sT_ok t1 t2 t3 hg.1 hg.2.2.2.1, hO⟩, ⟨⟨t1.1.trans s1.1, fun k a c => (t1.2 k a c).trans (s1.2 k a c)⟩, ⟨t2.1.trans s2.1, fun k a c => (t2.2 k a c).trans (s2.2 k a c)⟩, ⟨t3.1.trans s3.1, fun k a c => (t3.2 k a c).trans (s3.2 k a c)⟩, fun k hk => (t4 k hk).trans (s4 k hk)⟩, by rw [gLay_6]; omega⟩
  · rw [if_neg hc]
    exact ⟨hg, hs, Nat.le_refl _⟩
theorem sQ_refl {w : Nat → Nat} : sQ w w := ⟨⟨rfl, fun k _ _ => rfl⟩, ⟨rfl, fun k _ _ => rfl⟩, ⟨rfl, fun k _ _ => rfl⟩, fun k _ => rfl⟩
theorem gAud_s {w : Nat → Nat} (hw : Ok w) : ∀ n, n ≤ 36 → Ok (gAud w n) ∧ sQ w (gAud w n) ∧ w 6 ≤ gAud w n 6 := by
  intro n
  induction n with
  | zero => intro _; exact ⟨hw, sQ_refl, Nat.le_refl _⟩
  | succ n ih =>
    intro hn
    obtain ⟨h1, h2, h3⟩ := ih (by omega)
    obtain ⟨k1, k2, k3⟩ := gAud1_s hw h1 h2 (show n < 36 by omega)
    exact ⟨k1, k2, Nat.le_trans h3 k3⟩
theorem e_auditL {N : Nat} {w : Nat → Nat} {fc dw fr : Nat → Int32} (hN : 1000 < N) (hw : Ok w) (hR : DR w fc dw) (hZ : ZR fc) (hF : FR w fr) : ∀ (k i j : Nat) (op os : Nat → Int32), i + k = 36 → k < j → QR (gAud w i) op os → ∃ op' os', f_X2_holdAudit_L10 N (nI (w 1)) (nI (w 2)) fc fr j (nI (w 6)) (nI i) (nI (gAud w i 6)) op os = some (nI (gAud w 36 6 - w 6), nI (gAud w 36 6), op', os') ∧ QR (gAud w 36) op' os' := by
  intro k
  induction k with
  | zero =>
    intro i j op os h1 h2 h3
    obtain ⟨j, rfl⟩ : ∃ t, j = t + 1 := ⟨j - 1, by omega⟩
    have e : i = 36 := by omega
    subst e
    obtain ⟨a1, a2, a3⟩ := gAud_s hw 36 (by omega)
    have := b_6 a1.1
    refine ⟨op, os, ?_, h3⟩
    simp (disch := omega) only [n_0, n_1, n_2, n_3, n_4, n_5, n_6, n_7, n_8, n_9, n_10, n_12, n_13, n_15, n_20, n_24, n_27, n_31, n_32, n_33, n_36, n_44, n_48, n_50, n_57, n_58, n_59, n_72, n_74, n_75, n_85, n_91, n_96, n_97, n_99, n_122, n_255, n_300, n_432, n_600, n_900, n_999, n_1000, n_1291, n_1399, n_2798, n_11192, n_65536, n_65537, n_99999999, n_1000000, nI_add, pk_mul, q_le, q_lt, q_eq, q_cl, q_gi, q_gz, q_sub, q_div, q_dm, d_dm, q_m1, q_mn, q_nm, q_mlt, q_ltm, q_mle, q_lem, q_mm, Option.bind_some, if_true, if_false, Nat.add_zero, ite_self, q_us, q_un, decide_true, decide_false, Bool.false_eq_true, eq_self, and_self, and_true, true_and, and_false, false_and, or_true, true_or, or_false, false_or, d_ltT, d_ltF, d_leT, d_leF, d_eqT, d_eqF, f_X2_holdAudit_L10, f_X2_holdAudit_L10_F]
  | succ k ih =>
    intro i j op os h1 h2 h3
    obtain ⟨j, rfl⟩ : ∃ t, j = t + 1 := ⟨j - 1, by omega⟩
    obtain ⟨a1, a2, a3⟩ := gAud_s hw i (by omega)
    have hq : i < 36 := by omega
    have c1 := cQ_le hw.1 i
    have c2 := cS_lt (q := i) hw.1 hw.2.1 hw.2.2.2.1
    have c3 := hw.1.2.2.1
    have c4 := hw.1.2.2.2.1
    have e1 := e_pairScore hN hw.1 hw.2.1 hw.2.2.2.1 hR hZ hF hq
    have e2 := e_pairThrows hN hw.1 hw.2.1 hw.2.2.2.1 hF hq
    have e3 := e_exceeds (m := w 1) (t := w 2) (a := cQ w i) (b := cS w i) (by omega) (by omega) (by omega) (by omega)
    rw [show decide (w 1 ≤ cQ w i ∧ w 2 < cS w i) = susp w i from rfl] at e3
    have e4 := e_has hN a1.1 a1.2.2.2.2 h3 hq
    have es : gAud w (i + 1) = gAud1 w i (gAud w i) := rfl
    have hi := fun op os => ih (i + 1) j op os (by omega) (by omega)
    rw [es] at hi
    unfold gAud1 at hi
    cases hc : susp w i
    · rw [hc] at e3 hi
      rw [if_neg (fun h => Bool.false_ne_true h.1)] at hi
      obtain ⟨op', os', d1, d2⟩ := hi op os h3
      refine ⟨op', os', ?_, d2⟩
      simp (disch := omega) only [n_0, n_1, n_2, n_3, n_4, n_5, n_6, n_7, n_8, n_9, n_10, n_12, n_13, n_15, n_20, n_24, n_27, n_31, n_32, n_33, n_36, n_44, n_48, n_50, n_57, n_58, n_59, n_72, n_74, n_75, n_85, n_91, n_96, n_97, n_99, n_122, n_255, n_300, n_432, n_600, n_900, n_999, n_1000, n_1291, n_1399, n_2798, n_11192, n_65536, n_65537, n_99999999, n_1000000, nI_add, pk_mul, q_le, q_lt, q_eq, q_cl, q_gi, q_gz, q_sub, q_div, q_dm, d_dm, q_m1, q_mn, q_nm, q_mlt, q_ltm, q_mle, q_lem, q_mm, Option.bind_some, if_true, if_false, Nat.add_zero, ite_self, q_us, q_un, decide_true, decide_false, Bool.false_eq_true, eq_self, and_self, and_true, true_and, and_false, false_and, or_true, true_or, or_false, false_or, d_ltT, d_ltF, d_leT, d_leF, d_eqT, d_eqF, f_X2_holdAudit_L10, f_X2_holdAudit_L10_F, f_X2_holdAudit_L58, e1, e2, e3, q_b0]
      exact d1
    · rw [hc] at e3 hi
      cases hh : gHas (gAud w i) i
      · rw [hh] at e4 hi
        rw [if_pos ⟨rfl, rfl⟩] at hi
        have hn := full_has a1.1 a1.2.2.2.2 hq hh
        obtain ⟨p', t', f1, f2⟩ := e_addO (N := N) (q := i) (s := cS w i) hN a1.1 a1.2.2.2.2 h3 hn hq (by omega)
        obtain ⟨op', os', d1, d2⟩ := hi p' t' (gLay_Q gPos_le h3 f2)
        refine ⟨op', os', ?_, d2⟩
        rw [gLay_6] at d1
        simp (disch := omega) only [n_0, n_1, n_2, n_3, n_4, n_5, n_6, n_7, n_8, n_9, n_10, n_12, n_13, n_15, n_20, n_24, n_27, n_31, n_32, n_33, n_36, n_44, n_48, n_50, n_57, n_58, n_59, n_72, n_74, n_75, n_85, n_91, n_96, n_97, n_99, n_122, n_255, n_300, n_432, n_600, n_900, n_999, n_1000, n_1291, n_1399, n_2798, n_11192, n_65536, n_65537, n_99999999, n_1000000, nI_add, pk_mul, q_le, q_lt, q_eq, q_cl, q_gi, q_gz, q_sub, q_div, q_dm, d_dm, q_m1, q_mn, q_nm, q_mlt, q_ltm, q_mle, q_lem, q_mm, Option.bind_some, if_true, if_false, Nat.add_zero, ite_self, q_us, q_un, decide_true, decide_false, Bool.false_eq_true, eq_self, and_self, and_true, true_and, and_false, false_and, or_true, true_or, or_false, false_or, d_ltT, d_ltF, d_leT, d_leF, d_eqT, d_eqF, f_X2_holdAudit_L10, f_X2_holdAudit_L10_F, f_X2_holdAudit_L58, e1, e2, e3, e4, f1, q_b0, Bool.true_eq_false]
        exact d1
      · rw [hh] at e4 hi
        rw [if_neg (fun h => Bool.false_ne_true h.2.symm)] at hi
        obtain ⟨op', os', d1, d2⟩ := hi op os h3
        refine ⟨op', os', ?_, d2⟩
        simp (disch := omega) only [n_0, n_1, n_2, n_3, n_4, n_5, n_6, n_7, n_8, n_9, n_10, n_12, n_13, n_15, n_20, n_24, n_27, n_31, n_32, n_33, n_36, n_44, n_48, n_50, n_57, n_58, n_59, n_72, n_74, n_75, n_85, n_91, n_96, n_97, n_99, n_122, n_255, n_300, n_432, n_600, n_900, n_999, n_1000, n_1291, n_1399, n_2798, n_11192, n_65536, n_65537, n_99999999, n_1000000, nI_add, pk_mul, q_le, q_lt, q_eq, q_cl, q_gi, q_gz, q_sub, q_div, q_dm, d_dm, q_m1, q_mn, q_nm, q_mlt, q_ltm, q_mle, q_lem, q_mm, Option.bind_some, if_true, if_false, Nat.add_zero, ite_self, q_us, q_un, decide_true, decide_false, Bool.false_eq_true, eq_self, and_self, and_true, true_and, and_false, false_and, or_true, true_or, or_false, false_or, d_ltT, d_ltF, d_leT, d_leF, d_eqT, d_eqF, f_X2_holdAudit_L10, f_X2_holdAudit_L10_F, f_X2_holdAudit_L58, e1, e2, e3, e4, q_b0, Bool.true_eq_false]
        exact d1
theorem e_audit {N : Nat} {w : Nat → Nat} {fc dw fr op os : Nat → Int32} (hN : 1000 < N) (hw : Ok w) (hR : DR w fc dw) (hZ : ZR fc) (hF : FR w fr) (hQ : QR w op os) : ∃ op' os', f_X2_holdAudit N (nI (w 1)) (nI (w 2)) fc fr (nI (w 6)) op os = some (nI (gAud w 36 6 - w 6), nI (gAud w 36 6), op', os') ∧ QR (gAud w 36) op' os' := e_auditL hN hw hR hZ hF 36 0 N op os (by omega) (by omega) hQ
/-! the penance -/
def gPen (g : Nat → Nat) : Nat := if g 6 = 0 then 0 else if cQ g (oQ g 0) < oS g 0 then cQ g (oQ g 0) else oS g 0
theorem gPen_le {g : Nat → Nat} : g 6 = 0 ∨ gPen g ≤ cQ g (oQ g 0) := by
  unfold gPen
  split
  · exact Or.inl ‹_›
  · split
    · exact Or.inr (Nat.le_refl _)
    · exact Or.inr (by omega)
theorem e_penance {N : Nat} {g : Nat → Nat} {fr op os : Nat → Int32} (hN : 1000 < N) (hO : Ok g) (hF : FR g fr) (hQ : QR g op os) : f_X2_penanceSize N fr (nI (g 6)) op os = some (nI (gPen g)) := by
  have h6 := b_6 hO.1
  unfold gPen
  by_cases hz : g 6 = 0
  · simp (disch := omega) only [n_0, n_1, n_2, n_3, n_4, n_5, n_6, n_7, n_8, n_9, n_10, n_12, n_13, n_15, n_20, n_24, n_27, n_31, n_32, n_33, n_36, n_44, n_48, n_50, n_57, n_58, n_59, n_72, n_74, n_75, n_85, n_91, n_96, n_97, n_99, n_122, n_255, n_300, n_432, n_600, n_900, n_999, n_1000, n_1291, n_1399, n_2798, n_11192, n_65536, n_65537, n_99999999, n_1000000, nI_add, pk_mul, q_le, q_lt, q_eq, q_cl, q_gi, q_gz, q_sub, q_div, q_dm, d_dm, q_m1, q_mn, q_nm, q_mlt, q_ltm, q_mle, q_lem, q_mm, Option.bind_some, if_true, if_false, Nat.add_zero, ite_self, q_us, q_un, decide_true, decide_false, Bool.false_eq_true, eq_self, and_self, and_true, true_and, and_false, false_and, or_true, true_or, or_false, false_or, d_ltT, d_ltF, d_leT, d_leF, d_eqT, d_eqF, f_X2_penanceSize, hz]
  · obtain ⟨o1, o2⟩ := hQ 0 (by omega)
    have hb := o_bd hO.1 hO.2.2.2.2 (show 0 < g 6 by omega)
    have hc := cQ_le hO.1 (oQ g 0)
    by_cases hl : cQ g (oQ g 0) < oS g 0
    · simp (disch := omega) only [n_0, n_1, n_2, n_3, n_4, n_5, n_6, n_7, n_8, n_9, n_10, n_12, n_13, n_15, n_20, n_24, n_27, n_31, n_32, n_33, n_36, n_44, n_48, n_50, n_57, n_58, n_59, n_72, n_74, n_75, n_85, n_91, n_96, n_97, n_99, n_122, n_255, n_300, n_432, n_600, n_900, n_999, n_1000, n_1291, n_1399, n_2798, n_11192, n_65536, n_65537, n_99999999, n_1000000, nI_add, pk_mul, q_le, q_lt, q_eq, q_cl, q_gi, q_gz, q_sub, q_div, q_dm, d_dm, q_m1, q_mn, q_nm, q_mlt, q_ltm, q_mle, q_lem, q_mm, Option.bind_some, if_true, if_false, Nat.add_zero, ite_self, q_us, q_un, decide_true, decide_false, Bool.false_eq_true, eq_self, and_self, and_true, true_and, and_false, false_and, or_true, true_or, or_false, false_or, d_ltT, d_ltF, d_leT, d_leF, d_eqT, d_eqF, f_X2_penanceSize, e_at, o1, o2, e_pairThrows hN hO.1 hO.2.1 hO.2.2.2.1 hF hb.1]
    · simp (disch := omega) only [n_0, n_1, n_2, n_3, n_4, n_5, n_6, n_7, n_8, n_9, n_10, n_12, n_13, n_15, n_20, n_24, n_27, n_31, n_32, n_33, n_36, n_44, n_48, n_50, n_57, n_58, n_59, n_72, n_74, n_75, n_85, n_91, n_96, n_97, n_99, n_122, n_255, n_300, n_432, n_600, n_900, n_999, n_1000, n_1291, n_1399, n_2798, n_11192, n_65536, n_65537, n_99999999, n_1000000, nI_add, pk_mul, q_le, q_lt, q_eq, q_cl, q_gi, q_gz, q_sub, q_div, q_dm, d_dm, q_m1, q_mn, q_nm, q_mlt, q_ltm, q_mle, q_lem, q_mm, Option.bind_some, if_true, if_false, Nat.add_zero, ite_self, q_us, q_un, decide_true, decide_false, Bool.false_eq_true, eq_self, and_self, and_true, true_and, and_false, false_and, or_true, true_or, or_false, false_or, d_ltT, d_ltF, d_leT, d_leF, d_eqT, d_eqF, f_X2_penanceSize, e_at, o1, o2, e_pairThrows hN hO.1 hO.2.1 hO.2.2.2.1 hF hb.1]
/-- what is kept of the record when the latest throws of a pair go: all but those behind the first n of the pair -/
def qN (g : Nat → Nat) (q k : Nat) : Nat := sumTo k (fun j => if tQ g j = q then 1 else 0)
def kpT (g : Nat → Nat) (q n k : Nat) : Bool := decide (tQ g k ≠ q ∨ qN g q k < n)
theorem qN_le {g : Nat → Nat} {q k : Nat} : qN g q k ≤ k := by
  have h : qN g q k ≤ k * 1 := sumTo_le (fun k hk => by split <;> omega)
  omega
theorem qN_s {g : Nat → Nat} {q k : Nat} : qN g q (k + 1) = qN g q k + if tQ g k = q then 1 else 0 := rfl
/-- the counts of what is kept of the first n throws -/
def kF (g : Nat → Nat) (kp : Nat → Bool) (i q f : Nat) : Nat := sumTo i (fun k => if kp k = true ∧ tQ g k = q ∧ tF g k = f + 1 then 1 else 0)
theorem kF_le {g : Nat → Nat} {kp : Nat → Bool} {i q f : Nat} : kF g kp i q f ≤ i := by
  have h : kF g kp i q f ≤ i * 1 := sumTo_le (fun k hk => by split <;> omega)
  omega
theorem e_addR {en fr : Nat → Int32} {T q f b c : Nat} (h5 : T < 300) (hq : q < 36) (hf : f < 12) (hb : b < 2) (hc : c < 1000) (hfr : fr (12 * q + f) = nI c) : f_X4_add (nI T) en fr (nI q) (nI (f + 1)) (nI b) = some (nI (T + 1), upd en T (nI (32 * q + 2 * (f + 1) + b)), upd fr (12 * q + f) (nI (c + 1))) := by
  have he := q_ent (q := q) (f := f + 1) (b := b) (by omega) hb
  rcases (show b = 0 ∨ b = 1 by omega) with h | h
  · subst h
    simp (disch := omega) only [n_0, n_1, n_2, n_3, n_4, n_5, n_6, n_7, n_8, n_9, n_10, n_12, n_13, n_15, n_20, n_24, n_27, n_31, n_32, n_33, n_36, n_44, n_48, n_50, n_57, n_58, n_59, n_72, n_74, n_75, n_85, n_91, n_96, n_97, n_99, n_122, n_255, n_300, n_432, n_600, n_900, n_999, n_1000, n_1291, n_1399, n_2798, n_11192, n_65536, n_65537, n_99999999, n_1000000, nI_add, pk_mul, q_le, q_lt, q_eq, q_cl, q_gi, q_gz, q_sub, q_div, q_dm, d_dm, q_m1, q_mn, q_nm, q_mlt, q_ltm, q_mle, q_lem, q_mm, Option.bind_some, if_true, if_false, Nat.add_zero, ite_self, q_us, q_un, decide_true, decide_false, Bool.false_eq_true, eq_self, and_self, and_true, true_and, and_false, false_and, or_true, true_or, or_false, false_or, d_ltT, d_ltF, d_leT, d_leF, d_eqT, d_eqF, f_X4_add, f_X4_add_L34, q_sl5, q_sl1, he, e_put, e_cell, e_at, hfr]
  · subst h
    simp (disch := omega) only [n_0, n_1, n_2, n_3, n_4, n_5, n_6, n_7, n_8, n_9, n_10, n_12, n_13, n_15, n_20, n_24, n_27, n_31, n_32, n_33, n_36, n_44, n_48, n_50, n_57, n_58, n_59, n_72, n_74, n_75, n_85, n_91, n_96, n_97, n_99, n_122, n_255, n_300, n_432, n_600, n_900, n_999, n_1000, n_1291, n_1399, n_2798, n_11192, n_65536, n_65537, n_99999999, n_1000000, nI_add, pk_mul, q_le, q_lt, q_eq, q_cl, q_gi, q_gz, q_sub, q_div, q_dm, d_dm, q_m1, q_mn, q_nm, q_mlt, q_ltm, q_mle, q_lem, q_mm, Option.bind_some, if_true, if_false, Nat.add_zero, ite_self, q_us, q_un, decide_true, decide_false, Bool.false_eq_true, eq_self, and_self, and_true, true_and, and_false, false_and, or_true, true_or, or_false, false_or, d_ltT, d_ltF, d_leT, d_leF, d_eqT, d_eqF, f_X4_add, f_X4_add_L34, q_sl5, q_sl1, he, e_put, e_cell, e_at, hfr]
/-- kept so far: 'kept' counts down, and stops at a difference below 0 -/
theorem q_gt {a b : Nat} (ha : a < 1073741824) (hb : b + 1 < 1073741824) : (nI a - nI b + -nI 1) = nI a - nI (b + 1) := by
  apply Int32.toInt_inj.mp
  rw [Int32.toInt_add, pk_sub_toInt ha (by omega), pk_sub_toInt ha (by omega), q_tm, Int.bmod_eq_of_le (by omega) (by omega)]
  omega
theorem e_removeL {N : Nat} {g : Nat → Nat} {en0 : Nat → Int32} {q n : Nat} (hB : okB g) (hD : okD g) (hT : okT g) (hE : ER g en0) (hq : q < 36) (hn : n ≤ 300) : ∀ (k i j : Nat) (en fr : Nat → Int32), i + k = g 5 → k < j → (∀ t, t < i → kpT g q n t = true → en (cK (kpT g q n) t) = en0 t) → (∀ t, i ≤ t → en t = en0 t) → (∀ q', q' < 36 → ∀ f, f < 12 → fr (12 * q' + f) = nI (kF g (kpT g q n) i q' f)) → ∃ en' fr', f_X4_removeLatest_L21 N j (nI q) (nI n - nI (qN g q i)) (nI (g 5)) (nI i) (nI (cK (kpT g q n) i)) en fr = some (nI (cK (kpT g q n) (g 5)), en', fr') ∧ (∀ t, t < g 5 → kpT g q n t = true → en' (cK (kpT g q n) t) = en0 t) ∧ ∀ q', q' < 36 → ∀ f, f < 12 → fr' (12 * q' + f) = nI (kF g (kpT g q n) (g 5) q' f) := by
  have h5 := b_5 hB
  intro k
  induction k with
  | zero =>
    intro i j en fr h1 h2 h3 h4 h6
    obtain ⟨j, rfl⟩ : ∃ t, j = t + 1 := ⟨j - 1, by omega⟩
    have e : i = g 5 := by omega
    subst e
    refine ⟨en, fr, ?_, h3, h6⟩
    simp (disch := omega) only [n_0, n_1, n_2, n_3, n_4, n_5, n_6, n_7, n_8, n_9, n_10, n_12, n_13, n_15, n_20, n_24, n_27, n_31, n_32, n_33, n_36, n_44, n_48, n_50, n_57, n_58, n_59, n_72, n_74, n_75, n_85, n_91, n_96, n_97, n_99, n_122, n_255, n_300, n_432, n_600, n_900, n_999, n_1000, n_1291, n_1399, n_2798, n_11192, n_65536, n_65537, n_99999999, n_1000000, nI_add, pk_mul, q_le, q_lt, q_eq, q_cl, q_gi, q_gz, q_div, q_dm, d_dm, q_m1, q_mn, q_nm, q_mlt, q_ltm, q_mle, q_lem, q_mm, Option.bind_some, if_true, if_false, Nat.add_zero, ite_self, q_us, q_un, decide_true, decide_false, Bool.false_eq_true, eq_self, and_self, and_true, true_and, and_false, false_and, or_true, true_or, or_false, false_or, d_ltT, d_ltF, d_leT, d_leF, d_eqT, d_eqF, f_X4_removeLatest_L21, f_X4_removeLatest_L21_F]
  | succ k ih =>
    intro i j en fr h1 h2 h3 h4 h6
    obtain ⟨j, rfl⟩ : ∃ t, j = t + 1 := ⟨j - 1, by omega⟩
    obtain ⟨t1, t2, t3, t4⟩ := t_bd hB hD hT (show i < g 5 by omega)
    have hen := h4 i (by omega)
    have hq1 := @qN_le g q i
    have hle := cK_le (kp := kpT g q n) (n := i)
    -- the entry that is read
    have hv := hE i (by omega)
    have ep : f_X4_pairIn en (nI i) = some (nI (tQ g i)) := by
      simp (disch := omega) only [n_0, n_1, n_2, n_3, n_4, n_5, n_6, n_7, n_8, n_9, n_10, n_12, n_13, n_15, n_20, n_24, n_27, n_31, n_32, n_33, n_36, n_44, n_48, n_50, n_57, n_58, n_59, n_72, n_74, n_75, n_85, n_91, n_96, n_97, n_99, n_122, n_255, n_300, n_432, n_600, n_900, n_999, n_1000, n_1291, n_1399, n_2798, n_11192, n_65536, n_65537, n_99999999, n_1000000, nI_add, pk_mul, q_le, q_lt, q_eq, q_cl, q_gi, q_gz, q_sub, q_div, q_dm, d_dm, q_m1, q_mn, q_nm, q_mlt, q_ltm, q_mle, q_lem, q_mm, Option.bind_some, if_true, if_false, Nat.add_zero, ite_self, q_us, q_un, decide_true, decide_false, Bool.false_eq_true, eq_self, and_self, and_true, true_and, and_false, false_and, or_true, true_or, or_false, false_or, d_ltT, d_ltF, d_leT, d_leF, d_eqT, d_eqF, f_X4_pairIn, e_at, hen, hv, q_sh5]
      exact eN (by omega)
    have ef : f_X4_faceIn en (nI i) = some (nI (tF g i)) := by
      simp (disch := omega) only [n_0, n_1, n_2, n_3, n_4, n_5, n_6, n_7, n_8, n_9, n_10, n_12, n_13, n_15, n_20, n_24, n_27, n_31, n_32, n_33, n_36, n_44, n_48, n_50, n_57, n_58, n_59, n_72, n_74, n_75, n_85, n_91, n_96, n_97, n_99, n_122, n_255, n_300, n_432, n_600, n_900, n_999, n_1000, n_1291, n_1399, n_2798, n_11192, n_65536, n_65537, n_99999999, n_1000000, nI_add, pk_mul, q_le, q_lt, q_eq, q_cl, q_gi, q_gz, q_sub, q_div, q_dm, d_dm, q_m1, q_mn, q_nm, q_mlt, q_ltm, q_mle, q_lem, q_mm, Option.bind_some, if_true, if_false, Nat.add_zero, ite_self, q_us, q_un, decide_true, decide_false, Bool.false_eq_true, eq_self, and_self, and_true, true_and, and_false, false_and, or_true, true_or, or_false, false_or, d_ltT, d_ltF, d_leT, d_leF, d_eqT, d_eqF, f_X4_faceIn, e_at, hen, hv, q_sh1, q_an15]
      exact eN (by omega)
    have em : f_X4_isMarked en (nI i) = some (nI (tB g i)) := by
      rcases (show tB g i = 0 ∨ tB g i = 1 by omega) with hb | hb
      · simp (disch := omega) only [n_0, n_1, n_2, n_3, n_4, n_5, n_6, n_7, n_8, n_9, n_10, n_12, n_13, n_15, n_20, n_24, n_27, n_31, n_32, n_33, n_36, n_44, n_48, n_50, n_57, n_58, n_59, n_72, n_74, n_75, n_85, n_91, n_96, n_97, n_99, n_122, n_255, n_300, n_432, n_600, n_900, n_999, n_1000, n_1291, n_1399, n_2798, n_11192, n_65536, n_65537, n_99999999, n_1000000, nI_add, pk_mul, q_le, q_lt, q_eq, q_cl, q_gi, q_gz, q_sub, q_div, q_dm, d_dm, q_m1, q_mn, q_nm, q_mlt, q_ltm, q_mle, q_lem, q_mm, Option.bind_some, if_true, if_false, Nat.add_zero, ite_self, q_us, q_un, decide_true, decide_false, Bool.false_eq_true, eq_self, and_self, and_true, true_and, and_false, false_and, or_true, true_or, or_false, false_or, d_ltT, d_ltF, d_leT, d_leF, d_eqT, d_eqF, f_X4_isMarked, e_at, hen, hv, q_an1]
        exact eN (by omega)
      · simp (disch := omega) only [n_0, n_1, n_2, n_3, n_4, n_5, n_6, n_7, n_8, n_9, n_10, n_12, n_13, n_15, n_20, n_24, n_27, n_31, n_32, n_33, n_36, n_44, n_48, n_50, n_57, n_58, n_59, n_72, n_74, n_75, n_85, n_91, n_96, n_97, n_99, n_122, n_255, n_300, n_432, n_600, n_900, n_999, n_1000, n_1291, n_1399, n_2798, n_11192, n_65536, n_65537, n_99999999, n_1000000, nI_add, pk_mul, q_le, q_lt, q_eq, q_cl, q_gi, q_gz, q_sub, q_div, q_dm, d_dm, q_m1, q_mn, q_nm, q_mlt, q_ltm, q_mle, q_lem, q_mm, Option.bind_some, if_true, if_false, Nat.add_zero, ite_self, q_us, q_un, decide_true, decide_false, Bool.false_eq_true, eq_self, and_self, and_true, true_and, and_false, false_and, or_true, true_or, or_false, false_or, d_ltT, d_ltF, d_leT, d_leF, d_eqT, d_eqF, f_X4_isMarked, e_at, hen, hv, q_an1]
        exact eN (by omega)
    have hc := h6 (tQ g i) t1 (tF g i - 1) (by omega)
    have hcl := @kF_le g (kpT g q n) i (tQ g i) (tF g i - 1)
    have ea := e_addR (en := en) (fr := fr) (T := cK (kpT g q n) i) (q := tQ g i) (f := tF g i - 1) (b := tB g i) (by omega) t1 (by omega) t4 (by omega) hc
    rw [show tF g i - 1 + 1 = tF g i by omega, ← hv] at ea
    cases hk : kpT g q n i
    · -- not kept
      have hk2 := of_decide_eq_false hk
      have hqi : tQ g i = q := by omega
      have hqn : n ≤ qN g q i := by omega
      obtain ⟨en', fr', e1, e2, e3⟩ := ih (i + 1) j en fr (by omega) (by omega)
        (fun t ht hkt => by
          by_cases hti : t = i
          · subst hti
            rw [hk] at hkt
            cases hkt
          · exact h3 t (by omega) hkt)
        (fun t ht => h4 t (by omega))
        (fun q' hq' f hf => by
          have es : kF g (kpT g q n) (i + 1) q' f = kF g (kpT g q n) i q' f + if kpT g q n i = true ∧ tQ g i = q' ∧ tF g i = f + 1 then 1 else 0 := rfl
          rw [es, if_neg (fun h => Bool.false_ne_true (hk.symm.trans h.1)), Nat.add_zero]
          exact h6 q' hq' f hf)
      refine ⟨en', fr', ?_, e2, e3⟩
      rw [qN_s, if_pos hqi, cK_f hk] at e1
      simp (disch := omega) only [n_0, n_1, n_2, n_3, n_4, n_5, n_6, n_7, n_8, n_9, n_10, n_12, n_13, n_15, n_20, n_24, n_27, n_31, n_32, n_33, n_36, n_44, n_48, n_50, n_57, n_58, n_59, n_72, n_74, n_75, n_85, n_91, n_96, n_97, n_99, n_122, n_255, n_300, n_432, n_600, n_900, n_999, n_1000, n_1291, n_1399, n_2798, n_11192, n_65536, n_65537, n_99999999, n_1000000, nI_add, pk_mul, q_le, q_lt, q_eq, q_cl, q_gi, q_gz, q_div, q_dm, d_dm, q_m1, q_mn, q_nm, q_mlt, q_ltm, q_mle, q_lem, q_mm, Option.bind_some, if_true, if_false, Nat.add_zero, ite_self, q_us, q_un, decide_true, decide_false, Bool.false_eq_true, eq_self, and_self, and_true, true_and, and_false, false_and, or_true, true_or, or_false, false_or, d_ltT, d_ltF, d_leT, d_leF, d_eqT, d_eqF, f_X4_removeLatest_L21, f_X4_removeLatest_L21_F, f_X4_removeLatest_L64, f_X4_removeLatest_L73, ep, hqi, q_d1, q_gt]
      exact e1
    · -- kept
      have hk2 := of_decide_eq_true hk
      obtain ⟨en', fr', e1, e2, e3⟩ := ih (i + 1) j (upd en (cK (kpT g q n) i) (en0 i)) (upd fr (12 * tQ g i + (tF g i - 1)) (nI (kF g (kpT g q n) i (tQ g i) (tF g i - 1) + 1))) (by omega) (by omega)
        (fun t ht hkt => by
          by_cases hti : t = i
          · subst hti
            exact q_us rfl
          · have := cK_lt hkt (show t < i by omega)
            rw [q_un (by omega)]
            exact h3 t (by omega) hkt)
        (fun t ht => by
          rw [q_un (by omega)]
          exact h4 t (by omega))
        (fun q' hq' f hf => by
          have es : kF g (kpT g q n) (i + 1) q' f = kF g (kpT g q n) i q' f + if kpT g q n i = true ∧ tQ g i = q' ∧ tF g i = f + 1 then 1 else 0 := rfl
          rw [es]
          by_cases hx : tQ g i = q' ∧ tF g i = f + 1
          · obtain ⟨x1, x2⟩ := hx
            subst x1
            rw [q_us (by omega), if_pos ⟨hk, rfl, x2⟩, x2, Nat.add_sub_cancel]
          · rw [q_un (by omega), if_neg (fun h => hx h.2), Nat.add_zero]
            exact h6 q' hq' f hf)
      refine ⟨en', fr', ?_, e2, e3⟩
      rw [qN_s, cK_t hk] at e1
      by_cases hqi : tQ g i = q
      · rw [if_pos hqi] at e1
        rw [hqi] at ep ea e1
        simp (disch := omega) only [n_0, n_1, n_2, n_3, n_4, n_5, n_6, n_7, n_8, n_9, n_10, n_12, n_13, n_15, n_20, n_24, n_27, n_31, n_32, n_33, n_36, n_44, n_48, n_50, n_57, n_58, n_59, n_72, n_74, n_75, n_85, n_91, n_96, n_97, n_99, n_122, n_255, n_300, n_432, n_600, n_900, n_999, n_1000, n_1291, n_1399, n_2798, n_11192, n_65536, n_65537, n_99999999, n_1000000, nI_add, pk_mul, q_le, q_lt, q_eq, q_cl, q_gi, q_gz, q_div, q_dm, d_dm, q_m1, q_mn, q_nm, q_mlt, q_ltm, q_mle, q_lem, q_mm, Option.bind_some, if_true, if_false, Nat.add_zero, ite_self, q_us, q_un, decide_true, decide_false, Bool.false_eq_true, eq_self, and_self, and_true, true_and, and_false, false_and, or_true, true_or, or_false, false_or, d_ltT, d_ltF, d_leT, d_leF, d_eqT, d_eqF, f_X4_removeLatest_L21, f_X4_removeLatest_L21_F, f_X4_removeLatest_L46, f_X4_removeLatest_L64, f_X4_removeLatest_L73, ep, ef, em, ea, q_d1, q_gt]
        exact e1
      · rw [if_neg hqi, Nat.add_zero] at e1
        simp (disch := omega) only [n_0, n_1, n_2, n_3, n_4, n_5, n_6, n_7, n_8, n_9, n_10, n_12, n_13, n_15, n_20, n_24, n_27, n_31, n_32, n_33, n_36, n_44, n_48, n_50, n_57, n_58, n_59, n_72, n_74, n_75, n_85, n_91, n_96, n_97, n_99, n_122, n_255, n_300, n_432, n_600, n_900, n_999, n_1000, n_1291, n_1399, n_2798, n_11192, n_65536, n_65537, n_99999999, n_1000000, nI_add, pk_mul, q_le, q_lt, q_eq, q_cl, q_gi, q_gz, q_div, q_dm, d_dm, q_m1, q_mn, q_nm, q_mlt, q_ltm, q_mle, q_lem, q_mm, Option.bind_some, if_true, if_false, Nat.add_zero, ite_self, q_us, q_un, decide_true, decide_false, Bool.false_eq_true, eq_self, and_self, and_true, true_and, and_false, false_and, or_true, true_or, or_false, false_or, d_ltT, d_ltF, d_leT, d_leF, d_eqT, d_eqF, f_X4_removeLatest_L21, f_X4_removeLatest_L21_F, f_X4_removeLatest_L46, f_X4_removeLatest_L64, f_X4_removeLatest_L73, ep, ef, em, ea, q_d1, q_gt]
        exact e1
theorem e_remove {N : Nat} {g : Nat → Nat} {en fr : Nat → Int32} {q r : Nat} (hN : 1000 < N) (hO : Ok g) (hE : ER g en) (hF : FR g fr) (hq : q < 36) (hr : r ≤ cQ g q) : ∃ en' fr', f_X4_removeLatest N (nI (g 5)) en fr (nI q) (nI r) = some (nI (cK (kpT g q (cQ g q - r)) (g 5)), en', fr') ∧ (∀ t, t < g 5 → kpT g q (cQ g q - r) t = true → en' (cK (kpT g q (cQ g q - r)) t) = en t) ∧ ∀ q', q' < 36 → ∀ f, f < 12 → fr' (12 * q' + f) = nI (kF g (kpT g q (cQ g q - r)) (g 5) q' f) := by
  have h5 := b_5 hO.1
  have hc := cQ_le hO.1 q
  obtain ⟨fr1, f1, f2⟩ := e_fill (N := N) (n := 432) (v := nI 0) (by omega) (by omega) fr
  obtain ⟨en', fr', e1, e2⟩ := e_removeL (N := N) (n := cQ g q - r) hO.1 hO.2.1 hO.2.2.2.1 hE hq (by omega) (g 5) 0 N en fr1 (by omega) (by omega) (fun t ht => by omega) (fun t ht => rfl) (fun q' hq' f hf => f2 (12 * q' + f) (by omega))
  refine ⟨en', fr', ?_, e2⟩
  rw [show qN g q 0 = 0 from rfl, q_sub (Nat.zero_le _), Nat.sub_zero] at e1
  simp (disch := omega) only [n_0, n_1, n_2, n_3, n_4, n_5, n_6, n_7, n_8, n_9, n_10, n_12, n_13, n_15, n_20, n_24, n_27, n_31, n_32, n_33, n_36, n_44, n_48, n_50, n_57, n_58, n_59, n_72, n_74, n_75, n_85, n_91, n_96, n_97, n_99, n_122, n_255, n_300, n_432, n_600, n_900, n_999, n_1000, n_1291, n_1399, n_2798, n_11192, n_65536, n_65537, n_99999999, n_1000000, nI_add, pk_mul, q_le, q_lt, q_eq, q_cl, q_gi, q_gz, q_sub, q_div, q_dm, d_dm, q_m1, q_mn, q_nm, q_mlt, q_ltm, q_mle, q_lem, q_mm, Option.bind_some, if_true, if_false, Nat.add_zero, ite_self, q_us, q_un, decide_true, decide_false, Bool.false_eq_true, eq_self, and_self, and_true, true_and, and_false, false_and, or_true, true_or, or_false, false_or, d_ltT, d_ltF, d_leT, d_leF, d_eqT, d_eqF, f_X4_removeLatest, f_X4_clear, e_pairThrows hN hO.1 hO.2.1 hO.2.2.2.1 hF hq, f1]
  exact e1
