/-! the hand beside a row of numbers: throws, weights, offences -/
def HW (g : Nat → Nat) (ul : Nat → Nat) (uw : Nat → Nat → Int32) : Prop := ∀ d, d < g 3 → ul d = dF g d ∧ ∀ i, i < dF g d → uw d i = nI (dW g d i)
def rT (g : Nat → Nat) (k : Nat) (c : Nat → Int32) : Prop := c 0 = nI (tP g k) ∧ c 1 = nI (tD g k) ∧ c 2 = nI (tF g k) ∧ c 3 = nI (tB g k)
def HT (g : Nat → Nat) (ut : Nat → Option (Nat → Int32)) : Prop := ∀ k, k < g 5 → ∃ c, ut k = some c ∧ rT g k c
def rO (g : Nat → Nat) (r : Nat) (c : Nat → Int32) : Prop := c 0 = nI (oP g r) ∧ c 1 = nI (oD g r) ∧ c 2 = nI (oS g r)
theorem T_0 : Int32.toNatClampNeg 0 = 0 := by decide +kernel
theorem T_1 : Int32.toNatClampNeg 1 = 1 := by decide +kernel
theorem T_2 : Int32.toNatClampNeg 2 = 2 := by decide +kernel
theorem T_3 : Int32.toNatClampNeg 3 = 3 := by decide +kernel
theorem t_bd2 {g : Nat → Nat} (hB : okB g) (hT : okT g) {k : Nat} (hk : k < g 5) : tP g k < 6 ∧ tD g k < 6 ∧ tB g k < 2 := by
  have h := hT k hk
  have h3 := b_3 hB
  have h4 := b_4 hB
  omega
theorem h_pairL {N : Nat} {g : Nat → Nat} {ut : Nat → Option (Nat → Int32)} {p d : Nat} (hB : okB g) (hT : okT g) (hU : HT g ut) (hp : p < 6) (hd : d < 6) : ∀ j i : Nat, i ≤ g 5 → g 5 < i + j → f_X11_ofPair_L5 N ut (nI (g 5)) j (nI p) (nI d) (nI (qN g (6 * p + d) i)) (nI i) = some (nI (cQ g (6 * p + d))) := by
  have h5 := b_5 hB
  intro j
  induction j with
  | zero => intro i h1 h2; omega
  | succ j ih =>
    intro i h1 h2
    show f_X11_ofPair_L5_F N ut (nI (g 5)) (f_X11_ofPair_L5 N ut (nI (g 5)) j) _ _ _ _ = _
    unfold f_X11_ofPair_L5_F f_X11_ofPair_L43
    simp only [T_0, T_1]
    by_cases hi : g 5 ≤ i
    · rw [if_pos (by rw [q_le (by omega) (by omega)]; exact hi), show i = g 5 by omega]
      rfl
    · obtain ⟨c, e, c0, c1, -, -⟩ := hU i (by omega)
      have hb := t_bd2 hB hT (show i < g 5 by omega)
      have hx := tQ_pd (p := p) hB hT hd (show i < g 5 by omega)
      rw [if_neg (by rw [q_le (by omega) (by omega)]; exact hi), q_gi (by omega) (by omega), q_cl (by omega), e, Option.bind_some, c0]
      have hs : qN g (6 * p + d) (i + 1) = qN g (6 * p + d) i + if tQ g i = 6 * p + d then 1 else 0 := rfl
      have hii := ih (i + 1) (by omega) (by omega)
      by_cases hP : tP g i = p
      · rw [if_pos (by rw [hP]), q_gi (by omega) (by omega), Option.bind_some, c1]
        by_cases hD : tD g i = d
        · rw [if_pos (by rw [hD]), n_1, nI_add, nI_add]
          rw [if_pos (hx.mpr ⟨hP, hD⟩)] at hs
          rw [hs] at hii
          exact hii
        · rw [if_neg (by rw [q_eq (by omega) (by omega)]; exact hD), n_1, nI_add]
          rw [if_neg (fun q => hD (hx.mp q).2)] at hs
          rw [hs] at hii
          exact hii
      · rw [if_neg (by rw [q_eq (by omega) (by omega)]; exact hP), n_1, nI_add]
        rw [if_neg (fun q => hP (hx.mp q).1)] at hs
        rw [hs] at hii
        exact hii
theorem h_pair {N : Nat} {g : Nat → Nat} {ut : Nat → Option (Nat → Int32)} {p d : Nat} (hN : 1000 < N) (hB : okB g) (hT : okT g) (hU : HT g ut) (hp : p < 6) (hd : d < 6) : f_X11_ofPair N ut (nI (g 5)) (nI p) (nI d) = some (nI (cQ g (6 * p + d))) := by
  have h5 := b_5 hB
  exact h_pairL (N := N) hB hT hU hp hd N 0 (by omega) (by omega)
/-! the score -/
theorem l_step {a n F : Nat} : lN a - lN n + lN F = lN (a + F) - lN n := by
  rw [Int64.sub_eq_add_neg, Int64.sub_eq_add_neg, Int64.add_assoc, Int64.add_comm (-lN n), ← Int64.add_assoc, lN_add]
theorem l_sq {a n : Nat} : (lN a - lN n) * (lN a - lN n) = lN (gSq a n) := by
  unfold gSq
  by_cases h : a ≤ n
  · rw [if_pos h, show lN a - lN n = -(lN n - lN a) from Int64.neg_sub.symm, Int64.neg_mul, Int64.mul_neg, Int64.neg_neg, lN_sub h, lN_mul]
  · rw [if_neg h, lN_sub (by omega), lN_mul]
theorem l_neg {n : Nat} (h : n < 2147483648) : (-nI n).toInt64 = lN 0 - lN n := by
  rw [Int32.toInt64_neg_of_ne, nI_l h]
  · rw [Int64.sub_eq_add_neg]
    exact (Int64.zero_add _).symm
  · intro e
    have h1 := congrArg Int32.toInt e
    rw [nI_toInt h] at h1
    have h2 : Int32.toInt (-2147483648) = -2147483648 := by decide +kernel
    omega
theorem h_faceL {N : Nat} {g : Nat → Nat} {ul : Nat → Nat} {ut : Nat → Option (Nat → Int32)} {r : Int32 → Int32 → Int32 → Int32 → Int64 → Int32 → Option Int32} {p d f F s : Nat} (hB : okB g) (hD : okD g) (hT : okT g) (hU : HT g ut) (hp : p < 6) (hd : d < 6) (hF : F ≤ 12) (hf : f < 12) : ∀ j i : Nat, i ≤ g 5 → g 5 < i + j → f_X11_score_L37 N ul ut (nI (g 5)) r j (nI p) (nI d) (nI (cQ g (6 * p + d))) (nI F) (lN s) (nI (f + 1)) (lN (F * sumTo i (fun k => if tQ g k = 6 * p + d ∧ tF g k = f + 1 then 1 else 0)) - lN (cQ g (6 * p + d))) (nI i) = r (nI p) (nI d) (nI (cQ g (6 * p + d))) (nI F) (lN (s + gSq (F * cF g (6 * p + d) f) (cQ g (6 * p + d)))) (nI (f + 1 + 1)) := by
  have h5 := b_5 hB
  intro j
  induction j with
  | zero => intro i h1 h2; omega
  | succ j ih =>
    intro i h1 h2
    show f_X11_score_L37_F N ul ut (nI (g 5)) r (f_X11_score_L37 N ul ut (nI (g 5)) r j) _ _ _ _ _ _ _ _ = _
    unfold f_X11_score_L37_F f_X11_score_L94
    simp only [T_0, T_1, T_2]
    by_cases hi : g 5 ≤ i
    · rw [if_pos (by rw [q_le (by omega) (by omega)]; exact hi), show i = g 5 by omega, l_sq, lN_add, n_1, nI_add]
      rfl
    · obtain ⟨c, e, c0, c1, c2, -⟩ := hU i (by omega)
      have hb := t_bd2 hB hT (show i < g 5 by omega)
      have hb2 := t_bd hB hD hT (show i < g 5 by omega)
      have hx := tQ_pd (p := p) hB hT hd (show i < g 5 by omega)
      rw [if_neg (by rw [q_le (by omega) (by omega)]; exact hi), q_gi (by omega) (by omega), q_cl (by omega), e, Option.bind_some, c0]
      have hs : sumTo (i + 1) (fun k => if tQ g k = 6 * p + d ∧ tF g k = f + 1 then 1 else 0) = sumTo i (fun k => if tQ g k = 6 * p + d ∧ tF g k = f + 1 then 1 else 0) + if tQ g i = 6 * p + d ∧ tF g i = f + 1 then 1 else 0 := rfl
      have hii := ih (i + 1) (by omega) (by omega)
      by_cases hP : tP g i = p
      · rw [if_pos (by rw [hP]), q_gi (by omega) (by omega), Option.bind_some, c1]
        by_cases hDD : tD g i = d
        · rw [if_pos (by rw [hDD]), q_gi (by omega) (by omega), Option.bind_some, c2]
          by_cases hFF : tF g i = f + 1
          · rw [if_pos (by rw [hFF]), nI_l (by omega), l_step, n_1, nI_add]
            rw [if_pos ⟨hx.mpr ⟨hP, hDD⟩, hFF⟩] at hs
            rw [hs, Nat.mul_add, Nat.mul_one] at hii
            exact hii
          · rw [if_neg (by rw [q_eq (by omega) (by omega)]; exact hFF), n_1, nI_add]
            rw [if_neg (fun q => hFF q.2)] at hs
            rw [hs] at hii
            exact hii
        · rw [if_neg (by rw [q_eq (by omega) (by omega)]; exact hDD), n_1, nI_add]
          rw [if_neg (fun q => hDD (hx.mp q.1).2)] at hs
          rw [hs] at hii
          exact hii
      · rw [if_neg (by rw [q_eq (by omega) (by omega)]; exact hP), n_1, nI_add]
        rw [if_neg (fun q => hP (hx.mp q.1).1)] at hs
        rw [hs] at hii
        exact hii
theorem h_scoreL {N : Nat} {g : Nat → Nat} {ul : Nat → Nat} {ut : Nat → Option (Nat → Int32)} {p d : Nat} (hN : 1000 < N) (hB : okB g) (hD : okD g) (hT : okT g) (hU : HT g ut) (hp : p < 6) (hd : d < g 3) : ∀ j i : Nat, i ≤ dF g d → dF g d < i + j → f_X11_score_L22 N ul ut (nI (g 5)) j (nI p) (nI d) (nI (cQ g (6 * p + d))) (nI (dF g d)) (lN (sumTo i (fun t => gSq (dF g d * cF g (6 * p + d) t) (cQ g (6 * p + d))))) (nI (i + 1)) = some (nI (cS g (6 * p + d))) := by
  have h5 := b_5 hB
  have h3 := b_3 hB
  have hF := hD d hd
  have hq := cQ_le hB (6 * p + d)
  intro j
  induction j with
  | zero => intro i h1 h2; omega
  | succ j ih =>
    intro i h1 h2
    show f_X11_score_L22_F N ul ut (nI (g 5)) (f_X11_score_L22 N ul ut (nI (g 5)) j) _ _ _ _ _ _ = _
    unfold f_X11_score_L22_F
    by_cases hi : dF g d ≤ i
    · rw [if_pos (by rw [q_lt (by omega) (by omega)]; omega), show i = dF g d by omega]
      have e6 : (6 * p + d) % 6 = d := by omega
      unfold cS gTest
      rw [e6]
      by_cases h0 : cQ g (6 * p + d) = 0
      · rw [if_pos (by rw [h0, n_0]), h0, if_pos (Nat.zero_mul _), n_0]
      · have hm : 0 < cQ g (6 * p + d) * dF g d := Nat.mul_pos (by omega) (by omega)
        have hm2 : cQ g (6 * p + d) * dF g d ≤ 300 * 12 := Nat.mul_le_mul hq hF.2.1
        have hb := (gTest_bd (g := cF g (6 * p + d)) (S := cQ g (6 * p + d)) hF.2.1 (by omega) (fun t _ => Nat.le_trans (cF_le _ t) (by omega))).1
        rw [if_neg (by rw [n_0, q_eq (by omega) (by omega)]; exact h0), pk_mul, nI_l (by omega), if_neg (by omega), pk_lDiv (by omega) hm (by omega), lN_i]
        have hz : nzl (lN (cQ g (6 * p + d) * dF g d)) = true := decide_eq_true (fun q => by
          have := (lN_eq (a := cQ g (6 * p + d) * dF g d) (b := 0) (by omega) (by omega)).mp q
          omega)
        unfold gd
        rw [if_pos hz]
    · rw [if_neg (by rw [q_lt (by omega) (by omega)]; omega), l_neg (by omega), n_0]
      have h := h_faceL (N := N) (ul := ul) (r := f_X11_score_L22 N ul ut (nI (g 5)) j) (s := sumTo i (fun t => gSq (dF g d * cF g (6 * p + d) t) (cQ g (6 * p + d)))) (f := i) (F := dF g d) hB hD hT hU hp (show d < 6 by omega) hF.2.1 (by omega) N 0 (by omega) (by omega)
      rw [sumTo_0, Nat.mul_zero] at h
      rw [h]
      exact ih (i + 1) (by omega) (by omega)
theorem h_score {N : Nat} {g : Nat → Nat} {ul : Nat → Nat} {uw : Nat → Nat → Int32} {ut : Nat → Option (Nat → Int32)} {p d : Nat} (hN : 1000 < N) (hB : okB g) (hD : okD g) (hT : okT g) (h33 : g 3 = 3) (hW : HW g ul uw) (hU : HT g ut) (hp : p < 6) (hd : d < 3) : f_X11_score N ul ut (nI (g 5)) (nI p) (nI d) = some (nI (cS g (6 * p + d))) := by
  have hF := hD d (by omega)
  unfold f_X11_score
  rw [h_pair hN hB hT hU hp (by omega), Option.bind_some, q_gi hd (by omega), q_cl (by omega), (hW d (by omega)).1]
  exact h_scoreL hN hB hD hT hU hp (by omega) N 0 (by omega) (by omega)
theorem h_bad {N : Nat} {g : Nat → Nat} {ul : Nat → Nat} {uw : Nat → Nat → Int32} {ut : Nat → Option (Nat → Int32)} {p d : Nat} (hN : 1000 < N) (hB : okB g) (hD : okD g) (hT : okT g) (h33 : g 3 = 3) (hW : HW g ul uw) (hU : HT g ut) (hp : p < 6) (hd : d < 3) : f_X11_isBad N ul ut (nI (g 5)) (nI (g 1)) (nI (g 2)) (nI p) (nI d) = some (bI (susp g (6 * p + d))) := by
  have hq := cQ_le hB (6 * p + d)
  have h1 := hB.2.2.1
  have h2 := hB.2.2.2.1
  have hs := cS_lt (q := 6 * p + d) hB hD hT
  unfold f_X11_isBad
  rw [h_pair hN hB hT hU hp (by omega), Option.bind_some]
  unfold susp bI
  by_cases a : g 1 ≤ cQ g (6 * p + d)
  · rw [if_neg (by rw [q_lt (by omega) (by omega)]; omega), h_score hN hB hD hT h33 hW hU hp hd, Option.bind_some]
    by_cases b : g 2 < cS g (6 * p + d)
    · rw [if_neg (by rw [q_le (by omega) (by omega)]; omega), if_pos (decide_eq_true ⟨a, b⟩), n_1]
    · rw [if_pos (by rw [q_le (by omega) (by omega)]; omega), if_neg (fun q => b (of_decide_eq_true q).2), n_0]
  · rw [if_pos (by rw [q_lt (by omega) (by omega)]; omega), if_neg (fun q => a (of_decide_eq_true q).1), n_0]
