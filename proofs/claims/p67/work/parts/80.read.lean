/-! a die, a player, the head: read well -/
theorem y_dieL {N L s F : Nat} {b w W : Nat → Nat} {tb fc dw0 : Nat → Int32} {eo : Int32} (hN : 2000 < N) (hT : TR b L tb) (h3 : w 3 < 6) (hF : 2 ≤ F ∧ F ≤ 6) (hW : ∀ i, i < F → W i ≤ 9 ∧ b (s + 4 + 2 * i) = 48 + W i) (hbl : ∀ i, i + 1 < F → b (s + 5 + 2 * i) = 32) (he : b (s + 3 + 2 * F) = 59) (hn : isL (b (s + 4 + 2 * F)) = true) (hL : s + 4 + 2 * F < L) (hpos : 0 < sumTo F W) : ∀ (k i j : Nat) (kd ts te tv : Int32) (g : Nat → Nat) (dw : Nat → Int32), i + k = F → k < j → TC b L (if i < F then s + 4 + 2 * i else s + 3 + 2 * F) kd ts te tv → sW w g → (∀ t, t < i → dW g (w 3) t = W t ∧ dw (12 * w 3 + t) = nI (W t)) → (∀ t, t < 12 * w 3 → dw t = dw0 t) → ∃ dw' kd' ts' te' tv' g', f_X5_readDie_L30 N (nI L) tb j (nI (w 3)) (nI i) (nI (sumTo i W)) (nI 0) eo (nI (w 3)) fc dw kd ts te tv = some (nI 0, eo, nI (w 3 + 1), upd fc (w 3) (nI F), dw', kd', ts', te', tv') ∧ TC b L (s + 4 + 2 * F) kd' ts' te' tv' ∧ sW w g' ∧ (∀ t, t < F → dW g' (w 3) t = W t ∧ dw' (12 * w 3 + t) = nI (W t)) ∧ ∀ t, t < 12 * w 3 → dw' t = dw0 t := by
  have hNx : 1000 < N := by omega
  have hle : ∀ i, i ≤ F → sumTo i W ≤ 108 := fun i hi => by
    have := sumTo_le (f := W) (b := 9) (n := i) (fun k hk => (hW k (by omega)).1)
    omega
  have hlast : isB (b (s + 4 + 2 * F)) = false := d_nb (by have := of_decide_eq_true hn; omega)
  intro k
  induction k with
  | zero =>
    intro i j kd ts te tv g dw h1 h2 hC hS hw hk
    obtain ⟨j, rfl⟩ : ∃ t, j = t + 1 := ⟨j - 1, by omega⟩
    obtain rfl : i = F := by omega
    rw [if_neg (by omega)] at hC
    obtain ⟨hs, hte⟩ := t_semi (L := L) he (by omega)
    obtain ⟨k1, k2, k3, k4, a1, a2⟩ := k_semi (N := N) (eo := eo) hNx hT hC hs (s' := s + 4 + 2 * i) (by rw [hte, show s + 3 + 2 * i + 1 = s + 4 + 2 * i by omega]; exact n_0b hL hlast)
    have hl := hle i (Nat.le_refl _)
    refine ⟨dw, k1, k2, k3, k4, g, ?_, a2, hS, hw, hk⟩
    show f_X5_readDie_L30_F N (nI L) tb (f_X5_readDie_L30 N (nI L) tb j) _ _ _ _ _ _ _ _ _ _ _ _ = _
    unfold f_X5_readDie_L30_F
    simp only [n_0, n_1, n_2, n_3, n_4, n_5, n_6, n_7, n_8, n_9, n_10, n_12, n_13, n_15, n_20, n_24, n_27, n_31, n_32, n_33, n_36, n_44, n_48, n_50, n_57, n_58, n_59, n_72, n_74, n_75, n_85, n_91, n_96, n_97, n_99, n_122, n_255, n_300, n_432, n_600, n_900, n_999, n_1000, n_1291, n_1399, n_2798, n_11192, n_65536, n_65537, n_99999999, n_1000000]
    rw [if_neg (show ¬ nI 12 < nI i by rw [q_lt (by omega) (by omega)]; omega), if_pos trivial, if_neg (show ¬ nI i < nI 2 by rw [q_lt (by omega) (by omega)]; omega), x_isS_t hT hC hs, Option.bind_some, if_neg (c_n0 (c := 1) (by omega) (by omega))]
    unfold f_X5_readDie_L120
    simp only [n_0, n_1, n_2, n_3, n_4, n_5, n_6, n_7, n_8, n_9, n_10, n_12, n_13, n_15, n_20, n_24, n_27, n_31, n_32, n_33, n_36, n_44, n_48, n_50, n_57, n_58, n_59, n_72, n_74, n_75, n_85, n_91, n_96, n_97, n_99, n_122, n_255, n_300, n_432, n_600, n_900, n_999, n_1000, n_1291, n_1399, n_2798, n_11192, n_65536, n_65537, n_99999999, n_1000000]
    rw [if_neg (show ¬ nI (sumTo i W) = nI 0 by rw [q_eq (by omega) (by omega)]; omega)]
    unfold f_X5_readDie_L131
    simp only [n_0, n_1, n_2, n_3, n_4, n_5, n_6, n_7, n_8, n_9, n_10, n_12, n_13, n_15, n_20, n_24, n_27, n_31, n_32, n_33, n_36, n_44, n_48, n_50, n_57, n_58, n_59, n_72, n_74, n_75, n_85, n_91, n_96, n_97, n_99, n_122, n_255, n_300, n_432, n_600, n_900, n_999, n_1000, n_1291, n_1399, n_2798, n_11192, n_65536, n_65537, n_99999999, n_1000000]
    rw [a1, Option.bind_some, if_pos rfl]
    simp (disch := omega) only [n_0, n_1, n_2, n_3, n_4, n_5, n_6, n_7, n_8, n_9, n_10, n_12, n_13, n_15, n_20, n_24, n_27, n_31, n_32, n_33, n_36, n_44, n_48, n_50, n_57, n_58, n_59, n_72, n_74, n_75, n_85, n_91, n_96, n_97, n_99, n_122, n_255, n_300, n_432, n_600, n_900, n_999, n_1000, n_1291, n_1399, n_2798, n_11192, n_65536, n_65537, n_99999999, n_1000000, nI_add, pk_mul, q_le, q_lt, q_eq, q_cl, q_gi, q_gz, q_sub, q_div, q_dm, d_dm, q_m1, q_mn, q_nm, q_mlt, q_ltm, q_mle, q_lem, q_mm, Option.bind_some, if_true, if_false, Nat.add_zero, ite_self, q_us, q_un, decide_true, decide_false, Bool.false_eq_true, eq_self, and_self, and_true, true_and, and_false, false_and, or_true, true_or, or_false, false_or, d_ltT, d_ltF, d_leT, d_leF, d_eqT, d_eqF, f_X0_add, e_put]
  | succ k ih =>
    intro i j kd ts te tv g dw h1 h2 hC hS hw hk
    obtain ⟨j, rfl⟩ : ∃ t, j = t + 1 := ⟨j - 1, by omega⟩
    rw [if_pos (by omega)] at hC
    obtain ⟨w9, hbi⟩ := hW i (by omega)
    have hl := hle i (by omega)
    have hl1 := hle (i + 1) (by omega)
    have hAt : At b (s + 4 + 2 * i) (decL (W i)) := by
      rw [decL_1 (by omega)]
      intro t c hc
      match t, hc with
      | 0, hc => cases hc; exact hbi
      | t + 1, hc => simp at hc
    have hlen : (decL (W i)).length = 1 := by rw [decL_1 (by omega)]; rfl
    have hnd : isD (b (s + 4 + 2 * i + (decL (W i)).length)) = false := by
      rw [hlen, show s + 4 + 2 * i + 1 = s + 5 + 2 * i by omega]
      by_cases c : i + 1 < F
      · rw [hbl i c]; decide
      · rw [show s + 5 + 2 * i = s + 3 + 2 * F by omega, he]; decide
    obtain ⟨tk, te9, tv9⟩ := t_num (L := L) hAt (by omega) (by omega) hnd
    rw [hlen] at te9
    have hnext : tkN b L (tkE b L (s + 4 + 2 * i)) = if i + 1 < F then s + 4 + 2 * (i + 1) else s + 3 + 2 * F := by
      rw [te9]
      by_cases c : i + 1 < F
      · rw [if_pos c, n_1b (by omega) (by rw [show s + 4 + 2 * i + 1 = s + 5 + 2 * i by omega]; exact hbl i c) (by
          rw [show s + 4 + 2 * i + 1 + 1 = s + 4 + 2 * (i + 1) by omega]
          have := hW (i + 1) c
          exact d_nb (by omega))]
        omega
      · rw [if_neg c, n_0b (by omega) (by
          rw [show s + 4 + 2 * i + 1 = s + 3 + 2 * F by omega, he]
          decide)]
        omega
    obtain ⟨k1, k2, k3, k4, a1, a2⟩ := k_num (N := N) (eo := eo) (lo := 0) (hi := 9) hNx hT hC tk tv9 hnext (by omega) (by omega) (by omega)
    have hS2 : sW w (up g (7 + 13 * w 3 + 1 + i) (W i)) := fun k hk => by
      rw [up_n (by omega)]
      exact hS k hk
    have hdW : ∀ t, t < i → dW (up g (7 + 13 * w 3 + 1 + i) (W i)) (w 3) t = dW g (w 3) t := fun t ht => up_n (by omega)
    have hdi : dW (up g (7 + 13 * w 3 + 1 + i) (W i)) (w 3) i = W i := up_s rfl
    obtain ⟨dw', q1, q2, q3, q4, g', z1, z2, z3, z4, z5⟩ := ih (i + 1) j k1 k2 k3 k4 (up g (7 + 13 * w 3 + 1 + i) (W i)) (upd dw (12 * w 3 + i) (nI (W i))) (by omega) (by omega) a2 hS2 (fun t ht => by
      by_cases hti : t = i
      · rw [hti, hdi, q_us rfl]
        exact ⟨rfl, rfl⟩
      · rw [hdW t (by omega), q_un (by omega)]
        exact hw t (by omega)) (fun t ht => by rw [q_un (by omega)]; exact hk t ht)
    refine ⟨dw', q1, q2, q3, q4, g', ?_, z2, z3, z4, z5⟩
    have hst : sumTo (i + 1) W = sumTo i W + W i := rfl
    rw [hst] at z1
    have hns : ¬ isS b L (s + 4 + 2 * i) := fun x => by
      have := x.1
      omega
    have h58 : f_X5_readDie_L58 N (nI L) tb (f_X5_readDie_L30 N (nI L) tb j) (nI (w 3)) (nI i) (nI (sumTo i W)) (nI 0) eo (nI (w 3)) fc dw kd ts te tv = some (nI 0, eo, nI (w 3 + 1), upd fc (w 3) (nI F), dw', q1, q2, q3, q4) := by
      unfold f_X5_readDie_L58
      simp only [n_0, n_1, n_2, n_3, n_4, n_5, n_6, n_7, n_8, n_9, n_10, n_12, n_13, n_15, n_20, n_24, n_27, n_31, n_32, n_33, n_36, n_44, n_48, n_50, n_57, n_58, n_59, n_72, n_74, n_75, n_85, n_91, n_96, n_97, n_99, n_122, n_255, n_300, n_432, n_600, n_900, n_999, n_1000, n_1291, n_1399, n_2798, n_11192, n_65536, n_65537, n_99999999, n_1000000]
      rw [if_pos (by rw [q_lt (by omega) (by omega)]; omega)]
      unfold f_X5_readDie_L79
      simp only [n_0, n_1, n_2, n_3, n_4, n_5, n_6, n_7, n_8, n_9, n_10, n_12, n_13, n_15, n_20, n_24, n_27, n_31, n_32, n_33, n_36, n_44, n_48, n_50, n_57, n_58, n_59, n_72, n_74, n_75, n_85, n_91, n_96, n_97, n_99, n_122, n_255, n_300, n_432, n_600, n_900, n_999, n_1000, n_1291, n_1399, n_2798, n_11192, n_65536, n_65537, n_99999999, n_1000000]
      rw [a1, Option.bind_some, if_pos rfl, nI_add]
      have hpw : f_X0_putWeight dw (nI (w 3)) (nI (i + 1)) (nI (W i)) = some (upd dw (12 * w 3 + i) (nI (W i))) := by
        simp (disch := omega) only [n_0, n_1, n_2, n_3, n_4, n_5, n_6, n_7, n_8, n_9, n_10, n_12, n_13, n_15, n_20, n_24, n_27, n_31, n_32, n_33, n_36, n_44, n_48, n_50, n_57, n_58, n_59, n_72, n_74, n_75, n_85, n_91, n_96, n_97, n_99, n_122, n_255, n_300, n_432, n_600, n_900, n_999, n_1000, n_1291, n_1399, n_2798, n_11192, n_65536, n_65537, n_99999999, n_1000000, nI_add, pk_mul, q_le, q_lt, q_eq, q_cl, q_gi, q_gz, q_sub, q_div, q_dm, d_dm, q_m1, q_mn, q_nm, q_mlt, q_ltm, q_mle, q_lem, q_mm, Option.bind_some, if_true, if_false, Nat.add_zero, ite_self, q_us, q_un, decide_true, decide_false, Bool.false_eq_true, eq_self, and_self, and_true, true_and, and_false, false_and, or_true, true_or, or_false, false_or, d_ltT, d_ltF, d_leT, d_leF, d_eqT, d_eqF, f_X0_putWeight, e_cell, e_put]
      rw [hpw, Option.bind_some]
      unfold f_X5_readDie_L117
      rw [nI_add]
      exact z1
    show f_X5_readDie_L30_F N (nI L) tb (f_X5_readDie_L30 N (nI L) tb j) _ _ _ _ _ _ _ _ _ _ _ _ = _
    unfold f_X5_readDie_L30_F
    simp only [n_0, n_1, n_2, n_3, n_4, n_5, n_6, n_7, n_8, n_9, n_10, n_12, n_13, n_15, n_20, n_24, n_27, n_31, n_32, n_33, n_36, n_44, n_48, n_50, n_57, n_58, n_59, n_72, n_74, n_75, n_85, n_91, n_96, n_97, n_99, n_122, n_255, n_300, n_432, n_600, n_900, n_999, n_1000, n_1291, n_1399, n_2798, n_11192, n_65536, n_65537, n_99999999, n_1000000]
    rw [if_neg (show ¬ nI 12 < nI i by rw [q_lt (by omega) (by omega)]; omega), if_pos trivial]
    by_cases hi2 : i < 2
    · rw [if_pos (show nI i < nI 2 by rw [q_lt (by omega) (by omega)]; exact hi2)]
      exact h58
    · rw [if_neg (show ¬ nI i < nI 2 by rw [q_lt (by omega) (by omega)]; exact hi2), x_isS_f hT hC hns, Option.bind_some, if_pos rfl]
      exact h58
theorem y_die {N L s F : Nat} {b g W : Nat → Nat} {tb : Nat → Int32} {sd : Int32} {mn : Int32} {th : Int32} {dc : Int32} {fc : Nat → Int32} {dw : Nat → Int32} {pc : Int32} {ln : Nat → Int32} {lt : Nat → Int32} {tc : Int32} {en : Nat → Int32} {fr : Nat → Int32} {oc : Int32} {op : Nat → Int32} {os : Nat → Int32} {kd ts te tv eo : Int32} (hN : 2000 < N) (hT : TR b L tb) (hC : TC b L s kd ts te tv) (hO : Ok g) (hZ : ZR fc) (hH : HR g sd mn th dc fc dw pc ln lt tc en fr oc op os) (h3 : g 3 < 6) (hF : 2 ≤ F ∧ F ≤ 6) (hk : tkE b L s = s + 3) (hb3 : b (s + 3) = 32) (hW : ∀ i, i < F → W i ≤ 9 ∧ b (s + 4 + 2 * i) = 48 + W i) (hbl : ∀ i, i + 1 < F → b (s + 5 + 2 * i) = 32) (he : b (s + 3 + 2 * F) = 59) (hn : isL (b (s + 4 + 2 * F)) = true) (hL : s + 4 + 2 * F < L) (hpos : 0 < sumTo F W) : ∃ dc' fc' dw' kd' ts' te' tv' g', f_X5_readDie N (nI L) tb (nI 0) eo dc fc dw kd ts te tv = some (nI 0, eo, dc', fc', dw', kd', ts', te', tv') ∧ TC b L (s + 4 + 2 * F) kd' ts' te' tv' ∧ Ok g' ∧ ZR fc' ∧ HR g' sd mn th dc' fc' dw' pc ln lt tc en fr oc op os ∧ g' 3 = g 3 + 1 ∧ g' 4 = g 4 ∧ g' 5 = g 5 ∧ g' 6 = g 6 ∧ dF g' (g 3) = F ∧ ∀ d, d < g 3 → dF g' d = dF g d := by
  obtain ⟨⟨q0, q1, q2, q3, q4, q5, q6⟩, hD, hP, hE, hFR, hQ⟩ := hH
  have hNx : 1000 < N := by omega
  subst q3
  have hw0 := hW 0 (by omega)
  obtain ⟨s1, s2, s3, s4, a1, a2⟩ := k_key (N := N) (eo := eo) hNx hT hC (s' := s + 4) (by rw [hk]; exact n_1b (by omega) hb3 (d_nb (by rw [show s + 3 + 1 = s + 4 + 2 * 0 by omega]; omega)))
  obtain ⟨dw', p1, p2, p3, p4, g', z1, z2, r9, r13, r15⟩ := y_dieL (w := g) (W := W) (fc := fc) (dw0 := dw) (eo := eo) hN hT h3 hF hW hbl he hn hL hpos F 0 N s1 s2 s3 s4 g dw (by omega) (by omega) (by rw [if_pos (by omega)]; exact a2) (fun k _ => rfl) (fun t ht => by omega) (fun t _ => rfl)
  obtain ⟨o1, o2, o3, o4, o5, o6⟩ := sW_ok r9 hO h3
  have hok := gDie_ok o1 (show g' 3 < 6 by omega) hF.1 (by omega : F ≤ 12) (fun i hi => by rw [o2, (r13 i hi).1]; exact (hW i hi).1) (by rw [o2, sumTo_congr (fun i hi => (r13 i hi).1)]; exact hpos)
  obtain ⟨t1, t2, t3⟩ := gDie_s (g := g') (n := F) (show g' 3 < 6 by omega)
  refine ⟨nI (g 3 + 1), upd fc (g 3) (nI F), dw', p1, p2, p3, p4, gDie g' F, ?_, z2, hok, ?_, ⟨⟨?_, ?_, ?_, ?_, ?_, ?_, ?_⟩, ?_, sP_R t1 o1.1 (sP_R o3 hO.1 hP), sT_E t2 o1.1 (sT_E o4 hO.1 hE), sT_F t2 o1.1 (sT_F o4 hO.1 hFR), sO_Q t3 o1.1 (sO_Q o5 hO.1 hQ)⟩, ?_, ?_, ?_, ?_, ?_, ?_⟩
  · unfold f_X5_readDie
    simp only [n_0, n_1, n_2, n_3, n_4, n_5, n_6, n_7, n_8, n_9, n_10, n_12, n_13, n_15, n_20, n_24, n_27, n_31, n_32, n_33, n_36, n_44, n_48, n_50, n_57, n_58, n_59, n_72, n_74, n_75, n_85, n_91, n_96, n_97, n_99, n_122, n_255, n_300, n_432, n_600, n_900, n_999, n_1000, n_1291, n_1399, n_2798, n_11192, n_65536, n_65537, n_99999999, n_1000000]
    rw [if_pos (by rw [q_lt (by omega) (by omega)]; omega)]
    unfold f_X5_readDie_L23
    simp only [n_0, n_1, n_2, n_3, n_4, n_5, n_6, n_7, n_8, n_9, n_10, n_12, n_13, n_15, n_20, n_24, n_27, n_31, n_32, n_33, n_36, n_44, n_48, n_50, n_57, n_58, n_59, n_72, n_74, n_75, n_85, n_91, n_96, n_97, n_99, n_122, n_255, n_300, n_432, n_600, n_900, n_999, n_1000, n_1291, n_1399, n_2798, n_11192, n_65536, n_65537, n_99999999, n_1000000]
    rw [a1, Option.bind_some]
    exact z1
  · intro d hd
    by_cases hdg : d = g 3
    · rw [q_us hdg]
      exact ⟨F, by omega, rfl⟩
    · rw [q_un hdg]
      exact hZ d hd
  · rw [q0, gDie_n (by omega) (by omega), o6 0 (by omega)]
  · rw [q1, gDie_n (by omega) (by omega), o6 1 (by omega)]
  · rw [q2, gDie_n (by omega) (by omega), o6 2 (by omega)]
  · rw [gDie_3, o2]
  · rw [q4, t1.1, o3.1]
  · rw [q5, t2.1, o4.1]
  · rw [q6, t3.1, o5.1]
  · intro d hd
    rw [gDie_3, o2] at hd
    by_cases hdg : d = g 3
    · rw [q_us hdg, hdg, ← o2, gDie_F]
      exact ⟨rfl, fun i hi => by rw [gDie_W (by omega), o2, (r13 i hi).1]; exact (r13 i hi).2⟩
    · have eF : dF g' d = dF g d := r9 _ (by omega)
      rw [q_un hdg, gDie_Fo (by omega), eF]
      have hdd := hO.2.1 d (by omega)
      refine ⟨(hD d (by omega)).1, fun i hi => ?_⟩
      have eW : dW g' d i = dW g d i := r9 _ (by omega)
      rw [gDie_W (by omega), eW, r15 _ (by omega)]
      exact (hD d (by omega)).2 i hi
  · rw [gDie_3, o2]
  · rw [t1.1, o3.1]
  · rw [t2.1, o4.1]
  · rw [t3.1, o5.1]
  · rw [← o2, gDie_F]
  · intro d hd
    have eF : dF g' d = dF g d := r9 _ (by omega)
    rw [gDie_Fo (by omega), eF]
theorem y_play {N L s n s2 : Nat} {b g : Nat → Nat} {tb : Nat → Int32} {sd : Int32} {mn : Int32} {th : Int32} {dc : Int32} {fc : Nat → Int32} {dw : Nat → Int32} {pc : Int32} {ln : Nat → Int32} {lt : Nat → Int32} {tc : Int32} {en : Nat → Int32} {fr : Nat → Int32} {oc : Int32} {op : Nat → Int32} {os : Nat → Int32} {kd ts te tv eo : Int32} (hN : 2000 < N) (hT : TR b L tb) (hC : TC b L s kd ts te tv) (hO : Ok g) (hH : HR g sd mn th dc fc dw pc ln lt tc en fr oc op os) (h4 : g 4 < 6) (hk : tkE b L s = s + 6) (hb6 : b (s + 6) = 32) (hn : 1 ≤ n ∧ n ≤ 4) (hl : ∀ i, i < n → 97 ≤ b (s + 7 + i) ∧ b (s + 7 + i) ≤ 122) (he : b (s + 7 + n) = 59) (hL : s + 7 + n < L) (hs2 : tkN b L (s + 8 + n) = s2) (hnew : ∀ p, p < g 4 → nC g p ≠ wdC b (s + 7) n) : ∃ pc' ln' lt' kd' ts' te' tv', f_X5_readPlayer N (nI L) tb (nI 0) eo pc ln lt kd ts te tv = some (nI 0, eo, pc', ln', lt', kd', ts', te', tv') ∧ TC b L s2 kd' ts' te' tv' ∧ Ok (gPlay g (wdC b (s + 7) n)) ∧ HR (gPlay g (wdC b (s + 7) n)) sd mn th dc fc dw pc' ln' lt' tc en fr oc op os := by
  obtain ⟨⟨q0, q1, q2, q3, q4, q5, q6⟩, hD, hP, hE, hF, hQ⟩ := hH
  have hNx : 1000 < N := by omega
  have b4 := b_4 hO.1
  have hl0 := hl 0 (by omega)
  obtain ⟨s1', k2, k3, k4, a1, a2⟩ := k_key (N := N) (eo := eo) hNx hT hC (s' := s + 7) (by rw [hk]; exact n_1b (by omega) hb6 (d_nb (by rw [show s + 6 + 1 = s + 7 + 0 by omega]; omega)))
  obtain ⟨tk, te9⟩ := t_word (b := b) (L := L) (s := s + 7) hn.1 (fun t ht => decide_eq_true (hl t ht)) hL (by rw [he]; decide)
  obtain ⟨l1, l2, l3, l4, c2, c4⟩ := k_adv (N := N) hNx hT a2 (s' := s + 7 + n) (by rw [te9]; exact n_0b hL (by rw [he]; decide))
  obtain ⟨hs, hte⟩ := t_semi (L := L) he (by omega)
  obtain ⟨n1, n2, n3, n4, f2, f4⟩ := k_semi (N := N) (eo := eo) hNx hT c4 hs (s' := s2) (by rw [hte, show s + 7 + n + 1 = s + 8 + n by omega]; exact hs2)
  have w1 : wdOk b (s + 7) n := ⟨hn.1, hn.2, hl⟩
  have w3 := wdC_ok w1
  have hf := e_find (N := N) (s := s + 7) (e := s + 7 + n) hNx hO.1 hO.2.2.1 hP hT (by omega) (by omega)
  rw [show s + 7 + n - (s + 7) = n by omega, gFind_t w1] at hf
  have hsr : srch (fun p => decide (nC g p = wdC b (s + 7) n)) (g 4) 0 = -nI 1 := by
    rcases srch_s (p := fun p => decide (nC g p = wdC b (s + 7) n)) (k := g 4) (i := 0) (by omega) with ⟨h, -⟩ | ⟨j, -, j2, j3, -⟩
    · exact h
    · exact absurd (of_decide_eq_true j3) (hnew j (by omega))
  rw [hsr] at hf
  obtain ⟨lt', u1, u2, u3⟩ := e_addNameL (N := N) (ln := ln) (lt0 := lt) (P := g 4) hT (show s + 7 ≤ s + 7 + n by omega) (by omega) (by omega) 4 0 N lt (by omega) (by omega) (fun t ht => by omega) (fun t _ => rfl)
  have hok := gPlay_ok hO h4 w3.1 hnew
  obtain ⟨s5, s6, s7⟩ := gPlay_s (c := wdC b (s + 7) n) hO h4
  have hnr : NR (gPlay g (wdC b (s + 7) n)) (upd ln (g 4) (nI (s + 7 + n - (s + 7)))) lt' := fun p hp => by
    rw [gPlay_4] at hp
    by_cases hpe : p = g 4
    · rw [hpe, gPlay_C, q_us rfl, w3.2.1, show s + 7 + n - (s + 7) = n by omega]
      exact ⟨rfl, fun i hi => by rw [u2 i hi, w3.2.2 i hi, show s + 7 + n - (s + 7) = n by omega]⟩
    · have eC : nC (gPlay g (wdC b (s + 7) n)) p = nC g p := gPlay_n (by omega) (by omega)
      rw [eC, q_un hpe]
      exact ⟨(hP p (by omega)).1, fun i hi => by rw [u3 _ (by omega)]; exact (hP p (by omega)).2 i hi⟩
  refine ⟨nI (g 4 + 1), _, lt', n1, n2, n3, n4, ?_, f4, hok, ⟨⟨?_, ?_, ?_, ?_, ?_, ?_, ?_⟩, sD_R s5 hO.1 hO.2.1 hD, hnr, sT_E s6 hO.1 hE, sT_F s6 hO.1 hF, sO_Q s7 hO.1 hQ⟩⟩
  · subst q4
    unfold f_X5_readPlayer
    simp only [n_0, n_1, n_2, n_3, n_4, n_5, n_6, n_7, n_8, n_9, n_10, n_12, n_13, n_15, n_20, n_24, n_27, n_31, n_32, n_33, n_36, n_44, n_48, n_50, n_57, n_58, n_59, n_72, n_74, n_75, n_85, n_91, n_96, n_97, n_99, n_122, n_255, n_300, n_432, n_600, n_900, n_999, n_1000, n_1291, n_1399, n_2798, n_11192, n_65536, n_65537, n_99999999, n_1000000]
    rw [if_pos (by rw [q_lt (by omega) (by omega)]; omega)]
    unfold f_X5_readPlayer_L21
    simp only [n_0, n_1, n_2, n_3, n_4, n_5, n_6, n_7, n_8, n_9, n_10, n_12, n_13, n_15, n_20, n_24, n_27, n_31, n_32, n_33, n_36, n_44, n_48, n_50, n_57, n_58, n_59, n_72, n_74, n_75, n_85, n_91, n_96, n_97, n_99, n_122, n_255, n_300, n_432, n_600, n_900, n_999, n_1000, n_1291, n_1399, n_2798, n_11192, n_65536, n_65537, n_99999999, n_1000000]
    have ha : f_X7_add N (nI L) tb (nI (g 4)) ln lt (nI (s + 7)) (nI (s + 7 + n)) = some (nI (g 4 + 1), upd ln (g 4) (nI (s + 7 + n - (s + 7))), lt') := by
      simp (disch := omega) only [n_0, n_1, n_2, n_3, n_4, n_5, n_6, n_7, n_8, n_9, n_10, n_12, n_13, n_15, n_20, n_24, n_27, n_31, n_32, n_33, n_36, n_44, n_48, n_50, n_57, n_58, n_59, n_72, n_74, n_75, n_85, n_91, n_96, n_97, n_99, n_122, n_255, n_300, n_432, n_600, n_900, n_999, n_1000, n_1291, n_1399, n_2798, n_11192, n_65536, n_65537, n_99999999, n_1000000, nI_add, pk_mul, q_le, q_lt, q_eq, q_cl, q_gi, q_gz, q_sub, q_div, q_dm, d_dm, q_m1, q_mn, q_nm, q_mlt, q_ltm, q_mle, q_lem, q_mm, Option.bind_some, if_true, if_false, Nat.add_zero, ite_self, q_us, q_un, decide_true, decide_false, Bool.false_eq_true, eq_self, and_self, and_true, true_and, and_false, false_and, or_true, true_or, or_false, false_or, d_ltT, d_ltF, d_leT, d_leF, d_eqT, d_eqF, f_X7_add]
      exact u1
    have g1 := a2.2.2.1
    have g2 := a2.2.2.2.1
    rw [te9] at g2
    have hd : k3 - k2 = nI n := by rw [g1, g2, pk_sub (by omega), show s + 7 + n - (s + 7) = n by omega]
    have c1 := a2.2.1
    rw [tk] at c1
    rw [← g1, ← g2] at ha hf
    have hnn : f_X5_takeNewName N (nI L) tb (nI (g 4)) ln lt (nI 0) eo s1' k2 k3 k4 = some (nI 0, eo, l1, l2, l3, l4) := by
      subst c1
      simp (disch := omega) only [n_0, n_1, n_2, n_3, n_4, n_5, n_6, n_7, n_8, n_9, n_10, n_12, n_13, n_15, n_20, n_24, n_27, n_31, n_32, n_33, n_36, n_44, n_48, n_50, n_57, n_58, n_59, n_72, n_74, n_75, n_85, n_91, n_96, n_97, n_99, n_122, n_255, n_300, n_432, n_600, n_900, n_999, n_1000, n_1291, n_1399, n_2798, n_11192, n_65536, n_65537, n_99999999, n_1000000, nI_add, pk_mul, q_le, q_lt, q_eq, q_cl, q_gi, q_gz, q_sub, q_div, q_dm, d_dm, q_m1, q_mn, q_nm, q_mlt, q_ltm, q_mle, q_lem, q_mm, Option.bind_some, if_true, if_false, Nat.add_zero, ite_self, q_us, q_un, decide_true, decide_false, Bool.false_eq_true, eq_self, and_self, and_true, true_and, and_false, false_and, or_true, true_or, or_false, false_or, d_ltT, d_ltF, d_leT, d_leF, d_eqT, d_eqF, f_X5_takeNewName, hd, hf, c2]
    rw [a1, Option.bind_some, hnn, Option.bind_some, f2, Option.bind_some, if_pos rfl, ha, Option.bind_some]
  · rw [q0, gPlay_n (by omega) (by omega)]
  · rw [q1, gPlay_n (by omega) (by omega)]
  · rw [q2, gPlay_n (by omega) (by omega)]
  · rw [q3, s5.1]
  · rw [gPlay_4]
  · rw [q5, s6.1]
  · rw [q6, s7.1]
theorem y_head {N L v1 v2 v3 m1 m2 m3 : Nat} {b : Nat → Nat} {tb : Nat → Int32} {sd : Int32} {mn : Int32} {th : Int32} {dc : Int32} {fc : Nat → Int32} {dw : Nat → Int32} {pc : Int32} {ln : Nat → Int32} {lt : Nat → Int32} {tc : Int32} {en : Nat → Int32} {fr : Nat → Int32} {oc : Int32} {op : Nat → Int32} {os : Nat → Int32} {kd ts te tv eo : Int32} (hN : 2000 < N) (hT : TR b L tb) (hC : TC b L 0 kd ts te tv) (e1 : m1 = (decL v1).length) (e2 : m2 = (decL v2).length) (e3 : m3 = (decL v3).length) (hA0 : At b 0 (kLt 8)) (hA1 : At b 5 (decL v1)) (c1 : b (5 + m1) = 32) (hA2 : At b (6 + m1) (decL v2)) (c2 : b (6 + m1 + m2) = 32) (hA3 : At b (7 + m1 + m2) (decL v3)) (c3 : b (7 + m1 + m2 + m3) = 59) (hn : isL (b (8 + m1 + m2 + m3)) = true) (hL : 8 + m1 + m2 + m3 < L) (h1 : v1 ≤ 65536) (h2 : 1 ≤ v2 ∧ v2 ≤ 99) (h3 : v3 ≤ 999) : ∃ fr' kd' ts' te' tv', f_X5_readHall N (nI L) tb (nI 0) eo sd mn th dc pc tc fr oc kd ts te tv = some (nI 0, eo, nI v1, nI v2, nI v3, nI 0, nI 0, nI 0, fr', nI 0, kd', ts', te', tv') ∧ TC b L (8 + m1 + m2 + m3) kd' ts' te' tv' ∧ ∀ t, t < 432 → fr' t = nI 0 := by
  have hNx : 1000 < N := by omega
  have l1 := @decL_len v1
  have l2 := @decL_len v2
  have l3 := @decL_len v3
  rw [kl_8.1] at hA0
  have g0 : b 0 = 104 := At_h hA0
  have g1 : b 1 = 97 := At_h (At_t hA0)
  have g2 : b 2 = 108 := At_h (At_t (At_t hA0))
  have g3 : b 3 = 108 := At_h (At_t (At_t (At_t hA0)))
  have g4 : b 4 = 32 := At_h (At_t (At_t (At_t (At_t hA0))))
  have hfst : ∀ v, v < 100000 → ∀ s, At b s (decL v) → isB (b s) = false := fun v hv s h => by
    have hl := @decL_len v
    have hg : (decL v)[0]? = some ((decL v)[0]) := List.getElem?_eq_getElem (by omega)
    have := h 0 _ hg
    rw [Nat.add_zero] at this
    rw [this]
    exact d_nb (Or.inl (decL_at hv hg))
  have hlast : isB (b (8 + m1 + m2 + m3)) = false := d_nb (by have := of_decide_eq_true hn; omega)
  obtain ⟨kw1, -, -, kw4, -, -⟩ := kw_l
  obtain ⟨tk, te9⟩ := t_word (b := b) (L := L) (s := 0) (n := 4) (by omega) (fun t ht => by
    rw [Nat.zero_add]
    match t, ht with
    | 0, _ => rw [g0]; decide
    | 1, _ => rw [g1]; decide
    | 2, _ => rw [g2]; decide
    | 3, _ => rw [g3]; decide) (by omega) (by rw [g4]; decide)
  have hw : isW b L 0 1 = true := isW_t tk (by rw [kw1]; exact te9) (fun t ht => by
    rw [kw1] at ht
    rw [kw4 t ht, Nat.zero_add, kl_8.1]
    match t, ht with
    | 0, _ => rw [g0]; rfl
    | 1, _ => rw [g1]; rfl
    | 2, _ => rw [g2]; rfl
    | 3, _ => rw [g3]; rfl)
  have x1 := x_isWord hNx hT k_1 hC
  rw [hw] at x1
  obtain ⟨k1, k2, k3, k4, a1, a2⟩ := k_key (N := N) (eo := eo) hNx hT hC (s' := 5) (by rw [te9]; exact n_1b (by omega) g4 (hfst v1 (by omega) 5 hA1))
  obtain ⟨p1, p2, p3⟩ := t_num (L := L) hA1 (by omega) (by omega) (by rw [← e1, c1]; decide)
  obtain ⟨l1', l2', l3', l4', b1, b2⟩ := k_num (N := N) (eo := eo) (lo := 0) (hi := 65536) hNx hT a2 p1 p3 (s' := 6 + m1) (by rw [p2, ← e1, n_1b (by omega) c1 (by rw [show 5 + m1 + 1 = 6 + m1 by omega]; exact hfst v2 (by omega) _ hA2)]; omega) (by omega) h1 (by omega)
  obtain ⟨p1, p2, p3⟩ := t_num (L := L) hA2 (by omega) (by omega) (by rw [← e2, c2]; decide)
  obtain ⟨n1', n2', n3', n4', d1, d2⟩ := k_num (N := N) (eo := eo) (lo := 1) (hi := 99) hNx hT b2 p1 p3 (s' := 7 + m1 + m2) (by rw [p2, ← e2, n_1b (by omega) c2 (by rw [show 6 + m1 + m2 + 1 = 7 + m1 + m2 by omega]; exact hfst v3 (by omega) _ hA3)]; omega) h2.1 h2.2 (by omega)
  obtain ⟨p1, p2, p3⟩ := t_num (L := L) hA3 (by omega) (by omega) (by rw [← e3, c3]; decide)
  obtain ⟨o1', o2', o3', o4', f1, f2⟩ := k_num (N := N) (eo := eo) (lo := 0) (hi := 999) hNx hT d2 p1 p3 (s' := 7 + m1 + m2 + m3) (by rw [p2, ← e3]; exact n_0b (by omega) (by rw [c3]; decide)) (by omega) h3 (by omega)
  obtain ⟨hs, hte⟩ := t_semi (L := L) c3 (by omega)
  obtain ⟨q1', q2', q3', q4', i1, i2⟩ := k_semi (N := N) (eo := eo) hNx hT f2 hs (s' := 8 + m1 + m2 + m3) (by rw [hte, show 7 + m1 + m2 + m3 + 1 = 8 + m1 + m2 + m3 by omega]; exact n_0b hL hlast)
  obtain ⟨fr', u1, u2⟩ := e_fill (N := N) (n := 432) (v := nI 0) (by omega) (by omega) fr
  refine ⟨fr', q1', q2', q3', q4', ?_, i2, u2⟩
  unfold f_X5_readHall
  simp only [n_0, n_1, n_2, n_3, n_4, n_5, n_6, n_7, n_8, n_9, n_10, n_12, n_13, n_15, n_20, n_24, n_27, n_31, n_32, n_33, n_36, n_44, n_48, n_50, n_57, n_58, n_59, n_72, n_74, n_75, n_85, n_91, n_96, n_97, n_99, n_122, n_255, n_300, n_432, n_600, n_900, n_999, n_1000, n_1291, n_1399, n_2798, n_11192, n_65536, n_65537, n_99999999, n_1000000]
  rw [x1, Option.bind_some, if_neg b_t]
  unfold f_X5_readHall_L18
  simp only [n_0, n_1, n_2, n_3, n_4, n_5, n_6, n_7, n_8, n_9, n_10, n_12, n_13, n_15, n_20, n_24, n_27, n_31, n_32, n_33, n_36, n_44, n_48, n_50, n_57, n_58, n_59, n_72, n_74, n_75, n_85, n_91, n_96, n_97, n_99, n_122, n_255, n_300, n_432, n_600, n_900, n_999, n_1000, n_1291, n_1399, n_2798, n_11192, n_65536, n_65537, n_99999999, n_1000000]
  rw [a1, Option.bind_some, b1, Option.bind_some, d1, Option.bind_some, f1, Option.bind_some, i1, Option.bind_some, if_pos rfl]
  unfold f_X2_begin f_X0_clear f_X7_clear f_X4_clear f_X6_clear
  simp only [n_0, n_1, n_2, n_3, n_4, n_5, n_6, n_7, n_8, n_9, n_10, n_12, n_13, n_15, n_20, n_24, n_27, n_31, n_32, n_33, n_36, n_44, n_48, n_50, n_57, n_58, n_59, n_72, n_74, n_75, n_85, n_91, n_96, n_97, n_99, n_122, n_255, n_300, n_432, n_600, n_900, n_999, n_1000, n_1291, n_1399, n_2798, n_11192, n_65536, n_65537, n_99999999, n_1000000]
  rw [u1]
  rfl
/-! a statement -/
theorem z_die {N L s F : Nat} {b g W : Nat → Nat} {tb : Nat → Int32} {sd : Int32} {mn : Int32} {th : Int32} {dc : Int32} {fc : Nat → Int32} {dw : Nat → Int32} {pc : Int32} {ln : Nat → Int32} {lt : Nat → Int32} {tc : Int32} {en : Nat → Int32} {fr : Nat → Int32} {oc : Int32} {op : Nat → Int32} {os : Nat → Int32} {kd ts te tv eo : Int32} (hN : 2000 < N) (hT : TR b L tb) (hC : TC b L s kd ts te tv) (hO : Ok g) (hZ : ZR fc) (hH : HR g sd mn th dc fc dw pc ln lt tc en fr oc op os) (h3 : g 3 < 6) (hF : 2 ≤ F ∧ F ≤ 6) (hA : At b s (kLt 2)) (hb3 : b (s + 3) = 32) (hW : ∀ i, i < F → W i ≤ 9 ∧ b (s + 4 + 2 * i) = 48 + W i) (hbl : ∀ i, i + 1 < F → b (s + 5 + 2 * i) = 32) (he : b (s + 3 + 2 * F) = 59) (hn : isL (b (s + 4 + 2 * F)) = true) (hL : s + 4 + 2 * F < L) (hpos : 0 < sumTo F W) : ∃ dc' fc' dw' kd' ts' te' tv' g', f_X5_readStatement N (nI L) tb mn th (nI 0) eo sd dc fc dw pc ln lt tc en fr oc op os kd ts te tv = some (nI 0, eo, sd, dc', fc', dw', pc, ln, lt, tc, en, fr, oc, op, os, kd', ts', te', tv') ∧ kd = nI 1 ∧ TC b L (s + 4 + 2 * F) kd' ts' te' tv' ∧ Ok g' ∧ ZR fc' ∧ HR g' sd mn th dc' fc' dw' pc ln lt tc en fr oc op os ∧ g' 3 = g 3 + 1 ∧ g' 4 = g 4 ∧ g' 5 = g 5 ∧ g' 6 = g 6 ∧ dF g' (g 3) = F ∧ ∀ d, d < g 3 → dF g' d = dF g d := by
  have hNx : 1000 < N := by omega
  rw [kl_8.2.1] at hA
  have g0 : b s = 100 := At_h hA
  have g1 : b (s + 1) = 105 := At_h (At_t hA)
  have g2 : b (s + 2) = 101 := At_h (At_t (At_t hA))
  obtain ⟨-, kw2, -, -, kw5, -⟩ := kw_l
  obtain ⟨tk, te9⟩ := t_word (b := b) (L := L) (s := s) (n := 3) (by omega) (fun t ht => by
    match t, ht with
    | 0, _ => rw [Nat.add_zero, g0]; decide
    | 1, _ => rw [g1]; decide
    | 2, _ => rw [g2]; decide) (by omega) (by rw [hb3]; decide)
  have hw : isW b L s 2 = true := isW_t tk (by rw [kw2]; exact te9) (fun t ht => by
    rw [kw2] at ht
    rw [kw5 t ht, kl_8.2.1]
    match t, ht with
    | 0, _ => rw [Nat.add_zero, g0]; rfl
    | 1, _ => rw [g1]; rfl
    | 2, _ => rw [g2]; rfl)
  have x1 := x_isWord hNx hT k_2 hC
  rw [hw] at x1
  obtain ⟨dc', fc', dw', q1, q2, q3, q4, g', z1, z2⟩ := y_die (eo := eo) hN hT hC hO hZ hH h3 hF te9 hb3 hW hbl he hn hL hpos
  refine ⟨dc', fc', dw', q1, q2, q3, q4, g', ?_, by rw [hC.2.1, tk], z2⟩
  unfold f_X5_readStatement
  simp only [n_0, n_1, n_2, n_3, n_4, n_5, n_6, n_7, n_8, n_9, n_10, n_12, n_13, n_15, n_20, n_24, n_27, n_31, n_32, n_33, n_36, n_44, n_48, n_50, n_57, n_58, n_59, n_72, n_74, n_75, n_85, n_91, n_96, n_97, n_99, n_122, n_255, n_300, n_432, n_600, n_900, n_999, n_1000, n_1291, n_1399, n_2798, n_11192, n_65536, n_65537, n_99999999, n_1000000]
  rw [x1, Option.bind_some, if_neg b_t, z1, Option.bind_some]
theorem z_play {N L s n s2 : Nat} {b g : Nat → Nat} {tb : Nat → Int32} {sd : Int32} {mn : Int32} {th : Int32} {dc : Int32} {fc : Nat → Int32} {dw : Nat → Int32} {pc : Int32} {ln : Nat → Int32} {lt : Nat → Int32} {tc : Int32} {en : Nat → Int32} {fr : Nat → Int32} {oc : Int32} {op : Nat → Int32} {os : Nat → Int32} {kd ts te tv eo : Int32} (hN : 2000 < N) (hT : TR b L tb) (hC : TC b L s kd ts te tv) (hO : Ok g) (hH : HR g sd mn th dc fc dw pc ln lt tc en fr oc op os) (h4 : g 4 < 6) (hA : At b s [112, 108, 97, 121, 101, 114, 32]) (hn : 1 ≤ n ∧ n ≤ 4) (hl : ∀ i, i < n → 97 ≤ b (s + 7 + i) ∧ b (s + 7 + i) ≤ 122) (he : b (s + 7 + n) = 59) (hL : s + 7 + n < L) (hs2 : tkN b L (s + 8 + n) = s2) (hnew : ∀ p, p < g 4 → nC g p ≠ wdC b (s + 7) n) : ∃ pc' ln' lt' kd' ts' te' tv', f_X5_readStatement N (nI L) tb mn th (nI 0) eo sd dc fc dw pc ln lt tc en fr oc op os kd ts te tv = some (nI 0, eo, sd, dc, fc, dw, pc', ln', lt', tc, en, fr, oc, op, os, kd', ts', te', tv') ∧ kd = nI 1 ∧ TC b L s2 kd' ts' te' tv' ∧ Ok (gPlay g (wdC b (s + 7) n)) ∧ HR (gPlay g (wdC b (s + 7) n)) sd mn th dc fc dw pc' ln' lt' tc en fr oc op os := by
  have hNx : 1000 < N := by omega
  have g0 : b s = 112 := At_h hA
  have g1 : b (s + 1) = 108 := At_h (At_t hA)
  have g2 : b (s + 2) = 97 := At_h (At_t (At_t hA))
  have g3 : b (s + 3) = 121 := At_h (At_t (At_t (At_t hA)))
  have g4 : b (s + 4) = 101 := At_h (At_t (At_t (At_t (At_t hA))))
  have g5 : b (s + 5) = 114 := At_h (At_t (At_t (At_t (At_t (At_t hA)))))
  have g6 : b (s + 6) = 32 := At_h (At_t (At_t (At_t (At_t (At_t (At_t hA))))))
  obtain ⟨-, kw2, kw3, -, -, kw6⟩ := kw_l
  obtain ⟨tk, te9⟩ := t_word (b := b) (L := L) (s := s) (n := 6) (by omega) (fun t ht => by
    match t, ht with
    | 0, _ => rw [Nat.add_zero, g0]; decide
    | 1, _ => rw [g1]; decide
    | 2, _ => rw [g2]; decide
    | 3, _ => rw [g3]; decide
    | 4, _ => rw [g4]; decide
    | 5, _ => rw [g5]; decide) (by omega) (by rw [g6]; decide)
  have hw : isW b L s 3 = true := isW_t tk (by rw [kw3]; exact te9) (fun t ht => by
    rw [kw3] at ht
    rw [kw6 t ht]
    match t, ht with
    | 0, _ => rw [Nat.add_zero, g0]; rfl
    | 1, _ => rw [g1]; rfl
    | 2, _ => rw [g2]; rfl
    | 3, _ => rw [g3]; rfl
    | 4, _ => rw [g4]; rfl
    | 5, _ => rw [g5]; rfl)
  have hw2 : isW b L s 2 = false := isW_n (by rw [kw2]; omega)
  have x1 := x_isWord hNx hT k_3 hC
  have x2 := x_isWord hNx hT k_2 hC
  rw [hw] at x1
  rw [hw2] at x2
  obtain ⟨pc', ln', lt', q1, q2, q3, q4, z1, z2⟩ := y_play (eo := eo) hN hT hC hO hH h4 te9 g6 hn hl he hL hs2 hnew
  refine ⟨pc', ln', lt', q1, q2, q3, q4, ?_, by rw [hC.2.1, tk], z2⟩
  unfold f_X5_readStatement
  simp only [n_0, n_1, n_2, n_3, n_4, n_5, n_6, n_7, n_8, n_9, n_10, n_12, n_13, n_15, n_20, n_24, n_27, n_31, n_32, n_33, n_36, n_44, n_48, n_50, n_57, n_58, n_59, n_72, n_74, n_75, n_85, n_91, n_96, n_97, n_99, n_122, n_255, n_300, n_432, n_600, n_900, n_999, n_1000, n_1291, n_1399, n_2798, n_11192, n_65536, n_65537, n_99999999, n_1000000]
  rw [x2, Option.bind_some, if_pos b_f, x1, Option.bind_some, if_neg b_t, z1, Option.bind_some]
theorem z_more {N i j : Nat} {tl : Int32} {tb : Nat → Int32} {sd : Int32} {mn : Int32} {th : Int32} {dc : Int32} {fc : Nat → Int32} {dw : Nat → Int32} {pc : Int32} {ln : Nat → Int32} {lt : Nat → Int32} {tc : Int32} {en : Nat → Int32} {fr : Nat → Int32} {oc : Int32} {op : Nat → Int32} {os : Nat → Int32} {sd1 : Int32} {mn1 : Int32} {th1 : Int32} {dc1 : Int32} {fc1 : Nat → Int32} {dw1 : Nat → Int32} {pc1 : Int32} {ln1 : Nat → Int32} {lt1 : Nat → Int32} {tc1 : Int32} {en1 : Nat → Int32} {fr1 : Nat → Int32} {oc1 : Int32} {op1 : Nat → Int32} {os1 : Nat → Int32} {kd ts te tv eo kd' ts' te' tv' : Int32} (hi : i < 100) (hk : kd = nI 1) (h : f_X5_readStatement N tl tb mn th (nI 0) eo sd dc fc dw pc ln lt tc en fr oc op os kd ts te tv = some (nI 0, eo, sd1, dc1, fc1, dw1, pc1, ln1, lt1, tc1, en1, fr1, oc1, op1, os1, kd', ts', te', tv')) : f_X5_parse_L23 N tl tb (j + 1) (nI i) (nI 0) eo sd mn th dc fc dw pc ln lt tc en fr oc op os kd ts te tv = f_X5_parse_L23 N tl tb j (nI (i + 1)) (nI 0) eo sd1 mn th dc1 fc1 dw1 pc1 ln1 lt1 tc1 en1 fr1 oc1 op1 os1 kd' ts' te' tv' := by
  show f_X5_parse_L23_F N tl tb (f_X5_parse_L23 N tl tb j) _ _ _ _ _ _ _ _ _ _ _ _ _ _ _ _ _ _ _ _ _ _ = _
  unfold f_X5_parse_L23_F f_X5_hasMore
  rw [hk] at h ⊢
  simp only [n_0, n_1, n_2, n_3, n_4, n_5, n_6, n_7, n_8, n_9, n_10, n_12, n_13, n_15, n_20, n_24, n_27, n_31, n_32, n_33, n_36, n_44, n_48, n_50, n_57, n_58, n_59, n_72, n_74, n_75, n_85, n_91, n_96, n_97, n_99, n_122, n_255, n_300, n_432, n_600, n_900, n_999, n_1000, n_1291, n_1399, n_2798, n_11192, n_65536, n_65537, n_99999999, n_1000000]
  rw [if_neg (by rw [q_le (by omega) (by omega)]; omega), if_pos trivial, if_neg (c_n0 (c := 1) (by omega) (by omega)), Option.bind_some, if_neg (c_n0 (c := 1) (by omega) (by omega)), h, Option.bind_some, nI_add]
theorem z_end {N i j : Nat} {tl : Int32} {tb : Nat → Int32} {sd : Int32} {mn : Int32} {th : Int32} {dc : Int32} {fc : Nat → Int32} {dw : Nat → Int32} {pc : Int32} {ln : Nat → Int32} {lt : Nat → Int32} {tc : Int32} {en : Nat → Int32} {fr : Nat → Int32} {oc : Int32} {op : Nat → Int32} {os : Nat → Int32} {kd ts te tv eo : Int32} (hi : i < 100) (hk : kd = nI 0) : f_X5_parse_L23 N tl tb (j + 1) (nI i) (nI 0) eo sd mn th dc fc dw pc ln lt tc en fr oc op os kd ts te tv = some (nI 1, nI 0, eo, sd, mn, th, dc, fc, dw, pc, ln, lt, tc, en, fr, oc, op, os, kd, ts, te, tv) := by
  show f_X5_parse_L23_F N tl tb (f_X5_parse_L23 N tl tb j) _ _ _ _ _ _ _ _ _ _ _ _ _ _ _ _ _ _ _ _ _ _ = _
  unfold f_X5_parse_L23_F f_X5_hasMore f_X5_parse_L47
  rw [hk]
  simp only [n_0, n_1, n_2, n_3, n_4, n_5, n_6, n_7, n_8, n_9, n_10, n_12, n_13, n_15, n_20, n_24, n_27, n_31, n_32, n_33, n_36, n_44, n_48, n_50, n_57, n_58, n_59, n_72, n_74, n_75, n_85, n_91, n_96, n_97, n_99, n_122, n_255, n_300, n_432, n_600, n_900, n_999, n_1000, n_1291, n_1399, n_2798, n_11192, n_65536, n_65537, n_99999999, n_1000000]
  rw [if_neg (by rw [q_le (by omega) (by omega)]; omega), if_pos trivial, if_pos trivial, Option.bind_some, if_pos rfl, if_pos trivial]
