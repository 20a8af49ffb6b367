/-! what the class's changes do, without the model -/
theorem cT_all {g : Nat → Nat} (hT : okT g) : sumTo (g 4) (cT g) = sumTo (g 5) (tF g) := by
  show sumTo (g 4) (fun p => sumTo (g 5) (fun k => if tP g k = p then tF g k else 0)) = _
  rw [sumTo_swap]
  refine sumTo_congr (fun k hk => ?_)
  refine (sumTo_congr (fun q hq => ?_)).trans (sumTo_one (a := tP g k) (c := tF g k) (hT k hk).1)
  by_cases h9 : tP g k = q
  · rw [if_pos h9, if_pos h9.symm]
  · rw [if_neg h9, if_neg (fun h => h9 h.symm)]
theorem e_totDL {N : Nat} {g : Nat → Nat} {en fr : Nat → Int32} (hN : 1000 < N) (hB : okB g) (hD : okD g) (hT : okT g) (hE : ER g en) (hF : FR g fr) : ∀ k p j : Nat, p + k = g 4 → k < j → f_X10_totalDifference_L4 N (nI (g 4)) (nI (g 5)) en fr j (nI (sumTo p (cT g))) (nI p) = some (nI 0) := by
  have b4 := b_4 hB
  intro k
  induction k with
  | zero =>
    intro p j h1 h2
    obtain ⟨j, rfl⟩ : ∃ t, j = t + 1 := ⟨j - 1, by omega⟩
    have e : p = g 4 := by omega
    subst e
    have u1 := e_faceSum hN hB hD hT hE
    rw [cT_all hT]
    simp (disch := omega) only [n_0, n_1, n_2, n_3, n_4, n_5, n_6, n_7, n_8, n_9, n_10, n_12, n_13, n_15, n_20, n_24, n_27, n_31, n_32, n_33, n_36, n_44, n_48, n_50, n_57, n_58, n_59, n_72, n_74, n_75, n_85, n_91, n_96, n_97, n_99, n_122, n_255, n_300, n_432, n_600, n_900, n_999, n_1000, n_1291, n_1399, n_2798, n_11192, n_65536, n_65537, n_99999999, n_1000000, nI_add, pk_mul, q_le, q_lt, q_eq, q_cl, q_gi, q_gz, q_sub, q_div, q_dm, d_dm, q_m1, q_mn, q_nm, q_mlt, q_ltm, q_mle, q_lem, q_mm, Option.bind_some, if_true, if_false, Nat.add_zero, ite_self, q_us, q_un, decide_true, decide_false, Bool.false_eq_true, eq_self, and_self, and_true, true_and, and_false, false_and, or_true, true_or, or_false, false_or, d_ltT, d_ltF, d_leT, d_leF, d_eqT, d_eqF, f_X10_totalDifference_L4, f_X10_totalDifference_L4_F, u1, Nat.sub_self]
  | succ k ih =>
    intro p j h1 h2
    obtain ⟨j, rfl⟩ : ∃ t, j = t + 1 := ⟨j - 1, by omega⟩
    have u1 := e_total (p := p) hN hB hD hT hF (by omega)
    have hi := ih (p + 1) j (by omega) (by omega)
    simp (disch := omega) only [n_0, n_1, n_2, n_3, n_4, n_5, n_6, n_7, n_8, n_9, n_10, n_12, n_13, n_15, n_20, n_24, n_27, n_31, n_32, n_33, n_36, n_44, n_48, n_50, n_57, n_58, n_59, n_72, n_74, n_75, n_85, n_91, n_96, n_97, n_99, n_122, n_255, n_300, n_432, n_600, n_900, n_999, n_1000, n_1291, n_1399, n_2798, n_11192, n_65536, n_65537, n_99999999, n_1000000, nI_add, pk_mul, q_le, q_lt, q_eq, q_cl, q_gi, q_gz, q_sub, q_div, q_dm, d_dm, q_m1, q_mn, q_nm, q_mlt, q_ltm, q_mle, q_lem, q_mm, Option.bind_some, if_true, if_false, Nat.add_zero, ite_self, q_us, q_un, decide_true, decide_false, Bool.false_eq_true, eq_self, and_self, and_true, true_and, and_false, false_and, or_true, true_or, or_false, false_or, d_ltT, d_ltF, d_leT, d_leF, d_eqT, d_eqF, f_X10_totalDifference_L4, f_X10_totalDifference_L4_F, u1]
    exact hi
theorem sc_HR {g g' : Nat → Nat} {sd : Int32} {mn : Int32} {th : Int32} {dc : Int32} {fc : Nat → Int32} {dw : Nat → Int32} {pc : Int32} {ln : Nat → Int32} {lt : Nat → Int32} {tc : Int32} {en : Nat → Int32} {fr : Nat → Int32} {oc : Int32} {op : Nat → Int32} {os : Nat → Int32} (hk : ∀ k, 3 ≤ k → g' k = g k) (hB : okB g') (hO : Ok g) (hH : HR g sd mn th dc fc dw pc ln lt tc en fr oc op os) : Ok g' ∧ HR g' (nI (g' 0)) (nI (g' 1)) (nI (g' 2)) dc fc dw pc ln lt tc en fr oc op os := by
  obtain ⟨⟨q0, q1, q2, q3, q4, q5, q6⟩, hR, hNR, hE, hF, hQ⟩ := hH
  have w1 : sT g g' := ⟨hk 5 (by omega), fun k k1 k2 => hk k (by omega)⟩
  have w2 : sD g g' := ⟨hk 3 (by omega), fun k k1 k2 => hk k (by omega)⟩
  have w3 : sP g g' := ⟨hk 4 (by omega), fun k k1 k2 => hk k (by omega)⟩
  have w4 : sO g g' := ⟨hk 6 (by omega), fun k k1 k2 => hk k (by omega)⟩
  exact ⟨⟨hB, sD_ok w2 hO.1 hO.2.1, sP_ok w3 hO.1 hO.2.2.1, sT_ok w1 w2 w3 hO.1 hO.2.2.2.1, sO_ok w4 w2.1 w3.1 hO.1 hO.2.2.2.2⟩, ⟨rfl, rfl, rfl, by rw [w2.1]; exact q3, by rw [w3.1]; exact q4, by rw [w1.1]; exact q5, by rw [w4.1]; exact q6⟩, sD_R w2 hO.1 hO.2.1 hR, sP_R w3 hO.1 hNR, sT_E w1 hO.1 hE, sT_F w1 hO.1 hF, sO_Q w4 hO.1 hQ⟩
theorem sum_up {f f' : Nat → Nat} {n i v : Nat} (hi : i < n) (h1 : f' i = v) (h2 : ∀ j, j < n → j ≠ i → f' j = f j) : sumTo n f' + f i = sumTo n f + v := by
  have e1 : sumTo n (fun j => f' j + if j = i then f i else 0) = sumTo n (fun j => f j + if j = i then v else 0) := sumTo_congr (fun j hj => by
    by_cases c : j = i
    · subst c; rw [if_pos rfl, if_pos rfl, h1]; omega
    · rw [if_neg c, if_neg c, h2 j hj c])
  rw [sumTo_add, sumTo_add, sumTo_one hi, sumTo_one hi] at e1
  exact e1

theorem q_le8 {b : Nat} (h : b ≤ 8) : (if 8 < b + 1 then 8 else b + 1) ≤ 8 := by split <;> omega
theorem pr_t {p d P D : Nat} (hp : p < P) (hd : d < D) (h1 : P < 2147483648) (h2 : D < 2147483648) : f_X10_requirePair (nI D) (nI P) (nI p) (nI d) = some (.inr ()) := by
  unfold f_X10_requirePair f_X10_requirePlayer f_X10_requireDie
  rw [ci_t hp h1, sbd_t, sbd_t, ci_t hd h2, sbd_t, sbd_t]
theorem rd_t {d D : Nat} (hd : d < D) (h2 : D < 2147483648) : f_X10_requireDie (nI D) (nI d) = some (.inr ()) := by
  unfold f_X10_requireDie
  rw [ci_t hd h2, sbd_t]
theorem rp_t {d D : Nat} (hd : d < D) (h2 : D < 2147483648) : f_X10_requirePlayer (nI D) (nI d) = some (.inr ()) := by
  unfold f_X10_requirePlayer
  rw [ci_t hd h2, sbd_t]
theorem fc_t {g : Nat → Nat} {fc dw : Nat → Int32} (hB : okB g) (hR : DR g fc dw) {d : Nat} (hd : d < g 3) : f_X0_faceCount fc (nI d) = some (nI (dF g d)) := by
  have h3 := b_3 hB
  have := (hR d hd).1
  simp (disch := omega) only [n_0, n_1, n_2, n_3, n_4, n_5, n_6, n_7, n_8, n_9, n_10, n_12, n_13, n_15, n_20, n_24, n_27, n_31, n_32, n_33, n_36, n_44, n_48, n_50, n_57, n_58, n_59, n_72, n_74, n_75, n_85, n_91, n_96, n_97, n_99, n_122, n_255, n_300, n_432, n_600, n_900, n_999, n_1000, n_1291, n_1399, n_2798, n_11192, n_65536, n_65537, n_99999999, n_1000000, nI_add, pk_mul, q_le, q_lt, q_eq, q_cl, q_gi, q_gz, q_sub, q_div, q_dm, d_dm, q_m1, q_mn, q_nm, q_mlt, q_ltm, q_mle, q_lem, q_mm, Option.bind_some, if_true, if_false, Nat.add_zero, ite_self, q_us, q_un, decide_true, decide_false, Bool.false_eq_true, eq_self, and_self, and_true, true_and, and_false, false_and, or_true, true_or, or_false, false_or, d_ltT, d_ltF, d_leT, d_leF, d_eqT, d_eqF, f_X0_faceCount, e_at, this]
theorem x_faces {g : Nat → Nat} {fc dw : Nat → Int32} (hB : okB g) (hR : DR g fc dw) {d : Nat} (hd : d < g 3) : f_X10_faces (nI (g 3)) fc (nI d) = some (.inr (nI (dF g d))) := by
  have h3 := b_3 hB
  unfold f_X10_faces
  rw [rd_t hd (by omega), sbd_t, fc_t hB hR hd, Option.bind_some]
theorem x_weight {g : Nat → Nat} {fc dw : Nat → Int32} (hB : okB g) (hD : okD g) (hR : DR g fc dw) {d i : Nat} (hd : d < g 3) (hi : i < dF g d) : f_X10_weightOf (nI (g 3)) fc dw (nI d) (nI (i + 1)) = some (.inr (nI (dW g d i))) := by
  have h3 := b_3 hB
  have hf := (hD d hd).2.1
  unfold f_X10_weightOf f_X10_requireFace
  simp only [n_0, n_1, n_2, n_3, n_4, n_5, n_6, n_7, n_8, n_9, n_10, n_12, n_13, n_15, n_20, n_24, n_27, n_31, n_32, n_33, n_36, n_44, n_48, n_50, n_57, n_58, n_59, n_72, n_74, n_75, n_85, n_91, n_96, n_97, n_99, n_122, n_255, n_300, n_432, n_600, n_900, n_999, n_1000, n_1291, n_1399, n_2798, n_11192, n_65536, n_65537, n_99999999, n_1000000]
  rw [rd_t hd (by omega), sbd_t, fc_t hB hR hd, Option.bind_some, cr_t (by omega) (by omega) (by omega), sbd_t, sbd_t, e_weight hB hD hR hd hi, Option.bind_some]
theorem c_fdiff {N : Nat} {g : Nat → Nat} {fr : Nat → Int32} (hN : 1000 < N) (hO : Ok g) (hF : FR g fr) : f_X10_frequencyDifference N (nI (g 5)) fr = some (nI 0) := by
  have b5 := b_5 hO.1
  have u1 := e_freqSum hN hO.1 hO.2.1 hO.2.2.2.1 hF
  simp (disch := omega) only [n_0, n_1, n_2, n_3, n_4, n_5, n_6, n_7, n_8, n_9, n_10, n_12, n_13, n_15, n_20, n_24, n_27, n_31, n_32, n_33, n_36, n_44, n_48, n_50, n_57, n_58, n_59, n_72, n_74, n_75, n_85, n_91, n_96, n_97, n_99, n_122, n_255, n_300, n_432, n_600, n_900, n_999, n_1000, n_1291, n_1399, n_2798, n_11192, n_65536, n_65537, n_99999999, n_1000000, nI_add, pk_mul, q_le, q_lt, q_eq, q_cl, q_gi, q_gz, q_sub, q_div, q_dm, d_dm, q_m1, q_mn, q_nm, q_mlt, q_ltm, q_mle, q_lem, q_mm, Option.bind_some, if_true, if_false, Nat.add_zero, ite_self, q_us, q_un, decide_true, decide_false, Bool.false_eq_true, eq_self, and_self, and_true, true_and, and_false, false_and, or_true, true_or, or_false, false_or, d_ltT, d_ltF, d_leT, d_leF, d_eqT, d_eqF, f_X10_frequencyDifference, u1, Nat.sub_self]
theorem c_tdiff {N : Nat} {g : Nat → Nat} {en fr : Nat → Int32} (hN : 1000 < N) (hO : Ok g) (hE : ER g en) (hF : FR g fr) : f_X10_totalDifference N (nI (g 4)) (nI (g 5)) en fr = some (nI 0) := by
  have b4 := b_4 hO.1
  have h := e_totDL (N := N) hN hO.1 hO.2.1 hO.2.2.2.1 hE hF (g 4) 0 N (by omega) (by omega)
  unfold f_X10_totalDifference
  simp only [n_0, n_1, n_2, n_3, n_4, n_5, n_6, n_7, n_8, n_9, n_10, n_12, n_13, n_15, n_20, n_24, n_27, n_31, n_32, n_33, n_36, n_44, n_48, n_50, n_57, n_58, n_59, n_72, n_74, n_75, n_85, n_91, n_96, n_97, n_99, n_122, n_255, n_300, n_432, n_600, n_900, n_999, n_1000, n_1291, n_1399, n_2798, n_11192, n_65536, n_65537, n_99999999, n_1000000]
  exact h
theorem c_throw {N a b : Nat} {g : Nat → Nat} {sd : Int32} {mn : Int32} {th : Int32} {dc : Int32} {fc : Nat → Int32} {dw : Nat → Int32} {pc : Int32} {ln : Nat → Int32} {lt : Nat → Int32} {tc : Int32} {en : Nat → Int32} {fr : Nat → Int32} {oc : Int32} {op : Nat → Int32} {os : Nat → Int32} {sd1 : Int32} {mn1 : Int32} {th1 : Int32} {dc1 : Int32} {fc1 : Nat → Int32} {dw1 : Nat → Int32} {pc1 : Int32} {ln1 : Nat → Int32} {lt1 : Nat → Int32} {tc1 : Int32} {en1 : Nat → Int32} {fr1 : Nat → Int32} {oc1 : Int32} {op1 : Nat → Int32} {os1 : Nat → Int32} {p d n : Nat} (hN : 1000 < N) (hO : Ok g) (hH : HR g sd mn th dc fc dw pc ln lt tc en fr oc op os) (ha : a < 8) (hb : b ≤ 8) (hp : p < g 4) (hd : d < g 3) (h1 : 1 ≤ n) (h2 : n ≤ 50) (c : g 5 + n ≤ 300) : ∃ t, f_X10_throwDie N mn th dc fc dw pc ln lt oc op os sd tc en fr (nI a) (nI b) sd1 mn1 th1 dc1 fc1 dw1 pc1 ln1 lt1 tc1 en1 fr1 oc1 op1 os1 (nI p) (nI d) (nI n) = some (.inr t) ∧ t.1 = nI (gSumT g p d 0 n) ∧ HR (gThr g p d 0 n) t.2.1 mn th dc fc dw pc ln lt t.2.2.1 t.2.2.2.1 t.2.2.2.2.1 oc op os ∧ (∃ a', a' < 8 ∧ t.2.2.2.2.2.1 = nI a') ∧ (∃ b', b' ≤ 8 ∧ t.2.2.2.2.2.2.1 = nI b') := by
  have hH0 := hH
  obtain ⟨⟨rfl, rfl, rfl, rfl, rfl, rfl, rfl⟩, hR, hNR, hE, hF, hQ⟩ := hH
  have b3 := b_3 hO.1
  have b4 := b_4 hO.1
  have b5 := b_5 hO.1
  obtain ⟨en', fr', k1, k2, k3⟩ := e_make (N := N) (p := p) (d := d) (b := 0) (n := n) hN hO hp hd (by omega) c hR hE hF
  unfold f_X10_throwDie
  simp only [n_0, n_1, n_2, n_3, n_4, n_5, n_6, n_7, n_8, n_9, n_10, n_12, n_13, n_15, n_20, n_24, n_27, n_31, n_32, n_33, n_36, n_44, n_48, n_50, n_57, n_58, n_59, n_72, n_74, n_75, n_85, n_91, n_96, n_97, n_99, n_122, n_255, n_300, n_432, n_600, n_900, n_999, n_1000, n_1291, n_1399, n_2798, n_11192, n_65536, n_65537, n_99999999, n_1000000]
  rw [pr_t hp hd (by omega) (by omega), sbd_t, cr_t h1 h2 (by omega), sbd_t, nI_add, if_pos (by rw [q_le (by omega) (by omega)]; omega), e_remember ha hb, Option.bind_some, e_pair, Option.bind_some, k1, Option.bind_some]
  refine ⟨_, rfl, rfl, ?_, ⟨_, Nat.mod_lt _ (by omega), rfl⟩, ⟨_, q_le8 hb, rfl⟩⟩
  exact thr_HR hO hp hd (by omega) c hH0 k2 k3
theorem c_throwX {N a b : Nat} {g : Nat → Nat} {sd : Int32} {mn : Int32} {th : Int32} {dc : Int32} {fc : Nat → Int32} {dw : Nat → Int32} {pc : Int32} {ln : Nat → Int32} {lt : Nat → Int32} {tc : Int32} {en : Nat → Int32} {fr : Nat → Int32} {oc : Int32} {op : Nat → Int32} {os : Nat → Int32} {sd1 : Int32} {mn1 : Int32} {th1 : Int32} {dc1 : Int32} {fc1 : Nat → Int32} {dw1 : Nat → Int32} {pc1 : Int32} {ln1 : Nat → Int32} {lt1 : Nat → Int32} {tc1 : Int32} {en1 : Nat → Int32} {fr1 : Nat → Int32} {oc1 : Int32} {op1 : Nat → Int32} {os1 : Nat → Int32} {p d n : Nat} (hO : Ok g) (hH : HR g sd mn th dc fc dw pc ln lt tc en fr oc op os) (hp : p < g 4) (hd : d < g 3) (h1 : 1 ≤ n) (h2 : n ≤ 50) (c : 300 < g 5 + n) : f_X10_throwDie N mn th dc fc dw pc ln lt oc op os sd tc en fr (nI a) (nI b) sd1 mn1 th1 dc1 fc1 dw1 pc1 ln1 lt1 tc1 en1 fr1 oc1 op1 os1 (nI p) (nI d) (nI n) = some (.inl "java/lang/IllegalStateException") := by
  obtain ⟨⟨rfl, rfl, rfl, rfl, rfl, rfl, rfl⟩, hR, hNR, hE, hF, hQ⟩ := hH
  have b3 := b_3 hO.1
  have b4 := b_4 hO.1
  have b5 := b_5 hO.1
  unfold f_X10_throwDie
  simp only [n_0, n_1, n_2, n_3, n_4, n_5, n_6, n_7, n_8, n_9, n_10, n_12, n_13, n_15, n_20, n_24, n_27, n_31, n_32, n_33, n_36, n_44, n_48, n_50, n_57, n_58, n_59, n_72, n_74, n_75, n_85, n_91, n_96, n_97, n_99, n_122, n_255, n_300, n_432, n_600, n_900, n_999, n_1000, n_1291, n_1399, n_2798, n_11192, n_65536, n_65537, n_99999999, n_1000000]
  rw [pr_t hp hd (by omega) (by omega), sbd_t, cr_t h1 h2 (by omega), sbd_t, nI_add, if_neg (by rw [q_le (by omega) (by omega)]; omega)]
theorem c_audit {N a b : Nat} {g : Nat → Nat} {sd : Int32} {mn : Int32} {th : Int32} {dc : Int32} {fc : Nat → Int32} {dw : Nat → Int32} {pc : Int32} {ln : Nat → Int32} {lt : Nat → Int32} {tc : Int32} {en : Nat → Int32} {fr : Nat → Int32} {oc : Int32} {op : Nat → Int32} {os : Nat → Int32} {sd1 : Int32} {mn1 : Int32} {th1 : Int32} {dc1 : Int32} {fc1 : Nat → Int32} {dw1 : Nat → Int32} {pc1 : Int32} {ln1 : Nat → Int32} {lt1 : Nat → Int32} {tc1 : Int32} {en1 : Nat → Int32} {fr1 : Nat → Int32} {oc1 : Int32} {op1 : Nat → Int32} {os1 : Nat → Int32} (hN : 1000 < N) (hO : Ok g) (hH : HR g sd mn th dc fc dw pc ln lt tc en fr oc op os) (hZ : ZR fc) (ha : a < 8) (hb : b ≤ 8) : ∃ t, f_X10_audit N sd mn th dc fc dw pc ln lt tc en fr oc op os (nI a) (nI b) sd1 mn1 th1 dc1 fc1 dw1 pc1 ln1 lt1 tc1 en1 fr1 oc1 op1 os1 = some t ∧ t.1 = nI (gAud g 36 6 - g 6) ∧ Ok (gAud g 36) ∧ HR (gAud g 36) sd mn th dc fc dw pc ln lt tc en fr t.2.1 t.2.2.1 t.2.2.2.1 ∧ (∃ a', a' < 8 ∧ t.2.2.2.2.1 = nI a') ∧ (∃ b', b' ≤ 8 ∧ t.2.2.2.2.2.1 = nI b') := by
  obtain ⟨⟨rfl, rfl, rfl, rfl, rfl, rfl, rfl⟩, hR, hNR, hE, hF, hQ⟩ := hH
  obtain ⟨op', os', f1, f2⟩ := e_audit (N := N) hN hO hR hZ hF hQ
  obtain ⟨w1, w2, w3⟩ := gAud_s hO 36 (by omega)
  obtain ⟨v1, v2, v3, v4⟩ := sQ_ok w2 hO hR hNR hE hF
  unfold f_X10_audit
  rw [e_remember ha hb, Option.bind_some, f1, Option.bind_some]
  refine ⟨_, rfl, rfl, w1, ?_, ⟨_, Nat.mod_lt _ (by omega), rfl⟩, ⟨_, q_le8 hb, rfl⟩⟩
  refine ⟨⟨?_, ?_, ?_, ?_, ?_, ?_, rfl⟩, v1, v2, v3, v4, f2⟩
  · rw [w2.2.2.2 0 (by omega)]
  · rw [w2.2.2.2 1 (by omega)]
  · rw [w2.2.2.2 2 (by omega)]
  · rw [w2.2.1.1]
  · rw [w2.2.2.1.1]
  · rw [w2.1.1]
theorem c_absolveX {N a b : Nat} {g : Nat → Nat} {sd : Int32} {mn : Int32} {th : Int32} {dc : Int32} {fc : Nat → Int32} {dw : Nat → Int32} {pc : Int32} {ln : Nat → Int32} {lt : Nat → Int32} {tc : Int32} {en : Nat → Int32} {fr : Nat → Int32} {oc : Int32} {op : Nat → Int32} {os : Nat → Int32} {sd1 : Int32} {mn1 : Int32} {th1 : Int32} {dc1 : Int32} {fc1 : Nat → Int32} {dw1 : Nat → Int32} {pc1 : Int32} {ln1 : Nat → Int32} {lt1 : Nat → Int32} {tc1 : Int32} {en1 : Nat → Int32} {fr1 : Nat → Int32} {oc1 : Int32} {op1 : Nat → Int32} {os1 : Nat → Int32} (hH : HR g sd mn th dc fc dw pc ln lt tc en fr oc op os) (c : g 6 = 0) : f_X10_absolve N mn th dc fc dw pc ln lt sd tc en fr oc op os (nI a) (nI b) sd1 mn1 th1 dc1 fc1 dw1 pc1 ln1 lt1 tc1 en1 fr1 oc1 op1 os1 = some (.inl "java/lang/IllegalStateException") := by
  obtain ⟨⟨rfl, rfl, rfl, rfl, rfl, rfl, rfl⟩, hR, hNR, hE, hF, hQ⟩ := hH
  unfold f_X10_absolve
  rw [c, if_pos n_0.symm]
theorem c_absolve {N a b : Nat} {g g' : Nat → Nat} {sd : Int32} {mn : Int32} {th : Int32} {dc : Int32} {fc : Nat → Int32} {dw : Nat → Int32} {pc : Int32} {ln : Nat → Int32} {lt : Nat → Int32} {tc : Int32} {en : Nat → Int32} {fr : Nat → Int32} {oc : Int32} {op : Nat → Int32} {os : Nat → Int32} {sd1 : Int32} {mn1 : Int32} {th1 : Int32} {dc1 : Int32} {fc1 : Nat → Int32} {dw1 : Nat → Int32} {pc1 : Int32} {ln1 : Nat → Int32} {lt1 : Nat → Int32} {tc1 : Int32} {en1 : Nat → Int32} {fr1 : Nat → Int32} {oc1 : Int32} {op1 : Nat → Int32} {os1 : Nat → Int32} (hN : 1000 < N) (hO : Ok g) (hH : HR g sd mn th dc fc dw pc ln lt tc en fr oc op os) (ha : a < 8) (hb : b ≤ 8) (h6 : 0 < g 6) (hg : isPen g g') : ∃ t, f_X10_absolve N mn th dc fc dw pc ln lt sd tc en fr oc op os (nI a) (nI b) sd1 mn1 th1 dc1 fc1 dw1 pc1 ln1 lt1 tc1 en1 fr1 oc1 op1 os1 = some (.inr t) ∧ t.1 = nI (gSumT g' (oP g 0) (oD g 0) 1 (gPen g)) ∧ Ok (gThr g' (oP g 0) (oD g 0) 1 (gPen g)) ∧ HR (gThr g' (oP g 0) (oD g 0) 1 (gPen g)) t.2.1 mn th dc fc dw pc ln lt t.2.2.1 t.2.2.2.1 t.2.2.2.2.1 t.2.2.2.2.2.1 t.2.2.2.2.2.2.1 t.2.2.2.2.2.2.2.1 ∧ (∃ a', a' < 8 ∧ t.2.2.2.2.2.2.2.2.1 = nI a') ∧ (∃ b', b' ≤ 8 ∧ t.2.2.2.2.2.2.2.2.2.1 = nI b') := by
  have hH0 := hH
  obtain ⟨⟨rfl, rfl, rfl, rfl, rfl, rfl, rfl⟩, hR, hNR, hE, hF, hQ⟩ := hH
  have b6 := b_6 hO.1
  obtain ⟨en', fr', op', os', k4, k5, k6, k7⟩ := e_doPen (N := N) hN hO h6 hg hR hE hF hQ
  obtain ⟨k8, k9⟩ := pen_HR hO h6 hg hH0 k5 k6 k7
  unfold f_X10_absolve
  simp only [n_0, n_1, n_2, n_3, n_4, n_5, n_6, n_7, n_8, n_9, n_10, n_12, n_13, n_15, n_20, n_24, n_27, n_31, n_32, n_33, n_36, n_44, n_48, n_50, n_57, n_58, n_59, n_72, n_74, n_75, n_85, n_91, n_96, n_97, n_99, n_122, n_255, n_300, n_432, n_600, n_900, n_999, n_1000, n_1291, n_1399, n_2798, n_11192, n_65536, n_65537, n_99999999, n_1000000]
  rw [if_neg (by rw [q_eq (by omega) (by omega)]; omega), e_remember ha hb, Option.bind_some, k4, Option.bind_some]
  refine ⟨_, rfl, rfl, k8, ?_, ⟨_, Nat.mod_lt _ (by omega), rfl⟩, ⟨_, q_le8 hb, rfl⟩⟩
  exact k9
theorem c_forgive {N a b : Nat} {g : Nat → Nat} {sd : Int32} {mn : Int32} {th : Int32} {dc : Int32} {fc : Nat → Int32} {dw : Nat → Int32} {pc : Int32} {ln : Nat → Int32} {lt : Nat → Int32} {tc : Int32} {en : Nat → Int32} {fr : Nat → Int32} {oc : Int32} {op : Nat → Int32} {os : Nat → Int32} {sd1 : Int32} {mn1 : Int32} {th1 : Int32} {dc1 : Int32} {fc1 : Nat → Int32} {dw1 : Nat → Int32} {pc1 : Int32} {ln1 : Nat → Int32} {lt1 : Nat → Int32} {tc1 : Int32} {en1 : Nat → Int32} {fr1 : Nat → Int32} {oc1 : Int32} {op1 : Nat → Int32} {os1 : Nat → Int32} {p : Nat} (hN : 1000 < N) (hO : Ok g) (hH : HR g sd mn th dc fc dw pc ln lt tc en fr oc op os) (ha : a < 8) (hb : b ≤ 8) (hp : p < g 4) : ∃ t, f_X10_forgive N sd mn th dc fc dw pc ln lt tc en fr oc op os (nI a) (nI b) sd1 mn1 th1 dc1 fc1 dw1 pc1 ln1 lt1 tc1 en1 fr1 oc1 op1 os1 (nI p) = some (.inr t) ∧ t.1 = nI (g 6 - gSel (kpO g p) g 6) ∧ Ok (gSel (kpO g p) g) ∧ HR (gSel (kpO g p) g) sd mn th dc fc dw pc ln lt tc en fr t.2.1 t.2.2.1 t.2.2.2.1 ∧ (∃ a', a' < 8 ∧ t.2.2.2.2.1 = nI a') ∧ (∃ b', b' ≤ 8 ∧ t.2.2.2.2.2.1 = nI b') := by
  obtain ⟨⟨rfl, rfl, rfl, rfl, rfl, rfl, rfl⟩, hR, hNR, hE, hF, hQ⟩ := hH
  have b4 := b_4 hO.1
  obtain ⟨p', t', f1, f2⟩ := e_allOf (N := N) (p := p) hN hO.1 hO.2.2.2.2 hQ (by omega)
  have u3 := gSel_i (kp := kpO g p) hO.1
  have u4 : ∀ k, k ≠ 6 → k < 1291 → gSel (kpO g p) g k = g k := fun k h1 h2 => gSel_n h1 h2
  have w1 : sT g (gSel (kpO g p) g) := ⟨u4 5 (by omega) (by omega), fun k k1 k2 => u4 k (by omega) (by omega)⟩
  have w2 : sD g (gSel (kpO g p) g) := ⟨u4 3 (by omega) (by omega), fun k k1 k2 => u4 k (by omega) (by omega)⟩
  have w3 : sP g (gSel (kpO g p) g) := ⟨u4 4 (by omega) (by omega), fun k k1 k2 => u4 k (by omega) (by omega)⟩
  have hcl := @cK_le (kpO g p) (g 6)
  have hB2 : okB (gSel (kpO g p) g) := by
    obtain ⟨z0, z1, z2, z3, z4, z5, z6, z7⟩ := hO.1
    unfold okB
    rw [u4 0 (by omega) (by omega), u4 1 (by omega) (by omega), u4 2 (by omega) (by omega), w2.1, w3.1, w1.1, u3.1]
    omega
  unfold f_X10_forgive
  rw [rp_t hp (by omega), sbd_t, e_remember ha hb, Option.bind_some, f1, Option.bind_some]
  refine ⟨_, rfl, by rw [u3.1], ⟨hB2, sD_ok w2 hO.1 hO.2.1, sP_ok w3 hO.1 hO.2.2.1, sT_ok w1 w2 w3 hO.1 hO.2.2.2.1, sel_ok u3 w2.1 w3.1 hO.2.2.2.2⟩, ?_, ⟨_, Nat.mod_lt _ (by omega), rfl⟩, ⟨_, q_le8 hb, rfl⟩⟩
  refine ⟨⟨?_, ?_, ?_, ?_, ?_, ?_, ?_⟩, sD_R w2 hO.1 hO.2.1 hR, sP_R w3 hO.1 hNR, sT_E w1 hO.1 hE, sT_F w1 hO.1 hF, sel_Q u3 hQ f2⟩
  · rw [u4 0 (by omega) (by omega)]
  · rw [u4 1 (by omega) (by omega)]
  · rw [u4 2 (by omega) (by omega)]
  · rw [w2.1]
  · rw [w3.1]
  · rw [w1.1]
  · rw [u3.1]
theorem c_seed {N a b : Nat} {g : Nat → Nat} {sd : Int32} {mn : Int32} {th : Int32} {dc : Int32} {fc : Nat → Int32} {dw : Nat → Int32} {pc : Int32} {ln : Nat → Int32} {lt : Nat → Int32} {tc : Int32} {en : Nat → Int32} {fr : Nat → Int32} {oc : Int32} {op : Nat → Int32} {os : Nat → Int32} {sd1 : Int32} {mn1 : Int32} {th1 : Int32} {dc1 : Int32} {fc1 : Nat → Int32} {dw1 : Nat → Int32} {pc1 : Int32} {ln1 : Nat → Int32} {lt1 : Nat → Int32} {tc1 : Int32} {en1 : Nat → Int32} {fr1 : Nat → Int32} {oc1 : Int32} {op1 : Nat → Int32} {os1 : Nat → Int32} {n : Nat} (hO : Ok g) (hH : HR g sd mn th dc fc dw pc ln lt tc en fr oc op os) (ha : a < 8) (hb : b ≤ 8) (hn : n ≤ 65536) : ∃ t, f_X10_setSeed mn th dc fc dw pc ln lt tc en fr oc op os sd (nI a) (nI b) sd1 mn1 th1 dc1 fc1 dw1 pc1 ln1 lt1 tc1 en1 fr1 oc1 op1 os1 (nI n) = some (.inr t) ∧ t.1 = nI (g 0) ∧ Ok (up g 0 n) ∧ HR (up g 0 n) t.2.1 mn th dc fc dw pc ln lt tc en fr oc op os ∧ (∃ a', a' < 8 ∧ t.2.2.1 = nI a') ∧ (∃ b', b' ≤ 8 ∧ t.2.2.2.1 = nI b') := by
  have hH0 := hH
  obtain ⟨⟨rfl, rfl, rfl, rfl, rfl, rfl, rfl⟩, hR, hNR, hE, hF, hQ⟩ := hH
  have hB2 : okB (up g 0 n) := by
    obtain ⟨z0, z1, z2, z3, z4, z5, z6, z7⟩ := hO.1
    unfold okB
    rw [up_s rfl, up_n (by omega), up_n (by omega), up_n (by omega), up_n (by omega), up_n (by omega), up_n (by omega)]
    omega
  obtain ⟨k1, k2⟩ := sc_HR (g' := up g 0 n) (fun k hk => up_n (by omega)) hB2 hO hH0
  unfold f_X10_setSeed
  simp only [n_0, n_1, n_2, n_3, n_4, n_5, n_6, n_7, n_8, n_9, n_10, n_12, n_13, n_15, n_20, n_24, n_27, n_31, n_32, n_33, n_36, n_44, n_48, n_50, n_57, n_58, n_59, n_72, n_74, n_75, n_85, n_91, n_96, n_97, n_99, n_122, n_255, n_300, n_432, n_600, n_900, n_999, n_1000, n_1291, n_1399, n_2798, n_11192, n_65536, n_65537, n_99999999, n_1000000]
  rw [cr_t (by omega) hn (by omega), sbd_t, e_remember ha hb, Option.bind_some]
  refine ⟨_, rfl, rfl, k1, ?_, ⟨_, Nat.mod_lt _ (by omega), rfl⟩, ⟨_, q_le8 hb, rfl⟩⟩
  exact k2
theorem c_limits {N a b : Nat} {g : Nat → Nat} {sd : Int32} {mn : Int32} {th : Int32} {dc : Int32} {fc : Nat → Int32} {dw : Nat → Int32} {pc : Int32} {ln : Nat → Int32} {lt : Nat → Int32} {tc : Int32} {en : Nat → Int32} {fr : Nat → Int32} {oc : Int32} {op : Nat → Int32} {os : Nat → Int32} {sd1 : Int32} {mn1 : Int32} {th1 : Int32} {dc1 : Int32} {fc1 : Nat → Int32} {dw1 : Nat → Int32} {pc1 : Int32} {ln1 : Nat → Int32} {lt1 : Nat → Int32} {tc1 : Int32} {en1 : Nat → Int32} {fr1 : Nat → Int32} {oc1 : Int32} {op1 : Nat → Int32} {os1 : Nat → Int32} {n v : Nat} (hN : 1000 < N) (hO : Ok g) (hH : HR g sd mn th dc fc dw pc ln lt tc en fr oc op os) (hZ : ZR fc) (ha : a < 8) (hb : b ≤ 8) (hn : 1 ≤ n) (hn2 : n ≤ 99) (hv : v ≤ 999) : ∃ t, f_X10_setLimits N sd dc fc dw pc ln lt tc en fr oc op os mn th (nI a) (nI b) sd1 mn1 th1 dc1 fc1 dw1 pc1 ln1 lt1 tc1 en1 fr1 oc1 op1 os1 (nI n) (nI v) = some (.inr t) ∧ t.1 = nI (gCnt (up (up g 1 n) 2 v) 36) ∧ Ok (up (up g 1 n) 2 v) ∧ HR (up (up g 1 n) 2 v) sd t.2.1 t.2.2.1 dc fc dw pc ln lt tc en fr oc op os ∧ (∃ a', a' < 8 ∧ t.2.2.2.1 = nI a') ∧ (∃ b', b' ≤ 8 ∧ t.2.2.2.2.1 = nI b') := by
  have hH0 := hH
  obtain ⟨⟨rfl, rfl, rfl, rfl, rfl, rfl, rfl⟩, hR, hNR, hE, hF, hQ⟩ := hH
  have hB2 : okB (up (up g 1 n) 2 v) := by
    obtain ⟨z0, z1, z2, z3, z4, z5, z6, z7⟩ := hO.1
    unfold okB
    rw [up_n (by omega), up_n (by omega), up_n (i := 2) (by omega), up_s rfl, up_s rfl, up_n (by omega), up_n (by omega), up_n (by omega), up_n (by omega), up_n (by omega), up_n (by omega), up_n (by omega), up_n (by omega)]
    omega
  obtain ⟨k1, k2⟩ := sc_HR (g' := up (up g 1 n) 2 v) (fun k hk => by rw [up_n (by omega), up_n (by omega)]) hB2 hO hH0
  have k3 := e_count (N := N) hN k1.1 k1.2.1 k1.2.2.2.1 k2.2.1 hZ k2.2.2.2.2.1
  have k6 : up (up g 1 n) 2 v 0 = g 0 := by rw [up_n (by omega), up_n (by omega)]
  have k7 : up (up g 1 n) 2 v 1 = n := by rw [up_n (by omega), up_s rfl]
  have k8 : up (up g 1 n) 2 v 2 = v := up_s rfl
  rw [k6, k7, k8] at k2
  rw [k7, k8] at k3
  unfold f_X10_setLimits
  simp only [n_0, n_1, n_2, n_3, n_4, n_5, n_6, n_7, n_8, n_9, n_10, n_12, n_13, n_15, n_20, n_24, n_27, n_31, n_32, n_33, n_36, n_44, n_48, n_50, n_57, n_58, n_59, n_72, n_74, n_75, n_85, n_91, n_96, n_97, n_99, n_122, n_255, n_300, n_432, n_600, n_900, n_999, n_1000, n_1291, n_1399, n_2798, n_11192, n_65536, n_65537, n_99999999, n_1000000]
  rw [cr_t hn hn2 (by omega), sbd_t, cr_t (by omega) hv (by omega), sbd_t, e_remember ha hb, Option.bind_some, k3, Option.bind_some]
  refine ⟨_, rfl, rfl, k1, ?_, ⟨_, Nat.mod_lt _ (by omega), rfl⟩, ⟨_, q_le8 hb, rfl⟩⟩
  exact k2
theorem c_weightX {N a b : Nat} {g : Nat → Nat} {sd : Int32} {mn : Int32} {th : Int32} {dc : Int32} {fc : Nat → Int32} {dw : Nat → Int32} {pc : Int32} {ln : Nat → Int32} {lt : Nat → Int32} {tc : Int32} {en : Nat → Int32} {fr : Nat → Int32} {oc : Int32} {op : Nat → Int32} {os : Nat → Int32} {sd1 : Int32} {mn1 : Int32} {th1 : Int32} {dc1 : Int32} {fc1 : Nat → Int32} {dw1 : Nat → Int32} {pc1 : Int32} {ln1 : Nat → Int32} {lt1 : Nat → Int32} {tc1 : Int32} {en1 : Nat → Int32} {fr1 : Nat → Int32} {oc1 : Int32} {op1 : Nat → Int32} {os1 : Nat → Int32} {d i v : Nat} (hN : 1000 < N) (hO : Ok g) (hH : HR g sd mn th dc fc dw pc ln lt tc en fr oc op os) (hd : d < g 3) (hi : i < dF g d) (hv : v ≤ 9) (c : dS g d - dW g d i + v = 0) : f_X10_setWeight N sd mn th dc fc pc ln lt tc en fr oc op os dw (nI a) (nI b) sd1 mn1 th1 dc1 fc1 dw1 pc1 ln1 lt1 tc1 en1 fr1 oc1 op1 os1 (nI d) (nI (i + 1)) (nI v) = some (.inl "java/lang/IllegalStateException") := by
  obtain ⟨⟨rfl, rfl, rfl, rfl, rfl, rfl, rfl⟩, hR, hNR, hE, hF, hQ⟩ := hH
  have b3 := b_3 hO.1
  have hf := hO.2.1 d hd
  have hle := dS_le hO.2.1 hd
  have hwi : dW g d i ≤ dS g d := sumTo_ge (f := dW g d) hi
  unfold f_X10_setWeight f_X10_requireFace
  simp only [n_0, n_1, n_2, n_3, n_4, n_5, n_6, n_7, n_8, n_9, n_10, n_12, n_13, n_15, n_20, n_24, n_27, n_31, n_32, n_33, n_36, n_44, n_48, n_50, n_57, n_58, n_59, n_72, n_74, n_75, n_85, n_91, n_96, n_97, n_99, n_122, n_255, n_300, n_432, n_600, n_900, n_999, n_1000, n_1291, n_1399, n_2798, n_11192, n_65536, n_65537, n_99999999, n_1000000]
  rw [rd_t hd (by omega), sbd_t, fc_t hO.1 hR hd, Option.bind_some, cr_t (by omega) (by omega) (by omega), sbd_t, sbd_t, cr_t (by omega) hv (by omega), sbd_t, e_weight hO.1 hO.2.1 hR hd hi, Option.bind_some, e_wsum (N := N) hN hO.1 hO.2.1 hR hd, Option.bind_some, pk_sub hwi, nI_add, if_pos (by rw [q_eq (by omega) (by omega)]; exact c)]
theorem c_weight {N a b : Nat} {g : Nat → Nat} {sd : Int32} {mn : Int32} {th : Int32} {dc : Int32} {fc : Nat → Int32} {dw : Nat → Int32} {pc : Int32} {ln : Nat → Int32} {lt : Nat → Int32} {tc : Int32} {en : Nat → Int32} {fr : Nat → Int32} {oc : Int32} {op : Nat → Int32} {os : Nat → Int32} {sd1 : Int32} {mn1 : Int32} {th1 : Int32} {dc1 : Int32} {fc1 : Nat → Int32} {dw1 : Nat → Int32} {pc1 : Int32} {ln1 : Nat → Int32} {lt1 : Nat → Int32} {tc1 : Int32} {en1 : Nat → Int32} {fr1 : Nat → Int32} {oc1 : Int32} {op1 : Nat → Int32} {os1 : Nat → Int32} {d i v : Nat} (hN : 1000 < N) (hO : Ok g) (hH : HR g sd mn th dc fc dw pc ln lt tc en fr oc op os) (ha : a < 8) (hb : b ≤ 8) (hd : d < g 3) (hi : i < dF g d) (hv : v ≤ 9) (c : dS g d - dW g d i + v ≠ 0) : ∃ t, f_X10_setWeight N sd mn th dc fc pc ln lt tc en fr oc op os dw (nI a) (nI b) sd1 mn1 th1 dc1 fc1 dw1 pc1 ln1 lt1 tc1 en1 fr1 oc1 op1 os1 (nI d) (nI (i + 1)) (nI v) = some (.inr t) ∧ t.1 = nI (dW g d i) ∧ Ok (up g (8 + 13 * d + i) v) ∧ HR (up g (8 + 13 * d + i) v) sd mn th dc fc t.2.1 pc ln lt tc en fr oc op os ∧ (∃ a', a' < 8 ∧ t.2.2.1 = nI a') ∧ (∃ b', b' ≤ 8 ∧ t.2.2.2.1 = nI b') := by
  obtain ⟨⟨rfl, rfl, rfl, rfl, rfl, rfl, rfl⟩, hR, hNR, hE, hF, hQ⟩ := hH
  have b3 := b_3 hO.1
  have hf := hO.2.1 d hd
  have hle := dS_le hO.2.1 hd
  have hwi : dW g d i ≤ dS g d := sumTo_ge (f := dW g d) hi
  have k0 : f_X0_putWeight dw (nI d) (nI (i + 1)) (nI v) = some (upd dw (12 * d + i) (nI v)) := by
    simp (disch := omega) only [n_0, n_1, n_2, n_3, n_4, n_5, n_6, n_7, n_8, n_9, n_10, n_12, n_13, n_15, n_20, n_24, n_27, n_31, n_32, n_33, n_36, n_44, n_48, n_50, n_57, n_58, n_59, n_72, n_74, n_75, n_85, n_91, n_96, n_97, n_99, n_122, n_255, n_300, n_432, n_600, n_900, n_999, n_1000, n_1291, n_1399, n_2798, n_11192, n_65536, n_65537, n_99999999, n_1000000, nI_add, pk_mul, q_le, q_lt, q_eq, q_cl, q_gi, q_gz, q_sub, q_div, q_dm, d_dm, q_m1, q_mn, q_nm, q_mlt, q_ltm, q_mle, q_lem, q_mm, Option.bind_some, if_true, if_false, Nat.add_zero, ite_self, q_us, q_un, decide_true, decide_false, Bool.false_eq_true, eq_self, and_self, and_true, true_and, and_false, false_and, or_true, true_or, or_false, false_or, d_ltT, d_ltF, d_leT, d_leF, d_eqT, d_eqF, f_X0_putWeight, e_cell, e_put]
  have hx : ∀ k, k ≠ 8 + 13 * d + i → up g (8 + 13 * d + i) v k = g k := fun k hk => up_n hk
  have hdF : ∀ d', dF (up g (8 + 13 * d + i) v) d' = dF g d' := fun d' => hx _ (by omega)
  have hdWn : ∀ d' j, j < 12 → ¬ (d' = d ∧ j = i) → dW (up g (8 + 13 * d + i) v) d' j = dW g d' j := fun d' j hj hne => hx _ (by omega)
  have hdWs : dW (up g (8 + 13 * d + i) v) d i = v := up_s (by omega)
  have hsum : dS (up g (8 + 13 * d + i) v) d + dW g d i = dS g d + v := by
    unfold dS
    rw [hdF]
    exact sum_up hi hdWs (fun j hj hne => hdWn d j (by omega) (fun h => hne h.2))
  have w1 : sT g (up g (8 + 13 * d + i) v) := ⟨hx 5 (by omega), fun k k1 k2 => hx k (by omega)⟩
  have w3 : sP g (up g (8 + 13 * d + i) v) := ⟨hx 4 (by omega), fun k k1 k2 => hx k (by omega)⟩
  have w4 : sO g (up g (8 + 13 * d + i) v) := ⟨hx 6 (by omega), fun k k1 k2 => hx k (by omega)⟩
  have w5 : up g (8 + 13 * d + i) v 3 = g 3 := hx 3 (by omega)
  have hB2 : okB (up g (8 + 13 * d + i) v) := by
    have z := hO.1
    unfold okB at z ⊢
    rw [hx 0 (by omega), hx 1 (by omega), hx 2 (by omega), w5, w3.1, w1.1, w4.1]
    exact z
  have hD2 : okD (up g (8 + 13 * d + i) v) := fun d' hd' => by
    rw [w5] at hd'
    obtain ⟨y1, y2, y3, y4⟩ := hO.2.1 d' hd'
    rw [hdF]
    refine ⟨y1, y2, fun j hj => ?_, ?_⟩
    · by_cases c2 : d' = d ∧ j = i
      · rw [c2.1, c2.2, hdWs]; exact hv
      · rw [hdWn d' j (by omega) c2]; exact y3 j hj
    · by_cases c2 : d' = d
      · subst c2; omega
      · have e : dS (up g (8 + 13 * d + i) v) d' = dS g d' := by
          unfold dS
          rw [hdF]
          exact sumTo_congr (fun j hj => hdWn d' j (by omega) (fun h => c2 h.1))
        rw [e]; exact y4
  have hT2 : okT (up g (8 + 13 * d + i) v) := fun k hk => by
    rw [w1.1] at hk
    have b5 := b_5 hO.1
    obtain ⟨y1, y2, y3, y4, y5⟩ := sT_t w1 (k := k) (by omega)
    obtain ⟨z1, z2, z3, z4, z5⟩ := hO.2.2.2.1 k hk
    rw [y1, y2, y3, y4, w3.1, w5, hdF]
    exact ⟨z1, z2, z3, z4, z5⟩
  have hR2 : DR (up g (8 + 13 * d + i) v) fc (upd dw (12 * d + i) (nI v)) := fun d' hd' => by
    rw [w5] at hd'
    obtain ⟨y1, y2⟩ := hR d' hd'
    have y3 := (hO.2.1 d' hd').2.1
    rw [hdF]
    refine ⟨y1, fun j hj => ?_⟩
    by_cases c2 : d' = d ∧ j = i
    · rw [c2.1, c2.2, hdWs, q_us rfl]
    · rw [hdWn d' j (by omega) c2, q_un (by omega)]
      exact y2 j hj
  unfold f_X10_setWeight f_X10_requireFace
  simp only [n_0, n_1, n_2, n_3, n_4, n_5, n_6, n_7, n_8, n_9, n_10, n_12, n_13, n_15, n_20, n_24, n_27, n_31, n_32, n_33, n_36, n_44, n_48, n_50, n_57, n_58, n_59, n_72, n_74, n_75, n_85, n_91, n_96, n_97, n_99, n_122, n_255, n_300, n_432, n_600, n_900, n_999, n_1000, n_1291, n_1399, n_2798, n_11192, n_65536, n_65537, n_99999999, n_1000000]
  rw [rd_t hd (by omega), sbd_t, fc_t hO.1 hR hd, Option.bind_some, cr_t (by omega) (by omega) (by omega), sbd_t, sbd_t, cr_t (by omega) hv (by omega), sbd_t, e_weight hO.1 hO.2.1 hR hd hi, Option.bind_some, e_wsum (N := N) hN hO.1 hO.2.1 hR hd, Option.bind_some, pk_sub hwi, nI_add, if_neg (by rw [q_eq (by omega) (by omega)]; exact c), e_remember ha hb, Option.bind_some, k0, Option.bind_some]
  refine ⟨_, rfl, rfl, ⟨hB2, hD2, sP_ok w3 hO.1 hO.2.2.1, hT2, sO_ok w4 w5 w3.1 hO.1 hO.2.2.2.2⟩, ?_, ⟨_, Nat.mod_lt _ (by omega), rfl⟩, ⟨_, q_le8 hb, rfl⟩⟩
  refine ⟨⟨?_, ?_, ?_, ?_, ?_, ?_, ?_⟩, hR2, sP_R w3 hO.1 hNR, sT_E w1 hO.1 hE, sT_F w1 hO.1 hF, sO_Q w4 hO.1 hQ⟩
  · rw [hx 0 (by omega)]
  · rw [hx 1 (by omega)]
  · rw [hx 2 (by omega)]
  · rw [w5]
  · rw [w3.1]
  · rw [w1.1]
  · rw [w4.1]
