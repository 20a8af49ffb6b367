/-! the law's whole text -/
theorem At_eq {b : Nat → Nat} {s s' : Nat} {l : List Nat} (h : At b s l) (e : s = s') : At b s' l := e ▸ h
theorem dtx_z {b : Nat → Nat} {y p : Nat} (h : At b p (dtx y)) : At b p (kLt 2) ∧ b (p + 3) = 32 ∧ (∀ i, i < 2 + y % 5 → wT y (2 + y % 5) i ≤ 9 ∧ b (p + 4 + 2 * i) = 48 + wT y (2 + y % 5) i) ∧ (∀ i, i + 1 < 2 + y % 5 → b (p + 5 + 2 * i) = 32) ∧ b (p + 3 + 2 * (2 + y % 5)) = 59 ∧ 0 < sumTo (2 + y % 5) (wT y (2 + y % 5)) := by
  have h1 : At b p (kLt 2 ++ dgs y (2 + y % 5) (2 + y % 5) 0 ++ [59]) := h
  have l2 := kLt_l2.1
  have a1 := At_h (At_eq (At_r h1) (show _ = p + 3 + 2 * (2 + y % 5) by rw [List.length_append, l2, dgs_len]; omega))
  have a2 := At_eq (At_r (At_l h1)) (show _ = p + 3 by rw [l2])
  have a3 := dgs_at _ _ _ a2
  refine ⟨At_l (At_l h1), (a3 0 (by omega)).1, fun i hi => ⟨by have := @wT_lt y (2 + y % 5) i; omega, ?_⟩, fun i hi => ?_, a1, ?_⟩
  · have := (a3 i hi).2
    rw [show p + 3 + 2 * i + 1 = p + 4 + 2 * i by omega, Nat.zero_add] at this
    exact this
  · have := (a3 (i + 1) hi).1
    rw [show p + 3 + 2 * (i + 1) = p + 5 + 2 * i by omega] at this
    exact this
  · have hlt : y / 8 % (2 + y % 5) < 2 + y % 5 := Nat.mod_lt _ (by omega)
    have h2 := sumTo_ge (f := wT y (2 + y % 5)) hlt
    have h3 : wT y (2 + y % 5) (y / 8 % (2 + y % 5)) = 1 + y / 64 % 9 := if_pos rfl
    omega
theorem r_parse {N L : Nat} {E : KE} {b : Nat → Nat} {tb : Nat → Int32} {sd : Int32} {mn : Int32} {th : Int32} {dc : Int32} {fc : Nat → Int32} {dw : Nat → Int32} {pc : Int32} {ln : Nat → Int32} {lt : Nat → Int32} {tc : Int32} {en : Nat → Int32} {fr : Nat → Int32} {oc : Int32} {op : Nat → Int32} {os : Nat → Int32} {ec eo kd ts te tv : Int32} (hN : 2000 < N) (hLE : L = (txt E).length) (hT : TR b L tb) (hA : At b 0 (txt E)) (hZ : ZR fc) : ∃ eo' sd1 mn1 th1 dc1 fc1 dw1 pc1 ln1 lt1 tc1 en1 fr1 oc1 op1 os1 kd' ts' te' tv' g, f_X5_parse N (nI L) tb ec eo sd mn th dc fc dw pc ln lt tc en fr oc op os kd ts te tv = some (nI 1, nI 0, eo', sd1, mn1, th1, dc1, fc1, dw1, pc1, ln1, lt1, tc1, en1, fr1, oc1, op1, os1, kd', ts', te', tv') ∧ Ok g ∧ ZR fc1 ∧ HR g sd1 mn1 th1 dc1 fc1 dw1 pc1 ln1 lt1 tc1 en1 fr1 oc1 op1 os1 ∧ g 3 = 3 ∧ g 4 = 3 ∧ g 5 = 0 ∧ g 6 = 0 ∧ ∀ d, d < 3 → dF g d ≤ 6 := by
  have hNx : 1000 < N := by omega
  have htx : txt E = kLt 8 ++ decL (cV E 0 % 65537) ++ [32] ++ decL (1 + cV E 0 / 131072 % 8) ++ [32] ++ decL (cV E 0 / 1048576 % 12) ++ [59] ++ (dtx (cV E 1) ++ (dtx (cV E 2) ++ (dtx (cV E 3) ++ []))) ++ kLt 9 := rfl
  rw [htx] at hA hLE
  have hx := @cV_lt E 0
  generalize cV E 0 = x at hA hLE hx
  generalize cV E 1 = y1 at hA hLE
  generalize cV E 2 = y2 at hA hLE
  generalize cV E 3 = y3 at hA hLE
  have l8 := kLt_l2.2.1
  have l2 := kLt_l2.1
  have l9 := kLt_l2.2.2
  have dl : ∀ y, (dtx y).length = 4 + 2 * (2 + y % 5) := fun y => by
    unfold dtx
    rw [List.length_append, List.length_append, dgs_len, l2, List.length_singleton]
    omega
  have hv1 : x % 65537 < 65537 := Nat.mod_lt _ (by omega)
  have hv2 : x / 131072 % 8 < 8 := Nat.mod_lt _ (by omega)
  have hv3 : x / 1048576 % 12 < 12 := Nat.mod_lt _ (by omega)
  generalize hm1 : (decL (x % 65537)).length = m1
  generalize hm2 : (decL (1 + x / 131072 % 8)).length = m2
  generalize hm3 : (decL (x / 1048576 % 12)).length = m3
  have hLL : L = 8 + m1 + m2 + m3 + (4 + 2 * (2 + y1 % 5)) + (4 + 2 * (2 + y2 % 5)) + (4 + 2 * (2 + y3 % 5)) + 29 := by
    rw [hLE]
    simp only [List.length_append, List.length_singleton, List.length_nil, l8, l9, dl, hm1, hm2, hm3]
    omega
  have b9 := At_eq (At_r hA) (show _ = 8 + m1 + m2 + m3 + (4 + 2 * (2 + y1 % 5)) + (4 + 2 * (2 + y2 % 5)) + (4 + 2 * (2 + y3 % 5)) by
    simp only [List.length_append, List.length_singleton, List.length_nil, l8, l9, dl, hm1, hm2, hm3]
    omega)
  have bD := At_eq (At_r (At_l hA)) (show _ = 8 + m1 + m2 + m3 by
    simp only [List.length_append, List.length_singleton, l8, hm1, hm2, hm3]
    omega)
  have a7 := At_h (At_eq (At_r (At_l (At_l hA))) (show _ = 7 + m1 + m2 + m3 by
    simp only [List.length_append, List.length_singleton, l8, hm1, hm2, hm3]
    omega))
  have a6 := At_eq (At_r (At_l (At_l (At_l hA)))) (show _ = 7 + m1 + m2 by
    simp only [List.length_append, List.length_singleton, l8, hm1, hm2]
    omega)
  have a5 := At_h (At_eq (At_r (At_l (At_l (At_l (At_l hA))))) (show _ = 6 + m1 + m2 by
    simp only [List.length_append, List.length_singleton, l8, hm1, hm2]
    omega))
  have a4 := At_eq (At_r (At_l (At_l (At_l (At_l (At_l hA)))))) (show _ = 6 + m1 by
    simp only [List.length_append, List.length_singleton, l8, hm1]
    omega)
  have a3 := At_h (At_eq (At_r (At_l (At_l (At_l (At_l (At_l (At_l hA))))))) (show _ = 5 + m1 by
    simp only [List.length_append, l8, hm1]
    omega))
  have a2 := At_eq (At_r (At_l (At_l (At_l (At_l (At_l (At_l (At_l hA)))))))) (show _ = 5 by
    rw [l8])
  have a1 := At_l (At_l (At_l (At_l (At_l (At_l (At_l (At_l hA)))))))
  clear hA hLE htx
  have D1 := dtx_z (At_l bD)
  have bD2 := At_eq (At_r bD) (show _ = 8 + m1 + m2 + m3 + (4 + 2 * (2 + y1 % 5)) by rw [dl])
  have D2 := dtx_z (At_l bD2)
  have bD3 := At_eq (At_r bD2) (show _ = 8 + m1 + m2 + m3 + (4 + 2 * (2 + y1 % 5)) + (4 + 2 * (2 + y2 % 5)) by rw [dl])
  have D3 := dtx_z (At_l bD3)
  have hF1 : 2 ≤ 2 + y1 % 5 ∧ 2 + y1 % 5 ≤ 6 := ⟨by omega, by have := Nat.mod_lt y1 (show 0 < 5 by omega); omega⟩
  have hF2 : 2 ≤ 2 + y2 % 5 ∧ 2 + y2 % 5 ≤ 6 := ⟨by omega, by have := Nat.mod_lt y2 (show 0 < 5 by omega); omega⟩
  have hF3 : 2 ≤ 2 + y3 % 5 ∧ 2 + y3 % 5 ≤ 6 := ⟨by omega, by have := Nat.mod_lt y3 (show 0 < 5 by omega); omega⟩
  generalize 2 + y1 % 5 = F1 at *
  generalize 2 + y2 % 5 = F2 at *
  generalize 2 + y3 % 5 = F3 at *
  rw [kl_8.2.2] at b9
  generalize hP1 : 8 + m1 + m2 + m3 = P1 at *
  have c1 := D1.1
  have c2 := D2.1
  have c3 := D3.1
  rw [kl_8.2.1] at c1 c2 c3
  have hl1 : isL (b P1) = true := by rw [At_h c1]; decide
  have hl2 : isL (b (P1 + 4 + 2 * F1)) = true := by rw [show P1 + 4 + 2 * F1 = P1 + (4 + 2 * F1) by omega, At_h c2]; decide
  have hl3 : isL (b (P1 + (4 + 2 * F1) + 4 + 2 * F2)) = true := by rw [show P1 + (4 + 2 * F1) + 4 + 2 * F2 = P1 + (4 + 2 * F1) + (4 + 2 * F2) by omega, At_h c3]; decide
  have hl4 : isL (b (P1 + (4 + 2 * F1) + (4 + 2 * F2) + 4 + 2 * F3)) = true := by rw [show P1 + (4 + 2 * F1) + (4 + 2 * F2) + 4 + 2 * F3 = P1 + (4 + 2 * F1) + (4 + 2 * F2) + (4 + 2 * F3) by omega, At_h b9]; decide
  obtain ⟨k1, k2, k3, k4, e1, e2⟩ := x_adv (N := N) (e := 0) (kd := kd) (ts := ts) (tv := tv) hNx hT (by omega)
  have g0 : b 0 = 104 := by
    rw [kl_8.1] at a1
    exact At_h a1
  rw [n_0b (by omega) (by rw [g0]; decide)] at e2
  obtain ⟨fr1, h1, h2, h3, h4, f1, f2, f3⟩ := y_head (eo := -nI 1) (sd := sd) (mn := mn) (th := th) (dc := dc) (fc := fc) (dw := dw) (pc := pc) (ln := ln) (lt := lt) (tc := tc) (en := en) (fr := fr) (oc := oc) (op := op) (os := os) hN hT e2 hm1.symm hm2.symm hm3.symm a1 a2 a3 a4 a5 a6 a7 (by rw [hP1]; exact hl1) (by omega) (by omega) (by omega) (by omega)
  rw [hP1] at f2
  have hgo := gH_ok (x := x % 65537) (y := 1 + x / 131072 % 8) (z := x / 1048576 % 12) (by omega) (by omega) (by omega) (by omega)
  have hgr := gH_R (x := x % 65537) (y := 1 + x / 131072 % 8) (z := x / 1048576 % 12) (fc := fc) (dw := dw) (ln := ln) (lt := lt) (en := en) (op := op) (os := os) f3
  have hg3 : ∀ k, 3 ≤ k → gH (x % 65537) (1 + x / 131072 % 8) (x / 1048576 % 12) k = 0 := fun k hk => gH_n hk
  generalize gH (x % 65537) (1 + x / 131072 % 8) (x / 1048576 % 12) = w0 at hgo hgr hg3
  obtain ⟨dc1, fc1, dw1, p1, p2, p3, p4, w1, z1, zk1, z2, z3, z4, z5, z6, z7, z8, z9, z10, z11⟩ := z_die (eo := -nI 1) (W := wT y1 F1) hN hT f2 hgo hZ hgr (by rw [hg3 3 (by omega)]; omega) hF1 D1.1 D1.2.1 D1.2.2.1 D1.2.2.2.1 D1.2.2.2.2.1 hl2 (by omega) D1.2.2.2.2.2
  rw [show P1 + 4 + 2 * F1 = P1 + (4 + 2 * F1) by omega] at z2
  rw [hg3 3 (by omega)] at z6 z10 z11
  rw [hg3 4 (by omega)] at z7
  rw [hg3 5 (by omega)] at z8
  rw [hg3 6 (by omega)] at z9
  obtain ⟨dc2, fc2, dw2, q1, q2, q3, q4, w2, y1', yk1, y2', y3', y4', y5', y6', y7', y8', y9', y10', y11'⟩ := z_die (eo := -nI 1) (W := wT y2 F2) hN hT z2 z3 z4 z5 (by omega) hF2 D2.1 D2.2.1 D2.2.2.1 D2.2.2.2.1 D2.2.2.2.2.1 hl3 (by omega) D2.2.2.2.2.2
  rw [show P1 + (4 + 2 * F1) + 4 + 2 * F2 = P1 + (4 + 2 * F1) + (4 + 2 * F2) by omega] at y2'
  obtain ⟨dc3, fc3, dw3, r1, r2, r3, r4, w3, x1', xk1, x2', x3', x4', x5', x6', x7', x8', x9', x10', x11'⟩ := z_die (eo := -nI 1) (W := wT y3 F3) hN hT y2' y3' y4' y5' (by omega) hF3 D3.1 D3.2.1 D3.2.2.1 D3.2.2.2.1 D3.2.2.2.2.1 hl4 (by omega) D3.2.2.2.2.2
  rw [show P1 + (4 + 2 * F1) + (4 + 2 * F2) + 4 + 2 * F3 = P1 + (4 + 2 * F1) + (4 + 2 * F2) + (4 + 2 * F3) by omega] at x2'
  have hw33 : w3 3 = 3 := by omega
  have hw34 : w3 4 = 0 := by omega
  have hdf : ∀ d, d < 3 → dF w3 d ≤ 6 := fun d hd => by
    rcases (show d = 0 ∨ d = 1 ∨ d = 2 by omega) with q | q | q
    · have a := x11' d (by omega)
      have c := y11' d (by omega)
      rw [a, c, q, z10]
      omega
    · have a := x11' d (by omega)
      have c : w1 3 = d := by omega
      rw [a, ← c, y10']
      omega
    · have c : w2 3 = d := by omega
      rw [← c, x10']
      omega
  generalize hQ : P1 + (4 + 2 * F1) + (4 + 2 * F2) + (4 + 2 * F3) = Q at *
  have u : ∀ k c, [112, 108, 97, 121, 101, 114, 32, 99, 121, 59, 112, 108, 97, 121, 101, 114, 32, 97, 98, 59, 112, 108, 97, 121, 101, 114, 32, 98, 59][k]? = some c → b (Q + k) = c := b9
  have n1 : b (Q + 7) = 99 := u 7 _ rfl
  have n2 : b (Q + 8) = 121 := u 8 _ rfl
  have n3 : b (Q + 9) = 59 := u 9 _ rfl
  have n4 : b (Q + 10) = 112 := u 10 _ rfl
  have n5 : b (Q + 17) = 97 := u 17 _ rfl
  have n6 : b (Q + 18) = 98 := u 18 _ rfl
  have n7 : b (Q + 19) = 59 := u 19 _ rfl
  have n8 : b (Q + 20) = 112 := u 20 _ rfl
  have n9 : b (Q + 27) = 98 := u 27 _ rfl
  have n10 : b (Q + 28) = 59 := u 28 _ rfl
  have A1 : At b Q [112, 108, 97, 121, 101, 114, 32] := fun k c hk => u k c (by
    match k, hk with
    | 0, hk => exact hk
    | 1, hk => exact hk
    | 2, hk => exact hk
    | 3, hk => exact hk
    | 4, hk => exact hk
    | 5, hk => exact hk
    | 6, hk => exact hk
    | k + 7, hk => simp at hk)
  have A2 : At b (Q + 10) [112, 108, 97, 121, 101, 114, 32] := fun k c hk => by
    rw [Nat.add_assoc]
    refine u (10 + k) c ?_
    match k, hk with
    | 0, hk => exact hk
    | 1, hk => exact hk
    | 2, hk => exact hk
    | 3, hk => exact hk
    | 4, hk => exact hk
    | 5, hk => exact hk
    | 6, hk => exact hk
    | k + 7, hk => simp at hk
  have A3 : At b (Q + 20) [112, 108, 97, 121, 101, 114, 32] := fun k c hk => by
    rw [Nat.add_assoc]
    refine u (20 + k) c ?_
    match k, hk with
    | 0, hk => exact hk
    | 1, hk => exact hk
    | 2, hk => exact hk
    | 3, hk => exact hk
    | 4, hk => exact hk
    | 5, hk => exact hk
    | 6, hk => exact hk
    | k + 7, hk => simp at hk
  have C1 : wdC b (Q + 7) 2 = 77274 := by
    unfold wdC wdD
    rw [if_pos (by omega), if_pos (by omega), if_neg (by omega), if_neg (by omega), Nat.add_zero, n1, show Q + 7 + 1 = Q + 8 by omega, n2]
  have C2 : wdC b (Q + 10 + 7) 2 = 21141 := by
    unfold wdC wdD
    rw [if_pos (by omega), if_pos (by omega), if_neg (by omega), if_neg (by omega), Nat.add_zero, show Q + 10 + 7 = Q + 17 by omega, n5, show Q + 17 + 1 = Q + 18 by omega, n6]
  have C3 : wdC b (Q + 20 + 7) 1 = 39366 := by
    unfold wdC wdD
    rw [if_pos (by omega), if_neg (by omega), if_neg (by omega), if_neg (by omega), Nat.add_zero, show Q + 20 + 7 = Q + 27 by omega, n9]
  obtain ⟨pc1, ln1, lt1, i1, i2, i3, i4, j1, jk1, j2, j3, j4⟩ := z_play (eo := -nI 1) (n := 2) (s2 := Q + 10) hN hT x2' x3' x5' (by omega) A1 (by omega) (fun i hi => by
    match i, hi with
    | 0, _ => rw [Nat.add_zero, n1]; omega
    | 1, _ => rw [show Q + 7 + 1 = Q + 8 by omega, n2]; omega) (by rw [show Q + 7 + 2 = Q + 9 by omega]; exact n3) (by omega) (by rw [show Q + 8 + 2 = Q + 10 by omega]; exact n_0b (by omega) (by rw [n4]; decide)) (fun p hp => by omega)
  rw [C1] at j3 j4
  have v3 : gPlay w3 77274 4 = 1 := by rw [gPlay_4, hw34]
  have v3n : ∀ k, k ≠ 4 → k ≠ 85 → gPlay w3 77274 k = w3 k := fun k a c => gPlay_n a (by rw [hw34]; exact c)
  have v3c : nC (gPlay w3 77274) 0 = 77274 := by have := @gPlay_C w3 77274; rw [hw34] at this; exact this
  generalize gPlay w3 77274 = w4 at j3 j4 v3 v3n v3c
  obtain ⟨pc2, ln2, lt2, i5, i6, i7, i8, o1, ok1, o2, o3, o4⟩ := z_play (eo := -nI 1) (n := 2) (s2 := Q + 20) hN hT j2 j3 j4 (by omega) A2 (by omega) (fun i hi => by
    match i, hi with
    | 0, _ => rw [Nat.add_zero, show Q + 10 + 7 = Q + 17 by omega, n5]; omega
    | 1, _ => rw [show Q + 10 + 7 + 1 = Q + 18 by omega, n6]; omega) (by rw [show Q + 10 + 7 + 2 = Q + 19 by omega]; exact n7) (by omega) (by rw [show Q + 10 + 8 + 2 = Q + 20 by omega]; exact n_0b (by omega) (by rw [n8]; decide)) (fun p hp => by
      rw [C2, show p = 0 by omega, v3c]
      decide)
  rw [C2] at o3 o4
  have v4 : gPlay w4 21141 4 = 2 := by rw [gPlay_4, v3]
  have v4n : ∀ k, k ≠ 4 → k ≠ 86 → gPlay w4 21141 k = w4 k := fun k a c => gPlay_n a (by rw [v3]; exact c)
  have v4c : nC (gPlay w4 21141) 1 = 21141 := by have := @gPlay_C w4 21141; rw [v3] at this; exact this
  have v4d : nC (gPlay w4 21141) 0 = 77274 := (v4n 85 (by omega) (by omega)).trans v3c
  generalize gPlay w4 21141 = w5 at o3 o4 v4 v4n v4c v4d
  obtain ⟨pc3, ln3, lt3, i9, i10, i11, i12, s1, sk1, s2, s3, s4⟩ := z_play (eo := -nI 1) (n := 1) (s2 := L) hN hT o2 o3 o4 (by omega) A3 (by omega) (fun i hi => by
    match i, hi with
    | 0, _ => rw [Nat.add_zero, show Q + 20 + 7 = Q + 27 by omega, n9]; omega) (by rw [show Q + 20 + 7 + 1 = Q + 28 by omega]; exact n10) (by omega) (by rw [show Q + 20 + 8 + 1 = L by omega]; exact n_e) (fun p hp => by
      rw [C3]
      rcases (show p = 0 ∨ p = 1 by omega) with q | q
      · rw [q, v4d]; decide
      · rw [q, v4c]; decide)
  rw [C3] at s3 s4
  have v5 : gPlay w5 39366 4 = 3 := by rw [gPlay_4, v4]
  have v5n : ∀ k, k ≠ 4 → k ≠ 87 → gPlay w5 39366 k = w5 k := fun k a c => gPlay_n a (by rw [v4]; exact c)
  generalize gPlay w5 39366 = w6 at s3 s4 v5 v5n
  have hall : ∀ k, k ≠ 4 → k ≠ 85 → k ≠ 86 → k ≠ 87 → w6 k = w3 k := fun k c0 c1 c2 c3 => (v5n k c0 c3).trans ((v4n k c0 c2).trans (v3n k c0 c1))
  have hkd : i9 = nI 0 := by
    rw [s2.2.1]
    unfold tkK
    rw [if_pos (Nat.le_refl _)]
  obtain ⟨M, rfl⟩ : ∃ M, N = M + 7 := ⟨N - 7, by omega⟩
  refine ⟨-nI 1, nI (x % 65537), nI (1 + x / 131072 % 8), nI (x / 1048576 % 12), dc3, fc3, dw3, pc3, ln3, lt3, nI 0, en, fr1, nI 0, op, os, i9, i10, i11, i12, w6, ?_, s3, x4', s4, (hall 3 (by omega) (by omega) (by omega) (by omega)).trans hw33, v5, (hall 5 (by omega) (by omega) (by omega) (by omega)).trans (by omega), (hall 6 (by omega) (by omega) (by omega) (by omega)).trans (by omega), fun d hd => by
    have e : dF w6 d = dF w3 d := hall _ (by omega) (by omega) (by omega) (by omega)
    rw [e]
    exact hdf d hd⟩
  unfold f_X5_parse f_X9_rewind
  simp only [n_0, n_1, n_2, n_3, n_4, n_5, n_6, n_7, n_8, n_9, n_10, n_12, n_13, n_15, n_20, n_24, n_27, n_31, n_32, n_33, n_36, n_44, n_48, n_50, n_57, n_58, n_59, n_72, n_74, n_75, n_85, n_91, n_96, n_97, n_99, n_122, n_255, n_300, n_432, n_600, n_900, n_999, n_1000, n_1291, n_1399, n_2798, n_11192, n_65536, n_65537, n_99999999, n_1000000]
  rw [e1, Option.bind_some, Option.bind_some, f1, Option.bind_some]
  have t1 := z_more (mn1 := 0) (th1 := 0) (i := 0) (j := M + 6) (by omega) zk1 z1
  have t2 := z_more (mn1 := 0) (th1 := 0) (i := 0 + 1) (j := M + 5) (by omega) yk1 y1'
  have t3 := z_more (mn1 := 0) (th1 := 0) (i := 0 + 1 + 1) (j := M + 4) (by omega) xk1 x1'
  have t4 := z_more (mn1 := 0) (th1 := 0) (i := 0 + 1 + 1 + 1) (j := M + 3) (by omega) jk1 j1
  have t5 := z_more (mn1 := 0) (th1 := 0) (i := 0 + 1 + 1 + 1 + 1) (j := M + 2) (by omega) ok1 o1
  have t6 := z_more (mn1 := 0) (th1 := 0) (i := 0 + 1 + 1 + 1 + 1 + 1) (j := M + 1) (by omega) sk1 s1
  have t7 := z_end (N := M + 7) (i := 0 + 1 + 1 + 1 + 1 + 1 + 1) (j := M) (tl := nI L) (tb := tb) (sd := nI (x % 65537)) (mn := nI (1 + x / 131072 % 8)) (th := nI (x / 1048576 % 12)) (dc := dc3) (fc := fc3) (dw := dw3) (pc := pc3) (ln := ln3) (lt := lt3) (tc := nI 0) (en := en) (fr := fr1) (oc := nI 0) (op := op) (os := os) (kd := i9) (ts := i10) (te := i11) (tv := i12) (eo := -nI 1) (by omega) hkd
  exact t1.trans (t2.trans (t3.trans (t4.trans (t5.trans (t6.trans t7)))))
