/-! the hand's penance -/
theorem QS_sO {g g' : Nat → Nat} {uq : Nat → Option (Nat → Int32)} (hB : okB g) (hs : sO g g') (h : QS g uq) : QS g' uq := by
  have h6 := b_6 hB
  obtain ⟨h1, σ, h2, h3⟩ := h
  refine ⟨fun r r' a b => ?_, σ, fun k hk => ?_, by rw [hs.1]; exact h3⟩
  · rw [hs.1] at b
    have x := sO_o hs (r := r) (by omega)
    have y := sO_o hs (r := r') (by omega)
    unfold Wr
    rw [x.2.2.1, x.2.2.2, y.2.2.1, y.2.2.2]
    exact h1 r r' a b
  · rw [hs.1] at hk
    obtain ⟨c, c1, c2⟩ := h2 k hk
    have x := sO_o hs (r := σ k) (by have := (h3.1 k hk).1; omega)
    refine ⟨c, c1, ?_⟩
    unfold rO
    rw [x.1, x.2.1, x.2.2.1]
    exact c2
theorem CT_HT {g g' : Nat → Nat} {kp : Nat → Bool} {ut : Nat → Option (Nat → Int32)} (hi : isCut kp g g') (h : CT g kp ut) : HT g' ut := by
  intro k hk
  rw [hi.1] at hk
  obtain ⟨j, j1, j2, j3⟩ := cK_surj hk
  obtain ⟨c, c1, c2⟩ := h j j1 j2
  have x := cut_t hi j1 j2
  rw [j3] at c1 x
  refine ⟨c, c1, ?_⟩
  unfold rT
  rw [x.1, x.2.1, x.2.2.1, x.2.2.2.1]
  exact c2
theorem h_absolves {N : Nat} {g g' : Nat → Nat} {ul : Nat → Nat} {uw : Nat → Nat → Int32} {ut uq : Nat → Option (Nat → Int32)} (hN : 1000 < N) (hO : Ok g) (h3 : g 3 = 3) (h4 : g 4 = 3) (hW : HW g ul uw) (hU : HT g ut) (hq : QS g uq) (h6 : 0 < g 6) (hg : isPen g g') : ∃ ut' uq', f_X11_absolves N ul uw ut uq (nI (g 5)) (nI (g 6)) (lN (g 0)) = some (nI (gSumT g' (oP g 0) (oD g 0) 1 (gPen g)), ut', uq', nI (gThr g' (oP g 0) (oD g 0) 1 (gPen g) 5), nI (gThr g' (oP g 0) (oD g 0) 1 (gPen g) 6), lN (gThr g' (oP g 0) (oD g 0) 1 (gPen g) 0)) ∧ HT (gThr g' (oP g 0) (oD g 0) 1 (gPen g)) ut' ∧ QS (gThr g' (oP g 0) (oD g 0) 1 (gPen g)) uq' := by
  have hOo := hO.2.2.2.2
  have h9 := six_le hOo h3 h4
  have h5 := b_5 hO.1
  obtain ⟨hs, σ, hHQ, hBJ⟩ := hq
  obtain ⟨k0, k1, k2⟩ := hBJ.2.2 0 h6 trivial
  obtain ⟨s1, s2, s3, s4⟩ := pen_s hO h6 hg
  obtain ⟨p1, p2, p3, p4, p5⟩ := hg
  have so := o_sm hOo h3 h4 h6
  have hpq : gPen g ≤ cQ g (oQ g 0) := by
    rcases @gPen_le g with h | h
    · omega
    · exact h
  have hcq := cQ_le hO.1 (oQ g 0)
  obtain ⟨m, hm⟩ : ∃ m, g 6 = m + 1 := ⟨g 6 - 1, by omega⟩
  have hPQ : PQ g (m + 1) aL uq σ := by
    rw [← hm]
    exact ⟨hHQ, hBJ⟩
  obtain ⟨uq1, u1, u2⟩ := h_unq (by omega) hPQ (show k0 ≤ m by omega)
  rw [k2] at u2
  have hPop := pop_QS hs p1 hm.symm u2
  obtain ⟨c, c1, c2⟩ := hHQ k0 k1
  rw [k2] at c2
  have hxall : ∀ j, j < g 5 → kpX g (oQ g 0) (cQ g (oQ g 0) - gPen g) (g 5) j = true := fun j hj => by
    unfold kpX
    rw [decide_eq_true hj, Bool.true_or]
  have hcK : ∀ j, j ≤ g 5 → cK (kpX g (oQ g 0) (cQ g (oQ g 0) - gPen g) (g 5)) j = j := fun j hj => cK_id (fun i hi => hxall i (by omega))
  have hCT : CT g (kpX g (oQ g 0) (cQ g (oQ g 0) - gPen g) (g 5)) ut := fun j hj _ => by
    rw [hcK j (by omega)]
    exact hU j hj
  have hrem := h_remL (N := N) (ul := ul) (uw := uw) (uq := uq1) (l5 := nI (gPen g)) (uo := nI m) (us := lN (g 0)) (p := oP g 0) (d := oD g 0) (n := cQ g (oQ g 0) - gPen g) hN hO.1 hO.2.1 hO.2.2.2.1 (by omega) (by omega) (g 5) N ut (Nat.le_refl _) (by omega) (by rw [← so.2.2.2]; exact Nat.sub_le _ _) (by rw [← so.2.2.2]; exact hCT)
  rw [← so.2.2.2] at hrem
  obtain ⟨ut1, r1, r2⟩ := hrem
  have e7 : qN g (oQ g 0) (g 5) - (cQ g (oQ g 0) - gPen g) = gPen g := by
    have : qN g (oQ g 0) (g 5) = cQ g (oQ g 0) := rfl
    omega
  rw [hcK (g 5) (Nat.le_refl _), e7, ← p2.1] at r2
  obtain ⟨ut', t1, t2⟩ := h_throw (N := N) (g := g') (ul := ul) (uw := uw) (ut := ut1) (p := oP g 0) (d := oD g 0) (b := 1) (n := gPen g) hN s1 (p3.1.trans h3) (HW_s hO.1 hO.2.1 p3 hW) (CT_HT p2 r1) s3 (by omega) (by omega) (by omega)
  obtain ⟨v1, v2, v3, v4, v5, v6, v7⟩ := gThr_s (b := 1) s1 s3 s4 (by omega) (gPen g) (by omega)
  refine ⟨ut', uq1, ?_, t2, QS_sO s1.1 v5 hPop.2⟩
  have hL12 : ∀ t i j, i + t = k0 → t < j → f_X11_absolves_L12 N ul uw j (nI i) ut uq (nI (g 5)) (nI (g 6)) (lN (g 0)) = f_X11_absolves_L80 N ul uw N (nI (oP g 0)) (nI (oD g 0)) (nI (gPen g)) (nI (gPen g)) (nI (g 5) - nI 1) ut uq1 (nI (g 5)) (nI m) (lN (g 0)) := by
    intro t
    induction t with
    | zero =>
      intro i j a b
      obtain ⟨j, rfl⟩ : ∃ t, j = t + 1 := ⟨j - 1, by omega⟩
      obtain rfl : i = k0 := by omega
      show f_X11_absolves_L12_F N ul uw (f_X11_absolves_L12 N ul uw j) _ _ _ _ _ _ = _
      unfold f_X11_absolves_L12_F
      simp only [T_0, T_1, T_2]
      have hpair := h_pair (N := N) (p := oP g 0) (d := oD g 0) hN hO.1 hO.2.2.2.1 hU (by omega) (by omega)
      rw [← so.2.2.2] at hpair
      rw [h_rank (N := N) hN hOo h3 h4 hHQ hBJ hs k1, Option.bind_some, k2, if_pos n_0.symm, q_gi (by omega) (by omega), q_cl (by omega), c1, Option.bind_some, q_gi (by omega) (by omega), Option.bind_some, q_gi (by omega) (by omega), Option.bind_some, c2.1, c2.2.1, c2.2.2, hpair, Option.bind_some, hm, u1, Option.bind_some, n_1]
      have hmin : (if nI (cQ g (oQ g 0)) < nI (oS g 0) then nI (cQ g (oQ g 0)) else nI (oS g 0)) = nI (gPen g) := by
        have hpen : gPen g = if cQ g (oQ g 0) < oS g 0 then cQ g (oQ g 0) else oS g 0 := if_neg (show ¬ g 6 = 0 by omega)
        rw [hpen]
        by_cases q : cQ g (oQ g 0) < oS g 0
        · rw [if_pos (by rw [q_lt (by omega) (by omega)]; exact q), if_pos q]
        · rw [if_neg (by rw [q_lt (by omega) (by omega)]; exact q), if_neg q]
      rw [hmin]
    | succ t ih =>
      intro i j a b
      obtain ⟨j, rfl⟩ : ∃ t, j = t + 1 := ⟨j - 1, by omega⟩
      have hsi := (hBJ.1 i (by omega)).1
      have hne : σ i ≠ 0 := fun q => by
        have := hBJ.2.1 i k0 (by omega) k1 (q.trans k2.symm)
        omega
      show f_X11_absolves_L12_F N ul uw (f_X11_absolves_L12 N ul uw j) _ _ _ _ _ _ = _
      unfold f_X11_absolves_L12_F
      rw [h_rank (N := N) hN hOo h3 h4 hHQ hBJ hs (by omega), Option.bind_some, if_neg (by rw [n_0, q_eq (by omega) (by omega)]; exact hne), n_1, nI_add]
      exact ih (i + 1) j (by omega) (by omega)
  unfold f_X11_absolves
  rw [if_neg (by rw [n_0, q_eq (by omega) (by omega)]; omega), n_0, hL12 k0 0 N (by omega) (by omega), r2]
  unfold f_X11_absolves_L173
  have e0 : g' 0 = g 0 := p5 0 (by omega)
  rw [e0] at t1
  rw [n_1, t1, Option.bind_some, v2, v5.1, ← hPop.1]
