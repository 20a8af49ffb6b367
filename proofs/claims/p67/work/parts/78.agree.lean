/-! the hand agrees -/
theorem lg_xx {x : Int64} : lg_cmp x x = 0 := by
  unfold lg_cmp
  rw [if_neg Int64.lt_irrefl, if_pos rfl]
theorem rt_t {d D : Nat} (hd : d < D) (h2 : D < 2147483648) : f_X10_requireThrow (nI D) (nI d) = some (.inr ()) := by
  unfold f_X10_requireThrow
  rw [ci_t hd h2, sbd_t]
theorem ro_t {d D : Nat} (hd : d < D) (h2 : D < 2147483648) : f_X10_requireOffence (nI D) (nI d) = some (.inr ()) := by
  unfold f_X10_requireOffence
  rw [ci_t hd h2, sbd_t]
theorem x_throw {g : Nat → Nat} {en : Nat → Int32} (hB : okB g) (hD : okD g) (hT : okT g) (hE : ER g en) {k : Nat} (hk : k < g 5) : f_X10_playerAt (nI (g 5)) en (nI k) = some (.inr (nI (tP g k))) ∧ f_X10_dieAt (nI (g 5)) en (nI k) = some (.inr (nI (tD g k))) ∧ f_X10_faceAt (nI (g 5)) en (nI k) = some (.inr (nI (tF g k))) ∧ f_X10_isFairAt (nI (g 5)) en (nI k) = some (.inr (nI (tB g k))) := by
  have h5 := b_5 hB
  have hb := t_bd hB hD hT hk
  have hb2 := t_bd2 hB hT hk
  have hq : tQ g k = 6 * tP g k + tD g k := rfl
  unfold f_X10_playerAt f_X10_dieAt f_X10_faceAt f_X10_isFairAt
  rw [rt_t hk (by omega), sbd_t, sbd_t, sbd_t, sbd_t, e_pairIn hB hD hT hE hk, Option.bind_some, Option.bind_some, e_faceIn hB hD hT hE hk, Option.bind_some, e_isMarked hB hD hT hE hk, Option.bind_some, e_playerOf (by omega), e_dieOf (by omega), Option.bind_some, Option.bind_some, show tQ g k / 6 = tP g k by omega, show tQ g k % 6 = tD g k by omega]
  exact ⟨rfl, rfl, rfl, rfl⟩
theorem x_off {g : Nat → Nat} {op os : Nat → Int32} (hB : okB g) (hO : okO g) (hQ : QR g op os) {r : Nat} (hr : r < g 6) : f_X10_offencePlayer (nI (g 6)) op (nI r) = some (.inr (nI (oP g r))) ∧ f_X10_offenceDie (nI (g 6)) op (nI r) = some (.inr (nI (oD g r))) ∧ f_X10_offenceScore (nI (g 6)) os (nI r) = some (.inr (nI (oS g r))) := by
  have h6 := b_6 hB
  have ho := o_bd hB hO hr
  obtain ⟨o1, o2⟩ := hQ r hr
  unfold f_X10_offencePlayer f_X10_offenceDie f_X10_offenceScore
  rw [ro_t hr (by omega), sbd_t, sbd_t, sbd_t, e_at (by omega) (by omega), Option.bind_some, Option.bind_some, e_at (by omega) (by omega), Option.bind_some, o1, o2, e_playerOf (by omega), e_dieOf (by omega), Option.bind_some, Option.bind_some, ho.2.2.1, ho.2.2.2.1]
  exact ⟨rfl, rfl, rfl⟩
theorem x_pair {N : Nat} {g : Nat → Nat} {fc dw fr : Nat → Int32} (hN : 1000 < N) (hB : okB g) (hD : okD g) (hT : okT g) (hR : DR g fc dw) (hZ : ZR fc) (hF : FR g fr) {p d : Nat} (hp : p < g 4) (hd : d < g 3) : f_X10_score N (nI (g 3)) fc (nI (g 4)) fr (nI p) (nI d) = some (.inr (nI (cS g (6 * p + d)))) ∧ f_X10_isSuspicious N (nI (g 1)) (nI (g 2)) (nI (g 3)) fc (nI (g 4)) fr (nI p) (nI d) = some (.inr (bI (susp g (6 * p + d)))) ∧ f_X10_throwsOfPair N (nI (g 3)) (nI (g 4)) fr (nI p) (nI d) = some (.inr (nI (cQ g (6 * p + d)))) := by
  have h3 := b_3 hB
  have h4 := b_4 hB
  unfold f_X10_score f_X10_isSuspicious f_X10_throwsOfPair
  rw [pr_t hp hd (by omega) (by omega), sbd_t, sbd_t, sbd_t, e_pair, Option.bind_some, Option.bind_some, Option.bind_some, e_pairScore hN hB hD hT hR hZ hF (by omega), Option.bind_some, e_susp hN hB hD hT hR hZ hF (by omega), Option.bind_some, e_pairThrows hN hB hD hT hF (by omega), Option.bind_some]
  exact ⟨rfl, rfl, rfl⟩
theorem a_1 {N : Nat} {g : Nat → Nat} {sd : Int32} {mn : Int32} {th : Int32} {dc : Int32} {fc : Nat → Int32} {dw : Nat → Int32} {pc : Int32} {ln : Nat → Int32} {lt : Nat → Int32} {tc : Int32} {en : Nat → Int32} {fr : Nat → Int32} {oc : Int32} {op : Nat → Int32} {os : Nat → Int32} {ul : Nat → Nat} {uw : Nat → Nat → Int32} {ut uq : Nat → Option (Nat → Int32)} {um uo : Int32} {us : Int64} {ui uh : Int32} {r : Int32 → Option Int32} {p : Nat} (hN : 1000 < N) (hK : KR g sd mn th dc fc dw pc ln lt tc en fr oc op os ul uw ut uq um uo us ui uh) (hp : p < 3) : ∀ (k d j : Nat), d + k = 3 → k < j → f_X11_agrees_L231 N dc en fc fr mn oc op os pc sd tc th ul ut uq um uo us ui uh r j (nI p) (nI d) = r (nI (p + 1)) := by
  obtain ⟨hO, h3, h4, hH, hZ, hW, hU, hQ, rfl, rfl, rfl, rfl, rfl⟩ := hK
  obtain ⟨⟨rfl, rfl, rfl, rfl, rfl, rfl, rfl⟩, hR, hNR, hE, hF, hQR⟩ := hH
  intro k
  induction k with
  | zero =>
    intro d j h1 h2
    obtain ⟨j, rfl⟩ : ∃ t, j = t + 1 := ⟨j - 1, by omega⟩
    obtain rfl : d = 3 := by omega
    show f_X11_agrees_L231_F N _ en fc fr _ _ op os _ _ _ _ ul ut uq _ _ _ _ _ r (f_X11_agrees_L231 N _ en fc fr _ _ op os _ _ _ _ ul ut uq _ _ _ _ _ r j) _ _ = _
    unfold f_X11_agrees_L231_F
    rw [q_gi hp (by omega), q_gi (by omega) (by omega), if_pos (by rw [n_3, q_le (by omega) (by omega)]; omega), n_1, nI_add]
  | succ k ih =>
    intro d j h1 h2
    obtain ⟨j, rfl⟩ : ∃ t, j = t + 1 := ⟨j - 1, by omega⟩
    obtain ⟨x1, x2, x3⟩ := x_pair (N := N) (p := p) (d := d) hN hO.1 hO.2.1 hO.2.2.2.1 hR hZ hF (by omega) (by omega)
    show f_X11_agrees_L231_F N _ en fc fr _ _ op os _ _ _ _ ul ut uq _ _ _ _ _ r (f_X11_agrees_L231 N _ en fc fr _ _ op os _ _ _ _ ul ut uq _ _ _ _ _ r j) _ _ = _
    unfold f_X11_agrees_L231_F
    rw [q_gi hp (by omega), q_gi (by omega) (by omega), if_neg (by rw [n_3, q_le (by omega) (by omega)]; omega), x1, hbd_t, h_score hN hO.1 hO.2.1 hO.2.2.2.1 h3 hW hU (by omega) (by omega), Option.bind_some, if_pos rfl, x2, hbd_t, h_bad hN hO.1 hO.2.1 hO.2.2.2.1 h3 hW hU (by omega) (by omega), Option.bind_some, if_pos rfl, x3, hbd_t, h_pair hN hO.1 hO.2.2.2.1 hU (by omega) (by omega), Option.bind_some, if_pos rfl, n_1, nI_add]
    exact ih (d + 1) j (by omega) (by omega)
theorem a_2 {N : Nat} {g : Nat → Nat} {sd : Int32} {mn : Int32} {th : Int32} {dc : Int32} {fc : Nat → Int32} {dw : Nat → Int32} {pc : Int32} {ln : Nat → Int32} {lt : Nat → Int32} {tc : Int32} {en : Nat → Int32} {fr : Nat → Int32} {oc : Int32} {op : Nat → Int32} {os : Nat → Int32} {ul : Nat → Nat} {uw : Nat → Nat → Int32} {ut uq : Nat → Option (Nat → Int32)} {um uo : Int32} {us : Int64} {ui uh : Int32} (hN : 1000 < N) (hK : KR g sd mn th dc fc dw pc ln lt tc en fr oc op os ul uw ut uq um uo us ui uh) : ∀ (k p j : Nat), p + k = 3 → k < j → f_X11_agrees_L224 N dc en fc fr mn oc op os pc sd tc th ul ut uq um uo us ui uh j (nI p) = some 1 := by
  intro k
  induction k with
  | zero =>
    intro p j h1 h2
    obtain ⟨j, rfl⟩ : ∃ t, j = t + 1 := ⟨j - 1, by omega⟩
    obtain rfl : p = 3 := by omega
    show f_X11_agrees_L224_F N _ en fc fr _ _ op os _ _ _ _ ul ut uq _ _ _ _ _ (f_X11_agrees_L224 N _ en fc fr _ _ op os _ _ _ _ ul ut uq _ _ _ _ _ j) _ = _
    unfold f_X11_agrees_L224_F
    rw [q_gi (by omega) (by omega), if_pos (by rw [n_3, q_le (by omega) (by omega)]; omega)]
  | succ k ih =>
    intro p j h1 h2
    obtain ⟨j, rfl⟩ : ∃ t, j = t + 1 := ⟨j - 1, by omega⟩
    show f_X11_agrees_L224_F N _ en fc fr _ _ op os _ _ _ _ ul ut uq _ _ _ _ _ (f_X11_agrees_L224 N _ en fc fr _ _ op os _ _ _ _ ul ut uq _ _ _ _ _ j) _ = _
    unfold f_X11_agrees_L224_F
    rw [q_gi (by omega) (by omega), if_neg (by rw [n_3, q_le (by omega) (by omega)]; omega), n_0, a_1 hN hK (by omega) 3 0 N (by omega) (by omega)]
    exact ih (p + 1) j (by omega) (by omega)
theorem a_3 {N : Nat} {g : Nat → Nat} {sd : Int32} {mn : Int32} {th : Int32} {dc : Int32} {fc : Nat → Int32} {dw : Nat → Int32} {pc : Int32} {ln : Nat → Int32} {lt : Nat → Int32} {tc : Int32} {en : Nat → Int32} {fr : Nat → Int32} {oc : Int32} {op : Nat → Int32} {os : Nat → Int32} {ul : Nat → Nat} {uw : Nat → Nat → Int32} {ut uq : Nat → Option (Nat → Int32)} {um uo : Int32} {us : Int64} {ui uh : Int32} (hN : 1000 < N) (hK : KR g sd mn th dc fc dw pc ln lt tc en fr oc op os ul uw ut uq um uo us ui uh) : ∀ (k i j : Nat), i + k = g 6 → k < j → f_X11_agrees_L152 N dc en fc fr mn oc op os pc sd tc th ul ut uq um uo us ui uh j (nI i) = some 1 := by
  have ha2 := a_2 hN hK 3 0 N (by omega) (by omega)
  obtain ⟨hO, h3, h4, hH, hZ, hW, hU, ⟨hs, σ, hHQ, hBJ⟩, rfl, rfl, rfl, rfl, rfl⟩ := hK
  obtain ⟨⟨rfl, rfl, rfl, rfl, rfl, rfl, rfl⟩, hR, hNR, hE, hF, hQR⟩ := hH
  have h9 := six_le hO.2.2.2.2 h3 h4
  intro k
  induction k with
  | zero =>
    intro i j h1 h2
    obtain ⟨j, rfl⟩ : ∃ t, j = t + 1 := ⟨j - 1, by omega⟩
    show f_X11_agrees_L152_F N _ en fc fr _ _ op os _ _ _ _ ul ut uq _ _ _ _ _ (f_X11_agrees_L152 N _ en fc fr _ _ op os _ _ _ _ ul ut uq _ _ _ _ _ j) _ = _
    unfold f_X11_agrees_L152_F
    rw [q_gi (by omega) (by omega), if_pos (by rw [q_le (by omega) (by omega)]; omega), n_0]
    exact ha2
  | succ k ih =>
    intro i j h1 h2
    obtain ⟨j, rfl⟩ : ∃ t, j = t + 1 := ⟨j - 1, by omega⟩
    obtain ⟨c, c1, c2⟩ := hHQ i (by omega)
    obtain ⟨x1, x2, x3⟩ := x_off hO.1 hO.2.2.2.2 hQR (hBJ.1 i (by omega)).1
    show f_X11_agrees_L152_F N _ en fc fr _ _ op os _ _ _ _ ul ut uq _ _ _ _ _ (f_X11_agrees_L152 N _ en fc fr _ _ op os _ _ _ _ ul ut uq _ _ _ _ _ j) _ = _
    unfold f_X11_agrees_L152_F
    simp only [T_0, T_1, T_2]
    rw [q_gi (by omega) (by omega), if_neg (by rw [q_le (by omega) (by omega)]; omega), h_rank hN hO.2.2.2.2 h3 h4 hHQ hBJ hs (by omega), Option.bind_some, x1, hbd_t, q_gi (by omega) (by omega), q_cl (by omega), c1, Option.bind_some, c2.1, if_pos rfl, x2, hbd_t, q_gi (by omega) (by omega), Option.bind_some, c2.2.1, if_pos rfl, x3, hbd_t, q_gi (by omega) (by omega), Option.bind_some, c2.2.2, if_pos rfl, n_1, nI_add]
    exact ih (i + 1) j (by omega) (by omega)
theorem a_4 {N : Nat} {g : Nat → Nat} {sd : Int32} {mn : Int32} {th : Int32} {dc : Int32} {fc : Nat → Int32} {dw : Nat → Int32} {pc : Int32} {ln : Nat → Int32} {lt : Nat → Int32} {tc : Int32} {en : Nat → Int32} {fr : Nat → Int32} {oc : Int32} {op : Nat → Int32} {os : Nat → Int32} {ul : Nat → Nat} {uw : Nat → Nat → Int32} {ut uq : Nat → Option (Nat → Int32)} {um uo : Int32} {us : Int64} {ui uh : Int32} (hN : 1000 < N) (hK : KR g sd mn th dc fc dw pc ln lt tc en fr oc op os ul uw ut uq um uo us ui uh) : ∀ (k i j : Nat), i + k = g 5 → k < j → f_X11_agrees_L61 N dc en fc fr mn oc op os pc sd tc th ul ut uq um uo us ui uh j (nI i) = some 1 := by
  have h9 := six_le hK.1.2.2.2.2 hK.2.1 hK.2.2.1
  have ha3 := a_3 hN hK (g 6) 0 N (by omega) (by omega)
  obtain ⟨hO, h3, h4, hH, hZ, hW, hU, hQ, rfl, rfl, rfl, rfl, rfl⟩ := hK
  obtain ⟨⟨rfl, rfl, rfl, rfl, rfl, rfl, rfl⟩, hR, hNR, hE, hF, hQR⟩ := hH
  have b5 := b_5 hO.1
  intro k
  induction k with
  | zero =>
    intro i j h1 h2
    obtain ⟨j, rfl⟩ : ∃ t, j = t + 1 := ⟨j - 1, by omega⟩
    show f_X11_agrees_L61_F N _ en fc fr _ _ op os _ _ _ _ ul ut uq _ _ _ _ _ (f_X11_agrees_L61 N _ en fc fr _ _ op os _ _ _ _ ul ut uq _ _ _ _ _ j) _ = _
    unfold f_X11_agrees_L61_F
    rw [q_gi (by omega) (by omega), if_pos (by rw [q_le (by omega) (by omega)]; omega), n_0]
    exact ha3
  | succ k ih =>
    intro i j h1 h2
    obtain ⟨j, rfl⟩ : ∃ t, j = t + 1 := ⟨j - 1, by omega⟩
    obtain ⟨c, c1, c2⟩ := hU i (by omega)
    obtain ⟨x1, x2, x3, x4⟩ := x_throw hO.1 hO.2.1 hO.2.2.2.1 hE (show i < g 5 by omega)
    have hb := (t_bd2 hO.1 hO.2.2.2.1 (show i < g 5 by omega)).2.2
    show f_X11_agrees_L61_F N _ en fc fr _ _ op os _ _ _ _ ul ut uq _ _ _ _ _ (f_X11_agrees_L61 N _ en fc fr _ _ op os _ _ _ _ ul ut uq _ _ _ _ _ j) _ = _
    unfold f_X11_agrees_L61_F
    simp only [T_0, T_1, T_2, T_3]
    rw [q_gi (by omega) (by omega), if_neg (by rw [q_le (by omega) (by omega)]; omega), x1, hbd_t, q_gi (by omega) (by omega), q_cl (by omega), c1, Option.bind_some, c2.1, if_pos rfl, x2, hbd_t, q_gi (by omega) (by omega), Option.bind_some, c2.2.1, if_pos rfl, x3, hbd_t, q_gi (by omega) (by omega), Option.bind_some, c2.2.2.1, if_pos rfl, x4, hbd_t, q_gi (by omega) (by omega), Option.bind_some, c2.2.2.2]
    have h := ih (i + 1) j (by omega) (by omega)
    have e : nI i + 1 = nI (i + 1) := nI_add i 1
    rcases (show tB g i = 0 ∨ tB g i = 1 by omega) with q | q
    · rw [q, if_neg (by rw [n_1, q_eq (by omega) (by omega)]; omega), if_pos n_0.symm, e]
      exact h
    · rw [q, if_pos n_1.symm, if_pos n_1.symm, e]
      exact h
theorem w_agrees {N : Nat} {g : Nat → Nat} {sd : Int32} {mn : Int32} {th : Int32} {dc : Int32} {fc : Nat → Int32} {dw : Nat → Int32} {pc : Int32} {ln : Nat → Int32} {lt : Nat → Int32} {tc : Int32} {en : Nat → Int32} {fr : Nat → Int32} {oc : Int32} {op : Nat → Int32} {os : Nat → Int32} {ul : Nat → Nat} {uw : Nat → Nat → Int32} {ut uq : Nat → Option (Nat → Int32)} {um uo : Int32} {us : Int64} {ui uh : Int32} (hN : 1000 < N) (hK : KR g sd mn th dc fc dw pc ln lt tc en fr oc op os ul uw ut uq um uo us ui uh) : f_X11_agrees N dc en fc fr mn oc op os pc sd tc th ul ut uq um uo us ui uh = some 1 := by
  have b5 := b_5 hK.1.1
  have ha4 := a_4 hN hK (g 5) 0 N (by omega) (by omega)
  obtain ⟨hO, h3, h4, hH, hZ, hW, hU, hQ, rfl, rfl, rfl, rfl, rfl⟩ := hK
  obtain ⟨⟨rfl, rfl, rfl, rfl, rfl, rfl, rfl⟩, hR, hNR, hE, hF, hQR⟩ := hH
  have b0 := hO.1.1
  unfold f_X11_agrees f_X10_seed f_X10_throwCount f_X10_offenceCount f_X10_minimum f_X10_threshold
  rw [Option.bind_some, nI_l (by omega), lg_xx, if_pos rfl, Option.bind_some, if_pos rfl, Option.bind_some, if_pos rfl, Option.bind_some, if_pos rfl, Option.bind_some, if_pos rfl, n_0]
  exact ha4
theorem w_diffs {N : Nat} {g : Nat → Nat} {sd : Int32} {mn : Int32} {th : Int32} {dc : Int32} {fc : Nat → Int32} {dw : Nat → Int32} {pc : Int32} {ln : Nat → Int32} {lt : Nat → Int32} {tc : Int32} {en : Nat → Int32} {fr : Nat → Int32} {oc : Int32} {op : Nat → Int32} {os : Nat → Int32} {ul : Nat → Nat} {uw : Nat → Nat → Int32} {ut uq : Nat → Option (Nat → Int32)} {um uo : Int32} {us : Int64} {ui uh : Int32} (hN : 1000 < N) (hK : KR g sd mn th dc fc dw pc ln lt tc en fr oc op os ul uw ut uq um uo us ui uh) : f_X10_frequencyDifference N tc fr = some (nI 0) ∧ f_X10_totalDifference N pc tc en fr = some (nI 0) := by
  obtain ⟨hO, h3, h4, hH, hZ, hW, hU, hQ, -, -, -, -, -⟩ := hK
  obtain ⟨⟨-, -, -, -, rfl, rfl, -⟩, hR, hNR, hE, hF, hQR⟩ := hH
  exact ⟨c_fdiff hN hO hF, c_tdiff hN hO hE hF⟩
