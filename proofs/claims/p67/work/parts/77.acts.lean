/-! an act, by the class and by the hand -/
theorem HT_s {g g' : Nat → Nat} {ut : Nat → Option (Nat → Int32)} (hB : okB g) (hs : sT g g') (h : HT g ut) : HT g' ut := by
  have h5 := b_5 hB
  intro k hk
  rw [hs.1] at hk
  obtain ⟨c, c1, c2⟩ := h k hk
  have x := sT_t hs (k := k) (by omega)
  refine ⟨c, c1, ?_⟩
  unfold rT
  rw [x.1, x.2.1, x.2.2.1, x.2.2.2.1]
  exact c2
def KR (g : Nat → Nat) (sd mn th dc : Int32) (fc dw : Nat → Int32) (pc : Int32) (ln lt : Nat → Int32) (tc : Int32) (en fr : Nat → Int32) (oc : Int32) (op os : Nat → Int32) (ul : Nat → Nat) (uw : Nat → Nat → Int32) (ut uq : Nat → Option (Nat → Int32)) (um uo : Int32) (us : Int64) (ui uh : Int32) : Prop := Ok g ∧ g 3 = 3 ∧ g 4 = 3 ∧ HR g sd mn th dc fc dw pc ln lt tc en fr oc op os ∧ ZR fc ∧ HW g ul uw ∧ HT g ut ∧ QS g uq ∧ um = nI (g 5) ∧ uo = nI (g 6) ∧ us = lN (g 0) ∧ ui = nI (g 1) ∧ uh = nI (g 2)
/-! the hand's count of the suspicious -/
theorem cnt_s {g : Nat → Nat} {n : Nat} : gCnt g (n + 1) = gCnt g n + if susp g n = true then 1 else 0 := rfl
theorem cnt_out {g : Nat → Nat} {q : Nat} (h : susp g q = false) : gCnt g (q + 1) = gCnt g q := by
  rw [cnt_s, h, if_neg (by decide), Nat.add_zero]
theorem cnt_row {w : Nat → Nat} {p : Nat} (hO : Ok w) (h3 : w 3 = 3) (h4 : w 4 = 3) (hp : p < 6) : gCnt w (6 * p + 6) = gCnt w (6 * p + 3) := by
  rw [show 6 * p + 6 = 6 * p + 3 + 1 + 1 + 1 by omega, cnt_out (susp_out hO h3 h4 (by omega) (by omega)), cnt_out (susp_out hO h3 h4 (by omega) (by omega)), cnt_out (susp_out hO h3 h4 (by omega) (by omega))]
theorem cnt_far {w : Nat → Nat} (hO : Ok w) (h3 : w 3 = 3) (h4 : w 4 = 3) : ∀ n, 18 + n ≤ 36 → gCnt w (18 + n) = gCnt w 18 := by
  intro n
  induction n with
  | zero => intro _; rfl
  | succ n ih =>
    intro h
    rw [show 18 + (n + 1) = 18 + n + 1 by omega, cnt_out (susp_out hO h3 h4 (by omega) (by omega)), ih (by omega)]
theorem cnt_le {g : Nat → Nat} {n : Nat} : gCnt g n ≤ n := by
  have := sumTo_le (f := fun q => if susp g q = true then 1 else 0) (b := 1) (n := n) (fun k _ => by split <;> omega)
  show sumTo n _ ≤ n
  omega
theorem h_cntIn {N : Nat} {w : Nat → Nat} {ul : Nat → Nat} {uw : Nat → Nat → Int32} {ut uq : Nat → Option (Nat → Int32)} {uo : Int32} {us : Int64} {r : Int32 → Int32 → (Nat → Nat → Int32) → (Nat → Option (Nat → Int32)) → (Nat → Option (Nat → Int32)) → Int32 → Int32 → Int64 → Int32 → Int32 → Option (Int32 × (Nat → Nat → Int32) × (Nat → Option (Nat → Int32)) × (Nat → Option (Nat → Int32)) × Int32 × Int32 × Int64 × Int32 × Int32)} {p : Nat} (hN : 1000 < N) (hw : Ok w) (h3 : w 3 = 3) (h4 : w 4 = 3) (hW : HW w ul uw) (hU : HT w ut) (hp : p < 3) : ∀ (k d j : Nat), d + k = 3 → k < j → f_X11_acts_L343 N ul r j (nI (gCnt w (6 * p + d))) (nI p) (nI d) uw ut uq (nI (w 5)) uo us (nI (w 1)) (nI (w 2)) = r (nI (gCnt w (6 * p + 6))) (nI (p + 1)) uw ut uq (nI (w 5)) uo us (nI (w 1)) (nI (w 2)) := by
  intro k
  induction k with
  | zero =>
    intro d j h1 h2
    obtain ⟨j, rfl⟩ : ∃ t, j = t + 1 := ⟨j - 1, by omega⟩
    obtain rfl : d = 3 := by omega
    rw [cnt_row hw h3 h4 (by omega)]
    show f_X11_acts_L343_F N ul r (f_X11_acts_L343 N ul r j) _ _ _ _ _ _ _ _ _ _ _ = _
    unfold f_X11_acts_L343_F
    rw [if_pos (by rw [n_3, q_le (by omega) (by omega)]; omega), n_1, nI_add]
  | succ k ih =>
    intro d j h1 h2
    obtain ⟨j, rfl⟩ : ∃ t, j = t + 1 := ⟨j - 1, by omega⟩
    have hbad := h_bad (N := N) (ul := ul) (uw := uw) (p := p) (d := d) hN hw.1 hw.2.1 hw.2.2.2.1 h3 hW hU (by omega) (by omega)
    have hih := ih (d + 1) j (by omega) (by omega)
    rw [show 6 * p + (d + 1) = 6 * p + d + 1 by omega, cnt_s] at hih
    show f_X11_acts_L343_F N ul r (f_X11_acts_L343 N ul r j) _ _ _ _ _ _ _ _ _ _ _ = _
    unfold f_X11_acts_L343_F f_X11_acts_L363
    rw [if_neg (by rw [n_3, q_le (by omega) (by omega)]; omega), hbad, Option.bind_some]
    cases hs : susp w (6 * p + d) with
    | false =>
      rw [hs, if_neg (by decide), Nat.add_zero] at hih
      rw [if_pos (by unfold bI; rw [if_neg (by decide), n_0]), n_1, nI_add]
      exact hih
    | true =>
      rw [hs, if_pos rfl] at hih
      rw [if_neg (by unfold bI; rw [if_pos rfl, n_0, q_eq (by omega) (by omega)]; omega), n_1, nI_add, nI_add]
      exact hih
theorem h_cntOut {N : Nat} {w : Nat → Nat} {ul : Nat → Nat} {uw : Nat → Nat → Int32} {ut uq : Nat → Option (Nat → Int32)} {uo : Int32} {us : Int64} (hN : 1000 < N) (hw : Ok w) (h3 : w 3 = 3) (h4 : w 4 = 3) (hW : HW w ul uw) (hU : HT w ut) : ∀ (k p j : Nat), p + k = 3 → k < j → f_X11_acts_L334 N ul j (nI (gCnt w (6 * p))) (nI p) uw ut uq (nI (w 5)) uo us (nI (w 1)) (nI (w 2)) = some (nI (gCnt w 36), uw, ut, uq, nI (w 5), uo, us, nI (w 1), nI (w 2)) := by
  intro k
  induction k with
  | zero =>
    intro p j h1 h2
    obtain ⟨j, rfl⟩ : ∃ t, j = t + 1 := ⟨j - 1, by omega⟩
    obtain rfl : p = 3 := by omega
    have e := cnt_far hw h3 h4 18 (by omega)
    rw [show gCnt w 36 = gCnt w (18 + 18) from rfl, e]
    show f_X11_acts_L334_F N ul (f_X11_acts_L334 N ul j) _ _ _ _ _ _ _ _ _ _ = _
    unfold f_X11_acts_L334_F
    rw [if_pos (by rw [n_3, q_le (by omega) (by omega)]; omega)]
  | succ k ih =>
    intro p j h1 h2
    obtain ⟨j, rfl⟩ : ∃ t, j = t + 1 := ⟨j - 1, by omega⟩
    have a2 := h_cntIn (N := N) (uq := uq) (uo := uo) (us := us) (r := f_X11_acts_L334 N ul j) hN hw h3 h4 hW hU (show p < 3 by omega) 3 0 N (by omega) (by omega)
    have b2 := ih (p + 1) j (by omega) (by omega)
    show f_X11_acts_L334_F N ul (f_X11_acts_L334 N ul j) _ _ _ _ _ _ _ _ _ _ = _
    unfold f_X11_acts_L334_F
    rw [if_neg (by rw [n_3, q_le (by omega) (by omega)]; omega), n_0]
    exact a2.trans b2
/-! the hand's weight -/
theorem h_wgtL {N : Nat} {g : Nat → Nat} {ul : Nat → Nat} {uw : Nat → Nat → Int32} {ut uq : Nat → Option (Nat → Int32)} {um uo ui uh y : Int32} {us : Int64} {d i v : Nat} (hB : okB g) (hD : okD g) (h33 : g 3 = 3) (hW : HW g ul uw) (hd : d < 3) (hi : i < dF g d) (hv : v ≤ 9) (hy : y / 64 - y / 64 / 10 * 10 = nI v) : ∀ j f : Nat, f ≤ dF g d → dF g d < f + j → f_X11_acts_L220 N ul j y (nI d) (nI i) (nI (sumTo f (fun t => if t = i then v else dW g d t))) (nI f) uw ut uq um uo us ui uh = (if sumTo (dF g d) (fun t => if t = i then v else dW g d t) = 0 then some (-9, uw, ut, uq, um, uo, us, ui, uh) else some (nI (dW g d i), upw uw d i (nI v), ut, uq, um, uo, us, ui, uh)) := by
  have hF := hD d (by omega)
  obtain ⟨hul, huw⟩ := hW d (by omega)
  have hsum : ∀ f, f ≤ dF g d → sumTo f (fun t => if t = i then v else dW g d t) ≤ 108 := fun f hf => by
    have := sumTo_le (f := fun t => if t = i then v else dW g d t) (b := 9) (n := f) (fun k hk => by
      show (if k = i then v else dW g d k) ≤ 9
      split
      · exact hv
      · exact hF.2.2.1 k (by omega))
    omega
  intro j
  induction j with
  | zero => intro f h1 h2; omega
  | succ j ih =>
    intro f h1 h2
    show f_X11_acts_L220_F N ul (f_X11_acts_L220 N ul j) _ _ _ _ _ _ _ _ _ _ _ _ _ = _
    unfold f_X11_acts_L220_F
    have hs := hsum f h1
    rw [q_gi hd (by omega), q_cl (by omega), hul, hy]
    by_cases hf : dF g d ≤ f
    · obtain rfl : f = dF g d := by omega
      rw [if_pos (by rw [q_le (by omega) (by omega)]; omega)]
      by_cases c : sumTo (dF g d) (fun t => if t = i then v else dW g d t) = 0
      · rw [if_pos c, if_pos (by rw [c, n_0])]
      · rw [if_neg c, if_neg (by rw [n_0, q_eq (by omega) (by omega)]; exact c), q_gi hi (by omega), q_gi hi (by omega), q_cl (by omega), huw i hi]
    · rw [if_neg (by rw [q_le (by omega) (by omega)]; omega)]
      have h := ih (f + 1) (by omega) (by omega)
      have hst : sumTo (f + 1) (fun t => if t = i then v else dW g d t) = sumTo f (fun t => if t = i then v else dW g d t) + if f = i then v else dW g d f := rfl
      rw [hst] at h
      by_cases c : f = i
      · rw [if_pos c] at h
        rw [if_pos (by rw [c]), nI_add, n_1, nI_add]
        exact h
      · rw [if_neg c] at h
        rw [if_neg (by rw [q_eq (by omega) (by omega)]; exact c), q_gi (by omega) (by omega), q_cl (by omega), huw f (by omega), nI_add, n_1, nI_add]
        exact h
theorem up_HW {g : Nat → Nat} {ul : Nat → Nat} {uw : Nat → Nat → Int32} {d i v : Nat} (h33 : g 3 = 3) (hD : okD g) (hW : HW g ul uw) (hd : d < 3) (hi : i < dF g d) : HW (up g (8 + 13 * d + i) v) ul (upw uw d i (nI v)) := by
  have hF := hD d (by omega)
  intro d' hd'
  have e3 : up g (8 + 13 * d + i) v 3 = g 3 := up_n (by omega)
  rw [e3] at hd'
  have hF' := hD d' hd'
  have eF : dF (up g (8 + 13 * d + i) v) d' = dF g d' := up_n (by omega)
  rw [eF]
  obtain ⟨a, b⟩ := hW d' hd'
  refine ⟨a, fun k hk => ?_⟩
  unfold upw
  by_cases c : d' = d
  · rw [if_pos c]
    by_cases c2 : k = i
    · rw [c2, q_us rfl]
      have e : dW (up g (8 + 13 * d + i) v) d' i = v := up_s (by omega)
      rw [e]
    · have e : dW (up g (8 + 13 * d + i) v) d' k = dW g d' k := up_n (by omega)
      rw [q_un c2, e, ← c]
      exact b k hk
  · have e : dW (up g (8 + 13 * d + i) v) d' k = dW g d' k := up_n (by omega)
    rw [if_neg c, e]
    exact b k hk
theorem q_rm' {a b : Nat} {B : Int32} (hB : B = nI b) (ha : a < 2147483648) (h0 : 0 < b) (hb : b < 2147483648) : nI a - nI a / B * B = nI (a % b) := by
  rw [hB]
  exact q_rm ha h0 hb
theorem q_dv' {a b : Nat} {B : Int32} (hB : B = nI b) (ha : a < 2147483648) (h0 : 0 < b) (hb : b < 2147483648) : nI a / B = nI (a / b) := by
  rw [hB]
  exact q_div ha h0 hb
theorem w_acts {N a b c : Nat} {g : Nat → Nat} {sd : Int32} {mn : Int32} {th : Int32} {dc : Int32} {fc : Nat → Int32} {dw : Nat → Int32} {pc : Int32} {ln : Nat → Int32} {lt : Nat → Int32} {tc : Int32} {en : Nat → Int32} {fr : Nat → Int32} {oc : Int32} {op : Nat → Int32} {os : Nat → Int32} {sd1 : Int32} {mn1 : Int32} {th1 : Int32} {dc1 : Int32} {fc1 : Nat → Int32} {dw1 : Nat → Int32} {pc1 : Int32} {ln1 : Nat → Int32} {lt1 : Nat → Int32} {tc1 : Int32} {en1 : Nat → Int32} {fr1 : Nat → Int32} {oc1 : Int32} {op1 : Nat → Int32} {os1 : Nat → Int32} {ul : Nat → Nat} {uw : Nat → Nat → Int32} {ut uq : Nat → Option (Nat → Int32)} {um uo : Int32} {us : Int64} {ui uh : Int32} (hN : 1000 < N) (hc : c < 2147483648) (ha : a < 8) (hb : b ≤ 8) (hK : KR g sd mn th dc fc dw pc ln lt tc en fr oc op os ul uw ut uq um uo us ui uh) : ∃ t1 t, f_X11_acts N ul uw ut uq um uo us ui uh (nI c) = some t1 ∧ f_L_acts N dc fc pc ln lt sd mn th dw tc en fr oc op os (nI a) (nI b) sd1 mn1 th1 dc1 fc1 dw1 pc1 ln1 lt1 tc1 en1 fr1 oc1 op1 os1 (nI c) = some t ∧ t.1 = t1.1 ∧ (∃ g', KR g' t.2.1 t.2.2.1 t.2.2.2.1 dc fc t.2.2.2.2.1 pc ln lt t.2.2.2.2.2.1 t.2.2.2.2.2.2.1 t.2.2.2.2.2.2.2.1 t.2.2.2.2.2.2.2.2.1 t.2.2.2.2.2.2.2.2.2.1 t.2.2.2.2.2.2.2.2.2.2.1 ul t1.2.1 t1.2.2.1 t1.2.2.2.1 t1.2.2.2.2.1 t1.2.2.2.2.2.1 t1.2.2.2.2.2.2.1 t1.2.2.2.2.2.2.2.1 t1.2.2.2.2.2.2.2.2) ∧ (∃ a', a' < 8 ∧ t.2.2.2.2.2.2.2.2.2.2.2.1 = nI a') ∧ ∃ b', b' ≤ 8 ∧ t.2.2.2.2.2.2.2.2.2.2.2.2.1 = nI b' := by
  have hK0 := hK
  obtain ⟨hO, h3, h4, hH, hZ, hW, hU, hQ, rfl, rfl, rfl, rfl, rfl⟩ := hK
  have b5 := b_5 hO.1
  have h9 := six_le hO.2.2.2.2 h3 h4
  have hdc : dc = nI (g 3) := hH.1.2.2.2.1
  have e16 := q_rm' (a := c) (b := 16) (B := 16) rfl hc (by omega) (by omega)
  have ey := q_dv' (a := c) (b := 16) (B := 16) rfl hc (by omega) (by omega)
  have hy : c / 16 < 2147483648 := by omega
  have h16 : c % 16 < 16 := Nat.mod_lt _ (by omega)
  unfold f_X11_acts f_L_acts
  rw [e16, ey, q_gi h16 (by omega), q_gi h16 (by omega)]
  generalize c / 16 = y at hy
  generalize c % 16 = k at h16
  have m3 := q_rm' (a := y) (b := 3) (B := 3) rfl hy (by omega) (by omega)
  have d4 := q_dv' (a := y) (b := 4) (B := 4) rfl hy (by omega) (by omega)
  have d16 := q_dv' (a := y) (b := 16) (B := 16) rfl hy (by omega) (by omega)
  have d64 := q_dv' (a := y) (b := 64) (B := 64) rfl hy (by omega) (by omega)
  have m16 := q_rm' (a := y / 16) (b := 14) (B := 14) rfl (by omega) (by omega) (by omega)
  rw [m3, d4, d16, d64, m16]
  have hy3 : y % 3 < 3 := Nat.mod_lt _ (by omega)
  have hn14 : y / 16 % 14 < 14 := Nat.mod_lt _ (by omega)
  have en14 : (1 : Int32) + nI (y / 16 % 14) = nI (1 + y / 16 % 14) := nI_add 1 _
  by_cases k8 : k < 8
  · have k8' : nI k < nI 8 := by rw [q_lt (by omega) (by omega)]; exact k8
    rw [if_pos k8', if_pos k8']
    have m4 := q_rm' (a := y / 4) (b := 3) (B := 3) rfl (by omega) (by omega) (by omega)
    have hd3 : y / 4 % 3 < 3 := Nat.mod_lt _ (by omega)
    rw [m4, en14, n_1, nI_add, nI_add]
    generalize y % 3 = p at hy3
    generalize y / 4 % 3 = d at hd3
    generalize hnn : y / 16 % 14 = n at hn14
    by_cases c5 : g 5 + (1 + n) ≤ 300
    · obtain ⟨ut', e1, e2⟩ := h_throw (N := N) (p := p) (d := d) (b := 0) (n := 1 + n) hN hO h3 hW hU (by omega) hd3 (by omega) c5
      obtain ⟨t, f1, f2, f3, f4, f5⟩ := c_throw (sd1 := sd1) (mn1 := mn1) (th1 := th1) (dc1 := dc1) (fc1 := fc1) (dw1 := dw1) (pc1 := pc1) (ln1 := ln1) (lt1 := lt1) (tc1 := tc1) (en1 := en1) (fr1 := fr1) (oc1 := oc1) (op1 := op1) (os1 := os1) (N := N) (p := p) (d := d) (n := 1 + n) hN hO hH ha hb (by omega) (by omega) (by omega) (by omega) c5
      obtain ⟨v1, v2, v3, v4, v5, v6, v7⟩ := gThr_s (p := p) (d := d) (b := 0) hO (by omega) (by omega) (by omega) (1 + n) c5
      rw [if_pos (show nI (g 5 + 1 + n) ≤ 300 by rw [n_300, q_le (by omega) (by omega)]; omega), n_0, e1, Option.bind_some, f1, hbd_t]
      refine ⟨_, _, rfl, rfl, f2, ⟨gThr g p d 0 (1 + n), v1, v3.1.trans h3, v4.1.trans h4, f3, hZ, HW_s hO.1 hO.2.1 v3 hW, e2, QS_sO hO.1 v5 hQ, by rw [v2], by rw [v5.1], rfl, by rw [v6], by rw [v7]⟩, f4, f5⟩
    · rw [if_neg (show ¬ nI (g 5 + 1 + n) ≤ 300 by rw [n_300, q_le (by omega) (by omega)]; omega), c_throwX hO hH (by omega) (by omega) (by omega) (by omega) (by omega), hbd_f, if_pos rfl]
      exact ⟨_, _, rfl, rfl, rfl, ⟨g, hK0⟩, ⟨a, ha, rfl⟩, b, hb, rfl⟩
  have k8' : ¬ nI k < nI 8 := by rw [q_lt (by omega) (by omega)]; exact k8
  rw [if_neg k8', if_neg k8']
  by_cases k10 : k < 10
  · have k10' : nI k < nI 10 := by rw [q_lt (by omega) (by omega)]; exact k10
    rw [if_pos k10', if_pos k10']
    obtain ⟨uq', e2, e1⟩ := h_audits (N := N) hN hO h3 h4 hW hU hQ
    obtain ⟨t, f1, f2, f0, f3, f4, f5⟩ := c_audit (sd1 := sd1) (mn1 := mn1) (th1 := th1) (dc1 := dc1) (fc1 := fc1) (dw1 := dw1) (pc1 := pc1) (ln1 := ln1) (lt1 := lt1) (tc1 := tc1) (en1 := en1) (fr1 := fr1) (oc1 := oc1) (op1 := op1) (os1 := os1) (N := N) hN hO hH hZ ha hb
    obtain ⟨v1, v2, v3⟩ := gAud_s hO 36 (by omega)
    rw [e1, Option.bind_some, f1, Option.bind_some]
    refine ⟨_, _, rfl, rfl, f2, ⟨gAud g 36, v1, v2.2.1.1.trans h3, v2.2.2.1.1.trans h4, f3, hZ, HW_s hO.1 hO.2.1 v2.2.1 hW, HT_s hO.1 v2.1 hU, e2, by rw [v2.1.1], rfl, by rw [v2.2.2.2 0 (by omega)], by rw [v2.2.2.2 1 (by omega)], by rw [v2.2.2.2 2 (by omega)]⟩, f4, f5⟩
  have k10' : ¬ nI k < nI 10 := by rw [q_lt (by omega) (by omega)]; exact k10
  rw [if_neg k10', if_neg k10']
  by_cases k12 : k < 12
  · have k12' : nI k < nI 12 := by rw [q_lt (by omega) (by omega)]; exact k12
    rw [if_pos k12', if_pos k12']
    by_cases c6 : g 6 = 0
    · have e1 : f_X11_absolves N ul uw ut uq (nI (g 5)) (nI (g 6)) (lN (g 0)) = some (-9, ut, uq, nI (g 5), nI (g 6), lN (g 0)) := by
        unfold f_X11_absolves
        rw [if_pos (by rw [c6, n_0])]
      rw [e1, Option.bind_some, c_absolveX hH c6, hbd_f, if_pos rfl]
      exact ⟨_, _, rfl, rfl, rfl, ⟨g, hK0⟩, ⟨a, ha, rfl⟩, b, hb, rfl⟩
    · have hg := gPop_i hO.1
      generalize gPop (kpT g (oQ g 0) (cQ g (oQ g 0) - gPen g)) g = g' at hg
      obtain ⟨ut', uq', e1, e2, e3⟩ := h_absolves (N := N) hN hO h3 h4 hW hU hQ (by omega) hg
      obtain ⟨t, f1, f2, f0, f3, f4, f5⟩ := c_absolve (sd1 := sd1) (mn1 := mn1) (th1 := th1) (dc1 := dc1) (fc1 := fc1) (dw1 := dw1) (pc1 := pc1) (ln1 := ln1) (lt1 := lt1) (tc1 := tc1) (en1 := en1) (fr1 := fr1) (oc1 := oc1) (op1 := op1) (os1 := os1) (N := N) hN hO hH ha hb (by omega) hg
      obtain ⟨s1, s2, s3, s4⟩ := pen_s hO (by omega) hg
      obtain ⟨p1, p2, p3, p4, p5⟩ := hg
      obtain ⟨v1, v2, v3, v4, v5, v6, v7⟩ := gThr_s (b := 1) s1 s3 s4 (by omega) (gPen g) (by omega)
      rw [e1, Option.bind_some, f1, hbd_t]
      refine ⟨_, _, rfl, rfl, f2, ⟨gThr g' (oP g 0) (oD g 0) 1 (gPen g), v1, v3.1.trans (p3.1.trans h3), v4.1.trans (p4.1.trans h4), f3, hZ, HW_s s1.1 s1.2.1 v3 (HW_s hO.1 hO.2.1 p3 hW), e2, e3, rfl, rfl, rfl, by rw [v6, p5 1 (by omega)], by rw [v7, p5 2 (by omega)]⟩, f4, f5⟩
  have k12' : ¬ nI k < nI 12 := by rw [q_lt (by omega) (by omega)]; exact k12
  rw [if_neg k12', if_neg k12']
  by_cases k13 : k < 13
  · have k13' : nI k < nI 13 := by rw [q_lt (by omega) (by omega)]; exact k13
    rw [if_pos k13', if_pos k13']
    obtain ⟨hsrt, σ, hHQ, hBJ⟩ := hQ
    obtain ⟨uq', σ', m', g1, e1, e2⟩ := h_forgL (N := N) (ul := ul) (uw := uw) (ut := ut) (um := nI (g 5)) (us := lN (g 0)) (ui := nI (g 1)) (uh := nI (g 2)) hO.2.2.2.2 h3 h4 hy3 m3 (g 6) N (g 6) aL uq σ (Nat.le_refl _) (Nat.le_refl _) (by omega) ⟨hHQ, hBJ⟩ (fun i h1 h2 => by omega) (fun r hr hn => absurd trivial hn)
    have ek : (fun r => oP g r ≠ y % 3) = fun r => kpO g (y % 3) r = true := funext fun r => propext (decide_eq_true_iff (p := oP g r ≠ y % 3)).symm
    rw [ek] at e2
    have hi := gSel_i (kp := kpO g (y % 3)) hO.1
    obtain ⟨hm, hQ'⟩ := sel_QS hsrt hi e2
    obtain ⟨t, f1, f2, f0, f3, f4, f5⟩ := c_forgive (sd1 := sd1) (mn1 := mn1) (th1 := th1) (dc1 := dc1) (fc1 := fc1) (dw1 := dw1) (pc1 := pc1) (ln1 := ln1) (lt1 := lt1) (tc1 := tc1) (en1 := en1) (fr1 := fr1) (oc1 := oc1) (op1 := op1) (os1 := os1) (N := N) (p := y % 3) hN hO hH ha hb (by omega)
    have u4 : ∀ k, k ≠ 6 → k < 1291 → gSel (kpO g (y % 3)) g k = g k := fun k h1 h2 => gSel_n h1 h2
    have w1 : sT g (gSel (kpO g (y % 3)) g) := ⟨u4 5 (by omega) (by omega), fun k k1 k2 => u4 k (by omega) (by omega)⟩
    have w2 : sD g (gSel (kpO g (y % 3)) g) := ⟨u4 3 (by omega) (by omega), fun k k1 k2 => u4 k (by omega) (by omega)⟩
    have w3 : sP g (gSel (kpO g (y % 3)) g) := ⟨u4 4 (by omega) (by omega), fun k k1 k2 => u4 k (by omega) (by omega)⟩
    rw [Nat.sub_self] at e1
    rw [n_0, n_1, e1, f1, hbd_t, hm]
    refine ⟨_, _, rfl, rfl, f2, ⟨gSel (kpO g (y % 3)) g, f0, w2.1.trans h3, w3.1.trans h4, f3, hZ, HW_s hO.1 hO.2.1 w2 hW, HT_s hO.1 w1 hU, hQ', by rw [w1.1], rfl, by rw [u4 0 (by omega) (by omega)], by rw [u4 1 (by omega) (by omega)], by rw [u4 2 (by omega) (by omega)]⟩, f4, f5⟩
  have k13' : ¬ nI k < nI 13 := by rw [q_lt (by omega) (by omega)]; exact k13
  rw [if_neg k13', if_neg k13']
  by_cases k14 : k < 14
  · have k14' : nI k < nI 14 := by rw [q_lt (by omega) (by omega)]; exact k14
    rw [if_pos k14', if_pos k14']
    have hF := hO.2.1 (y % 3) (by omega)
    have hul := (hW (y % 3) (by omega)).1
    have hDR := hH.2.1
    have m64 := q_rm' (a := y / 64) (b := 10) (B := 10) rfl (by omega) (by omega) (by omega)
    have hv9 : y / 64 % 10 < 10 := Nat.mod_lt _ (by omega)
    have mF := q_rm' (a := y / 4) (b := dF g (y % 3)) rfl (by omega) (by omega) (by omega)
    have hiF : y / 4 % dF g (y % 3) < dF g (y % 3) := Nat.mod_lt _ (by omega)
    have e64 : nI y / 64 - nI y / 64 / 10 * 10 = nI (y / 64 % 10) := by rw [d64]; exact m64
    have hw := h_wgtL (N := N) (ut := ut) (uq := uq) (um := nI (g 5)) (uo := nI (g 6)) (ui := nI (g 1)) (uh := nI (g 2)) (us := lN (g 0)) (v := y / 64 % 10) hO.1 hO.2.1 h3 hW hy3 hiF (by omega) e64 N 0 (by omega) (by omega)
    have hfc := x_faces hO.1 hDR (show y % 3 < g 3 by omega)
    rw [← hdc] at hfc
    have hsu := sum_up (f := dW g (y % 3)) (f' := fun t => if t = y / 4 % dF g (y % 3) then y / 64 % 10 else dW g (y % 3) t) (v := y / 64 % 10) hiF (if_pos rfl) (fun j _ hne => if_neg hne)
    have hge : dW g (y % 3) (y / 4 % dF g (y % 3)) ≤ sumTo (dF g (y % 3)) (dW g (y % 3)) := sumTo_ge hiF
    have hdS : dS g (y % 3) = sumTo (dF g (y % 3)) (dW g (y % 3)) := rfl
    rw [sumTo_0] at hw
    rw [q_gi hy3 (by omega), q_cl (by omega), hul, q_gz (by omega) (by omega), mF, n_0, hw, hfc, hbd_t, q_gz (by omega) (by omega), mF, m64, show (1 : Int32) + nI (y / 4 % dF g (y % 3)) = nI (y / 4 % dF g (y % 3) + 1) by rw [n_1, nI_add, Nat.add_comm]]
    by_cases c0 : sumTo (dF g (y % 3)) (fun t => if t = y / 4 % dF g (y % 3) then y / 64 % 10 else dW g (y % 3) t) = 0
    · rw [if_pos c0, c_weightX (N := N) hN hO hH (by omega) hiF (by omega) (by omega), hbd_f, if_pos rfl]
      exact ⟨_, _, rfl, rfl, rfl, ⟨g, hK0⟩, ⟨a, ha, rfl⟩, b, hb, rfl⟩
    · obtain ⟨t, f1, f2, f0, f3, f4, f5⟩ := c_weight (sd1 := sd1) (mn1 := mn1) (th1 := th1) (dc1 := dc1) (fc1 := fc1) (dw1 := dw1) (pc1 := pc1) (ln1 := ln1) (lt1 := lt1) (tc1 := tc1) (en1 := en1) (fr1 := fr1) (oc1 := oc1) (op1 := op1) (os1 := os1) (N := N) (d := y % 3) (i := y / 4 % dF g (y % 3)) (v := y / 64 % 10) hN hO hH ha hb (by omega) hiF (by omega) (by omega)
      have hx : ∀ k, k ≠ 8 + 13 * (y % 3) + y / 4 % dF g (y % 3) → up g (8 + 13 * (y % 3) + y / 4 % dF g (y % 3)) (y / 64 % 10) k = g k := fun k hk => up_n hk
      have w1 : sT g (up g (8 + 13 * (y % 3) + y / 4 % dF g (y % 3)) (y / 64 % 10)) := ⟨hx 5 (by omega), fun k k1 k2 => hx k (by omega)⟩
      have w4 : sO g (up g (8 + 13 * (y % 3) + y / 4 % dF g (y % 3)) (y / 64 % 10)) := ⟨hx 6 (by omega), fun k k1 k2 => hx k (by omega)⟩
      rw [if_neg c0, f1, hbd_t]
      refine ⟨_, _, rfl, rfl, f2, ⟨_, f0, (hx 3 (by omega)).trans h3, (hx 4 (by omega)).trans h4, f3, hZ, up_HW h3 hO.2.1 hW hy3 hiF, HT_s hO.1 w1 hU, QS_sO hO.1 w4 hQ, by rw [w1.1], by rw [w4.1], by rw [hx 0 (by omega)], by rw [hx 1 (by omega)], by rw [hx 2 (by omega)]⟩, f4, f5⟩
  have k14' : ¬ nI k < nI 14 := by rw [q_lt (by omega) (by omega)]; exact k14
  rw [if_neg k14', if_neg k14']
  by_cases k15 : k < 15
  · have k15' : nI k < nI 15 := by rw [q_lt (by omega) (by omega)]; exact k15
    rw [if_pos k15', if_pos k15']
    have m65 := q_rm' (a := y) (b := 65537) (B := 65537) rfl hy (by omega) (by omega)
    have hs : y % 65537 < 65537 := Nat.mod_lt _ (by omega)
    obtain ⟨t, f1, f2, f0, f3, f4, f5⟩ := c_seed (sd1 := sd1) (mn1 := mn1) (th1 := th1) (dc1 := dc1) (fc1 := fc1) (dw1 := dw1) (pc1 := pc1) (ln1 := ln1) (lt1 := lt1) (tc1 := tc1) (en1 := en1) (fr1 := fr1) (oc1 := oc1) (op1 := op1) (os1 := os1) (N := N) (n := y % 65537) hO hH ha hb (by omega)
    have hx : ∀ k, k ≠ 0 → up g 0 (y % 65537) k = g k := fun k hk => up_n hk
    have w1 : sT g (up g 0 (y % 65537)) := ⟨hx 5 (by omega), fun k k1 k2 => hx k (by omega)⟩
    have w2 : sD g (up g 0 (y % 65537)) := ⟨hx 3 (by omega), fun k k1 k2 => hx k (by omega)⟩
    have w4 : sO g (up g 0 (y % 65537)) := ⟨hx 6 (by omega), fun k k1 k2 => hx k (by omega)⟩
    rw [m65, f1, hbd_t, lN_i, nI_l (by omega)]
    refine ⟨_, _, rfl, rfl, f2, ⟨up g 0 (y % 65537), f0, (hx 3 (by omega)).trans h3, (hx 4 (by omega)).trans h4, f3, hZ, HW_s hO.1 hO.2.1 w2 hW, HT_s hO.1 w1 hU, QS_sO hO.1 w4 hQ, by rw [w1.1], by rw [w4.1], by rw [up_s rfl], by rw [hx 1 (by omega)], by rw [hx 2 (by omega)]⟩, f4, f5⟩
  have k15' : ¬ nI k < nI 15 := by rw [q_lt (by omega) (by omega)]; exact k15
  rw [if_neg k15', if_neg k15']
  have m9 := q_rm' (a := y) (b := 9) (B := 9) rfl hy (by omega) (by omega)
  have h9y : y % 9 < 9 := Nat.mod_lt _ (by omega)
  have e9 : (1 : Int32) + nI (y % 9) = nI (1 + y % 9) := nI_add 1 _
  obtain ⟨t, f1, f2, f0, f3, f4, f5⟩ := c_limits (sd1 := sd1) (mn1 := mn1) (th1 := th1) (dc1 := dc1) (fc1 := fc1) (dw1 := dw1) (pc1 := pc1) (ln1 := ln1) (lt1 := lt1) (tc1 := tc1) (en1 := en1) (fr1 := fr1) (oc1 := oc1) (op1 := op1) (os1 := os1) (N := N) (n := 1 + y % 9) (v := y / 16 % 14) hN hO hH hZ ha hb (by omega) (by omega) (by omega)
  have hx : ∀ k, k ≠ 1 → k ≠ 2 → up (up g 1 (1 + y % 9)) 2 (y / 16 % 14) k = g k := fun k hk h2 => by rw [up_n h2, up_n hk]
  have x1 : up (up g 1 (1 + y % 9)) 2 (y / 16 % 14) 1 = 1 + y % 9 := by rw [up_n (by omega), up_s rfl]
  have x2 : up (up g 1 (1 + y % 9)) 2 (y / 16 % 14) 2 = y / 16 % 14 := up_s rfl
  have w1 : sT g (up (up g 1 (1 + y % 9)) 2 (y / 16 % 14)) := ⟨hx 5 (by omega) (by omega), fun k k1 k2 => hx k (by omega) (by omega)⟩
  have w2 : sD g (up (up g 1 (1 + y % 9)) 2 (y / 16 % 14)) := ⟨hx 3 (by omega) (by omega), fun k k1 k2 => hx k (by omega) (by omega)⟩
  have w4 : sO g (up (up g 1 (1 + y % 9)) 2 (y / 16 % 14)) := ⟨hx 6 (by omega) (by omega), fun k k1 k2 => hx k (by omega) (by omega)⟩
  have hct := h_cntOut (N := N) (uq := uq) (uo := nI (g 6)) (us := lN (g 0)) hN f0 ((hx 3 (by omega) (by omega)).trans h3) ((hx 4 (by omega) (by omega)).trans h4) (HW_s hO.1 hO.2.1 w2 hW) (HT_s hO.1 w1 hU) 3 0 N (by omega) (by omega)
  have hz : gCnt (up (up g 1 (1 + y % 9)) 2 (y / 16 % 14)) (6 * 0) = 0 := rfl
  rw [hz, w1.1, x1, x2] at hct
  rw [m9, e9, n_0, hct, f1, hbd_t]
  refine ⟨_, _, rfl, rfl, f2, ⟨_, f0, (hx 3 (by omega) (by omega)).trans h3, (hx 4 (by omega) (by omega)).trans h4, f3, hZ, HW_s hO.1 hO.2.1 w2 hW, HT_s hO.1 w1 hU, QS_sO hO.1 w4 hQ, by rw [w1.1], by rw [w4.1], by rw [hx 0 (by omega) (by omega)], by rw [x1], by rw [x2]⟩, f4, f5⟩
