/-! what is left of a record and of a queue -/
def isCut (kp : Nat → Bool) (g g' : Nat → Nat) : Prop := g' 5 = cK kp (g 5) ∧ ∀ j, j < g 5 → kp j = true → ∀ c, c < 4 → g' (91 + 4 * cK kp j + c) = g (91 + 4 * j + c)
def isPop (g g' : Nat → Nat) : Prop := g' 6 = g 6 - 1 ∧ ∀ r, r < g 6 - 1 → ∀ c, c < 3 → g' (1291 + 3 * r + c) = g (1291 + 3 * (r + 1) + c)
def isSel (kp : Nat → Bool) (g g' : Nat → Nat) : Prop := g' 6 = cK kp (g 6) ∧ ∀ j, j < g 6 → kp j = true → ∀ c, c < 3 → g' (1291 + 3 * cK kp j + c) = g (1291 + 3 * j + c)
theorem cut_t {kp : Nat → Bool} {g g' : Nat → Nat} (h : isCut kp g g') {j : Nat} (hj : j < g 5) (hk : kp j = true) : tP g' (cK kp j) = tP g j ∧ tD g' (cK kp j) = tD g j ∧ tF g' (cK kp j) = tF g j ∧ tB g' (cK kp j) = tB g j ∧ tQ g' (cK kp j) = tQ g j := by
  have h0 : tP g' (cK kp j) = tP g j := h.2 j hj hk 0 (by omega)
  have h1 : tD g' (cK kp j) = tD g j := h.2 j hj hk 1 (by omega)
  exact ⟨h0, h1, h.2 j hj hk 2 (by omega), h.2 j hj hk 3 (by omega), by unfold tQ; rw [h0, h1]⟩
theorem cut_okT {kp : Nat → Bool} {g g' : Nat → Nat} (h : isCut kp g g') (hd : sD g g') (hp : sP g g') (hB : okB g) (hT : okT g) : okT g' := by
  have h3 := b_3 hB
  intro k hk
  rw [h.1] at hk
  obtain ⟨j, h1, h2, h3⟩ := cK_surj hk
  subst h3
  obtain ⟨e1, e2, e3, e4, -⟩ := cut_t h h1 h2
  have ht := hT j h1
  rw [e1, e2, e3, e4, hp.1, hd.1, sD_F hd (by omega)]
  exact ht
theorem cut_E {kp : Nat → Bool} {g g' : Nat → Nat} {en en' : Nat → Int32} (h : isCut kp g g') (hE : ER g en) (he : ∀ t, t < g 5 → kp t = true → en' (cK kp t) = en t) : ER g' en' := by
  intro k hk
  rw [h.1] at hk
  obtain ⟨j, h1, h2, h3⟩ := cK_surj hk
  subst h3
  obtain ⟨-, -, e3, e4, e5⟩ := cut_t h h1 h2
  rw [e3, e4, e5, he j h1 h2]
  exact hE j h1
theorem cut_c {kp : Nat → Bool} {g g' : Nat → Nat} (h : isCut kp g g') (q f : Nat) : cF g' q f = kF g kp (g 5) q f := by
  unfold cF kF
  rw [h.1, cK_sum (h := fun j => if tQ g j = q ∧ tF g j = f + 1 then 1 else 0) (fun j hj hk => by
    obtain ⟨-, -, e3, -, e5⟩ := cut_t h hj hk
    show (if tQ g' (cK kp j) = q ∧ tF g' (cK kp j) = f + 1 then 1 else 0) = _
    rw [e3, e5])]
  refine sumTo_congr (fun k hk => ?_)
  by_cases c1 : kp k = true
  · rw [if_pos c1]
    by_cases c2 : tQ g k = q ∧ tF g k = f + 1
    · rw [if_pos c2, if_pos ⟨c1, c2⟩]
    · rw [if_neg c2, if_neg (fun x => c2 x.2)]
  · rw [if_neg c1, if_neg (fun x => c1 x.1)]
theorem cut_F {kp : Nat → Bool} {g g' : Nat → Nat} {fr' : Nat → Int32} (h : isCut kp g g') (hf : ∀ q', q' < 36 → ∀ f, f < 12 → fr' (12 * q' + f) = nI (kF g kp (g 5) q' f)) : FR g' fr' := by
  intro q hq f hf2
  rw [cut_c h]
  exact hf q hq f hf2
theorem cK_T {g : Nat → Nat} {q n : Nat} (k : Nat) : cK (kpT g q n) k + (qN g q k - n) = k := by
  induction k with
  | zero => show 0 + (0 - n) = 0; omega
  | succ k ih =>
    rw [qN_s]
    cases hk : kpT g q n k
    · have h2 := of_decide_eq_false hk
      rw [cK_f hk, if_pos (by omega)]
      omega
    · have h2 := of_decide_eq_true hk
      rw [cK_t hk]
      by_cases c : tQ g k = q
      · rw [if_pos c]; omega
      · rw [if_neg c]; omega
theorem pop_o {g g' : Nat → Nat} (h : isPop g g') {r : Nat} (hr : r < g 6 - 1) : oP g' r = oP g (r + 1) ∧ oD g' r = oD g (r + 1) ∧ oS g' r = oS g (r + 1) ∧ oQ g' r = oQ g (r + 1) := by
  have h0 : oP g' r = oP g (r + 1) := h.2 r hr 0 (by omega)
  have h1 : oD g' r = oD g (r + 1) := h.2 r hr 1 (by omega)
  exact ⟨h0, h1, h.2 r hr 2 (by omega), by unfold oQ; rw [h0, h1]⟩
theorem pop_ok {g g' : Nat → Nat} (h : isPop g g') (h3 : g' 3 = g 3) (h4 : g' 4 = g 4) (hO : okO g) : okO g' := by
  refine ⟨fun r hr => ?_, fun r r' hr hr' e => ?_⟩
  · rw [h.1] at hr
    obtain ⟨e1, e2, e3, -⟩ := pop_o h hr
    rw [e1, e2, e3, h3, h4]
    exact hO.1 (r + 1) (by omega)
  · rw [h.1] at hr hr'
    rw [(pop_o h hr).2.2.2, (pop_o h hr').2.2.2] at e
    have := hO.2 (r + 1) (r' + 1) (by omega) (by omega) e
    omega
theorem pop_Q {g g' : Nat → Nat} {op os op' os' : Nat → Int32} (h : isPop g g') (hQ : QR g op os) (he : ∀ r, r < g 6 - 1 → op' r = op (r + 1) ∧ os' r = os (r + 1)) : QR g' op' os' := by
  intro r hr
  rw [h.1] at hr
  obtain ⟨-, -, e3, e4⟩ := pop_o h hr
  rw [(he r hr).1, (he r hr).2, e3, e4]
  exact hQ (r + 1) (by omega)
theorem sel_o {kp : Nat → Bool} {g g' : Nat → Nat} (h : isSel kp g g') {j : Nat} (hj : j < g 6) (hk : kp j = true) : oP g' (cK kp j) = oP g j ∧ oD g' (cK kp j) = oD g j ∧ oS g' (cK kp j) = oS g j ∧ oQ g' (cK kp j) = oQ g j := by
  have h0 : oP g' (cK kp j) = oP g j := h.2 j hj hk 0 (by omega)
  have h1 : oD g' (cK kp j) = oD g j := h.2 j hj hk 1 (by omega)
  exact ⟨h0, h1, h.2 j hj hk 2 (by omega), by unfold oQ; rw [h0, h1]⟩
theorem sel_ok {kp : Nat → Bool} {g g' : Nat → Nat} (h : isSel kp g g') (h3 : g' 3 = g 3) (h4 : g' 4 = g 4) (hO : okO g) : okO g' := by
  refine ⟨fun r hr => ?_, fun r r' hr hr' e => ?_⟩
  · rw [h.1] at hr
    obtain ⟨j, k1, k2, k3⟩ := cK_surj hr
    subst k3
    obtain ⟨e1, e2, e3, -⟩ := sel_o h k1 k2
    rw [e1, e2, e3, h3, h4]
    exact hO.1 j k1
  · rw [h.1] at hr hr'
    obtain ⟨j, k1, k2, k3⟩ := cK_surj hr
    obtain ⟨j', k1', k2', k3'⟩ := cK_surj hr'
    subst k3 k3'
    rw [(sel_o h k1 k2).2.2.2, (sel_o h k1' k2').2.2.2] at e
    rw [hO.2 j j' k1 k1' e]
theorem sel_Q {kp : Nat → Bool} {g g' : Nat → Nat} {op os op' os' : Nat → Int32} (h : isSel kp g g') (hQ : QR g op os) (he : ∀ r, r < g 6 → kp r = true → op' (cK kp r) = op r ∧ os' (cK kp r) = os r) : QR g' op' os' := by
  intro r hr
  rw [h.1] at hr
  obtain ⟨j, k1, k2, k3⟩ := cK_surj hr
  subst k3
  obtain ⟨-, -, e3, e4⟩ := sel_o h k1 k2
  rw [(he j k1 k2).1, (he j k1 k2).2, e3, e4]
  exact hQ j k1
/-- the row after the first part of a penance: the offence gone, the latest throws gone -/
def isPen (g g' : Nat → Nat) : Prop := isPop g g' ∧ isCut (kpT g (oQ g 0) (cQ g (oQ g 0) - gPen g)) g g' ∧ sD g g' ∧ sP g g' ∧ ∀ k, k < 3 → g' k = g k
theorem pen_s {g g' : Nat → Nat} (hO : Ok g) (h6 : 0 < g 6) (h : isPen g g') : Ok g' ∧ g' 5 + gPen g = g 5 ∧ oP g 0 < g' 4 ∧ oD g 0 < g' 3 := by
  obtain ⟨p1, p2, p3, p4, p5⟩ := h
  have hT := cut_okT p2 p3 p4 hO.1 hO.2.2.2.1
  have hp : gPen g ≤ cQ g (oQ g 0) := by
    rcases @gPen_le g with h | h
    · omega
    · exact h
  have hc := @cK_T g (oQ g 0) (cQ g (oQ g 0) - gPen g) (g 5)
  rw [show qN g (oQ g 0) (g 5) = cQ g (oQ g 0) from rfl, ← p2.1] at hc
  have ho := hO.2.2.2.2.1 0 h6
  refine ⟨⟨?_, sD_ok p3 hO.1 hO.2.1, sP_ok p4 hO.1 hO.2.2.1, hT, pop_ok p1 p3.1 p4.1 hO.2.2.2.2⟩, by omega, by rw [p4.1]; exact ho.1, by rw [p3.1]; exact ho.2.1⟩
  obtain ⟨b0, b1, b2, b3, b4, b5, b6, b7⟩ := hO.1
  unfold okB
  rw [p5 0 (by omega), p5 1 (by omega), p5 2 (by omega), p3.1, p4.1, p1.1]
  omega
theorem e_doPen {N : Nat} {g g' : Nat → Nat} {fc dw en fr op os : Nat → Int32} (hN : 1000 < N) (hO : Ok g) (h6 : 0 < g 6) (hg : isPen g g') (hR : DR g fc dw) (hE : ER g en) (hF : FR g fr) (hQ : QR g op os) : ∃ en' fr' op' os', f_X2_doPenance N fc dw (nI (g 0)) (nI (g 5)) en fr (nI (g 6)) op os = some (nI (gSumT g' (oP g 0) (oD g 0) 1 (gPen g)), nI (gThr g' (oP g 0) (oD g 0) 1 (gPen g) 0), nI (gThr g' (oP g 0) (oD g 0) 1 (gPen g) 5), en', fr', nI (g' 6), op', os') ∧ ER (gThr g' (oP g 0) (oD g 0) 1 (gPen g)) en' ∧ FR (gThr g' (oP g 0) (oD g 0) 1 (gPen g)) fr' ∧ QR g' op' os' := by
  obtain ⟨s1, s2, s3, s4⟩ := pen_s hO h6 hg
  obtain ⟨p1, p2, p3, p4, p5⟩ := hg
  have b6 := b_6 hO.1
  have b5 := b_5 hO.1
  have hp : gPen g ≤ cQ g (oQ g 0) := by
    rcases @gPen_le g with h | h
    · omega
    · exact h
  have ho := o_bd hO.1 hO.2.2.2.2 h6
  obtain ⟨o1, o2⟩ := hQ 0 h6
  obtain ⟨op', os', e1, e2⟩ := e_first (N := N) (op := op) (os := os) hN h6 b6
  obtain ⟨en1, fr1, e3, e4, e5⟩ := e_remove (N := N) (q := oQ g 0) (r := gPen g) hN hO hE hF ho.1 hp
  obtain ⟨en', fr', e6, e7, e8⟩ := e_make (N := N) (p := oP g 0) (d := oD g 0) (b := 1) (n := gPen g) hN s1 s3 s4 (by omega) (by omega) (sD_R p3 hO.1 hO.2.1 hR) (cut_E p2 hE e4) (cut_F p2 e5)
  refine ⟨en', fr', op', os', ?_, e7, e8, pop_Q p1 hQ e2⟩
  rw [p2.1, p5 0 (by omega), show 6 * oP g 0 + oD g 0 = oQ g 0 from rfl] at e6
  simp (disch := omega) only [n_0, n_1, n_2, n_3, n_4, n_5, n_6, n_7, n_8, n_9, n_10, n_12, n_13, n_15, n_20, n_24, n_27, n_31, n_32, n_33, n_36, n_44, n_48, n_50, n_57, n_58, n_59, n_72, n_74, n_75, n_85, n_91, n_96, n_97, n_99, n_122, n_255, n_300, n_432, n_600, n_900, n_999, n_1000, n_1291, n_1399, n_2798, n_11192, n_65536, n_65537, n_99999999, n_1000000, nI_add, pk_mul, q_le, q_lt, q_eq, q_cl, q_gi, q_gz, q_sub, q_div, q_dm, d_dm, q_m1, q_mn, q_nm, q_mlt, q_ltm, q_mle, q_lem, q_mm, Option.bind_some, if_true, if_false, Nat.add_zero, ite_self, q_us, q_un, decide_true, decide_false, Bool.false_eq_true, eq_self, and_self, and_true, true_and, and_false, false_and, or_true, true_or, or_false, false_or, d_ltT, d_ltF, d_leT, d_leF, d_eqT, d_eqF, f_X2_doPenance, e_penance hN hO hF hQ, e_at, o1, e1, e3, e6]
  rw [p1.1]
/-! the order of the players -/
def rB (g : Nat → Nat) (o p : Nat) : Bool := decide (cT g p < cT g o ∨ cT g o = cT g p ∧ nC g o < nC g p)
/-! what would be thrown -/
def gSd (s : Nat) : Nat → Nat
  | 0 => s
  | k + 1 => gNx (gSd s k)
theorem gSd_le {s k : Nat} (h : s ≤ 65536) : gSd s k ≤ 65536 := by
  cases k with
  | zero => exact h
  | succ k => exact gNx_le _
/-- the counts after k throws more -/
def gCn (g : Nat → Nat) (d s : Nat) (c : Nat → Nat) : Nat → Nat → Nat
  | 0 => c
  | k + 1 => fun i => gCn g d s c k i + if gShow g d (gSd s (k + 1)) = i + 1 then 1 else 0
theorem gCn_sum {g : Nat → Nat} {d s : Nat} {c : Nat → Nat} (hB : okB g) (hD : okD g) (hd : d < g 3) (k n : Nat) (hn : dF g d ≤ n) : sumTo n (gCn g d s c k) = sumTo n c + k := by
  induction k with
  | zero => rfl
  | succ k ih =>
    have hs := gShow_s (s := gSd s (k + 1)) hD hd
    have e : sumTo n (gCn g d s c (k + 1)) = sumTo n (fun i => gCn g d s c k i + if gShow g d (gSd s (k + 1)) = i + 1 then 1 else 0) := rfl
    rw [e, sumTo_add, ih]
    have e2 : sumTo n (fun i => if gShow g d (gSd s (k + 1)) = i + 1 then 1 else 0) = 1 := by
      refine Eq.trans (sumTo_congr (g := fun i => if i = gShow g d (gSd s (k + 1)) - 1 then 1 else 0) (fun i hi => ?_)) (sumTo_one (by omega))
      by_cases c1 : i = gShow g d (gSd s (k + 1)) - 1
      · rw [if_pos c1, if_pos (by omega)]
      · rw [if_neg c1, if_neg (by omega)]
    rw [e2]
    omega
/-! copies -/
theorem DR_cpy {g : Nat → Nat} {fc dw fc1 dw1 : Nat → Int32} (hB : okB g) (hD : okD g) (h : DR g fc dw) : DR g (va_cpy fc fc1 0 0 6) (va_cpy dw dw1 0 0 72) := by
  have h3 := b_3 hB
  intro d hd
  have h12 := (hD d hd).2.1
  refine ⟨by rw [cpy_lt (by omega)]; exact (h d hd).1, fun i hi => ?_⟩
  rw [cpy_lt (by omega)]
  exact (h d hd).2 i hi
theorem NR_cpy {g : Nat → Nat} {ln lt ln1 lt1 : Nat → Int32} (hB : okB g) (h : NR g ln lt) : NR g (va_cpy ln ln1 0 0 6) (va_cpy lt lt1 0 0 24) := by
  have h4 := b_4 hB
  intro p hp
  refine ⟨by rw [cpy_lt (by omega)]; exact (h p hp).1, fun i hi => ?_⟩
  rw [cpy_lt (by omega)]
  exact (h p hp).2 i hi
theorem ER_cpy {g : Nat → Nat} {en en1 : Nat → Int32} (hB : okB g) (h : ER g en) : ER g (va_cpy en en1 0 0 300) := by
  have h5 := b_5 hB
  intro k hk
  rw [cpy_lt (by omega)]
  exact h k hk
theorem FR_cpy {g : Nat → Nat} {fr fr1 : Nat → Int32} (h : FR g fr) : FR g (va_cpy fr fr1 0 0 432) := by
  intro q hq f hf
  rw [cpy_lt (by omega)]
  exact h q hq f hf
theorem QR_cpy {g : Nat → Nat} {op os op1 os1 : Nat → Int32} (hB : okB g) (h : QR g op os) : QR g (va_cpy op op1 0 0 36) (va_cpy os os1 0 0 36) := by
  have h6 := b_6 hB
  intro r hr
  rw [cpy_lt (by omega), cpy_lt (by omega)]
  exact h r hr
theorem ZR_cpy {fc fc1 : Nat → Int32} (h : ZR fc) : ZR (va_cpy fc fc1 0 0 6) := by
  intro d hd
  rw [cpy_lt hd]
  exact h d hd
theorem HR_cpy {g : Nat → Nat} {sd : Int32} {mn : Int32} {th : Int32} {dc : Int32} {fc : Nat → Int32} {dw : Nat → Int32} {pc : Int32} {ln : Nat → Int32} {lt : Nat → Int32} {tc : Int32} {en : Nat → Int32} {fr : Nat → Int32} {oc : Int32} {op : Nat → Int32} {os : Nat → Int32} {sd1 : Int32} {mn1 : Int32} {th1 : Int32} {dc1 : Int32} {fc1 : Nat → Int32} {dw1 : Nat → Int32} {pc1 : Int32} {ln1 : Nat → Int32} {lt1 : Nat → Int32} {tc1 : Int32} {en1 : Nat → Int32} {fr1 : Nat → Int32} {oc1 : Int32} {op1 : Nat → Int32} {os1 : Nat → Int32} (hO : Ok g) (h : HR g sd mn th dc fc dw pc ln lt tc en fr oc op os) : HR g sd mn th dc (va_cpy fc fc1 0 0 6) (va_cpy dw dw1 0 0 72) pc (va_cpy ln ln1 0 0 6) (va_cpy lt lt1 0 0 24) tc (va_cpy en en1 0 0 300) (va_cpy fr fr1 0 0 432) oc (va_cpy op op1 0 0 36) (va_cpy os os1 0 0 36) :=
  ⟨h.1, DR_cpy hO.1 hO.2.1 h.2.1, NR_cpy hO.1 h.2.2.1, ER_cpy hO.1 h.2.2.2.1, FR_cpy h.2.2.2.2.1, QR_cpy hO.1 h.2.2.2.2.2⟩
theorem e_copyHall {sd : Int32} {mn : Int32} {th : Int32} {dc : Int32} {fc : Nat → Int32} {dw : Nat → Int32} {pc : Int32} {ln : Nat → Int32} {lt : Nat → Int32} {tc : Int32} {en : Nat → Int32} {fr : Nat → Int32} {oc : Int32} {op : Nat → Int32} {os : Nat → Int32} {sd1 : Int32} {mn1 : Int32} {th1 : Int32} {dc1 : Int32} {fc1 : Nat → Int32} {dw1 : Nat → Int32} {pc1 : Int32} {ln1 : Nat → Int32} {lt1 : Nat → Int32} {tc1 : Int32} {en1 : Nat → Int32} {fr1 : Nat → Int32} {oc1 : Int32} {op1 : Nat → Int32} {os1 : Nat → Int32} : f_X2_copyFrom sd mn th dc fc dw pc ln lt tc en fr oc op os sd1 mn1 th1 dc1 fc1 dw1 pc1 ln1 lt1 tc1 en1 fr1 oc1 op1 os1 = some (sd, mn, th, dc, va_cpy fc fc1 0 0 6, va_cpy dw dw1 0 0 72, pc, va_cpy ln ln1 0 0 6, va_cpy lt lt1 0 0 24, tc, va_cpy en en1 0 0 300, va_cpy fr fr1 0 0 432, oc, va_cpy op op1 0 0 36, va_cpy os os1 0 0 36) := by
  simp (disch := omega) only [f_X2_copyFrom, f_X0_copyFrom, f_X7_copyFrom, f_X4_copyFrom, f_X6_copyFrom, e_copyRow, Option.bind_some]
theorem e_remember {sd : Int32} {mn : Int32} {th : Int32} {dc : Int32} {fc : Nat → Int32} {dw : Nat → Int32} {pc : Int32} {ln : Nat → Int32} {lt : Nat → Int32} {tc : Int32} {en : Nat → Int32} {fr : Nat → Int32} {oc : Int32} {op : Nat → Int32} {os : Nat → Int32} {sd1 : Int32} {mn1 : Int32} {th1 : Int32} {dc1 : Int32} {fc1 : Nat → Int32} {dw1 : Nat → Int32} {pc1 : Int32} {ln1 : Nat → Int32} {lt1 : Nat → Int32} {tc1 : Int32} {en1 : Nat → Int32} {fr1 : Nat → Int32} {oc1 : Int32} {op1 : Nat → Int32} {os1 : Nat → Int32} {a b : Nat} (ha : a < 8) (hb : b ≤ 8) : f_X3_remember sd mn th dc fc dw pc ln lt tc en fr oc op os (nI a) (nI b) sd1 mn1 th1 dc1 fc1 dw1 pc1 ln1 lt1 tc1 en1 fr1 oc1 op1 os1 = some (nI ((a + 1) % 8), nI (if 8 < b + 1 then 8 else b + 1), sd, mn, th, dc, va_cpy fc fc1 0 0 6, va_cpy dw dw1 0 0 72, pc, va_cpy ln ln1 0 0 6, va_cpy lt lt1 0 0 24, tc, va_cpy en en1 0 0 300, va_cpy fr fr1 0 0 432, oc, va_cpy op op1 0 0 36, va_cpy os os1 0 0 36) := by
  by_cases h : 8 < b + 1
  · simp (disch := omega) only [n_0, n_1, n_2, n_3, n_4, n_5, n_6, n_7, n_8, n_9, n_10, n_12, n_13, n_15, n_20, n_24, n_27, n_31, n_32, n_33, n_36, n_44, n_48, n_50, n_57, n_58, n_59, n_72, n_74, n_75, n_85, n_91, n_96, n_97, n_99, n_122, n_255, n_300, n_432, n_600, n_900, n_999, n_1000, n_1291, n_1399, n_2798, n_11192, n_65536, n_65537, n_99999999, n_1000000, nI_add, pk_mul, q_le, q_lt, q_eq, q_cl, q_gi, q_gz, q_sub, q_div, q_dm, d_dm, q_m1, q_mn, q_nm, q_mlt, q_ltm, q_mle, q_lem, q_mm, Option.bind_some, if_true, if_false, Nat.add_zero, ite_self, q_us, q_un, decide_true, decide_false, Bool.false_eq_true, eq_self, and_self, and_true, true_and, and_false, false_and, or_true, true_or, or_false, false_or, d_ltT, d_ltF, d_leT, d_leF, d_eqT, d_eqF, f_X3_remember, f_X3_remember_L44, e_copyHall]
  · simp (disch := omega) only [n_0, n_1, n_2, n_3, n_4, n_5, n_6, n_7, n_8, n_9, n_10, n_12, n_13, n_15, n_20, n_24, n_27, n_31, n_32, n_33, n_36, n_44, n_48, n_50, n_57, n_58, n_59, n_72, n_74, n_75, n_85, n_91, n_96, n_97, n_99, n_122, n_255, n_300, n_432, n_600, n_900, n_999, n_1000, n_1291, n_1399, n_2798, n_11192, n_65536, n_65537, n_99999999, n_1000000, nI_add, pk_mul, q_le, q_lt, q_eq, q_cl, q_gi, q_gz, q_sub, q_div, q_dm, d_dm, q_m1, q_mn, q_nm, q_mlt, q_ltm, q_mle, q_lem, q_mm, Option.bind_some, if_true, if_false, Nat.add_zero, ite_self, q_us, q_un, decide_true, decide_false, Bool.false_eq_true, eq_self, and_self, and_true, true_and, and_false, false_and, or_true, true_or, or_false, false_or, d_ltT, d_ltF, d_leT, d_leF, d_eqT, d_eqF, f_X3_remember, f_X3_remember_L44, e_copyHall]
