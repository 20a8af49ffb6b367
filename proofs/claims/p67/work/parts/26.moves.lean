/-! parts of a row that stay; a throw that is entered -/
def sD (g g' : Nat → Nat) : Prop := g' 3 = g 3 ∧ ∀ k, 7 ≤ k → k < 85 → g' k = g k
def sP (g g' : Nat → Nat) : Prop := g' 4 = g 4 ∧ ∀ k, 85 ≤ k → k < 91 → g' k = g k
def sT (g g' : Nat → Nat) : Prop := g' 5 = g 5 ∧ ∀ k, 91 ≤ k → k < 1291 → g' k = g k
def sO (g g' : Nat → Nat) : Prop := g' 6 = g 6 ∧ ∀ k, 1291 ≤ k → k < 1399 → g' k = g k
theorem sD_F {g g' : Nat → Nat} (h : sD g g') {d : Nat} (hd : d < 6) : dF g' d = dF g d := h.2 _ (by omega) (by omega)
theorem sD_W {g g' : Nat → Nat} (h : sD g g') {d i : Nat} (hd : d < 6) (hi : i < 12) : dW g' d i = dW g d i := h.2 _ (by omega) (by omega)
theorem sD_S {g g' : Nat → Nat} (h : sD g g') {d : Nat} (hd : d < 6) (hf : dF g d ≤ 12) : dS g' d = dS g d := by
  unfold dS
  rw [sD_F h hd]
  exact sumTo_congr (fun i hi => sD_W h hd (by omega))
theorem sD_ok {g g' : Nat → Nat} (h : sD g g') (hB : okB g) (hD : okD g) : okD g' := by
  have h3 := b_3 hB
  intro d hd
  rw [h.1] at hd
  have hf := hD d hd
  rw [sD_F h (by omega), sD_S h (by omega) hf.2.1]
  exact ⟨hf.1, hf.2.1, fun i hi => by rw [sD_W h (by omega) (by omega)]; exact hf.2.2.1 i hi, hf.2.2.2⟩
theorem sD_R {g g' : Nat → Nat} {fc dw : Nat → Int32} (h : sD g g') (hB : okB g) (hD : okD g) (hR : DR g fc dw) : DR g' fc dw := by
  have h3 := b_3 hB
  intro d hd
  rw [h.1] at hd
  have hf := hD d hd
  rw [sD_F h (by omega)]
  exact ⟨(hR d hd).1, fun i hi => by rw [sD_W h (by omega) (by omega)]; exact (hR d hd).2 i hi⟩
theorem gIx_congr {w w' : Nat → Nat} {pick k : Nat} (h : ∀ i, i < k → w i = w' i) : gIx w pick k = gIx w' pick k := by
  induction k with
  | zero => rfl
  | succ k ih =>
    unfold gIx
    rw [sumTo_congr (fun i hi => h i (show i < k + 1 by omega)), ih (fun i hi => h i (by omega))]
theorem sD_show {g g' : Nat → Nat} (h : sD g g') (hB : okB g) (hD : okD g) {d s : Nat} (hd : d < g 3) : gShow g' d s = gShow g d s := by
  have h3 := b_3 hB
  have hf := hD d hd
  unfold gShow
  rw [sD_S h (by omega) hf.2.1, sD_F h (by omega), gIx_congr (fun i hi => sD_W h (by omega) (by omega))]
theorem sP_C {g g' : Nat → Nat} (h : sP g g') {p : Nat} (hp : p < 6) : nC g' p = nC g p := h.2 _ (by omega) (by omega)
theorem sP_ok {g g' : Nat → Nat} (h : sP g g') (hB : okB g) (hP : okP g) : okP g' := by
  have h4 := b_4 hB
  refine ⟨fun p hp => ?_, fun p p' hp hp' e => ?_⟩
  · rw [h.1] at hp
    rw [sP_C h (by omega)]
    exact hP.1 p hp
  · rw [h.1] at hp hp'
    rw [sP_C h (by omega), sP_C h (by omega)] at e
    exact hP.2 p p' hp hp' e
theorem sP_R {g g' : Nat → Nat} {ln lt : Nat → Int32} (h : sP g g') (hB : okB g) (hR : NR g ln lt) : NR g' ln lt := by
  have h4 := b_4 hB
  intro p hp
  rw [h.1] at hp
  rw [sP_C h (by omega)]
  exact hR p hp
theorem sT_t {g g' : Nat → Nat} (h : sT g g') {k : Nat} (hk : k < 300) : tP g' k = tP g k ∧ tD g' k = tD g k ∧ tF g' k = tF g k ∧ tB g' k = tB g k ∧ tQ g' k = tQ g k := by
  have h1 : tP g' k = tP g k := h.2 _ (by omega) (by omega)
  have h2 : tD g' k = tD g k := h.2 _ (by omega) (by omega)
  exact ⟨h1, h2, h.2 _ (by omega) (by omega), h.2 _ (by omega) (by omega), by unfold tQ; rw [h1, h2]⟩
theorem sT_ok {g g' : Nat → Nat} (h : sT g g') (hd : sD g g') (hp : sP g g') (hB : okB g) (hT : okT g) : okT g' := by
  have h5 := b_5 hB
  have h3 := b_3 hB
  intro k hk
  rw [h.1] at hk
  obtain ⟨e1, e2, e3, e4, -⟩ := sT_t h (show k < 300 by omega)
  have ht := hT k hk
  rw [e1, e2, e3, e4, hp.1, hd.1, sD_F hd (by omega)]
  exact ht
theorem sT_E {g g' : Nat → Nat} {en : Nat → Int32} (h : sT g g') (hB : okB g) (hE : ER g en) : ER g' en := by
  have h5 := b_5 hB
  intro k hk
  rw [h.1] at hk
  obtain ⟨-, -, e3, e4, e5⟩ := sT_t h (show k < 300 by omega)
  rw [e3, e4, e5]
  exact hE k hk
theorem sT_c {g g' : Nat → Nat} (h : sT g g') (hB : okB g) : (∀ q f, cF g' q f = cF g q f) ∧ (∀ q, cQ g' q = cQ g q) ∧ (∀ p, cP g' p = cP g p) ∧ ∀ p, cT g' p = cT g p := by
  have h5 := b_5 hB
  have e := fun k (hk : k < g 5) => sT_t h (show k < 300 by omega)
  refine ⟨fun q f => ?_, fun q => ?_, fun p => ?_, fun p => ?_⟩
  · unfold cF
    rw [h.1]
    exact sumTo_congr (fun k hk => by rw [(e k hk).2.2.2.2, (e k hk).2.2.1])
  · unfold cQ
    rw [h.1]
    exact sumTo_congr (fun k hk => by rw [(e k hk).2.2.2.2])
  · unfold cP
    rw [h.1]
    exact sumTo_congr (fun k hk => by rw [(e k hk).1])
  · unfold cT
    rw [h.1]
    exact sumTo_congr (fun k hk => by rw [(e k hk).1, (e k hk).2.2.1])
theorem sT_F {g g' : Nat → Nat} {fr : Nat → Int32} (h : sT g g') (hB : okB g) (hF : FR g fr) : FR g' fr := by
  intro q hq f hf
  rw [(sT_c h hB).1]
  exact hF q hq f hf
theorem sO_o {g g' : Nat → Nat} (h : sO g g') {r : Nat} (hr : r < 36) : oP g' r = oP g r ∧ oD g' r = oD g r ∧ oS g' r = oS g r ∧ oQ g' r = oQ g r := by
  have h1 : oP g' r = oP g r := h.2 _ (by omega) (by omega)
  have h2 : oD g' r = oD g r := h.2 _ (by omega) (by omega)
  exact ⟨h1, h2, h.2 _ (by omega) (by omega), by unfold oQ; rw [h1, h2]⟩
theorem sO_ok {g g' : Nat → Nat} (h : sO g g') (h3 : g' 3 = g 3) (h4 : g' 4 = g 4) (hB : okB g) (hO : okO g) : okO g' := by
  have h6 := b_6 hB
  refine ⟨fun r hr => ?_, fun r r' hr hr' e => ?_⟩
  · rw [h.1] at hr
    obtain ⟨e1, e2, e3, -⟩ := sO_o h (show r < 36 by omega)
    rw [e1, e2, e3, h3, h4]
    exact hO.1 r hr
  · rw [h.1] at hr hr'
    rw [(sO_o h (show r < 36 by omega)).2.2.2, (sO_o h (show r' < 36 by omega)).2.2.2] at e
    exact hO.2 r r' hr hr' e
theorem sO_Q {g g' : Nat → Nat} {op os : Nat → Int32} (h : sO g g') (hB : okB g) (hQ : QR g op os) : QR g' op os := by
  have h6 := b_6 hB
  intro r hr
  rw [h.1] at hr
  obtain ⟨-, -, e3, e4⟩ := sO_o h (show r < 36 by omega)
  rw [e3, e4]
  exact hQ r hr
/-- a throw that is entered behind the others, with the seed s -/
def gAdd (g : Nat → Nat) (s p d f b : Nat) : Nat → Nat := fun k => if k = 0 then s else if k = 5 then g 5 + 1 else if k = 91 + 4 * g 5 then p else if k = 91 + 4 * g 5 + 1 then d else if k = 91 + 4 * g 5 + 2 then f else if k = 91 + 4 * g 5 + 3 then b else g k
theorem gAdd_0 {g : Nat → Nat} {s p d f b : Nat} : gAdd g s p d f b 0 = s := if_pos rfl
theorem gAdd_5 {g : Nat → Nat} {s p d f b : Nat} : gAdd g s p d f b 5 = g 5 + 1 := rfl
theorem gAdd_n {g : Nat → Nat} {s p d f b k : Nat} (h0 : k ≠ 0) (h5 : k ≠ 5) (h : k < 91 + 4 * g 5 ∨ 91 + 4 * g 5 + 3 < k) : gAdd g s p d f b k = g k := by
  unfold gAdd
  rw [if_neg h0, if_neg h5, if_neg (by omega), if_neg (by omega), if_neg (by omega), if_neg (by omega)]
theorem gAdd_sD {g : Nat → Nat} {s p d f b : Nat} : sD g (gAdd g s p d f b) := ⟨gAdd_n (by omega) (by omega) (by omega), fun k h1 h2 => gAdd_n (by omega) (by omega) (by omega)⟩
theorem gAdd_sP {g : Nat → Nat} {s p d f b : Nat} : sP g (gAdd g s p d f b) := ⟨gAdd_n (by omega) (by omega) (by omega), fun k h1 h2 => gAdd_n (by omega) (by omega) (by omega)⟩
theorem gAdd_sO {g : Nat → Nat} {s p d f b : Nat} (h5 : g 5 < 300) : sO g (gAdd g s p d f b) := ⟨gAdd_n (by omega) (by omega) (by omega), fun k h1 h2 => gAdd_n (by omega) (by omega) (by omega)⟩
theorem gAdd_t {g : Nat → Nat} {s p d f b k : Nat} (hk : k < g 5) : tP (gAdd g s p d f b) k = tP g k ∧ tD (gAdd g s p d f b) k = tD g k ∧ tF (gAdd g s p d f b) k = tF g k ∧ tB (gAdd g s p d f b) k = tB g k ∧ tQ (gAdd g s p d f b) k = tQ g k := by
  have h1 : tP (gAdd g s p d f b) k = tP g k := gAdd_n (by omega) (by omega) (by omega)
  have h2 : tD (gAdd g s p d f b) k = tD g k := gAdd_n (by omega) (by omega) (by omega)
  exact ⟨h1, h2, gAdd_n (by omega) (by omega) (by omega), gAdd_n (by omega) (by omega) (by omega), by unfold tQ; rw [h1, h2]⟩
theorem gAdd_T {g : Nat → Nat} {s p d f b : Nat} : tP (gAdd g s p d f b) (g 5) = p ∧ tD (gAdd g s p d f b) (g 5) = d ∧ tF (gAdd g s p d f b) (g 5) = f ∧ tB (gAdd g s p d f b) (g 5) = b ∧ tQ (gAdd g s p d f b) (g 5) = 6 * p + d := by
  have h1 : tP (gAdd g s p d f b) (g 5) = p := by
    unfold tP gAdd
    rw [if_neg (by omega), if_neg (by omega), if_pos rfl]
  have h2 : tD (gAdd g s p d f b) (g 5) = d := by
    unfold tD gAdd
    rw [if_neg (by omega), if_neg (by omega), if_neg (by omega), if_pos rfl]
  have h3 : tF (gAdd g s p d f b) (g 5) = f := by
    unfold tF gAdd
    rw [if_neg (by omega), if_neg (by omega), if_neg (by omega), if_neg (by omega), if_pos rfl]
  have h4 : tB (gAdd g s p d f b) (g 5) = b := by
    unfold tB gAdd
    rw [if_neg (by omega), if_neg (by omega), if_neg (by omega), if_neg (by omega), if_neg (by omega), if_pos rfl]
  exact ⟨h1, h2, h3, h4, by unfold tQ; rw [h1, h2]⟩
theorem gAdd_B {g : Nat → Nat} {s p d f b : Nat} (hB : okB g) (h5 : g 5 < 300) (hs : s ≤ 65536) : okB (gAdd g s p d f b) := by
  obtain ⟨b0, b1, b2, b3, b4, b5, b6, b7⟩ := hB
  unfold okB
  rw [gAdd_0, gAdd_5, gAdd_n (k := 1) (by omega) (by omega) (by omega), gAdd_n (k := 2) (by omega) (by omega) (by omega), gAdd_n (k := 3) (by omega) (by omega) (by omega), gAdd_n (k := 4) (by omega) (by omega) (by omega), gAdd_n (k := 6) (by omega) (by omega) (by omega)]
  omega
theorem gAdd_okT {g : Nat → Nat} {s p d f b : Nat} (hB : okB g) (hT : okT g) (hp : p < g 4) (hd : d < g 3) (hf : 1 ≤ f ∧ f ≤ dF g d) (hb : b ≤ 1) : okT (gAdd g s p d f b) := by
  have h3 := b_3 hB
  intro k hk
  rw [gAdd_5] at hk
  rw [gAdd_sP.1, gAdd_sD.1]
  by_cases hc : k = g 5
  · subst hc
    obtain ⟨e1, e2, e3, e4, -⟩ := @gAdd_T g s p d f b
    rw [e1, e2, e3, e4, sD_F gAdd_sD (by omega)]
    exact ⟨hp, hd, hf.1, hf.2, hb⟩
  · obtain ⟨e1, e2, e3, e4, -⟩ := @gAdd_t g s p d f b k (by omega)
    have ht := hT k (by omega)
    rw [e1, e2, e3, e4, sD_F gAdd_sD (by omega)]
    exact ht
theorem gAdd_E {g : Nat → Nat} {en : Nat → Int32} {s p d f b : Nat} (hE : ER g en) : ER (gAdd g s p d f b) (upd en (g 5) (nI (32 * (6 * p + d) + 2 * f + b))) := by
  intro k hk
  rw [gAdd_5] at hk
  by_cases hc : k = g 5
  · subst hc
    obtain ⟨-, -, e3, e4, e5⟩ := @gAdd_T g s p d f b
    rw [e3, e4, e5, q_us rfl]
  · obtain ⟨-, -, e3, e4, e5⟩ := @gAdd_t g s p d f b k (by omega)
    rw [e3, e4, e5, q_un hc]
    exact hE k (by omega)
theorem gAdd_c {g : Nat → Nat} {s p d f b : Nat} (q i : Nat) : cF (gAdd g s p d f b) q i = cF g q i + if 6 * p + d = q ∧ f = i + 1 then 1 else 0 := by
  unfold cF
  rw [gAdd_5, sumTo_s]
  obtain ⟨-, -, e3, -, e5⟩ := @gAdd_T g s p d f b
  rw [e3, e5]
  congr 1
  exact sumTo_congr (fun k hk => by rw [(@gAdd_t g s p d f b k hk).2.2.2.2, (@gAdd_t g s p d f b k hk).2.2.1])
theorem gAdd_F {g : Nat → Nat} {fr : Nat → Int32} {s p d f b : Nat} (hF : FR g fr) (hq : 6 * p + d < 36) (hf : f < 12) : FR (gAdd g s p d (f + 1) b) (upd fr (12 * (6 * p + d) + f) (nI (cF g (6 * p + d) f + 1))) := by
  intro q hq2 i hi
  rw [gAdd_c]
  by_cases hc : 6 * p + d = q ∧ f = i
  · obtain ⟨h1, h2⟩ := hc
    subst h1 h2
    rw [q_us rfl, if_pos ⟨rfl, rfl⟩]
  · rw [q_un (by omega), if_neg (by omega), Nat.add_zero]
    exact hF q hq2 i hi
theorem gAdd_ok {g : Nat → Nat} {s p d f b : Nat} (hO : Ok g) (h5 : g 5 < 300) (hs : s ≤ 65536) (hp : p < g 4) (hd : d < g 3) (hf : 1 ≤ f ∧ f ≤ dF g d) (hb : b ≤ 1) : Ok (gAdd g s p d f b) := by
  obtain ⟨hB, hD, hP, hT, hO⟩ := hO
  exact ⟨gAdd_B hB h5 hs, sD_ok gAdd_sD hB hD, sP_ok gAdd_sP hB hP, gAdd_okT hB hT hp hd hf hb, sO_ok (gAdd_sO h5) gAdd_sD.1 gAdd_sP.1 hB hO⟩
theorem e_addT {g : Nat → Nat} {en fr : Nat → Int32} {q f b : Nat} (hF : FR g fr) (h5 : g 5 < 300) (hq : q < 36) (hf : f < 12) (hb : b < 2) : f_X4_add (nI (g 5)) en fr (nI q) (nI (f + 1)) (nI b) = some (nI (g 5 + 1), upd en (g 5) (nI (32 * q + 2 * (f + 1) + b)), upd fr (12 * q + f) (nI (cF g q f + 1))) := by
  have hfr := hF q hq f hf
  have he := q_ent (q := q) (f := f + 1) (b := b) (by omega) hb
  rcases (show b = 0 ∨ b = 1 by omega) with h | h
  · subst h
    simp (disch := omega) only [n_0, n_1, n_2, n_3, n_4, n_5, n_6, n_7, n_8, n_9, n_10, n_12, n_13, n_15, n_20, n_24, n_27, n_31, n_32, n_33, n_36, n_44, n_48, n_50, n_57, n_58, n_59, n_72, n_74, n_75, n_85, n_91, n_96, n_97, n_99, n_122, n_255, n_300, n_432, n_600, n_900, n_999, n_1000, n_1291, n_1399, n_2798, n_11192, n_65536, n_65537, n_99999999, n_1000000, nI_add, pk_mul, q_le, q_lt, q_eq, q_cl, q_gi, q_gz, q_sub, q_div, q_dm, d_dm, q_m1, q_mn, q_nm, q_mlt, q_ltm, q_mle, q_lem, q_mm, Option.bind_some, if_true, if_false, Nat.add_zero, ite_self, q_us, q_un, decide_true, decide_false, Bool.false_eq_true, eq_self, and_self, and_true, true_and, and_false, false_and, or_true, true_or, or_false, false_or, d_ltT, d_ltF, d_leT, d_leF, d_eqT, d_eqF, f_X4_add, f_X4_add_L34, q_sl5, q_sl1, he, e_put, e_cell, e_at, hfr]
  · subst h
    simp (disch := omega) only [n_0, n_1, n_2, n_3, n_4, n_5, n_6, n_7, n_8, n_9, n_10, n_12, n_13, n_15, n_20, n_24, n_27, n_31, n_32, n_33, n_36, n_44, n_48, n_50, n_57, n_58, n_59, n_72, n_74, n_75, n_85, n_91, n_96, n_97, n_99, n_122, n_255, n_300, n_432, n_600, n_900, n_999, n_1000, n_1291, n_1399, n_2798, n_11192, n_65536, n_65537, n_99999999, n_1000000, nI_add, pk_mul, q_le, q_lt, q_eq, q_cl, q_gi, q_gz, q_sub, q_div, q_dm, d_dm, q_m1, q_mn, q_nm, q_mlt, q_ltm, q_mle, q_lem, q_mm, Option.bind_some, if_true, if_false, Nat.add_zero, ite_self, q_us, q_un, decide_true, decide_false, Bool.false_eq_true, eq_self, and_self, and_true, true_and, and_false, false_and, or_true, true_or, or_false, false_or, d_ltT, d_ltF, d_leT, d_leF, d_eqT, d_eqF, f_X4_add, f_X4_add_L34, q_sl5, q_sl1, he, e_put, e_cell, e_at, hfr]
/-- the face that a throw shows -/
def gFace (g : Nat → Nat) (d b : Nat) : Nat := if b = 0 then gShow g d (gNx (g 0)) else gNx (g 0) % dF g d + 1
theorem gFace_s {g : Nat → Nat} {d b : Nat} (hD : okD g) (hd : d < g 3) : 1 ≤ gFace g d b ∧ gFace g d b ≤ dF g d := by
  unfold gFace
  split
  · have := gShow_s (s := gNx (g 0)) hD hd
    omega
  · have h := hD d hd
    have := Nat.mod_lt (gNx (g 0)) (show 0 < dF g d by omega)
    omega
def gOne (g : Nat → Nat) (p d b : Nat) : Nat → Nat := gAdd g (gNx (g 0)) p d (gFace g d b) b
def gThr (g : Nat → Nat) (p d b : Nat) : Nat → Nat → Nat
  | 0 => g
  | n + 1 => gOne (gThr g p d b n) p d b
def gSumT (g : Nat → Nat) (p d b : Nat) (n : Nat) : Nat := sumTo n (fun k => gFace (gThr g p d b k) d b)
theorem gThr_s {g : Nat → Nat} {p d b : Nat} (hO : Ok g) (hp : p < g 4) (hd : d < g 3) (hb : b ≤ 1) : ∀ n, g 5 + n ≤ 300 → Ok (gThr g p d b n) ∧ gThr g p d b n 5 = g 5 + n ∧ sD g (gThr g p d b n) ∧ sP g (gThr g p d b n) ∧ sO g (gThr g p d b n) ∧ gThr g p d b n 1 = g 1 ∧ gThr g p d b n 2 = g 2 := by
  intro n
  induction n with
  | zero =>
    intro _
    exact ⟨hO, rfl, ⟨rfl, fun k _ _ => rfl⟩, ⟨rfl, fun k _ _ => rfl⟩, ⟨rfl, fun k _ _ => rfl⟩, rfl, rfl⟩
  | succ n ih =>
    intro hn
    obtain ⟨h1, h2, h3, h4, h5, h6, h7⟩ := ih (by omega)
    have e : gThr g p d b (n + 1) = gOne (gThr g p d b n) p d b := rfl
    rw [e]
    generalize gThr g p d b n = w at *
    unfold gOne
    have hd2 : d < w 3 := by rw [h3.1]; exact hd
    refine ⟨gAdd_ok h1 (by omega) (gNx_le _) (by rw [h4.1]; exact hp) hd2 (gFace_s h1.2.1 hd2) hb, by rw [gAdd_5]; omega, ⟨gAdd_sD.1.trans h3.1, fun k a c => (gAdd_sD.2 k a c).trans (h3.2 k a c)⟩, ⟨gAdd_sP.1.trans h4.1, fun k a c => (gAdd_sP.2 k a c).trans (h4.2 k a c)⟩, ⟨(gAdd_sO (by omega)).1.trans h5.1, fun k a c => ((gAdd_sO (by omega)).2 k a c).trans (h5.2 k a c)⟩, (gAdd_n (by omega) (by omega) (by omega)).trans h6, (gAdd_n (by omega) (by omega) (by omega)).trans h7⟩
theorem gSumT_le {g : Nat → Nat} {p d b n : Nat} (hO : Ok g) (hp : p < g 4) (hd : d < g 3) (hb : b ≤ 1) (hn : g 5 + n ≤ 300) : gSumT g p d b n ≤ n * 12 := by
  refine sumTo_le (fun k hk => ?_)
  obtain ⟨h1, h2, h3, h4, h5, -⟩ := gThr_s hO hp hd hb k (by omega)
  have hd2 : d < gThr g p d b k 3 := by rw [h3.1]; exact hd
  have := gFace_s (b := b) h1.2.1 hd2
  have := (h1.2.1 d hd2).2.1
  omega
/-- what a class's hall holds, in words of the row: the parts that throws write -/
theorem e_makeL {N : Nat} {g : Nat → Nat} {fc dw : Nat → Int32} {p d b n : Nat} (hN : 1000 < N) (hO : Ok g) (hp : p < g 4) (hd : d < g 3) (hb : b ≤ 1) (hn : g 5 + n ≤ 300) (hR : DR g fc dw) : ∀ (k i j : Nat) (en fr : Nat → Int32), i + k = n → k < j → ER (gThr g p d b i) en → FR (gThr g p d b i) fr → ∃ en' fr', f_X2_makeThrows_L12 N fc dw j (nI (6 * p + d)) (nI n) (nI b) (nI d) (nI (gSumT g p d b i)) (nI i) (nI (gThr g p d b i 0)) (nI (gThr g p d b i 5)) en fr = some (nI (gSumT g p d b n), nI (gThr g p d b n 0), nI (gThr g p d b n 5), en', fr') ∧ ER (gThr g p d b n) en' ∧ FR (gThr g p d b n) fr' := by
  have b3 := b_3 hO.1
  have b4 := b_4 hO.1
  intro k
  induction k with
  | zero =>
    intro i j en fr h1 h2 h3 h4
    obtain ⟨j, rfl⟩ : ∃ t, j = t + 1 := ⟨j - 1, by omega⟩
    have e : i = n := by omega
    subst e
    refine ⟨en, fr, ?_, h3, h4⟩
    simp (disch := omega) only [n_0, n_1, n_2, n_3, n_4, n_5, n_6, n_7, n_8, n_9, n_10, n_12, n_13, n_15, n_20, n_24, n_27, n_31, n_32, n_33, n_36, n_44, n_48, n_50, n_57, n_58, n_59, n_72, n_74, n_75, n_85, n_91, n_96, n_97, n_99, n_122, n_255, n_300, n_432, n_600, n_900, n_999, n_1000, n_1291, n_1399, n_2798, n_11192, n_65536, n_65537, n_99999999, n_1000000, nI_add, pk_mul, q_le, q_lt, q_eq, q_cl, q_gi, q_gz, q_sub, q_div, q_dm, d_dm, q_m1, q_mn, q_nm, q_mlt, q_ltm, q_mle, q_lem, q_mm, Option.bind_some, if_true, if_false, Nat.add_zero, ite_self, q_us, q_un, decide_true, decide_false, Bool.false_eq_true, eq_self, and_self, and_true, true_and, and_false, false_and, or_true, true_or, or_false, false_or, d_ltT, d_ltF, d_leT, d_leF, d_eqT, d_eqF, f_X2_makeThrows_L12, f_X2_makeThrows_L12_F]
  | succ k ih =>
    intro i j en fr h1 h2 h3 h4
    obtain ⟨j, rfl⟩ : ∃ t, j = t + 1 := ⟨j - 1, by omega⟩
    obtain ⟨w1, w2, w3, w4, w5, -, -⟩ := gThr_s hO hp hd hb i (by omega)
    have hs0 : gThr g p d b i 0 ≤ 65536 := w1.1.1
    have hd2 : d < gThr g p d b i 3 := by rw [w3.1]; exact hd
    have hf := gFace_s (b := b) w1.2.1 hd2
    have hf12 := (w1.2.1 d hd2).2.1
    have hR2 := sD_R w3 hO.1 hO.2.1 hR
    have hnx := gNx_le (gThr g p d b i 0)
    have es := e_shown hN w1.1 w1.2.1 hR2 hd2 hnx
    have ef := e_fair w1.1 w1.2.1 hR2 hd2 hnx
    have ea := e_addT (g := gThr g p d b i) (en := en) (fr := fr) (q := 6 * p + d) (f := gFace (gThr g p d b i) d b - 1) (b := b) h4 (by omega) (by omega) (by omega) (by omega)
    rw [show gFace (gThr g p d b i) d b - 1 + 1 = gFace (gThr g p d b i) d b by omega] at ea
    have hE2 := gAdd_E (s := gNx (gThr g p d b i 0)) (p := p) (d := d) (f := gFace (gThr g p d b i) d b) (b := b) h3
    have hF2 := gAdd_F (s := gNx (gThr g p d b i 0)) (p := p) (d := d) (f := gFace (gThr g p d b i) d b - 1) (b := b) h4 (by omega) (by omega)
    rw [show gFace (gThr g p d b i) d b - 1 + 1 = gFace (gThr g p d b i) d b by omega] at hF2
    obtain ⟨en', fr', e1, e2, e3⟩ := ih (i + 1) j _ _ (by omega) (by omega) hE2 hF2
    refine ⟨en', fr', ?_, e2, e3⟩
    have es1 : gSumT g p d b (i + 1) = gSumT g p d b i + gFace (gThr g p d b i) d b := rfl
    have es2 : gThr g p d b (i + 1) 0 = gNx (gThr g p d b i 0) := rfl
    have es3 : gThr g p d b (i + 1) 5 = gThr g p d b i 5 + 1 := rfl
    rw [es1, es2, es3] at e1
    rcases (show b = 0 ∨ b = 1 by omega) with h | h
    · subst h
      have ef0 : gFace (gThr g p d 0 i) d 0 = gShow (gThr g p d 0 i) d (gNx (gThr g p d 0 i 0)) := rfl
      rw [← ef0] at es
      simp (disch := omega) only [n_0, n_1, n_2, n_3, n_4, n_5, n_6, n_7, n_8, n_9, n_10, n_12, n_13, n_15, n_20, n_24, n_27, n_31, n_32, n_33, n_36, n_44, n_48, n_50, n_57, n_58, n_59, n_72, n_74, n_75, n_85, n_91, n_96, n_97, n_99, n_122, n_255, n_300, n_432, n_600, n_900, n_999, n_1000, n_1291, n_1399, n_2798, n_11192, n_65536, n_65537, n_99999999, n_1000000, nI_add, pk_mul, q_le, q_lt, q_eq, q_cl, q_gi, q_gz, q_sub, q_div, q_dm, d_dm, q_m1, q_mn, q_nm, q_mlt, q_ltm, q_mle, q_lem, q_mm, Option.bind_some, if_true, if_false, Nat.add_zero, ite_self, q_us, q_un, decide_true, decide_false, Bool.false_eq_true, eq_self, and_self, and_true, true_and, and_false, false_and, or_true, true_or, or_false, false_or, d_ltT, d_ltF, d_leT, d_leF, d_eqT, d_eqF, f_X2_makeThrows_L12, f_X2_makeThrows_L12_F, f_X2_makeThrows_L62, e_next, es, ea]
      exact e1
    · subst h
      have ef0 : gFace (gThr g p d 1 i) d 1 = gNx (gThr g p d 1 i 0) % dF (gThr g p d 1 i) d + 1 := rfl
      rw [← ef0] at ef
      simp (disch := omega) only [n_0, n_1, n_2, n_3, n_4, n_5, n_6, n_7, n_8, n_9, n_10, n_12, n_13, n_15, n_20, n_24, n_27, n_31, n_32, n_33, n_36, n_44, n_48, n_50, n_57, n_58, n_59, n_72, n_74, n_75, n_85, n_91, n_96, n_97, n_99, n_122, n_255, n_300, n_432, n_600, n_900, n_999, n_1000, n_1291, n_1399, n_2798, n_11192, n_65536, n_65537, n_99999999, n_1000000, nI_add, pk_mul, q_le, q_lt, q_eq, q_cl, q_gi, q_gz, q_sub, q_div, q_dm, d_dm, q_m1, q_mn, q_nm, q_mlt, q_ltm, q_mle, q_lem, q_mm, Option.bind_some, if_true, if_false, Nat.add_zero, ite_self, q_us, q_un, decide_true, decide_false, Bool.false_eq_true, eq_self, and_self, and_true, true_and, and_false, false_and, or_true, true_or, or_false, false_or, d_ltT, d_ltF, d_leT, d_leF, d_eqT, d_eqF, f_X2_makeThrows_L12, f_X2_makeThrows_L12_F, f_X2_makeThrows_L62, e_next, ef, ea]
      exact e1
theorem e_make {N : Nat} {g : Nat → Nat} {fc dw en fr : Nat → Int32} {p d b n : Nat} (hN : 1000 < N) (hO : Ok g) (hp : p < g 4) (hd : d < g 3) (hb : b ≤ 1) (hn : g 5 + n ≤ 300) (hR : DR g fc dw) (hE : ER g en) (hF : FR g fr) : ∃ en' fr', f_X2_makeThrows N fc dw (nI (g 0)) (nI (g 5)) en fr (nI (6 * p + d)) (nI n) (nI b) = some (nI (gSumT g p d b n), nI (gThr g p d b n 0), nI (gThr g p d b n 5), en', fr') ∧ ER (gThr g p d b n) en' ∧ FR (gThr g p d b n) fr' := by
  have b3 := b_3 hO.1
  have b4 := b_4 hO.1
  obtain ⟨en', fr', e1, e2⟩ := e_makeL (N := N) hN hO hp hd hb hn hR n 0 N en fr (by omega) (by omega) hE hF
  refine ⟨en', fr', ?_, e2⟩
  have ed := e_dieOf (q := 6 * p + d) (by omega)
  rw [show (6 * p + d) % 6 = d by omega] at ed
  simp (disch := omega) only [n_0, n_1, n_2, n_3, n_4, n_5, n_6, n_7, n_8, n_9, n_10, n_12, n_13, n_15, n_20, n_24, n_27, n_31, n_32, n_33, n_36, n_44, n_48, n_50, n_57, n_58, n_59, n_72, n_74, n_75, n_85, n_91, n_96, n_97, n_99, n_122, n_255, n_300, n_432, n_600, n_900, n_999, n_1000, n_1291, n_1399, n_2798, n_11192, n_65536, n_65537, n_99999999, n_1000000, nI_add, pk_mul, q_le, q_lt, q_eq, q_cl, q_gi, q_gz, q_sub, q_div, q_dm, d_dm, q_m1, q_mn, q_nm, q_mlt, q_ltm, q_mle, q_lem, q_mm, Option.bind_some, if_true, if_false, Nat.add_zero, ite_self, q_us, q_un, decide_true, decide_false, Bool.false_eq_true, eq_self, and_self, and_true, true_and, and_false, false_and, or_true, true_or, or_false, false_or, d_ltT, d_ltF, d_leT, d_leF, d_eqT, d_eqF, f_X2_makeThrows, ed]
  exact e1
