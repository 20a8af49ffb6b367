/-! the hand's throws -/
theorem l_75 : (75 : Int64) = lN 75 := (rfl)
theorem l_74 : (74 : Int64) = lN 74 := (rfl)
theorem l_65537 : (65537 : Int64) = lN 65537 := (rfl)
theorem l_nz {n : Nat} (h0 : 0 < n) (h : n < 2147483648) : nzl (lN n) = true := decide_eq_true (fun q => by
  have := (lN_eq (a := n) (b := 0) (by omega) (by omega)).mp q
  omega)
theorem gd_t {α : Type} {b : Bool} {e : Option α} (h : b = true) : gd b e = e := if_pos h
def wB (g : Nat → Nat) (d b i : Nat) : Nat := if b = 0 then dW g d i else 1
theorem h_sumL {N : Nat} {g : Nat → Nat} {ul : Nat → Nat} {uw : Nat → Nat → Int32} {d b s : Nat} (hB : okB g) (hD : okD g) (h33 : g 3 = 3) (hW : HW g ul uw) (hd : d < 3) (hb : b < 2) (hS : 0 < sumTo (dF g d) (wB g d b)) (hS2 : ∀ i, i ≤ dF g d → sumTo i (wB g d b) ≤ 108) (hs : s ≤ 65536) : ∀ j i : Nat, i ≤ dF g d → dF g d < i + j → f_X11_shows_L25 N ul uw j (nI d) (nI b) (nI (sumTo i (wB g d b))) (nI i) (lN s) = f_X11_shows_L79 N ul uw N (nI d) (nI b) (nI (s % sumTo (dF g d) (wB g d b))) 0 0 (lN s) := by
  have hF := hD d (by omega)
  obtain ⟨hul, huw⟩ := hW d (by omega)
  intro j
  induction j with
  | zero => intro i h1 h2; omega
  | succ j ih =>
    intro i h1 h2
    show f_X11_shows_L25_F N ul uw (f_X11_shows_L25 N ul uw j) _ _ _ _ _ = _
    unfold f_X11_shows_L25_F
    rw [q_gi hd (by omega), q_cl (by omega), hul]
    have hss := hS2 i h1
    by_cases hi : dF g d ≤ i
    · rw [if_pos (by rw [q_le (by omega) (by omega)]; exact hi)]
      obtain rfl : i = dF g d := by omega
      rw [nI_l (by omega), gd_t (l_nz hS (by omega)), pk_lRem (by omega) hS (by omega), lN_i]
    · rw [if_neg (by rw [q_le (by omega) (by omega)]; exact hi)]
      have h := ih (i + 1) (by omega) (by omega)
      have hst : sumTo (i + 1) (wB g d b) = sumTo i (wB g d b) + wB g d b i := rfl
      rw [hst] at h
      by_cases hb0 : b = 0
      · rw [if_pos (by rw [hb0, n_0]), q_gi hd (by omega), q_gi (by omega) (by omega), q_cl (by omega), huw i (by omega), nI_add, n_1, nI_add]
        have hw0 : wB g d b i = dW g d i := if_pos hb0
        rw [hw0] at h
        exact h
      · rw [if_neg (by rw [n_0, q_eq (by omega) (by omega)]; exact hb0), n_1, nI_add, nI_add]
        have hw0 : wB g d b i = 1 := if_neg hb0
        rw [hw0] at h
        exact h
theorem h_pickL {N : Nat} {g : Nat → Nat} {ul : Nat → Nat} {uw : Nat → Nat → Int32} {d b pick i0 : Nat} {us : Int64} (hB : okB g) (hD : okD g) (h33 : g 3 = 3) (hW : HW g ul uw) (hd : d < 3) (hb : b < 2) (hS2 : ∀ i, i ≤ dF g d → sumTo i (wB g d b) ≤ 108) (h0 : isF (wB g d b) pick i0) (hi0 : i0 < dF g d) (hp : pick < 108) : ∀ k i j : Nat, i + k = i0 → k < j → f_X11_shows_L79 N ul uw j (nI d) (nI b) (nI pick) (nI (sumTo i (wB g d b))) (nI i) us = some (nI (i0 + 1), us) := by
  have hF := hD d (by omega)
  obtain ⟨hul, huw⟩ := hW d (by omega)
  intro k
  induction k with
  | zero =>
    intro i j h1 h2
    obtain ⟨j, rfl⟩ : ∃ t, j = t + 1 := ⟨j - 1, by omega⟩
    obtain rfl : i = i0 := by omega
    show f_X11_shows_L79_F N ul uw (f_X11_shows_L79 N ul uw j) _ _ _ _ _ _ = _
    unfold f_X11_shows_L79_F
    have h6 := h0.2
    have hst : sumTo (i + 1) (wB g d b) = sumTo i (wB g d b) + wB g d b i := rfl
    have h7 := hS2 (i + 1) (by omega)
    rw [q_gi hd (by omega), q_cl (by omega), hul, if_neg (by rw [q_le (by omega) (by omega)]; omega)]
    by_cases hb0 : b = 0
    · have hw0 : wB g d b i = dW g d i := if_pos hb0
      rw [if_pos (by rw [hb0, n_0]), q_gi hd (by omega), q_gi (by omega) (by omega), q_cl (by omega), huw i (by omega), nI_add, if_neg (by rw [q_le (by omega) (by omega)]; omega), n_1, nI_add]
    · have hw0 : wB g d b i = 1 := if_neg hb0
      rw [if_neg (by rw [n_0, q_eq (by omega) (by omega)]; exact hb0), n_1, nI_add, nI_add, if_neg (by rw [q_le (by omega) (by omega)]; omega)]
  | succ k ih =>
    intro i j h1 h2
    obtain ⟨j, rfl⟩ : ∃ t, j = t + 1 := ⟨j - 1, by omega⟩
    show f_X11_shows_L79_F N ul uw (f_X11_shows_L79 N ul uw j) _ _ _ _ _ _ = _
    unfold f_X11_shows_L79_F
    have h5 := sumTo_mono (f := wB g d b) (show i + 1 ≤ i0 by omega)
    have h6 := h0.1
    have h7 := hS2 (i + 1) (by omega)
    have hst : sumTo (i + 1) (wB g d b) = sumTo i (wB g d b) + wB g d b i := rfl
    have h := ih (i + 1) j (by omega) (by omega)
    rw [hst] at h
    rw [q_gi hd (by omega), q_cl (by omega), hul, if_neg (by rw [q_le (by omega) (by omega)]; omega)]
    by_cases hb0 : b = 0
    · have hw0 : wB g d b i = dW g d i := if_pos hb0
      rw [hw0] at h
      rw [if_pos (by rw [hb0, n_0]), q_gi hd (by omega), q_gi (by omega) (by omega), q_cl (by omega), huw i (by omega), nI_add, if_pos (by rw [q_le (by omega) (by omega)]; omega), n_1, nI_add]
      exact h
    · have hw0 : wB g d b i = 1 := if_neg hb0
      rw [hw0] at h
      rw [if_neg (by rw [n_0, q_eq (by omega) (by omega)]; exact hb0), n_1, nI_add, nI_add, if_pos (by rw [q_le (by omega) (by omega)]; omega)]
      exact h
theorem sum_1 {n : Nat} {f : Nat → Nat} (h : ∀ k, f k = 1) : sumTo n f = n := by
  induction n with
  | zero => rfl
  | succ n ih => rw [sumTo_s, ih, h]
theorem h_shows {N : Nat} {g : Nat → Nat} {ul : Nat → Nat} {uw : Nat → Nat → Int32} {d b : Nat} (hN : 1000 < N) (hB : okB g) (hD : okD g) (h33 : g 3 = 3) (hW : HW g ul uw) (hd : d < 3) (hb : b < 2) : f_X11_shows N ul uw (lN (g 0)) (nI d) (nI b) = some (nI (gFace g d b), lN (gNx (g 0))) := by
  have hF := hD d (by omega)
  have h0 := hB.1
  have hgx := gNx_le (g 0)
  have hx : ((75 : Int64) * lN (g 0) + 74) - ((75 : Int64) * lN (g 0) + 74) / 65537 * 65537 = lN (gNx (g 0)) := by
    rw [l_75, l_74, l_65537, lN_mul, lN_add, pk_lRem (by omega) (by omega) (by omega)]
    rfl
  unfold f_X11_shows
  rw [hx]
  have hsum : ∀ i, i ≤ dF g d → sumTo i (wB g d b) ≤ 108 := fun i hi => by
    have := sumTo_le (f := wB g d b) (b := 9) (n := i) (fun k hk => by
      unfold wB
      split
      · exact hF.2.2.1 k (by omega)
      · omega)
    omega
  have hS : 0 < sumTo (dF g d) (wB g d b) := by
    by_cases hb0 : b = 0
    · have e : sumTo (dF g d) (wB g d b) = dS g d := sumTo_congr (fun k _ => if_pos hb0)
      rw [e]
      exact hF.2.2.2
    · have e : sumTo (dF g d) (wB g d b) = dF g d := sum_1 (fun k => if_neg hb0)
      rw [e]
      omega
  have h1 := h_sumL (N := N) (s := gNx (g 0)) hB hD h33 hW hd hb hS hsum hgx N 0 (by omega) (by omega)
  rw [sumTo_0] at h1
  rw [n_0, h1]
  have hpk : gNx (g 0) % sumTo (dF g d) (wB g d b) < sumTo (dF g d) (wB g d b) := Nat.mod_lt _ hS
  have hall := hsum _ (Nat.le_refl _)
  have hgf := gFace_s (b := b) hD (show d < g 3 by omega)
  have hisF : isF (wB g d b) (gNx (g 0) % sumTo (dF g d) (wB g d b)) (gFace g d b - 1) := by
    by_cases hb0 : b = 0
    · have e : ∀ i, sumTo i (wB g d b) = sumTo i (dW g d) := fun i => sumTo_congr (fun k _ => if_pos hb0)
      have h3 := (gShow_s (s := gNx (g 0)) hD (show d < g 3 by omega)).2.2
      unfold gFace isF
      rw [if_pos hb0, e, e, e]
      exact h3
    · have e : ∀ i, sumTo i (wB g d b) = i := fun i => sum_1 (fun k => if_neg hb0)
      unfold gFace isF
      rw [if_neg hb0, e, e, e]
      omega
  have h2 := h_pickL (N := N) (us := lN (gNx (g 0))) hB hD h33 hW hd hb hsum hisF (by omega) (by omega) (gFace g d b - 1) 0 N (by omega) (by omega)
  rw [sumTo_0] at h2
  rw [n_0, h2, show gFace g d b - 1 + 1 = gFace g d b by omega]
theorem upo_s {t : Nat → Option (Nat → Int32)} {k i : Nat} {c : Nat → Int32} (h : i = k) : upo t k c i = some c := if_pos h
theorem upo_n {t : Nat → Option (Nat → Int32)} {k i : Nat} {c : Nat → Int32} (h : i ≠ k) : upo t k c i = t i := if_neg h
theorem HT_add {g : Nat → Nat} {ut : Nat → Option (Nat → Int32)} {c : Nat → Int32} {s p d f b : Nat} (h : HT g ut) (hc : c 0 = nI p ∧ c 1 = nI d ∧ c 2 = nI f ∧ c 3 = nI b) : HT (gAdd g s p d f b) (upo ut (g 5) c) := by
  intro k hk
  rw [gAdd_5] at hk
  by_cases e : k = g 5
  · have ht := @gAdd_T g s p d f b
    rw [e]
    refine ⟨c, upo_s rfl, ?_⟩
    unfold rT
    rw [ht.1, ht.2.1, ht.2.2.1, ht.2.2.2.1]
    exact hc
  · obtain ⟨c9, h1, h2⟩ := h k (by omega)
    have ht := @gAdd_t g s p d f b k (by omega)
    refine ⟨c9, (upo_n e).trans h1, ?_⟩
    unfold rT
    rw [ht.1, ht.2.1, ht.2.2.1, ht.2.2.2.1]
    exact h2
theorem HW_s {g g' : Nat → Nat} {ul : Nat → Nat} {uw : Nat → Nat → Int32} (hB : okB g) (hD : okD g) (hs : sD g g') (h : HW g ul uw) : HW g' ul uw := by
  have h3 := b_3 hB
  intro d hd
  rw [hs.1] at hd
  have hf := hD d hd
  rw [sD_F hs (by omega)]
  exact ⟨(h d hd).1, fun i hi => by rw [sD_W hs (by omega) (by omega)]; exact (h d hd).2 i hi⟩
theorem h_throwL {N : Nat} {g : Nat → Nat} {ul : Nat → Nat} {uw : Nat → Nat → Int32} {p d b n : Nat} (hN : 1000 < N) (hO : Ok g) (h33 : g 3 = 3) (hW : HW g ul uw) (hp : p < g 4) (hd : d < 3) (hb : b ≤ 1) (hn : g 5 + n ≤ 300) : ∀ (k i j : Nat) (ut : Nat → Option (Nat → Int32)), i + k = n → k < j → HT (gThr g p d b i) ut → ∃ ut', f_X11_throwsDie_L6 N ul uw j (nI p) (nI d) (nI n) (nI b) (nI (gSumT g p d b i)) (nI i) ut (nI (g 5 + i)) (lN (gThr g p d b i 0)) = some (nI (gSumT g p d b n), ut', nI (g 5 + n), lN (gThr g p d b n 0)) ∧ HT (gThr g p d b n) ut' := by
  have hB := hO.1
  intro k
  induction k with
  | zero =>
    intro i j ut h1 h2 hU
    obtain ⟨j, rfl⟩ : ∃ t, j = t + 1 := ⟨j - 1, by omega⟩
    obtain rfl : i = n := by omega
    refine ⟨ut, ?_, hU⟩
    show f_X11_throwsDie_L6_F N ul uw (f_X11_throwsDie_L6 N ul uw j) _ _ _ _ _ _ _ _ _ = _
    unfold f_X11_throwsDie_L6_F
    rw [q_gi (by omega) (by omega), if_pos (by rw [q_le (by omega) (by omega)]; omega)]
  | succ k ih =>
    intro i j ut h1 h2 hU
    obtain ⟨j, rfl⟩ : ∃ t, j = t + 1 := ⟨j - 1, by omega⟩
    obtain ⟨hOi, h5, hsd, -, -, -, -⟩ := gThr_s hO hp (by omega : d < g 3) hb i (by omega)
    have hWi := HW_s hB hO.2.1 hsd hW
    have h33i : gThr g p d b i 3 = 3 := hsd.1.trans h33
    have hsh := h_shows (N := N) (b := b) hN hOi.1 hOi.2.1 h33i hWi hd (by omega)
    have hft := gFace_s (b := b) hOi.2.1 (by omega : d < gThr g p d b i 3)
    have hf12 := hOi.2.1 d (by omega)
    have hsl := gSumT_le (b := b) hO hp (by omega : d < g 3) hb (n := i) (by omega)
    have hU2 := HT_add (s := gNx (gThr g p d b i 0)) (p := p) (d := d) (f := gFace (gThr g p d b i) d b) (b := b) (c := upd (upd (upd (upd (fun _ => 0) 0 (nI p)) 1 (nI d)) 2 (nI (gFace (gThr g p d b i) d b))) 3 (nI b)) hU ⟨by rw [q_un (by omega), q_un (by omega), q_un (by omega), q_us rfl], by rw [q_un (by omega), q_un (by omega), q_us rfl], by rw [q_un (by omega), q_us rfl], q_us rfl⟩
    rw [h5] at hU2
    obtain ⟨ut', e1, e2⟩ := ih (i + 1) j (upo ut (g 5 + i) (upd (upd (upd (upd (fun _ => 0) 0 (nI p)) 1 (nI d)) 2 (nI (gFace (gThr g p d b i) d b))) 3 (nI b))) (by omega) (by omega) hU2
    refine ⟨ut', ?_, e2⟩
    have hz : gThr g p d b (i + 1) 0 = gNx (gThr g p d b i 0) := gAdd_0 (g := gThr g p d b i) (s := gNx (gThr g p d b i 0)) (p := p) (d := d) (f := gFace (gThr g p d b i) d b) (b := b)
    have hst : gSumT g p d b (i + 1) = gSumT g p d b i + gFace (gThr g p d b i) d b := rfl
    rw [hz, hst] at e1
    show f_X11_throwsDie_L6_F N ul uw (f_X11_throwsDie_L6 N ul uw j) _ _ _ _ _ _ _ _ _ = _
    unfold f_X11_throwsDie_L6_F
    simp only [T_0, T_1, T_2, T_3]
    rw [q_gi (by omega) (by omega), if_neg (by rw [q_le (by omega) (by omega)]; omega), hsh, Option.bind_some]
    have hc2 : (upd (upd (upd (upd (fun _ => 0) 0 (nI p)) 1 (nI d)) 2 (nI (gFace (gThr g p d b i) d b))) 3 (nI b)) 2 = nI (gFace (gThr g p d b i) d b) := by rw [q_un (by omega), q_us rfl]
    rcases (show b = 0 ∨ b = 1 by omega) with rfl | rfl
    · rw [if_pos n_0.symm, q_gi (by omega) (by omega), q_gi (by omega) (by omega), q_cl (by omega)]
      show ((upo ut (g 5 + i) (upd (upd (upd (upd (fun _ => 0) 0 (nI p)) 1 (nI d)) 2 (nI (gFace (gThr g p d 0 i) d 0))) 3 (nI 0))) (g 5 + i)).bind _ = _
      rw [upo_s rfl, Option.bind_some, hc2, n_1, nI_add, nI_add, nI_add]
      exact e1
    · rw [if_neg (by rw [n_0, q_eq (by omega) (by omega)]; omega), q_gi (by omega) (by omega), q_gi (by omega) (by omega), q_cl (by omega)]
      show ((upo ut (g 5 + i) (upd (upd (upd (upd (fun _ => 0) 0 (nI p)) 1 (nI d)) 2 (nI (gFace (gThr g p d 1 i) d 1))) 3 (nI 1))) (g 5 + i)).bind _ = _
      rw [upo_s rfl, Option.bind_some, hc2, n_1, nI_add, nI_add, nI_add]
      exact e1
theorem h_throw {N : Nat} {g : Nat → Nat} {ul : Nat → Nat} {uw : Nat → Nat → Int32} {ut : Nat → Option (Nat → Int32)} {p d b n : Nat} (hN : 1000 < N) (hO : Ok g) (h33 : g 3 = 3) (hW : HW g ul uw) (hU : HT g ut) (hp : p < g 4) (hd : d < 3) (hb : b ≤ 1) (hn : g 5 + n ≤ 300) : ∃ ut', f_X11_throwsDie N ul uw ut (nI (g 5)) (lN (g 0)) (nI p) (nI d) (nI n) (nI b) = some (nI (gSumT g p d b n), ut', nI (g 5 + n), lN (gThr g p d b n 0)) ∧ HT (gThr g p d b n) ut' := by
  unfold f_X11_throwsDie
  rw [n_0]
  exact h_throwL hN hO h33 hW hp hd hb hn n 0 N ut (by omega) (by omega) hU
