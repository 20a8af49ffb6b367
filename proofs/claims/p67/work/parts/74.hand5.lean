/-! kept rows found again; rows after a penance and after forgiving -/
theorem cK_inj {kp : Nat → Bool} {j j' : Nat} (h : kp j = true) (h' : kp j' = true) (e : cK kp j = cK kp j') : j = j' := by
  rcases Nat.lt_trichotomy j j' with c | c | c
  · have := cK_lt h c
    omega
  · exact c
  · have := cK_lt h' c
    omega
noncomputable def kIv (kp : Nat → Bool) (n r : Nat) : Nat := @dite Nat (∃ j, j < n ∧ kp j = true ∧ cK kp j = r) (Classical.propDecidable _) (fun h => Classical.choose h) (fun _ => 0)
theorem kIv_s {kp : Nat → Bool} {n j : Nat} (hj : j < n) (hk : kp j = true) : kIv kp n (cK kp j) = j := by
  have h : ∃ i, i < n ∧ kp i = true ∧ cK kp i = cK kp j := ⟨j, hj, hk, rfl⟩
  have hs := Classical.choose_spec h
  unfold kIv
  rw [dif_pos h]
  exact cK_inj hs.2.1 hk hs.2.2
noncomputable def gSel (kp : Nat → Bool) (g : Nat → Nat) : Nat → Nat := fun k => if k = 6 then cK kp (g 6) else if 1291 ≤ k ∧ k < 1399 then g (1291 + 3 * kIv kp (g 6) ((k - 1291) / 3) + (k - 1291) % 3) else g k
theorem gSel_n {kp : Nat → Bool} {g : Nat → Nat} {k : Nat} (h : k ≠ 6) (h2 : k < 1291) : gSel kp g k = g k := by
  unfold gSel
  rw [if_neg h, if_neg (by omega)]
theorem gSel_i {kp : Nat → Bool} {g : Nat → Nat} (hB : okB g) : isSel kp g (gSel kp g) := by
  have h6 := b_6 hB
  refine ⟨if_pos rfl, fun j hj hk c hc => ?_⟩
  have hl := @cK_le kp j
  unfold gSel
  rw [if_neg (by omega), if_pos (by omega), show (1291 + 3 * cK kp j + c - 1291) / 3 = cK kp j by omega, show (1291 + 3 * cK kp j + c - 1291) % 3 = c by omega, kIv_s hj hk]
noncomputable def gPop (kp : Nat → Bool) (g : Nat → Nat) : Nat → Nat := fun k => if k = 6 then g 6 - 1 else if k = 5 then cK kp (g 5) else if 1291 ≤ k then g (k + 3) else if 91 ≤ k then g (91 + 4 * kIv kp (g 5) ((k - 91) / 4) + (k - 91) % 4) else g k
theorem gPop_i {g : Nat → Nat} (hB : okB g) : isPen g (gPop (kpT g (oQ g 0) (cQ g (oQ g 0) - gPen g)) g) := by
  have h6 := b_6 hB
  have h5 := b_5 hB
  generalize hkp : kpT g (oQ g 0) (cQ g (oQ g 0) - gPen g) = kp
  unfold isPen
  rw [hkp]
  refine ⟨⟨if_pos rfl, fun r hr c hc => ?_⟩, ⟨rfl, fun j hj hk c hc => ?_⟩, ⟨?_, fun k h1 h2 => ?_⟩, ⟨?_, fun k h1 h2 => ?_⟩, fun k hk => ?_⟩
  · unfold gPop
    rw [if_neg (by omega), if_neg (by omega), if_pos (by omega), show 1291 + 3 * r + c + 3 = 1291 + 3 * (r + 1) + c by omega]
  · have hl := @cK_le kp j
    unfold gPop
    rw [if_neg (by omega), if_neg (by omega), if_neg (by omega), if_pos (by omega), show (91 + 4 * cK kp j + c - 91) / 4 = cK kp j by omega, show (91 + 4 * cK kp j + c - 91) % 4 = c by omega, kIv_s hj hk]
  · rfl
  · unfold gPop
    rw [if_neg (by omega), if_neg (by omega), if_neg (by omega), if_neg (by omega)]
  · rfl
  · unfold gPop
    rw [if_neg (by omega), if_neg (by omega), if_neg (by omega), if_neg (by omega)]
  · unfold gPop
    rw [if_neg (by omega), if_neg (by omega), if_neg (by omega), if_neg (by omega)]
theorem bj_cK {m n : Nat} {kp : Nat → Bool} {σ : Nat → Nat} (h : BJ m n (fun r => kp r = true) σ) : m = cK kp n := by
  apply Nat.le_antisymm
  · exact pig (n := cK kp n) m (fun k => cK kp (σ k)) (fun k hk => cK_lt (h.1 k hk).2 (h.1 k hk).1) (fun k k' hk hk' e => h.2.1 k k' hk hk' (cK_inj (h.1 k hk).2 (h.1 k' hk').2 e))
  · have hx : ∀ t, ∃ k, t < cK kp n → k < m ∧ cK kp (σ k) = t := fun t => by
      by_cases c : t < cK kp n
      · obtain ⟨j, j1, j2, j3⟩ := cK_surj c
        obtain ⟨k, k1, k2⟩ := h.2.2 j j1 j2
        exact ⟨k, fun _ => ⟨k1, by rw [k2]; exact j3⟩⟩
      · exact ⟨0, fun q => absurd q c⟩
    have hf := fun t => Classical.choose_spec (hx t)
    refine pig (n := m) (cK kp n) (fun t => Classical.choose (hx t)) (fun t ht => (hf t ht).1) (fun t t' ht ht' e => ?_)
    rw [← (hf t ht).2, ← (hf t' ht').2]
    exact congrArg (fun k => cK kp (σ k)) e
theorem sel_QS {g g' : Nat → Nat} {kp : Nat → Bool} {m : Nat} {uq : Nat → Option (Nat → Int32)} {σ : Nat → Nat} (hs : srt g) (hi : isSel kp g g') (h : PQ g m (fun r => kp r = true) uq σ) : m = g' 6 ∧ QS g' uq := by
  obtain ⟨h1, hb⟩ := h
  have hm := bj_cK hb
  have h6 : g' 6 = m := hi.1.trans hm.symm
  refine ⟨h6.symm, fun r r' h2 h3 => ?_, fun k => cK kp (σ k), fun k hk => ?_, fun k hk => ⟨?_, trivial⟩, fun k k' hk hk' e => ?_, fun r hr _ => ?_⟩
  · rw [hi.1] at h3
    obtain ⟨j, j1, j2, j3⟩ := cK_surj (show r < cK kp (g 6) by omega)
    obtain ⟨j', k1, k2, k3⟩ := cK_surj h3
    have hlt : j < j' := by
      rcases Nat.lt_or_ge j j' with c | c
      · exact c
      · have := @cK_mono kp j' j c
        omega
    have a := sel_o hi j1 j2
    have b := sel_o hi k1 k2
    rw [j3] at a
    rw [k3] at b
    unfold Wr
    rw [a.2.2.1, a.2.2.2, b.2.2.1, b.2.2.2]
    exact hs j j' hlt k1
  · obtain ⟨c, c1, c2⟩ := h1 k (by omega)
    have hk2 := hb.1 k (by omega)
    have a := sel_o hi hk2.1 hk2.2
    refine ⟨c, c1, ?_⟩
    unfold rO
    rw [a.1, a.2.1, a.2.2.1]
    exact c2
  · have hk2 := hb.1 k (by omega)
    show cK kp (σ k) < g' 6
    rw [hi.1]
    exact cK_lt hk2.2 hk2.1
  · exact hb.2.1 k k' (by omega) (by omega) (cK_inj (hb.1 k (by omega)).2 (hb.1 k' (by omega)).2 e)
  · rw [hi.1] at hr
    obtain ⟨j, j1, j2, j3⟩ := cK_surj hr
    obtain ⟨k, k1, k2⟩ := hb.2.2 j j1 j2
    exact ⟨k, by omega, by show cK kp (σ k) = r; rw [k2]; exact j3⟩
theorem pop_QS {g g' : Nat → Nat} {m : Nat} {uq : Nat → Option (Nat → Int32)} {σ : Nat → Nat} (hs : srt g) (hi : isPop g g') (hm : m + 1 = g 6) (h : PQ g m (fun r => aL r ∧ r ≠ 0) uq σ) : m = g' 6 ∧ QS g' uq := by
  obtain ⟨h1, hb⟩ := h
  have h6 : g' 6 = m := by rw [hi.1]; omega
  refine ⟨h6.symm, fun r r' h2 h3 => ?_, fun k => σ k - 1, fun k hk => ?_, fun k hk => ⟨?_, trivial⟩, fun k k' hk hk' e => ?_, fun r hr _ => ?_⟩
  · have a := pop_o hi (r := r) (by omega)
    have b := pop_o hi (r := r') (by omega)
    unfold Wr
    rw [a.2.2.1, a.2.2.2, b.2.2.1, b.2.2.2]
    exact hs (r + 1) (r' + 1) (by omega) (by omega)
  · obtain ⟨c, c1, c2⟩ := h1 k (by omega)
    have hk2 := hb.1 k (by omega)
    have hz : σ k ≠ 0 := hk2.2.2
    have a := pop_o hi (r := σ k - 1) (by omega)
    rw [show σ k - 1 + 1 = σ k by omega] at a
    refine ⟨c, c1, ?_⟩
    unfold rO
    rw [a.1, a.2.1, a.2.2.1]
    exact c2
  · have hk2 := hb.1 k (by omega)
    have hz : σ k ≠ 0 := hk2.2.2
    show σ k - 1 < g' 6
    omega
  · have e : σ k - 1 = σ k' - 1 := e
    have hk2 := hb.1 k (by omega)
    have hk3 := hb.1 k' (by omega)
    have hz : σ k ≠ 0 := hk2.2.2
    have hz2 : σ k' ≠ 0 := hk3.2.2
    exact hb.2.1 k k' (by omega) (by omega) (by omega)
  · obtain ⟨k, k1, k2⟩ := hb.2.2 (r + 1) (by omega) ⟨trivial, by omega⟩
    exact ⟨k, by omega, by show σ k - 1 = r; omega⟩
/-! the removal of a penance's throws -/
def kpX (g : Nat → Nat) (q n x j : Nat) : Bool := decide (j < x) || kpT g q n j
theorem cK_id {kp : Nat → Bool} {n : Nat} (h : ∀ i, i < n → kp i = true) : cK kp n = n := by
  induction n with
  | zero => rfl
  | succ n ih => rw [cK_t (h n (by omega)), ih (fun i hi => h i (by omega))]
theorem cK_del {kp kp' : Nat → Bool} {y : Nat} (h : ∀ j, j ≠ y → kp j = kp' j) (h1 : kp y = true) (h2 : kp' y = false) : ∀ t, cK kp t = cK kp' t + if y < t then 1 else 0 := by
  intro t
  induction t with
  | zero => rfl
  | succ t ih =>
    by_cases c : t = y
    · subst c
      rw [cK_t h1, cK_f h2, ih, if_neg (by omega), if_pos (by omega)]
    · have hx : (if y < t + 1 then 1 else 0) = if y < t then 1 else 0 := by
        by_cases c2 : y < t
        · rw [if_pos c2, if_pos (by omega)]
        · rw [if_neg c2, if_neg (by omega)]
      rw [hx]
      cases hk : kp' t with
      | true => rw [cK_t (by rw [h t c]; exact hk), cK_t hk, ih]; omega
      | false => rw [cK_f (by rw [h t c]; exact hk), cK_f hk, ih]
def CT (g : Nat → Nat) (kp : Nat → Bool) (ut : Nat → Option (Nat → Int32)) : Prop := ∀ j, j < g 5 → kp j = true → ∃ c, ut (cK kp j) = some c ∧ rT g j c
theorem h_shiftL {N : Nat} {ul : Nat → Nat} {uw : Nat → Nat → Int32} {r : Int32 → Int32 → Int32 → Int32 → Int32 → (Nat → Option (Nat → Int32)) → (Nat → Option (Nat → Int32)) → Int32 → Int32 → Int64 → Option (Int32 × (Nat → Option (Nat → Int32)) × (Nat → Option (Nat → Int32)) × Int32 × Int32 × Int64)} {ut uq : Nat → Option (Nat → Int32)} {l2 l3 l4 l5 l6 uo : Int32} {us : Int64} {y m : Nat} (hm : m < 399) (hall : ∀ i, i ≤ m → ∃ c, ut i = some c) : ∀ (k l j : Nat) (utl : Nat → Option (Nat → Int32)), l + k = m → y ≤ l → k < j → (∀ i, utl i = if y ≤ i ∧ i < l then ut (i + 1) else ut i) → ∃ ut', (∀ i, ut' i = if y ≤ i ∧ i < m then ut (i + 1) else ut i) ∧ f_X11_absolves_L136 N ul uw r j l2 l3 l4 l5 l6 (nI l) utl uq (nI m) uo us = r l2 l3 l4 l5 (l6 + -1) ut' uq (nI m) uo us := by
  intro k
  induction k with
  | zero =>
    intro l j utl h1 hy h2 hu
    obtain ⟨j, rfl⟩ : ∃ t, j = t + 1 := ⟨j - 1, by omega⟩
    obtain rfl : l = m := by omega
    refine ⟨utl, hu, ?_⟩
    show f_X11_absolves_L136_F N ul uw r (f_X11_absolves_L136 N ul uw r j) _ _ _ _ _ _ _ _ _ _ _ = _
    unfold f_X11_absolves_L136_F f_X11_absolves_L167
    rw [if_pos (by rw [q_le (by omega) (by omega)]; omega)]
  | succ k ih =>
    intro l j utl h1 hy h2 hu
    obtain ⟨j, rfl⟩ : ∃ t, j = t + 1 := ⟨j - 1, by omega⟩
    obtain ⟨c, hc⟩ := hall (l + 1) (by omega)
    have hul : utl (l + 1) = some c := by rw [hu, if_neg (by omega)]; exact hc
    obtain ⟨ut', a1, a2⟩ := ih (l + 1) j (upo utl l c) (by omega) (by omega) (by omega) (fun i => by
      by_cases e : i = l
      · rw [upo_s e, if_pos (by omega), e, hc]
      · rw [upo_n e, hu]
        by_cases c2 : y ≤ i ∧ i < l
        · rw [if_pos c2, if_pos (by omega)]
        · rw [if_neg c2, if_neg (by omega)])
    refine ⟨ut', a1, ?_⟩
    show f_X11_absolves_L136_F N ul uw r (f_X11_absolves_L136 N ul uw r j) _ _ _ _ _ _ _ _ _ _ _ = _
    unfold f_X11_absolves_L136_F
    rw [if_neg (by rw [q_le (by omega) (by omega)]; omega), n_1, nI_add, q_gi (by omega) (by omega), q_cl (by omega), hul, Option.bind_some, q_gi (by omega) (by omega), q_cl (by omega)]
    exact a2
theorem h_remL {N : Nat} {g : Nat → Nat} {ul : Nat → Nat} {uw : Nat → Nat → Int32} {uq : Nat → Option (Nat → Int32)} {l5 uo : Int32} {us : Int64} {p d n : Nat} (hN : 1000 < N) (hB : okB g) (hD : okD g) (hT : okT g) (hp : p < 6) (hd : d < 6) : ∀ (x j : Nat) (ut : Nat → Option (Nat → Int32)), x ≤ g 5 → x < j → n ≤ qN g (6 * p + d) x → CT g (kpX g (6 * p + d) n x) ut → ∃ ut', CT g (kpT g (6 * p + d) n) ut' ∧ f_X11_absolves_L80 N ul uw j (nI p) (nI d) (nI (qN g (6 * p + d) x - n)) l5 (nI x - nI 1) ut uq (nI (cK (kpX g (6 * p + d) n x) (g 5))) uo us = f_X11_absolves_L173 N ul uw (nI p) (nI d) l5 ut' uq (nI (cK (kpT g (6 * p + d) n) (g 5))) uo us := by
  have h5 := b_5 hB
  have hfin : ∀ x, qN g (6 * p + d) x ≤ n → ∀ j, kpX g (6 * p + d) n x j = kpT g (6 * p + d) n j := by
    intro x hx j
    unfold kpX
    by_cases c : j < x
    · have h1 : qN g (6 * p + d) (j + 1) ≤ qN g (6 * p + d) x := sumTo_mono (by omega)
      have h2 : kpT g (6 * p + d) n j = true := by
        unfold kpT
        refine decide_eq_true ?_
        by_cases e : tQ g j = 6 * p + d
        · refine Or.inr ?_
          have h3 : qN g (6 * p + d) (j + 1) = qN g (6 * p + d) j + 1 := by
            rw [qN_s, if_pos e]
          omega
        · exact Or.inl e
      rw [h2, Bool.or_true]
    · rw [decide_eq_false c, Bool.false_or]
  have hend : ∀ (x : Nat) (ut : Nat → Option (Nat → Int32)), qN g (6 * p + d) x ≤ n → CT g (kpX g (6 * p + d) n x) ut → CT g (kpT g (6 * p + d) n) ut ∧ cK (kpX g (6 * p + d) n x) (g 5) = cK (kpT g (6 * p + d) n) (g 5) := by
    intro x ut hx hc
    have e : kpX g (6 * p + d) n x = kpT g (6 * p + d) n := funext (hfin x hx)
    rw [e] at hc ⊢
    exact ⟨hc, rfl⟩
  intro x
  induction x with
  | zero =>
    intro j ut h1 h2 h3 hc
    obtain ⟨j, rfl⟩ : ∃ t, j = t + 1 := ⟨j - 1, by omega⟩
    obtain ⟨a, b⟩ := hend 0 ut (by have : qN g (6 * p + d) 0 = 0 := rfl; omega) hc
    refine ⟨ut, a, ?_⟩
    rw [← b]
    show f_X11_absolves_L80_F N ul uw (f_X11_absolves_L80 N ul uw j) _ _ _ _ _ _ _ _ _ _ = _
    unfold f_X11_absolves_L80_F
    rw [if_pos (by decide +kernel)]
  | succ y ih =>
    intro j ut h1 h2 h3 hc
    obtain ⟨j, rfl⟩ : ∃ t, j = t + 1 := ⟨j - 1, by omega⟩
    have hql := @qN_le g (6 * p + d) (y + 1)
    by_cases hle : qN g (6 * p + d) (y + 1) ≤ n
    · obtain ⟨a, b⟩ := hend (y + 1) ut hle hc
      refine ⟨ut, a, ?_⟩
      rw [← b]
      show f_X11_absolves_L80_F N ul uw (f_X11_absolves_L80 N ul uw j) _ _ _ _ _ _ _ _ _ _ = _
      unfold f_X11_absolves_L80_F
      rw [i_dn, if_neg (by rw [n_0, q_lt (by omega) (by omega)]; omega), if_pos (by rw [n_0, q_le (by omega) (by omega)]; omega)]
    · have hky : kpX g (6 * p + d) n (y + 1) y = true := by
        unfold kpX
        rw [decide_eq_true (show y < y + 1 by omega), Bool.true_or]
      have hid : cK (kpX g (6 * p + d) n (y + 1)) y = y := cK_id (fun i hi => by
        unfold kpX
        rw [decide_eq_true (show i < y + 1 by omega), Bool.true_or])
      obtain ⟨c, c1, c2⟩ := hc y (by omega) hky
      rw [hid] at c1
      have hb := t_bd2 hB hT (show y < g 5 by omega)
      have hx := tQ_pd (p := p) hB hT hd (show y < g 5 by omega)
      have hne : ∀ i, i ≠ y → kpX g (6 * p + d) n (y + 1) i = kpX g (6 * p + d) n y i := fun i hi => by
        unfold kpX
        by_cases q : i < y
        · rw [decide_eq_true q, decide_eq_true (show i < y + 1 by omega)]
        · rw [decide_eq_false q, decide_eq_false (show ¬ i < y + 1 by omega)]
      have hst := @qN_s g (6 * p + d) y
      show ∃ ut', _ ∧ f_X11_absolves_L80_F N ul uw (f_X11_absolves_L80 N ul uw j) _ _ _ _ _ _ _ _ _ _ = _
      unfold f_X11_absolves_L80_F
      simp only [T_0, T_1]
      rw [i_dn, if_neg (by rw [n_0, q_lt (by omega) (by omega)]; omega), if_neg (by rw [n_0, q_le (by omega) (by omega)]; omega), q_gi (by omega) (by omega), q_cl (by omega), c1, Option.bind_some, c2.1]
      have hother : tQ g y ≠ 6 * p + d → ∃ ut', CT g (kpT g (6 * p + d) n) ut' ∧ f_X11_absolves_L80 N ul uw j (nI p) (nI d) (nI (qN g (6 * p + d) (y + 1) - n)) l5 (nI y + -1) ut uq (nI (cK (kpX g (6 * p + d) n (y + 1)) (g 5))) uo us = f_X11_absolves_L173 N ul uw (nI p) (nI d) l5 ut' uq (nI (cK (kpT g (6 * p + d) n) (g 5))) uo us := by
        intro hq
        have e : kpX g (6 * p + d) n (y + 1) = kpX g (6 * p + d) n y := funext (fun i => by
          by_cases q : i = y
          · rw [q, hky]
            unfold kpX kpT
            rw [decide_eq_true (show tQ g y ≠ 6 * p + d ∨ qN g (6 * p + d) y < n from Or.inl hq), Bool.or_true]
          · exact hne i q)
        rw [if_neg hq] at hst
        rw [e] at hc ⊢
        rw [hst, i_d2]
        exact ih j ut (by omega) (by omega) (by omega) hc
      by_cases hP : tP g y = p
      · rw [if_pos (by rw [hP]), q_gi (by omega) (by omega), Option.bind_some, c2.2.1]
        by_cases hDD : tD g y = d
        · have hq := hx.mpr ⟨hP, hDD⟩
          rw [if_pos hq] at hst
          have hky2 : kpX g (6 * p + d) n y y = false := by
            unfold kpX kpT
            rw [decide_eq_false (show ¬ y < y by omega), Bool.false_or]
            exact decide_eq_false (fun q => by
              rcases q with q | q
              · exact q hq
              · omega)
          have hdel := cK_del hne hky hky2
          have hm : cK (kpX g (6 * p + d) n (y + 1)) (g 5) = cK (kpX g (6 * p + d) n y) (g 5) + 1 := by rw [hdel, if_pos (by omega)]
          have hcl := @cK_le (kpX g (6 * p + d) n (y + 1)) (g 5)
          have hy2 : cK (kpX g (6 * p + d) n y) y = y := by
            have := hdel y
            rw [if_neg (by omega)] at this
            omega
          have hym : y ≤ cK (kpX g (6 * p + d) n y) (g 5) := by
            have := @cK_mono (kpX g (6 * p + d) n y) y (g 5) (by omega)
            omega
          obtain ⟨ut1, u1, u2⟩ := h_shiftL (N := N) (ul := ul) (uw := uw) (r := f_X11_absolves_L80 N ul uw j) (ut := ut) (uq := uq) (l2 := nI p) (l3 := nI d) (l4 := nI (qN g (6 * p + d) y - n)) (l5 := l5) (l6 := nI y) (uo := uo) (us := us) (y := y) (m := cK (kpX g (6 * p + d) n y) (g 5)) (by omega) (fun i hi => by
            obtain ⟨t, t1, t2, t3⟩ := cK_surj (kp := kpX g (6 * p + d) n (y + 1)) (n := g 5) (k := i) (by omega)
            obtain ⟨c9, d1, -⟩ := hc t t1 t2
            rw [t3] at d1
            exact ⟨c9, d1⟩) (cK (kpX g (6 * p + d) n y) (g 5) - y) y N ut (by omega) (Nat.le_refl _) (by omega) (fun i => by rw [if_neg (by omega)])
          obtain ⟨ut', a1, a2⟩ := ih j ut1 (by omega) (by omega) (by omega) (fun t ht hk => by
            by_cases e : t = y
            · rw [e, hky2] at hk
              exact Bool.noConfusion hk
            · obtain ⟨c9, d1, d2⟩ := hc t ht (by rw [hne t e]; exact hk)
              refine ⟨c9, ?_, d2⟩
              rw [hdel] at d1
              by_cases f : y < t
              · rw [if_pos f] at d1
                have g1 : y ≤ cK (kpX g (6 * p + d) n y) t := by
                  have := @cK_mono (kpX g (6 * p + d) n y) y t (by omega)
                  omega
                have g2 := cK_lt hk ht
                rw [u1, if_pos ⟨g1, g2⟩]
                exact d1
              · rw [if_neg f] at d1
                have g1 := @cK_le (kpX g (6 * p + d) n y) t
                rw [u1, if_neg (by omega)]
                exact d1)
          refine ⟨ut', a1, ?_⟩
          rw [if_pos (by rw [hDD]), hm, show nI (cK (kpX g (6 * p + d) n y) (g 5) + 1) - 1 = nI (cK (kpX g (6 * p + d) n y) (g 5)) by rw [n_1, i_dn], show nI (qN g (6 * p + d) (y + 1) - n) + -1 = nI (qN g (6 * p + d) y - n) by rw [n_1, q_m1 (by omega)]; exact cI (by omega), u2, i_d2]
          exact a2
        · rw [if_neg (by rw [q_eq (by omega) (by omega)]; exact hDD)]
          unfold f_X11_absolves_L167
          exact hother (fun q => hDD (hx.mp q).2)
      · rw [if_neg (by rw [q_eq (by omega) (by omega)]; exact hP)]
        unfold f_X11_absolves_L167
        exact hother (fun q => hP (hx.mp q).1)
