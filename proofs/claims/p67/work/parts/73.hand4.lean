/-! the hand's audit, and what it takes off its queue -/
theorem aud_skip {w : Nat → Nat} {q : Nat} (h : susp w q = false) : gAud w (q + 1) = gAud w q := by
  show gAud1 w q (gAud w q) = _
  unfold gAud1
  rw [if_neg (fun c => by rw [h] at c; exact Bool.noConfusion c.1)]
theorem susp_out {w : Nat → Nat} {q : Nat} (hO : Ok w) (h3 : w 3 = 3) (h4 : w 4 = 3) (hq : q < 36) (h : 3 ≤ q / 6 ∨ 3 ≤ q % 6) : susp w q = false := by
  cases hh : susp w q with
  | false => rfl
  | true =>
    have := susp_in hO hh hq
    omega
theorem aud_far {w : Nat → Nat} (hO : Ok w) (h3 : w 3 = 3) (h4 : w 4 = 3) : ∀ n, 18 + n ≤ 36 → gAud w (18 + n) = gAud w 18 := by
  intro n
  induction n with
  | zero => intro _; rfl
  | succ n ih =>
    intro h
    rw [show 18 + (n + 1) = 18 + n + 1 by omega, aud_skip (susp_out hO h3 h4 (by omega) (by omega)), ih (by omega)]
theorem aud_row {w : Nat → Nat} {p : Nat} (hO : Ok w) (h3 : w 3 = 3) (h4 : w 4 = 3) (hp : p < 6) : gAud w (6 * p + 6) = gAud w (6 * p + 3) := by
  rw [show 6 * p + 6 = 6 * p + 3 + 1 + 1 + 1 by omega, aud_skip (susp_out hO h3 h4 (by omega) (by omega)), aud_skip (susp_out hO h3 h4 (by omega) (by omega)), aud_skip (susp_out hO h3 h4 (by omega) (by omega))]
def QS (g : Nat → Nat) (uq : Nat → Option (Nat → Int32)) : Prop := srt g ∧ ∃ σ, HQ g uq σ ∧ BJ (g 6) (g 6) aL σ
theorem h_audIn {N : Nat} {w : Nat → Nat} {ul : Nat → Nat} {uw : Nat → Nat → Int32} {ut : Nat → Option (Nat → Int32)} {r : Int32 → Int32 → (Nat → Option (Nat → Int32)) → Int32 → Option (Int32 × (Nat → Option (Nat → Int32)) × Int32)} {p : Nat} (hN : 1000 < N) (hw : Ok w) (h3 : w 3 = 3) (h4 : w 4 = 3) (hW : HW w ul uw) (hU : HT w ut) (hp : p < 3) : ∀ (k d j : Nat) (uq : Nat → Option (Nat → Int32)), d + k = 3 → k < j → QS (gAud w (6 * p + d)) uq → ∃ uq', QS (gAud w (6 * p + 6)) uq' ∧ f_X11_audits_L11 N ul ut (nI (w 5)) (nI (w 1)) (nI (w 2)) r j (nI (gAud w (6 * p + d) 6 - w 6)) (nI p) (nI d) uq (nI (gAud w (6 * p + d) 6)) = r (nI (gAud w (6 * p + 6) 6 - w 6)) (nI (p + 1)) uq' (nI (gAud w (6 * p + 6) 6)) := by
  intro k
  induction k with
  | zero =>
    intro d j uq h1 h2 hq
    obtain ⟨j, rfl⟩ : ∃ t, j = t + 1 := ⟨j - 1, by omega⟩
    obtain rfl : d = 3 := by omega
    rw [aud_row hw h3 h4 (by omega)]
    obtain ⟨gO, gs, -⟩ := gAud_s hw (6 * p + 3) (by omega)
    have h9 := six_le gO.2.2.2.2 (gs.2.1.1.trans h3) (gs.2.2.1.1.trans h4)
    refine ⟨uq, hq, ?_⟩
    show f_X11_audits_L11_F N ul ut _ _ _ r (f_X11_audits_L11 N ul ut _ _ _ r j) _ _ _ _ _ = _
    unfold f_X11_audits_L11_F
    rw [q_gi (by omega) (by omega), if_pos (by rw [n_3, q_le (by omega) (by omega)]; omega), n_1, nI_add]
  | succ k ih =>
    intro d j uq h1 h2 hq
    obtain ⟨j, rfl⟩ : ∃ t, j = t + 1 := ⟨j - 1, by omega⟩
    obtain ⟨gO, gs, g6⟩ := gAud_s hw (6 * p + d) (by omega)
    obtain ⟨gO1, gs1, g61⟩ := gAud_s hw (6 * p + d + 1) (by omega)
    have h9 := six_le gO.2.2.2.2 (gs.2.1.1.trans h3) (gs.2.2.1.1.trans h4)
    have h91 := six_le gO1.2.2.2.2 (gs1.2.1.1.trans h3) (gs1.2.2.1.1.trans h4)
    have hst : gAud w (6 * p + d + 1) = gAud1 w (6 * p + d) (gAud w (6 * p + d)) := rfl
    have hbad := h_bad (N := N) (ul := ul) (uw := uw) (p := p) (d := d) hN hw.1 hw.2.1 hw.2.2.2.1 h3 hW hU (by omega) (by omega)
    have hsc := h_score (N := N) (p := p) (d := d) hN hw.1 hw.2.1 hw.2.2.2.1 h3 hW hU (by omega) (by omega)
    have hih := fun uq => ih (d + 1) j uq (by omega) (by omega)
    rw [show 6 * p + (d + 1) = 6 * p + d + 1 by omega] at hih
    show ∃ uq', _ ∧ f_X11_audits_L11_F N ul ut _ _ _ r (f_X11_audits_L11 N ul ut _ _ _ r j) _ _ _ _ _ = _
    unfold f_X11_audits_L11_F f_X11_audits_L79
    rw [q_gi (by omega) (by omega), if_neg (by rw [n_3, q_le (by omega) (by omega)]; omega), hbad, Option.bind_some]
    cases hs : susp w (6 * p + d) with
    | false =>
      rw [aud_skip hs] at hih
      obtain ⟨uq', e1, e2⟩ := hih uq hq
      refine ⟨uq', e1, ?_⟩
      rw [if_pos (by unfold bI; rw [if_neg (by decide), n_0]), n_1, nI_add, q_gi (by omega) (by omega)]
      exact e2
    | true =>
      obtain ⟨hsrt, σ, hHQ, hBJ⟩ := hq
      have hqd := h_queued (N := N) hN gO.2.2.2.2 (gs.2.1.1.trans h3) (gs.2.2.1.1.trans h4) hHQ hBJ hp (show d < 3 by omega)
      rw [if_neg (by unfold bI; rw [if_pos rfl, n_0, q_eq (by omega) (by omega)]; omega), hqd, Option.bind_some]
      cases hh : gHas (gAud w (6 * p + d)) (6 * p + d) with
      | true =>
        have e9 : gAud w (6 * p + d + 1) = gAud w (6 * p + d) := by
          rw [hst]
          unfold gAud1
          rw [if_neg (fun c => by rw [hh] at c; exact Bool.noConfusion c.2)]
        rw [e9] at hih
        obtain ⟨uq', e1, e2⟩ := hih uq ⟨hsrt, σ, hHQ, hBJ⟩
        refine ⟨uq', e1, ?_⟩
        rw [if_neg (by unfold bI; rw [if_pos rfl, n_0, q_eq (by omega) (by omega)]; omega), n_1, nI_add, q_gi (by omega) (by omega)]
        exact e2
      | false =>
        have e9 : gAud w (6 * p + d + 1) = gLay (gAud w (6 * p + d)) (6 * p + d) (cS w (6 * p + d)) (gPos (gAud w (6 * p + d)) (6 * p + d) (cS w (6 * p + d)) (gAud w (6 * p + d) 6)) := by
          rw [hst]
          unfold gAud1
          rw [if_pos ⟨hs, hh⟩]
        have hpos := @gPos_le (gAud w (6 * p + d)) (6 * p + d) (cS w (6 * p + d)) (gAud w (6 * p + d) 6)
        have hno : ∀ r, r < gAud w (6 * p + d) 6 → oQ (gAud w (6 * p + d)) r ≠ 6 * p + d := fun r hr => of_decide_eq_false (anyF_f hh r (by omega) (by omega))
        have hn6 : gAud w (6 * p + d + 1) 6 = gAud w (6 * p + d) 6 + 1 := by rw [e9]; exact gLay_6
        have a1 := lay_srt (s := cS w (6 * p + d)) hsrt hno
        have a2 := lay_BJ hBJ hpos
        have a3 := lay_HQ (q := 6 * p + d) (s := cS w (6 * p + d)) (c := upd (upd (upd (fun _ => 0) 0 (nI p)) 1 (nI d)) 2 (nI (cS w (6 * p + d)))) hHQ hpos hBJ ⟨by rw [q_un (by omega), q_un (by omega), q_us rfl, show (6 * p + d) / 6 = p by omega], by rw [q_un (by omega), q_us rfl, show (6 * p + d) % 6 = d by omega], q_us rfl⟩
        rw [← e9] at a1 a3
        rw [← hn6] at a2
        obtain ⟨uq', e1, e2⟩ := hih _ ⟨a1, _, a3, a2⟩
        refine ⟨uq', e1, ?_⟩
        rw [if_pos (by unfold bI; rw [if_neg (by decide), n_0]), hsc, Option.bind_some, q_gi (by omega) (by omega), q_cl (by omega), T_0, T_1, T_2]
        rw [hn6] at e2
        rw [n_1, nI_add, nI_add, nI_add, q_gi (by omega) (by omega), show gAud w (6 * p + d) 6 - w 6 + 1 = gAud w (6 * p + d) 6 + 1 - w 6 by omega]
        exact e2
theorem h_audOut {N : Nat} {w : Nat → Nat} {ul : Nat → Nat} {uw : Nat → Nat → Int32} {ut : Nat → Option (Nat → Int32)} (hN : 1000 < N) (hw : Ok w) (h3 : w 3 = 3) (h4 : w 4 = 3) (hW : HW w ul uw) (hU : HT w ut) : ∀ (k p j : Nat) (uq : Nat → Option (Nat → Int32)), p + k = 3 → k < j → QS (gAud w (6 * p)) uq → ∃ uq', QS (gAud w 36) uq' ∧ f_X11_audits_L4 N ul ut (nI (w 5)) (nI (w 1)) (nI (w 2)) j (nI (gAud w (6 * p) 6 - w 6)) (nI p) uq (nI (gAud w (6 * p) 6)) = some (nI (gAud w 36 6 - w 6), uq', nI (gAud w 36 6)) := by
  intro k
  induction k with
  | zero =>
    intro p j uq h1 h2 hq
    obtain ⟨j, rfl⟩ : ∃ t, j = t + 1 := ⟨j - 1, by omega⟩
    obtain rfl : p = 3 := by omega
    have e := aud_far hw h3 h4 18 (by omega)
    obtain ⟨gO, gs, -⟩ := gAud_s hw 18 (by omega)
    have h9 := six_le gO.2.2.2.2 (gs.2.1.1.trans h3) (gs.2.2.1.1.trans h4)
    rw [show gAud w 36 = gAud w (18 + 18) from rfl, e]
    refine ⟨uq, hq, ?_⟩
    show f_X11_audits_L4_F N ul ut _ _ _ (f_X11_audits_L4 N ul ut _ _ _ j) _ _ _ _ = _
    unfold f_X11_audits_L4_F
    rw [show 6 * 3 = 18 from rfl, q_gi (by omega) (by omega), if_pos (by rw [n_3, q_le (by omega) (by omega)]; omega)]
  | succ k ih =>
    intro p j uq h1 h2 hq
    obtain ⟨j, rfl⟩ : ∃ t, j = t + 1 := ⟨j - 1, by omega⟩
    obtain ⟨gO, gs, -⟩ := gAud_s hw (6 * p) (by omega)
    have h9 := six_le gO.2.2.2.2 (gs.2.1.1.trans h3) (gs.2.2.1.1.trans h4)
    obtain ⟨uq1, a1, a2⟩ := h_audIn (N := N) (r := f_X11_audits_L4 N ul ut (nI (w 5)) (nI (w 1)) (nI (w 2)) j) hN hw h3 h4 hW hU (show p < 3 by omega) 3 0 N uq (by omega) (by omega) hq
    obtain ⟨uq', b1, b2⟩ := ih (p + 1) j uq1 (by omega) (by omega) a1
    refine ⟨uq', b1, ?_⟩
    show f_X11_audits_L4_F N ul ut _ _ _ (f_X11_audits_L4 N ul ut _ _ _ j) _ _ _ _ = _
    unfold f_X11_audits_L4_F
    rw [q_gi (by omega) (by omega), if_neg (by rw [n_3, q_le (by omega) (by omega)]; omega), n_0]
    exact a2.trans b2
theorem h_audits {N : Nat} {w : Nat → Nat} {ul : Nat → Nat} {uw : Nat → Nat → Int32} {ut uq : Nat → Option (Nat → Int32)} (hN : 1000 < N) (hw : Ok w) (h3 : w 3 = 3) (h4 : w 4 = 3) (hW : HW w ul uw) (hU : HT w ut) (hq : QS w uq) : ∃ uq', QS (gAud w 36) uq' ∧ f_X11_audits N ul ut (nI (w 5)) (nI (w 1)) (nI (w 2)) uq (nI (w 6)) = some (nI (gAud w 36 6 - w 6), uq', nI (gAud w 36 6)) := by
  obtain ⟨uq', a, b⟩ := h_audOut (N := N) hN hw h3 h4 hW hU 3 0 N uq (by omega) (by omega) hq
  refine ⟨uq', a, ?_⟩
  unfold f_X11_audits
  rw [n_0]
  have e : gAud w (6 * 0) 6 - w 6 = 0 := Nat.sub_self _
  rw [e] at b
  exact b
def PQ (g : Nat → Nat) (m : Nat) (live : Nat → Prop) (uq : Nat → Option (Nat → Int32)) (σ : Nat → Nat) : Prop := (∀ k, k < m → ∃ c, uq k = some c ∧ rO g (σ k) c) ∧ BJ m (g 6) live σ
def sgU (σ : Nat → Nat) (k m : Nat) : Nat → Nat := fun i => if i = k then σ m else σ i
theorem sgU_t {σ : Nat → Nat} {k m i : Nat} (h : i = k) : sgU σ k m i = σ m := if_pos h
theorem sgU_f {σ : Nat → Nat} {k m i : Nat} (h : i ≠ k) : sgU σ k m i = σ i := if_neg h
theorem h_unq {g : Nat → Nat} {m k : Nat} {live : Nat → Prop} {uq : Nat → Option (Nat → Int32)} {σ : Nat → Nat} (hm : m + 1 ≤ 9) (h : PQ g (m + 1) live uq σ) (hk : k ≤ m) : ∃ uq', f_X11_unqueue uq (nI (m + 1)) (nI k) = some (uq', nI m) ∧ PQ g m (fun r => live r ∧ r ≠ σ k) uq' (sgU σ k m) := by
  obtain ⟨h1, h2, h3, h4⟩ := h
  obtain ⟨c, c1, c2⟩ := h1 m (by omega)
  refine ⟨upo uq k c, ?_, fun i hi => ?_, fun i hi => ?_, fun i i' hi hi' e => ?_, fun r hr hl => ?_⟩
  · unfold f_X11_unqueue
    have e1 : nI (m + 1) - 1 = nI m := by rw [n_1, q_sub (by omega), Nat.add_sub_cancel]
    rw [e1, q_gi (by omega) (by omega), q_cl (by omega), c1, Option.bind_some, q_gi (by omega) (by omega), q_cl (by omega)]
  · by_cases e : i = k
    · exact ⟨c, upo_s e, by rw [sgU_t e]; exact c2⟩
    · obtain ⟨c', d1, d2⟩ := h1 i (by omega)
      exact ⟨c', (upo_n e).trans d1, by rw [sgU_f e]; exact d2⟩
  · by_cases e : i = k
    · have hx := h2 m (by omega)
      rw [sgU_t e]
      refine ⟨hx.1, hx.2, fun q => ?_⟩
      have := h3 m k (by omega) (by omega) q
      omega
    · have hx := h2 i (by omega)
      rw [sgU_f e]
      exact ⟨hx.1, hx.2, fun q => e (h3 i k (by omega) (by omega) q)⟩
  · by_cases a : i = k
    · by_cases b : i' = k
      · omega
      · rw [sgU_t a, sgU_f b] at e
        have := h3 m i' (by omega) (by omega) e
        omega
    · by_cases b : i' = k
      · rw [sgU_f a, sgU_t b] at e
        have := h3 i m (by omega) (by omega) e
        omega
      · rw [sgU_f a, sgU_f b] at e
        exact h3 i i' (by omega) (by omega) e
  · obtain ⟨i, i1, i2⟩ := h4 r hr hl.1
    have hik : i ≠ k := fun q => hl.2 (by rw [← i2, q])
    by_cases e : i = m
    · exact ⟨k, by omega, by rw [sgU_t rfl, ← e]; exact i2⟩
    · exact ⟨i, by omega, by rw [sgU_f hik]; exact i2⟩
theorem i_dn {t : Nat} : nI (t + 1) - nI 1 = nI t := by rw [q_sub (by omega), Nat.add_sub_cancel]
theorem i_d2 {t : Nat} : nI t + -1 = nI t - nI 1 := by rw [n_1, Int32.sub_eq_add_neg]
theorem h_forgL {N : Nat} {g : Nat → Nat} {ul : Nat → Nat} {uw : Nat → Nat → Int32} {ut : Nat → Option (Nat → Int32)} {y um ui uh : Int32} {us : Int64} {p : Nat} (hO : okO g) (h3 : g 3 = 3) (h4 : g 4 = 3) (hp : p < 3) (hy : y - y / 3 * 3 = nI p) : ∀ (x j m : Nat) (live : Nat → Prop) (uq : Nat → Option (Nat → Int32)) (σ : Nat → Nat), x ≤ m → m ≤ g 6 → x < j → PQ g m live uq σ → (∀ i, x ≤ i → i < m → oP g (σ i) ≠ p) → (∀ r, r < g 6 → ¬ live r → oP g r = p) → ∃ uq' σ' m', m' ≤ g 6 ∧ f_X11_acts_L154 N ul j y (nI (g 6 - m)) (nI x - nI 1) uw ut uq um (nI m) us ui uh = some (nI (g 6 - m'), uw, ut, uq', um, nI m', us, ui, uh) ∧ PQ g m' (fun r => oP g r ≠ p) uq' σ' := by
  have h9 := six_le hO h3 h4
  intro x
  induction x with
  | zero =>
    intro j m live uq σ h1 h2 h5 hq hk hl
    obtain ⟨j, rfl⟩ : ∃ t, j = t + 1 := ⟨j - 1, by omega⟩
    refine ⟨uq, σ, m, h2, ?_, hq.1, fun k hk9 => ⟨(hq.2.1 k hk9).1, hk k (by omega) hk9⟩, hq.2.2.1, fun r hr ho => ?_⟩
    · show f_X11_acts_L154_F N ul (f_X11_acts_L154 N ul j) _ _ _ _ _ _ _ _ _ _ _ = _
      unfold f_X11_acts_L154_F
      rw [if_pos (by decide +kernel)]
    · by_cases c : live r
      · exact hq.2.2.2 r hr c
      · exact absurd (hl r hr c) ho
  | succ x ih =>
    intro j m live uq σ h1 h2 h5 hq hk hl
    obtain ⟨j, rfl⟩ : ∃ t, j = t + 1 := ⟨j - 1, by omega⟩
    obtain ⟨c, c1, c2⟩ := hq.1 x (by omega)
    have hs := hq.2.1 x (by omega)
    have ho := o_sm hO h3 h4 hs.1
    show ∃ uq' σ' m', _ ∧ f_X11_acts_L154_F N ul (f_X11_acts_L154 N ul j) _ _ _ _ _ _ _ _ _ _ _ = _ ∧ _
    unfold f_X11_acts_L154_F f_X11_acts_L186
    rw [i_dn, if_neg (by rw [n_0, q_lt (by omega) (by omega)]; omega), q_gi (by omega) (by omega), q_cl (by omega), c1, Option.bind_some, T_0, hy, c2.1, i_d2]
    by_cases e : oP g (σ x) = p
    · obtain ⟨m, rfl⟩ : ∃ t, m = t + 1 := ⟨m - 1, by omega⟩
      obtain ⟨uq1, u1, u2⟩ := h_unq (by omega) hq (show x ≤ m by omega)
      rw [if_pos (by rw [e]), u1, Option.bind_some]
      obtain ⟨uq', σ', m', a1, a2, a3⟩ := ih j m _ uq1 _ (by omega) (by omega) (by omega) u2 (fun i hi hi2 => by
        by_cases q : i = x
        · rw [sgU_t q]; exact hk m (by omega) (by omega)
        · rw [sgU_f q]; exact hk i (by omega) (by omega)) (fun r hr hn => by
        by_cases q : live r
        · have q2 : r = σ x := Classical.byContradiction (fun z => hn ⟨q, z⟩)
          rw [q2]; exact e
        · exact hl r hr q)
      refine ⟨uq', σ', m', a1, ?_, a3⟩
      rw [n_1, nI_add, show g 6 - (m + 1) + 1 = g 6 - m by omega]
      exact a2
    · rw [if_neg (by rw [q_eq (by omega) (by omega)]; exact e)]
      exact ih j m live uq σ (by omega) h2 (by omega) hq (fun i hi hi2 => by
        by_cases q : i = x
        · rw [q]; exact e
        · exact hk i (by omega) hi2) hl
