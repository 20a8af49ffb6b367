/-! the hand's queue -/
def BJ (m n : Nat) (live : Nat → Prop) (σ : Nat → Nat) : Prop := (∀ k, k < m → σ k < n ∧ live (σ k)) ∧ (∀ k k', k < m → k' < m → σ k = σ k' → k = k') ∧ ∀ r, r < n → live r → ∃ k, k < m ∧ σ k = r
def aL : Nat → Prop := fun _ => True
def HQ (g : Nat → Nat) (uq : Nat → Option (Nat → Int32)) (σ : Nat → Nat) : Prop := ∀ k, k < g 6 → ∃ c, uq k = some c ∧ rO g (σ k) c
def Wr (g : Nat → Nat) (a b : Nat) : Prop := oS g b < oS g a ∨ oS g a = oS g b ∧ oQ g a < oQ g b
def srt (g : Nat → Nat) : Prop := ∀ r r', r < r' → r' < g 6 → Wr g r r'
theorem six_le {g : Nat → Nat} (hO : okO g) (h3 : g 3 = 3) (h4 : g 4 = 3) : g 6 ≤ 9 := by
  refine pig (n := 9) (g 6) (fun r => 3 * oP g r + oD g r) (fun r hr => ?_) (fun r r' hr hr' e => ?_)
  · have := hO.1 r hr
    show 3 * oP g r + oD g r < 9
    omega
  · have h1 := hO.1 r hr
    have h2 := hO.1 r' hr'
    have e : 3 * oP g r + oD g r = 3 * oP g r' + oD g r' := e
    refine hO.2 r r' hr hr' ?_
    unfold oQ
    omega
theorem o_sm {g : Nat → Nat} (hO : okO g) (h3 : g 3 = 3) (h4 : g 4 = 3) {r : Nat} (hr : r < g 6) : oP g r < 3 ∧ oD g r < 3 ∧ oS g r < 214000000 ∧ oQ g r = 6 * oP g r + oD g r := by
  have h := hO.1 r hr
  exact ⟨by omega, by omega, h.2.2, rfl⟩
theorem h_queuedL {N : Nat} {g : Nat → Nat} {uq : Nat → Option (Nat → Int32)} {σ : Nat → Nat} {p d : Nat} (hO : okO g) (h3 : g 3 = 3) (h4 : g 4 = 3) (hQ : HQ g uq σ) (hb : BJ (g 6) (g 6) aL σ) (hp : p < 3) (hd : d < 3) : ∀ j i : Nat, i ≤ g 6 → g 6 < i + j → (∀ k, k < i → oQ g (σ k) ≠ 6 * p + d) → f_X11_isQueued_L2 N uq (nI (g 6)) j (nI p) (nI d) (nI i) = some (bI (gHas g (6 * p + d))) := by
  have h9 := six_le hO h3 h4
  intro j
  induction j with
  | zero => intro i h1 h2; omega
  | succ j ih =>
    intro i h1 h2 hn
    show f_X11_isQueued_L2_F N uq (nI (g 6)) (f_X11_isQueued_L2 N uq (nI (g 6)) j) _ _ _ = _
    unfold f_X11_isQueued_L2_F f_X11_isQueued_L36
    simp only [T_0, T_1]
    by_cases hi : g 6 ≤ i
    · rw [if_pos (by rw [q_le (by omega) (by omega)]; exact hi)]
      cases hh : gHas g (6 * p + d) with
      | false => rw [n_0]; rfl
      | true =>
        obtain ⟨r, -, r2, r3⟩ := anyF_t hh
        obtain ⟨k, k1, k2⟩ := hb.2.2 r (by omega) trivial
        exact absurd (of_decide_eq_true r3) (by rw [← k2]; exact hn k (by omega))
    · obtain ⟨c, e, c0, c1, -⟩ := hQ i (by omega)
      have hsr := (hb.1 i (by omega)).1
      have hs := o_sm hO h3 h4 hsr
      rw [if_neg (by rw [q_le (by omega) (by omega)]; exact hi), q_gi (by omega) (by omega), q_cl (by omega), e, Option.bind_some, c0]
      by_cases hP : oP g (σ i) = p
      · rw [if_pos (by rw [hP]), q_gi (by omega) (by omega), Option.bind_some, c1]
        by_cases hD : oD g (σ i) = d
        · rw [if_pos (by rw [hD])]
          cases hh : gHas g (6 * p + d) with
          | true => rw [n_1]; rfl
          | false =>
            have h := anyF_f hh (σ i) (by omega) (by omega)
            exact absurd (show oQ g (σ i) = 6 * p + d by omega) (of_decide_eq_false h)
        · rw [if_neg (by rw [q_eq (by omega) (by omega)]; exact hD), n_1, nI_add]
          refine ih (i + 1) (by omega) (by omega) (fun k hk => ?_)
          by_cases e9 : k = i
          · rw [e9]; omega
          · exact hn k (by omega)
      · rw [if_neg (by rw [q_eq (by omega) (by omega)]; exact hP), n_1, nI_add]
        refine ih (i + 1) (by omega) (by omega) (fun k hk => ?_)
        by_cases e9 : k = i
        · rw [e9]; omega
        · exact hn k (by omega)
theorem h_queued {N : Nat} {g : Nat → Nat} {uq : Nat → Option (Nat → Int32)} {σ : Nat → Nat} {p d : Nat} (hN : 1000 < N) (hO : okO g) (h3 : g 3 = 3) (h4 : g 4 = 3) (hQ : HQ g uq σ) (hb : BJ (g 6) (g 6) aL σ) (hp : p < 3) (hd : d < 3) : f_X11_isQueued N uq (nI (g 6)) (nI p) (nI d) = some (bI (gHas g (6 * p + d))) := by
  have h9 := six_le hO h3 h4
  unfold f_X11_isQueued
  rw [n_0]
  exact h_queuedL (N := N) hO h3 h4 hQ hb hp hd N 0 (by omega) (by omega) (fun k hk => by omega)
theorem h_worse {g : Nat → Nat} {c0 c1 : Nat → Int32} {a b : Nat} (hO : okO g) (h3 : g 3 = 3) (h4 : g 4 = 3) (ha : a < g 6) (hb : b < g 6) (h0 : rO g a c0) (h1 : rO g b c1) : ∃ t : Bool, f_X11_isWorse c0 c1 = some (bI t) ∧ (t = true ↔ Wr g a b) := by
  have sa := o_sm hO h3 h4 ha
  have sb := o_sm hO h3 h4 hb
  unfold f_X11_isWorse
  simp only [T_0, T_1, T_2]
  rw [h0.1, h0.2.1, h0.2.2, h1.1, h1.2.1, h1.2.2]
  unfold Wr
  by_cases e1 : oS g a = oS g b
  · rw [if_pos (by rw [e1])]
    by_cases e2 : oP g a = oP g b
    · rw [if_pos (by rw [e2])]
      by_cases e3 : oD g b ≤ oD g a
      · rw [if_pos (by rw [q_le (by omega) (by omega)]; exact e3), n_0]
        exact ⟨false, rfl, ⟨fun h => Bool.noConfusion h, fun h => by omega⟩⟩
      · rw [if_neg (by rw [q_le (by omega) (by omega)]; exact e3), n_1]
        exact ⟨true, rfl, ⟨fun h => by omega, fun h => rfl⟩⟩
    · rw [if_neg (by rw [q_eq (by omega) (by omega)]; exact e2)]
      by_cases e3 : oP g b ≤ oP g a
      · rw [if_pos (by rw [q_le (by omega) (by omega)]; exact e3), n_0]
        exact ⟨false, rfl, ⟨fun h => Bool.noConfusion h, fun h => by omega⟩⟩
      · rw [if_neg (by rw [q_le (by omega) (by omega)]; exact e3), n_1]
        exact ⟨true, rfl, ⟨fun h => by omega, fun h => rfl⟩⟩
  · rw [if_neg (by rw [q_eq (by omega) (by omega)]; exact e1)]
    by_cases e3 : oS g a ≤ oS g b
    · rw [if_pos (by rw [q_le (by omega) (by omega)]; exact e3), n_0]
      exact ⟨false, rfl, ⟨fun h => Bool.noConfusion h, fun h => by omega⟩⟩
    · rw [if_neg (by rw [q_le (by omega) (by omega)]; exact e3), n_1]
      exact ⟨true, rfl, ⟨fun h => by omega, fun h => rfl⟩⟩
theorem srt_iff {g : Nat → Nat} (h : srt g) {a b : Nat} (ha : a < g 6) (hb : b < g 6) : Wr g a b ↔ a < b := by
  constructor
  · intro hw
    rcases Nat.lt_trichotomy a b with c | c | c
    · exact c
    · rw [c] at hw
      unfold Wr at hw
      omega
    · have := h b a c ha
      unfold Wr at this hw
      omega
  · exact fun c => h a b c hb
theorem bj_cnt {n : Nat} {σ : Nat → Nat} (h : BJ n n aL σ) : ∀ t, t ≤ n → sumTo n (fun x => if σ x < t then 1 else 0) = t := by
  intro t
  induction t with
  | zero => intro _; exact sumTo_z (fun k _ => if_neg (by omega))
  | succ t ih =>
    intro ht
    obtain ⟨a, ha, e⟩ := h.2.2 t (by omega) trivial
    have h1 : sumTo n (fun x => if σ x < t + 1 then 1 else 0) = sumTo n (fun x => (if σ x < t then 1 else 0) + (if x = a then 1 else 0)) := by
      refine sumTo_congr (fun k hk => ?_)
      by_cases c : k = a
      · rw [if_pos c, c, e, if_pos (by omega), if_neg (by omega)]
      · have : σ k ≠ t := fun q => c (h.2.1 k a hk ha (q.trans e.symm))
        rw [if_neg c]
        by_cases c2 : σ k < t
        · rw [if_pos c2, if_pos (by omega)]
        · rw [if_neg c2, if_neg (by omega)]
    rw [h1, sumTo_add, ih (by omega), sumTo_one ha]
theorem h_rankL {N : Nat} {g : Nat → Nat} {uq : Nat → Option (Nat → Int32)} {σ : Nat → Nat} {k : Nat} (hO : okO g) (h3 : g 3 = 3) (h4 : g 4 = 3) (hQ : HQ g uq σ) (hb : BJ (g 6) (g 6) aL σ) (hs : srt g) (hk : k < g 6) : ∀ j i : Nat, i ≤ g 6 → g 6 < i + j → f_X11_rank_L4 N uq (nI (g 6)) j (nI k) (nI (sumTo i (fun x => if σ x < σ k then 1 else 0))) (nI i) = some (nI (σ k)) := by
  have h9 := six_le hO h3 h4
  intro j
  induction j with
  | zero => intro i h1 h2; omega
  | succ j ih =>
    intro i h1 h2
    show f_X11_rank_L4_F N uq (nI (g 6)) (f_X11_rank_L4 N uq (nI (g 6)) j) _ _ _ = _
    unfold f_X11_rank_L4_F f_X11_rank_L34
    by_cases hi : g 6 ≤ i
    · rw [if_pos (by rw [q_le (by omega) (by omega)]; exact hi), show i = g 6 by omega, bj_cnt hb _ (by have := (hb.1 k hk).1; omega)]
    · obtain ⟨c, e, hc⟩ := hQ i (by omega)
      obtain ⟨c', e', hc'⟩ := hQ k hk
      obtain ⟨t, t1, t2⟩ := h_worse hO h3 h4 (hb.1 i (by omega)).1 (hb.1 k hk).1 hc hc'
      rw [srt_iff hs (hb.1 i (by omega)).1 (hb.1 k hk).1] at t2
      rw [if_neg (by rw [q_le (by omega) (by omega)]; exact hi), q_gi (by omega) (by omega), q_cl (by omega), e, Option.bind_some, q_gi (by omega) (by omega), q_cl (by omega), e', Option.bind_some, t1, Option.bind_some]
      have hii := ih (i + 1) (by omega) (by omega)
      have hst : sumTo (i + 1) (fun x => if σ x < σ k then 1 else 0) = sumTo i (fun x => if σ x < σ k then 1 else 0) + if σ i < σ k then 1 else 0 := rfl
      by_cases c : σ i < σ k
      · rw [if_pos c] at hst
        rw [hst] at hii
        rw [t2.mpr c]
        rw [if_neg (by unfold bI; rw [if_pos rfl, n_0, q_eq (by omega) (by omega)]; omega), n_1, nI_add, nI_add]
        exact hii
      · rw [if_neg c] at hst
        rw [hst] at hii
        have tf : t = false := by
          cases t
          · rfl
          · exact absurd (t2.mp rfl) c
        rw [tf]
        rw [if_pos (by unfold bI; rw [if_neg (by decide), n_0]), n_1, nI_add]
        exact hii
theorem h_rank {N : Nat} {g : Nat → Nat} {uq : Nat → Option (Nat → Int32)} {σ : Nat → Nat} {k : Nat} (hN : 1000 < N) (hO : okO g) (h3 : g 3 = 3) (h4 : g 4 = 3) (hQ : HQ g uq σ) (hb : BJ (g 6) (g 6) aL σ) (hs : srt g) (hk : k < g 6) : f_X11_rank N uq (nI (g 6)) (nI k) = some (nI (σ k)) := by
  have h9 := six_le hO h3 h4
  unfold f_X11_rank
  rw [n_0]
  exact h_rankL (N := N) hO h3 h4 hQ hb hs hk N 0 (by omega) (by omega)
/-! an offence laid in -/
theorem gPos_a {g : Nat → Nat} {q s : Nat} : ∀ l, (∀ r, gPos g q s l ≤ r → r < l → gBf g q s r = true) ∧ (gPos g q s l = 0 ∨ gBf g q s (gPos g q s l - 1) = false) := by
  intro l
  induction l with
  | zero => exact ⟨fun r _ h => by omega, Or.inl rfl⟩
  | succ l ih =>
    cases hb : gBf g q s l with
    | true =>
      have e : gPos g q s (l + 1) = gPos g q s l := if_pos hb
      rw [e]
      refine ⟨fun r h1 h2 => ?_, ih.2⟩
      by_cases c : r = l
      · rw [c]; exact hb
      · exact ih.1 r h1 (by omega)
    | false =>
      have e : gPos g q s (l + 1) = l + 1 := if_neg (by rw [hb]; decide)
      rw [e]
      exact ⟨fun r h1 h2 => by omega, Or.inr hb⟩
theorem lay_srt {g : Nat → Nat} {q s : Nat} (hs : srt g) (hn : ∀ r, r < g 6 → oQ g r ≠ q) : srt (gLay g q s (gPos g q s (g 6))) := by
  have hp := @gPos_le g q s (g 6)
  obtain ⟨p1, p2⟩ := @gPos_a g q s (g 6)
  generalize gPos g q s (g 6) = pos at hp p1 p2
  have hlo : ∀ r, r < pos → s < oS g r ∨ oS g r = s ∧ oQ g r < q := by
    intro r hr
    rcases p2 with c | c
    · omega
    · have c := of_decide_eq_false c
      have hq := hn (pos - 1) (by omega)
      by_cases e : r = pos - 1
      · rw [e]; omega
      · have := hs r (pos - 1) (by omega) (by omega)
        unfold Wr at this
        omega
  have hhi : ∀ r, pos ≤ r → r < g 6 → oS g r < s ∨ oS g r = s ∧ q < oQ g r := fun r h1 h2 => of_decide_eq_true (p1 r h1 h2)
  intro r r' h1 h2
  rw [gLay_6] at h2
  have a := gLay_o (q := q) (s := s) hp r (by omega)
  have b := gLay_o (q := q) (s := s) hp r' (by omega)
  unfold Wr
  rw [a.2.2.1, a.2.2.2, b.2.2.1, b.2.2.2]
  rcases Nat.lt_trichotomy r' pos with c | c | c
  · rw [insF_lt (r := r) (by omega), insF_lt (r := r) (by omega), insF_lt c, insF_lt c]
    exact hs r r' h1 (by omega)
  · rw [insF_lt (r := r) (by omega), insF_lt (r := r) (by omega), insF_eq c, insF_eq c]
    have := hlo r (by omega)
    omega
  · rw [insF_gt c, insF_gt c]
    rcases Nat.lt_trichotomy r pos with c2 | c2 | c2
    · rw [insF_lt c2, insF_lt c2]
      exact hs r (r' - 1) (by omega) (by omega)
    · rw [insF_eq c2, insF_eq c2]
      have := hhi (r' - 1) (by omega) (by omega)
      omega
    · rw [insF_gt c2, insF_gt c2]
      exact hs (r - 1) (r' - 1) (by omega) (by omega)
def sgI (σ : Nat → Nat) (n pos : Nat) : Nat → Nat := fun x => if x = n then pos else if σ x < pos then σ x else σ x + 1
theorem lay_BJ {n pos : Nat} {σ : Nat → Nat} (h : BJ n n aL σ) (hp : pos ≤ n) : BJ (n + 1) (n + 1) aL (sgI σ n pos) := by
  refine ⟨fun k hk => ⟨?_, trivial⟩, fun k k' hk hk' e => ?_, fun r hr _ => ?_⟩
  · unfold sgI
    by_cases c : k = n
    · rw [if_pos c]; omega
    · have := (h.1 k (by omega)).1
      rw [if_neg c]
      split <;> omega
  · unfold sgI at e
    by_cases c : k = n
    · by_cases c' : k' = n
      · omega
      · rw [if_pos c, if_neg c'] at e
        split at e <;> omega
    · by_cases c' : k' = n
      · rw [if_neg c, if_pos c'] at e
        split at e <;> omega
      · rw [if_neg c, if_neg c'] at e
        refine h.2.1 k k' (by omega) (by omega) ?_
        split at e <;> split at e <;> omega
  · unfold sgI
    rcases Nat.lt_trichotomy r pos with c | c | c
    · obtain ⟨k, k1, k2⟩ := h.2.2 r (by omega) trivial
      exact ⟨k, by omega, by rw [if_neg (by omega), if_pos (by omega)]; exact k2⟩
    · exact ⟨n, by omega, by rw [if_pos rfl]; omega⟩
    · obtain ⟨k, k1, k2⟩ := h.2.2 (r - 1) (by omega) trivial
      exact ⟨k, by omega, by rw [if_neg (by omega), if_neg (by omega)]; omega⟩
theorem lay_HQ {g : Nat → Nat} {uq : Nat → Option (Nat → Int32)} {σ : Nat → Nat} {c : Nat → Int32} {q s pos : Nat} (h : HQ g uq σ) (hp : pos ≤ g 6) (hb : BJ (g 6) (g 6) aL σ) (hc : c 0 = nI (q / 6) ∧ c 1 = nI (q % 6) ∧ c 2 = nI s) : HQ (gLay g q s pos) (upo uq (g 6) c) (sgI σ (g 6) pos) := by
  intro k hk
  rw [gLay_6] at hk
  by_cases e : k = g 6
  · refine ⟨c, upo_s e, ?_⟩
    have e1 : sgI σ (g 6) pos k = pos := if_pos e
    have a := gLay_o (q := q) (s := s) hp pos hp
    rw [e1]
    unfold rO
    rw [a.1, a.2.1, a.2.2.1, insF_eq rfl, insF_eq rfl, insF_eq rfl]
    exact hc
  · obtain ⟨c9, h1, h2⟩ := h k (by omega)
    have hs := (hb.1 k (by omega)).1
    refine ⟨c9, (upo_n e).trans h1, ?_⟩
    have e1 : sgI σ (g 6) pos k = if σ k < pos then σ k else σ k + 1 := if_neg e
    rw [e1]
    unfold rO at h2 ⊢
    by_cases c0 : σ k < pos
    · have a := gLay_o (q := q) (s := s) hp (σ k) (by omega)
      rw [if_pos c0, a.1, a.2.1, a.2.2.1, insF_lt c0, insF_lt c0, insF_lt c0]
      exact h2
    · have a := gLay_o (q := q) (s := s) hp (σ k + 1) (by omega)
      rw [if_neg c0, a.1, a.2.1, a.2.2.1, insF_gt (by omega), insF_gt (by omega), insF_gt (by omega), Nat.add_sub_cancel]
      exact h2
