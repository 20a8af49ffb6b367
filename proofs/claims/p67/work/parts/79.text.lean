/-! the law's text, read by the class -/
def At (b : Nat → Nat) (s : Nat) (l : List Nat) : Prop := ∀ k c, l[k]? = some c → b (s + k) = c
theorem At_l {b : Nat → Nat} {s : Nat} {l1 l2 : List Nat} (h : At b s (l1 ++ l2)) : At b s l1 := fun k c hk => h k c (by
  rw [List.getElem?_append_left (List.getElem?_eq_some_iff.mp hk).1]
  exact hk)
theorem At_r {b : Nat → Nat} {s : Nat} {l1 l2 : List Nat} (h : At b s (l1 ++ l2)) : At b (s + l1.length) l2 := fun k c hk => by
  have := h (l1.length + k) c (by
    rw [List.getElem?_append_right (by omega), Nat.add_sub_cancel_left]
    exact hk)
  rw [← this, Nat.add_assoc]
theorem At_h {b : Nat → Nat} {s c : Nat} {l : List Nat} (h : At b s (c :: l)) : b s = c := h 0 c rfl
theorem At_t {b : Nat → Nat} {s c : Nat} {l : List Nat} (h : At b s (c :: l)) : At b (s + 1) l := fun k d hk => by
  have := h (k + 1) d hk
  rw [← this]
  congr 1
  omega
theorem skp_eq {p : Nat → Bool} {k i e : Nat} (h1 : i ≤ e) (h2 : e < i + k) (hp : ∀ t, i ≤ t → t < e → p t = true) (he : p e = false) : skp p k i = e := by
  have hb := @skp_bd p k i
  rcases Nat.lt_trichotomy (skp p k i) e with c | c | c
  · have h := skp_at (p := p) (k := k) (i := i) (by omega)
    rw [hp _ hb.1 c] at h
    cases h
  · exact c
  · have h := skp_in (p := p) (k := k) (i := i) e h1 c
    rw [he] at h
    cases h
theorem nV_l {b : Nat → Nat} : ∀ (ds : List Nat) (i k w m : Nat), At b i ds → (∀ c, c ∈ ds → 48 ≤ c ∧ c ≤ 57) → ds.length ≤ k → isD (b (i + ds.length)) = false → w < 10 ^ m → m + ds.length ≤ 8 → nV b k i w = ds.foldl (fun w c => 10 * w + c - 48) w := by
  intro ds
  induction ds with
  | nil =>
    intro i k w m _ _ _ h4 _ _
    rw [List.length_nil, Nat.add_zero] at h4
    cases k with
    | zero => rfl
    | succ k => exact if_neg (by rw [h4]; decide)
  | cons c ds ih =>
    intro i k w m h1 h2 h3 h4 h5 h6
    rw [List.length_cons] at h3 h4 h6
    obtain ⟨k, rfl⟩ : ∃ t, k = t + 1 := ⟨k - 1, by omega⟩
    have hc := h2 c List.mem_cons_self
    have hbi : b i = c := At_h h1
    have hd : isD (b i) = true := by rw [hbi]; exact decide_eq_true hc
    have h10 : 10 ^ m ≤ 10 ^ 7 := Nat.pow_le_pow_right (by omega) (by omega)
    have hw : w ≤ 99999999 := by omega
    have e : nV b (k + 1) i w = nV b k (i + 1) (10 * w + c - 48) := by
      show (if isD (b i) = true then nV b k (i + 1) (if w ≤ 99999999 then 10 * w + b i - 48 else w) else w) = _
      rw [if_pos hd, if_pos hw, hbi]
    rw [e, ih (i + 1) k (10 * w + c - 48) (m + 1) (At_t h1) (fun d hd => h2 d (List.mem_cons_of_mem _ hd)) (by omega) (by rw [show i + 1 + ds.length = i + (ds.length + 1) by omega]; exact h4) (by rw [Nat.pow_succ]; omega) (by omega)]
    rfl
theorem decL_v {v : Nat} (hv : v < 100000) : (decL v).foldl (fun w c => 10 * w + c - 48) 0 = v := by
  unfold decL
  (repeat' split) <;> simp only [List.foldl_cons, List.foldl_nil] <;> omega
theorem decL_d {v : Nat} (hv : v < 100000) : ∀ c, c ∈ decL v → 48 ≤ c ∧ c ≤ 57 := fun c hc => by
  obtain ⟨i, hi⟩ := List.getElem?_of_mem hc
  exact decL_at hv hi
/-- a number's token -/
theorem t_num {b : Nat → Nat} {L s v : Nat} (hA : At b s (decL v)) (hv : v < 100000) (hL : s + (decL v).length < L) (hr : isD (b (s + (decL v).length)) = false) : tkK b L s = 2 ∧ tkE b L s = s + (decL v).length ∧ tkV b L s = v := by
  have hl := @decL_len v
  have hd : ∀ t, t < (decL v).length → 48 ≤ b (s + t) ∧ b (s + t) ≤ 57 := fun t ht => by
    have h1 : (decL v)[t]? = some ((decL v)[t]) := List.getElem?_eq_getElem ht
    rw [hA t _ h1]
    exact decL_at hv h1
  have h0 := hd 0 (by omega)
  rw [Nat.add_zero] at h0
  have nl : isL (b s) = false := decide_eq_false (by omega)
  have yd : isD (b s) = true := decide_eq_true h0
  refine ⟨?_, ?_, ?_⟩
  · unfold tkK
    rw [if_neg (by omega), if_neg (by rw [nl]; decide), if_pos yd]
  · unfold tkE
    rw [if_neg (by omega), if_neg (by rw [nl]; decide), if_pos yd]
    refine skp_eq (by omega) (by omega) (fun t h1 h2 => ?_) hr
    have := hd (t - s) (by omega)
    rw [show s + (t - s) = t by omega] at this
    exact decide_eq_true this
  · unfold tkV
    rw [nV_l (decL v) s (L - s) 0 0 hA (decL_d hv) (by omega) hr (by decide) (by omega)]
    exact decL_v hv
theorem t_word {b : Nat → Nat} {L s n : Nat} (h1 : 1 ≤ n) (hA : ∀ t, t < n → isL (b (s + t)) = true) (hL : s + n < L) (hr : isL (b (s + n)) = false) : tkK b L s = 1 ∧ tkE b L s = s + n := by
  have h0 := hA 0 (by omega)
  rw [Nat.add_zero] at h0
  refine ⟨?_, ?_⟩
  · unfold tkK
    rw [if_neg (by omega), if_pos h0]
  · unfold tkE
    rw [if_neg (by omega), if_pos h0]
    refine skp_eq (by omega) (by omega) (fun t h1 h2 => ?_) hr
    have := hA (t - s) (by omega)
    rw [show s + (t - s) = t by omega] at this
    exact this
theorem t_semi {b : Nat → Nat} {L s : Nat} (hs : b s = 59) (hL : s < L) : isS b L s ∧ tkE b L s = s + 1 := by
  have nl : isL (b s) = false := by rw [hs]; decide
  have nd : isD (b s) = false := by rw [hs]; decide
  refine ⟨⟨?_, hs⟩, ?_⟩
  · unfold tkK
    rw [if_neg (by omega), if_neg (by rw [nl]; decide), if_neg (by rw [nd]; decide)]
  · unfold tkE
    rw [if_neg (by omega), if_neg (by rw [nl]; decide), if_neg (by rw [nd]; decide)]
theorem n_0b {b : Nat → Nat} {L e : Nat} (h : e < L) (hb : isB (b e) = false) : tkN b L e = e := skp_eq (Nat.le_refl _) (by omega) (fun t h1 h2 => by omega) hb
theorem n_1b {b : Nat → Nat} {L e : Nat} (h : e + 1 < L) (hb : b e = 32) (hb2 : isB (b (e + 1)) = false) : tkN b L e = e + 1 := skp_eq (by omega) (by omega) (fun t h1 h2 => by
  rw [show t = e by omega]
  show isB (b e) = true
  rw [hb]
  decide) hb2
theorem n_e {b : Nat → Nat} {L : Nat} : tkN b L L = L := by
  unfold tkN
  rw [Nat.sub_self]
  rfl
theorem d_nb {x : Nat} (h : 48 ≤ x ∧ x ≤ 57 ∨ 97 ≤ x ∧ x ≤ 122 ∨ x = 59) : isB x = false := decide_eq_false (by omega)
/-! steps that go well -/
theorem k_adv {N L s s' : Nat} {b : Nat → Nat} {tb : Nat → Int32} {kd ts te tv : Int32} (hN : 1000 < N) (hT : TR b L tb) (h : TC b L s kd ts te tv) (hn : tkN b L (tkE b L s) = s') : ∃ kd' ts' te' tv', f_X9_advance N (nI L) tb kd ts te tv = some (kd', ts', te', tv') ∧ TC b L s' kd' ts' te' tv' := by
  have e := tkE_s (b := b) h.1
  rw [h.2.2.2.1, ← hn]
  exact x_adv hN hT e.2.1
theorem k_num {N L s s' v lo hi : Nat} {b : Nat → Nat} {tb : Nat → Int32} {kd ts te tv eo : Int32} (hN : 1000 < N) (hT : TR b L tb) (h : TC b L s kd ts te tv) (hk : tkK b L s = 2) (hv : tkV b L s = v) (hn : tkN b L (tkE b L s) = s') (h1 : lo ≤ v) (h2 : v ≤ hi) (h3 : hi < 100000) : ∃ kd' ts' te' tv', f_X5_takeNumber N (nI L) tb (nI 0) eo kd ts te tv (nI lo) (nI hi) = some (nI v, nI 0, eo, kd', ts', te', tv') ∧ TC b L s' kd' ts' te' tv' := by
  obtain ⟨k1, k2, k3, k4, a1, a2⟩ := k_adv hN hT h hn
  refine ⟨k1, k2, k3, k4, ?_, a2⟩
  have c1 := h.2.1
  have c2 := h.2.2.2.2 hk
  rw [hk] at c1
  have hcap : cap v = v := if_neg (by omega)
  rw [hv, hcap] at c2
  subst c1 c2
  simp (disch := omega) only [n_0, n_1, n_2, n_3, n_4, n_5, n_6, n_7, n_8, n_9, n_10, n_12, n_13, n_15, n_20, n_24, n_27, n_31, n_32, n_33, n_36, n_44, n_48, n_50, n_57, n_58, n_59, n_72, n_74, n_75, n_85, n_91, n_96, n_97, n_99, n_122, n_255, n_300, n_432, n_600, n_900, n_999, n_1000, n_1291, n_1399, n_2798, n_11192, n_65536, n_65537, n_99999999, n_1000000, nI_add, pk_mul, q_le, q_lt, q_eq, q_cl, q_gi, q_gz, q_sub, q_div, q_dm, d_dm, q_m1, q_mn, q_nm, q_mlt, q_ltm, q_mle, q_lem, q_mm, Option.bind_some, if_true, if_false, Nat.add_zero, ite_self, q_us, q_un, decide_true, decide_false, Bool.false_eq_true, eq_self, and_self, and_true, true_and, and_false, false_and, or_true, true_or, or_false, false_or, d_ltT, d_ltF, d_leT, d_leF, d_eqT, d_eqF, f_X5_takeNumber, f_X5_isNumberIn, a1]
theorem k_semi {N L s s' : Nat} {b : Nat → Nat} {tb : Nat → Int32} {kd ts te tv eo : Int32} (hN : 1000 < N) (hT : TR b L tb) (h : TC b L s kd ts te tv) (hs : isS b L s) (hn : tkN b L (tkE b L s) = s') : ∃ kd' ts' te' tv', f_X5_takeSemicolon N (nI L) tb (nI 0) eo kd ts te tv (nI 0) = some (nI 0, eo, kd', ts', te', tv') ∧ TC b L s' kd' ts' te' tv' := by
  obtain ⟨k1, k2, k3, k4, a1, a2⟩ := k_adv hN hT h hn
  exact ⟨k1, k2, k3, k4, x_semi_t hT h hs a1, a2⟩
theorem k_key {N L s s' : Nat} {b : Nat → Nat} {tb : Nat → Int32} {kd ts te tv eo : Int32} (hN : 1000 < N) (hT : TR b L tb) (h : TC b L s kd ts te tv) (hn : tkN b L (tkE b L s) = s') : ∃ kd' ts' te' tv', f_X5_takeKeyword N (nI L) tb (nI 0) eo kd ts te tv (nI 0) = some (nI 0, eo, kd', ts', te', tv') ∧ TC b L s' kd' ts' te' tv' := by
  obtain ⟨k1, k2, k3, k4, a1, a2⟩ := k_adv hN hT h hn
  exact ⟨k1, k2, k3, k4, by simp (disch := omega) only [n_0, n_1, n_2, n_3, n_4, n_5, n_6, n_7, n_8, n_9, n_10, n_12, n_13, n_15, n_20, n_24, n_27, n_31, n_32, n_33, n_36, n_44, n_48, n_50, n_57, n_58, n_59, n_72, n_74, n_75, n_85, n_91, n_96, n_97, n_99, n_122, n_255, n_300, n_432, n_600, n_900, n_999, n_1000, n_1291, n_1399, n_2798, n_11192, n_65536, n_65537, n_99999999, n_1000000, nI_add, pk_mul, q_le, q_lt, q_eq, q_cl, q_gi, q_gz, q_sub, q_div, q_dm, d_dm, q_m1, q_mn, q_nm, q_mlt, q_ltm, q_mle, q_lem, q_mm, Option.bind_some, if_true, if_false, Nat.add_zero, ite_self, q_us, q_un, decide_true, decide_false, Bool.false_eq_true, eq_self, and_self, and_true, true_and, and_false, false_and, or_true, true_or, or_false, false_or, d_ltT, d_ltF, d_leT, d_leF, d_eqT, d_eqF, f_X5_takeKeyword, a1], a2⟩
theorem isW_t {b : Nat → Nat} {L s j : Nat} (h1 : tkK b L s = 1) (h2 : tkE b L s = s + kSn j) (hc : ∀ t, t < kSn j → kSc j (nI t) = nI (b (s + t))) : isW b L s j = true := by
  unfold isW
  rw [if_pos ⟨h1, by omega⟩]
  cases h : anyF (fun t => !chE b s j t) (kSn j) 0 with
  | false => rfl
  | true =>
    obtain ⟨t, -, t2, t3⟩ := anyF_t h
    have h4 : chE b s j t = true := decide_eq_true (hc t (by omega))
    rw [h4] at t3
    cases t3
theorem isW_n {b : Nat → Nat} {L s j : Nat} (h2 : tkE b L s - s ≠ kSn j) : isW b L s j = false := by
  unfold isW
  rw [if_neg (fun x => h2 x.2)]
theorem kw_l : kSn 1 = 4 ∧ kSn 2 = 3 ∧ kSn 3 = 6 ∧ (∀ t, t < 4 → kSc 1 (nI t) = nI ((kLt 8).getD t 0)) ∧ (∀ t, t < 3 → kSc 2 (nI t) = nI ((kLt 2).getD t 0)) ∧ (∀ t, t < 6 → kSc 3 (nI t) = nI ([112, 108, 97, 121, 101, 114].getD t 0)) := by decide +kernel
theorem kl_8 : kLt 8 = [104, 97, 108, 108, 32] ∧ kLt 2 = [100, 105, 101] ∧ kLt 9 = [112, 108, 97, 121, 101, 114, 32, 99, 121, 59, 112, 108, 97, 121, 101, 114, 32, 97, 98, 59, 112, 108, 97, 121, 101, 114, 32, 98, 59] := by decide +kernel
theorem dgs_at {b : Nat → Nat} {y F : Nat} : ∀ (j f p : Nat), At b p (dgs y F j f) → ∀ i, i < j → b (p + 2 * i) = 32 ∧ b (p + 2 * i + 1) = 48 + wT y F (f + i) := by
  intro j
  induction j with
  | zero => intro f p _ i hi; omega
  | succ j ih =>
    intro f p h i hi
    have e : dgs y F (j + 1) f = 32 :: (48 + wT y F f) :: dgs y F j (f + 1) := by
      show [32] ++ decL (wT y F f) ++ dgs y F j (f + 1) = _
      rw [decL_1 wT_lt]
      rfl
    rw [e] at h
    have h1 := At_h h
    have h2 := At_t h
    have h3 := At_h h2
    have h4 := At_t h2
    by_cases hi0 : i = 0
    · subst hi0
      exact ⟨h1, h3⟩
    · obtain ⟨a, c⟩ := ih (f + 1) (p + 1 + 1) h4 (i - 1) (by omega)
      rw [show p + 1 + 1 + 2 * (i - 1) = p + 2 * i by omega] at a c
      rw [show f + 1 + (i - 1) = f + i by omega] at c
      exact ⟨a, c⟩
