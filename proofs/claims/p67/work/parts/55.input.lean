/-! the input: letters below 128 by words of four -/
theorem sbd_t {α β : Type} {t : α} {g : α → Option (String ⊕ β)} : sbd (some (.inr t)) g = g t := rfl
theorem sbd_f {α β : Type} {c : String} {g : α → Option (String ⊕ β)} : sbd (some (.inl c)) g = some (.inl c) := rfl
theorem hbd_t {α β : Type} {t : α} {g : String → Option β} {k : α → Option β} : hbd (some (.inr t)) g k = k t := rfl
theorem hbd_f {α β : Type} {c : String} {g : String → Option β} {k : α → Option β} : hbd (some (.inl c)) g k = g c := rfl
theorem hbdw_t {ω α β : Type} {t : α} {g : String → ω → Option β} {k : α → Option β} : hbdw (some (.inr t)) g k = k t := rfl
theorem ci_t {a n : Nat} (h : a < n) (hn : n < 2147483648) : f_X10_requireIndex (nI a) (nI n) = some (.inr ()) := by
  simp (disch := omega) only [n_0, n_1, n_2, n_3, n_4, n_5, n_6, n_7, n_8, n_9, n_10, n_12, n_13, n_15, n_20, n_24, n_27, n_31, n_32, n_33, n_36, n_44, n_48, n_50, n_57, n_58, n_59, n_72, n_74, n_75, n_85, n_91, n_96, n_97, n_99, n_122, n_255, n_300, n_432, n_600, n_900, n_999, n_1000, n_1291, n_1399, n_2798, n_11192, n_65536, n_65537, n_99999999, n_1000000, nI_add, pk_mul, q_le, q_lt, q_eq, q_cl, q_gi, q_gz, q_sub, q_div, q_dm, d_dm, q_m1, q_mn, q_nm, q_mlt, q_ltm, q_mle, q_lem, q_mm, Option.bind_some, if_true, if_false, Nat.add_zero, ite_self, q_us, q_un, decide_true, decide_false, Bool.false_eq_true, eq_self, and_self, and_true, true_and, and_false, false_and, or_true, true_or, or_false, false_or, d_ltT, d_ltF, d_leT, d_leF, d_eqT, d_eqF, f_X10_requireIndex]
theorem cr_t {a lo hi : Nat} (h1 : lo ≤ a) (h2 : a ≤ hi) (hn : hi < 2147483648) : f_X10_requireRange (nI a) (nI lo) (nI hi) = some (.inr ()) := by
  simp (disch := omega) only [n_0, n_1, n_2, n_3, n_4, n_5, n_6, n_7, n_8, n_9, n_10, n_12, n_13, n_15, n_20, n_24, n_27, n_31, n_32, n_33, n_36, n_44, n_48, n_50, n_57, n_58, n_59, n_72, n_74, n_75, n_85, n_91, n_96, n_97, n_99, n_122, n_255, n_300, n_432, n_600, n_900, n_999, n_1000, n_1291, n_1399, n_2798, n_11192, n_65536, n_65537, n_99999999, n_1000000, nI_add, pk_mul, q_le, q_lt, q_eq, q_cl, q_gi, q_gz, q_sub, q_div, q_dm, d_dm, q_m1, q_mn, q_nm, q_mlt, q_ltm, q_mle, q_lem, q_mm, Option.bind_some, if_true, if_false, Nat.add_zero, ite_self, q_us, q_un, decide_true, decide_false, Bool.false_eq_true, eq_self, and_self, and_true, true_and, and_false, false_and, or_true, true_or, or_false, false_or, d_ltT, d_ltF, d_leT, d_leF, d_eqT, d_eqF, f_X10_requireRange]
theorem or_8 {w c : Nat} (hw : w < 8388608) (hc : c < 256) : nI (w * 256) ||| nI c = nI (w * 256 + c) := by
  apply Int32.toBitVec_inj.mp
  apply BitVec.eq_of_toNat_eq
  show (BitVec.ofNat 32 (w * 256) ||| BitVec.ofNat 32 c).toNat = (BitVec.ofNat 32 (w * 256 + c)).toNat
  rw [BitVec.toNat_or, BitVec.toNat_ofNat, BitVec.toNat_ofNat, BitVec.toNat_ofNat, Nat.mod_eq_of_lt (by omega), Nat.mod_eq_of_lt (by omega), Nat.mod_eq_of_lt (by omega)]
  have h := Nat.two_pow_add_eq_or_of_lt (i := 8) (b := c) (by omega) w
  rw [show w * 256 = 2 ^ 8 * w by omega, h]
theorem sh_8 {w : Nat} (hw : w < 8388608) : nI w <<< ((8 : Int32) &&& 31) = nI (w * 256) := pk_shlN (n := w) _ 8 (by decide +kernel) (by omega)
/-- the first m of a word's letters from place i -/
def wdp (p : Nat → Nat) (i : Nat) : Nat → Nat
  | 0 => 0
  | m + 1 => wdp p i m * 256 + p (i + m)
theorem wdp_lt {p : Nat → Nat} (hp : ∀ i, p i < 128) {i : Nat} : wdp p i 0 = 0 ∧ wdp p i 1 < 128 ∧ wdp p i 2 < 32768 ∧ wdp p i 3 < 8388608 ∧ wdp p i 4 < 2147483648 := by
  have h0 := hp (i + 0)
  have h1 := hp (i + 1)
  have h2 := hp (i + 2)
  have h3 := hp (i + 3)
  have e1 : wdp p i 1 = 0 * 256 + p (i + 0) := rfl
  have e2 : wdp p i 2 = wdp p i 1 * 256 + p (i + 1) := rfl
  have e3 : wdp p i 3 = wdp p i 2 * 256 + p (i + 2) := rfl
  have e4 : wdp p i 4 = wdp p i 3 * 256 + p (i + 3) := rfl
  exact ⟨rfl, by omega, by omega, by omega, by omega⟩
theorem wdp_lt3 {p : Nat → Nat} (hp : ∀ i, p i < 128) {i m : Nat} (hm : m < 4) : wdp p i m < 8388608 := by
  have h := @wdp_lt p hp i
  match m, hm with
  | 0, _ => omega
  | 1, _ => omega
  | 2, _ => omega
  | 3, _ => omega
theorem wdp_4 {p : Nat → Nat} {i : Nat} : wdp p i 4 = p i * 16777216 + p (i + 1) * 65536 + p (i + 2) * 256 + p (i + 3) := by
  have e1 : wdp p i 1 = 0 * 256 + p i := rfl
  have e2 : wdp p i 2 = wdp p i 1 * 256 + p (i + 1) := rfl
  have e3 : wdp p i 3 = wdp p i 2 * 256 + p (i + 2) := rfl
  have e4 : wdp p i 4 = wdp p i 3 * 256 + p (i + 3) := rfl
  rw [e4, e3, e2, e1]
  generalize p i = a
  generalize p (i + 1) = b
  generalize p (i + 2) = c
  generalize p (i + 3) = d
  clear e1 e2 e3 e4
  omega
theorem as_step {N L : Nat} {p : Nat → Nat} {x s t : Int32} {tb : Nat → Int32} (hs : ¬ s < nI 0) (ht : s + -nI 8 = t) (hx : (x >>> (s &&& nI 31)) &&& nI 255 = nI (p L)) (hw : p L < 128) (hL : L < 600) (h1 : TR p L tb) (j : Nat) : ∃ tb', f_X8_appendWord_L3 N (j + 1) x s (nI L) tb = f_X8_appendWord_L3 N j x t (nI (L + 1)) tb' ∧ TR p (L + 1) tb' := by
  refine ⟨upd tb L (nI (p L)), ?_, by omega, fun i hi => ?_⟩
  · show f_X8_appendWord_L3_F N (f_X8_appendWord_L3 N j) x s (nI L) tb = _
    unfold f_X8_appendWord_L3_F f_X8_append
    simp only [n_0, n_1, n_2, n_3, n_4, n_5, n_6, n_7, n_8, n_9, n_10, n_12, n_13, n_15, n_20, n_24, n_27, n_31, n_32, n_33, n_36, n_44, n_48, n_50, n_57, n_58, n_59, n_72, n_74, n_75, n_85, n_91, n_96, n_97, n_99, n_122, n_255, n_300, n_432, n_600, n_900, n_999, n_1000, n_1291, n_1399, n_2798, n_11192, n_65536, n_65537, n_99999999, n_1000000]
    rw [if_neg hs, hx, if_neg (by rw [q_le (by omega) (by omega)]; omega), e_put (by omega) (by omega), Option.bind_some, Option.bind_some, nI_add, ht]
  · by_cases c : i = L
    · subst c
      rw [q_us rfl]
      exact ⟨by omega, rfl⟩
    · rw [q_un c]
      exact h1.2 i (by omega)
theorem as_b {W b k q : Nat} {s : Int32} (hs : ((s &&& nI 31).toBitVec.smod 32).toNat = k) (hW : W < 2147483648) (e : W / 2 ^ k % 2 ^ 8 = b) : (nI W >>> (s &&& nI 31)) &&& nI 255 = nI b := by
  rw [pk_shrN (n := W) (by omega) _ k hs, pk_andN (by have := Nat.div_le_self W (2 ^ k); omega) 8 (by decide +kernel), e]
theorem as_w {N L : Nat} {p : Nat → Nat} {tb : Nat → Int32} (hp : ∀ i, p i < 128) (hN : 1000 < N) (hL : L + 4 ≤ 600) (h1 : TR p L tb) : ∃ tb', f_X8_appendWord N (nI L) tb (nI (wdp p L 4)) = some (nI (L + 4), tb') ∧ TR p (L + 4) tb' := by
  unfold f_X8_appendWord
  simp only [n_0, n_1, n_2, n_3, n_4, n_5, n_6, n_7, n_8, n_9, n_10, n_12, n_13, n_15, n_20, n_24, n_27, n_31, n_32, n_33, n_36, n_44, n_48, n_50, n_57, n_58, n_59, n_72, n_74, n_75, n_85, n_91, n_96, n_97, n_99, n_122, n_255, n_300, n_432, n_600, n_900, n_999, n_1000, n_1291, n_1399, n_2798, n_11192, n_65536, n_65537, n_99999999, n_1000000]
  obtain ⟨n, rfl⟩ : ∃ t, N = t + 5 := ⟨N - 5, by omega⟩
  have hW := (@wdp_lt p hp L).2.2.2.2
  have eW := @wdp_4 p L
  generalize hw : wdp p L 4 = W at hW eW
  have h0 := hp L
  have h2 := hp (L + 1)
  have h3 := hp (L + 2)
  have h4 := hp (L + 3)
  obtain ⟨t1, p1, r1⟩ := as_step (N := n + 5) (x := nI W) (s := nI 24) (t := nI 16) (by decide +kernel) (by decide +kernel) (as_b (k := 24) (q := 0) (by decide +kernel) hW (by omega)) h0 (by omega) h1 (n + 4)
  obtain ⟨t2, p2, r2⟩ := as_step (N := n + 5) (x := nI W) (s := nI 16) (t := nI 8) (by decide +kernel) (by decide +kernel) (as_b (k := 16) (q := 0) (by decide +kernel) hW (by omega)) h2 (by omega) r1 (n + 3)
  obtain ⟨t3, p3, r3⟩ := as_step (N := n + 5) (x := nI W) (s := nI 8) (t := nI 0) (by decide +kernel) (by decide +kernel) (as_b (k := 8) (q := 0) (by decide +kernel) hW (by show W / 2 ^ 8 % 2 ^ 8 = p (L + 2); omega)) h3 (by omega) r2 (n + 2)
  obtain ⟨t4, p4, r4⟩ := as_step (N := n + 5) (x := nI W) (s := nI 0) (t := -nI 8) (by decide +kernel) (by decide +kernel) (as_b (k := 0) (q := 0) (by decide +kernel) hW (by show W / 2 ^ 0 % 2 ^ 8 = p (L + 3); omega)) h4 (by omega) r3 (n + 1)
  have hm : -nI 8 < nI 0 := by decide +kernel
  refine ⟨t4, ?_, r4⟩
  rw [p1, p2, p3, p4]
  show f_X8_appendWord_L3_F (n + 5) (f_X8_appendWord_L3 (n + 5) n) (nI W) (-nI 8) (nI (L + 4)) t4 = _
  unfold f_X8_appendWord_L3_F
  simp only [n_0, n_1, n_2, n_3, n_4, n_5, n_6, n_7, n_8, n_9, n_10, n_12, n_13, n_15, n_20, n_24, n_27, n_31, n_32, n_33, n_36, n_44, n_48, n_50, n_57, n_58, n_59, n_72, n_74, n_75, n_85, n_91, n_96, n_97, n_99, n_122, n_255, n_300, n_432, n_600, n_900, n_999, n_1000, n_1291, n_1399, n_2798, n_11192, n_65536, n_65537, n_99999999, n_1000000]
  rw [if_pos hm]
theorem as_i {N L : Nat} {p : Nat → Nat} {tb : Nat → Int32} {x0 x1 x2 x3 x4 : Int32} (hp : ∀ i, p i < 128) (hN : 1000 < N) (hL : L + 20 ≤ 600) (h1 : TR p L tb) (e0 : x0 = nI (wdp p L 4)) (e1 : x1 = nI (wdp p (L + 4) 4)) (e2 : x2 = nI (wdp p (L + 8) 4)) (e3 : x3 = nI (wdp p (L + 12) 4)) (e4 : x4 = nI (wdp p (L + 16) 4)) : ∃ tb', f_X10_appendInput N (nI L) tb x0 x1 x2 x3 x4 = some (.inr (nI (L + 20), nI (L + 20), tb')) ∧ TR p (L + 20) tb' := by
  subst e0 e1 e2 e3 e4
  obtain ⟨t1, p1, r1⟩ := as_w hp hN (by omega) h1
  obtain ⟨t2, p2, r2⟩ := as_w hp hN (by omega) r1
  obtain ⟨t3, p3, r3⟩ := as_w hp hN (by omega) r2
  obtain ⟨t4, p4, r4⟩ := as_w hp hN (by omega) r3
  obtain ⟨t5, p5, r5⟩ := as_w hp hN (by omega) r4
  refine ⟨t5, ?_, r5⟩
  unfold f_X10_appendInput
  simp only [n_0, n_1, n_2, n_3, n_4, n_5, n_6, n_7, n_8, n_9, n_10, n_12, n_13, n_15, n_20, n_24, n_27, n_31, n_32, n_33, n_36, n_44, n_48, n_50, n_57, n_58, n_59, n_72, n_74, n_75, n_85, n_91, n_96, n_97, n_99, n_122, n_255, n_300, n_432, n_600, n_900, n_999, n_1000, n_1291, n_1399, n_2798, n_11192, n_65536, n_65537, n_99999999, n_1000000]
  rw [nI_add, if_pos (by rw [q_le (by omega) (by omega)]; omega), p1, Option.bind_some, p2, Option.bind_some, p3, Option.bind_some, p4, Option.bind_some, p5, Option.bind_some]
theorem tr_i {n M : Nat} (h : n ≤ M) (hM : M < 2147483648) : f_X10_truncateInput (nI M) (nI n) = some (.inr (nI n, nI n)) := by
  unfold f_X10_truncateInput f_X8_cutTo
  simp only [n_0, n_1, n_2, n_3, n_4, n_5, n_6, n_7, n_8, n_9, n_10, n_12, n_13, n_15, n_20, n_24, n_27, n_31, n_32, n_33, n_36, n_44, n_48, n_50, n_57, n_58, n_59, n_72, n_74, n_75, n_85, n_91, n_96, n_97, n_99, n_122, n_255, n_300, n_432, n_600, n_900, n_999, n_1000, n_1291, n_1399, n_2798, n_11192, n_65536, n_65537, n_99999999, n_1000000]
  rw [cr_t (by omega) h hM, sbd_t, Option.bind_some]
theorem TR_cut {b : Nat → Nat} {L n : Nat} {tb : Nat → Int32} (h : TR b L tb) (hn : n ≤ L) : TR b n tb := ⟨by have := h.1; omega, fun i hi => h.2 i (by omega)⟩
/-- a text's letters, blanks behind them -/
def pad (l : List Nat) (i : Nat) : Nat := l.getD i 32
theorem pad_in {l : List Nat} {i : Nat} (h : i < l.length) : l[i]? = some (pad l i) := by
  unfold pad
  rw [List.getD_eq_getElem?_getD, List.getElem?_eq_getElem h]
  rfl
theorem pad_out {l : List Nat} {i : Nat} (h : l.length ≤ i) : pad l i = 32 := by
  unfold pad
  rw [List.getD_eq_getElem?_getD, List.getElem?_eq_none h]
  rfl
theorem pad_lt {l : List Nat} (h : ∀ c, c ∈ l → c < 128) (i : Nat) : pad l i < 128 := by
  by_cases c : i < l.length
  · exact h _ (List.mem_of_getElem? (pad_in c))
  · rw [pad_out (by omega)]
    omega
