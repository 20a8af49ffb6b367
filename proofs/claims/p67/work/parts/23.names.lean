/-! names, and words of the input -/
theorem nD_0 {c : Nat} : nD c 0 = c / 19683 % 27 := rfl
theorem nD_1 {c : Nat} : nD c 1 = c / 729 % 27 := rfl
theorem nD_2 {c : Nat} : nD c 2 = c / 27 % 27 := rfl
theorem nD_3 {c : Nat} : nD c 3 = c % 27 := rfl
theorem nA_eq {c c' i : Nat} : nA c i = nA c' i ↔ nD c i = nD c' i := by
  unfold nA
  split <;> split <;> omega
theorem nA_lt2 {c c' i : Nat} : nA c i < nA c' i ↔ nD c i < nD c' i := by
  unfold nA
  split <;> split <;> omega
/-- the order of two rows of k cells from i on -/
def lexF (a b : Nat → Nat) : Nat → Nat → Bool
  | 0, _ => false
  | k + 1, i => if a i = b i then lexF a b k (i + 1) else decide (a i < b i)
theorem lex_code {c c' : Nat} (h : c < 531441) (h' : c' < 531441) : lexF (nA c) (nA c') 4 0 = decide (c < c') := by
  have e := nC_of h
  have e' := nC_of h'
  have l := fun i => @nD_lt c i
  have l' := fun i => @nD_lt c' i
  have l0 := l 0
  have l1 := l 1
  have l2 := l 2
  have l3 := l 3
  have l0' := l' 0
  have l1' := l' 1
  have l2' := l' 2
  have l3' := l' 3
  simp only [lexF, nA_eq, nA_lt2, Nat.zero_add, show 1 + 1 = 2 by rfl, show 2 + 1 = 3 by rfl]
  by_cases h0 : nD c 0 = nD c' 0
  · rw [if_pos h0]
    by_cases h1 : nD c 1 = nD c' 1
    · rw [if_pos h1]
      by_cases h2 : nD c 2 = nD c' 2
      · rw [if_pos h2]
        by_cases h3 : nD c 3 = nD c' 3
        · rw [if_pos h3]
          exact (decide_eq_false (by omega)).symm
        · rw [if_neg h3]
          exact decide_eq_decide.mpr ⟨fun q => by omega, fun q => by omega⟩
      · rw [if_neg h2]
        exact decide_eq_decide.mpr ⟨fun q => by omega, fun q => by omega⟩
    · rw [if_neg h1]
      exact decide_eq_decide.mpr ⟨fun q => by omega, fun q => by omega⟩
  · rw [if_neg h0]
    exact decide_eq_decide.mpr ⟨fun q => by omega, fun q => by omega⟩
/-- how many of the players have P: a place -/
def gPl (P : Nat → Nat → Bool) (n p : Nat) : Nat := sumTo n (fun o => if P o p = true then 1 else 0)
theorem gPl_le {P : Nat → Nat → Bool} {n p : Nat} : gPl P n p ≤ n := by
  have h : gPl P n p ≤ n * 1 := sumTo_le (fun k hk => by split <;> omega)
  omega
def nLt (g : Nat → Nat) (o p : Nat) : Bool := decide (nC g o < nC g p)
/-- a text: L bytes -/
def TR (b : Nat → Nat) (L : Nat) (tb : Nat → Int32) : Prop := L ≤ 600 ∧ ∀ i, i < L → b i < 256 ∧ tb i = nI (b i)
theorem e_byte {b : Nat → Nat} {L i : Nat} {tb : Nat → Int32} (hT : TR b L tb) (hi : i < L) : f_X8_byteIn (nI L) tb (nI i) = some (nI (b i)) := by
  have hL := hT.1
  have h := (hT.2 i hi).2
  simp (disch := omega) only [n_0, n_1, n_2, n_3, n_4, n_5, n_6, n_7, n_8, n_9, n_10, n_12, n_13, n_15, n_20, n_24, n_27, n_31, n_32, n_33, n_36, n_44, n_48, n_50, n_57, n_58, n_59, n_72, n_74, n_75, n_85, n_91, n_96, n_97, n_99, n_122, n_255, n_300, n_432, n_600, n_900, n_999, n_1000, n_1291, n_1399, n_2798, n_11192, n_65536, n_65537, n_99999999, n_1000000, nI_add, pk_mul, q_le, q_lt, q_eq, q_cl, q_gi, q_gz, q_sub, q_div, q_dm, d_dm, q_m1, q_mn, q_nm, q_mlt, q_ltm, q_mle, q_lem, q_mm, Option.bind_some, if_true, if_false, Nat.add_zero, ite_self, q_us, q_un, decide_true, decide_false, Bool.false_eq_true, eq_self, and_self, and_true, true_and, and_false, false_and, or_true, true_or, or_false, false_or, d_ltT, d_ltF, d_leT, d_leF, d_eqT, d_eqF, f_X8_byteIn, h]
theorem e_byteN {b : Nat → Nat} {L i : Nat} {tb : Nat → Int32} (hT : TR b L tb) (hi : L ≤ i) (h3 : i < 2147483648) : f_X8_byteIn (nI L) tb (nI i) = some (-nI 1) := by
  have hL := hT.1
  simp (disch := omega) only [n_0, n_1, n_2, n_3, n_4, n_5, n_6, n_7, n_8, n_9, n_10, n_12, n_13, n_15, n_20, n_24, n_27, n_31, n_32, n_33, n_36, n_44, n_48, n_50, n_57, n_58, n_59, n_72, n_74, n_75, n_85, n_91, n_96, n_97, n_99, n_122, n_255, n_300, n_432, n_600, n_900, n_999, n_1000, n_1291, n_1399, n_2798, n_11192, n_65536, n_65537, n_99999999, n_1000000, nI_add, pk_mul, q_le, q_lt, q_eq, q_cl, q_gi, q_gz, q_sub, q_div, q_dm, d_dm, q_m1, q_mn, q_nm, q_mlt, q_ltm, q_mle, q_lem, q_mm, Option.bind_some, if_true, if_false, Nat.add_zero, ite_self, q_us, q_un, decide_true, decide_false, Bool.false_eq_true, eq_self, and_self, and_true, true_and, and_false, false_and, or_true, true_or, or_false, false_or, d_ltT, d_ltF, d_leT, d_leF, d_eqT, d_eqF, f_X8_byteIn]
/-- the word of n bytes from s on: whether it is a name, its code -/
def wdD (b : Nat → Nat) (s n i : Nat) : Nat := if i < n then b (s + i) - 96 else 0
def wdC (b : Nat → Nat) (s n : Nat) : Nat := ((wdD b s n 0 * 27 + wdD b s n 1) * 27 + wdD b s n 2) * 27 + wdD b s n 3
def isL (x : Nat) : Bool := decide (97 ≤ x ∧ x ≤ 122)
def wdOk (b : Nat → Nat) (s n : Nat) : Prop := 1 ≤ n ∧ n ≤ 4 ∧ ∀ i, i < n → 97 ≤ b (s + i) ∧ b (s + i) ≤ 122
theorem wdD_lt {b : Nat → Nat} {s n i : Nat} (h : wdOk b s n) : wdD b s n i < 27 := by
  unfold wdD
  by_cases hi : i < n
  · rw [if_pos hi]
    have := h.2.2 i hi
    omega
  · rw [if_neg hi]
    omega
theorem wdC_D {b : Nat → Nat} {s n : Nat} (h : wdOk b s n) : ∀ i, i < 4 → nD (wdC b s n) i = wdD b s n i := by
  have h0 := wdD_lt (i := 0) h
  have h1 := wdD_lt (i := 1) h
  have h2 := wdD_lt (i := 2) h
  have h3 := wdD_lt (i := 3) h
  intro i hi
  unfold wdC
  rcases (show i = 0 ∨ i = 1 ∨ i = 2 ∨ i = 3 by omega) with e | e | e | e
  · subst e; rw [nD_0]; omega
  · subst e; rw [nD_1]; omega
  · subst e; rw [nD_2]; omega
  · subst e; rw [nD_3]; omega
theorem wdC_lt {b : Nat → Nat} {s n : Nat} (h : wdOk b s n) : wdC b s n < 531441 := by
  have h0 := wdD_lt (i := 0) h
  have h1 := wdD_lt (i := 1) h
  have h2 := wdD_lt (i := 2) h
  have h3 := wdD_lt (i := 3) h
  unfold wdC
  omega
theorem nL_of {c n : Nat} (h0 : n ≤ 4) (h : ∀ i, i < 4 → (nD c i = 0 ↔ n ≤ i)) : nL c = n := by
  have a0 := h 0 (by omega)
  have a1 := h 1 (by omega)
  have a2 := h 2 (by omega)
  have a3 := h 3 (by omega)
  unfold nL
  by_cases c0 : nD c 0 = 0
  · rw [if_pos c0]; omega
  · rw [if_neg c0]
    by_cases c1 : nD c 1 = 0
    · rw [if_pos c1]; omega
    · rw [if_neg c1]
      by_cases c2 : nD c 2 = 0
      · rw [if_pos c2]; omega
      · rw [if_neg c2]
        by_cases c3 : nD c 3 = 0
        · rw [if_pos c3]; omega
        · rw [if_neg c3]; omega
theorem nL_sp {c : Nat} (h : nOk c) : 1 ≤ nL c ∧ nL c ≤ 4 ∧ ∀ i, i < 4 → (nD c i = 0 ↔ nL c ≤ i) := by
  obtain ⟨h1, h2, h3, h4⟩ := h
  unfold nL
  rw [if_neg h2]
  by_cases c1 : nD c 1 = 0
  · rw [if_pos c1]
    have e2 := h3 c1
    have e3 := h4 e2
    refine ⟨by omega, by omega, fun i hi => ?_⟩
    rcases (show i = 0 ∨ i = 1 ∨ i = 2 ∨ i = 3 by omega) with e | e | e | e <;> subst e <;> omega
  · rw [if_neg c1]
    by_cases c2 : nD c 2 = 0
    · rw [if_pos c2]
      have e3 := h4 c2
      refine ⟨by omega, by omega, fun i hi => ?_⟩
      rcases (show i = 0 ∨ i = 1 ∨ i = 2 ∨ i = 3 by omega) with e | e | e | e <;> subst e <;> omega
    · rw [if_neg c2]
      by_cases c3 : nD c 3 = 0
      · rw [if_pos c3]
        refine ⟨by omega, by omega, fun i hi => ?_⟩
        rcases (show i = 0 ∨ i = 1 ∨ i = 2 ∨ i = 3 by omega) with e | e | e | e <;> subst e <;> omega
      · rw [if_neg c3]
        refine ⟨by omega, by omega, fun i hi => ?_⟩
        rcases (show i = 0 ∨ i = 1 ∨ i = 2 ∨ i = 3 by omega) with e | e | e | e <;> subst e <;> omega
theorem wdC_ok {b : Nat → Nat} {s n : Nat} (h : wdOk b s n) : nOk (wdC b s n) ∧ nL (wdC b s n) = n ∧ ∀ i, i < 4 → nA (wdC b s n) i = if i < n then b (s + i) else 0 := by
  have hd := wdC_D h
  have hz : ∀ i, i < 4 → (nD (wdC b s n) i = 0 ↔ n ≤ i) := fun i hi => by
    rw [hd i hi]
    unfold wdD
    by_cases hin : i < n
    · rw [if_pos hin]
      have := h.2.2 i hin
      omega
    · rw [if_neg hin]
      omega
  refine ⟨⟨wdC_lt h, ?_, ?_, ?_⟩, nL_of h.2.1 hz, fun i hi => ?_⟩
  · intro e
    have := (hz 0 (by omega)).mp e
    have := h.1
    omega
  · intro e
    have := (hz 1 (by omega)).mp e
    exact (hz 2 (by omega)).mpr (by omega)
  · intro e
    have := (hz 2 (by omega)).mp e
    exact (hz 3 (by omega)).mpr (by omega)
  · have hzi := hz i hi
    unfold nA
    by_cases hin : i < n
    · rw [if_neg (fun e => by have := hzi.mp e; omega), if_pos hin, hd i hi]
      unfold wdD
      rw [if_pos hin]
      have := h.2.2 i hin
      omega
    · rw [if_pos (hzi.mpr (by omega)), if_neg hin]
theorem wd_named {b : Nat → Nat} {s n c : Nat} (hc : nOk c) : (nL c = n ∧ ∀ i, i < n → nA c i = b (s + i)) ↔ (wdOk b s n ∧ c = wdC b s n) := by
  constructor
  · rintro ⟨h1, h2⟩
    obtain ⟨g1, g2, g3⟩ := nL_sp hc
    have hl : ∀ i, i < n → b (s + i) = 96 + nD c i ∧ nD c i ≠ 0 := fun i hi => by
      have e := h2 i hi
      have hz := g3 i (by omega)
      unfold nA at e
      by_cases h0 : nD c i = 0
      · have := hz.mp h0; omega
      · rw [if_neg h0] at e
        exact ⟨e.symm, h0⟩
    have ho : wdOk b s n := ⟨by omega, by omega, fun i hi => by
      have := hl i hi
      have := @nD_lt c i
      omega⟩
    refine ⟨ho, ?_⟩
    have hd : ∀ i, i < 4 → nD c i = wdD b s n i := fun i hi => by
      unfold wdD
      by_cases hin : i < n
      · rw [if_pos hin]
        have := hl i hin
        omega
      · rw [if_neg hin]
        exact (g3 i hi).mpr (by omega)
    have e1 := nC_of hc.1
    rw [hd 0 (by omega), hd 1 (by omega), hd 2 (by omega), hd 3 (by omega)] at e1
    unfold wdC
    omega
  · rintro ⟨h1, h2⟩
    obtain ⟨-, g2, g3⟩ := wdC_ok h1
    subst h2
    refine ⟨g2, fun i hi => ?_⟩
    have := h1.2.1
    rw [g3 i (by omega), if_pos hi]
/-- the player whose name the word is -/
noncomputable def gFind (g : Nat → Nat) (b : Nat → Nat) (s n : Nat) : Int32 := srch (fun p => @decide (wdOk b s n ∧ nC g p = wdC b s n) (Classical.propDecidable _)) (g 4) 0
theorem e_namedL {N : Nat} {g : Nat → Nat} {ln lt : Nat → Int32} {b : Nat → Nat} {L s : Nat} {tb : Nat → Int32} {p : Nat} (hB : okB g) (hR : NR g ln lt) (hT : TR b L tb) (hp : p < g 4) (hs : s + nL (nC g p) ≤ L) : ∀ k i j : Nat, i + k = nL (nC g p) → k < j → f_X7_isNamed_L24 N ln lt (nI L) tb j (nI p) (nI s) (nI (nL (nC g p))) (nI i) = some (bI (!anyF (fun i => decide (nA (nC g p) i ≠ b (s + i))) k i)) := by
  have h4 := b_4 hB
  have hl := @nL_le (nC g p)
  have hL := hT.1
  intro k
  induction k with
  | zero =>
    intro i j h1 h2
    obtain ⟨j, rfl⟩ : ∃ t, j = t + 1 := ⟨j - 1, by omega⟩
    simp (disch := omega) only [n_0, n_1, n_2, n_3, n_4, n_5, n_6, n_7, n_8, n_9, n_10, n_12, n_13, n_15, n_20, n_24, n_27, n_31, n_32, n_33, n_36, n_44, n_48, n_50, n_57, n_58, n_59, n_72, n_74, n_75, n_85, n_91, n_96, n_97, n_99, n_122, n_255, n_300, n_432, n_600, n_900, n_999, n_1000, n_1291, n_1399, n_2798, n_11192, n_65536, n_65537, n_99999999, n_1000000, nI_add, pk_mul, q_le, q_lt, q_eq, q_cl, q_gi, q_gz, q_sub, q_div, q_dm, d_dm, q_m1, q_mn, q_nm, q_mlt, q_ltm, q_mle, q_lem, q_mm, Option.bind_some, if_true, if_false, Nat.add_zero, ite_self, q_us, q_un, decide_true, decide_false, Bool.false_eq_true, eq_self, and_self, and_true, true_and, and_false, false_and, or_true, true_or, or_false, false_or, d_ltT, d_ltF, d_leT, d_leF, d_eqT, d_eqF, f_X7_isNamed_L24, f_X7_isNamed_L24_F]
    rfl
  | succ k ih =>
    intro i j h1 h2
    obtain ⟨j, rfl⟩ : ∃ t, j = t + 1 := ⟨j - 1, by omega⟩
    have ha := (hR p hp).2 i (by omega)
    have hb := hT.2 (s + i) (by omega)
    have hb1 := hb.1
    have hal := @nA_lt (nC g p) i
    have hy := e_byte hT (show s + i < L by omega)
    unfold anyF
    by_cases hc : nA (nC g p) i = b (s + i)
    · simp (disch := omega) only [n_0, n_1, n_2, n_3, n_4, n_5, n_6, n_7, n_8, n_9, n_10, n_12, n_13, n_15, n_20, n_24, n_27, n_31, n_32, n_33, n_36, n_44, n_48, n_50, n_57, n_58, n_59, n_72, n_74, n_75, n_85, n_91, n_96, n_97, n_99, n_122, n_255, n_300, n_432, n_600, n_900, n_999, n_1000, n_1291, n_1399, n_2798, n_11192, n_65536, n_65537, n_99999999, n_1000000, nI_add, pk_mul, q_le, q_lt, q_eq, q_cl, q_gi, q_gz, q_sub, q_div, q_dm, d_dm, q_m1, q_mn, q_nm, q_mlt, q_ltm, q_mle, q_lem, q_mm, Option.bind_some, if_true, if_false, Nat.add_zero, ite_self, q_us, q_un, decide_true, decide_false, Bool.false_eq_true, eq_self, and_self, and_true, true_and, and_false, false_and, or_true, true_or, or_false, false_or, d_ltT, d_ltF, d_leT, d_leF, d_eqT, d_eqF, f_X7_isNamed_L24, f_X7_isNamed_L24_F, e_at, Nat.mul_comm p 4, ha, hy]
      refine (ih (i + 1) j (by omega) (by omega)).trans ?_
      simp [hc]
    · simp (disch := omega) only [n_0, n_1, n_2, n_3, n_4, n_5, n_6, n_7, n_8, n_9, n_10, n_12, n_13, n_15, n_20, n_24, n_27, n_31, n_32, n_33, n_36, n_44, n_48, n_50, n_57, n_58, n_59, n_72, n_74, n_75, n_85, n_91, n_96, n_97, n_99, n_122, n_255, n_300, n_432, n_600, n_900, n_999, n_1000, n_1291, n_1399, n_2798, n_11192, n_65536, n_65537, n_99999999, n_1000000, nI_add, pk_mul, q_le, q_lt, q_eq, q_cl, q_gi, q_gz, q_sub, q_div, q_dm, d_dm, q_m1, q_mn, q_nm, q_mlt, q_ltm, q_mle, q_lem, q_mm, Option.bind_some, if_true, if_false, Nat.add_zero, ite_self, q_us, q_un, decide_true, decide_false, Bool.false_eq_true, eq_self, and_self, and_true, true_and, and_false, false_and, or_true, true_or, or_false, false_or, d_ltT, d_ltF, d_leT, d_leF, d_eqT, d_eqF, f_X7_isNamed_L24, f_X7_isNamed_L24_F, e_at, Nat.mul_comm p 4, ha, hy]
      simp [hc, bI]
theorem e_isNamed {N : Nat} {g : Nat → Nat} {ln lt : Nat → Int32} {b : Nat → Nat} {L s e : Nat} {tb : Nat → Int32} {p : Nat} (hN : 1000 < N) (hB : okB g) (hP : okP g) (hR : NR g ln lt) (hT : TR b L tb) (hp : p < g 4) (hse : s ≤ e) (he : e ≤ L) : f_X7_isNamed N ln lt (nI L) tb (nI p) (nI s) (nI e) = some (bI (@decide (wdOk b s (e - s) ∧ nC g p = wdC b s (e - s)) (Classical.propDecidable _))) := by
  have h4 := b_4 hB
  have hl := @nL_le (nC g p)
  have hL := hT.1
  have hn := (hR p hp).1
  have hw := wd_named (b := b) (s := s) (n := e - s) (hP.1 p hp)
  by_cases hc : nL (nC g p) = e - s
  · simp (disch := omega) only [n_0, n_1, n_2, n_3, n_4, n_5, n_6, n_7, n_8, n_9, n_10, n_12, n_13, n_15, n_20, n_24, n_27, n_31, n_32, n_33, n_36, n_44, n_48, n_50, n_57, n_58, n_59, n_72, n_74, n_75, n_85, n_91, n_96, n_97, n_99, n_122, n_255, n_300, n_432, n_600, n_900, n_999, n_1000, n_1291, n_1399, n_2798, n_11192, n_65536, n_65537, n_99999999, n_1000000, nI_add, pk_mul, q_le, q_lt, q_eq, q_cl, q_gi, q_gz, q_sub, q_div, q_dm, d_dm, q_m1, q_mn, q_nm, q_mlt, q_ltm, q_mle, q_lem, q_mm, Option.bind_some, if_true, if_false, Nat.add_zero, ite_self, q_us, q_un, decide_true, decide_false, Bool.false_eq_true, eq_self, and_self, and_true, true_and, and_false, false_and, or_true, true_or, or_false, false_or, d_ltT, d_ltF, d_leT, d_leF, d_eqT, d_eqF, f_X7_isNamed, e_at, hn]
    refine (e_namedL hB hR hT hp (by omega) (nL (nC g p)) 0 N (by omega) (by omega)).trans ?_
    congr 2
    cases ha : anyF (fun i => decide (nA (nC g p) i ≠ b (s + i))) (nL (nC g p)) 0
    · refine (@decide_eq_true _ (Classical.propDecidable _) (hw.mp ⟨hc, fun i hi => ?_⟩)).symm
      have := anyF_f ha i (Nat.zero_le _) (by omega)
      simpa using this
    · refine (@decide_eq_false _ (Classical.propDecidable _) (fun q => ?_)).symm
      obtain ⟨j, h1, h2, h3⟩ := anyF_t ha
      have := (hw.mpr q).2 j (by omega)
      simp [this] at h3
  · simp (disch := omega) only [n_0, n_1, n_2, n_3, n_4, n_5, n_6, n_7, n_8, n_9, n_10, n_12, n_13, n_15, n_20, n_24, n_27, n_31, n_32, n_33, n_36, n_44, n_48, n_50, n_57, n_58, n_59, n_72, n_74, n_75, n_85, n_91, n_96, n_97, n_99, n_122, n_255, n_300, n_432, n_600, n_900, n_999, n_1000, n_1291, n_1399, n_2798, n_11192, n_65536, n_65537, n_99999999, n_1000000, nI_add, pk_mul, q_le, q_lt, q_eq, q_cl, q_gi, q_gz, q_sub, q_div, q_dm, d_dm, q_m1, q_mn, q_nm, q_mlt, q_ltm, q_mle, q_lem, q_mm, Option.bind_some, if_true, if_false, Nat.add_zero, ite_self, q_us, q_un, decide_true, decide_false, Bool.false_eq_true, eq_self, and_self, and_true, true_and, and_false, false_and, or_true, true_or, or_false, false_or, d_ltT, d_ltF, d_leT, d_leF, d_eqT, d_eqF, f_X7_isNamed, e_at, hn]
    rw [@decide_eq_false _ (Classical.propDecidable _) (fun q => hc (hw.mpr q).1)]
    rfl
theorem e_findL {N : Nat} {g : Nat → Nat} {ln lt : Nat → Int32} {b : Nat → Nat} {L s e : Nat} {tb : Nat → Int32} (hN : 1000 < N) (hB : okB g) (hP : okP g) (hR : NR g ln lt) (hT : TR b L tb) (hse : s ≤ e) (he : e ≤ L) : ∀ k i j : Nat, i + k = g 4 → k < j → f_X7_find_L3 N (nI (g 4)) ln lt (nI L) tb j (nI s) (nI e) (nI i) = some (srch (fun p => @decide (wdOk b s (e - s) ∧ nC g p = wdC b s (e - s)) (Classical.propDecidable _)) k i) := by
  have h4 := b_4 hB
  intro k
  induction k with
  | zero =>
    intro i j h1 h2
    obtain ⟨j, rfl⟩ : ∃ t, j = t + 1 := ⟨j - 1, by omega⟩
    simp (disch := omega) only [n_0, n_1, n_2, n_3, n_4, n_5, n_6, n_7, n_8, n_9, n_10, n_12, n_13, n_15, n_20, n_24, n_27, n_31, n_32, n_33, n_36, n_44, n_48, n_50, n_57, n_58, n_59, n_72, n_74, n_75, n_85, n_91, n_96, n_97, n_99, n_122, n_255, n_300, n_432, n_600, n_900, n_999, n_1000, n_1291, n_1399, n_2798, n_11192, n_65536, n_65537, n_99999999, n_1000000, nI_add, pk_mul, q_le, q_lt, q_eq, q_cl, q_gi, q_gz, q_sub, q_div, q_dm, d_dm, q_m1, q_mn, q_nm, q_mlt, q_ltm, q_mle, q_lem, q_mm, Option.bind_some, if_true, if_false, Nat.add_zero, ite_self, q_us, q_un, decide_true, decide_false, Bool.false_eq_true, eq_self, and_self, and_true, true_and, and_false, false_and, or_true, true_or, or_false, false_or, d_ltT, d_ltF, d_leT, d_leF, d_eqT, d_eqF, f_X7_find_L3, f_X7_find_L3_F]
    rfl
  | succ k ih =>
    intro i j h1 h2
    obtain ⟨j, rfl⟩ : ∃ t, j = t + 1 := ⟨j - 1, by omega⟩
    have hb := e_isNamed hN hB hP hR hT (show i < g 4 by omega) hse he
    have hi := ih (i + 1) j (by omega) (by omega)
    unfold srch
    cases hc : @decide (wdOk b s (e - s) ∧ nC g i = wdC b s (e - s)) (Classical.propDecidable _)
    · rw [hc] at hb
      simp (disch := omega) only [n_0, n_1, n_2, n_3, n_4, n_5, n_6, n_7, n_8, n_9, n_10, n_12, n_13, n_15, n_20, n_24, n_27, n_31, n_32, n_33, n_36, n_44, n_48, n_50, n_57, n_58, n_59, n_72, n_74, n_75, n_85, n_91, n_96, n_97, n_99, n_122, n_255, n_300, n_432, n_600, n_900, n_999, n_1000, n_1291, n_1399, n_2798, n_11192, n_65536, n_65537, n_99999999, n_1000000, nI_add, pk_mul, q_le, q_lt, q_eq, q_cl, q_gi, q_gz, q_sub, q_div, q_dm, d_dm, q_m1, q_mn, q_nm, q_mlt, q_ltm, q_mle, q_lem, q_mm, Option.bind_some, if_true, if_false, Nat.add_zero, ite_self, q_us, q_un, decide_true, decide_false, Bool.false_eq_true, eq_self, and_self, and_true, true_and, and_false, false_and, or_true, true_or, or_false, false_or, d_ltT, d_ltF, d_leT, d_leF, d_eqT, d_eqF, f_X7_find_L3, f_X7_find_L3_F, hb, q_b0, Bool.false_eq_true]
      exact hi
    · rw [hc] at hb
      simp (disch := omega) only [n_0, n_1, n_2, n_3, n_4, n_5, n_6, n_7, n_8, n_9, n_10, n_12, n_13, n_15, n_20, n_24, n_27, n_31, n_32, n_33, n_36, n_44, n_48, n_50, n_57, n_58, n_59, n_72, n_74, n_75, n_85, n_91, n_96, n_97, n_99, n_122, n_255, n_300, n_432, n_600, n_900, n_999, n_1000, n_1291, n_1399, n_2798, n_11192, n_65536, n_65537, n_99999999, n_1000000, nI_add, pk_mul, q_le, q_lt, q_eq, q_cl, q_gi, q_gz, q_sub, q_div, q_dm, d_dm, q_m1, q_mn, q_nm, q_mlt, q_ltm, q_mle, q_lem, q_mm, Option.bind_some, if_true, if_false, Nat.add_zero, ite_self, q_us, q_un, decide_true, decide_false, Bool.false_eq_true, eq_self, and_self, and_true, true_and, and_false, false_and, or_true, true_or, or_false, false_or, d_ltT, d_ltF, d_leT, d_leF, d_eqT, d_eqF, f_X7_find_L3, f_X7_find_L3_F, hb, q_b0, Bool.true_eq_false]
theorem e_find {N : Nat} {g : Nat → Nat} {ln lt : Nat → Int32} {b : Nat → Nat} {L s e : Nat} {tb : Nat → Int32} (hN : 1000 < N) (hB : okB g) (hP : okP g) (hR : NR g ln lt) (hT : TR b L tb) (hse : s ≤ e) (he : e ≤ L) : f_X7_find N (nI (g 4)) ln lt (nI L) tb (nI s) (nI e) = some (gFind g b s (e - s)) := by
  have h4 := b_4 hB
  exact e_findL hN hB hP hR hT hse he (g 4) 0 N (by omega) (by omega)
