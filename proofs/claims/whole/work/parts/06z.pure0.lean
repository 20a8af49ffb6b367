/-! the static methods over numbers: no machine from here on -/
theorem gd_t {α : Type} {b : Bool} {e : Option α} (h : b = true) : gd b e = e := by
  unfold gd
  rw [if_pos h]
theorem bd {α β : Type} {x : Option α} {a : α} {g : α → Option β} (h : x = some a) : x.bind g = g a := by
  rw [h]
  rfl
theorem sbd_r {α β : Type} {x : Option (String ⊕ α)} {a : α} {g : α → Option (String ⊕ β)} (h : x = some (.inr a)) : sbd x g = g a := by
  rw [h]
  rfl
theorem sbd_l {α β : Type} {x : Option (String ⊕ α)} {C : String} {g : α → Option (String ⊕ β)} (h : x = some (.inl C)) : sbd x g = some (.inl C) := by
  rw [h]
  rfl
theorem inb_t {i n : Nat} (h : i < n) (hn : n < 2 ^ 31) : inb (nI i) n = true := decide_eq_true (nI_in h hn)
theorem nz_t {i : Nat} (h : 0 < i) (hn : i < 2 ^ 31) : nz (nI i) = true := decide_eq_true (nI_ne0 h hn)
theorem e_at {n i : Nat} {f : Nat → Int32} (h : i < n) (hn : n < 2 ^ 31) : f_X10_at n f (nI i) = some (f i) := by
  unfold f_X10_at
  rw [if_neg (nI_pos (by omega)), if_neg (nI_ge h hn), gd_t (inb_t h hn), nI_clamp (by omega)]
theorem e_at_ge {n i : Nat} {f : Nat → Int32} (h : n ≤ i) (hi : i < 2 ^ 31) : f_X10_at n f (nI i) = some 0 := by
  unfold f_X10_at
  rw [if_neg (nI_pos hi), if_pos (nI_le h hi)]
theorem e_at_neg {n : Nat} {f : Nat → Int32} {x : Int32} (h : x < 0) : f_X10_at n f x = some 0 := by
  unfold f_X10_at
  rw [if_pos h]
theorem e_put {n i : Nat} {f : Nat → Int32} {v : Int32} (h : i < n) (hn : n < 2 ^ 31) : f_X10_put n f (nI i) v = some (upd f i v) := by
  unfold f_X10_put
  rw [if_neg (nI_pos (by omega)), if_neg (nI_ge h hn), gd_t (inb_t h hn), nI_clamp (by omega)]
theorem e_copyRow {n : Nat} {f g : Nat → Int32} (hn : n < 2 ^ 31) : f_X10_copyRow n f n g = some (va_cpy f g 0 0 n) := by
  have h0 : (0 : Int32).toNatClampNeg = 0 := by decide +kernel
  unfold f_X10_copyRow
  rw [if_pos rfl, gd_t, h0, nI_clamp hn]
  refine decide_eq_true ⟨by decide +kernel, by decide +kernel, nI_pos hn, ?_, ?_⟩
  · rw [h0, nI_clamp hn]; omega
  · rw [h0, nI_clamp hn]; omega
theorem cpy_lt {f g : Nat → Int32} {n k : Nat} (h : k < n) : va_cpy f g 0 0 n k = f k := by
  unfold va_cpy
  rw [if_pos ⟨Nat.zero_le _, by omega⟩]
  congr 1
  omega
theorem upd_s {f : Nat → Int32} {i : Nat} {v : Int32} : upd f i v i = v := by
  unfold upd
  simp
theorem upd_n {f : Nat → Int32} {i k : Nat} {v : Int32} (h : k ≠ i) : upd f i v k = f k := by
  unfold upd
  simp [h]
theorem nI_k1 : (1 : Int32) = nI 1 := by decide +kernel
theorem nI_k2 : (2 : Int32) = nI 2 := by decide +kernel
theorem nI_k4 : (4 : Int32) = nI 4 := by decide +kernel
theorem nI_k6 : (6 : Int32) = nI 6 := by decide +kernel
theorem nI_k12 : (12 : Int32) = nI 12 := by decide +kernel
theorem e_cell {p c : Nat} (hc : 1 ≤ c) : f_X10_cellOf (nI p) (nI c) = some (nI (12 * p + (c - 1))) := by
  unfold f_X10_cellOf
  rw [nI_k12, pk_mul, nI_add, nI_k1, pk_sub (by omega)]
  congr 2
  omega
theorem e_pair {p d : Nat} : f_X10_pairOf (nI p) (nI d) = some (nI (6 * p + d)) := by
  unfold f_X10_pairOf
  rw [nI_k6, pk_mul, nI_add]
  congr 2
  omega
theorem e_playerOf {q : Nat} (h : q < 2 ^ 31) : f_X10_playerOf (nI q) = some (nI (q / 6)) := by
  unfold f_X10_playerOf
  rw [nI_k6, pk_div h (by decide) (by decide)]
theorem e_dieOf {q : Nat} (h : q < 2 ^ 31) : f_X10_dieOf (nI q) = some (nI (q % 6)) := by
  unfold f_X10_dieOf
  rw [nI_k6, pk_rem h (by decide) (by decide)]
/-- the next seed -/
def gNx (s : Nat) : Nat := (75 * s + 74) % 65537
theorem gNx_lt (s : Nat) : gNx s ≤ 65536 := by
  have := Nat.mod_lt (75 * s + 74) (show 0 < 65537 by decide)
  unfold gNx
  omega
theorem e_next {s : Nat} (h : s ≤ 65536) : f_X10_nextSeed (nI s) = some (nI (gNx s)) := by
  unfold f_X10_nextSeed gNx
  rw [show (75 : Int32) = nI 75 by decide +kernel, show (74 : Int32) = nI 74 by decide +kernel, show (65537 : Int32) = nI 65537 by decide +kernel, pk_mul, nI_add, pk_rem (by omega) (by decide) (by decide)]
/-- a sum from below -/
def sumTo : Nat → (Nat → Nat) → Nat
  | 0, _ => 0
  | k + 1, g => sumTo k g + g k
theorem sumTo_congr {f g : Nat → Nat} : ∀ {n : Nat}, (∀ k, k < n → f k = g k) → sumTo n f = sumTo n g
  | 0, _ => rfl
  | n + 1, h => by
    show sumTo n f + f n = sumTo n g + g n
    rw [sumTo_congr (n := n) (fun k hk => h k (by omega)), h n (by omega)]
theorem sumTo_add {f g : Nat → Nat} : ∀ (n : Nat), sumTo n (fun k => f k + g k) = sumTo n f + sumTo n g
  | 0 => rfl
  | n + 1 => by
    show sumTo n (fun k => f k + g k) + (f n + g n) = (sumTo n f + f n) + (sumTo n g + g n)
    rw [sumTo_add n]
    omega
theorem sumTo_zero : ∀ (n : Nat), sumTo n (fun _ => 0) = 0
  | 0 => rfl
  | n + 1 => by
    show sumTo n (fun _ => 0) + 0 = 0
    rw [sumTo_zero n]
theorem sumTo_le {f : Nat → Nat} {b : Nat} : ∀ {n : Nat}, (∀ k, k < n → f k ≤ b) → sumTo n f ≤ n * b
  | 0, _ => Nat.zero_le _
  | n + 1, h => by
    show sumTo n f + f n ≤ (n + 1) * b
    have h1 := sumTo_le (n := n) (fun k hk => h k (by omega))
    have h2 := h n (by omega)
    rw [Nat.add_mul]
    omega
theorem sumTo_mono {f : Nat → Nat} {m : Nat} : ∀ {n : Nat}, m ≤ n → sumTo m f ≤ sumTo n f
  | 0, h => by
    have : m = 0 := by omega
    subst this
    exact Nat.le_refl _
  | n + 1, h => by
    rcases Nat.lt_or_ge n m with h1 | h1
    · have : m = n + 1 := by omega
      subst this
      exact Nat.le_refl _
    · exact Nat.le_trans (sumTo_mono (n := n) h1) (Nat.le_add_right _ _)
theorem sumTo_one {n a c : Nat} (h : a < n) : sumTo n (fun k => if k = a then c else 0) = c := by
  induction n with
  | zero => omega
  | succ n ih =>
    show sumTo n (fun k => if k = a then c else 0) + (if n = a then c else 0) = c
    by_cases hn : n = a
    · subst hn
      have h0 : sumTo n (fun k => if k = n then c else 0) = sumTo n (fun _ => 0) := sumTo_congr (fun k hk => if_neg (by omega))
      rw [h0, sumTo_zero, if_pos rfl]
      omega
    · rw [ih (by omega), if_neg hn]
theorem sumTo_none {n a c : Nat} (h : n ≤ a) : sumTo n (fun k => if k = a then c else 0) = 0 := by
  rw [sumTo_congr (g := fun _ => 0) (fun k hk => if_neg (by omega)), sumTo_zero]
/-- a sum of sums, by the rows' width -/
theorem sumTo_mul {w : Nat} {f : Nat → Nat} : ∀ (n : Nat), sumTo (n * w) f = sumTo n (fun i => sumTo w (fun j => f (i * w + j)))
  | 0 => by
    rw [Nat.zero_mul]
    rfl
  | n + 1 => by
    show _ = sumTo n (fun i => sumTo w (fun j => f (i * w + j))) + sumTo w (fun j => f (n * w + j))
    rw [← sumTo_mul n, Nat.succ_mul]
    clear sumTo_mul
    generalize n * w = a
    induction w with
    | zero => rfl
    | succ w ih =>
      show sumTo (a + w) f + f (a + w) = sumTo a f + (sumTo w (fun j => f (a + j)) + f (a + w))
      rw [ih]
      omega
theorem e_sumL {N n a k : Nat} {f : Nat → Int32} {g : Nat → Nat} (hk : a + k ≤ n) (hn : n < 2 ^ 30) (hf : ∀ t, t < k → f (a + t) = nI (g t)) : ∀ j i : Nat, i ≤ k → k < i + j → f_X10_sumOf_L5 N n f j (nI a) (nI k) (nI (sumTo i g)) (nI i) = some (nI (sumTo k g)) := by
  intro j
  induction j with
  | zero => intro i h1 h2; omega
  | succ j ih =>
    intro i h1 h2
    show f_X10_sumOf_L5_F N n f (f_X10_sumOf_L5 N n f j) (nI a) (nI k) (nI (sumTo i g)) (nI i) = _
    unfold f_X10_sumOf_L5_F
    by_cases h : k ≤ i
    · have e : i = k := by omega
      subst e
      rw [if_pos (nI_le (Nat.le_refl _) (by omega))]
    · rw [if_neg (nI_ge (by omega) (by omega)), nI_add, if_neg (nI_pos (by omega)), if_neg (nI_ge (by omega) (by omega)), gd_t (inb_t (by omega) (by omega)), nI_clamp (by omega), hf i (by omega)]
      unfold f_X10_sumOf_L38
      rw [nI_add, nI_1]
      exact ih (i + 1) (by omega) (by omega)
theorem e_sum {N n a k : Nat} {f : Nat → Int32} (g : Nat → Nat) (hk : a + k ≤ n) (hn : n < 2 ^ 30) (hN : k < N) (hf : ∀ t, t < k → f (a + t) = nI (g t)) : f_X10_sumOf N n f (nI a) (nI k) = some (nI (sumTo k g)) := by
  have h := e_sumL (N := N) hk hn hf N 0 (Nat.zero_le _) (by omega)
  rw [show sumTo 0 g = 0 from rfl, nI_0] at h
  exact h
/-- the first greatest: (number, value) after k cells, numbers from 1, none below 1 -/
def gMax (g : Nat → Nat) : Nat → Nat × Nat
  | 0 => (0, 0)
  | k + 1 => if g k ≤ (gMax g k).2 then gMax g k else (k + 1, g k)
/-- the number that stands for it: none is -1 -/
def gNum (m : Nat) : Int32 := if m = 0 then -1 else nI m
theorem gMax_bd {g : Nat → Nat} {b : Nat} (hb : ∀ k, g k < b) : ∀ k, (gMax g k).1 ≤ k ∧ ((gMax g k).2 = 0 ∨ (gMax g k).2 < b) := by
  intro k
  induction k with
  | zero => exact ⟨Nat.le_refl _, Or.inl rfl⟩
  | succ k ih =>
    unfold gMax
    by_cases h : g k ≤ (gMax g k).2
    · rw [if_pos h]; exact ⟨by omega, ih.2⟩
    · rw [if_neg h]; exact ⟨Nat.le_refl _, Or.inr (hb k)⟩
theorem e_greatL {N n a k : Nat} {f : Nat → Int32} {g : Nat → Nat} (hk : a + k ≤ n) (hn : n < 2 ^ 30) (hb : ∀ t, g t < 2 ^ 31) (hf : ∀ t, t < k → f (a + t) = nI (g t)) : ∀ j i : Nat, i ≤ k → k < i + j → f_X10_greatestCell_L8 N n f j (nI a) (nI k) (gNum (gMax g i).1) (nI (gMax g i).2) (nI i) = some (gNum (gMax g k).1) := by
  intro j
  induction j with
  | zero => intro i h1 h2; omega
  | succ j ih =>
    intro i h1 h2
    show f_X10_greatestCell_L8_F N n f (f_X10_greatestCell_L8 N n f j) (nI a) (nI k) (gNum (gMax g i).1) (nI (gMax g i).2) (nI i) = _
    unfold f_X10_greatestCell_L8_F
    by_cases h : k ≤ i
    · have e : i = k := by omega
      subst e
      rw [if_pos (nI_le (Nat.le_refl _) (by omega))]
    · have hm := (gMax_bd hb i).2
      rw [if_neg (nI_ge (by omega) (by omega)), nI_add, bd (e_at (by omega) (by omega)), hf i (by omega)]
      have hi := ih (i + 1) (by omega) (by omega)
      rw [show gMax g (i + 1) = if g i ≤ (gMax g i).2 then gMax g i else (i + 1, g i) from rfl] at hi
      by_cases hc : g i ≤ (gMax g i).2
      · rw [if_pos hc] at hi
        rw [if_pos (nI_le hc (by omega))]
        unfold f_X10_greatestCell_L40
        rw [nI_1]
        exact hi
      · rw [if_neg hc] at hi
        rw [if_neg (nI_ge (by omega) (hb i))]
        unfold f_X10_greatestCell_L40
        rw [nI_1]
        rw [show gNum (i + 1, g i).1 = nI (i + 1) from if_neg (by simp)] at hi
        exact hi
theorem e_great {N n a k : Nat} {f : Nat → Int32} (g : Nat → Nat) (hk : a + k ≤ n) (hn : n < 2 ^ 30) (hN : k < N) (hb : ∀ t, g t < 2 ^ 31) (hf : ∀ t, t < k → f (a + t) = nI (g t)) : f_X10_greatestCell N n f (nI a) (nI k) = some (gNum (gMax g k).1) := by
  have h := e_greatL (N := N) hk hn hb hf N 0 (Nat.zero_le _) (by omega)
  rw [show (gMax g 0) = (0, 0) from rfl, show gNum ((0 : Nat), (0 : Nat)).1 = -1 from rfl, show nI ((0 : Nat), (0 : Nat)).2 = 0 from nI_0, nI_0] at h
  exact h
/-- a distance -/
def gSq (a b : Nat) : Nat := if a ≤ b then (b - a) * (b - a) else (a - b) * (a - b)
theorem e_sq {a b : Nat} (ha : a < 2 ^ 30) (hb : b < 2 ^ 30) : (nI a - nI b) * (nI a - nI b) = nI (gSq a b) := by
  unfold gSq
  by_cases h : a ≤ b
  · rw [if_pos h]
    have e : nI a - nI b = -nI (b - a) := by
      apply Int32.toInt_inj.mp
      rw [pk_sub_toInt ha hb, sb_negT (by omega)]
      omega
    rw [e, Int32.neg_mul, Int32.mul_neg, Int32.neg_neg, pk_mul]
  · rw [if_neg h, pk_sub (by omega), pk_mul]
theorem gSq_le {a b M : Nat} (ha : a ≤ M) (hb : b ≤ M) : gSq a b ≤ M * M := by
  unfold gSq
  split
  · exact Nat.mul_le_mul (by omega) (by omega)
  · exact Nat.mul_le_mul (by omega) (by omega)
/-- the test of k frequencies -/
def gTest (g : Nat → Nat) (k : Nat) : Nat := if sumTo k g * k = 0 then 0 else sumTo k (fun t => gSq (k * g t) (sumTo k g)) / (sumTo k g * k)
theorem e_testL {N n a k : Nat} {f : Nat → Int32} {g : Nat → Nat} (S : Nat) (hk : a + k ≤ n) (hn : n < 2 ^ 30) (hD : 0 < S * k) (hD2 : S * k < 2 ^ 31) (hs : sumTo k (fun t => gSq (k * g t) S) < 2 ^ 31) (hS : S < 2 ^ 30) (hg : ∀ t, t < k → k * g t < 2 ^ 30) (hf : ∀ t, t < k → f (a + t) = nI (g t)) : ∀ j i : Nat, i ≤ k → k < i + j → f_X10_testScore_L25 N n f j (nI a) (nI k) (nI S) (nI (S * k)) (nI (sumTo i (fun t => gSq (k * g t) S))) (nI i) = some (nI (sumTo k (fun t => gSq (k * g t) S) / (S * k))) := by
  intro j
  induction j with
  | zero => intro i h1 h2; omega
  | succ j ih =>
    intro i h1 h2
    show f_X10_testScore_L25_F N n f (f_X10_testScore_L25 N n f j) (nI a) (nI k) (nI S) (nI (S * k)) (nI (sumTo i (fun t => gSq (k * g t) S))) (nI i) = _
    unfold f_X10_testScore_L25_F
    by_cases h : k ≤ i
    · have e : i = k := by omega
      subst e
      rw [if_pos (nI_le (Nat.le_refl _) (by omega)), gd_t (nz_t hD hD2), pk_div hs hD hD2]
    · rw [if_neg (nI_ge (by omega) (by omega)), nI_add, bd (e_at (by omega) (by omega)), hf i (by omega), pk_mul, e_sq (hg i (by omega)) hS, nI_add, nI_1]
      exact ih (i + 1) (by omega) (by omega)
theorem e_test {N n a k : Nat} {f : Nat → Int32} (g : Nat → Nat) (hk : a + k ≤ n) (hn : n < 2 ^ 30) (hN : k < N) (h12 : k ≤ 12) (h300 : sumTo k g ≤ 300) (hf : ∀ t, t < k → f (a + t) = nI (g t)) : f_X10_testScore N n f (nI a) (nI k) = some (nI (gTest g k)) := by
  unfold f_X10_testScore gTest
  rw [bd (e_sum g hk hn hN hf), pk_mul]
  have hb : sumTo k g * k ≤ 300 * 12 := Nat.mul_le_mul h300 h12
  by_cases h : sumTo k g * k = 0
  · rw [if_pos h, h, nI_0, if_neg (by decide), ← nI_0]
  · have hg : ∀ t, t < k → g t ≤ 300 := fun t ht => by
      have h1 : sumTo (t + 1) g ≤ sumTo k g := sumTo_mono (by omega)
      have h2 : sumTo (t + 1) g = sumTo t g + g t := rfl
      omega
    have hs : sumTo k (fun t => gSq (k * g t) (sumTo k g)) ≤ k * (3600 * 3600) := sumTo_le (fun t ht => gSq_le (Nat.le_trans (Nat.mul_le_mul h12 (hg t ht)) (by decide)) (by omega))
    have hs2 : k * (3600 * 3600) ≤ 12 * (3600 * 3600) := Nat.mul_le_mul_right _ h12
    rw [if_neg h, if_pos (by rw [← nI_0]; exact nI_lt (by omega) (by omega))]
    have q := e_testL (N := N) (f := f) (a := a) (sumTo k g) hk hn (by omega) (by omega) (by omega) (by omega) (fun t ht => Nat.lt_of_le_of_lt (Nat.mul_le_mul h12 (hg t ht)) (by decide)) hf N 0 (Nat.zero_le _) (by omega)
    rw [show sumTo 0 (fun t => gSq (k * g t) (sumTo k g)) = 0 from rfl, nI_0] at q
    exact q
theorem e_fillL {N n : Nat} {v : Int32} (hn : n < 2 ^ 30) : ∀ (j i : Nat) (f : Nat → Int32), i ≤ n → n < i + j → ∃ f', f_J7_fill_53178_L5 N n j v (nI i) (nI n) f = some f' ∧ (∀ t, i ≤ t → t < n → f' t = v) ∧ ∀ t, t < i → f' t = f t := by
  intro j
  induction j with
  | zero => intro i f h1 h2; omega
  | succ j ih =>
    intro i f h1 h2
    show ∃ f', f_J7_fill_53178_L5_F N n (f_J7_fill_53178_L5 N n j) v (nI i) (nI n) f = some f' ∧ _
    unfold f_J7_fill_53178_L5_F
    by_cases h : n ≤ i
    · have e : i = n := by omega
      subst e
      rw [if_pos (nI_le (Nat.le_refl _) (by omega))]
      exact ⟨f, rfl, fun t h3 h4 => absurd h4 (by omega), fun t _ => rfl⟩
    · rw [if_neg (nI_ge (by omega) (by omega)), gd_t (inb_t (by omega) (by omega)), nI_clamp (by omega), nI_1]
      obtain ⟨f', e1, e2, e3⟩ := ih (i + 1) (upd f i v) (by omega) (by omega)
      refine ⟨f', e1, fun t h3 h4 => ?_, fun t h3 => ?_⟩
      · rcases Nat.lt_or_ge i t with h5 | h5
        · exact e2 t h5 h4
        · have e : t = i := by omega
          subst e
          rw [e3 t (by omega), upd_s]
      · rw [e3 t (by omega), upd_n (by omega)]
theorem e_fill {N n : Nat} {v : Int32} (hn : n < 2 ^ 30) (hN : n < N) (f : Nat → Int32) : ∃ f', f_J7_fill_53178 N n f v = some f' ∧ ∀ t, t < n → f' t = v := by
  obtain ⟨f', e1, e2, -⟩ := e_fillL (N := N) (v := v) hn N 0 f (Nat.zero_le _) (by omega)
  rw [nI_0] at e1
  exact ⟨f', e1, fun t ht => e2 t (Nat.zero_le _) ht⟩
theorem e_rangeT {v a b : Int32} (h1 : ¬ v < a) (h2 : v ≤ b) : f_X10_requireRange v a b = some (.inr ()) := by
  unfold f_X10_requireRange
  rw [if_neg h1, if_pos h2]
theorem e_rangeF {v a b : Int32} (h : v < a ∨ ¬ v ≤ b) : f_X10_requireRange v a b = some (.inl "java/lang/IllegalArgumentException") := by
  unfold f_X10_requireRange f_X10_requireRange_L10
  by_cases h1 : v < a
  · rw [if_pos h1]
  · rw [if_neg h1, if_neg (h.elim (fun q => absurd q h1) id)]
theorem e_indexT {v b : Int32} (h1 : ¬ v < 0) (h2 : v < b) : f_X10_requireIndex v b = some (.inr ()) := by
  unfold f_X10_requireIndex
  rw [if_neg h1, if_pos h2]
theorem e_indexF {v b : Int32} (h : v < 0 ∨ ¬ v < b) : f_X10_requireIndex v b = some (.inl "java/lang/IndexOutOfBoundsException") := by
  unfold f_X10_requireIndex f_X10_requireIndex_L9
  by_cases h1 : v < 0
  · rw [if_pos h1]
  · rw [if_neg h1, if_neg (h.elim (fun q => absurd q h1) id)]
theorem sub_step {a c : Nat} (ha : a < 2 ^ 29) (hc : c + 1 < 2 ^ 29) : nI a - nI c + (-1) = nI a - nI (c + 1) := by
  apply Int32.toInt_inj.mp
  rw [Int32.toInt_add, pk_sub_toInt (by omega) (by omega), pk_sub_toInt (by omega) (by omega), show (-1 : Int32).toInt = -1 by decide +kernel, Int.bmod_eq_of_le (by omega) (by omega)]
  omega
theorem sub_le0 {a b : Nat} (ha : a < 2 ^ 30) (hb : b < 2 ^ 30) : nI a - nI b ≤ 0 ↔ a ≤ b := by
  rw [Int32.le_iff_toInt_le, pk_sub_toInt ha hb, show (0 : Int32).toInt = 0 by decide]
  omega
