/-! numbers: no machine in what follows -/
theorem n_0 : (0 : Int32) = nI 0 := (rfl)
theorem n_1 : (1 : Int32) = nI 1 := (rfl)
theorem n_2 : (2 : Int32) = nI 2 := (rfl)
theorem n_3 : (3 : Int32) = nI 3 := (rfl)
theorem n_4 : (4 : Int32) = nI 4 := (rfl)
theorem n_5 : (5 : Int32) = nI 5 := (rfl)
theorem n_6 : (6 : Int32) = nI 6 := (rfl)
theorem n_7 : (7 : Int32) = nI 7 := (rfl)
theorem n_8 : (8 : Int32) = nI 8 := (rfl)
theorem n_9 : (9 : Int32) = nI 9 := (rfl)
theorem n_10 : (10 : Int32) = nI 10 := (rfl)
theorem n_12 : (12 : Int32) = nI 12 := (rfl)
theorem n_13 : (13 : Int32) = nI 13 := (rfl)
theorem n_15 : (15 : Int32) = nI 15 := (rfl)
theorem n_20 : (20 : Int32) = nI 20 := (rfl)
theorem n_24 : (24 : Int32) = nI 24 := (rfl)
theorem n_27 : (27 : Int32) = nI 27 := (rfl)
theorem n_31 : (31 : Int32) = nI 31 := (rfl)
theorem n_32 : (32 : Int32) = nI 32 := (rfl)
theorem n_33 : (33 : Int32) = nI 33 := (rfl)
theorem n_36 : (36 : Int32) = nI 36 := (rfl)
theorem n_44 : (44 : Int32) = nI 44 := (rfl)
theorem n_48 : (48 : Int32) = nI 48 := (rfl)
theorem n_50 : (50 : Int32) = nI 50 := (rfl)
theorem n_57 : (57 : Int32) = nI 57 := (rfl)
theorem n_58 : (58 : Int32) = nI 58 := (rfl)
theorem n_59 : (59 : Int32) = nI 59 := (rfl)
theorem n_72 : (72 : Int32) = nI 72 := (rfl)
theorem n_74 : (74 : Int32) = nI 74 := (rfl)
theorem n_75 : (75 : Int32) = nI 75 := (rfl)
theorem n_85 : (85 : Int32) = nI 85 := (rfl)
theorem n_91 : (91 : Int32) = nI 91 := (rfl)
theorem n_96 : (96 : Int32) = nI 96 := (rfl)
theorem n_97 : (97 : Int32) = nI 97 := (rfl)
theorem n_99 : (99 : Int32) = nI 99 := (rfl)
theorem n_122 : (122 : Int32) = nI 122 := (rfl)
theorem n_255 : (255 : Int32) = nI 255 := (rfl)
theorem n_300 : (300 : Int32) = nI 300 := (rfl)
theorem n_432 : (432 : Int32) = nI 432 := (rfl)
theorem n_600 : (600 : Int32) = nI 600 := (rfl)
theorem n_900 : (900 : Int32) = nI 900 := (rfl)
theorem n_999 : (999 : Int32) = nI 999 := (rfl)
theorem n_1000 : (1000 : Int32) = nI 1000 := (rfl)
theorem n_1291 : (1291 : Int32) = nI 1291 := (rfl)
theorem n_1399 : (1399 : Int32) = nI 1399 := (rfl)
theorem n_2798 : (2798 : Int32) = nI 2798 := (rfl)
theorem n_11192 : (11192 : Int32) = nI 11192 := (rfl)
theorem n_65536 : (65536 : Int32) = nI 65536 := (rfl)
theorem n_65537 : (65537 : Int32) = nI 65537 := (rfl)
theorem n_99999999 : (99999999 : Int32) = nI 99999999 := (rfl)
theorem n_1000000 : (1000000 : Int32) = nI 1000000 := (rfl)
theorem q_le {a b : Nat} (ha : a < 2147483648) (hb : b < 2147483648) : (nI a ≤ nI b) = (a ≤ b) := propext (nI_leI ha hb)
theorem q_lt {a b : Nat} (ha : a < 2147483648) (hb : b < 2147483648) : (nI a < nI b) = (a < b) := propext (nI_ltI ha hb)
theorem q_eq {a b : Nat} (ha : a < 2147483648) (hb : b < 2147483648) : (nI a = nI b) = (a = b) := propext (nI_eq ha hb)
theorem q_cl {a : Nat} (ha : a < 2147483648) : Int32.toNatClampNeg (nI a) = a := nI_clamp ha
theorem q_sub {a b : Nat} (h : b ≤ a) : nI a - nI b = nI (a - b) := pk_sub h
theorem q_div {a b : Nat} (ha : a < 2147483648) (h0 : 0 < b) (hb : b < 2147483648) : nI a / nI b = nI (a / b) := pk_div ha h0 hb
theorem q_dm {a b : Nat} : nI a - nI (a / b * b) = nI (a % b) := by
  rw [pk_sub (Nat.div_mul_le_self a b)]
  congr 1
  have := Nat.div_add_mod a b
  rw [Nat.mul_comm] at this
  omega
theorem d_dm {a b : Nat} : a - a / b * b = a % b := by
  have := Nat.div_add_mod a b
  rw [Nat.mul_comm] at this
  omega
theorem q_m1 {a : Nat} (h : 0 < a) : nI a + -nI 1 = nI (a - 1) := by
  obtain ⟨b, rfl⟩ : ∃ b, a = b + 1 := ⟨a - 1, by omega⟩
  exact pk_m1 b
theorem q_gi {α : Type} {i n : Nat} {e : Option α} (h : i < n) (hn : n < 2147483648) : gd (inb (nI i) n) e = e := by
  unfold gd
  rw [if_pos]
  exact decide_eq_true (nI_in h hn)
theorem q_gz {α : Type} {i : Nat} {e : Option α} (h : 0 < i) (hn : i < 2147483648) : gd (nz (nI i)) e = e := by
  unfold gd
  rw [if_pos]
  exact decide_eq_true (nI_ne0 h hn)
theorem q_tm : (-nI 1).toInt = -1 := by decide +kernel
theorem q_mm : (-nI 1 = -nI 1) = True := eq_true rfl
theorem q_mn {a : Nat} (h : a < 2147483648) : (nI a = -nI 1) = False := by
  refine eq_false (fun e => ?_)
  have := congrArg Int32.toInt e
  rw [nI_toInt h, q_tm] at this
  omega
theorem q_nm2 (a : Nat) (h : a < 2147483648) : (nI a = -nI 1) = False := q_mn h
theorem q_nm {a : Nat} (h : a < 2147483648) : (-nI 1 = nI a) = False := by
  refine eq_false (fun e => ?_)
  have := congrArg Int32.toInt e
  rw [nI_toInt h, q_tm] at this
  omega
theorem q_mlt {a : Nat} (h : a < 2147483648) : (-nI 1 < nI a) = True := by
  refine eq_true ?_
  rw [Int32.lt_iff_toInt_lt, nI_toInt h, q_tm]
  omega
theorem q_ltm {a : Nat} (h : a < 2147483648) : (nI a < -nI 1) = False := by
  refine eq_false (fun e => ?_)
  rw [Int32.lt_iff_toInt_lt, nI_toInt h, q_tm] at e
  omega
theorem q_mle {a : Nat} (h : a < 2147483648) : (-nI 1 ≤ nI a) = True := by
  refine eq_true ?_
  rw [Int32.le_iff_toInt_le, nI_toInt h, q_tm]
  omega
theorem q_lem {a : Nat} (h : a < 2147483648) : (nI a ≤ -nI 1) = False := by
  refine eq_false (fun e => ?_)
  rw [Int32.le_iff_toInt_le, nI_toInt h, q_tm] at e
  omega
theorem q_us {f : Nat → Int32} {i j : Nat} {v : Int32} (h : j = i) : upd f i v j = v := by
  subst h
  exact pk_us
theorem q_un {f : Nat → Int32} {i j : Nat} {v : Int32} (h : j ≠ i) : upd f i v j = f j := pk_un h
theorem d_ltT {a b : Nat} (h : a < b) : (a < b) = True := eq_true h
theorem d_ltF {a b : Nat} (h : b ≤ a) : (a < b) = False := eq_false (by omega)
theorem d_leT {a b : Nat} (h : a ≤ b) : (a ≤ b) = True := eq_true h
theorem d_leF {a b : Nat} (h : b < a) : (a ≤ b) = False := eq_false (by omega)
theorem d_eqT {a b : Nat} (h : a = b) : (a = b) = True := eq_true h
theorem d_eqF {a b : Nat} (h : a ≠ b) : (a = b) = False := eq_false h
theorem eN {a b : Nat} (h : a = b) : some (nI a) = some (nI b) := by rw [h]
theorem cI {a b : Nat} (h : a = b) : nI a = nI b := by rw [h]
theorem nI_in2 {a b : Nat} (ha : a < 2147483648) (hb : b < 2147483648) (h : nI a = nI b) : a = b := (nI_eq ha hb).mp h
def bI (b : Bool) : Int32 := if b = true then nI 1 else nI 0
theorem q_b0 {b : Bool} : (bI b = nI 0) = (b = false) := by
  cases b
  · exact eq_true rfl |>.trans (eq_true rfl).symm
  · refine (eq_false ?_).trans (eq_false (by decide)).symm
    decide +kernel
/-- a difference against 0 -/
theorem q_d0 {a b : Nat} (ha : a < 1073741824) (hb : b < 1073741824) : (nI a - nI b = nI 0) = (a = b) := by
  refine propext ⟨fun h => ?_, fun h => ?_⟩
  · have := congrArg Int32.toInt h
    rw [pk_sub_toInt ha hb, nI_toInt (by omega)] at this
    omega
  · subst h
    rw [pk_sub (Nat.le_refl _), Nat.sub_self]
theorem q_d1 {a b : Nat} (ha : a < 1073741824) (hb : b < 1073741824) : (nI a - nI b ≤ nI 0) = (a ≤ b) := by
  rw [Int32.le_iff_toInt_le, pk_sub_toInt ha hb, nI_toInt (by omega)]
  exact propext ⟨fun h => by omega, fun h => by omega⟩
theorem q_d2 {a b : Nat} (ha : a < 1073741824) (hb : b < 1073741824) : (nI 0 ≤ nI a - nI b) = (b ≤ a) := by
  rw [Int32.le_iff_toInt_le, pk_sub_toInt ha hb, nI_toInt (by omega)]
  exact propext ⟨fun h => by omega, fun h => by omega⟩
/-- sums from below -/
def sumTo : Nat → (Nat → Nat) → Nat
  | 0, _ => 0
  | k + 1, g => sumTo k g + g k
theorem sumTo_s {k : Nat} {g : Nat → Nat} : sumTo (k + 1) g = sumTo k g + g k := rfl
theorem sumTo_0 {g : Nat → Nat} : sumTo 0 g = 0 := rfl
theorem sumTo_congr {f g : Nat → Nat} {n : Nat} (h : ∀ k, k < n → f k = g k) : sumTo n f = sumTo n g := by
  induction n with
  | zero => rfl
  | succ n ih => rw [sumTo_s, sumTo_s, ih (fun k hk => h k (by omega)), h n (by omega)]
theorem sumTo_add {f g : Nat → Nat} {n : Nat} : sumTo n (fun k => f k + g k) = sumTo n f + sumTo n g := by
  induction n with
  | zero => rfl
  | succ n ih => rw [sumTo_s, sumTo_s, sumTo_s, ih]; omega
theorem sumTo_zero {n : Nat} : sumTo n (fun _ => 0) = 0 := by
  induction n with
  | zero => rfl
  | succ n ih => rw [sumTo_s, ih]
theorem sumTo_z {n : Nat} {f : Nat → Nat} (h : ∀ k, k < n → f k = 0) : sumTo n f = 0 := by rw [sumTo_congr h, sumTo_zero]
theorem sumTo_mul {n c : Nat} {f : Nat → Nat} : sumTo n (fun k => c * f k) = c * sumTo n f := by
  induction n with
  | zero => rfl
  | succ n ih => rw [sumTo_s, sumTo_s, ih, Nat.mul_add]
theorem sumTo_swap {n m : Nat} {f : Nat → Nat → Nat} : sumTo n (fun i => sumTo m (fun j => f i j)) = sumTo m (fun j => sumTo n (fun i => f i j)) := by
  induction n with
  | zero => rw [sumTo_0]; exact (sumTo_zero).symm
  | succ n ih => rw [sumTo_s, ih, ← sumTo_add]; rfl
theorem sumTo_le {f : Nat → Nat} {b n : Nat} (h : ∀ k, k < n → f k ≤ b) : sumTo n f ≤ n * b := by
  induction n with
  | zero => exact Nat.zero_le _
  | succ n ih =>
    have h1 := ih (fun k hk => h k (by omega))
    have h2 := h n (by omega)
    rw [sumTo_s, Nat.succ_mul]
    omega
theorem sumTo_le2 {f g : Nat → Nat} {n : Nat} (h : ∀ k, k < n → f k ≤ g k) : sumTo n f ≤ sumTo n g := by
  induction n with
  | zero => exact Nat.le_refl _
  | succ n ih =>
    have h1 := ih (fun k hk => h k (by omega))
    have h2 := h n (by omega)
    rw [sumTo_s, sumTo_s]
    omega
theorem sumTo_mono {f : Nat → Nat} {m n : Nat} (h : m ≤ n) : sumTo m f ≤ sumTo n f := by
  induction n with
  | zero => rw [show m = 0 by omega]; exact Nat.le_refl _
  | succ n ih =>
    rcases Nat.lt_or_ge n m with h1 | h1
    · rw [show m = n + 1 by omega]; exact Nat.le_refl _
    · have := ih h1
      rw [sumTo_s]
      omega
theorem sumTo_ge {f : Nat → Nat} {i n : Nat} (h : i < n) : f i ≤ sumTo n f := by
  have := sumTo_mono (f := f) (m := i + 1) (n := n) (by omega)
  rw [sumTo_s] at this
  omega
theorem sumTo_one {n a c : Nat} (h : a < n) : sumTo n (fun k => if k = a then c else 0) = c := by
  induction n with
  | zero => omega
  | succ n ih =>
    rw [sumTo_s]
    by_cases hn : n = a
    · subst hn
      rw [sumTo_z (fun k hk => if_neg (by omega)), if_pos rfl, Nat.zero_add]
    · rw [ih (by omega), if_neg hn, Nat.add_zero]
theorem sumTo_app {a w : Nat} {f : Nat → Nat} : sumTo (a + w) f = sumTo a f + sumTo w (fun j => f (a + j)) := by
  induction w with
  | zero => rfl
  | succ w ih => rw [← Nat.add_assoc, sumTo_s, sumTo_s, ih]; omega
/-- a sum of sums, by the rows' width -/
theorem sumTo_rows {n w : Nat} {f : Nat → Nat} : sumTo (n * w) f = sumTo n (fun i => sumTo w (fun j => f (i * w + j))) := by
  induction n with
  | zero => rw [Nat.zero_mul]; rfl
  | succ n ih => rw [Nat.succ_mul, sumTo_app, ih, sumTo_s]
/-- the first place from i on, k places: its number, or none -/
def srch (p : Nat → Bool) : Nat → Nat → Int32
  | 0, _ => -nI 1
  | k + 1, i => if p i = true then nI i else srch p k (i + 1)
/-- whether one of the k places from i on has p -/
def anyF (p : Nat → Bool) : Nat → Nat → Bool
  | 0, _ => false
  | k + 1, i => p i || anyF p k (i + 1)
theorem anyF_t {p : Nat → Bool} {k i : Nat} (h : anyF p k i = true) : ∃ j, i ≤ j ∧ j < i + k ∧ p j = true := by
  induction k generalizing i with
  | zero => cases h
  | succ k ih =>
    unfold anyF at h
    rcases Bool.or_eq_true _ _ |>.mp h with h | h
    · exact ⟨i, Nat.le_refl _, by omega, h⟩
    · obtain ⟨j, h1, h2, h3⟩ := ih h
      exact ⟨j, by omega, by omega, h3⟩
theorem anyF_f {p : Nat → Bool} {k i : Nat} (h : anyF p k i = false) : ∀ j, i ≤ j → j < i + k → p j = false := by
  induction k generalizing i with
  | zero => intro j h1 h2; omega
  | succ k ih =>
    unfold anyF at h
    intro j h1 h2
    rcases Nat.lt_or_ge i j with h3 | h3
    · refine ih (i := i + 1) ?_ j (by omega) (by omega)
      cases hp : p i
      · rw [hp] at h; exact h
      · rw [hp] at h; cases h
    · rw [show j = i by omega]
      cases hp : p i
      · rfl
      · rw [hp] at h; cases h
theorem anyF_congr {p q : Nat → Bool} {k i : Nat} (h : ∀ j, i ≤ j → j < i + k → p j = q j) : anyF p k i = anyF q k i := by
  induction k generalizing i with
  | zero => rfl
  | succ k ih => unfold anyF; rw [h i (Nat.le_refl _) (by omega), ih (fun j h1 h2 => h j (by omega) (by omega))]
theorem srch_congr {p q : Nat → Bool} {k i : Nat} (h : ∀ j, i ≤ j → j < i + k → p j = q j) : srch p k i = srch q k i := by
  induction k generalizing i with
  | zero => rfl
  | succ k ih => unfold srch; rw [h i (Nat.le_refl _) (by omega), ih (fun j h1 h2 => h j (by omega) (by omega))]
theorem srch_s {p : Nat → Bool} {k i : Nat} (h : i + k < 2147483648) : (srch p k i = -nI 1 ∧ ∀ j, i ≤ j → j < i + k → p j = false) ∨ ∃ j, i ≤ j ∧ j < i + k ∧ p j = true ∧ srch p k i = nI j := by
  induction k generalizing i with
  | zero => exact Or.inl ⟨rfl, fun j h1 h2 => by omega⟩
  | succ k ih =>
    unfold srch
    by_cases hp : p i = true
    · rw [if_pos hp]
      exact Or.inr ⟨i, Nat.le_refl _, by omega, hp, rfl⟩
    · rw [if_neg hp]
      rcases ih (i := i + 1) (by omega) with ⟨h1, h2⟩ | ⟨j, h1, h2, h3, h4⟩
      · refine Or.inl ⟨h1, fun j h3 h4 => ?_⟩
        rcases Nat.lt_or_ge i j with h5 | h5
        · exact h2 j (by omega) (by omega)
        · rw [show j = i by omega]; exact Bool.eq_false_iff.mpr hp
      · exact Or.inr ⟨j, by omega, by omega, h3, h4⟩
/-- a row with one cell written -/
def up (g : Nat → Nat) (i v : Nat) : Nat → Nat := fun k => if k = i then v else g k
theorem up_s {g : Nat → Nat} {i j v : Nat} (h : j = i) : up g i v j = v := if_pos h
theorem up_n {g : Nat → Nat} {i j v : Nat} (h : j ≠ i) : up g i v j = g j := if_neg h
