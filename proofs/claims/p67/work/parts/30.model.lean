/-! the model's methods over a row -/
theorem MR_get {m : Nat → Int32} {g : Nat → Nat} (h : MR m g) {i j : Nat} (hi : i < 1399) (e : i = j) : m i = nI (g j) := by
  subst e
  exact h i hi
theorem up_sD {g : Nat → Nat} {s : Nat} : sD g (up g 0 s) := ⟨up_n (by omega), fun k _ _ => up_n (by omega)⟩
theorem m_t {m : Nat → Int32} {g : Nat → Nat} {k : Nat} (h : MR m g) (hk : k < 300) : m (91 + 4 * k) = nI (tP g k) ∧ m (91 + 4 * k + 1) = nI (tD g k) ∧ m (91 + 4 * k + 2) = nI (tF g k) ∧ m (91 + 4 * k + 3) = nI (tB g k) := ⟨h _ (by omega), h _ (by omega), h _ (by omega), h _ (by omega)⟩
theorem m_o {m : Nat → Int32} {g : Nat → Nat} {r : Nat} (h : MR m g) (hr : r < 36) : m (1291 + 3 * r) = nI (oP g r) ∧ m (1291 + 3 * r + 1) = nI (oD g r) ∧ m (1291 + 3 * r + 2) = nI (oS g r) := ⟨h _ (by omega), h _ (by omega), h _ (by omega)⟩
/-- the counts of a pair's faces in the first n throws -/
def cN (g : Nat → Nat) (q f n : Nat) : Nat := sumTo n (fun k => if tQ g k = q ∧ tF g k = f + 1 then 1 else 0)
theorem cN_le {g : Nat → Nat} {q f n : Nat} : cN g q f n ≤ n := by
  have h : cN g q f n ≤ n * 1 := sumTo_le (fun k hk => by split <;> omega)
  omega
