/-! what a state is: a row of numbers, as the model lays it; the class's rows against it -/
def tP (g : Nat → Nat) (k : Nat) : Nat := g (91 + 4 * k)
def tD (g : Nat → Nat) (k : Nat) : Nat := g (91 + 4 * k + 1)
def tF (g : Nat → Nat) (k : Nat) : Nat := g (91 + 4 * k + 2)
def tB (g : Nat → Nat) (k : Nat) : Nat := g (91 + 4 * k + 3)
def tQ (g : Nat → Nat) (k : Nat) : Nat := 6 * tP g k + tD g k
def oP (g : Nat → Nat) (r : Nat) : Nat := g (1291 + 3 * r)
def oD (g : Nat → Nat) (r : Nat) : Nat := g (1291 + 3 * r + 1)
def oS (g : Nat → Nat) (r : Nat) : Nat := g (1291 + 3 * r + 2)
def oQ (g : Nat → Nat) (r : Nat) : Nat := 6 * oP g r + oD g r
def dF (g : Nat → Nat) (d : Nat) : Nat := g (7 + 13 * d)
def dW (g : Nat → Nat) (d i : Nat) : Nat := g (7 + 13 * d + 1 + i)
def dS (g : Nat → Nat) (d : Nat) : Nat := sumTo (dF g d) (dW g d)
def nC (g : Nat → Nat) (p : Nat) : Nat := g (85 + p)
/-- a name's code: its digits, its letters -/
def nD (c i : Nat) : Nat := if i = 0 then c / 19683 % 27 else if i = 1 then c / 729 % 27 else if i = 2 then c / 27 % 27 else c % 27
def nA (c i : Nat) : Nat := if nD c i = 0 then 0 else 96 + nD c i
def nL (c : Nat) : Nat := if nD c 0 = 0 then 0 else if nD c 1 = 0 then 1 else if nD c 2 = 0 then 2 else if nD c 3 = 0 then 3 else 4
def nOk (c : Nat) : Prop := c < 531441 ∧ nD c 0 ≠ 0 ∧ (nD c 1 = 0 → nD c 2 = 0) ∧ (nD c 2 = 0 → nD c 3 = 0)
/-- how often a pair has shown face f + 1; the pair's throws; a player's throws and total -/
def cF (g : Nat → Nat) (q f : Nat) : Nat := sumTo (g 5) (fun k => if tQ g k = q ∧ tF g k = f + 1 then 1 else 0)
def cQ (g : Nat → Nat) (q : Nat) : Nat := sumTo (g 5) (fun k => if tQ g k = q then 1 else 0)
def cP (g : Nat → Nat) (p : Nat) : Nat := sumTo (g 5) (fun k => if tP g k = p then 1 else 0)
def cT (g : Nat → Nat) (p : Nat) : Nat := sumTo (g 5) (fun k => if tP g k = p then tF g k else 0)
/-- what stands for a row of any state -/
def okB (g : Nat → Nat) : Prop := g 0 ≤ 65536 ∧ 1 ≤ g 1 ∧ g 1 ≤ 99 ∧ g 2 ≤ 999 ∧ g 3 ≤ 6 ∧ g 4 ≤ 6 ∧ g 5 ≤ 300 ∧ g 6 ≤ 36
def okD (g : Nat → Nat) : Prop := ∀ d, d < g 3 → 2 ≤ dF g d ∧ dF g d ≤ 12 ∧ (∀ i, i < dF g d → dW g d i ≤ 9) ∧ 0 < dS g d
def okP (g : Nat → Nat) : Prop := (∀ p, p < g 4 → nOk (nC g p)) ∧ ∀ p p', p < g 4 → p' < g 4 → nC g p = nC g p' → p = p'
def okT (g : Nat → Nat) : Prop := ∀ k, k < g 5 → tP g k < g 4 ∧ tD g k < g 3 ∧ 1 ≤ tF g k ∧ tF g k ≤ dF g (tD g k) ∧ tB g k ≤ 1
def okO (g : Nat → Nat) : Prop := (∀ r, r < g 6 → oP g r < g 4 ∧ oD g r < g 3 ∧ oS g r < 214000000) ∧ ∀ r r', r < g 6 → r' < g 6 → oQ g r = oQ g r' → r = r'
def Ok (g : Nat → Nat) : Prop := okB g ∧ okD g ∧ okP g ∧ okT g ∧ okO g
/-- the model's row -/
def MR (m : Nat → Int32) (g : Nat → Nat) : Prop := ∀ k, k < 1399 → m k = nI (g k)
/-- the class's rows -/
def DR (g : Nat → Nat) (fc dw : Nat → Int32) : Prop := ∀ d, d < g 3 → fc d = nI (dF g d) ∧ ∀ i, i < dF g d → dw (12 * d + i) = nI (dW g d i)
def NR (g : Nat → Nat) (ln lt : Nat → Int32) : Prop := ∀ p, p < g 4 → ln p = nI (nL (nC g p)) ∧ ∀ i, i < 4 → lt (4 * p + i) = nI (nA (nC g p) i)
def ER (g : Nat → Nat) (en : Nat → Int32) : Prop := ∀ k, k < g 5 → en k = nI (32 * tQ g k + 2 * tF g k + tB g k)
def FR (g : Nat → Nat) (fr : Nat → Int32) : Prop := ∀ q, q < 36 → ∀ f, f < 12 → fr (12 * q + f) = nI (cF g q f)
def QR (g : Nat → Nat) (op os : Nat → Int32) : Prop := ∀ r, r < g 6 → op r = nI (oQ g r) ∧ os r = nI (oS g r)
def HR (g : Nat → Nat) (sd mn th dc : Int32) (fc dw : Nat → Int32) (pc : Int32) (ln lt : Nat → Int32) (tc : Int32) (en fr : Nat → Int32) (oc : Int32) (op os : Nat → Int32) : Prop :=
  (sd = nI (g 0) ∧ mn = nI (g 1) ∧ th = nI (g 2) ∧ dc = nI (g 3) ∧ pc = nI (g 4) ∧ tc = nI (g 5) ∧ oc = nI (g 6)) ∧ DR g fc dw ∧ NR g ln lt ∧ ER g en ∧ FR g fr ∧ QR g op os
theorem MR.up {m : Nat → Int32} {g : Nat → Nat} (h : MR m g) {i v : Nat} : MR (upd m i (nI v)) (up g i v) := by
  intro k hk
  by_cases hki : k = i
  · rw [q_us hki, up_s hki]
  · rw [q_un hki, up_n hki, h k hk]
theorem nD_lt {c i : Nat} : nD c i < 27 := by
  unfold nD
  split
  · exact Nat.mod_lt _ (by decide)
  · split
    · exact Nat.mod_lt _ (by decide)
    · split
      · exact Nat.mod_lt _ (by decide)
      · exact Nat.mod_lt _ (by decide)
theorem nA_lt {c i : Nat} : nA c i < 123 := by
  have := @nD_lt c i
  unfold nA
  split <;> omega
theorem nC_of {c : Nat} (h : c < 531441) : c = 19683 * nD c 0 + 729 * nD c 1 + 27 * nD c 2 + nD c 3 := by
  unfold nD
  simp only [if_true, Nat.one_ne_zero, if_false, show ¬ (2 : Nat) = 0 by decide, show ¬ (2 : Nat) = 1 by decide, show ¬ (3 : Nat) = 0 by decide, show ¬ (3 : Nat) = 1 by decide, show ¬ (3 : Nat) = 2 by decide]
  omega
theorem nL_le {c : Nat} : nL c ≤ 4 := by
  unfold nL
  split
  · omega
  · split
    · omega
    · split
      · omega
      · split <;> omega
theorem cQ_of {g : Nat → Nat} (hB : okB g) (hD : okD g) (hT : okT g) (q : Nat) : sumTo 12 (cF g q) = cQ g q := by
  unfold cF cQ
  rw [sumTo_swap]
  refine sumTo_congr (fun k hk => ?_)
  obtain ⟨h1, h2, h3, h4, h5⟩ := hT k hk
  have h6 := (hD _ h2).2.1
  by_cases hq : tQ g k = q
  · rw [if_pos hq]
    refine Eq.trans (sumTo_congr (g := fun f => if f = tF g k - 1 then 1 else 0) (fun f hf => ?_)) (sumTo_one (by omega))
    by_cases hf2 : f = tF g k - 1
    · rw [if_pos ⟨hq, by omega⟩, if_pos hf2]
    · rw [if_neg (fun h => by omega), if_neg hf2]
  · rw [if_neg hq]
    exact sumTo_z (fun f hf => if_neg (fun h => hq h.1))
theorem tQ_pd {g : Nat → Nat} (hB : okB g) (hT : okT g) {p d k : Nat} (hd : d < 6) (hk : k < g 5) : (tQ g k = 6 * p + d) ↔ (tP g k = p ∧ tD g k = d) := by
  obtain ⟨h1, h2, h3, h4, h5⟩ := hT k hk
  obtain ⟨b0, b1, b2, b3, b4, b5, b6, b7⟩ := hB
  unfold tQ
  exact ⟨fun h => by omega, fun h => by omega⟩
theorem cQ_faces {g : Nat → Nat} (hB : okB g) (hT : okT g) {p d : Nat} (hd : d < g 3) : sumTo (dF g d) (cF g (6 * p + d)) = cQ g (6 * p + d) := by
  have hd6 : d < 6 := by
    obtain ⟨b0, b1, b2, b3, b4, b5, b6, b7⟩ := hB
    omega
  unfold cF cQ
  rw [sumTo_swap]
  refine sumTo_congr (fun k hk => ?_)
  obtain ⟨h1, h2, h3, h4, h5⟩ := hT k hk
  by_cases hq : tQ g k = 6 * p + d
  · rw [if_pos hq]
    have h7 := ((tQ_pd hB hT hd6 hk).mp hq).2
    rw [h7] at h4
    refine Eq.trans (sumTo_congr (g := fun f => if f = tF g k - 1 then 1 else 0) (fun f hf => ?_)) (sumTo_one (by omega))
    by_cases hf2 : f = tF g k - 1
    · rw [if_pos ⟨hq, by omega⟩, if_pos hf2]
    · rw [if_neg (fun h => by omega), if_neg hf2]
  · rw [if_neg hq]
    exact sumTo_z (fun f hf => if_neg (fun h => hq h.1))
theorem cQ_le {g : Nat → Nat} (hB : okB g) (q : Nat) : cQ g q ≤ 300 := by
  have h : cQ g q ≤ g 5 * 1 := sumTo_le (fun k hk => by split <;> omega)
  have := hB.2.2.2.2.2.2.1
  omega
theorem cF_le {g : Nat → Nat} (q f : Nat) : cF g q f ≤ cQ g q := by
  refine sumTo_le2 (fun k hk => ?_)
  by_cases h : tQ g k = q ∧ tF g k = f + 1
  · rw [if_pos h, if_pos h.1]
    exact Nat.le_refl _
  · rw [if_neg h]
    exact Nat.zero_le _
theorem cF_0 {g : Nat → Nat} (hB : okB g) (hT : okT g) {p d f : Nat} (hd : d < 6) (h : g 3 ≤ d ∨ g 4 ≤ p ∨ dF g d ≤ f) : cF g (6 * p + d) f = 0 := by
  refine sumTo_z (fun k hk => if_neg (fun h2 => ?_))
  obtain ⟨h1, h3, h4, h5, h6⟩ := hT k hk
  obtain ⟨e1, e2⟩ := (tQ_pd hB hT hd hk).mp h2.1
  rw [e2] at h5
  omega
theorem cQ_0 {g : Nat → Nat} (hB : okB g) (hT : okT g) {p d : Nat} (hd : d < 6) (h : g 3 ≤ d ∨ g 4 ≤ p) : cQ g (6 * p + d) = 0 := by
  refine sumTo_z (fun k hk => if_neg (fun h2 => ?_))
  obtain ⟨h1, h3, h4, h5, h6⟩ := hT k hk
  obtain ⟨e1, e2⟩ := (tQ_pd hB hT hd hk).mp h2
  omega
/-- a player's throws and total, by the pairs -/
theorem cP_of {g : Nat → Nat} (hB : okB g) (hT : okT g) (p : Nat) : sumTo 6 (fun d => cQ g (6 * p + d)) = cP g p := by
  unfold cQ cP
  rw [sumTo_swap]
  refine sumTo_congr (fun k hk => ?_)
  obtain ⟨h1, h3, h4, h5, h6⟩ := hT k hk
  have hb := hB.2.2.2.2.1
  by_cases hq : tP g k = p
  · rw [if_pos hq]
    refine Eq.trans (sumTo_congr (g := fun d => if d = tD g k then 1 else 0) (fun d hd => ?_)) (sumTo_one (by omega))
    by_cases e : d = tD g k
    · rw [if_pos e, if_pos ((tQ_pd hB hT hd hk).mpr ⟨hq, e.symm⟩)]
    · rw [if_neg e, if_neg (fun h => e ((tQ_pd hB hT hd hk).mp h).2.symm)]
  · rw [if_neg hq]
    exact sumTo_z (fun d hd => if_neg (fun h => hq ((tQ_pd hB hT hd hk).mp h).1))
theorem cT_of {g : Nat → Nat} (hB : okB g) (hD : okD g) (hT : okT g) (p : Nat) : sumTo 6 (fun d => sumTo 12 (fun f => (f + 1) * cF g (6 * p + d) f)) = cT g p := by
  have e : ∀ d, d < 6 → sumTo 12 (fun f => (f + 1) * cF g (6 * p + d) f) = sumTo (g 5) (fun k => if tQ g k = 6 * p + d then tF g k else 0) := fun d hd => by
    have e1 : ∀ f, f < 12 → (f + 1) * cF g (6 * p + d) f = sumTo (g 5) (fun k => if tQ g k = 6 * p + d ∧ tF g k = f + 1 then f + 1 else 0) := fun f hf => by
      unfold cF
      rw [← sumTo_mul]
      refine sumTo_congr (fun k hk => ?_)
      split
      · rw [Nat.mul_one]
      · rw [Nat.mul_zero]
    rw [sumTo_congr e1, sumTo_swap]
    refine sumTo_congr (fun k hk => ?_)
    obtain ⟨h1, h3, h4, h5, h6⟩ := hT k hk
    have h7 := (hD _ h3).2.1
    by_cases hq : tQ g k = 6 * p + d
    · rw [if_pos hq]
      refine Eq.trans (sumTo_congr (g := fun f => if f = tF g k - 1 then tF g k else 0) (fun f hf => ?_)) (sumTo_one (by omega))
      by_cases hf2 : f = tF g k - 1
      · rw [if_pos ⟨hq, by omega⟩, if_pos hf2]
        omega
      · rw [if_neg (fun h => by omega), if_neg hf2]
    · rw [if_neg hq]
      exact sumTo_z (fun f hf => if_neg (fun h => hq h.1))
  rw [sumTo_congr e, sumTo_swap]
  unfold cT
  refine sumTo_congr (fun k hk => ?_)
  obtain ⟨h1, h3, h4, h5, h6⟩ := hT k hk
  have hb := hB.2.2.2.2.1
  by_cases hq : tP g k = p
  · rw [if_pos hq]
    refine Eq.trans (sumTo_congr (g := fun d => if d = tD g k then tF g k else 0) (fun d hd => ?_)) (sumTo_one (by omega))
    by_cases e : d = tD g k
    · rw [if_pos e, if_pos ((tQ_pd hB hT hd hk).mpr ⟨hq, e.symm⟩)]
    · rw [if_neg e, if_neg (fun h => e ((tQ_pd hB hT hd hk).mp h).2.symm)]
  · rw [if_neg hq]
    exact sumTo_z (fun d hd => if_neg (fun h => hq ((tQ_pd hB hT hd hk).mp h).1))
theorem cP_le {g : Nat → Nat} (hB : okB g) (p : Nat) : cP g p ≤ 300 := by
  have h : cP g p ≤ g 5 * 1 := sumTo_le (fun k hk => by split <;> omega)
  have := hB.2.2.2.2.2.2.1
  omega
theorem cT_le {g : Nat → Nat} (hB : okB g) (hD : okD g) (hT : okT g) (p : Nat) : cT g p ≤ 3600 := by
  have h : cT g p ≤ g 5 * 12 := sumTo_le (fun k hk => by
    obtain ⟨h1, h3, h4, h5, h6⟩ := hT k hk
    have h7 := (hD _ h3).2.1
    split <;> omega)
  have := hB.2.2.2.2.2.2.1
  omega
