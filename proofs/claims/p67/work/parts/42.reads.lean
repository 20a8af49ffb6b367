/-! the statements of the input, both readers side by side -/
def PS (b : Nat → Nat) (L s0 : Nat) (ec eo sd mn th dc : Int32) (fc dw : Nat → Int32) (pc : Int32) (ln lt : Nat → Int32) (tc : Int32) (en fr : Nat → Int32) (oc : Int32) (op os : Nat → Int32) (kd ts te tv po st tk vl lw code pl : Int32) (m : Nat → Int32) : Prop :=
  ZR fc ∧ ((∃ (g : Nat → Nat) (s : Nat), ec = nI 0 ∧ code = nI 0 ∧ eo = pl ∧ s0 ≤ s ∧ TC b L s kd ts te tv ∧ TM b L s po st tk vl lw ∧ Ok g ∧ MR m g ∧ HR g sd mn th dc fc dw pc ln lt tc en fr oc op os) ∨ ∃ c : Nat, 0 < c ∧ c < 100 ∧ ec = nI c ∧ code = nI c ∧ eo = pl)
/-- audit -/
theorem sQ_ok {w g : Nat → Nat} (h : sQ w g) (hO : Ok w) {fc dw ln lt en fr : Nat → Int32} (hD : DR w fc dw) (hP : NR w ln lt) (hE : ER w en) (hF : FR w fr) : DR g fc dw ∧ NR g ln lt ∧ ER g en ∧ FR g fr := ⟨sD_R h.2.1 hO.1 hO.2.1 hD, sP_R h.2.2.1 hO.1 hP, sT_E h.1 hO.1 hE, sT_F h.1 hO.1 hF⟩
