/-! the text is loaded; how the class begins -/
theorem w_load {N L a b : Nat} {E : KE} {bb : Nat → Nat} {tb : Nat → Int32} {sd : Int32} {mn : Int32} {th : Int32} {dc : Int32} {fc : Nat → Int32} {dw : Nat → Int32} {pc : Int32} {ln : Nat → Int32} {lt : Nat → Int32} {tc : Int32} {en : Nat → Int32} {fr : Nat → Int32} {oc : Int32} {op : Nat → Int32} {os : Nat → Int32} {sd1 : Int32} {mn1 : Int32} {th1 : Int32} {dc1 : Int32} {fc1 : Nat → Int32} {dw1 : Nat → Int32} {pc1 : Int32} {ln1 : Nat → Int32} {lt1 : Nat → Int32} {tc1 : Int32} {en1 : Nat → Int32} {fr1 : Nat → Int32} {oc1 : Int32} {op1 : Nat → Int32} {os1 : Nat → Int32} {sd2 : Int32} {mn2 : Int32} {th2 : Int32} {dc2 : Int32} {fc2 : Nat → Int32} {dw2 : Nat → Int32} {pc2 : Int32} {ln2 : Nat → Int32} {lt2 : Nat → Int32} {tc2 : Int32} {en2 : Nat → Int32} {fr2 : Nat → Int32} {oc2 : Int32} {op2 : Nat → Int32} {os2 : Nat → Int32} {ec eo kd ts te tv : Int32} (hN : 2000 < N) (hLE : L = (txt E).length) (hT : TR bb L tb) (hA : At bb 0 (txt E)) (hZ : ZR fc2) (ha : a < 8) (hb : b ≤ 8) : ∃ t, f_L_loaded N tb sd mn th dc fc dw pc ln lt tc en fr oc op os (nI a) (nI b) (nI L) ec eo sd2 mn2 th2 dc2 fc2 dw2 pc2 ln2 lt2 tc2 en2 fr2 oc2 op2 os2 kd ts te tv sd1 mn1 th1 dc1 fc1 dw1 pc1 ln1 lt1 tc1 en1 fr1 oc1 op1 os1 = some t ∧ t.1 = nI 0 ∧ (∃ g, Ok g ∧ g 3 = 3 ∧ g 4 = 3 ∧ g 5 = 0 ∧ g 6 = 0 ∧ (∀ d, d < 3 → dF g d ≤ 6) ∧ HR g t.2.1 t.2.2.1 t.2.2.2.1 t.2.2.2.2.1 t.2.2.2.2.2.1 t.2.2.2.2.2.2.1 t.2.2.2.2.2.2.2.1 t.2.2.2.2.2.2.2.2.1 t.2.2.2.2.2.2.2.2.2.1 t.2.2.2.2.2.2.2.2.2.2.1 t.2.2.2.2.2.2.2.2.2.2.2.1 t.2.2.2.2.2.2.2.2.2.2.2.2.1 t.2.2.2.2.2.2.2.2.2.2.2.2.2.1 t.2.2.2.2.2.2.2.2.2.2.2.2.2.2.1 t.2.2.2.2.2.2.2.2.2.2.2.2.2.2.2.1 ∧ ZR t.2.2.2.2.2.1) ∧ (∃ a', a' < 8 ∧ t.2.2.2.2.2.2.2.2.2.2.2.2.2.2.2.2.1 = nI a') ∧ (∃ b', b' ≤ 8 ∧ t.2.2.2.2.2.2.2.2.2.2.2.2.2.2.2.2.2.1 = nI b') ∧ t.2.2.2.2.2.2.2.2.2.2.2.2.2.2.2.2.2.2.2.1 = nI 0 := by
  obtain ⟨eo', sd3, mn3, th3, dc3, fc3, dw3, pc3, ln3, lt3, tc3, en3, fr3, oc3, op3, os3, kd', ts', te', tv', g, h1, h2, h3, h4, h5, h6, h7, h8, h9⟩ := r_parse (ec := ec) (eo := eo) (kd := kd) (ts := ts) (te := te) (tv := tv) (sd := sd2) (mn := mn2) (th := th2) (dc := dc2) (fc := fc2) (dw := dw2) (pc := pc2) (ln := ln2) (lt := lt2) (tc := tc2) (en := en2) (fr := fr2) (oc := oc2) (op := op2) (os := os2) hN hLE hT hA hZ
  have hc := HR_cpy (sd1 := sd) (mn1 := mn) (th1 := th) (dc1 := dc) (fc1 := fc) (dw1 := dw) (pc1 := pc) (ln1 := ln) (lt1 := lt) (tc1 := tc) (en1 := en) (fr1 := fr) (oc1 := oc) (op1 := op) (os1 := os) h2 h4
  have n10 : ¬ nI 1 = 0 := by decide +kernel
  have htc : tc3 = nI 0 := by rw [h4.1.2.2.2.2.2.1, h7]
  unfold f_L_loaded f_X10_load f_X8_cutTo
  rw [h1, Option.bind_some, Option.bind_some, if_neg n10, e_remember ha hb, Option.bind_some, e_copyHall, Option.bind_some, hbdw_t]
  exact ⟨_, rfl, htc, ⟨g, h2, h5, h6, h7, h8, h9, hc, ZR_cpy h3⟩, ⟨_, Nat.mod_lt _ (by omega), rfl⟩, ⟨_, q_le8 hb, rfl⟩, rfl⟩
def fZ (f : Nat → Int32) (d : Nat) : Bool := decide (f d = nI (Int32.toNatClampNeg (f d))) && decide (Int32.toNatClampNeg (f d) ≤ 12)
def fI : Option Bool := (f_X8_appendString 3000 0 0 (fun _ => 0)).bind fun t => (f_X5_parse 3000 t.1 t.2 0 (-1) 0 1 0 0 (fun _ => 0) (fun _ => 0) 0 (fun _ => 0) (fun _ => 0) 0 (fun _ => 0) (fun _ => 0) 0 (fun _ => 0) (fun _ => 0) 0 0 0 0).map fun u => fZ u.2.2.2.2.2.2.2.1 0 && (fZ u.2.2.2.2.2.2.2.1 1 && (fZ u.2.2.2.2.2.2.2.1 2 && (fZ u.2.2.2.2.2.2.2.1 3 && (fZ u.2.2.2.2.2.2.2.1 4 && fZ u.2.2.2.2.2.2.2.1 5))))
theorem fI_t : fI = some true := by decide +kernel
theorem fZ_t {f : Nat → Int32} {d : Nat} (h : fZ f d = true) : ∃ v, v ≤ 12 ∧ f d = nI v := by
  unfold fZ at h
  rw [Bool.and_eq_true] at h
  exact ⟨_, of_decide_eq_true h.2, of_decide_eq_true h.1⟩
theorem i_first : ∃ t1 u, f_X8_appendString 3000 0 0 (fun _ => 0) = some t1 ∧ f_X5_parse 3000 t1.1 t1.2 0 (-1) 0 1 0 0 (fun _ => 0) (fun _ => 0) 0 (fun _ => 0) (fun _ => 0) 0 (fun _ => 0) (fun _ => 0) 0 (fun _ => 0) (fun _ => 0) 0 0 0 0 = some u ∧ ZR u.2.2.2.2.2.2.2.1 := by
  have h := fI_t
  unfold fI at h
  obtain ⟨t1, e1, h⟩ := Option.bind_eq_some_iff.mp h
  obtain ⟨u, e2, h⟩ := Option.map_eq_some_iff.mp h
  simp only [Bool.and_eq_true] at h
  obtain ⟨h0, h1, h2, h3, h4, h5⟩ := h
  refine ⟨t1, u, e1, e2, fun d hd => ?_⟩
  match d, hd with
  | 0, _ => exact fZ_t h0
  | 1, _ => exact fZ_t h1
  | 2, _ => exact fZ_t h2
  | 3, _ => exact fZ_t h3
  | 4, _ => exact fZ_t h4
  | 5, _ => exact fZ_t h5
  | d + 6, hd => exact absurd hd (by omega)
