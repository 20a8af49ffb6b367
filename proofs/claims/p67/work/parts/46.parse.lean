/-! a statement, the loop, the whole text -/
theorem b_t : ¬ bI true = nI 0 := by rw [q_b0]; exact Bool.true_eq_false ▸ id
theorem b_f : bI false = nI 0 := by rw [q_b0]
theorem k_2 : kSn 2 < 1000 := by decide +kernel
theorem k_3 : kSn 3 < 1000 := by decide +kernel
theorem k_4 : kSn 4 < 1000 := by decide +kernel
theorem k_5 : kSn 5 < 1000 := by decide +kernel
theorem k_6 : kSn 6 < 1000 := by decide +kernel
theorem k_7 : kSn 7 < 1000 := by decide +kernel
theorem k_1 : kSn 1 < 1000 := by decide +kernel
/-- how a reading ends -/
def PF (fl ec eo sd mn th dc : Int32) (fc dw : Nat → Int32) (pc : Int32) (ln lt : Nat → Int32) (tc : Int32) (en fr : Nat → Int32) (oc : Int32) (op os : Nat → Int32) (code pl : Int32) (m : Nat → Int32) : Prop :=
  ZR fc ∧ eo = pl ∧ ((fl = nI 1 ∧ ec = nI 0 ∧ code = nI 0 ∧ ∃ g : Nat → Nat, Ok g ∧ MR m g ∧ HR g sd mn th dc fc dw pc ln lt tc en fr oc op os) ∨ (fl = nI 0 ∧ ∃ c : Nat, 0 < c ∧ c < 100 ∧ ec = nI c ∧ code = nI c))
theorem x_loop_e {N j i c : Nat} {tl eo : Int32} {tb : Nat → Int32} {sd : Int32} {mn : Int32} {th : Int32} {dc : Int32} {fc : Nat → Int32} {dw : Nat → Int32} {pc : Int32} {ln : Nat → Int32} {lt : Nat → Int32} {tc : Int32} {en : Nat → Int32} {fr : Nat → Int32} {oc : Int32} {op : Nat → Int32} {os : Nat → Int32} {kd ts te tv : Int32} (hi : i < 100000) (c1 : 0 < c) (c2 : c < 100) : f_X5_parse_L23 N tl tb (j + 1) (nI i) (nI c) eo sd mn th dc fc dw pc ln lt tc en fr oc op os kd ts te tv = some (nI 0, nI c, eo, sd, mn, th, dc, fc, dw, pc, ln, lt, tc, en, fr, oc, op, os, kd, ts, te, tv) := by
  have h47 : f_X5_parse_L47 N tl tb (nI c) eo sd mn th dc fc dw pc ln lt tc en fr oc op os kd ts te tv = some (nI 0, nI c, eo, sd, mn, th, dc, fc, dw, pc, ln, lt, tc, en, fr, oc, op, os, kd, ts, te, tv) := by
    unfold f_X5_parse_L47
    simp only [n_0, n_1, n_2, n_3, n_4, n_5, n_6, n_7, n_8, n_9, n_10, n_12, n_13, n_15, n_20, n_24, n_27, n_31, n_32, n_33, n_36, n_44, n_48, n_50, n_57, n_58, n_59, n_72, n_74, n_75, n_85, n_91, n_96, n_97, n_99, n_122, n_255, n_300, n_432, n_600, n_900, n_999, n_1000, n_1291, n_1399, n_2798, n_11192, n_65536, n_65537, n_99999999, n_1000000]
    rw [if_neg (c_n0 c1 c2)]
  show f_X5_parse_L23_F N tl tb (f_X5_parse_L23 N tl tb j) (nI i) (nI c) eo sd mn th dc fc dw pc ln lt tc en fr oc op os kd ts te tv = _
  unfold f_X5_parse_L23_F f_X5_hasMore
  simp only [n_0, n_1, n_2, n_3, n_4, n_5, n_6, n_7, n_8, n_9, n_10, n_12, n_13, n_15, n_20, n_24, n_27, n_31, n_32, n_33, n_36, n_44, n_48, n_50, n_57, n_58, n_59, n_72, n_74, n_75, n_85, n_91, n_96, n_97, n_99, n_122, n_255, n_300, n_432, n_600, n_900, n_999, n_1000, n_1291, n_1399, n_2798, n_11192, n_65536, n_65537, n_99999999, n_1000000]
  rw [if_neg (c_n0 c1 c2), Option.bind_some, h47]
  split
  · rfl
  · rw [if_pos rfl]
/-- the row of an empty hall -/
def gH (x y z : Nat) : Nat → Nat := fun k => if k = 0 then x else if k = 1 then y else if k = 2 then z else 0
theorem gH_n {x y z k : Nat} (h : 3 ≤ k) : gH x y z k = 0 := by
  unfold gH
  rw [if_neg (by omega), if_neg (by omega), if_neg (by omega)]
theorem gH_ok {x y z : Nat} (h1 : x ≤ 65536) (h2 : 1 ≤ y) (h3 : y ≤ 99) (h4 : z ≤ 999) : Ok (gH x y z) := by
  have e3 : gH x y z 3 = 0 := gH_n (by omega)
  have e4 : gH x y z 4 = 0 := gH_n (by omega)
  have e5 : gH x y z 5 = 0 := gH_n (by omega)
  have e6 : gH x y z 6 = 0 := gH_n (by omega)
  refine ⟨?_, fun d hd => by omega, ⟨fun p hp => by omega, fun p p' hp => by omega⟩, fun k hk => by omega, ⟨fun r hr => by omega, fun r r' hr => by omega⟩⟩
  unfold okB
  rw [e3, e4, e5, e6]
  exact ⟨h1, h2, h3, h4, by omega, by omega, by omega, by omega⟩
theorem gH_R {x y z : Nat} {fc dw ln lt en fr op os : Nat → Int32} (hf : ∀ t, t < 432 → fr t = nI 0) : HR (gH x y z) (nI x) (nI y) (nI z) (nI 0) fc dw (nI 0) ln lt (nI 0) en fr (nI 0) op os := by
  have e3 : gH x y z 3 = 0 := gH_n (by omega)
  have e4 : gH x y z 4 = 0 := gH_n (by omega)
  have e5 : gH x y z 5 = 0 := gH_n (by omega)
  have e6 : gH x y z 6 = 0 := gH_n (by omega)
  refine ⟨⟨rfl, rfl, rfl, by rw [e3], by rw [e4], by rw [e5], by rw [e6]⟩, fun d hd => by omega, fun p hp => by omega, fun k hk => by omega, fun q hq f hf2 => ?_, fun r hr => by omega⟩
  rw [hf _ (by omega)]
  unfold cF
  rw [e5]
  rfl
theorem gH_M {x y z : Nat} {m : Nat → Int32} (hm : ∀ t, t < 1399 → m t = nI 0) : MR (upd (upd (upd m 0 (nI x)) 1 (nI y)) 2 (nI z)) (gH x y z) := by
  intro k hk
  unfold gH
  by_cases c2 : k = 2
  · rw [q_us c2, if_neg (by omega), if_neg (by omega), if_pos c2]
  · rw [q_un c2]
    by_cases c1 : k = 1
    · rw [q_us c1, if_neg (by omega), if_pos c1]
    · rw [q_un c1]
      by_cases c0 : k = 0
      · rw [q_us c0, if_pos c0]
      · rw [q_un c0, if_neg c0, if_neg c1, if_neg c2]
        exact hm k hk
