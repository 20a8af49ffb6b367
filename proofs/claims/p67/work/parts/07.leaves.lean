abbrev P_X0_init (E : KE) (b : Nat)  (hp : Hp) : Option Value → Hp → Option Nat → Prop := fun v0 hp' al' => v0 = none ∧ hp' b = some (.inr (2, [.ref (b + 1), .ref (b + 2), .int 0])) ∧ hp' (b + 1) = some (.inl (kC E 0, 6, .inl (fun _ => 0))) ∧ hp' (b + 2) = some (.inl (kC E 0, 72, .inl (fun _ => 0))) ∧ (∀ q, (q < b ∨ (b + 3) ≤ q) → hp' q = hp q) ∧ some (b + 3) = al'
set_option maxHeartbeats 8000000 in
set_option maxRecDepth 100000 in
theorem c_X0_init {E : KE} {l : Launch} {hp : Hp} {b : Nat} (g0 : hp b = some (.inr (2, [.null, .null, .int 0])))  : AM E l yX0_init cX0_init 1 (Option.none : Option Jvm.ClassFile.FieldType) ⟨1, 2, 78, 12⟩ [.ref b] hp (some (b + 1)) (P_X0_init E b  hp) := by
  refine A_of (by decide +kernel) (Nat.le_of_ble_eq_true rfl) ?_
  intro p e s m args below meth c X hr hnm
  have X : CX E p l s m args meth c "DiceAudit$Dice" cX0_init 1 := X
  refine A_L (L' := [(0, .ref b)]) rfl ?_
  refine A_aload_n X dX0_init_0 0 rfl ?_
  refine A_objI (i0 := 0) (i1 := 0) X dX0_init_1 kw_66 kw_37 kw_38 (Nat.le_of_ble_eq_true rfl) (Nat.le_of_ble_eq_true rfl) ?_
  refine A_aload_n X dX0_init_4 0 rfl ?_
  refine A_bipush (v := 6) X dX0_init_5 (by decide) ?_
  refine A_newi (z := (b + 1)) (N := 6) X dX0_init_7 kw_54 (by decide) (by decide) (Nat.le_of_ble_eq_true rfl) (Nat.le_of_ble_eq_true rfl) (Nat.le_of_ble_eq_true rfl) (fun hp1 (k1 : hp1 (b + 1) = some (.inl (kC E 0, 6, .inl (fun _ => 0)))) n1 => ?_)
  refine A_putF X dX0_init_9 kcl_X0 0 (by decide) kw_67 ((n1 _ (by omega)).trans g0) rfl (hnm.trans rfl) rfl rfl rfl (by simp) (fun hp2 (k2 : hp2 b = some (.inr (2, [.ref (b + 1), .null, .int 0]))) n2 => ?_)
  refine A_aload_n X dX0_init_12 0 rfl ?_
  refine A_bipush (v := 72) X dX0_init_13 (by decide) ?_
  refine A_newi (z := (b + 2)) (N := 72) X dX0_init_15 kw_54 (by decide) (by decide) (Nat.le_of_ble_eq_true rfl) (Nat.le_of_ble_eq_true rfl) (Nat.le_of_ble_eq_true rfl) (fun hp3 (k3 : hp3 (b + 2) = some (.inl (kC E 0, 72, .inl (fun _ => 0)))) n3 => ?_)
  refine A_putF X dX0_init_17 kcl_X0 1 (by decide) kw_68 ((n3 _ (by omega)).trans k2) rfl (hnm.trans rfl) rfl rfl rfl (by simp) (fun hp4 (k4 : hp4 b = some (.inr (2, [.ref (b + 1), .ref (b + 2), .int 0]))) n4 => ?_)
  refine A_aload_n X dX0_init_20 0 rfl ?_
  refine A_iconst (v := 0) X dX0_init_21 (by decide) ?_
  refine A_put X dX0_init_22 kcl_X0 2 (by decide) kw_69 k4 rfl rfl rfl (by simp) (fun hp5 (k5 : hp5 b = some (.inr (2, [.ref (b + 1), .ref (b + 2), .int 0]))) n5 => ?_)
  exact A_vret X dX0_init_25 hr ⟨rfl, k5, ((n5 _ (by omega)).trans ((n4 _ (by omega)).trans ((n3 _ (by omega)).trans ((n2 _ (by omega)).trans k1)))), ((n5 _ (by omega)).trans ((n4 _ (by omega)).trans k3)), (fun q z => ((n5 q (by omega)).trans ((n4 q (by omega)).trans ((n3 q (by omega)).trans ((n2 q (by omega)).trans (n1 q (by omega))))))), rfl⟩ (Nat.le_of_ble_eq_true rfl) (Nat.le_of_ble_eq_true rfl)
abbrev P_X0_clear (E : KE) (b : Nat)  (hp : Hp) (al : Option Nat) (out : Int32) : Option Value → Hp → Option Nat → Prop := fun v0 hp' al' => v0 = none ∧ hp' b = some (.inr (2, [.ref (b + 1), .ref (b + 2), .int out])) ∧ (∀ q, q ≠ b → hp' q = hp q) ∧ al = al'
set_option maxHeartbeats 4000000 in
set_option maxRecDepth 100000 in
theorem c_X0_clear {E : KE} {l : Launch} {hp : Hp} {al : Option Nat} {b : Nat} {dc : Int32}  {out : Int32} (g0 : hp b = some (.inr (2, [.ref (b + 1), .ref (b + 2), .int dc])))  (h : f_X0_clear dc = some out) : AM E l yX0_clear cX0_clear 1 (Option.none : Option Jvm.ClassFile.FieldType) ⟨0, 0, 0, 0⟩ [.ref b] hp al (P_X0_clear E b hp al out) := by
  refine A_of (by decide +kernel) (Nat.le_of_ble_eq_true rfl) ?_
  intro p e s m args below meth c X hr hnm
  have X : CX E p l s m args meth c "DiceAudit$Dice" cX0_clear 1 := X
  refine A_L (L' := [(0, .ref b)]) rfl ?_
  unfold f_X0_clear at h
  refine A_aload_n X dX0_clear_0 0 rfl ?_
  refine A_iconst (v := 0) X dX0_clear_1 (by decide) ?_
  refine A_put X dX0_clear_2 kcl_X0 2 (by decide) kw_69 g0 rfl rfl rfl (by simp) (fun hp1 (k1 : hp1 b = some (.inr (2, [.ref (b + 1), .ref (b + 2), .int 0]))) n1 => ?_)
  cases h
  exact A_vret X dX0_clear_5 hr ⟨rfl, k1, (fun q z0 => (n1 q z0)), rfl⟩ (Nat.le_of_ble_eq_true rfl) (Nat.le_of_ble_eq_true rfl)
abbrev P_X0_copyFrom (E : KE) (b : Nat) (b2 : Nat)  (hp : Hp) (al : Option Nat) (out : Int32 × (Nat → Int32) × (Nat → Int32)) : Option Value → Hp → Option Nat → Prop := fun v0 hp' al' => v0 = none ∧ hp' b = some (.inr (2, [.ref (b + 1), .ref (b + 2), .int out.1])) ∧ hp' (b + 1) = some (.inl (kC E 0, 6, .inl out.2.1)) ∧ hp' (b + 2) = some (.inl (kC E 0, 72, .inl out.2.2)) ∧ (∀ q, q ≠ b → q ≠ (b + 1) → q ≠ (b + 2) → hp' q = hp q) ∧ al = al'
set_option maxHeartbeats 4000000 in
set_option maxRecDepth 100000 in
theorem c_X0_copyFrom {E : KE} {l : Launch} {hp : Hp} {al : Option Nat} {b : Nat} {b2 : Nat} {dc : Int32} {fc : Nat → Int32} {dw : Nat → Int32} {y_dc : Int32} {y_fc : Nat → Int32} {y_dw : Nat → Int32}  {out : Int32 × (Nat → Int32) × (Nat → Int32)} (g0 : hp b = some (.inr (2, [.ref (b + 1), .ref (b + 2), .int dc]))) (g1 : hp (b + 1) = some (.inl (kC E 0, 6, .inl fc))) (g2 : hp (b + 2) = some (.inl (kC E 0, 72, .inl dw))) (g3 : hp b2 = some (.inr (2, [.ref (b2 + 1), .ref (b2 + 2), .int y_dc]))) (g4 : hp (b2 + 1) = some (.inl (kC E 0, 6, .inl y_fc))) (g5 : hp (b2 + 2) = some (.inl (kC E 0, 72, .inl y_dw))) (hz0 : (b + 3) ≤ b2 ∨ (b2 + 3) ≤ b) (h : f_X0_copyFrom y_dc y_fc y_dw dc fc dw = some out) : AM E l yX0_copyFrom cX0_copyFrom 2 (Option.none : Option Jvm.ClassFile.FieldType) ⟨2, 0, 0, 39⟩ [.ref b, .ref b2] hp al (P_X0_copyFrom E b b2 hp al out) := by
  refine A_of (by decide +kernel) (Nat.le_of_ble_eq_true rfl) ?_
  intro p e s m args below meth c X hr hnm
  have X : CX E p l s m args meth c "DiceAudit$Dice" cX0_copyFrom 2 := X
  refine A_L (L' := [(0, .ref b), (1, .ref b2)]) rfl ?_
  unfold f_X0_copyFrom at h
  refine A_aload_n X dX0_copyFrom_0 0 rfl ?_
  refine A_aload_n X dX0_copyFrom_1 1 rfl ?_
  refine A_get X dX0_copyFrom_2 kcl_X0 2 (by decide) kw_69 g3 rfl ?_
  refine A_put X dX0_copyFrom_5 kcl_X0 2 (by decide) kw_69 g0 rfl rfl rfl (by simp) (fun hp1 (k1 : hp1 b = some (.inr (2, [.ref (b + 1), .ref (b + 2), .int y_dc]))) n1 => ?_)
  refine A_aload_n X dX0_copyFrom_8 1 rfl ?_
  refine A_get X dX0_copyFrom_9 kcl_X0 0 (by decide) kw_67 ((n1 _ (by omega)).trans g3) rfl ?_
  refine A_aload_n X dX0_copyFrom_12 0 rfl ?_
  refine A_get X dX0_copyFrom_13 kcl_X0 0 (by decide) kw_67 k1 rfl ?_
  obtain ⟨t1, hct1, h⟩ := bind_o h
  refine A_c (k' := 0) (n' := 0) rfl rfl (A_runSN (rest := []) X dX0_copyFrom_16 (c_X10_copyRow ((n1 _ (by omega)).trans g4) ((n1 _ (by omega)).trans g1) (by omega) hct1) kY_X10_copyRow kw_625 ⟨(Nat.le_of_ble_eq_true rfl), (Nat.le_of_ble_eq_true rfl), (Nat.le_of_ble_eq_true rfl), (Nat.le_of_ble_eq_true rfl)⟩ rfl (Nat.le_of_ble_eq_true rfl)) (fun v9 hp2 al9 hP => ?_)
  obtain ⟨rfl, k2_0, n2, rfl⟩ := hP
  replace k2_0 : hp2 (b + 1) = some (.inl (kC E 0, 6, .inl t1)) := k2_0
  refine A_st (st' := []) rfl ?_
  refine A_aload_n X dX0_copyFrom_19 1 rfl ?_
  refine A_get X dX0_copyFrom_20 kcl_X0 1 (by decide) kw_68 ((n2 _ (by omega)).trans ((n1 _ (by omega)).trans g3)) rfl ?_
  refine A_aload_n X dX0_copyFrom_23 0 rfl ?_
  refine A_get X dX0_copyFrom_24 kcl_X0 1 (by decide) kw_68 ((n2 _ (by omega)).trans k1) rfl ?_
  obtain ⟨t2, hct2, h⟩ := bind_o h
  refine A_c (k' := 0) (n' := 0) rfl rfl (A_runSN (rest := []) X dX0_copyFrom_27 (c_X10_copyRow ((n2 _ (by omega)).trans ((n1 _ (by omega)).trans g5)) ((n2 _ (by omega)).trans ((n1 _ (by omega)).trans g2)) (by omega) hct2) kY_X10_copyRow kw_625 ⟨(Nat.le_of_ble_eq_true rfl), (Nat.le_of_ble_eq_true rfl), (Nat.le_of_ble_eq_true rfl), (Nat.le_of_ble_eq_true rfl)⟩ rfl (Nat.le_of_ble_eq_true rfl)) (fun v9 hp3 al9 hP => ?_)
  obtain ⟨rfl, k3_0, n3, rfl⟩ := hP
  replace k3_0 : hp3 (b + 2) = some (.inl (kC E 0, 72, .inl t2)) := k3_0
  refine A_st (st' := []) rfl ?_
  cases h
  exact A_vret X dX0_copyFrom_30 hr ⟨rfl, ((n3 _ (by omega)).trans ((n2 _ (by omega)).trans k1)), ((n3 _ (by omega)).trans k2_0), k3_0, (fun q z0 z1 z2 => ((n3 q z2).trans ((n2 q z1).trans (n1 q z0)))), rfl⟩ (Nat.le_of_ble_eq_true rfl) (Nat.le_of_ble_eq_true rfl)
abbrev P_X0_add (E : KE) (b : Nat)  (hp : Hp) (al : Option Nat) (out : Int32 × (Nat → Int32)) : Option Value → Hp → Option Nat → Prop := fun v0 hp' al' => v0 = none ∧ hp' b = some (.inr (2, [.ref (b + 1), .ref (b + 2), .int out.1])) ∧ hp' (b + 1) = some (.inl (kC E 0, 6, .inl out.2)) ∧ (∀ q, q ≠ b → q ≠ (b + 1) → hp' q = hp q) ∧ al = al'
set_option maxHeartbeats 4000000 in
set_option maxRecDepth 100000 in
theorem c_X0_add {E : KE} {l : Launch} {hp : Hp} {al : Option Nat} {b : Nat} {dc : Int32} {fc : Nat → Int32} {a0 : Int32} {out : Int32 × (Nat → Int32)} (g0 : hp b = some (.inr (2, [.ref (b + 1), .ref (b + 2), .int dc]))) (g1 : hp (b + 1) = some (.inl (kC E 0, 6, .inl fc)))  (h : f_X0_add dc fc a0 = some out) : AM E l yX0_add cX0_add 2 (Option.none : Option Jvm.ClassFile.FieldType) ⟨1, 0, 0, 22⟩ [.ref b, .int a0] hp al (P_X0_add E b hp al out) := by
  refine A_of (by decide +kernel) (Nat.le_of_ble_eq_true rfl) ?_
  intro p e s m args below meth c X hr hnm
  have X : CX E p l s m args meth c "DiceAudit$Dice" cX0_add 2 := X
  refine A_L (L' := [(0, .ref b), (1, .int a0)]) rfl ?_
  unfold f_X0_add at h
  refine A_aload_n X dX0_add_0 0 rfl ?_
  refine A_get X dX0_add_1 kcl_X0 2 (by decide) kw_69 g0 rfl ?_
  refine A_bipush (v := 6) X dX0_add_4 (by decide) ?_
  refine A_icmp_ge (tgt := 31) X dX0_add_6 h (by decide) (fun hc h => ?_) (fun hc h => ?_)
  · cases h
    exact A_vret X dX0_add_31 hr ⟨rfl, g0, g1, (fun q z0 z1 => rfl), rfl⟩ (Nat.le_of_ble_eq_true rfl) (Nat.le_of_ble_eq_true rfl)
  · refine A_aload_n X dX0_add_9 0 rfl ?_
    refine A_get X dX0_add_10 kcl_X0 0 (by decide) kw_67 g0 rfl ?_
    refine A_aload_n X dX0_add_13 0 rfl ?_
    refine A_get X dX0_add_14 kcl_X0 2 (by decide) kw_69 g0 rfl ?_
    refine A_iload_n X dX0_add_17 1 rfl ?_
    obtain ⟨t1, hct1, h⟩ := bind_o h
    refine A_c (k' := 0) (n' := 0) rfl rfl (A_runSN (rest := []) X dX0_add_18 (c_X10_put g1  hct1) kY_X10_put kw_436 ⟨(Nat.le_of_ble_eq_true rfl), (Nat.le_of_ble_eq_true rfl), (Nat.le_of_ble_eq_true rfl), (Nat.le_of_ble_eq_true rfl)⟩ rfl (Nat.le_of_ble_eq_true rfl)) (fun v9 hp1 al9 hP => ?_)
    obtain ⟨rfl, k1_0, n1, rfl⟩ := hP
    replace k1_0 : hp1 (b + 1) = some (.inl (kC E 0, 6, .inl t1)) := k1_0
    refine A_st (st' := []) rfl ?_
    refine A_aload_n X dX0_add_21 0 rfl ?_
    refine A_dup X dX0_add_22 rfl ?_
    refine A_get X dX0_add_23 kcl_X0 2 (by decide) kw_69 ((n1 _ (by omega)).trans g0) rfl ?_
    refine A_iconst (v := 1) X dX0_add_26 (by decide) ?_
    refine A_iadd X dX0_add_27 ?_
    refine A_put X dX0_add_28 kcl_X0 2 (by decide) kw_69 ((n1 _ (by omega)).trans g0) rfl rfl rfl (by simp) (fun hp2 (k2 : hp2 b = some (.inr (2, [.ref (b + 1), .ref (b + 2), .int (dc + 1)]))) n2 => ?_)
    cases h
    exact A_vret X dX0_add_31 hr ⟨rfl, k2, ((n2 _ (by omega)).trans k1_0), (fun q z0 z1 => ((n2 q z0).trans (n1 q z1))), rfl⟩ (Nat.le_of_ble_eq_true rfl) (Nat.le_of_ble_eq_true rfl)
set_option maxHeartbeats 4000000 in
set_option maxRecDepth 100000 in
theorem c_X0_faceCount {E : KE} {l : Launch} {hp : Hp} {al : Option Nat} {b : Nat} {dc : Int32} {fc : Nat → Int32} {a0 : Int32} {out : Int32} (g0 : hp b = some (.inr (2, [.ref (b + 1), .ref (b + 2), .int dc]))) (g1 : hp (b + 1) = some (.inl (kC E 0, 6, .inl fc)))  (h : f_X0_faceCount fc a0 = some out) : AM E l yX0_faceCount cX0_faceCount 2 (Option.some Jvm.ClassFile.FieldType.int) ⟨1, 0, 0, 21⟩ [.ref b, .int a0] hp al (kRet out hp al) := by
  refine A_of (by decide +kernel) (Nat.le_of_ble_eq_true rfl) ?_
  intro p e s m args below meth c X hr hnm
  have X : CX E p l s m args meth c "DiceAudit$Dice" cX0_faceCount 2 := X
  refine A_L (L' := [(0, .ref b), (1, .int a0)]) rfl ?_
  unfold f_X0_faceCount at h
  refine A_aload_n X dX0_faceCount_0 0 rfl ?_
  refine A_get X dX0_faceCount_1 kcl_X0 0 (by decide) kw_67 g0 rfl ?_
  refine A_iload_n X dX0_faceCount_4 1 rfl ?_
  obtain ⟨t1, hct1, h⟩ := bind_o h
  refine A_cp (k' := 0) (n' := 0) (A_runSN (rest := []) X dX0_faceCount_5 (c_X10_at g1  hct1) kY_X10_at kw_494 ⟨(Nat.le_of_ble_eq_true rfl), (Nat.le_of_ble_eq_true rfl), (Nat.le_of_ble_eq_true rfl), (Nat.le_of_ble_eq_true rfl)⟩ rfl (Nat.le_of_ble_eq_true rfl)) rfl rfl ?_
  cases h
  exact A_iret X dX0_faceCount_8 hr ⟨rfl, rfl, rfl⟩ (Nat.le_of_ble_eq_true rfl) (Nat.le_of_ble_eq_true rfl)
set_option maxHeartbeats 4000000 in
set_option maxRecDepth 100000 in
theorem c_X0_weight {E : KE} {l : Launch} {hp : Hp} {al : Option Nat} {b : Nat} {dc : Int32} {dw : Nat → Int32} {a0 : Int32} {a1 : Int32} {out : Int32} (g0 : hp b = some (.inr (2, [.ref (b + 1), .ref (b + 2), .int dc]))) (g2 : hp (b + 2) = some (.inl (kC E 0, 72, .inl dw)))  (h : f_X0_weight dw a0 a1 = some out) : AM E l yX0_weight cX0_weight 3 (Option.some Jvm.ClassFile.FieldType.int) ⟨1, 0, 0, 21⟩ [.ref b, .int a0, .int a1] hp al (kRet out hp al) := by
  refine A_of (by decide +kernel) (Nat.le_of_ble_eq_true rfl) ?_
  intro p e s m args below meth c X hr hnm
  have X : CX E p l s m args meth c "DiceAudit$Dice" cX0_weight 3 := X
  refine A_L (L' := [(0, .ref b), (1, .int a0), (2, .int a1)]) rfl ?_
  unfold f_X0_weight at h
  refine A_aload_n X dX0_weight_0 0 rfl ?_
  refine A_get X dX0_weight_1 kcl_X0 1 (by decide) kw_68 g0 rfl ?_
  refine A_iload_n X dX0_weight_4 1 rfl ?_
  refine A_iload_n X dX0_weight_5 2 rfl ?_
  obtain ⟨t1, hct1, h⟩ := bind_o h
  refine A_cp (k' := 0) (n' := 0) (A_runSN (rest := [.ref (b + 2)]) X dX0_weight_6 (c_X10_cellOf   hct1) kY_X10_cellOf kw_433 ⟨(Nat.le_of_ble_eq_true rfl), (Nat.le_of_ble_eq_true rfl), (Nat.le_of_ble_eq_true rfl), (Nat.le_of_ble_eq_true rfl)⟩ rfl (Nat.le_of_ble_eq_true rfl)) rfl rfl ?_
  obtain ⟨t2, hct2, h⟩ := bind_o h
  refine A_cp (k' := 0) (n' := 0) (A_runSN (rest := []) X dX0_weight_9 (c_X10_at g2  hct2) kY_X10_at kw_494 ⟨(Nat.le_of_ble_eq_true rfl), (Nat.le_of_ble_eq_true rfl), (Nat.le_of_ble_eq_true rfl), (Nat.le_of_ble_eq_true rfl)⟩ rfl (Nat.le_of_ble_eq_true rfl)) rfl rfl ?_
  cases h
  exact A_iret X dX0_weight_12 hr ⟨rfl, rfl, rfl⟩ (Nat.le_of_ble_eq_true rfl) (Nat.le_of_ble_eq_true rfl)
abbrev P_X0_putWeight (E : KE) (b : Nat)  (hp : Hp) (al : Option Nat) (out : (Nat → Int32)) : Option Value → Hp → Option Nat → Prop := fun v0 hp' al' => v0 = none ∧ hp' (b + 2) = some (.inl (kC E 0, 72, .inl out)) ∧ (∀ q, q ≠ (b + 2) → hp' q = hp q) ∧ al = al'
set_option maxHeartbeats 4000000 in
set_option maxRecDepth 100000 in
theorem c_X0_putWeight {E : KE} {l : Launch} {hp : Hp} {al : Option Nat} {b : Nat} {dc : Int32} {dw : Nat → Int32} {a0 : Int32} {a1 : Int32} {a2 : Int32} {out : (Nat → Int32)} (g0 : hp b = some (.inr (2, [.ref (b + 1), .ref (b + 2), .int dc]))) (g2 : hp (b + 2) = some (.inl (kC E 0, 72, .inl dw)))  (h : f_X0_putWeight dw a0 a1 a2 = some out) : AM E l yX0_putWeight cX0_putWeight 4 (Option.none : Option Jvm.ClassFile.FieldType) ⟨1, 0, 0, 22⟩ [.ref b, .int a0, .int a1, .int a2] hp al (P_X0_putWeight E b hp al out) := by
  refine A_of (by decide +kernel) (Nat.le_of_ble_eq_true rfl) ?_
  intro p e s m args below meth c X hr hnm
  have X : CX E p l s m args meth c "DiceAudit$Dice" cX0_putWeight 4 := X
  refine A_L (L' := [(0, .ref b), (1, .int a0), (2, .int a1), (3, .int a2)]) rfl ?_
  unfold f_X0_putWeight at h
  refine A_aload_n X dX0_putWeight_0 0 rfl ?_
  refine A_get X dX0_putWeight_1 kcl_X0 1 (by decide) kw_68 g0 rfl ?_
  refine A_iload_n X dX0_putWeight_4 1 rfl ?_
  refine A_iload_n X dX0_putWeight_5 2 rfl ?_
  obtain ⟨t1, hct1, h⟩ := bind_o h
  refine A_cp (k' := 0) (n' := 0) (A_runSN (rest := [.ref (b + 2)]) X dX0_putWeight_6 (c_X10_cellOf   hct1) kY_X10_cellOf kw_433 ⟨(Nat.le_of_ble_eq_true rfl), (Nat.le_of_ble_eq_true rfl), (Nat.le_of_ble_eq_true rfl), (Nat.le_of_ble_eq_true rfl)⟩ rfl (Nat.le_of_ble_eq_true rfl)) rfl rfl ?_
  refine A_iload_n X dX0_putWeight_9 3 rfl ?_
  obtain ⟨t2, hct2, h⟩ := bind_o h
  refine A_c (k' := 0) (n' := 0) rfl rfl (A_runSN (rest := []) X dX0_putWeight_10 (c_X10_put g2  hct2) kY_X10_put kw_436 ⟨(Nat.le_of_ble_eq_true rfl), (Nat.le_of_ble_eq_true rfl), (Nat.le_of_ble_eq_true rfl), (Nat.le_of_ble_eq_true rfl)⟩ rfl (Nat.le_of_ble_eq_true rfl)) (fun v9 hp1 al9 hP => ?_)
  obtain ⟨rfl, k1_0, n1, rfl⟩ := hP
  replace k1_0 : hp1 (b + 2) = some (.inl (kC E 0, 72, .inl t2)) := k1_0
  refine A_st (st' := []) rfl ?_
  cases h
  exact A_vret X dX0_putWeight_13 hr ⟨rfl, k1_0, (fun q z0 => (n1 q z0)), rfl⟩ (Nat.le_of_ble_eq_true rfl) (Nat.le_of_ble_eq_true rfl)
set_option maxHeartbeats 4000000 in
set_option maxRecDepth 100000 in
theorem c_X0_weightSum {E : KE} {l : Launch} {hp : Hp} {al : Option Nat} {N : Nat} {b : Nat} {dc : Int32} {fc : Nat → Int32} {dw : Nat → Int32} {a0 : Int32} {out : Int32} (g0 : hp b = some (.inr (2, [.ref (b + 1), .ref (b + 2), .int dc]))) (g1 : hp (b + 1) = some (.inl (kC E 0, 6, .inl fc))) (g2 : hp (b + 2) = some (.inl (kC E 0, 72, .inl dw)))  (h : f_X0_weightSum N fc dw a0 = some out) : AM E l yX0_weightSum cX0_weightSum 2 (Option.some Jvm.ClassFile.FieldType.int) ⟨2, 0, 0, 42⟩ [.ref b, .int a0] hp al (kRet out hp al) := by
  refine A_of (by decide +kernel) (Nat.le_of_ble_eq_true rfl) ?_
  intro p e s m args below meth c X hr hnm
  have X : CX E p l s m args meth c "DiceAudit$Dice" cX0_weightSum 2 := X
  refine A_L (L' := [(0, .ref b), (1, .int a0)]) rfl ?_
  unfold f_X0_weightSum at h
  refine A_aload_n X dX0_weightSum_0 0 rfl ?_
  refine A_get X dX0_weightSum_1 kcl_X0 1 (by decide) kw_68 g0 rfl ?_
  refine A_iload_n X dX0_weightSum_4 1 rfl ?_
  refine A_iconst (v := 1) X dX0_weightSum_5 (by decide) ?_
  obtain ⟨t1, hct1, h⟩ := bind_o h
  refine A_cp (k' := 0) (n' := 0) (A_runSN (rest := [.ref (b + 2)]) X dX0_weightSum_6 (c_X10_cellOf   hct1) kY_X10_cellOf kw_433 ⟨(Nat.le_of_ble_eq_true rfl), (Nat.le_of_ble_eq_true rfl), (Nat.le_of_ble_eq_true rfl), (Nat.le_of_ble_eq_true rfl)⟩ rfl (Nat.le_of_ble_eq_true rfl)) rfl rfl ?_
  refine A_aload_n X dX0_weightSum_9 0 rfl ?_
  refine A_iload_n X dX0_weightSum_10 1 rfl ?_
  obtain ⟨t2, hct2, h⟩ := bind_o h
  refine A_cp (k' := 0) (n' := 0) (A_runV (rest := [.int t1, .ref (b + 2)]) X dX0_weightSum_11 (c_X0_faceCount g0 g1  hct2) kY_X0_faceCount kw_1325 g0 rfl rfl ⟨(Nat.le_of_ble_eq_true rfl), (Nat.le_of_ble_eq_true rfl), (Nat.le_of_ble_eq_true rfl), (Nat.le_of_ble_eq_true rfl)⟩ rfl (Nat.le_of_ble_eq_true rfl)) rfl rfl ?_
  obtain ⟨t3, hct3, h⟩ := bind_o h
  refine A_cp (k' := 0) (n' := 0) (A_runSN (rest := []) X dX0_weightSum_14 (c_X10_sumOf g2  hct3) kY_X10_sumOf kw_499 ⟨(Nat.le_of_ble_eq_true rfl), (Nat.le_of_ble_eq_true rfl), (Nat.le_of_ble_eq_true rfl), (Nat.le_of_ble_eq_true rfl)⟩ rfl (Nat.le_of_ble_eq_true rfl)) rfl rfl ?_
  cases h
  exact A_iret X dX0_weightSum_17 hr ⟨rfl, rfl, rfl⟩ (Nat.le_of_ble_eq_true rfl) (Nat.le_of_ble_eq_true rfl)
set_option maxHeartbeats 4000000 in
set_option maxRecDepth 100000 in
theorem c_X0_faceShown_L45 {E : KE} {p : Program} {l : Launch} {e : Env} {s : State} {m : MethodId} {args : Array Value} {below : List Frame} {meth : Method} {c : Code} {al : Option Nat} {N : Nat} {b : Nat} {dc : Int32} {fc : Nat → Int32} {dw : Nat → Int32} {hp0 : Hp} {out : Int32}  (X : CX E p l s m args meth c "DiceAudit$Dice" cX0_faceShown 8) (hr : meth.sig.returnType = (Option.some Jvm.ClassFile.FieldType.int))  (g0 : hp0 b = some (.inr (2, [.ref (b + 1), .ref (b + 2), .int dc]))) (g1 : hp0 (b + 1) = some (.inl (kC E 0, 6, .inl fc))) (g2 : hp0 (b + 2) = some (.inl (kC E 0, 72, .inl dw))) : ∀ (j : Nat), ∀ {l1 : Int32} {l3 : Int32} {l5 : Int32} {l6 : Int32} {l7 : Int32}, f_X0_faceShown_L45 N fc dw j l1 l3 l5 l6 l7 = some out → AW E p l e ⟨1, 0, 0, 25⟩ s m args below meth c 8 (MQ below (kQc E (kRet out hp0 al)) args s 0 0 (kA E)) hp0 al 0 0 45 [(0, .ref b), (1, .int l1), (3, .int l3), (5, .int l5), (6, .int l6), (7, .int l7)] [] := by
  intro j
  induction j with
  | zero =>
    intro l1 l3 l5 l6 l7 h
    have h : (none : Option (Int32)) = some out := h
    cases h
  | succ j i45 =>
    intro l1 l3 l5 l6 l7 h
    have h : f_X0_faceShown_L45_F N fc dw (f_X0_faceShown_L45 N fc dw j) l1 l3 l5 l6 l7 = some out := h
    unfold f_X0_faceShown_L45_F at h
    refine A_iload X dX0_faceShown_45 5 rfl ?_
    refine A_iload_n X dX0_faceShown_47 2 rfl ?_
    refine A_icmp_ge (tgt := 85) X dX0_faceShown_48 h (by decide) (fun hc h => ?_) (fun hc h => ?_)
    · refine A_iload_n X dX0_faceShown_85 2 rfl ?_
      cases h
      exact A_iret X dX0_faceShown_86 hr ⟨rfl, rfl, rfl⟩ (Nat.le_of_ble_eq_true rfl) (Nat.le_of_ble_eq_true rfl)
    · refine A_iload X dX0_faceShown_51 4 rfl ?_
      refine A_aload_n X dX0_faceShown_53 0 rfl ?_
      refine A_get X dX0_faceShown_54 kcl_X0 1 (by decide) kw_68 g0 rfl ?_
      refine A_iload_n X dX0_faceShown_57 1 rfl ?_
      refine A_iload X dX0_faceShown_58 5 rfl ?_
      obtain ⟨t4, hct4, h⟩ := bind_o h
      refine A_cp (k' := 0) (n' := 0) (A_runSN (rest := [.ref (b + 2), .int l6]) X dX0_faceShown_60 (c_X10_cellOf   hct4) kY_X10_cellOf kw_433 ⟨(Nat.le_of_ble_eq_true rfl), (Nat.le_of_ble_eq_true rfl), (Nat.le_of_ble_eq_true rfl), (Nat.le_of_ble_eq_true rfl)⟩ rfl (Nat.le_of_ble_eq_true rfl)) rfl rfl ?_
      obtain ⟨t5, hct5, h⟩ := bind_o h
      refine A_cp (k' := 0) (n' := 0) (A_runSN (rest := [.int l6]) X dX0_faceShown_63 (c_X10_at g2  hct5) kY_X10_at kw_494 ⟨(Nat.le_of_ble_eq_true rfl), (Nat.le_of_ble_eq_true rfl), (Nat.le_of_ble_eq_true rfl), (Nat.le_of_ble_eq_true rfl)⟩ rfl (Nat.le_of_ble_eq_true rfl)) rfl rfl ?_
      refine A_iadd X dX0_faceShown_66 ?_
      refine A_istore (L' := [(6, .int (l6 + t5)), (0, .ref b), (1, .int l1), (3, .int l3), (5, .int l5), (7, .int l7)]) X dX0_faceShown_67 (by decide) rfl ?_
      refine A_iload X dX0_faceShown_69 0 rfl ?_
      refine A_iload X dX0_faceShown_71 4 rfl ?_
      refine A_icmp_le (tgt := 79) X dX0_faceShown_73 h (by decide) (fun hc h => ?_) (fun hc h => ?_)
      · refine A_iinc (j := 5) (v := (l7 + 1)) (L' := [(7, .int (l7 + 1)), (6, .int (l6 + t5)), (0, .ref b), (1, .int l1), (3, .int l3), (5, .int l5)]) X dX0_faceShown_79 rfl rfl (by decide) rfl ?_
        refine A_goto (tgt := 45) X dX0_faceShown_82 (by decide) ?_
        refine A_sub (L' := [(0, .ref b), (1, .int l1), (3, .int l3), (5, .int l5), (6, .int (l6 + t5)), (7, .int (l7 + 1))]) [2, 3, 4, 5, 1, 0] rfl ?_
        exact i45  h
      · refine A_iload X dX0_faceShown_76 5 rfl ?_
        cases h
        exact A_iret X dX0_faceShown_78 hr ⟨rfl, rfl, rfl⟩ (Nat.le_of_ble_eq_true rfl) (Nat.le_of_ble_eq_true rfl)
set_option maxHeartbeats 4000000 in
set_option maxRecDepth 100000 in
theorem c_X0_faceShown_L37 {E : KE} {p : Program} {l : Launch} {e : Env} {s : State} {m : MethodId} {args : Array Value} {below : List Frame} {meth : Method} {c : Code} {al : Option Nat} {N : Nat} {b : Nat} {dc : Int32} {fc : Nat → Int32} {dw : Nat → Int32} {hp0 : Hp} {out : Int32}  (X : CX E p l s m args meth c "DiceAudit$Dice" cX0_faceShown 8) (hr : meth.sig.returnType = (Option.some Jvm.ClassFile.FieldType.int))  (g0 : hp0 b = some (.inr (2, [.ref (b + 1), .ref (b + 2), .int dc]))) (g1 : hp0 (b + 1) = some (.inl (kC E 0, 6, .inl fc))) (g2 : hp0 (b + 2) = some (.inl (kC E 0, 72, .inl dw))) : ∀ {l1 : Int32} {l3 : Int32} {s0 : Int32}, f_X0_faceShown_L37 N fc dw l1 l3 s0 = some out → AW E p l e ⟨1, 0, 0, 25⟩ s m args below meth c 8 (MQ below (kQc E (kRet out hp0 al)) args s 0 0 (kA E)) hp0 al 0 0 37 [(0, .ref b), (1, .int l1), (3, .int l3)] [.int s0] := by
  intro l1 l3 s0 h
  unfold f_X0_faceShown_L37 at h
  refine A_istore (L' := [(5, .int s0), (0, .ref b), (1, .int l1), (3, .int l3)]) X dX0_faceShown_37 (by decide) rfl ?_
  refine A_iconst (v := 0) X dX0_faceShown_39 (by decide) ?_
  refine A_istore (L' := [(6, .int 0), (5, .int s0), (0, .ref b), (1, .int l1), (3, .int l3)]) X dX0_faceShown_40 (by decide) rfl ?_
  refine A_iconst (v := 1) X dX0_faceShown_42 (by decide) ?_
  refine A_istore (L' := [(7, .int 1), (6, .int 0), (5, .int s0), (0, .ref b), (1, .int l1), (3, .int l3)]) X dX0_faceShown_43 (by decide) rfl ?_
  refine A_sub (L' := [(0, .ref b), (1, .int l1), (3, .int l3), (5, .int s0), (6, .int 0), (7, .int 1)]) [3, 4, 5, 2, 1, 0] rfl ?_
  exact c_X0_faceShown_L45 X hr g0 g1 g2 N  h
set_option maxHeartbeats 4000000 in
set_option maxRecDepth 100000 in
theorem c_X0_faceShown {E : KE} {l : Launch} {hp : Hp} {al : Option Nat} {N : Nat} {b : Nat} {dc : Int32} {fc : Nat → Int32} {dw : Nat → Int32} {a0 : Int32} {a1 : Int32} {out : Int32} (g0 : hp b = some (.inr (2, [.ref (b + 1), .ref (b + 2), .int dc]))) (g1 : hp (b + 1) = some (.inl (kC E 0, 6, .inl fc))) (g2 : hp (b + 2) = some (.inl (kC E 0, 72, .inl dw)))  (h : f_X0_faceShown N fc dw a0 a1 = some out) : AM E l yX0_faceShown cX0_faceShown 8 (Option.some Jvm.ClassFile.FieldType.int) ⟨1, 0, 0, 25⟩ [.ref b, .int a0, .int a1] hp al (kRet out hp al) := by
  refine A_of (by decide +kernel) (Nat.le_of_ble_eq_true rfl) ?_
  intro p e s m args below meth c X hr hnm
  have X : CX E p l s m args meth c "DiceAudit$Dice" cX0_faceShown 8 := X
  refine A_L (L' := [(0, .ref b), (1, .int a0), (2, .int a1)]) rfl ?_
  unfold f_X0_faceShown at h
  refine A_aload_n X dX0_faceShown_0 0 rfl ?_
  refine A_get X dX0_faceShown_1 kcl_X0 0 (by decide) kw_67 g0 rfl ?_
  refine A_iload_n X dX0_faceShown_4 1 rfl ?_
  obtain ⟨t1, hct1, h⟩ := bind_o h
  refine A_cp (k' := 0) (n' := 0) (A_runSN (rest := []) X dX0_faceShown_5 (c_X10_at g1  hct1) kY_X10_at kw_494 ⟨(Nat.le_of_ble_eq_true rfl), (Nat.le_of_ble_eq_true rfl), (Nat.le_of_ble_eq_true rfl), (Nat.le_of_ble_eq_true rfl)⟩ rfl (Nat.le_of_ble_eq_true rfl)) rfl rfl ?_
  refine A_istore_n (L' := [(3, .int t1), (0, .ref b), (1, .int a0), (2, .int a1)]) X dX0_faceShown_8 rfl (by decide) rfl ?_
  refine A_aload_n X dX0_faceShown_9 1 rfl ?_
  refine A_get X dX0_faceShown_10 kcl_X0 1 (by decide) kw_68 g0 rfl ?_
  refine A_iload_n X dX0_faceShown_13 2 rfl ?_
  refine A_iconst (v := 1) X dX0_faceShown_14 (by decide) ?_
  obtain ⟨t2, hct2, h⟩ := bind_o h
  refine A_cp (k' := 0) (n' := 0) (A_runSN (rest := [.ref (b + 2)]) X dX0_faceShown_15 (c_X10_cellOf   hct2) kY_X10_cellOf kw_433 ⟨(Nat.le_of_ble_eq_true rfl), (Nat.le_of_ble_eq_true rfl), (Nat.le_of_ble_eq_true rfl), (Nat.le_of_ble_eq_true rfl)⟩ rfl (Nat.le_of_ble_eq_true rfl)) rfl rfl ?_
  refine A_iload_n X dX0_faceShown_18 0 rfl ?_
  obtain ⟨t3, hct3, h⟩ := bind_o h
  refine A_cp (k' := 0) (n' := 0) (A_runSN (rest := []) X dX0_faceShown_19 (c_X10_sumOf g2  hct3) kY_X10_sumOf kw_499 ⟨(Nat.le_of_ble_eq_true rfl), (Nat.le_of_ble_eq_true rfl), (Nat.le_of_ble_eq_true rfl), (Nat.le_of_ble_eq_true rfl)⟩ rfl (Nat.le_of_ble_eq_true rfl)) rfl rfl ?_
  refine A_istore (L' := [(4, .int t3), (3, .int t1), (0, .ref b), (1, .int a0), (2, .int a1)]) X dX0_faceShown_22 (by decide) rfl ?_
  refine A_iload X dX0_faceShown_24 0 rfl ?_
  refine A_if_le (tgt := 36) X dX0_faceShown_26 h (by decide) (fun hc h => ?_) (fun hc h => ?_)
  · refine A_iconst (v := 0) X dX0_faceShown_36 (by decide) ?_
    refine A_sub (L' := [(0, .ref b), (1, .int a0), (3, .int t1)]) [2, 3, 1] rfl ?_
    exact c_X0_faceShown_L37 X hr g0 g1 g2  h
  · refine A_iload_n X dX0_faceShown_29 4 rfl ?_
    refine A_iload X dX0_faceShown_30 0 rfl ?_
    obtain ⟨hq, h⟩ := gd_o h
    refine A_irem X dX0_faceShown_32 (nz_o hq) ?_
    refine A_goto (tgt := 37) X dX0_faceShown_33 (by decide) ?_
    refine A_sub (L' := [(0, .ref b), (1, .int a0), (3, .int t1)]) [2, 3, 1] rfl ?_
    exact c_X0_faceShown_L37 X hr g0 g1 g2  h
set_option maxHeartbeats 4000000 in
set_option maxRecDepth 100000 in
theorem c_X0_fairFaceShown {E : KE} {l : Launch} {hp : Hp} {al : Option Nat} {b : Nat} {dc : Int32} {fc : Nat → Int32} {a0 : Int32} {a1 : Int32} {out : Int32} (g0 : hp b = some (.inr (2, [.ref (b + 1), .ref (b + 2), .int dc]))) (g1 : hp (b + 1) = some (.inl (kC E 0, 6, .inl fc)))  (h : f_X0_fairFaceShown fc a0 a1 = some out) : AM E l yX0_fairFaceShown cX0_fairFaceShown 4 (Option.some Jvm.ClassFile.FieldType.int) ⟨1, 0, 0, 21⟩ [.ref b, .int a0, .int a1] hp al (kRet out hp al) := by
  refine A_of (by decide +kernel) (Nat.le_of_ble_eq_true rfl) ?_
  intro p e s m args below meth c X hr hnm
  have X : CX E p l s m args meth c "DiceAudit$Dice" cX0_fairFaceShown 4 := X
  refine A_L (L' := [(0, .ref b), (1, .int a0), (2, .int a1)]) rfl ?_
  unfold f_X0_fairFaceShown at h
  refine A_aload_n X dX0_fairFaceShown_0 0 rfl ?_
  refine A_get X dX0_fairFaceShown_1 kcl_X0 0 (by decide) kw_67 g0 rfl ?_
  refine A_iload_n X dX0_fairFaceShown_4 1 rfl ?_
  obtain ⟨t1, hct1, h⟩ := bind_o h
  refine A_cp (k' := 0) (n' := 0) (A_runSN (rest := []) X dX0_fairFaceShown_5 (c_X10_at g1  hct1) kY_X10_at kw_494 ⟨(Nat.le_of_ble_eq_true rfl), (Nat.le_of_ble_eq_true rfl), (Nat.le_of_ble_eq_true rfl), (Nat.le_of_ble_eq_true rfl)⟩ rfl (Nat.le_of_ble_eq_true rfl)) rfl rfl ?_
  refine A_istore_n (L' := [(3, .int t1), (0, .ref b), (1, .int a0), (2, .int a1)]) X dX0_fairFaceShown_8 rfl (by decide) rfl ?_
  refine A_iload_n X dX0_fairFaceShown_9 0 rfl ?_
  refine A_if_le (tgt := 21) X dX0_fairFaceShown_10 h (by decide) (fun hc h => ?_) (fun hc h => ?_)
  · refine A_iconst (v := 1) X dX0_fairFaceShown_21 (by decide) ?_
    cases h
    exact A_iret X dX0_fairFaceShown_22 hr ⟨rfl, rfl, rfl⟩ (Nat.le_of_ble_eq_true rfl) (Nat.le_of_ble_eq_true rfl)
  · refine A_iload_n X dX0_fairFaceShown_13 3 rfl ?_
    refine A_iload_n X dX0_fairFaceShown_14 0 rfl ?_
    obtain ⟨hq, h⟩ := gd_o h
    refine A_irem X dX0_fairFaceShown_15 (nz_o hq) ?_
    refine A_iconst (v := 1) X dX0_fairFaceShown_16 (by decide) ?_
    refine A_iadd X dX0_fairFaceShown_17 ?_
    refine A_goto (tgt := 22) X dX0_fairFaceShown_18 (by decide) ?_
    cases h
    exact A_iret X dX0_fairFaceShown_22 hr ⟨rfl, rfl, rfl⟩ (Nat.le_of_ble_eq_true rfl) (Nat.le_of_ble_eq_true rfl)
abbrev P_X7_init (E : KE) (b : Nat)  (hp : Hp) : Option Value → Hp → Option Nat → Prop := fun v0 hp' al' => v0 = none ∧ hp' b = some (.inr (9, [.ref (b + 1), .ref (b + 2), .int 0])) ∧ hp' (b + 1) = some (.inl (kC E 0, 6, .inl (fun _ => 0))) ∧ hp' (b + 2) = some (.inl (kC E 0, 24, .inl (fun _ => 0))) ∧ (∀ q, (q < b ∨ (b + 3) ≤ q) → hp' q = hp q) ∧ some (b + 3) = al'
set_option maxHeartbeats 8000000 in
set_option maxRecDepth 100000 in
theorem c_X7_init {E : KE} {l : Launch} {hp : Hp} {b : Nat} (g0 : hp b = some (.inr (9, [.null, .null, .int 0])))  : AM E l yX7_init cX7_init 1 (Option.none : Option Jvm.ClassFile.FieldType) ⟨1, 2, 30, 12⟩ [.ref b] hp (some (b + 1)) (P_X7_init E b  hp) := by
  refine A_of (by decide +kernel) (Nat.le_of_ble_eq_true rfl) ?_
  intro p e s m args below meth c X hr hnm
  have X : CX E p l s m args meth c "DiceAudit$Players" cX7_init 1 := X
  refine A_L (L' := [(0, .ref b)]) rfl ?_
  refine A_aload_n X dX7_init_0 0 rfl ?_
  refine A_objI (i0 := 0) (i1 := 0) X dX7_init_1 kw_84 kw_37 kw_38 (Nat.le_of_ble_eq_true rfl) (Nat.le_of_ble_eq_true rfl) ?_
  refine A_aload_n X dX7_init_4 0 rfl ?_
  refine A_bipush (v := 6) X dX7_init_5 (by decide) ?_
  refine A_newi (z := (b + 1)) (N := 6) X dX7_init_7 kw_54 (by decide) (by decide) (Nat.le_of_ble_eq_true rfl) (Nat.le_of_ble_eq_true rfl) (Nat.le_of_ble_eq_true rfl) (fun hp1 (k1 : hp1 (b + 1) = some (.inl (kC E 0, 6, .inl (fun _ => 0)))) n1 => ?_)
  refine A_putF X dX7_init_9 kcl_X7 0 (by decide) kw_85 ((n1 _ (by omega)).trans g0) rfl (hnm.trans rfl) rfl rfl rfl (by simp) (fun hp2 (k2 : hp2 b = some (.inr (9, [.ref (b + 1), .null, .int 0]))) n2 => ?_)
  refine A_aload_n X dX7_init_12 0 rfl ?_
  refine A_bipush (v := 24) X dX7_init_13 (by decide) ?_
  refine A_newi (z := (b + 2)) (N := 24) X dX7_init_15 kw_54 (by decide) (by decide) (Nat.le_of_ble_eq_true rfl) (Nat.le_of_ble_eq_true rfl) (Nat.le_of_ble_eq_true rfl) (fun hp3 (k3 : hp3 (b + 2) = some (.inl (kC E 0, 24, .inl (fun _ => 0)))) n3 => ?_)
  refine A_putF X dX7_init_17 kcl_X7 1 (by decide) kw_86 ((n3 _ (by omega)).trans k2) rfl (hnm.trans rfl) rfl rfl rfl (by simp) (fun hp4 (k4 : hp4 b = some (.inr (9, [.ref (b + 1), .ref (b + 2), .int 0]))) n4 => ?_)
  refine A_aload_n X dX7_init_20 0 rfl ?_
  refine A_iconst (v := 0) X dX7_init_21 (by decide) ?_
  refine A_put X dX7_init_22 kcl_X7 2 (by decide) kw_87 k4 rfl rfl rfl (by simp) (fun hp5 (k5 : hp5 b = some (.inr (9, [.ref (b + 1), .ref (b + 2), .int 0]))) n5 => ?_)
  exact A_vret X dX7_init_25 hr ⟨rfl, k5, ((n5 _ (by omega)).trans ((n4 _ (by omega)).trans ((n3 _ (by omega)).trans ((n2 _ (by omega)).trans k1)))), ((n5 _ (by omega)).trans ((n4 _ (by omega)).trans k3)), (fun q z => ((n5 q (by omega)).trans ((n4 q (by omega)).trans ((n3 q (by omega)).trans ((n2 q (by omega)).trans (n1 q (by omega))))))), rfl⟩ (Nat.le_of_ble_eq_true rfl) (Nat.le_of_ble_eq_true rfl)
abbrev P_X4_init (E : KE) (b : Nat)  (hp : Hp) : Option Value → Hp → Option Nat → Prop := fun v0 hp' al' => v0 = none ∧ hp' b = some (.inr (6, [.ref (b + 1), .ref (b + 2), .int 0])) ∧ hp' (b + 1) = some (.inl (kC E 0, 300, .inl (fun _ => 0))) ∧ hp' (b + 2) = some (.inl (kC E 0, 432, .inl (fun _ => 0))) ∧ (∀ q, (q < b ∨ (b + 3) ≤ q) → hp' q = hp q) ∧ some (b + 3) = al'
set_option maxHeartbeats 8000000 in
set_option maxRecDepth 100000 in
theorem c_X4_init {E : KE} {l : Launch} {hp : Hp} {b : Nat} (g0 : hp b = some (.inr (6, [.null, .null, .int 0])))  : AM E l yX4_init cX4_init 1 (Option.none : Option Jvm.ClassFile.FieldType) ⟨1, 2, 732, 12⟩ [.ref b] hp (some (b + 1)) (P_X4_init E b  hp) := by
  refine A_of (by decide +kernel) (Nat.le_of_ble_eq_true rfl) ?_
  intro p e s m args below meth c X hr hnm
  have X : CX E p l s m args meth c "DiceAudit$Ledger" cX4_init 1 := X
  refine A_L (L' := [(0, .ref b)]) rfl ?_
  refine A_aload_n X dX4_init_0 0 rfl ?_
  refine A_objI (i0 := 0) (i1 := 0) X dX4_init_1 kw_102 kw_37 kw_38 (Nat.le_of_ble_eq_true rfl) (Nat.le_of_ble_eq_true rfl) ?_
  refine A_aload_n X dX4_init_4 0 rfl ?_
  refine A_sipush (v := 300) X dX4_init_5 (by decide) ?_
  refine A_newi (z := (b + 1)) (N := 300) X dX4_init_8 kw_54 (by decide) (by decide) (Nat.le_of_ble_eq_true rfl) (Nat.le_of_ble_eq_true rfl) (Nat.le_of_ble_eq_true rfl) (fun hp1 (k1 : hp1 (b + 1) = some (.inl (kC E 0, 300, .inl (fun _ => 0)))) n1 => ?_)
  refine A_putF X dX4_init_10 kcl_X4 0 (by decide) kw_103 ((n1 _ (by omega)).trans g0) rfl (hnm.trans rfl) rfl rfl rfl (by simp) (fun hp2 (k2 : hp2 b = some (.inr (6, [.ref (b + 1), .null, .int 0]))) n2 => ?_)
  refine A_aload_n X dX4_init_13 0 rfl ?_
  refine A_sipush (v := 432) X dX4_init_14 (by decide) ?_
  refine A_newi (z := (b + 2)) (N := 432) X dX4_init_17 kw_54 (by decide) (by decide) (Nat.le_of_ble_eq_true rfl) (Nat.le_of_ble_eq_true rfl) (Nat.le_of_ble_eq_true rfl) (fun hp3 (k3 : hp3 (b + 2) = some (.inl (kC E 0, 432, .inl (fun _ => 0)))) n3 => ?_)
  refine A_putF X dX4_init_19 kcl_X4 1 (by decide) kw_104 ((n3 _ (by omega)).trans k2) rfl (hnm.trans rfl) rfl rfl rfl (by simp) (fun hp4 (k4 : hp4 b = some (.inr (6, [.ref (b + 1), .ref (b + 2), .int 0]))) n4 => ?_)
  refine A_aload_n X dX4_init_22 0 rfl ?_
  refine A_iconst (v := 0) X dX4_init_23 (by decide) ?_
  refine A_put X dX4_init_24 kcl_X4 2 (by decide) kw_106 k4 rfl rfl rfl (by simp) (fun hp5 (k5 : hp5 b = some (.inr (6, [.ref (b + 1), .ref (b + 2), .int 0]))) n5 => ?_)
  exact A_vret X dX4_init_27 hr ⟨rfl, k5, ((n5 _ (by omega)).trans ((n4 _ (by omega)).trans ((n3 _ (by omega)).trans ((n2 _ (by omega)).trans k1)))), ((n5 _ (by omega)).trans ((n4 _ (by omega)).trans k3)), (fun q z => ((n5 q (by omega)).trans ((n4 q (by omega)).trans ((n3 q (by omega)).trans ((n2 q (by omega)).trans (n1 q (by omega))))))), rfl⟩ (Nat.le_of_ble_eq_true rfl) (Nat.le_of_ble_eq_true rfl)
abbrev P_X6_init (E : KE) (b : Nat)  (hp : Hp) : Option Value → Hp → Option Nat → Prop := fun v0 hp' al' => v0 = none ∧ hp' b = some (.inr (8, [.ref (b + 1), .ref (b + 2), .int 0])) ∧ hp' (b + 1) = some (.inl (kC E 0, 36, .inl (fun _ => 0))) ∧ hp' (b + 2) = some (.inl (kC E 0, 36, .inl (fun _ => 0))) ∧ (∀ q, (q < b ∨ (b + 3) ≤ q) → hp' q = hp q) ∧ some (b + 3) = al'
set_option maxHeartbeats 8000000 in
set_option maxRecDepth 100000 in
theorem c_X6_init {E : KE} {l : Launch} {hp : Hp} {b : Nat} (g0 : hp b = some (.inr (8, [.null, .null, .int 0])))  : AM E l yX6_init cX6_init 1 (Option.none : Option Jvm.ClassFile.FieldType) ⟨1, 2, 72, 12⟩ [.ref b] hp (some (b + 1)) (P_X6_init E b  hp) := by
  refine A_of (by decide +kernel) (Nat.le_of_ble_eq_true rfl) ?_
  intro p e s m args below meth c X hr hnm
  have X : CX E p l s m args meth c "DiceAudit$Offences" cX6_init 1 := X
  refine A_L (L' := [(0, .ref b)]) rfl ?_
  refine A_aload_n X dX6_init_0 0 rfl ?_
  refine A_objI (i0 := 0) (i1 := 0) X dX6_init_1 kw_121 kw_37 kw_38 (Nat.le_of_ble_eq_true rfl) (Nat.le_of_ble_eq_true rfl) ?_
  refine A_aload_n X dX6_init_4 0 rfl ?_
  refine A_bipush (v := 36) X dX6_init_5 (by decide) ?_
  refine A_newi (z := (b + 1)) (N := 36) X dX6_init_7 kw_54 (by decide) (by decide) (Nat.le_of_ble_eq_true rfl) (Nat.le_of_ble_eq_true rfl) (Nat.le_of_ble_eq_true rfl) (fun hp1 (k1 : hp1 (b + 1) = some (.inl (kC E 0, 36, .inl (fun _ => 0)))) n1 => ?_)
  refine A_putF X dX6_init_9 kcl_X6 0 (by decide) kw_122 ((n1 _ (by omega)).trans g0) rfl (hnm.trans rfl) rfl rfl rfl (by simp) (fun hp2 (k2 : hp2 b = some (.inr (8, [.ref (b + 1), .null, .int 0]))) n2 => ?_)
  refine A_aload_n X dX6_init_12 0 rfl ?_
  refine A_bipush (v := 36) X dX6_init_13 (by decide) ?_
  refine A_newi (z := (b + 2)) (N := 36) X dX6_init_15 kw_54 (by decide) (by decide) (Nat.le_of_ble_eq_true rfl) (Nat.le_of_ble_eq_true rfl) (Nat.le_of_ble_eq_true rfl) (fun hp3 (k3 : hp3 (b + 2) = some (.inl (kC E 0, 36, .inl (fun _ => 0)))) n3 => ?_)
  refine A_putF X dX6_init_17 kcl_X6 1 (by decide) kw_125 ((n3 _ (by omega)).trans k2) rfl (hnm.trans rfl) rfl rfl rfl (by simp) (fun hp4 (k4 : hp4 b = some (.inr (8, [.ref (b + 1), .ref (b + 2), .int 0]))) n4 => ?_)
  refine A_aload_n X dX6_init_20 0 rfl ?_
  refine A_iconst (v := 0) X dX6_init_21 (by decide) ?_
  refine A_put X dX6_init_22 kcl_X6 2 (by decide) kw_128 k4 rfl rfl rfl (by simp) (fun hp5 (k5 : hp5 b = some (.inr (8, [.ref (b + 1), .ref (b + 2), .int 0]))) n5 => ?_)
  exact A_vret X dX6_init_25 hr ⟨rfl, k5, ((n5 _ (by omega)).trans ((n4 _ (by omega)).trans ((n3 _ (by omega)).trans ((n2 _ (by omega)).trans k1)))), ((n5 _ (by omega)).trans ((n4 _ (by omega)).trans k3)), (fun q z => ((n5 q (by omega)).trans ((n4 q (by omega)).trans ((n3 q (by omega)).trans ((n2 q (by omega)).trans (n1 q (by omega))))))), rfl⟩ (Nat.le_of_ble_eq_true rfl) (Nat.le_of_ble_eq_true rfl)
abbrev P_X7_clear (E : KE) (b : Nat)  (hp : Hp) (al : Option Nat) (out : Int32) : Option Value → Hp → Option Nat → Prop := fun v0 hp' al' => v0 = none ∧ hp' b = some (.inr (9, [.ref (b + 1), .ref (b + 2), .int out])) ∧ (∀ q, q ≠ b → hp' q = hp q) ∧ al = al'
set_option maxHeartbeats 4000000 in
set_option maxRecDepth 100000 in
theorem c_X7_clear {E : KE} {l : Launch} {hp : Hp} {al : Option Nat} {b : Nat} {pc : Int32}  {out : Int32} (g0 : hp b = some (.inr (9, [.ref (b + 1), .ref (b + 2), .int pc])))  (h : f_X7_clear pc = some out) : AM E l yX7_clear cX7_clear 1 (Option.none : Option Jvm.ClassFile.FieldType) ⟨0, 0, 0, 0⟩ [.ref b] hp al (P_X7_clear E b hp al out) := by
  refine A_of (by decide +kernel) (Nat.le_of_ble_eq_true rfl) ?_
  intro p e s m args below meth c X hr hnm
  have X : CX E p l s m args meth c "DiceAudit$Players" cX7_clear 1 := X
  refine A_L (L' := [(0, .ref b)]) rfl ?_
  unfold f_X7_clear at h
  refine A_aload_n X dX7_clear_0 0 rfl ?_
  refine A_iconst (v := 0) X dX7_clear_1 (by decide) ?_
  refine A_put X dX7_clear_2 kcl_X7 2 (by decide) kw_87 g0 rfl rfl rfl (by simp) (fun hp1 (k1 : hp1 b = some (.inr (9, [.ref (b + 1), .ref (b + 2), .int 0]))) n1 => ?_)
  cases h
  exact A_vret X dX7_clear_5 hr ⟨rfl, k1, (fun q z0 => (n1 q z0)), rfl⟩ (Nat.le_of_ble_eq_true rfl) (Nat.le_of_ble_eq_true rfl)
abbrev P_X4_clear (E : KE) (b : Nat)  (hp : Hp) (al : Option Nat) (out : Int32 × (Nat → Int32)) : Option Value → Hp → Option Nat → Prop := fun v0 hp' al' => v0 = none ∧ hp' b = some (.inr (6, [.ref (b + 1), .ref (b + 2), .int out.1])) ∧ hp' (b + 2) = some (.inl (kC E 0, 432, .inl out.2)) ∧ (∀ q, q ≠ b → q ≠ (b + 2) → hp' q = hp q) ∧ al = al'
set_option maxHeartbeats 4000000 in
set_option maxRecDepth 100000 in
theorem c_X4_clear {E : KE} {l : Launch} {hp : Hp} {al : Option Nat} {N : Nat} {b : Nat} {tc : Int32} {fr : Nat → Int32}  {out : Int32 × (Nat → Int32)} (g0 : hp b = some (.inr (6, [.ref (b + 1), .ref (b + 2), .int tc]))) (g2 : hp (b + 2) = some (.inl (kC E 0, 432, .inl fr)))  (h : f_X4_clear N tc fr = some out) : AM E l yX4_clear cX4_clear 1 (Option.none : Option Jvm.ClassFile.FieldType) ⟨1, 0, 0, 23⟩ [.ref b] hp al (P_X4_clear E b hp al out) := by
  refine A_of (by decide +kernel) (Nat.le_of_ble_eq_true rfl) ?_
  intro p e s m args below meth c X hr hnm
  have X : CX E p l s m args meth c "DiceAudit$Ledger" cX4_clear 1 := X
  refine A_L (L' := [(0, .ref b)]) rfl ?_
  unfold f_X4_clear at h
  refine A_aload_n X dX4_clear_0 0 rfl ?_
  refine A_iconst (v := 0) X dX4_clear_1 (by decide) ?_
  refine A_put X dX4_clear_2 kcl_X4 2 (by decide) kw_106 g0 rfl rfl rfl (by simp) (fun hp1 (k1 : hp1 b = some (.inr (6, [.ref (b + 1), .ref (b + 2), .int 0]))) n1 => ?_)
  refine A_aload_n X dX4_clear_5 0 rfl ?_
  refine A_get X dX4_clear_6 kcl_X4 1 (by decide) kw_104 k1 rfl ?_
  refine A_iconst (v := 0) X dX4_clear_9 (by decide) ?_
  obtain ⟨t1, hct1, h⟩ := bind_o h
  refine A_c (k' := 0) (n' := 0) rfl rfl (A_runS (rest := []) X dX4_clear_10 (c_J7_fill_53178 ((n1 _ (by omega)).trans g2)  hct1) kY_J7_fill_53178 kw_409 ⟨(Nat.le_of_ble_eq_true rfl), (Nat.le_of_ble_eq_true rfl), (Nat.le_of_ble_eq_true rfl), (Nat.le_of_ble_eq_true rfl)⟩ rfl (Nat.le_of_ble_eq_true rfl)) (fun v9 hp2 al9 hP => ?_)
  obtain ⟨rfl, k2_0, n2, rfl⟩ := hP
  replace k2_0 : hp2 (b + 2) = some (.inl (kC E 0, 432, .inl t1)) := k2_0
  refine A_st (st' := []) rfl ?_
  cases h
  exact A_vret X dX4_clear_13 hr ⟨rfl, ((n2 _ (by omega)).trans k1), k2_0, (fun q z0 z1 => ((n2 q z1).trans (n1 q z0))), rfl⟩ (Nat.le_of_ble_eq_true rfl) (Nat.le_of_ble_eq_true rfl)
abbrev P_X6_clear (E : KE) (b : Nat)  (hp : Hp) (al : Option Nat) (out : Int32) : Option Value → Hp → Option Nat → Prop := fun v0 hp' al' => v0 = none ∧ hp' b = some (.inr (8, [.ref (b + 1), .ref (b + 2), .int out])) ∧ (∀ q, q ≠ b → hp' q = hp q) ∧ al = al'
set_option maxHeartbeats 4000000 in
set_option maxRecDepth 100000 in
theorem c_X6_clear {E : KE} {l : Launch} {hp : Hp} {al : Option Nat} {b : Nat} {oc : Int32}  {out : Int32} (g0 : hp b = some (.inr (8, [.ref (b + 1), .ref (b + 2), .int oc])))  (h : f_X6_clear oc = some out) : AM E l yX6_clear cX6_clear 1 (Option.none : Option Jvm.ClassFile.FieldType) ⟨0, 0, 0, 0⟩ [.ref b] hp al (P_X6_clear E b hp al out) := by
  refine A_of (by decide +kernel) (Nat.le_of_ble_eq_true rfl) ?_
  intro p e s m args below meth c X hr hnm
  have X : CX E p l s m args meth c "DiceAudit$Offences" cX6_clear 1 := X
  refine A_L (L' := [(0, .ref b)]) rfl ?_
  unfold f_X6_clear at h
  refine A_aload_n X dX6_clear_0 0 rfl ?_
  refine A_iconst (v := 0) X dX6_clear_1 (by decide) ?_
  refine A_put X dX6_clear_2 kcl_X6 2 (by decide) kw_128 g0 rfl rfl rfl (by simp) (fun hp1 (k1 : hp1 b = some (.inr (8, [.ref (b + 1), .ref (b + 2), .int 0]))) n1 => ?_)
  cases h
  exact A_vret X dX6_clear_5 hr ⟨rfl, k1, (fun q z0 => (n1 q z0)), rfl⟩ (Nat.le_of_ble_eq_true rfl) (Nat.le_of_ble_eq_true rfl)
abbrev P_X7_copyFrom (E : KE) (b : Nat) (b2 : Nat)  (hp : Hp) (al : Option Nat) (out : Int32 × (Nat → Int32) × (Nat → Int32)) : Option Value → Hp → Option Nat → Prop := fun v0 hp' al' => v0 = none ∧ hp' b = some (.inr (9, [.ref (b + 1), .ref (b + 2), .int out.1])) ∧ hp' (b + 1) = some (.inl (kC E 0, 6, .inl out.2.1)) ∧ hp' (b + 2) = some (.inl (kC E 0, 24, .inl out.2.2)) ∧ (∀ q, q ≠ b → q ≠ (b + 1) → q ≠ (b + 2) → hp' q = hp q) ∧ al = al'
set_option maxHeartbeats 4000000 in
set_option maxRecDepth 100000 in
theorem c_X7_copyFrom {E : KE} {l : Launch} {hp : Hp} {al : Option Nat} {b : Nat} {b2 : Nat} {pc : Int32} {ln : Nat → Int32} {lt : Nat → Int32} {y_pc : Int32} {y_ln : Nat → Int32} {y_lt : Nat → Int32}  {out : Int32 × (Nat → Int32) × (Nat → Int32)} (g0 : hp b = some (.inr (9, [.ref (b + 1), .ref (b + 2), .int pc]))) (g1 : hp (b + 1) = some (.inl (kC E 0, 6, .inl ln))) (g2 : hp (b + 2) = some (.inl (kC E 0, 24, .inl lt))) (g3 : hp b2 = some (.inr (9, [.ref (b2 + 1), .ref (b2 + 2), .int y_pc]))) (g4 : hp (b2 + 1) = some (.inl (kC E 0, 6, .inl y_ln))) (g5 : hp (b2 + 2) = some (.inl (kC E 0, 24, .inl y_lt))) (hz0 : (b + 3) ≤ b2 ∨ (b2 + 3) ≤ b) (h : f_X7_copyFrom y_pc y_ln y_lt pc ln lt = some out) : AM E l yX7_copyFrom cX7_copyFrom 2 (Option.none : Option Jvm.ClassFile.FieldType) ⟨2, 0, 0, 39⟩ [.ref b, .ref b2] hp al (P_X7_copyFrom E b b2 hp al out) := by
  refine A_of (by decide +kernel) (Nat.le_of_ble_eq_true rfl) ?_
  intro p e s m args below meth c X hr hnm
  have X : CX E p l s m args meth c "DiceAudit$Players" cX7_copyFrom 2 := X
  refine A_L (L' := [(0, .ref b), (1, .ref b2)]) rfl ?_
  unfold f_X7_copyFrom at h
  refine A_aload_n X dX7_copyFrom_0 0 rfl ?_
  refine A_aload_n X dX7_copyFrom_1 1 rfl ?_
  refine A_get X dX7_copyFrom_2 kcl_X7 2 (by decide) kw_87 g3 rfl ?_
  refine A_put X dX7_copyFrom_5 kcl_X7 2 (by decide) kw_87 g0 rfl rfl rfl (by simp) (fun hp1 (k1 : hp1 b = some (.inr (9, [.ref (b + 1), .ref (b + 2), .int y_pc]))) n1 => ?_)
  refine A_aload_n X dX7_copyFrom_8 1 rfl ?_
  refine A_get X dX7_copyFrom_9 kcl_X7 0 (by decide) kw_85 ((n1 _ (by omega)).trans g3) rfl ?_
  refine A_aload_n X dX7_copyFrom_12 0 rfl ?_
  refine A_get X dX7_copyFrom_13 kcl_X7 0 (by decide) kw_85 k1 rfl ?_
  obtain ⟨t1, hct1, h⟩ := bind_o h
  refine A_c (k' := 0) (n' := 0) rfl rfl (A_runSN (rest := []) X dX7_copyFrom_16 (c_X10_copyRow ((n1 _ (by omega)).trans g4) ((n1 _ (by omega)).trans g1) (by omega) hct1) kY_X10_copyRow kw_635 ⟨(Nat.le_of_ble_eq_true rfl), (Nat.le_of_ble_eq_true rfl), (Nat.le_of_ble_eq_true rfl), (Nat.le_of_ble_eq_true rfl)⟩ rfl (Nat.le_of_ble_eq_true rfl)) (fun v9 hp2 al9 hP => ?_)
  obtain ⟨rfl, k2_0, n2, rfl⟩ := hP
  replace k2_0 : hp2 (b + 1) = some (.inl (kC E 0, 6, .inl t1)) := k2_0
  refine A_st (st' := []) rfl ?_
  refine A_aload_n X dX7_copyFrom_19 1 rfl ?_
  refine A_get X dX7_copyFrom_20 kcl_X7 1 (by decide) kw_86 ((n2 _ (by omega)).trans ((n1 _ (by omega)).trans g3)) rfl ?_
  refine A_aload_n X dX7_copyFrom_23 0 rfl ?_
  refine A_get X dX7_copyFrom_24 kcl_X7 1 (by decide) kw_86 ((n2 _ (by omega)).trans k1) rfl ?_
  obtain ⟨t2, hct2, h⟩ := bind_o h
  refine A_c (k' := 0) (n' := 0) rfl rfl (A_runSN (rest := []) X dX7_copyFrom_27 (c_X10_copyRow ((n2 _ (by omega)).trans ((n1 _ (by omega)).trans g5)) ((n2 _ (by omega)).trans ((n1 _ (by omega)).trans g2)) (by omega) hct2) kY_X10_copyRow kw_635 ⟨(Nat.le_of_ble_eq_true rfl), (Nat.le_of_ble_eq_true rfl), (Nat.le_of_ble_eq_true rfl), (Nat.le_of_ble_eq_true rfl)⟩ rfl (Nat.le_of_ble_eq_true rfl)) (fun v9 hp3 al9 hP => ?_)
  obtain ⟨rfl, k3_0, n3, rfl⟩ := hP
  replace k3_0 : hp3 (b + 2) = some (.inl (kC E 0, 24, .inl t2)) := k3_0
  refine A_st (st' := []) rfl ?_
  cases h
  exact A_vret X dX7_copyFrom_30 hr ⟨rfl, ((n3 _ (by omega)).trans ((n2 _ (by omega)).trans k1)), ((n3 _ (by omega)).trans k2_0), k3_0, (fun q z0 z1 z2 => ((n3 q z2).trans ((n2 q z1).trans (n1 q z0)))), rfl⟩ (Nat.le_of_ble_eq_true rfl) (Nat.le_of_ble_eq_true rfl)
abbrev P_X4_copyFrom (E : KE) (b : Nat) (b2 : Nat)  (hp : Hp) (al : Option Nat) (out : Int32 × (Nat → Int32) × (Nat → Int32)) : Option Value → Hp → Option Nat → Prop := fun v0 hp' al' => v0 = none ∧ hp' b = some (.inr (6, [.ref (b + 1), .ref (b + 2), .int out.1])) ∧ hp' (b + 1) = some (.inl (kC E 0, 300, .inl out.2.1)) ∧ hp' (b + 2) = some (.inl (kC E 0, 432, .inl out.2.2)) ∧ (∀ q, q ≠ b → q ≠ (b + 1) → q ≠ (b + 2) → hp' q = hp q) ∧ al = al'
set_option maxHeartbeats 4000000 in
set_option maxRecDepth 100000 in
theorem c_X4_copyFrom {E : KE} {l : Launch} {hp : Hp} {al : Option Nat} {b : Nat} {b2 : Nat} {tc : Int32} {en : Nat → Int32} {fr : Nat → Int32} {y_tc : Int32} {y_en : Nat → Int32} {y_fr : Nat → Int32}  {out : Int32 × (Nat → Int32) × (Nat → Int32)} (g0 : hp b = some (.inr (6, [.ref (b + 1), .ref (b + 2), .int tc]))) (g1 : hp (b + 1) = some (.inl (kC E 0, 300, .inl en))) (g2 : hp (b + 2) = some (.inl (kC E 0, 432, .inl fr))) (g3 : hp b2 = some (.inr (6, [.ref (b2 + 1), .ref (b2 + 2), .int y_tc]))) (g4 : hp (b2 + 1) = some (.inl (kC E 0, 300, .inl y_en))) (g5 : hp (b2 + 2) = some (.inl (kC E 0, 432, .inl y_fr))) (hz0 : (b + 3) ≤ b2 ∨ (b2 + 3) ≤ b) (h : f_X4_copyFrom y_tc y_en y_fr tc en fr = some out) : AM E l yX4_copyFrom cX4_copyFrom 2 (Option.none : Option Jvm.ClassFile.FieldType) ⟨2, 0, 0, 39⟩ [.ref b, .ref b2] hp al (P_X4_copyFrom E b b2 hp al out) := by
  refine A_of (by decide +kernel) (Nat.le_of_ble_eq_true rfl) ?_
  intro p e s m args below meth c X hr hnm
  have X : CX E p l s m args meth c "DiceAudit$Ledger" cX4_copyFrom 2 := X
  refine A_L (L' := [(0, .ref b), (1, .ref b2)]) rfl ?_
  unfold f_X4_copyFrom at h
  refine A_aload_n X dX4_copyFrom_0 0 rfl ?_
  refine A_aload_n X dX4_copyFrom_1 1 rfl ?_
  refine A_get X dX4_copyFrom_2 kcl_X4 2 (by decide) kw_106 g3 rfl ?_
  refine A_put X dX4_copyFrom_5 kcl_X4 2 (by decide) kw_106 g0 rfl rfl rfl (by simp) (fun hp1 (k1 : hp1 b = some (.inr (6, [.ref (b + 1), .ref (b + 2), .int y_tc]))) n1 => ?_)
  refine A_aload_n X dX4_copyFrom_8 1 rfl ?_
  refine A_get X dX4_copyFrom_9 kcl_X4 0 (by decide) kw_103 ((n1 _ (by omega)).trans g3) rfl ?_
  refine A_aload_n X dX4_copyFrom_12 0 rfl ?_
  refine A_get X dX4_copyFrom_13 kcl_X4 0 (by decide) kw_103 k1 rfl ?_
  obtain ⟨t1, hct1, h⟩ := bind_o h
  refine A_c (k' := 0) (n' := 0) rfl rfl (A_runSN (rest := []) X dX4_copyFrom_16 (c_X10_copyRow ((n1 _ (by omega)).trans g4) ((n1 _ (by omega)).trans g1) (by omega) hct1) kY_X10_copyRow kw_640 ⟨(Nat.le_of_ble_eq_true rfl), (Nat.le_of_ble_eq_true rfl), (Nat.le_of_ble_eq_true rfl), (Nat.le_of_ble_eq_true rfl)⟩ rfl (Nat.le_of_ble_eq_true rfl)) (fun v9 hp2 al9 hP => ?_)
  obtain ⟨rfl, k2_0, n2, rfl⟩ := hP
  replace k2_0 : hp2 (b + 1) = some (.inl (kC E 0, 300, .inl t1)) := k2_0
  refine A_st (st' := []) rfl ?_
  refine A_aload_n X dX4_copyFrom_19 1 rfl ?_
  refine A_get X dX4_copyFrom_20 kcl_X4 1 (by decide) kw_104 ((n2 _ (by omega)).trans ((n1 _ (by omega)).trans g3)) rfl ?_
  refine A_aload_n X dX4_copyFrom_23 0 rfl ?_
  refine A_get X dX4_copyFrom_24 kcl_X4 1 (by decide) kw_104 ((n2 _ (by omega)).trans k1) rfl ?_
  obtain ⟨t2, hct2, h⟩ := bind_o h
  refine A_c (k' := 0) (n' := 0) rfl rfl (A_runSN (rest := []) X dX4_copyFrom_27 (c_X10_copyRow ((n2 _ (by omega)).trans ((n1 _ (by omega)).trans g5)) ((n2 _ (by omega)).trans ((n1 _ (by omega)).trans g2)) (by omega) hct2) kY_X10_copyRow kw_640 ⟨(Nat.le_of_ble_eq_true rfl), (Nat.le_of_ble_eq_true rfl), (Nat.le_of_ble_eq_true rfl), (Nat.le_of_ble_eq_true rfl)⟩ rfl (Nat.le_of_ble_eq_true rfl)) (fun v9 hp3 al9 hP => ?_)
  obtain ⟨rfl, k3_0, n3, rfl⟩ := hP
  replace k3_0 : hp3 (b + 2) = some (.inl (kC E 0, 432, .inl t2)) := k3_0
  refine A_st (st' := []) rfl ?_
  cases h
  exact A_vret X dX4_copyFrom_30 hr ⟨rfl, ((n3 _ (by omega)).trans ((n2 _ (by omega)).trans k1)), ((n3 _ (by omega)).trans k2_0), k3_0, (fun q z0 z1 z2 => ((n3 q z2).trans ((n2 q z1).trans (n1 q z0)))), rfl⟩ (Nat.le_of_ble_eq_true rfl) (Nat.le_of_ble_eq_true rfl)
abbrev P_X6_copyFrom (E : KE) (b : Nat) (b2 : Nat)  (hp : Hp) (al : Option Nat) (out : Int32 × (Nat → Int32) × (Nat → Int32)) : Option Value → Hp → Option Nat → Prop := fun v0 hp' al' => v0 = none ∧ hp' b = some (.inr (8, [.ref (b + 1), .ref (b + 2), .int out.1])) ∧ hp' (b + 1) = some (.inl (kC E 0, 36, .inl out.2.1)) ∧ hp' (b + 2) = some (.inl (kC E 0, 36, .inl out.2.2)) ∧ (∀ q, q ≠ b → q ≠ (b + 1) → q ≠ (b + 2) → hp' q = hp q) ∧ al = al'
set_option maxHeartbeats 4000000 in
set_option maxRecDepth 100000 in
theorem c_X6_copyFrom {E : KE} {l : Launch} {hp : Hp} {al : Option Nat} {b : Nat} {b2 : Nat} {oc : Int32} {op : Nat → Int32} {os : Nat → Int32} {y_oc : Int32} {y_op : Nat → Int32} {y_os : Nat → Int32}  {out : Int32 × (Nat → Int32) × (Nat → Int32)} (g0 : hp b = some (.inr (8, [.ref (b + 1), .ref (b + 2), .int oc]))) (g1 : hp (b + 1) = some (.inl (kC E 0, 36, .inl op))) (g2 : hp (b + 2) = some (.inl (kC E 0, 36, .inl os))) (g3 : hp b2 = some (.inr (8, [.ref (b2 + 1), .ref (b2 + 2), .int y_oc]))) (g4 : hp (b2 + 1) = some (.inl (kC E 0, 36, .inl y_op))) (g5 : hp (b2 + 2) = some (.inl (kC E 0, 36, .inl y_os))) (hz0 : (b + 3) ≤ b2 ∨ (b2 + 3) ≤ b) (h : f_X6_copyFrom y_oc y_op y_os oc op os = some out) : AM E l yX6_copyFrom cX6_copyFrom 2 (Option.none : Option Jvm.ClassFile.FieldType) ⟨2, 0, 0, 39⟩ [.ref b, .ref b2] hp al (P_X6_copyFrom E b b2 hp al out) := by
  refine A_of (by decide +kernel) (Nat.le_of_ble_eq_true rfl) ?_
  intro p e s m args below meth c X hr hnm
  have X : CX E p l s m args meth c "DiceAudit$Offences" cX6_copyFrom 2 := X
  refine A_L (L' := [(0, .ref b), (1, .ref b2)]) rfl ?_
  unfold f_X6_copyFrom at h
  refine A_aload_n X dX6_copyFrom_0 0 rfl ?_
  refine A_aload_n X dX6_copyFrom_1 1 rfl ?_
  refine A_get X dX6_copyFrom_2 kcl_X6 2 (by decide) kw_128 g3 rfl ?_
  refine A_put X dX6_copyFrom_5 kcl_X6 2 (by decide) kw_128 g0 rfl rfl rfl (by simp) (fun hp1 (k1 : hp1 b = some (.inr (8, [.ref (b + 1), .ref (b + 2), .int y_oc]))) n1 => ?_)
  refine A_aload_n X dX6_copyFrom_8 1 rfl ?_
  refine A_get X dX6_copyFrom_9 kcl_X6 0 (by decide) kw_122 ((n1 _ (by omega)).trans g3) rfl ?_
  refine A_aload_n X dX6_copyFrom_12 0 rfl ?_
  refine A_get X dX6_copyFrom_13 kcl_X6 0 (by decide) kw_122 k1 rfl ?_
  obtain ⟨t1, hct1, h⟩ := bind_o h
  refine A_c (k' := 0) (n' := 0) rfl rfl (A_runSN (rest := []) X dX6_copyFrom_16 (c_X10_copyRow ((n1 _ (by omega)).trans g4) ((n1 _ (by omega)).trans g1) (by omega) hct1) kY_X10_copyRow kw_645 ⟨(Nat.le_of_ble_eq_true rfl), (Nat.le_of_ble_eq_true rfl), (Nat.le_of_ble_eq_true rfl), (Nat.le_of_ble_eq_true rfl)⟩ rfl (Nat.le_of_ble_eq_true rfl)) (fun v9 hp2 al9 hP => ?_)
  obtain ⟨rfl, k2_0, n2, rfl⟩ := hP
  replace k2_0 : hp2 (b + 1) = some (.inl (kC E 0, 36, .inl t1)) := k2_0
  refine A_st (st' := []) rfl ?_
  refine A_aload_n X dX6_copyFrom_19 1 rfl ?_
  refine A_get X dX6_copyFrom_20 kcl_X6 1 (by decide) kw_125 ((n2 _ (by omega)).trans ((n1 _ (by omega)).trans g3)) rfl ?_
  refine A_aload_n X dX6_copyFrom_23 0 rfl ?_
  refine A_get X dX6_copyFrom_24 kcl_X6 1 (by decide) kw_125 ((n2 _ (by omega)).trans k1) rfl ?_
  obtain ⟨t2, hct2, h⟩ := bind_o h
  refine A_c (k' := 0) (n' := 0) rfl rfl (A_runSN (rest := []) X dX6_copyFrom_27 (c_X10_copyRow ((n2 _ (by omega)).trans ((n1 _ (by omega)).trans g5)) ((n2 _ (by omega)).trans ((n1 _ (by omega)).trans g2)) (by omega) hct2) kY_X10_copyRow kw_645 ⟨(Nat.le_of_ble_eq_true rfl), (Nat.le_of_ble_eq_true rfl), (Nat.le_of_ble_eq_true rfl), (Nat.le_of_ble_eq_true rfl)⟩ rfl (Nat.le_of_ble_eq_true rfl)) (fun v9 hp3 al9 hP => ?_)
  obtain ⟨rfl, k3_0, n3, rfl⟩ := hP
  replace k3_0 : hp3 (b + 2) = some (.inl (kC E 0, 36, .inl t2)) := k3_0
  refine A_st (st' := []) rfl ?_
  cases h
  exact A_vret X dX6_copyFrom_30 hr ⟨rfl, ((n3 _ (by omega)).trans ((n2 _ (by omega)).trans k1)), ((n3 _ (by omega)).trans k2_0), k3_0, (fun q z0 z1 z2 => ((n3 q z2).trans ((n2 q z1).trans (n1 q z0)))), rfl⟩ (Nat.le_of_ble_eq_true rfl) (Nat.le_of_ble_eq_true rfl)
abbrev P_X4_add (E : KE) (b : Nat)  (hp : Hp) (al : Option Nat) (out : Int32 × (Nat → Int32) × (Nat → Int32)) : Option Value → Hp → Option Nat → Prop := fun v0 hp' al' => v0 = none ∧ hp' b = some (.inr (6, [.ref (b + 1), .ref (b + 2), .int out.1])) ∧ hp' (b + 1) = some (.inl (kC E 0, 300, .inl out.2.1)) ∧ hp' (b + 2) = some (.inl (kC E 0, 432, .inl out.2.2)) ∧ (∀ q, q ≠ b → q ≠ (b + 1) → q ≠ (b + 2) → hp' q = hp q) ∧ al = al'
set_option maxHeartbeats 4000000 in
set_option maxRecDepth 100000 in
theorem c_X4_add_L34 {E : KE} {p : Program} {l : Launch} {e : Env} {s : State} {m : MethodId} {args : Array Value} {below : List Frame} {meth : Method} {c : Code} {al : Option Nat} {b : Nat}  {hp0 : Hp} {out : Int32 × (Nat → Int32) × (Nat → Int32)}  (X : CX E p l s m args meth c "DiceAudit$Ledger" cX4_add 5) (hr : meth.sig.returnType = (Option.none : Option Jvm.ClassFile.FieldType))   : ∀ {l1 : Int32} {l2 : Int32} {s0 : Int32} {s1 : Int32} {s2 : Int32} {tc : Int32} {en : Nat → Int32} {fr : Nat → Int32} {hp : Hp}, hp b = some (.inr (6, [.ref (b + 1), .ref (b + 2), .int tc])) → hp (b + 1) = some (.inl (kC E 0, 300, .inl en)) → hp (b + 2) = some (.inl (kC E 0, 432, .inl fr)) → (∀ q, q ≠ b → q ≠ (b + 1) → q ≠ (b + 2) → hp q = hp0 q) → f_X4_add_L34 l1 l2 s0 s1 s2 tc en fr = some out → AW E p l e ⟨1, 0, 0, 22⟩ s m args below meth c 5 (MQ below (kQc E (P_X4_add E b hp0 al out)) args s 0 0 (kA E)) hp al 0 0 34 [(0, .ref b), (1, .int l1), (2, .int l2)] [.int s0, .int s1, .int s2, .ref (b + 1)] := by
  intro l1 l2 s0 s1 s2 tc en fr hp g0 g1 g2 hfr h
  unfold f_X4_add_L34 at h
  refine A_ior X dX4_add_34 ?_
  obtain ⟨t1, hct1, h⟩ := bind_o h
  refine A_c (k' := 0) (n' := 0) rfl rfl (A_runSN (rest := []) X dX4_add_35 (c_X10_put g1  hct1) kY_X10_put kw_506 ⟨(Nat.le_of_ble_eq_true rfl), (Nat.le_of_ble_eq_true rfl), (Nat.le_of_ble_eq_true rfl), (Nat.le_of_ble_eq_true rfl)⟩ rfl (Nat.le_of_ble_eq_true rfl)) (fun v9 hp1 al9 hP => ?_)
  obtain ⟨rfl, k1_0, n1, rfl⟩ := hP
  replace k1_0 : hp1 (b + 1) = some (.inl (kC E 0, 300, .inl t1)) := k1_0
  refine A_st (st' := []) rfl ?_
  refine A_iload_n X dX4_add_38 1 rfl ?_
  refine A_iload_n X dX4_add_39 2 rfl ?_
  obtain ⟨t2, hct2, h⟩ := bind_o h
  refine A_cp (k' := 0) (n' := 0) (A_runSN (rest := []) X dX4_add_40 (c_X10_cellOf   hct2) kY_X10_cellOf kw_507 ⟨(Nat.le_of_ble_eq_true rfl), (Nat.le_of_ble_eq_true rfl), (Nat.le_of_ble_eq_true rfl), (Nat.le_of_ble_eq_true rfl)⟩ rfl (Nat.le_of_ble_eq_true rfl)) rfl rfl ?_
  refine A_istore (L' := [(4, .int t2), (0, .ref b), (1, .int l1), (2, .int l2)]) X dX4_add_43 (by decide) rfl ?_
  refine A_aload_n X dX4_add_45 1 rfl ?_
  refine A_get X dX4_add_46 kcl_X4 1 (by decide) kw_104 ((n1 _ (by omega)).trans g0) rfl ?_
  refine A_iload X dX4_add_49 0 rfl ?_
  refine A_aload_n X dX4_add_51 1 rfl ?_
  refine A_get X dX4_add_52 kcl_X4 1 (by decide) kw_104 ((n1 _ (by omega)).trans g0) rfl ?_
  refine A_iload X dX4_add_55 0 rfl ?_
  obtain ⟨t3, hct3, h⟩ := bind_o h
  refine A_cp (k' := 0) (n' := 0) (A_runSN (rest := [.int t2, .ref (b + 2)]) X dX4_add_57 (c_X10_at ((n1 _ (by omega)).trans g2)  hct3) kY_X10_at kw_508 ⟨(Nat.le_of_ble_eq_true rfl), (Nat.le_of_ble_eq_true rfl), (Nat.le_of_ble_eq_true rfl), (Nat.le_of_ble_eq_true rfl)⟩ rfl (Nat.le_of_ble_eq_true rfl)) rfl rfl ?_
  refine A_iconst (v := 1) X dX4_add_60 (by decide) ?_
  refine A_iadd X dX4_add_61 ?_
  obtain ⟨t4, hct4, h⟩ := bind_o h
  refine A_c (k' := 0) (n' := 0) rfl rfl (A_runSN (rest := []) X dX4_add_62 (c_X10_put ((n1 _ (by omega)).trans g2)  hct4) kY_X10_put kw_506 ⟨(Nat.le_of_ble_eq_true rfl), (Nat.le_of_ble_eq_true rfl), (Nat.le_of_ble_eq_true rfl), (Nat.le_of_ble_eq_true rfl)⟩ rfl (Nat.le_of_ble_eq_true rfl)) (fun v9 hp2 al9 hP => ?_)
  obtain ⟨rfl, k2_0, n2, rfl⟩ := hP
  replace k2_0 : hp2 (b + 2) = some (.inl (kC E 0, 432, .inl t4)) := k2_0
  refine A_st (st' := []) rfl ?_
  refine A_aload_n X dX4_add_65 1 rfl ?_
  refine A_dup X dX4_add_66 rfl ?_
  refine A_get X dX4_add_67 kcl_X4 2 (by decide) kw_106 ((n2 _ (by omega)).trans ((n1 _ (by omega)).trans g0)) rfl ?_
  refine A_iconst (v := 1) X dX4_add_70 (by decide) ?_
  refine A_iadd X dX4_add_71 ?_
  refine A_put X dX4_add_72 kcl_X4 2 (by decide) kw_106 ((n2 _ (by omega)).trans ((n1 _ (by omega)).trans g0)) rfl rfl rfl (by simp) (fun hp3 (k3 : hp3 b = some (.inr (6, [.ref (b + 1), .ref (b + 2), .int (tc + 1)]))) n3 => ?_)
  cases h
  exact A_vret X dX4_add_75 hr ⟨rfl, k3, ((n3 _ (by omega)).trans ((n2 _ (by omega)).trans k1_0)), ((n3 _ (by omega)).trans k2_0), (fun q z0 z1 z2 => ((n3 q z0).trans ((n2 q z2).trans ((n1 q z1).trans (hfr q z0 z1 z2))))), rfl⟩ (Nat.le_of_ble_eq_true rfl) (Nat.le_of_ble_eq_true rfl)
set_option maxHeartbeats 4000000 in
set_option maxRecDepth 100000 in
theorem c_X4_add {E : KE} {l : Launch} {hp : Hp} {al : Option Nat} {b : Nat} {tc : Int32} {en : Nat → Int32} {fr : Nat → Int32} {a0 : Int32} {a1 : Int32} {a2 : Int32} {out : Int32 × (Nat → Int32) × (Nat → Int32)} (g0 : hp b = some (.inr (6, [.ref (b + 1), .ref (b + 2), .int tc]))) (g1 : hp (b + 1) = some (.inl (kC E 0, 300, .inl en))) (g2 : hp (b + 2) = some (.inl (kC E 0, 432, .inl fr)))  (h : f_X4_add tc en fr a0 a1 a2 = some out) : AM E l yX4_add cX4_add 5 (Option.none : Option Jvm.ClassFile.FieldType) ⟨1, 0, 0, 22⟩ [.ref b, .int a0, .int a1, .int a2] hp al (P_X4_add E b hp al out) := by
  refine A_of (by decide +kernel) (Nat.le_of_ble_eq_true rfl) ?_
  intro p e s m args below meth c X hr hnm
  have X : CX E p l s m args meth c "DiceAudit$Ledger" cX4_add 5 := X
  refine A_L (L' := [(0, .ref b), (1, .int a0), (2, .int a1), (3, .int a2)]) rfl ?_
  unfold f_X4_add at h
  refine A_aload_n X dX4_add_0 0 rfl ?_
  refine A_get X dX4_add_1 kcl_X4 2 (by decide) kw_106 g0 rfl ?_
  refine A_sipush (v := 300) X dX4_add_4 (by decide) ?_
  refine A_icmp_ge (tgt := 75) X dX4_add_7 h (by decide) (fun hc h => ?_) (fun hc h => ?_)
  · cases h
    exact A_vret X dX4_add_75 hr ⟨rfl, g0, g1, g2, (fun q z0 z1 z2 => rfl), rfl⟩ (Nat.le_of_ble_eq_true rfl) (Nat.le_of_ble_eq_true rfl)
  · refine A_aload_n X dX4_add_10 0 rfl ?_
    refine A_get X dX4_add_11 kcl_X4 0 (by decide) kw_103 g0 rfl ?_
    refine A_aload_n X dX4_add_14 0 rfl ?_
    refine A_get X dX4_add_15 kcl_X4 2 (by decide) kw_106 g0 rfl ?_
    refine A_iload_n X dX4_add_18 1 rfl ?_
    refine A_iconst (v := 5) X dX4_add_19 (by decide) ?_
    refine A_ishl X dX4_add_20 ?_
    refine A_iload_n X dX4_add_21 2 rfl ?_
    refine A_iconst (v := 1) X dX4_add_22 (by decide) ?_
    refine A_ishl X dX4_add_23 ?_
    refine A_ior X dX4_add_24 ?_
    refine A_iload_n X dX4_add_25 3 rfl ?_
    refine A_if_eq (tgt := 33) X dX4_add_26 h (by decide) (fun hc h => ?_) (fun hc h => ?_)
    · refine A_iconst (v := 0) X dX4_add_33 (by decide) ?_
      refine A_sub (L' := [(0, .ref b), (1, .int a0), (2, .int a1)]) [0, 1, 2] rfl ?_
      exact c_X4_add_L34 X hr  g0 g1 g2 (fun q z0 z1 z2 => rfl) h
    · refine A_iconst (v := 1) X dX4_add_29 (by decide) ?_
      refine A_goto (tgt := 34) X dX4_add_30 (by decide) ?_
      refine A_sub (L' := [(0, .ref b), (1, .int a0), (2, .int a1)]) [0, 1, 2] rfl ?_
      exact c_X4_add_L34 X hr  g0 g1 g2 (fun q z0 z1 z2 => rfl) h
set_option maxHeartbeats 4000000 in
set_option maxRecDepth 100000 in
theorem c_X4_pairThrows {E : KE} {l : Launch} {hp : Hp} {al : Option Nat} {N : Nat} {b : Nat} {tc : Int32} {fr : Nat → Int32} {a0 : Int32} {out : Int32} (g0 : hp b = some (.inr (6, [.ref (b + 1), .ref (b + 2), .int tc]))) (g2 : hp (b + 2) = some (.inl (kC E 0, 432, .inl fr)))  (h : f_X4_pairThrows N fr a0 = some out) : AM E l yX4_pairThrows cX4_pairThrows 2 (Option.some Jvm.ClassFile.FieldType.int) ⟨1, 0, 0, 25⟩ [.ref b, .int a0] hp al (kRet out hp al) := by
  refine A_of (by decide +kernel) (Nat.le_of_ble_eq_true rfl) ?_
  intro p e s m args below meth c X hr hnm
  have X : CX E p l s m args meth c "DiceAudit$Ledger" cX4_pairThrows 2 := X
  refine A_L (L' := [(0, .ref b), (1, .int a0)]) rfl ?_
  unfold f_X4_pairThrows at h
  refine A_aload_n X dX4_pairThrows_0 0 rfl ?_
  refine A_get X dX4_pairThrows_1 kcl_X4 1 (by decide) kw_104 g0 rfl ?_
  refine A_iload_n X dX4_pairThrows_4 1 rfl ?_
  refine A_iconst (v := 1) X dX4_pairThrows_5 (by decide) ?_
  obtain ⟨t1, hct1, h⟩ := bind_o h
  refine A_cp (k' := 0) (n' := 0) (A_runSN (rest := [.ref (b + 2)]) X dX4_pairThrows_6 (c_X10_cellOf   hct1) kY_X10_cellOf kw_507 ⟨(Nat.le_of_ble_eq_true rfl), (Nat.le_of_ble_eq_true rfl), (Nat.le_of_ble_eq_true rfl), (Nat.le_of_ble_eq_true rfl)⟩ rfl (Nat.le_of_ble_eq_true rfl)) rfl rfl ?_
  refine A_bipush (v := 12) X dX4_pairThrows_9 (by decide) ?_
  obtain ⟨t2, hct2, h⟩ := bind_o h
  refine A_cp (k' := 0) (n' := 0) (A_runSN (rest := []) X dX4_pairThrows_11 (c_X10_sumOf g2  hct2) kY_X10_sumOf kw_536 ⟨(Nat.le_of_ble_eq_true rfl), (Nat.le_of_ble_eq_true rfl), (Nat.le_of_ble_eq_true rfl), (Nat.le_of_ble_eq_true rfl)⟩ rfl (Nat.le_of_ble_eq_true rfl)) rfl rfl ?_
  cases h
  exact A_iret X dX4_pairThrows_14 hr ⟨rfl, rfl, rfl⟩ (Nat.le_of_ble_eq_true rfl) (Nat.le_of_ble_eq_true rfl)
abbrev P_X6_has (E : KE) (b : Nat)  (hp : Hp) (al : Option Nat) (out : Int32) : Option Value → Hp → Option Nat → Prop := fun v0 hp' al' => v0 = some (.int out) ∧ (out = 0 ∨ out = 1) ∧ hp = hp' ∧ al = al'
set_option maxHeartbeats 4000000 in
set_option maxRecDepth 100000 in
theorem c_X6_has_L2 {E : KE} {p : Program} {l : Launch} {e : Env} {s : State} {m : MethodId} {args : Array Value} {below : List Frame} {meth : Method} {c : Code} {al : Option Nat} {N : Nat} {b : Nat} {oc : Int32} {op : Nat → Int32} {hp0 : Hp} {out : Int32}  (X : CX E p l s m args meth c "DiceAudit$Offences" cX6_has 3) (hr : meth.sig.returnType = (Option.some Jvm.ClassFile.FieldType.boolean))  (g0 : hp0 b = some (.inr (8, [.ref (b + 1), .ref (b + 2), .int oc]))) (g1 : hp0 (b + 1) = some (.inl (kC E 0, 36, .inl op))) : ∀ (j : Nat), ∀ {l1 : Int32} {l2 : Int32}, f_X6_has_L2 N oc op j l1 l2 = some out → AW E p l e ⟨1, 0, 0, 21⟩ s m args below meth c 3 (MQ below (kQc E (P_X6_has E b hp0 al out)) args s 0 0 (kA E)) hp0 al 0 0 2 [(0, .ref b), (1, .int l1), (2, .int l2)] [] := by
  intro j
  induction j with
  | zero =>
    intro l1 l2 h
    have h : (none : Option (Int32)) = some out := h
    cases h
  | succ j i2 =>
    intro l1 l2 h
    have h : f_X6_has_L2_F N oc op (f_X6_has_L2 N oc op j) l1 l2 = some out := h
    unfold f_X6_has_L2_F at h
    refine A_iload_n X dX6_has_2 2 rfl ?_
    refine A_aload_n X dX6_has_3 0 rfl ?_
    refine A_get X dX6_has_4 kcl_X6 2 (by decide) kw_128 g0 rfl ?_
    refine A_icmp_ge (tgt := 30) X dX6_has_7 h (by decide) (fun hc h => ?_) (fun hc h => ?_)
    · refine A_iconst (v := 0) X dX6_has_30 (by decide) ?_
      cases h
      exact A_zret X dX6_has_31 hr (Or.inl rfl) ⟨rfl, (Or.inl rfl), rfl, rfl⟩ (Nat.le_of_ble_eq_true rfl) (Nat.le_of_ble_eq_true rfl)
    · refine A_aload_n X dX6_has_10 0 rfl ?_
      refine A_get X dX6_has_11 kcl_X6 0 (by decide) kw_122 g0 rfl ?_
      refine A_iload_n X dX6_has_14 2 rfl ?_
      obtain ⟨t1, hct1, h⟩ := bind_o h
      refine A_cp (k' := 0) (n' := 0) (A_runSN (rest := []) X dX6_has_15 (c_X10_at g1  hct1) kY_X10_at kw_545 ⟨(Nat.le_of_ble_eq_true rfl), (Nat.le_of_ble_eq_true rfl), (Nat.le_of_ble_eq_true rfl), (Nat.le_of_ble_eq_true rfl)⟩ rfl (Nat.le_of_ble_eq_true rfl)) rfl rfl ?_
      refine A_iload_n X dX6_has_18 1 rfl ?_
      refine A_icmp_ne (tgt := 24) X dX6_has_19 h (by decide) (fun hc h => ?_) (fun hc h => ?_)
      · refine A_iinc (j := 2) (v := (l2 + 1)) (L' := [(2, .int (l2 + 1)), (0, .ref b), (1, .int l1)]) X dX6_has_24 rfl rfl (by decide) rfl ?_
        refine A_goto (tgt := 2) X dX6_has_27 (by decide) ?_
        refine A_sub (L' := [(0, .ref b), (1, .int l1), (2, .int (l2 + 1))]) [1, 2, 0] rfl ?_
        exact i2  h
      · refine A_iconst (v := 1) X dX6_has_22 (by decide) ?_
        cases h
        exact A_zret X dX6_has_23 hr (Or.inr rfl) ⟨rfl, (Or.inr rfl), rfl, rfl⟩ (Nat.le_of_ble_eq_true rfl) (Nat.le_of_ble_eq_true rfl)
set_option maxHeartbeats 4000000 in
set_option maxRecDepth 100000 in
theorem c_X6_has {E : KE} {l : Launch} {hp : Hp} {al : Option Nat} {N : Nat} {b : Nat} {oc : Int32} {op : Nat → Int32} {a0 : Int32} {out : Int32} (g0 : hp b = some (.inr (8, [.ref (b + 1), .ref (b + 2), .int oc]))) (g1 : hp (b + 1) = some (.inl (kC E 0, 36, .inl op)))  (h : f_X6_has N oc op a0 = some out) : AM E l yX6_has cX6_has 3 (Option.some Jvm.ClassFile.FieldType.boolean) ⟨1, 0, 0, 21⟩ [.ref b, .int a0] hp al (P_X6_has E b hp al out) := by
  refine A_of (by decide +kernel) (Nat.le_of_ble_eq_true rfl) ?_
  intro p e s m args below meth c X hr hnm
  have X : CX E p l s m args meth c "DiceAudit$Offences" cX6_has 3 := X
  refine A_L (L' := [(0, .ref b), (1, .int a0)]) rfl ?_
  unfold f_X6_has at h
  refine A_iconst (v := 0) X dX6_has_0 (by decide) ?_
  refine A_istore_n (L' := [(2, .int 0), (0, .ref b), (1, .int a0)]) X dX6_has_1 rfl (by decide) rfl ?_
  refine A_sub (L' := [(0, .ref b), (1, .int a0), (2, .int 0)]) [1, 2, 0] rfl ?_
  exact c_X6_has_L2 X hr g0 g1 N  h
abbrev P_X6_goesBefore (E : KE) (b : Nat)  (hp : Hp) (al : Option Nat) (out : Int32) : Option Value → Hp → Option Nat → Prop := fun v0 hp' al' => v0 = some (.int out) ∧ (out = 0 ∨ out = 1) ∧ hp = hp' ∧ al = al'
set_option maxHeartbeats 4000000 in
set_option maxRecDepth 100000 in
theorem c_X6_goesBefore {E : KE} {l : Launch} {hp : Hp} {al : Option Nat} {b : Nat} {oc : Int32} {op : Nat → Int32} {os : Nat → Int32} {a0 : Int32} {a1 : Int32} {a2 : Int32} {out : Int32} (g0 : hp b = some (.inr (8, [.ref (b + 1), .ref (b + 2), .int oc]))) (g1 : hp (b + 1) = some (.inl (kC E 0, 36, .inl op))) (g2 : hp (b + 2) = some (.inl (kC E 0, 36, .inl os)))  (h : f_X6_goesBefore op os a0 a1 a2 = some out) : AM E l yX6_goesBefore cX6_goesBefore 5 (Option.some Jvm.ClassFile.FieldType.boolean) ⟨1, 0, 0, 21⟩ [.ref b, .int a0, .int a1, .int a2] hp al (P_X6_goesBefore E b hp al out) := by
  refine A_of (by decide +kernel) (Nat.le_of_ble_eq_true rfl) ?_
  intro p e s m args below meth c X hr hnm
  have X : CX E p l s m args meth c "DiceAudit$Offences" cX6_goesBefore 5 := X
  refine A_L (L' := [(0, .ref b), (1, .int a0), (2, .int a1), (3, .int a2)]) rfl ?_
  unfold f_X6_goesBefore at h
  refine A_aload_n X dX6_goesBefore_0 0 rfl ?_
  refine A_get X dX6_goesBefore_1 kcl_X6 1 (by decide) kw_125 g0 rfl ?_
  refine A_iload_n X dX6_goesBefore_4 3 rfl ?_
  obtain ⟨t1, hct1, h⟩ := bind_o h
  refine A_cp (k' := 0) (n' := 0) (A_runSN (rest := []) X dX6_goesBefore_5 (c_X10_at g2  hct1) kY_X10_at kw_545 ⟨(Nat.le_of_ble_eq_true rfl), (Nat.le_of_ble_eq_true rfl), (Nat.le_of_ble_eq_true rfl), (Nat.le_of_ble_eq_true rfl)⟩ rfl (Nat.le_of_ble_eq_true rfl)) rfl rfl ?_
  refine A_istore (L' := [(4, .int t1), (0, .ref b), (1, .int a0), (2, .int a1), (3, .int a2)]) X dX6_goesBefore_8 (by decide) rfl ?_
  refine A_iload_n X dX6_goesBefore_10 3 rfl ?_
  refine A_iload X dX6_goesBefore_11 0 rfl ?_
  refine A_icmp_gt (tgt := 34) X dX6_goesBefore_13 h (by decide) (fun hc h => ?_) (fun hc h => ?_)
  · refine A_iconst (v := 1) X dX6_goesBefore_34 (by decide) ?_
    refine A_goto (tgt := 39) X dX6_goesBefore_35 (by decide) ?_
    cases h
    exact A_zret X dX6_goesBefore_39 hr (Or.inr rfl) ⟨rfl, (Or.inr rfl), rfl, rfl⟩ (Nat.le_of_ble_eq_true rfl) (Nat.le_of_ble_eq_true rfl)
  · refine A_iload_n X dX6_goesBefore_16 3 rfl ?_
    refine A_iload X dX6_goesBefore_17 0 rfl ?_
    refine A_icmp_ne (tgt := 38) X dX6_goesBefore_19 h (by decide) (fun hc h => ?_) (fun hc h => ?_)
    · refine A_iconst (v := 0) X dX6_goesBefore_38 (by decide) ?_
      cases h
      exact A_zret X dX6_goesBefore_39 hr (Or.inl rfl) ⟨rfl, (Or.inl rfl), rfl, rfl⟩ (Nat.le_of_ble_eq_true rfl) (Nat.le_of_ble_eq_true rfl)
    · refine A_iload_n X dX6_goesBefore_22 2 rfl ?_
      refine A_aload_n X dX6_goesBefore_23 1 rfl ?_
      refine A_get X dX6_goesBefore_24 kcl_X6 0 (by decide) kw_122 g0 rfl ?_
      refine A_iload_n X dX6_goesBefore_27 4 rfl ?_
      obtain ⟨t2, hct2, h⟩ := bind_o h
      refine A_cp (k' := 0) (n' := 0) (A_runSN (rest := [.int a0]) X dX6_goesBefore_28 (c_X10_at g1  hct2) kY_X10_at kw_545 ⟨(Nat.le_of_ble_eq_true rfl), (Nat.le_of_ble_eq_true rfl), (Nat.le_of_ble_eq_true rfl), (Nat.le_of_ble_eq_true rfl)⟩ rfl (Nat.le_of_ble_eq_true rfl)) rfl rfl ?_
      refine A_icmp_ge (tgt := 38) X dX6_goesBefore_31 h (by decide) (fun hc h => ?_) (fun hc h => ?_)
      · refine A_iconst (v := 0) X dX6_goesBefore_38 (by decide) ?_
        cases h
        exact A_zret X dX6_goesBefore_39 hr (Or.inl rfl) ⟨rfl, (Or.inl rfl), rfl, rfl⟩ (Nat.le_of_ble_eq_true rfl) (Nat.le_of_ble_eq_true rfl)
      · refine A_iconst (v := 1) X dX6_goesBefore_34 (by decide) ?_
        refine A_goto (tgt := 39) X dX6_goesBefore_35 (by decide) ?_
        cases h
        exact A_zret X dX6_goesBefore_39 hr (Or.inr rfl) ⟨rfl, (Or.inr rfl), rfl, rfl⟩ (Nat.le_of_ble_eq_true rfl) (Nat.le_of_ble_eq_true rfl)
abbrev P_X6_set (E : KE) (b : Nat)  (hp : Hp) (al : Option Nat) (out : (Nat → Int32) × (Nat → Int32)) : Option Value → Hp → Option Nat → Prop := fun v0 hp' al' => v0 = none ∧ hp' (b + 1) = some (.inl (kC E 0, 36, .inl out.1)) ∧ hp' (b + 2) = some (.inl (kC E 0, 36, .inl out.2)) ∧ (∀ q, q ≠ (b + 1) → q ≠ (b + 2) → hp' q = hp q) ∧ al = al'
set_option maxHeartbeats 4000000 in
set_option maxRecDepth 100000 in
theorem c_X6_set {E : KE} {l : Launch} {hp : Hp} {al : Option Nat} {b : Nat} {oc : Int32} {op : Nat → Int32} {os : Nat → Int32} {a0 : Int32} {a1 : Int32} {a2 : Int32} {out : (Nat → Int32) × (Nat → Int32)} (g0 : hp b = some (.inr (8, [.ref (b + 1), .ref (b + 2), .int oc]))) (g1 : hp (b + 1) = some (.inl (kC E 0, 36, .inl op))) (g2 : hp (b + 2) = some (.inl (kC E 0, 36, .inl os)))  (h : f_X6_set op os a0 a1 a2 = some out) : AM E l yX6_set cX6_set 4 (Option.none : Option Jvm.ClassFile.FieldType) ⟨1, 0, 0, 22⟩ [.ref b, .int a0, .int a1, .int a2] hp al (P_X6_set E b hp al out) := by
  refine A_of (by decide +kernel) (Nat.le_of_ble_eq_true rfl) ?_
  intro p e s m args below meth c X hr hnm
  have X : CX E p l s m args meth c "DiceAudit$Offences" cX6_set 4 := X
  refine A_L (L' := [(0, .ref b), (1, .int a0), (2, .int a1), (3, .int a2)]) rfl ?_
  unfold f_X6_set at h
  refine A_aload_n X dX6_set_0 0 rfl ?_
  refine A_get X dX6_set_1 kcl_X6 0 (by decide) kw_122 g0 rfl ?_
  refine A_iload_n X dX6_set_4 1 rfl ?_
  refine A_iload_n X dX6_set_5 2 rfl ?_
  obtain ⟨t1, hct1, h⟩ := bind_o h
  refine A_c (k' := 0) (n' := 0) rfl rfl (A_runSN (rest := []) X dX6_set_6 (c_X10_put g1  hct1) kY_X10_put kw_558 ⟨(Nat.le_of_ble_eq_true rfl), (Nat.le_of_ble_eq_true rfl), (Nat.le_of_ble_eq_true rfl), (Nat.le_of_ble_eq_true rfl)⟩ rfl (Nat.le_of_ble_eq_true rfl)) (fun v9 hp1 al9 hP => ?_)
  obtain ⟨rfl, k1_0, n1, rfl⟩ := hP
  replace k1_0 : hp1 (b + 1) = some (.inl (kC E 0, 36, .inl t1)) := k1_0
  refine A_st (st' := []) rfl ?_
  refine A_aload_n X dX6_set_9 0 rfl ?_
  refine A_get X dX6_set_10 kcl_X6 1 (by decide) kw_125 ((n1 _ (by omega)).trans g0) rfl ?_
  refine A_iload_n X dX6_set_13 1 rfl ?_
  refine A_iload_n X dX6_set_14 3 rfl ?_
  obtain ⟨t2, hct2, h⟩ := bind_o h
  refine A_c (k' := 0) (n' := 0) rfl rfl (A_runSN (rest := []) X dX6_set_15 (c_X10_put ((n1 _ (by omega)).trans g2)  hct2) kY_X10_put kw_558 ⟨(Nat.le_of_ble_eq_true rfl), (Nat.le_of_ble_eq_true rfl), (Nat.le_of_ble_eq_true rfl), (Nat.le_of_ble_eq_true rfl)⟩ rfl (Nat.le_of_ble_eq_true rfl)) (fun v9 hp2 al9 hP => ?_)
  obtain ⟨rfl, k2_0, n2, rfl⟩ := hP
  replace k2_0 : hp2 (b + 2) = some (.inl (kC E 0, 36, .inl t2)) := k2_0
  refine A_st (st' := []) rfl ?_
  cases h
  exact A_vret X dX6_set_18 hr ⟨rfl, ((n2 _ (by omega)).trans k1_0), k2_0, (fun q z0 z1 => ((n2 q z1).trans (n1 q z0))), rfl⟩ (Nat.le_of_ble_eq_true rfl) (Nat.le_of_ble_eq_true rfl)
abbrev P_X6_add (E : KE) (b : Nat)  (hp : Hp) (al : Option Nat) (out : Int32 × (Nat → Int32) × (Nat → Int32)) : Option Value → Hp → Option Nat → Prop := fun v0 hp' al' => v0 = none ∧ hp' b = some (.inr (8, [.ref (b + 1), .ref (b + 2), .int out.1])) ∧ hp' (b + 1) = some (.inl (kC E 0, 36, .inl out.2.1)) ∧ hp' (b + 2) = some (.inl (kC E 0, 36, .inl out.2.2)) ∧ (∀ q, q ≠ b → q ≠ (b + 1) → q ≠ (b + 2) → hp' q = hp q) ∧ al = al'
set_option maxHeartbeats 4000000 in
set_option maxRecDepth 100000 in
theorem c_X6_add_L62 {E : KE} {p : Program} {l : Launch} {e : Env} {s : State} {m : MethodId} {args : Array Value} {below : List Frame} {meth : Method} {c : Code} {al : Option Nat} {N : Nat} {b : Nat}  {hp0 : Hp} {out : Int32 × (Nat → Int32) × (Nat → Int32)}  (X : CX E p l s m args meth c "DiceAudit$Offences" cX6_add 4) (hr : meth.sig.returnType = (Option.none : Option Jvm.ClassFile.FieldType))   : ∀ {l1 : Int32} {l2 : Int32} {l3 : Int32} {oc : Int32} {op : Nat → Int32} {os : Nat → Int32} {hp : Hp}, hp b = some (.inr (8, [.ref (b + 1), .ref (b + 2), .int oc])) → hp (b + 1) = some (.inl (kC E 0, 36, .inl op)) → hp (b + 2) = some (.inl (kC E 0, 36, .inl os)) → (∀ q, q ≠ b → q ≠ (b + 1) → q ≠ (b + 2) → hp q = hp0 q) → f_X6_add_L62 N l1 l2 l3 oc op os = some out → AW E p l e ⟨2, 0, 0, 45⟩ s m args below meth c 4 (MQ below (kQc E (P_X6_add E b hp0 al out)) args s 0 0 (kA E)) hp al 0 0 62 [(0, .ref b), (1, .int l1), (2, .int l2), (3, .int l3)] [] := by
  intro l1 l2 l3 oc op os hp g0 g1 g2 hfr h
  unfold f_X6_add_L62 at h
  refine A_aload_n X dX6_add_62 0 rfl ?_
  refine A_iload_n X dX6_add_63 3 rfl ?_
  refine A_iload_n X dX6_add_64 1 rfl ?_
  refine A_iload_n X dX6_add_65 2 rfl ?_
  obtain ⟨t1, hct1, h⟩ := bind_o h
  refine A_c (k' := 0) (n' := 0) rfl rfl (A_runV (rest := []) X dX6_add_66 (c_X6_set g0 g1 g2  hct1) kY_X6_set kw_554 g0 rfl rfl ⟨(Nat.le_of_ble_eq_true rfl), (Nat.le_of_ble_eq_true rfl), (Nat.le_of_ble_eq_true rfl), (Nat.le_of_ble_eq_true rfl)⟩ rfl (Nat.le_of_ble_eq_true rfl)) (fun v9 hp1 al9 hP => ?_)
  obtain ⟨rfl, k1_0, k1_1, n1, rfl⟩ := hP
  replace k1_0 : hp1 (b + 1) = some (.inl (kC E 0, 36, .inl t1.1)) := k1_0
  replace k1_1 : hp1 (b + 2) = some (.inl (kC E 0, 36, .inl t1.2)) := k1_1
  refine A_st (st' := []) rfl ?_
  refine A_aload_n X dX6_add_69 0 rfl ?_
  refine A_dup X dX6_add_70 rfl ?_
  refine A_get X dX6_add_71 kcl_X6 2 (by decide) kw_128 ((n1 _ (by omega) (by omega)).trans g0) rfl ?_
  refine A_iconst (v := 1) X dX6_add_74 (by decide) ?_
  refine A_iadd X dX6_add_75 ?_
  refine A_put X dX6_add_76 kcl_X6 2 (by decide) kw_128 ((n1 _ (by omega) (by omega)).trans g0) rfl rfl rfl (by simp) (fun hp2 (k2 : hp2 b = some (.inr (8, [.ref (b + 1), .ref (b + 2), .int (oc + 1)]))) n2 => ?_)
  cases h
  exact A_vret X dX6_add_79 hr ⟨rfl, k2, ((n2 _ (by omega)).trans k1_0), ((n2 _ (by omega)).trans k1_1), (fun q z0 z1 z2 => ((n2 q z0).trans ((n1 q z1 z2).trans (hfr q z0 z1 z2)))), rfl⟩ (Nat.le_of_ble_eq_true rfl) (Nat.le_of_ble_eq_true rfl)
set_option maxHeartbeats 4000000 in
set_option maxRecDepth 100000 in
theorem c_X6_add_L15 {E : KE} {p : Program} {l : Launch} {e : Env} {s : State} {m : MethodId} {args : Array Value} {below : List Frame} {meth : Method} {c : Code} {al : Option Nat} {N : Nat} {b : Nat}  {hp0 : Hp} {out : Int32 × (Nat → Int32) × (Nat → Int32)}  (X : CX E p l s m args meth c "DiceAudit$Offences" cX6_add 4) (hr : meth.sig.returnType = (Option.none : Option Jvm.ClassFile.FieldType))   : ∀ (j : Nat), ∀ {l1 : Int32} {l2 : Int32} {l3 : Int32} {oc : Int32} {op : Nat → Int32} {os : Nat → Int32} {hp : Hp}, hp b = some (.inr (8, [.ref (b + 1), .ref (b + 2), .int oc])) → hp (b + 1) = some (.inl (kC E 0, 36, .inl op)) → hp (b + 2) = some (.inl (kC E 0, 36, .inl os)) → (∀ q, q ≠ b → q ≠ (b + 1) → q ≠ (b + 2) → hp q = hp0 q) → f_X6_add_L15 N j l1 l2 l3 oc op os = some out → AW E p l e ⟨2, 0, 0, 45⟩ s m args below meth c 4 (MQ below (kQc E (P_X6_add E b hp0 al out)) args s 0 0 (kA E)) hp al 0 0 15 [(0, .ref b), (1, .int l1), (2, .int l2), (3, .int l3)] [] := by
  intro j
  induction j with
  | zero =>
    intro l1 l2 l3 oc op os hp g0 g1 g2 hfr h
    have h : (none : Option (Int32 × (Nat → Int32) × (Nat → Int32))) = some out := h
    cases h
  | succ j i15 =>
    intro l1 l2 l3 oc op os hp g0 g1 g2 hfr h
    have h : f_X6_add_L15_F N (f_X6_add_L15 N j) l1 l2 l3 oc op os = some out := h
    unfold f_X6_add_L15_F at h
    refine A_iload_n X dX6_add_15 3 rfl ?_
    refine A_if_le (tgt := 62) X dX6_add_16 h (by decide) (fun hc h => ?_) (fun hc h => ?_)
    · refine A_sub (L' := [(0, .ref b), (1, .int l1), (2, .int l2), (3, .int l3)]) [0, 1, 2, 3] rfl ?_
      exact c_X6_add_L62 X hr  g0 g1 g2 (fun q z0 z1 z2 => (hfr q z0 z1 z2)) h
    · refine A_aload_n X dX6_add_19 0 rfl ?_
      refine A_iload_n X dX6_add_20 1 rfl ?_
      refine A_iload_n X dX6_add_21 2 rfl ?_
      refine A_iload_n X dX6_add_22 3 rfl ?_
      refine A_iconst (v := 1) X dX6_add_23 (by decide) ?_
      refine A_isub X dX6_add_24 ?_
      obtain ⟨t1, hct1, h⟩ := bind_o h
      refine A_c (k' := 0) (n' := 0) rfl rfl (A_runV (rest := []) X dX6_add_25 (c_X6_goesBefore g0 g1 g2  hct1) kY_X6_goesBefore kw_550 g0 rfl rfl ⟨(Nat.le_of_ble_eq_true rfl), (Nat.le_of_ble_eq_true rfl), (Nat.le_of_ble_eq_true rfl), (Nat.le_of_ble_eq_true rfl)⟩ rfl (Nat.le_of_ble_eq_true rfl)) (fun v9 hp1 al9 hP => ?_)
      obtain ⟨rfl, zt1, rfl, rfl⟩ := hP
      refine A_st (st' := [.int t1]) rfl ?_
      refine A_if_eq (tgt := 62) X dX6_add_28 h (by decide) (fun hc h => ?_) (fun hc h => ?_)
      · refine A_sub (L' := [(0, .ref b), (1, .int l1), (2, .int l2), (3, .int l3)]) [0, 1, 2, 3] rfl ?_
        exact c_X6_add_L62 X hr  g0 g1 g2 (fun q z0 z1 z2 => (hfr q z0 z1 z2)) h
      · refine A_aload_n X dX6_add_31 0 rfl ?_
        refine A_iload_n X dX6_add_32 3 rfl ?_
        refine A_aload_n X dX6_add_33 0 rfl ?_
        refine A_get X dX6_add_34 kcl_X6 0 (by decide) kw_122 g0 rfl ?_
        refine A_iload_n X dX6_add_37 3 rfl ?_
        refine A_iconst (v := 1) X dX6_add_38 (by decide) ?_
        refine A_isub X dX6_add_39 ?_
        obtain ⟨t2, hct2, h⟩ := bind_o h
        refine A_cp (k' := 0) (n' := 0) (A_runSN (rest := [.int l3, .ref b]) X dX6_add_40 (c_X10_at g1  hct2) kY_X10_at kw_545 ⟨(Nat.le_of_ble_eq_true rfl), (Nat.le_of_ble_eq_true rfl), (Nat.le_of_ble_eq_true rfl), (Nat.le_of_ble_eq_true rfl)⟩ rfl (Nat.le_of_ble_eq_true rfl)) rfl rfl ?_
        refine A_aload_n X dX6_add_43 0 rfl ?_
        refine A_get X dX6_add_44 kcl_X6 1 (by decide) kw_125 g0 rfl ?_
        refine A_iload_n X dX6_add_47 3 rfl ?_
        refine A_iconst (v := 1) X dX6_add_48 (by decide) ?_
        refine A_isub X dX6_add_49 ?_
        obtain ⟨t3, hct3, h⟩ := bind_o h
        refine A_cp (k' := 0) (n' := 0) (A_runSN (rest := [.int t2, .int l3, .ref b]) X dX6_add_50 (c_X10_at g2  hct3) kY_X10_at kw_545 ⟨(Nat.le_of_ble_eq_true rfl), (Nat.le_of_ble_eq_true rfl), (Nat.le_of_ble_eq_true rfl), (Nat.le_of_ble_eq_true rfl)⟩ rfl (Nat.le_of_ble_eq_true rfl)) rfl rfl ?_
        obtain ⟨t4, hct4, h⟩ := bind_o h
        refine A_c (k' := 0) (n' := 0) rfl rfl (A_runV (rest := []) X dX6_add_53 (c_X6_set g0 g1 g2  hct4) kY_X6_set kw_554 g0 rfl rfl ⟨(Nat.le_of_ble_eq_true rfl), (Nat.le_of_ble_eq_true rfl), (Nat.le_of_ble_eq_true rfl), (Nat.le_of_ble_eq_true rfl)⟩ rfl (Nat.le_of_ble_eq_true rfl)) (fun v9 hp1 al9 hP => ?_)
        obtain ⟨rfl, k1_0, k1_1, n1, rfl⟩ := hP
        replace k1_0 : hp1 (b + 1) = some (.inl (kC E 0, 36, .inl t4.1)) := k1_0
        replace k1_1 : hp1 (b + 2) = some (.inl (kC E 0, 36, .inl t4.2)) := k1_1
        refine A_st (st' := []) rfl ?_
        refine A_iinc (j := 3) (v := (l3 + (-1))) (L' := [(3, .int (l3 + (-1))), (0, .ref b), (1, .int l1), (2, .int l2)]) X dX6_add_56 rfl rfl (by decide) rfl ?_
        refine A_goto (tgt := 15) X dX6_add_59 (by decide) ?_
        refine A_sub (L' := [(0, .ref b), (1, .int l1), (2, .int l2), (3, .int (l3 + (-1)))]) [1, 2, 3, 0] rfl ?_
        exact i15 ((n1 _ (by omega) (by omega)).trans g0) k1_0 k1_1 (fun q z0 z1 z2 => ((n1 q z1 z2).trans (hfr q z0 z1 z2))) h
set_option maxHeartbeats 4000000 in
set_option maxRecDepth 100000 in
theorem c_X6_add {E : KE} {l : Launch} {hp : Hp} {al : Option Nat} {N : Nat} {b : Nat} {oc : Int32} {op : Nat → Int32} {os : Nat → Int32} {a0 : Int32} {a1 : Int32} {out : Int32 × (Nat → Int32) × (Nat → Int32)} (g0 : hp b = some (.inr (8, [.ref (b + 1), .ref (b + 2), .int oc]))) (g1 : hp (b + 1) = some (.inl (kC E 0, 36, .inl op))) (g2 : hp (b + 2) = some (.inl (kC E 0, 36, .inl os)))  (h : f_X6_add N oc op os a0 a1 = some out) : AM E l yX6_add cX6_add 4 (Option.none : Option Jvm.ClassFile.FieldType) ⟨2, 0, 0, 45⟩ [.ref b, .int a0, .int a1] hp al (P_X6_add E b hp al out) := by
  refine A_of (by decide +kernel) (Nat.le_of_ble_eq_true rfl) ?_
  intro p e s m args below meth c X hr hnm
  have X : CX E p l s m args meth c "DiceAudit$Offences" cX6_add 4 := X
  refine A_L (L' := [(0, .ref b), (1, .int a0), (2, .int a1)]) rfl ?_
  unfold f_X6_add at h
  refine A_aload_n X dX6_add_0 0 rfl ?_
  refine A_get X dX6_add_1 kcl_X6 2 (by decide) kw_128 g0 rfl ?_
  refine A_bipush (v := 36) X dX6_add_4 (by decide) ?_
  refine A_icmp_lt (tgt := 10) X dX6_add_6 h (by decide) (fun hc h => ?_) (fun hc h => ?_)
  · refine A_aload_n X dX6_add_10 0 rfl ?_
    refine A_get X dX6_add_11 kcl_X6 2 (by decide) kw_128 g0 rfl ?_
    refine A_istore_n (L' := [(3, .int oc), (0, .ref b), (1, .int a0), (2, .int a1)]) X dX6_add_14 rfl (by decide) rfl ?_
    refine A_sub (L' := [(0, .ref b), (1, .int a0), (2, .int a1), (3, .int oc)]) [1, 2, 3, 0] rfl ?_
    exact c_X6_add_L15 X hr  N g0 g1 g2 (fun q z0 z1 z2 => rfl) h
  · cases h
    exact A_vret X dX6_add_9 hr ⟨rfl, g0, g1, g2, (fun q z0 z1 z2 => rfl), rfl⟩ (Nat.le_of_ble_eq_true rfl) (Nat.le_of_ble_eq_true rfl)
abbrev P_X6_removeFirst (E : KE) (b : Nat)  (hp : Hp) (al : Option Nat) (out : Int32 × (Nat → Int32) × (Nat → Int32)) : Option Value → Hp → Option Nat → Prop := fun v0 hp' al' => v0 = none ∧ hp' b = some (.inr (8, [.ref (b + 1), .ref (b + 2), .int out.1])) ∧ hp' (b + 1) = some (.inl (kC E 0, 36, .inl out.2.1)) ∧ hp' (b + 2) = some (.inl (kC E 0, 36, .inl out.2.2)) ∧ (∀ q, q ≠ b → q ≠ (b + 1) → q ≠ (b + 2) → hp' q = hp q) ∧ al = al'
set_option maxHeartbeats 4000000 in
set_option maxRecDepth 100000 in
theorem c_X6_removeFirst_L2 {E : KE} {p : Program} {l : Launch} {e : Env} {s : State} {m : MethodId} {args : Array Value} {below : List Frame} {meth : Method} {c : Code} {al : Option Nat} {N : Nat} {b : Nat}  {hp0 : Hp} {out : Int32 × (Nat → Int32) × (Nat → Int32)}  (X : CX E p l s m args meth c "DiceAudit$Offences" cX6_removeFirst 2) (hr : meth.sig.returnType = (Option.none : Option Jvm.ClassFile.FieldType))   : ∀ (j : Nat), ∀ {l1 : Int32} {oc : Int32} {op : Nat → Int32} {os : Nat → Int32} {hp : Hp}, hp b = some (.inr (8, [.ref (b + 1), .ref (b + 2), .int oc])) → hp (b + 1) = some (.inl (kC E 0, 36, .inl op)) → hp (b + 2) = some (.inl (kC E 0, 36, .inl os)) → (∀ q, q ≠ b → q ≠ (b + 1) → q ≠ (b + 2) → hp q = hp0 q) → f_X6_removeFirst_L2 N j l1 oc op os = some out → AW E p l e ⟨2, 0, 0, 45⟩ s m args below meth c 2 (MQ below (kQc E (P_X6_removeFirst E b hp0 al out)) args s 0 0 (kA E)) hp al 0 0 2 [(0, .ref b), (1, .int l1)] [] := by
  intro j
  induction j with
  | zero =>
    intro l1 oc op os hp g0 g1 g2 hfr h
    have h : (none : Option (Int32 × (Nat → Int32) × (Nat → Int32))) = some out := h
    cases h
  | succ j i2 =>
    intro l1 oc op os hp g0 g1 g2 hfr h
    have h : f_X6_removeFirst_L2_F N (f_X6_removeFirst_L2 N j) l1 oc op os = some out := h
    unfold f_X6_removeFirst_L2_F at h
    refine A_iload_n X dX6_removeFirst_2 1 rfl ?_
    refine A_aload_n X dX6_removeFirst_3 0 rfl ?_
    refine A_get X dX6_removeFirst_4 kcl_X6 2 (by decide) kw_128 g0 rfl ?_
    refine A_icmp_ge (tgt := 39) X dX6_removeFirst_7 h (by decide) (fun hc h => ?_) (fun hc h => ?_)
    · refine A_aload_n X dX6_removeFirst_39 0 rfl ?_
      refine A_iconst (v := 0) X dX6_removeFirst_40 (by decide) ?_
      refine A_aload_n X dX6_removeFirst_41 0 rfl ?_
      refine A_get X dX6_removeFirst_42 kcl_X6 2 (by decide) kw_128 g0 rfl ?_
      refine A_iconst (v := 1) X dX6_removeFirst_45 (by decide) ?_
      refine A_isub X dX6_removeFirst_46 ?_
      refine A_mmax X dX6_removeFirst_47 kw_578 kw_579 kw_16 kw_580 (Nat.le_of_ble_eq_true rfl) (Nat.le_of_ble_eq_true rfl) (Nat.le_of_ble_eq_true rfl) (Nat.le_of_ble_eq_true rfl) ?_
      refine A_put X dX6_removeFirst_50 kcl_X6 2 (by decide) kw_128 g0 rfl rfl rfl (by simp) (fun hp1 (k1 : hp1 b = some (.inr (8, [.ref (b + 1), .ref (b + 2), .int (if 0 < (oc - 1) then (oc - 1) else 0)]))) n1 => ?_)
      cases h
      exact A_vret X dX6_removeFirst_53 hr ⟨rfl, k1, ((n1 _ (by omega)).trans g1), ((n1 _ (by omega)).trans g2), (fun q z0 z1 z2 => ((n1 q z0).trans (hfr q z0 z1 z2))), rfl⟩ (Nat.le_of_ble_eq_true rfl) (Nat.le_of_ble_eq_true rfl)
    · refine A_aload_n X dX6_removeFirst_10 0 rfl ?_
      refine A_iload_n X dX6_removeFirst_11 1 rfl ?_
      refine A_iconst (v := 1) X dX6_removeFirst_12 (by decide) ?_
      refine A_isub X dX6_removeFirst_13 ?_
      refine A_aload_n X dX6_removeFirst_14 0 rfl ?_
      refine A_get X dX6_removeFirst_15 kcl_X6 0 (by decide) kw_122 g0 rfl ?_
      refine A_iload_n X dX6_removeFirst_18 1 rfl ?_
      obtain ⟨t1, hct1, h⟩ := bind_o h
      refine A_cp (k' := 0) (n' := 0) (A_runSN (rest := [.int (l1 - 1), .ref b]) X dX6_removeFirst_19 (c_X10_at g1  hct1) kY_X10_at kw_545 ⟨(Nat.le_of_ble_eq_true rfl), (Nat.le_of_ble_eq_true rfl), (Nat.le_of_ble_eq_true rfl), (Nat.le_of_ble_eq_true rfl)⟩ rfl (Nat.le_of_ble_eq_true rfl)) rfl rfl ?_
      refine A_aload_n X dX6_removeFirst_22 0 rfl ?_
      refine A_get X dX6_removeFirst_23 kcl_X6 1 (by decide) kw_125 g0 rfl ?_
      refine A_iload_n X dX6_removeFirst_26 1 rfl ?_
      obtain ⟨t2, hct2, h⟩ := bind_o h
      refine A_cp (k' := 0) (n' := 0) (A_runSN (rest := [.int t1, .int (l1 - 1), .ref b]) X dX6_removeFirst_27 (c_X10_at g2  hct2) kY_X10_at kw_545 ⟨(Nat.le_of_ble_eq_true rfl), (Nat.le_of_ble_eq_true rfl), (Nat.le_of_ble_eq_true rfl), (Nat.le_of_ble_eq_true rfl)⟩ rfl (Nat.le_of_ble_eq_true rfl)) rfl rfl ?_
      obtain ⟨t3, hct3, h⟩ := bind_o h
      refine A_c (k' := 0) (n' := 0) rfl rfl (A_runV (rest := []) X dX6_removeFirst_30 (c_X6_set g0 g1 g2  hct3) kY_X6_set kw_554 g0 rfl rfl ⟨(Nat.le_of_ble_eq_true rfl), (Nat.le_of_ble_eq_true rfl), (Nat.le_of_ble_eq_true rfl), (Nat.le_of_ble_eq_true rfl)⟩ rfl (Nat.le_of_ble_eq_true rfl)) (fun v9 hp1 al9 hP => ?_)
      obtain ⟨rfl, k1_0, k1_1, n1, rfl⟩ := hP
      replace k1_0 : hp1 (b + 1) = some (.inl (kC E 0, 36, .inl t3.1)) := k1_0
      replace k1_1 : hp1 (b + 2) = some (.inl (kC E 0, 36, .inl t3.2)) := k1_1
      refine A_st (st' := []) rfl ?_
      refine A_iinc (j := 1) (v := (l1 + 1)) (L' := [(1, .int (l1 + 1)), (0, .ref b)]) X dX6_removeFirst_33 rfl rfl (by decide) rfl ?_
      refine A_goto (tgt := 2) X dX6_removeFirst_36 (by decide) ?_
      refine A_sub (L' := [(0, .ref b), (1, .int (l1 + 1))]) [1, 0] rfl ?_
      exact i2 ((n1 _ (by omega) (by omega)).trans g0) k1_0 k1_1 (fun q z0 z1 z2 => ((n1 q z1 z2).trans (hfr q z0 z1 z2))) h
set_option maxHeartbeats 4000000 in
set_option maxRecDepth 100000 in
theorem c_X6_removeFirst {E : KE} {l : Launch} {hp : Hp} {al : Option Nat} {N : Nat} {b : Nat} {oc : Int32} {op : Nat → Int32} {os : Nat → Int32}  {out : Int32 × (Nat → Int32) × (Nat → Int32)} (g0 : hp b = some (.inr (8, [.ref (b + 1), .ref (b + 2), .int oc]))) (g1 : hp (b + 1) = some (.inl (kC E 0, 36, .inl op))) (g2 : hp (b + 2) = some (.inl (kC E 0, 36, .inl os)))  (h : f_X6_removeFirst N oc op os = some out) : AM E l yX6_removeFirst cX6_removeFirst 2 (Option.none : Option Jvm.ClassFile.FieldType) ⟨2, 0, 0, 45⟩ [.ref b] hp al (P_X6_removeFirst E b hp al out) := by
  refine A_of (by decide +kernel) (Nat.le_of_ble_eq_true rfl) ?_
  intro p e s m args below meth c X hr hnm
  have X : CX E p l s m args meth c "DiceAudit$Offences" cX6_removeFirst 2 := X
  refine A_L (L' := [(0, .ref b)]) rfl ?_
  unfold f_X6_removeFirst at h
  refine A_iconst (v := 1) X dX6_removeFirst_0 (by decide) ?_
  refine A_istore_n (L' := [(1, .int 1), (0, .ref b)]) X dX6_removeFirst_1 rfl (by decide) rfl ?_
  refine A_sub (L' := [(0, .ref b), (1, .int 1)]) [1, 0] rfl ?_
  exact c_X6_removeFirst_L2 X hr  N g0 g1 g2 (fun q z0 z1 z2 => rfl) h
set_option maxHeartbeats 4000000 in
set_option maxRecDepth 100000 in
theorem c_X4_pairIn {E : KE} {l : Launch} {hp : Hp} {al : Option Nat} {b : Nat} {tc : Int32} {en : Nat → Int32} {a0 : Int32} {out : Int32} (g0 : hp b = some (.inr (6, [.ref (b + 1), .ref (b + 2), .int tc]))) (g1 : hp (b + 1) = some (.inl (kC E 0, 300, .inl en)))  (h : f_X4_pairIn en a0 = some out) : AM E l yX4_pairIn cX4_pairIn 2 (Option.some Jvm.ClassFile.FieldType.int) ⟨1, 0, 0, 21⟩ [.ref b, .int a0] hp al (kRet out hp al) := by
  refine A_of (by decide +kernel) (Nat.le_of_ble_eq_true rfl) ?_
  intro p e s m args below meth c X hr hnm
  have X : CX E p l s m args meth c "DiceAudit$Ledger" cX4_pairIn 2 := X
  refine A_L (L' := [(0, .ref b), (1, .int a0)]) rfl ?_
  unfold f_X4_pairIn at h
  refine A_aload_n X dX4_pairIn_0 0 rfl ?_
  refine A_get X dX4_pairIn_1 kcl_X4 0 (by decide) kw_103 g0 rfl ?_
  refine A_iload_n X dX4_pairIn_4 1 rfl ?_
  obtain ⟨t1, hct1, h⟩ := bind_o h
  refine A_cp (k' := 0) (n' := 0) (A_runSN (rest := []) X dX4_pairIn_5 (c_X10_at g1  hct1) kY_X10_at kw_508 ⟨(Nat.le_of_ble_eq_true rfl), (Nat.le_of_ble_eq_true rfl), (Nat.le_of_ble_eq_true rfl), (Nat.le_of_ble_eq_true rfl)⟩ rfl (Nat.le_of_ble_eq_true rfl)) rfl rfl ?_
  refine A_iconst (v := 5) X dX4_pairIn_8 (by decide) ?_
  refine A_ishr X dX4_pairIn_9 ?_
  cases h
  exact A_iret X dX4_pairIn_10 hr ⟨rfl, rfl, rfl⟩ (Nat.le_of_ble_eq_true rfl) (Nat.le_of_ble_eq_true rfl)
set_option maxHeartbeats 4000000 in
set_option maxRecDepth 100000 in
theorem c_X4_faceIn {E : KE} {l : Launch} {hp : Hp} {al : Option Nat} {b : Nat} {tc : Int32} {en : Nat → Int32} {a0 : Int32} {out : Int32} (g0 : hp b = some (.inr (6, [.ref (b + 1), .ref (b + 2), .int tc]))) (g1 : hp (b + 1) = some (.inl (kC E 0, 300, .inl en)))  (h : f_X4_faceIn en a0 = some out) : AM E l yX4_faceIn cX4_faceIn 2 (Option.some Jvm.ClassFile.FieldType.int) ⟨1, 0, 0, 21⟩ [.ref b, .int a0] hp al (kRet out hp al) := by
  refine A_of (by decide +kernel) (Nat.le_of_ble_eq_true rfl) ?_
  intro p e s m args below meth c X hr hnm
  have X : CX E p l s m args meth c "DiceAudit$Ledger" cX4_faceIn 2 := X
  refine A_L (L' := [(0, .ref b), (1, .int a0)]) rfl ?_
  unfold f_X4_faceIn at h
  refine A_aload_n X dX4_faceIn_0 0 rfl ?_
  refine A_get X dX4_faceIn_1 kcl_X4 0 (by decide) kw_103 g0 rfl ?_
  refine A_iload_n X dX4_faceIn_4 1 rfl ?_
  obtain ⟨t1, hct1, h⟩ := bind_o h
  refine A_cp (k' := 0) (n' := 0) (A_runSN (rest := []) X dX4_faceIn_5 (c_X10_at g1  hct1) kY_X10_at kw_508 ⟨(Nat.le_of_ble_eq_true rfl), (Nat.le_of_ble_eq_true rfl), (Nat.le_of_ble_eq_true rfl), (Nat.le_of_ble_eq_true rfl)⟩ rfl (Nat.le_of_ble_eq_true rfl)) rfl rfl ?_
  refine A_iconst (v := 1) X dX4_faceIn_8 (by decide) ?_
  refine A_ishr X dX4_faceIn_9 ?_
  refine A_bipush (v := 15) X dX4_faceIn_10 (by decide) ?_
  refine A_iand X dX4_faceIn_12 ?_
  cases h
  exact A_iret X dX4_faceIn_13 hr ⟨rfl, rfl, rfl⟩ (Nat.le_of_ble_eq_true rfl) (Nat.le_of_ble_eq_true rfl)
abbrev P_X4_isMarked (E : KE) (b : Nat)  (hp : Hp) (al : Option Nat) (out : Int32) : Option Value → Hp → Option Nat → Prop := fun v0 hp' al' => v0 = some (.int out) ∧ (out = 0 ∨ out = 1) ∧ hp = hp' ∧ al = al'
set_option maxHeartbeats 4000000 in
set_option maxRecDepth 100000 in
theorem c_X4_isMarked {E : KE} {l : Launch} {hp : Hp} {al : Option Nat} {b : Nat} {tc : Int32} {en : Nat → Int32} {a0 : Int32} {out : Int32} (g0 : hp b = some (.inr (6, [.ref (b + 1), .ref (b + 2), .int tc]))) (g1 : hp (b + 1) = some (.inl (kC E 0, 300, .inl en)))  (h : f_X4_isMarked en a0 = some out) : AM E l yX4_isMarked cX4_isMarked 2 (Option.some Jvm.ClassFile.FieldType.boolean) ⟨1, 0, 0, 21⟩ [.ref b, .int a0] hp al (P_X4_isMarked E b hp al out) := by
  refine A_of (by decide +kernel) (Nat.le_of_ble_eq_true rfl) ?_
  intro p e s m args below meth c X hr hnm
  have X : CX E p l s m args meth c "DiceAudit$Ledger" cX4_isMarked 2 := X
  refine A_L (L' := [(0, .ref b), (1, .int a0)]) rfl ?_
  unfold f_X4_isMarked at h
  refine A_aload_n X dX4_isMarked_0 0 rfl ?_
  refine A_get X dX4_isMarked_1 kcl_X4 0 (by decide) kw_103 g0 rfl ?_
  refine A_iload_n X dX4_isMarked_4 1 rfl ?_
  obtain ⟨t1, hct1, h⟩ := bind_o h
  refine A_cp (k' := 0) (n' := 0) (A_runSN (rest := []) X dX4_isMarked_5 (c_X10_at g1  hct1) kY_X10_at kw_508 ⟨(Nat.le_of_ble_eq_true rfl), (Nat.le_of_ble_eq_true rfl), (Nat.le_of_ble_eq_true rfl), (Nat.le_of_ble_eq_true rfl)⟩ rfl (Nat.le_of_ble_eq_true rfl)) rfl rfl ?_
  refine A_iconst (v := 1) X dX4_isMarked_8 (by decide) ?_
  refine A_iand X dX4_isMarked_9 ?_
  refine A_iconst (v := 1) X dX4_isMarked_10 (by decide) ?_
  refine A_icmp_ne (tgt := 18) X dX4_isMarked_11 h (by decide) (fun hc h => ?_) (fun hc h => ?_)
  · refine A_iconst (v := 0) X dX4_isMarked_18 (by decide) ?_
    cases h
    exact A_zret X dX4_isMarked_19 hr (Or.inl rfl) ⟨rfl, (Or.inl rfl), rfl, rfl⟩ (Nat.le_of_ble_eq_true rfl) (Nat.le_of_ble_eq_true rfl)
  · refine A_iconst (v := 1) X dX4_isMarked_14 (by decide) ?_
    refine A_goto (tgt := 19) X dX4_isMarked_15 (by decide) ?_
    cases h
    exact A_zret X dX4_isMarked_19 hr (Or.inr rfl) ⟨rfl, (Or.inr rfl), rfl, rfl⟩ (Nat.le_of_ble_eq_true rfl) (Nat.le_of_ble_eq_true rfl)
abbrev P_X4_removeLatest (E : KE) (b : Nat)  (hp : Hp) (al : Option Nat) (out : Int32 × (Nat → Int32) × (Nat → Int32)) : Option Value → Hp → Option Nat → Prop := fun v0 hp' al' => v0 = none ∧ hp' b = some (.inr (6, [.ref (b + 1), .ref (b + 2), .int out.1])) ∧ hp' (b + 1) = some (.inl (kC E 0, 300, .inl out.2.1)) ∧ hp' (b + 2) = some (.inl (kC E 0, 432, .inl out.2.2)) ∧ (∀ q, q ≠ b → q ≠ (b + 1) → q ≠ (b + 2) → hp' q = hp q) ∧ al = al'
set_option maxHeartbeats 4000000 in
set_option maxRecDepth 100000 in
theorem c_X4_removeLatest_L73 {E : KE} {p : Program} {l : Launch} {e : Env} {s : State} {m : MethodId} {args : Array Value} {below : List Frame} {meth : Method} {c : Code} {al : Option Nat} {N : Nat} {b : Nat}  {hp0 : Hp} {out : Int32 × (Nat → Int32) × (Nat → Int32)} {r21 : Int32 → Int32 → Int32 → Int32 → Int32 → (Nat → Int32) → (Nat → Int32) → Option (Int32 × (Nat → Int32) × (Nat → Int32))} (X : CX E p l s m args meth c "DiceAudit$Ledger" cX4_removeLatest 7) (hr : meth.sig.returnType = (Option.none : Option Jvm.ClassFile.FieldType))   (i21 : ∀ {l1 : Int32} {l3 : Int32} {l4 : Int32} {l5 : Int32} {tc : Int32} {en : Nat → Int32} {fr : Nat → Int32} {hp : Hp}, hp b = some (.inr (6, [.ref (b + 1), .ref (b + 2), .int tc])) → hp (b + 1) = some (.inl (kC E 0, 300, .inl en)) → hp (b + 2) = some (.inl (kC E 0, 432, .inl fr)) → (∀ q, q ≠ b → q ≠ (b + 1) → q ≠ (b + 2) → hp q = hp0 q) → r21 l1 l3 l4 l5 tc en fr = some out → AW E p l e ⟨2, 0, 0, 46⟩ s m args below meth c 7 (MQ below (kQc E (P_X4_removeLatest E b hp0 al out)) args s 0 0 (kA E)) hp al 0 0 21 [(0, .ref b), (1, .int l1), (3, .int l3), (4, .int l4), (5, .int l5)] []) : ∀ {l1 : Int32} {l3 : Int32} {l4 : Int32} {l5 : Int32} {tc : Int32} {en : Nat → Int32} {fr : Nat → Int32} {hp : Hp}, hp b = some (.inr (6, [.ref (b + 1), .ref (b + 2), .int tc])) → hp (b + 1) = some (.inl (kC E 0, 300, .inl en)) → hp (b + 2) = some (.inl (kC E 0, 432, .inl fr)) → (∀ q, q ≠ b → q ≠ (b + 1) → q ≠ (b + 2) → hp q = hp0 q) → f_X4_removeLatest_L73 N r21 l1 l3 l4 l5 tc en fr = some out → AW E p l e ⟨2, 0, 0, 46⟩ s m args below meth c 7 (MQ below (kQc E (P_X4_removeLatest E b hp0 al out)) args s 0 0 (kA E)) hp al 0 0 73 [(0, .ref b), (1, .int l1), (3, .int l3), (4, .int l4), (5, .int l5)] [] := by
  intro l1 l3 l4 l5 tc en fr hp g0 g1 g2 hfr h
  unfold f_X4_removeLatest_L73 at h
  refine A_iinc (j := 4) (v := (l5 + 1)) (L' := [(5, .int (l5 + 1)), (0, .ref b), (1, .int l1), (3, .int l3), (4, .int l4)]) X dX4_removeLatest_73 rfl rfl (by decide) rfl ?_
  refine A_goto (tgt := 21) X dX4_removeLatest_76 (by decide) ?_
  refine A_sub (L' := [(0, .ref b), (1, .int l1), (3, .int l3), (4, .int l4), (5, .int (l5 + 1))]) [1, 2, 3, 4, 0] rfl ?_
  exact i21 g0 g1 g2 (fun q z0 z1 z2 => (hfr q z0 z1 z2)) h
set_option maxHeartbeats 4000000 in
set_option maxRecDepth 100000 in
theorem c_X4_removeLatest_L64 {E : KE} {p : Program} {l : Launch} {e : Env} {s : State} {m : MethodId} {args : Array Value} {below : List Frame} {meth : Method} {c : Code} {al : Option Nat} {N : Nat} {b : Nat}  {hp0 : Hp} {out : Int32 × (Nat → Int32) × (Nat → Int32)} {r21 : Int32 → Int32 → Int32 → Int32 → Int32 → (Nat → Int32) → (Nat → Int32) → Option (Int32 × (Nat → Int32) × (Nat → Int32))} (X : CX E p l s m args meth c "DiceAudit$Ledger" cX4_removeLatest 7) (hr : meth.sig.returnType = (Option.none : Option Jvm.ClassFile.FieldType))   (i21 : ∀ {l1 : Int32} {l3 : Int32} {l4 : Int32} {l5 : Int32} {tc : Int32} {en : Nat → Int32} {fr : Nat → Int32} {hp : Hp}, hp b = some (.inr (6, [.ref (b + 1), .ref (b + 2), .int tc])) → hp (b + 1) = some (.inl (kC E 0, 300, .inl en)) → hp (b + 2) = some (.inl (kC E 0, 432, .inl fr)) → (∀ q, q ≠ b → q ≠ (b + 1) → q ≠ (b + 2) → hp q = hp0 q) → r21 l1 l3 l4 l5 tc en fr = some out → AW E p l e ⟨2, 0, 0, 46⟩ s m args below meth c 7 (MQ below (kQc E (P_X4_removeLatest E b hp0 al out)) args s 0 0 (kA E)) hp al 0 0 21 [(0, .ref b), (1, .int l1), (3, .int l3), (4, .int l4), (5, .int l5)] []) : ∀ {l1 : Int32} {l3 : Int32} {l4 : Int32} {l5 : Int32} {l6 : Int32} {tc : Int32} {en : Nat → Int32} {fr : Nat → Int32} {hp : Hp}, hp b = some (.inr (6, [.ref (b + 1), .ref (b + 2), .int tc])) → hp (b + 1) = some (.inl (kC E 0, 300, .inl en)) → hp (b + 2) = some (.inl (kC E 0, 432, .inl fr)) → (∀ q, q ≠ b → q ≠ (b + 1) → q ≠ (b + 2) → hp q = hp0 q) → f_X4_removeLatest_L64 N r21 l1 l3 l4 l5 l6 tc en fr = some out → AW E p l e ⟨2, 0, 0, 46⟩ s m args below meth c 7 (MQ below (kQc E (P_X4_removeLatest E b hp0 al out)) args s 0 0 (kA E)) hp al 0 0 64 [(0, .ref b), (1, .int l1), (3, .int l3), (4, .int l4), (5, .int l5), (6, .int l6)] [] := by
  intro l1 l3 l4 l5 l6 tc en fr hp g0 g1 g2 hfr h
  unfold f_X4_removeLatest_L64 at h
  refine A_iload X dX4_removeLatest_64 5 rfl ?_
  refine A_iload_n X dX4_removeLatest_66 1 rfl ?_
  refine A_icmp_ne (tgt := 73) X dX4_removeLatest_67 h (by decide) (fun hc h => ?_) (fun hc h => ?_)
  · refine A_sub (L' := [(0, .ref b), (1, .int l1), (3, .int l3), (4, .int l4), (5, .int l5)]) [0, 1, 2, 3, 4] rfl ?_
    exact c_X4_removeLatest_L73 X hr i21 g0 g1 g2 (fun q z0 z1 z2 => (hfr q z0 z1 z2)) h
  · refine A_iinc (j := 2) (v := (l3 + (-1))) (L' := [(3, .int (l3 + (-1))), (0, .ref b), (1, .int l1), (4, .int l4), (5, .int l5), (6, .int l6)]) X dX4_removeLatest_70 rfl rfl (by decide) rfl ?_
    refine A_sub (L' := [(0, .ref b), (1, .int l1), (3, .int (l3 + (-1))), (4, .int l4), (5, .int l5)]) [1, 2, 0, 3, 4] rfl ?_
    exact c_X4_removeLatest_L73 X hr i21 g0 g1 g2 (fun q z0 z1 z2 => (hfr q z0 z1 z2)) h
set_option maxHeartbeats 4000000 in
set_option maxRecDepth 100000 in
theorem c_X4_removeLatest_L46 {E : KE} {p : Program} {l : Launch} {e : Env} {s : State} {m : MethodId} {args : Array Value} {below : List Frame} {meth : Method} {c : Code} {al : Option Nat} {N : Nat} {b : Nat}  {hp0 : Hp} {out : Int32 × (Nat → Int32) × (Nat → Int32)} {r21 : Int32 → Int32 → Int32 → Int32 → Int32 → (Nat → Int32) → (Nat → Int32) → Option (Int32 × (Nat → Int32) × (Nat → Int32))} (X : CX E p l s m args meth c "DiceAudit$Ledger" cX4_removeLatest 7) (hr : meth.sig.returnType = (Option.none : Option Jvm.ClassFile.FieldType))   (i21 : ∀ {l1 : Int32} {l3 : Int32} {l4 : Int32} {l5 : Int32} {tc : Int32} {en : Nat → Int32} {fr : Nat → Int32} {hp : Hp}, hp b = some (.inr (6, [.ref (b + 1), .ref (b + 2), .int tc])) → hp (b + 1) = some (.inl (kC E 0, 300, .inl en)) → hp (b + 2) = some (.inl (kC E 0, 432, .inl fr)) → (∀ q, q ≠ b → q ≠ (b + 1) → q ≠ (b + 2) → hp q = hp0 q) → r21 l1 l3 l4 l5 tc en fr = some out → AW E p l e ⟨2, 0, 0, 46⟩ s m args below meth c 7 (MQ below (kQc E (P_X4_removeLatest E b hp0 al out)) args s 0 0 (kA E)) hp al 0 0 21 [(0, .ref b), (1, .int l1), (3, .int l3), (4, .int l4), (5, .int l5)] []) : ∀ {l1 : Int32} {l3 : Int32} {l4 : Int32} {l5 : Int32} {l6 : Int32} {tc : Int32} {en : Nat → Int32} {fr : Nat → Int32} {hp : Hp}, hp b = some (.inr (6, [.ref (b + 1), .ref (b + 2), .int tc])) → hp (b + 1) = some (.inl (kC E 0, 300, .inl en)) → hp (b + 2) = some (.inl (kC E 0, 432, .inl fr)) → (∀ q, q ≠ b → q ≠ (b + 1) → q ≠ (b + 2) → hp q = hp0 q) → f_X4_removeLatest_L46 N r21 l1 l3 l4 l5 l6 tc en fr = some out → AW E p l e ⟨2, 0, 0, 46⟩ s m args below meth c 7 (MQ below (kQc E (P_X4_removeLatest E b hp0 al out)) args s 0 0 (kA E)) hp al 0 0 46 [(0, .ref b), (1, .int l1), (3, .int l3), (4, .int l4), (5, .int l5), (6, .int l6)] [] := by
  intro l1 l3 l4 l5 l6 tc en fr hp g0 g1 g2 hfr h
  unfold f_X4_removeLatest_L46 at h
  refine A_aload_n X dX4_removeLatest_46 0 rfl ?_
  refine A_iload X dX4_removeLatest_47 5 rfl ?_
  refine A_aload_n X dX4_removeLatest_49 0 rfl ?_
  refine A_iload X dX4_removeLatest_50 4 rfl ?_
  obtain ⟨t4, hct4, h⟩ := bind_o h
  refine A_cp (k' := 0) (n' := 0) (A_runV (rest := [.int l6, .ref b]) X dX4_removeLatest_52 (c_X4_faceIn g0 g1  hct4) kY_X4_faceIn kw_591 g0 rfl rfl ⟨(Nat.le_of_ble_eq_true rfl), (Nat.le_of_ble_eq_true rfl), (Nat.le_of_ble_eq_true rfl), (Nat.le_of_ble_eq_true rfl)⟩ rfl (Nat.le_of_ble_eq_true rfl)) rfl rfl ?_
  refine A_aload_n X dX4_removeLatest_55 0 rfl ?_
  refine A_iload X dX4_removeLatest_56 4 rfl ?_
  obtain ⟨t5, hct5, h⟩ := bind_o h
  refine A_c (k' := 0) (n' := 0) rfl rfl (A_runV (rest := [.int t4, .int l6, .ref b]) X dX4_removeLatest_58 (c_X4_isMarked g0 g1  hct5) kY_X4_isMarked kw_595 g0 rfl rfl ⟨(Nat.le_of_ble_eq_true rfl), (Nat.le_of_ble_eq_true rfl), (Nat.le_of_ble_eq_true rfl), (Nat.le_of_ble_eq_true rfl)⟩ rfl (Nat.le_of_ble_eq_true rfl)) (fun v9 hp1 al9 hP => ?_)
  obtain ⟨rfl, zt5, rfl, rfl⟩ := hP
  refine A_st (st' := [.int t5, .int t4, .int l6, .ref b]) rfl ?_
  obtain ⟨t6, hct6, h⟩ := bind_o h
  refine A_c (k' := 0) (n' := 0) rfl rfl (A_runV (rest := []) X dX4_removeLatest_61 (c_X4_add g0 g1 g2  hct6) kY_X4_add kw_599 g0 rfl rfl ⟨(Nat.le_of_ble_eq_true rfl), (Nat.le_of_ble_eq_true rfl), (Nat.le_of_ble_eq_true rfl), (Nat.le_of_ble_eq_true rfl)⟩ rfl (Nat.le_of_ble_eq_true rfl)) (fun v9 hp1 al9 hP => ?_)
  obtain ⟨rfl, k1_0, k1_1, k1_2, n1, rfl⟩ := hP
  replace k1_0 : hp1 b = some (.inr (6, [.ref (b + 1), .ref (b + 2), .int t6.1])) := k1_0
  replace k1_1 : hp1 (b + 1) = some (.inl (kC E 0, 300, .inl t6.2.1)) := k1_1
  replace k1_2 : hp1 (b + 2) = some (.inl (kC E 0, 432, .inl t6.2.2)) := k1_2
  refine A_st (st' := []) rfl ?_
  refine A_sub (L' := [(0, .ref b), (1, .int l1), (3, .int l3), (4, .int l4), (5, .int l5), (6, .int l6)]) [0, 1, 2, 3, 4, 5] rfl ?_
  exact c_X4_removeLatest_L64 X hr i21 k1_0 k1_1 k1_2 (fun q z0 z1 z2 => ((n1 q z0 z1 z2).trans (hfr q z0 z1 z2))) h
set_option maxHeartbeats 4000000 in
set_option maxRecDepth 100000 in
theorem c_X4_removeLatest_L21 {E : KE} {p : Program} {l : Launch} {e : Env} {s : State} {m : MethodId} {args : Array Value} {below : List Frame} {meth : Method} {c : Code} {al : Option Nat} {N : Nat} {b : Nat}  {hp0 : Hp} {out : Int32 × (Nat → Int32) × (Nat → Int32)}  (X : CX E p l s m args meth c "DiceAudit$Ledger" cX4_removeLatest 7) (hr : meth.sig.returnType = (Option.none : Option Jvm.ClassFile.FieldType))   : ∀ (j : Nat), ∀ {l1 : Int32} {l3 : Int32} {l4 : Int32} {l5 : Int32} {tc : Int32} {en : Nat → Int32} {fr : Nat → Int32} {hp : Hp}, hp b = some (.inr (6, [.ref (b + 1), .ref (b + 2), .int tc])) → hp (b + 1) = some (.inl (kC E 0, 300, .inl en)) → hp (b + 2) = some (.inl (kC E 0, 432, .inl fr)) → (∀ q, q ≠ b → q ≠ (b + 1) → q ≠ (b + 2) → hp q = hp0 q) → f_X4_removeLatest_L21 N j l1 l3 l4 l5 tc en fr = some out → AW E p l e ⟨2, 0, 0, 46⟩ s m args below meth c 7 (MQ below (kQc E (P_X4_removeLatest E b hp0 al out)) args s 0 0 (kA E)) hp al 0 0 21 [(0, .ref b), (1, .int l1), (3, .int l3), (4, .int l4), (5, .int l5)] [] := by
  intro j
  induction j with
  | zero =>
    intro l1 l3 l4 l5 tc en fr hp g0 g1 g2 hfr h
    have h : (none : Option (Int32 × (Nat → Int32) × (Nat → Int32))) = some out := h
    cases h
  | succ j i21 =>
    intro l1 l3 l4 l5 tc en fr hp g0 g1 g2 hfr h
    have h : f_X4_removeLatest_L21_F N (f_X4_removeLatest_L21 N j) l1 l3 l4 l5 tc en fr = some out := h
    unfold f_X4_removeLatest_L21_F at h
    refine A_iload X dX4_removeLatest_21 4 rfl ?_
    refine A_iload X dX4_removeLatest_23 3 rfl ?_
    refine A_icmp_ge (tgt := 79) X dX4_removeLatest_25 h (by decide) (fun hc h => ?_) (fun hc h => ?_)
    · cases h
      exact A_vret X dX4_removeLatest_79 hr ⟨rfl, g0, g1, g2, (fun q z0 z1 z2 => (hfr q z0 z1 z2)), rfl⟩ (Nat.le_of_ble_eq_true rfl) (Nat.le_of_ble_eq_true rfl)
    · refine A_aload_n X dX4_removeLatest_28 0 rfl ?_
      refine A_iload X dX4_removeLatest_29 4 rfl ?_
      obtain ⟨t3, hct3, h⟩ := bind_o h
      refine A_cp (k' := 0) (n' := 0) (A_runV (rest := []) X dX4_removeLatest_31 (c_X4_pairIn g0 g1  hct3) kY_X4_pairIn kw_587 g0 rfl rfl ⟨(Nat.le_of_ble_eq_true rfl), (Nat.le_of_ble_eq_true rfl), (Nat.le_of_ble_eq_true rfl), (Nat.le_of_ble_eq_true rfl)⟩ rfl (Nat.le_of_ble_eq_true rfl)) rfl rfl ?_
      refine A_istore (L' := [(6, .int t3), (0, .ref b), (1, .int l1), (3, .int l3), (4, .int l4), (5, .int l5)]) X dX4_removeLatest_34 (by decide) rfl ?_
      refine A_iload X dX4_removeLatest_36 0 rfl ?_
      refine A_iload_n X dX4_removeLatest_38 2 rfl ?_
      refine A_icmp_ne (tgt := 46) X dX4_removeLatest_39 h (by decide) (fun hc h => ?_) (fun hc h => ?_)
      · refine A_sub (L' := [(0, .ref b), (1, .int l1), (3, .int l3), (4, .int l4), (5, .int l5), (6, .int t3)]) [1, 2, 3, 4, 5, 0] rfl ?_
        exact c_X4_removeLatest_L46 X hr i21 g0 g1 g2 (fun q z0 z1 z2 => (hfr q z0 z1 z2)) h
      · refine A_iload_n X dX4_removeLatest_42 3 rfl ?_
        refine A_if_le (tgt := 64) X dX4_removeLatest_43 h (by decide) (fun hc h => ?_) (fun hc h => ?_)
        · refine A_sub (L' := [(0, .ref b), (1, .int l1), (3, .int l3), (4, .int l4), (5, .int l5), (6, .int t3)]) [1, 2, 3, 4, 5, 0] rfl ?_
          exact c_X4_removeLatest_L64 X hr i21 g0 g1 g2 (fun q z0 z1 z2 => (hfr q z0 z1 z2)) h
        · refine A_sub (L' := [(0, .ref b), (1, .int l1), (3, .int l3), (4, .int l4), (5, .int l5), (6, .int t3)]) [1, 2, 3, 4, 5, 0] rfl ?_
          exact c_X4_removeLatest_L46 X hr i21 g0 g1 g2 (fun q z0 z1 z2 => (hfr q z0 z1 z2)) h
set_option maxHeartbeats 4000000 in
set_option maxRecDepth 100000 in
theorem c_X4_removeLatest {E : KE} {l : Launch} {hp : Hp} {al : Option Nat} {N : Nat} {b : Nat} {tc : Int32} {en : Nat → Int32} {fr : Nat → Int32} {a0 : Int32} {a1 : Int32} {out : Int32 × (Nat → Int32) × (Nat → Int32)} (g0 : hp b = some (.inr (6, [.ref (b + 1), .ref (b + 2), .int tc]))) (g1 : hp (b + 1) = some (.inl (kC E 0, 300, .inl en))) (g2 : hp (b + 2) = some (.inl (kC E 0, 432, .inl fr)))  (h : f_X4_removeLatest N tc en fr a0 a1 = some out) : AM E l yX4_removeLatest cX4_removeLatest 7 (Option.none : Option Jvm.ClassFile.FieldType) ⟨2, 0, 0, 46⟩ [.ref b, .int a0, .int a1] hp al (P_X4_removeLatest E b hp al out) := by
  refine A_of (by decide +kernel) (Nat.le_of_ble_eq_true rfl) ?_
  intro p e s m args below meth c X hr hnm
  have X : CX E p l s m args meth c "DiceAudit$Ledger" cX4_removeLatest 7 := X
  refine A_L (L' := [(0, .ref b), (1, .int a0), (2, .int a1)]) rfl ?_
  unfold f_X4_removeLatest at h
  refine A_aload_n X dX4_removeLatest_0 0 rfl ?_
  refine A_iload_n X dX4_removeLatest_1 1 rfl ?_
  obtain ⟨t1, hct1, h⟩ := bind_o h
  refine A_cp (k' := 0) (n' := 0) (A_runV (rest := []) X dX4_removeLatest_2 (c_X4_pairThrows g0 g2  hct1) kY_X4_pairThrows kw_585 g0 rfl rfl ⟨(Nat.le_of_ble_eq_true rfl), (Nat.le_of_ble_eq_true rfl), (Nat.le_of_ble_eq_true rfl), (Nat.le_of_ble_eq_true rfl)⟩ rfl (Nat.le_of_ble_eq_true rfl)) rfl rfl ?_
  refine A_iload_n X dX4_removeLatest_5 2 rfl ?_
  refine A_isub X dX4_removeLatest_6 ?_
  refine A_istore_n (L' := [(3, .int (t1 - a1)), (0, .ref b), (1, .int a0), (2, .int a1)]) X dX4_removeLatest_7 rfl (by decide) rfl ?_
  refine A_aload_n X dX4_removeLatest_8 1 rfl ?_
  refine A_get X dX4_removeLatest_9 kcl_X4 2 (by decide) kw_106 g0 rfl ?_
  refine A_istore (L' := [(4, .int tc), (3, .int (t1 - a1)), (0, .ref b), (1, .int a0), (2, .int a1)]) X dX4_removeLatest_12 (by decide) rfl ?_
  refine A_aload_n X dX4_removeLatest_14 2 rfl ?_
  obtain ⟨t2, hct2, h⟩ := bind_o h
  refine A_c (k' := 0) (n' := 0) rfl rfl (A_runV (rest := []) X dX4_removeLatest_15 (c_X4_clear g0 g2  hct2) kY_X4_clear kw_586 g0 rfl rfl ⟨(Nat.le_of_ble_eq_true rfl), (Nat.le_of_ble_eq_true rfl), (Nat.le_of_ble_eq_true rfl), (Nat.le_of_ble_eq_true rfl)⟩ rfl (Nat.le_of_ble_eq_true rfl)) (fun v9 hp1 al9 hP => ?_)
  obtain ⟨rfl, k1_0, k1_1, n1, rfl⟩ := hP
  replace k1_0 : hp1 b = some (.inr (6, [.ref (b + 1), .ref (b + 2), .int t2.1])) := k1_0
  replace k1_1 : hp1 (b + 2) = some (.inl (kC E 0, 432, .inl t2.2)) := k1_1
  refine A_st (st' := []) rfl ?_
  refine A_iconst (v := 0) X dX4_removeLatest_18 (by decide) ?_
  refine A_istore (L' := [(5, .int 0), (4, .int tc), (3, .int (t1 - a1)), (0, .ref b), (1, .int a0), (2, .int a1)]) X dX4_removeLatest_19 (by decide) rfl ?_
  refine A_sub (L' := [(0, .ref b), (1, .int a0), (3, .int (t1 - a1)), (4, .int tc), (5, .int 0)]) [3, 4, 2, 1, 0] rfl ?_
  exact c_X4_removeLatest_L21 X hr  N k1_0 ((n1 _ (by omega) (by omega)).trans g1) k1_1 (fun q z0 z1 z2 => (n1 q z0 z2)) h
set_option maxHeartbeats 4000000 in
set_option maxRecDepth 100000 in
theorem c_X4_playerTotal_L13 {E : KE} {p : Program} {l : Launch} {e : Env} {s : State} {m : MethodId} {args : Array Value} {below : List Frame} {meth : Method} {c : Code} {al : Option Nat} {N : Nat} {b : Nat} {tc : Int32} {fr : Nat → Int32} {hp0 : Hp} {out : Int32} {r4 : Int32 → Int32 → Int32 → Option (Int32)} (X : CX E p l s m args meth c "DiceAudit$Ledger" cX4_playerTotal 5) (hr : meth.sig.returnType = (Option.some Jvm.ClassFile.FieldType.int))  (g0 : hp0 b = some (.inr (6, [.ref (b + 1), .ref (b + 2), .int tc]))) (g2 : hp0 (b + 2) = some (.inl (kC E 0, 432, .inl fr))) (i4 : ∀ {l1 : Int32} {l2 : Int32} {l3 : Int32}, r4 l1 l2 l3 = some out → AW E p l e ⟨1, 0, 0, 21⟩ s m args below meth c 5 (MQ below (kQc E (kRet out hp0 al)) args s 0 0 (kA E)) hp0 al 0 0 4 [(0, .ref b), (1, .int l1), (2, .int l2), (3, .int l3)] []) : ∀ (j : Nat), ∀ {l1 : Int32} {l2 : Int32} {l3 : Int32} {l4 : Int32}, f_X4_playerTotal_L13 N fr r4 j l1 l2 l3 l4 = some out → AW E p l e ⟨1, 0, 0, 21⟩ s m args below meth c 5 (MQ below (kQc E (kRet out hp0 al)) args s 0 0 (kA E)) hp0 al 0 0 13 [(0, .ref b), (1, .int l1), (2, .int l2), (3, .int l3), (4, .int l4)] [] := by
  intro j
  induction j with
  | zero =>
    intro l1 l2 l3 l4 h
    have h : (none : Option (Int32)) = some out := h
    cases h
  | succ j i13 =>
    intro l1 l2 l3 l4 h
    have h : f_X4_playerTotal_L13_F N fr r4 (f_X4_playerTotal_L13 N fr r4 j) l1 l2 l3 l4 = some out := h
    unfold f_X4_playerTotal_L13_F at h
    refine A_iload X dX4_playerTotal_13 4 rfl ?_
    refine A_bipush (v := 12) X dX4_playerTotal_15 (by decide) ?_
    refine A_icmp_gt (tgt := 49) X dX4_playerTotal_17 h (by decide) (fun hc h => ?_) (fun hc h => ?_)
    · refine A_iinc (j := 3) (v := (l3 + 1)) (L' := [(3, .int (l3 + 1)), (0, .ref b), (1, .int l1), (2, .int l2), (4, .int l4)]) X dX4_playerTotal_49 rfl rfl (by decide) rfl ?_
      refine A_goto (tgt := 4) X dX4_playerTotal_52 (by decide) ?_
      refine A_sub (L' := [(0, .ref b), (1, .int l1), (2, .int l2), (3, .int (l3 + 1))]) [1, 2, 3, 0] rfl ?_
      exact i4  h
    · refine A_iload_n X dX4_playerTotal_20 2 rfl ?_
      refine A_iload X dX4_playerTotal_21 4 rfl ?_
      refine A_aload_n X dX4_playerTotal_23 0 rfl ?_
      refine A_get X dX4_playerTotal_24 kcl_X4 1 (by decide) kw_104 g0 rfl ?_
      refine A_iload_n X dX4_playerTotal_27 1 rfl ?_
      refine A_iload_n X dX4_playerTotal_28 3 rfl ?_
      obtain ⟨t1, hct1, h⟩ := bind_o h
      refine A_cp (k' := 0) (n' := 0) (A_runSN (rest := [.ref (b + 2), .int l4, .int l2]) X dX4_playerTotal_29 (c_X10_pairOf   hct1) kY_X10_pairOf kw_696 ⟨(Nat.le_of_ble_eq_true rfl), (Nat.le_of_ble_eq_true rfl), (Nat.le_of_ble_eq_true rfl), (Nat.le_of_ble_eq_true rfl)⟩ rfl (Nat.le_of_ble_eq_true rfl)) rfl rfl ?_
      refine A_iload X dX4_playerTotal_32 4 rfl ?_
      obtain ⟨t2, hct2, h⟩ := bind_o h
      refine A_cp (k' := 0) (n' := 0) (A_runSN (rest := [.ref (b + 2), .int l4, .int l2]) X dX4_playerTotal_34 (c_X10_cellOf   hct2) kY_X10_cellOf kw_507 ⟨(Nat.le_of_ble_eq_true rfl), (Nat.le_of_ble_eq_true rfl), (Nat.le_of_ble_eq_true rfl), (Nat.le_of_ble_eq_true rfl)⟩ rfl (Nat.le_of_ble_eq_true rfl)) rfl rfl ?_
      obtain ⟨t3, hct3, h⟩ := bind_o h
      refine A_cp (k' := 0) (n' := 0) (A_runSN (rest := [.int l4, .int l2]) X dX4_playerTotal_37 (c_X10_at g2  hct3) kY_X10_at kw_508 ⟨(Nat.le_of_ble_eq_true rfl), (Nat.le_of_ble_eq_true rfl), (Nat.le_of_ble_eq_true rfl), (Nat.le_of_ble_eq_true rfl)⟩ rfl (Nat.le_of_ble_eq_true rfl)) rfl rfl ?_
      refine A_imul X dX4_playerTotal_40 ?_
      refine A_iadd X dX4_playerTotal_41 ?_
      refine A_istore_n (L' := [(2, .int (l2 + (l4 * t3))), (0, .ref b), (1, .int l1), (3, .int l3), (4, .int l4)]) X dX4_playerTotal_42 rfl (by decide) rfl ?_
      refine A_iinc (j := 4) (v := (l4 + 1)) (L' := [(4, .int (l4 + 1)), (2, .int (l2 + (l4 * t3))), (0, .ref b), (1, .int l1), (3, .int l3)]) X dX4_playerTotal_43 rfl rfl (by decide) rfl ?_
      refine A_goto (tgt := 13) X dX4_playerTotal_46 (by decide) ?_
      refine A_sub (L' := [(0, .ref b), (1, .int l1), (2, .int (l2 + (l4 * t3))), (3, .int l3), (4, .int (l4 + 1))]) [2, 3, 1, 4, 0] rfl ?_
      exact i13  h
set_option maxHeartbeats 4000000 in
set_option maxRecDepth 100000 in
theorem c_X4_playerTotal_L4 {E : KE} {p : Program} {l : Launch} {e : Env} {s : State} {m : MethodId} {args : Array Value} {below : List Frame} {meth : Method} {c : Code} {al : Option Nat} {N : Nat} {b : Nat} {tc : Int32} {fr : Nat → Int32} {hp0 : Hp} {out : Int32}  (X : CX E p l s m args meth c "DiceAudit$Ledger" cX4_playerTotal 5) (hr : meth.sig.returnType = (Option.some Jvm.ClassFile.FieldType.int))  (g0 : hp0 b = some (.inr (6, [.ref (b + 1), .ref (b + 2), .int tc]))) (g2 : hp0 (b + 2) = some (.inl (kC E 0, 432, .inl fr))) : ∀ (j : Nat), ∀ {l1 : Int32} {l2 : Int32} {l3 : Int32}, f_X4_playerTotal_L4 N fr j l1 l2 l3 = some out → AW E p l e ⟨1, 0, 0, 21⟩ s m args below meth c 5 (MQ below (kQc E (kRet out hp0 al)) args s 0 0 (kA E)) hp0 al 0 0 4 [(0, .ref b), (1, .int l1), (2, .int l2), (3, .int l3)] [] := by
  intro j
  induction j with
  | zero =>
    intro l1 l2 l3 h
    have h : (none : Option (Int32)) = some out := h
    cases h
  | succ j i4 =>
    intro l1 l2 l3 h
    have h : f_X4_playerTotal_L4_F N fr (f_X4_playerTotal_L4 N fr j) l1 l2 l3 = some out := h
    unfold f_X4_playerTotal_L4_F at h
    refine A_iload_n X dX4_playerTotal_4 3 rfl ?_
    refine A_bipush (v := 6) X dX4_playerTotal_5 (by decide) ?_
    refine A_icmp_ge (tgt := 55) X dX4_playerTotal_7 h (by decide) (fun hc h => ?_) (fun hc h => ?_)
    · refine A_iload_n X dX4_playerTotal_55 2 rfl ?_
      cases h
      exact A_iret X dX4_playerTotal_56 hr ⟨rfl, rfl, rfl⟩ (Nat.le_of_ble_eq_true rfl) (Nat.le_of_ble_eq_true rfl)
    · refine A_iconst (v := 1) X dX4_playerTotal_10 (by decide) ?_
      refine A_istore (L' := [(4, .int 1), (0, .ref b), (1, .int l1), (2, .int l2), (3, .int l3)]) X dX4_playerTotal_11 (by decide) rfl ?_
      refine A_sub (L' := [(0, .ref b), (1, .int l1), (2, .int l2), (3, .int l3), (4, .int 1)]) [1, 2, 3, 4, 0] rfl ?_
      exact c_X4_playerTotal_L13 X hr g0 g2 i4 N  h
set_option maxHeartbeats 4000000 in
set_option maxRecDepth 100000 in
theorem c_X4_playerTotal {E : KE} {l : Launch} {hp : Hp} {al : Option Nat} {N : Nat} {b : Nat} {tc : Int32} {fr : Nat → Int32} {a0 : Int32} {out : Int32} (g0 : hp b = some (.inr (6, [.ref (b + 1), .ref (b + 2), .int tc]))) (g2 : hp (b + 2) = some (.inl (kC E 0, 432, .inl fr)))  (h : f_X4_playerTotal N fr a0 = some out) : AM E l yX4_playerTotal cX4_playerTotal 5 (Option.some Jvm.ClassFile.FieldType.int) ⟨1, 0, 0, 21⟩ [.ref b, .int a0] hp al (kRet out hp al) := by
  refine A_of (by decide +kernel) (Nat.le_of_ble_eq_true rfl) ?_
  intro p e s m args below meth c X hr hnm
  have X : CX E p l s m args meth c "DiceAudit$Ledger" cX4_playerTotal 5 := X
  refine A_L (L' := [(0, .ref b), (1, .int a0)]) rfl ?_
  unfold f_X4_playerTotal at h
  refine A_iconst (v := 0) X dX4_playerTotal_0 (by decide) ?_
  refine A_istore_n (L' := [(2, .int 0), (0, .ref b), (1, .int a0)]) X dX4_playerTotal_1 rfl (by decide) rfl ?_
  refine A_iconst (v := 0) X dX4_playerTotal_2 (by decide) ?_
  refine A_istore_n (L' := [(3, .int 0), (2, .int 0), (0, .ref b), (1, .int a0)]) X dX4_playerTotal_3 rfl (by decide) rfl ?_
  refine A_sub (L' := [(0, .ref b), (1, .int a0), (2, .int 0), (3, .int 0)]) [2, 3, 1, 0] rfl ?_
  exact c_X4_playerTotal_L4 X hr g0 g2 N  h
set_option maxHeartbeats 4000000 in
set_option maxRecDepth 100000 in
theorem c_X4_frequencySum {E : KE} {l : Launch} {hp : Hp} {al : Option Nat} {N : Nat} {b : Nat} {tc : Int32} {fr : Nat → Int32}  {out : Int32} (g0 : hp b = some (.inr (6, [.ref (b + 1), .ref (b + 2), .int tc]))) (g2 : hp (b + 2) = some (.inl (kC E 0, 432, .inl fr)))  (h : f_X4_frequencySum N fr = some out) : AM E l yX4_frequencySum cX4_frequencySum 1 (Option.some Jvm.ClassFile.FieldType.int) ⟨1, 0, 0, 25⟩ [.ref b] hp al (kRet out hp al) := by
  refine A_of (by decide +kernel) (Nat.le_of_ble_eq_true rfl) ?_
  intro p e s m args below meth c X hr hnm
  have X : CX E p l s m args meth c "DiceAudit$Ledger" cX4_frequencySum 1 := X
  refine A_L (L' := [(0, .ref b)]) rfl ?_
  unfold f_X4_frequencySum at h
  refine A_aload_n X dX4_frequencySum_0 0 rfl ?_
  refine A_get X dX4_frequencySum_1 kcl_X4 1 (by decide) kw_104 g0 rfl ?_
  refine A_iconst (v := 0) X dX4_frequencySum_4 (by decide) ?_
  refine A_aload_n X dX4_frequencySum_5 0 rfl ?_
  refine A_get X dX4_frequencySum_6 kcl_X4 1 (by decide) kw_104 g0 rfl ?_
  refine A_alen (t := 0) (v := 432) X dX4_frequencySum_9 g2 rfl (by decide) ?_
  obtain ⟨t1, hct1, h⟩ := bind_o h
  refine A_cp (k' := 0) (n' := 0) (A_runSN (rest := []) X dX4_frequencySum_10 (c_X10_sumOf g2  hct1) kY_X10_sumOf kw_536 ⟨(Nat.le_of_ble_eq_true rfl), (Nat.le_of_ble_eq_true rfl), (Nat.le_of_ble_eq_true rfl), (Nat.le_of_ble_eq_true rfl)⟩ rfl (Nat.le_of_ble_eq_true rfl)) rfl rfl ?_
  cases h
  exact A_iret X dX4_frequencySum_13 hr ⟨rfl, rfl, rfl⟩ (Nat.le_of_ble_eq_true rfl) (Nat.le_of_ble_eq_true rfl)
set_option maxHeartbeats 4000000 in
set_option maxRecDepth 100000 in
theorem c_X4_faceSum_L4 {E : KE} {p : Program} {l : Launch} {e : Env} {s : State} {m : MethodId} {args : Array Value} {below : List Frame} {meth : Method} {c : Code} {al : Option Nat} {N : Nat} {b : Nat} {tc : Int32} {en : Nat → Int32} {hp0 : Hp} {out : Int32}  (X : CX E p l s m args meth c "DiceAudit$Ledger" cX4_faceSum 3) (hr : meth.sig.returnType = (Option.some Jvm.ClassFile.FieldType.int))  (g0 : hp0 b = some (.inr (6, [.ref (b + 1), .ref (b + 2), .int tc]))) (g1 : hp0 (b + 1) = some (.inl (kC E 0, 300, .inl en))) : ∀ (j : Nat), ∀ {l1 : Int32} {l2 : Int32}, f_X4_faceSum_L4 N tc en j l1 l2 = some out → AW E p l e ⟨2, 0, 0, 42⟩ s m args below meth c 3 (MQ below (kQc E (kRet out hp0 al)) args s 0 0 (kA E)) hp0 al 0 0 4 [(0, .ref b), (1, .int l1), (2, .int l2)] [] := by
  intro j
  induction j with
  | zero =>
    intro l1 l2 h
    have h : (none : Option (Int32)) = some out := h
    cases h
  | succ j i4 =>
    intro l1 l2 h
    have h : f_X4_faceSum_L4_F N tc en (f_X4_faceSum_L4 N tc en j) l1 l2 = some out := h
    unfold f_X4_faceSum_L4_F at h
    refine A_iload_n X dX4_faceSum_4 2 rfl ?_
    refine A_aload_n X dX4_faceSum_5 0 rfl ?_
    refine A_get X dX4_faceSum_6 kcl_X4 2 (by decide) kw_106 g0 rfl ?_
    refine A_icmp_ge (tgt := 26) X dX4_faceSum_9 h (by decide) (fun hc h => ?_) (fun hc h => ?_)
    · refine A_iload_n X dX4_faceSum_26 1 rfl ?_
      cases h
      exact A_iret X dX4_faceSum_27 hr ⟨rfl, rfl, rfl⟩ (Nat.le_of_ble_eq_true rfl) (Nat.le_of_ble_eq_true rfl)
    · refine A_iload_n X dX4_faceSum_12 1 rfl ?_
      refine A_aload_n X dX4_faceSum_13 0 rfl ?_
      refine A_iload_n X dX4_faceSum_14 2 rfl ?_
      obtain ⟨t1, hct1, h⟩ := bind_o h
      refine A_cp (k' := 0) (n' := 0) (A_runV (rest := [.int l1]) X dX4_faceSum_15 (c_X4_faceIn g0 g1  hct1) kY_X4_faceIn kw_591 g0 rfl rfl ⟨(Nat.le_of_ble_eq_true rfl), (Nat.le_of_ble_eq_true rfl), (Nat.le_of_ble_eq_true rfl), (Nat.le_of_ble_eq_true rfl)⟩ rfl (Nat.le_of_ble_eq_true rfl)) rfl rfl ?_
      refine A_iadd X dX4_faceSum_18 ?_
      refine A_istore_n (L' := [(1, .int (l1 + t1)), (0, .ref b), (2, .int l2)]) X dX4_faceSum_19 rfl (by decide) rfl ?_
      refine A_iinc (j := 2) (v := (l2 + 1)) (L' := [(2, .int (l2 + 1)), (1, .int (l1 + t1)), (0, .ref b)]) X dX4_faceSum_20 rfl rfl (by decide) rfl ?_
      refine A_goto (tgt := 4) X dX4_faceSum_23 (by decide) ?_
      refine A_sub (L' := [(0, .ref b), (1, .int (l1 + t1)), (2, .int (l2 + 1))]) [2, 1, 0] rfl ?_
      exact i4  h
set_option maxHeartbeats 4000000 in
set_option maxRecDepth 100000 in
theorem c_X4_faceSum {E : KE} {l : Launch} {hp : Hp} {al : Option Nat} {N : Nat} {b : Nat} {tc : Int32} {en : Nat → Int32}  {out : Int32} (g0 : hp b = some (.inr (6, [.ref (b + 1), .ref (b + 2), .int tc]))) (g1 : hp (b + 1) = some (.inl (kC E 0, 300, .inl en)))  (h : f_X4_faceSum N tc en = some out) : AM E l yX4_faceSum cX4_faceSum 3 (Option.some Jvm.ClassFile.FieldType.int) ⟨2, 0, 0, 42⟩ [.ref b] hp al (kRet out hp al) := by
  refine A_of (by decide +kernel) (Nat.le_of_ble_eq_true rfl) ?_
  intro p e s m args below meth c X hr hnm
  have X : CX E p l s m args meth c "DiceAudit$Ledger" cX4_faceSum 3 := X
  refine A_L (L' := [(0, .ref b)]) rfl ?_
  unfold f_X4_faceSum at h
  refine A_iconst (v := 0) X dX4_faceSum_0 (by decide) ?_
  refine A_istore_n (L' := [(1, .int 0), (0, .ref b)]) X dX4_faceSum_1 rfl (by decide) rfl ?_
  refine A_iconst (v := 0) X dX4_faceSum_2 (by decide) ?_
  refine A_istore_n (L' := [(2, .int 0), (1, .int 0), (0, .ref b)]) X dX4_faceSum_3 rfl (by decide) rfl ?_
  refine A_sub (L' := [(0, .ref b), (1, .int 0), (2, .int 0)]) [2, 1, 0] rfl ?_
  exact c_X4_faceSum_L4 X hr g0 g1 N  h
set_option maxHeartbeats 4000000 in
set_option maxRecDepth 100000 in
theorem c_X8_byteIn {E : KE} {l : Launch} {hp : Hp} {al : Option Nat} {b : Nat} {tl : Int32} {tb : Nat → Int32} {a0 : Int32} {out : Int32} (g0 : hp b = some (.inr (10, [.ref (b + 1), .int tl]))) (g1 : hp (b + 1) = some (.inl (kC E 0, 900, .inl tb)))  (h : f_X8_byteIn tl tb a0 = some out) : AM E l yX8_byteIn cX8_byteIn 2 (Option.some Jvm.ClassFile.FieldType.int) ⟨0, 0, 0, 0⟩ [.ref b, .int a0] hp al (kRet out hp al) := by
  refine A_of (by decide +kernel) (Nat.le_of_ble_eq_true rfl) ?_
  intro p e s m args below meth c X hr hnm
  have X : CX E p l s m args meth c "DiceAudit$Text" cX8_byteIn 2 := X
  refine A_L (L' := [(0, .ref b), (1, .int a0)]) rfl ?_
  unfold f_X8_byteIn at h
  refine A_iload_n X dX8_byteIn_0 1 rfl ?_
  refine A_if_lt (tgt := 28) X dX8_byteIn_1 h (by decide) (fun hc h => ?_) (fun hc h => ?_)
  · refine A_iconst (v := (-1)) X dX8_byteIn_28 (by decide) ?_
    cases h
    exact A_iret X dX8_byteIn_29 hr ⟨rfl, rfl, rfl⟩ (Nat.le_of_ble_eq_true rfl) (Nat.le_of_ble_eq_true rfl)
  · refine A_iload_n X dX8_byteIn_4 1 rfl ?_
    refine A_aload_n X dX8_byteIn_5 0 rfl ?_
    refine A_get X dX8_byteIn_6 kcl_X8 1 (by decide) kw_46 g0 rfl ?_
    refine A_icmp_ge (tgt := 28) X dX8_byteIn_9 h (by decide) (fun hc h => ?_) (fun hc h => ?_)
    · refine A_iconst (v := (-1)) X dX8_byteIn_28 (by decide) ?_
      cases h
      exact A_iret X dX8_byteIn_29 hr ⟨rfl, rfl, rfl⟩ (Nat.le_of_ble_eq_true rfl) (Nat.le_of_ble_eq_true rfl)
    · refine A_iload_n X dX8_byteIn_12 1 rfl ?_
      refine A_sipush (v := 900) X dX8_byteIn_13 (by decide) ?_
      refine A_icmp_ge (tgt := 28) X dX8_byteIn_16 h (by decide) (fun hc h => ?_) (fun hc h => ?_)
      · refine A_iconst (v := (-1)) X dX8_byteIn_28 (by decide) ?_
        cases h
        exact A_iret X dX8_byteIn_29 hr ⟨rfl, rfl, rfl⟩ (Nat.le_of_ble_eq_true rfl) (Nat.le_of_ble_eq_true rfl)
      · refine A_aload_n X dX8_byteIn_19 0 rfl ?_
        refine A_get X dX8_byteIn_20 kcl_X8 0 (by decide) kw_45 g0 rfl ?_
        refine A_iload_n X dX8_byteIn_23 1 rfl ?_
        obtain ⟨hq, h⟩ := gd_o h
        refine A_iald X dX8_byteIn_24 g1 hq ?_
        refine A_goto (tgt := 29) X dX8_byteIn_25 (by decide) ?_
        cases h
        exact A_iret X dX8_byteIn_29 hr ⟨rfl, rfl, rfl⟩ (Nat.le_of_ble_eq_true rfl) (Nat.le_of_ble_eq_true rfl)
abbrev P_X7_isNamed (E : KE) (b : Nat) (t : Nat)  (hp : Hp) (al : Option Nat) (out : Int32) : Option Value → Hp → Option Nat → Prop := fun v0 hp' al' => v0 = some (.int out) ∧ (out = 0 ∨ out = 1) ∧ hp = hp' ∧ al = al'
set_option maxHeartbeats 4000000 in
set_option maxRecDepth 100000 in
theorem c_X7_isNamed_L24 {E : KE} {p : Program} {l : Launch} {e : Env} {s : State} {m : MethodId} {args : Array Value} {below : List Frame} {meth : Method} {c : Code} {al : Option Nat} {N : Nat} {b : Nat} {t : Nat} {pc : Int32} {ln : Nat → Int32} {lt : Nat → Int32} {tl : Int32} {tb : Nat → Int32} {hp0 : Hp} {out : Int32}  (X : CX E p l s m args meth c "DiceAudit$Players" cX7_isNamed 7) (hr : meth.sig.returnType = (Option.some Jvm.ClassFile.FieldType.boolean))  (g0 : hp0 b = some (.inr (9, [.ref (b + 1), .ref (b + 2), .int pc]))) (g1 : hp0 (b + 1) = some (.inl (kC E 0, 6, .inl ln))) (g2 : hp0 (b + 2) = some (.inl (kC E 0, 24, .inl lt))) (g3 : hp0 t = some (.inr (10, [.ref (t + 1), .int tl]))) (g4 : hp0 (t + 1) = some (.inl (kC E 0, 900, .inl tb))) : ∀ (j : Nat), ∀ {l1 : Int32} {l3 : Int32} {l5 : Int32} {l6 : Int32}, f_X7_isNamed_L24 N ln lt tl tb j l1 l3 l5 l6 = some out → AW E p l e ⟨1, 0, 0, 21⟩ s m args below meth c 7 (MQ below (kQc E (P_X7_isNamed E b t hp0 al out)) args s 0 0 (kA E)) hp0 al 0 0 24 [(0, .ref b), (1, .int l1), (2, .ref t), (3, .int l3), (5, .int l5), (6, .int l6)] [] := by
  intro j
  induction j with
  | zero =>
    intro l1 l3 l5 l6 h
    have h : (none : Option (Int32)) = some out := h
    cases h
  | succ j i24 =>
    intro l1 l3 l5 l6 h
    have h : f_X7_isNamed_L24_F N ln lt tl tb (f_X7_isNamed_L24 N ln lt tl tb j) l1 l3 l5 l6 = some out := h
    unfold f_X7_isNamed_L24_F at h
    refine A_iload X dX7_isNamed_24 5 rfl ?_
    refine A_iload X dX7_isNamed_26 4 rfl ?_
    refine A_icmp_ge (tgt := 63) X dX7_isNamed_28 h (by decide) (fun hc h => ?_) (fun hc h => ?_)
    · refine A_iconst (v := 1) X dX7_isNamed_63 (by decide) ?_
      cases h
      exact A_zret X dX7_isNamed_64 hr (Or.inr rfl) ⟨rfl, (Or.inr rfl), rfl, rfl⟩ (Nat.le_of_ble_eq_true rfl) (Nat.le_of_ble_eq_true rfl)
    · refine A_aload_n X dX7_isNamed_31 0 rfl ?_
      refine A_get X dX7_isNamed_32 kcl_X7 1 (by decide) kw_86 g0 rfl ?_
      refine A_iload_n X dX7_isNamed_35 1 rfl ?_
      refine A_iconst (v := 4) X dX7_isNamed_36 (by decide) ?_
      refine A_imul X dX7_isNamed_37 ?_
      refine A_iload X dX7_isNamed_38 5 rfl ?_
      refine A_iadd X dX7_isNamed_40 ?_
      obtain ⟨t2, hct2, h⟩ := bind_o h
      refine A_cp (k' := 0) (n' := 0) (A_runSN (rest := []) X dX7_isNamed_41 (c_X10_at g2  hct2) kY_X10_at kw_458 ⟨(Nat.le_of_ble_eq_true rfl), (Nat.le_of_ble_eq_true rfl), (Nat.le_of_ble_eq_true rfl), (Nat.le_of_ble_eq_true rfl)⟩ rfl (Nat.le_of_ble_eq_true rfl)) rfl rfl ?_
      refine A_aload_n X dX7_isNamed_44 2 rfl ?_
      refine A_iload_n X dX7_isNamed_45 3 rfl ?_
      refine A_iload X dX7_isNamed_46 5 rfl ?_
      refine A_iadd X dX7_isNamed_48 ?_
      obtain ⟨t3, hct3, h⟩ := bind_o h
      refine A_cp (k' := 0) (n' := 0) (A_runV (rest := [.int t2]) X dX7_isNamed_49 (c_X8_byteIn g3 g4  hct3) kY_X8_byteIn kw_461 g3 rfl rfl ⟨(Nat.le_of_ble_eq_true rfl), (Nat.le_of_ble_eq_true rfl), (Nat.le_of_ble_eq_true rfl), (Nat.le_of_ble_eq_true rfl)⟩ rfl (Nat.le_of_ble_eq_true rfl)) rfl rfl ?_
      refine A_icmp_eq (tgt := 57) X dX7_isNamed_52 h (by decide) (fun hc h => ?_) (fun hc h => ?_)
      · refine A_iinc (j := 5) (v := (l6 + 1)) (L' := [(6, .int (l6 + 1)), (0, .ref b), (1, .int l1), (2, .ref t), (3, .int l3), (5, .int l5)]) X dX7_isNamed_57 rfl rfl (by decide) rfl ?_
        refine A_goto (tgt := 24) X dX7_isNamed_60 (by decide) ?_
        refine A_sub (L' := [(0, .ref b), (1, .int l1), (2, .ref t), (3, .int l3), (5, .int l5), (6, .int (l6 + 1))]) [1, 2, 3, 4, 5, 0] rfl ?_
        exact i24  h
      · refine A_iconst (v := 0) X dX7_isNamed_55 (by decide) ?_
        cases h
        exact A_zret X dX7_isNamed_56 hr (Or.inl rfl) ⟨rfl, (Or.inl rfl), rfl, rfl⟩ (Nat.le_of_ble_eq_true rfl) (Nat.le_of_ble_eq_true rfl)
set_option maxHeartbeats 4000000 in
set_option maxRecDepth 100000 in
theorem c_X7_isNamed {E : KE} {l : Launch} {hp : Hp} {al : Option Nat} {N : Nat} {b : Nat} {t : Nat} {pc : Int32} {ln : Nat → Int32} {lt : Nat → Int32} {tl : Int32} {tb : Nat → Int32} {a0 : Int32} {a2 : Int32} {a3 : Int32} {out : Int32} (g0 : hp b = some (.inr (9, [.ref (b + 1), .ref (b + 2), .int pc]))) (g1 : hp (b + 1) = some (.inl (kC E 0, 6, .inl ln))) (g2 : hp (b + 2) = some (.inl (kC E 0, 24, .inl lt))) (g3 : hp t = some (.inr (10, [.ref (t + 1), .int tl]))) (g4 : hp (t + 1) = some (.inl (kC E 0, 900, .inl tb)))  (h : f_X7_isNamed N ln lt tl tb a0 a2 a3 = some out) : AM E l yX7_isNamed cX7_isNamed 7 (Option.some Jvm.ClassFile.FieldType.boolean) ⟨1, 0, 0, 21⟩ [.ref b, .int a0, .ref t, .int a2, .int a3] hp al (P_X7_isNamed E b t hp al out) := by
  refine A_of (by decide +kernel) (Nat.le_of_ble_eq_true rfl) ?_
  intro p e s m args below meth c X hr hnm
  have X : CX E p l s m args meth c "DiceAudit$Players" cX7_isNamed 7 := X
  refine A_L (L' := [(0, .ref b), (1, .int a0), (2, .ref t), (3, .int a2), (4, .int a3)]) rfl ?_
  unfold f_X7_isNamed at h
  refine A_aload_n X dX7_isNamed_0 0 rfl ?_
  refine A_get X dX7_isNamed_1 kcl_X7 0 (by decide) kw_85 g0 rfl ?_
  refine A_iload_n X dX7_isNamed_4 1 rfl ?_
  obtain ⟨t1, hct1, h⟩ := bind_o h
  refine A_cp (k' := 0) (n' := 0) (A_runSN (rest := []) X dX7_isNamed_5 (c_X10_at g1  hct1) kY_X10_at kw_458 ⟨(Nat.le_of_ble_eq_true rfl), (Nat.le_of_ble_eq_true rfl), (Nat.le_of_ble_eq_true rfl), (Nat.le_of_ble_eq_true rfl)⟩ rfl (Nat.le_of_ble_eq_true rfl)) rfl rfl ?_
  refine A_istore (L' := [(5, .int t1), (0, .ref b), (1, .int a0), (2, .ref t), (3, .int a2), (4, .int a3)]) X dX7_isNamed_8 (by decide) rfl ?_
  refine A_iload X dX7_isNamed_10 0 rfl ?_
  refine A_iload X dX7_isNamed_12 5 rfl ?_
  refine A_iload_n X dX7_isNamed_14 4 rfl ?_
  refine A_isub X dX7_isNamed_15 ?_
  refine A_icmp_eq (tgt := 21) X dX7_isNamed_16 h (by decide) (fun hc h => ?_) (fun hc h => ?_)
  · refine A_iconst (v := 0) X dX7_isNamed_21 (by decide) ?_
    refine A_istore (L' := [(6, .int 0), (5, .int t1), (0, .ref b), (1, .int a0), (2, .ref t), (3, .int a2), (4, .int a3)]) X dX7_isNamed_22 (by decide) rfl ?_
    refine A_sub (L' := [(0, .ref b), (1, .int a0), (2, .ref t), (3, .int a2), (5, .int t1), (6, .int 0)]) [2, 3, 4, 5, 1, 0] rfl ?_
    exact c_X7_isNamed_L24 X hr g0 g1 g2 g3 g4 N  h
  · refine A_iconst (v := 0) X dX7_isNamed_19 (by decide) ?_
    cases h
    exact A_zret X dX7_isNamed_20 hr (Or.inl rfl) ⟨rfl, (Or.inl rfl), rfl, rfl⟩ (Nat.le_of_ble_eq_true rfl) (Nat.le_of_ble_eq_true rfl)
set_option maxHeartbeats 4000000 in
set_option maxRecDepth 100000 in
theorem c_X7_find_L3 {E : KE} {p : Program} {l : Launch} {e : Env} {s : State} {m : MethodId} {args : Array Value} {below : List Frame} {meth : Method} {c : Code} {al : Option Nat} {N : Nat} {b : Nat} {t : Nat} {pc : Int32} {ln : Nat → Int32} {lt : Nat → Int32} {tl : Int32} {tb : Nat → Int32} {hp0 : Hp} {out : Int32}  (X : CX E p l s m args meth c "DiceAudit$Players" cX7_find 5) (hr : meth.sig.returnType = (Option.some Jvm.ClassFile.FieldType.int))  (g0 : hp0 b = some (.inr (9, [.ref (b + 1), .ref (b + 2), .int pc]))) (g1 : hp0 (b + 1) = some (.inl (kC E 0, 6, .inl ln))) (g2 : hp0 (b + 2) = some (.inl (kC E 0, 24, .inl lt))) (g3 : hp0 t = some (.inr (10, [.ref (t + 1), .int tl]))) (g4 : hp0 (t + 1) = some (.inl (kC E 0, 900, .inl tb))) : ∀ (j : Nat), ∀ {l2 : Int32} {l3 : Int32} {l4 : Int32}, f_X7_find_L3 N pc ln lt tl tb j l2 l3 l4 = some out → AW E p l e ⟨2, 0, 0, 47⟩ s m args below meth c 5 (MQ below (kQc E (kRet out hp0 al)) args s 0 0 (kA E)) hp0 al 0 0 3 [(0, .ref b), (1, .ref t), (2, .int l2), (3, .int l3), (4, .int l4)] [] := by
  intro j
  induction j with
  | zero =>
    intro l2 l3 l4 h
    have h : (none : Option (Int32)) = some out := h
    cases h
  | succ j i3 =>
    intro l2 l3 l4 h
    have h : f_X7_find_L3_F N pc ln lt tl tb (f_X7_find_L3 N pc ln lt tl tb j) l2 l3 l4 = some out := h
    unfold f_X7_find_L3_F at h
    refine A_iload X dX7_find_3 4 rfl ?_
    refine A_aload_n X dX7_find_5 0 rfl ?_
    refine A_get X dX7_find_6 kcl_X7 2 (by decide) kw_87 g0 rfl ?_
    refine A_icmp_ge (tgt := 33) X dX7_find_9 h (by decide) (fun hc h => ?_) (fun hc h => ?_)
    · refine A_iconst (v := (-1)) X dX7_find_33 (by decide) ?_
      cases h
      exact A_iret X dX7_find_34 hr ⟨rfl, rfl, rfl⟩ (Nat.le_of_ble_eq_true rfl) (Nat.le_of_ble_eq_true rfl)
    · refine A_aload_n X dX7_find_12 0 rfl ?_
      refine A_iload X dX7_find_13 4 rfl ?_
      refine A_aload_n X dX7_find_15 1 rfl ?_
      refine A_iload_n X dX7_find_16 2 rfl ?_
      refine A_iload_n X dX7_find_17 3 rfl ?_
      obtain ⟨t1, hct1, h⟩ := bind_o h
      refine A_c (k' := 0) (n' := 0) rfl rfl (A_runV (rest := []) X dX7_find_18 (c_X7_isNamed g0 g1 g2 g3 g4  hct1) kY_X7_isNamed kw_454 g0 rfl rfl ⟨(Nat.le_of_ble_eq_true rfl), (Nat.le_of_ble_eq_true rfl), (Nat.le_of_ble_eq_true rfl), (Nat.le_of_ble_eq_true rfl)⟩ rfl (Nat.le_of_ble_eq_true rfl)) (fun v9 hp1 al9 hP => ?_)
      obtain ⟨rfl, zt1, rfl, rfl⟩ := hP
      refine A_st (st' := [.int t1]) rfl ?_
      refine A_if_eq (tgt := 27) X dX7_find_21 h (by decide) (fun hc h => ?_) (fun hc h => ?_)
      · refine A_iinc (j := 4) (v := (l4 + 1)) (L' := [(4, .int (l4 + 1)), (0, .ref b), (1, .ref t), (2, .int l2), (3, .int l3)]) X dX7_find_27 rfl rfl (by decide) rfl ?_
        refine A_goto (tgt := 3) X dX7_find_30 (by decide) ?_
        refine A_sub (L' := [(0, .ref b), (1, .ref t), (2, .int l2), (3, .int l3), (4, .int (l4 + 1))]) [1, 2, 3, 4, 0] rfl ?_
        exact i3  h
      · refine A_iload X dX7_find_24 4 rfl ?_
        cases h
        exact A_iret X dX7_find_26 hr ⟨rfl, rfl, rfl⟩ (Nat.le_of_ble_eq_true rfl) (Nat.le_of_ble_eq_true rfl)
set_option maxHeartbeats 4000000 in
set_option maxRecDepth 100000 in
theorem c_X7_find {E : KE} {l : Launch} {hp : Hp} {al : Option Nat} {N : Nat} {b : Nat} {t : Nat} {pc : Int32} {ln : Nat → Int32} {lt : Nat → Int32} {tl : Int32} {tb : Nat → Int32} {a1 : Int32} {a2 : Int32} {out : Int32} (g0 : hp b = some (.inr (9, [.ref (b + 1), .ref (b + 2), .int pc]))) (g1 : hp (b + 1) = some (.inl (kC E 0, 6, .inl ln))) (g2 : hp (b + 2) = some (.inl (kC E 0, 24, .inl lt))) (g3 : hp t = some (.inr (10, [.ref (t + 1), .int tl]))) (g4 : hp (t + 1) = some (.inl (kC E 0, 900, .inl tb)))  (h : f_X7_find N pc ln lt tl tb a1 a2 = some out) : AM E l yX7_find cX7_find 5 (Option.some Jvm.ClassFile.FieldType.int) ⟨2, 0, 0, 47⟩ [.ref b, .ref t, .int a1, .int a2] hp al (kRet out hp al) := by
  refine A_of (by decide +kernel) (Nat.le_of_ble_eq_true rfl) ?_
  intro p e s m args below meth c X hr hnm
  have X : CX E p l s m args meth c "DiceAudit$Players" cX7_find 5 := X
  refine A_L (L' := [(0, .ref b), (1, .ref t), (2, .int a1), (3, .int a2)]) rfl ?_
  unfold f_X7_find at h
  refine A_iconst (v := 0) X dX7_find_0 (by decide) ?_
  refine A_istore (L' := [(4, .int 0), (0, .ref b), (1, .ref t), (2, .int a1), (3, .int a2)]) X dX7_find_1 (by decide) rfl ?_
  refine A_sub (L' := [(0, .ref b), (1, .ref t), (2, .int a1), (3, .int a2), (4, .int 0)]) [1, 2, 3, 4, 0] rfl ?_
  exact c_X7_find_L3 X hr g0 g1 g2 g3 g4 N  h
abbrev P_X7_add (E : KE) (b : Nat) (t : Nat)  (hp : Hp) (al : Option Nat) (out : Int32 × (Nat → Int32) × (Nat → Int32)) : Option Value → Hp → Option Nat → Prop := fun v0 hp' al' => v0 = none ∧ hp' b = some (.inr (9, [.ref (b + 1), .ref (b + 2), .int out.1])) ∧ hp' (b + 1) = some (.inl (kC E 0, 6, .inl out.2.1)) ∧ hp' (b + 2) = some (.inl (kC E 0, 24, .inl out.2.2)) ∧ (∀ q, q ≠ b → q ≠ (b + 1) → q ≠ (b + 2) → hp' q = hp q) ∧ al = al'
set_option maxHeartbeats 4000000 in
set_option maxRecDepth 100000 in
theorem c_X7_add_L52 {E : KE} {p : Program} {l : Launch} {e : Env} {s : State} {m : MethodId} {args : Array Value} {below : List Frame} {meth : Method} {c : Code} {al : Option Nat} {N : Nat} {b : Nat} {t : Nat} {tl : Int32} {tb : Nat → Int32} {hp0 : Hp} {out : Int32 × (Nat → Int32) × (Nat → Int32)} {r13 : Int32 → Int32 → Int32 → Int32 → (Nat → Int32) → (Nat → Int32) → Option (Int32 × (Nat → Int32) × (Nat → Int32))} (X : CX E p l s m args meth c "DiceAudit$Players" cX7_add 5) (hr : meth.sig.returnType = (Option.none : Option Jvm.ClassFile.FieldType)) (hz0 : (b + 3) ≤ t ∨ (t + 2) ≤ b)  (i13 : ∀ {l2 : Int32} {l3 : Int32} {l4 : Int32} {pc : Int32} {ln : Nat → Int32} {lt : Nat → Int32} {hp : Hp}, hp b = some (.inr (9, [.ref (b + 1), .ref (b + 2), .int pc])) → hp (b + 1) = some (.inl (kC E 0, 6, .inl ln)) → hp (b + 2) = some (.inl (kC E 0, 24, .inl lt)) → hp t = some (.inr (10, [.ref (t + 1), .int tl])) → hp (t + 1) = some (.inl (kC E 0, 900, .inl tb)) → (∀ q, q ≠ b → q ≠ (b + 1) → q ≠ (b + 2) → hp q = hp0 q) → r13 l2 l3 l4 pc ln lt = some out → AW E p l e ⟨1, 0, 0, 22⟩ s m args below meth c 5 (MQ below (kQc E (P_X7_add E b t hp0 al out)) args s 0 0 (kA E)) hp al 0 0 13 [(0, .ref b), (1, .ref t), (2, .int l2), (3, .int l3), (4, .int l4)] []) : ∀ {l2 : Int32} {l3 : Int32} {l4 : Int32} {s0 : Int32} {s1 : Int32} {pc : Int32} {ln : Nat → Int32} {lt : Nat → Int32} {hp : Hp}, hp b = some (.inr (9, [.ref (b + 1), .ref (b + 2), .int pc])) → hp (b + 1) = some (.inl (kC E 0, 6, .inl ln)) → hp (b + 2) = some (.inl (kC E 0, 24, .inl lt)) → hp t = some (.inr (10, [.ref (t + 1), .int tl])) → hp (t + 1) = some (.inl (kC E 0, 900, .inl tb)) → (∀ q, q ≠ b → q ≠ (b + 1) → q ≠ (b + 2) → hp q = hp0 q) → f_X7_add_L52 N tl tb r13 l2 l3 l4 s0 s1 pc ln lt = some out → AW E p l e ⟨1, 0, 0, 22⟩ s m args below meth c 5 (MQ below (kQc E (P_X7_add E b t hp0 al out)) args s 0 0 (kA E)) hp al 0 0 52 [(0, .ref b), (1, .ref t), (2, .int l2), (3, .int l3), (4, .int l4)] [.int s0, .int s1, .ref (b + 2)] := by
  intro l2 l3 l4 s0 s1 pc ln lt hp g0 g1 g2 g3 g4 hfr h
  unfold f_X7_add_L52 at h
  obtain ⟨t2, hct2, h⟩ := bind_o h
  refine A_c (k' := 0) (n' := 0) rfl rfl (A_runSN (rest := []) X dX7_add_52 (c_X10_put g2  hct2) kY_X10_put kw_466 ⟨(Nat.le_of_ble_eq_true rfl), (Nat.le_of_ble_eq_true rfl), (Nat.le_of_ble_eq_true rfl), (Nat.le_of_ble_eq_true rfl)⟩ rfl (Nat.le_of_ble_eq_true rfl)) (fun v9 hp1 al9 hP => ?_)
  obtain ⟨rfl, k1_0, n1, rfl⟩ := hP
  replace k1_0 : hp1 (b + 2) = some (.inl (kC E 0, 24, .inl t2)) := k1_0
  refine A_st (st' := []) rfl ?_
  refine A_iinc (j := 4) (v := (l4 + 1)) (L' := [(4, .int (l4 + 1)), (0, .ref b), (1, .ref t), (2, .int l2), (3, .int l3)]) X dX7_add_55 rfl rfl (by decide) rfl ?_
  refine A_goto (tgt := 13) X dX7_add_58 (by decide) ?_
  refine A_sub (L' := [(0, .ref b), (1, .ref t), (2, .int l2), (3, .int l3), (4, .int (l4 + 1))]) [1, 2, 3, 4, 0] rfl ?_
  exact i13 ((n1 _ (by omega)).trans g0) ((n1 _ (by omega)).trans g1) k1_0 ((n1 _ (by omega)).trans g3) ((n1 _ (by omega)).trans g4) (fun q z0 z1 z2 => ((n1 q z2).trans (hfr q z0 z1 z2))) h
set_option maxHeartbeats 4000000 in
set_option maxRecDepth 100000 in
theorem c_X7_add_L13 {E : KE} {p : Program} {l : Launch} {e : Env} {s : State} {m : MethodId} {args : Array Value} {below : List Frame} {meth : Method} {c : Code} {al : Option Nat} {N : Nat} {b : Nat} {t : Nat} {tl : Int32} {tb : Nat → Int32} {hp0 : Hp} {out : Int32 × (Nat → Int32) × (Nat → Int32)}  (X : CX E p l s m args meth c "DiceAudit$Players" cX7_add 5) (hr : meth.sig.returnType = (Option.none : Option Jvm.ClassFile.FieldType)) (hz0 : (b + 3) ≤ t ∨ (t + 2) ≤ b)  : ∀ (j : Nat), ∀ {l2 : Int32} {l3 : Int32} {l4 : Int32} {pc : Int32} {ln : Nat → Int32} {lt : Nat → Int32} {hp : Hp}, hp b = some (.inr (9, [.ref (b + 1), .ref (b + 2), .int pc])) → hp (b + 1) = some (.inl (kC E 0, 6, .inl ln)) → hp (b + 2) = some (.inl (kC E 0, 24, .inl lt)) → hp t = some (.inr (10, [.ref (t + 1), .int tl])) → hp (t + 1) = some (.inl (kC E 0, 900, .inl tb)) → (∀ q, q ≠ b → q ≠ (b + 1) → q ≠ (b + 2) → hp q = hp0 q) → f_X7_add_L13 N tl tb j l2 l3 l4 pc ln lt = some out → AW E p l e ⟨1, 0, 0, 22⟩ s m args below meth c 5 (MQ below (kQc E (P_X7_add E b t hp0 al out)) args s 0 0 (kA E)) hp al 0 0 13 [(0, .ref b), (1, .ref t), (2, .int l2), (3, .int l3), (4, .int l4)] [] := by
  intro j
  induction j with
  | zero =>
    intro l2 l3 l4 pc ln lt hp g0 g1 g2 g3 g4 hfr h
    have h : (none : Option (Int32 × (Nat → Int32) × (Nat → Int32))) = some out := h
    cases h
  | succ j i13 =>
    intro l2 l3 l4 pc ln lt hp g0 g1 g2 g3 g4 hfr h
    have h : f_X7_add_L13_F N tl tb (f_X7_add_L13 N tl tb j) l2 l3 l4 pc ln lt = some out := h
    unfold f_X7_add_L13_F at h
    refine A_iload X dX7_add_13 4 rfl ?_
    refine A_iconst (v := 4) X dX7_add_15 (by decide) ?_
    refine A_icmp_ge (tgt := 61) X dX7_add_16 h (by decide) (fun hc h => ?_) (fun hc h => ?_)
    · refine A_aload_n X dX7_add_61 0 rfl ?_
      refine A_get X dX7_add_62 kcl_X7 0 (by decide) kw_85 g0 rfl ?_
      refine A_aload_n X dX7_add_65 0 rfl ?_
      refine A_get X dX7_add_66 kcl_X7 2 (by decide) kw_87 g0 rfl ?_
      refine A_iload_n X dX7_add_69 3 rfl ?_
      refine A_iload_n X dX7_add_70 2 rfl ?_
      refine A_isub X dX7_add_71 ?_
      obtain ⟨t1, hct1, h⟩ := bind_o h
      refine A_c (k' := 0) (n' := 0) rfl rfl (A_runSN (rest := []) X dX7_add_72 (c_X10_put g1  hct1) kY_X10_put kw_466 ⟨(Nat.le_of_ble_eq_true rfl), (Nat.le_of_ble_eq_true rfl), (Nat.le_of_ble_eq_true rfl), (Nat.le_of_ble_eq_true rfl)⟩ rfl (Nat.le_of_ble_eq_true rfl)) (fun v9 hp1 al9 hP => ?_)
      obtain ⟨rfl, k1_0, n1, rfl⟩ := hP
      replace k1_0 : hp1 (b + 1) = some (.inl (kC E 0, 6, .inl t1)) := k1_0
      refine A_st (st' := []) rfl ?_
      refine A_aload_n X dX7_add_75 0 rfl ?_
      refine A_dup X dX7_add_76 rfl ?_
      refine A_get X dX7_add_77 kcl_X7 2 (by decide) kw_87 ((n1 _ (by omega)).trans g0) rfl ?_
      refine A_iconst (v := 1) X dX7_add_80 (by decide) ?_
      refine A_iadd X dX7_add_81 ?_
      refine A_put X dX7_add_82 kcl_X7 2 (by decide) kw_87 ((n1 _ (by omega)).trans g0) rfl rfl rfl (by simp) (fun hp2 (k2 : hp2 b = some (.inr (9, [.ref (b + 1), .ref (b + 2), .int (pc + 1)]))) n2 => ?_)
      cases h
      exact A_vret X dX7_add_85 hr ⟨rfl, k2, ((n2 _ (by omega)).trans k1_0), ((n2 _ (by omega)).trans ((n1 _ (by omega)).trans g2)), (fun q z0 z1 z2 => ((n2 q z0).trans ((n1 q z1).trans (hfr q z0 z1 z2)))), rfl⟩ (Nat.le_of_ble_eq_true rfl) (Nat.le_of_ble_eq_true rfl)
    · refine A_aload_n X dX7_add_19 0 rfl ?_
      refine A_get X dX7_add_20 kcl_X7 1 (by decide) kw_86 g0 rfl ?_
      refine A_aload_n X dX7_add_23 0 rfl ?_
      refine A_get X dX7_add_24 kcl_X7 2 (by decide) kw_87 g0 rfl ?_
      refine A_iconst (v := 4) X dX7_add_27 (by decide) ?_
      refine A_imul X dX7_add_28 ?_
      refine A_iload X dX7_add_29 4 rfl ?_
      refine A_iadd X dX7_add_31 ?_
      refine A_iload_n X dX7_add_32 2 rfl ?_
      refine A_iload X dX7_add_33 4 rfl ?_
      refine A_iadd X dX7_add_35 ?_
      refine A_iload_n X dX7_add_36 3 rfl ?_
      refine A_icmp_ge (tgt := 51) X dX7_add_37 h (by decide) (fun hc h => ?_) (fun hc h => ?_)
      · refine A_iconst (v := 0) X dX7_add_51 (by decide) ?_
        refine A_sub (L' := [(0, .ref b), (1, .ref t), (2, .int l2), (3, .int l3), (4, .int l4)]) [0, 1, 2, 3, 4] rfl ?_
        exact c_X7_add_L52 X hr hz0 i13 g0 g1 g2 g3 g4 (fun q z0 z1 z2 => (hfr q z0 z1 z2)) h
      · refine A_aload_n X dX7_add_40 1 rfl ?_
        refine A_iload_n X dX7_add_41 2 rfl ?_
        refine A_iload X dX7_add_42 4 rfl ?_
        refine A_iadd X dX7_add_44 ?_
        obtain ⟨t2, hct2, h⟩ := bind_o h
        refine A_cp (k' := 0) (n' := 0) (A_runV (rest := [.int ((pc * 4) + l4), .ref (b + 2)]) X dX7_add_45 (c_X8_byteIn g3 g4  hct2) kY_X8_byteIn kw_461 g3 rfl rfl ⟨(Nat.le_of_ble_eq_true rfl), (Nat.le_of_ble_eq_true rfl), (Nat.le_of_ble_eq_true rfl), (Nat.le_of_ble_eq_true rfl)⟩ rfl (Nat.le_of_ble_eq_true rfl)) rfl rfl ?_
        refine A_goto (tgt := 52) X dX7_add_48 (by decide) ?_
        refine A_sub (L' := [(0, .ref b), (1, .ref t), (2, .int l2), (3, .int l3), (4, .int l4)]) [0, 1, 2, 3, 4] rfl ?_
        exact c_X7_add_L52 X hr hz0 i13 g0 g1 g2 g3 g4 (fun q z0 z1 z2 => (hfr q z0 z1 z2)) h
set_option maxHeartbeats 4000000 in
set_option maxRecDepth 100000 in
theorem c_X7_add {E : KE} {l : Launch} {hp : Hp} {al : Option Nat} {N : Nat} {b : Nat} {t : Nat} {pc : Int32} {ln : Nat → Int32} {lt : Nat → Int32} {tl : Int32} {tb : Nat → Int32} {a1 : Int32} {a2 : Int32} {out : Int32 × (Nat → Int32) × (Nat → Int32)} (g0 : hp b = some (.inr (9, [.ref (b + 1), .ref (b + 2), .int pc]))) (g1 : hp (b + 1) = some (.inl (kC E 0, 6, .inl ln))) (g2 : hp (b + 2) = some (.inl (kC E 0, 24, .inl lt))) (g3 : hp t = some (.inr (10, [.ref (t + 1), .int tl]))) (g4 : hp (t + 1) = some (.inl (kC E 0, 900, .inl tb))) (hz0 : (b + 3) ≤ t ∨ (t + 2) ≤ b) (h : f_X7_add N tl tb pc ln lt a1 a2 = some out) : AM E l yX7_add cX7_add 5 (Option.none : Option Jvm.ClassFile.FieldType) ⟨1, 0, 0, 22⟩ [.ref b, .ref t, .int a1, .int a2] hp al (P_X7_add E b t hp al out) := by
  refine A_of (by decide +kernel) (Nat.le_of_ble_eq_true rfl) ?_
  intro p e s m args below meth c X hr hnm
  have X : CX E p l s m args meth c "DiceAudit$Players" cX7_add 5 := X
  refine A_L (L' := [(0, .ref b), (1, .ref t), (2, .int a1), (3, .int a2)]) rfl ?_
  unfold f_X7_add at h
  refine A_aload_n X dX7_add_0 0 rfl ?_
  refine A_get X dX7_add_1 kcl_X7 2 (by decide) kw_87 g0 rfl ?_
  refine A_bipush (v := 6) X dX7_add_4 (by decide) ?_
  refine A_icmp_lt (tgt := 10) X dX7_add_6 h (by decide) (fun hc h => ?_) (fun hc h => ?_)
  · refine A_iconst (v := 0) X dX7_add_10 (by decide) ?_
    refine A_istore (L' := [(4, .int 0), (0, .ref b), (1, .ref t), (2, .int a1), (3, .int a2)]) X dX7_add_11 (by decide) rfl ?_
    refine A_sub (L' := [(0, .ref b), (1, .ref t), (2, .int a1), (3, .int a2), (4, .int 0)]) [1, 2, 3, 4, 0] rfl ?_
    exact c_X7_add_L13 X hr hz0 N g0 g1 g2 g3 g4 (fun q z0 z1 z2 => rfl) h
  · cases h
    exact A_vret X dX7_add_9 hr ⟨rfl, g0, g1, g2, (fun q z0 z1 z2 => rfl), rfl⟩ (Nat.le_of_ble_eq_true rfl) (Nat.le_of_ble_eq_true rfl)
abbrev P_X6_removeAllOf (E : KE) (b : Nat)  (hp : Hp) (al : Option Nat) (out : Int32 × Int32 × (Nat → Int32) × (Nat → Int32)) : Option Value → Hp → Option Nat → Prop := fun v0 hp' al' => v0 = some (.int out.1) ∧ hp' b = some (.inr (8, [.ref (b + 1), .ref (b + 2), .int out.2.1])) ∧ hp' (b + 1) = some (.inl (kC E 0, 36, .inl out.2.2.1)) ∧ hp' (b + 2) = some (.inl (kC E 0, 36, .inl out.2.2.2)) ∧ (∀ q, q ≠ b → q ≠ (b + 1) → q ≠ (b + 2) → hp' q = hp q) ∧ al = al'
set_option maxHeartbeats 4000000 in
set_option maxRecDepth 100000 in
theorem c_X6_removeAllOf_L51 {E : KE} {p : Program} {l : Launch} {e : Env} {s : State} {m : MethodId} {args : Array Value} {below : List Frame} {meth : Method} {c : Code} {al : Option Nat} {N : Nat} {b : Nat}  {hp0 : Hp} {out : Int32 × Int32 × (Nat → Int32) × (Nat → Int32)} {r4 : Int32 → Int32 → Int32 → Int32 → (Nat → Int32) → (Nat → Int32) → Option (Int32 × Int32 × (Nat → Int32) × (Nat → Int32))} (X : CX E p l s m args meth c "DiceAudit$Offences" cX6_removeAllOf 4) (hr : meth.sig.returnType = (Option.some Jvm.ClassFile.FieldType.int))   (i4 : ∀ {l1 : Int32} {l2 : Int32} {l3 : Int32} {oc : Int32} {op : Nat → Int32} {os : Nat → Int32} {hp : Hp}, hp b = some (.inr (8, [.ref (b + 1), .ref (b + 2), .int oc])) → hp (b + 1) = some (.inl (kC E 0, 36, .inl op)) → hp (b + 2) = some (.inl (kC E 0, 36, .inl os)) → (∀ q, q ≠ b → q ≠ (b + 1) → q ≠ (b + 2) → hp q = hp0 q) → r4 l1 l2 l3 oc op os = some out → AW E p l e ⟨2, 0, 0, 45⟩ s m args below meth c 4 (MQ below (kQc E (P_X6_removeAllOf E b hp0 al out)) args s 0 0 (kA E)) hp al 0 0 4 [(0, .ref b), (1, .int l1), (2, .int l2), (3, .int l3)] []) : ∀ {l1 : Int32} {l2 : Int32} {l3 : Int32} {oc : Int32} {op : Nat → Int32} {os : Nat → Int32} {hp : Hp}, hp b = some (.inr (8, [.ref (b + 1), .ref (b + 2), .int oc])) → hp (b + 1) = some (.inl (kC E 0, 36, .inl op)) → hp (b + 2) = some (.inl (kC E 0, 36, .inl os)) → (∀ q, q ≠ b → q ≠ (b + 1) → q ≠ (b + 2) → hp q = hp0 q) → f_X6_removeAllOf_L51 N r4 l1 l2 l3 oc op os = some out → AW E p l e ⟨2, 0, 0, 45⟩ s m args below meth c 4 (MQ below (kQc E (P_X6_removeAllOf E b hp0 al out)) args s 0 0 (kA E)) hp al 0 0 51 [(0, .ref b), (1, .int l1), (2, .int l2), (3, .int l3)] [] := by
  intro l1 l2 l3 oc op os hp g0 g1 g2 hfr h
  unfold f_X6_removeAllOf_L51 at h
  refine A_iinc (j := 3) (v := (l3 + 1)) (L' := [(3, .int (l3 + 1)), (0, .ref b), (1, .int l1), (2, .int l2)]) X dX6_removeAllOf_51 rfl rfl (by decide) rfl ?_
  refine A_goto (tgt := 4) X dX6_removeAllOf_54 (by decide) ?_
  refine A_sub (L' := [(0, .ref b), (1, .int l1), (2, .int l2), (3, .int (l3 + 1))]) [1, 2, 3, 0] rfl ?_
  exact i4 g0 g1 g2 (fun q z0 z1 z2 => (hfr q z0 z1 z2)) h
set_option maxHeartbeats 4000000 in
set_option maxRecDepth 100000 in
theorem c_X6_removeAllOf_L4 {E : KE} {p : Program} {l : Launch} {e : Env} {s : State} {m : MethodId} {args : Array Value} {below : List Frame} {meth : Method} {c : Code} {al : Option Nat} {N : Nat} {b : Nat}  {hp0 : Hp} {out : Int32 × Int32 × (Nat → Int32) × (Nat → Int32)}  (X : CX E p l s m args meth c "DiceAudit$Offences" cX6_removeAllOf 4) (hr : meth.sig.returnType = (Option.some Jvm.ClassFile.FieldType.int))   : ∀ (j : Nat), ∀ {l1 : Int32} {l2 : Int32} {l3 : Int32} {oc : Int32} {op : Nat → Int32} {os : Nat → Int32} {hp : Hp}, hp b = some (.inr (8, [.ref (b + 1), .ref (b + 2), .int oc])) → hp (b + 1) = some (.inl (kC E 0, 36, .inl op)) → hp (b + 2) = some (.inl (kC E 0, 36, .inl os)) → (∀ q, q ≠ b → q ≠ (b + 1) → q ≠ (b + 2) → hp q = hp0 q) → f_X6_removeAllOf_L4 N j l1 l2 l3 oc op os = some out → AW E p l e ⟨2, 0, 0, 45⟩ s m args below meth c 4 (MQ below (kQc E (P_X6_removeAllOf E b hp0 al out)) args s 0 0 (kA E)) hp al 0 0 4 [(0, .ref b), (1, .int l1), (2, .int l2), (3, .int l3)] [] := by
  intro j
  induction j with
  | zero =>
    intro l1 l2 l3 oc op os hp g0 g1 g2 hfr h
    have h : (none : Option (Int32 × Int32 × (Nat → Int32) × (Nat → Int32))) = some out := h
    cases h
  | succ j i4 =>
    intro l1 l2 l3 oc op os hp g0 g1 g2 hfr h
    have h : f_X6_removeAllOf_L4_F N (f_X6_removeAllOf_L4 N j) l1 l2 l3 oc op os = some out := h
    unfold f_X6_removeAllOf_L4_F at h
    refine A_iload_n X dX6_removeAllOf_4 3 rfl ?_
    refine A_aload_n X dX6_removeAllOf_5 0 rfl ?_
    refine A_get X dX6_removeAllOf_6 kcl_X6 2 (by decide) kw_128 g0 rfl ?_
    refine A_icmp_ge (tgt := 57) X dX6_removeAllOf_9 h (by decide) (fun hc h => ?_) (fun hc h => ?_)
    · refine A_aload_n X dX6_removeAllOf_57 0 rfl ?_
      refine A_get X dX6_removeAllOf_58 kcl_X6 2 (by decide) kw_128 g0 rfl ?_
      refine A_iload_n X dX6_removeAllOf_61 2 rfl ?_
      refine A_isub X dX6_removeAllOf_62 ?_
      refine A_istore_n (L' := [(3, .int (oc - l2)), (0, .ref b), (1, .int l1), (2, .int l2)]) X dX6_removeAllOf_63 rfl (by decide) rfl ?_
      refine A_aload_n X dX6_removeAllOf_64 1 rfl ?_
      refine A_iload_n X dX6_removeAllOf_65 3 rfl ?_
      refine A_put X dX6_removeAllOf_66 kcl_X6 2 (by decide) kw_128 g0 rfl rfl rfl (by simp) (fun hp1 (k1 : hp1 b = some (.inr (8, [.ref (b + 1), .ref (b + 2), .int l2]))) n1 => ?_)
      refine A_iload_n X dX6_removeAllOf_69 0 rfl ?_
      cases h
      exact A_iret X dX6_removeAllOf_70 hr ⟨rfl, k1, ((n1 _ (by omega)).trans g1), ((n1 _ (by omega)).trans g2), (fun q z0 z1 z2 => ((n1 q z0).trans (hfr q z0 z1 z2))), rfl⟩ (Nat.le_of_ble_eq_true rfl) (Nat.le_of_ble_eq_true rfl)
    · refine A_aload_n X dX6_removeAllOf_12 0 rfl ?_
      refine A_get X dX6_removeAllOf_13 kcl_X6 0 (by decide) kw_122 g0 rfl ?_
      refine A_iload_n X dX6_removeAllOf_16 3 rfl ?_
      obtain ⟨t1, hct1, h⟩ := bind_o h
      refine A_cp (k' := 0) (n' := 0) (A_runSN (rest := []) X dX6_removeAllOf_17 (c_X10_at g1  hct1) kY_X10_at kw_545 ⟨(Nat.le_of_ble_eq_true rfl), (Nat.le_of_ble_eq_true rfl), (Nat.le_of_ble_eq_true rfl), (Nat.le_of_ble_eq_true rfl)⟩ rfl (Nat.le_of_ble_eq_true rfl)) rfl rfl ?_
      obtain ⟨t2, hct2, h⟩ := bind_o h
      refine A_cp (k' := 0) (n' := 0) (A_runSN (rest := []) X dX6_removeAllOf_20 (c_X10_playerOf   hct2) kY_X10_playerOf kw_610 ⟨(Nat.le_of_ble_eq_true rfl), (Nat.le_of_ble_eq_true rfl), (Nat.le_of_ble_eq_true rfl), (Nat.le_of_ble_eq_true rfl)⟩ rfl (Nat.le_of_ble_eq_true rfl)) rfl rfl ?_
      refine A_iload_n X dX6_removeAllOf_23 1 rfl ?_
      refine A_icmp_eq (tgt := 51) X dX6_removeAllOf_24 h (by decide) (fun hc h => ?_) (fun hc h => ?_)
      · refine A_sub (L' := [(0, .ref b), (1, .int l1), (2, .int l2), (3, .int l3)]) [0, 1, 2, 3] rfl ?_
        exact c_X6_removeAllOf_L51 X hr i4 g0 g1 g2 (fun q z0 z1 z2 => (hfr q z0 z1 z2)) h
      · refine A_aload_n X dX6_removeAllOf_27 0 rfl ?_
        refine A_iload_n X dX6_removeAllOf_28 2 rfl ?_
        refine A_aload_n X dX6_removeAllOf_29 0 rfl ?_
        refine A_get X dX6_removeAllOf_30 kcl_X6 0 (by decide) kw_122 g0 rfl ?_
        refine A_iload_n X dX6_removeAllOf_33 3 rfl ?_
        obtain ⟨t3, hct3, h⟩ := bind_o h
        refine A_cp (k' := 0) (n' := 0) (A_runSN (rest := [.int l2, .ref b]) X dX6_removeAllOf_34 (c_X10_at g1  hct3) kY_X10_at kw_545 ⟨(Nat.le_of_ble_eq_true rfl), (Nat.le_of_ble_eq_true rfl), (Nat.le_of_ble_eq_true rfl), (Nat.le_of_ble_eq_true rfl)⟩ rfl (Nat.le_of_ble_eq_true rfl)) rfl rfl ?_
        refine A_aload_n X dX6_removeAllOf_37 0 rfl ?_
        refine A_get X dX6_removeAllOf_38 kcl_X6 1 (by decide) kw_125 g0 rfl ?_
        refine A_iload_n X dX6_removeAllOf_41 3 rfl ?_
        obtain ⟨t4, hct4, h⟩ := bind_o h
        refine A_cp (k' := 0) (n' := 0) (A_runSN (rest := [.int t3, .int l2, .ref b]) X dX6_removeAllOf_42 (c_X10_at g2  hct4) kY_X10_at kw_545 ⟨(Nat.le_of_ble_eq_true rfl), (Nat.le_of_ble_eq_true rfl), (Nat.le_of_ble_eq_true rfl), (Nat.le_of_ble_eq_true rfl)⟩ rfl (Nat.le_of_ble_eq_true rfl)) rfl rfl ?_
        obtain ⟨t5, hct5, h⟩ := bind_o h
        refine A_c (k' := 0) (n' := 0) rfl rfl (A_runV (rest := []) X dX6_removeAllOf_45 (c_X6_set g0 g1 g2  hct5) kY_X6_set kw_554 g0 rfl rfl ⟨(Nat.le_of_ble_eq_true rfl), (Nat.le_of_ble_eq_true rfl), (Nat.le_of_ble_eq_true rfl), (Nat.le_of_ble_eq_true rfl)⟩ rfl (Nat.le_of_ble_eq_true rfl)) (fun v9 hp1 al9 hP => ?_)
        obtain ⟨rfl, k1_0, k1_1, n1, rfl⟩ := hP
        replace k1_0 : hp1 (b + 1) = some (.inl (kC E 0, 36, .inl t5.1)) := k1_0
        replace k1_1 : hp1 (b + 2) = some (.inl (kC E 0, 36, .inl t5.2)) := k1_1
        refine A_st (st' := []) rfl ?_
        refine A_iinc (j := 2) (v := (l2 + 1)) (L' := [(2, .int (l2 + 1)), (0, .ref b), (1, .int l1), (3, .int l3)]) X dX6_removeAllOf_48 rfl rfl (by decide) rfl ?_
        refine A_sub (L' := [(0, .ref b), (1, .int l1), (2, .int (l2 + 1)), (3, .int l3)]) [1, 2, 0, 3] rfl ?_
        exact c_X6_removeAllOf_L51 X hr i4 ((n1 _ (by omega) (by omega)).trans g0) k1_0 k1_1 (fun q z0 z1 z2 => ((n1 q z1 z2).trans (hfr q z0 z1 z2))) h
set_option maxHeartbeats 4000000 in
set_option maxRecDepth 100000 in
theorem c_X6_removeAllOf {E : KE} {l : Launch} {hp : Hp} {al : Option Nat} {N : Nat} {b : Nat} {oc : Int32} {op : Nat → Int32} {os : Nat → Int32} {a0 : Int32} {out : Int32 × Int32 × (Nat → Int32) × (Nat → Int32)} (g0 : hp b = some (.inr (8, [.ref (b + 1), .ref (b + 2), .int oc]))) (g1 : hp (b + 1) = some (.inl (kC E 0, 36, .inl op))) (g2 : hp (b + 2) = some (.inl (kC E 0, 36, .inl os)))  (h : f_X6_removeAllOf N oc op os a0 = some out) : AM E l yX6_removeAllOf cX6_removeAllOf 4 (Option.some Jvm.ClassFile.FieldType.int) ⟨2, 0, 0, 45⟩ [.ref b, .int a0] hp al (P_X6_removeAllOf E b hp al out) := by
  refine A_of (by decide +kernel) (Nat.le_of_ble_eq_true rfl) ?_
  intro p e s m args below meth c X hr hnm
  have X : CX E p l s m args meth c "DiceAudit$Offences" cX6_removeAllOf 4 := X
  refine A_L (L' := [(0, .ref b), (1, .int a0)]) rfl ?_
  unfold f_X6_removeAllOf at h
  refine A_iconst (v := 0) X dX6_removeAllOf_0 (by decide) ?_
  refine A_istore_n (L' := [(2, .int 0), (0, .ref b), (1, .int a0)]) X dX6_removeAllOf_1 rfl (by decide) rfl ?_
  refine A_iconst (v := 0) X dX6_removeAllOf_2 (by decide) ?_
  refine A_istore_n (L' := [(3, .int 0), (2, .int 0), (0, .ref b), (1, .int a0)]) X dX6_removeAllOf_3 rfl (by decide) rfl ?_
  refine A_sub (L' := [(0, .ref b), (1, .int a0), (2, .int 0), (3, .int 0)]) [2, 3, 1, 0] rfl ?_
  exact c_X6_removeAllOf_L4 X hr  N g0 g1 g2 (fun q z0 z1 z2 => rfl) h
abbrev P_X8_init (E : KE) (b : Nat)  (hp : Hp) : Option Value → Hp → Option Nat → Prop := fun v0 hp' al' => v0 = none ∧ hp' b = some (.inr (10, [.ref (b + 1), .int 0])) ∧ hp' (b + 1) = some (.inl (kC E 0, 900, .inl (fun _ => 0))) ∧ (∀ q, (q < b ∨ (b + 2) ≤ q) → hp' q = hp q) ∧ some (b + 2) = al'
set_option maxHeartbeats 8000000 in
set_option maxRecDepth 100000 in
theorem c_X8_init {E : KE} {l : Launch} {hp : Hp} {b : Nat} (g0 : hp b = some (.inr (10, [.null, .int 0])))  : AM E l yX8_init cX8_init 1 (Option.none : Option Jvm.ClassFile.FieldType) ⟨1, 1, 900, 12⟩ [.ref b] hp (some (b + 1)) (P_X8_init E b  hp) := by
  refine A_of (by decide +kernel) (Nat.le_of_ble_eq_true rfl) ?_
  intro p e s m args below meth c X hr hnm
  have X : CX E p l s m args meth c "DiceAudit$Text" cX8_init 1 := X
  refine A_L (L' := [(0, .ref b)]) rfl ?_
  refine A_aload_n X dX8_init_0 0 rfl ?_
  refine A_objI (i0 := 0) (i1 := 0) X dX8_init_1 kw_44 kw_37 kw_38 (Nat.le_of_ble_eq_true rfl) (Nat.le_of_ble_eq_true rfl) ?_
  refine A_aload_n X dX8_init_4 0 rfl ?_
  refine A_sipush (v := 900) X dX8_init_5 (by decide) ?_
  refine A_newi (z := (b + 1)) (N := 900) X dX8_init_8 kw_54 (by decide) (by decide) (Nat.le_of_ble_eq_true rfl) (Nat.le_of_ble_eq_true rfl) (Nat.le_of_ble_eq_true rfl) (fun hp1 (k1 : hp1 (b + 1) = some (.inl (kC E 0, 900, .inl (fun _ => 0)))) n1 => ?_)
  refine A_putF X dX8_init_10 kcl_X8 0 (by decide) kw_45 ((n1 _ (by omega)).trans g0) rfl (hnm.trans rfl) rfl rfl rfl (by simp) (fun hp2 (k2 : hp2 b = some (.inr (10, [.ref (b + 1), .int 0]))) n2 => ?_)
  refine A_aload_n X dX8_init_13 0 rfl ?_
  refine A_iconst (v := 0) X dX8_init_14 (by decide) ?_
  refine A_put X dX8_init_15 kcl_X8 1 (by decide) kw_46 k2 rfl rfl rfl (by simp) (fun hp3 (k3 : hp3 b = some (.inr (10, [.ref (b + 1), .int 0]))) n3 => ?_)
  exact A_vret X dX8_init_18 hr ⟨rfl, k3, ((n3 _ (by omega)).trans ((n2 _ (by omega)).trans k1)), (fun q z => ((n3 q (by omega)).trans ((n2 q (by omega)).trans (n1 q (by omega))))), rfl⟩ (Nat.le_of_ble_eq_true rfl) (Nat.le_of_ble_eq_true rfl)
abbrev P_X8_append (E : KE) (b : Nat)  (hp : Hp) (al : Option Nat) (out : Int32 × (Nat → Int32)) : Option Value → Hp → Option Nat → Prop := fun v0 hp' al' => v0 = none ∧ hp' b = some (.inr (10, [.ref (b + 1), .int out.1])) ∧ hp' (b + 1) = some (.inl (kC E 0, 900, .inl out.2)) ∧ (∀ q, q ≠ b → q ≠ (b + 1) → hp' q = hp q) ∧ al = al'
set_option maxHeartbeats 4000000 in
set_option maxRecDepth 100000 in
theorem c_X8_append {E : KE} {l : Launch} {hp : Hp} {al : Option Nat} {b : Nat} {tl : Int32} {tb : Nat → Int32} {a0 : Int32} {out : Int32 × (Nat → Int32)} (g0 : hp b = some (.inr (10, [.ref (b + 1), .int tl]))) (g1 : hp (b + 1) = some (.inl (kC E 0, 900, .inl tb)))  (h : f_X8_append tl tb a0 = some out) : AM E l yX8_append cX8_append 2 (Option.none : Option Jvm.ClassFile.FieldType) ⟨1, 0, 0, 22⟩ [.ref b, .int a0] hp al (P_X8_append E b hp al out) := by
  refine A_of (by decide +kernel) (Nat.le_of_ble_eq_true rfl) ?_
  intro p e s m args below meth c X hr hnm
  have X : CX E p l s m args meth c "DiceAudit$Text" cX8_append 2 := X
  refine A_L (L' := [(0, .ref b), (1, .int a0)]) rfl ?_
  unfold f_X8_append at h
  refine A_aload_n X dX8_append_0 0 rfl ?_
  refine A_get X dX8_append_1 kcl_X8 1 (by decide) kw_46 g0 rfl ?_
  refine A_sipush (v := 900) X dX8_append_4 (by decide) ?_
  refine A_icmp_ge (tgt := 32) X dX8_append_7 h (by decide) (fun hc h => ?_) (fun hc h => ?_)
  · cases h
    exact A_vret X dX8_append_32 hr ⟨rfl, g0, g1, (fun q z0 z1 => rfl), rfl⟩ (Nat.le_of_ble_eq_true rfl) (Nat.le_of_ble_eq_true rfl)
  · refine A_aload_n X dX8_append_10 0 rfl ?_
    refine A_get X dX8_append_11 kcl_X8 0 (by decide) kw_45 g0 rfl ?_
    refine A_aload_n X dX8_append_14 0 rfl ?_
    refine A_get X dX8_append_15 kcl_X8 1 (by decide) kw_46 g0 rfl ?_
    refine A_iload_n X dX8_append_18 1 rfl ?_
    obtain ⟨t1, hct1, h⟩ := bind_o h
    refine A_c (k' := 0) (n' := 0) rfl rfl (A_runSN (rest := []) X dX8_append_19 (c_X10_put g1  hct1) kY_X10_put kw_316 ⟨(Nat.le_of_ble_eq_true rfl), (Nat.le_of_ble_eq_true rfl), (Nat.le_of_ble_eq_true rfl), (Nat.le_of_ble_eq_true rfl)⟩ rfl (Nat.le_of_ble_eq_true rfl)) (fun v9 hp1 al9 hP => ?_)
    obtain ⟨rfl, k1_0, n1, rfl⟩ := hP
    replace k1_0 : hp1 (b + 1) = some (.inl (kC E 0, 900, .inl t1)) := k1_0
    refine A_st (st' := []) rfl ?_
    refine A_aload_n X dX8_append_22 0 rfl ?_
    refine A_dup X dX8_append_23 rfl ?_
    refine A_get X dX8_append_24 kcl_X8 1 (by decide) kw_46 ((n1 _ (by omega)).trans g0) rfl ?_
    refine A_iconst (v := 1) X dX8_append_27 (by decide) ?_
    refine A_iadd X dX8_append_28 ?_
    refine A_put X dX8_append_29 kcl_X8 1 (by decide) kw_46 ((n1 _ (by omega)).trans g0) rfl rfl rfl (by simp) (fun hp2 (k2 : hp2 b = some (.inr (10, [.ref (b + 1), .int (tl + 1)]))) n2 => ?_)
    cases h
    exact A_vret X dX8_append_32 hr ⟨rfl, k2, ((n2 _ (by omega)).trans k1_0), (fun q z0 z1 => ((n2 q z0).trans (n1 q z1))), rfl⟩ (Nat.le_of_ble_eq_true rfl) (Nat.le_of_ble_eq_true rfl)
abbrev P_X8_appendWord (E : KE) (b : Nat)  (hp : Hp) (al : Option Nat) (out : Int32 × (Nat → Int32)) : Option Value → Hp → Option Nat → Prop := fun v0 hp' al' => v0 = none ∧ hp' b = some (.inr (10, [.ref (b + 1), .int out.1])) ∧ hp' (b + 1) = some (.inl (kC E 0, 900, .inl out.2)) ∧ (∀ q, q ≠ b → q ≠ (b + 1) → hp' q = hp q) ∧ al = al'
set_option maxHeartbeats 4000000 in
set_option maxRecDepth 100000 in
theorem c_X8_appendWord_L3 {E : KE} {p : Program} {l : Launch} {e : Env} {s : State} {m : MethodId} {args : Array Value} {below : List Frame} {meth : Method} {c : Code} {al : Option Nat} {N : Nat} {b : Nat}  {hp0 : Hp} {out : Int32 × (Nat → Int32)}  (X : CX E p l s m args meth c "DiceAudit$Text" cX8_appendWord 3) (hr : meth.sig.returnType = (Option.none : Option Jvm.ClassFile.FieldType))   : ∀ (j : Nat), ∀ {l1 : Int32} {l2 : Int32} {tl : Int32} {tb : Nat → Int32} {hp : Hp}, hp b = some (.inr (10, [.ref (b + 1), .int tl])) → hp (b + 1) = some (.inl (kC E 0, 900, .inl tb)) → (∀ q, q ≠ b → q ≠ (b + 1) → hp q = hp0 q) → f_X8_appendWord_L3 N j l1 l2 tl tb = some out → AW E p l e ⟨2, 0, 0, 43⟩ s m args below meth c 3 (MQ below (kQc E (P_X8_appendWord E b hp0 al out)) args s 0 0 (kA E)) hp al 0 0 3 [(0, .ref b), (1, .int l1), (2, .int l2)] [] := by
  intro j
  induction j with
  | zero =>
    intro l1 l2 tl tb hp g0 g1 hfr h
    have h : (none : Option (Int32 × (Nat → Int32))) = some out := h
    cases h
  | succ j i3 =>
    intro l1 l2 tl tb hp g0 g1 hfr h
    have h : f_X8_appendWord_L3_F N (f_X8_appendWord_L3 N j) l1 l2 tl tb = some out := h
    unfold f_X8_appendWord_L3_F at h
    refine A_iload_n X dX8_appendWord_3 2 rfl ?_
    refine A_if_lt (tgt := 24) X dX8_appendWord_4 h (by decide) (fun hc h => ?_) (fun hc h => ?_)
    · cases h
      exact A_vret X dX8_appendWord_24 hr ⟨rfl, g0, g1, (fun q z0 z1 => (hfr q z0 z1)), rfl⟩ (Nat.le_of_ble_eq_true rfl) (Nat.le_of_ble_eq_true rfl)
    · refine A_aload_n X dX8_appendWord_7 0 rfl ?_
      refine A_iload_n X dX8_appendWord_8 1 rfl ?_
      refine A_iload_n X dX8_appendWord_9 2 rfl ?_
      refine A_ishr X dX8_appendWord_10 ?_
      refine A_sipush (v := 255) X dX8_appendWord_11 (by decide) ?_
      refine A_iand X dX8_appendWord_14 ?_
      obtain ⟨t1, hct1, h⟩ := bind_o h
      refine A_c (k' := 0) (n' := 0) rfl rfl (A_runV (rest := []) X dX8_appendWord_15 (c_X8_append g0 g1  hct1) kY_X8_append kw_312 g0 rfl rfl ⟨(Nat.le_of_ble_eq_true rfl), (Nat.le_of_ble_eq_true rfl), (Nat.le_of_ble_eq_true rfl), (Nat.le_of_ble_eq_true rfl)⟩ rfl (Nat.le_of_ble_eq_true rfl)) (fun v9 hp1 al9 hP => ?_)
      obtain ⟨rfl, k1_0, k1_1, n1, rfl⟩ := hP
      replace k1_0 : hp1 b = some (.inr (10, [.ref (b + 1), .int t1.1])) := k1_0
      replace k1_1 : hp1 (b + 1) = some (.inl (kC E 0, 900, .inl t1.2)) := k1_1
      refine A_st (st' := []) rfl ?_
      refine A_iinc (j := 2) (v := (l2 + (-8))) (L' := [(2, .int (l2 + (-8))), (0, .ref b), (1, .int l1)]) X dX8_appendWord_18 rfl rfl (by decide) rfl ?_
      refine A_goto (tgt := 3) X dX8_appendWord_21 (by decide) ?_
      refine A_sub (L' := [(0, .ref b), (1, .int l1), (2, .int (l2 + (-8)))]) [1, 2, 0] rfl ?_
      exact i3 k1_0 k1_1 (fun q z0 z1 => ((n1 q z0 z1).trans (hfr q z0 z1))) h
set_option maxHeartbeats 4000000 in
set_option maxRecDepth 100000 in
theorem c_X8_appendWord {E : KE} {l : Launch} {hp : Hp} {al : Option Nat} {N : Nat} {b : Nat} {tl : Int32} {tb : Nat → Int32} {a0 : Int32} {out : Int32 × (Nat → Int32)} (g0 : hp b = some (.inr (10, [.ref (b + 1), .int tl]))) (g1 : hp (b + 1) = some (.inl (kC E 0, 900, .inl tb)))  (h : f_X8_appendWord N tl tb a0 = some out) : AM E l yX8_appendWord cX8_appendWord 3 (Option.none : Option Jvm.ClassFile.FieldType) ⟨2, 0, 0, 43⟩ [.ref b, .int a0] hp al (P_X8_appendWord E b hp al out) := by
  refine A_of (by decide +kernel) (Nat.le_of_ble_eq_true rfl) ?_
  intro p e s m args below meth c X hr hnm
  have X : CX E p l s m args meth c "DiceAudit$Text" cX8_appendWord 3 := X
  refine A_L (L' := [(0, .ref b), (1, .int a0)]) rfl ?_
  unfold f_X8_appendWord at h
  refine A_bipush (v := 24) X dX8_appendWord_0 (by decide) ?_
  refine A_istore_n (L' := [(2, .int 24), (0, .ref b), (1, .int a0)]) X dX8_appendWord_2 rfl (by decide) rfl ?_
  refine A_sub (L' := [(0, .ref b), (1, .int a0), (2, .int 24)]) [1, 2, 0] rfl ?_
  exact c_X8_appendWord_L3 X hr  N g0 g1 (fun q z0 z1 => rfl) h
abbrev P_X8_appendString (E : KE) (b : Nat)  (hp : Hp) (al : Option Nat) (out : Int32 × (Nat → Int32)) : Option Value → Hp → Option Nat → Prop := fun v0 hp' al' => v0 = none ∧ hp' b = some (.inr (10, [.ref (b + 1), .int out.1])) ∧ hp' (b + 1) = some (.inl (kC E 0, 900, .inl out.2)) ∧ (∀ q, q ≠ b → q ≠ (b + 1) → hp' q = hp q) ∧ al = al'
set_option maxHeartbeats 4000000 in
set_option maxRecDepth 100000 in
theorem c_X8_appendString_L2 {E : KE} {p : Program} {l : Launch} {e : Env} {s : State} {m : MethodId} {args : Array Value} {below : List Frame} {meth : Method} {c : Code} {al : Option Nat} {N : Nat} {b : Nat}  {sj : Nat} {hp0 : Hp} {out : Int32 × (Nat → Int32)}  (X : CX E p l s m args meth c "DiceAudit$Text" cX8_appendString 3) (hr : meth.sig.returnType = (Option.none : Option Jvm.ClassFile.FieldType)) (hsj : sj < 10)  : ∀ (j : Nat), ∀ {l2 : Int32} {tl : Int32} {tb : Nat → Int32} {hp : Hp}, hp b = some (.inr (10, [.ref (b + 1), .int tl])) → hp (b + 1) = some (.inl (kC E 0, 900, .inl tb)) → (∀ q, q ≠ b → q ≠ (b + 1) → hp q = hp0 q) → f_X8_appendString_L2 N sj j l2 tl tb = some out → AW E p l e ⟨4, 0, 0, 85⟩ s m args below meth c 3 (MQ below (kQc E (P_X8_appendString E b hp0 al out)) args s 0 0 (kA E)) hp al 0 0 2 [(0, .ref b), (1, .ref (kS E sj)), (2, .int l2)] [] := by
  intro j
  induction j with
  | zero =>
    intro l2 tl tb hp g0 g1 hfr h
    have h : (none : Option (Int32 × (Nat → Int32))) = some out := h
    cases h
  | succ j i2 =>
    intro l2 tl tb hp g0 g1 hfr h
    have h : f_X8_appendString_L2_F N sj (f_X8_appendString_L2 N sj j) l2 tl tb = some out := h
    unfold f_X8_appendString_L2_F at h
    refine A_iload_n X dX8_appendString_2 2 rfl ?_
    refine A_aload_n X dX8_appendString_3 1 rfl ?_
    refine A_slen X dX8_appendString_4 kw_264 hsj (Nat.le_of_ble_eq_true rfl) (Nat.le_of_ble_eq_true rfl) (Nat.le_of_ble_eq_true rfl) (Nat.le_of_ble_eq_true rfl) (Nat.le_of_ble_eq_true rfl) ?_
    refine A_icmp_ge (tgt := 25) X dX8_appendString_7 h (by decide) (fun hc h => ?_) (fun hc h => ?_)
    · cases h
      exact A_vret X dX8_appendString_25 hr ⟨rfl, g0, g1, (fun q z0 z1 => (hfr q z0 z1)), rfl⟩ (Nat.le_of_ble_eq_true rfl) (Nat.le_of_ble_eq_true rfl)
    · refine A_aload_n X dX8_appendString_10 0 rfl ?_
      refine A_aload_n X dX8_appendString_11 1 rfl ?_
      refine A_iload_n X dX8_appendString_12 2 rfl ?_
      obtain ⟨hq, h⟩ := gd_o h
      refine A_schar X dX8_appendString_13 kw_274 hsj hq (Nat.le_of_ble_eq_true rfl) (Nat.le_of_ble_eq_true rfl) (Nat.le_of_ble_eq_true rfl) (Nat.le_of_ble_eq_true rfl) (Nat.le_of_ble_eq_true rfl) ?_
      obtain ⟨t1, hct1, h⟩ := bind_o h
      refine A_c (k' := 0) (n' := 0) rfl rfl (A_runV (rest := []) X dX8_appendString_16 (c_X8_append g0 g1  hct1) kY_X8_append kw_312 g0 rfl rfl ⟨(Nat.le_of_ble_eq_true rfl), (Nat.le_of_ble_eq_true rfl), (Nat.le_of_ble_eq_true rfl), (Nat.le_of_ble_eq_true rfl)⟩ rfl (Nat.le_of_ble_eq_true rfl)) (fun v9 hp1 al9 hP => ?_)
      obtain ⟨rfl, k1_0, k1_1, n1, rfl⟩ := hP
      replace k1_0 : hp1 b = some (.inr (10, [.ref (b + 1), .int t1.1])) := k1_0
      replace k1_1 : hp1 (b + 1) = some (.inl (kC E 0, 900, .inl t1.2)) := k1_1
      refine A_st (st' := []) rfl ?_
      refine A_iinc (j := 2) (v := (l2 + 1)) (L' := [(2, .int (l2 + 1)), (0, .ref b), (1, .ref (kS E sj))]) X dX8_appendString_19 rfl rfl (by decide) rfl ?_
      refine A_goto (tgt := 2) X dX8_appendString_22 (by decide) ?_
      refine A_sub (L' := [(0, .ref b), (1, .ref (kS E sj)), (2, .int (l2 + 1))]) [1, 2, 0] rfl ?_
      exact i2 k1_0 k1_1 (fun q z0 z1 => ((n1 q z0 z1).trans (hfr q z0 z1))) h
set_option maxHeartbeats 4000000 in
set_option maxRecDepth 100000 in
theorem c_X8_appendString {E : KE} {l : Launch} {hp : Hp} {al : Option Nat} {N : Nat} {b : Nat} {tl : Int32} {tb : Nat → Int32} {sj : Nat} {out : Int32 × (Nat → Int32)} (g0 : hp b = some (.inr (10, [.ref (b + 1), .int tl]))) (g1 : hp (b + 1) = some (.inl (kC E 0, 900, .inl tb))) (hsj : sj < 10) (h : f_X8_appendString N sj tl tb = some out) : AM E l yX8_appendString cX8_appendString 3 (Option.none : Option Jvm.ClassFile.FieldType) ⟨4, 0, 0, 85⟩ [.ref b, .ref (kS E sj)] hp al (P_X8_appendString E b hp al out) := by
  refine A_of (by decide +kernel) (Nat.le_of_ble_eq_true rfl) ?_
  intro p e s m args below meth c X hr hnm
  have X : CX E p l s m args meth c "DiceAudit$Text" cX8_appendString 3 := X
  refine A_L (L' := [(0, .ref b), (1, .ref (kS E sj))]) rfl ?_
  unfold f_X8_appendString at h
  refine A_iconst (v := 0) X dX8_appendString_0 (by decide) ?_
  refine A_istore_n (L' := [(2, .int 0), (0, .ref b), (1, .ref (kS E sj))]) X dX8_appendString_1 rfl (by decide) rfl ?_
  refine A_sub (L' := [(0, .ref b), (1, .ref (kS E sj)), (2, .int 0)]) [1, 2, 0] rfl ?_
  exact c_X8_appendString_L2 X hr hsj N g0 g1 (fun q z0 z1 => rfl) h
abbrev P_X8_cutTo (E : KE) (b : Nat)  (hp : Hp) (al : Option Nat) (out : Int32) : Option Value → Hp → Option Nat → Prop := fun v0 hp' al' => v0 = none ∧ hp' b = some (.inr (10, [.ref (b + 1), .int out])) ∧ (∀ q, q ≠ b → hp' q = hp q) ∧ al = al'
set_option maxHeartbeats 4000000 in
set_option maxRecDepth 100000 in
theorem c_X8_cutTo {E : KE} {l : Launch} {hp : Hp} {al : Option Nat} {b : Nat} {tl : Int32} {a0 : Int32} {out : Int32} (g0 : hp b = some (.inr (10, [.ref (b + 1), .int tl])))  (h : f_X8_cutTo tl a0 = some out) : AM E l yX8_cutTo cX8_cutTo 2 (Option.none : Option Jvm.ClassFile.FieldType) ⟨0, 0, 0, 0⟩ [.ref b, .int a0] hp al (P_X8_cutTo E b hp al out) := by
  refine A_of (by decide +kernel) (Nat.le_of_ble_eq_true rfl) ?_
  intro p e s m args below meth c X hr hnm
  have X : CX E p l s m args meth c "DiceAudit$Text" cX8_cutTo 2 := X
  refine A_L (L' := [(0, .ref b), (1, .int a0)]) rfl ?_
  unfold f_X8_cutTo at h
  refine A_aload_n X dX8_cutTo_0 0 rfl ?_
  refine A_iload_n X dX8_cutTo_1 1 rfl ?_
  refine A_put X dX8_cutTo_2 kcl_X8 1 (by decide) kw_46 g0 rfl rfl rfl (by simp) (fun hp1 (k1 : hp1 b = some (.inr (10, [.ref (b + 1), .int a0]))) n1 => ?_)
  cases h
  exact A_vret X dX8_cutTo_5 hr ⟨rfl, k1, (fun q z0 => (n1 q z0)), rfl⟩ (Nat.le_of_ble_eq_true rfl) (Nat.le_of_ble_eq_true rfl)
