abbrev P_X1_init (E : KE) (b : Nat)  (hp : Hp) : Option Value → Hp → Option Nat → Prop := fun v0 hp' al' => v0 = none ∧ hp' b = some (.inr (3, [.ref (b + 1), .int 0, .int 0])) ∧ hp' (b + 1) = some (.inl (kC E 0, 12, .inl (fun _ => 0))) ∧ (∀ q, (q < b ∨ (b + 2) ≤ q) → hp' q = hp q) ∧ some (b + 2) = al'
set_option maxHeartbeats 8000000 in
set_option maxRecDepth 100000 in
theorem c_X1_init {E : KE} {l : Launch} {hp : Hp} {b : Nat} (g0 : hp b = some (.inr (3, [.null, .int 0, .int 0])))  : AM E l yX1_init cX1_init 1 (Option.none : Option Jvm.ClassFile.FieldType) ⟨1, 1, 12, 12⟩ [.ref b] hp (some (b + 1)) (P_X1_init E b  hp) := by
  refine A_of (by decide +kernel) (Nat.le_of_ble_eq_true rfl) ?_
  intro p e s m args below meth c X hr hnm
  have X : CX E p l s m args meth c "DiceAudit$Forecast" cX1_init 1 := X
  refine A_L (L' := [(0, .ref b)]) rfl ?_
  refine A_aload_n X dX1_init_0 0 rfl ?_
  refine A_objI (i0 := 0) (i1 := 0) X dX1_init_1 kw_177 kw_37 kw_38 (Nat.le_of_ble_eq_true rfl) (Nat.le_of_ble_eq_true rfl) ?_
  refine A_aload_n X dX1_init_4 0 rfl ?_
  refine A_bipush (v := 12) X dX1_init_5 (by decide) ?_
  refine A_newi (z := (b + 1)) (N := 12) X dX1_init_7 kw_54 (by decide) (by decide) (Nat.le_of_ble_eq_true rfl) (Nat.le_of_ble_eq_true rfl) (Nat.le_of_ble_eq_true rfl) (fun hp1 (k1 : hp1 (b + 1) = some (.inl (kC E 0, 12, .inl (fun _ => 0)))) n1 => ?_)
  refine A_putF X dX1_init_9 kcl_X1 0 (by decide) kw_178 ((n1 _ (by omega)).trans g0) rfl (hnm.trans rfl) rfl rfl rfl (by simp) (fun hp2 (k2 : hp2 b = some (.inr (3, [.ref (b + 1), .int 0, .int 0]))) n2 => ?_)
  refine A_aload_n X dX1_init_12 0 rfl ?_
  refine A_iconst (v := 0) X dX1_init_13 (by decide) ?_
  refine A_put X dX1_init_14 kcl_X1 1 (by decide) kw_179 k2 rfl rfl rfl (by simp) (fun hp3 (k3 : hp3 b = some (.inr (3, [.ref (b + 1), .int 0, .int 0]))) n3 => ?_)
  refine A_aload_n X dX1_init_17 0 rfl ?_
  refine A_iconst (v := 0) X dX1_init_18 (by decide) ?_
  refine A_put X dX1_init_19 kcl_X1 2 (by decide) kw_180 k3 rfl rfl rfl (by simp) (fun hp4 (k4 : hp4 b = some (.inr (3, [.ref (b + 1), .int 0, .int 0]))) n4 => ?_)
  exact A_vret X dX1_init_22 hr ⟨rfl, k4, ((n4 _ (by omega)).trans ((n3 _ (by omega)).trans ((n2 _ (by omega)).trans k1))), (fun q z => ((n4 q (by omega)).trans ((n3 q (by omega)).trans ((n2 q (by omega)).trans (n1 q (by omega)))))), rfl⟩ (Nat.le_of_ble_eq_true rfl) (Nat.le_of_ble_eq_true rfl)
abbrev P_X2_init (E : KE) (b : Nat)  (hp : Hp) : Option Value → Hp → Option Nat → Prop := fun v0 hp' al' => v0 = none ∧ hp' b = some (.inr (4, [.ref (b + 1), .ref (b + 4), .ref (b + 7), .ref (b + 10), .int 0, .int 1, .int 0])) ∧ hp' (b + 1) = some (.inr (2, [.ref (b + 2), .ref (b + 3), .int 0])) ∧ hp' (b + 2) = some (.inl (kC E 0, 6, .inl (fun _ => 0))) ∧ hp' (b + 3) = some (.inl (kC E 0, 72, .inl (fun _ => 0))) ∧ hp' (b + 4) = some (.inr (9, [.ref (b + 5), .ref (b + 6), .int 0])) ∧ hp' (b + 5) = some (.inl (kC E 0, 6, .inl (fun _ => 0))) ∧ hp' (b + 6) = some (.inl (kC E 0, 24, .inl (fun _ => 0))) ∧ hp' (b + 7) = some (.inr (6, [.ref (b + 8), .ref (b + 9), .int 0])) ∧ hp' (b + 8) = some (.inl (kC E 0, 300, .inl (fun _ => 0))) ∧ hp' (b + 9) = some (.inl (kC E 0, 432, .inl (fun _ => 0))) ∧ hp' (b + 10) = some (.inr (8, [.ref (b + 11), .ref (b + 12), .int 0])) ∧ hp' (b + 11) = some (.inl (kC E 0, 36, .inl (fun _ => 0))) ∧ hp' (b + 12) = some (.inl (kC E 0, 36, .inl (fun _ => 0))) ∧ (∀ q, (q < b ∨ (b + 13) ≤ q) → hp' q = hp q) ∧ some (b + 13) = al'
set_option maxHeartbeats 8000000 in
set_option maxRecDepth 100000 in
theorem c_X2_init {E : KE} {l : Launch} {hp : Hp} {b : Nat} (g0 : hp b = some (.inr (4, [.null, .null, .null, .null, .int 0, .int 0, .int 0])))  : AM E l yX2_init cX2_init 1 (Option.none : Option Jvm.ClassFile.FieldType) ⟨2, 12, 924, 32⟩ [.ref b] hp (some (b + 1)) (P_X2_init E b  hp) := by
  refine A_of (by decide +kernel) (Nat.le_of_ble_eq_true rfl) ?_
  intro p e s m args below meth c X hr hnm
  have X : CX E p l s m args meth c "DiceAudit$Hall" cX2_init 1 := X
  refine A_L (L' := [(0, .ref b)]) rfl ?_
  refine A_aload_n X dX2_init_0 0 rfl ?_
  refine A_objI (i0 := 0) (i1 := 0) X dX2_init_1 kw_60 kw_37 kw_38 (Nat.le_of_ble_eq_true rfl) (Nat.le_of_ble_eq_true rfl) ?_
  refine A_aload_n X dX2_init_4 0 rfl ?_
  refine A_new (z := (b + 1)) (fs := [.null, .null, .int 0]) X dX2_init_5 kcl_X0 kw_61 kw_62 kw_4 (fun j hj => by match j, hj with | 0, _ => rfl | 1, _ => rfl | 2, _ => rfl | j + 3, hj => exact absurd hj (by omega)) (Nat.le_of_ble_eq_true rfl) (Nat.le_of_ble_eq_true rfl) (fun hp1 (k1 : hp1 (b + 1) = some (.inr (2, [.null, .null, .int 0]))) n1 => ?_)
  refine A_dup X dX2_init_8 rfl ?_
  refine A_c (k' := 3) (n' := 81) rfl rfl (A_runIN (rest := [.ref (b + 1), .ref b]) X dX2_init_9 (c_X0_init (b := (b + 1)) k1) kY_X0_init kw_63 ⟨(Nat.le_of_ble_eq_true rfl), (Nat.le_of_ble_eq_true rfl), (Nat.le_of_ble_eq_true rfl), (Nat.le_of_ble_eq_true rfl)⟩ rfl (Nat.le_of_ble_eq_true rfl)) (fun v9 hp2 al9 hP => ?_)
  obtain ⟨rfl, k2_0, k2_1, k2_2, n2, rfl⟩ := hP
  replace k2_0 : hp2 (b + 1) = some (.inr (2, [.ref (b + 2), .ref (b + 3), .int 0])) := k2_0
  replace k2_1 : hp2 (b + 2) = some (.inl (kC E 0, 6, .inl (fun _ => 0))) := k2_1
  replace k2_2 : hp2 (b + 3) = some (.inl (kC E 0, 72, .inl (fun _ => 0))) := k2_2
  refine A_st (st' := [.ref (b + 1), .ref b]) rfl ?_
  refine A_putF X dX2_init_12 kcl_X2 0 (by decide) kw_139 ((n2 _ (by omega)).trans ((n1 _ (by omega)).trans g0)) rfl (hnm.trans rfl) rfl rfl rfl (by simp) (fun hp3 (k3 : hp3 b = some (.inr (4, [.ref (b + 1), .null, .null, .null, .int 0, .int 0, .int 0]))) n3 => ?_)
  refine A_aload_n X dX2_init_15 0 rfl ?_
  refine A_new (z := (b + 4)) (fs := [.null, .null, .int 0]) X dX2_init_16 kcl_X7 kw_79 kw_80 kw_5 (fun j hj => by match j, hj with | 0, _ => rfl | 1, _ => rfl | 2, _ => rfl | j + 3, hj => exact absurd hj (by omega)) (Nat.le_of_ble_eq_true rfl) (Nat.le_of_ble_eq_true rfl) (fun hp4 (k4 : hp4 (b + 4) = some (.inr (9, [.null, .null, .int 0]))) n4 => ?_)
  refine A_dup X dX2_init_19 rfl ?_
  refine A_c (k' := 6) (n' := 114) rfl rfl (A_runIN (rest := [.ref (b + 4), .ref b]) X dX2_init_20 (c_X7_init (b := (b + 4)) k4) kY_X7_init kw_81 ⟨(Nat.le_of_ble_eq_true rfl), (Nat.le_of_ble_eq_true rfl), (Nat.le_of_ble_eq_true rfl), (Nat.le_of_ble_eq_true rfl)⟩ rfl (Nat.le_of_ble_eq_true rfl)) (fun v9 hp5 al9 hP => ?_)
  obtain ⟨rfl, k5_0, k5_1, k5_2, n5, rfl⟩ := hP
  replace k5_0 : hp5 (b + 4) = some (.inr (9, [.ref (b + 5), .ref (b + 6), .int 0])) := k5_0
  replace k5_1 : hp5 (b + 5) = some (.inl (kC E 0, 6, .inl (fun _ => 0))) := k5_1
  replace k5_2 : hp5 (b + 6) = some (.inl (kC E 0, 24, .inl (fun _ => 0))) := k5_2
  refine A_st (st' := [.ref (b + 4), .ref b]) rfl ?_
  refine A_putF X dX2_init_23 kcl_X2 1 (by decide) kw_142 ((n5 _ (by omega)).trans ((n4 _ (by omega)).trans k3)) rfl (hnm.trans rfl) rfl rfl rfl (by simp) (fun hp6 (k6 : hp6 b = some (.inr (4, [.ref (b + 1), .ref (b + 4), .null, .null, .int 0, .int 0, .int 0]))) n6 => ?_)
  refine A_aload_n X dX2_init_26 0 rfl ?_
  refine A_new (z := (b + 7)) (fs := [.null, .null, .int 0]) X dX2_init_27 kcl_X4 kw_97 kw_98 kw_6 (fun j hj => by match j, hj with | 0, _ => rfl | 1, _ => rfl | 2, _ => rfl | j + 3, hj => exact absurd hj (by omega)) (Nat.le_of_ble_eq_true rfl) (Nat.le_of_ble_eq_true rfl) (fun hp7 (k7 : hp7 (b + 7) = some (.inr (6, [.null, .null, .int 0]))) n7 => ?_)
  refine A_dup X dX2_init_30 rfl ?_
  refine A_c (k' := 9) (n' := 849) rfl rfl (A_runIN (rest := [.ref (b + 7), .ref b]) X dX2_init_31 (c_X4_init (b := (b + 7)) k7) kY_X4_init kw_99 ⟨(Nat.le_of_ble_eq_true rfl), (Nat.le_of_ble_eq_true rfl), (Nat.le_of_ble_eq_true rfl), (Nat.le_of_ble_eq_true rfl)⟩ rfl (Nat.le_of_ble_eq_true rfl)) (fun v9 hp8 al9 hP => ?_)
  obtain ⟨rfl, k8_0, k8_1, k8_2, n8, rfl⟩ := hP
  replace k8_0 : hp8 (b + 7) = some (.inr (6, [.ref (b + 8), .ref (b + 9), .int 0])) := k8_0
  replace k8_1 : hp8 (b + 8) = some (.inl (kC E 0, 300, .inl (fun _ => 0))) := k8_1
  replace k8_2 : hp8 (b + 9) = some (.inl (kC E 0, 432, .inl (fun _ => 0))) := k8_2
  refine A_st (st' := [.ref (b + 7), .ref b]) rfl ?_
  refine A_putF X dX2_init_34 kcl_X2 2 (by decide) kw_145 ((n8 _ (by omega)).trans ((n7 _ (by omega)).trans k6)) rfl (hnm.trans rfl) rfl rfl rfl (by simp) (fun hp9 (k9 : hp9 b = some (.inr (4, [.ref (b + 1), .ref (b + 4), .ref (b + 7), .null, .int 0, .int 0, .int 0]))) n9 => ?_)
  refine A_aload_n X dX2_init_37 0 rfl ?_
  refine A_new (z := (b + 10)) (fs := [.null, .null, .int 0]) X dX2_init_38 kcl_X6 kw_116 kw_117 kw_7 (fun j hj => by match j, hj with | 0, _ => rfl | 1, _ => rfl | 2, _ => rfl | j + 3, hj => exact absurd hj (by omega)) (Nat.le_of_ble_eq_true rfl) (Nat.le_of_ble_eq_true rfl) (fun hp10 (k10 : hp10 (b + 10) = some (.inr (8, [.null, .null, .int 0]))) n10 => ?_)
  refine A_dup X dX2_init_41 rfl ?_
  refine A_c (k' := 12) (n' := 924) rfl rfl (A_runIN (rest := [.ref (b + 10), .ref b]) X dX2_init_42 (c_X6_init (b := (b + 10)) k10) kY_X6_init kw_118 ⟨(Nat.le_of_ble_eq_true rfl), (Nat.le_of_ble_eq_true rfl), (Nat.le_of_ble_eq_true rfl), (Nat.le_of_ble_eq_true rfl)⟩ rfl (Nat.le_of_ble_eq_true rfl)) (fun v9 hp11 al9 hP => ?_)
  obtain ⟨rfl, k11_0, k11_1, k11_2, n11, rfl⟩ := hP
  replace k11_0 : hp11 (b + 10) = some (.inr (8, [.ref (b + 11), .ref (b + 12), .int 0])) := k11_0
  replace k11_1 : hp11 (b + 11) = some (.inl (kC E 0, 36, .inl (fun _ => 0))) := k11_1
  replace k11_2 : hp11 (b + 12) = some (.inl (kC E 0, 36, .inl (fun _ => 0))) := k11_2
  refine A_st (st' := [.ref (b + 10), .ref b]) rfl ?_
  refine A_putF X dX2_init_45 kcl_X2 3 (by decide) kw_148 ((n11 _ (by omega)).trans ((n10 _ (by omega)).trans k9)) rfl (hnm.trans rfl) rfl rfl rfl (by simp) (fun hp12 (k12 : hp12 b = some (.inr (4, [.ref (b + 1), .ref (b + 4), .ref (b + 7), .ref (b + 10), .int 0, .int 0, .int 0]))) n12 => ?_)
  refine A_aload_n X dX2_init_48 0 rfl ?_
  refine A_iconst (v := 0) X dX2_init_49 (by decide) ?_
  refine A_put X dX2_init_50 kcl_X2 4 (by decide) kw_151 k12 rfl rfl rfl (by simp) (fun hp13 (k13 : hp13 b = some (.inr (4, [.ref (b + 1), .ref (b + 4), .ref (b + 7), .ref (b + 10), .int 0, .int 0, .int 0]))) n13 => ?_)
  refine A_aload_n X dX2_init_53 0 rfl ?_
  refine A_iconst (v := 1) X dX2_init_54 (by decide) ?_
  refine A_put X dX2_init_55 kcl_X2 5 (by decide) kw_153 k13 rfl rfl rfl (by simp) (fun hp14 (k14 : hp14 b = some (.inr (4, [.ref (b + 1), .ref (b + 4), .ref (b + 7), .ref (b + 10), .int 0, .int 1, .int 0]))) n14 => ?_)
  refine A_aload_n X dX2_init_58 0 rfl ?_
  refine A_iconst (v := 0) X dX2_init_59 (by decide) ?_
  refine A_put X dX2_init_60 kcl_X2 6 (by decide) kw_155 k14 rfl rfl rfl (by simp) (fun hp15 (k15 : hp15 b = some (.inr (4, [.ref (b + 1), .ref (b + 4), .ref (b + 7), .ref (b + 10), .int 0, .int 1, .int 0]))) n15 => ?_)
  exact A_vret X dX2_init_63 hr ⟨rfl, k15, ((n15 _ (by omega)).trans ((n14 _ (by omega)).trans ((n13 _ (by omega)).trans ((n12 _ (by omega)).trans ((n11 _ (by omega)).trans ((n10 _ (by omega)).trans ((n9 _ (by omega)).trans ((n8 _ (by omega)).trans ((n7 _ (by omega)).trans ((n6 _ (by omega)).trans ((n5 _ (by omega)).trans ((n4 _ (by omega)).trans ((n3 _ (by omega)).trans k2_0))))))))))))), ((n15 _ (by omega)).trans ((n14 _ (by omega)).trans ((n13 _ (by omega)).trans ((n12 _ (by omega)).trans ((n11 _ (by omega)).trans ((n10 _ (by omega)).trans ((n9 _ (by omega)).trans ((n8 _ (by omega)).trans ((n7 _ (by omega)).trans ((n6 _ (by omega)).trans ((n5 _ (by omega)).trans ((n4 _ (by omega)).trans ((n3 _ (by omega)).trans k2_1))))))))))))), ((n15 _ (by omega)).trans ((n14 _ (by omega)).trans ((n13 _ (by omega)).trans ((n12 _ (by omega)).trans ((n11 _ (by omega)).trans ((n10 _ (by omega)).trans ((n9 _ (by omega)).trans ((n8 _ (by omega)).trans ((n7 _ (by omega)).trans ((n6 _ (by omega)).trans ((n5 _ (by omega)).trans ((n4 _ (by omega)).trans ((n3 _ (by omega)).trans k2_2))))))))))))), ((n15 _ (by omega)).trans ((n14 _ (by omega)).trans ((n13 _ (by omega)).trans ((n12 _ (by omega)).trans ((n11 _ (by omega)).trans ((n10 _ (by omega)).trans ((n9 _ (by omega)).trans ((n8 _ (by omega)).trans ((n7 _ (by omega)).trans ((n6 _ (by omega)).trans k5_0)))))))))), ((n15 _ (by omega)).trans ((n14 _ (by omega)).trans ((n13 _ (by omega)).trans ((n12 _ (by omega)).trans ((n11 _ (by omega)).trans ((n10 _ (by omega)).trans ((n9 _ (by omega)).trans ((n8 _ (by omega)).trans ((n7 _ (by omega)).trans ((n6 _ (by omega)).trans k5_1)))))))))), ((n15 _ (by omega)).trans ((n14 _ (by omega)).trans ((n13 _ (by omega)).trans ((n12 _ (by omega)).trans ((n11 _ (by omega)).trans ((n10 _ (by omega)).trans ((n9 _ (by omega)).trans ((n8 _ (by omega)).trans ((n7 _ (by omega)).trans ((n6 _ (by omega)).trans k5_2)))))))))), ((n15 _ (by omega)).trans ((n14 _ (by omega)).trans ((n13 _ (by omega)).trans ((n12 _ (by omega)).trans ((n11 _ (by omega)).trans ((n10 _ (by omega)).trans ((n9 _ (by omega)).trans k8_0))))))), ((n15 _ (by omega)).trans ((n14 _ (by omega)).trans ((n13 _ (by omega)).trans ((n12 _ (by omega)).trans ((n11 _ (by omega)).trans ((n10 _ (by omega)).trans ((n9 _ (by omega)).trans k8_1))))))), ((n15 _ (by omega)).trans ((n14 _ (by omega)).trans ((n13 _ (by omega)).trans ((n12 _ (by omega)).trans ((n11 _ (by omega)).trans ((n10 _ (by omega)).trans ((n9 _ (by omega)).trans k8_2))))))), ((n15 _ (by omega)).trans ((n14 _ (by omega)).trans ((n13 _ (by omega)).trans ((n12 _ (by omega)).trans k11_0)))), ((n15 _ (by omega)).trans ((n14 _ (by omega)).trans ((n13 _ (by omega)).trans ((n12 _ (by omega)).trans k11_1)))), ((n15 _ (by omega)).trans ((n14 _ (by omega)).trans ((n13 _ (by omega)).trans ((n12 _ (by omega)).trans k11_2)))), (fun q z => ((n15 q (by omega)).trans ((n14 q (by omega)).trans ((n13 q (by omega)).trans ((n12 q (by omega)).trans ((n11 q (by omega)).trans ((n10 q (by omega)).trans ((n9 q (by omega)).trans ((n8 q (by omega)).trans ((n7 q (by omega)).trans ((n6 q (by omega)).trans ((n5 q (by omega)).trans ((n4 q (by omega)).trans ((n3 q (by omega)).trans ((n2 q (by omega)).trans (n1 q (by omega))))))))))))))))), rfl⟩ (Nat.le_of_ble_eq_true rfl) (Nat.le_of_ble_eq_true rfl)
abbrev P_X2_begin (E : KE) (b : Nat)  (hp : Hp) (al : Option Nat) (out : Int32 × Int32 × Int32 × Int32 × Int32 × Int32 × (Nat → Int32) × Int32) : Option Value → Hp → Option Nat → Prop := fun v0 hp' al' => v0 = none ∧ hp' b = some (.inr (4, [.ref (b + 1), .ref (b + 4), .ref (b + 7), .ref (b + 10), .int out.1, .int out.2.1, .int out.2.2.1])) ∧ hp' (b + 1) = some (.inr (2, [.ref (b + 2), .ref (b + 3), .int out.2.2.2.1])) ∧ hp' (b + 4) = some (.inr (9, [.ref (b + 5), .ref (b + 6), .int out.2.2.2.2.1])) ∧ hp' (b + 7) = some (.inr (6, [.ref (b + 8), .ref (b + 9), .int out.2.2.2.2.2.1])) ∧ hp' (b + 9) = some (.inl (kC E 0, 432, .inl out.2.2.2.2.2.2.1)) ∧ hp' (b + 10) = some (.inr (8, [.ref (b + 11), .ref (b + 12), .int out.2.2.2.2.2.2.2])) ∧ (∀ q, q ≠ b → q ≠ (b + 1) → q ≠ (b + 4) → q ≠ (b + 7) → q ≠ (b + 9) → q ≠ (b + 10) → hp' q = hp q) ∧ al = al'
set_option maxHeartbeats 4000000 in
set_option maxRecDepth 100000 in
theorem c_X2_begin {E : KE} {l : Launch} {hp : Hp} {al : Option Nat} {N : Nat} {b : Nat} {sd : Int32} {mn : Int32} {th : Int32} {dc : Int32} {pc : Int32} {tc : Int32} {fr : Nat → Int32} {oc : Int32} {a0 : Int32} {a1 : Int32} {a2 : Int32} {out : Int32 × Int32 × Int32 × Int32 × Int32 × Int32 × (Nat → Int32) × Int32} (g0 : hp b = some (.inr (4, [.ref (b + 1), .ref (b + 4), .ref (b + 7), .ref (b + 10), .int sd, .int mn, .int th]))) (g1 : hp (b + 1) = some (.inr (2, [.ref (b + 2), .ref (b + 3), .int dc]))) (g4 : hp (b + 4) = some (.inr (9, [.ref (b + 5), .ref (b + 6), .int pc]))) (g7 : hp (b + 7) = some (.inr (6, [.ref (b + 8), .ref (b + 9), .int tc]))) (g9 : hp (b + 9) = some (.inl (kC E 0, 432, .inl fr))) (g10 : hp (b + 10) = some (.inr (8, [.ref (b + 11), .ref (b + 12), .int oc])))  (h : f_X2_begin N sd mn th dc pc tc fr oc a0 a1 a2 = some out) : AM E l yX2_begin cX2_begin 4 (Option.none : Option Jvm.ClassFile.FieldType) ⟨2, 0, 0, 43⟩ [.ref b, .int a0, .int a1, .int a2] hp al (P_X2_begin E b hp al out) := by
  refine A_of (by decide +kernel) (Nat.le_of_ble_eq_true rfl) ?_
  intro p e s m args below meth c X hr hnm
  have X : CX E p l s m args meth c "DiceAudit$Hall" cX2_begin 4 := X
  refine A_L (L' := [(0, .ref b), (1, .int a0), (2, .int a1), (3, .int a2)]) rfl ?_
  unfold f_X2_begin at h
  refine A_aload_n X dX2_begin_0 0 rfl ?_
  refine A_iload_n X dX2_begin_1 1 rfl ?_
  refine A_put X dX2_begin_2 kcl_X2 4 (by decide) kw_151 g0 rfl rfl rfl (by simp) (fun hp1 (k1 : hp1 b = some (.inr (4, [.ref (b + 1), .ref (b + 4), .ref (b + 7), .ref (b + 10), .int a0, .int mn, .int th]))) n1 => ?_)
  refine A_aload_n X dX2_begin_5 0 rfl ?_
  refine A_iload_n X dX2_begin_6 2 rfl ?_
  refine A_put X dX2_begin_7 kcl_X2 5 (by decide) kw_153 k1 rfl rfl rfl (by simp) (fun hp2 (k2 : hp2 b = some (.inr (4, [.ref (b + 1), .ref (b + 4), .ref (b + 7), .ref (b + 10), .int a0, .int a1, .int th]))) n2 => ?_)
  refine A_aload_n X dX2_begin_10 0 rfl ?_
  refine A_iload_n X dX2_begin_11 3 rfl ?_
  refine A_put X dX2_begin_12 kcl_X2 6 (by decide) kw_155 k2 rfl rfl rfl (by simp) (fun hp3 (k3 : hp3 b = some (.inr (4, [.ref (b + 1), .ref (b + 4), .ref (b + 7), .ref (b + 10), .int a0, .int a1, .int a2]))) n3 => ?_)
  refine A_aload_n X dX2_begin_15 0 rfl ?_
  refine A_get X dX2_begin_16 kcl_X2 0 (by decide) kw_139 k3 rfl ?_
  obtain ⟨t1, hct1, h⟩ := bind_o h
  refine A_c (k' := 0) (n' := 0) rfl rfl (A_runV (rest := []) X dX2_begin_19 (c_X0_clear ((n3 _ (by omega)).trans ((n2 _ (by omega)).trans ((n1 _ (by omega)).trans g1)))  hct1) kY_X0_clear kw_397 ((n3 _ (by omega)).trans ((n2 _ (by omega)).trans ((n1 _ (by omega)).trans g1))) rfl rfl ⟨(Nat.le_of_ble_eq_true rfl), (Nat.le_of_ble_eq_true rfl), (Nat.le_of_ble_eq_true rfl), (Nat.le_of_ble_eq_true rfl)⟩ rfl (Nat.le_of_ble_eq_true rfl)) (fun v9 hp4 al9 hP => ?_)
  obtain ⟨rfl, k4_0, n4, rfl⟩ := hP
  replace k4_0 : hp4 (b + 1) = some (.inr (2, [.ref (b + 2), .ref (b + 3), .int t1])) := k4_0
  refine A_st (st' := []) rfl ?_
  refine A_aload_n X dX2_begin_22 0 rfl ?_
  refine A_get X dX2_begin_23 kcl_X2 1 (by decide) kw_142 ((n4 _ (by omega)).trans k3) rfl ?_
  obtain ⟨t2, hct2, h⟩ := bind_o h
  refine A_c (k' := 0) (n' := 0) rfl rfl (A_runV (rest := []) X dX2_begin_26 (c_X7_clear ((n4 _ (by omega)).trans ((n3 _ (by omega)).trans ((n2 _ (by omega)).trans ((n1 _ (by omega)).trans g4))))  hct2) kY_X7_clear kw_401 ((n4 _ (by omega)).trans ((n3 _ (by omega)).trans ((n2 _ (by omega)).trans ((n1 _ (by omega)).trans g4)))) rfl rfl ⟨(Nat.le_of_ble_eq_true rfl), (Nat.le_of_ble_eq_true rfl), (Nat.le_of_ble_eq_true rfl), (Nat.le_of_ble_eq_true rfl)⟩ rfl (Nat.le_of_ble_eq_true rfl)) (fun v9 hp5 al9 hP => ?_)
  obtain ⟨rfl, k5_0, n5, rfl⟩ := hP
  replace k5_0 : hp5 (b + 4) = some (.inr (9, [.ref (b + 5), .ref (b + 6), .int t2])) := k5_0
  refine A_st (st' := []) rfl ?_
  refine A_aload_n X dX2_begin_29 0 rfl ?_
  refine A_get X dX2_begin_30 kcl_X2 2 (by decide) kw_145 ((n5 _ (by omega)).trans ((n4 _ (by omega)).trans k3)) rfl ?_
  obtain ⟨t3, hct3, h⟩ := bind_o h
  refine A_c (k' := 0) (n' := 0) rfl rfl (A_runV (rest := []) X dX2_begin_33 (c_X4_clear ((n5 _ (by omega)).trans ((n4 _ (by omega)).trans ((n3 _ (by omega)).trans ((n2 _ (by omega)).trans ((n1 _ (by omega)).trans g7))))) ((n5 _ (by omega)).trans ((n4 _ (by omega)).trans ((n3 _ (by omega)).trans ((n2 _ (by omega)).trans ((n1 _ (by omega)).trans g9)))))  hct3) kY_X4_clear kw_405 ((n5 _ (by omega)).trans ((n4 _ (by omega)).trans ((n3 _ (by omega)).trans ((n2 _ (by omega)).trans ((n1 _ (by omega)).trans g7))))) rfl rfl ⟨(Nat.le_of_ble_eq_true rfl), (Nat.le_of_ble_eq_true rfl), (Nat.le_of_ble_eq_true rfl), (Nat.le_of_ble_eq_true rfl)⟩ rfl (Nat.le_of_ble_eq_true rfl)) (fun v9 hp6 al9 hP => ?_)
  obtain ⟨rfl, k6_0, k6_1, n6, rfl⟩ := hP
  replace k6_0 : hp6 (b + 7) = some (.inr (6, [.ref (b + 8), .ref (b + 9), .int t3.1])) := k6_0
  replace k6_1 : hp6 (b + 9) = some (.inl (kC E 0, 432, .inl t3.2)) := k6_1
  refine A_st (st' := []) rfl ?_
  refine A_aload_n X dX2_begin_36 0 rfl ?_
  refine A_get X dX2_begin_37 kcl_X2 3 (by decide) kw_148 ((n6 _ (by omega) (by omega)).trans ((n5 _ (by omega)).trans ((n4 _ (by omega)).trans k3))) rfl ?_
  obtain ⟨t4, hct4, h⟩ := bind_o h
  refine A_c (k' := 0) (n' := 0) rfl rfl (A_runV (rest := []) X dX2_begin_40 (c_X6_clear ((n6 _ (by omega) (by omega)).trans ((n5 _ (by omega)).trans ((n4 _ (by omega)).trans ((n3 _ (by omega)).trans ((n2 _ (by omega)).trans ((n1 _ (by omega)).trans g10))))))  hct4) kY_X6_clear kw_412 ((n6 _ (by omega) (by omega)).trans ((n5 _ (by omega)).trans ((n4 _ (by omega)).trans ((n3 _ (by omega)).trans ((n2 _ (by omega)).trans ((n1 _ (by omega)).trans g10)))))) rfl rfl ⟨(Nat.le_of_ble_eq_true rfl), (Nat.le_of_ble_eq_true rfl), (Nat.le_of_ble_eq_true rfl), (Nat.le_of_ble_eq_true rfl)⟩ rfl (Nat.le_of_ble_eq_true rfl)) (fun v9 hp7 al9 hP => ?_)
  obtain ⟨rfl, k7_0, n7, rfl⟩ := hP
  replace k7_0 : hp7 (b + 10) = some (.inr (8, [.ref (b + 11), .ref (b + 12), .int t4])) := k7_0
  refine A_st (st' := []) rfl ?_
  cases h
  exact A_vret X dX2_begin_43 hr ⟨rfl, ((n7 _ (by omega)).trans ((n6 _ (by omega) (by omega)).trans ((n5 _ (by omega)).trans ((n4 _ (by omega)).trans k3)))), ((n7 _ (by omega)).trans ((n6 _ (by omega) (by omega)).trans ((n5 _ (by omega)).trans k4_0))), ((n7 _ (by omega)).trans ((n6 _ (by omega) (by omega)).trans k5_0)), ((n7 _ (by omega)).trans k6_0), ((n7 _ (by omega)).trans k6_1), k7_0, (fun q z0 z1 z2 z3 z4 z5 => ((n7 q z5).trans ((n6 q z3 z4).trans ((n5 q z2).trans ((n4 q z1).trans ((n3 q z0).trans ((n2 q z0).trans (n1 q z0)))))))), rfl⟩ (Nat.le_of_ble_eq_true rfl) (Nat.le_of_ble_eq_true rfl)
abbrev P_X2_copyFrom (E : KE) (b : Nat) (b2 : Nat)  (hp : Hp) (al : Option Nat) (out : Int32 × Int32 × Int32 × Int32 × (Nat → Int32) × (Nat → Int32) × Int32 × (Nat → Int32) × (Nat → Int32) × Int32 × (Nat → Int32) × (Nat → Int32) × Int32 × (Nat → Int32) × (Nat → Int32)) : Option Value → Hp → Option Nat → Prop := fun v0 hp' al' => v0 = none ∧ hp' b = some (.inr (4, [.ref (b + 1), .ref (b + 4), .ref (b + 7), .ref (b + 10), .int out.1, .int out.2.1, .int out.2.2.1])) ∧ hp' (b + 1) = some (.inr (2, [.ref (b + 2), .ref (b + 3), .int out.2.2.2.1])) ∧ hp' (b + 2) = some (.inl (kC E 0, 6, .inl out.2.2.2.2.1)) ∧ hp' (b + 3) = some (.inl (kC E 0, 72, .inl out.2.2.2.2.2.1)) ∧ hp' (b + 4) = some (.inr (9, [.ref (b + 5), .ref (b + 6), .int out.2.2.2.2.2.2.1])) ∧ hp' (b + 5) = some (.inl (kC E 0, 6, .inl out.2.2.2.2.2.2.2.1)) ∧ hp' (b + 6) = some (.inl (kC E 0, 24, .inl out.2.2.2.2.2.2.2.2.1)) ∧ hp' (b + 7) = some (.inr (6, [.ref (b + 8), .ref (b + 9), .int out.2.2.2.2.2.2.2.2.2.1])) ∧ hp' (b + 8) = some (.inl (kC E 0, 300, .inl out.2.2.2.2.2.2.2.2.2.2.1)) ∧ hp' (b + 9) = some (.inl (kC E 0, 432, .inl out.2.2.2.2.2.2.2.2.2.2.2.1)) ∧ hp' (b + 10) = some (.inr (8, [.ref (b + 11), .ref (b + 12), .int out.2.2.2.2.2.2.2.2.2.2.2.2.1])) ∧ hp' (b + 11) = some (.inl (kC E 0, 36, .inl out.2.2.2.2.2.2.2.2.2.2.2.2.2.1)) ∧ hp' (b + 12) = some (.inl (kC E 0, 36, .inl out.2.2.2.2.2.2.2.2.2.2.2.2.2.2)) ∧ (∀ q, q ≠ b → q ≠ (b + 1) → q ≠ (b + 2) → q ≠ (b + 3) → q ≠ (b + 4) → q ≠ (b + 5) → q ≠ (b + 6) → q ≠ (b + 7) → q ≠ (b + 8) → q ≠ (b + 9) → q ≠ (b + 10) → q ≠ (b + 11) → q ≠ (b + 12) → hp' q = hp q) ∧ al = al'
set_option maxHeartbeats 4000000 in
set_option maxRecDepth 100000 in
theorem c_X2_copyFrom {E : KE} {l : Launch} {hp : Hp} {al : Option Nat} {b : Nat} {b2 : Nat} {sd : Int32} {mn : Int32} {th : Int32} {dc : Int32} {fc : Nat → Int32} {dw : Nat → Int32} {pc : Int32} {ln : Nat → Int32} {lt : Nat → Int32} {tc : Int32} {en : Nat → Int32} {fr : Nat → Int32} {oc : Int32} {op : Nat → Int32} {os : Nat → Int32} {y_sd : Int32} {y_mn : Int32} {y_th : Int32} {y_dc : Int32} {y_fc : Nat → Int32} {y_dw : Nat → Int32} {y_pc : Int32} {y_ln : Nat → Int32} {y_lt : Nat → Int32} {y_tc : Int32} {y_en : Nat → Int32} {y_fr : Nat → Int32} {y_oc : Int32} {y_op : Nat → Int32} {y_os : Nat → Int32}  {out : Int32 × Int32 × Int32 × Int32 × (Nat → Int32) × (Nat → Int32) × Int32 × (Nat → Int32) × (Nat → Int32) × Int32 × (Nat → Int32) × (Nat → Int32) × Int32 × (Nat → Int32) × (Nat → Int32)} (g0 : hp b = some (.inr (4, [.ref (b + 1), .ref (b + 4), .ref (b + 7), .ref (b + 10), .int sd, .int mn, .int th]))) (g1 : hp (b + 1) = some (.inr (2, [.ref (b + 2), .ref (b + 3), .int dc]))) (g2 : hp (b + 2) = some (.inl (kC E 0, 6, .inl fc))) (g3 : hp (b + 3) = some (.inl (kC E 0, 72, .inl dw))) (g4 : hp (b + 4) = some (.inr (9, [.ref (b + 5), .ref (b + 6), .int pc]))) (g5 : hp (b + 5) = some (.inl (kC E 0, 6, .inl ln))) (g6 : hp (b + 6) = some (.inl (kC E 0, 24, .inl lt))) (g7 : hp (b + 7) = some (.inr (6, [.ref (b + 8), .ref (b + 9), .int tc]))) (g8 : hp (b + 8) = some (.inl (kC E 0, 300, .inl en))) (g9 : hp (b + 9) = some (.inl (kC E 0, 432, .inl fr))) (g10 : hp (b + 10) = some (.inr (8, [.ref (b + 11), .ref (b + 12), .int oc]))) (g11 : hp (b + 11) = some (.inl (kC E 0, 36, .inl op))) (g12 : hp (b + 12) = some (.inl (kC E 0, 36, .inl os))) (g13 : hp b2 = some (.inr (4, [.ref (b2 + 1), .ref (b2 + 4), .ref (b2 + 7), .ref (b2 + 10), .int y_sd, .int y_mn, .int y_th]))) (g14 : hp (b2 + 1) = some (.inr (2, [.ref (b2 + 2), .ref (b2 + 3), .int y_dc]))) (g15 : hp (b2 + 2) = some (.inl (kC E 0, 6, .inl y_fc))) (g16 : hp (b2 + 3) = some (.inl (kC E 0, 72, .inl y_dw))) (g17 : hp (b2 + 4) = some (.inr (9, [.ref (b2 + 5), .ref (b2 + 6), .int y_pc]))) (g18 : hp (b2 + 5) = some (.inl (kC E 0, 6, .inl y_ln))) (g19 : hp (b2 + 6) = some (.inl (kC E 0, 24, .inl y_lt))) (g20 : hp (b2 + 7) = some (.inr (6, [.ref (b2 + 8), .ref (b2 + 9), .int y_tc]))) (g21 : hp (b2 + 8) = some (.inl (kC E 0, 300, .inl y_en))) (g22 : hp (b2 + 9) = some (.inl (kC E 0, 432, .inl y_fr))) (g23 : hp (b2 + 10) = some (.inr (8, [.ref (b2 + 11), .ref (b2 + 12), .int y_oc]))) (g24 : hp (b2 + 11) = some (.inl (kC E 0, 36, .inl y_op))) (g25 : hp (b2 + 12) = some (.inl (kC E 0, 36, .inl y_os))) (hz0 : (b + 13) ≤ b2 ∨ (b2 + 13) ≤ b) (h : f_X2_copyFrom y_sd y_mn y_th y_dc y_fc y_dw y_pc y_ln y_lt y_tc y_en y_fr y_oc y_op y_os sd mn th dc fc dw pc ln lt tc en fr oc op os = some out) : AM E l yX2_copyFrom cX2_copyFrom 2 (Option.none : Option Jvm.ClassFile.FieldType) ⟨3, 0, 0, 60⟩ [.ref b, .ref b2] hp al (P_X2_copyFrom E b b2 hp al out) := by
  refine A_of (by decide +kernel) (Nat.le_of_ble_eq_true rfl) ?_
  intro p e s m args below meth c X hr hnm
  have X : CX E p l s m args meth c "DiceAudit$Hall" cX2_copyFrom 2 := X
  refine A_L (L' := [(0, .ref b), (1, .ref b2)]) rfl ?_
  unfold f_X2_copyFrom at h
  refine A_aload_n X dX2_copyFrom_0 0 rfl ?_
  refine A_aload_n X dX2_copyFrom_1 1 rfl ?_
  refine A_get X dX2_copyFrom_2 kcl_X2 4 (by decide) kw_151 g13 rfl ?_
  refine A_put X dX2_copyFrom_5 kcl_X2 4 (by decide) kw_151 g0 rfl rfl rfl (by simp) (fun hp1 (k1 : hp1 b = some (.inr (4, [.ref (b + 1), .ref (b + 4), .ref (b + 7), .ref (b + 10), .int y_sd, .int mn, .int th]))) n1 => ?_)
  refine A_aload_n X dX2_copyFrom_8 0 rfl ?_
  refine A_aload_n X dX2_copyFrom_9 1 rfl ?_
  refine A_get X dX2_copyFrom_10 kcl_X2 5 (by decide) kw_153 ((n1 _ (by omega)).trans g13) rfl ?_
  refine A_put X dX2_copyFrom_13 kcl_X2 5 (by decide) kw_153 k1 rfl rfl rfl (by simp) (fun hp2 (k2 : hp2 b = some (.inr (4, [.ref (b + 1), .ref (b + 4), .ref (b + 7), .ref (b + 10), .int y_sd, .int y_mn, .int th]))) n2 => ?_)
  refine A_aload_n X dX2_copyFrom_16 0 rfl ?_
  refine A_aload_n X dX2_copyFrom_17 1 rfl ?_
  refine A_get X dX2_copyFrom_18 kcl_X2 6 (by decide) kw_155 ((n2 _ (by omega)).trans ((n1 _ (by omega)).trans g13)) rfl ?_
  refine A_put X dX2_copyFrom_21 kcl_X2 6 (by decide) kw_155 k2 rfl rfl rfl (by simp) (fun hp3 (k3 : hp3 b = some (.inr (4, [.ref (b + 1), .ref (b + 4), .ref (b + 7), .ref (b + 10), .int y_sd, .int y_mn, .int y_th]))) n3 => ?_)
  refine A_aload_n X dX2_copyFrom_24 0 rfl ?_
  refine A_get X dX2_copyFrom_25 kcl_X2 0 (by decide) kw_139 k3 rfl ?_
  refine A_aload_n X dX2_copyFrom_28 1 rfl ?_
  refine A_get X dX2_copyFrom_29 kcl_X2 0 (by decide) kw_139 ((n3 _ (by omega)).trans ((n2 _ (by omega)).trans ((n1 _ (by omega)).trans g13))) rfl ?_
  obtain ⟨t1, hct1, h⟩ := bind_o h
  refine A_c (k' := 0) (n' := 0) rfl rfl (A_runV (rest := []) X dX2_copyFrom_32 (c_X0_copyFrom ((n3 _ (by omega)).trans ((n2 _ (by omega)).trans ((n1 _ (by omega)).trans g1))) ((n3 _ (by omega)).trans ((n2 _ (by omega)).trans ((n1 _ (by omega)).trans g2))) ((n3 _ (by omega)).trans ((n2 _ (by omega)).trans ((n1 _ (by omega)).trans g3))) ((n3 _ (by omega)).trans ((n2 _ (by omega)).trans ((n1 _ (by omega)).trans g14))) ((n3 _ (by omega)).trans ((n2 _ (by omega)).trans ((n1 _ (by omega)).trans g15))) ((n3 _ (by omega)).trans ((n2 _ (by omega)).trans ((n1 _ (by omega)).trans g16))) (by omega) hct1) kY_X0_copyFrom kw_621 ((n3 _ (by omega)).trans ((n2 _ (by omega)).trans ((n1 _ (by omega)).trans g1))) rfl rfl ⟨(Nat.le_of_ble_eq_true rfl), (Nat.le_of_ble_eq_true rfl), (Nat.le_of_ble_eq_true rfl), (Nat.le_of_ble_eq_true rfl)⟩ rfl (Nat.le_of_ble_eq_true rfl)) (fun v9 hp4 al9 hP => ?_)
  obtain ⟨rfl, k4_0, k4_1, k4_2, n4, rfl⟩ := hP
  replace k4_0 : hp4 (b + 1) = some (.inr (2, [.ref (b + 2), .ref (b + 3), .int t1.1])) := k4_0
  replace k4_1 : hp4 (b + 2) = some (.inl (kC E 0, 6, .inl t1.2.1)) := k4_1
  replace k4_2 : hp4 (b + 3) = some (.inl (kC E 0, 72, .inl t1.2.2)) := k4_2
  refine A_st (st' := []) rfl ?_
  refine A_aload_n X dX2_copyFrom_35 0 rfl ?_
  refine A_get X dX2_copyFrom_36 kcl_X2 1 (by decide) kw_142 ((n4 _ (by omega) (by omega) (by omega)).trans k3) rfl ?_
  refine A_aload_n X dX2_copyFrom_39 1 rfl ?_
  refine A_get X dX2_copyFrom_40 kcl_X2 1 (by decide) kw_142 ((n4 _ (by omega) (by omega) (by omega)).trans ((n3 _ (by omega)).trans ((n2 _ (by omega)).trans ((n1 _ (by omega)).trans g13)))) rfl ?_
  obtain ⟨t2, hct2, h⟩ := bind_o h
  refine A_c (k' := 0) (n' := 0) rfl rfl (A_runV (rest := []) X dX2_copyFrom_43 (c_X7_copyFrom ((n4 _ (by omega) (by omega) (by omega)).trans ((n3 _ (by omega)).trans ((n2 _ (by omega)).trans ((n1 _ (by omega)).trans g4)))) ((n4 _ (by omega) (by omega) (by omega)).trans ((n3 _ (by omega)).trans ((n2 _ (by omega)).trans ((n1 _ (by omega)).trans g5)))) ((n4 _ (by omega) (by omega) (by omega)).trans ((n3 _ (by omega)).trans ((n2 _ (by omega)).trans ((n1 _ (by omega)).trans g6)))) ((n4 _ (by omega) (by omega) (by omega)).trans ((n3 _ (by omega)).trans ((n2 _ (by omega)).trans ((n1 _ (by omega)).trans g17)))) ((n4 _ (by omega) (by omega) (by omega)).trans ((n3 _ (by omega)).trans ((n2 _ (by omega)).trans ((n1 _ (by omega)).trans g18)))) ((n4 _ (by omega) (by omega) (by omega)).trans ((n3 _ (by omega)).trans ((n2 _ (by omega)).trans ((n1 _ (by omega)).trans g19)))) (by omega) hct2) kY_X7_copyFrom kw_631 ((n4 _ (by omega) (by omega) (by omega)).trans ((n3 _ (by omega)).trans ((n2 _ (by omega)).trans ((n1 _ (by omega)).trans g4)))) rfl rfl ⟨(Nat.le_of_ble_eq_true rfl), (Nat.le_of_ble_eq_true rfl), (Nat.le_of_ble_eq_true rfl), (Nat.le_of_ble_eq_true rfl)⟩ rfl (Nat.le_of_ble_eq_true rfl)) (fun v9 hp5 al9 hP => ?_)
  obtain ⟨rfl, k5_0, k5_1, k5_2, n5, rfl⟩ := hP
  replace k5_0 : hp5 (b + 4) = some (.inr (9, [.ref (b + 5), .ref (b + 6), .int t2.1])) := k5_0
  replace k5_1 : hp5 (b + 5) = some (.inl (kC E 0, 6, .inl t2.2.1)) := k5_1
  replace k5_2 : hp5 (b + 6) = some (.inl (kC E 0, 24, .inl t2.2.2)) := k5_2
  refine A_st (st' := []) rfl ?_
  refine A_aload_n X dX2_copyFrom_46 0 rfl ?_
  refine A_get X dX2_copyFrom_47 kcl_X2 2 (by decide) kw_145 ((n5 _ (by omega) (by omega) (by omega)).trans ((n4 _ (by omega) (by omega) (by omega)).trans k3)) rfl ?_
  refine A_aload_n X dX2_copyFrom_50 1 rfl ?_
  refine A_get X dX2_copyFrom_51 kcl_X2 2 (by decide) kw_145 ((n5 _ (by omega) (by omega) (by omega)).trans ((n4 _ (by omega) (by omega) (by omega)).trans ((n3 _ (by omega)).trans ((n2 _ (by omega)).trans ((n1 _ (by omega)).trans g13))))) rfl ?_
  obtain ⟨t3, hct3, h⟩ := bind_o h
  refine A_c (k' := 0) (n' := 0) rfl rfl (A_runV (rest := []) X dX2_copyFrom_54 (c_X4_copyFrom ((n5 _ (by omega) (by omega) (by omega)).trans ((n4 _ (by omega) (by omega) (by omega)).trans ((n3 _ (by omega)).trans ((n2 _ (by omega)).trans ((n1 _ (by omega)).trans g7))))) ((n5 _ (by omega) (by omega) (by omega)).trans ((n4 _ (by omega) (by omega) (by omega)).trans ((n3 _ (by omega)).trans ((n2 _ (by omega)).trans ((n1 _ (by omega)).trans g8))))) ((n5 _ (by omega) (by omega) (by omega)).trans ((n4 _ (by omega) (by omega) (by omega)).trans ((n3 _ (by omega)).trans ((n2 _ (by omega)).trans ((n1 _ (by omega)).trans g9))))) ((n5 _ (by omega) (by omega) (by omega)).trans ((n4 _ (by omega) (by omega) (by omega)).trans ((n3 _ (by omega)).trans ((n2 _ (by omega)).trans ((n1 _ (by omega)).trans g20))))) ((n5 _ (by omega) (by omega) (by omega)).trans ((n4 _ (by omega) (by omega) (by omega)).trans ((n3 _ (by omega)).trans ((n2 _ (by omega)).trans ((n1 _ (by omega)).trans g21))))) ((n5 _ (by omega) (by omega) (by omega)).trans ((n4 _ (by omega) (by omega) (by omega)).trans ((n3 _ (by omega)).trans ((n2 _ (by omega)).trans ((n1 _ (by omega)).trans g22))))) (by omega) hct3) kY_X4_copyFrom kw_636 ((n5 _ (by omega) (by omega) (by omega)).trans ((n4 _ (by omega) (by omega) (by omega)).trans ((n3 _ (by omega)).trans ((n2 _ (by omega)).trans ((n1 _ (by omega)).trans g7))))) rfl rfl ⟨(Nat.le_of_ble_eq_true rfl), (Nat.le_of_ble_eq_true rfl), (Nat.le_of_ble_eq_true rfl), (Nat.le_of_ble_eq_true rfl)⟩ rfl (Nat.le_of_ble_eq_true rfl)) (fun v9 hp6 al9 hP => ?_)
  obtain ⟨rfl, k6_0, k6_1, k6_2, n6, rfl⟩ := hP
  replace k6_0 : hp6 (b + 7) = some (.inr (6, [.ref (b + 8), .ref (b + 9), .int t3.1])) := k6_0
  replace k6_1 : hp6 (b + 8) = some (.inl (kC E 0, 300, .inl t3.2.1)) := k6_1
  replace k6_2 : hp6 (b + 9) = some (.inl (kC E 0, 432, .inl t3.2.2)) := k6_2
  refine A_st (st' := []) rfl ?_
  refine A_aload_n X dX2_copyFrom_57 0 rfl ?_
  refine A_get X dX2_copyFrom_58 kcl_X2 3 (by decide) kw_148 ((n6 _ (by omega) (by omega) (by omega)).trans ((n5 _ (by omega) (by omega) (by omega)).trans ((n4 _ (by omega) (by omega) (by omega)).trans k3))) rfl ?_
  refine A_aload_n X dX2_copyFrom_61 1 rfl ?_
  refine A_get X dX2_copyFrom_62 kcl_X2 3 (by decide) kw_148 ((n6 _ (by omega) (by omega) (by omega)).trans ((n5 _ (by omega) (by omega) (by omega)).trans ((n4 _ (by omega) (by omega) (by omega)).trans ((n3 _ (by omega)).trans ((n2 _ (by omega)).trans ((n1 _ (by omega)).trans g13)))))) rfl ?_
  obtain ⟨t4, hct4, h⟩ := bind_o h
  refine A_c (k' := 0) (n' := 0) rfl rfl (A_runV (rest := []) X dX2_copyFrom_65 (c_X6_copyFrom ((n6 _ (by omega) (by omega) (by omega)).trans ((n5 _ (by omega) (by omega) (by omega)).trans ((n4 _ (by omega) (by omega) (by omega)).trans ((n3 _ (by omega)).trans ((n2 _ (by omega)).trans ((n1 _ (by omega)).trans g10)))))) ((n6 _ (by omega) (by omega) (by omega)).trans ((n5 _ (by omega) (by omega) (by omega)).trans ((n4 _ (by omega) (by omega) (by omega)).trans ((n3 _ (by omega)).trans ((n2 _ (by omega)).trans ((n1 _ (by omega)).trans g11)))))) ((n6 _ (by omega) (by omega) (by omega)).trans ((n5 _ (by omega) (by omega) (by omega)).trans ((n4 _ (by omega) (by omega) (by omega)).trans ((n3 _ (by omega)).trans ((n2 _ (by omega)).trans ((n1 _ (by omega)).trans g12)))))) ((n6 _ (by omega) (by omega) (by omega)).trans ((n5 _ (by omega) (by omega) (by omega)).trans ((n4 _ (by omega) (by omega) (by omega)).trans ((n3 _ (by omega)).trans ((n2 _ (by omega)).trans ((n1 _ (by omega)).trans g23)))))) ((n6 _ (by omega) (by omega) (by omega)).trans ((n5 _ (by omega) (by omega) (by omega)).trans ((n4 _ (by omega) (by omega) (by omega)).trans ((n3 _ (by omega)).trans ((n2 _ (by omega)).trans ((n1 _ (by omega)).trans g24)))))) ((n6 _ (by omega) (by omega) (by omega)).trans ((n5 _ (by omega) (by omega) (by omega)).trans ((n4 _ (by omega) (by omega) (by omega)).trans ((n3 _ (by omega)).trans ((n2 _ (by omega)).trans ((n1 _ (by omega)).trans g25)))))) (by omega) hct4) kY_X6_copyFrom kw_641 ((n6 _ (by omega) (by omega) (by omega)).trans ((n5 _ (by omega) (by omega) (by omega)).trans ((n4 _ (by omega) (by omega) (by omega)).trans ((n3 _ (by omega)).trans ((n2 _ (by omega)).trans ((n1 _ (by omega)).trans g10)))))) rfl rfl ⟨(Nat.le_of_ble_eq_true rfl), (Nat.le_of_ble_eq_true rfl), (Nat.le_of_ble_eq_true rfl), (Nat.le_of_ble_eq_true rfl)⟩ rfl (Nat.le_of_ble_eq_true rfl)) (fun v9 hp7 al9 hP => ?_)
  obtain ⟨rfl, k7_0, k7_1, k7_2, n7, rfl⟩ := hP
  replace k7_0 : hp7 (b + 10) = some (.inr (8, [.ref (b + 11), .ref (b + 12), .int t4.1])) := k7_0
  replace k7_1 : hp7 (b + 11) = some (.inl (kC E 0, 36, .inl t4.2.1)) := k7_1
  replace k7_2 : hp7 (b + 12) = some (.inl (kC E 0, 36, .inl t4.2.2)) := k7_2
  refine A_st (st' := []) rfl ?_
  cases h
  exact A_vret X dX2_copyFrom_68 hr ⟨rfl, ((n7 _ (by omega) (by omega) (by omega)).trans ((n6 _ (by omega) (by omega) (by omega)).trans ((n5 _ (by omega) (by omega) (by omega)).trans ((n4 _ (by omega) (by omega) (by omega)).trans k3)))), ((n7 _ (by omega) (by omega) (by omega)).trans ((n6 _ (by omega) (by omega) (by omega)).trans ((n5 _ (by omega) (by omega) (by omega)).trans k4_0))), ((n7 _ (by omega) (by omega) (by omega)).trans ((n6 _ (by omega) (by omega) (by omega)).trans ((n5 _ (by omega) (by omega) (by omega)).trans k4_1))), ((n7 _ (by omega) (by omega) (by omega)).trans ((n6 _ (by omega) (by omega) (by omega)).trans ((n5 _ (by omega) (by omega) (by omega)).trans k4_2))), ((n7 _ (by omega) (by omega) (by omega)).trans ((n6 _ (by omega) (by omega) (by omega)).trans k5_0)), ((n7 _ (by omega) (by omega) (by omega)).trans ((n6 _ (by omega) (by omega) (by omega)).trans k5_1)), ((n7 _ (by omega) (by omega) (by omega)).trans ((n6 _ (by omega) (by omega) (by omega)).trans k5_2)), ((n7 _ (by omega) (by omega) (by omega)).trans k6_0), ((n7 _ (by omega) (by omega) (by omega)).trans k6_1), ((n7 _ (by omega) (by omega) (by omega)).trans k6_2), k7_0, k7_1, k7_2, (fun q z0 z1 z2 z3 z4 z5 z6 z7 z8 z9 z10 z11 z12 => ((n7 q z10 z11 z12).trans ((n6 q z7 z8 z9).trans ((n5 q z4 z5 z6).trans ((n4 q z1 z2 z3).trans ((n3 q z0).trans ((n2 q z0).trans (n1 q z0)))))))), rfl⟩ (Nat.le_of_ble_eq_true rfl) (Nat.le_of_ble_eq_true rfl)
abbrev P_X2_makeThrows (E : KE) (b : Nat) (mn : Int32) (th : Int32) (hp : Hp) (al : Option Nat) (out : Int32 × Int32 × Int32 × (Nat → Int32) × (Nat → Int32)) : Option Value → Hp → Option Nat → Prop := fun v0 hp' al' => v0 = some (.int out.1) ∧ hp' b = some (.inr (4, [.ref (b + 1), .ref (b + 4), .ref (b + 7), .ref (b + 10), .int out.2.1, .int mn, .int th])) ∧ hp' (b + 7) = some (.inr (6, [.ref (b + 8), .ref (b + 9), .int out.2.2.1])) ∧ hp' (b + 8) = some (.inl (kC E 0, 300, .inl out.2.2.2.1)) ∧ hp' (b + 9) = some (.inl (kC E 0, 432, .inl out.2.2.2.2)) ∧ (∀ q, q ≠ b → q ≠ (b + 7) → q ≠ (b + 8) → q ≠ (b + 9) → hp' q = hp q) ∧ al = al'
set_option maxHeartbeats 4000000 in
set_option maxRecDepth 100000 in
theorem c_X2_makeThrows_L62 {E : KE} {p : Program} {l : Launch} {e : Env} {s : State} {m : MethodId} {args : Array Value} {below : List Frame} {meth : Method} {c : Code} {al : Option Nat} {N : Nat} {b : Nat} {mn : Int32} {th : Int32} {dc : Int32} {fc : Nat → Int32} {dw : Nat → Int32} {hp0 : Hp} {out : Int32 × Int32 × Int32 × (Nat → Int32) × (Nat → Int32)} {r12 : Int32 → Int32 → Int32 → Int32 → Int32 → Int32 → Int32 → Int32 → (Nat → Int32) → (Nat → Int32) → Option (Int32 × Int32 × Int32 × (Nat → Int32) × (Nat → Int32))} (X : CX E p l s m args meth c "DiceAudit$Hall" cX2_makeThrows 8) (hr : meth.sig.returnType = (Option.some Jvm.ClassFile.FieldType.int))   (i12 : ∀ {l1 : Int32} {l2 : Int32} {l3 : Int32} {l4 : Int32} {l5 : Int32} {l6 : Int32} {sd : Int32} {tc : Int32} {en : Nat → Int32} {fr : Nat → Int32} {hp : Hp}, hp b = some (.inr (4, [.ref (b + 1), .ref (b + 4), .ref (b + 7), .ref (b + 10), .int sd, .int mn, .int th])) → hp (b + 1) = some (.inr (2, [.ref (b + 2), .ref (b + 3), .int dc])) → hp (b + 2) = some (.inl (kC E 0, 6, .inl fc)) → hp (b + 3) = some (.inl (kC E 0, 72, .inl dw)) → hp (b + 7) = some (.inr (6, [.ref (b + 8), .ref (b + 9), .int tc])) → hp (b + 8) = some (.inl (kC E 0, 300, .inl en)) → hp (b + 9) = some (.inl (kC E 0, 432, .inl fr)) → (∀ q, q ≠ b → q ≠ (b + 7) → q ≠ (b + 8) → q ≠ (b + 9) → hp q = hp0 q) → r12 l1 l2 l3 l4 l5 l6 sd tc en fr = some out → AW E p l e ⟨2, 0, 0, 52⟩ s m args below meth c 8 (MQ below (kQc E (P_X2_makeThrows E b mn th hp0 al out)) args s 0 0 (kA E)) hp al 0 0 12 [(0, .ref b), (1, .int l1), (2, .int l2), (3, .int l3), (4, .int l4), (5, .int l5), (6, .int l6)] []) : ∀ {l1 : Int32} {l2 : Int32} {l3 : Int32} {l4 : Int32} {l5 : Int32} {l6 : Int32} {s0 : Int32} {sd : Int32} {tc : Int32} {en : Nat → Int32} {fr : Nat → Int32} {hp : Hp}, hp b = some (.inr (4, [.ref (b + 1), .ref (b + 4), .ref (b + 7), .ref (b + 10), .int sd, .int mn, .int th])) → hp (b + 1) = some (.inr (2, [.ref (b + 2), .ref (b + 3), .int dc])) → hp (b + 2) = some (.inl (kC E 0, 6, .inl fc)) → hp (b + 3) = some (.inl (kC E 0, 72, .inl dw)) → hp (b + 7) = some (.inr (6, [.ref (b + 8), .ref (b + 9), .int tc])) → hp (b + 8) = some (.inl (kC E 0, 300, .inl en)) → hp (b + 9) = some (.inl (kC E 0, 432, .inl fr)) → (∀ q, q ≠ b → q ≠ (b + 7) → q ≠ (b + 8) → q ≠ (b + 9) → hp q = hp0 q) → f_X2_makeThrows_L62 N fc dw r12 l1 l2 l3 l4 l5 l6 s0 sd tc en fr = some out → AW E p l e ⟨2, 0, 0, 52⟩ s m args below meth c 8 (MQ below (kQc E (P_X2_makeThrows E b mn th hp0 al out)) args s 0 0 (kA E)) hp al 0 0 62 [(0, .ref b), (1, .int l1), (2, .int l2), (3, .int l3), (4, .int l4), (5, .int l5), (6, .int l6)] [.int s0] := by
  intro l1 l2 l3 l4 l5 l6 s0 sd tc en fr hp g0 g1 g2 g3 g7 g8 g9 hfr h
  unfold f_X2_makeThrows_L62 at h
  refine A_istore (L' := [(7, .int s0), (0, .ref b), (1, .int l1), (2, .int l2), (3, .int l3), (4, .int l4), (5, .int l5), (6, .int l6)]) X dX2_makeThrows_62 (by decide) rfl ?_
  refine A_aload_n X dX2_makeThrows_64 1 rfl ?_
  refine A_get X dX2_makeThrows_65 kcl_X2 2 (by decide) kw_145 g0 rfl ?_
  refine A_iload_n X dX2_makeThrows_68 2 rfl ?_
  refine A_iload X dX2_makeThrows_69 0 rfl ?_
  refine A_iload_n X dX2_makeThrows_71 4 rfl ?_
  obtain ⟨t4, hct4, h⟩ := bind_o h
  refine A_c (k' := 0) (n' := 0) rfl rfl (A_runV (rest := []) X dX2_makeThrows_72 (c_X4_add g7 g8 g9  hct4) kY_X4_add kw_502 g7 rfl rfl ⟨(Nat.le_of_ble_eq_true rfl), (Nat.le_of_ble_eq_true rfl), (Nat.le_of_ble_eq_true rfl), (Nat.le_of_ble_eq_true rfl)⟩ rfl (Nat.le_of_ble_eq_true rfl)) (fun v9 hp1 al9 hP => ?_)
  obtain ⟨rfl, k1_0, k1_1, k1_2, n1, rfl⟩ := hP
  replace k1_0 : hp1 (b + 7) = some (.inr (6, [.ref (b + 8), .ref (b + 9), .int t4.1])) := k1_0
  replace k1_1 : hp1 (b + 8) = some (.inl (kC E 0, 300, .inl t4.2.1)) := k1_1
  replace k1_2 : hp1 (b + 9) = some (.inl (kC E 0, 432, .inl t4.2.2)) := k1_2
  refine A_st (st' := []) rfl ?_
  refine A_iload X dX2_makeThrows_75 6 rfl ?_
  refine A_iload X dX2_makeThrows_77 0 rfl ?_
  refine A_iadd X dX2_makeThrows_79 ?_
  refine A_istore (L' := [(5, .int (l5 + s0)), (7, .int s0), (0, .ref b), (1, .int l1), (2, .int l2), (3, .int l3), (4, .int l4), (6, .int l6)]) X dX2_makeThrows_80 (by decide) rfl ?_
  refine A_iinc (j := 7) (v := (l6 + 1)) (L' := [(6, .int (l6 + 1)), (5, .int (l5 + s0)), (7, .int s0), (0, .ref b), (1, .int l1), (2, .int l2), (3, .int l3), (4, .int l4)]) X dX2_makeThrows_82 rfl rfl (by decide) rfl ?_
  refine A_goto (tgt := 12) X dX2_makeThrows_85 (by decide) ?_
  refine A_sub (L' := [(0, .ref b), (1, .int l1), (2, .int l2), (3, .int l3), (4, .int l4), (5, .int (l5 + s0)), (6, .int (l6 + 1))]) [3, 4, 5, 6, 7, 1, 0] rfl ?_
  exact i12 ((n1 _ (by omega) (by omega) (by omega)).trans g0) ((n1 _ (by omega) (by omega) (by omega)).trans g1) ((n1 _ (by omega) (by omega) (by omega)).trans g2) ((n1 _ (by omega) (by omega) (by omega)).trans g3) k1_0 k1_1 k1_2 (fun q z0 z1 z2 z3 => ((n1 q z1 z2 z3).trans (hfr q z0 z1 z2 z3))) h
set_option maxHeartbeats 4000000 in
set_option maxRecDepth 100000 in
theorem c_X2_makeThrows_L12 {E : KE} {p : Program} {l : Launch} {e : Env} {s : State} {m : MethodId} {args : Array Value} {below : List Frame} {meth : Method} {c : Code} {al : Option Nat} {N : Nat} {b : Nat} {mn : Int32} {th : Int32} {dc : Int32} {fc : Nat → Int32} {dw : Nat → Int32} {hp0 : Hp} {out : Int32 × Int32 × Int32 × (Nat → Int32) × (Nat → Int32)}  (X : CX E p l s m args meth c "DiceAudit$Hall" cX2_makeThrows 8) (hr : meth.sig.returnType = (Option.some Jvm.ClassFile.FieldType.int))   : ∀ (j : Nat), ∀ {l1 : Int32} {l2 : Int32} {l3 : Int32} {l4 : Int32} {l5 : Int32} {l6 : Int32} {sd : Int32} {tc : Int32} {en : Nat → Int32} {fr : Nat → Int32} {hp : Hp}, hp b = some (.inr (4, [.ref (b + 1), .ref (b + 4), .ref (b + 7), .ref (b + 10), .int sd, .int mn, .int th])) → hp (b + 1) = some (.inr (2, [.ref (b + 2), .ref (b + 3), .int dc])) → hp (b + 2) = some (.inl (kC E 0, 6, .inl fc)) → hp (b + 3) = some (.inl (kC E 0, 72, .inl dw)) → hp (b + 7) = some (.inr (6, [.ref (b + 8), .ref (b + 9), .int tc])) → hp (b + 8) = some (.inl (kC E 0, 300, .inl en)) → hp (b + 9) = some (.inl (kC E 0, 432, .inl fr)) → (∀ q, q ≠ b → q ≠ (b + 7) → q ≠ (b + 8) → q ≠ (b + 9) → hp q = hp0 q) → f_X2_makeThrows_L12 N fc dw j l1 l2 l3 l4 l5 l6 sd tc en fr = some out → AW E p l e ⟨2, 0, 0, 52⟩ s m args below meth c 8 (MQ below (kQc E (P_X2_makeThrows E b mn th hp0 al out)) args s 0 0 (kA E)) hp al 0 0 12 [(0, .ref b), (1, .int l1), (2, .int l2), (3, .int l3), (4, .int l4), (5, .int l5), (6, .int l6)] [] := by
  intro j
  induction j with
  | zero =>
    intro l1 l2 l3 l4 l5 l6 sd tc en fr hp g0 g1 g2 g3 g7 g8 g9 hfr h
    have h : (none : Option (Int32 × Int32 × Int32 × (Nat → Int32) × (Nat → Int32))) = some out := h
    cases h
  | succ j i12 =>
    intro l1 l2 l3 l4 l5 l6 sd tc en fr hp g0 g1 g2 g3 g7 g8 g9 hfr h
    have h : f_X2_makeThrows_L12_F N fc dw (f_X2_makeThrows_L12 N fc dw j) l1 l2 l3 l4 l5 l6 sd tc en fr = some out := h
    unfold f_X2_makeThrows_L12_F at h
    refine A_iload X dX2_makeThrows_12 6 rfl ?_
    refine A_iload_n X dX2_makeThrows_14 2 rfl ?_
    refine A_icmp_ge (tgt := 88) X dX2_makeThrows_15 h (by decide) (fun hc h => ?_) (fun hc h => ?_)
    · refine A_iload X dX2_makeThrows_88 5 rfl ?_
      cases h
      exact A_iret X dX2_makeThrows_90 hr ⟨rfl, g0, g7, g8, g9, (fun q z0 z1 z2 z3 => (hfr q z0 z1 z2 z3)), rfl⟩ (Nat.le_of_ble_eq_true rfl) (Nat.le_of_ble_eq_true rfl)
    · refine A_aload_n X dX2_makeThrows_18 0 rfl ?_
      refine A_aload_n X dX2_makeThrows_19 0 rfl ?_
      refine A_get X dX2_makeThrows_20 kcl_X2 4 (by decide) kw_151 g0 rfl ?_
      obtain ⟨t2, hct2, h⟩ := bind_o h
      refine A_cp (k' := 0) (n' := 0) (A_runSN (rest := [.ref b]) X dX2_makeThrows_23 (c_X10_nextSeed   hct2) kY_X10_nextSeed kw_486 ⟨(Nat.le_of_ble_eq_true rfl), (Nat.le_of_ble_eq_true rfl), (Nat.le_of_ble_eq_true rfl), (Nat.le_of_ble_eq_true rfl)⟩ rfl (Nat.le_of_ble_eq_true rfl)) rfl rfl ?_
      refine A_put X dX2_makeThrows_26 kcl_X2 4 (by decide) kw_151 g0 rfl rfl rfl (by simp) (fun hp1 (k1 : hp1 b = some (.inr (4, [.ref (b + 1), .ref (b + 4), .ref (b + 7), .ref (b + 10), .int t2, .int mn, .int th]))) n1 => ?_)
      refine A_iload_n X dX2_makeThrows_29 3 rfl ?_
      refine A_if_eq (tgt := 49) X dX2_makeThrows_30 h (by decide) (fun hc h => ?_) (fun hc h => ?_)
      · refine A_aload_n X dX2_makeThrows_49 0 rfl ?_
        refine A_get X dX2_makeThrows_50 kcl_X2 0 (by decide) kw_139 k1 rfl ?_
        refine A_iload X dX2_makeThrows_53 4 rfl ?_
        refine A_aload_n X dX2_makeThrows_55 0 rfl ?_
        refine A_get X dX2_makeThrows_56 kcl_X2 4 (by decide) kw_151 k1 rfl ?_
        obtain ⟨t3, hct3, h⟩ := bind_o h
        refine A_cp (k' := 0) (n' := 0) (A_runV (rest := []) X dX2_makeThrows_59 (c_X0_faceShown ((n1 _ (by omega)).trans g1) ((n1 _ (by omega)).trans g2) ((n1 _ (by omega)).trans g3)  hct3) kY_X0_faceShown kw_495 ((n1 _ (by omega)).trans g1) rfl rfl ⟨(Nat.le_of_ble_eq_true rfl), (Nat.le_of_ble_eq_true rfl), (Nat.le_of_ble_eq_true rfl), (Nat.le_of_ble_eq_true rfl)⟩ rfl (Nat.le_of_ble_eq_true rfl)) rfl rfl ?_
        refine A_sub (L' := [(0, .ref b), (1, .int l1), (2, .int l2), (3, .int l3), (4, .int l4), (5, .int l5), (6, .int l6)]) [0, 1, 2, 3, 4, 5, 6] rfl ?_
        exact c_X2_makeThrows_L62 X hr i12 k1 ((n1 _ (by omega)).trans g1) ((n1 _ (by omega)).trans g2) ((n1 _ (by omega)).trans g3) ((n1 _ (by omega)).trans g7) ((n1 _ (by omega)).trans g8) ((n1 _ (by omega)).trans g9) (fun q z0 z1 z2 z3 => ((n1 q z0).trans (hfr q z0 z1 z2 z3))) h
      · refine A_aload_n X dX2_makeThrows_33 0 rfl ?_
        refine A_get X dX2_makeThrows_34 kcl_X2 0 (by decide) kw_139 k1 rfl ?_
        refine A_iload X dX2_makeThrows_37 4 rfl ?_
        refine A_aload_n X dX2_makeThrows_39 0 rfl ?_
        refine A_get X dX2_makeThrows_40 kcl_X2 4 (by decide) kw_151 k1 rfl ?_
        obtain ⟨t4, hct4, h⟩ := bind_o h
        refine A_cp (k' := 0) (n' := 0) (A_runV (rest := []) X dX2_makeThrows_43 (c_X0_fairFaceShown ((n1 _ (by omega)).trans g1) ((n1 _ (by omega)).trans g2)  hct4) kY_X0_fairFaceShown kw_490 ((n1 _ (by omega)).trans g1) rfl rfl ⟨(Nat.le_of_ble_eq_true rfl), (Nat.le_of_ble_eq_true rfl), (Nat.le_of_ble_eq_true rfl), (Nat.le_of_ble_eq_true rfl)⟩ rfl (Nat.le_of_ble_eq_true rfl)) rfl rfl ?_
        refine A_goto (tgt := 62) X dX2_makeThrows_46 (by decide) ?_
        refine A_sub (L' := [(0, .ref b), (1, .int l1), (2, .int l2), (3, .int l3), (4, .int l4), (5, .int l5), (6, .int l6)]) [0, 1, 2, 3, 4, 5, 6] rfl ?_
        exact c_X2_makeThrows_L62 X hr i12 k1 ((n1 _ (by omega)).trans g1) ((n1 _ (by omega)).trans g2) ((n1 _ (by omega)).trans g3) ((n1 _ (by omega)).trans g7) ((n1 _ (by omega)).trans g8) ((n1 _ (by omega)).trans g9) (fun q z0 z1 z2 z3 => ((n1 q z0).trans (hfr q z0 z1 z2 z3))) h
set_option maxHeartbeats 4000000 in
set_option maxRecDepth 100000 in
theorem c_X2_makeThrows {E : KE} {l : Launch} {hp : Hp} {al : Option Nat} {N : Nat} {b : Nat} {sd : Int32} {mn : Int32} {th : Int32} {dc : Int32} {fc : Nat → Int32} {dw : Nat → Int32} {tc : Int32} {en : Nat → Int32} {fr : Nat → Int32} {a0 : Int32} {a1 : Int32} {a2 : Int32} {out : Int32 × Int32 × Int32 × (Nat → Int32) × (Nat → Int32)} (g0 : hp b = some (.inr (4, [.ref (b + 1), .ref (b + 4), .ref (b + 7), .ref (b + 10), .int sd, .int mn, .int th]))) (g1 : hp (b + 1) = some (.inr (2, [.ref (b + 2), .ref (b + 3), .int dc]))) (g2 : hp (b + 2) = some (.inl (kC E 0, 6, .inl fc))) (g3 : hp (b + 3) = some (.inl (kC E 0, 72, .inl dw))) (g7 : hp (b + 7) = some (.inr (6, [.ref (b + 8), .ref (b + 9), .int tc]))) (g8 : hp (b + 8) = some (.inl (kC E 0, 300, .inl en))) (g9 : hp (b + 9) = some (.inl (kC E 0, 432, .inl fr)))  (h : f_X2_makeThrows N fc dw sd tc en fr a0 a1 a2 = some out) : AM E l yX2_makeThrows cX2_makeThrows 8 (Option.some Jvm.ClassFile.FieldType.int) ⟨2, 0, 0, 52⟩ [.ref b, .int a0, .int a1, .int a2] hp al (P_X2_makeThrows E b mn th hp al out) := by
  refine A_of (by decide +kernel) (Nat.le_of_ble_eq_true rfl) ?_
  intro p e s m args below meth c X hr hnm
  have X : CX E p l s m args meth c "DiceAudit$Hall" cX2_makeThrows 8 := X
  refine A_L (L' := [(0, .ref b), (1, .int a0), (2, .int a1), (3, .int a2)]) rfl ?_
  unfold f_X2_makeThrows at h
  refine A_iload_n X dX2_makeThrows_0 1 rfl ?_
  obtain ⟨t1, hct1, h⟩ := bind_o h
  refine A_cp (k' := 0) (n' := 0) (A_runSN (rest := []) X dX2_makeThrows_1 (c_X10_dieOf   hct1) kY_X10_dieOf kw_483 ⟨(Nat.le_of_ble_eq_true rfl), (Nat.le_of_ble_eq_true rfl), (Nat.le_of_ble_eq_true rfl), (Nat.le_of_ble_eq_true rfl)⟩ rfl (Nat.le_of_ble_eq_true rfl)) rfl rfl ?_
  refine A_istore (L' := [(4, .int t1), (0, .ref b), (1, .int a0), (2, .int a1), (3, .int a2)]) X dX2_makeThrows_4 (by decide) rfl ?_
  refine A_iconst (v := 0) X dX2_makeThrows_6 (by decide) ?_
  refine A_istore (L' := [(5, .int 0), (4, .int t1), (0, .ref b), (1, .int a0), (2, .int a1), (3, .int a2)]) X dX2_makeThrows_7 (by decide) rfl ?_
  refine A_iconst (v := 0) X dX2_makeThrows_9 (by decide) ?_
  refine A_istore (L' := [(6, .int 0), (5, .int 0), (4, .int t1), (0, .ref b), (1, .int a0), (2, .int a1), (3, .int a2)]) X dX2_makeThrows_10 (by decide) rfl ?_
  refine A_sub (L' := [(0, .ref b), (1, .int a0), (2, .int a1), (3, .int a2), (4, .int t1), (5, .int 0), (6, .int 0)]) [3, 4, 5, 6, 2, 1, 0] rfl ?_
  exact c_X2_makeThrows_L12 X hr  N g0 g1 g2 g3 g7 g8 g9 (fun q z0 z1 z2 z3 => rfl) h
set_option maxHeartbeats 4000000 in
set_option maxRecDepth 100000 in
theorem c_X2_pairScore {E : KE} {l : Launch} {hp : Hp} {al : Option Nat} {N : Nat} {b : Nat} {sd : Int32} {mn : Int32} {th : Int32} {dc : Int32} {fc : Nat → Int32} {tc : Int32} {fr : Nat → Int32} {a0 : Int32} {out : Int32} (g0 : hp b = some (.inr (4, [.ref (b + 1), .ref (b + 4), .ref (b + 7), .ref (b + 10), .int sd, .int mn, .int th]))) (g1 : hp (b + 1) = some (.inr (2, [.ref (b + 2), .ref (b + 3), .int dc]))) (g2 : hp (b + 2) = some (.inl (kC E 0, 6, .inl fc))) (g7 : hp (b + 7) = some (.inr (6, [.ref (b + 8), .ref (b + 9), .int tc]))) (g9 : hp (b + 9) = some (.inl (kC E 0, 432, .inl fr)))  (h : f_X2_pairScore N fc fr a0 = some out) : AM E l yX2_pairScore cX2_pairScore 2 (Option.some Jvm.ClassFile.FieldType.int) ⟨2, 0, 0, 52⟩ [.ref b, .int a0] hp al (kRet out hp al) := by
  refine A_of (by decide +kernel) (Nat.le_of_ble_eq_true rfl) ?_
  intro p e s m args below meth c X hr hnm
  have X : CX E p l s m args meth c "DiceAudit$Hall" cX2_pairScore 2 := X
  refine A_L (L' := [(0, .ref b), (1, .int a0)]) rfl ?_
  unfold f_X2_pairScore at h
  refine A_aload_n X dX2_pairScore_0 0 rfl ?_
  refine A_get X dX2_pairScore_1 kcl_X2 2 (by decide) kw_145 g0 rfl ?_
  refine A_get X dX2_pairScore_4 kcl_X4 1 (by decide) kw_105 g7 rfl ?_
  refine A_iload_n X dX2_pairScore_7 1 rfl ?_
  refine A_iconst (v := 1) X dX2_pairScore_8 (by decide) ?_
  obtain ⟨t1, hct1, h⟩ := bind_o h
  refine A_cp (k' := 0) (n' := 0) (A_runSN (rest := [.ref (b + 9)]) X dX2_pairScore_9 (c_X10_cellOf   hct1) kY_X10_cellOf kw_522 ⟨(Nat.le_of_ble_eq_true rfl), (Nat.le_of_ble_eq_true rfl), (Nat.le_of_ble_eq_true rfl), (Nat.le_of_ble_eq_true rfl)⟩ rfl (Nat.le_of_ble_eq_true rfl)) rfl rfl ?_
  refine A_aload_n X dX2_pairScore_12 0 rfl ?_
  refine A_get X dX2_pairScore_13 kcl_X2 0 (by decide) kw_139 g0 rfl ?_
  refine A_iload_n X dX2_pairScore_16 1 rfl ?_
  obtain ⟨t2, hct2, h⟩ := bind_o h
  refine A_cp (k' := 0) (n' := 0) (A_runSN (rest := [.ref (b + 1), .int t1, .ref (b + 9)]) X dX2_pairScore_17 (c_X10_dieOf   hct2) kY_X10_dieOf kw_483 ⟨(Nat.le_of_ble_eq_true rfl), (Nat.le_of_ble_eq_true rfl), (Nat.le_of_ble_eq_true rfl), (Nat.le_of_ble_eq_true rfl)⟩ rfl (Nat.le_of_ble_eq_true rfl)) rfl rfl ?_
  obtain ⟨t3, hct3, h⟩ := bind_o h
  refine A_cp (k' := 0) (n' := 0) (A_runV (rest := [.int t1, .ref (b + 9)]) X dX2_pairScore_20 (c_X0_faceCount g1 g2  hct3) kY_X0_faceCount kw_523 g1 rfl rfl ⟨(Nat.le_of_ble_eq_true rfl), (Nat.le_of_ble_eq_true rfl), (Nat.le_of_ble_eq_true rfl), (Nat.le_of_ble_eq_true rfl)⟩ rfl (Nat.le_of_ble_eq_true rfl)) rfl rfl ?_
  obtain ⟨t4, hct4, h⟩ := bind_o h
  refine A_cp (k' := 0) (n' := 0) (A_runSN (rest := []) X dX2_pairScore_23 (c_X10_testScore g9  hct4) kY_X10_testScore kw_527 ⟨(Nat.le_of_ble_eq_true rfl), (Nat.le_of_ble_eq_true rfl), (Nat.le_of_ble_eq_true rfl), (Nat.le_of_ble_eq_true rfl)⟩ rfl (Nat.le_of_ble_eq_true rfl)) rfl rfl ?_
  cases h
  exact A_iret X dX2_pairScore_26 hr ⟨rfl, rfl, rfl⟩ (Nat.le_of_ble_eq_true rfl) (Nat.le_of_ble_eq_true rfl)
abbrev P_X2_exceedsLimits (E : KE) (b : Nat)  (hp : Hp) (al : Option Nat) (out : Int32) : Option Value → Hp → Option Nat → Prop := fun v0 hp' al' => v0 = some (.int out) ∧ (out = 0 ∨ out = 1) ∧ hp = hp' ∧ al = al'
set_option maxHeartbeats 4000000 in
set_option maxRecDepth 100000 in
theorem c_X2_exceedsLimits {E : KE} {l : Launch} {hp : Hp} {al : Option Nat} {b : Nat} {sd : Int32} {mn : Int32} {th : Int32} {a0 : Int32} {a1 : Int32} {out : Int32} (g0 : hp b = some (.inr (4, [.ref (b + 1), .ref (b + 4), .ref (b + 7), .ref (b + 10), .int sd, .int mn, .int th])))  (h : f_X2_exceedsLimits mn th a0 a1 = some out) : AM E l yX2_exceedsLimits cX2_exceedsLimits 3 (Option.some Jvm.ClassFile.FieldType.boolean) ⟨0, 0, 0, 0⟩ [.ref b, .int a0, .int a1] hp al (P_X2_exceedsLimits E b hp al out) := by
  refine A_of (by decide +kernel) (Nat.le_of_ble_eq_true rfl) ?_
  intro p e s m args below meth c X hr hnm
  have X : CX E p l s m args meth c "DiceAudit$Hall" cX2_exceedsLimits 3 := X
  refine A_L (L' := [(0, .ref b), (1, .int a0), (2, .int a1)]) rfl ?_
  unfold f_X2_exceedsLimits at h
  refine A_iload_n X dX2_exceedsLimits_0 1 rfl ?_
  refine A_aload_n X dX2_exceedsLimits_1 0 rfl ?_
  refine A_get X dX2_exceedsLimits_2 kcl_X2 5 (by decide) kw_153 g0 rfl ?_
  refine A_icmp_lt (tgt := 20) X dX2_exceedsLimits_5 h (by decide) (fun hc h => ?_) (fun hc h => ?_)
  · refine A_iconst (v := 0) X dX2_exceedsLimits_20 (by decide) ?_
    cases h
    exact A_zret X dX2_exceedsLimits_21 hr (Or.inl rfl) ⟨rfl, (Or.inl rfl), rfl, rfl⟩ (Nat.le_of_ble_eq_true rfl) (Nat.le_of_ble_eq_true rfl)
  · refine A_iload_n X dX2_exceedsLimits_8 2 rfl ?_
    refine A_aload_n X dX2_exceedsLimits_9 0 rfl ?_
    refine A_get X dX2_exceedsLimits_10 kcl_X2 6 (by decide) kw_155 g0 rfl ?_
    refine A_icmp_le (tgt := 20) X dX2_exceedsLimits_13 h (by decide) (fun hc h => ?_) (fun hc h => ?_)
    · refine A_iconst (v := 0) X dX2_exceedsLimits_20 (by decide) ?_
      cases h
      exact A_zret X dX2_exceedsLimits_21 hr (Or.inl rfl) ⟨rfl, (Or.inl rfl), rfl, rfl⟩ (Nat.le_of_ble_eq_true rfl) (Nat.le_of_ble_eq_true rfl)
    · refine A_iconst (v := 1) X dX2_exceedsLimits_16 (by decide) ?_
      refine A_goto (tgt := 21) X dX2_exceedsLimits_17 (by decide) ?_
      cases h
      exact A_zret X dX2_exceedsLimits_21 hr (Or.inr rfl) ⟨rfl, (Or.inr rfl), rfl, rfl⟩ (Nat.le_of_ble_eq_true rfl) (Nat.le_of_ble_eq_true rfl)
abbrev P_X2_isPairSuspicious (E : KE) (b : Nat)  (hp : Hp) (al : Option Nat) (out : Int32) : Option Value → Hp → Option Nat → Prop := fun v0 hp' al' => v0 = some (.int out) ∧ (out = 0 ∨ out = 1) ∧ hp = hp' ∧ al = al'
set_option maxHeartbeats 4000000 in
set_option maxRecDepth 100000 in
theorem c_X2_isPairSuspicious {E : KE} {l : Launch} {hp : Hp} {al : Option Nat} {N : Nat} {b : Nat} {sd : Int32} {mn : Int32} {th : Int32} {dc : Int32} {fc : Nat → Int32} {tc : Int32} {fr : Nat → Int32} {a0 : Int32} {out : Int32} (g0 : hp b = some (.inr (4, [.ref (b + 1), .ref (b + 4), .ref (b + 7), .ref (b + 10), .int sd, .int mn, .int th]))) (g1 : hp (b + 1) = some (.inr (2, [.ref (b + 2), .ref (b + 3), .int dc]))) (g2 : hp (b + 2) = some (.inl (kC E 0, 6, .inl fc))) (g7 : hp (b + 7) = some (.inr (6, [.ref (b + 8), .ref (b + 9), .int tc]))) (g9 : hp (b + 9) = some (.inl (kC E 0, 432, .inl fr)))  (h : f_X2_isPairSuspicious N mn th fc fr a0 = some out) : AM E l yX2_isPairSuspicious cX2_isPairSuspicious 2 (Option.some Jvm.ClassFile.FieldType.boolean) ⟨3, 0, 0, 73⟩ [.ref b, .int a0] hp al (P_X2_isPairSuspicious E b hp al out) := by
  refine A_of (by decide +kernel) (Nat.le_of_ble_eq_true rfl) ?_
  intro p e s m args below meth c X hr hnm
  have X : CX E p l s m args meth c "DiceAudit$Hall" cX2_isPairSuspicious 2 := X
  refine A_L (L' := [(0, .ref b), (1, .int a0)]) rfl ?_
  unfold f_X2_isPairSuspicious at h
  refine A_aload_n X dX2_isPairSuspicious_0 0 rfl ?_
  refine A_aload_n X dX2_isPairSuspicious_1 0 rfl ?_
  refine A_get X dX2_isPairSuspicious_2 kcl_X2 2 (by decide) kw_145 g0 rfl ?_
  refine A_iload_n X dX2_isPairSuspicious_5 1 rfl ?_
  obtain ⟨t1, hct1, h⟩ := bind_o h
  refine A_cp (k' := 0) (n' := 0) (A_runV (rest := [.ref b]) X dX2_isPairSuspicious_6 (c_X4_pairThrows g7 g9  hct1) kY_X4_pairThrows kw_532 g7 rfl rfl ⟨(Nat.le_of_ble_eq_true rfl), (Nat.le_of_ble_eq_true rfl), (Nat.le_of_ble_eq_true rfl), (Nat.le_of_ble_eq_true rfl)⟩ rfl (Nat.le_of_ble_eq_true rfl)) rfl rfl ?_
  refine A_aload_n X dX2_isPairSuspicious_9 0 rfl ?_
  refine A_iload_n X dX2_isPairSuspicious_10 1 rfl ?_
  obtain ⟨t2, hct2, h⟩ := bind_o h
  refine A_cp (k' := 0) (n' := 0) (A_runV (rest := [.int t1, .ref b]) X dX2_isPairSuspicious_11 (c_X2_pairScore g0 g1 g2 g7 g9  hct2) kY_X2_pairScore kw_518 g0 rfl rfl ⟨(Nat.le_of_ble_eq_true rfl), (Nat.le_of_ble_eq_true rfl), (Nat.le_of_ble_eq_true rfl), (Nat.le_of_ble_eq_true rfl)⟩ rfl (Nat.le_of_ble_eq_true rfl)) rfl rfl ?_
  obtain ⟨t3, hct3, h⟩ := bind_o h
  refine A_c (k' := 0) (n' := 0) rfl rfl (A_runV (rest := []) X dX2_isPairSuspicious_14 (c_X2_exceedsLimits g0  hct3) kY_X2_exceedsLimits kw_537 g0 rfl rfl ⟨(Nat.le_of_ble_eq_true rfl), (Nat.le_of_ble_eq_true rfl), (Nat.le_of_ble_eq_true rfl), (Nat.le_of_ble_eq_true rfl)⟩ rfl (Nat.le_of_ble_eq_true rfl)) (fun v9 hp1 al9 hP => ?_)
  obtain ⟨rfl, zt3, rfl, rfl⟩ := hP
  refine A_st (st' := [.int t3]) rfl ?_
  cases h
  exact A_zret X dX2_isPairSuspicious_17 hr zt3 ⟨rfl, zt3, rfl, rfl⟩ (Nat.le_of_ble_eq_true rfl) (Nat.le_of_ble_eq_true rfl)
set_option maxHeartbeats 4000000 in
set_option maxRecDepth 100000 in
theorem c_X2_countSuspicious_L21 {E : KE} {p : Program} {l : Launch} {e : Env} {s : State} {m : MethodId} {args : Array Value} {below : List Frame} {meth : Method} {c : Code} {al : Option Nat} {N : Nat} {b : Nat} {sd : Int32} {mn : Int32} {th : Int32} {dc : Int32} {fc : Nat → Int32} {tc : Int32} {fr : Nat → Int32} {hp0 : Hp} {out : Int32} {r4 : Int32 → Int32 → Option (Int32)} (X : CX E p l s m args meth c "DiceAudit$Hall" cX2_countSuspicious 3) (hr : meth.sig.returnType = (Option.some Jvm.ClassFile.FieldType.int))  (g0 : hp0 b = some (.inr (4, [.ref (b + 1), .ref (b + 4), .ref (b + 7), .ref (b + 10), .int sd, .int mn, .int th]))) (g1 : hp0 (b + 1) = some (.inr (2, [.ref (b + 2), .ref (b + 3), .int dc]))) (g2 : hp0 (b + 2) = some (.inl (kC E 0, 6, .inl fc))) (g7 : hp0 (b + 7) = some (.inr (6, [.ref (b + 8), .ref (b + 9), .int tc]))) (g9 : hp0 (b + 9) = some (.inl (kC E 0, 432, .inl fr))) (i4 : ∀ {l1 : Int32} {l2 : Int32}, r4 l1 l2 = some out → AW E p l e ⟨4, 0, 0, 94⟩ s m args below meth c 3 (MQ below (kQc E (kRet out hp0 al)) args s 0 0 (kA E)) hp0 al 0 0 4 [(0, .ref b), (1, .int l1), (2, .int l2)] []) : ∀ {l1 : Int32} {l2 : Int32}, f_X2_countSuspicious_L21 N mn th fc fr r4 l1 l2 = some out → AW E p l e ⟨4, 0, 0, 94⟩ s m args below meth c 3 (MQ below (kQc E (kRet out hp0 al)) args s 0 0 (kA E)) hp0 al 0 0 21 [(0, .ref b), (1, .int l1), (2, .int l2)] [] := by
  intro l1 l2 h
  unfold f_X2_countSuspicious_L21 at h
  refine A_iinc (j := 2) (v := (l2 + 1)) (L' := [(2, .int (l2 + 1)), (0, .ref b), (1, .int l1)]) X dX2_countSuspicious_21 rfl rfl (by decide) rfl ?_
  refine A_goto (tgt := 4) X dX2_countSuspicious_24 (by decide) ?_
  refine A_sub (L' := [(0, .ref b), (1, .int l1), (2, .int (l2 + 1))]) [1, 2, 0] rfl ?_
  exact i4  h
set_option maxHeartbeats 4000000 in
set_option maxRecDepth 100000 in
theorem c_X2_countSuspicious_L4 {E : KE} {p : Program} {l : Launch} {e : Env} {s : State} {m : MethodId} {args : Array Value} {below : List Frame} {meth : Method} {c : Code} {al : Option Nat} {N : Nat} {b : Nat} {sd : Int32} {mn : Int32} {th : Int32} {dc : Int32} {fc : Nat → Int32} {tc : Int32} {fr : Nat → Int32} {hp0 : Hp} {out : Int32}  (X : CX E p l s m args meth c "DiceAudit$Hall" cX2_countSuspicious 3) (hr : meth.sig.returnType = (Option.some Jvm.ClassFile.FieldType.int))  (g0 : hp0 b = some (.inr (4, [.ref (b + 1), .ref (b + 4), .ref (b + 7), .ref (b + 10), .int sd, .int mn, .int th]))) (g1 : hp0 (b + 1) = some (.inr (2, [.ref (b + 2), .ref (b + 3), .int dc]))) (g2 : hp0 (b + 2) = some (.inl (kC E 0, 6, .inl fc))) (g7 : hp0 (b + 7) = some (.inr (6, [.ref (b + 8), .ref (b + 9), .int tc]))) (g9 : hp0 (b + 9) = some (.inl (kC E 0, 432, .inl fr))) : ∀ (j : Nat), ∀ {l1 : Int32} {l2 : Int32}, f_X2_countSuspicious_L4 N mn th fc fr j l1 l2 = some out → AW E p l e ⟨4, 0, 0, 94⟩ s m args below meth c 3 (MQ below (kQc E (kRet out hp0 al)) args s 0 0 (kA E)) hp0 al 0 0 4 [(0, .ref b), (1, .int l1), (2, .int l2)] [] := by
  intro j
  induction j with
  | zero =>
    intro l1 l2 h
    have h : (none : Option (Int32)) = some out := h
    cases h
  | succ j i4 =>
    intro l1 l2 h
    have h : f_X2_countSuspicious_L4_F N mn th fc fr (f_X2_countSuspicious_L4 N mn th fc fr j) l1 l2 = some out := h
    unfold f_X2_countSuspicious_L4_F at h
    refine A_iload_n X dX2_countSuspicious_4 2 rfl ?_
    refine A_bipush (v := 36) X dX2_countSuspicious_5 (by decide) ?_
    refine A_icmp_ge (tgt := 27) X dX2_countSuspicious_7 h (by decide) (fun hc h => ?_) (fun hc h => ?_)
    · refine A_iload_n X dX2_countSuspicious_27 1 rfl ?_
      cases h
      exact A_iret X dX2_countSuspicious_28 hr ⟨rfl, rfl, rfl⟩ (Nat.le_of_ble_eq_true rfl) (Nat.le_of_ble_eq_true rfl)
    · refine A_aload_n X dX2_countSuspicious_10 0 rfl ?_
      refine A_iload_n X dX2_countSuspicious_11 2 rfl ?_
      obtain ⟨t1, hct1, h⟩ := bind_o h
      refine A_c (k' := 0) (n' := 0) rfl rfl (A_runV (rest := []) X dX2_countSuspicious_12 (c_X2_isPairSuspicious g0 g1 g2 g7 g9  hct1) kY_X2_isPairSuspicious kw_1341 g0 rfl rfl ⟨(Nat.le_of_ble_eq_true rfl), (Nat.le_of_ble_eq_true rfl), (Nat.le_of_ble_eq_true rfl), (Nat.le_of_ble_eq_true rfl)⟩ rfl (Nat.le_of_ble_eq_true rfl)) (fun v9 hp1 al9 hP => ?_)
      obtain ⟨rfl, zt1, rfl, rfl⟩ := hP
      refine A_st (st' := [.int t1]) rfl ?_
      refine A_if_eq (tgt := 21) X dX2_countSuspicious_15 h (by decide) (fun hc h => ?_) (fun hc h => ?_)
      · refine A_sub (L' := [(0, .ref b), (1, .int l1), (2, .int l2)]) [0, 1, 2] rfl ?_
        exact c_X2_countSuspicious_L21 X hr g0 g1 g2 g7 g9 i4  h
      · refine A_iinc (j := 1) (v := (l1 + 1)) (L' := [(1, .int (l1 + 1)), (0, .ref b), (2, .int l2)]) X dX2_countSuspicious_18 rfl rfl (by decide) rfl ?_
        refine A_sub (L' := [(0, .ref b), (1, .int (l1 + 1)), (2, .int l2)]) [1, 0, 2] rfl ?_
        exact c_X2_countSuspicious_L21 X hr g0 g1 g2 g7 g9 i4  h
set_option maxHeartbeats 4000000 in
set_option maxRecDepth 100000 in
theorem c_X2_countSuspicious {E : KE} {l : Launch} {hp : Hp} {al : Option Nat} {N : Nat} {b : Nat} {sd : Int32} {mn : Int32} {th : Int32} {dc : Int32} {fc : Nat → Int32} {tc : Int32} {fr : Nat → Int32}  {out : Int32} (g0 : hp b = some (.inr (4, [.ref (b + 1), .ref (b + 4), .ref (b + 7), .ref (b + 10), .int sd, .int mn, .int th]))) (g1 : hp (b + 1) = some (.inr (2, [.ref (b + 2), .ref (b + 3), .int dc]))) (g2 : hp (b + 2) = some (.inl (kC E 0, 6, .inl fc))) (g7 : hp (b + 7) = some (.inr (6, [.ref (b + 8), .ref (b + 9), .int tc]))) (g9 : hp (b + 9) = some (.inl (kC E 0, 432, .inl fr)))  (h : f_X2_countSuspicious N mn th fc fr = some out) : AM E l yX2_countSuspicious cX2_countSuspicious 3 (Option.some Jvm.ClassFile.FieldType.int) ⟨4, 0, 0, 94⟩ [.ref b] hp al (kRet out hp al) := by
  refine A_of (by decide +kernel) (Nat.le_of_ble_eq_true rfl) ?_
  intro p e s m args below meth c X hr hnm
  have X : CX E p l s m args meth c "DiceAudit$Hall" cX2_countSuspicious 3 := X
  refine A_L (L' := [(0, .ref b)]) rfl ?_
  unfold f_X2_countSuspicious at h
  refine A_iconst (v := 0) X dX2_countSuspicious_0 (by decide) ?_
  refine A_istore_n (L' := [(1, .int 0), (0, .ref b)]) X dX2_countSuspicious_1 rfl (by decide) rfl ?_
  refine A_iconst (v := 0) X dX2_countSuspicious_2 (by decide) ?_
  refine A_istore_n (L' := [(2, .int 0), (1, .int 0), (0, .ref b)]) X dX2_countSuspicious_3 rfl (by decide) rfl ?_
  refine A_sub (L' := [(0, .ref b), (1, .int 0), (2, .int 0)]) [2, 1, 0] rfl ?_
  exact c_X2_countSuspicious_L4 X hr g0 g1 g2 g7 g9 N  h
abbrev P_X2_holdAudit (E : KE) (b : Nat)  (hp : Hp) (al : Option Nat) (out : Int32 × Int32 × (Nat → Int32) × (Nat → Int32)) : Option Value → Hp → Option Nat → Prop := fun v0 hp' al' => v0 = some (.int out.1) ∧ hp' (b + 10) = some (.inr (8, [.ref (b + 11), .ref (b + 12), .int out.2.1])) ∧ hp' (b + 11) = some (.inl (kC E 0, 36, .inl out.2.2.1)) ∧ hp' (b + 12) = some (.inl (kC E 0, 36, .inl out.2.2.2)) ∧ (∀ q, q ≠ (b + 10) → q ≠ (b + 11) → q ≠ (b + 12) → hp' q = hp q) ∧ al = al'
set_option maxHeartbeats 4000000 in
set_option maxRecDepth 100000 in
theorem c_X2_holdAudit_L58 {E : KE} {p : Program} {l : Launch} {e : Env} {s : State} {m : MethodId} {args : Array Value} {below : List Frame} {meth : Method} {c : Code} {al : Option Nat} {N : Nat} {b : Nat} {sd : Int32} {mn : Int32} {th : Int32} {dc : Int32} {fc : Nat → Int32} {tc : Int32} {fr : Nat → Int32} {hp0 : Hp} {out : Int32 × Int32 × (Nat → Int32) × (Nat → Int32)} {r10 : Int32 → Int32 → Int32 → (Nat → Int32) → (Nat → Int32) → Option (Int32 × Int32 × (Nat → Int32) × (Nat → Int32))} (X : CX E p l s m args meth c "DiceAudit$Hall" cX2_holdAudit 4) (hr : meth.sig.returnType = (Option.some Jvm.ClassFile.FieldType.int))   (i10 : ∀ {l1 : Int32} {l2 : Int32} {oc : Int32} {op : Nat → Int32} {os : Nat → Int32} {hp : Hp}, hp b = some (.inr (4, [.ref (b + 1), .ref (b + 4), .ref (b + 7), .ref (b + 10), .int sd, .int mn, .int th])) → hp (b + 1) = some (.inr (2, [.ref (b + 2), .ref (b + 3), .int dc])) → hp (b + 2) = some (.inl (kC E 0, 6, .inl fc)) → hp (b + 7) = some (.inr (6, [.ref (b + 8), .ref (b + 9), .int tc])) → hp (b + 9) = some (.inl (kC E 0, 432, .inl fr)) → hp (b + 10) = some (.inr (8, [.ref (b + 11), .ref (b + 12), .int oc])) → hp (b + 11) = some (.inl (kC E 0, 36, .inl op)) → hp (b + 12) = some (.inl (kC E 0, 36, .inl os)) → (∀ q, q ≠ (b + 10) → q ≠ (b + 11) → q ≠ (b + 12) → hp q = hp0 q) → r10 l1 l2 oc op os = some out → AW E p l e ⟨3, 0, 0, 73⟩ s m args below meth c 4 (MQ below (kQc E (P_X2_holdAudit E b hp0 al out)) args s 0 0 (kA E)) hp al 0 0 10 [(0, .ref b), (1, .int l1), (2, .int l2)] []) : ∀ {l1 : Int32} {l2 : Int32} {oc : Int32} {op : Nat → Int32} {os : Nat → Int32} {hp : Hp}, hp b = some (.inr (4, [.ref (b + 1), .ref (b + 4), .ref (b + 7), .ref (b + 10), .int sd, .int mn, .int th])) → hp (b + 1) = some (.inr (2, [.ref (b + 2), .ref (b + 3), .int dc])) → hp (b + 2) = some (.inl (kC E 0, 6, .inl fc)) → hp (b + 7) = some (.inr (6, [.ref (b + 8), .ref (b + 9), .int tc])) → hp (b + 9) = some (.inl (kC E 0, 432, .inl fr)) → hp (b + 10) = some (.inr (8, [.ref (b + 11), .ref (b + 12), .int oc])) → hp (b + 11) = some (.inl (kC E 0, 36, .inl op)) → hp (b + 12) = some (.inl (kC E 0, 36, .inl os)) → (∀ q, q ≠ (b + 10) → q ≠ (b + 11) → q ≠ (b + 12) → hp q = hp0 q) → f_X2_holdAudit_L58 N mn th fc fr r10 l1 l2 oc op os = some out → AW E p l e ⟨3, 0, 0, 73⟩ s m args below meth c 4 (MQ below (kQc E (P_X2_holdAudit E b hp0 al out)) args s 0 0 (kA E)) hp al 0 0 58 [(0, .ref b), (1, .int l1), (2, .int l2)] [] := by
  intro l1 l2 oc op os hp g0 g1 g2 g7 g9 g10 g11 g12 hfr h
  unfold f_X2_holdAudit_L58 at h
  refine A_iinc (j := 2) (v := (l2 + 1)) (L' := [(2, .int (l2 + 1)), (0, .ref b), (1, .int l1)]) X dX2_holdAudit_58 rfl rfl (by decide) rfl ?_
  refine A_goto (tgt := 10) X dX2_holdAudit_61 (by decide) ?_
  refine A_sub (L' := [(0, .ref b), (1, .int l1), (2, .int (l2 + 1))]) [1, 2, 0] rfl ?_
  exact i10 g0 g1 g2 g7 g9 g10 g11 g12 (fun q z0 z1 z2 => (hfr q z0 z1 z2)) h
set_option maxHeartbeats 4000000 in
set_option maxRecDepth 100000 in
theorem c_X2_holdAudit_L10 {E : KE} {p : Program} {l : Launch} {e : Env} {s : State} {m : MethodId} {args : Array Value} {below : List Frame} {meth : Method} {c : Code} {al : Option Nat} {N : Nat} {b : Nat} {sd : Int32} {mn : Int32} {th : Int32} {dc : Int32} {fc : Nat → Int32} {tc : Int32} {fr : Nat → Int32} {hp0 : Hp} {out : Int32 × Int32 × (Nat → Int32) × (Nat → Int32)}  (X : CX E p l s m args meth c "DiceAudit$Hall" cX2_holdAudit 4) (hr : meth.sig.returnType = (Option.some Jvm.ClassFile.FieldType.int))   : ∀ (j : Nat), ∀ {l1 : Int32} {l2 : Int32} {oc : Int32} {op : Nat → Int32} {os : Nat → Int32} {hp : Hp}, hp b = some (.inr (4, [.ref (b + 1), .ref (b + 4), .ref (b + 7), .ref (b + 10), .int sd, .int mn, .int th])) → hp (b + 1) = some (.inr (2, [.ref (b + 2), .ref (b + 3), .int dc])) → hp (b + 2) = some (.inl (kC E 0, 6, .inl fc)) → hp (b + 7) = some (.inr (6, [.ref (b + 8), .ref (b + 9), .int tc])) → hp (b + 9) = some (.inl (kC E 0, 432, .inl fr)) → hp (b + 10) = some (.inr (8, [.ref (b + 11), .ref (b + 12), .int oc])) → hp (b + 11) = some (.inl (kC E 0, 36, .inl op)) → hp (b + 12) = some (.inl (kC E 0, 36, .inl os)) → (∀ q, q ≠ (b + 10) → q ≠ (b + 11) → q ≠ (b + 12) → hp q = hp0 q) → f_X2_holdAudit_L10 N mn th fc fr j l1 l2 oc op os = some out → AW E p l e ⟨3, 0, 0, 73⟩ s m args below meth c 4 (MQ below (kQc E (P_X2_holdAudit E b hp0 al out)) args s 0 0 (kA E)) hp al 0 0 10 [(0, .ref b), (1, .int l1), (2, .int l2)] [] := by
  intro j
  induction j with
  | zero =>
    intro l1 l2 oc op os hp g0 g1 g2 g7 g9 g10 g11 g12 hfr h
    have h : (none : Option (Int32 × Int32 × (Nat → Int32) × (Nat → Int32))) = some out := h
    cases h
  | succ j i10 =>
    intro l1 l2 oc op os hp g0 g1 g2 g7 g9 g10 g11 g12 hfr h
    have h : f_X2_holdAudit_L10_F N mn th fc fr (f_X2_holdAudit_L10 N mn th fc fr j) l1 l2 oc op os = some out := h
    unfold f_X2_holdAudit_L10_F at h
    refine A_iload_n X dX2_holdAudit_10 2 rfl ?_
    refine A_bipush (v := 36) X dX2_holdAudit_11 (by decide) ?_
    refine A_icmp_ge (tgt := 64) X dX2_holdAudit_13 h (by decide) (fun hc h => ?_) (fun hc h => ?_)
    · refine A_aload_n X dX2_holdAudit_64 0 rfl ?_
      refine A_get X dX2_holdAudit_65 kcl_X2 3 (by decide) kw_148 g0 rfl ?_
      refine A_get X dX2_holdAudit_68 kcl_X6 2 (by decide) kw_129 g10 rfl ?_
      refine A_iload_n X dX2_holdAudit_71 1 rfl ?_
      refine A_isub X dX2_holdAudit_72 ?_
      cases h
      exact A_iret X dX2_holdAudit_73 hr ⟨rfl, g10, g11, g12, (fun q z0 z1 z2 => (hfr q z0 z1 z2)), rfl⟩ (Nat.le_of_ble_eq_true rfl) (Nat.le_of_ble_eq_true rfl)
    · refine A_aload_n X dX2_holdAudit_16 0 rfl ?_
      refine A_iload_n X dX2_holdAudit_17 2 rfl ?_
      obtain ⟨t1, hct1, h⟩ := bind_o h
      refine A_cp (k' := 0) (n' := 0) (A_runV (rest := []) X dX2_holdAudit_18 (c_X2_pairScore g0 g1 g2 g7 g9  hct1) kY_X2_pairScore kw_518 g0 rfl rfl ⟨(Nat.le_of_ble_eq_true rfl), (Nat.le_of_ble_eq_true rfl), (Nat.le_of_ble_eq_true rfl), (Nat.le_of_ble_eq_true rfl)⟩ rfl (Nat.le_of_ble_eq_true rfl)) rfl rfl ?_
      refine A_istore_n (L' := [(3, .int t1), (0, .ref b), (1, .int l1), (2, .int l2)]) X dX2_holdAudit_21 rfl (by decide) rfl ?_
      refine A_aload_n X dX2_holdAudit_22 1 rfl ?_
      refine A_aload_n X dX2_holdAudit_23 1 rfl ?_
      refine A_get X dX2_holdAudit_24 kcl_X2 2 (by decide) kw_145 g0 rfl ?_
      refine A_iload_n X dX2_holdAudit_27 3 rfl ?_
      obtain ⟨t2, hct2, h⟩ := bind_o h
      refine A_cp (k' := 0) (n' := 0) (A_runV (rest := [.ref b]) X dX2_holdAudit_28 (c_X4_pairThrows g7 g9  hct2) kY_X4_pairThrows kw_532 g7 rfl rfl ⟨(Nat.le_of_ble_eq_true rfl), (Nat.le_of_ble_eq_true rfl), (Nat.le_of_ble_eq_true rfl), (Nat.le_of_ble_eq_true rfl)⟩ rfl (Nat.le_of_ble_eq_true rfl)) rfl rfl ?_
      refine A_iload_n X dX2_holdAudit_31 0 rfl ?_
      obtain ⟨t3, hct3, h⟩ := bind_o h
      refine A_c (k' := 0) (n' := 0) rfl rfl (A_runV (rest := []) X dX2_holdAudit_32 (c_X2_exceedsLimits g0  hct3) kY_X2_exceedsLimits kw_537 g0 rfl rfl ⟨(Nat.le_of_ble_eq_true rfl), (Nat.le_of_ble_eq_true rfl), (Nat.le_of_ble_eq_true rfl), (Nat.le_of_ble_eq_true rfl)⟩ rfl (Nat.le_of_ble_eq_true rfl)) (fun v9 hp1 al9 hP => ?_)
      obtain ⟨rfl, zt3, rfl, rfl⟩ := hP
      refine A_st (st' := [.int t3]) rfl ?_
      refine A_if_eq (tgt := 58) X dX2_holdAudit_35 h (by decide) (fun hc h => ?_) (fun hc h => ?_)
      · refine A_sub (L' := [(0, .ref b), (1, .int l1), (2, .int l2)]) [1, 2, 3] rfl ?_
        exact c_X2_holdAudit_L58 X hr i10 g0 g1 g2 g7 g9 g10 g11 g12 (fun q z0 z1 z2 => (hfr q z0 z1 z2)) h
      · refine A_aload_n X dX2_holdAudit_38 1 rfl ?_
        refine A_get X dX2_holdAudit_39 kcl_X2 3 (by decide) kw_148 g0 rfl ?_
        refine A_iload_n X dX2_holdAudit_42 3 rfl ?_
        obtain ⟨t4, hct4, h⟩ := bind_o h
        refine A_c (k' := 0) (n' := 0) rfl rfl (A_runV (rest := []) X dX2_holdAudit_43 (c_X6_has g10 g11  hct4) kY_X6_has kw_541 g10 rfl rfl ⟨(Nat.le_of_ble_eq_true rfl), (Nat.le_of_ble_eq_true rfl), (Nat.le_of_ble_eq_true rfl), (Nat.le_of_ble_eq_true rfl)⟩ rfl (Nat.le_of_ble_eq_true rfl)) (fun v9 hp1 al9 hP => ?_)
        obtain ⟨rfl, zt4, rfl, rfl⟩ := hP
        refine A_st (st' := [.int t4]) rfl ?_
        refine A_if_ne (tgt := 58) X dX2_holdAudit_46 h (by decide) (fun hc h => ?_) (fun hc h => ?_)
        · refine A_sub (L' := [(0, .ref b), (1, .int l1), (2, .int l2)]) [1, 2, 3] rfl ?_
          exact c_X2_holdAudit_L58 X hr i10 g0 g1 g2 g7 g9 g10 g11 g12 (fun q z0 z1 z2 => (hfr q z0 z1 z2)) h
        · refine A_aload_n X dX2_holdAudit_49 1 rfl ?_
          refine A_get X dX2_holdAudit_50 kcl_X2 3 (by decide) kw_148 g0 rfl ?_
          refine A_iload_n X dX2_holdAudit_53 3 rfl ?_
          refine A_iload_n X dX2_holdAudit_54 0 rfl ?_
          obtain ⟨t5, hct5, h⟩ := bind_o h
          refine A_c (k' := 0) (n' := 0) rfl rfl (A_runV (rest := []) X dX2_holdAudit_55 (c_X6_add g10 g11 g12  hct5) kY_X6_add kw_546 g10 rfl rfl ⟨(Nat.le_of_ble_eq_true rfl), (Nat.le_of_ble_eq_true rfl), (Nat.le_of_ble_eq_true rfl), (Nat.le_of_ble_eq_true rfl)⟩ rfl (Nat.le_of_ble_eq_true rfl)) (fun v9 hp1 al9 hP => ?_)
          obtain ⟨rfl, k1_0, k1_1, k1_2, n1, rfl⟩ := hP
          replace k1_0 : hp1 (b + 10) = some (.inr (8, [.ref (b + 11), .ref (b + 12), .int t5.1])) := k1_0
          replace k1_1 : hp1 (b + 11) = some (.inl (kC E 0, 36, .inl t5.2.1)) := k1_1
          replace k1_2 : hp1 (b + 12) = some (.inl (kC E 0, 36, .inl t5.2.2)) := k1_2
          refine A_st (st' := []) rfl ?_
          refine A_sub (L' := [(0, .ref b), (1, .int l1), (2, .int l2)]) [1, 2, 3] rfl ?_
          exact c_X2_holdAudit_L58 X hr i10 ((n1 _ (by omega) (by omega) (by omega)).trans g0) ((n1 _ (by omega) (by omega) (by omega)).trans g1) ((n1 _ (by omega) (by omega) (by omega)).trans g2) ((n1 _ (by omega) (by omega) (by omega)).trans g7) ((n1 _ (by omega) (by omega) (by omega)).trans g9) k1_0 k1_1 k1_2 (fun q z0 z1 z2 => ((n1 q z0 z1 z2).trans (hfr q z0 z1 z2))) h
set_option maxHeartbeats 4000000 in
set_option maxRecDepth 100000 in
theorem c_X2_holdAudit {E : KE} {l : Launch} {hp : Hp} {al : Option Nat} {N : Nat} {b : Nat} {sd : Int32} {mn : Int32} {th : Int32} {dc : Int32} {fc : Nat → Int32} {tc : Int32} {fr : Nat → Int32} {oc : Int32} {op : Nat → Int32} {os : Nat → Int32}  {out : Int32 × Int32 × (Nat → Int32) × (Nat → Int32)} (g0 : hp b = some (.inr (4, [.ref (b + 1), .ref (b + 4), .ref (b + 7), .ref (b + 10), .int sd, .int mn, .int th]))) (g1 : hp (b + 1) = some (.inr (2, [.ref (b + 2), .ref (b + 3), .int dc]))) (g2 : hp (b + 2) = some (.inl (kC E 0, 6, .inl fc))) (g7 : hp (b + 7) = some (.inr (6, [.ref (b + 8), .ref (b + 9), .int tc]))) (g9 : hp (b + 9) = some (.inl (kC E 0, 432, .inl fr))) (g10 : hp (b + 10) = some (.inr (8, [.ref (b + 11), .ref (b + 12), .int oc]))) (g11 : hp (b + 11) = some (.inl (kC E 0, 36, .inl op))) (g12 : hp (b + 12) = some (.inl (kC E 0, 36, .inl os)))  (h : f_X2_holdAudit N mn th fc fr oc op os = some out) : AM E l yX2_holdAudit cX2_holdAudit 4 (Option.some Jvm.ClassFile.FieldType.int) ⟨3, 0, 0, 73⟩ [.ref b] hp al (P_X2_holdAudit E b hp al out) := by
  refine A_of (by decide +kernel) (Nat.le_of_ble_eq_true rfl) ?_
  intro p e s m args below meth c X hr hnm
  have X : CX E p l s m args meth c "DiceAudit$Hall" cX2_holdAudit 4 := X
  refine A_L (L' := [(0, .ref b)]) rfl ?_
  unfold f_X2_holdAudit at h
  refine A_aload_n X dX2_holdAudit_0 0 rfl ?_
  refine A_get X dX2_holdAudit_1 kcl_X2 3 (by decide) kw_148 g0 rfl ?_
  refine A_get X dX2_holdAudit_4 kcl_X6 2 (by decide) kw_129 g10 rfl ?_
  refine A_istore_n (L' := [(1, .int oc), (0, .ref b)]) X dX2_holdAudit_7 rfl (by decide) rfl ?_
  refine A_iconst (v := 0) X dX2_holdAudit_8 (by decide) ?_
  refine A_istore_n (L' := [(2, .int 0), (1, .int oc), (0, .ref b)]) X dX2_holdAudit_9 rfl (by decide) rfl ?_
  refine A_sub (L' := [(0, .ref b), (1, .int oc), (2, .int 0)]) [2, 1, 0] rfl ?_
  exact c_X2_holdAudit_L10 X hr  N g0 g1 g2 g7 g9 g10 g11 g12 (fun q z0 z1 z2 => rfl) h
set_option maxHeartbeats 4000000 in
set_option maxRecDepth 100000 in
theorem c_X2_penanceSize {E : KE} {l : Launch} {hp : Hp} {al : Option Nat} {N : Nat} {b : Nat} {sd : Int32} {mn : Int32} {th : Int32} {tc : Int32} {fr : Nat → Int32} {oc : Int32} {op : Nat → Int32} {os : Nat → Int32}  {out : Int32} (g0 : hp b = some (.inr (4, [.ref (b + 1), .ref (b + 4), .ref (b + 7), .ref (b + 10), .int sd, .int mn, .int th]))) (g7 : hp (b + 7) = some (.inr (6, [.ref (b + 8), .ref (b + 9), .int tc]))) (g9 : hp (b + 9) = some (.inl (kC E 0, 432, .inl fr))) (g10 : hp (b + 10) = some (.inr (8, [.ref (b + 11), .ref (b + 12), .int oc]))) (g11 : hp (b + 11) = some (.inl (kC E 0, 36, .inl op))) (g12 : hp (b + 12) = some (.inl (kC E 0, 36, .inl os)))  (h : f_X2_penanceSize N fr oc op os = some out) : AM E l yX2_penanceSize cX2_penanceSize 1 (Option.some Jvm.ClassFile.FieldType.int) ⟨2, 0, 0, 46⟩ [.ref b] hp al (kRet out hp al) := by
  refine A_of (by decide +kernel) (Nat.le_of_ble_eq_true rfl) ?_
  intro p e s m args below meth c X hr hnm
  have X : CX E p l s m args meth c "DiceAudit$Hall" cX2_penanceSize 1 := X
  refine A_L (L' := [(0, .ref b)]) rfl ?_
  unfold f_X2_penanceSize at h
  refine A_aload_n X dX2_penanceSize_0 0 rfl ?_
  refine A_get X dX2_penanceSize_1 kcl_X2 3 (by decide) kw_148 g0 rfl ?_
  refine A_get X dX2_penanceSize_4 kcl_X6 2 (by decide) kw_129 g10 rfl ?_
  refine A_if_ne (tgt := 12) X dX2_penanceSize_7 h (by decide) (fun hc h => ?_) (fun hc h => ?_)
  · refine A_aload_n X dX2_penanceSize_12 0 rfl ?_
    refine A_get X dX2_penanceSize_13 kcl_X2 3 (by decide) kw_148 g0 rfl ?_
    refine A_get X dX2_penanceSize_16 kcl_X6 1 (by decide) kw_126 g10 rfl ?_
    refine A_iconst (v := 0) X dX2_penanceSize_19 (by decide) ?_
    obtain ⟨t1, hct1, h⟩ := bind_o h
    refine A_cp (k' := 0) (n' := 0) (A_runSN (rest := []) X dX2_penanceSize_20 (c_X10_at g12  hct1) kY_X10_at kw_572 ⟨(Nat.le_of_ble_eq_true rfl), (Nat.le_of_ble_eq_true rfl), (Nat.le_of_ble_eq_true rfl), (Nat.le_of_ble_eq_true rfl)⟩ rfl (Nat.le_of_ble_eq_true rfl)) rfl rfl ?_
    refine A_aload_n X dX2_penanceSize_23 0 rfl ?_
    refine A_get X dX2_penanceSize_24 kcl_X2 2 (by decide) kw_145 g0 rfl ?_
    refine A_aload_n X dX2_penanceSize_27 0 rfl ?_
    refine A_get X dX2_penanceSize_28 kcl_X2 3 (by decide) kw_148 g0 rfl ?_
    refine A_get X dX2_penanceSize_31 kcl_X6 0 (by decide) kw_123 g10 rfl ?_
    refine A_iconst (v := 0) X dX2_penanceSize_34 (by decide) ?_
    obtain ⟨t2, hct2, h⟩ := bind_o h
    refine A_cp (k' := 0) (n' := 0) (A_runSN (rest := [.ref (b + 7), .int t1]) X dX2_penanceSize_35 (c_X10_at g11  hct2) kY_X10_at kw_572 ⟨(Nat.le_of_ble_eq_true rfl), (Nat.le_of_ble_eq_true rfl), (Nat.le_of_ble_eq_true rfl), (Nat.le_of_ble_eq_true rfl)⟩ rfl (Nat.le_of_ble_eq_true rfl)) rfl rfl ?_
    obtain ⟨t3, hct3, h⟩ := bind_o h
    refine A_cp (k' := 0) (n' := 0) (A_runV (rest := [.int t1]) X dX2_penanceSize_38 (c_X4_pairThrows g7 g9  hct3) kY_X4_pairThrows kw_532 g7 rfl rfl ⟨(Nat.le_of_ble_eq_true rfl), (Nat.le_of_ble_eq_true rfl), (Nat.le_of_ble_eq_true rfl), (Nat.le_of_ble_eq_true rfl)⟩ rfl (Nat.le_of_ble_eq_true rfl)) rfl rfl ?_
    refine A_mmin X dX2_penanceSize_41 kw_573 kw_354 kw_16 kw_355 (Nat.le_of_ble_eq_true rfl) (Nat.le_of_ble_eq_true rfl) (Nat.le_of_ble_eq_true rfl) (Nat.le_of_ble_eq_true rfl) ?_
    cases h
    exact A_iret X dX2_penanceSize_44 hr ⟨rfl, rfl, rfl⟩ (Nat.le_of_ble_eq_true rfl) (Nat.le_of_ble_eq_true rfl)
  · refine A_iconst (v := 0) X dX2_penanceSize_10 (by decide) ?_
    cases h
    exact A_iret X dX2_penanceSize_11 hr ⟨rfl, rfl, rfl⟩ (Nat.le_of_ble_eq_true rfl) (Nat.le_of_ble_eq_true rfl)
abbrev P_X2_doPenance (E : KE) (b : Nat) (mn : Int32) (th : Int32) (hp : Hp) (al : Option Nat) (out : Int32 × Int32 × Int32 × (Nat → Int32) × (Nat → Int32) × Int32 × (Nat → Int32) × (Nat → Int32)) : Option Value → Hp → Option Nat → Prop := fun v0 hp' al' => v0 = some (.int out.1) ∧ hp' b = some (.inr (4, [.ref (b + 1), .ref (b + 4), .ref (b + 7), .ref (b + 10), .int out.2.1, .int mn, .int th])) ∧ hp' (b + 7) = some (.inr (6, [.ref (b + 8), .ref (b + 9), .int out.2.2.1])) ∧ hp' (b + 8) = some (.inl (kC E 0, 300, .inl out.2.2.2.1)) ∧ hp' (b + 9) = some (.inl (kC E 0, 432, .inl out.2.2.2.2.1)) ∧ hp' (b + 10) = some (.inr (8, [.ref (b + 11), .ref (b + 12), .int out.2.2.2.2.2.1])) ∧ hp' (b + 11) = some (.inl (kC E 0, 36, .inl out.2.2.2.2.2.2.1)) ∧ hp' (b + 12) = some (.inl (kC E 0, 36, .inl out.2.2.2.2.2.2.2)) ∧ (∀ q, q ≠ b → q ≠ (b + 7) → q ≠ (b + 8) → q ≠ (b + 9) → q ≠ (b + 10) → q ≠ (b + 11) → q ≠ (b + 12) → hp' q = hp q) ∧ al = al'
set_option maxHeartbeats 4000000 in
set_option maxRecDepth 100000 in
theorem c_X2_doPenance {E : KE} {l : Launch} {hp : Hp} {al : Option Nat} {N : Nat} {b : Nat} {sd : Int32} {mn : Int32} {th : Int32} {dc : Int32} {fc : Nat → Int32} {dw : Nat → Int32} {tc : Int32} {en : Nat → Int32} {fr : Nat → Int32} {oc : Int32} {op : Nat → Int32} {os : Nat → Int32}  {out : Int32 × Int32 × Int32 × (Nat → Int32) × (Nat → Int32) × Int32 × (Nat → Int32) × (Nat → Int32)} (g0 : hp b = some (.inr (4, [.ref (b + 1), .ref (b + 4), .ref (b + 7), .ref (b + 10), .int sd, .int mn, .int th]))) (g1 : hp (b + 1) = some (.inr (2, [.ref (b + 2), .ref (b + 3), .int dc]))) (g2 : hp (b + 2) = some (.inl (kC E 0, 6, .inl fc))) (g3 : hp (b + 3) = some (.inl (kC E 0, 72, .inl dw))) (g7 : hp (b + 7) = some (.inr (6, [.ref (b + 8), .ref (b + 9), .int tc]))) (g8 : hp (b + 8) = some (.inl (kC E 0, 300, .inl en))) (g9 : hp (b + 9) = some (.inl (kC E 0, 432, .inl fr))) (g10 : hp (b + 10) = some (.inr (8, [.ref (b + 11), .ref (b + 12), .int oc]))) (g11 : hp (b + 11) = some (.inl (kC E 0, 36, .inl op))) (g12 : hp (b + 12) = some (.inl (kC E 0, 36, .inl os)))  (h : f_X2_doPenance N fc dw sd tc en fr oc op os = some out) : AM E l yX2_doPenance cX2_doPenance 3 (Option.some Jvm.ClassFile.FieldType.int) ⟨3, 0, 0, 79⟩ [.ref b] hp al (P_X2_doPenance E b mn th hp al out) := by
  refine A_of (by decide +kernel) (Nat.le_of_ble_eq_true rfl) ?_
  intro p e s m args below meth c X hr hnm
  have X : CX E p l s m args meth c "DiceAudit$Hall" cX2_doPenance 3 := X
  refine A_L (L' := [(0, .ref b)]) rfl ?_
  unfold f_X2_doPenance at h
  refine A_aload_n X dX2_doPenance_0 0 rfl ?_
  obtain ⟨t1, hct1, h⟩ := bind_o h
  refine A_cp (k' := 0) (n' := 0) (A_runV (rest := []) X dX2_doPenance_1 (c_X2_penanceSize g0 g7 g9 g10 g11 g12  hct1) kY_X2_penanceSize kw_568 g0 rfl rfl ⟨(Nat.le_of_ble_eq_true rfl), (Nat.le_of_ble_eq_true rfl), (Nat.le_of_ble_eq_true rfl), (Nat.le_of_ble_eq_true rfl)⟩ rfl (Nat.le_of_ble_eq_true rfl)) rfl rfl ?_
  refine A_istore_n (L' := [(1, .int t1), (0, .ref b)]) X dX2_doPenance_4 rfl (by decide) rfl ?_
  refine A_aload_n X dX2_doPenance_5 1 rfl ?_
  refine A_get X dX2_doPenance_6 kcl_X2 3 (by decide) kw_148 g0 rfl ?_
  refine A_get X dX2_doPenance_9 kcl_X6 0 (by decide) kw_123 g10 rfl ?_
  refine A_iconst (v := 0) X dX2_doPenance_12 (by decide) ?_
  obtain ⟨t2, hct2, h⟩ := bind_o h
  refine A_cp (k' := 0) (n' := 0) (A_runSN (rest := []) X dX2_doPenance_13 (c_X10_at g11  hct2) kY_X10_at kw_572 ⟨(Nat.le_of_ble_eq_true rfl), (Nat.le_of_ble_eq_true rfl), (Nat.le_of_ble_eq_true rfl), (Nat.le_of_ble_eq_true rfl)⟩ rfl (Nat.le_of_ble_eq_true rfl)) rfl rfl ?_
  refine A_istore_n (L' := [(2, .int t2), (1, .int t1), (0, .ref b)]) X dX2_doPenance_16 rfl (by decide) rfl ?_
  refine A_aload_n X dX2_doPenance_17 2 rfl ?_
  refine A_get X dX2_doPenance_18 kcl_X2 3 (by decide) kw_148 g0 rfl ?_
  obtain ⟨t3, hct3, h⟩ := bind_o h
  refine A_c (k' := 0) (n' := 0) rfl rfl (A_runV (rest := []) X dX2_doPenance_21 (c_X6_removeFirst g10 g11 g12  hct3) kY_X6_removeFirst kw_574 g10 rfl rfl ⟨(Nat.le_of_ble_eq_true rfl), (Nat.le_of_ble_eq_true rfl), (Nat.le_of_ble_eq_true rfl), (Nat.le_of_ble_eq_true rfl)⟩ rfl (Nat.le_of_ble_eq_true rfl)) (fun v9 hp1 al9 hP => ?_)
  obtain ⟨rfl, k1_0, k1_1, k1_2, n1, rfl⟩ := hP
  replace k1_0 : hp1 (b + 10) = some (.inr (8, [.ref (b + 11), .ref (b + 12), .int t3.1])) := k1_0
  replace k1_1 : hp1 (b + 11) = some (.inl (kC E 0, 36, .inl t3.2.1)) := k1_1
  replace k1_2 : hp1 (b + 12) = some (.inl (kC E 0, 36, .inl t3.2.2)) := k1_2
  refine A_st (st' := []) rfl ?_
  refine A_aload_n X dX2_doPenance_24 2 rfl ?_
  refine A_get X dX2_doPenance_25 kcl_X2 2 (by decide) kw_145 ((n1 _ (by omega) (by omega) (by omega)).trans g0) rfl ?_
  refine A_iload_n X dX2_doPenance_28 0 rfl ?_
  refine A_iload_n X dX2_doPenance_29 1 rfl ?_
  obtain ⟨t4, hct4, h⟩ := bind_o h
  refine A_c (k' := 0) (n' := 0) rfl rfl (A_runV (rest := []) X dX2_doPenance_30 (c_X4_removeLatest ((n1 _ (by omega) (by omega) (by omega)).trans g7) ((n1 _ (by omega) (by omega) (by omega)).trans g8) ((n1 _ (by omega) (by omega) (by omega)).trans g9)  hct4) kY_X4_removeLatest kw_581 ((n1 _ (by omega) (by omega) (by omega)).trans g7) rfl rfl ⟨(Nat.le_of_ble_eq_true rfl), (Nat.le_of_ble_eq_true rfl), (Nat.le_of_ble_eq_true rfl), (Nat.le_of_ble_eq_true rfl)⟩ rfl (Nat.le_of_ble_eq_true rfl)) (fun v9 hp2 al9 hP => ?_)
  obtain ⟨rfl, k2_0, k2_1, k2_2, n2, rfl⟩ := hP
  replace k2_0 : hp2 (b + 7) = some (.inr (6, [.ref (b + 8), .ref (b + 9), .int t4.1])) := k2_0
  replace k2_1 : hp2 (b + 8) = some (.inl (kC E 0, 300, .inl t4.2.1)) := k2_1
  replace k2_2 : hp2 (b + 9) = some (.inl (kC E 0, 432, .inl t4.2.2)) := k2_2
  refine A_st (st' := []) rfl ?_
  refine A_aload_n X dX2_doPenance_33 2 rfl ?_
  refine A_iload_n X dX2_doPenance_34 0 rfl ?_
  refine A_iload_n X dX2_doPenance_35 1 rfl ?_
  refine A_iconst (v := 1) X dX2_doPenance_36 (by decide) ?_
  obtain ⟨t5, hct5, h⟩ := bind_o h
  refine A_c (k' := 0) (n' := 0) rfl rfl (A_runV (rest := []) X dX2_doPenance_37 (c_X2_makeThrows ((n2 _ (by omega) (by omega) (by omega)).trans ((n1 _ (by omega) (by omega) (by omega)).trans g0)) ((n2 _ (by omega) (by omega) (by omega)).trans ((n1 _ (by omega) (by omega) (by omega)).trans g1)) ((n2 _ (by omega) (by omega) (by omega)).trans ((n1 _ (by omega) (by omega) (by omega)).trans g2)) ((n2 _ (by omega) (by omega) (by omega)).trans ((n1 _ (by omega) (by omega) (by omega)).trans g3)) k2_0 k2_1 k2_2  hct5) kY_X2_makeThrows kw_600 ((n2 _ (by omega) (by omega) (by omega)).trans ((n1 _ (by omega) (by omega) (by omega)).trans g0)) rfl rfl ⟨(Nat.le_of_ble_eq_true rfl), (Nat.le_of_ble_eq_true rfl), (Nat.le_of_ble_eq_true rfl), (Nat.le_of_ble_eq_true rfl)⟩ rfl (Nat.le_of_ble_eq_true rfl)) (fun v9 hp3 al9 hP => ?_)
  obtain ⟨rfl, k3_0, k3_1, k3_2, k3_3, n3, rfl⟩ := hP
  replace k3_0 : hp3 b = some (.inr (4, [.ref (b + 1), .ref (b + 4), .ref (b + 7), .ref (b + 10), .int t5.2.1, .int mn, .int th])) := k3_0
  replace k3_1 : hp3 (b + 7) = some (.inr (6, [.ref (b + 8), .ref (b + 9), .int t5.2.2.1])) := k3_1
  replace k3_2 : hp3 (b + 8) = some (.inl (kC E 0, 300, .inl t5.2.2.2.1)) := k3_2
  replace k3_3 : hp3 (b + 9) = some (.inl (kC E 0, 432, .inl t5.2.2.2.2)) := k3_3
  refine A_st (st' := [.int t5.1]) rfl ?_
  cases h
  exact A_iret X dX2_doPenance_40 hr ⟨rfl, k3_0, k3_1, k3_2, k3_3, ((n3 _ (by omega) (by omega) (by omega) (by omega)).trans ((n2 _ (by omega) (by omega) (by omega)).trans k1_0)), ((n3 _ (by omega) (by omega) (by omega) (by omega)).trans ((n2 _ (by omega) (by omega) (by omega)).trans k1_1)), ((n3 _ (by omega) (by omega) (by omega) (by omega)).trans ((n2 _ (by omega) (by omega) (by omega)).trans k1_2)), (fun q z0 z1 z2 z3 z4 z5 z6 => ((n3 q z0 z1 z2 z3).trans ((n2 q z1 z2 z3).trans (n1 q z4 z5 z6)))), rfl⟩ (Nat.le_of_ble_eq_true rfl) (Nat.le_of_ble_eq_true rfl)
abbrev P_X3_init (E : KE) (x : Nat)  (hp : Hp) : Option Value → Hp → Option Nat → Prop := fun v0 hp' al' => v0 = none ∧ hp' (x + 18) = some (.inr (5, [.ref (x + 19), .int 0, .int 0])) ∧ hp' (x + 19) = some (.inl (kC E 5, 8, .inr (.inr (.inr (.inr (va_up (va_up (va_up (va_up (va_up (va_up (va_up (va_up (fun _ => none) (Int32.toNatClampNeg 0) (some (x + 20))) (Int32.toNatClampNeg 1) (some (x + 33))) (Int32.toNatClampNeg 2) (some (x + 46))) (Int32.toNatClampNeg 3) (some (x + 59))) (Int32.toNatClampNeg 4) (some (x + 72))) (Int32.toNatClampNeg 5) (some (x + 85))) (Int32.toNatClampNeg 6) (some (x + 98))) (Int32.toNatClampNeg 7) (some (x + 111)))))))) ∧ hp' (x + 20) = some (.inr (4, [.ref (x + 21), .ref (x + 24), .ref (x + 27), .ref (x + 30), .int 0, .int 1, .int 0])) ∧ hp' (x + 21) = some (.inr (2, [.ref (x + 22), .ref (x + 23), .int 0])) ∧ hp' (x + 22) = some (.inl (kC E 0, 6, .inl (fun _ => 0))) ∧ hp' (x + 23) = some (.inl (kC E 0, 72, .inl (fun _ => 0))) ∧ hp' (x + 24) = some (.inr (9, [.ref (x + 25), .ref (x + 26), .int 0])) ∧ hp' (x + 25) = some (.inl (kC E 0, 6, .inl (fun _ => 0))) ∧ hp' (x + 26) = some (.inl (kC E 0, 24, .inl (fun _ => 0))) ∧ hp' (x + 27) = some (.inr (6, [.ref (x + 28), .ref (x + 29), .int 0])) ∧ hp' (x + 28) = some (.inl (kC E 0, 300, .inl (fun _ => 0))) ∧ hp' (x + 29) = some (.inl (kC E 0, 432, .inl (fun _ => 0))) ∧ hp' (x + 30) = some (.inr (8, [.ref (x + 31), .ref (x + 32), .int 0])) ∧ hp' (x + 31) = some (.inl (kC E 0, 36, .inl (fun _ => 0))) ∧ hp' (x + 32) = some (.inl (kC E 0, 36, .inl (fun _ => 0))) ∧ hp' (x + 33) = some (.inr (4, [.ref (x + 34), .ref (x + 37), .ref (x + 40), .ref (x + 43), .int 0, .int 1, .int 0])) ∧ hp' (x + 34) = some (.inr (2, [.ref (x + 35), .ref (x + 36), .int 0])) ∧ hp' (x + 35) = some (.inl (kC E 0, 6, .inl (fun _ => 0))) ∧ hp' (x + 36) = some (.inl (kC E 0, 72, .inl (fun _ => 0))) ∧ hp' (x + 37) = some (.inr (9, [.ref (x + 38), .ref (x + 39), .int 0])) ∧ hp' (x + 38) = some (.inl (kC E 0, 6, .inl (fun _ => 0))) ∧ hp' (x + 39) = some (.inl (kC E 0, 24, .inl (fun _ => 0))) ∧ hp' (x + 40) = some (.inr (6, [.ref (x + 41), .ref (x + 42), .int 0])) ∧ hp' (x + 41) = some (.inl (kC E 0, 300, .inl (fun _ => 0))) ∧ hp' (x + 42) = some (.inl (kC E 0, 432, .inl (fun _ => 0))) ∧ hp' (x + 43) = some (.inr (8, [.ref (x + 44), .ref (x + 45), .int 0])) ∧ hp' (x + 44) = some (.inl (kC E 0, 36, .inl (fun _ => 0))) ∧ hp' (x + 45) = some (.inl (kC E 0, 36, .inl (fun _ => 0))) ∧ hp' (x + 46) = some (.inr (4, [.ref (x + 47), .ref (x + 50), .ref (x + 53), .ref (x + 56), .int 0, .int 1, .int 0])) ∧ hp' (x + 47) = some (.inr (2, [.ref (x + 48), .ref (x + 49), .int 0])) ∧ hp' (x + 48) = some (.inl (kC E 0, 6, .inl (fun _ => 0))) ∧ hp' (x + 49) = some (.inl (kC E 0, 72, .inl (fun _ => 0))) ∧ hp' (x + 50) = some (.inr (9, [.ref (x + 51), .ref (x + 52), .int 0])) ∧ hp' (x + 51) = some (.inl (kC E 0, 6, .inl (fun _ => 0))) ∧ hp' (x + 52) = some (.inl (kC E 0, 24, .inl (fun _ => 0))) ∧ hp' (x + 53) = some (.inr (6, [.ref (x + 54), .ref (x + 55), .int 0])) ∧ hp' (x + 54) = some (.inl (kC E 0, 300, .inl (fun _ => 0))) ∧ hp' (x + 55) = some (.inl (kC E 0, 432, .inl (fun _ => 0))) ∧ hp' (x + 56) = some (.inr (8, [.ref (x + 57), .ref (x + 58), .int 0])) ∧ hp' (x + 57) = some (.inl (kC E 0, 36, .inl (fun _ => 0))) ∧ hp' (x + 58) = some (.inl (kC E 0, 36, .inl (fun _ => 0))) ∧ hp' (x + 59) = some (.inr (4, [.ref (x + 60), .ref (x + 63), .ref (x + 66), .ref (x + 69), .int 0, .int 1, .int 0])) ∧ hp' (x + 60) = some (.inr (2, [.ref (x + 61), .ref (x + 62), .int 0])) ∧ hp' (x + 61) = some (.inl (kC E 0, 6, .inl (fun _ => 0))) ∧ hp' (x + 62) = some (.inl (kC E 0, 72, .inl (fun _ => 0))) ∧ hp' (x + 63) = some (.inr (9, [.ref (x + 64), .ref (x + 65), .int 0])) ∧ hp' (x + 64) = some (.inl (kC E 0, 6, .inl (fun _ => 0))) ∧ hp' (x + 65) = some (.inl (kC E 0, 24, .inl (fun _ => 0))) ∧ hp' (x + 66) = some (.inr (6, [.ref (x + 67), .ref (x + 68), .int 0])) ∧ hp' (x + 67) = some (.inl (kC E 0, 300, .inl (fun _ => 0))) ∧ hp' (x + 68) = some (.inl (kC E 0, 432, .inl (fun _ => 0))) ∧ hp' (x + 69) = some (.inr (8, [.ref (x + 70), .ref (x + 71), .int 0])) ∧ hp' (x + 70) = some (.inl (kC E 0, 36, .inl (fun _ => 0))) ∧ hp' (x + 71) = some (.inl (kC E 0, 36, .inl (fun _ => 0))) ∧ hp' (x + 72) = some (.inr (4, [.ref (x + 73), .ref (x + 76), .ref (x + 79), .ref (x + 82), .int 0, .int 1, .int 0])) ∧ hp' (x + 73) = some (.inr (2, [.ref (x + 74), .ref (x + 75), .int 0])) ∧ hp' (x + 74) = some (.inl (kC E 0, 6, .inl (fun _ => 0))) ∧ hp' (x + 75) = some (.inl (kC E 0, 72, .inl (fun _ => 0))) ∧ hp' (x + 76) = some (.inr (9, [.ref (x + 77), .ref (x + 78), .int 0])) ∧ hp' (x + 77) = some (.inl (kC E 0, 6, .inl (fun _ => 0))) ∧ hp' (x + 78) = some (.inl (kC E 0, 24, .inl (fun _ => 0))) ∧ hp' (x + 79) = some (.inr (6, [.ref (x + 80), .ref (x + 81), .int 0])) ∧ hp' (x + 80) = some (.inl (kC E 0, 300, .inl (fun _ => 0))) ∧ hp' (x + 81) = some (.inl (kC E 0, 432, .inl (fun _ => 0))) ∧ hp' (x + 82) = some (.inr (8, [.ref (x + 83), .ref (x + 84), .int 0])) ∧ hp' (x + 83) = some (.inl (kC E 0, 36, .inl (fun _ => 0))) ∧ hp' (x + 84) = some (.inl (kC E 0, 36, .inl (fun _ => 0))) ∧ hp' (x + 85) = some (.inr (4, [.ref (x + 86), .ref (x + 89), .ref (x + 92), .ref (x + 95), .int 0, .int 1, .int 0])) ∧ hp' (x + 86) = some (.inr (2, [.ref (x + 87), .ref (x + 88), .int 0])) ∧ hp' (x + 87) = some (.inl (kC E 0, 6, .inl (fun _ => 0))) ∧ hp' (x + 88) = some (.inl (kC E 0, 72, .inl (fun _ => 0))) ∧ hp' (x + 89) = some (.inr (9, [.ref (x + 90), .ref (x + 91), .int 0])) ∧ hp' (x + 90) = some (.inl (kC E 0, 6, .inl (fun _ => 0))) ∧ hp' (x + 91) = some (.inl (kC E 0, 24, .inl (fun _ => 0))) ∧ hp' (x + 92) = some (.inr (6, [.ref (x + 93), .ref (x + 94), .int 0])) ∧ hp' (x + 93) = some (.inl (kC E 0, 300, .inl (fun _ => 0))) ∧ hp' (x + 94) = some (.inl (kC E 0, 432, .inl (fun _ => 0))) ∧ hp' (x + 95) = some (.inr (8, [.ref (x + 96), .ref (x + 97), .int 0])) ∧ hp' (x + 96) = some (.inl (kC E 0, 36, .inl (fun _ => 0))) ∧ hp' (x + 97) = some (.inl (kC E 0, 36, .inl (fun _ => 0))) ∧ hp' (x + 98) = some (.inr (4, [.ref (x + 99), .ref (x + 102), .ref (x + 105), .ref (x + 108), .int 0, .int 1, .int 0])) ∧ hp' (x + 99) = some (.inr (2, [.ref (x + 100), .ref (x + 101), .int 0])) ∧ hp' (x + 100) = some (.inl (kC E 0, 6, .inl (fun _ => 0))) ∧ hp' (x + 101) = some (.inl (kC E 0, 72, .inl (fun _ => 0))) ∧ hp' (x + 102) = some (.inr (9, [.ref (x + 103), .ref (x + 104), .int 0])) ∧ hp' (x + 103) = some (.inl (kC E 0, 6, .inl (fun _ => 0))) ∧ hp' (x + 104) = some (.inl (kC E 0, 24, .inl (fun _ => 0))) ∧ hp' (x + 105) = some (.inr (6, [.ref (x + 106), .ref (x + 107), .int 0])) ∧ hp' (x + 106) = some (.inl (kC E 0, 300, .inl (fun _ => 0))) ∧ hp' (x + 107) = some (.inl (kC E 0, 432, .inl (fun _ => 0))) ∧ hp' (x + 108) = some (.inr (8, [.ref (x + 109), .ref (x + 110), .int 0])) ∧ hp' (x + 109) = some (.inl (kC E 0, 36, .inl (fun _ => 0))) ∧ hp' (x + 110) = some (.inl (kC E 0, 36, .inl (fun _ => 0))) ∧ hp' (x + 111) = some (.inr (4, [.ref (x + 112), .ref (x + 115), .ref (x + 118), .ref (x + 121), .int 0, .int 1, .int 0])) ∧ hp' (x + 112) = some (.inr (2, [.ref (x + 113), .ref (x + 114), .int 0])) ∧ hp' (x + 113) = some (.inl (kC E 0, 6, .inl (fun _ => 0))) ∧ hp' (x + 114) = some (.inl (kC E 0, 72, .inl (fun _ => 0))) ∧ hp' (x + 115) = some (.inr (9, [.ref (x + 116), .ref (x + 117), .int 0])) ∧ hp' (x + 116) = some (.inl (kC E 0, 6, .inl (fun _ => 0))) ∧ hp' (x + 117) = some (.inl (kC E 0, 24, .inl (fun _ => 0))) ∧ hp' (x + 118) = some (.inr (6, [.ref (x + 119), .ref (x + 120), .int 0])) ∧ hp' (x + 119) = some (.inl (kC E 0, 300, .inl (fun _ => 0))) ∧ hp' (x + 120) = some (.inl (kC E 0, 432, .inl (fun _ => 0))) ∧ hp' (x + 121) = some (.inr (8, [.ref (x + 122), .ref (x + 123), .int 0])) ∧ hp' (x + 122) = some (.inl (kC E 0, 36, .inl (fun _ => 0))) ∧ hp' (x + 123) = some (.inl (kC E 0, 36, .inl (fun _ => 0))) ∧ (∀ q, (q < (x + 18) ∨ (x + 124) ≤ q) → hp' q = hp q) ∧ some (x + 124) = al'
set_option maxHeartbeats 8000000 in
set_option maxRecDepth 100000 in
theorem c_X3_init {E : KE} {l : Launch} {hp : Hp} {x : Nat} (g0 : hp (x + 18) = some (.inr (5, [.null, .int 0, .int 0])))  : AM E l yX3_init cX3_init 2 (Option.none : Option Jvm.ClassFile.FieldType) ⟨3, 105, 7456, 52⟩ [.ref (x + 18)] hp (some (x + 19)) (P_X3_init E x  hp) := by
  refine A_of (by decide +kernel) (Nat.le_of_ble_eq_true rfl) ?_
  intro p e s m args below meth c X hr hnm
  have X : CX E p l s m args meth c "DiceAudit$History" cX3_init 2 := X
  refine A_L (L' := [(0, .ref (x + 18))]) rfl ?_
  refine A_aload_n X dX3_init_0 0 rfl ?_
  refine A_objI (i0 := 0) (i1 := 0) X dX3_init_1 kw_193 kw_37 kw_38 (Nat.le_of_ble_eq_true rfl) (Nat.le_of_ble_eq_true rfl) ?_
  refine A_aload_n X dX3_init_4 0 rfl ?_
  refine A_bipush (v := 8) X dX3_init_5 (by decide) ?_
  refine A_newq (z := (x + 19)) (N := 8) X dX3_init_7 kw_194 kw_195 (by decide) (by decide) (Nat.le_of_ble_eq_true rfl) (Nat.le_of_ble_eq_true rfl) (Nat.le_of_ble_eq_true rfl) (fun hp1 (k1 : hp1 (x + 19) = some (.inl (kC E 5, 8, .inr (.inr (.inr (.inr (fun _ => none))))))) n1 => ?_)
  refine A_putF X dX3_init_10 kcl_X3 0 (by decide) kw_197 ((n1 _ (by omega)).trans g0) rfl (hnm.trans rfl) rfl rfl rfl (by simp) (fun hp2 (k2 : hp2 (x + 18) = some (.inr (5, [.ref (x + 19), .int 0, .int 0]))) n2 => ?_)
  refine A_aload_n X dX3_init_13 0 rfl ?_
  refine A_iconst (v := 0) X dX3_init_14 (by decide) ?_
  refine A_put X dX3_init_15 kcl_X3 1 (by decide) kw_198 k2 rfl rfl rfl (by simp) (fun hp3 (k3 : hp3 (x + 18) = some (.inr (5, [.ref (x + 19), .int 0, .int 0]))) n3 => ?_)
  refine A_aload_n X dX3_init_18 0 rfl ?_
  refine A_iconst (v := 0) X dX3_init_19 (by decide) ?_
  refine A_put X dX3_init_20 kcl_X3 2 (by decide) kw_199 k3 rfl rfl rfl (by simp) (fun hp4 (k4 : hp4 (x + 18) = some (.inr (5, [.ref (x + 19), .int 0, .int 0]))) n4 => ?_)
  refine A_iconst (v := 0) X dX3_init_23 (by decide) ?_
  refine A_istore_n (L' := [(1, .int 0), (0, .ref (x + 18))]) X dX3_init_24 rfl (by decide) rfl ?_
  refine A_iload_n X dX3_init_25 0 rfl ?_
  refine A_aload_n X dX3_init_26 1 rfl ?_
  refine A_get X dX3_init_27 kcl_X3 0 (by decide) kw_197 k4 rfl ?_
  refine A_alen (t := 5) (v := 8) X dX3_init_30 ((n4 _ (by omega)).trans ((n3 _ (by omega)).trans ((n2 _ (by omega)).trans k1))) rfl (by decide) ?_
  refine A_icmp_ge_f (tgt := 53) X dX3_init_31 (by decide) (by decide) ?_
  refine A_aload_n X dX3_init_34 1 rfl ?_
  refine A_get X dX3_init_35 kcl_X3 0 (by decide) kw_197 k4 rfl ?_
  refine A_iload_n X dX3_init_38 0 rfl ?_
  refine A_new (z := (x + 20)) (fs := [.null, .null, .null, .null, .int 0, .int 0, .int 0]) X dX3_init_39 kcl_X2 kw_194 kw_56 kw_3 (fun j hj => by match j, hj with | 0, _ => rfl | 1, _ => rfl | 2, _ => rfl | 3, _ => rfl | 4, _ => rfl | 5, _ => rfl | 6, _ => rfl | j + 7, hj => exact absurd hj (by omega)) (Nat.le_of_ble_eq_true rfl) (Nat.le_of_ble_eq_true rfl) (fun hp5 (k5 : hp5 (x + 20) = some (.inr (4, [.null, .null, .null, .null, .int 0, .int 0, .int 0]))) n5 => ?_)
  refine A_dup X dX3_init_42 rfl ?_
  refine A_c (k' := 14) (n' := 939) rfl rfl (A_runIN (rest := [.ref (x + 20), .int 0, .ref (x + 19)]) X dX3_init_43 (c_X2_init (b := (x + 20)) k5) kY_X2_init kw_196 ⟨(Nat.le_of_ble_eq_true rfl), (Nat.le_of_ble_eq_true rfl), (Nat.le_of_ble_eq_true rfl), (Nat.le_of_ble_eq_true rfl)⟩ rfl (Nat.le_of_ble_eq_true rfl)) (fun v9 hp6 al9 hP => ?_)
  obtain ⟨rfl, k6_0, k6_1, k6_2, k6_3, k6_4, k6_5, k6_6, k6_7, k6_8, k6_9, k6_10, k6_11, k6_12, n6, rfl⟩ := hP
  replace k6_0 : hp6 (x + 20) = some (.inr (4, [.ref (x + 21), .ref (x + 24), .ref (x + 27), .ref (x + 30), .int 0, .int 1, .int 0])) := k6_0
  replace k6_1 : hp6 (x + 21) = some (.inr (2, [.ref (x + 22), .ref (x + 23), .int 0])) := k6_1
  replace k6_2 : hp6 (x + 22) = some (.inl (kC E 0, 6, .inl (fun _ => 0))) := k6_2
  replace k6_3 : hp6 (x + 23) = some (.inl (kC E 0, 72, .inl (fun _ => 0))) := k6_3
  replace k6_4 : hp6 (x + 24) = some (.inr (9, [.ref (x + 25), .ref (x + 26), .int 0])) := k6_4
  replace k6_5 : hp6 (x + 25) = some (.inl (kC E 0, 6, .inl (fun _ => 0))) := k6_5
  replace k6_6 : hp6 (x + 26) = some (.inl (kC E 0, 24, .inl (fun _ => 0))) := k6_6
  replace k6_7 : hp6 (x + 27) = some (.inr (6, [.ref (x + 28), .ref (x + 29), .int 0])) := k6_7
  replace k6_8 : hp6 (x + 28) = some (.inl (kC E 0, 300, .inl (fun _ => 0))) := k6_8
  replace k6_9 : hp6 (x + 29) = some (.inl (kC E 0, 432, .inl (fun _ => 0))) := k6_9
  replace k6_10 : hp6 (x + 30) = some (.inr (8, [.ref (x + 31), .ref (x + 32), .int 0])) := k6_10
  replace k6_11 : hp6 (x + 31) = some (.inl (kC E 0, 36, .inl (fun _ => 0))) := k6_11
  replace k6_12 : hp6 (x + 32) = some (.inl (kC E 0, 36, .inl (fun _ => 0))) := k6_12
  refine A_st (st' := [.ref (x + 20), .int 0, .ref (x + 19)]) rfl ?_
  refine A_aast X dX3_init_46 ((n6 _ (by omega)).trans ((n5 _ (by omega)).trans ((n4 _ (by omega)).trans ((n3 _ (by omega)).trans ((n2 _ (by omega)).trans k1))))) k6_0 rfl rfl (by decide) (fun hp7 (k7 : hp7 (x + 19) = some (.inl (kC E 5, 8, .inr (.inr (.inr (.inr (va_up (fun _ => none) (Int32.toNatClampNeg 0) (some (x + 20))))))))) n7 => ?_)
  refine A_iinc (j := 0) (v := 1) (L' := [(1, .int 1), (0, .ref (x + 18))]) X dX3_init_47 rfl (by decide) (by decide) rfl ?_
  refine A_goto (tgt := 25) X dX3_init_50 (by decide) ?_
  refine A_iload_n X dX3_init_25 0 rfl ?_
  refine A_aload_n X dX3_init_26 1 rfl ?_
  refine A_get X dX3_init_27 kcl_X3 0 (by decide) kw_197 ((n7 _ (by omega)).trans ((n6 _ (by omega)).trans ((n5 _ (by omega)).trans k4))) rfl ?_
  refine A_alen (t := 5) (v := 8) X dX3_init_30 k7 rfl (by decide) ?_
  refine A_icmp_ge_f (tgt := 53) X dX3_init_31 (by decide) (by decide) ?_
  refine A_aload_n X dX3_init_34 1 rfl ?_
  refine A_get X dX3_init_35 kcl_X3 0 (by decide) kw_197 ((n7 _ (by omega)).trans ((n6 _ (by omega)).trans ((n5 _ (by omega)).trans k4))) rfl ?_
  refine A_iload_n X dX3_init_38 0 rfl ?_
  refine A_new (z := (x + 33)) (fs := [.null, .null, .null, .null, .int 0, .int 0, .int 0]) X dX3_init_39 kcl_X2 kw_194 kw_56 kw_3 (fun j hj => by match j, hj with | 0, _ => rfl | 1, _ => rfl | 2, _ => rfl | 3, _ => rfl | 4, _ => rfl | 5, _ => rfl | 6, _ => rfl | j + 7, hj => exact absurd hj (by omega)) (Nat.le_of_ble_eq_true rfl) (Nat.le_of_ble_eq_true rfl) (fun hp8 (k8 : hp8 (x + 33) = some (.inr (4, [.null, .null, .null, .null, .int 0, .int 0, .int 0]))) n8 => ?_)
  refine A_dup X dX3_init_42 rfl ?_
  refine A_c (k' := 27) (n' := 1870) rfl rfl (A_runIN (rest := [.ref (x + 33), .int 1, .ref (x + 19)]) X dX3_init_43 (c_X2_init (b := (x + 33)) k8) kY_X2_init kw_196 ⟨(Nat.le_of_ble_eq_true rfl), (Nat.le_of_ble_eq_true rfl), (Nat.le_of_ble_eq_true rfl), (Nat.le_of_ble_eq_true rfl)⟩ rfl (Nat.le_of_ble_eq_true rfl)) (fun v9 hp9 al9 hP => ?_)
  obtain ⟨rfl, k9_0, k9_1, k9_2, k9_3, k9_4, k9_5, k9_6, k9_7, k9_8, k9_9, k9_10, k9_11, k9_12, n9, rfl⟩ := hP
  replace k9_0 : hp9 (x + 33) = some (.inr (4, [.ref (x + 34), .ref (x + 37), .ref (x + 40), .ref (x + 43), .int 0, .int 1, .int 0])) := k9_0
  replace k9_1 : hp9 (x + 34) = some (.inr (2, [.ref (x + 35), .ref (x + 36), .int 0])) := k9_1
  replace k9_2 : hp9 (x + 35) = some (.inl (kC E 0, 6, .inl (fun _ => 0))) := k9_2
  replace k9_3 : hp9 (x + 36) = some (.inl (kC E 0, 72, .inl (fun _ => 0))) := k9_3
  replace k9_4 : hp9 (x + 37) = some (.inr (9, [.ref (x + 38), .ref (x + 39), .int 0])) := k9_4
  replace k9_5 : hp9 (x + 38) = some (.inl (kC E 0, 6, .inl (fun _ => 0))) := k9_5
  replace k9_6 : hp9 (x + 39) = some (.inl (kC E 0, 24, .inl (fun _ => 0))) := k9_6
  replace k9_7 : hp9 (x + 40) = some (.inr (6, [.ref (x + 41), .ref (x + 42), .int 0])) := k9_7
  replace k9_8 : hp9 (x + 41) = some (.inl (kC E 0, 300, .inl (fun _ => 0))) := k9_8
  replace k9_9 : hp9 (x + 42) = some (.inl (kC E 0, 432, .inl (fun _ => 0))) := k9_9
  replace k9_10 : hp9 (x + 43) = some (.inr (8, [.ref (x + 44), .ref (x + 45), .int 0])) := k9_10
  replace k9_11 : hp9 (x + 44) = some (.inl (kC E 0, 36, .inl (fun _ => 0))) := k9_11
  replace k9_12 : hp9 (x + 45) = some (.inl (kC E 0, 36, .inl (fun _ => 0))) := k9_12
  refine A_st (st' := [.ref (x + 33), .int 1, .ref (x + 19)]) rfl ?_
  refine A_aast X dX3_init_46 ((n9 _ (by omega)).trans ((n8 _ (by omega)).trans k7)) k9_0 rfl rfl (by decide) (fun hp10 (k10 : hp10 (x + 19) = some (.inl (kC E 5, 8, .inr (.inr (.inr (.inr (va_up (va_up (fun _ => none) (Int32.toNatClampNeg 0) (some (x + 20))) (Int32.toNatClampNeg 1) (some (x + 33))))))))) n10 => ?_)
  refine A_iinc (j := 0) (v := 2) (L' := [(1, .int 2), (0, .ref (x + 18))]) X dX3_init_47 rfl (by decide) (by decide) rfl ?_
  refine A_goto (tgt := 25) X dX3_init_50 (by decide) ?_
  refine A_iload_n X dX3_init_25 0 rfl ?_
  refine A_aload_n X dX3_init_26 1 rfl ?_
  refine A_get X dX3_init_27 kcl_X3 0 (by decide) kw_197 ((n10 _ (by omega)).trans ((n9 _ (by omega)).trans ((n8 _ (by omega)).trans ((n7 _ (by omega)).trans ((n6 _ (by omega)).trans ((n5 _ (by omega)).trans k4)))))) rfl ?_
  refine A_alen (t := 5) (v := 8) X dX3_init_30 k10 rfl (by decide) ?_
  refine A_icmp_ge_f (tgt := 53) X dX3_init_31 (by decide) (by decide) ?_
  refine A_aload_n X dX3_init_34 1 rfl ?_
  refine A_get X dX3_init_35 kcl_X3 0 (by decide) kw_197 ((n10 _ (by omega)).trans ((n9 _ (by omega)).trans ((n8 _ (by omega)).trans ((n7 _ (by omega)).trans ((n6 _ (by omega)).trans ((n5 _ (by omega)).trans k4)))))) rfl ?_
  refine A_iload_n X dX3_init_38 0 rfl ?_
  refine A_new (z := (x + 46)) (fs := [.null, .null, .null, .null, .int 0, .int 0, .int 0]) X dX3_init_39 kcl_X2 kw_194 kw_56 kw_3 (fun j hj => by match j, hj with | 0, _ => rfl | 1, _ => rfl | 2, _ => rfl | 3, _ => rfl | 4, _ => rfl | 5, _ => rfl | 6, _ => rfl | j + 7, hj => exact absurd hj (by omega)) (Nat.le_of_ble_eq_true rfl) (Nat.le_of_ble_eq_true rfl) (fun hp11 (k11 : hp11 (x + 46) = some (.inr (4, [.null, .null, .null, .null, .int 0, .int 0, .int 0]))) n11 => ?_)
  refine A_dup X dX3_init_42 rfl ?_
  refine A_c (k' := 40) (n' := 2801) rfl rfl (A_runIN (rest := [.ref (x + 46), .int 2, .ref (x + 19)]) X dX3_init_43 (c_X2_init (b := (x + 46)) k11) kY_X2_init kw_196 ⟨(Nat.le_of_ble_eq_true rfl), (Nat.le_of_ble_eq_true rfl), (Nat.le_of_ble_eq_true rfl), (Nat.le_of_ble_eq_true rfl)⟩ rfl (Nat.le_of_ble_eq_true rfl)) (fun v9 hp12 al9 hP => ?_)
  obtain ⟨rfl, k12_0, k12_1, k12_2, k12_3, k12_4, k12_5, k12_6, k12_7, k12_8, k12_9, k12_10, k12_11, k12_12, n12, rfl⟩ := hP
  replace k12_0 : hp12 (x + 46) = some (.inr (4, [.ref (x + 47), .ref (x + 50), .ref (x + 53), .ref (x + 56), .int 0, .int 1, .int 0])) := k12_0
  replace k12_1 : hp12 (x + 47) = some (.inr (2, [.ref (x + 48), .ref (x + 49), .int 0])) := k12_1
  replace k12_2 : hp12 (x + 48) = some (.inl (kC E 0, 6, .inl (fun _ => 0))) := k12_2
  replace k12_3 : hp12 (x + 49) = some (.inl (kC E 0, 72, .inl (fun _ => 0))) := k12_3
  replace k12_4 : hp12 (x + 50) = some (.inr (9, [.ref (x + 51), .ref (x + 52), .int 0])) := k12_4
  replace k12_5 : hp12 (x + 51) = some (.inl (kC E 0, 6, .inl (fun _ => 0))) := k12_5
  replace k12_6 : hp12 (x + 52) = some (.inl (kC E 0, 24, .inl (fun _ => 0))) := k12_6
  replace k12_7 : hp12 (x + 53) = some (.inr (6, [.ref (x + 54), .ref (x + 55), .int 0])) := k12_7
  replace k12_8 : hp12 (x + 54) = some (.inl (kC E 0, 300, .inl (fun _ => 0))) := k12_8
  replace k12_9 : hp12 (x + 55) = some (.inl (kC E 0, 432, .inl (fun _ => 0))) := k12_9
  replace k12_10 : hp12 (x + 56) = some (.inr (8, [.ref (x + 57), .ref (x + 58), .int 0])) := k12_10
  replace k12_11 : hp12 (x + 57) = some (.inl (kC E 0, 36, .inl (fun _ => 0))) := k12_11
  replace k12_12 : hp12 (x + 58) = some (.inl (kC E 0, 36, .inl (fun _ => 0))) := k12_12
  refine A_st (st' := [.ref (x + 46), .int 2, .ref (x + 19)]) rfl ?_
  refine A_aast X dX3_init_46 ((n12 _ (by omega)).trans ((n11 _ (by omega)).trans k10)) k12_0 rfl rfl (by decide) (fun hp13 (k13 : hp13 (x + 19) = some (.inl (kC E 5, 8, .inr (.inr (.inr (.inr (va_up (va_up (va_up (fun _ => none) (Int32.toNatClampNeg 0) (some (x + 20))) (Int32.toNatClampNeg 1) (some (x + 33))) (Int32.toNatClampNeg 2) (some (x + 46))))))))) n13 => ?_)
  refine A_iinc (j := 0) (v := 3) (L' := [(1, .int 3), (0, .ref (x + 18))]) X dX3_init_47 rfl (by decide) (by decide) rfl ?_
  refine A_goto (tgt := 25) X dX3_init_50 (by decide) ?_
  refine A_iload_n X dX3_init_25 0 rfl ?_
  refine A_aload_n X dX3_init_26 1 rfl ?_
  refine A_get X dX3_init_27 kcl_X3 0 (by decide) kw_197 ((n13 _ (by omega)).trans ((n12 _ (by omega)).trans ((n11 _ (by omega)).trans ((n10 _ (by omega)).trans ((n9 _ (by omega)).trans ((n8 _ (by omega)).trans ((n7 _ (by omega)).trans ((n6 _ (by omega)).trans ((n5 _ (by omega)).trans k4))))))))) rfl ?_
  refine A_alen (t := 5) (v := 8) X dX3_init_30 k13 rfl (by decide) ?_
  refine A_icmp_ge_f (tgt := 53) X dX3_init_31 (by decide) (by decide) ?_
  refine A_aload_n X dX3_init_34 1 rfl ?_
  refine A_get X dX3_init_35 kcl_X3 0 (by decide) kw_197 ((n13 _ (by omega)).trans ((n12 _ (by omega)).trans ((n11 _ (by omega)).trans ((n10 _ (by omega)).trans ((n9 _ (by omega)).trans ((n8 _ (by omega)).trans ((n7 _ (by omega)).trans ((n6 _ (by omega)).trans ((n5 _ (by omega)).trans k4))))))))) rfl ?_
  refine A_iload_n X dX3_init_38 0 rfl ?_
  refine A_new (z := (x + 59)) (fs := [.null, .null, .null, .null, .int 0, .int 0, .int 0]) X dX3_init_39 kcl_X2 kw_194 kw_56 kw_3 (fun j hj => by match j, hj with | 0, _ => rfl | 1, _ => rfl | 2, _ => rfl | 3, _ => rfl | 4, _ => rfl | 5, _ => rfl | 6, _ => rfl | j + 7, hj => exact absurd hj (by omega)) (Nat.le_of_ble_eq_true rfl) (Nat.le_of_ble_eq_true rfl) (fun hp14 (k14 : hp14 (x + 59) = some (.inr (4, [.null, .null, .null, .null, .int 0, .int 0, .int 0]))) n14 => ?_)
  refine A_dup X dX3_init_42 rfl ?_
  refine A_c (k' := 53) (n' := 3732) rfl rfl (A_runIN (rest := [.ref (x + 59), .int 3, .ref (x + 19)]) X dX3_init_43 (c_X2_init (b := (x + 59)) k14) kY_X2_init kw_196 ⟨(Nat.le_of_ble_eq_true rfl), (Nat.le_of_ble_eq_true rfl), (Nat.le_of_ble_eq_true rfl), (Nat.le_of_ble_eq_true rfl)⟩ rfl (Nat.le_of_ble_eq_true rfl)) (fun v9 hp15 al9 hP => ?_)
  obtain ⟨rfl, k15_0, k15_1, k15_2, k15_3, k15_4, k15_5, k15_6, k15_7, k15_8, k15_9, k15_10, k15_11, k15_12, n15, rfl⟩ := hP
  replace k15_0 : hp15 (x + 59) = some (.inr (4, [.ref (x + 60), .ref (x + 63), .ref (x + 66), .ref (x + 69), .int 0, .int 1, .int 0])) := k15_0
  replace k15_1 : hp15 (x + 60) = some (.inr (2, [.ref (x + 61), .ref (x + 62), .int 0])) := k15_1
  replace k15_2 : hp15 (x + 61) = some (.inl (kC E 0, 6, .inl (fun _ => 0))) := k15_2
  replace k15_3 : hp15 (x + 62) = some (.inl (kC E 0, 72, .inl (fun _ => 0))) := k15_3
  replace k15_4 : hp15 (x + 63) = some (.inr (9, [.ref (x + 64), .ref (x + 65), .int 0])) := k15_4
  replace k15_5 : hp15 (x + 64) = some (.inl (kC E 0, 6, .inl (fun _ => 0))) := k15_5
  replace k15_6 : hp15 (x + 65) = some (.inl (kC E 0, 24, .inl (fun _ => 0))) := k15_6
  replace k15_7 : hp15 (x + 66) = some (.inr (6, [.ref (x + 67), .ref (x + 68), .int 0])) := k15_7
  replace k15_8 : hp15 (x + 67) = some (.inl (kC E 0, 300, .inl (fun _ => 0))) := k15_8
  replace k15_9 : hp15 (x + 68) = some (.inl (kC E 0, 432, .inl (fun _ => 0))) := k15_9
  replace k15_10 : hp15 (x + 69) = some (.inr (8, [.ref (x + 70), .ref (x + 71), .int 0])) := k15_10
  replace k15_11 : hp15 (x + 70) = some (.inl (kC E 0, 36, .inl (fun _ => 0))) := k15_11
  replace k15_12 : hp15 (x + 71) = some (.inl (kC E 0, 36, .inl (fun _ => 0))) := k15_12
  refine A_st (st' := [.ref (x + 59), .int 3, .ref (x + 19)]) rfl ?_
  refine A_aast X dX3_init_46 ((n15 _ (by omega)).trans ((n14 _ (by omega)).trans k13)) k15_0 rfl rfl (by decide) (fun hp16 (k16 : hp16 (x + 19) = some (.inl (kC E 5, 8, .inr (.inr (.inr (.inr (va_up (va_up (va_up (va_up (fun _ => none) (Int32.toNatClampNeg 0) (some (x + 20))) (Int32.toNatClampNeg 1) (some (x + 33))) (Int32.toNatClampNeg 2) (some (x + 46))) (Int32.toNatClampNeg 3) (some (x + 59))))))))) n16 => ?_)
  refine A_iinc (j := 0) (v := 4) (L' := [(1, .int 4), (0, .ref (x + 18))]) X dX3_init_47 rfl (by decide) (by decide) rfl ?_
  refine A_goto (tgt := 25) X dX3_init_50 (by decide) ?_
  refine A_iload_n X dX3_init_25 0 rfl ?_
  refine A_aload_n X dX3_init_26 1 rfl ?_
  refine A_get X dX3_init_27 kcl_X3 0 (by decide) kw_197 ((n16 _ (by omega)).trans ((n15 _ (by omega)).trans ((n14 _ (by omega)).trans ((n13 _ (by omega)).trans ((n12 _ (by omega)).trans ((n11 _ (by omega)).trans ((n10 _ (by omega)).trans ((n9 _ (by omega)).trans ((n8 _ (by omega)).trans ((n7 _ (by omega)).trans ((n6 _ (by omega)).trans ((n5 _ (by omega)).trans k4)))))))))))) rfl ?_
  refine A_alen (t := 5) (v := 8) X dX3_init_30 k16 rfl (by decide) ?_
  refine A_icmp_ge_f (tgt := 53) X dX3_init_31 (by decide) (by decide) ?_
  refine A_aload_n X dX3_init_34 1 rfl ?_
  refine A_get X dX3_init_35 kcl_X3 0 (by decide) kw_197 ((n16 _ (by omega)).trans ((n15 _ (by omega)).trans ((n14 _ (by omega)).trans ((n13 _ (by omega)).trans ((n12 _ (by omega)).trans ((n11 _ (by omega)).trans ((n10 _ (by omega)).trans ((n9 _ (by omega)).trans ((n8 _ (by omega)).trans ((n7 _ (by omega)).trans ((n6 _ (by omega)).trans ((n5 _ (by omega)).trans k4)))))))))))) rfl ?_
  refine A_iload_n X dX3_init_38 0 rfl ?_
  refine A_new (z := (x + 72)) (fs := [.null, .null, .null, .null, .int 0, .int 0, .int 0]) X dX3_init_39 kcl_X2 kw_194 kw_56 kw_3 (fun j hj => by match j, hj with | 0, _ => rfl | 1, _ => rfl | 2, _ => rfl | 3, _ => rfl | 4, _ => rfl | 5, _ => rfl | 6, _ => rfl | j + 7, hj => exact absurd hj (by omega)) (Nat.le_of_ble_eq_true rfl) (Nat.le_of_ble_eq_true rfl) (fun hp17 (k17 : hp17 (x + 72) = some (.inr (4, [.null, .null, .null, .null, .int 0, .int 0, .int 0]))) n17 => ?_)
  refine A_dup X dX3_init_42 rfl ?_
  refine A_c (k' := 66) (n' := 4663) rfl rfl (A_runIN (rest := [.ref (x + 72), .int 4, .ref (x + 19)]) X dX3_init_43 (c_X2_init (b := (x + 72)) k17) kY_X2_init kw_196 ⟨(Nat.le_of_ble_eq_true rfl), (Nat.le_of_ble_eq_true rfl), (Nat.le_of_ble_eq_true rfl), (Nat.le_of_ble_eq_true rfl)⟩ rfl (Nat.le_of_ble_eq_true rfl)) (fun v9 hp18 al9 hP => ?_)
  obtain ⟨rfl, k18_0, k18_1, k18_2, k18_3, k18_4, k18_5, k18_6, k18_7, k18_8, k18_9, k18_10, k18_11, k18_12, n18, rfl⟩ := hP
  replace k18_0 : hp18 (x + 72) = some (.inr (4, [.ref (x + 73), .ref (x + 76), .ref (x + 79), .ref (x + 82), .int 0, .int 1, .int 0])) := k18_0
  replace k18_1 : hp18 (x + 73) = some (.inr (2, [.ref (x + 74), .ref (x + 75), .int 0])) := k18_1
  replace k18_2 : hp18 (x + 74) = some (.inl (kC E 0, 6, .inl (fun _ => 0))) := k18_2
  replace k18_3 : hp18 (x + 75) = some (.inl (kC E 0, 72, .inl (fun _ => 0))) := k18_3
  replace k18_4 : hp18 (x + 76) = some (.inr (9, [.ref (x + 77), .ref (x + 78), .int 0])) := k18_4
  replace k18_5 : hp18 (x + 77) = some (.inl (kC E 0, 6, .inl (fun _ => 0))) := k18_5
  replace k18_6 : hp18 (x + 78) = some (.inl (kC E 0, 24, .inl (fun _ => 0))) := k18_6
  replace k18_7 : hp18 (x + 79) = some (.inr (6, [.ref (x + 80), .ref (x + 81), .int 0])) := k18_7
  replace k18_8 : hp18 (x + 80) = some (.inl (kC E 0, 300, .inl (fun _ => 0))) := k18_8
  replace k18_9 : hp18 (x + 81) = some (.inl (kC E 0, 432, .inl (fun _ => 0))) := k18_9
  replace k18_10 : hp18 (x + 82) = some (.inr (8, [.ref (x + 83), .ref (x + 84), .int 0])) := k18_10
  replace k18_11 : hp18 (x + 83) = some (.inl (kC E 0, 36, .inl (fun _ => 0))) := k18_11
  replace k18_12 : hp18 (x + 84) = some (.inl (kC E 0, 36, .inl (fun _ => 0))) := k18_12
  refine A_st (st' := [.ref (x + 72), .int 4, .ref (x + 19)]) rfl ?_
  refine A_aast X dX3_init_46 ((n18 _ (by omega)).trans ((n17 _ (by omega)).trans k16)) k18_0 rfl rfl (by decide) (fun hp19 (k19 : hp19 (x + 19) = some (.inl (kC E 5, 8, .inr (.inr (.inr (.inr (va_up (va_up (va_up (va_up (va_up (fun _ => none) (Int32.toNatClampNeg 0) (some (x + 20))) (Int32.toNatClampNeg 1) (some (x + 33))) (Int32.toNatClampNeg 2) (some (x + 46))) (Int32.toNatClampNeg 3) (some (x + 59))) (Int32.toNatClampNeg 4) (some (x + 72))))))))) n19 => ?_)
  refine A_iinc (j := 0) (v := 5) (L' := [(1, .int 5), (0, .ref (x + 18))]) X dX3_init_47 rfl (by decide) (by decide) rfl ?_
  refine A_goto (tgt := 25) X dX3_init_50 (by decide) ?_
  refine A_iload_n X dX3_init_25 0 rfl ?_
  refine A_aload_n X dX3_init_26 1 rfl ?_
  refine A_get X dX3_init_27 kcl_X3 0 (by decide) kw_197 ((n19 _ (by omega)).trans ((n18 _ (by omega)).trans ((n17 _ (by omega)).trans ((n16 _ (by omega)).trans ((n15 _ (by omega)).trans ((n14 _ (by omega)).trans ((n13 _ (by omega)).trans ((n12 _ (by omega)).trans ((n11 _ (by omega)).trans ((n10 _ (by omega)).trans ((n9 _ (by omega)).trans ((n8 _ (by omega)).trans ((n7 _ (by omega)).trans ((n6 _ (by omega)).trans ((n5 _ (by omega)).trans k4))))))))))))))) rfl ?_
  refine A_alen (t := 5) (v := 8) X dX3_init_30 k19 rfl (by decide) ?_
  refine A_icmp_ge_f (tgt := 53) X dX3_init_31 (by decide) (by decide) ?_
  refine A_aload_n X dX3_init_34 1 rfl ?_
  refine A_get X dX3_init_35 kcl_X3 0 (by decide) kw_197 ((n19 _ (by omega)).trans ((n18 _ (by omega)).trans ((n17 _ (by omega)).trans ((n16 _ (by omega)).trans ((n15 _ (by omega)).trans ((n14 _ (by omega)).trans ((n13 _ (by omega)).trans ((n12 _ (by omega)).trans ((n11 _ (by omega)).trans ((n10 _ (by omega)).trans ((n9 _ (by omega)).trans ((n8 _ (by omega)).trans ((n7 _ (by omega)).trans ((n6 _ (by omega)).trans ((n5 _ (by omega)).trans k4))))))))))))))) rfl ?_
  refine A_iload_n X dX3_init_38 0 rfl ?_
  refine A_new (z := (x + 85)) (fs := [.null, .null, .null, .null, .int 0, .int 0, .int 0]) X dX3_init_39 kcl_X2 kw_194 kw_56 kw_3 (fun j hj => by match j, hj with | 0, _ => rfl | 1, _ => rfl | 2, _ => rfl | 3, _ => rfl | 4, _ => rfl | 5, _ => rfl | 6, _ => rfl | j + 7, hj => exact absurd hj (by omega)) (Nat.le_of_ble_eq_true rfl) (Nat.le_of_ble_eq_true rfl) (fun hp20 (k20 : hp20 (x + 85) = some (.inr (4, [.null, .null, .null, .null, .int 0, .int 0, .int 0]))) n20 => ?_)
  refine A_dup X dX3_init_42 rfl ?_
  refine A_c (k' := 79) (n' := 5594) rfl rfl (A_runIN (rest := [.ref (x + 85), .int 5, .ref (x + 19)]) X dX3_init_43 (c_X2_init (b := (x + 85)) k20) kY_X2_init kw_196 ⟨(Nat.le_of_ble_eq_true rfl), (Nat.le_of_ble_eq_true rfl), (Nat.le_of_ble_eq_true rfl), (Nat.le_of_ble_eq_true rfl)⟩ rfl (Nat.le_of_ble_eq_true rfl)) (fun v9 hp21 al9 hP => ?_)
  obtain ⟨rfl, k21_0, k21_1, k21_2, k21_3, k21_4, k21_5, k21_6, k21_7, k21_8, k21_9, k21_10, k21_11, k21_12, n21, rfl⟩ := hP
  replace k21_0 : hp21 (x + 85) = some (.inr (4, [.ref (x + 86), .ref (x + 89), .ref (x + 92), .ref (x + 95), .int 0, .int 1, .int 0])) := k21_0
  replace k21_1 : hp21 (x + 86) = some (.inr (2, [.ref (x + 87), .ref (x + 88), .int 0])) := k21_1
  replace k21_2 : hp21 (x + 87) = some (.inl (kC E 0, 6, .inl (fun _ => 0))) := k21_2
  replace k21_3 : hp21 (x + 88) = some (.inl (kC E 0, 72, .inl (fun _ => 0))) := k21_3
  replace k21_4 : hp21 (x + 89) = some (.inr (9, [.ref (x + 90), .ref (x + 91), .int 0])) := k21_4
  replace k21_5 : hp21 (x + 90) = some (.inl (kC E 0, 6, .inl (fun _ => 0))) := k21_5
  replace k21_6 : hp21 (x + 91) = some (.inl (kC E 0, 24, .inl (fun _ => 0))) := k21_6
  replace k21_7 : hp21 (x + 92) = some (.inr (6, [.ref (x + 93), .ref (x + 94), .int 0])) := k21_7
  replace k21_8 : hp21 (x + 93) = some (.inl (kC E 0, 300, .inl (fun _ => 0))) := k21_8
  replace k21_9 : hp21 (x + 94) = some (.inl (kC E 0, 432, .inl (fun _ => 0))) := k21_9
  replace k21_10 : hp21 (x + 95) = some (.inr (8, [.ref (x + 96), .ref (x + 97), .int 0])) := k21_10
  replace k21_11 : hp21 (x + 96) = some (.inl (kC E 0, 36, .inl (fun _ => 0))) := k21_11
  replace k21_12 : hp21 (x + 97) = some (.inl (kC E 0, 36, .inl (fun _ => 0))) := k21_12
  refine A_st (st' := [.ref (x + 85), .int 5, .ref (x + 19)]) rfl ?_
  refine A_aast X dX3_init_46 ((n21 _ (by omega)).trans ((n20 _ (by omega)).trans k19)) k21_0 rfl rfl (by decide) (fun hp22 (k22 : hp22 (x + 19) = some (.inl (kC E 5, 8, .inr (.inr (.inr (.inr (va_up (va_up (va_up (va_up (va_up (va_up (fun _ => none) (Int32.toNatClampNeg 0) (some (x + 20))) (Int32.toNatClampNeg 1) (some (x + 33))) (Int32.toNatClampNeg 2) (some (x + 46))) (Int32.toNatClampNeg 3) (some (x + 59))) (Int32.toNatClampNeg 4) (some (x + 72))) (Int32.toNatClampNeg 5) (some (x + 85))))))))) n22 => ?_)
  refine A_iinc (j := 0) (v := 6) (L' := [(1, .int 6), (0, .ref (x + 18))]) X dX3_init_47 rfl (by decide) (by decide) rfl ?_
  refine A_goto (tgt := 25) X dX3_init_50 (by decide) ?_
  refine A_iload_n X dX3_init_25 0 rfl ?_
  refine A_aload_n X dX3_init_26 1 rfl ?_
  refine A_get X dX3_init_27 kcl_X3 0 (by decide) kw_197 ((n22 _ (by omega)).trans ((n21 _ (by omega)).trans ((n20 _ (by omega)).trans ((n19 _ (by omega)).trans ((n18 _ (by omega)).trans ((n17 _ (by omega)).trans ((n16 _ (by omega)).trans ((n15 _ (by omega)).trans ((n14 _ (by omega)).trans ((n13 _ (by omega)).trans ((n12 _ (by omega)).trans ((n11 _ (by omega)).trans ((n10 _ (by omega)).trans ((n9 _ (by omega)).trans ((n8 _ (by omega)).trans ((n7 _ (by omega)).trans ((n6 _ (by omega)).trans ((n5 _ (by omega)).trans k4)))))))))))))))))) rfl ?_
  refine A_alen (t := 5) (v := 8) X dX3_init_30 k22 rfl (by decide) ?_
  refine A_icmp_ge_f (tgt := 53) X dX3_init_31 (by decide) (by decide) ?_
  refine A_aload_n X dX3_init_34 1 rfl ?_
  refine A_get X dX3_init_35 kcl_X3 0 (by decide) kw_197 ((n22 _ (by omega)).trans ((n21 _ (by omega)).trans ((n20 _ (by omega)).trans ((n19 _ (by omega)).trans ((n18 _ (by omega)).trans ((n17 _ (by omega)).trans ((n16 _ (by omega)).trans ((n15 _ (by omega)).trans ((n14 _ (by omega)).trans ((n13 _ (by omega)).trans ((n12 _ (by omega)).trans ((n11 _ (by omega)).trans ((n10 _ (by omega)).trans ((n9 _ (by omega)).trans ((n8 _ (by omega)).trans ((n7 _ (by omega)).trans ((n6 _ (by omega)).trans ((n5 _ (by omega)).trans k4)))))))))))))))))) rfl ?_
  refine A_iload_n X dX3_init_38 0 rfl ?_
  refine A_new (z := (x + 98)) (fs := [.null, .null, .null, .null, .int 0, .int 0, .int 0]) X dX3_init_39 kcl_X2 kw_194 kw_56 kw_3 (fun j hj => by match j, hj with | 0, _ => rfl | 1, _ => rfl | 2, _ => rfl | 3, _ => rfl | 4, _ => rfl | 5, _ => rfl | 6, _ => rfl | j + 7, hj => exact absurd hj (by omega)) (Nat.le_of_ble_eq_true rfl) (Nat.le_of_ble_eq_true rfl) (fun hp23 (k23 : hp23 (x + 98) = some (.inr (4, [.null, .null, .null, .null, .int 0, .int 0, .int 0]))) n23 => ?_)
  refine A_dup X dX3_init_42 rfl ?_
  refine A_c (k' := 92) (n' := 6525) rfl rfl (A_runIN (rest := [.ref (x + 98), .int 6, .ref (x + 19)]) X dX3_init_43 (c_X2_init (b := (x + 98)) k23) kY_X2_init kw_196 ⟨(Nat.le_of_ble_eq_true rfl), (Nat.le_of_ble_eq_true rfl), (Nat.le_of_ble_eq_true rfl), (Nat.le_of_ble_eq_true rfl)⟩ rfl (Nat.le_of_ble_eq_true rfl)) (fun v9 hp24 al9 hP => ?_)
  obtain ⟨rfl, k24_0, k24_1, k24_2, k24_3, k24_4, k24_5, k24_6, k24_7, k24_8, k24_9, k24_10, k24_11, k24_12, n24, rfl⟩ := hP
  replace k24_0 : hp24 (x + 98) = some (.inr (4, [.ref (x + 99), .ref (x + 102), .ref (x + 105), .ref (x + 108), .int 0, .int 1, .int 0])) := k24_0
  replace k24_1 : hp24 (x + 99) = some (.inr (2, [.ref (x + 100), .ref (x + 101), .int 0])) := k24_1
  replace k24_2 : hp24 (x + 100) = some (.inl (kC E 0, 6, .inl (fun _ => 0))) := k24_2
  replace k24_3 : hp24 (x + 101) = some (.inl (kC E 0, 72, .inl (fun _ => 0))) := k24_3
  replace k24_4 : hp24 (x + 102) = some (.inr (9, [.ref (x + 103), .ref (x + 104), .int 0])) := k24_4
  replace k24_5 : hp24 (x + 103) = some (.inl (kC E 0, 6, .inl (fun _ => 0))) := k24_5
  replace k24_6 : hp24 (x + 104) = some (.inl (kC E 0, 24, .inl (fun _ => 0))) := k24_6
  replace k24_7 : hp24 (x + 105) = some (.inr (6, [.ref (x + 106), .ref (x + 107), .int 0])) := k24_7
  replace k24_8 : hp24 (x + 106) = some (.inl (kC E 0, 300, .inl (fun _ => 0))) := k24_8
  replace k24_9 : hp24 (x + 107) = some (.inl (kC E 0, 432, .inl (fun _ => 0))) := k24_9
  replace k24_10 : hp24 (x + 108) = some (.inr (8, [.ref (x + 109), .ref (x + 110), .int 0])) := k24_10
  replace k24_11 : hp24 (x + 109) = some (.inl (kC E 0, 36, .inl (fun _ => 0))) := k24_11
  replace k24_12 : hp24 (x + 110) = some (.inl (kC E 0, 36, .inl (fun _ => 0))) := k24_12
  refine A_st (st' := [.ref (x + 98), .int 6, .ref (x + 19)]) rfl ?_
  refine A_aast X dX3_init_46 ((n24 _ (by omega)).trans ((n23 _ (by omega)).trans k22)) k24_0 rfl rfl (by decide) (fun hp25 (k25 : hp25 (x + 19) = some (.inl (kC E 5, 8, .inr (.inr (.inr (.inr (va_up (va_up (va_up (va_up (va_up (va_up (va_up (fun _ => none) (Int32.toNatClampNeg 0) (some (x + 20))) (Int32.toNatClampNeg 1) (some (x + 33))) (Int32.toNatClampNeg 2) (some (x + 46))) (Int32.toNatClampNeg 3) (some (x + 59))) (Int32.toNatClampNeg 4) (some (x + 72))) (Int32.toNatClampNeg 5) (some (x + 85))) (Int32.toNatClampNeg 6) (some (x + 98))))))))) n25 => ?_)
  refine A_iinc (j := 0) (v := 7) (L' := [(1, .int 7), (0, .ref (x + 18))]) X dX3_init_47 rfl (by decide) (by decide) rfl ?_
  refine A_goto (tgt := 25) X dX3_init_50 (by decide) ?_
  refine A_iload_n X dX3_init_25 0 rfl ?_
  refine A_aload_n X dX3_init_26 1 rfl ?_
  refine A_get X dX3_init_27 kcl_X3 0 (by decide) kw_197 ((n25 _ (by omega)).trans ((n24 _ (by omega)).trans ((n23 _ (by omega)).trans ((n22 _ (by omega)).trans ((n21 _ (by omega)).trans ((n20 _ (by omega)).trans ((n19 _ (by omega)).trans ((n18 _ (by omega)).trans ((n17 _ (by omega)).trans ((n16 _ (by omega)).trans ((n15 _ (by omega)).trans ((n14 _ (by omega)).trans ((n13 _ (by omega)).trans ((n12 _ (by omega)).trans ((n11 _ (by omega)).trans ((n10 _ (by omega)).trans ((n9 _ (by omega)).trans ((n8 _ (by omega)).trans ((n7 _ (by omega)).trans ((n6 _ (by omega)).trans ((n5 _ (by omega)).trans k4))))))))))))))))))))) rfl ?_
  refine A_alen (t := 5) (v := 8) X dX3_init_30 k25 rfl (by decide) ?_
  refine A_icmp_ge_f (tgt := 53) X dX3_init_31 (by decide) (by decide) ?_
  refine A_aload_n X dX3_init_34 1 rfl ?_
  refine A_get X dX3_init_35 kcl_X3 0 (by decide) kw_197 ((n25 _ (by omega)).trans ((n24 _ (by omega)).trans ((n23 _ (by omega)).trans ((n22 _ (by omega)).trans ((n21 _ (by omega)).trans ((n20 _ (by omega)).trans ((n19 _ (by omega)).trans ((n18 _ (by omega)).trans ((n17 _ (by omega)).trans ((n16 _ (by omega)).trans ((n15 _ (by omega)).trans ((n14 _ (by omega)).trans ((n13 _ (by omega)).trans ((n12 _ (by omega)).trans ((n11 _ (by omega)).trans ((n10 _ (by omega)).trans ((n9 _ (by omega)).trans ((n8 _ (by omega)).trans ((n7 _ (by omega)).trans ((n6 _ (by omega)).trans ((n5 _ (by omega)).trans k4))))))))))))))))))))) rfl ?_
  refine A_iload_n X dX3_init_38 0 rfl ?_
  refine A_new (z := (x + 111)) (fs := [.null, .null, .null, .null, .int 0, .int 0, .int 0]) X dX3_init_39 kcl_X2 kw_194 kw_56 kw_3 (fun j hj => by match j, hj with | 0, _ => rfl | 1, _ => rfl | 2, _ => rfl | 3, _ => rfl | 4, _ => rfl | 5, _ => rfl | 6, _ => rfl | j + 7, hj => exact absurd hj (by omega)) (Nat.le_of_ble_eq_true rfl) (Nat.le_of_ble_eq_true rfl) (fun hp26 (k26 : hp26 (x + 111) = some (.inr (4, [.null, .null, .null, .null, .int 0, .int 0, .int 0]))) n26 => ?_)
  refine A_dup X dX3_init_42 rfl ?_
  refine A_c (k' := 105) (n' := 7456) rfl rfl (A_runIN (rest := [.ref (x + 111), .int 7, .ref (x + 19)]) X dX3_init_43 (c_X2_init (b := (x + 111)) k26) kY_X2_init kw_196 ⟨(Nat.le_of_ble_eq_true rfl), (Nat.le_of_ble_eq_true rfl), (Nat.le_of_ble_eq_true rfl), (Nat.le_of_ble_eq_true rfl)⟩ rfl (Nat.le_of_ble_eq_true rfl)) (fun v9 hp27 al9 hP => ?_)
  obtain ⟨rfl, k27_0, k27_1, k27_2, k27_3, k27_4, k27_5, k27_6, k27_7, k27_8, k27_9, k27_10, k27_11, k27_12, n27, rfl⟩ := hP
  replace k27_0 : hp27 (x + 111) = some (.inr (4, [.ref (x + 112), .ref (x + 115), .ref (x + 118), .ref (x + 121), .int 0, .int 1, .int 0])) := k27_0
  replace k27_1 : hp27 (x + 112) = some (.inr (2, [.ref (x + 113), .ref (x + 114), .int 0])) := k27_1
  replace k27_2 : hp27 (x + 113) = some (.inl (kC E 0, 6, .inl (fun _ => 0))) := k27_2
  replace k27_3 : hp27 (x + 114) = some (.inl (kC E 0, 72, .inl (fun _ => 0))) := k27_3
  replace k27_4 : hp27 (x + 115) = some (.inr (9, [.ref (x + 116), .ref (x + 117), .int 0])) := k27_4
  replace k27_5 : hp27 (x + 116) = some (.inl (kC E 0, 6, .inl (fun _ => 0))) := k27_5
  replace k27_6 : hp27 (x + 117) = some (.inl (kC E 0, 24, .inl (fun _ => 0))) := k27_6
  replace k27_7 : hp27 (x + 118) = some (.inr (6, [.ref (x + 119), .ref (x + 120), .int 0])) := k27_7
  replace k27_8 : hp27 (x + 119) = some (.inl (kC E 0, 300, .inl (fun _ => 0))) := k27_8
  replace k27_9 : hp27 (x + 120) = some (.inl (kC E 0, 432, .inl (fun _ => 0))) := k27_9
  replace k27_10 : hp27 (x + 121) = some (.inr (8, [.ref (x + 122), .ref (x + 123), .int 0])) := k27_10
  replace k27_11 : hp27 (x + 122) = some (.inl (kC E 0, 36, .inl (fun _ => 0))) := k27_11
  replace k27_12 : hp27 (x + 123) = some (.inl (kC E 0, 36, .inl (fun _ => 0))) := k27_12
  refine A_st (st' := [.ref (x + 111), .int 7, .ref (x + 19)]) rfl ?_
  refine A_aast X dX3_init_46 ((n27 _ (by omega)).trans ((n26 _ (by omega)).trans k25)) k27_0 rfl rfl (by decide) (fun hp28 (k28 : hp28 (x + 19) = some (.inl (kC E 5, 8, .inr (.inr (.inr (.inr (va_up (va_up (va_up (va_up (va_up (va_up (va_up (va_up (fun _ => none) (Int32.toNatClampNeg 0) (some (x + 20))) (Int32.toNatClampNeg 1) (some (x + 33))) (Int32.toNatClampNeg 2) (some (x + 46))) (Int32.toNatClampNeg 3) (some (x + 59))) (Int32.toNatClampNeg 4) (some (x + 72))) (Int32.toNatClampNeg 5) (some (x + 85))) (Int32.toNatClampNeg 6) (some (x + 98))) (Int32.toNatClampNeg 7) (some (x + 111))))))))) n28 => ?_)
  refine A_iinc (j := 0) (v := 8) (L' := [(1, .int 8), (0, .ref (x + 18))]) X dX3_init_47 rfl (by decide) (by decide) rfl ?_
  refine A_goto (tgt := 25) X dX3_init_50 (by decide) ?_
  refine A_iload_n X dX3_init_25 0 rfl ?_
  refine A_aload_n X dX3_init_26 1 rfl ?_
  refine A_get X dX3_init_27 kcl_X3 0 (by decide) kw_197 ((n28 _ (by omega)).trans ((n27 _ (by omega)).trans ((n26 _ (by omega)).trans ((n25 _ (by omega)).trans ((n24 _ (by omega)).trans ((n23 _ (by omega)).trans ((n22 _ (by omega)).trans ((n21 _ (by omega)).trans ((n20 _ (by omega)).trans ((n19 _ (by omega)).trans ((n18 _ (by omega)).trans ((n17 _ (by omega)).trans ((n16 _ (by omega)).trans ((n15 _ (by omega)).trans ((n14 _ (by omega)).trans ((n13 _ (by omega)).trans ((n12 _ (by omega)).trans ((n11 _ (by omega)).trans ((n10 _ (by omega)).trans ((n9 _ (by omega)).trans ((n8 _ (by omega)).trans ((n7 _ (by omega)).trans ((n6 _ (by omega)).trans ((n5 _ (by omega)).trans k4)))))))))))))))))))))))) rfl ?_
  refine A_alen (t := 5) (v := 8) X dX3_init_30 k28 rfl (by decide) ?_
  refine A_icmp_ge_t (tgt := 53) X dX3_init_31 (by decide) (by decide) ?_
  exact A_vret X dX3_init_53 hr ⟨rfl, ((n28 _ (by omega)).trans ((n27 _ (by omega)).trans ((n26 _ (by omega)).trans ((n25 _ (by omega)).trans ((n24 _ (by omega)).trans ((n23 _ (by omega)).trans ((n22 _ (by omega)).trans ((n21 _ (by omega)).trans ((n20 _ (by omega)).trans ((n19 _ (by omega)).trans ((n18 _ (by omega)).trans ((n17 _ (by omega)).trans ((n16 _ (by omega)).trans ((n15 _ (by omega)).trans ((n14 _ (by omega)).trans ((n13 _ (by omega)).trans ((n12 _ (by omega)).trans ((n11 _ (by omega)).trans ((n10 _ (by omega)).trans ((n9 _ (by omega)).trans ((n8 _ (by omega)).trans ((n7 _ (by omega)).trans ((n6 _ (by omega)).trans ((n5 _ (by omega)).trans k4)))))))))))))))))))))))), k28, ((n28 _ (by omega)).trans ((n27 _ (by omega)).trans ((n26 _ (by omega)).trans ((n25 _ (by omega)).trans ((n24 _ (by omega)).trans ((n23 _ (by omega)).trans ((n22 _ (by omega)).trans ((n21 _ (by omega)).trans ((n20 _ (by omega)).trans ((n19 _ (by omega)).trans ((n18 _ (by omega)).trans ((n17 _ (by omega)).trans ((n16 _ (by omega)).trans ((n15 _ (by omega)).trans ((n14 _ (by omega)).trans ((n13 _ (by omega)).trans ((n12 _ (by omega)).trans ((n11 _ (by omega)).trans ((n10 _ (by omega)).trans ((n9 _ (by omega)).trans ((n8 _ (by omega)).trans ((n7 _ (by omega)).trans k6_0)))))))))))))))))))))), ((n28 _ (by omega)).trans ((n27 _ (by omega)).trans ((n26 _ (by omega)).trans ((n25 _ (by omega)).trans ((n24 _ (by omega)).trans ((n23 _ (by omega)).trans ((n22 _ (by omega)).trans ((n21 _ (by omega)).trans ((n20 _ (by omega)).trans ((n19 _ (by omega)).trans ((n18 _ (by omega)).trans ((n17 _ (by omega)).trans ((n16 _ (by omega)).trans ((n15 _ (by omega)).trans ((n14 _ (by omega)).trans ((n13 _ (by omega)).trans ((n12 _ (by omega)).trans ((n11 _ (by omega)).trans ((n10 _ (by omega)).trans ((n9 _ (by omega)).trans ((n8 _ (by omega)).trans ((n7 _ (by omega)).trans k6_1)))))))))))))))))))))), ((n28 _ (by omega)).trans ((n27 _ (by omega)).trans ((n26 _ (by omega)).trans ((n25 _ (by omega)).trans ((n24 _ (by omega)).trans ((n23 _ (by omega)).trans ((n22 _ (by omega)).trans ((n21 _ (by omega)).trans ((n20 _ (by omega)).trans ((n19 _ (by omega)).trans ((n18 _ (by omega)).trans ((n17 _ (by omega)).trans ((n16 _ (by omega)).trans ((n15 _ (by omega)).trans ((n14 _ (by omega)).trans ((n13 _ (by omega)).trans ((n12 _ (by omega)).trans ((n11 _ (by omega)).trans ((n10 _ (by omega)).trans ((n9 _ (by omega)).trans ((n8 _ (by omega)).trans ((n7 _ (by omega)).trans k6_2)))))))))))))))))))))), ((n28 _ (by omega)).trans ((n27 _ (by omega)).trans ((n26 _ (by omega)).trans ((n25 _ (by omega)).trans ((n24 _ (by omega)).trans ((n23 _ (by omega)).trans ((n22 _ (by omega)).trans ((n21 _ (by omega)).trans ((n20 _ (by omega)).trans ((n19 _ (by omega)).trans ((n18 _ (by omega)).trans ((n17 _ (by omega)).trans ((n16 _ (by omega)).trans ((n15 _ (by omega)).trans ((n14 _ (by omega)).trans ((n13 _ (by omega)).trans ((n12 _ (by omega)).trans ((n11 _ (by omega)).trans ((n10 _ (by omega)).trans ((n9 _ (by omega)).trans ((n8 _ (by omega)).trans ((n7 _ (by omega)).trans k6_3)))))))))))))))))))))), ((n28 _ (by omega)).trans ((n27 _ (by omega)).trans ((n26 _ (by omega)).trans ((n25 _ (by omega)).trans ((n24 _ (by omega)).trans ((n23 _ (by omega)).trans ((n22 _ (by omega)).trans ((n21 _ (by omega)).trans ((n20 _ (by omega)).trans ((n19 _ (by omega)).trans ((n18 _ (by omega)).trans ((n17 _ (by omega)).trans ((n16 _ (by omega)).trans ((n15 _ (by omega)).trans ((n14 _ (by omega)).trans ((n13 _ (by omega)).trans ((n12 _ (by omega)).trans ((n11 _ (by omega)).trans ((n10 _ (by omega)).trans ((n9 _ (by omega)).trans ((n8 _ (by omega)).trans ((n7 _ (by omega)).trans k6_4)))))))))))))))))))))), ((n28 _ (by omega)).trans ((n27 _ (by omega)).trans ((n26 _ (by omega)).trans ((n25 _ (by omega)).trans ((n24 _ (by omega)).trans ((n23 _ (by omega)).trans ((n22 _ (by omega)).trans ((n21 _ (by omega)).trans ((n20 _ (by omega)).trans ((n19 _ (by omega)).trans ((n18 _ (by omega)).trans ((n17 _ (by omega)).trans ((n16 _ (by omega)).trans ((n15 _ (by omega)).trans ((n14 _ (by omega)).trans ((n13 _ (by omega)).trans ((n12 _ (by omega)).trans ((n11 _ (by omega)).trans ((n10 _ (by omega)).trans ((n9 _ (by omega)).trans ((n8 _ (by omega)).trans ((n7 _ (by omega)).trans k6_5)))))))))))))))))))))), ((n28 _ (by omega)).trans ((n27 _ (by omega)).trans ((n26 _ (by omega)).trans ((n25 _ (by omega)).trans ((n24 _ (by omega)).trans ((n23 _ (by omega)).trans ((n22 _ (by omega)).trans ((n21 _ (by omega)).trans ((n20 _ (by omega)).trans ((n19 _ (by omega)).trans ((n18 _ (by omega)).trans ((n17 _ (by omega)).trans ((n16 _ (by omega)).trans ((n15 _ (by omega)).trans ((n14 _ (by omega)).trans ((n13 _ (by omega)).trans ((n12 _ (by omega)).trans ((n11 _ (by omega)).trans ((n10 _ (by omega)).trans ((n9 _ (by omega)).trans ((n8 _ (by omega)).trans ((n7 _ (by omega)).trans k6_6)))))))))))))))))))))), ((n28 _ (by omega)).trans ((n27 _ (by omega)).trans ((n26 _ (by omega)).trans ((n25 _ (by omega)).trans ((n24 _ (by omega)).trans ((n23 _ (by omega)).trans ((n22 _ (by omega)).trans ((n21 _ (by omega)).trans ((n20 _ (by omega)).trans ((n19 _ (by omega)).trans ((n18 _ (by omega)).trans ((n17 _ (by omega)).trans ((n16 _ (by omega)).trans ((n15 _ (by omega)).trans ((n14 _ (by omega)).trans ((n13 _ (by omega)).trans ((n12 _ (by omega)).trans ((n11 _ (by omega)).trans ((n10 _ (by omega)).trans ((n9 _ (by omega)).trans ((n8 _ (by omega)).trans ((n7 _ (by omega)).trans k6_7)))))))))))))))))))))), ((n28 _ (by omega)).trans ((n27 _ (by omega)).trans ((n26 _ (by omega)).trans ((n25 _ (by omega)).trans ((n24 _ (by omega)).trans ((n23 _ (by omega)).trans ((n22 _ (by omega)).trans ((n21 _ (by omega)).trans ((n20 _ (by omega)).trans ((n19 _ (by omega)).trans ((n18 _ (by omega)).trans ((n17 _ (by omega)).trans ((n16 _ (by omega)).trans ((n15 _ (by omega)).trans ((n14 _ (by omega)).trans ((n13 _ (by omega)).trans ((n12 _ (by omega)).trans ((n11 _ (by omega)).trans ((n10 _ (by omega)).trans ((n9 _ (by omega)).trans ((n8 _ (by omega)).trans ((n7 _ (by omega)).trans k6_8)))))))))))))))))))))), ((n28 _ (by omega)).trans ((n27 _ (by omega)).trans ((n26 _ (by omega)).trans ((n25 _ (by omega)).trans ((n24 _ (by omega)).trans ((n23 _ (by omega)).trans ((n22 _ (by omega)).trans ((n21 _ (by omega)).trans ((n20 _ (by omega)).trans ((n19 _ (by omega)).trans ((n18 _ (by omega)).trans ((n17 _ (by omega)).trans ((n16 _ (by omega)).trans ((n15 _ (by omega)).trans ((n14 _ (by omega)).trans ((n13 _ (by omega)).trans ((n12 _ (by omega)).trans ((n11 _ (by omega)).trans ((n10 _ (by omega)).trans ((n9 _ (by omega)).trans ((n8 _ (by omega)).trans ((n7 _ (by omega)).trans k6_9)))))))))))))))))))))), ((n28 _ (by omega)).trans ((n27 _ (by omega)).trans ((n26 _ (by omega)).trans ((n25 _ (by omega)).trans ((n24 _ (by omega)).trans ((n23 _ (by omega)).trans ((n22 _ (by omega)).trans ((n21 _ (by omega)).trans ((n20 _ (by omega)).trans ((n19 _ (by omega)).trans ((n18 _ (by omega)).trans ((n17 _ (by omega)).trans ((n16 _ (by omega)).trans ((n15 _ (by omega)).trans ((n14 _ (by omega)).trans ((n13 _ (by omega)).trans ((n12 _ (by omega)).trans ((n11 _ (by omega)).trans ((n10 _ (by omega)).trans ((n9 _ (by omega)).trans ((n8 _ (by omega)).trans ((n7 _ (by omega)).trans k6_10)))))))))))))))))))))), ((n28 _ (by omega)).trans ((n27 _ (by omega)).trans ((n26 _ (by omega)).trans ((n25 _ (by omega)).trans ((n24 _ (by omega)).trans ((n23 _ (by omega)).trans ((n22 _ (by omega)).trans ((n21 _ (by omega)).trans ((n20 _ (by omega)).trans ((n19 _ (by omega)).trans ((n18 _ (by omega)).trans ((n17 _ (by omega)).trans ((n16 _ (by omega)).trans ((n15 _ (by omega)).trans ((n14 _ (by omega)).trans ((n13 _ (by omega)).trans ((n12 _ (by omega)).trans ((n11 _ (by omega)).trans ((n10 _ (by omega)).trans ((n9 _ (by omega)).trans ((n8 _ (by omega)).trans ((n7 _ (by omega)).trans k6_11)))))))))))))))))))))), ((n28 _ (by omega)).trans ((n27 _ (by omega)).trans ((n26 _ (by omega)).trans ((n25 _ (by omega)).trans ((n24 _ (by omega)).trans ((n23 _ (by omega)).trans ((n22 _ (by omega)).trans ((n21 _ (by omega)).trans ((n20 _ (by omega)).trans ((n19 _ (by omega)).trans ((n18 _ (by omega)).trans ((n17 _ (by omega)).trans ((n16 _ (by omega)).trans ((n15 _ (by omega)).trans ((n14 _ (by omega)).trans ((n13 _ (by omega)).trans ((n12 _ (by omega)).trans ((n11 _ (by omega)).trans ((n10 _ (by omega)).trans ((n9 _ (by omega)).trans ((n8 _ (by omega)).trans ((n7 _ (by omega)).trans k6_12)))))))))))))))))))))), ((n28 _ (by omega)).trans ((n27 _ (by omega)).trans ((n26 _ (by omega)).trans ((n25 _ (by omega)).trans ((n24 _ (by omega)).trans ((n23 _ (by omega)).trans ((n22 _ (by omega)).trans ((n21 _ (by omega)).trans ((n20 _ (by omega)).trans ((n19 _ (by omega)).trans ((n18 _ (by omega)).trans ((n17 _ (by omega)).trans ((n16 _ (by omega)).trans ((n15 _ (by omega)).trans ((n14 _ (by omega)).trans ((n13 _ (by omega)).trans ((n12 _ (by omega)).trans ((n11 _ (by omega)).trans ((n10 _ (by omega)).trans k9_0))))))))))))))))))), ((n28 _ (by omega)).trans ((n27 _ (by omega)).trans ((n26 _ (by omega)).trans ((n25 _ (by omega)).trans ((n24 _ (by omega)).trans ((n23 _ (by omega)).trans ((n22 _ (by omega)).trans ((n21 _ (by omega)).trans ((n20 _ (by omega)).trans ((n19 _ (by omega)).trans ((n18 _ (by omega)).trans ((n17 _ (by omega)).trans ((n16 _ (by omega)).trans ((n15 _ (by omega)).trans ((n14 _ (by omega)).trans ((n13 _ (by omega)).trans ((n12 _ (by omega)).trans ((n11 _ (by omega)).trans ((n10 _ (by omega)).trans k9_1))))))))))))))))))), ((n28 _ (by omega)).trans ((n27 _ (by omega)).trans ((n26 _ (by omega)).trans ((n25 _ (by omega)).trans ((n24 _ (by omega)).trans ((n23 _ (by omega)).trans ((n22 _ (by omega)).trans ((n21 _ (by omega)).trans ((n20 _ (by omega)).trans ((n19 _ (by omega)).trans ((n18 _ (by omega)).trans ((n17 _ (by omega)).trans ((n16 _ (by omega)).trans ((n15 _ (by omega)).trans ((n14 _ (by omega)).trans ((n13 _ (by omega)).trans ((n12 _ (by omega)).trans ((n11 _ (by omega)).trans ((n10 _ (by omega)).trans k9_2))))))))))))))))))), ((n28 _ (by omega)).trans ((n27 _ (by omega)).trans ((n26 _ (by omega)).trans ((n25 _ (by omega)).trans ((n24 _ (by omega)).trans ((n23 _ (by omega)).trans ((n22 _ (by omega)).trans ((n21 _ (by omega)).trans ((n20 _ (by omega)).trans ((n19 _ (by omega)).trans ((n18 _ (by omega)).trans ((n17 _ (by omega)).trans ((n16 _ (by omega)).trans ((n15 _ (by omega)).trans ((n14 _ (by omega)).trans ((n13 _ (by omega)).trans ((n12 _ (by omega)).trans ((n11 _ (by omega)).trans ((n10 _ (by omega)).trans k9_3))))))))))))))))))), ((n28 _ (by omega)).trans ((n27 _ (by omega)).trans ((n26 _ (by omega)).trans ((n25 _ (by omega)).trans ((n24 _ (by omega)).trans ((n23 _ (by omega)).trans ((n22 _ (by omega)).trans ((n21 _ (by omega)).trans ((n20 _ (by omega)).trans ((n19 _ (by omega)).trans ((n18 _ (by omega)).trans ((n17 _ (by omega)).trans ((n16 _ (by omega)).trans ((n15 _ (by omega)).trans ((n14 _ (by omega)).trans ((n13 _ (by omega)).trans ((n12 _ (by omega)).trans ((n11 _ (by omega)).trans ((n10 _ (by omega)).trans k9_4))))))))))))))))))), ((n28 _ (by omega)).trans ((n27 _ (by omega)).trans ((n26 _ (by omega)).trans ((n25 _ (by omega)).trans ((n24 _ (by omega)).trans ((n23 _ (by omega)).trans ((n22 _ (by omega)).trans ((n21 _ (by omega)).trans ((n20 _ (by omega)).trans ((n19 _ (by omega)).trans ((n18 _ (by omega)).trans ((n17 _ (by omega)).trans ((n16 _ (by omega)).trans ((n15 _ (by omega)).trans ((n14 _ (by omega)).trans ((n13 _ (by omega)).trans ((n12 _ (by omega)).trans ((n11 _ (by omega)).trans ((n10 _ (by omega)).trans k9_5))))))))))))))))))), ((n28 _ (by omega)).trans ((n27 _ (by omega)).trans ((n26 _ (by omega)).trans ((n25 _ (by omega)).trans ((n24 _ (by omega)).trans ((n23 _ (by omega)).trans ((n22 _ (by omega)).trans ((n21 _ (by omega)).trans ((n20 _ (by omega)).trans ((n19 _ (by omega)).trans ((n18 _ (by omega)).trans ((n17 _ (by omega)).trans ((n16 _ (by omega)).trans ((n15 _ (by omega)).trans ((n14 _ (by omega)).trans ((n13 _ (by omega)).trans ((n12 _ (by omega)).trans ((n11 _ (by omega)).trans ((n10 _ (by omega)).trans k9_6))))))))))))))))))), ((n28 _ (by omega)).trans ((n27 _ (by omega)).trans ((n26 _ (by omega)).trans ((n25 _ (by omega)).trans ((n24 _ (by omega)).trans ((n23 _ (by omega)).trans ((n22 _ (by omega)).trans ((n21 _ (by omega)).trans ((n20 _ (by omega)).trans ((n19 _ (by omega)).trans ((n18 _ (by omega)).trans ((n17 _ (by omega)).trans ((n16 _ (by omega)).trans ((n15 _ (by omega)).trans ((n14 _ (by omega)).trans ((n13 _ (by omega)).trans ((n12 _ (by omega)).trans ((n11 _ (by omega)).trans ((n10 _ (by omega)).trans k9_7))))))))))))))))))), ((n28 _ (by omega)).trans ((n27 _ (by omega)).trans ((n26 _ (by omega)).trans ((n25 _ (by omega)).trans ((n24 _ (by omega)).trans ((n23 _ (by omega)).trans ((n22 _ (by omega)).trans ((n21 _ (by omega)).trans ((n20 _ (by omega)).trans ((n19 _ (by omega)).trans ((n18 _ (by omega)).trans ((n17 _ (by omega)).trans ((n16 _ (by omega)).trans ((n15 _ (by omega)).trans ((n14 _ (by omega)).trans ((n13 _ (by omega)).trans ((n12 _ (by omega)).trans ((n11 _ (by omega)).trans ((n10 _ (by omega)).trans k9_8))))))))))))))))))), ((n28 _ (by omega)).trans ((n27 _ (by omega)).trans ((n26 _ (by omega)).trans ((n25 _ (by omega)).trans ((n24 _ (by omega)).trans ((n23 _ (by omega)).trans ((n22 _ (by omega)).trans ((n21 _ (by omega)).trans ((n20 _ (by omega)).trans ((n19 _ (by omega)).trans ((n18 _ (by omega)).trans ((n17 _ (by omega)).trans ((n16 _ (by omega)).trans ((n15 _ (by omega)).trans ((n14 _ (by omega)).trans ((n13 _ (by omega)).trans ((n12 _ (by omega)).trans ((n11 _ (by omega)).trans ((n10 _ (by omega)).trans k9_9))))))))))))))))))), ((n28 _ (by omega)).trans ((n27 _ (by omega)).trans ((n26 _ (by omega)).trans ((n25 _ (by omega)).trans ((n24 _ (by omega)).trans ((n23 _ (by omega)).trans ((n22 _ (by omega)).trans ((n21 _ (by omega)).trans ((n20 _ (by omega)).trans ((n19 _ (by omega)).trans ((n18 _ (by omega)).trans ((n17 _ (by omega)).trans ((n16 _ (by omega)).trans ((n15 _ (by omega)).trans ((n14 _ (by omega)).trans ((n13 _ (by omega)).trans ((n12 _ (by omega)).trans ((n11 _ (by omega)).trans ((n10 _ (by omega)).trans k9_10))))))))))))))))))), ((n28 _ (by omega)).trans ((n27 _ (by omega)).trans ((n26 _ (by omega)).trans ((n25 _ (by omega)).trans ((n24 _ (by omega)).trans ((n23 _ (by omega)).trans ((n22 _ (by omega)).trans ((n21 _ (by omega)).trans ((n20 _ (by omega)).trans ((n19 _ (by omega)).trans ((n18 _ (by omega)).trans ((n17 _ (by omega)).trans ((n16 _ (by omega)).trans ((n15 _ (by omega)).trans ((n14 _ (by omega)).trans ((n13 _ (by omega)).trans ((n12 _ (by omega)).trans ((n11 _ (by omega)).trans ((n10 _ (by omega)).trans k9_11))))))))))))))))))), ((n28 _ (by omega)).trans ((n27 _ (by omega)).trans ((n26 _ (by omega)).trans ((n25 _ (by omega)).trans ((n24 _ (by omega)).trans ((n23 _ (by omega)).trans ((n22 _ (by omega)).trans ((n21 _ (by omega)).trans ((n20 _ (by omega)).trans ((n19 _ (by omega)).trans ((n18 _ (by omega)).trans ((n17 _ (by omega)).trans ((n16 _ (by omega)).trans ((n15 _ (by omega)).trans ((n14 _ (by omega)).trans ((n13 _ (by omega)).trans ((n12 _ (by omega)).trans ((n11 _ (by omega)).trans ((n10 _ (by omega)).trans k9_12))))))))))))))))))), ((n28 _ (by omega)).trans ((n27 _ (by omega)).trans ((n26 _ (by omega)).trans ((n25 _ (by omega)).trans ((n24 _ (by omega)).trans ((n23 _ (by omega)).trans ((n22 _ (by omega)).trans ((n21 _ (by omega)).trans ((n20 _ (by omega)).trans ((n19 _ (by omega)).trans ((n18 _ (by omega)).trans ((n17 _ (by omega)).trans ((n16 _ (by omega)).trans ((n15 _ (by omega)).trans ((n14 _ (by omega)).trans ((n13 _ (by omega)).trans k12_0)))))))))))))))), ((n28 _ (by omega)).trans ((n27 _ (by omega)).trans ((n26 _ (by omega)).trans ((n25 _ (by omega)).trans ((n24 _ (by omega)).trans ((n23 _ (by omega)).trans ((n22 _ (by omega)).trans ((n21 _ (by omega)).trans ((n20 _ (by omega)).trans ((n19 _ (by omega)).trans ((n18 _ (by omega)).trans ((n17 _ (by omega)).trans ((n16 _ (by omega)).trans ((n15 _ (by omega)).trans ((n14 _ (by omega)).trans ((n13 _ (by omega)).trans k12_1)))))))))))))))), ((n28 _ (by omega)).trans ((n27 _ (by omega)).trans ((n26 _ (by omega)).trans ((n25 _ (by omega)).trans ((n24 _ (by omega)).trans ((n23 _ (by omega)).trans ((n22 _ (by omega)).trans ((n21 _ (by omega)).trans ((n20 _ (by omega)).trans ((n19 _ (by omega)).trans ((n18 _ (by omega)).trans ((n17 _ (by omega)).trans ((n16 _ (by omega)).trans ((n15 _ (by omega)).trans ((n14 _ (by omega)).trans ((n13 _ (by omega)).trans k12_2)))))))))))))))), ((n28 _ (by omega)).trans ((n27 _ (by omega)).trans ((n26 _ (by omega)).trans ((n25 _ (by omega)).trans ((n24 _ (by omega)).trans ((n23 _ (by omega)).trans ((n22 _ (by omega)).trans ((n21 _ (by omega)).trans ((n20 _ (by omega)).trans ((n19 _ (by omega)).trans ((n18 _ (by omega)).trans ((n17 _ (by omega)).trans ((n16 _ (by omega)).trans ((n15 _ (by omega)).trans ((n14 _ (by omega)).trans ((n13 _ (by omega)).trans k12_3)))))))))))))))), ((n28 _ (by omega)).trans ((n27 _ (by omega)).trans ((n26 _ (by omega)).trans ((n25 _ (by omega)).trans ((n24 _ (by omega)).trans ((n23 _ (by omega)).trans ((n22 _ (by omega)).trans ((n21 _ (by omega)).trans ((n20 _ (by omega)).trans ((n19 _ (by omega)).trans ((n18 _ (by omega)).trans ((n17 _ (by omega)).trans ((n16 _ (by omega)).trans ((n15 _ (by omega)).trans ((n14 _ (by omega)).trans ((n13 _ (by omega)).trans k12_4)))))))))))))))), ((n28 _ (by omega)).trans ((n27 _ (by omega)).trans ((n26 _ (by omega)).trans ((n25 _ (by omega)).trans ((n24 _ (by omega)).trans ((n23 _ (by omega)).trans ((n22 _ (by omega)).trans ((n21 _ (by omega)).trans ((n20 _ (by omega)).trans ((n19 _ (by omega)).trans ((n18 _ (by omega)).trans ((n17 _ (by omega)).trans ((n16 _ (by omega)).trans ((n15 _ (by omega)).trans ((n14 _ (by omega)).trans ((n13 _ (by omega)).trans k12_5)))))))))))))))), ((n28 _ (by omega)).trans ((n27 _ (by omega)).trans ((n26 _ (by omega)).trans ((n25 _ (by omega)).trans ((n24 _ (by omega)).trans ((n23 _ (by omega)).trans ((n22 _ (by omega)).trans ((n21 _ (by omega)).trans ((n20 _ (by omega)).trans ((n19 _ (by omega)).trans ((n18 _ (by omega)).trans ((n17 _ (by omega)).trans ((n16 _ (by omega)).trans ((n15 _ (by omega)).trans ((n14 _ (by omega)).trans ((n13 _ (by omega)).trans k12_6)))))))))))))))), ((n28 _ (by omega)).trans ((n27 _ (by omega)).trans ((n26 _ (by omega)).trans ((n25 _ (by omega)).trans ((n24 _ (by omega)).trans ((n23 _ (by omega)).trans ((n22 _ (by omega)).trans ((n21 _ (by omega)).trans ((n20 _ (by omega)).trans ((n19 _ (by omega)).trans ((n18 _ (by omega)).trans ((n17 _ (by omega)).trans ((n16 _ (by omega)).trans ((n15 _ (by omega)).trans ((n14 _ (by omega)).trans ((n13 _ (by omega)).trans k12_7)))))))))))))))), ((n28 _ (by omega)).trans ((n27 _ (by omega)).trans ((n26 _ (by omega)).trans ((n25 _ (by omega)).trans ((n24 _ (by omega)).trans ((n23 _ (by omega)).trans ((n22 _ (by omega)).trans ((n21 _ (by omega)).trans ((n20 _ (by omega)).trans ((n19 _ (by omega)).trans ((n18 _ (by omega)).trans ((n17 _ (by omega)).trans ((n16 _ (by omega)).trans ((n15 _ (by omega)).trans ((n14 _ (by omega)).trans ((n13 _ (by omega)).trans k12_8)))))))))))))))), ((n28 _ (by omega)).trans ((n27 _ (by omega)).trans ((n26 _ (by omega)).trans ((n25 _ (by omega)).trans ((n24 _ (by omega)).trans ((n23 _ (by omega)).trans ((n22 _ (by omega)).trans ((n21 _ (by omega)).trans ((n20 _ (by omega)).trans ((n19 _ (by omega)).trans ((n18 _ (by omega)).trans ((n17 _ (by omega)).trans ((n16 _ (by omega)).trans ((n15 _ (by omega)).trans ((n14 _ (by omega)).trans ((n13 _ (by omega)).trans k12_9)))))))))))))))), ((n28 _ (by omega)).trans ((n27 _ (by omega)).trans ((n26 _ (by omega)).trans ((n25 _ (by omega)).trans ((n24 _ (by omega)).trans ((n23 _ (by omega)).trans ((n22 _ (by omega)).trans ((n21 _ (by omega)).trans ((n20 _ (by omega)).trans ((n19 _ (by omega)).trans ((n18 _ (by omega)).trans ((n17 _ (by omega)).trans ((n16 _ (by omega)).trans ((n15 _ (by omega)).trans ((n14 _ (by omega)).trans ((n13 _ (by omega)).trans k12_10)))))))))))))))), ((n28 _ (by omega)).trans ((n27 _ (by omega)).trans ((n26 _ (by omega)).trans ((n25 _ (by omega)).trans ((n24 _ (by omega)).trans ((n23 _ (by omega)).trans ((n22 _ (by omega)).trans ((n21 _ (by omega)).trans ((n20 _ (by omega)).trans ((n19 _ (by omega)).trans ((n18 _ (by omega)).trans ((n17 _ (by omega)).trans ((n16 _ (by omega)).trans ((n15 _ (by omega)).trans ((n14 _ (by omega)).trans ((n13 _ (by omega)).trans k12_11)))))))))))))))), ((n28 _ (by omega)).trans ((n27 _ (by omega)).trans ((n26 _ (by omega)).trans ((n25 _ (by omega)).trans ((n24 _ (by omega)).trans ((n23 _ (by omega)).trans ((n22 _ (by omega)).trans ((n21 _ (by omega)).trans ((n20 _ (by omega)).trans ((n19 _ (by omega)).trans ((n18 _ (by omega)).trans ((n17 _ (by omega)).trans ((n16 _ (by omega)).trans ((n15 _ (by omega)).trans ((n14 _ (by omega)).trans ((n13 _ (by omega)).trans k12_12)))))))))))))))), ((n28 _ (by omega)).trans ((n27 _ (by omega)).trans ((n26 _ (by omega)).trans ((n25 _ (by omega)).trans ((n24 _ (by omega)).trans ((n23 _ (by omega)).trans ((n22 _ (by omega)).trans ((n21 _ (by omega)).trans ((n20 _ (by omega)).trans ((n19 _ (by omega)).trans ((n18 _ (by omega)).trans ((n17 _ (by omega)).trans ((n16 _ (by omega)).trans k15_0))))))))))))), ((n28 _ (by omega)).trans ((n27 _ (by omega)).trans ((n26 _ (by omega)).trans ((n25 _ (by omega)).trans ((n24 _ (by omega)).trans ((n23 _ (by omega)).trans ((n22 _ (by omega)).trans ((n21 _ (by omega)).trans ((n20 _ (by omega)).trans ((n19 _ (by omega)).trans ((n18 _ (by omega)).trans ((n17 _ (by omega)).trans ((n16 _ (by omega)).trans k15_1))))))))))))), ((n28 _ (by omega)).trans ((n27 _ (by omega)).trans ((n26 _ (by omega)).trans ((n25 _ (by omega)).trans ((n24 _ (by omega)).trans ((n23 _ (by omega)).trans ((n22 _ (by omega)).trans ((n21 _ (by omega)).trans ((n20 _ (by omega)).trans ((n19 _ (by omega)).trans ((n18 _ (by omega)).trans ((n17 _ (by omega)).trans ((n16 _ (by omega)).trans k15_2))))))))))))), ((n28 _ (by omega)).trans ((n27 _ (by omega)).trans ((n26 _ (by omega)).trans ((n25 _ (by omega)).trans ((n24 _ (by omega)).trans ((n23 _ (by omega)).trans ((n22 _ (by omega)).trans ((n21 _ (by omega)).trans ((n20 _ (by omega)).trans ((n19 _ (by omega)).trans ((n18 _ (by omega)).trans ((n17 _ (by omega)).trans ((n16 _ (by omega)).trans k15_3))))))))))))), ((n28 _ (by omega)).trans ((n27 _ (by omega)).trans ((n26 _ (by omega)).trans ((n25 _ (by omega)).trans ((n24 _ (by omega)).trans ((n23 _ (by omega)).trans ((n22 _ (by omega)).trans ((n21 _ (by omega)).trans ((n20 _ (by omega)).trans ((n19 _ (by omega)).trans ((n18 _ (by omega)).trans ((n17 _ (by omega)).trans ((n16 _ (by omega)).trans k15_4))))))))))))), ((n28 _ (by omega)).trans ((n27 _ (by omega)).trans ((n26 _ (by omega)).trans ((n25 _ (by omega)).trans ((n24 _ (by omega)).trans ((n23 _ (by omega)).trans ((n22 _ (by omega)).trans ((n21 _ (by omega)).trans ((n20 _ (by omega)).trans ((n19 _ (by omega)).trans ((n18 _ (by omega)).trans ((n17 _ (by omega)).trans ((n16 _ (by omega)).trans k15_5))))))))))))), ((n28 _ (by omega)).trans ((n27 _ (by omega)).trans ((n26 _ (by omega)).trans ((n25 _ (by omega)).trans ((n24 _ (by omega)).trans ((n23 _ (by omega)).trans ((n22 _ (by omega)).trans ((n21 _ (by omega)).trans ((n20 _ (by omega)).trans ((n19 _ (by omega)).trans ((n18 _ (by omega)).trans ((n17 _ (by omega)).trans ((n16 _ (by omega)).trans k15_6))))))))))))), ((n28 _ (by omega)).trans ((n27 _ (by omega)).trans ((n26 _ (by omega)).trans ((n25 _ (by omega)).trans ((n24 _ (by omega)).trans ((n23 _ (by omega)).trans ((n22 _ (by omega)).trans ((n21 _ (by omega)).trans ((n20 _ (by omega)).trans ((n19 _ (by omega)).trans ((n18 _ (by omega)).trans ((n17 _ (by omega)).trans ((n16 _ (by omega)).trans k15_7))))))))))))), ((n28 _ (by omega)).trans ((n27 _ (by omega)).trans ((n26 _ (by omega)).trans ((n25 _ (by omega)).trans ((n24 _ (by omega)).trans ((n23 _ (by omega)).trans ((n22 _ (by omega)).trans ((n21 _ (by omega)).trans ((n20 _ (by omega)).trans ((n19 _ (by omega)).trans ((n18 _ (by omega)).trans ((n17 _ (by omega)).trans ((n16 _ (by omega)).trans k15_8))))))))))))), ((n28 _ (by omega)).trans ((n27 _ (by omega)).trans ((n26 _ (by omega)).trans ((n25 _ (by omega)).trans ((n24 _ (by omega)).trans ((n23 _ (by omega)).trans ((n22 _ (by omega)).trans ((n21 _ (by omega)).trans ((n20 _ (by omega)).trans ((n19 _ (by omega)).trans ((n18 _ (by omega)).trans ((n17 _ (by omega)).trans ((n16 _ (by omega)).trans k15_9))))))))))))), ((n28 _ (by omega)).trans ((n27 _ (by omega)).trans ((n26 _ (by omega)).trans ((n25 _ (by omega)).trans ((n24 _ (by omega)).trans ((n23 _ (by omega)).trans ((n22 _ (by omega)).trans ((n21 _ (by omega)).trans ((n20 _ (by omega)).trans ((n19 _ (by omega)).trans ((n18 _ (by omega)).trans ((n17 _ (by omega)).trans ((n16 _ (by omega)).trans k15_10))))))))))))), ((n28 _ (by omega)).trans ((n27 _ (by omega)).trans ((n26 _ (by omega)).trans ((n25 _ (by omega)).trans ((n24 _ (by omega)).trans ((n23 _ (by omega)).trans ((n22 _ (by omega)).trans ((n21 _ (by omega)).trans ((n20 _ (by omega)).trans ((n19 _ (by omega)).trans ((n18 _ (by omega)).trans ((n17 _ (by omega)).trans ((n16 _ (by omega)).trans k15_11))))))))))))), ((n28 _ (by omega)).trans ((n27 _ (by omega)).trans ((n26 _ (by omega)).trans ((n25 _ (by omega)).trans ((n24 _ (by omega)).trans ((n23 _ (by omega)).trans ((n22 _ (by omega)).trans ((n21 _ (by omega)).trans ((n20 _ (by omega)).trans ((n19 _ (by omega)).trans ((n18 _ (by omega)).trans ((n17 _ (by omega)).trans ((n16 _ (by omega)).trans k15_12))))))))))))), ((n28 _ (by omega)).trans ((n27 _ (by omega)).trans ((n26 _ (by omega)).trans ((n25 _ (by omega)).trans ((n24 _ (by omega)).trans ((n23 _ (by omega)).trans ((n22 _ (by omega)).trans ((n21 _ (by omega)).trans ((n20 _ (by omega)).trans ((n19 _ (by omega)).trans k18_0)))))))))), ((n28 _ (by omega)).trans ((n27 _ (by omega)).trans ((n26 _ (by omega)).trans ((n25 _ (by omega)).trans ((n24 _ (by omega)).trans ((n23 _ (by omega)).trans ((n22 _ (by omega)).trans ((n21 _ (by omega)).trans ((n20 _ (by omega)).trans ((n19 _ (by omega)).trans k18_1)))))))))), ((n28 _ (by omega)).trans ((n27 _ (by omega)).trans ((n26 _ (by omega)).trans ((n25 _ (by omega)).trans ((n24 _ (by omega)).trans ((n23 _ (by omega)).trans ((n22 _ (by omega)).trans ((n21 _ (by omega)).trans ((n20 _ (by omega)).trans ((n19 _ (by omega)).trans k18_2)))))))))), ((n28 _ (by omega)).trans ((n27 _ (by omega)).trans ((n26 _ (by omega)).trans ((n25 _ (by omega)).trans ((n24 _ (by omega)).trans ((n23 _ (by omega)).trans ((n22 _ (by omega)).trans ((n21 _ (by omega)).trans ((n20 _ (by omega)).trans ((n19 _ (by omega)).trans k18_3)))))))))), ((n28 _ (by omega)).trans ((n27 _ (by omega)).trans ((n26 _ (by omega)).trans ((n25 _ (by omega)).trans ((n24 _ (by omega)).trans ((n23 _ (by omega)).trans ((n22 _ (by omega)).trans ((n21 _ (by omega)).trans ((n20 _ (by omega)).trans ((n19 _ (by omega)).trans k18_4)))))))))), ((n28 _ (by omega)).trans ((n27 _ (by omega)).trans ((n26 _ (by omega)).trans ((n25 _ (by omega)).trans ((n24 _ (by omega)).trans ((n23 _ (by omega)).trans ((n22 _ (by omega)).trans ((n21 _ (by omega)).trans ((n20 _ (by omega)).trans ((n19 _ (by omega)).trans k18_5)))))))))), ((n28 _ (by omega)).trans ((n27 _ (by omega)).trans ((n26 _ (by omega)).trans ((n25 _ (by omega)).trans ((n24 _ (by omega)).trans ((n23 _ (by omega)).trans ((n22 _ (by omega)).trans ((n21 _ (by omega)).trans ((n20 _ (by omega)).trans ((n19 _ (by omega)).trans k18_6)))))))))), ((n28 _ (by omega)).trans ((n27 _ (by omega)).trans ((n26 _ (by omega)).trans ((n25 _ (by omega)).trans ((n24 _ (by omega)).trans ((n23 _ (by omega)).trans ((n22 _ (by omega)).trans ((n21 _ (by omega)).trans ((n20 _ (by omega)).trans ((n19 _ (by omega)).trans k18_7)))))))))), ((n28 _ (by omega)).trans ((n27 _ (by omega)).trans ((n26 _ (by omega)).trans ((n25 _ (by omega)).trans ((n24 _ (by omega)).trans ((n23 _ (by omega)).trans ((n22 _ (by omega)).trans ((n21 _ (by omega)).trans ((n20 _ (by omega)).trans ((n19 _ (by omega)).trans k18_8)))))))))), ((n28 _ (by omega)).trans ((n27 _ (by omega)).trans ((n26 _ (by omega)).trans ((n25 _ (by omega)).trans ((n24 _ (by omega)).trans ((n23 _ (by omega)).trans ((n22 _ (by omega)).trans ((n21 _ (by omega)).trans ((n20 _ (by omega)).trans ((n19 _ (by omega)).trans k18_9)))))))))), ((n28 _ (by omega)).trans ((n27 _ (by omega)).trans ((n26 _ (by omega)).trans ((n25 _ (by omega)).trans ((n24 _ (by omega)).trans ((n23 _ (by omega)).trans ((n22 _ (by omega)).trans ((n21 _ (by omega)).trans ((n20 _ (by omega)).trans ((n19 _ (by omega)).trans k18_10)))))))))), ((n28 _ (by omega)).trans ((n27 _ (by omega)).trans ((n26 _ (by omega)).trans ((n25 _ (by omega)).trans ((n24 _ (by omega)).trans ((n23 _ (by omega)).trans ((n22 _ (by omega)).trans ((n21 _ (by omega)).trans ((n20 _ (by omega)).trans ((n19 _ (by omega)).trans k18_11)))))))))), ((n28 _ (by omega)).trans ((n27 _ (by omega)).trans ((n26 _ (by omega)).trans ((n25 _ (by omega)).trans ((n24 _ (by omega)).trans ((n23 _ (by omega)).trans ((n22 _ (by omega)).trans ((n21 _ (by omega)).trans ((n20 _ (by omega)).trans ((n19 _ (by omega)).trans k18_12)))))))))), ((n28 _ (by omega)).trans ((n27 _ (by omega)).trans ((n26 _ (by omega)).trans ((n25 _ (by omega)).trans ((n24 _ (by omega)).trans ((n23 _ (by omega)).trans ((n22 _ (by omega)).trans k21_0))))))), ((n28 _ (by omega)).trans ((n27 _ (by omega)).trans ((n26 _ (by omega)).trans ((n25 _ (by omega)).trans ((n24 _ (by omega)).trans ((n23 _ (by omega)).trans ((n22 _ (by omega)).trans k21_1))))))), ((n28 _ (by omega)).trans ((n27 _ (by omega)).trans ((n26 _ (by omega)).trans ((n25 _ (by omega)).trans ((n24 _ (by omega)).trans ((n23 _ (by omega)).trans ((n22 _ (by omega)).trans k21_2))))))), ((n28 _ (by omega)).trans ((n27 _ (by omega)).trans ((n26 _ (by omega)).trans ((n25 _ (by omega)).trans ((n24 _ (by omega)).trans ((n23 _ (by omega)).trans ((n22 _ (by omega)).trans k21_3))))))), ((n28 _ (by omega)).trans ((n27 _ (by omega)).trans ((n26 _ (by omega)).trans ((n25 _ (by omega)).trans ((n24 _ (by omega)).trans ((n23 _ (by omega)).trans ((n22 _ (by omega)).trans k21_4))))))), ((n28 _ (by omega)).trans ((n27 _ (by omega)).trans ((n26 _ (by omega)).trans ((n25 _ (by omega)).trans ((n24 _ (by omega)).trans ((n23 _ (by omega)).trans ((n22 _ (by omega)).trans k21_5))))))), ((n28 _ (by omega)).trans ((n27 _ (by omega)).trans ((n26 _ (by omega)).trans ((n25 _ (by omega)).trans ((n24 _ (by omega)).trans ((n23 _ (by omega)).trans ((n22 _ (by omega)).trans k21_6))))))), ((n28 _ (by omega)).trans ((n27 _ (by omega)).trans ((n26 _ (by omega)).trans ((n25 _ (by omega)).trans ((n24 _ (by omega)).trans ((n23 _ (by omega)).trans ((n22 _ (by omega)).trans k21_7))))))), ((n28 _ (by omega)).trans ((n27 _ (by omega)).trans ((n26 _ (by omega)).trans ((n25 _ (by omega)).trans ((n24 _ (by omega)).trans ((n23 _ (by omega)).trans ((n22 _ (by omega)).trans k21_8))))))), ((n28 _ (by omega)).trans ((n27 _ (by omega)).trans ((n26 _ (by omega)).trans ((n25 _ (by omega)).trans ((n24 _ (by omega)).trans ((n23 _ (by omega)).trans ((n22 _ (by omega)).trans k21_9))))))), ((n28 _ (by omega)).trans ((n27 _ (by omega)).trans ((n26 _ (by omega)).trans ((n25 _ (by omega)).trans ((n24 _ (by omega)).trans ((n23 _ (by omega)).trans ((n22 _ (by omega)).trans k21_10))))))), ((n28 _ (by omega)).trans ((n27 _ (by omega)).trans ((n26 _ (by omega)).trans ((n25 _ (by omega)).trans ((n24 _ (by omega)).trans ((n23 _ (by omega)).trans ((n22 _ (by omega)).trans k21_11))))))), ((n28 _ (by omega)).trans ((n27 _ (by omega)).trans ((n26 _ (by omega)).trans ((n25 _ (by omega)).trans ((n24 _ (by omega)).trans ((n23 _ (by omega)).trans ((n22 _ (by omega)).trans k21_12))))))), ((n28 _ (by omega)).trans ((n27 _ (by omega)).trans ((n26 _ (by omega)).trans ((n25 _ (by omega)).trans k24_0)))), ((n28 _ (by omega)).trans ((n27 _ (by omega)).trans ((n26 _ (by omega)).trans ((n25 _ (by omega)).trans k24_1)))), ((n28 _ (by omega)).trans ((n27 _ (by omega)).trans ((n26 _ (by omega)).trans ((n25 _ (by omega)).trans k24_2)))), ((n28 _ (by omega)).trans ((n27 _ (by omega)).trans ((n26 _ (by omega)).trans ((n25 _ (by omega)).trans k24_3)))), ((n28 _ (by omega)).trans ((n27 _ (by omega)).trans ((n26 _ (by omega)).trans ((n25 _ (by omega)).trans k24_4)))), ((n28 _ (by omega)).trans ((n27 _ (by omega)).trans ((n26 _ (by omega)).trans ((n25 _ (by omega)).trans k24_5)))), ((n28 _ (by omega)).trans ((n27 _ (by omega)).trans ((n26 _ (by omega)).trans ((n25 _ (by omega)).trans k24_6)))), ((n28 _ (by omega)).trans ((n27 _ (by omega)).trans ((n26 _ (by omega)).trans ((n25 _ (by omega)).trans k24_7)))), ((n28 _ (by omega)).trans ((n27 _ (by omega)).trans ((n26 _ (by omega)).trans ((n25 _ (by omega)).trans k24_8)))), ((n28 _ (by omega)).trans ((n27 _ (by omega)).trans ((n26 _ (by omega)).trans ((n25 _ (by omega)).trans k24_9)))), ((n28 _ (by omega)).trans ((n27 _ (by omega)).trans ((n26 _ (by omega)).trans ((n25 _ (by omega)).trans k24_10)))), ((n28 _ (by omega)).trans ((n27 _ (by omega)).trans ((n26 _ (by omega)).trans ((n25 _ (by omega)).trans k24_11)))), ((n28 _ (by omega)).trans ((n27 _ (by omega)).trans ((n26 _ (by omega)).trans ((n25 _ (by omega)).trans k24_12)))), ((n28 _ (by omega)).trans k27_0), ((n28 _ (by omega)).trans k27_1), ((n28 _ (by omega)).trans k27_2), ((n28 _ (by omega)).trans k27_3), ((n28 _ (by omega)).trans k27_4), ((n28 _ (by omega)).trans k27_5), ((n28 _ (by omega)).trans k27_6), ((n28 _ (by omega)).trans k27_7), ((n28 _ (by omega)).trans k27_8), ((n28 _ (by omega)).trans k27_9), ((n28 _ (by omega)).trans k27_10), ((n28 _ (by omega)).trans k27_11), ((n28 _ (by omega)).trans k27_12), (fun q z => ((n28 q (by omega)).trans ((n27 q (by omega)).trans ((n26 q (by omega)).trans ((n25 q (by omega)).trans ((n24 q (by omega)).trans ((n23 q (by omega)).trans ((n22 q (by omega)).trans ((n21 q (by omega)).trans ((n20 q (by omega)).trans ((n19 q (by omega)).trans ((n18 q (by omega)).trans ((n17 q (by omega)).trans ((n16 q (by omega)).trans ((n15 q (by omega)).trans ((n14 q (by omega)).trans ((n13 q (by omega)).trans ((n12 q (by omega)).trans ((n11 q (by omega)).trans ((n10 q (by omega)).trans ((n9 q (by omega)).trans ((n8 q (by omega)).trans ((n7 q (by omega)).trans ((n6 q (by omega)).trans ((n5 q (by omega)).trans ((n4 q (by omega)).trans ((n3 q (by omega)).trans ((n2 q (by omega)).trans (n1 q (by omega)))))))))))))))))))))))))))))), rfl⟩ (Nat.le_of_ble_eq_true rfl) (Nat.le_of_ble_eq_true rfl)
abbrev P_X3_remember (E : KE) (x : Nat) (b2 : Nat) (v : Nat)  (hp : Hp) (al : Option Nat) (out : Int32 × Int32 × Int32 × Int32 × Int32 × Int32 × (Nat → Int32) × (Nat → Int32) × Int32 × (Nat → Int32) × (Nat → Int32) × Int32 × (Nat → Int32) × (Nat → Int32) × Int32 × (Nat → Int32) × (Nat → Int32)) : Option Value → Hp → Option Nat → Prop := fun v0 hp' al' => v0 = none ∧ hp' (x + 18) = some (.inr (5, [.ref (x + 19), .int out.1, .int out.2.1])) ∧ hp' v = some (.inr (4, [.ref (v + 1), .ref (v + 4), .ref (v + 7), .ref (v + 10), .int out.2.2.1, .int out.2.2.2.1, .int out.2.2.2.2.1])) ∧ hp' (v + 1) = some (.inr (2, [.ref (v + 2), .ref (v + 3), .int out.2.2.2.2.2.1])) ∧ hp' (v + 2) = some (.inl (kC E 0, 6, .inl out.2.2.2.2.2.2.1)) ∧ hp' (v + 3) = some (.inl (kC E 0, 72, .inl out.2.2.2.2.2.2.2.1)) ∧ hp' (v + 4) = some (.inr (9, [.ref (v + 5), .ref (v + 6), .int out.2.2.2.2.2.2.2.2.1])) ∧ hp' (v + 5) = some (.inl (kC E 0, 6, .inl out.2.2.2.2.2.2.2.2.2.1)) ∧ hp' (v + 6) = some (.inl (kC E 0, 24, .inl out.2.2.2.2.2.2.2.2.2.2.1)) ∧ hp' (v + 7) = some (.inr (6, [.ref (v + 8), .ref (v + 9), .int out.2.2.2.2.2.2.2.2.2.2.2.1])) ∧ hp' (v + 8) = some (.inl (kC E 0, 300, .inl out.2.2.2.2.2.2.2.2.2.2.2.2.1)) ∧ hp' (v + 9) = some (.inl (kC E 0, 432, .inl out.2.2.2.2.2.2.2.2.2.2.2.2.2.1)) ∧ hp' (v + 10) = some (.inr (8, [.ref (v + 11), .ref (v + 12), .int out.2.2.2.2.2.2.2.2.2.2.2.2.2.2.1])) ∧ hp' (v + 11) = some (.inl (kC E 0, 36, .inl out.2.2.2.2.2.2.2.2.2.2.2.2.2.2.2.1)) ∧ hp' (v + 12) = some (.inl (kC E 0, 36, .inl out.2.2.2.2.2.2.2.2.2.2.2.2.2.2.2.2)) ∧ (∀ q, q ≠ (x + 18) → q ≠ v → q ≠ (v + 1) → q ≠ (v + 2) → q ≠ (v + 3) → q ≠ (v + 4) → q ≠ (v + 5) → q ≠ (v + 6) → q ≠ (v + 7) → q ≠ (v + 8) → q ≠ (v + 9) → q ≠ (v + 10) → q ≠ (v + 11) → q ≠ (v + 12) → hp' q = hp q) ∧ al = al'
set_option maxHeartbeats 4000000 in
set_option maxRecDepth 100000 in
theorem c_X3_remember_L44 {E : KE} {p : Program} {l : Launch} {e : Env} {s : State} {m : MethodId} {args : Array Value} {below : List Frame} {meth : Method} {c : Code} {al : Option Nat} {x : Nat} {b2 : Nat} {v : Nat} {rws : Nat → Option Nat} {sd : Int32} {mn : Int32} {th : Int32} {dc : Int32} {fc : Nat → Int32} {dw : Nat → Int32} {pc : Int32} {ln : Nat → Int32} {lt : Nat → Int32} {tc : Int32} {en : Nat → Int32} {fr : Nat → Int32} {oc : Int32} {op : Nat → Int32} {os : Nat → Int32} {hp0 : Hp} {out : Int32 × Int32 × Int32 × Int32 × Int32 × Int32 × (Nat → Int32) × (Nat → Int32) × Int32 × (Nat → Int32) × (Nat → Int32) × Int32 × (Nat → Int32) × (Nat → Int32) × Int32 × (Nat → Int32) × (Nat → Int32)}  (X : CX E p l s m args meth c "DiceAudit$History" cX3_remember 2) (hr : meth.sig.returnType = (Option.none : Option Jvm.ClassFile.FieldType)) (hlv : (x + 20) ≤ v) (huv : (v + 13) ≤ (x + 124)) (hz3 : (x + 20) ≤ b2 ∨ (b2 + 13) ≤ (x + 18)) (hz4 : (b2 + 13) ≤ v ∨ (v + 13) ≤ b2)  : ∀ {nx : Int32} {dp : Int32} {v_sd : Int32} {v_mn : Int32} {v_th : Int32} {v_dc : Int32} {v_fc : Nat → Int32} {v_dw : Nat → Int32} {v_pc : Int32} {v_ln : Nat → Int32} {v_lt : Nat → Int32} {v_tc : Int32} {v_en : Nat → Int32} {v_fr : Nat → Int32} {v_oc : Int32} {v_op : Nat → Int32} {v_os : Nat → Int32} {hp : Hp}, hp (x + 18) = some (.inr (5, [.ref (x + 19), .int nx, .int dp])) → hp (x + 19) = some (.inl (kC E 5, 8, .inr (.inr (.inr (.inr rws))))) → hp b2 = some (.inr (4, [.ref (b2 + 1), .ref (b2 + 4), .ref (b2 + 7), .ref (b2 + 10), .int sd, .int mn, .int th])) → hp (b2 + 1) = some (.inr (2, [.ref (b2 + 2), .ref (b2 + 3), .int dc])) → hp (b2 + 2) = some (.inl (kC E 0, 6, .inl fc)) → hp (b2 + 3) = some (.inl (kC E 0, 72, .inl dw)) → hp (b2 + 4) = some (.inr (9, [.ref (b2 + 5), .ref (b2 + 6), .int pc])) → hp (b2 + 5) = some (.inl (kC E 0, 6, .inl ln)) → hp (b2 + 6) = some (.inl (kC E 0, 24, .inl lt)) → hp (b2 + 7) = some (.inr (6, [.ref (b2 + 8), .ref (b2 + 9), .int tc])) → hp (b2 + 8) = some (.inl (kC E 0, 300, .inl en)) → hp (b2 + 9) = some (.inl (kC E 0, 432, .inl fr)) → hp (b2 + 10) = some (.inr (8, [.ref (b2 + 11), .ref (b2 + 12), .int oc])) → hp (b2 + 11) = some (.inl (kC E 0, 36, .inl op)) → hp (b2 + 12) = some (.inl (kC E 0, 36, .inl os)) → hp v = some (.inr (4, [.ref (v + 1), .ref (v + 4), .ref (v + 7), .ref (v + 10), .int v_sd, .int v_mn, .int v_th])) → hp (v + 1) = some (.inr (2, [.ref (v + 2), .ref (v + 3), .int v_dc])) → hp (v + 2) = some (.inl (kC E 0, 6, .inl v_fc)) → hp (v + 3) = some (.inl (kC E 0, 72, .inl v_dw)) → hp (v + 4) = some (.inr (9, [.ref (v + 5), .ref (v + 6), .int v_pc])) → hp (v + 5) = some (.inl (kC E 0, 6, .inl v_ln)) → hp (v + 6) = some (.inl (kC E 0, 24, .inl v_lt)) → hp (v + 7) = some (.inr (6, [.ref (v + 8), .ref (v + 9), .int v_tc])) → hp (v + 8) = some (.inl (kC E 0, 300, .inl v_en)) → hp (v + 9) = some (.inl (kC E 0, 432, .inl v_fr)) → hp (v + 10) = some (.inr (8, [.ref (v + 11), .ref (v + 12), .int v_oc])) → hp (v + 11) = some (.inl (kC E 0, 36, .inl v_op)) → hp (v + 12) = some (.inl (kC E 0, 36, .inl v_os)) → (∀ q, q ≠ (x + 18) → q ≠ v → q ≠ (v + 1) → q ≠ (v + 2) → q ≠ (v + 3) → q ≠ (v + 4) → q ≠ (v + 5) → q ≠ (v + 6) → q ≠ (v + 7) → q ≠ (v + 8) → q ≠ (v + 9) → q ≠ (v + 10) → q ≠ (v + 11) → q ≠ (v + 12) → hp q = hp0 q) → f_X3_remember_L44 sd mn th dc fc dw pc ln lt tc en fr oc op os nx dp v_sd v_mn v_th v_dc v_fc v_dw v_pc v_ln v_lt v_tc v_en v_fr v_oc v_op v_os = some out → AW E p l e ⟨4, 0, 0, 81⟩ s m args below meth c 2 (MQ below (kQc E (P_X3_remember E x b2 v hp0 al out)) args s 0 0 (kA E)) hp al 0 0 44 [(0, .ref (x + 18))] [] := by
  intro nx dp v_sd v_mn v_th v_dc v_fc v_dw v_pc v_ln v_lt v_tc v_en v_fr v_oc v_op v_os hp g0 g1 g2 g3 g4 g5 g6 g7 g8 g9 g10 g11 g12 g13 g14 g15 g16 g17 g18 g19 g20 g21 g22 g23 g24 g25 g26 g27 hfr h
  unfold f_X3_remember_L44 at h
  refine A_aload_n X dX3_remember_44 0 rfl ?_
  refine A_aload_n X dX3_remember_45 0 rfl ?_
  refine A_get X dX3_remember_46 kcl_X3 1 (by decide) kw_198 g0 rfl ?_
  refine A_iconst (v := 1) X dX3_remember_49 (by decide) ?_
  refine A_iadd X dX3_remember_50 ?_
  refine A_bipush (v := 8) X dX3_remember_51 (by decide) ?_
  refine A_irem X dX3_remember_53 (by decide) ?_
  refine A_put X dX3_remember_54 kcl_X3 1 (by decide) kw_198 g0 rfl rfl rfl (by simp) (fun hp1 (k1 : hp1 (x + 18) = some (.inr (5, [.ref (x + 19), .int ((nx + 1) - (nx + 1) / 8 * 8), .int dp]))) n1 => ?_)
  refine A_aload_n X dX3_remember_57 0 rfl ?_
  refine A_aload_n X dX3_remember_58 0 rfl ?_
  refine A_get X dX3_remember_59 kcl_X3 2 (by decide) kw_199 k1 rfl ?_
  refine A_iconst (v := 1) X dX3_remember_62 (by decide) ?_
  refine A_iadd X dX3_remember_63 ?_
  refine A_bipush (v := 8) X dX3_remember_64 (by decide) ?_
  refine A_mmin X dX3_remember_66 kw_1040 kw_354 kw_16 kw_355 (Nat.le_of_ble_eq_true rfl) (Nat.le_of_ble_eq_true rfl) (Nat.le_of_ble_eq_true rfl) (Nat.le_of_ble_eq_true rfl) ?_
  refine A_put X dX3_remember_69 kcl_X3 2 (by decide) kw_199 k1 rfl rfl rfl (by simp) (fun hp2 (k2 : hp2 (x + 18) = some (.inr (5, [.ref (x + 19), .int ((nx + 1) - (nx + 1) / 8 * 8), .int (if 8 < (dp + 1) then 8 else (dp + 1))]))) n2 => ?_)
  cases h
  exact A_vret X dX3_remember_72 hr ⟨rfl, k2, ((n2 _ (by omega)).trans ((n1 _ (by omega)).trans g15)), ((n2 _ (by omega)).trans ((n1 _ (by omega)).trans g16)), ((n2 _ (by omega)).trans ((n1 _ (by omega)).trans g17)), ((n2 _ (by omega)).trans ((n1 _ (by omega)).trans g18)), ((n2 _ (by omega)).trans ((n1 _ (by omega)).trans g19)), ((n2 _ (by omega)).trans ((n1 _ (by omega)).trans g20)), ((n2 _ (by omega)).trans ((n1 _ (by omega)).trans g21)), ((n2 _ (by omega)).trans ((n1 _ (by omega)).trans g22)), ((n2 _ (by omega)).trans ((n1 _ (by omega)).trans g23)), ((n2 _ (by omega)).trans ((n1 _ (by omega)).trans g24)), ((n2 _ (by omega)).trans ((n1 _ (by omega)).trans g25)), ((n2 _ (by omega)).trans ((n1 _ (by omega)).trans g26)), ((n2 _ (by omega)).trans ((n1 _ (by omega)).trans g27)), (fun q z0 z1 z2 z3 z4 z5 z6 z7 z8 z9 z10 z11 z12 z13 => ((n2 q z0).trans ((n1 q z0).trans (hfr q z0 z1 z2 z3 z4 z5 z6 z7 z8 z9 z10 z11 z12 z13)))), rfl⟩ (Nat.le_of_ble_eq_true rfl) (Nat.le_of_ble_eq_true rfl)
set_option maxHeartbeats 4000000 in
set_option maxRecDepth 100000 in
theorem c_X3_remember {E : KE} {l : Launch} {hp : Hp} {al : Option Nat} {x : Nat} {b2 : Nat} {v : Nat} {nx : Int32} {dp : Int32} {rws : Nat → Option Nat} {sd : Int32} {mn : Int32} {th : Int32} {dc : Int32} {fc : Nat → Int32} {dw : Nat → Int32} {pc : Int32} {ln : Nat → Int32} {lt : Nat → Int32} {tc : Int32} {en : Nat → Int32} {fr : Nat → Int32} {oc : Int32} {op : Nat → Int32} {os : Nat → Int32} {v_sd : Int32} {v_mn : Int32} {v_th : Int32} {v_dc : Int32} {v_fc : Nat → Int32} {v_dw : Nat → Int32} {v_pc : Int32} {v_ln : Nat → Int32} {v_lt : Nat → Int32} {v_tc : Int32} {v_en : Nat → Int32} {v_fr : Nat → Int32} {v_oc : Int32} {v_op : Nat → Int32} {v_os : Nat → Int32}  {out : Int32 × Int32 × Int32 × Int32 × Int32 × Int32 × (Nat → Int32) × (Nat → Int32) × Int32 × (Nat → Int32) × (Nat → Int32) × Int32 × (Nat → Int32) × (Nat → Int32) × Int32 × (Nat → Int32) × (Nat → Int32)} (g0 : hp (x + 18) = some (.inr (5, [.ref (x + 19), .int nx, .int dp]))) (g1 : hp (x + 19) = some (.inl (kC E 5, 8, .inr (.inr (.inr (.inr rws)))))) (g2 : hp b2 = some (.inr (4, [.ref (b2 + 1), .ref (b2 + 4), .ref (b2 + 7), .ref (b2 + 10), .int sd, .int mn, .int th]))) (g3 : hp (b2 + 1) = some (.inr (2, [.ref (b2 + 2), .ref (b2 + 3), .int dc]))) (g4 : hp (b2 + 2) = some (.inl (kC E 0, 6, .inl fc))) (g5 : hp (b2 + 3) = some (.inl (kC E 0, 72, .inl dw))) (g6 : hp (b2 + 4) = some (.inr (9, [.ref (b2 + 5), .ref (b2 + 6), .int pc]))) (g7 : hp (b2 + 5) = some (.inl (kC E 0, 6, .inl ln))) (g8 : hp (b2 + 6) = some (.inl (kC E 0, 24, .inl lt))) (g9 : hp (b2 + 7) = some (.inr (6, [.ref (b2 + 8), .ref (b2 + 9), .int tc]))) (g10 : hp (b2 + 8) = some (.inl (kC E 0, 300, .inl en))) (g11 : hp (b2 + 9) = some (.inl (kC E 0, 432, .inl fr))) (g12 : hp (b2 + 10) = some (.inr (8, [.ref (b2 + 11), .ref (b2 + 12), .int oc]))) (g13 : hp (b2 + 11) = some (.inl (kC E 0, 36, .inl op))) (g14 : hp (b2 + 12) = some (.inl (kC E 0, 36, .inl os))) (g15 : hp v = some (.inr (4, [.ref (v + 1), .ref (v + 4), .ref (v + 7), .ref (v + 10), .int v_sd, .int v_mn, .int v_th]))) (g16 : hp (v + 1) = some (.inr (2, [.ref (v + 2), .ref (v + 3), .int v_dc]))) (g17 : hp (v + 2) = some (.inl (kC E 0, 6, .inl v_fc))) (g18 : hp (v + 3) = some (.inl (kC E 0, 72, .inl v_dw))) (g19 : hp (v + 4) = some (.inr (9, [.ref (v + 5), .ref (v + 6), .int v_pc]))) (g20 : hp (v + 5) = some (.inl (kC E 0, 6, .inl v_ln))) (g21 : hp (v + 6) = some (.inl (kC E 0, 24, .inl v_lt))) (g22 : hp (v + 7) = some (.inr (6, [.ref (v + 8), .ref (v + 9), .int v_tc]))) (g23 : hp (v + 8) = some (.inl (kC E 0, 300, .inl v_en))) (g24 : hp (v + 9) = some (.inl (kC E 0, 432, .inl v_fr))) (g25 : hp (v + 10) = some (.inr (8, [.ref (v + 11), .ref (v + 12), .int v_oc]))) (g26 : hp (v + 11) = some (.inl (kC E 0, 36, .inl v_op))) (g27 : hp (v + 12) = some (.inl (kC E 0, 36, .inl v_os))) (hvv : rws (Int32.toNatClampNeg nx) = some v) (hlv : (x + 20) ≤ v) (huv : (v + 13) ≤ (x + 124)) (hz3 : (x + 20) ≤ b2 ∨ (b2 + 13) ≤ (x + 18)) (hz4 : (b2 + 13) ≤ v ∨ (v + 13) ≤ b2) (h : f_X3_remember sd mn th dc fc dw pc ln lt tc en fr oc op os nx dp v_sd v_mn v_th v_dc v_fc v_dw v_pc v_ln v_lt v_tc v_en v_fr v_oc v_op v_os = some out) : AM E l yX3_remember cX3_remember 2 (Option.none : Option Jvm.ClassFile.FieldType) ⟨4, 0, 0, 81⟩ [.ref (x + 18), .ref b2] hp al (P_X3_remember E x b2 v hp al out) := by
  refine A_of (by decide +kernel) (Nat.le_of_ble_eq_true rfl) ?_
  intro p e s m args below meth c X hr hnm
  have X : CX E p l s m args meth c "DiceAudit$History" cX3_remember 2 := X
  refine A_L (L' := [(0, .ref (x + 18)), (1, .ref b2)]) rfl ?_
  unfold f_X3_remember at h
  refine A_aload_n X dX3_remember_0 0 rfl ?_
  refine A_get X dX3_remember_1 kcl_X3 1 (by decide) kw_198 g0 rfl ?_
  refine A_if_lt (tgt := 44) X dX3_remember_4 h (by decide) (fun hc h => ?_) (fun hc h => ?_)
  · refine A_sub (L' := [(0, .ref (x + 18))]) [0] rfl ?_
    exact c_X3_remember_L44 X hr hlv huv hz3 hz4 g0 g1 g2 g3 g4 g5 g6 g7 g8 g9 g10 g11 g12 g13 g14 g15 g16 g17 g18 g19 g20 g21 g22 g23 g24 g25 g26 g27 (fun q z0 z1 z2 z3 z4 z5 z6 z7 z8 z9 z10 z11 z12 z13 => rfl) h
  · refine A_aload_n X dX3_remember_7 0 rfl ?_
    refine A_get X dX3_remember_8 kcl_X3 1 (by decide) kw_198 g0 rfl ?_
    refine A_aload_n X dX3_remember_11 0 rfl ?_
    refine A_get X dX3_remember_12 kcl_X3 0 (by decide) kw_197 g0 rfl ?_
    refine A_alen (t := 5) (v := 8) X dX3_remember_15 g1 rfl (by decide) ?_
    refine A_icmp_ge (tgt := 44) X dX3_remember_16 h (by decide) (fun hc h => ?_) (fun hc h => ?_)
    · refine A_sub (L' := [(0, .ref (x + 18))]) [0] rfl ?_
      exact c_X3_remember_L44 X hr hlv huv hz3 hz4 g0 g1 g2 g3 g4 g5 g6 g7 g8 g9 g10 g11 g12 g13 g14 g15 g16 g17 g18 g19 g20 g21 g22 g23 g24 g25 g26 g27 (fun q z0 z1 z2 z3 z4 z5 z6 z7 z8 z9 z10 z11 z12 z13 => rfl) h
    · refine A_aload_n X dX3_remember_19 0 rfl ?_
      refine A_get X dX3_remember_20 kcl_X3 0 (by decide) kw_197 g0 rfl ?_
      refine A_aload_n X dX3_remember_23 0 rfl ?_
      refine A_get X dX3_remember_24 kcl_X3 1 (by decide) kw_198 g0 rfl ?_
      obtain ⟨hq, h⟩ := gd_o h
      refine A_aald X dX3_remember_27 g1 hq ?_
      refine A_st (st' := [.ref v]) (by rw [hvv]; rfl) ?_
      refine A_ifnull X dX3_remember_28 ?_
      refine A_aload_n X dX3_remember_31 0 rfl ?_
      refine A_get X dX3_remember_32 kcl_X3 0 (by decide) kw_197 g0 rfl ?_
      refine A_aload_n X dX3_remember_35 0 rfl ?_
      refine A_get X dX3_remember_36 kcl_X3 1 (by decide) kw_198 g0 rfl ?_
      obtain ⟨hq, h⟩ := gd_o h
      refine A_aald X dX3_remember_39 g1 hq ?_
      refine A_st (st' := [.ref v]) (by rw [hvv]; rfl) ?_
      refine A_aload_n X dX3_remember_40 1 rfl ?_
      obtain ⟨t1, hct1, h⟩ := bind_o h
      refine A_c (k' := 0) (n' := 0) rfl rfl (A_runV (rest := []) X dX3_remember_41 (c_X2_copyFrom g15 g16 g17 g18 g19 g20 g21 g22 g23 g24 g25 g26 g27 g2 g3 g4 g5 g6 g7 g8 g9 g10 g11 g12 g13 g14 (by omega) hct1) kY_X2_copyFrom kw_1039 g15 rfl rfl ⟨(Nat.le_of_ble_eq_true rfl), (Nat.le_of_ble_eq_true rfl), (Nat.le_of_ble_eq_true rfl), (Nat.le_of_ble_eq_true rfl)⟩ rfl (Nat.le_of_ble_eq_true rfl)) (fun v9 hp1 al9 hP => ?_)
      obtain ⟨rfl, k1_0, k1_1, k1_2, k1_3, k1_4, k1_5, k1_6, k1_7, k1_8, k1_9, k1_10, k1_11, k1_12, n1, rfl⟩ := hP
      replace k1_0 : hp1 v = some (.inr (4, [.ref (v + 1), .ref (v + 4), .ref (v + 7), .ref (v + 10), .int t1.1, .int t1.2.1, .int t1.2.2.1])) := k1_0
      replace k1_1 : hp1 (v + 1) = some (.inr (2, [.ref (v + 2), .ref (v + 3), .int t1.2.2.2.1])) := k1_1
      replace k1_2 : hp1 (v + 2) = some (.inl (kC E 0, 6, .inl t1.2.2.2.2.1)) := k1_2
      replace k1_3 : hp1 (v + 3) = some (.inl (kC E 0, 72, .inl t1.2.2.2.2.2.1)) := k1_3
      replace k1_4 : hp1 (v + 4) = some (.inr (9, [.ref (v + 5), .ref (v + 6), .int t1.2.2.2.2.2.2.1])) := k1_4
      replace k1_5 : hp1 (v + 5) = some (.inl (kC E 0, 6, .inl t1.2.2.2.2.2.2.2.1)) := k1_5
      replace k1_6 : hp1 (v + 6) = some (.inl (kC E 0, 24, .inl t1.2.2.2.2.2.2.2.2.1)) := k1_6
      replace k1_7 : hp1 (v + 7) = some (.inr (6, [.ref (v + 8), .ref (v + 9), .int t1.2.2.2.2.2.2.2.2.2.1])) := k1_7
      replace k1_8 : hp1 (v + 8) = some (.inl (kC E 0, 300, .inl t1.2.2.2.2.2.2.2.2.2.2.1)) := k1_8
      replace k1_9 : hp1 (v + 9) = some (.inl (kC E 0, 432, .inl t1.2.2.2.2.2.2.2.2.2.2.2.1)) := k1_9
      replace k1_10 : hp1 (v + 10) = some (.inr (8, [.ref (v + 11), .ref (v + 12), .int t1.2.2.2.2.2.2.2.2.2.2.2.2.1])) := k1_10
      replace k1_11 : hp1 (v + 11) = some (.inl (kC E 0, 36, .inl t1.2.2.2.2.2.2.2.2.2.2.2.2.2.1)) := k1_11
      replace k1_12 : hp1 (v + 12) = some (.inl (kC E 0, 36, .inl t1.2.2.2.2.2.2.2.2.2.2.2.2.2.2)) := k1_12
      refine A_st (st' := []) rfl ?_
      refine A_sub (L' := [(0, .ref (x + 18))]) [0] rfl ?_
      exact c_X3_remember_L44 X hr hlv huv hz3 hz4 ((n1 _ (by omega) (by omega) (by omega) (by omega) (by omega) (by omega) (by omega) (by omega) (by omega) (by omega) (by omega) (by omega) (by omega)).trans g0) ((n1 _ (by omega) (by omega) (by omega) (by omega) (by omega) (by omega) (by omega) (by omega) (by omega) (by omega) (by omega) (by omega) (by omega)).trans g1) ((n1 _ (by omega) (by omega) (by omega) (by omega) (by omega) (by omega) (by omega) (by omega) (by omega) (by omega) (by omega) (by omega) (by omega)).trans g2) ((n1 _ (by omega) (by omega) (by omega) (by omega) (by omega) (by omega) (by omega) (by omega) (by omega) (by omega) (by omega) (by omega) (by omega)).trans g3) ((n1 _ (by omega) (by omega) (by omega) (by omega) (by omega) (by omega) (by omega) (by omega) (by omega) (by omega) (by omega) (by omega) (by omega)).trans g4) ((n1 _ (by omega) (by omega) (by omega) (by omega) (by omega) (by omega) (by omega) (by omega) (by omega) (by omega) (by omega) (by omega) (by omega)).trans g5) ((n1 _ (by omega) (by omega) (by omega) (by omega) (by omega) (by omega) (by omega) (by omega) (by omega) (by omega) (by omega) (by omega) (by omega)).trans g6) ((n1 _ (by omega) (by omega) (by omega) (by omega) (by omega) (by omega) (by omega) (by omega) (by omega) (by omega) (by omega) (by omega) (by omega)).trans g7) ((n1 _ (by omega) (by omega) (by omega) (by omega) (by omega) (by omega) (by omega) (by omega) (by omega) (by omega) (by omega) (by omega) (by omega)).trans g8) ((n1 _ (by omega) (by omega) (by omega) (by omega) (by omega) (by omega) (by omega) (by omega) (by omega) (by omega) (by omega) (by omega) (by omega)).trans g9) ((n1 _ (by omega) (by omega) (by omega) (by omega) (by omega) (by omega) (by omega) (by omega) (by omega) (by omega) (by omega) (by omega) (by omega)).trans g10) ((n1 _ (by omega) (by omega) (by omega) (by omega) (by omega) (by omega) (by omega) (by omega) (by omega) (by omega) (by omega) (by omega) (by omega)).trans g11) ((n1 _ (by omega) (by omega) (by omega) (by omega) (by omega) (by omega) (by omega) (by omega) (by omega) (by omega) (by omega) (by omega) (by omega)).trans g12) ((n1 _ (by omega) (by omega) (by omega) (by omega) (by omega) (by omega) (by omega) (by omega) (by omega) (by omega) (by omega) (by omega) (by omega)).trans g13) ((n1 _ (by omega) (by omega) (by omega) (by omega) (by omega) (by omega) (by omega) (by omega) (by omega) (by omega) (by omega) (by omega) (by omega)).trans g14) k1_0 k1_1 k1_2 k1_3 k1_4 k1_5 k1_6 k1_7 k1_8 k1_9 k1_10 k1_11 k1_12 (fun q z0 z1 z2 z3 z4 z5 z6 z7 z8 z9 z10 z11 z12 z13 => (n1 q z1 z2 z3 z4 z5 z6 z7 z8 z9 z10 z11 z12 z13)) h
