abbrev P_X9_init (E : KE) (x : Nat)  (hp : Hp) : Option Value → Hp → Option Nat → Prop := fun v0 hp' al' => v0 = none ∧ hp' (x + 142) = some (.inr (11, [.ref (x + 126), .int 0, .int 0, .int 0, .int 0])) ∧ (∀ q, (q < (x + 142) ∨ (x + 143) ≤ q) → hp' q = hp q) ∧ some (x + 143) = al'
set_option maxHeartbeats 8000000 in
set_option maxRecDepth 100000 in
theorem c_X9_init {E : KE} {l : Launch} {hp : Hp} {x : Nat} (g0 : hp (x + 142) = some (.inr (11, [.null, .int 0, .int 0, .int 0, .int 0])))  : AM E l yX9_init cX9_init 2 (Option.none : Option Jvm.ClassFile.FieldType) ⟨1, 0, 0, 12⟩ [.ref (x + 142), .ref (x + 126)] hp (some (x + 143)) (P_X9_init E x  hp) := by
  refine A_of (by decide +kernel) (Nat.le_of_ble_eq_true rfl) ?_
  intro p e s m args below meth c X hr hnm
  have X : CX E p l s m args meth c "DiceAudit$Tokens" cX9_init 2 := X
  refine A_L (L' := [(0, .ref (x + 142)), (1, .ref (x + 126))]) rfl ?_
  refine A_aload_n X dX9_init_0 0 rfl ?_
  refine A_objI (i0 := 0) (i1 := 0) X dX9_init_1 kw_220 kw_37 kw_38 (Nat.le_of_ble_eq_true rfl) (Nat.le_of_ble_eq_true rfl) ?_
  refine A_aload_n X dX9_init_4 0 rfl ?_
  refine A_iconst (v := 0) X dX9_init_5 (by decide) ?_
  refine A_put X dX9_init_6 kcl_X9 1 (by decide) kw_222 g0 rfl rfl rfl (by simp) (fun hp1 (k1 : hp1 (x + 142) = some (.inr (11, [.null, .int 0, .int 0, .int 0, .int 0]))) n1 => ?_)
  refine A_aload_n X dX9_init_9 0 rfl ?_
  refine A_iconst (v := 0) X dX9_init_10 (by decide) ?_
  refine A_put X dX9_init_11 kcl_X9 2 (by decide) kw_224 k1 rfl rfl rfl (by simp) (fun hp2 (k2 : hp2 (x + 142) = some (.inr (11, [.null, .int 0, .int 0, .int 0, .int 0]))) n2 => ?_)
  refine A_aload_n X dX9_init_14 0 rfl ?_
  refine A_iconst (v := 0) X dX9_init_15 (by decide) ?_
  refine A_put X dX9_init_16 kcl_X9 3 (by decide) kw_226 k2 rfl rfl rfl (by simp) (fun hp3 (k3 : hp3 (x + 142) = some (.inr (11, [.null, .int 0, .int 0, .int 0, .int 0]))) n3 => ?_)
  refine A_aload_n X dX9_init_19 0 rfl ?_
  refine A_iconst (v := 0) X dX9_init_20 (by decide) ?_
  refine A_put X dX9_init_21 kcl_X9 4 (by decide) kw_228 k3 rfl rfl rfl (by simp) (fun hp4 (k4 : hp4 (x + 142) = some (.inr (11, [.null, .int 0, .int 0, .int 0, .int 0]))) n4 => ?_)
  refine A_aload_n X dX9_init_24 0 rfl ?_
  refine A_aload_n X dX9_init_25 1 rfl ?_
  refine A_putF X dX9_init_26 kcl_X9 0 (by decide) kw_221 k4 rfl (hnm.trans rfl) rfl rfl rfl (by simp) (fun hp5 (k5 : hp5 (x + 142) = some (.inr (11, [.ref (x + 126), .int 0, .int 0, .int 0, .int 0]))) n5 => ?_)
  exact A_vret X dX9_init_29 hr ⟨rfl, k5, (fun q z => ((n5 q (by omega)).trans ((n4 q (by omega)).trans ((n3 q (by omega)).trans ((n2 q (by omega)).trans (n1 q (by omega))))))), rfl⟩ (Nat.le_of_ble_eq_true rfl) (Nat.le_of_ble_eq_true rfl)
abbrev P_X5_init (E : KE) (x : Nat)  (hp : Hp) : Option Value → Hp → Option Nat → Prop := fun v0 hp' al' => v0 = none ∧ hp' (x + 128) = some (.inr (7, [.ref (x + 126), .ref (x + 142), .ref (x + 129), .int 0, .int (-1)])) ∧ hp' (x + 129) = some (.inr (4, [.ref (x + 130), .ref (x + 133), .ref (x + 136), .ref (x + 139), .int 0, .int 1, .int 0])) ∧ hp' (x + 130) = some (.inr (2, [.ref (x + 131), .ref (x + 132), .int 0])) ∧ hp' (x + 131) = some (.inl (kC E 0, 6, .inl (fun _ => 0))) ∧ hp' (x + 132) = some (.inl (kC E 0, 72, .inl (fun _ => 0))) ∧ hp' (x + 133) = some (.inr (9, [.ref (x + 134), .ref (x + 135), .int 0])) ∧ hp' (x + 134) = some (.inl (kC E 0, 6, .inl (fun _ => 0))) ∧ hp' (x + 135) = some (.inl (kC E 0, 24, .inl (fun _ => 0))) ∧ hp' (x + 136) = some (.inr (6, [.ref (x + 137), .ref (x + 138), .int 0])) ∧ hp' (x + 137) = some (.inl (kC E 0, 300, .inl (fun _ => 0))) ∧ hp' (x + 138) = some (.inl (kC E 0, 432, .inl (fun _ => 0))) ∧ hp' (x + 139) = some (.inr (8, [.ref (x + 140), .ref (x + 141), .int 0])) ∧ hp' (x + 140) = some (.inl (kC E 0, 36, .inl (fun _ => 0))) ∧ hp' (x + 141) = some (.inl (kC E 0, 36, .inl (fun _ => 0))) ∧ hp' (x + 142) = some (.inr (11, [.ref (x + 126), .int 0, .int 0, .int 0, .int 0])) ∧ (∀ q, (q < (x + 128) ∨ (x + 143) ≤ q) → hp' q = hp q) ∧ some (x + 143) = al'
set_option maxHeartbeats 8000000 in
set_option maxRecDepth 100000 in
theorem c_X5_init {E : KE} {l : Launch} {hp : Hp} {x : Nat} (g0 : hp (x + 128) = some (.inr (7, [.null, .null, .null, .int 0, .int 0])))  : AM E l yX5_init cX5_init 2 (Option.none : Option Jvm.ClassFile.FieldType) ⟨3, 14, 936, 52⟩ [.ref (x + 128), .ref (x + 126)] hp (some (x + 129)) (P_X5_init E x  hp) := by
  refine A_of (by decide +kernel) (Nat.le_of_ble_eq_true rfl) ?_
  intro p e s m args below meth c X hr hnm
  have X : CX E p l s m args meth c "DiceAudit$Loader" cX5_init 2 := X
  refine A_L (L' := [(0, .ref (x + 128)), (1, .ref (x + 126))]) rfl ?_
  refine A_aload_n X dX5_init_0 0 rfl ?_
  refine A_objI (i0 := 0) (i1 := 0) X dX5_init_1 kw_212 kw_37 kw_38 (Nat.le_of_ble_eq_true rfl) (Nat.le_of_ble_eq_true rfl) ?_
  refine A_aload_n X dX5_init_4 0 rfl ?_
  refine A_new (z := (x + 129)) (fs := [.null, .null, .null, .null, .int 0, .int 0, .int 0]) X dX5_init_5 kcl_X2 kw_213 kw_56 kw_3 (fun j hj => by match j, hj with | 0, _ => rfl | 1, _ => rfl | 2, _ => rfl | 3, _ => rfl | 4, _ => rfl | 5, _ => rfl | 6, _ => rfl | j + 7, hj => exact absurd hj (by omega)) (Nat.le_of_ble_eq_true rfl) (Nat.le_of_ble_eq_true rfl) (fun hp1 (k1 : hp1 (x + 129) = some (.inr (4, [.null, .null, .null, .null, .int 0, .int 0, .int 0]))) n1 => ?_)
  refine A_dup X dX5_init_8 rfl ?_
  refine A_c (k' := 13) (n' := 931) rfl rfl (A_runIN (rest := [.ref (x + 129), .ref (x + 128)]) X dX5_init_9 (c_X2_init (b := (x + 129)) k1) kY_X2_init kw_214 ⟨(Nat.le_of_ble_eq_true rfl), (Nat.le_of_ble_eq_true rfl), (Nat.le_of_ble_eq_true rfl), (Nat.le_of_ble_eq_true rfl)⟩ rfl (Nat.le_of_ble_eq_true rfl)) (fun v9 hp2 al9 hP => ?_)
  obtain ⟨rfl, k2_0, k2_1, k2_2, k2_3, k2_4, k2_5, k2_6, k2_7, k2_8, k2_9, k2_10, k2_11, k2_12, n2, rfl⟩ := hP
  replace k2_0 : hp2 (x + 129) = some (.inr (4, [.ref (x + 130), .ref (x + 133), .ref (x + 136), .ref (x + 139), .int 0, .int 1, .int 0])) := k2_0
  replace k2_1 : hp2 (x + 130) = some (.inr (2, [.ref (x + 131), .ref (x + 132), .int 0])) := k2_1
  replace k2_2 : hp2 (x + 131) = some (.inl (kC E 0, 6, .inl (fun _ => 0))) := k2_2
  replace k2_3 : hp2 (x + 132) = some (.inl (kC E 0, 72, .inl (fun _ => 0))) := k2_3
  replace k2_4 : hp2 (x + 133) = some (.inr (9, [.ref (x + 134), .ref (x + 135), .int 0])) := k2_4
  replace k2_5 : hp2 (x + 134) = some (.inl (kC E 0, 6, .inl (fun _ => 0))) := k2_5
  replace k2_6 : hp2 (x + 135) = some (.inl (kC E 0, 24, .inl (fun _ => 0))) := k2_6
  replace k2_7 : hp2 (x + 136) = some (.inr (6, [.ref (x + 137), .ref (x + 138), .int 0])) := k2_7
  replace k2_8 : hp2 (x + 137) = some (.inl (kC E 0, 300, .inl (fun _ => 0))) := k2_8
  replace k2_9 : hp2 (x + 138) = some (.inl (kC E 0, 432, .inl (fun _ => 0))) := k2_9
  replace k2_10 : hp2 (x + 139) = some (.inr (8, [.ref (x + 140), .ref (x + 141), .int 0])) := k2_10
  replace k2_11 : hp2 (x + 140) = some (.inl (kC E 0, 36, .inl (fun _ => 0))) := k2_11
  replace k2_12 : hp2 (x + 141) = some (.inl (kC E 0, 36, .inl (fun _ => 0))) := k2_12
  refine A_st (st' := [.ref (x + 129), .ref (x + 128)]) rfl ?_
  refine A_putF X dX5_init_12 kcl_X5 2 (by decide) kw_243 ((n2 _ (by omega)).trans ((n1 _ (by omega)).trans g0)) rfl (hnm.trans rfl) rfl rfl rfl (by simp) (fun hp3 (k3 : hp3 (x + 128) = some (.inr (7, [.null, .null, .ref (x + 129), .int 0, .int 0]))) n3 => ?_)
  refine A_aload_n X dX5_init_15 0 rfl ?_
  refine A_iconst (v := 0) X dX5_init_16 (by decide) ?_
  refine A_put X dX5_init_17 kcl_X5 3 (by decide) kw_245 k3 rfl rfl rfl (by simp) (fun hp4 (k4 : hp4 (x + 128) = some (.inr (7, [.null, .null, .ref (x + 129), .int 0, .int 0]))) n4 => ?_)
  refine A_aload_n X dX5_init_20 0 rfl ?_
  refine A_iconst (v := (-1)) X dX5_init_21 (by decide) ?_
  refine A_put X dX5_init_22 kcl_X5 4 (by decide) kw_247 k4 rfl rfl rfl (by simp) (fun hp5 (k5 : hp5 (x + 128) = some (.inr (7, [.null, .null, .ref (x + 129), .int 0, .int (-1)]))) n5 => ?_)
  refine A_aload_n X dX5_init_25 0 rfl ?_
  refine A_aload_n X dX5_init_26 1 rfl ?_
  refine A_putF X dX5_init_27 kcl_X5 0 (by decide) kw_241 k5 rfl (hnm.trans rfl) rfl rfl rfl (by simp) (fun hp6 (k6 : hp6 (x + 128) = some (.inr (7, [.ref (x + 126), .null, .ref (x + 129), .int 0, .int (-1)]))) n6 => ?_)
  refine A_aload_n X dX5_init_30 0 rfl ?_
  refine A_new (z := (x + 142)) (fs := [.null, .int 0, .int 0, .int 0, .int 0]) X dX5_init_31 kcl_X9 kw_215 kw_216 kw_11 (fun j hj => by match j, hj with | 0, _ => rfl | 1, _ => rfl | 2, _ => rfl | 3, _ => rfl | 4, _ => rfl | j + 5, hj => exact absurd hj (by omega)) (Nat.le_of_ble_eq_true rfl) (Nat.le_of_ble_eq_true rfl) (fun hp7 (k7 : hp7 (x + 142) = some (.inr (11, [.null, .int 0, .int 0, .int 0, .int 0]))) n7 => ?_)
  refine A_dup X dX5_init_34 rfl ?_
  refine A_aload_n X dX5_init_35 1 rfl ?_
  refine A_c (k' := 14) (n' := 936) rfl rfl (A_runI (rest := [.ref (x + 142), .ref (x + 128)]) X dX5_init_36 (c_X9_init (x := x) k7) kY_X9_init kw_217 ⟨(Nat.le_of_ble_eq_true rfl), (Nat.le_of_ble_eq_true rfl), (Nat.le_of_ble_eq_true rfl), (Nat.le_of_ble_eq_true rfl)⟩ rfl (Nat.le_of_ble_eq_true rfl)) (fun v9 hp8 al9 hP => ?_)
  obtain ⟨rfl, k8_0, n8, rfl⟩ := hP
  replace k8_0 : hp8 (x + 142) = some (.inr (11, [.ref (x + 126), .int 0, .int 0, .int 0, .int 0])) := k8_0
  refine A_st (st' := [.ref (x + 142), .ref (x + 128)]) rfl ?_
  refine A_putF X dX5_init_39 kcl_X5 1 (by decide) kw_242 ((n8 _ (by omega)).trans ((n7 _ (by omega)).trans k6)) rfl (hnm.trans rfl) rfl rfl rfl (by simp) (fun hp9 (k9 : hp9 (x + 128) = some (.inr (7, [.ref (x + 126), .ref (x + 142), .ref (x + 129), .int 0, .int (-1)]))) n9 => ?_)
  exact A_vret X dX5_init_42 hr ⟨rfl, k9, ((n9 _ (by omega)).trans ((n8 _ (by omega)).trans ((n7 _ (by omega)).trans ((n6 _ (by omega)).trans ((n5 _ (by omega)).trans ((n4 _ (by omega)).trans ((n3 _ (by omega)).trans k2_0))))))), ((n9 _ (by omega)).trans ((n8 _ (by omega)).trans ((n7 _ (by omega)).trans ((n6 _ (by omega)).trans ((n5 _ (by omega)).trans ((n4 _ (by omega)).trans ((n3 _ (by omega)).trans k2_1))))))), ((n9 _ (by omega)).trans ((n8 _ (by omega)).trans ((n7 _ (by omega)).trans ((n6 _ (by omega)).trans ((n5 _ (by omega)).trans ((n4 _ (by omega)).trans ((n3 _ (by omega)).trans k2_2))))))), ((n9 _ (by omega)).trans ((n8 _ (by omega)).trans ((n7 _ (by omega)).trans ((n6 _ (by omega)).trans ((n5 _ (by omega)).trans ((n4 _ (by omega)).trans ((n3 _ (by omega)).trans k2_3))))))), ((n9 _ (by omega)).trans ((n8 _ (by omega)).trans ((n7 _ (by omega)).trans ((n6 _ (by omega)).trans ((n5 _ (by omega)).trans ((n4 _ (by omega)).trans ((n3 _ (by omega)).trans k2_4))))))), ((n9 _ (by omega)).trans ((n8 _ (by omega)).trans ((n7 _ (by omega)).trans ((n6 _ (by omega)).trans ((n5 _ (by omega)).trans ((n4 _ (by omega)).trans ((n3 _ (by omega)).trans k2_5))))))), ((n9 _ (by omega)).trans ((n8 _ (by omega)).trans ((n7 _ (by omega)).trans ((n6 _ (by omega)).trans ((n5 _ (by omega)).trans ((n4 _ (by omega)).trans ((n3 _ (by omega)).trans k2_6))))))), ((n9 _ (by omega)).trans ((n8 _ (by omega)).trans ((n7 _ (by omega)).trans ((n6 _ (by omega)).trans ((n5 _ (by omega)).trans ((n4 _ (by omega)).trans ((n3 _ (by omega)).trans k2_7))))))), ((n9 _ (by omega)).trans ((n8 _ (by omega)).trans ((n7 _ (by omega)).trans ((n6 _ (by omega)).trans ((n5 _ (by omega)).trans ((n4 _ (by omega)).trans ((n3 _ (by omega)).trans k2_8))))))), ((n9 _ (by omega)).trans ((n8 _ (by omega)).trans ((n7 _ (by omega)).trans ((n6 _ (by omega)).trans ((n5 _ (by omega)).trans ((n4 _ (by omega)).trans ((n3 _ (by omega)).trans k2_9))))))), ((n9 _ (by omega)).trans ((n8 _ (by omega)).trans ((n7 _ (by omega)).trans ((n6 _ (by omega)).trans ((n5 _ (by omega)).trans ((n4 _ (by omega)).trans ((n3 _ (by omega)).trans k2_10))))))), ((n9 _ (by omega)).trans ((n8 _ (by omega)).trans ((n7 _ (by omega)).trans ((n6 _ (by omega)).trans ((n5 _ (by omega)).trans ((n4 _ (by omega)).trans ((n3 _ (by omega)).trans k2_11))))))), ((n9 _ (by omega)).trans ((n8 _ (by omega)).trans ((n7 _ (by omega)).trans ((n6 _ (by omega)).trans ((n5 _ (by omega)).trans ((n4 _ (by omega)).trans ((n3 _ (by omega)).trans k2_12))))))), ((n9 _ (by omega)).trans k8_0), (fun q z => ((n9 q (by omega)).trans ((n8 q (by omega)).trans ((n7 q (by omega)).trans ((n6 q (by omega)).trans ((n5 q (by omega)).trans ((n4 q (by omega)).trans ((n3 q (by omega)).trans ((n2 q (by omega)).trans (n1 q (by omega))))))))))), rfl⟩ (Nat.le_of_ble_eq_true rfl) (Nat.le_of_ble_eq_true rfl)
abbrev P_X9_isBlank (E : KE)   (hp : Hp) (al : Option Nat) (out : Int32) : Option Value → Hp → Option Nat → Prop := fun v0 hp' al' => v0 = some (.int out) ∧ (out = 0 ∨ out = 1) ∧ hp = hp' ∧ al = al'
set_option maxHeartbeats 4000000 in
set_option maxRecDepth 100000 in
theorem c_X9_isBlank {E : KE} {l : Launch} {hp : Hp} {al : Option Nat}   {a0 : Int32} {out : Int32}   (h : f_X9_isBlank a0 = some out) : AM E l yX9_isBlank cX9_isBlank 1 (Option.some Jvm.ClassFile.FieldType.boolean) ⟨0, 0, 0, 0⟩ [.int a0] hp al (P_X9_isBlank E hp al out) := by
  refine A_of (by decide +kernel) (Nat.le_of_ble_eq_true rfl) ?_
  intro p e s m args below meth c X hr hnm
  have X : CX E p l s m args meth c "DiceAudit$Tokens" cX9_isBlank 1 := X
  refine A_L (L' := [(0, .int a0)]) rfl ?_
  unfold f_X9_isBlank at h
  refine A_iload_n X dX9_isBlank_0 0 rfl ?_
  refine A_bipush (v := 32) X dX9_isBlank_1 (by decide) ?_
  refine A_icmp_eq (tgt := 12) X dX9_isBlank_3 h (by decide) (fun hc h => ?_) (fun hc h => ?_)
  · refine A_iconst (v := 1) X dX9_isBlank_12 (by decide) ?_
    refine A_goto (tgt := 17) X dX9_isBlank_13 (by decide) ?_
    cases h
    exact A_zret X dX9_isBlank_17 hr (Or.inr rfl) ⟨rfl, (Or.inr rfl), rfl, rfl⟩ (Nat.le_of_ble_eq_true rfl) (Nat.le_of_ble_eq_true rfl)
  · refine A_iload_n X dX9_isBlank_6 0 rfl ?_
    refine A_bipush (v := 10) X dX9_isBlank_7 (by decide) ?_
    refine A_icmp_ne (tgt := 16) X dX9_isBlank_9 h (by decide) (fun hc h => ?_) (fun hc h => ?_)
    · refine A_iconst (v := 0) X dX9_isBlank_16 (by decide) ?_
      cases h
      exact A_zret X dX9_isBlank_17 hr (Or.inl rfl) ⟨rfl, (Or.inl rfl), rfl, rfl⟩ (Nat.le_of_ble_eq_true rfl) (Nat.le_of_ble_eq_true rfl)
    · refine A_iconst (v := 1) X dX9_isBlank_12 (by decide) ?_
      refine A_goto (tgt := 17) X dX9_isBlank_13 (by decide) ?_
      cases h
      exact A_zret X dX9_isBlank_17 hr (Or.inr rfl) ⟨rfl, (Or.inr rfl), rfl, rfl⟩ (Nat.le_of_ble_eq_true rfl) (Nat.le_of_ble_eq_true rfl)
abbrev P_X9_isLetter (E : KE)   (hp : Hp) (al : Option Nat) (out : Int32) : Option Value → Hp → Option Nat → Prop := fun v0 hp' al' => v0 = some (.int out) ∧ (out = 0 ∨ out = 1) ∧ hp = hp' ∧ al = al'
set_option maxHeartbeats 4000000 in
set_option maxRecDepth 100000 in
theorem c_X9_isLetter {E : KE} {l : Launch} {hp : Hp} {al : Option Nat}   {a0 : Int32} {out : Int32}   (h : f_X9_isLetter a0 = some out) : AM E l yX9_isLetter cX9_isLetter 1 (Option.some Jvm.ClassFile.FieldType.boolean) ⟨0, 0, 0, 0⟩ [.int a0] hp al (P_X9_isLetter E hp al out) := by
  refine A_of (by decide +kernel) (Nat.le_of_ble_eq_true rfl) ?_
  intro p e s m args below meth c X hr hnm
  have X : CX E p l s m args meth c "DiceAudit$Tokens" cX9_isLetter 1 := X
  refine A_L (L' := [(0, .int a0)]) rfl ?_
  unfold f_X9_isLetter at h
  refine A_iload_n X dX9_isLetter_0 0 rfl ?_
  refine A_bipush (v := 97) X dX9_isLetter_1 (by decide) ?_
  refine A_icmp_lt (tgt := 16) X dX9_isLetter_3 h (by decide) (fun hc h => ?_) (fun hc h => ?_)
  · refine A_iconst (v := 0) X dX9_isLetter_16 (by decide) ?_
    cases h
    exact A_zret X dX9_isLetter_17 hr (Or.inl rfl) ⟨rfl, (Or.inl rfl), rfl, rfl⟩ (Nat.le_of_ble_eq_true rfl) (Nat.le_of_ble_eq_true rfl)
  · refine A_iload_n X dX9_isLetter_6 0 rfl ?_
    refine A_bipush (v := 122) X dX9_isLetter_7 (by decide) ?_
    refine A_icmp_gt (tgt := 16) X dX9_isLetter_9 h (by decide) (fun hc h => ?_) (fun hc h => ?_)
    · refine A_iconst (v := 0) X dX9_isLetter_16 (by decide) ?_
      cases h
      exact A_zret X dX9_isLetter_17 hr (Or.inl rfl) ⟨rfl, (Or.inl rfl), rfl, rfl⟩ (Nat.le_of_ble_eq_true rfl) (Nat.le_of_ble_eq_true rfl)
    · refine A_iconst (v := 1) X dX9_isLetter_12 (by decide) ?_
      refine A_goto (tgt := 17) X dX9_isLetter_13 (by decide) ?_
      cases h
      exact A_zret X dX9_isLetter_17 hr (Or.inr rfl) ⟨rfl, (Or.inr rfl), rfl, rfl⟩ (Nat.le_of_ble_eq_true rfl) (Nat.le_of_ble_eq_true rfl)
abbrev P_X9_passLetters (E : KE) (x : Nat) (kd : Int32) (ts : Int32) (tv : Int32) (hp : Hp) (al : Option Nat) (out : Int32) : Option Value → Hp → Option Nat → Prop := fun v0 hp' al' => v0 = none ∧ hp' (x + 142) = some (.inr (11, [.ref (x + 126), .int kd, .int ts, .int out, .int tv])) ∧ (∀ q, q ≠ (x + 142) → hp' q = hp q) ∧ al = al'
set_option maxHeartbeats 4000000 in
set_option maxRecDepth 100000 in
theorem c_X9_passLetters_L0 {E : KE} {p : Program} {l : Launch} {e : Env} {s : State} {m : MethodId} {args : Array Value} {below : List Frame} {meth : Method} {c : Code} {al : Option Nat} {N : Nat} {x : Nat} {tl : Int32} {tb : Nat → Int32} {kd : Int32} {ts : Int32} {tv : Int32} {hp0 : Hp} {out : Int32}  (X : CX E p l s m args meth c "DiceAudit$Tokens" cX9_passLetters 1) (hr : meth.sig.returnType = (Option.none : Option Jvm.ClassFile.FieldType))   : ∀ (j : Nat), ∀ {te : Int32} {hp : Hp}, hp (x + 126) = some (.inr (10, [.ref (x + 127), .int tl])) → hp (x + 127) = some (.inl (kC E 0, 900, .inl tb)) → hp (x + 142) = some (.inr (11, [.ref (x + 126), .int kd, .int ts, .int te, .int tv])) → (∀ q, q ≠ (x + 142) → hp q = hp0 q) → f_X9_passLetters_L0 N tl tb j te = some out → AW E p l e ⟨1, 0, 0, 21⟩ s m args below meth c 1 (MQ below (kQc E (P_X9_passLetters E x kd ts tv hp0 al out)) args s 0 0 (kA E)) hp al 0 0 0 [(0, .ref (x + 142))] [] := by
  intro j
  induction j with
  | zero =>
    intro te hp g0 g1 g2 hfr h
    have h : (none : Option (Int32)) = some out := h
    cases h
  | succ j i0 =>
    intro te hp g0 g1 g2 hfr h
    have h : f_X9_passLetters_L0_F N tl tb (f_X9_passLetters_L0 N tl tb j) te = some out := h
    unfold f_X9_passLetters_L0_F at h
    refine A_aload_n X dX9_passLetters_0 0 rfl ?_
    refine A_get X dX9_passLetters_1 kcl_X9 3 (by decide) kw_226 g2 rfl ?_
    refine A_aload_n X dX9_passLetters_4 0 rfl ?_
    refine A_get X dX9_passLetters_5 kcl_X9 0 (by decide) kw_221 g2 rfl ?_
    refine A_get X dX9_passLetters_8 kcl_X8 1 (by decide) kw_48 g0 rfl ?_
    refine A_icmp_ge (tgt := 44) X dX9_passLetters_11 h (by decide) (fun hc h => ?_) (fun hc h => ?_)
    · cases h
      exact A_vret X dX9_passLetters_44 hr ⟨rfl, g2, (fun q z0 => (hfr q z0)), rfl⟩ (Nat.le_of_ble_eq_true rfl) (Nat.le_of_ble_eq_true rfl)
    · refine A_aload_n X dX9_passLetters_14 0 rfl ?_
      refine A_get X dX9_passLetters_15 kcl_X9 0 (by decide) kw_221 g2 rfl ?_
      refine A_aload_n X dX9_passLetters_18 0 rfl ?_
      refine A_get X dX9_passLetters_19 kcl_X9 3 (by decide) kw_226 g2 rfl ?_
      obtain ⟨t1, hct1, h⟩ := bind_o h
      refine A_cp (k' := 0) (n' := 0) (A_runV (rest := []) X dX9_passLetters_22 (c_X8_byteIn g0 g1  hct1) kY_X8_byteIn kw_331 g0 rfl rfl ⟨(Nat.le_of_ble_eq_true rfl), (Nat.le_of_ble_eq_true rfl), (Nat.le_of_ble_eq_true rfl), (Nat.le_of_ble_eq_true rfl)⟩ rfl (Nat.le_of_ble_eq_true rfl)) rfl rfl ?_
      obtain ⟨t2, hct2, h⟩ := bind_o h
      refine A_c (k' := 0) (n' := 0) rfl rfl (A_runS (rest := []) X dX9_passLetters_25 (c_X9_isLetter   hct2) kY_X9_isLetter kw_338 ⟨(Nat.le_of_ble_eq_true rfl), (Nat.le_of_ble_eq_true rfl), (Nat.le_of_ble_eq_true rfl), (Nat.le_of_ble_eq_true rfl)⟩ rfl (Nat.le_of_ble_eq_true rfl)) (fun v9 hp1 al9 hP => ?_)
      obtain ⟨rfl, zt2, rfl, rfl⟩ := hP
      refine A_st (st' := [.int t2]) rfl ?_
      refine A_if_eq (tgt := 44) X dX9_passLetters_28 h (by decide) (fun hc h => ?_) (fun hc h => ?_)
      · cases h
        exact A_vret X dX9_passLetters_44 hr ⟨rfl, g2, (fun q z0 => (hfr q z0)), rfl⟩ (Nat.le_of_ble_eq_true rfl) (Nat.le_of_ble_eq_true rfl)
      · refine A_aload_n X dX9_passLetters_31 0 rfl ?_
        refine A_dup X dX9_passLetters_32 rfl ?_
        refine A_get X dX9_passLetters_33 kcl_X9 3 (by decide) kw_226 g2 rfl ?_
        refine A_iconst (v := 1) X dX9_passLetters_36 (by decide) ?_
        refine A_iadd X dX9_passLetters_37 ?_
        refine A_put X dX9_passLetters_38 kcl_X9 3 (by decide) kw_226 g2 rfl rfl rfl (by simp) (fun hp1 (k1 : hp1 (x + 142) = some (.inr (11, [.ref (x + 126), .int kd, .int ts, .int (te + 1), .int tv]))) n1 => ?_)
        refine A_goto (tgt := 0) X dX9_passLetters_41 (by decide) ?_
        refine A_sub (L' := [(0, .ref (x + 142))]) [0] rfl ?_
        exact i0 ((n1 _ (by omega)).trans g0) ((n1 _ (by omega)).trans g1) k1 (fun q z0 => ((n1 q z0).trans (hfr q z0))) h
set_option maxHeartbeats 4000000 in
set_option maxRecDepth 100000 in
theorem c_X9_passLetters {E : KE} {l : Launch} {hp : Hp} {al : Option Nat} {N : Nat} {x : Nat} {tl : Int32} {tb : Nat → Int32} {kd : Int32} {ts : Int32} {te : Int32} {tv : Int32}  {out : Int32} (g0 : hp (x + 126) = some (.inr (10, [.ref (x + 127), .int tl]))) (g1 : hp (x + 127) = some (.inl (kC E 0, 900, .inl tb))) (g2 : hp (x + 142) = some (.inr (11, [.ref (x + 126), .int kd, .int ts, .int te, .int tv])))  (h : f_X9_passLetters N tl tb te = some out) : AM E l yX9_passLetters cX9_passLetters 1 (Option.none : Option Jvm.ClassFile.FieldType) ⟨1, 0, 0, 21⟩ [.ref (x + 142)] hp al (P_X9_passLetters E x kd ts tv hp al out) := by
  refine A_of (by decide +kernel) (Nat.le_of_ble_eq_true rfl) ?_
  intro p e s m args below meth c X hr hnm
  have X : CX E p l s m args meth c "DiceAudit$Tokens" cX9_passLetters 1 := X
  refine A_L (L' := [(0, .ref (x + 142))]) rfl ?_
  unfold f_X9_passLetters at h
  refine A_sub (L' := [(0, .ref (x + 142))]) [0] rfl ?_
  exact c_X9_passLetters_L0 X hr  N g0 g1 g2 (fun q z0 => rfl) h
abbrev P_X9_isDigit (E : KE)   (hp : Hp) (al : Option Nat) (out : Int32) : Option Value → Hp → Option Nat → Prop := fun v0 hp' al' => v0 = some (.int out) ∧ (out = 0 ∨ out = 1) ∧ hp = hp' ∧ al = al'
set_option maxHeartbeats 4000000 in
set_option maxRecDepth 100000 in
theorem c_X9_isDigit {E : KE} {l : Launch} {hp : Hp} {al : Option Nat}   {a0 : Int32} {out : Int32}   (h : f_X9_isDigit a0 = some out) : AM E l yX9_isDigit cX9_isDigit 1 (Option.some Jvm.ClassFile.FieldType.boolean) ⟨0, 0, 0, 0⟩ [.int a0] hp al (P_X9_isDigit E hp al out) := by
  refine A_of (by decide +kernel) (Nat.le_of_ble_eq_true rfl) ?_
  intro p e s m args below meth c X hr hnm
  have X : CX E p l s m args meth c "DiceAudit$Tokens" cX9_isDigit 1 := X
  refine A_L (L' := [(0, .int a0)]) rfl ?_
  unfold f_X9_isDigit at h
  refine A_iload_n X dX9_isDigit_0 0 rfl ?_
  refine A_bipush (v := 48) X dX9_isDigit_1 (by decide) ?_
  refine A_icmp_lt (tgt := 16) X dX9_isDigit_3 h (by decide) (fun hc h => ?_) (fun hc h => ?_)
  · refine A_iconst (v := 0) X dX9_isDigit_16 (by decide) ?_
    cases h
    exact A_zret X dX9_isDigit_17 hr (Or.inl rfl) ⟨rfl, (Or.inl rfl), rfl, rfl⟩ (Nat.le_of_ble_eq_true rfl) (Nat.le_of_ble_eq_true rfl)
  · refine A_iload_n X dX9_isDigit_6 0 rfl ?_
    refine A_bipush (v := 57) X dX9_isDigit_7 (by decide) ?_
    refine A_icmp_gt (tgt := 16) X dX9_isDigit_9 h (by decide) (fun hc h => ?_) (fun hc h => ?_)
    · refine A_iconst (v := 0) X dX9_isDigit_16 (by decide) ?_
      cases h
      exact A_zret X dX9_isDigit_17 hr (Or.inl rfl) ⟨rfl, (Or.inl rfl), rfl, rfl⟩ (Nat.le_of_ble_eq_true rfl) (Nat.le_of_ble_eq_true rfl)
    · refine A_iconst (v := 1) X dX9_isDigit_12 (by decide) ?_
      refine A_goto (tgt := 17) X dX9_isDigit_13 (by decide) ?_
      cases h
      exact A_zret X dX9_isDigit_17 hr (Or.inr rfl) ⟨rfl, (Or.inr rfl), rfl, rfl⟩ (Nat.le_of_ble_eq_true rfl) (Nat.le_of_ble_eq_true rfl)
abbrev P_X9_passDigits (E : KE) (x : Nat) (kd : Int32) (ts : Int32) (hp : Hp) (al : Option Nat) (out : Int32 × Int32) : Option Value → Hp → Option Nat → Prop := fun v0 hp' al' => v0 = none ∧ hp' (x + 142) = some (.inr (11, [.ref (x + 126), .int kd, .int ts, .int out.1, .int out.2])) ∧ (∀ q, q ≠ (x + 142) → hp' q = hp q) ∧ al = al'
set_option maxHeartbeats 4000000 in
set_option maxRecDepth 100000 in
theorem c_X9_passDigits_L5 {E : KE} {p : Program} {l : Launch} {e : Env} {s : State} {m : MethodId} {args : Array Value} {below : List Frame} {meth : Method} {c : Code} {al : Option Nat} {N : Nat} {x : Nat} {tl : Int32} {tb : Nat → Int32} {kd : Int32} {ts : Int32} {hp0 : Hp} {out : Int32 × Int32}  (X : CX E p l s m args meth c "DiceAudit$Tokens" cX9_passDigits 1) (hr : meth.sig.returnType = (Option.none : Option Jvm.ClassFile.FieldType))   : ∀ (j : Nat), ∀ {te : Int32} {tv : Int32} {hp : Hp}, hp (x + 126) = some (.inr (10, [.ref (x + 127), .int tl])) → hp (x + 127) = some (.inl (kC E 0, 900, .inl tb)) → hp (x + 142) = some (.inr (11, [.ref (x + 126), .int kd, .int ts, .int te, .int tv])) → (∀ q, q ≠ (x + 142) → hp q = hp0 q) → f_X9_passDigits_L5 N tl tb j te tv = some out → AW E p l e ⟨1, 0, 0, 21⟩ s m args below meth c 1 (MQ below (kQc E (P_X9_passDigits E x kd ts hp0 al out)) args s 0 0 (kA E)) hp al 0 0 5 [(0, .ref (x + 142))] [] := by
  intro j
  induction j with
  | zero =>
    intro te tv hp g0 g1 g2 hfr h
    have h : (none : Option (Int32 × Int32)) = some out := h
    cases h
  | succ j i5 =>
    intro te tv hp g0 g1 g2 hfr h
    have h : f_X9_passDigits_L5_F N tl tb (f_X9_passDigits_L5 N tl tb j) te tv = some out := h
    unfold f_X9_passDigits_L5_F at h
    refine A_aload_n X dX9_passDigits_5 0 rfl ?_
    refine A_get X dX9_passDigits_6 kcl_X9 3 (by decide) kw_226 g2 rfl ?_
    refine A_aload_n X dX9_passDigits_9 0 rfl ?_
    refine A_get X dX9_passDigits_10 kcl_X9 0 (by decide) kw_221 g2 rfl ?_
    refine A_get X dX9_passDigits_13 kcl_X8 1 (by decide) kw_48 g0 rfl ?_
    refine A_icmp_ge (tgt := 80) X dX9_passDigits_16 h (by decide) (fun hc h => ?_) (fun hc h => ?_)
    · cases h
      exact A_vret X dX9_passDigits_80 hr ⟨rfl, g2, (fun q z0 => (hfr q z0)), rfl⟩ (Nat.le_of_ble_eq_true rfl) (Nat.le_of_ble_eq_true rfl)
    · refine A_aload_n X dX9_passDigits_19 0 rfl ?_
      refine A_get X dX9_passDigits_20 kcl_X9 0 (by decide) kw_221 g2 rfl ?_
      refine A_aload_n X dX9_passDigits_23 0 rfl ?_
      refine A_get X dX9_passDigits_24 kcl_X9 3 (by decide) kw_226 g2 rfl ?_
      obtain ⟨t1, hct1, h⟩ := bind_o h
      refine A_cp (k' := 0) (n' := 0) (A_runV (rest := []) X dX9_passDigits_27 (c_X8_byteIn g0 g1  hct1) kY_X8_byteIn kw_331 g0 rfl rfl ⟨(Nat.le_of_ble_eq_true rfl), (Nat.le_of_ble_eq_true rfl), (Nat.le_of_ble_eq_true rfl), (Nat.le_of_ble_eq_true rfl)⟩ rfl (Nat.le_of_ble_eq_true rfl)) rfl rfl ?_
      obtain ⟨t2, hct2, h⟩ := bind_o h
      refine A_c (k' := 0) (n' := 0) rfl rfl (A_runS (rest := []) X dX9_passDigits_30 (c_X9_isDigit   hct2) kY_X9_isDigit kw_345 ⟨(Nat.le_of_ble_eq_true rfl), (Nat.le_of_ble_eq_true rfl), (Nat.le_of_ble_eq_true rfl), (Nat.le_of_ble_eq_true rfl)⟩ rfl (Nat.le_of_ble_eq_true rfl)) (fun v9 hp1 al9 hP => ?_)
      obtain ⟨rfl, zt2, rfl, rfl⟩ := hP
      refine A_st (st' := [.int t2]) rfl ?_
      refine A_if_eq (tgt := 80) X dX9_passDigits_33 h (by decide) (fun hc h => ?_) (fun hc h => ?_)
      · cases h
        exact A_vret X dX9_passDigits_80 hr ⟨rfl, g2, (fun q z0 => (hfr q z0)), rfl⟩ (Nat.le_of_ble_eq_true rfl) (Nat.le_of_ble_eq_true rfl)
      · refine A_aload_n X dX9_passDigits_36 0 rfl ?_
        refine A_aload_n X dX9_passDigits_37 0 rfl ?_
        refine A_get X dX9_passDigits_38 kcl_X9 4 (by decide) kw_228 g2 rfl ?_
        refine A_bipush (v := 10) X dX9_passDigits_41 (by decide) ?_
        refine A_imul X dX9_passDigits_43 ?_
        refine A_aload_n X dX9_passDigits_44 0 rfl ?_
        refine A_get X dX9_passDigits_45 kcl_X9 0 (by decide) kw_221 g2 rfl ?_
        refine A_aload_n X dX9_passDigits_48 0 rfl ?_
        refine A_get X dX9_passDigits_49 kcl_X9 3 (by decide) kw_226 g2 rfl ?_
        obtain ⟨t3, hct3, h⟩ := bind_o h
        refine A_cp (k' := 0) (n' := 0) (A_runV (rest := [.int (tv * 10), .ref (x + 142)]) X dX9_passDigits_52 (c_X8_byteIn g0 g1  hct3) kY_X8_byteIn kw_331 g0 rfl rfl ⟨(Nat.le_of_ble_eq_true rfl), (Nat.le_of_ble_eq_true rfl), (Nat.le_of_ble_eq_true rfl), (Nat.le_of_ble_eq_true rfl)⟩ rfl (Nat.le_of_ble_eq_true rfl)) rfl rfl ?_
        refine A_iadd X dX9_passDigits_55 ?_
        refine A_bipush (v := 48) X dX9_passDigits_56 (by decide) ?_
        refine A_isub X dX9_passDigits_58 ?_
        refine A_ldci X dX9_passDigits_59 kw_352 ?_
        refine A_mmin X dX9_passDigits_61 kw_353 kw_354 kw_16 kw_355 (Nat.le_of_ble_eq_true rfl) (Nat.le_of_ble_eq_true rfl) (Nat.le_of_ble_eq_true rfl) (Nat.le_of_ble_eq_true rfl) ?_
        refine A_put X dX9_passDigits_64 kcl_X9 4 (by decide) kw_228 g2 rfl rfl rfl (by simp) (fun hp1 (k1 : hp1 (x + 142) = some (.inr (11, [.ref (x + 126), .int kd, .int ts, .int te, .int (if 1000000 < (((tv * 10) + t3) - 48) then 1000000 else (((tv * 10) + t3) - 48))]))) n1 => ?_)
        refine A_aload_n X dX9_passDigits_67 0 rfl ?_
        refine A_dup X dX9_passDigits_68 rfl ?_
        refine A_get X dX9_passDigits_69 kcl_X9 3 (by decide) kw_226 k1 rfl ?_
        refine A_iconst (v := 1) X dX9_passDigits_72 (by decide) ?_
        refine A_iadd X dX9_passDigits_73 ?_
        refine A_put X dX9_passDigits_74 kcl_X9 3 (by decide) kw_226 k1 rfl rfl rfl (by simp) (fun hp2 (k2 : hp2 (x + 142) = some (.inr (11, [.ref (x + 126), .int kd, .int ts, .int (te + 1), .int (if 1000000 < (((tv * 10) + t3) - 48) then 1000000 else (((tv * 10) + t3) - 48))]))) n2 => ?_)
        refine A_goto (tgt := 5) X dX9_passDigits_77 (by decide) ?_
        refine A_sub (L' := [(0, .ref (x + 142))]) [0] rfl ?_
        exact i5 ((n2 _ (by omega)).trans ((n1 _ (by omega)).trans g0)) ((n2 _ (by omega)).trans ((n1 _ (by omega)).trans g1)) k2 (fun q z0 => ((n2 q z0).trans ((n1 q z0).trans (hfr q z0)))) h
set_option maxHeartbeats 4000000 in
set_option maxRecDepth 100000 in
theorem c_X9_passDigits {E : KE} {l : Launch} {hp : Hp} {al : Option Nat} {N : Nat} {x : Nat} {tl : Int32} {tb : Nat → Int32} {kd : Int32} {ts : Int32} {te : Int32} {tv : Int32}  {out : Int32 × Int32} (g0 : hp (x + 126) = some (.inr (10, [.ref (x + 127), .int tl]))) (g1 : hp (x + 127) = some (.inl (kC E 0, 900, .inl tb))) (g2 : hp (x + 142) = some (.inr (11, [.ref (x + 126), .int kd, .int ts, .int te, .int tv])))  (h : f_X9_passDigits N tl tb te tv = some out) : AM E l yX9_passDigits cX9_passDigits 1 (Option.none : Option Jvm.ClassFile.FieldType) ⟨1, 0, 0, 21⟩ [.ref (x + 142)] hp al (P_X9_passDigits E x kd ts hp al out) := by
  refine A_of (by decide +kernel) (Nat.le_of_ble_eq_true rfl) ?_
  intro p e s m args below meth c X hr hnm
  have X : CX E p l s m args meth c "DiceAudit$Tokens" cX9_passDigits 1 := X
  refine A_L (L' := [(0, .ref (x + 142))]) rfl ?_
  unfold f_X9_passDigits at h
  refine A_aload_n X dX9_passDigits_0 0 rfl ?_
  refine A_iconst (v := 0) X dX9_passDigits_1 (by decide) ?_
  refine A_put X dX9_passDigits_2 kcl_X9 4 (by decide) kw_228 g2 rfl rfl rfl (by simp) (fun hp1 (k1 : hp1 (x + 142) = some (.inr (11, [.ref (x + 126), .int kd, .int ts, .int te, .int 0]))) n1 => ?_)
  refine A_sub (L' := [(0, .ref (x + 142))]) [0] rfl ?_
  exact c_X9_passDigits_L5 X hr  N ((n1 _ (by omega)).trans g0) ((n1 _ (by omega)).trans g1) k1 (fun q z0 => (n1 q z0)) h
abbrev P_X9_advance (E : KE) (x : Nat)  (hp : Hp) (al : Option Nat) (out : Int32 × Int32 × Int32 × Int32) : Option Value → Hp → Option Nat → Prop := fun v0 hp' al' => v0 = none ∧ hp' (x + 142) = some (.inr (11, [.ref (x + 126), .int out.1, .int out.2.1, .int out.2.2.1, .int out.2.2.2])) ∧ (∀ q, q ≠ (x + 142) → hp' q = hp q) ∧ al = al'
set_option maxHeartbeats 4000000 in
set_option maxRecDepth 100000 in
theorem c_X9_advance_L52 {E : KE} {p : Program} {l : Launch} {e : Env} {s : State} {m : MethodId} {args : Array Value} {below : List Frame} {meth : Method} {c : Code} {al : Option Nat} {N : Nat} {x : Nat} {tl : Int32} {tb : Nat → Int32} {hp0 : Hp} {out : Int32 × Int32 × Int32 × Int32}  (X : CX E p l s m args meth c "DiceAudit$Tokens" cX9_advance 2) (hr : meth.sig.returnType = (Option.none : Option Jvm.ClassFile.FieldType))   : ∀ {kd : Int32} {ts : Int32} {te : Int32} {tv : Int32} {hp : Hp}, hp (x + 126) = some (.inr (10, [.ref (x + 127), .int tl])) → hp (x + 127) = some (.inl (kC E 0, 900, .inl tb)) → hp (x + 142) = some (.inr (11, [.ref (x + 126), .int kd, .int ts, .int te, .int tv])) → (∀ q, q ≠ (x + 142) → hp q = hp0 q) → f_X9_advance_L52 N tl tb kd ts te tv = some out → AW E p l e ⟨2, 0, 0, 41⟩ s m args below meth c 2 (MQ below (kQc E (P_X9_advance E x hp0 al out)) args s 0 0 (kA E)) hp al 0 0 52 [(0, .ref (x + 142))] [] := by
  intro kd ts te tv hp g0 g1 g2 hfr h
  unfold f_X9_advance_L52 at h
  refine A_aload_n X dX9_advance_52 0 rfl ?_
  refine A_aload_n X dX9_advance_53 0 rfl ?_
  refine A_get X dX9_advance_54 kcl_X9 2 (by decide) kw_224 g2 rfl ?_
  refine A_put X dX9_advance_57 kcl_X9 3 (by decide) kw_226 g2 rfl rfl rfl (by simp) (fun hp1 (k1 : hp1 (x + 142) = some (.inr (11, [.ref (x + 126), .int kd, .int ts, .int ts, .int tv]))) n1 => ?_)
  refine A_aload_n X dX9_advance_60 0 rfl ?_
  refine A_get X dX9_advance_61 kcl_X9 0 (by decide) kw_221 k1 rfl ?_
  refine A_aload_n X dX9_advance_64 0 rfl ?_
  refine A_get X dX9_advance_65 kcl_X9 2 (by decide) kw_224 k1 rfl ?_
  obtain ⟨t1, hct1, h⟩ := bind_o h
  refine A_cp (k' := 0) (n' := 0) (A_runV (rest := []) X dX9_advance_68 (c_X8_byteIn ((n1 _ (by omega)).trans g0) ((n1 _ (by omega)).trans g1)  hct1) kY_X8_byteIn kw_331 ((n1 _ (by omega)).trans g0) rfl rfl ⟨(Nat.le_of_ble_eq_true rfl), (Nat.le_of_ble_eq_true rfl), (Nat.le_of_ble_eq_true rfl), (Nat.le_of_ble_eq_true rfl)⟩ rfl (Nat.le_of_ble_eq_true rfl)) rfl rfl ?_
  refine A_istore_n (L' := [(1, .int t1), (0, .ref (x + 142))]) X dX9_advance_71 rfl (by decide) rfl ?_
  refine A_aload_n X dX9_advance_72 1 rfl ?_
  refine A_get X dX9_advance_73 kcl_X9 2 (by decide) kw_224 k1 rfl ?_
  refine A_aload_n X dX9_advance_76 1 rfl ?_
  refine A_get X dX9_advance_77 kcl_X9 0 (by decide) kw_221 k1 rfl ?_
  refine A_get X dX9_advance_80 kcl_X8 1 (by decide) kw_48 ((n1 _ (by omega)).trans g0) rfl ?_
  refine A_icmp_lt (tgt := 94) X dX9_advance_83 h (by decide) (fun hc h => ?_) (fun hc h => ?_)
  · refine A_iload_n X dX9_advance_94 0 rfl ?_
    obtain ⟨t2, hct2, h⟩ := bind_o h
    refine A_c (k' := 0) (n' := 0) rfl rfl (A_runS (rest := []) X dX9_advance_95 (c_X9_isLetter   hct2) kY_X9_isLetter kw_338 ⟨(Nat.le_of_ble_eq_true rfl), (Nat.le_of_ble_eq_true rfl), (Nat.le_of_ble_eq_true rfl), (Nat.le_of_ble_eq_true rfl)⟩ rfl (Nat.le_of_ble_eq_true rfl)) (fun v9 hp2 al9 hP => ?_)
    obtain ⟨rfl, zt2, rfl, rfl⟩ := hP
    refine A_st (st' := [.int t2]) rfl ?_
    refine A_if_eq (tgt := 113) X dX9_advance_98 h (by decide) (fun hc h => ?_) (fun hc h => ?_)
    · refine A_iload_n X dX9_advance_113 0 rfl ?_
      obtain ⟨t3, hct3, h⟩ := bind_o h
      refine A_c (k' := 0) (n' := 0) rfl rfl (A_runS (rest := []) X dX9_advance_114 (c_X9_isDigit   hct3) kY_X9_isDigit kw_345 ⟨(Nat.le_of_ble_eq_true rfl), (Nat.le_of_ble_eq_true rfl), (Nat.le_of_ble_eq_true rfl), (Nat.le_of_ble_eq_true rfl)⟩ rfl (Nat.le_of_ble_eq_true rfl)) (fun v9 hp2 al9 hP => ?_)
      obtain ⟨rfl, zt3, rfl, rfl⟩ := hP
      refine A_st (st' := [.int t3]) rfl ?_
      refine A_if_eq (tgt := 132) X dX9_advance_117 h (by decide) (fun hc h => ?_) (fun hc h => ?_)
      · refine A_aload_n X dX9_advance_132 1 rfl ?_
        refine A_iconst (v := 3) X dX9_advance_133 (by decide) ?_
        refine A_put X dX9_advance_134 kcl_X9 1 (by decide) kw_222 k1 rfl rfl rfl (by simp) (fun hp2 (k2 : hp2 (x + 142) = some (.inr (11, [.ref (x + 126), .int 3, .int ts, .int ts, .int tv]))) n2 => ?_)
        refine A_aload_n X dX9_advance_137 1 rfl ?_
        refine A_aload_n X dX9_advance_138 1 rfl ?_
        refine A_get X dX9_advance_139 kcl_X9 2 (by decide) kw_224 k2 rfl ?_
        refine A_iconst (v := 1) X dX9_advance_142 (by decide) ?_
        refine A_iadd X dX9_advance_143 ?_
        refine A_put X dX9_advance_144 kcl_X9 3 (by decide) kw_226 k2 rfl rfl rfl (by simp) (fun hp3 (k3 : hp3 (x + 142) = some (.inr (11, [.ref (x + 126), .int 3, .int ts, .int (ts + 1), .int tv]))) n3 => ?_)
        cases h
        exact A_vret X dX9_advance_147 hr ⟨rfl, k3, (fun q z0 => ((n3 q z0).trans ((n2 q z0).trans ((n1 q z0).trans (hfr q z0))))), rfl⟩ (Nat.le_of_ble_eq_true rfl) (Nat.le_of_ble_eq_true rfl)
      · refine A_aload_n X dX9_advance_120 1 rfl ?_
        refine A_iconst (v := 2) X dX9_advance_121 (by decide) ?_
        refine A_put X dX9_advance_122 kcl_X9 1 (by decide) kw_222 k1 rfl rfl rfl (by simp) (fun hp2 (k2 : hp2 (x + 142) = some (.inr (11, [.ref (x + 126), .int 2, .int ts, .int ts, .int tv]))) n2 => ?_)
        refine A_aload_n X dX9_advance_125 1 rfl ?_
        obtain ⟨t4, hct4, h⟩ := bind_o h
        refine A_c (k' := 0) (n' := 0) rfl rfl (A_runV (rest := []) X dX9_advance_126 (c_X9_passDigits ((n2 _ (by omega)).trans ((n1 _ (by omega)).trans g0)) ((n2 _ (by omega)).trans ((n1 _ (by omega)).trans g1)) k2  hct4) kY_X9_passDigits kw_348 k2 rfl rfl ⟨(Nat.le_of_ble_eq_true rfl), (Nat.le_of_ble_eq_true rfl), (Nat.le_of_ble_eq_true rfl), (Nat.le_of_ble_eq_true rfl)⟩ rfl (Nat.le_of_ble_eq_true rfl)) (fun v9 hp3 al9 hP => ?_)
        obtain ⟨rfl, k3_0, n3, rfl⟩ := hP
        replace k3_0 : hp3 (x + 142) = some (.inr (11, [.ref (x + 126), .int 2, .int ts, .int t4.1, .int t4.2])) := k3_0
        refine A_st (st' := []) rfl ?_
        refine A_goto (tgt := 147) X dX9_advance_129 (by decide) ?_
        cases h
        exact A_vret X dX9_advance_147 hr ⟨rfl, k3_0, (fun q z0 => ((n3 q z0).trans ((n2 q z0).trans ((n1 q z0).trans (hfr q z0))))), rfl⟩ (Nat.le_of_ble_eq_true rfl) (Nat.le_of_ble_eq_true rfl)
    · refine A_aload_n X dX9_advance_101 1 rfl ?_
      refine A_iconst (v := 1) X dX9_advance_102 (by decide) ?_
      refine A_put X dX9_advance_103 kcl_X9 1 (by decide) kw_222 k1 rfl rfl rfl (by simp) (fun hp2 (k2 : hp2 (x + 142) = some (.inr (11, [.ref (x + 126), .int 1, .int ts, .int ts, .int tv]))) n2 => ?_)
      refine A_aload_n X dX9_advance_106 1 rfl ?_
      obtain ⟨t5, hct5, h⟩ := bind_o h
      refine A_c (k' := 0) (n' := 0) rfl rfl (A_runV (rest := []) X dX9_advance_107 (c_X9_passLetters ((n2 _ (by omega)).trans ((n1 _ (by omega)).trans g0)) ((n2 _ (by omega)).trans ((n1 _ (by omega)).trans g1)) k2  hct5) kY_X9_passLetters kw_341 k2 rfl rfl ⟨(Nat.le_of_ble_eq_true rfl), (Nat.le_of_ble_eq_true rfl), (Nat.le_of_ble_eq_true rfl), (Nat.le_of_ble_eq_true rfl)⟩ rfl (Nat.le_of_ble_eq_true rfl)) (fun v9 hp3 al9 hP => ?_)
      obtain ⟨rfl, k3_0, n3, rfl⟩ := hP
      replace k3_0 : hp3 (x + 142) = some (.inr (11, [.ref (x + 126), .int 1, .int ts, .int t5, .int tv])) := k3_0
      refine A_st (st' := []) rfl ?_
      refine A_goto (tgt := 147) X dX9_advance_110 (by decide) ?_
      cases h
      exact A_vret X dX9_advance_147 hr ⟨rfl, k3_0, (fun q z0 => ((n3 q z0).trans ((n2 q z0).trans ((n1 q z0).trans (hfr q z0))))), rfl⟩ (Nat.le_of_ble_eq_true rfl) (Nat.le_of_ble_eq_true rfl)
  · refine A_aload_n X dX9_advance_86 1 rfl ?_
    refine A_iconst (v := 0) X dX9_advance_87 (by decide) ?_
    refine A_put X dX9_advance_88 kcl_X9 1 (by decide) kw_222 k1 rfl rfl rfl (by simp) (fun hp2 (k2 : hp2 (x + 142) = some (.inr (11, [.ref (x + 126), .int 0, .int ts, .int ts, .int tv]))) n2 => ?_)
    refine A_goto (tgt := 147) X dX9_advance_91 (by decide) ?_
    cases h
    exact A_vret X dX9_advance_147 hr ⟨rfl, k2, (fun q z0 => ((n2 q z0).trans ((n1 q z0).trans (hfr q z0)))), rfl⟩ (Nat.le_of_ble_eq_true rfl) (Nat.le_of_ble_eq_true rfl)
set_option maxHeartbeats 4000000 in
set_option maxRecDepth 100000 in
theorem c_X9_advance_L8 {E : KE} {p : Program} {l : Launch} {e : Env} {s : State} {m : MethodId} {args : Array Value} {below : List Frame} {meth : Method} {c : Code} {al : Option Nat} {N : Nat} {x : Nat} {tl : Int32} {tb : Nat → Int32} {hp0 : Hp} {out : Int32 × Int32 × Int32 × Int32}  (X : CX E p l s m args meth c "DiceAudit$Tokens" cX9_advance 2) (hr : meth.sig.returnType = (Option.none : Option Jvm.ClassFile.FieldType))   : ∀ (j : Nat), ∀ {kd : Int32} {ts : Int32} {te : Int32} {tv : Int32} {hp : Hp}, hp (x + 126) = some (.inr (10, [.ref (x + 127), .int tl])) → hp (x + 127) = some (.inl (kC E 0, 900, .inl tb)) → hp (x + 142) = some (.inr (11, [.ref (x + 126), .int kd, .int ts, .int te, .int tv])) → (∀ q, q ≠ (x + 142) → hp q = hp0 q) → f_X9_advance_L8 N tl tb j kd ts te tv = some out → AW E p l e ⟨2, 0, 0, 41⟩ s m args below meth c 2 (MQ below (kQc E (P_X9_advance E x hp0 al out)) args s 0 0 (kA E)) hp al 0 0 8 [(0, .ref (x + 142))] [] := by
  intro j
  induction j with
  | zero =>
    intro kd ts te tv hp g0 g1 g2 hfr h
    have h : (none : Option (Int32 × Int32 × Int32 × Int32)) = some out := h
    cases h
  | succ j i8 =>
    intro kd ts te tv hp g0 g1 g2 hfr h
    have h : f_X9_advance_L8_F N tl tb (f_X9_advance_L8 N tl tb j) kd ts te tv = some out := h
    unfold f_X9_advance_L8_F at h
    refine A_aload_n X dX9_advance_8 0 rfl ?_
    refine A_get X dX9_advance_9 kcl_X9 2 (by decide) kw_224 g2 rfl ?_
    refine A_aload_n X dX9_advance_12 0 rfl ?_
    refine A_get X dX9_advance_13 kcl_X9 0 (by decide) kw_221 g2 rfl ?_
    refine A_get X dX9_advance_16 kcl_X8 1 (by decide) kw_48 g0 rfl ?_
    refine A_icmp_ge (tgt := 52) X dX9_advance_19 h (by decide) (fun hc h => ?_) (fun hc h => ?_)
    · refine A_sub (L' := [(0, .ref (x + 142))]) [0] rfl ?_
      exact c_X9_advance_L52 X hr  g0 g1 g2 (fun q z0 => (hfr q z0)) h
    · refine A_aload_n X dX9_advance_22 0 rfl ?_
      refine A_get X dX9_advance_23 kcl_X9 0 (by decide) kw_221 g2 rfl ?_
      refine A_aload_n X dX9_advance_26 0 rfl ?_
      refine A_get X dX9_advance_27 kcl_X9 2 (by decide) kw_224 g2 rfl ?_
      obtain ⟨t1, hct1, h⟩ := bind_o h
      refine A_cp (k' := 0) (n' := 0) (A_runV (rest := []) X dX9_advance_30 (c_X8_byteIn g0 g1  hct1) kY_X8_byteIn kw_331 g0 rfl rfl ⟨(Nat.le_of_ble_eq_true rfl), (Nat.le_of_ble_eq_true rfl), (Nat.le_of_ble_eq_true rfl), (Nat.le_of_ble_eq_true rfl)⟩ rfl (Nat.le_of_ble_eq_true rfl)) rfl rfl ?_
      obtain ⟨t2, hct2, h⟩ := bind_o h
      refine A_c (k' := 0) (n' := 0) rfl rfl (A_runS (rest := []) X dX9_advance_33 (c_X9_isBlank   hct2) kY_X9_isBlank kw_335 ⟨(Nat.le_of_ble_eq_true rfl), (Nat.le_of_ble_eq_true rfl), (Nat.le_of_ble_eq_true rfl), (Nat.le_of_ble_eq_true rfl)⟩ rfl (Nat.le_of_ble_eq_true rfl)) (fun v9 hp1 al9 hP => ?_)
      obtain ⟨rfl, zt2, rfl, rfl⟩ := hP
      refine A_st (st' := [.int t2]) rfl ?_
      refine A_if_eq (tgt := 52) X dX9_advance_36 h (by decide) (fun hc h => ?_) (fun hc h => ?_)
      · refine A_sub (L' := [(0, .ref (x + 142))]) [0] rfl ?_
        exact c_X9_advance_L52 X hr  g0 g1 g2 (fun q z0 => (hfr q z0)) h
      · refine A_aload_n X dX9_advance_39 0 rfl ?_
        refine A_dup X dX9_advance_40 rfl ?_
        refine A_get X dX9_advance_41 kcl_X9 2 (by decide) kw_224 g2 rfl ?_
        refine A_iconst (v := 1) X dX9_advance_44 (by decide) ?_
        refine A_iadd X dX9_advance_45 ?_
        refine A_put X dX9_advance_46 kcl_X9 2 (by decide) kw_224 g2 rfl rfl rfl (by simp) (fun hp1 (k1 : hp1 (x + 142) = some (.inr (11, [.ref (x + 126), .int kd, .int (ts + 1), .int te, .int tv]))) n1 => ?_)
        refine A_goto (tgt := 8) X dX9_advance_49 (by decide) ?_
        refine A_sub (L' := [(0, .ref (x + 142))]) [0] rfl ?_
        exact i8 ((n1 _ (by omega)).trans g0) ((n1 _ (by omega)).trans g1) k1 (fun q z0 => ((n1 q z0).trans (hfr q z0))) h
set_option maxHeartbeats 4000000 in
set_option maxRecDepth 100000 in
theorem c_X9_advance {E : KE} {l : Launch} {hp : Hp} {al : Option Nat} {N : Nat} {x : Nat} {tl : Int32} {tb : Nat → Int32} {kd : Int32} {ts : Int32} {te : Int32} {tv : Int32}  {out : Int32 × Int32 × Int32 × Int32} (g0 : hp (x + 126) = some (.inr (10, [.ref (x + 127), .int tl]))) (g1 : hp (x + 127) = some (.inl (kC E 0, 900, .inl tb))) (g2 : hp (x + 142) = some (.inr (11, [.ref (x + 126), .int kd, .int ts, .int te, .int tv])))  (h : f_X9_advance N tl tb kd ts te tv = some out) : AM E l yX9_advance cX9_advance 2 (Option.none : Option Jvm.ClassFile.FieldType) ⟨2, 0, 0, 41⟩ [.ref (x + 142)] hp al (P_X9_advance E x hp al out) := by
  refine A_of (by decide +kernel) (Nat.le_of_ble_eq_true rfl) ?_
  intro p e s m args below meth c X hr hnm
  have X : CX E p l s m args meth c "DiceAudit$Tokens" cX9_advance 2 := X
  refine A_L (L' := [(0, .ref (x + 142))]) rfl ?_
  unfold f_X9_advance at h
  refine A_aload_n X dX9_advance_0 0 rfl ?_
  refine A_aload_n X dX9_advance_1 0 rfl ?_
  refine A_get X dX9_advance_2 kcl_X9 3 (by decide) kw_226 g2 rfl ?_
  refine A_put X dX9_advance_5 kcl_X9 2 (by decide) kw_224 g2 rfl rfl rfl (by simp) (fun hp1 (k1 : hp1 (x + 142) = some (.inr (11, [.ref (x + 126), .int kd, .int te, .int te, .int tv]))) n1 => ?_)
  refine A_sub (L' := [(0, .ref (x + 142))]) [0] rfl ?_
  exact c_X9_advance_L8 X hr  N ((n1 _ (by omega)).trans g0) ((n1 _ (by omega)).trans g1) k1 (fun q z0 => (n1 q z0)) h
abbrev P_X9_rewind (E : KE) (x : Nat)  (hp : Hp) (al : Option Nat) (out : Int32 × Int32 × Int32 × Int32) : Option Value → Hp → Option Nat → Prop := fun v0 hp' al' => v0 = none ∧ hp' (x + 142) = some (.inr (11, [.ref (x + 126), .int out.1, .int out.2.1, .int out.2.2.1, .int out.2.2.2])) ∧ (∀ q, q ≠ (x + 142) → hp' q = hp q) ∧ al = al'
set_option maxHeartbeats 4000000 in
set_option maxRecDepth 100000 in
theorem c_X9_rewind {E : KE} {l : Launch} {hp : Hp} {al : Option Nat} {N : Nat} {x : Nat} {tl : Int32} {tb : Nat → Int32} {kd : Int32} {ts : Int32} {te : Int32} {tv : Int32}  {out : Int32 × Int32 × Int32 × Int32} (g0 : hp (x + 126) = some (.inr (10, [.ref (x + 127), .int tl]))) (g1 : hp (x + 127) = some (.inl (kC E 0, 900, .inl tb))) (g2 : hp (x + 142) = some (.inr (11, [.ref (x + 126), .int kd, .int ts, .int te, .int tv])))  (h : f_X9_rewind N tl tb kd ts te tv = some out) : AM E l yX9_rewind cX9_rewind 1 (Option.none : Option Jvm.ClassFile.FieldType) ⟨3, 0, 0, 62⟩ [.ref (x + 142)] hp al (P_X9_rewind E x hp al out) := by
  refine A_of (by decide +kernel) (Nat.le_of_ble_eq_true rfl) ?_
  intro p e s m args below meth c X hr hnm
  have X : CX E p l s m args meth c "DiceAudit$Tokens" cX9_rewind 1 := X
  refine A_L (L' := [(0, .ref (x + 142))]) rfl ?_
  unfold f_X9_rewind at h
  refine A_aload_n X dX9_rewind_0 0 rfl ?_
  refine A_iconst (v := 0) X dX9_rewind_1 (by decide) ?_
  refine A_put X dX9_rewind_2 kcl_X9 3 (by decide) kw_226 g2 rfl rfl rfl (by simp) (fun hp1 (k1 : hp1 (x + 142) = some (.inr (11, [.ref (x + 126), .int kd, .int ts, .int 0, .int tv]))) n1 => ?_)
  refine A_aload_n X dX9_rewind_5 0 rfl ?_
  obtain ⟨t1, hct1, h⟩ := bind_o h
  refine A_c (k' := 0) (n' := 0) rfl rfl (A_runV (rest := []) X dX9_rewind_6 (c_X9_advance ((n1 _ (by omega)).trans g0) ((n1 _ (by omega)).trans g1) k1  hct1) kY_X9_advance kw_327 k1 rfl rfl ⟨(Nat.le_of_ble_eq_true rfl), (Nat.le_of_ble_eq_true rfl), (Nat.le_of_ble_eq_true rfl), (Nat.le_of_ble_eq_true rfl)⟩ rfl (Nat.le_of_ble_eq_true rfl)) (fun v9 hp2 al9 hP => ?_)
  obtain ⟨rfl, k2_0, n2, rfl⟩ := hP
  replace k2_0 : hp2 (x + 142) = some (.inr (11, [.ref (x + 126), .int t1.1, .int t1.2.1, .int t1.2.2.1, .int t1.2.2.2])) := k2_0
  refine A_st (st' := []) rfl ?_
  cases h
  exact A_vret X dX9_rewind_9 hr ⟨rfl, k2_0, (fun q z0 => ((n2 q z0).trans (n1 q z0))), rfl⟩ (Nat.le_of_ble_eq_true rfl) (Nat.le_of_ble_eq_true rfl)
abbrev P_X9_isWord (E : KE) (x : Nat)  (hp : Hp) (al : Option Nat) (out : Int32) : Option Value → Hp → Option Nat → Prop := fun v0 hp' al' => v0 = some (.int out) ∧ (out = 0 ∨ out = 1) ∧ hp = hp' ∧ al = al'
set_option maxHeartbeats 4000000 in
set_option maxRecDepth 100000 in
theorem c_X9_isWord_L28 {E : KE} {p : Program} {l : Launch} {e : Env} {s : State} {m : MethodId} {args : Array Value} {below : List Frame} {meth : Method} {c : Code} {al : Option Nat} {N : Nat} {x : Nat} {tl : Int32} {tb : Nat → Int32} {kd : Int32} {ts : Int32} {te : Int32} {tv : Int32} {sj : Nat} {hp0 : Hp} {out : Int32}  (X : CX E p l s m args meth c "DiceAudit$Tokens" cX9_isWord 3) (hr : meth.sig.returnType = (Option.some Jvm.ClassFile.FieldType.boolean)) (hsj : sj < 10) (g0 : hp0 (x + 126) = some (.inr (10, [.ref (x + 127), .int tl]))) (g1 : hp0 (x + 127) = some (.inl (kC E 0, 900, .inl tb))) (g2 : hp0 (x + 142) = some (.inr (11, [.ref (x + 126), .int kd, .int ts, .int te, .int tv]))) : ∀ (j : Nat), ∀ {l2 : Int32}, f_X9_isWord_L28 N tl tb kd ts te sj j l2 = some out → AW E p l e ⟨4, 0, 0, 85⟩ s m args below meth c 3 (MQ below (kQc E (P_X9_isWord E x hp0 al out)) args s 0 0 (kA E)) hp0 al 0 0 28 [(0, .ref (x + 142)), (1, .ref (kS E sj)), (2, .int l2)] [] := by
  intro j
  induction j with
  | zero =>
    intro l2 h
    have h : (none : Option (Int32)) = some out := h
    cases h
  | succ j i28 =>
    intro l2 h
    have h : f_X9_isWord_L28_F N tl tb kd ts te sj (f_X9_isWord_L28 N tl tb kd ts te sj j) l2 = some out := h
    unfold f_X9_isWord_L28_F at h
    refine A_iload_n X dX9_isWord_28 2 rfl ?_
    refine A_aload_n X dX9_isWord_29 1 rfl ?_
    refine A_slen X dX9_isWord_30 kw_365 hsj (Nat.le_of_ble_eq_true rfl) (Nat.le_of_ble_eq_true rfl) (Nat.le_of_ble_eq_true rfl) (Nat.le_of_ble_eq_true rfl) (Nat.le_of_ble_eq_true rfl) ?_
    refine A_icmp_ge (tgt := 65) X dX9_isWord_33 h (by decide) (fun hc h => ?_) (fun hc h => ?_)
    · refine A_iconst (v := 1) X dX9_isWord_65 (by decide) ?_
      cases h
      exact A_zret X dX9_isWord_66 hr (Or.inr rfl) ⟨rfl, (Or.inr rfl), rfl, rfl⟩ (Nat.le_of_ble_eq_true rfl) (Nat.le_of_ble_eq_true rfl)
    · refine A_aload_n X dX9_isWord_36 1 rfl ?_
      refine A_iload_n X dX9_isWord_37 2 rfl ?_
      obtain ⟨hq, h⟩ := gd_o h
      refine A_schar X dX9_isWord_38 kw_366 hsj hq (Nat.le_of_ble_eq_true rfl) (Nat.le_of_ble_eq_true rfl) (Nat.le_of_ble_eq_true rfl) (Nat.le_of_ble_eq_true rfl) (Nat.le_of_ble_eq_true rfl) ?_
      refine A_aload_n X dX9_isWord_41 0 rfl ?_
      refine A_get X dX9_isWord_42 kcl_X9 0 (by decide) kw_221 g2 rfl ?_
      refine A_aload_n X dX9_isWord_45 0 rfl ?_
      refine A_get X dX9_isWord_46 kcl_X9 2 (by decide) kw_224 g2 rfl ?_
      refine A_iload_n X dX9_isWord_49 2 rfl ?_
      refine A_iadd X dX9_isWord_50 ?_
      obtain ⟨t1, hct1, h⟩ := bind_o h
      refine A_cp (k' := 0) (n' := 0) (A_runV (rest := [.int (kSc sj l2)]) X dX9_isWord_51 (c_X8_byteIn g0 g1  hct1) kY_X8_byteIn kw_331 g0 rfl rfl ⟨(Nat.le_of_ble_eq_true rfl), (Nat.le_of_ble_eq_true rfl), (Nat.le_of_ble_eq_true rfl), (Nat.le_of_ble_eq_true rfl)⟩ rfl (Nat.le_of_ble_eq_true rfl)) rfl rfl ?_
      refine A_icmp_eq (tgt := 59) X dX9_isWord_54 h (by decide) (fun hc h => ?_) (fun hc h => ?_)
      · refine A_iinc (j := 2) (v := (l2 + 1)) (L' := [(2, .int (l2 + 1)), (0, .ref (x + 142)), (1, .ref (kS E sj))]) X dX9_isWord_59 rfl rfl (by decide) rfl ?_
        refine A_goto (tgt := 28) X dX9_isWord_62 (by decide) ?_
        refine A_sub (L' := [(0, .ref (x + 142)), (1, .ref (kS E sj)), (2, .int (l2 + 1))]) [1, 2, 0] rfl ?_
        exact i28  h
      · refine A_iconst (v := 0) X dX9_isWord_57 (by decide) ?_
        cases h
        exact A_zret X dX9_isWord_58 hr (Or.inl rfl) ⟨rfl, (Or.inl rfl), rfl, rfl⟩ (Nat.le_of_ble_eq_true rfl) (Nat.le_of_ble_eq_true rfl)
set_option maxHeartbeats 4000000 in
set_option maxRecDepth 100000 in
theorem c_X9_isWord {E : KE} {l : Launch} {hp : Hp} {al : Option Nat} {N : Nat} {x : Nat} {tl : Int32} {tb : Nat → Int32} {kd : Int32} {ts : Int32} {te : Int32} {tv : Int32} {sj : Nat} {out : Int32} (g0 : hp (x + 126) = some (.inr (10, [.ref (x + 127), .int tl]))) (g1 : hp (x + 127) = some (.inl (kC E 0, 900, .inl tb))) (g2 : hp (x + 142) = some (.inr (11, [.ref (x + 126), .int kd, .int ts, .int te, .int tv]))) (hsj : sj < 10) (h : f_X9_isWord N tl tb kd ts te sj = some out) : AM E l yX9_isWord cX9_isWord 3 (Option.some Jvm.ClassFile.FieldType.boolean) ⟨4, 0, 0, 85⟩ [.ref (x + 142), .ref (kS E sj)] hp al (P_X9_isWord E x hp al out) := by
  refine A_of (by decide +kernel) (Nat.le_of_ble_eq_true rfl) ?_
  intro p e s m args below meth c X hr hnm
  have X : CX E p l s m args meth c "DiceAudit$Tokens" cX9_isWord 3 := X
  refine A_L (L' := [(0, .ref (x + 142)), (1, .ref (kS E sj))]) rfl ?_
  unfold f_X9_isWord at h
  refine A_aload_n X dX9_isWord_0 0 rfl ?_
  refine A_get X dX9_isWord_1 kcl_X9 1 (by decide) kw_222 g2 rfl ?_
  refine A_iconst (v := 1) X dX9_isWord_4 (by decide) ?_
  refine A_icmp_ne (tgt := 24) X dX9_isWord_5 h (by decide) (fun hc h => ?_) (fun hc h => ?_)
  · refine A_iconst (v := 0) X dX9_isWord_24 (by decide) ?_
    cases h
    exact A_zret X dX9_isWord_25 hr (Or.inl rfl) ⟨rfl, (Or.inl rfl), rfl, rfl⟩ (Nat.le_of_ble_eq_true rfl) (Nat.le_of_ble_eq_true rfl)
  · refine A_aload_n X dX9_isWord_8 0 rfl ?_
    refine A_get X dX9_isWord_9 kcl_X9 3 (by decide) kw_226 g2 rfl ?_
    refine A_aload_n X dX9_isWord_12 0 rfl ?_
    refine A_get X dX9_isWord_13 kcl_X9 2 (by decide) kw_224 g2 rfl ?_
    refine A_isub X dX9_isWord_16 ?_
    refine A_aload_n X dX9_isWord_17 1 rfl ?_
    refine A_slen X dX9_isWord_18 kw_365 hsj (Nat.le_of_ble_eq_true rfl) (Nat.le_of_ble_eq_true rfl) (Nat.le_of_ble_eq_true rfl) (Nat.le_of_ble_eq_true rfl) (Nat.le_of_ble_eq_true rfl) ?_
    refine A_icmp_eq (tgt := 26) X dX9_isWord_21 h (by decide) (fun hc h => ?_) (fun hc h => ?_)
    · refine A_iconst (v := 0) X dX9_isWord_26 (by decide) ?_
      refine A_istore_n (L' := [(2, .int 0), (0, .ref (x + 142)), (1, .ref (kS E sj))]) X dX9_isWord_27 rfl (by decide) rfl ?_
      refine A_sub (L' := [(0, .ref (x + 142)), (1, .ref (kS E sj)), (2, .int 0)]) [1, 2, 0] rfl ?_
      exact c_X9_isWord_L28 X hr hsj g0 g1 g2 N  h
    · refine A_iconst (v := 0) X dX9_isWord_24 (by decide) ?_
      cases h
      exact A_zret X dX9_isWord_25 hr (Or.inl rfl) ⟨rfl, (Or.inl rfl), rfl, rfl⟩ (Nat.le_of_ble_eq_true rfl) (Nat.le_of_ble_eq_true rfl)
abbrev P_X5_fail (E : KE) (x : Nat)  (hp : Hp) (al : Option Nat) (out : Int32 × Int32) : Option Value → Hp → Option Nat → Prop := fun v0 hp' al' => v0 = none ∧ hp' (x + 128) = some (.inr (7, [.ref (x + 126), .ref (x + 142), .ref (x + 129), .int out.1, .int out.2])) ∧ (∀ q, q ≠ (x + 128) → hp' q = hp q) ∧ al = al'
set_option maxHeartbeats 4000000 in
set_option maxRecDepth 100000 in
theorem c_X5_fail {E : KE} {l : Launch} {hp : Hp} {al : Option Nat} {x : Nat} {ec : Int32} {eo : Int32} {kd : Int32} {ts : Int32} {te : Int32} {tv : Int32} {a0 : Int32} {out : Int32 × Int32} (g2 : hp (x + 128) = some (.inr (7, [.ref (x + 126), .ref (x + 142), .ref (x + 129), .int ec, .int eo]))) (g16 : hp (x + 142) = some (.inr (11, [.ref (x + 126), .int kd, .int ts, .int te, .int tv])))  (h : f_X5_fail ts ec eo a0 = some out) : AM E l yX5_fail cX5_fail 2 (Option.none : Option Jvm.ClassFile.FieldType) ⟨0, 0, 0, 0⟩ [.ref (x + 128), .int a0] hp al (P_X5_fail E x hp al out) := by
  refine A_of (by decide +kernel) (Nat.le_of_ble_eq_true rfl) ?_
  intro p e s m args below meth c X hr hnm
  have X : CX E p l s m args meth c "DiceAudit$Loader" cX5_fail 2 := X
  refine A_L (L' := [(0, .ref (x + 128)), (1, .int a0)]) rfl ?_
  unfold f_X5_fail at h
  refine A_aload_n X dX5_fail_0 0 rfl ?_
  refine A_get X dX5_fail_1 kcl_X5 3 (by decide) kw_245 g2 rfl ?_
  refine A_if_ne (tgt := 23) X dX5_fail_4 h (by decide) (fun hc h => ?_) (fun hc h => ?_)
  · cases h
    exact A_vret X dX5_fail_23 hr ⟨rfl, g2, (fun q z0 => rfl), rfl⟩ (Nat.le_of_ble_eq_true rfl) (Nat.le_of_ble_eq_true rfl)
  · refine A_aload_n X dX5_fail_7 0 rfl ?_
    refine A_iload_n X dX5_fail_8 1 rfl ?_
    refine A_put X dX5_fail_9 kcl_X5 3 (by decide) kw_245 g2 rfl rfl rfl (by simp) (fun hp1 (k1 : hp1 (x + 128) = some (.inr (7, [.ref (x + 126), .ref (x + 142), .ref (x + 129), .int a0, .int eo]))) n1 => ?_)
    refine A_aload_n X dX5_fail_12 0 rfl ?_
    refine A_aload_n X dX5_fail_13 0 rfl ?_
    refine A_get X dX5_fail_14 kcl_X5 1 (by decide) kw_242 k1 rfl ?_
    refine A_get X dX5_fail_17 kcl_X9 2 (by decide) kw_225 ((n1 _ (by omega)).trans g16) rfl ?_
    refine A_put X dX5_fail_20 kcl_X5 4 (by decide) kw_247 k1 rfl rfl rfl (by simp) (fun hp2 (k2 : hp2 (x + 128) = some (.inr (7, [.ref (x + 126), .ref (x + 142), .ref (x + 129), .int a0, .int ts]))) n2 => ?_)
    cases h
    exact A_vret X dX5_fail_23 hr ⟨rfl, k2, (fun q z0 => ((n2 q z0).trans (n1 q z0))), rfl⟩ (Nat.le_of_ble_eq_true rfl) (Nat.le_of_ble_eq_true rfl)
abbrev P_X5_takeKeyword (E : KE) (x : Nat)  (hp : Hp) (al : Option Nat) (out : Int32 × Int32 × Int32 × Int32 × Int32 × Int32) : Option Value → Hp → Option Nat → Prop := fun v0 hp' al' => v0 = none ∧ hp' (x + 128) = some (.inr (7, [.ref (x + 126), .ref (x + 142), .ref (x + 129), .int out.1, .int out.2.1])) ∧ hp' (x + 142) = some (.inr (11, [.ref (x + 126), .int out.2.2.1, .int out.2.2.2.1, .int out.2.2.2.2.1, .int out.2.2.2.2.2])) ∧ (∀ q, q ≠ (x + 128) → q ≠ (x + 142) → hp' q = hp q) ∧ al = al'
set_option maxHeartbeats 4000000 in
set_option maxRecDepth 100000 in
theorem c_X5_takeKeyword {E : KE} {l : Launch} {hp : Hp} {al : Option Nat} {N : Nat} {x : Nat} {tl : Int32} {tb : Nat → Int32} {ec : Int32} {eo : Int32} {kd : Int32} {ts : Int32} {te : Int32} {tv : Int32} {a0 : Int32} {out : Int32 × Int32 × Int32 × Int32 × Int32 × Int32} (g0 : hp (x + 126) = some (.inr (10, [.ref (x + 127), .int tl]))) (g1 : hp (x + 127) = some (.inl (kC E 0, 900, .inl tb))) (g2 : hp (x + 128) = some (.inr (7, [.ref (x + 126), .ref (x + 142), .ref (x + 129), .int ec, .int eo]))) (g16 : hp (x + 142) = some (.inr (11, [.ref (x + 126), .int kd, .int ts, .int te, .int tv])))  (h : f_X5_takeKeyword N tl tb ec eo kd ts te tv a0 = some out) : AM E l yX5_takeKeyword cX5_takeKeyword 2 (Option.none : Option Jvm.ClassFile.FieldType) ⟨3, 0, 0, 62⟩ [.ref (x + 128), .int a0] hp al (P_X5_takeKeyword E x hp al out) := by
  refine A_of (by decide +kernel) (Nat.le_of_ble_eq_true rfl) ?_
  intro p e s m args below meth c X hr hnm
  have X : CX E p l s m args meth c "DiceAudit$Loader" cX5_takeKeyword 2 := X
  refine A_L (L' := [(0, .ref (x + 128)), (1, .int a0)]) rfl ?_
  unfold f_X5_takeKeyword at h
  refine A_iload_n X dX5_takeKeyword_0 1 rfl ?_
  refine A_if_eq (tgt := 12) X dX5_takeKeyword_1 h (by decide) (fun hc h => ?_) (fun hc h => ?_)
  · refine A_aload_n X dX5_takeKeyword_12 0 rfl ?_
    refine A_get X dX5_takeKeyword_13 kcl_X5 1 (by decide) kw_242 g2 rfl ?_
    obtain ⟨t1, hct1, h⟩ := bind_o h
    refine A_c (k' := 0) (n' := 0) rfl rfl (A_runV (rest := []) X dX5_takeKeyword_16 (c_X9_advance g0 g1 g16  hct1) kY_X9_advance kw_375 g16 rfl rfl ⟨(Nat.le_of_ble_eq_true rfl), (Nat.le_of_ble_eq_true rfl), (Nat.le_of_ble_eq_true rfl), (Nat.le_of_ble_eq_true rfl)⟩ rfl (Nat.le_of_ble_eq_true rfl)) (fun v9 hp1 al9 hP => ?_)
    obtain ⟨rfl, k1_0, n1, rfl⟩ := hP
    replace k1_0 : hp1 (x + 142) = some (.inr (11, [.ref (x + 126), .int t1.1, .int t1.2.1, .int t1.2.2.1, .int t1.2.2.2])) := k1_0
    refine A_st (st' := []) rfl ?_
    cases h
    exact A_vret X dX5_takeKeyword_19 hr ⟨rfl, ((n1 _ (by omega)).trans g2), k1_0, (fun q z0 z1 => (n1 q z1)), rfl⟩ (Nat.le_of_ble_eq_true rfl) (Nat.le_of_ble_eq_true rfl)
  · refine A_aload_n X dX5_takeKeyword_4 0 rfl ?_
    refine A_iload_n X dX5_takeKeyword_5 1 rfl ?_
    obtain ⟨t2, hct2, h⟩ := bind_o h
    refine A_c (k' := 0) (n' := 0) rfl rfl (A_runV (rest := []) X dX5_takeKeyword_6 (c_X5_fail g2 g16  hct2) kY_X5_fail kw_371 g2 rfl rfl ⟨(Nat.le_of_ble_eq_true rfl), (Nat.le_of_ble_eq_true rfl), (Nat.le_of_ble_eq_true rfl), (Nat.le_of_ble_eq_true rfl)⟩ rfl (Nat.le_of_ble_eq_true rfl)) (fun v9 hp1 al9 hP => ?_)
    obtain ⟨rfl, k1_0, n1, rfl⟩ := hP
    replace k1_0 : hp1 (x + 128) = some (.inr (7, [.ref (x + 126), .ref (x + 142), .ref (x + 129), .int t2.1, .int t2.2])) := k1_0
    refine A_st (st' := []) rfl ?_
    refine A_goto (tgt := 19) X dX5_takeKeyword_9 (by decide) ?_
    cases h
    exact A_vret X dX5_takeKeyword_19 hr ⟨rfl, k1_0, ((n1 _ (by omega)).trans g16), (fun q z0 z1 => (n1 q z0)), rfl⟩ (Nat.le_of_ble_eq_true rfl) (Nat.le_of_ble_eq_true rfl)
abbrev P_X5_isNumberIn (E : KE) (x : Nat)  (hp : Hp) (al : Option Nat) (out : Int32) : Option Value → Hp → Option Nat → Prop := fun v0 hp' al' => v0 = some (.int out) ∧ (out = 0 ∨ out = 1) ∧ hp = hp' ∧ al = al'
set_option maxHeartbeats 4000000 in
set_option maxRecDepth 100000 in
theorem c_X5_isNumberIn {E : KE} {l : Launch} {hp : Hp} {al : Option Nat} {x : Nat} {ec : Int32} {eo : Int32} {kd : Int32} {ts : Int32} {te : Int32} {tv : Int32} {a0 : Int32} {a1 : Int32} {out : Int32} (g2 : hp (x + 128) = some (.inr (7, [.ref (x + 126), .ref (x + 142), .ref (x + 129), .int ec, .int eo]))) (g16 : hp (x + 142) = some (.inr (11, [.ref (x + 126), .int kd, .int ts, .int te, .int tv])))  (h : f_X5_isNumberIn kd tv a0 a1 = some out) : AM E l yX5_isNumberIn cX5_isNumberIn 3 (Option.some Jvm.ClassFile.FieldType.boolean) ⟨0, 0, 0, 0⟩ [.ref (x + 128), .int a0, .int a1] hp al (P_X5_isNumberIn E x hp al out) := by
  refine A_of (by decide +kernel) (Nat.le_of_ble_eq_true rfl) ?_
  intro p e s m args below meth c X hr hnm
  have X : CX E p l s m args meth c "DiceAudit$Loader" cX5_isNumberIn 3 := X
  refine A_L (L' := [(0, .ref (x + 128)), (1, .int a0), (2, .int a1)]) rfl ?_
  unfold f_X5_isNumberIn at h
  refine A_aload_n X dX5_isNumberIn_0 0 rfl ?_
  refine A_get X dX5_isNumberIn_1 kcl_X5 1 (by decide) kw_242 g2 rfl ?_
  refine A_get X dX5_isNumberIn_4 kcl_X9 1 (by decide) kw_223 g16 rfl ?_
  refine A_iconst (v := 2) X dX5_isNumberIn_7 (by decide) ?_
  refine A_icmp_ne (tgt := 37) X dX5_isNumberIn_8 h (by decide) (fun hc h => ?_) (fun hc h => ?_)
  · refine A_iconst (v := 0) X dX5_isNumberIn_37 (by decide) ?_
    cases h
    exact A_zret X dX5_isNumberIn_38 hr (Or.inl rfl) ⟨rfl, (Or.inl rfl), rfl, rfl⟩ (Nat.le_of_ble_eq_true rfl) (Nat.le_of_ble_eq_true rfl)
  · refine A_aload_n X dX5_isNumberIn_11 0 rfl ?_
    refine A_get X dX5_isNumberIn_12 kcl_X5 1 (by decide) kw_242 g2 rfl ?_
    refine A_get X dX5_isNumberIn_15 kcl_X9 4 (by decide) kw_229 g16 rfl ?_
    refine A_iload_n X dX5_isNumberIn_18 1 rfl ?_
    refine A_icmp_lt (tgt := 37) X dX5_isNumberIn_19 h (by decide) (fun hc h => ?_) (fun hc h => ?_)
    · refine A_iconst (v := 0) X dX5_isNumberIn_37 (by decide) ?_
      cases h
      exact A_zret X dX5_isNumberIn_38 hr (Or.inl rfl) ⟨rfl, (Or.inl rfl), rfl, rfl⟩ (Nat.le_of_ble_eq_true rfl) (Nat.le_of_ble_eq_true rfl)
    · refine A_aload_n X dX5_isNumberIn_22 0 rfl ?_
      refine A_get X dX5_isNumberIn_23 kcl_X5 1 (by decide) kw_242 g2 rfl ?_
      refine A_get X dX5_isNumberIn_26 kcl_X9 4 (by decide) kw_229 g16 rfl ?_
      refine A_iload_n X dX5_isNumberIn_29 2 rfl ?_
      refine A_icmp_gt (tgt := 37) X dX5_isNumberIn_30 h (by decide) (fun hc h => ?_) (fun hc h => ?_)
      · refine A_iconst (v := 0) X dX5_isNumberIn_37 (by decide) ?_
        cases h
        exact A_zret X dX5_isNumberIn_38 hr (Or.inl rfl) ⟨rfl, (Or.inl rfl), rfl, rfl⟩ (Nat.le_of_ble_eq_true rfl) (Nat.le_of_ble_eq_true rfl)
      · refine A_iconst (v := 1) X dX5_isNumberIn_33 (by decide) ?_
        refine A_goto (tgt := 38) X dX5_isNumberIn_34 (by decide) ?_
        cases h
        exact A_zret X dX5_isNumberIn_38 hr (Or.inr rfl) ⟨rfl, (Or.inr rfl), rfl, rfl⟩ (Nat.le_of_ble_eq_true rfl) (Nat.le_of_ble_eq_true rfl)
abbrev P_X5_takeNumber (E : KE) (x : Nat)  (hp : Hp) (al : Option Nat) (out : Int32 × Int32 × Int32 × Int32 × Int32 × Int32 × Int32) : Option Value → Hp → Option Nat → Prop := fun v0 hp' al' => v0 = some (.int out.1) ∧ hp' (x + 128) = some (.inr (7, [.ref (x + 126), .ref (x + 142), .ref (x + 129), .int out.2.1, .int out.2.2.1])) ∧ hp' (x + 142) = some (.inr (11, [.ref (x + 126), .int out.2.2.2.1, .int out.2.2.2.2.1, .int out.2.2.2.2.2.1, .int out.2.2.2.2.2.2])) ∧ (∀ q, q ≠ (x + 128) → q ≠ (x + 142) → hp' q = hp q) ∧ al = al'
set_option maxHeartbeats 4000000 in
set_option maxRecDepth 100000 in
theorem c_X5_takeNumber_L35 {E : KE} {p : Program} {l : Launch} {e : Env} {s : State} {m : MethodId} {args : Array Value} {below : List Frame} {meth : Method} {c : Code} {al : Option Nat} {N : Nat} {x : Nat} {tl : Int32} {tb : Nat → Int32} {hp0 : Hp} {out : Int32 × Int32 × Int32 × Int32 × Int32 × Int32 × Int32}  (X : CX E p l s m args meth c "DiceAudit$Loader" cX5_takeNumber 4) (hr : meth.sig.returnType = (Option.some Jvm.ClassFile.FieldType.int))   : ∀ {s0 : Int32} {ec : Int32} {eo : Int32} {kd : Int32} {ts : Int32} {te : Int32} {tv : Int32} {hp : Hp}, hp (x + 126) = some (.inr (10, [.ref (x + 127), .int tl])) → hp (x + 127) = some (.inl (kC E 0, 900, .inl tb)) → hp (x + 128) = some (.inr (7, [.ref (x + 126), .ref (x + 142), .ref (x + 129), .int ec, .int eo])) → hp (x + 142) = some (.inr (11, [.ref (x + 126), .int kd, .int ts, .int te, .int tv])) → (∀ q, q ≠ (x + 128) → q ≠ (x + 142) → hp q = hp0 q) → f_X5_takeNumber_L35 N tl tb s0 ec eo kd ts te tv = some out → AW E p l e ⟨3, 0, 0, 62⟩ s m args below meth c 4 (MQ below (kQc E (P_X5_takeNumber E x hp0 al out)) args s 0 0 (kA E)) hp al 0 0 35 [] [.int s0, .ref (x + 128)] := by
  intro s0 ec eo kd ts te tv hp g0 g1 g2 g16 hfr h
  unfold f_X5_takeNumber_L35 at h
  obtain ⟨t3, hct3, h⟩ := bind_o h
  refine A_c (k' := 0) (n' := 0) rfl rfl (A_runV (rest := []) X dX5_takeNumber_35 (c_X5_fail g2 g16  hct3) kY_X5_fail kw_371 g2 rfl rfl ⟨(Nat.le_of_ble_eq_true rfl), (Nat.le_of_ble_eq_true rfl), (Nat.le_of_ble_eq_true rfl), (Nat.le_of_ble_eq_true rfl)⟩ rfl (Nat.le_of_ble_eq_true rfl)) (fun v9 hp1 al9 hP => ?_)
  obtain ⟨rfl, k1_0, n1, rfl⟩ := hP
  replace k1_0 : hp1 (x + 128) = some (.inr (7, [.ref (x + 126), .ref (x + 142), .ref (x + 129), .int t3.1, .int t3.2])) := k1_0
  refine A_st (st' := []) rfl ?_
  refine A_iconst (v := (-1)) X dX5_takeNumber_38 (by decide) ?_
  cases h
  exact A_iret X dX5_takeNumber_39 hr ⟨rfl, k1_0, ((n1 _ (by omega)).trans g16), (fun q z0 z1 => ((n1 q z0).trans (hfr q z0 z1))), rfl⟩ (Nat.le_of_ble_eq_true rfl) (Nat.le_of_ble_eq_true rfl)
set_option maxHeartbeats 4000000 in
set_option maxRecDepth 100000 in
theorem c_X5_takeNumber {E : KE} {l : Launch} {hp : Hp} {al : Option Nat} {N : Nat} {x : Nat} {tl : Int32} {tb : Nat → Int32} {ec : Int32} {eo : Int32} {kd : Int32} {ts : Int32} {te : Int32} {tv : Int32} {a0 : Int32} {a1 : Int32} {out : Int32 × Int32 × Int32 × Int32 × Int32 × Int32 × Int32} (g0 : hp (x + 126) = some (.inr (10, [.ref (x + 127), .int tl]))) (g1 : hp (x + 127) = some (.inl (kC E 0, 900, .inl tb))) (g2 : hp (x + 128) = some (.inr (7, [.ref (x + 126), .ref (x + 142), .ref (x + 129), .int ec, .int eo]))) (g16 : hp (x + 142) = some (.inr (11, [.ref (x + 126), .int kd, .int ts, .int te, .int tv])))  (h : f_X5_takeNumber N tl tb ec eo kd ts te tv a0 a1 = some out) : AM E l yX5_takeNumber cX5_takeNumber 4 (Option.some Jvm.ClassFile.FieldType.int) ⟨3, 0, 0, 62⟩ [.ref (x + 128), .int a0, .int a1] hp al (P_X5_takeNumber E x hp al out) := by
  refine A_of (by decide +kernel) (Nat.le_of_ble_eq_true rfl) ?_
  intro p e s m args below meth c X hr hnm
  have X : CX E p l s m args meth c "DiceAudit$Loader" cX5_takeNumber 4 := X
  refine A_L (L' := [(0, .ref (x + 128)), (1, .int a0), (2, .int a1)]) rfl ?_
  unfold f_X5_takeNumber at h
  refine A_aload_n X dX5_takeNumber_0 0 rfl ?_
  refine A_get X dX5_takeNumber_1 kcl_X5 3 (by decide) kw_245 g2 rfl ?_
  refine A_if_eq (tgt := 9) X dX5_takeNumber_4 h (by decide) (fun hc h => ?_) (fun hc h => ?_)
  · refine A_aload_n X dX5_takeNumber_9 0 rfl ?_
    refine A_iload_n X dX5_takeNumber_10 1 rfl ?_
    refine A_iload_n X dX5_takeNumber_11 2 rfl ?_
    obtain ⟨t1, hct1, h⟩ := bind_o h
    refine A_c (k' := 0) (n' := 0) rfl rfl (A_runV (rest := []) X dX5_takeNumber_12 (c_X5_isNumberIn g2 g16  hct1) kY_X5_isNumberIn kw_381 g2 rfl rfl ⟨(Nat.le_of_ble_eq_true rfl), (Nat.le_of_ble_eq_true rfl), (Nat.le_of_ble_eq_true rfl), (Nat.le_of_ble_eq_true rfl)⟩ rfl (Nat.le_of_ble_eq_true rfl)) (fun v9 hp1 al9 hP => ?_)
    obtain ⟨rfl, zt1, rfl, rfl⟩ := hP
    refine A_st (st' := [.int t1]) rfl ?_
    refine A_if_ne (tgt := 40) X dX5_takeNumber_15 h (by decide) (fun hc h => ?_) (fun hc h => ?_)
    · refine A_aload_n X dX5_takeNumber_40 0 rfl ?_
      refine A_get X dX5_takeNumber_41 kcl_X5 1 (by decide) kw_242 g2 rfl ?_
      refine A_get X dX5_takeNumber_44 kcl_X9 4 (by decide) kw_229 g16 rfl ?_
      refine A_istore_n (L' := [(3, .int tv), (0, .ref (x + 128)), (1, .int a0), (2, .int a1)]) X dX5_takeNumber_47 rfl (by decide) rfl ?_
      refine A_aload_n X dX5_takeNumber_48 1 rfl ?_
      refine A_get X dX5_takeNumber_49 kcl_X5 1 (by decide) kw_242 g2 rfl ?_
      obtain ⟨t2, hct2, h⟩ := bind_o h
      refine A_c (k' := 0) (n' := 0) rfl rfl (A_runV (rest := []) X dX5_takeNumber_52 (c_X9_advance g0 g1 g16  hct2) kY_X9_advance kw_375 g16 rfl rfl ⟨(Nat.le_of_ble_eq_true rfl), (Nat.le_of_ble_eq_true rfl), (Nat.le_of_ble_eq_true rfl), (Nat.le_of_ble_eq_true rfl)⟩ rfl (Nat.le_of_ble_eq_true rfl)) (fun v9 hp1 al9 hP => ?_)
      obtain ⟨rfl, k1_0, n1, rfl⟩ := hP
      replace k1_0 : hp1 (x + 142) = some (.inr (11, [.ref (x + 126), .int t2.1, .int t2.2.1, .int t2.2.2.1, .int t2.2.2.2])) := k1_0
      refine A_st (st' := []) rfl ?_
      refine A_iload_n X dX5_takeNumber_55 0 rfl ?_
      cases h
      exact A_iret X dX5_takeNumber_56 hr ⟨rfl, ((n1 _ (by omega)).trans g2), k1_0, (fun q z0 z1 => (n1 q z1)), rfl⟩ (Nat.le_of_ble_eq_true rfl) (Nat.le_of_ble_eq_true rfl)
    · refine A_aload_n X dX5_takeNumber_18 0 rfl ?_
      refine A_aload_n X dX5_takeNumber_19 0 rfl ?_
      refine A_get X dX5_takeNumber_20 kcl_X5 1 (by decide) kw_242 g2 rfl ?_
      refine A_get X dX5_takeNumber_23 kcl_X9 1 (by decide) kw_223 g16 rfl ?_
      refine A_iconst (v := 2) X dX5_takeNumber_26 (by decide) ?_
      refine A_icmp_ne (tgt := 34) X dX5_takeNumber_27 h (by decide) (fun hc h => ?_) (fun hc h => ?_)
      · refine A_iconst (v := 1) X dX5_takeNumber_34 (by decide) ?_
        refine A_sub (L' := []) [] rfl ?_
        exact c_X5_takeNumber_L35 X hr  g0 g1 g2 g16 (fun q z0 z1 => rfl) h
      · refine A_iconst (v := 2) X dX5_takeNumber_30 (by decide) ?_
        refine A_goto (tgt := 35) X dX5_takeNumber_31 (by decide) ?_
        refine A_sub (L' := []) [] rfl ?_
        exact c_X5_takeNumber_L35 X hr  g0 g1 g2 g16 (fun q z0 z1 => rfl) h
  · refine A_iconst (v := (-1)) X dX5_takeNumber_7 (by decide) ?_
    cases h
    exact A_iret X dX5_takeNumber_8 hr ⟨rfl, g2, g16, (fun q z0 z1 => rfl), rfl⟩ (Nat.le_of_ble_eq_true rfl) (Nat.le_of_ble_eq_true rfl)
abbrev P_X9_isSemicolon (E : KE) (x : Nat)  (hp : Hp) (al : Option Nat) (out : Int32) : Option Value → Hp → Option Nat → Prop := fun v0 hp' al' => v0 = some (.int out) ∧ (out = 0 ∨ out = 1) ∧ hp = hp' ∧ al = al'
set_option maxHeartbeats 4000000 in
set_option maxRecDepth 100000 in
theorem c_X9_isSemicolon {E : KE} {l : Launch} {hp : Hp} {al : Option Nat} {x : Nat} {tl : Int32} {tb : Nat → Int32} {kd : Int32} {ts : Int32} {te : Int32} {tv : Int32}  {out : Int32} (g0 : hp (x + 126) = some (.inr (10, [.ref (x + 127), .int tl]))) (g1 : hp (x + 127) = some (.inl (kC E 0, 900, .inl tb))) (g2 : hp (x + 142) = some (.inr (11, [.ref (x + 126), .int kd, .int ts, .int te, .int tv])))  (h : f_X9_isSemicolon tl tb kd ts = some out) : AM E l yX9_isSemicolon cX9_isSemicolon 1 (Option.some Jvm.ClassFile.FieldType.boolean) ⟨1, 0, 0, 21⟩ [.ref (x + 142)] hp al (P_X9_isSemicolon E x hp al out) := by
  refine A_of (by decide +kernel) (Nat.le_of_ble_eq_true rfl) ?_
  intro p e s m args below meth c X hr hnm
  have X : CX E p l s m args meth c "DiceAudit$Tokens" cX9_isSemicolon 1 := X
  refine A_L (L' := [(0, .ref (x + 142))]) rfl ?_
  unfold f_X9_isSemicolon at h
  refine A_aload_n X dX9_isSemicolon_0 0 rfl ?_
  refine A_get X dX9_isSemicolon_1 kcl_X9 1 (by decide) kw_222 g2 rfl ?_
  refine A_iconst (v := 3) X dX9_isSemicolon_4 (by decide) ?_
  refine A_icmp_ne (tgt := 28) X dX9_isSemicolon_5 h (by decide) (fun hc h => ?_) (fun hc h => ?_)
  · refine A_iconst (v := 0) X dX9_isSemicolon_28 (by decide) ?_
    cases h
    exact A_zret X dX9_isSemicolon_29 hr (Or.inl rfl) ⟨rfl, (Or.inl rfl), rfl, rfl⟩ (Nat.le_of_ble_eq_true rfl) (Nat.le_of_ble_eq_true rfl)
  · refine A_aload_n X dX9_isSemicolon_8 0 rfl ?_
    refine A_get X dX9_isSemicolon_9 kcl_X9 0 (by decide) kw_221 g2 rfl ?_
    refine A_aload_n X dX9_isSemicolon_12 0 rfl ?_
    refine A_get X dX9_isSemicolon_13 kcl_X9 2 (by decide) kw_224 g2 rfl ?_
    obtain ⟨t1, hct1, h⟩ := bind_o h
    refine A_cp (k' := 0) (n' := 0) (A_runV (rest := []) X dX9_isSemicolon_16 (c_X8_byteIn g0 g1  hct1) kY_X8_byteIn kw_331 g0 rfl rfl ⟨(Nat.le_of_ble_eq_true rfl), (Nat.le_of_ble_eq_true rfl), (Nat.le_of_ble_eq_true rfl), (Nat.le_of_ble_eq_true rfl)⟩ rfl (Nat.le_of_ble_eq_true rfl)) rfl rfl ?_
    refine A_bipush (v := 59) X dX9_isSemicolon_19 (by decide) ?_
    refine A_icmp_ne (tgt := 28) X dX9_isSemicolon_21 h (by decide) (fun hc h => ?_) (fun hc h => ?_)
    · refine A_iconst (v := 0) X dX9_isSemicolon_28 (by decide) ?_
      cases h
      exact A_zret X dX9_isSemicolon_29 hr (Or.inl rfl) ⟨rfl, (Or.inl rfl), rfl, rfl⟩ (Nat.le_of_ble_eq_true rfl) (Nat.le_of_ble_eq_true rfl)
    · refine A_iconst (v := 1) X dX9_isSemicolon_24 (by decide) ?_
      refine A_goto (tgt := 29) X dX9_isSemicolon_25 (by decide) ?_
      cases h
      exact A_zret X dX9_isSemicolon_29 hr (Or.inr rfl) ⟨rfl, (Or.inr rfl), rfl, rfl⟩ (Nat.le_of_ble_eq_true rfl) (Nat.le_of_ble_eq_true rfl)
abbrev P_X5_takeSemicolon (E : KE) (x : Nat)  (hp : Hp) (al : Option Nat) (out : Int32 × Int32 × Int32 × Int32 × Int32 × Int32) : Option Value → Hp → Option Nat → Prop := fun v0 hp' al' => v0 = none ∧ hp' (x + 128) = some (.inr (7, [.ref (x + 126), .ref (x + 142), .ref (x + 129), .int out.1, .int out.2.1])) ∧ hp' (x + 142) = some (.inr (11, [.ref (x + 126), .int out.2.2.1, .int out.2.2.2.1, .int out.2.2.2.2.1, .int out.2.2.2.2.2])) ∧ (∀ q, q ≠ (x + 128) → q ≠ (x + 142) → hp' q = hp q) ∧ al = al'
set_option maxHeartbeats 4000000 in
set_option maxRecDepth 100000 in
theorem c_X5_takeSemicolon {E : KE} {l : Launch} {hp : Hp} {al : Option Nat} {N : Nat} {x : Nat} {tl : Int32} {tb : Nat → Int32} {ec : Int32} {eo : Int32} {kd : Int32} {ts : Int32} {te : Int32} {tv : Int32} {a0 : Int32} {out : Int32 × Int32 × Int32 × Int32 × Int32 × Int32} (g0 : hp (x + 126) = some (.inr (10, [.ref (x + 127), .int tl]))) (g1 : hp (x + 127) = some (.inl (kC E 0, 900, .inl tb))) (g2 : hp (x + 128) = some (.inr (7, [.ref (x + 126), .ref (x + 142), .ref (x + 129), .int ec, .int eo]))) (g16 : hp (x + 142) = some (.inr (11, [.ref (x + 126), .int kd, .int ts, .int te, .int tv])))  (h : f_X5_takeSemicolon N tl tb ec eo kd ts te tv a0 = some out) : AM E l yX5_takeSemicolon cX5_takeSemicolon 2 (Option.none : Option Jvm.ClassFile.FieldType) ⟨3, 0, 0, 62⟩ [.ref (x + 128), .int a0] hp al (P_X5_takeSemicolon E x hp al out) := by
  refine A_of (by decide +kernel) (Nat.le_of_ble_eq_true rfl) ?_
  intro p e s m args below meth c X hr hnm
  have X : CX E p l s m args meth c "DiceAudit$Loader" cX5_takeSemicolon 2 := X
  refine A_L (L' := [(0, .ref (x + 128)), (1, .int a0)]) rfl ?_
  unfold f_X5_takeSemicolon at h
  refine A_aload_n X dX5_takeSemicolon_0 0 rfl ?_
  refine A_get X dX5_takeSemicolon_1 kcl_X5 3 (by decide) kw_245 g2 rfl ?_
  refine A_if_eq (tgt := 8) X dX5_takeSemicolon_4 h (by decide) (fun hc h => ?_) (fun hc h => ?_)
  · refine A_aload_n X dX5_takeSemicolon_8 0 rfl ?_
    refine A_get X dX5_takeSemicolon_9 kcl_X5 1 (by decide) kw_242 g2 rfl ?_
    obtain ⟨t1, hct1, h⟩ := bind_o h
    refine A_c (k' := 0) (n' := 0) rfl rfl (A_runV (rest := []) X dX5_takeSemicolon_12 (c_X9_isSemicolon g0 g1 g16  hct1) kY_X9_isSemicolon kw_389 g16 rfl rfl ⟨(Nat.le_of_ble_eq_true rfl), (Nat.le_of_ble_eq_true rfl), (Nat.le_of_ble_eq_true rfl), (Nat.le_of_ble_eq_true rfl)⟩ rfl (Nat.le_of_ble_eq_true rfl)) (fun v9 hp1 al9 hP => ?_)
    obtain ⟨rfl, zt1, rfl, rfl⟩ := hP
    refine A_st (st' := [.int t1]) rfl ?_
    refine A_if_ne (tgt := 26) X dX5_takeSemicolon_15 h (by decide) (fun hc h => ?_) (fun hc h => ?_)
    · refine A_iload_n X dX5_takeSemicolon_26 1 rfl ?_
      refine A_if_eq (tgt := 38) X dX5_takeSemicolon_27 h (by decide) (fun hc h => ?_) (fun hc h => ?_)
      · refine A_aload_n X dX5_takeSemicolon_38 0 rfl ?_
        refine A_get X dX5_takeSemicolon_39 kcl_X5 1 (by decide) kw_242 g2 rfl ?_
        obtain ⟨t2, hct2, h⟩ := bind_o h
        refine A_c (k' := 0) (n' := 0) rfl rfl (A_runV (rest := []) X dX5_takeSemicolon_42 (c_X9_advance g0 g1 g16  hct2) kY_X9_advance kw_375 g16 rfl rfl ⟨(Nat.le_of_ble_eq_true rfl), (Nat.le_of_ble_eq_true rfl), (Nat.le_of_ble_eq_true rfl), (Nat.le_of_ble_eq_true rfl)⟩ rfl (Nat.le_of_ble_eq_true rfl)) (fun v9 hp1 al9 hP => ?_)
        obtain ⟨rfl, k1_0, n1, rfl⟩ := hP
        replace k1_0 : hp1 (x + 142) = some (.inr (11, [.ref (x + 126), .int t2.1, .int t2.2.1, .int t2.2.2.1, .int t2.2.2.2])) := k1_0
        refine A_st (st' := []) rfl ?_
        cases h
        exact A_vret X dX5_takeSemicolon_45 hr ⟨rfl, ((n1 _ (by omega)).trans g2), k1_0, (fun q z0 z1 => (n1 q z1)), rfl⟩ (Nat.le_of_ble_eq_true rfl) (Nat.le_of_ble_eq_true rfl)
      · refine A_aload_n X dX5_takeSemicolon_30 0 rfl ?_
        refine A_iload_n X dX5_takeSemicolon_31 1 rfl ?_
        obtain ⟨t3, hct3, h⟩ := bind_o h
        refine A_c (k' := 0) (n' := 0) rfl rfl (A_runV (rest := []) X dX5_takeSemicolon_32 (c_X5_fail g2 g16  hct3) kY_X5_fail kw_371 g2 rfl rfl ⟨(Nat.le_of_ble_eq_true rfl), (Nat.le_of_ble_eq_true rfl), (Nat.le_of_ble_eq_true rfl), (Nat.le_of_ble_eq_true rfl)⟩ rfl (Nat.le_of_ble_eq_true rfl)) (fun v9 hp1 al9 hP => ?_)
        obtain ⟨rfl, k1_0, n1, rfl⟩ := hP
        replace k1_0 : hp1 (x + 128) = some (.inr (7, [.ref (x + 126), .ref (x + 142), .ref (x + 129), .int t3.1, .int t3.2])) := k1_0
        refine A_st (st' := []) rfl ?_
        refine A_goto (tgt := 45) X dX5_takeSemicolon_35 (by decide) ?_
        cases h
        exact A_vret X dX5_takeSemicolon_45 hr ⟨rfl, k1_0, ((n1 _ (by omega)).trans g16), (fun q z0 z1 => (n1 q z0)), rfl⟩ (Nat.le_of_ble_eq_true rfl) (Nat.le_of_ble_eq_true rfl)
    · refine A_aload_n X dX5_takeSemicolon_18 0 rfl ?_
      refine A_iconst (v := 1) X dX5_takeSemicolon_19 (by decide) ?_
      obtain ⟨t4, hct4, h⟩ := bind_o h
      refine A_c (k' := 0) (n' := 0) rfl rfl (A_runV (rest := []) X dX5_takeSemicolon_20 (c_X5_fail g2 g16  hct4) kY_X5_fail kw_371 g2 rfl rfl ⟨(Nat.le_of_ble_eq_true rfl), (Nat.le_of_ble_eq_true rfl), (Nat.le_of_ble_eq_true rfl), (Nat.le_of_ble_eq_true rfl)⟩ rfl (Nat.le_of_ble_eq_true rfl)) (fun v9 hp1 al9 hP => ?_)
      obtain ⟨rfl, k1_0, n1, rfl⟩ := hP
      replace k1_0 : hp1 (x + 128) = some (.inr (7, [.ref (x + 126), .ref (x + 142), .ref (x + 129), .int t4.1, .int t4.2])) := k1_0
      refine A_st (st' := []) rfl ?_
      refine A_goto (tgt := 45) X dX5_takeSemicolon_23 (by decide) ?_
      cases h
      exact A_vret X dX5_takeSemicolon_45 hr ⟨rfl, k1_0, ((n1 _ (by omega)).trans g16), (fun q z0 z1 => (n1 q z0)), rfl⟩ (Nat.le_of_ble_eq_true rfl) (Nat.le_of_ble_eq_true rfl)
  · cases h
    exact A_vret X dX5_takeSemicolon_7 hr ⟨rfl, g2, g16, (fun q z0 z1 => rfl), rfl⟩ (Nat.le_of_ble_eq_true rfl) (Nat.le_of_ble_eq_true rfl)
abbrev P_X5_readHall (E : KE) (x : Nat)  (hp : Hp) (al : Option Nat) (out : Int32 × Int32 × Int32 × Int32 × Int32 × Int32 × Int32 × Int32 × (Nat → Int32) × Int32 × Int32 × Int32 × Int32 × Int32) : Option Value → Hp → Option Nat → Prop := fun v0 hp' al' => v0 = none ∧ hp' (x + 128) = some (.inr (7, [.ref (x + 126), .ref (x + 142), .ref (x + 129), .int out.1, .int out.2.1])) ∧ hp' (x + 129) = some (.inr (4, [.ref (x + 130), .ref (x + 133), .ref (x + 136), .ref (x + 139), .int out.2.2.1, .int out.2.2.2.1, .int out.2.2.2.2.1])) ∧ hp' (x + 130) = some (.inr (2, [.ref (x + 131), .ref (x + 132), .int out.2.2.2.2.2.1])) ∧ hp' (x + 133) = some (.inr (9, [.ref (x + 134), .ref (x + 135), .int out.2.2.2.2.2.2.1])) ∧ hp' (x + 136) = some (.inr (6, [.ref (x + 137), .ref (x + 138), .int out.2.2.2.2.2.2.2.1])) ∧ hp' (x + 138) = some (.inl (kC E 0, 432, .inl out.2.2.2.2.2.2.2.2.1)) ∧ hp' (x + 139) = some (.inr (8, [.ref (x + 140), .ref (x + 141), .int out.2.2.2.2.2.2.2.2.2.1])) ∧ hp' (x + 142) = some (.inr (11, [.ref (x + 126), .int out.2.2.2.2.2.2.2.2.2.2.1, .int out.2.2.2.2.2.2.2.2.2.2.2.1, .int out.2.2.2.2.2.2.2.2.2.2.2.2.1, .int out.2.2.2.2.2.2.2.2.2.2.2.2.2])) ∧ (∀ q, q ≠ (x + 128) → q ≠ (x + 129) → q ≠ (x + 130) → q ≠ (x + 133) → q ≠ (x + 136) → q ≠ (x + 138) → q ≠ (x + 139) → q ≠ (x + 142) → hp' q = hp q) ∧ al = al'
set_option maxHeartbeats 4000000 in
set_option maxRecDepth 100000 in
theorem c_X5_readHall_L18 {E : KE} {p : Program} {l : Launch} {e : Env} {s : State} {m : MethodId} {args : Array Value} {below : List Frame} {meth : Method} {c : Code} {al : Option Nat} {N : Nat} {x : Nat} {tl : Int32} {tb : Nat → Int32} {hp0 : Hp} {out : Int32 × Int32 × Int32 × Int32 × Int32 × Int32 × Int32 × Int32 × (Nat → Int32) × Int32 × Int32 × Int32 × Int32 × Int32}  (X : CX E p l s m args meth c "DiceAudit$Loader" cX5_readHall 4) (hr : meth.sig.returnType = (Option.none : Option Jvm.ClassFile.FieldType))   : ∀ {s0 : Int32} {ec : Int32} {eo : Int32} {sd : Int32} {mn : Int32} {th : Int32} {dc : Int32} {pc : Int32} {tc : Int32} {fr : Nat → Int32} {oc : Int32} {kd : Int32} {ts : Int32} {te : Int32} {tv : Int32} {hp : Hp}, hp (x + 126) = some (.inr (10, [.ref (x + 127), .int tl])) → hp (x + 127) = some (.inl (kC E 0, 900, .inl tb)) → hp (x + 128) = some (.inr (7, [.ref (x + 126), .ref (x + 142), .ref (x + 129), .int ec, .int eo])) → hp (x + 129) = some (.inr (4, [.ref (x + 130), .ref (x + 133), .ref (x + 136), .ref (x + 139), .int sd, .int mn, .int th])) → hp (x + 130) = some (.inr (2, [.ref (x + 131), .ref (x + 132), .int dc])) → hp (x + 133) = some (.inr (9, [.ref (x + 134), .ref (x + 135), .int pc])) → hp (x + 136) = some (.inr (6, [.ref (x + 137), .ref (x + 138), .int tc])) → hp (x + 138) = some (.inl (kC E 0, 432, .inl fr)) → hp (x + 139) = some (.inr (8, [.ref (x + 140), .ref (x + 141), .int oc])) → hp (x + 142) = some (.inr (11, [.ref (x + 126), .int kd, .int ts, .int te, .int tv])) → (∀ q, q ≠ (x + 128) → q ≠ (x + 129) → q ≠ (x + 130) → q ≠ (x + 133) → q ≠ (x + 136) → q ≠ (x + 138) → q ≠ (x + 139) → q ≠ (x + 142) → hp q = hp0 q) → f_X5_readHall_L18 N tl tb s0 ec eo sd mn th dc pc tc fr oc kd ts te tv = some out → AW E p l e ⟨5, 0, 0, 107⟩ s m args below meth c 4 (MQ below (kQc E (P_X5_readHall E x hp0 al out)) args s 0 0 (kA E)) hp al 0 0 18 [(0, .ref (x + 128))] [.int s0, .ref (x + 128)] := by
  intro s0 ec eo sd mn th dc pc tc fr oc kd ts te tv hp g0 g1 g2 g3 g4 g7 g10 g12 g13 g16 hfr h
  unfold f_X5_readHall_L18 at h
  obtain ⟨t2, hct2, h⟩ := bind_o h
  refine A_c (k' := 0) (n' := 0) rfl rfl (A_runV (rest := []) X dX5_readHall_18 (c_X5_takeKeyword g0 g1 g2 g16  hct2) kY_X5_takeKeyword kw_367 g2 rfl rfl ⟨(Nat.le_of_ble_eq_true rfl), (Nat.le_of_ble_eq_true rfl), (Nat.le_of_ble_eq_true rfl), (Nat.le_of_ble_eq_true rfl)⟩ rfl (Nat.le_of_ble_eq_true rfl)) (fun v9 hp1 al9 hP => ?_)
  obtain ⟨rfl, k1_0, k1_1, n1, rfl⟩ := hP
  replace k1_0 : hp1 (x + 128) = some (.inr (7, [.ref (x + 126), .ref (x + 142), .ref (x + 129), .int t2.1, .int t2.2.1])) := k1_0
  replace k1_1 : hp1 (x + 142) = some (.inr (11, [.ref (x + 126), .int t2.2.2.1, .int t2.2.2.2.1, .int t2.2.2.2.2.1, .int t2.2.2.2.2.2])) := k1_1
  refine A_st (st' := []) rfl ?_
  refine A_aload_n X dX5_readHall_21 0 rfl ?_
  refine A_iconst (v := 0) X dX5_readHall_22 (by decide) ?_
  refine A_ldci X dX5_readHall_23 kw_376 ?_
  obtain ⟨t3, hct3, h⟩ := bind_o h
  refine A_c (k' := 0) (n' := 0) rfl rfl (A_runV (rest := []) X dX5_readHall_25 (c_X5_takeNumber ((n1 _ (by omega) (by omega)).trans g0) ((n1 _ (by omega) (by omega)).trans g1) k1_0 k1_1  hct3) kY_X5_takeNumber kw_377 k1_0 rfl rfl ⟨(Nat.le_of_ble_eq_true rfl), (Nat.le_of_ble_eq_true rfl), (Nat.le_of_ble_eq_true rfl), (Nat.le_of_ble_eq_true rfl)⟩ rfl (Nat.le_of_ble_eq_true rfl)) (fun v9 hp2 al9 hP => ?_)
  obtain ⟨rfl, k2_0, k2_1, n2, rfl⟩ := hP
  replace k2_0 : hp2 (x + 128) = some (.inr (7, [.ref (x + 126), .ref (x + 142), .ref (x + 129), .int t3.2.1, .int t3.2.2.1])) := k2_0
  replace k2_1 : hp2 (x + 142) = some (.inr (11, [.ref (x + 126), .int t3.2.2.2.1, .int t3.2.2.2.2.1, .int t3.2.2.2.2.2.1, .int t3.2.2.2.2.2.2])) := k2_1
  refine A_st (st' := [.int t3.1]) rfl ?_
  refine A_istore_n (L' := [(1, .int t3.1), (0, .ref (x + 128))]) X dX5_readHall_28 rfl (by decide) rfl ?_
  refine A_aload_n X dX5_readHall_29 1 rfl ?_
  refine A_iconst (v := 1) X dX5_readHall_30 (by decide) ?_
  refine A_bipush (v := 99) X dX5_readHall_31 (by decide) ?_
  obtain ⟨t4, hct4, h⟩ := bind_o h
  refine A_c (k' := 0) (n' := 0) rfl rfl (A_runV (rest := []) X dX5_readHall_33 (c_X5_takeNumber ((n2 _ (by omega) (by omega)).trans ((n1 _ (by omega) (by omega)).trans g0)) ((n2 _ (by omega) (by omega)).trans ((n1 _ (by omega) (by omega)).trans g1)) k2_0 k2_1  hct4) kY_X5_takeNumber kw_377 k2_0 rfl rfl ⟨(Nat.le_of_ble_eq_true rfl), (Nat.le_of_ble_eq_true rfl), (Nat.le_of_ble_eq_true rfl), (Nat.le_of_ble_eq_true rfl)⟩ rfl (Nat.le_of_ble_eq_true rfl)) (fun v9 hp3 al9 hP => ?_)
  obtain ⟨rfl, k3_0, k3_1, n3, rfl⟩ := hP
  replace k3_0 : hp3 (x + 128) = some (.inr (7, [.ref (x + 126), .ref (x + 142), .ref (x + 129), .int t4.2.1, .int t4.2.2.1])) := k3_0
  replace k3_1 : hp3 (x + 142) = some (.inr (11, [.ref (x + 126), .int t4.2.2.2.1, .int t4.2.2.2.2.1, .int t4.2.2.2.2.2.1, .int t4.2.2.2.2.2.2])) := k3_1
  refine A_st (st' := [.int t4.1]) rfl ?_
  refine A_istore_n (L' := [(2, .int t4.1), (1, .int t3.1), (0, .ref (x + 128))]) X dX5_readHall_36 rfl (by decide) rfl ?_
  refine A_aload_n X dX5_readHall_37 2 rfl ?_
  refine A_iconst (v := 0) X dX5_readHall_38 (by decide) ?_
  refine A_sipush (v := 999) X dX5_readHall_39 (by decide) ?_
  obtain ⟨t5, hct5, h⟩ := bind_o h
  refine A_c (k' := 0) (n' := 0) rfl rfl (A_runV (rest := []) X dX5_readHall_42 (c_X5_takeNumber ((n3 _ (by omega) (by omega)).trans ((n2 _ (by omega) (by omega)).trans ((n1 _ (by omega) (by omega)).trans g0))) ((n3 _ (by omega) (by omega)).trans ((n2 _ (by omega) (by omega)).trans ((n1 _ (by omega) (by omega)).trans g1))) k3_0 k3_1  hct5) kY_X5_takeNumber kw_377 k3_0 rfl rfl ⟨(Nat.le_of_ble_eq_true rfl), (Nat.le_of_ble_eq_true rfl), (Nat.le_of_ble_eq_true rfl), (Nat.le_of_ble_eq_true rfl)⟩ rfl (Nat.le_of_ble_eq_true rfl)) (fun v9 hp4 al9 hP => ?_)
  obtain ⟨rfl, k4_0, k4_1, n4, rfl⟩ := hP
  replace k4_0 : hp4 (x + 128) = some (.inr (7, [.ref (x + 126), .ref (x + 142), .ref (x + 129), .int t5.2.1, .int t5.2.2.1])) := k4_0
  replace k4_1 : hp4 (x + 142) = some (.inr (11, [.ref (x + 126), .int t5.2.2.2.1, .int t5.2.2.2.2.1, .int t5.2.2.2.2.2.1, .int t5.2.2.2.2.2.2])) := k4_1
  refine A_st (st' := [.int t5.1]) rfl ?_
  refine A_istore_n (L' := [(3, .int t5.1), (2, .int t4.1), (1, .int t3.1), (0, .ref (x + 128))]) X dX5_readHall_45 rfl (by decide) rfl ?_
  refine A_aload_n X dX5_readHall_46 3 rfl ?_
  refine A_iconst (v := 0) X dX5_readHall_47 (by decide) ?_
  obtain ⟨t6, hct6, h⟩ := bind_o h
  refine A_c (k' := 0) (n' := 0) rfl rfl (A_runV (rest := []) X dX5_readHall_48 (c_X5_takeSemicolon ((n4 _ (by omega) (by omega)).trans ((n3 _ (by omega) (by omega)).trans ((n2 _ (by omega) (by omega)).trans ((n1 _ (by omega) (by omega)).trans g0)))) ((n4 _ (by omega) (by omega)).trans ((n3 _ (by omega) (by omega)).trans ((n2 _ (by omega) (by omega)).trans ((n1 _ (by omega) (by omega)).trans g1)))) k4_0 k4_1  hct6) kY_X5_takeSemicolon kw_385 k4_0 rfl rfl ⟨(Nat.le_of_ble_eq_true rfl), (Nat.le_of_ble_eq_true rfl), (Nat.le_of_ble_eq_true rfl), (Nat.le_of_ble_eq_true rfl)⟩ rfl (Nat.le_of_ble_eq_true rfl)) (fun v9 hp5 al9 hP => ?_)
  obtain ⟨rfl, k5_0, k5_1, n5, rfl⟩ := hP
  replace k5_0 : hp5 (x + 128) = some (.inr (7, [.ref (x + 126), .ref (x + 142), .ref (x + 129), .int t6.1, .int t6.2.1])) := k5_0
  replace k5_1 : hp5 (x + 142) = some (.inr (11, [.ref (x + 126), .int t6.2.2.1, .int t6.2.2.2.1, .int t6.2.2.2.2.1, .int t6.2.2.2.2.2])) := k5_1
  refine A_st (st' := []) rfl ?_
  refine A_aload_n X dX5_readHall_51 3 rfl ?_
  refine A_get X dX5_readHall_52 kcl_X5 3 (by decide) kw_245 k5_0 rfl ?_
  refine A_if_ne (tgt := 68) X dX5_readHall_55 h (by decide) (fun hc h => ?_) (fun hc h => ?_)
  · cases h
    exact A_vret X dX5_readHall_68 hr ⟨rfl, k5_0, ((n5 _ (by omega) (by omega)).trans ((n4 _ (by omega) (by omega)).trans ((n3 _ (by omega) (by omega)).trans ((n2 _ (by omega) (by omega)).trans ((n1 _ (by omega) (by omega)).trans g3))))), ((n5 _ (by omega) (by omega)).trans ((n4 _ (by omega) (by omega)).trans ((n3 _ (by omega) (by omega)).trans ((n2 _ (by omega) (by omega)).trans ((n1 _ (by omega) (by omega)).trans g4))))), ((n5 _ (by omega) (by omega)).trans ((n4 _ (by omega) (by omega)).trans ((n3 _ (by omega) (by omega)).trans ((n2 _ (by omega) (by omega)).trans ((n1 _ (by omega) (by omega)).trans g7))))), ((n5 _ (by omega) (by omega)).trans ((n4 _ (by omega) (by omega)).trans ((n3 _ (by omega) (by omega)).trans ((n2 _ (by omega) (by omega)).trans ((n1 _ (by omega) (by omega)).trans g10))))), ((n5 _ (by omega) (by omega)).trans ((n4 _ (by omega) (by omega)).trans ((n3 _ (by omega) (by omega)).trans ((n2 _ (by omega) (by omega)).trans ((n1 _ (by omega) (by omega)).trans g12))))), ((n5 _ (by omega) (by omega)).trans ((n4 _ (by omega) (by omega)).trans ((n3 _ (by omega) (by omega)).trans ((n2 _ (by omega) (by omega)).trans ((n1 _ (by omega) (by omega)).trans g13))))), k5_1, (fun q z0 z1 z2 z3 z4 z5 z6 z7 => ((n5 q z0 z7).trans ((n4 q z0 z7).trans ((n3 q z0 z7).trans ((n2 q z0 z7).trans ((n1 q z0 z7).trans (hfr q z0 z1 z2 z3 z4 z5 z6 z7))))))), rfl⟩ (Nat.le_of_ble_eq_true rfl) (Nat.le_of_ble_eq_true rfl)
  · refine A_aload_n X dX5_readHall_58 3 rfl ?_
    refine A_get X dX5_readHall_59 kcl_X5 2 (by decide) kw_243 k5_0 rfl ?_
    refine A_iload_n X dX5_readHall_62 2 rfl ?_
    refine A_iload_n X dX5_readHall_63 1 rfl ?_
    refine A_iload_n X dX5_readHall_64 0 rfl ?_
    obtain ⟨t7, hct7, h⟩ := bind_o h
    refine A_c (k' := 0) (n' := 0) rfl rfl (A_runV (rest := []) X dX5_readHall_65 (c_X2_begin ((n5 _ (by omega) (by omega)).trans ((n4 _ (by omega) (by omega)).trans ((n3 _ (by omega) (by omega)).trans ((n2 _ (by omega) (by omega)).trans ((n1 _ (by omega) (by omega)).trans g3))))) ((n5 _ (by omega) (by omega)).trans ((n4 _ (by omega) (by omega)).trans ((n3 _ (by omega) (by omega)).trans ((n2 _ (by omega) (by omega)).trans ((n1 _ (by omega) (by omega)).trans g4))))) ((n5 _ (by omega) (by omega)).trans ((n4 _ (by omega) (by omega)).trans ((n3 _ (by omega) (by omega)).trans ((n2 _ (by omega) (by omega)).trans ((n1 _ (by omega) (by omega)).trans g7))))) ((n5 _ (by omega) (by omega)).trans ((n4 _ (by omega) (by omega)).trans ((n3 _ (by omega) (by omega)).trans ((n2 _ (by omega) (by omega)).trans ((n1 _ (by omega) (by omega)).trans g10))))) ((n5 _ (by omega) (by omega)).trans ((n4 _ (by omega) (by omega)).trans ((n3 _ (by omega) (by omega)).trans ((n2 _ (by omega) (by omega)).trans ((n1 _ (by omega) (by omega)).trans g12))))) ((n5 _ (by omega) (by omega)).trans ((n4 _ (by omega) (by omega)).trans ((n3 _ (by omega) (by omega)).trans ((n2 _ (by omega) (by omega)).trans ((n1 _ (by omega) (by omega)).trans g13)))))  hct7) kY_X2_begin kw_393 ((n5 _ (by omega) (by omega)).trans ((n4 _ (by omega) (by omega)).trans ((n3 _ (by omega) (by omega)).trans ((n2 _ (by omega) (by omega)).trans ((n1 _ (by omega) (by omega)).trans g3))))) rfl rfl ⟨(Nat.le_of_ble_eq_true rfl), (Nat.le_of_ble_eq_true rfl), (Nat.le_of_ble_eq_true rfl), (Nat.le_of_ble_eq_true rfl)⟩ rfl (Nat.le_of_ble_eq_true rfl)) (fun v9 hp6 al9 hP => ?_)
    obtain ⟨rfl, k6_0, k6_1, k6_2, k6_3, k6_4, k6_5, n6, rfl⟩ := hP
    replace k6_0 : hp6 (x + 129) = some (.inr (4, [.ref (x + 130), .ref (x + 133), .ref (x + 136), .ref (x + 139), .int t7.1, .int t7.2.1, .int t7.2.2.1])) := k6_0
    replace k6_1 : hp6 (x + 130) = some (.inr (2, [.ref (x + 131), .ref (x + 132), .int t7.2.2.2.1])) := k6_1
    replace k6_2 : hp6 (x + 133) = some (.inr (9, [.ref (x + 134), .ref (x + 135), .int t7.2.2.2.2.1])) := k6_2
    replace k6_3 : hp6 (x + 136) = some (.inr (6, [.ref (x + 137), .ref (x + 138), .int t7.2.2.2.2.2.1])) := k6_3
    replace k6_4 : hp6 (x + 138) = some (.inl (kC E 0, 432, .inl t7.2.2.2.2.2.2.1)) := k6_4
    replace k6_5 : hp6 (x + 139) = some (.inr (8, [.ref (x + 140), .ref (x + 141), .int t7.2.2.2.2.2.2.2])) := k6_5
    refine A_st (st' := []) rfl ?_
    cases h
    exact A_vret X dX5_readHall_68 hr ⟨rfl, ((n6 _ (by omega) (by omega) (by omega) (by omega) (by omega) (by omega)).trans k5_0), k6_0, k6_1, k6_2, k6_3, k6_4, k6_5, ((n6 _ (by omega) (by omega) (by omega) (by omega) (by omega) (by omega)).trans k5_1), (fun q z0 z1 z2 z3 z4 z5 z6 z7 => ((n6 q z1 z2 z3 z4 z5 z6).trans ((n5 q z0 z7).trans ((n4 q z0 z7).trans ((n3 q z0 z7).trans ((n2 q z0 z7).trans ((n1 q z0 z7).trans (hfr q z0 z1 z2 z3 z4 z5 z6 z7)))))))), rfl⟩ (Nat.le_of_ble_eq_true rfl) (Nat.le_of_ble_eq_true rfl)
set_option maxHeartbeats 4000000 in
set_option maxRecDepth 100000 in
theorem c_X5_readHall {E : KE} {l : Launch} {hp : Hp} {al : Option Nat} {N : Nat} {x : Nat} {tl : Int32} {tb : Nat → Int32} {ec : Int32} {eo : Int32} {sd : Int32} {mn : Int32} {th : Int32} {dc : Int32} {pc : Int32} {tc : Int32} {fr : Nat → Int32} {oc : Int32} {kd : Int32} {ts : Int32} {te : Int32} {tv : Int32}  {out : Int32 × Int32 × Int32 × Int32 × Int32 × Int32 × Int32 × Int32 × (Nat → Int32) × Int32 × Int32 × Int32 × Int32 × Int32} (g0 : hp (x + 126) = some (.inr (10, [.ref (x + 127), .int tl]))) (g1 : hp (x + 127) = some (.inl (kC E 0, 900, .inl tb))) (g2 : hp (x + 128) = some (.inr (7, [.ref (x + 126), .ref (x + 142), .ref (x + 129), .int ec, .int eo]))) (g3 : hp (x + 129) = some (.inr (4, [.ref (x + 130), .ref (x + 133), .ref (x + 136), .ref (x + 139), .int sd, .int mn, .int th]))) (g4 : hp (x + 130) = some (.inr (2, [.ref (x + 131), .ref (x + 132), .int dc]))) (g7 : hp (x + 133) = some (.inr (9, [.ref (x + 134), .ref (x + 135), .int pc]))) (g10 : hp (x + 136) = some (.inr (6, [.ref (x + 137), .ref (x + 138), .int tc]))) (g12 : hp (x + 138) = some (.inl (kC E 0, 432, .inl fr))) (g13 : hp (x + 139) = some (.inr (8, [.ref (x + 140), .ref (x + 141), .int oc]))) (g16 : hp (x + 142) = some (.inr (11, [.ref (x + 126), .int kd, .int ts, .int te, .int tv])))  (h : f_X5_readHall N tl tb ec eo sd mn th dc pc tc fr oc kd ts te tv = some out) : AM E l yX5_readHall cX5_readHall 4 (Option.none : Option Jvm.ClassFile.FieldType) ⟨5, 0, 0, 107⟩ [.ref (x + 128)] hp al (P_X5_readHall E x hp al out) := by
  refine A_of (by decide +kernel) (Nat.le_of_ble_eq_true rfl) ?_
  intro p e s m args below meth c X hr hnm
  have X : CX E p l s m args meth c "DiceAudit$Loader" cX5_readHall 4 := X
  refine A_L (L' := [(0, .ref (x + 128))]) rfl ?_
  unfold f_X5_readHall at h
  refine A_aload_n X dX5_readHall_0 0 rfl ?_
  refine A_aload_n X dX5_readHall_1 0 rfl ?_
  refine A_get X dX5_readHall_2 kcl_X5 1 (by decide) kw_242 g2 rfl ?_
  refine A_ldcS (j := 1) X dX5_readHall_5 (List.mem_of_getElem? (i := 1) rfl) ?_
  obtain ⟨t1, hct1, h⟩ := bind_o h
  refine A_c (k' := 0) (n' := 0) rfl rfl (A_runV (rest := [.ref (x + 128)]) X dX5_readHall_7 (c_X9_isWord g0 g1 g16 (by decide) hct1) kY_X9_isWord kw_361 g16 rfl rfl ⟨(Nat.le_of_ble_eq_true rfl), (Nat.le_of_ble_eq_true rfl), (Nat.le_of_ble_eq_true rfl), (Nat.le_of_ble_eq_true rfl)⟩ rfl (Nat.le_of_ble_eq_true rfl)) (fun v9 hp1 al9 hP => ?_)
  obtain ⟨rfl, zt1, rfl, rfl⟩ := hP
  refine A_st (st' := [.int t1, .ref (x + 128)]) rfl ?_
  refine A_if_eq (tgt := 17) X dX5_readHall_10 h (by decide) (fun hc h => ?_) (fun hc h => ?_)
  · refine A_iconst (v := 1) X dX5_readHall_17 (by decide) ?_
    refine A_sub (L' := [(0, .ref (x + 128))]) [0] rfl ?_
    exact c_X5_readHall_L18 X hr  g0 g1 g2 g3 g4 g7 g10 g12 g13 g16 (fun q z0 z1 z2 z3 z4 z5 z6 z7 => rfl) h
  · refine A_iconst (v := 0) X dX5_readHall_13 (by decide) ?_
    refine A_goto (tgt := 18) X dX5_readHall_14 (by decide) ?_
    refine A_sub (L' := [(0, .ref (x + 128))]) [0] rfl ?_
    exact c_X5_readHall_L18 X hr  g0 g1 g2 g3 g4 g7 g10 g12 g13 g16 (fun q z0 z1 z2 z3 z4 z5 z6 z7 => rfl) h
abbrev P_X5_hasMore (E : KE) (x : Nat)  (hp : Hp) (al : Option Nat) (out : Int32) : Option Value → Hp → Option Nat → Prop := fun v0 hp' al' => v0 = some (.int out) ∧ (out = 0 ∨ out = 1) ∧ hp = hp' ∧ al = al'
set_option maxHeartbeats 4000000 in
set_option maxRecDepth 100000 in
theorem c_X5_hasMore {E : KE} {l : Launch} {hp : Hp} {al : Option Nat} {x : Nat} {ec : Int32} {eo : Int32} {kd : Int32} {ts : Int32} {te : Int32} {tv : Int32}  {out : Int32} (g2 : hp (x + 128) = some (.inr (7, [.ref (x + 126), .ref (x + 142), .ref (x + 129), .int ec, .int eo]))) (g16 : hp (x + 142) = some (.inr (11, [.ref (x + 126), .int kd, .int ts, .int te, .int tv])))  (h : f_X5_hasMore ec kd = some out) : AM E l yX5_hasMore cX5_hasMore 1 (Option.some Jvm.ClassFile.FieldType.boolean) ⟨0, 0, 0, 0⟩ [.ref (x + 128)] hp al (P_X5_hasMore E x hp al out) := by
  refine A_of (by decide +kernel) (Nat.le_of_ble_eq_true rfl) ?_
  intro p e s m args below meth c X hr hnm
  have X : CX E p l s m args meth c "DiceAudit$Loader" cX5_hasMore 1 := X
  refine A_L (L' := [(0, .ref (x + 128))]) rfl ?_
  unfold f_X5_hasMore at h
  refine A_aload_n X dX5_hasMore_0 0 rfl ?_
  refine A_get X dX5_hasMore_1 kcl_X5 3 (by decide) kw_245 g2 rfl ?_
  refine A_if_ne (tgt := 21) X dX5_hasMore_4 h (by decide) (fun hc h => ?_) (fun hc h => ?_)
  · refine A_iconst (v := 0) X dX5_hasMore_21 (by decide) ?_
    cases h
    exact A_zret X dX5_hasMore_22 hr (Or.inl rfl) ⟨rfl, (Or.inl rfl), rfl, rfl⟩ (Nat.le_of_ble_eq_true rfl) (Nat.le_of_ble_eq_true rfl)
  · refine A_aload_n X dX5_hasMore_7 0 rfl ?_
    refine A_get X dX5_hasMore_8 kcl_X5 1 (by decide) kw_242 g2 rfl ?_
    refine A_get X dX5_hasMore_11 kcl_X9 1 (by decide) kw_223 g16 rfl ?_
    refine A_if_eq (tgt := 21) X dX5_hasMore_14 h (by decide) (fun hc h => ?_) (fun hc h => ?_)
    · refine A_iconst (v := 0) X dX5_hasMore_21 (by decide) ?_
      cases h
      exact A_zret X dX5_hasMore_22 hr (Or.inl rfl) ⟨rfl, (Or.inl rfl), rfl, rfl⟩ (Nat.le_of_ble_eq_true rfl) (Nat.le_of_ble_eq_true rfl)
    · refine A_iconst (v := 1) X dX5_hasMore_17 (by decide) ?_
      refine A_goto (tgt := 22) X dX5_hasMore_18 (by decide) ?_
      cases h
      exact A_zret X dX5_hasMore_22 hr (Or.inr rfl) ⟨rfl, (Or.inr rfl), rfl, rfl⟩ (Nat.le_of_ble_eq_true rfl) (Nat.le_of_ble_eq_true rfl)
abbrev P_X5_readDie (E : KE) (x : Nat)  (hp : Hp) (al : Option Nat) (out : Int32 × Int32 × Int32 × (Nat → Int32) × (Nat → Int32) × Int32 × Int32 × Int32 × Int32) : Option Value → Hp → Option Nat → Prop := fun v0 hp' al' => v0 = none ∧ hp' (x + 128) = some (.inr (7, [.ref (x + 126), .ref (x + 142), .ref (x + 129), .int out.1, .int out.2.1])) ∧ hp' (x + 130) = some (.inr (2, [.ref (x + 131), .ref (x + 132), .int out.2.2.1])) ∧ hp' (x + 131) = some (.inl (kC E 0, 6, .inl out.2.2.2.1)) ∧ hp' (x + 132) = some (.inl (kC E 0, 72, .inl out.2.2.2.2.1)) ∧ hp' (x + 142) = some (.inr (11, [.ref (x + 126), .int out.2.2.2.2.2.1, .int out.2.2.2.2.2.2.1, .int out.2.2.2.2.2.2.2.1, .int out.2.2.2.2.2.2.2.2])) ∧ (∀ q, q ≠ (x + 128) → q ≠ (x + 130) → q ≠ (x + 131) → q ≠ (x + 132) → q ≠ (x + 142) → hp' q = hp q) ∧ al = al'
set_option maxHeartbeats 4000000 in
set_option maxRecDepth 100000 in
theorem c_X5_readDie_L131 {E : KE} {p : Program} {l : Launch} {e : Env} {s : State} {m : MethodId} {args : Array Value} {below : List Frame} {meth : Method} {c : Code} {al : Option Nat} {N : Nat} {x : Nat} {tl : Int32} {tb : Nat → Int32} {sd : Int32} {mn : Int32} {th : Int32} {hp0 : Hp} {out : Int32 × Int32 × Int32 × (Nat → Int32) × (Nat → Int32) × Int32 × Int32 × Int32 × Int32}  (X : CX E p l s m args meth c "DiceAudit$Loader" cX5_readDie 5) (hr : meth.sig.returnType = (Option.none : Option Jvm.ClassFile.FieldType))   : ∀ {l2 : Int32} {s0 : Int32} {ec : Int32} {eo : Int32} {dc : Int32} {fc : Nat → Int32} {dw : Nat → Int32} {kd : Int32} {ts : Int32} {te : Int32} {tv : Int32} {hp : Hp}, hp (x + 126) = some (.inr (10, [.ref (x + 127), .int tl])) → hp (x + 127) = some (.inl (kC E 0, 900, .inl tb)) → hp (x + 128) = some (.inr (7, [.ref (x + 126), .ref (x + 142), .ref (x + 129), .int ec, .int eo])) → hp (x + 129) = some (.inr (4, [.ref (x + 130), .ref (x + 133), .ref (x + 136), .ref (x + 139), .int sd, .int mn, .int th])) → hp (x + 130) = some (.inr (2, [.ref (x + 131), .ref (x + 132), .int dc])) → hp (x + 131) = some (.inl (kC E 0, 6, .inl fc)) → hp (x + 132) = some (.inl (kC E 0, 72, .inl dw)) → hp (x + 142) = some (.inr (11, [.ref (x + 126), .int kd, .int ts, .int te, .int tv])) → (∀ q, q ≠ (x + 128) → q ≠ (x + 130) → q ≠ (x + 131) → q ≠ (x + 132) → q ≠ (x + 142) → hp q = hp0 q) → f_X5_readDie_L131 N tl tb l2 s0 ec eo dc fc dw kd ts te tv = some out → AW E p l e ⟨4, 0, 0, 85⟩ s m args below meth c 5 (MQ below (kQc E (P_X5_readDie E x hp0 al out)) args s 0 0 (kA E)) hp al 0 0 131 [(0, .ref (x + 128)), (2, .int l2)] [.int s0, .ref (x + 128)] := by
  intro l2 s0 ec eo dc fc dw kd ts te tv hp g0 g1 g2 g3 g4 g5 g6 g16 hfr h
  unfold f_X5_readDie_L131 at h
  obtain ⟨t2, hct2, h⟩ := bind_o h
  refine A_c (k' := 0) (n' := 0) rfl rfl (A_runV (rest := []) X dX5_readDie_131 (c_X5_takeSemicolon g0 g1 g2 g16  hct2) kY_X5_takeSemicolon kw_385 g2 rfl rfl ⟨(Nat.le_of_ble_eq_true rfl), (Nat.le_of_ble_eq_true rfl), (Nat.le_of_ble_eq_true rfl), (Nat.le_of_ble_eq_true rfl)⟩ rfl (Nat.le_of_ble_eq_true rfl)) (fun v9 hp1 al9 hP => ?_)
  obtain ⟨rfl, k1_0, k1_1, n1, rfl⟩ := hP
  replace k1_0 : hp1 (x + 128) = some (.inr (7, [.ref (x + 126), .ref (x + 142), .ref (x + 129), .int t2.1, .int t2.2.1])) := k1_0
  replace k1_1 : hp1 (x + 142) = some (.inr (11, [.ref (x + 126), .int t2.2.2.1, .int t2.2.2.2.1, .int t2.2.2.2.2.1, .int t2.2.2.2.2.2])) := k1_1
  refine A_st (st' := []) rfl ?_
  refine A_aload_n X dX5_readDie_134 0 rfl ?_
  refine A_get X dX5_readDie_135 kcl_X5 3 (by decide) kw_245 k1_0 rfl ?_
  refine A_if_ne (tgt := 152) X dX5_readDie_138 h (by decide) (fun hc h => ?_) (fun hc h => ?_)
  · cases h
    exact A_vret X dX5_readDie_152 hr ⟨rfl, k1_0, ((n1 _ (by omega) (by omega)).trans g4), ((n1 _ (by omega) (by omega)).trans g5), ((n1 _ (by omega) (by omega)).trans g6), k1_1, (fun q z0 z1 z2 z3 z4 => ((n1 q z0 z4).trans (hfr q z0 z1 z2 z3 z4))), rfl⟩ (Nat.le_of_ble_eq_true rfl) (Nat.le_of_ble_eq_true rfl)
  · refine A_aload_n X dX5_readDie_141 0 rfl ?_
    refine A_get X dX5_readDie_142 kcl_X5 2 (by decide) kw_243 k1_0 rfl ?_
    refine A_get X dX5_readDie_145 kcl_X2 0 (by decide) kw_140 ((n1 _ (by omega) (by omega)).trans g3) rfl ?_
    refine A_iload_n X dX5_readDie_148 1 rfl ?_
    obtain ⟨t3, hct3, h⟩ := bind_o h
    refine A_c (k' := 0) (n' := 0) rfl rfl (A_runV (rest := []) X dX5_readDie_149 (c_X0_add ((n1 _ (by omega) (by omega)).trans g4) ((n1 _ (by omega) (by omega)).trans g5)  hct3) kY_X0_add kw_437 ((n1 _ (by omega) (by omega)).trans g4) rfl rfl ⟨(Nat.le_of_ble_eq_true rfl), (Nat.le_of_ble_eq_true rfl), (Nat.le_of_ble_eq_true rfl), (Nat.le_of_ble_eq_true rfl)⟩ rfl (Nat.le_of_ble_eq_true rfl)) (fun v9 hp2 al9 hP => ?_)
    obtain ⟨rfl, k2_0, k2_1, n2, rfl⟩ := hP
    replace k2_0 : hp2 (x + 130) = some (.inr (2, [.ref (x + 131), .ref (x + 132), .int t3.1])) := k2_0
    replace k2_1 : hp2 (x + 131) = some (.inl (kC E 0, 6, .inl t3.2)) := k2_1
    refine A_st (st' := []) rfl ?_
    cases h
    exact A_vret X dX5_readDie_152 hr ⟨rfl, ((n2 _ (by omega) (by omega)).trans k1_0), k2_0, k2_1, ((n2 _ (by omega) (by omega)).trans ((n1 _ (by omega) (by omega)).trans g6)), ((n2 _ (by omega) (by omega)).trans k1_1), (fun q z0 z1 z2 z3 z4 => ((n2 q z1 z2).trans ((n1 q z0 z4).trans (hfr q z0 z1 z2 z3 z4)))), rfl⟩ (Nat.le_of_ble_eq_true rfl) (Nat.le_of_ble_eq_true rfl)
set_option maxHeartbeats 4000000 in
set_option maxRecDepth 100000 in
theorem c_X5_readDie_L120 {E : KE} {p : Program} {l : Launch} {e : Env} {s : State} {m : MethodId} {args : Array Value} {below : List Frame} {meth : Method} {c : Code} {al : Option Nat} {N : Nat} {x : Nat} {tl : Int32} {tb : Nat → Int32} {sd : Int32} {mn : Int32} {th : Int32} {hp0 : Hp} {out : Int32 × Int32 × Int32 × (Nat → Int32) × (Nat → Int32) × Int32 × Int32 × Int32 × Int32}  (X : CX E p l s m args meth c "DiceAudit$Loader" cX5_readDie 5) (hr : meth.sig.returnType = (Option.none : Option Jvm.ClassFile.FieldType))   : ∀ {l2 : Int32} {l3 : Int32} {ec : Int32} {eo : Int32} {dc : Int32} {fc : Nat → Int32} {dw : Nat → Int32} {kd : Int32} {ts : Int32} {te : Int32} {tv : Int32} {hp : Hp}, hp (x + 126) = some (.inr (10, [.ref (x + 127), .int tl])) → hp (x + 127) = some (.inl (kC E 0, 900, .inl tb)) → hp (x + 128) = some (.inr (7, [.ref (x + 126), .ref (x + 142), .ref (x + 129), .int ec, .int eo])) → hp (x + 129) = some (.inr (4, [.ref (x + 130), .ref (x + 133), .ref (x + 136), .ref (x + 139), .int sd, .int mn, .int th])) → hp (x + 130) = some (.inr (2, [.ref (x + 131), .ref (x + 132), .int dc])) → hp (x + 131) = some (.inl (kC E 0, 6, .inl fc)) → hp (x + 132) = some (.inl (kC E 0, 72, .inl dw)) → hp (x + 142) = some (.inr (11, [.ref (x + 126), .int kd, .int ts, .int te, .int tv])) → (∀ q, q ≠ (x + 128) → q ≠ (x + 130) → q ≠ (x + 131) → q ≠ (x + 132) → q ≠ (x + 142) → hp q = hp0 q) → f_X5_readDie_L120 N tl tb l2 l3 ec eo dc fc dw kd ts te tv = some out → AW E p l e ⟨4, 0, 0, 85⟩ s m args below meth c 5 (MQ below (kQc E (P_X5_readDie E x hp0 al out)) args s 0 0 (kA E)) hp al 0 0 120 [(0, .ref (x + 128)), (2, .int l2), (3, .int l3)] [] := by
  intro l2 l3 ec eo dc fc dw kd ts te tv hp g0 g1 g2 g3 g4 g5 g6 g16 hfr h
  unfold f_X5_readDie_L120 at h
  refine A_aload_n X dX5_readDie_120 0 rfl ?_
  refine A_iload_n X dX5_readDie_121 2 rfl ?_
  refine A_if_ne (tgt := 130) X dX5_readDie_122 h (by decide) (fun hc h => ?_) (fun hc h => ?_)
  · refine A_iconst (v := 0) X dX5_readDie_130 (by decide) ?_
    refine A_sub (L' := [(0, .ref (x + 128)), (2, .int l2)]) [0, 1] rfl ?_
    exact c_X5_readDie_L131 X hr  g0 g1 g2 g3 g4 g5 g6 g16 (fun q z0 z1 z2 z3 z4 => (hfr q z0 z1 z2 z3 z4)) h
  · refine A_bipush (v := 6) X dX5_readDie_125 (by decide) ?_
    refine A_goto (tgt := 131) X dX5_readDie_127 (by decide) ?_
    refine A_sub (L' := [(0, .ref (x + 128)), (2, .int l2)]) [0, 1] rfl ?_
    exact c_X5_readDie_L131 X hr  g0 g1 g2 g3 g4 g5 g6 g16 (fun q z0 z1 z2 z3 z4 => (hfr q z0 z1 z2 z3 z4)) h
set_option maxHeartbeats 4000000 in
set_option maxRecDepth 100000 in
theorem c_X5_readDie_L117 {E : KE} {p : Program} {l : Launch} {e : Env} {s : State} {m : MethodId} {args : Array Value} {below : List Frame} {meth : Method} {c : Code} {al : Option Nat} {N : Nat} {x : Nat} {tl : Int32} {tb : Nat → Int32} {sd : Int32} {mn : Int32} {th : Int32} {hp0 : Hp} {out : Int32 × Int32 × Int32 × (Nat → Int32) × (Nat → Int32) × Int32 × Int32 × Int32 × Int32} {r30 : Int32 → Int32 → Int32 → Int32 → Int32 → Int32 → (Nat → Int32) → (Nat → Int32) → Int32 → Int32 → Int32 → Int32 → Option (Int32 × Int32 × Int32 × (Nat → Int32) × (Nat → Int32) × Int32 × Int32 × Int32 × Int32)} (X : CX E p l s m args meth c "DiceAudit$Loader" cX5_readDie 5) (hr : meth.sig.returnType = (Option.none : Option Jvm.ClassFile.FieldType))   (i30 : ∀ {l1 : Int32} {l2 : Int32} {l3 : Int32} {ec : Int32} {eo : Int32} {dc : Int32} {fc : Nat → Int32} {dw : Nat → Int32} {kd : Int32} {ts : Int32} {te : Int32} {tv : Int32} {hp : Hp}, hp (x + 126) = some (.inr (10, [.ref (x + 127), .int tl])) → hp (x + 127) = some (.inl (kC E 0, 900, .inl tb)) → hp (x + 128) = some (.inr (7, [.ref (x + 126), .ref (x + 142), .ref (x + 129), .int ec, .int eo])) → hp (x + 129) = some (.inr (4, [.ref (x + 130), .ref (x + 133), .ref (x + 136), .ref (x + 139), .int sd, .int mn, .int th])) → hp (x + 130) = some (.inr (2, [.ref (x + 131), .ref (x + 132), .int dc])) → hp (x + 131) = some (.inl (kC E 0, 6, .inl fc)) → hp (x + 132) = some (.inl (kC E 0, 72, .inl dw)) → hp (x + 142) = some (.inr (11, [.ref (x + 126), .int kd, .int ts, .int te, .int tv])) → (∀ q, q ≠ (x + 128) → q ≠ (x + 130) → q ≠ (x + 131) → q ≠ (x + 132) → q ≠ (x + 142) → hp q = hp0 q) → r30 l1 l2 l3 ec eo dc fc dw kd ts te tv = some out → AW E p l e ⟨4, 0, 0, 85⟩ s m args below meth c 5 (MQ below (kQc E (P_X5_readDie E x hp0 al out)) args s 0 0 (kA E)) hp al 0 0 30 [(0, .ref (x + 128)), (1, .int l1), (2, .int l2), (3, .int l3)] []) : ∀ {l1 : Int32} {l2 : Int32} {l3 : Int32} {ec : Int32} {eo : Int32} {dc : Int32} {fc : Nat → Int32} {dw : Nat → Int32} {kd : Int32} {ts : Int32} {te : Int32} {tv : Int32} {hp : Hp}, hp (x + 126) = some (.inr (10, [.ref (x + 127), .int tl])) → hp (x + 127) = some (.inl (kC E 0, 900, .inl tb)) → hp (x + 128) = some (.inr (7, [.ref (x + 126), .ref (x + 142), .ref (x + 129), .int ec, .int eo])) → hp (x + 129) = some (.inr (4, [.ref (x + 130), .ref (x + 133), .ref (x + 136), .ref (x + 139), .int sd, .int mn, .int th])) → hp (x + 130) = some (.inr (2, [.ref (x + 131), .ref (x + 132), .int dc])) → hp (x + 131) = some (.inl (kC E 0, 6, .inl fc)) → hp (x + 132) = some (.inl (kC E 0, 72, .inl dw)) → hp (x + 142) = some (.inr (11, [.ref (x + 126), .int kd, .int ts, .int te, .int tv])) → (∀ q, q ≠ (x + 128) → q ≠ (x + 130) → q ≠ (x + 131) → q ≠ (x + 132) → q ≠ (x + 142) → hp q = hp0 q) → f_X5_readDie_L117 N tl tb r30 l1 l2 l3 ec eo dc fc dw kd ts te tv = some out → AW E p l e ⟨4, 0, 0, 85⟩ s m args below meth c 5 (MQ below (kQc E (P_X5_readDie E x hp0 al out)) args s 0 0 (kA E)) hp al 0 0 117 [(0, .ref (x + 128)), (1, .int l1), (2, .int l2), (3, .int l3)] [] := by
  intro l1 l2 l3 ec eo dc fc dw kd ts te tv hp g0 g1 g2 g3 g4 g5 g6 g16 hfr h
  unfold f_X5_readDie_L117 at h
  refine A_goto (tgt := 30) X dX5_readDie_117 (by decide) ?_
  refine A_sub (L' := [(0, .ref (x + 128)), (1, .int l1), (2, .int l2), (3, .int l3)]) [0, 1, 2, 3] rfl ?_
  exact i30 g0 g1 g2 g3 g4 g5 g6 g16 (fun q z0 z1 z2 z3 z4 => (hfr q z0 z1 z2 z3 z4)) h
set_option maxHeartbeats 4000000 in
set_option maxRecDepth 100000 in
theorem c_X5_readDie_L79 {E : KE} {p : Program} {l : Launch} {e : Env} {s : State} {m : MethodId} {args : Array Value} {below : List Frame} {meth : Method} {c : Code} {al : Option Nat} {N : Nat} {x : Nat} {tl : Int32} {tb : Nat → Int32} {sd : Int32} {mn : Int32} {th : Int32} {hp0 : Hp} {out : Int32 × Int32 × Int32 × (Nat → Int32) × (Nat → Int32) × Int32 × Int32 × Int32 × Int32} {r30 : Int32 → Int32 → Int32 → Int32 → Int32 → Int32 → (Nat → Int32) → (Nat → Int32) → Int32 → Int32 → Int32 → Int32 → Option (Int32 × Int32 × Int32 × (Nat → Int32) × (Nat → Int32) × Int32 × Int32 × Int32 × Int32)} (X : CX E p l s m args meth c "DiceAudit$Loader" cX5_readDie 5) (hr : meth.sig.returnType = (Option.none : Option Jvm.ClassFile.FieldType))   (i30 : ∀ {l1 : Int32} {l2 : Int32} {l3 : Int32} {ec : Int32} {eo : Int32} {dc : Int32} {fc : Nat → Int32} {dw : Nat → Int32} {kd : Int32} {ts : Int32} {te : Int32} {tv : Int32} {hp : Hp}, hp (x + 126) = some (.inr (10, [.ref (x + 127), .int tl])) → hp (x + 127) = some (.inl (kC E 0, 900, .inl tb)) → hp (x + 128) = some (.inr (7, [.ref (x + 126), .ref (x + 142), .ref (x + 129), .int ec, .int eo])) → hp (x + 129) = some (.inr (4, [.ref (x + 130), .ref (x + 133), .ref (x + 136), .ref (x + 139), .int sd, .int mn, .int th])) → hp (x + 130) = some (.inr (2, [.ref (x + 131), .ref (x + 132), .int dc])) → hp (x + 131) = some (.inl (kC E 0, 6, .inl fc)) → hp (x + 132) = some (.inl (kC E 0, 72, .inl dw)) → hp (x + 142) = some (.inr (11, [.ref (x + 126), .int kd, .int ts, .int te, .int tv])) → (∀ q, q ≠ (x + 128) → q ≠ (x + 130) → q ≠ (x + 131) → q ≠ (x + 132) → q ≠ (x + 142) → hp q = hp0 q) → r30 l1 l2 l3 ec eo dc fc dw kd ts te tv = some out → AW E p l e ⟨4, 0, 0, 85⟩ s m args below meth c 5 (MQ below (kQc E (P_X5_readDie E x hp0 al out)) args s 0 0 (kA E)) hp al 0 0 30 [(0, .ref (x + 128)), (1, .int l1), (2, .int l2), (3, .int l3)] []) : ∀ {l1 : Int32} {l2 : Int32} {l3 : Int32} {ec : Int32} {eo : Int32} {dc : Int32} {fc : Nat → Int32} {dw : Nat → Int32} {kd : Int32} {ts : Int32} {te : Int32} {tv : Int32} {hp : Hp}, hp (x + 126) = some (.inr (10, [.ref (x + 127), .int tl])) → hp (x + 127) = some (.inl (kC E 0, 900, .inl tb)) → hp (x + 128) = some (.inr (7, [.ref (x + 126), .ref (x + 142), .ref (x + 129), .int ec, .int eo])) → hp (x + 129) = some (.inr (4, [.ref (x + 130), .ref (x + 133), .ref (x + 136), .ref (x + 139), .int sd, .int mn, .int th])) → hp (x + 130) = some (.inr (2, [.ref (x + 131), .ref (x + 132), .int dc])) → hp (x + 131) = some (.inl (kC E 0, 6, .inl fc)) → hp (x + 132) = some (.inl (kC E 0, 72, .inl dw)) → hp (x + 142) = some (.inr (11, [.ref (x + 126), .int kd, .int ts, .int te, .int tv])) → (∀ q, q ≠ (x + 128) → q ≠ (x + 130) → q ≠ (x + 131) → q ≠ (x + 132) → q ≠ (x + 142) → hp q = hp0 q) → f_X5_readDie_L79 N tl tb r30 l1 l2 l3 ec eo dc fc dw kd ts te tv = some out → AW E p l e ⟨4, 0, 0, 85⟩ s m args below meth c 5 (MQ below (kQc E (P_X5_readDie E x hp0 al out)) args s 0 0 (kA E)) hp al 0 0 79 [(0, .ref (x + 128)), (1, .int l1), (2, .int l2), (3, .int l3)] [] := by
  intro l1 l2 l3 ec eo dc fc dw kd ts te tv hp g0 g1 g2 g3 g4 g5 g6 g16 hfr h
  unfold f_X5_readDie_L79 at h
  refine A_aload_n X dX5_readDie_79 0 rfl ?_
  refine A_iconst (v := 0) X dX5_readDie_80 (by decide) ?_
  refine A_bipush (v := 9) X dX5_readDie_81 (by decide) ?_
  obtain ⟨t2, hct2, h⟩ := bind_o h
  refine A_c (k' := 0) (n' := 0) rfl rfl (A_runV (rest := []) X dX5_readDie_83 (c_X5_takeNumber g0 g1 g2 g16  hct2) kY_X5_takeNumber kw_377 g2 rfl rfl ⟨(Nat.le_of_ble_eq_true rfl), (Nat.le_of_ble_eq_true rfl), (Nat.le_of_ble_eq_true rfl), (Nat.le_of_ble_eq_true rfl)⟩ rfl (Nat.le_of_ble_eq_true rfl)) (fun v9 hp1 al9 hP => ?_)
  obtain ⟨rfl, k1_0, k1_1, n1, rfl⟩ := hP
  replace k1_0 : hp1 (x + 128) = some (.inr (7, [.ref (x + 126), .ref (x + 142), .ref (x + 129), .int t2.2.1, .int t2.2.2.1])) := k1_0
  replace k1_1 : hp1 (x + 142) = some (.inr (11, [.ref (x + 126), .int t2.2.2.2.1, .int t2.2.2.2.2.1, .int t2.2.2.2.2.2.1, .int t2.2.2.2.2.2.2])) := k1_1
  refine A_st (st' := [.int t2.1]) rfl ?_
  refine A_istore (L' := [(4, .int t2.1), (0, .ref (x + 128)), (1, .int l1), (2, .int l2), (3, .int l3)]) X dX5_readDie_86 (by decide) rfl ?_
  refine A_iinc (j := 3) (v := (l2 + 1)) (L' := [(2, .int (l2 + 1)), (4, .int t2.1), (0, .ref (x + 128)), (1, .int l1), (3, .int l3)]) X dX5_readDie_88 rfl rfl (by decide) rfl ?_
  refine A_iload_n X dX5_readDie_91 4 rfl ?_
  refine A_iload X dX5_readDie_92 1 rfl ?_
  refine A_iadd X dX5_readDie_94 ?_
  refine A_istore_n (L' := [(3, .int (l3 + t2.1)), (2, .int (l2 + 1)), (4, .int t2.1), (0, .ref (x + 128)), (1, .int l1)]) X dX5_readDie_95 rfl (by decide) rfl ?_
  refine A_aload_n X dX5_readDie_96 3 rfl ?_
  refine A_get X dX5_readDie_97 kcl_X5 3 (by decide) kw_245 k1_0 rfl ?_
  refine A_if_ne (tgt := 117) X dX5_readDie_100 h (by decide) (fun hc h => ?_) (fun hc h => ?_)
  · refine A_sub (L' := [(0, .ref (x + 128)), (1, .int l1), (2, .int (l2 + 1)), (3, .int (l3 + t2.1))]) [3, 4, 1, 0] rfl ?_
    exact c_X5_readDie_L117 X hr i30 ((n1 _ (by omega) (by omega)).trans g0) ((n1 _ (by omega) (by omega)).trans g1) k1_0 ((n1 _ (by omega) (by omega)).trans g3) ((n1 _ (by omega) (by omega)).trans g4) ((n1 _ (by omega) (by omega)).trans g5) ((n1 _ (by omega) (by omega)).trans g6) k1_1 (fun q z0 z1 z2 z3 z4 => ((n1 q z0 z4).trans (hfr q z0 z1 z2 z3 z4))) h
  · refine A_aload_n X dX5_readDie_103 3 rfl ?_
    refine A_get X dX5_readDie_104 kcl_X5 2 (by decide) kw_243 k1_0 rfl ?_
    refine A_get X dX5_readDie_107 kcl_X2 0 (by decide) kw_140 ((n1 _ (by omega) (by omega)).trans g3) rfl ?_
    refine A_iload_n X dX5_readDie_110 4 rfl ?_
    refine A_iload_n X dX5_readDie_111 1 rfl ?_
    refine A_iload X dX5_readDie_112 2 rfl ?_
    obtain ⟨t3, hct3, h⟩ := bind_o h
    refine A_c (k' := 0) (n' := 0) rfl rfl (A_runV (rest := []) X dX5_readDie_114 (c_X0_putWeight ((n1 _ (by omega) (by omega)).trans g4) ((n1 _ (by omega) (by omega)).trans g6)  hct3) kY_X0_putWeight kw_429 ((n1 _ (by omega) (by omega)).trans g4) rfl rfl ⟨(Nat.le_of_ble_eq_true rfl), (Nat.le_of_ble_eq_true rfl), (Nat.le_of_ble_eq_true rfl), (Nat.le_of_ble_eq_true rfl)⟩ rfl (Nat.le_of_ble_eq_true rfl)) (fun v9 hp2 al9 hP => ?_)
    obtain ⟨rfl, k2_0, n2, rfl⟩ := hP
    replace k2_0 : hp2 (x + 132) = some (.inl (kC E 0, 72, .inl t3)) := k2_0
    refine A_st (st' := []) rfl ?_
    refine A_sub (L' := [(0, .ref (x + 128)), (1, .int l1), (2, .int (l2 + 1)), (3, .int (l3 + t2.1))]) [3, 4, 1, 0] rfl ?_
    exact c_X5_readDie_L117 X hr i30 ((n2 _ (by omega)).trans ((n1 _ (by omega) (by omega)).trans g0)) ((n2 _ (by omega)).trans ((n1 _ (by omega) (by omega)).trans g1)) ((n2 _ (by omega)).trans k1_0) ((n2 _ (by omega)).trans ((n1 _ (by omega) (by omega)).trans g3)) ((n2 _ (by omega)).trans ((n1 _ (by omega) (by omega)).trans g4)) ((n2 _ (by omega)).trans ((n1 _ (by omega) (by omega)).trans g5)) k2_0 ((n2 _ (by omega)).trans k1_1) (fun q z0 z1 z2 z3 z4 => ((n2 q z3).trans ((n1 q z0 z4).trans (hfr q z0 z1 z2 z3 z4)))) h
set_option maxHeartbeats 4000000 in
set_option maxRecDepth 100000 in
theorem c_X5_readDie_L58 {E : KE} {p : Program} {l : Launch} {e : Env} {s : State} {m : MethodId} {args : Array Value} {below : List Frame} {meth : Method} {c : Code} {al : Option Nat} {N : Nat} {x : Nat} {tl : Int32} {tb : Nat → Int32} {sd : Int32} {mn : Int32} {th : Int32} {hp0 : Hp} {out : Int32 × Int32 × Int32 × (Nat → Int32) × (Nat → Int32) × Int32 × Int32 × Int32 × Int32} {r30 : Int32 → Int32 → Int32 → Int32 → Int32 → Int32 → (Nat → Int32) → (Nat → Int32) → Int32 → Int32 → Int32 → Int32 → Option (Int32 × Int32 × Int32 × (Nat → Int32) × (Nat → Int32) × Int32 × Int32 × Int32 × Int32)} (X : CX E p l s m args meth c "DiceAudit$Loader" cX5_readDie 5) (hr : meth.sig.returnType = (Option.none : Option Jvm.ClassFile.FieldType))   (i30 : ∀ {l1 : Int32} {l2 : Int32} {l3 : Int32} {ec : Int32} {eo : Int32} {dc : Int32} {fc : Nat → Int32} {dw : Nat → Int32} {kd : Int32} {ts : Int32} {te : Int32} {tv : Int32} {hp : Hp}, hp (x + 126) = some (.inr (10, [.ref (x + 127), .int tl])) → hp (x + 127) = some (.inl (kC E 0, 900, .inl tb)) → hp (x + 128) = some (.inr (7, [.ref (x + 126), .ref (x + 142), .ref (x + 129), .int ec, .int eo])) → hp (x + 129) = some (.inr (4, [.ref (x + 130), .ref (x + 133), .ref (x + 136), .ref (x + 139), .int sd, .int mn, .int th])) → hp (x + 130) = some (.inr (2, [.ref (x + 131), .ref (x + 132), .int dc])) → hp (x + 131) = some (.inl (kC E 0, 6, .inl fc)) → hp (x + 132) = some (.inl (kC E 0, 72, .inl dw)) → hp (x + 142) = some (.inr (11, [.ref (x + 126), .int kd, .int ts, .int te, .int tv])) → (∀ q, q ≠ (x + 128) → q ≠ (x + 130) → q ≠ (x + 131) → q ≠ (x + 132) → q ≠ (x + 142) → hp q = hp0 q) → r30 l1 l2 l3 ec eo dc fc dw kd ts te tv = some out → AW E p l e ⟨4, 0, 0, 85⟩ s m args below meth c 5 (MQ below (kQc E (P_X5_readDie E x hp0 al out)) args s 0 0 (kA E)) hp al 0 0 30 [(0, .ref (x + 128)), (1, .int l1), (2, .int l2), (3, .int l3)] []) : ∀ {l1 : Int32} {l2 : Int32} {l3 : Int32} {ec : Int32} {eo : Int32} {dc : Int32} {fc : Nat → Int32} {dw : Nat → Int32} {kd : Int32} {ts : Int32} {te : Int32} {tv : Int32} {hp : Hp}, hp (x + 126) = some (.inr (10, [.ref (x + 127), .int tl])) → hp (x + 127) = some (.inl (kC E 0, 900, .inl tb)) → hp (x + 128) = some (.inr (7, [.ref (x + 126), .ref (x + 142), .ref (x + 129), .int ec, .int eo])) → hp (x + 129) = some (.inr (4, [.ref (x + 130), .ref (x + 133), .ref (x + 136), .ref (x + 139), .int sd, .int mn, .int th])) → hp (x + 130) = some (.inr (2, [.ref (x + 131), .ref (x + 132), .int dc])) → hp (x + 131) = some (.inl (kC E 0, 6, .inl fc)) → hp (x + 132) = some (.inl (kC E 0, 72, .inl dw)) → hp (x + 142) = some (.inr (11, [.ref (x + 126), .int kd, .int ts, .int te, .int tv])) → (∀ q, q ≠ (x + 128) → q ≠ (x + 130) → q ≠ (x + 131) → q ≠ (x + 132) → q ≠ (x + 142) → hp q = hp0 q) → f_X5_readDie_L58 N tl tb r30 l1 l2 l3 ec eo dc fc dw kd ts te tv = some out → AW E p l e ⟨4, 0, 0, 85⟩ s m args below meth c 5 (MQ below (kQc E (P_X5_readDie E x hp0 al out)) args s 0 0 (kA E)) hp al 0 0 58 [(0, .ref (x + 128)), (1, .int l1), (2, .int l2), (3, .int l3)] [] := by
  intro l1 l2 l3 ec eo dc fc dw kd ts te tv hp g0 g1 g2 g3 g4 g5 g6 g16 hfr h
  unfold f_X5_readDie_L58 at h
  refine A_iload_n X dX5_readDie_58 2 rfl ?_
  refine A_bipush (v := 12) X dX5_readDie_59 (by decide) ?_
  refine A_icmp_lt (tgt := 79) X dX5_readDie_61 h (by decide) (fun hc h => ?_) (fun hc h => ?_)
  · refine A_sub (L' := [(0, .ref (x + 128)), (1, .int l1), (2, .int l2), (3, .int l3)]) [0, 1, 2, 3] rfl ?_
    exact c_X5_readDie_L79 X hr i30 g0 g1 g2 g3 g4 g5 g6 g16 (fun q z0 z1 z2 z3 z4 => (hfr q z0 z1 z2 z3 z4)) h
  · refine A_aload_n X dX5_readDie_64 0 rfl ?_
    refine A_iconst (v := 0) X dX5_readDie_65 (by decide) ?_
    refine A_bipush (v := 9) X dX5_readDie_66 (by decide) ?_
    obtain ⟨t2, hct2, h⟩ := bind_o h
    refine A_c (k' := 0) (n' := 0) rfl rfl (A_runV (rest := []) X dX5_readDie_68 (c_X5_isNumberIn g2 g16  hct2) kY_X5_isNumberIn kw_381 g2 rfl rfl ⟨(Nat.le_of_ble_eq_true rfl), (Nat.le_of_ble_eq_true rfl), (Nat.le_of_ble_eq_true rfl), (Nat.le_of_ble_eq_true rfl)⟩ rfl (Nat.le_of_ble_eq_true rfl)) (fun v9 hp1 al9 hP => ?_)
    obtain ⟨rfl, zt2, rfl, rfl⟩ := hP
    refine A_st (st' := [.int t2]) rfl ?_
    refine A_if_eq (tgt := 79) X dX5_readDie_71 h (by decide) (fun hc h => ?_) (fun hc h => ?_)
    · refine A_sub (L' := [(0, .ref (x + 128)), (1, .int l1), (2, .int l2), (3, .int l3)]) [0, 1, 2, 3] rfl ?_
      exact c_X5_readDie_L79 X hr i30 g0 g1 g2 g3 g4 g5 g6 g16 (fun q z0 z1 z2 z3 z4 => (hfr q z0 z1 z2 z3 z4)) h
    · refine A_aload_n X dX5_readDie_74 0 rfl ?_
      refine A_iconst (v := 5) X dX5_readDie_75 (by decide) ?_
      obtain ⟨t3, hct3, h⟩ := bind_o h
      refine A_c (k' := 0) (n' := 0) rfl rfl (A_runV (rest := []) X dX5_readDie_76 (c_X5_fail g2 g16  hct3) kY_X5_fail kw_371 g2 rfl rfl ⟨(Nat.le_of_ble_eq_true rfl), (Nat.le_of_ble_eq_true rfl), (Nat.le_of_ble_eq_true rfl), (Nat.le_of_ble_eq_true rfl)⟩ rfl (Nat.le_of_ble_eq_true rfl)) (fun v9 hp1 al9 hP => ?_)
      obtain ⟨rfl, k1_0, n1, rfl⟩ := hP
      replace k1_0 : hp1 (x + 128) = some (.inr (7, [.ref (x + 126), .ref (x + 142), .ref (x + 129), .int t3.1, .int t3.2])) := k1_0
      refine A_st (st' := []) rfl ?_
      refine A_sub (L' := [(0, .ref (x + 128)), (1, .int l1), (2, .int l2), (3, .int l3)]) [0, 1, 2, 3] rfl ?_
      exact c_X5_readDie_L79 X hr i30 ((n1 _ (by omega)).trans g0) ((n1 _ (by omega)).trans g1) k1_0 ((n1 _ (by omega)).trans g3) ((n1 _ (by omega)).trans g4) ((n1 _ (by omega)).trans g5) ((n1 _ (by omega)).trans g6) ((n1 _ (by omega)).trans g16) (fun q z0 z1 z2 z3 z4 => ((n1 q z0).trans (hfr q z0 z1 z2 z3 z4))) h
set_option maxHeartbeats 4000000 in
set_option maxRecDepth 100000 in
theorem c_X5_readDie_L30 {E : KE} {p : Program} {l : Launch} {e : Env} {s : State} {m : MethodId} {args : Array Value} {below : List Frame} {meth : Method} {c : Code} {al : Option Nat} {N : Nat} {x : Nat} {tl : Int32} {tb : Nat → Int32} {sd : Int32} {mn : Int32} {th : Int32} {hp0 : Hp} {out : Int32 × Int32 × Int32 × (Nat → Int32) × (Nat → Int32) × Int32 × Int32 × Int32 × Int32}  (X : CX E p l s m args meth c "DiceAudit$Loader" cX5_readDie 5) (hr : meth.sig.returnType = (Option.none : Option Jvm.ClassFile.FieldType))   : ∀ (j : Nat), ∀ {l1 : Int32} {l2 : Int32} {l3 : Int32} {ec : Int32} {eo : Int32} {dc : Int32} {fc : Nat → Int32} {dw : Nat → Int32} {kd : Int32} {ts : Int32} {te : Int32} {tv : Int32} {hp : Hp}, hp (x + 126) = some (.inr (10, [.ref (x + 127), .int tl])) → hp (x + 127) = some (.inl (kC E 0, 900, .inl tb)) → hp (x + 128) = some (.inr (7, [.ref (x + 126), .ref (x + 142), .ref (x + 129), .int ec, .int eo])) → hp (x + 129) = some (.inr (4, [.ref (x + 130), .ref (x + 133), .ref (x + 136), .ref (x + 139), .int sd, .int mn, .int th])) → hp (x + 130) = some (.inr (2, [.ref (x + 131), .ref (x + 132), .int dc])) → hp (x + 131) = some (.inl (kC E 0, 6, .inl fc)) → hp (x + 132) = some (.inl (kC E 0, 72, .inl dw)) → hp (x + 142) = some (.inr (11, [.ref (x + 126), .int kd, .int ts, .int te, .int tv])) → (∀ q, q ≠ (x + 128) → q ≠ (x + 130) → q ≠ (x + 131) → q ≠ (x + 132) → q ≠ (x + 142) → hp q = hp0 q) → f_X5_readDie_L30 N tl tb j l1 l2 l3 ec eo dc fc dw kd ts te tv = some out → AW E p l e ⟨4, 0, 0, 85⟩ s m args below meth c 5 (MQ below (kQc E (P_X5_readDie E x hp0 al out)) args s 0 0 (kA E)) hp al 0 0 30 [(0, .ref (x + 128)), (1, .int l1), (2, .int l2), (3, .int l3)] [] := by
  intro j
  induction j with
  | zero =>
    intro l1 l2 l3 ec eo dc fc dw kd ts te tv hp g0 g1 g2 g3 g4 g5 g6 g16 hfr h
    have h : (none : Option (Int32 × Int32 × Int32 × (Nat → Int32) × (Nat → Int32) × Int32 × Int32 × Int32 × Int32)) = some out := h
    cases h
  | succ j i30 =>
    intro l1 l2 l3 ec eo dc fc dw kd ts te tv hp g0 g1 g2 g3 g4 g5 g6 g16 hfr h
    have h : f_X5_readDie_L30_F N tl tb (f_X5_readDie_L30 N tl tb j) l1 l2 l3 ec eo dc fc dw kd ts te tv = some out := h
    unfold f_X5_readDie_L30_F at h
    refine A_iload_n X dX5_readDie_30 2 rfl ?_
    refine A_bipush (v := 12) X dX5_readDie_31 (by decide) ?_
    refine A_icmp_gt (tgt := 120) X dX5_readDie_33 h (by decide) (fun hc h => ?_) (fun hc h => ?_)
    · refine A_sub (L' := [(0, .ref (x + 128)), (2, .int l2), (3, .int l3)]) [0, 2, 3] rfl ?_
      exact c_X5_readDie_L120 X hr  g0 g1 g2 g3 g4 g5 g6 g16 (fun q z0 z1 z2 z3 z4 => (hfr q z0 z1 z2 z3 z4)) h
    · refine A_aload_n X dX5_readDie_36 0 rfl ?_
      refine A_get X dX5_readDie_37 kcl_X5 3 (by decide) kw_245 g2 rfl ?_
      refine A_if_ne (tgt := 120) X dX5_readDie_40 h (by decide) (fun hc h => ?_) (fun hc h => ?_)
      · refine A_sub (L' := [(0, .ref (x + 128)), (2, .int l2), (3, .int l3)]) [0, 2, 3] rfl ?_
        exact c_X5_readDie_L120 X hr  g0 g1 g2 g3 g4 g5 g6 g16 (fun q z0 z1 z2 z3 z4 => (hfr q z0 z1 z2 z3 z4)) h
      · refine A_iload_n X dX5_readDie_43 2 rfl ?_
        refine A_iconst (v := 2) X dX5_readDie_44 (by decide) ?_
        refine A_icmp_lt (tgt := 58) X dX5_readDie_45 h (by decide) (fun hc h => ?_) (fun hc h => ?_)
        · refine A_sub (L' := [(0, .ref (x + 128)), (1, .int l1), (2, .int l2), (3, .int l3)]) [0, 1, 2, 3] rfl ?_
          exact c_X5_readDie_L58 X hr i30 g0 g1 g2 g3 g4 g5 g6 g16 (fun q z0 z1 z2 z3 z4 => (hfr q z0 z1 z2 z3 z4)) h
        · refine A_aload_n X dX5_readDie_48 0 rfl ?_
          refine A_get X dX5_readDie_49 kcl_X5 1 (by decide) kw_242 g2 rfl ?_
          obtain ⟨t2, hct2, h⟩ := bind_o h
          refine A_c (k' := 0) (n' := 0) rfl rfl (A_runV (rest := []) X dX5_readDie_52 (c_X9_isSemicolon g0 g1 g16  hct2) kY_X9_isSemicolon kw_389 g16 rfl rfl ⟨(Nat.le_of_ble_eq_true rfl), (Nat.le_of_ble_eq_true rfl), (Nat.le_of_ble_eq_true rfl), (Nat.le_of_ble_eq_true rfl)⟩ rfl (Nat.le_of_ble_eq_true rfl)) (fun v9 hp1 al9 hP => ?_)
          obtain ⟨rfl, zt2, rfl, rfl⟩ := hP
          refine A_st (st' := [.int t2]) rfl ?_
          refine A_if_ne (tgt := 120) X dX5_readDie_55 h (by decide) (fun hc h => ?_) (fun hc h => ?_)
          · refine A_sub (L' := [(0, .ref (x + 128)), (2, .int l2), (3, .int l3)]) [0, 2, 3] rfl ?_
            exact c_X5_readDie_L120 X hr  g0 g1 g2 g3 g4 g5 g6 g16 (fun q z0 z1 z2 z3 z4 => (hfr q z0 z1 z2 z3 z4)) h
          · refine A_sub (L' := [(0, .ref (x + 128)), (1, .int l1), (2, .int l2), (3, .int l3)]) [0, 1, 2, 3] rfl ?_
            exact c_X5_readDie_L58 X hr i30 g0 g1 g2 g3 g4 g5 g6 g16 (fun q z0 z1 z2 z3 z4 => (hfr q z0 z1 z2 z3 z4)) h
set_option maxHeartbeats 4000000 in
set_option maxRecDepth 100000 in
theorem c_X5_readDie_L23 {E : KE} {p : Program} {l : Launch} {e : Env} {s : State} {m : MethodId} {args : Array Value} {below : List Frame} {meth : Method} {c : Code} {al : Option Nat} {N : Nat} {x : Nat} {tl : Int32} {tb : Nat → Int32} {sd : Int32} {mn : Int32} {th : Int32} {hp0 : Hp} {out : Int32 × Int32 × Int32 × (Nat → Int32) × (Nat → Int32) × Int32 × Int32 × Int32 × Int32}  (X : CX E p l s m args meth c "DiceAudit$Loader" cX5_readDie 5) (hr : meth.sig.returnType = (Option.none : Option Jvm.ClassFile.FieldType))   : ∀ {l1 : Int32} {s0 : Int32} {ec : Int32} {eo : Int32} {dc : Int32} {fc : Nat → Int32} {dw : Nat → Int32} {kd : Int32} {ts : Int32} {te : Int32} {tv : Int32} {hp : Hp}, hp (x + 126) = some (.inr (10, [.ref (x + 127), .int tl])) → hp (x + 127) = some (.inl (kC E 0, 900, .inl tb)) → hp (x + 128) = some (.inr (7, [.ref (x + 126), .ref (x + 142), .ref (x + 129), .int ec, .int eo])) → hp (x + 129) = some (.inr (4, [.ref (x + 130), .ref (x + 133), .ref (x + 136), .ref (x + 139), .int sd, .int mn, .int th])) → hp (x + 130) = some (.inr (2, [.ref (x + 131), .ref (x + 132), .int dc])) → hp (x + 131) = some (.inl (kC E 0, 6, .inl fc)) → hp (x + 132) = some (.inl (kC E 0, 72, .inl dw)) → hp (x + 142) = some (.inr (11, [.ref (x + 126), .int kd, .int ts, .int te, .int tv])) → (∀ q, q ≠ (x + 128) → q ≠ (x + 130) → q ≠ (x + 131) → q ≠ (x + 132) → q ≠ (x + 142) → hp q = hp0 q) → f_X5_readDie_L23 N tl tb l1 s0 ec eo dc fc dw kd ts te tv = some out → AW E p l e ⟨4, 0, 0, 85⟩ s m args below meth c 5 (MQ below (kQc E (P_X5_readDie E x hp0 al out)) args s 0 0 (kA E)) hp al 0 0 23 [(0, .ref (x + 128)), (1, .int l1)] [.int s0, .ref (x + 128)] := by
  intro l1 s0 ec eo dc fc dw kd ts te tv hp g0 g1 g2 g3 g4 g5 g6 g16 hfr h
  unfold f_X5_readDie_L23 at h
  obtain ⟨t1, hct1, h⟩ := bind_o h
  refine A_c (k' := 0) (n' := 0) rfl rfl (A_runV (rest := []) X dX5_readDie_23 (c_X5_takeKeyword g0 g1 g2 g16  hct1) kY_X5_takeKeyword kw_367 g2 rfl rfl ⟨(Nat.le_of_ble_eq_true rfl), (Nat.le_of_ble_eq_true rfl), (Nat.le_of_ble_eq_true rfl), (Nat.le_of_ble_eq_true rfl)⟩ rfl (Nat.le_of_ble_eq_true rfl)) (fun v9 hp1 al9 hP => ?_)
  obtain ⟨rfl, k1_0, k1_1, n1, rfl⟩ := hP
  replace k1_0 : hp1 (x + 128) = some (.inr (7, [.ref (x + 126), .ref (x + 142), .ref (x + 129), .int t1.1, .int t1.2.1])) := k1_0
  replace k1_1 : hp1 (x + 142) = some (.inr (11, [.ref (x + 126), .int t1.2.2.1, .int t1.2.2.2.1, .int t1.2.2.2.2.1, .int t1.2.2.2.2.2])) := k1_1
  refine A_st (st' := []) rfl ?_
  refine A_iconst (v := 0) X dX5_readDie_26 (by decide) ?_
  refine A_istore_n (L' := [(2, .int 0), (0, .ref (x + 128)), (1, .int l1)]) X dX5_readDie_27 rfl (by decide) rfl ?_
  refine A_iconst (v := 0) X dX5_readDie_28 (by decide) ?_
  refine A_istore_n (L' := [(3, .int 0), (2, .int 0), (0, .ref (x + 128)), (1, .int l1)]) X dX5_readDie_29 rfl (by decide) rfl ?_
  refine A_sub (L' := [(0, .ref (x + 128)), (1, .int l1), (2, .int 0), (3, .int 0)]) [2, 3, 1, 0] rfl ?_
  exact c_X5_readDie_L30 X hr  N ((n1 _ (by omega) (by omega)).trans g0) ((n1 _ (by omega) (by omega)).trans g1) k1_0 ((n1 _ (by omega) (by omega)).trans g3) ((n1 _ (by omega) (by omega)).trans g4) ((n1 _ (by omega) (by omega)).trans g5) ((n1 _ (by omega) (by omega)).trans g6) k1_1 (fun q z0 z1 z2 z3 z4 => ((n1 q z0 z4).trans (hfr q z0 z1 z2 z3 z4))) h
set_option maxHeartbeats 4000000 in
set_option maxRecDepth 100000 in
theorem c_X5_readDie {E : KE} {l : Launch} {hp : Hp} {al : Option Nat} {N : Nat} {x : Nat} {tl : Int32} {tb : Nat → Int32} {ec : Int32} {eo : Int32} {sd : Int32} {mn : Int32} {th : Int32} {dc : Int32} {fc : Nat → Int32} {dw : Nat → Int32} {kd : Int32} {ts : Int32} {te : Int32} {tv : Int32}  {out : Int32 × Int32 × Int32 × (Nat → Int32) × (Nat → Int32) × Int32 × Int32 × Int32 × Int32} (g0 : hp (x + 126) = some (.inr (10, [.ref (x + 127), .int tl]))) (g1 : hp (x + 127) = some (.inl (kC E 0, 900, .inl tb))) (g2 : hp (x + 128) = some (.inr (7, [.ref (x + 126), .ref (x + 142), .ref (x + 129), .int ec, .int eo]))) (g3 : hp (x + 129) = some (.inr (4, [.ref (x + 130), .ref (x + 133), .ref (x + 136), .ref (x + 139), .int sd, .int mn, .int th]))) (g4 : hp (x + 130) = some (.inr (2, [.ref (x + 131), .ref (x + 132), .int dc]))) (g5 : hp (x + 131) = some (.inl (kC E 0, 6, .inl fc))) (g6 : hp (x + 132) = some (.inl (kC E 0, 72, .inl dw))) (g16 : hp (x + 142) = some (.inr (11, [.ref (x + 126), .int kd, .int ts, .int te, .int tv])))  (h : f_X5_readDie N tl tb ec eo dc fc dw kd ts te tv = some out) : AM E l yX5_readDie cX5_readDie 5 (Option.none : Option Jvm.ClassFile.FieldType) ⟨4, 0, 0, 85⟩ [.ref (x + 128)] hp al (P_X5_readDie E x hp al out) := by
  refine A_of (by decide +kernel) (Nat.le_of_ble_eq_true rfl) ?_
  intro p e s m args below meth c X hr hnm
  have X : CX E p l s m args meth c "DiceAudit$Loader" cX5_readDie 5 := X
  refine A_L (L' := [(0, .ref (x + 128))]) rfl ?_
  unfold f_X5_readDie at h
  refine A_aload_n X dX5_readDie_0 0 rfl ?_
  refine A_get X dX5_readDie_1 kcl_X5 2 (by decide) kw_243 g2 rfl ?_
  refine A_get X dX5_readDie_4 kcl_X2 0 (by decide) kw_140 g3 rfl ?_
  refine A_get X dX5_readDie_7 kcl_X0 2 (by decide) kw_70 g4 rfl ?_
  refine A_istore_n (L' := [(1, .int dc), (0, .ref (x + 128))]) X dX5_readDie_10 rfl (by decide) rfl ?_
  refine A_aload_n X dX5_readDie_11 1 rfl ?_
  refine A_iload_n X dX5_readDie_12 0 rfl ?_
  refine A_bipush (v := 6) X dX5_readDie_13 (by decide) ?_
  refine A_icmp_lt (tgt := 22) X dX5_readDie_15 h (by decide) (fun hc h => ?_) (fun hc h => ?_)
  · refine A_iconst (v := 0) X dX5_readDie_22 (by decide) ?_
    refine A_sub (L' := [(0, .ref (x + 128)), (1, .int dc)]) [1, 0] rfl ?_
    exact c_X5_readDie_L23 X hr  g0 g1 g2 g3 g4 g5 g6 g16 (fun q z0 z1 z2 z3 z4 => rfl) h
  · refine A_iconst (v := 5) X dX5_readDie_18 (by decide) ?_
    refine A_goto (tgt := 23) X dX5_readDie_19 (by decide) ?_
    refine A_sub (L' := [(0, .ref (x + 128)), (1, .int dc)]) [1, 0] rfl ?_
    exact c_X5_readDie_L23 X hr  g0 g1 g2 g3 g4 g5 g6 g16 (fun q z0 z1 z2 z3 z4 => rfl) h
abbrev P_X5_takeNewName (E : KE) (x : Nat)  (hp : Hp) (al : Option Nat) (out : Int32 × Int32 × Int32 × Int32 × Int32 × Int32) : Option Value → Hp → Option Nat → Prop := fun v0 hp' al' => v0 = none ∧ hp' (x + 128) = some (.inr (7, [.ref (x + 126), .ref (x + 142), .ref (x + 129), .int out.1, .int out.2.1])) ∧ hp' (x + 142) = some (.inr (11, [.ref (x + 126), .int out.2.2.1, .int out.2.2.2.1, .int out.2.2.2.2.1, .int out.2.2.2.2.2])) ∧ (∀ q, q ≠ (x + 128) → q ≠ (x + 142) → hp' q = hp q) ∧ al = al'
set_option maxHeartbeats 4000000 in
set_option maxRecDepth 100000 in
theorem c_X5_takeNewName {E : KE} {l : Launch} {hp : Hp} {al : Option Nat} {N : Nat} {x : Nat} {tl : Int32} {tb : Nat → Int32} {ec : Int32} {eo : Int32} {sd : Int32} {mn : Int32} {th : Int32} {pc : Int32} {ln : Nat → Int32} {lt : Nat → Int32} {kd : Int32} {ts : Int32} {te : Int32} {tv : Int32}  {out : Int32 × Int32 × Int32 × Int32 × Int32 × Int32} (g0 : hp (x + 126) = some (.inr (10, [.ref (x + 127), .int tl]))) (g1 : hp (x + 127) = some (.inl (kC E 0, 900, .inl tb))) (g2 : hp (x + 128) = some (.inr (7, [.ref (x + 126), .ref (x + 142), .ref (x + 129), .int ec, .int eo]))) (g3 : hp (x + 129) = some (.inr (4, [.ref (x + 130), .ref (x + 133), .ref (x + 136), .ref (x + 139), .int sd, .int mn, .int th]))) (g7 : hp (x + 133) = some (.inr (9, [.ref (x + 134), .ref (x + 135), .int pc]))) (g8 : hp (x + 134) = some (.inl (kC E 0, 6, .inl ln))) (g9 : hp (x + 135) = some (.inl (kC E 0, 24, .inl lt))) (g16 : hp (x + 142) = some (.inr (11, [.ref (x + 126), .int kd, .int ts, .int te, .int tv])))  (h : f_X5_takeNewName N tl tb pc ln lt ec eo kd ts te tv = some out) : AM E l yX5_takeNewName cX5_takeNewName 1 (Option.none : Option Jvm.ClassFile.FieldType) ⟨3, 0, 0, 71⟩ [.ref (x + 128)] hp al (P_X5_takeNewName E x hp al out) := by
  refine A_of (by decide +kernel) (Nat.le_of_ble_eq_true rfl) ?_
  intro p e s m args below meth c X hr hnm
  have X : CX E p l s m args meth c "DiceAudit$Loader" cX5_takeNewName 1 := X
  refine A_L (L' := [(0, .ref (x + 128))]) rfl ?_
  unfold f_X5_takeNewName at h
  refine A_aload_n X dX5_takeNewName_0 0 rfl ?_
  refine A_get X dX5_takeNewName_1 kcl_X5 1 (by decide) kw_242 g2 rfl ?_
  refine A_get X dX5_takeNewName_4 kcl_X9 1 (by decide) kw_223 g16 rfl ?_
  refine A_iconst (v := 1) X dX5_takeNewName_7 (by decide) ?_
  refine A_icmp_eq (tgt := 19) X dX5_takeNewName_8 h (by decide) (fun hc h => ?_) (fun hc h => ?_)
  · refine A_aload_n X dX5_takeNewName_19 0 rfl ?_
    refine A_get X dX5_takeNewName_20 kcl_X5 1 (by decide) kw_242 g2 rfl ?_
    refine A_get X dX5_takeNewName_23 kcl_X9 3 (by decide) kw_227 g16 rfl ?_
    refine A_aload_n X dX5_takeNewName_26 0 rfl ?_
    refine A_get X dX5_takeNewName_27 kcl_X5 1 (by decide) kw_242 g2 rfl ?_
    refine A_get X dX5_takeNewName_30 kcl_X9 2 (by decide) kw_225 g16 rfl ?_
    refine A_isub X dX5_takeNewName_33 ?_
    refine A_iconst (v := 4) X dX5_takeNewName_34 (by decide) ?_
    refine A_icmp_le (tgt := 46) X dX5_takeNewName_35 h (by decide) (fun hc h => ?_) (fun hc h => ?_)
    · refine A_aload_n X dX5_takeNewName_46 0 rfl ?_
      refine A_get X dX5_takeNewName_47 kcl_X5 2 (by decide) kw_243 g2 rfl ?_
      refine A_get X dX5_takeNewName_50 kcl_X2 1 (by decide) kw_143 g3 rfl ?_
      refine A_aload_n X dX5_takeNewName_53 0 rfl ?_
      refine A_get X dX5_takeNewName_54 kcl_X5 0 (by decide) kw_241 g2 rfl ?_
      refine A_aload_n X dX5_takeNewName_57 0 rfl ?_
      refine A_get X dX5_takeNewName_58 kcl_X5 1 (by decide) kw_242 g2 rfl ?_
      refine A_get X dX5_takeNewName_61 kcl_X9 2 (by decide) kw_225 g16 rfl ?_
      refine A_aload_n X dX5_takeNewName_64 0 rfl ?_
      refine A_get X dX5_takeNewName_65 kcl_X5 1 (by decide) kw_242 g2 rfl ?_
      refine A_get X dX5_takeNewName_68 kcl_X9 3 (by decide) kw_227 g16 rfl ?_
      obtain ⟨t1, hct1, h⟩ := bind_o h
      refine A_cp (k' := 0) (n' := 0) (A_runV (rest := []) X dX5_takeNewName_71 (c_X7_find g7 g8 g9 g0 g1  hct1) kY_X7_find kw_450 g7 rfl rfl ⟨(Nat.le_of_ble_eq_true rfl), (Nat.le_of_ble_eq_true rfl), (Nat.le_of_ble_eq_true rfl), (Nat.le_of_ble_eq_true rfl)⟩ rfl (Nat.le_of_ble_eq_true rfl)) rfl rfl ?_
      refine A_iconst (v := (-1)) X dX5_takeNewName_74 (by decide) ?_
      refine A_icmp_eq (tgt := 86) X dX5_takeNewName_75 h (by decide) (fun hc h => ?_) (fun hc h => ?_)
      · refine A_aload_n X dX5_takeNewName_86 0 rfl ?_
        refine A_get X dX5_takeNewName_87 kcl_X5 1 (by decide) kw_242 g2 rfl ?_
        obtain ⟨t2, hct2, h⟩ := bind_o h
        refine A_c (k' := 0) (n' := 0) rfl rfl (A_runV (rest := []) X dX5_takeNewName_90 (c_X9_advance g0 g1 g16  hct2) kY_X9_advance kw_375 g16 rfl rfl ⟨(Nat.le_of_ble_eq_true rfl), (Nat.le_of_ble_eq_true rfl), (Nat.le_of_ble_eq_true rfl), (Nat.le_of_ble_eq_true rfl)⟩ rfl (Nat.le_of_ble_eq_true rfl)) (fun v9 hp1 al9 hP => ?_)
        obtain ⟨rfl, k1_0, n1, rfl⟩ := hP
        replace k1_0 : hp1 (x + 142) = some (.inr (11, [.ref (x + 126), .int t2.1, .int t2.2.1, .int t2.2.2.1, .int t2.2.2.2])) := k1_0
        refine A_st (st' := []) rfl ?_
        cases h
        exact A_vret X dX5_takeNewName_93 hr ⟨rfl, ((n1 _ (by omega)).trans g2), k1_0, (fun q z0 z1 => (n1 q z1)), rfl⟩ (Nat.le_of_ble_eq_true rfl) (Nat.le_of_ble_eq_true rfl)
      · refine A_aload_n X dX5_takeNewName_78 0 rfl ?_
        refine A_iconst (v := 3) X dX5_takeNewName_79 (by decide) ?_
        obtain ⟨t3, hct3, h⟩ := bind_o h
        refine A_c (k' := 0) (n' := 0) rfl rfl (A_runV (rest := []) X dX5_takeNewName_80 (c_X5_fail g2 g16  hct3) kY_X5_fail kw_371 g2 rfl rfl ⟨(Nat.le_of_ble_eq_true rfl), (Nat.le_of_ble_eq_true rfl), (Nat.le_of_ble_eq_true rfl), (Nat.le_of_ble_eq_true rfl)⟩ rfl (Nat.le_of_ble_eq_true rfl)) (fun v9 hp1 al9 hP => ?_)
        obtain ⟨rfl, k1_0, n1, rfl⟩ := hP
        replace k1_0 : hp1 (x + 128) = some (.inr (7, [.ref (x + 126), .ref (x + 142), .ref (x + 129), .int t3.1, .int t3.2])) := k1_0
        refine A_st (st' := []) rfl ?_
        refine A_goto (tgt := 93) X dX5_takeNewName_83 (by decide) ?_
        cases h
        exact A_vret X dX5_takeNewName_93 hr ⟨rfl, k1_0, ((n1 _ (by omega)).trans g16), (fun q z0 z1 => (n1 q z0)), rfl⟩ (Nat.le_of_ble_eq_true rfl) (Nat.le_of_ble_eq_true rfl)
    · refine A_aload_n X dX5_takeNewName_38 0 rfl ?_
      refine A_iconst (v := 2) X dX5_takeNewName_39 (by decide) ?_
      obtain ⟨t4, hct4, h⟩ := bind_o h
      refine A_c (k' := 0) (n' := 0) rfl rfl (A_runV (rest := []) X dX5_takeNewName_40 (c_X5_fail g2 g16  hct4) kY_X5_fail kw_371 g2 rfl rfl ⟨(Nat.le_of_ble_eq_true rfl), (Nat.le_of_ble_eq_true rfl), (Nat.le_of_ble_eq_true rfl), (Nat.le_of_ble_eq_true rfl)⟩ rfl (Nat.le_of_ble_eq_true rfl)) (fun v9 hp1 al9 hP => ?_)
      obtain ⟨rfl, k1_0, n1, rfl⟩ := hP
      replace k1_0 : hp1 (x + 128) = some (.inr (7, [.ref (x + 126), .ref (x + 142), .ref (x + 129), .int t4.1, .int t4.2])) := k1_0
      refine A_st (st' := []) rfl ?_
      refine A_goto (tgt := 93) X dX5_takeNewName_43 (by decide) ?_
      cases h
      exact A_vret X dX5_takeNewName_93 hr ⟨rfl, k1_0, ((n1 _ (by omega)).trans g16), (fun q z0 z1 => (n1 q z0)), rfl⟩ (Nat.le_of_ble_eq_true rfl) (Nat.le_of_ble_eq_true rfl)
  · refine A_aload_n X dX5_takeNewName_11 0 rfl ?_
    refine A_iconst (v := 1) X dX5_takeNewName_12 (by decide) ?_
    obtain ⟨t5, hct5, h⟩ := bind_o h
    refine A_c (k' := 0) (n' := 0) rfl rfl (A_runV (rest := []) X dX5_takeNewName_13 (c_X5_fail g2 g16  hct5) kY_X5_fail kw_371 g2 rfl rfl ⟨(Nat.le_of_ble_eq_true rfl), (Nat.le_of_ble_eq_true rfl), (Nat.le_of_ble_eq_true rfl), (Nat.le_of_ble_eq_true rfl)⟩ rfl (Nat.le_of_ble_eq_true rfl)) (fun v9 hp1 al9 hP => ?_)
    obtain ⟨rfl, k1_0, n1, rfl⟩ := hP
    replace k1_0 : hp1 (x + 128) = some (.inr (7, [.ref (x + 126), .ref (x + 142), .ref (x + 129), .int t5.1, .int t5.2])) := k1_0
    refine A_st (st' := []) rfl ?_
    refine A_goto (tgt := 93) X dX5_takeNewName_16 (by decide) ?_
    cases h
    exact A_vret X dX5_takeNewName_93 hr ⟨rfl, k1_0, ((n1 _ (by omega)).trans g16), (fun q z0 z1 => (n1 q z0)), rfl⟩ (Nat.le_of_ble_eq_true rfl) (Nat.le_of_ble_eq_true rfl)
abbrev P_X5_readPlayer (E : KE) (x : Nat)  (hp : Hp) (al : Option Nat) (out : Int32 × Int32 × Int32 × (Nat → Int32) × (Nat → Int32) × Int32 × Int32 × Int32 × Int32) : Option Value → Hp → Option Nat → Prop := fun v0 hp' al' => v0 = none ∧ hp' (x + 128) = some (.inr (7, [.ref (x + 126), .ref (x + 142), .ref (x + 129), .int out.1, .int out.2.1])) ∧ hp' (x + 133) = some (.inr (9, [.ref (x + 134), .ref (x + 135), .int out.2.2.1])) ∧ hp' (x + 134) = some (.inl (kC E 0, 6, .inl out.2.2.2.1)) ∧ hp' (x + 135) = some (.inl (kC E 0, 24, .inl out.2.2.2.2.1)) ∧ hp' (x + 142) = some (.inr (11, [.ref (x + 126), .int out.2.2.2.2.2.1, .int out.2.2.2.2.2.2.1, .int out.2.2.2.2.2.2.2.1, .int out.2.2.2.2.2.2.2.2])) ∧ (∀ q, q ≠ (x + 128) → q ≠ (x + 133) → q ≠ (x + 134) → q ≠ (x + 135) → q ≠ (x + 142) → hp' q = hp q) ∧ al = al'
set_option maxHeartbeats 4000000 in
set_option maxRecDepth 100000 in
theorem c_X5_readPlayer_L21 {E : KE} {p : Program} {l : Launch} {e : Env} {s : State} {m : MethodId} {args : Array Value} {below : List Frame} {meth : Method} {c : Code} {al : Option Nat} {N : Nat} {x : Nat} {tl : Int32} {tb : Nat → Int32} {sd : Int32} {mn : Int32} {th : Int32} {hp0 : Hp} {out : Int32 × Int32 × Int32 × (Nat → Int32) × (Nat → Int32) × Int32 × Int32 × Int32 × Int32}  (X : CX E p l s m args meth c "DiceAudit$Loader" cX5_readPlayer 3) (hr : meth.sig.returnType = (Option.none : Option Jvm.ClassFile.FieldType))   : ∀ {s0 : Int32} {ec : Int32} {eo : Int32} {pc : Int32} {ln : Nat → Int32} {lt : Nat → Int32} {kd : Int32} {ts : Int32} {te : Int32} {tv : Int32} {hp : Hp}, hp (x + 126) = some (.inr (10, [.ref (x + 127), .int tl])) → hp (x + 127) = some (.inl (kC E 0, 900, .inl tb)) → hp (x + 128) = some (.inr (7, [.ref (x + 126), .ref (x + 142), .ref (x + 129), .int ec, .int eo])) → hp (x + 129) = some (.inr (4, [.ref (x + 130), .ref (x + 133), .ref (x + 136), .ref (x + 139), .int sd, .int mn, .int th])) → hp (x + 133) = some (.inr (9, [.ref (x + 134), .ref (x + 135), .int pc])) → hp (x + 134) = some (.inl (kC E 0, 6, .inl ln)) → hp (x + 135) = some (.inl (kC E 0, 24, .inl lt)) → hp (x + 142) = some (.inr (11, [.ref (x + 126), .int kd, .int ts, .int te, .int tv])) → (∀ q, q ≠ (x + 128) → q ≠ (x + 133) → q ≠ (x + 134) → q ≠ (x + 135) → q ≠ (x + 142) → hp q = hp0 q) → f_X5_readPlayer_L21 N tl tb s0 ec eo pc ln lt kd ts te tv = some out → AW E p l e ⟨4, 0, 0, 91⟩ s m args below meth c 3 (MQ below (kQc E (P_X5_readPlayer E x hp0 al out)) args s 0 0 (kA E)) hp al 0 0 21 [(0, .ref (x + 128))] [.int s0, .ref (x + 128)] := by
  intro s0 ec eo pc ln lt kd ts te tv hp g0 g1 g2 g3 g7 g8 g9 g16 hfr h
  unfold f_X5_readPlayer_L21 at h
  obtain ⟨t1, hct1, h⟩ := bind_o h
  refine A_c (k' := 0) (n' := 0) rfl rfl (A_runV (rest := []) X dX5_readPlayer_21 (c_X5_takeKeyword g0 g1 g2 g16  hct1) kY_X5_takeKeyword kw_367 g2 rfl rfl ⟨(Nat.le_of_ble_eq_true rfl), (Nat.le_of_ble_eq_true rfl), (Nat.le_of_ble_eq_true rfl), (Nat.le_of_ble_eq_true rfl)⟩ rfl (Nat.le_of_ble_eq_true rfl)) (fun v9 hp1 al9 hP => ?_)
  obtain ⟨rfl, k1_0, k1_1, n1, rfl⟩ := hP
  replace k1_0 : hp1 (x + 128) = some (.inr (7, [.ref (x + 126), .ref (x + 142), .ref (x + 129), .int t1.1, .int t1.2.1])) := k1_0
  replace k1_1 : hp1 (x + 142) = some (.inr (11, [.ref (x + 126), .int t1.2.2.1, .int t1.2.2.2.1, .int t1.2.2.2.2.1, .int t1.2.2.2.2.2])) := k1_1
  refine A_st (st' := []) rfl ?_
  refine A_aload_n X dX5_readPlayer_24 0 rfl ?_
  refine A_get X dX5_readPlayer_25 kcl_X5 1 (by decide) kw_242 k1_0 rfl ?_
  refine A_get X dX5_readPlayer_28 kcl_X9 2 (by decide) kw_225 k1_1 rfl ?_
  refine A_istore_n (L' := [(1, .int t1.2.2.2.1), (0, .ref (x + 128))]) X dX5_readPlayer_31 rfl (by decide) rfl ?_
  refine A_aload_n X dX5_readPlayer_32 1 rfl ?_
  refine A_get X dX5_readPlayer_33 kcl_X5 1 (by decide) kw_242 k1_0 rfl ?_
  refine A_get X dX5_readPlayer_36 kcl_X9 3 (by decide) kw_227 k1_1 rfl ?_
  refine A_istore_n (L' := [(2, .int t1.2.2.2.2.1), (1, .int t1.2.2.2.1), (0, .ref (x + 128))]) X dX5_readPlayer_39 rfl (by decide) rfl ?_
  refine A_aload_n X dX5_readPlayer_40 2 rfl ?_
  obtain ⟨t2, hct2, h⟩ := bind_o h
  refine A_c (k' := 0) (n' := 0) rfl rfl (A_runV (rest := []) X dX5_readPlayer_41 (c_X5_takeNewName ((n1 _ (by omega) (by omega)).trans g0) ((n1 _ (by omega) (by omega)).trans g1) k1_0 ((n1 _ (by omega) (by omega)).trans g3) ((n1 _ (by omega) (by omega)).trans g7) ((n1 _ (by omega) (by omega)).trans g8) ((n1 _ (by omega) (by omega)).trans g9) k1_1  hct2) kY_X5_takeNewName kw_446 k1_0 rfl rfl ⟨(Nat.le_of_ble_eq_true rfl), (Nat.le_of_ble_eq_true rfl), (Nat.le_of_ble_eq_true rfl), (Nat.le_of_ble_eq_true rfl)⟩ rfl (Nat.le_of_ble_eq_true rfl)) (fun v9 hp2 al9 hP => ?_)
  obtain ⟨rfl, k2_0, k2_1, n2, rfl⟩ := hP
  replace k2_0 : hp2 (x + 128) = some (.inr (7, [.ref (x + 126), .ref (x + 142), .ref (x + 129), .int t2.1, .int t2.2.1])) := k2_0
  replace k2_1 : hp2 (x + 142) = some (.inr (11, [.ref (x + 126), .int t2.2.2.1, .int t2.2.2.2.1, .int t2.2.2.2.2.1, .int t2.2.2.2.2.2])) := k2_1
  refine A_st (st' := []) rfl ?_
  refine A_aload_n X dX5_readPlayer_44 2 rfl ?_
  refine A_iconst (v := 0) X dX5_readPlayer_45 (by decide) ?_
  obtain ⟨t3, hct3, h⟩ := bind_o h
  refine A_c (k' := 0) (n' := 0) rfl rfl (A_runV (rest := []) X dX5_readPlayer_46 (c_X5_takeSemicolon ((n2 _ (by omega) (by omega)).trans ((n1 _ (by omega) (by omega)).trans g0)) ((n2 _ (by omega) (by omega)).trans ((n1 _ (by omega) (by omega)).trans g1)) k2_0 k2_1  hct3) kY_X5_takeSemicolon kw_385 k2_0 rfl rfl ⟨(Nat.le_of_ble_eq_true rfl), (Nat.le_of_ble_eq_true rfl), (Nat.le_of_ble_eq_true rfl), (Nat.le_of_ble_eq_true rfl)⟩ rfl (Nat.le_of_ble_eq_true rfl)) (fun v9 hp3 al9 hP => ?_)
  obtain ⟨rfl, k3_0, k3_1, n3, rfl⟩ := hP
  replace k3_0 : hp3 (x + 128) = some (.inr (7, [.ref (x + 126), .ref (x + 142), .ref (x + 129), .int t3.1, .int t3.2.1])) := k3_0
  replace k3_1 : hp3 (x + 142) = some (.inr (11, [.ref (x + 126), .int t3.2.2.1, .int t3.2.2.2.1, .int t3.2.2.2.2.1, .int t3.2.2.2.2.2])) := k3_1
  refine A_st (st' := []) rfl ?_
  refine A_aload_n X dX5_readPlayer_49 2 rfl ?_
  refine A_get X dX5_readPlayer_50 kcl_X5 3 (by decide) kw_245 k3_0 rfl ?_
  refine A_if_ne (tgt := 72) X dX5_readPlayer_53 h (by decide) (fun hc h => ?_) (fun hc h => ?_)
  · cases h
    exact A_vret X dX5_readPlayer_72 hr ⟨rfl, k3_0, ((n3 _ (by omega) (by omega)).trans ((n2 _ (by omega) (by omega)).trans ((n1 _ (by omega) (by omega)).trans g7))), ((n3 _ (by omega) (by omega)).trans ((n2 _ (by omega) (by omega)).trans ((n1 _ (by omega) (by omega)).trans g8))), ((n3 _ (by omega) (by omega)).trans ((n2 _ (by omega) (by omega)).trans ((n1 _ (by omega) (by omega)).trans g9))), k3_1, (fun q z0 z1 z2 z3 z4 => ((n3 q z0 z4).trans ((n2 q z0 z4).trans ((n1 q z0 z4).trans (hfr q z0 z1 z2 z3 z4))))), rfl⟩ (Nat.le_of_ble_eq_true rfl) (Nat.le_of_ble_eq_true rfl)
  · refine A_aload_n X dX5_readPlayer_56 2 rfl ?_
    refine A_get X dX5_readPlayer_57 kcl_X5 2 (by decide) kw_243 k3_0 rfl ?_
    refine A_get X dX5_readPlayer_60 kcl_X2 1 (by decide) kw_143 ((n3 _ (by omega) (by omega)).trans ((n2 _ (by omega) (by omega)).trans ((n1 _ (by omega) (by omega)).trans g3))) rfl ?_
    refine A_aload_n X dX5_readPlayer_63 2 rfl ?_
    refine A_get X dX5_readPlayer_64 kcl_X5 0 (by decide) kw_241 k3_0 rfl ?_
    refine A_iload_n X dX5_readPlayer_67 1 rfl ?_
    refine A_iload_n X dX5_readPlayer_68 0 rfl ?_
    obtain ⟨t4, hct4, h⟩ := bind_o h
    refine A_c (k' := 0) (n' := 0) rfl rfl (A_runV (rest := []) X dX5_readPlayer_69 (c_X7_add ((n3 _ (by omega) (by omega)).trans ((n2 _ (by omega) (by omega)).trans ((n1 _ (by omega) (by omega)).trans g7))) ((n3 _ (by omega) (by omega)).trans ((n2 _ (by omega) (by omega)).trans ((n1 _ (by omega) (by omega)).trans g8))) ((n3 _ (by omega) (by omega)).trans ((n2 _ (by omega) (by omega)).trans ((n1 _ (by omega) (by omega)).trans g9))) ((n3 _ (by omega) (by omega)).trans ((n2 _ (by omega) (by omega)).trans ((n1 _ (by omega) (by omega)).trans g0))) ((n3 _ (by omega) (by omega)).trans ((n2 _ (by omega) (by omega)).trans ((n1 _ (by omega) (by omega)).trans g1))) (by omega) hct4) kY_X7_add kw_462 ((n3 _ (by omega) (by omega)).trans ((n2 _ (by omega) (by omega)).trans ((n1 _ (by omega) (by omega)).trans g7))) rfl rfl ⟨(Nat.le_of_ble_eq_true rfl), (Nat.le_of_ble_eq_true rfl), (Nat.le_of_ble_eq_true rfl), (Nat.le_of_ble_eq_true rfl)⟩ rfl (Nat.le_of_ble_eq_true rfl)) (fun v9 hp4 al9 hP => ?_)
    obtain ⟨rfl, k4_0, k4_1, k4_2, n4, rfl⟩ := hP
    replace k4_0 : hp4 (x + 133) = some (.inr (9, [.ref (x + 134), .ref (x + 135), .int t4.1])) := k4_0
    replace k4_1 : hp4 (x + 134) = some (.inl (kC E 0, 6, .inl t4.2.1)) := k4_1
    replace k4_2 : hp4 (x + 135) = some (.inl (kC E 0, 24, .inl t4.2.2)) := k4_2
    refine A_st (st' := []) rfl ?_
    cases h
    exact A_vret X dX5_readPlayer_72 hr ⟨rfl, ((n4 _ (by omega) (by omega) (by omega)).trans k3_0), k4_0, k4_1, k4_2, ((n4 _ (by omega) (by omega) (by omega)).trans k3_1), (fun q z0 z1 z2 z3 z4 => ((n4 q z1 z2 z3).trans ((n3 q z0 z4).trans ((n2 q z0 z4).trans ((n1 q z0 z4).trans (hfr q z0 z1 z2 z3 z4)))))), rfl⟩ (Nat.le_of_ble_eq_true rfl) (Nat.le_of_ble_eq_true rfl)
set_option maxHeartbeats 4000000 in
set_option maxRecDepth 100000 in
theorem c_X5_readPlayer {E : KE} {l : Launch} {hp : Hp} {al : Option Nat} {N : Nat} {x : Nat} {tl : Int32} {tb : Nat → Int32} {ec : Int32} {eo : Int32} {sd : Int32} {mn : Int32} {th : Int32} {pc : Int32} {ln : Nat → Int32} {lt : Nat → Int32} {kd : Int32} {ts : Int32} {te : Int32} {tv : Int32}  {out : Int32 × Int32 × Int32 × (Nat → Int32) × (Nat → Int32) × Int32 × Int32 × Int32 × Int32} (g0 : hp (x + 126) = some (.inr (10, [.ref (x + 127), .int tl]))) (g1 : hp (x + 127) = some (.inl (kC E 0, 900, .inl tb))) (g2 : hp (x + 128) = some (.inr (7, [.ref (x + 126), .ref (x + 142), .ref (x + 129), .int ec, .int eo]))) (g3 : hp (x + 129) = some (.inr (4, [.ref (x + 130), .ref (x + 133), .ref (x + 136), .ref (x + 139), .int sd, .int mn, .int th]))) (g7 : hp (x + 133) = some (.inr (9, [.ref (x + 134), .ref (x + 135), .int pc]))) (g8 : hp (x + 134) = some (.inl (kC E 0, 6, .inl ln))) (g9 : hp (x + 135) = some (.inl (kC E 0, 24, .inl lt))) (g16 : hp (x + 142) = some (.inr (11, [.ref (x + 126), .int kd, .int ts, .int te, .int tv])))  (h : f_X5_readPlayer N tl tb ec eo pc ln lt kd ts te tv = some out) : AM E l yX5_readPlayer cX5_readPlayer 3 (Option.none : Option Jvm.ClassFile.FieldType) ⟨4, 0, 0, 91⟩ [.ref (x + 128)] hp al (P_X5_readPlayer E x hp al out) := by
  refine A_of (by decide +kernel) (Nat.le_of_ble_eq_true rfl) ?_
  intro p e s m args below meth c X hr hnm
  have X : CX E p l s m args meth c "DiceAudit$Loader" cX5_readPlayer 3 := X
  refine A_L (L' := [(0, .ref (x + 128))]) rfl ?_
  unfold f_X5_readPlayer at h
  refine A_aload_n X dX5_readPlayer_0 0 rfl ?_
  refine A_aload_n X dX5_readPlayer_1 0 rfl ?_
  refine A_get X dX5_readPlayer_2 kcl_X5 2 (by decide) kw_243 g2 rfl ?_
  refine A_get X dX5_readPlayer_5 kcl_X2 1 (by decide) kw_143 g3 rfl ?_
  refine A_get X dX5_readPlayer_8 kcl_X7 2 (by decide) kw_88 g7 rfl ?_
  refine A_bipush (v := 6) X dX5_readPlayer_11 (by decide) ?_
  refine A_icmp_lt (tgt := 20) X dX5_readPlayer_13 h (by decide) (fun hc h => ?_) (fun hc h => ?_)
  · refine A_iconst (v := 0) X dX5_readPlayer_20 (by decide) ?_
    refine A_sub (L' := [(0, .ref (x + 128))]) [0] rfl ?_
    exact c_X5_readPlayer_L21 X hr  g0 g1 g2 g3 g7 g8 g9 g16 (fun q z0 z1 z2 z3 z4 => rfl) h
  · refine A_iconst (v := 5) X dX5_readPlayer_16 (by decide) ?_
    refine A_goto (tgt := 21) X dX5_readPlayer_17 (by decide) ?_
    refine A_sub (L' := [(0, .ref (x + 128))]) [0] rfl ?_
    exact c_X5_readPlayer_L21 X hr  g0 g1 g2 g3 g7 g8 g9 g16 (fun q z0 z1 z2 z3 z4 => rfl) h
abbrev P_X5_takeKnownName (E : KE) (x : Nat)  (hp : Hp) (al : Option Nat) (out : Int32 × Int32 × Int32 × Int32 × Int32 × Int32 × Int32) : Option Value → Hp → Option Nat → Prop := fun v0 hp' al' => v0 = some (.int out.1) ∧ hp' (x + 128) = some (.inr (7, [.ref (x + 126), .ref (x + 142), .ref (x + 129), .int out.2.1, .int out.2.2.1])) ∧ hp' (x + 142) = some (.inr (11, [.ref (x + 126), .int out.2.2.2.1, .int out.2.2.2.2.1, .int out.2.2.2.2.2.1, .int out.2.2.2.2.2.2])) ∧ (∀ q, q ≠ (x + 128) → q ≠ (x + 142) → hp' q = hp q) ∧ al = al'
set_option maxHeartbeats 4000000 in
set_option maxRecDepth 100000 in
theorem c_X5_takeKnownName {E : KE} {l : Launch} {hp : Hp} {al : Option Nat} {N : Nat} {x : Nat} {tl : Int32} {tb : Nat → Int32} {ec : Int32} {eo : Int32} {sd : Int32} {mn : Int32} {th : Int32} {pc : Int32} {ln : Nat → Int32} {lt : Nat → Int32} {kd : Int32} {ts : Int32} {te : Int32} {tv : Int32}  {out : Int32 × Int32 × Int32 × Int32 × Int32 × Int32 × Int32} (g0 : hp (x + 126) = some (.inr (10, [.ref (x + 127), .int tl]))) (g1 : hp (x + 127) = some (.inl (kC E 0, 900, .inl tb))) (g2 : hp (x + 128) = some (.inr (7, [.ref (x + 126), .ref (x + 142), .ref (x + 129), .int ec, .int eo]))) (g3 : hp (x + 129) = some (.inr (4, [.ref (x + 130), .ref (x + 133), .ref (x + 136), .ref (x + 139), .int sd, .int mn, .int th]))) (g7 : hp (x + 133) = some (.inr (9, [.ref (x + 134), .ref (x + 135), .int pc]))) (g8 : hp (x + 134) = some (.inl (kC E 0, 6, .inl ln))) (g9 : hp (x + 135) = some (.inl (kC E 0, 24, .inl lt))) (g16 : hp (x + 142) = some (.inr (11, [.ref (x + 126), .int kd, .int ts, .int te, .int tv])))  (h : f_X5_takeKnownName N tl tb pc ln lt ec eo kd ts te tv = some out) : AM E l yX5_takeKnownName cX5_takeKnownName 2 (Option.some Jvm.ClassFile.FieldType.int) ⟨3, 0, 0, 71⟩ [.ref (x + 128)] hp al (P_X5_takeKnownName E x hp al out) := by
  refine A_of (by decide +kernel) (Nat.le_of_ble_eq_true rfl) ?_
  intro p e s m args below meth c X hr hnm
  have X : CX E p l s m args meth c "DiceAudit$Loader" cX5_takeKnownName 2 := X
  refine A_L (L' := [(0, .ref (x + 128))]) rfl ?_
  unfold f_X5_takeKnownName at h
  refine A_aload_n X dX5_takeKnownName_0 0 rfl ?_
  refine A_get X dX5_takeKnownName_1 kcl_X5 1 (by decide) kw_242 g2 rfl ?_
  refine A_get X dX5_takeKnownName_4 kcl_X9 1 (by decide) kw_223 g16 rfl ?_
  refine A_iconst (v := 1) X dX5_takeKnownName_7 (by decide) ?_
  refine A_icmp_eq (tgt := 18) X dX5_takeKnownName_8 h (by decide) (fun hc h => ?_) (fun hc h => ?_)
  · refine A_aload_n X dX5_takeKnownName_18 0 rfl ?_
    refine A_get X dX5_takeKnownName_19 kcl_X5 2 (by decide) kw_243 g2 rfl ?_
    refine A_get X dX5_takeKnownName_22 kcl_X2 1 (by decide) kw_143 g3 rfl ?_
    refine A_aload_n X dX5_takeKnownName_25 0 rfl ?_
    refine A_get X dX5_takeKnownName_26 kcl_X5 0 (by decide) kw_241 g2 rfl ?_
    refine A_aload_n X dX5_takeKnownName_29 0 rfl ?_
    refine A_get X dX5_takeKnownName_30 kcl_X5 1 (by decide) kw_242 g2 rfl ?_
    refine A_get X dX5_takeKnownName_33 kcl_X9 2 (by decide) kw_225 g16 rfl ?_
    refine A_aload_n X dX5_takeKnownName_36 0 rfl ?_
    refine A_get X dX5_takeKnownName_37 kcl_X5 1 (by decide) kw_242 g2 rfl ?_
    refine A_get X dX5_takeKnownName_40 kcl_X9 3 (by decide) kw_227 g16 rfl ?_
    obtain ⟨t1, hct1, h⟩ := bind_o h
    refine A_cp (k' := 0) (n' := 0) (A_runV (rest := []) X dX5_takeKnownName_43 (c_X7_find g7 g8 g9 g0 g1  hct1) kY_X7_find kw_450 g7 rfl rfl ⟨(Nat.le_of_ble_eq_true rfl), (Nat.le_of_ble_eq_true rfl), (Nat.le_of_ble_eq_true rfl), (Nat.le_of_ble_eq_true rfl)⟩ rfl (Nat.le_of_ble_eq_true rfl)) rfl rfl ?_
    refine A_istore_n (L' := [(1, .int t1), (0, .ref (x + 128))]) X dX5_takeKnownName_46 rfl (by decide) rfl ?_
    refine A_iload_n X dX5_takeKnownName_47 0 rfl ?_
    refine A_iconst (v := (-1)) X dX5_takeKnownName_48 (by decide) ?_
    refine A_icmp_ne (tgt := 59) X dX5_takeKnownName_49 h (by decide) (fun hc h => ?_) (fun hc h => ?_)
    · refine A_aload_n X dX5_takeKnownName_59 1 rfl ?_
      refine A_get X dX5_takeKnownName_60 kcl_X5 1 (by decide) kw_242 g2 rfl ?_
      obtain ⟨t2, hct2, h⟩ := bind_o h
      refine A_c (k' := 0) (n' := 0) rfl rfl (A_runV (rest := []) X dX5_takeKnownName_63 (c_X9_advance g0 g1 g16  hct2) kY_X9_advance kw_375 g16 rfl rfl ⟨(Nat.le_of_ble_eq_true rfl), (Nat.le_of_ble_eq_true rfl), (Nat.le_of_ble_eq_true rfl), (Nat.le_of_ble_eq_true rfl)⟩ rfl (Nat.le_of_ble_eq_true rfl)) (fun v9 hp1 al9 hP => ?_)
      obtain ⟨rfl, k1_0, n1, rfl⟩ := hP
      replace k1_0 : hp1 (x + 142) = some (.inr (11, [.ref (x + 126), .int t2.1, .int t2.2.1, .int t2.2.2.1, .int t2.2.2.2])) := k1_0
      refine A_st (st' := []) rfl ?_
      refine A_iload_n X dX5_takeKnownName_66 0 rfl ?_
      cases h
      exact A_iret X dX5_takeKnownName_67 hr ⟨rfl, ((n1 _ (by omega)).trans g2), k1_0, (fun q z0 z1 => (n1 q z1)), rfl⟩ (Nat.le_of_ble_eq_true rfl) (Nat.le_of_ble_eq_true rfl)
    · refine A_aload_n X dX5_takeKnownName_52 1 rfl ?_
      refine A_iconst (v := 4) X dX5_takeKnownName_53 (by decide) ?_
      obtain ⟨t3, hct3, h⟩ := bind_o h
      refine A_c (k' := 0) (n' := 0) rfl rfl (A_runV (rest := []) X dX5_takeKnownName_54 (c_X5_fail g2 g16  hct3) kY_X5_fail kw_371 g2 rfl rfl ⟨(Nat.le_of_ble_eq_true rfl), (Nat.le_of_ble_eq_true rfl), (Nat.le_of_ble_eq_true rfl), (Nat.le_of_ble_eq_true rfl)⟩ rfl (Nat.le_of_ble_eq_true rfl)) (fun v9 hp1 al9 hP => ?_)
      obtain ⟨rfl, k1_0, n1, rfl⟩ := hP
      replace k1_0 : hp1 (x + 128) = some (.inr (7, [.ref (x + 126), .ref (x + 142), .ref (x + 129), .int t3.1, .int t3.2])) := k1_0
      refine A_st (st' := []) rfl ?_
      refine A_iconst (v := (-1)) X dX5_takeKnownName_57 (by decide) ?_
      cases h
      exact A_iret X dX5_takeKnownName_58 hr ⟨rfl, k1_0, ((n1 _ (by omega)).trans g16), (fun q z0 z1 => (n1 q z0)), rfl⟩ (Nat.le_of_ble_eq_true rfl) (Nat.le_of_ble_eq_true rfl)
  · refine A_aload_n X dX5_takeKnownName_11 0 rfl ?_
    refine A_iconst (v := 1) X dX5_takeKnownName_12 (by decide) ?_
    obtain ⟨t4, hct4, h⟩ := bind_o h
    refine A_c (k' := 0) (n' := 0) rfl rfl (A_runV (rest := []) X dX5_takeKnownName_13 (c_X5_fail g2 g16  hct4) kY_X5_fail kw_371 g2 rfl rfl ⟨(Nat.le_of_ble_eq_true rfl), (Nat.le_of_ble_eq_true rfl), (Nat.le_of_ble_eq_true rfl), (Nat.le_of_ble_eq_true rfl)⟩ rfl (Nat.le_of_ble_eq_true rfl)) (fun v9 hp1 al9 hP => ?_)
    obtain ⟨rfl, k1_0, n1, rfl⟩ := hP
    replace k1_0 : hp1 (x + 128) = some (.inr (7, [.ref (x + 126), .ref (x + 142), .ref (x + 129), .int t4.1, .int t4.2])) := k1_0
    refine A_st (st' := []) rfl ?_
    refine A_iconst (v := (-1)) X dX5_takeKnownName_16 (by decide) ?_
    cases h
    exact A_iret X dX5_takeKnownName_17 hr ⟨rfl, k1_0, ((n1 _ (by omega)).trans g16), (fun q z0 z1 => (n1 q z0)), rfl⟩ (Nat.le_of_ble_eq_true rfl) (Nat.le_of_ble_eq_true rfl)
abbrev P_X5_readThrow (E : KE) (x : Nat) (mn : Int32) (th : Int32) (hp : Hp) (al : Option Nat) (out : Int32 × Int32 × Int32 × Int32 × (Nat → Int32) × (Nat → Int32) × Int32 × Int32 × Int32 × Int32) : Option Value → Hp → Option Nat → Prop := fun v0 hp' al' => v0 = none ∧ hp' (x + 128) = some (.inr (7, [.ref (x + 126), .ref (x + 142), .ref (x + 129), .int out.1, .int out.2.1])) ∧ hp' (x + 129) = some (.inr (4, [.ref (x + 130), .ref (x + 133), .ref (x + 136), .ref (x + 139), .int out.2.2.1, .int mn, .int th])) ∧ hp' (x + 136) = some (.inr (6, [.ref (x + 137), .ref (x + 138), .int out.2.2.2.1])) ∧ hp' (x + 137) = some (.inl (kC E 0, 300, .inl out.2.2.2.2.1)) ∧ hp' (x + 138) = some (.inl (kC E 0, 432, .inl out.2.2.2.2.2.1)) ∧ hp' (x + 142) = some (.inr (11, [.ref (x + 126), .int out.2.2.2.2.2.2.1, .int out.2.2.2.2.2.2.2.1, .int out.2.2.2.2.2.2.2.2.1, .int out.2.2.2.2.2.2.2.2.2])) ∧ (∀ q, q ≠ (x + 128) → q ≠ (x + 129) → q ≠ (x + 136) → q ≠ (x + 137) → q ≠ (x + 138) → q ≠ (x + 142) → hp' q = hp q) ∧ al = al'
set_option maxHeartbeats 4000000 in
set_option maxRecDepth 100000 in
theorem c_X5_readThrow_L63 {E : KE} {p : Program} {l : Launch} {e : Env} {s : State} {m : MethodId} {args : Array Value} {below : List Frame} {meth : Method} {c : Code} {al : Option Nat} {N : Nat} {x : Nat} {tl : Int32} {tb : Nat → Int32} {mn : Int32} {th : Int32} {dc : Int32} {fc : Nat → Int32} {dw : Nat → Int32} {pc : Int32} {ln : Nat → Int32} {lt : Nat → Int32} {hp0 : Hp} {out : Int32 × Int32 × Int32 × Int32 × (Nat → Int32) × (Nat → Int32) × Int32 × Int32 × Int32 × Int32}  (X : CX E p l s m args meth c "DiceAudit$Loader" cX5_readThrow 4) (hr : meth.sig.returnType = (Option.none : Option Jvm.ClassFile.FieldType))   : ∀ {l1 : Int32} {l2 : Int32} {l3 : Int32} {s0 : Int32} {ec : Int32} {eo : Int32} {sd : Int32} {tc : Int32} {en : Nat → Int32} {fr : Nat → Int32} {kd : Int32} {ts : Int32} {te : Int32} {tv : Int32} {hp : Hp}, hp (x + 126) = some (.inr (10, [.ref (x + 127), .int tl])) → hp (x + 127) = some (.inl (kC E 0, 900, .inl tb)) → hp (x + 128) = some (.inr (7, [.ref (x + 126), .ref (x + 142), .ref (x + 129), .int ec, .int eo])) → hp (x + 129) = some (.inr (4, [.ref (x + 130), .ref (x + 133), .ref (x + 136), .ref (x + 139), .int sd, .int mn, .int th])) → hp (x + 130) = some (.inr (2, [.ref (x + 131), .ref (x + 132), .int dc])) → hp (x + 131) = some (.inl (kC E 0, 6, .inl fc)) → hp (x + 132) = some (.inl (kC E 0, 72, .inl dw)) → hp (x + 133) = some (.inr (9, [.ref (x + 134), .ref (x + 135), .int pc])) → hp (x + 134) = some (.inl (kC E 0, 6, .inl ln)) → hp (x + 135) = some (.inl (kC E 0, 24, .inl lt)) → hp (x + 136) = some (.inr (6, [.ref (x + 137), .ref (x + 138), .int tc])) → hp (x + 137) = some (.inl (kC E 0, 300, .inl en)) → hp (x + 138) = some (.inl (kC E 0, 432, .inl fr)) → hp (x + 142) = some (.inr (11, [.ref (x + 126), .int kd, .int ts, .int te, .int tv])) → (∀ q, q ≠ (x + 128) → q ≠ (x + 129) → q ≠ (x + 136) → q ≠ (x + 137) → q ≠ (x + 138) → q ≠ (x + 142) → hp q = hp0 q) → f_X5_readThrow_L63 N tl tb dc fc dw pc ln lt l1 l2 l3 s0 ec eo sd tc en fr kd ts te tv = some out → AW E p l e ⟨4, 0, 0, 92⟩ s m args below meth c 4 (MQ below (kQc E (P_X5_readThrow E x mn th hp0 al out)) args s 0 0 (kA E)) hp al 0 0 63 [(0, .ref (x + 128)), (1, .int l1), (2, .int l2), (3, .int l3)] [.int s0, .ref (x + 128)] := by
  intro l1 l2 l3 s0 ec eo sd tc en fr kd ts te tv hp g0 g1 g2 g3 g4 g5 g6 g7 g8 g9 g10 g11 g12 g16 hfr h
  unfold f_X5_readThrow_L63 at h
  obtain ⟨t5, hct5, h⟩ := bind_o h
  refine A_c (k' := 0) (n' := 0) rfl rfl (A_runV (rest := []) X dX5_readThrow_63 (c_X5_takeSemicolon g0 g1 g2 g16  hct5) kY_X5_takeSemicolon kw_385 g2 rfl rfl ⟨(Nat.le_of_ble_eq_true rfl), (Nat.le_of_ble_eq_true rfl), (Nat.le_of_ble_eq_true rfl), (Nat.le_of_ble_eq_true rfl)⟩ rfl (Nat.le_of_ble_eq_true rfl)) (fun v9 hp1 al9 hP => ?_)
  obtain ⟨rfl, k1_0, k1_1, n1, rfl⟩ := hP
  replace k1_0 : hp1 (x + 128) = some (.inr (7, [.ref (x + 126), .ref (x + 142), .ref (x + 129), .int t5.1, .int t5.2.1])) := k1_0
  replace k1_1 : hp1 (x + 142) = some (.inr (11, [.ref (x + 126), .int t5.2.2.1, .int t5.2.2.2.1, .int t5.2.2.2.2.1, .int t5.2.2.2.2.2])) := k1_1
  refine A_st (st' := []) rfl ?_
  refine A_aload_n X dX5_readThrow_66 0 rfl ?_
  refine A_get X dX5_readThrow_67 kcl_X5 3 (by decide) kw_245 k1_0 rfl ?_
  refine A_if_ne (tgt := 88) X dX5_readThrow_70 h (by decide) (fun hc h => ?_) (fun hc h => ?_)
  · cases h
    exact A_vret X dX5_readThrow_88 hr ⟨rfl, k1_0, ((n1 _ (by omega) (by omega)).trans g3), ((n1 _ (by omega) (by omega)).trans g10), ((n1 _ (by omega) (by omega)).trans g11), ((n1 _ (by omega) (by omega)).trans g12), k1_1, (fun q z0 z1 z2 z3 z4 z5 => ((n1 q z0 z5).trans (hfr q z0 z1 z2 z3 z4 z5))), rfl⟩ (Nat.le_of_ble_eq_true rfl) (Nat.le_of_ble_eq_true rfl)
  · refine A_aload_n X dX5_readThrow_73 0 rfl ?_
    refine A_get X dX5_readThrow_74 kcl_X5 2 (by decide) kw_243 k1_0 rfl ?_
    refine A_iload_n X dX5_readThrow_77 1 rfl ?_
    refine A_iload_n X dX5_readThrow_78 2 rfl ?_
    obtain ⟨t6, hct6, h⟩ := bind_o h
    refine A_cp (k' := 0) (n' := 0) (A_runSN (rest := [.ref (x + 129)]) X dX5_readThrow_79 (c_X10_pairOf   hct6) kY_X10_pairOf kw_476 ⟨(Nat.le_of_ble_eq_true rfl), (Nat.le_of_ble_eq_true rfl), (Nat.le_of_ble_eq_true rfl), (Nat.le_of_ble_eq_true rfl)⟩ rfl (Nat.le_of_ble_eq_true rfl)) rfl rfl ?_
    refine A_iload_n X dX5_readThrow_82 3 rfl ?_
    refine A_iconst (v := 0) X dX5_readThrow_83 (by decide) ?_
    obtain ⟨t7, hct7, h⟩ := bind_o h
    refine A_c (k' := 0) (n' := 0) rfl rfl (A_runV (rest := []) X dX5_readThrow_84 (c_X2_makeThrows ((n1 _ (by omega) (by omega)).trans g3) ((n1 _ (by omega) (by omega)).trans g4) ((n1 _ (by omega) (by omega)).trans g5) ((n1 _ (by omega) (by omega)).trans g6) ((n1 _ (by omega) (by omega)).trans g10) ((n1 _ (by omega) (by omega)).trans g11) ((n1 _ (by omega) (by omega)).trans g12)  hct7) kY_X2_makeThrows kw_479 ((n1 _ (by omega) (by omega)).trans g3) rfl rfl ⟨(Nat.le_of_ble_eq_true rfl), (Nat.le_of_ble_eq_true rfl), (Nat.le_of_ble_eq_true rfl), (Nat.le_of_ble_eq_true rfl)⟩ rfl (Nat.le_of_ble_eq_true rfl)) (fun v9 hp2 al9 hP => ?_)
    obtain ⟨rfl, k2_0, k2_1, k2_2, k2_3, n2, rfl⟩ := hP
    replace k2_0 : hp2 (x + 129) = some (.inr (4, [.ref (x + 130), .ref (x + 133), .ref (x + 136), .ref (x + 139), .int t7.2.1, .int mn, .int th])) := k2_0
    replace k2_1 : hp2 (x + 136) = some (.inr (6, [.ref (x + 137), .ref (x + 138), .int t7.2.2.1])) := k2_1
    replace k2_2 : hp2 (x + 137) = some (.inl (kC E 0, 300, .inl t7.2.2.2.1)) := k2_2
    replace k2_3 : hp2 (x + 138) = some (.inl (kC E 0, 432, .inl t7.2.2.2.2)) := k2_3
    refine A_st (st' := [.int t7.1]) rfl ?_
    refine A_pop X dX5_readThrow_87 rfl ?_
    cases h
    exact A_vret X dX5_readThrow_88 hr ⟨rfl, ((n2 _ (by omega) (by omega) (by omega) (by omega)).trans k1_0), k2_0, k2_1, k2_2, k2_3, ((n2 _ (by omega) (by omega) (by omega) (by omega)).trans k1_1), (fun q z0 z1 z2 z3 z4 z5 => ((n2 q z1 z2 z3 z4).trans ((n1 q z0 z5).trans (hfr q z0 z1 z2 z3 z4 z5)))), rfl⟩ (Nat.le_of_ble_eq_true rfl) (Nat.le_of_ble_eq_true rfl)
set_option maxHeartbeats 4000000 in
set_option maxRecDepth 100000 in
theorem c_X5_readThrow {E : KE} {l : Launch} {hp : Hp} {al : Option Nat} {N : Nat} {x : Nat} {tl : Int32} {tb : Nat → Int32} {ec : Int32} {eo : Int32} {sd : Int32} {mn : Int32} {th : Int32} {dc : Int32} {fc : Nat → Int32} {dw : Nat → Int32} {pc : Int32} {ln : Nat → Int32} {lt : Nat → Int32} {tc : Int32} {en : Nat → Int32} {fr : Nat → Int32} {kd : Int32} {ts : Int32} {te : Int32} {tv : Int32}  {out : Int32 × Int32 × Int32 × Int32 × (Nat → Int32) × (Nat → Int32) × Int32 × Int32 × Int32 × Int32} (g0 : hp (x + 126) = some (.inr (10, [.ref (x + 127), .int tl]))) (g1 : hp (x + 127) = some (.inl (kC E 0, 900, .inl tb))) (g2 : hp (x + 128) = some (.inr (7, [.ref (x + 126), .ref (x + 142), .ref (x + 129), .int ec, .int eo]))) (g3 : hp (x + 129) = some (.inr (4, [.ref (x + 130), .ref (x + 133), .ref (x + 136), .ref (x + 139), .int sd, .int mn, .int th]))) (g4 : hp (x + 130) = some (.inr (2, [.ref (x + 131), .ref (x + 132), .int dc]))) (g5 : hp (x + 131) = some (.inl (kC E 0, 6, .inl fc))) (g6 : hp (x + 132) = some (.inl (kC E 0, 72, .inl dw))) (g7 : hp (x + 133) = some (.inr (9, [.ref (x + 134), .ref (x + 135), .int pc]))) (g8 : hp (x + 134) = some (.inl (kC E 0, 6, .inl ln))) (g9 : hp (x + 135) = some (.inl (kC E 0, 24, .inl lt))) (g10 : hp (x + 136) = some (.inr (6, [.ref (x + 137), .ref (x + 138), .int tc]))) (g11 : hp (x + 137) = some (.inl (kC E 0, 300, .inl en))) (g12 : hp (x + 138) = some (.inl (kC E 0, 432, .inl fr))) (g16 : hp (x + 142) = some (.inr (11, [.ref (x + 126), .int kd, .int ts, .int te, .int tv])))  (h : f_X5_readThrow N tl tb dc fc dw pc ln lt ec eo sd tc en fr kd ts te tv = some out) : AM E l yX5_readThrow cX5_readThrow 4 (Option.none : Option Jvm.ClassFile.FieldType) ⟨4, 0, 0, 92⟩ [.ref (x + 128)] hp al (P_X5_readThrow E x mn th hp al out) := by
  refine A_of (by decide +kernel) (Nat.le_of_ble_eq_true rfl) ?_
  intro p e s m args below meth c X hr hnm
  have X : CX E p l s m args meth c "DiceAudit$Loader" cX5_readThrow 4 := X
  refine A_L (L' := [(0, .ref (x + 128))]) rfl ?_
  unfold f_X5_readThrow at h
  refine A_aload_n X dX5_readThrow_0 0 rfl ?_
  refine A_get X dX5_readThrow_1 kcl_X5 1 (by decide) kw_242 g2 rfl ?_
  obtain ⟨t1, hct1, h⟩ := bind_o h
  refine A_c (k' := 0) (n' := 0) rfl rfl (A_runV (rest := []) X dX5_readThrow_4 (c_X9_advance g0 g1 g16  hct1) kY_X9_advance kw_375 g16 rfl rfl ⟨(Nat.le_of_ble_eq_true rfl), (Nat.le_of_ble_eq_true rfl), (Nat.le_of_ble_eq_true rfl), (Nat.le_of_ble_eq_true rfl)⟩ rfl (Nat.le_of_ble_eq_true rfl)) (fun v9 hp1 al9 hP => ?_)
  obtain ⟨rfl, k1_0, n1, rfl⟩ := hP
  replace k1_0 : hp1 (x + 142) = some (.inr (11, [.ref (x + 126), .int t1.1, .int t1.2.1, .int t1.2.2.1, .int t1.2.2.2])) := k1_0
  refine A_st (st' := []) rfl ?_
  refine A_aload_n X dX5_readThrow_7 0 rfl ?_
  obtain ⟨t2, hct2, h⟩ := bind_o h
  refine A_c (k' := 0) (n' := 0) rfl rfl (A_runV (rest := []) X dX5_readThrow_8 (c_X5_takeKnownName ((n1 _ (by omega)).trans g0) ((n1 _ (by omega)).trans g1) ((n1 _ (by omega)).trans g2) ((n1 _ (by omega)).trans g3) ((n1 _ (by omega)).trans g7) ((n1 _ (by omega)).trans g8) ((n1 _ (by omega)).trans g9) k1_0  hct2) kY_X5_takeKnownName kw_472 ((n1 _ (by omega)).trans g2) rfl rfl ⟨(Nat.le_of_ble_eq_true rfl), (Nat.le_of_ble_eq_true rfl), (Nat.le_of_ble_eq_true rfl), (Nat.le_of_ble_eq_true rfl)⟩ rfl (Nat.le_of_ble_eq_true rfl)) (fun v9 hp2 al9 hP => ?_)
  obtain ⟨rfl, k2_0, k2_1, n2, rfl⟩ := hP
  replace k2_0 : hp2 (x + 128) = some (.inr (7, [.ref (x + 126), .ref (x + 142), .ref (x + 129), .int t2.2.1, .int t2.2.2.1])) := k2_0
  replace k2_1 : hp2 (x + 142) = some (.inr (11, [.ref (x + 126), .int t2.2.2.2.1, .int t2.2.2.2.2.1, .int t2.2.2.2.2.2.1, .int t2.2.2.2.2.2.2])) := k2_1
  refine A_st (st' := [.int t2.1]) rfl ?_
  refine A_istore_n (L' := [(1, .int t2.1), (0, .ref (x + 128))]) X dX5_readThrow_11 rfl (by decide) rfl ?_
  refine A_aload_n X dX5_readThrow_12 1 rfl ?_
  refine A_iconst (v := 0) X dX5_readThrow_13 (by decide) ?_
  refine A_aload_n X dX5_readThrow_14 1 rfl ?_
  refine A_get X dX5_readThrow_15 kcl_X5 2 (by decide) kw_243 k2_0 rfl ?_
  refine A_get X dX5_readThrow_18 kcl_X2 0 (by decide) kw_140 ((n2 _ (by omega) (by omega)).trans ((n1 _ (by omega)).trans g3)) rfl ?_
  refine A_get X dX5_readThrow_21 kcl_X0 2 (by decide) kw_70 ((n2 _ (by omega) (by omega)).trans ((n1 _ (by omega)).trans g4)) rfl ?_
  refine A_iconst (v := 1) X dX5_readThrow_24 (by decide) ?_
  refine A_isub X dX5_readThrow_25 ?_
  obtain ⟨t3, hct3, h⟩ := bind_o h
  refine A_c (k' := 0) (n' := 0) rfl rfl (A_runV (rest := []) X dX5_readThrow_26 (c_X5_takeNumber ((n2 _ (by omega) (by omega)).trans ((n1 _ (by omega)).trans g0)) ((n2 _ (by omega) (by omega)).trans ((n1 _ (by omega)).trans g1)) k2_0 k2_1  hct3) kY_X5_takeNumber kw_377 k2_0 rfl rfl ⟨(Nat.le_of_ble_eq_true rfl), (Nat.le_of_ble_eq_true rfl), (Nat.le_of_ble_eq_true rfl), (Nat.le_of_ble_eq_true rfl)⟩ rfl (Nat.le_of_ble_eq_true rfl)) (fun v9 hp3 al9 hP => ?_)
  obtain ⟨rfl, k3_0, k3_1, n3, rfl⟩ := hP
  replace k3_0 : hp3 (x + 128) = some (.inr (7, [.ref (x + 126), .ref (x + 142), .ref (x + 129), .int t3.2.1, .int t3.2.2.1])) := k3_0
  replace k3_1 : hp3 (x + 142) = some (.inr (11, [.ref (x + 126), .int t3.2.2.2.1, .int t3.2.2.2.2.1, .int t3.2.2.2.2.2.1, .int t3.2.2.2.2.2.2])) := k3_1
  refine A_st (st' := [.int t3.1]) rfl ?_
  refine A_istore_n (L' := [(2, .int t3.1), (1, .int t2.1), (0, .ref (x + 128))]) X dX5_readThrow_29 rfl (by decide) rfl ?_
  refine A_aload_n X dX5_readThrow_30 2 rfl ?_
  refine A_iconst (v := 1) X dX5_readThrow_31 (by decide) ?_
  refine A_bipush (v := 50) X dX5_readThrow_32 (by decide) ?_
  obtain ⟨t4, hct4, h⟩ := bind_o h
  refine A_c (k' := 0) (n' := 0) rfl rfl (A_runV (rest := []) X dX5_readThrow_34 (c_X5_takeNumber ((n3 _ (by omega) (by omega)).trans ((n2 _ (by omega) (by omega)).trans ((n1 _ (by omega)).trans g0))) ((n3 _ (by omega) (by omega)).trans ((n2 _ (by omega) (by omega)).trans ((n1 _ (by omega)).trans g1))) k3_0 k3_1  hct4) kY_X5_takeNumber kw_377 k3_0 rfl rfl ⟨(Nat.le_of_ble_eq_true rfl), (Nat.le_of_ble_eq_true rfl), (Nat.le_of_ble_eq_true rfl), (Nat.le_of_ble_eq_true rfl)⟩ rfl (Nat.le_of_ble_eq_true rfl)) (fun v9 hp4 al9 hP => ?_)
  obtain ⟨rfl, k4_0, k4_1, n4, rfl⟩ := hP
  replace k4_0 : hp4 (x + 128) = some (.inr (7, [.ref (x + 126), .ref (x + 142), .ref (x + 129), .int t4.2.1, .int t4.2.2.1])) := k4_0
  replace k4_1 : hp4 (x + 142) = some (.inr (11, [.ref (x + 126), .int t4.2.2.2.1, .int t4.2.2.2.2.1, .int t4.2.2.2.2.2.1, .int t4.2.2.2.2.2.2])) := k4_1
  refine A_st (st' := [.int t4.1]) rfl ?_
  refine A_istore_n (L' := [(3, .int t4.1), (2, .int t3.1), (1, .int t2.1), (0, .ref (x + 128))]) X dX5_readThrow_37 rfl (by decide) rfl ?_
  refine A_aload_n X dX5_readThrow_38 3 rfl ?_
  refine A_aload_n X dX5_readThrow_39 3 rfl ?_
  refine A_get X dX5_readThrow_40 kcl_X5 2 (by decide) kw_243 k4_0 rfl ?_
  refine A_get X dX5_readThrow_43 kcl_X2 2 (by decide) kw_147 ((n4 _ (by omega) (by omega)).trans ((n3 _ (by omega) (by omega)).trans ((n2 _ (by omega) (by omega)).trans ((n1 _ (by omega)).trans g3)))) rfl ?_
  refine A_get X dX5_readThrow_46 kcl_X4 2 (by decide) kw_108 ((n4 _ (by omega) (by omega)).trans ((n3 _ (by omega) (by omega)).trans ((n2 _ (by omega) (by omega)).trans ((n1 _ (by omega)).trans g10)))) rfl ?_
  refine A_iload_n X dX5_readThrow_49 0 rfl ?_
  refine A_iadd X dX5_readThrow_50 ?_
  refine A_sipush (v := 300) X dX5_readThrow_51 (by decide) ?_
  refine A_icmp_le (tgt := 62) X dX5_readThrow_54 h (by decide) (fun hc h => ?_) (fun hc h => ?_)
  · refine A_iconst (v := 0) X dX5_readThrow_62 (by decide) ?_
    refine A_sub (L' := [(0, .ref (x + 128)), (1, .int t2.1), (2, .int t3.1), (3, .int t4.1)]) [3, 2, 1, 0] rfl ?_
    exact c_X5_readThrow_L63 X hr  ((n4 _ (by omega) (by omega)).trans ((n3 _ (by omega) (by omega)).trans ((n2 _ (by omega) (by omega)).trans ((n1 _ (by omega)).trans g0)))) ((n4 _ (by omega) (by omega)).trans ((n3 _ (by omega) (by omega)).trans ((n2 _ (by omega) (by omega)).trans ((n1 _ (by omega)).trans g1)))) k4_0 ((n4 _ (by omega) (by omega)).trans ((n3 _ (by omega) (by omega)).trans ((n2 _ (by omega) (by omega)).trans ((n1 _ (by omega)).trans g3)))) ((n4 _ (by omega) (by omega)).trans ((n3 _ (by omega) (by omega)).trans ((n2 _ (by omega) (by omega)).trans ((n1 _ (by omega)).trans g4)))) ((n4 _ (by omega) (by omega)).trans ((n3 _ (by omega) (by omega)).trans ((n2 _ (by omega) (by omega)).trans ((n1 _ (by omega)).trans g5)))) ((n4 _ (by omega) (by omega)).trans ((n3 _ (by omega) (by omega)).trans ((n2 _ (by omega) (by omega)).trans ((n1 _ (by omega)).trans g6)))) ((n4 _ (by omega) (by omega)).trans ((n3 _ (by omega) (by omega)).trans ((n2 _ (by omega) (by omega)).trans ((n1 _ (by omega)).trans g7)))) ((n4 _ (by omega) (by omega)).trans ((n3 _ (by omega) (by omega)).trans ((n2 _ (by omega) (by omega)).trans ((n1 _ (by omega)).trans g8)))) ((n4 _ (by omega) (by omega)).trans ((n3 _ (by omega) (by omega)).trans ((n2 _ (by omega) (by omega)).trans ((n1 _ (by omega)).trans g9)))) ((n4 _ (by omega) (by omega)).trans ((n3 _ (by omega) (by omega)).trans ((n2 _ (by omega) (by omega)).trans ((n1 _ (by omega)).trans g10)))) ((n4 _ (by omega) (by omega)).trans ((n3 _ (by omega) (by omega)).trans ((n2 _ (by omega) (by omega)).trans ((n1 _ (by omega)).trans g11)))) ((n4 _ (by omega) (by omega)).trans ((n3 _ (by omega) (by omega)).trans ((n2 _ (by omega) (by omega)).trans ((n1 _ (by omega)).trans g12)))) k4_1 (fun q z0 z1 z2 z3 z4 z5 => ((n4 q z0 z5).trans ((n3 q z0 z5).trans ((n2 q z0 z5).trans (n1 q z5))))) h
  · refine A_bipush (v := 6) X dX5_readThrow_57 (by decide) ?_
    refine A_goto (tgt := 63) X dX5_readThrow_59 (by decide) ?_
    refine A_sub (L' := [(0, .ref (x + 128)), (1, .int t2.1), (2, .int t3.1), (3, .int t4.1)]) [3, 2, 1, 0] rfl ?_
    exact c_X5_readThrow_L63 X hr  ((n4 _ (by omega) (by omega)).trans ((n3 _ (by omega) (by omega)).trans ((n2 _ (by omega) (by omega)).trans ((n1 _ (by omega)).trans g0)))) ((n4 _ (by omega) (by omega)).trans ((n3 _ (by omega) (by omega)).trans ((n2 _ (by omega) (by omega)).trans ((n1 _ (by omega)).trans g1)))) k4_0 ((n4 _ (by omega) (by omega)).trans ((n3 _ (by omega) (by omega)).trans ((n2 _ (by omega) (by omega)).trans ((n1 _ (by omega)).trans g3)))) ((n4 _ (by omega) (by omega)).trans ((n3 _ (by omega) (by omega)).trans ((n2 _ (by omega) (by omega)).trans ((n1 _ (by omega)).trans g4)))) ((n4 _ (by omega) (by omega)).trans ((n3 _ (by omega) (by omega)).trans ((n2 _ (by omega) (by omega)).trans ((n1 _ (by omega)).trans g5)))) ((n4 _ (by omega) (by omega)).trans ((n3 _ (by omega) (by omega)).trans ((n2 _ (by omega) (by omega)).trans ((n1 _ (by omega)).trans g6)))) ((n4 _ (by omega) (by omega)).trans ((n3 _ (by omega) (by omega)).trans ((n2 _ (by omega) (by omega)).trans ((n1 _ (by omega)).trans g7)))) ((n4 _ (by omega) (by omega)).trans ((n3 _ (by omega) (by omega)).trans ((n2 _ (by omega) (by omega)).trans ((n1 _ (by omega)).trans g8)))) ((n4 _ (by omega) (by omega)).trans ((n3 _ (by omega) (by omega)).trans ((n2 _ (by omega) (by omega)).trans ((n1 _ (by omega)).trans g9)))) ((n4 _ (by omega) (by omega)).trans ((n3 _ (by omega) (by omega)).trans ((n2 _ (by omega) (by omega)).trans ((n1 _ (by omega)).trans g10)))) ((n4 _ (by omega) (by omega)).trans ((n3 _ (by omega) (by omega)).trans ((n2 _ (by omega) (by omega)).trans ((n1 _ (by omega)).trans g11)))) ((n4 _ (by omega) (by omega)).trans ((n3 _ (by omega) (by omega)).trans ((n2 _ (by omega) (by omega)).trans ((n1 _ (by omega)).trans g12)))) k4_1 (fun q z0 z1 z2 z3 z4 z5 => ((n4 q z0 z5).trans ((n3 q z0 z5).trans ((n2 q z0 z5).trans (n1 q z5))))) h
abbrev P_X5_readAudit (E : KE) (x : Nat)  (hp : Hp) (al : Option Nat) (out : Int32 × Int32 × Int32 × (Nat → Int32) × (Nat → Int32) × Int32 × Int32 × Int32 × Int32) : Option Value → Hp → Option Nat → Prop := fun v0 hp' al' => v0 = none ∧ hp' (x + 128) = some (.inr (7, [.ref (x + 126), .ref (x + 142), .ref (x + 129), .int out.1, .int out.2.1])) ∧ hp' (x + 139) = some (.inr (8, [.ref (x + 140), .ref (x + 141), .int out.2.2.1])) ∧ hp' (x + 140) = some (.inl (kC E 0, 36, .inl out.2.2.2.1)) ∧ hp' (x + 141) = some (.inl (kC E 0, 36, .inl out.2.2.2.2.1)) ∧ hp' (x + 142) = some (.inr (11, [.ref (x + 126), .int out.2.2.2.2.2.1, .int out.2.2.2.2.2.2.1, .int out.2.2.2.2.2.2.2.1, .int out.2.2.2.2.2.2.2.2])) ∧ (∀ q, q ≠ (x + 128) → q ≠ (x + 139) → q ≠ (x + 140) → q ≠ (x + 141) → q ≠ (x + 142) → hp' q = hp q) ∧ al = al'
set_option maxHeartbeats 4000000 in
set_option maxRecDepth 100000 in
theorem c_X5_readAudit {E : KE} {l : Launch} {hp : Hp} {al : Option Nat} {N : Nat} {x : Nat} {tl : Int32} {tb : Nat → Int32} {ec : Int32} {eo : Int32} {sd : Int32} {mn : Int32} {th : Int32} {dc : Int32} {fc : Nat → Int32} {tc : Int32} {fr : Nat → Int32} {oc : Int32} {op : Nat → Int32} {os : Nat → Int32} {kd : Int32} {ts : Int32} {te : Int32} {tv : Int32}  {out : Int32 × Int32 × Int32 × (Nat → Int32) × (Nat → Int32) × Int32 × Int32 × Int32 × Int32} (g0 : hp (x + 126) = some (.inr (10, [.ref (x + 127), .int tl]))) (g1 : hp (x + 127) = some (.inl (kC E 0, 900, .inl tb))) (g2 : hp (x + 128) = some (.inr (7, [.ref (x + 126), .ref (x + 142), .ref (x + 129), .int ec, .int eo]))) (g3 : hp (x + 129) = some (.inr (4, [.ref (x + 130), .ref (x + 133), .ref (x + 136), .ref (x + 139), .int sd, .int mn, .int th]))) (g4 : hp (x + 130) = some (.inr (2, [.ref (x + 131), .ref (x + 132), .int dc]))) (g5 : hp (x + 131) = some (.inl (kC E 0, 6, .inl fc))) (g10 : hp (x + 136) = some (.inr (6, [.ref (x + 137), .ref (x + 138), .int tc]))) (g12 : hp (x + 138) = some (.inl (kC E 0, 432, .inl fr))) (g13 : hp (x + 139) = some (.inr (8, [.ref (x + 140), .ref (x + 141), .int oc]))) (g14 : hp (x + 140) = some (.inl (kC E 0, 36, .inl op))) (g15 : hp (x + 141) = some (.inl (kC E 0, 36, .inl os))) (g16 : hp (x + 142) = some (.inr (11, [.ref (x + 126), .int kd, .int ts, .int te, .int tv])))  (h : f_X5_readAudit N tl tb mn th fc fr ec eo oc op os kd ts te tv = some out) : AM E l yX5_readAudit cX5_readAudit 1 (Option.none : Option Jvm.ClassFile.FieldType) ⟨4, 0, 0, 96⟩ [.ref (x + 128)] hp al (P_X5_readAudit E x hp al out) := by
  refine A_of (by decide +kernel) (Nat.le_of_ble_eq_true rfl) ?_
  intro p e s m args below meth c X hr hnm
  have X : CX E p l s m args meth c "DiceAudit$Loader" cX5_readAudit 1 := X
  refine A_L (L' := [(0, .ref (x + 128))]) rfl ?_
  unfold f_X5_readAudit at h
  refine A_aload_n X dX5_readAudit_0 0 rfl ?_
  refine A_get X dX5_readAudit_1 kcl_X5 1 (by decide) kw_242 g2 rfl ?_
  obtain ⟨t1, hct1, h⟩ := bind_o h
  refine A_c (k' := 0) (n' := 0) rfl rfl (A_runV (rest := []) X dX5_readAudit_4 (c_X9_advance g0 g1 g16  hct1) kY_X9_advance kw_375 g16 rfl rfl ⟨(Nat.le_of_ble_eq_true rfl), (Nat.le_of_ble_eq_true rfl), (Nat.le_of_ble_eq_true rfl), (Nat.le_of_ble_eq_true rfl)⟩ rfl (Nat.le_of_ble_eq_true rfl)) (fun v9 hp1 al9 hP => ?_)
  obtain ⟨rfl, k1_0, n1, rfl⟩ := hP
  replace k1_0 : hp1 (x + 142) = some (.inr (11, [.ref (x + 126), .int t1.1, .int t1.2.1, .int t1.2.2.1, .int t1.2.2.2])) := k1_0
  refine A_st (st' := []) rfl ?_
  refine A_aload_n X dX5_readAudit_7 0 rfl ?_
  refine A_iconst (v := 0) X dX5_readAudit_8 (by decide) ?_
  obtain ⟨t2, hct2, h⟩ := bind_o h
  refine A_c (k' := 0) (n' := 0) rfl rfl (A_runV (rest := []) X dX5_readAudit_9 (c_X5_takeSemicolon ((n1 _ (by omega)).trans g0) ((n1 _ (by omega)).trans g1) ((n1 _ (by omega)).trans g2) k1_0  hct2) kY_X5_takeSemicolon kw_385 ((n1 _ (by omega)).trans g2) rfl rfl ⟨(Nat.le_of_ble_eq_true rfl), (Nat.le_of_ble_eq_true rfl), (Nat.le_of_ble_eq_true rfl), (Nat.le_of_ble_eq_true rfl)⟩ rfl (Nat.le_of_ble_eq_true rfl)) (fun v9 hp2 al9 hP => ?_)
  obtain ⟨rfl, k2_0, k2_1, n2, rfl⟩ := hP
  replace k2_0 : hp2 (x + 128) = some (.inr (7, [.ref (x + 126), .ref (x + 142), .ref (x + 129), .int t2.1, .int t2.2.1])) := k2_0
  replace k2_1 : hp2 (x + 142) = some (.inr (11, [.ref (x + 126), .int t2.2.2.1, .int t2.2.2.2.1, .int t2.2.2.2.2.1, .int t2.2.2.2.2.2])) := k2_1
  refine A_st (st' := []) rfl ?_
  refine A_aload_n X dX5_readAudit_12 0 rfl ?_
  refine A_get X dX5_readAudit_13 kcl_X5 3 (by decide) kw_245 k2_0 rfl ?_
  refine A_if_ne (tgt := 27) X dX5_readAudit_16 h (by decide) (fun hc h => ?_) (fun hc h => ?_)
  · cases h
    exact A_vret X dX5_readAudit_27 hr ⟨rfl, k2_0, ((n2 _ (by omega) (by omega)).trans ((n1 _ (by omega)).trans g13)), ((n2 _ (by omega) (by omega)).trans ((n1 _ (by omega)).trans g14)), ((n2 _ (by omega) (by omega)).trans ((n1 _ (by omega)).trans g15)), k2_1, (fun q z0 z1 z2 z3 z4 => ((n2 q z0 z4).trans (n1 q z4))), rfl⟩ (Nat.le_of_ble_eq_true rfl) (Nat.le_of_ble_eq_true rfl)
  · refine A_aload_n X dX5_readAudit_19 0 rfl ?_
    refine A_get X dX5_readAudit_20 kcl_X5 2 (by decide) kw_243 k2_0 rfl ?_
    obtain ⟨t3, hct3, h⟩ := bind_o h
    refine A_c (k' := 0) (n' := 0) rfl rfl (A_runV (rest := []) X dX5_readAudit_23 (c_X2_holdAudit ((n2 _ (by omega) (by omega)).trans ((n1 _ (by omega)).trans g3)) ((n2 _ (by omega) (by omega)).trans ((n1 _ (by omega)).trans g4)) ((n2 _ (by omega) (by omega)).trans ((n1 _ (by omega)).trans g5)) ((n2 _ (by omega) (by omega)).trans ((n1 _ (by omega)).trans g10)) ((n2 _ (by omega) (by omega)).trans ((n1 _ (by omega)).trans g12)) ((n2 _ (by omega) (by omega)).trans ((n1 _ (by omega)).trans g13)) ((n2 _ (by omega) (by omega)).trans ((n1 _ (by omega)).trans g14)) ((n2 _ (by omega) (by omega)).trans ((n1 _ (by omega)).trans g15))  hct3) kY_X2_holdAudit kw_514 ((n2 _ (by omega) (by omega)).trans ((n1 _ (by omega)).trans g3)) rfl rfl ⟨(Nat.le_of_ble_eq_true rfl), (Nat.le_of_ble_eq_true rfl), (Nat.le_of_ble_eq_true rfl), (Nat.le_of_ble_eq_true rfl)⟩ rfl (Nat.le_of_ble_eq_true rfl)) (fun v9 hp3 al9 hP => ?_)
    obtain ⟨rfl, k3_0, k3_1, k3_2, n3, rfl⟩ := hP
    replace k3_0 : hp3 (x + 139) = some (.inr (8, [.ref (x + 140), .ref (x + 141), .int t3.2.1])) := k3_0
    replace k3_1 : hp3 (x + 140) = some (.inl (kC E 0, 36, .inl t3.2.2.1)) := k3_1
    replace k3_2 : hp3 (x + 141) = some (.inl (kC E 0, 36, .inl t3.2.2.2)) := k3_2
    refine A_st (st' := [.int t3.1]) rfl ?_
    refine A_pop X dX5_readAudit_26 rfl ?_
    cases h
    exact A_vret X dX5_readAudit_27 hr ⟨rfl, ((n3 _ (by omega) (by omega) (by omega)).trans k2_0), k3_0, k3_1, k3_2, ((n3 _ (by omega) (by omega) (by omega)).trans k2_1), (fun q z0 z1 z2 z3 z4 => ((n3 q z1 z2 z3).trans ((n2 q z0 z4).trans (n1 q z4)))), rfl⟩ (Nat.le_of_ble_eq_true rfl) (Nat.le_of_ble_eq_true rfl)
abbrev P_X5_readAbsolve (E : KE) (x : Nat) (mn : Int32) (th : Int32) (hp : Hp) (al : Option Nat) (out : Int32 × Int32 × Int32 × Int32 × (Nat → Int32) × (Nat → Int32) × Int32 × (Nat → Int32) × (Nat → Int32) × Int32 × Int32 × Int32 × Int32) : Option Value → Hp → Option Nat → Prop := fun v0 hp' al' => v0 = none ∧ hp' (x + 128) = some (.inr (7, [.ref (x + 126), .ref (x + 142), .ref (x + 129), .int out.1, .int out.2.1])) ∧ hp' (x + 129) = some (.inr (4, [.ref (x + 130), .ref (x + 133), .ref (x + 136), .ref (x + 139), .int out.2.2.1, .int mn, .int th])) ∧ hp' (x + 136) = some (.inr (6, [.ref (x + 137), .ref (x + 138), .int out.2.2.2.1])) ∧ hp' (x + 137) = some (.inl (kC E 0, 300, .inl out.2.2.2.2.1)) ∧ hp' (x + 138) = some (.inl (kC E 0, 432, .inl out.2.2.2.2.2.1)) ∧ hp' (x + 139) = some (.inr (8, [.ref (x + 140), .ref (x + 141), .int out.2.2.2.2.2.2.1])) ∧ hp' (x + 140) = some (.inl (kC E 0, 36, .inl out.2.2.2.2.2.2.2.1)) ∧ hp' (x + 141) = some (.inl (kC E 0, 36, .inl out.2.2.2.2.2.2.2.2.1)) ∧ hp' (x + 142) = some (.inr (11, [.ref (x + 126), .int out.2.2.2.2.2.2.2.2.2.1, .int out.2.2.2.2.2.2.2.2.2.2.1, .int out.2.2.2.2.2.2.2.2.2.2.2.1, .int out.2.2.2.2.2.2.2.2.2.2.2.2])) ∧ (∀ q, q ≠ (x + 128) → q ≠ (x + 129) → q ≠ (x + 136) → q ≠ (x + 137) → q ≠ (x + 138) → q ≠ (x + 139) → q ≠ (x + 140) → q ≠ (x + 141) → q ≠ (x + 142) → hp' q = hp q) ∧ al = al'
set_option maxHeartbeats 4000000 in
set_option maxRecDepth 100000 in
theorem c_X5_readAbsolve_L27 {E : KE} {p : Program} {l : Launch} {e : Env} {s : State} {m : MethodId} {args : Array Value} {below : List Frame} {meth : Method} {c : Code} {al : Option Nat} {N : Nat} {x : Nat} {tl : Int32} {tb : Nat → Int32} {mn : Int32} {th : Int32} {dc : Int32} {fc : Nat → Int32} {dw : Nat → Int32} {hp0 : Hp} {out : Int32 × Int32 × Int32 × Int32 × (Nat → Int32) × (Nat → Int32) × Int32 × (Nat → Int32) × (Nat → Int32) × Int32 × Int32 × Int32 × Int32}  (X : CX E p l s m args meth c "DiceAudit$Loader" cX5_readAbsolve 1) (hr : meth.sig.returnType = (Option.none : Option Jvm.ClassFile.FieldType))   : ∀ {s0 : Int32} {ec : Int32} {eo : Int32} {sd : Int32} {tc : Int32} {en : Nat → Int32} {fr : Nat → Int32} {oc : Int32} {op : Nat → Int32} {os : Nat → Int32} {kd : Int32} {ts : Int32} {te : Int32} {tv : Int32} {hp : Hp}, hp (x + 126) = some (.inr (10, [.ref (x + 127), .int tl])) → hp (x + 127) = some (.inl (kC E 0, 900, .inl tb)) → hp (x + 128) = some (.inr (7, [.ref (x + 126), .ref (x + 142), .ref (x + 129), .int ec, .int eo])) → hp (x + 129) = some (.inr (4, [.ref (x + 130), .ref (x + 133), .ref (x + 136), .ref (x + 139), .int sd, .int mn, .int th])) → hp (x + 130) = some (.inr (2, [.ref (x + 131), .ref (x + 132), .int dc])) → hp (x + 131) = some (.inl (kC E 0, 6, .inl fc)) → hp (x + 132) = some (.inl (kC E 0, 72, .inl dw)) → hp (x + 136) = some (.inr (6, [.ref (x + 137), .ref (x + 138), .int tc])) → hp (x + 137) = some (.inl (kC E 0, 300, .inl en)) → hp (x + 138) = some (.inl (kC E 0, 432, .inl fr)) → hp (x + 139) = some (.inr (8, [.ref (x + 140), .ref (x + 141), .int oc])) → hp (x + 140) = some (.inl (kC E 0, 36, .inl op)) → hp (x + 141) = some (.inl (kC E 0, 36, .inl os)) → hp (x + 142) = some (.inr (11, [.ref (x + 126), .int kd, .int ts, .int te, .int tv])) → (∀ q, q ≠ (x + 128) → q ≠ (x + 129) → q ≠ (x + 136) → q ≠ (x + 137) → q ≠ (x + 138) → q ≠ (x + 139) → q ≠ (x + 140) → q ≠ (x + 141) → q ≠ (x + 142) → hp q = hp0 q) → f_X5_readAbsolve_L27 N tl tb fc dw s0 ec eo sd tc en fr oc op os kd ts te tv = some out → AW E p l e ⟨4, 0, 0, 101⟩ s m args below meth c 1 (MQ below (kQc E (P_X5_readAbsolve E x mn th hp0 al out)) args s 0 0 (kA E)) hp al 0 0 27 [(0, .ref (x + 128))] [.int s0, .ref (x + 128)] := by
  intro s0 ec eo sd tc en fr oc op os kd ts te tv hp g0 g1 g2 g3 g4 g5 g6 g10 g11 g12 g13 g14 g15 g16 hfr h
  unfold f_X5_readAbsolve_L27 at h
  obtain ⟨t2, hct2, h⟩ := bind_o h
  refine A_c (k' := 0) (n' := 0) rfl rfl (A_runV (rest := []) X dX5_readAbsolve_27 (c_X5_takeSemicolon g0 g1 g2 g16  hct2) kY_X5_takeSemicolon kw_385 g2 rfl rfl ⟨(Nat.le_of_ble_eq_true rfl), (Nat.le_of_ble_eq_true rfl), (Nat.le_of_ble_eq_true rfl), (Nat.le_of_ble_eq_true rfl)⟩ rfl (Nat.le_of_ble_eq_true rfl)) (fun v9 hp1 al9 hP => ?_)
  obtain ⟨rfl, k1_0, k1_1, n1, rfl⟩ := hP
  replace k1_0 : hp1 (x + 128) = some (.inr (7, [.ref (x + 126), .ref (x + 142), .ref (x + 129), .int t2.1, .int t2.2.1])) := k1_0
  replace k1_1 : hp1 (x + 142) = some (.inr (11, [.ref (x + 126), .int t2.2.2.1, .int t2.2.2.2.1, .int t2.2.2.2.2.1, .int t2.2.2.2.2.2])) := k1_1
  refine A_st (st' := []) rfl ?_
  refine A_aload_n X dX5_readAbsolve_30 0 rfl ?_
  refine A_get X dX5_readAbsolve_31 kcl_X5 3 (by decide) kw_245 k1_0 rfl ?_
  refine A_if_ne (tgt := 45) X dX5_readAbsolve_34 h (by decide) (fun hc h => ?_) (fun hc h => ?_)
  · cases h
    exact A_vret X dX5_readAbsolve_45 hr ⟨rfl, k1_0, ((n1 _ (by omega) (by omega)).trans g3), ((n1 _ (by omega) (by omega)).trans g10), ((n1 _ (by omega) (by omega)).trans g11), ((n1 _ (by omega) (by omega)).trans g12), ((n1 _ (by omega) (by omega)).trans g13), ((n1 _ (by omega) (by omega)).trans g14), ((n1 _ (by omega) (by omega)).trans g15), k1_1, (fun q z0 z1 z2 z3 z4 z5 z6 z7 z8 => ((n1 q z0 z8).trans (hfr q z0 z1 z2 z3 z4 z5 z6 z7 z8))), rfl⟩ (Nat.le_of_ble_eq_true rfl) (Nat.le_of_ble_eq_true rfl)
  · refine A_aload_n X dX5_readAbsolve_37 0 rfl ?_
    refine A_get X dX5_readAbsolve_38 kcl_X5 2 (by decide) kw_243 k1_0 rfl ?_
    obtain ⟨t3, hct3, h⟩ := bind_o h
    refine A_c (k' := 0) (n' := 0) rfl rfl (A_runV (rest := []) X dX5_readAbsolve_41 (c_X2_doPenance ((n1 _ (by omega) (by omega)).trans g3) ((n1 _ (by omega) (by omega)).trans g4) ((n1 _ (by omega) (by omega)).trans g5) ((n1 _ (by omega) (by omega)).trans g6) ((n1 _ (by omega) (by omega)).trans g10) ((n1 _ (by omega) (by omega)).trans g11) ((n1 _ (by omega) (by omega)).trans g12) ((n1 _ (by omega) (by omega)).trans g13) ((n1 _ (by omega) (by omega)).trans g14) ((n1 _ (by omega) (by omega)).trans g15)  hct3) kY_X2_doPenance kw_564 ((n1 _ (by omega) (by omega)).trans g3) rfl rfl ⟨(Nat.le_of_ble_eq_true rfl), (Nat.le_of_ble_eq_true rfl), (Nat.le_of_ble_eq_true rfl), (Nat.le_of_ble_eq_true rfl)⟩ rfl (Nat.le_of_ble_eq_true rfl)) (fun v9 hp2 al9 hP => ?_)
    obtain ⟨rfl, k2_0, k2_1, k2_2, k2_3, k2_4, k2_5, k2_6, n2, rfl⟩ := hP
    replace k2_0 : hp2 (x + 129) = some (.inr (4, [.ref (x + 130), .ref (x + 133), .ref (x + 136), .ref (x + 139), .int t3.2.1, .int mn, .int th])) := k2_0
    replace k2_1 : hp2 (x + 136) = some (.inr (6, [.ref (x + 137), .ref (x + 138), .int t3.2.2.1])) := k2_1
    replace k2_2 : hp2 (x + 137) = some (.inl (kC E 0, 300, .inl t3.2.2.2.1)) := k2_2
    replace k2_3 : hp2 (x + 138) = some (.inl (kC E 0, 432, .inl t3.2.2.2.2.1)) := k2_3
    replace k2_4 : hp2 (x + 139) = some (.inr (8, [.ref (x + 140), .ref (x + 141), .int t3.2.2.2.2.2.1])) := k2_4
    replace k2_5 : hp2 (x + 140) = some (.inl (kC E 0, 36, .inl t3.2.2.2.2.2.2.1)) := k2_5
    replace k2_6 : hp2 (x + 141) = some (.inl (kC E 0, 36, .inl t3.2.2.2.2.2.2.2)) := k2_6
    refine A_st (st' := [.int t3.1]) rfl ?_
    refine A_pop X dX5_readAbsolve_44 rfl ?_
    cases h
    exact A_vret X dX5_readAbsolve_45 hr ⟨rfl, ((n2 _ (by omega) (by omega) (by omega) (by omega) (by omega) (by omega) (by omega)).trans k1_0), k2_0, k2_1, k2_2, k2_3, k2_4, k2_5, k2_6, ((n2 _ (by omega) (by omega) (by omega) (by omega) (by omega) (by omega) (by omega)).trans k1_1), (fun q z0 z1 z2 z3 z4 z5 z6 z7 z8 => ((n2 q z1 z2 z3 z4 z5 z6 z7).trans ((n1 q z0 z8).trans (hfr q z0 z1 z2 z3 z4 z5 z6 z7 z8)))), rfl⟩ (Nat.le_of_ble_eq_true rfl) (Nat.le_of_ble_eq_true rfl)
set_option maxHeartbeats 4000000 in
set_option maxRecDepth 100000 in
theorem c_X5_readAbsolve {E : KE} {l : Launch} {hp : Hp} {al : Option Nat} {N : Nat} {x : Nat} {tl : Int32} {tb : Nat → Int32} {ec : Int32} {eo : Int32} {sd : Int32} {mn : Int32} {th : Int32} {dc : Int32} {fc : Nat → Int32} {dw : Nat → Int32} {tc : Int32} {en : Nat → Int32} {fr : Nat → Int32} {oc : Int32} {op : Nat → Int32} {os : Nat → Int32} {kd : Int32} {ts : Int32} {te : Int32} {tv : Int32}  {out : Int32 × Int32 × Int32 × Int32 × (Nat → Int32) × (Nat → Int32) × Int32 × (Nat → Int32) × (Nat → Int32) × Int32 × Int32 × Int32 × Int32} (g0 : hp (x + 126) = some (.inr (10, [.ref (x + 127), .int tl]))) (g1 : hp (x + 127) = some (.inl (kC E 0, 900, .inl tb))) (g2 : hp (x + 128) = some (.inr (7, [.ref (x + 126), .ref (x + 142), .ref (x + 129), .int ec, .int eo]))) (g3 : hp (x + 129) = some (.inr (4, [.ref (x + 130), .ref (x + 133), .ref (x + 136), .ref (x + 139), .int sd, .int mn, .int th]))) (g4 : hp (x + 130) = some (.inr (2, [.ref (x + 131), .ref (x + 132), .int dc]))) (g5 : hp (x + 131) = some (.inl (kC E 0, 6, .inl fc))) (g6 : hp (x + 132) = some (.inl (kC E 0, 72, .inl dw))) (g10 : hp (x + 136) = some (.inr (6, [.ref (x + 137), .ref (x + 138), .int tc]))) (g11 : hp (x + 137) = some (.inl (kC E 0, 300, .inl en))) (g12 : hp (x + 138) = some (.inl (kC E 0, 432, .inl fr))) (g13 : hp (x + 139) = some (.inr (8, [.ref (x + 140), .ref (x + 141), .int oc]))) (g14 : hp (x + 140) = some (.inl (kC E 0, 36, .inl op))) (g15 : hp (x + 141) = some (.inl (kC E 0, 36, .inl os))) (g16 : hp (x + 142) = some (.inr (11, [.ref (x + 126), .int kd, .int ts, .int te, .int tv])))  (h : f_X5_readAbsolve N tl tb fc dw ec eo sd tc en fr oc op os kd ts te tv = some out) : AM E l yX5_readAbsolve cX5_readAbsolve 1 (Option.none : Option Jvm.ClassFile.FieldType) ⟨4, 0, 0, 101⟩ [.ref (x + 128)] hp al (P_X5_readAbsolve E x mn th hp al out) := by
  refine A_of (by decide +kernel) (Nat.le_of_ble_eq_true rfl) ?_
  intro p e s m args below meth c X hr hnm
  have X : CX E p l s m args meth c "DiceAudit$Loader" cX5_readAbsolve 1 := X
  refine A_L (L' := [(0, .ref (x + 128))]) rfl ?_
  unfold f_X5_readAbsolve at h
  refine A_aload_n X dX5_readAbsolve_0 0 rfl ?_
  refine A_get X dX5_readAbsolve_1 kcl_X5 1 (by decide) kw_242 g2 rfl ?_
  obtain ⟨t1, hct1, h⟩ := bind_o h
  refine A_c (k' := 0) (n' := 0) rfl rfl (A_runV (rest := []) X dX5_readAbsolve_4 (c_X9_advance g0 g1 g16  hct1) kY_X9_advance kw_375 g16 rfl rfl ⟨(Nat.le_of_ble_eq_true rfl), (Nat.le_of_ble_eq_true rfl), (Nat.le_of_ble_eq_true rfl), (Nat.le_of_ble_eq_true rfl)⟩ rfl (Nat.le_of_ble_eq_true rfl)) (fun v9 hp1 al9 hP => ?_)
  obtain ⟨rfl, k1_0, n1, rfl⟩ := hP
  replace k1_0 : hp1 (x + 142) = some (.inr (11, [.ref (x + 126), .int t1.1, .int t1.2.1, .int t1.2.2.1, .int t1.2.2.2])) := k1_0
  refine A_st (st' := []) rfl ?_
  refine A_aload_n X dX5_readAbsolve_7 0 rfl ?_
  refine A_aload_n X dX5_readAbsolve_8 0 rfl ?_
  refine A_get X dX5_readAbsolve_9 kcl_X5 2 (by decide) kw_243 ((n1 _ (by omega)).trans g2) rfl ?_
  refine A_get X dX5_readAbsolve_12 kcl_X2 3 (by decide) kw_149 ((n1 _ (by omega)).trans g3) rfl ?_
  refine A_get X dX5_readAbsolve_15 kcl_X6 2 (by decide) kw_130 ((n1 _ (by omega)).trans g13) rfl ?_
  refine A_if_ne (tgt := 26) X dX5_readAbsolve_18 h (by decide) (fun hc h => ?_) (fun hc h => ?_)
  · refine A_iconst (v := 0) X dX5_readAbsolve_26 (by decide) ?_
    refine A_sub (L' := [(0, .ref (x + 128))]) [0] rfl ?_
    exact c_X5_readAbsolve_L27 X hr  ((n1 _ (by omega)).trans g0) ((n1 _ (by omega)).trans g1) ((n1 _ (by omega)).trans g2) ((n1 _ (by omega)).trans g3) ((n1 _ (by omega)).trans g4) ((n1 _ (by omega)).trans g5) ((n1 _ (by omega)).trans g6) ((n1 _ (by omega)).trans g10) ((n1 _ (by omega)).trans g11) ((n1 _ (by omega)).trans g12) ((n1 _ (by omega)).trans g13) ((n1 _ (by omega)).trans g14) ((n1 _ (by omega)).trans g15) k1_0 (fun q z0 z1 z2 z3 z4 z5 z6 z7 z8 => (n1 q z8)) h
  · refine A_bipush (v := 6) X dX5_readAbsolve_21 (by decide) ?_
    refine A_goto (tgt := 27) X dX5_readAbsolve_23 (by decide) ?_
    refine A_sub (L' := [(0, .ref (x + 128))]) [0] rfl ?_
    exact c_X5_readAbsolve_L27 X hr  ((n1 _ (by omega)).trans g0) ((n1 _ (by omega)).trans g1) ((n1 _ (by omega)).trans g2) ((n1 _ (by omega)).trans g3) ((n1 _ (by omega)).trans g4) ((n1 _ (by omega)).trans g5) ((n1 _ (by omega)).trans g6) ((n1 _ (by omega)).trans g10) ((n1 _ (by omega)).trans g11) ((n1 _ (by omega)).trans g12) ((n1 _ (by omega)).trans g13) ((n1 _ (by omega)).trans g14) ((n1 _ (by omega)).trans g15) k1_0 (fun q z0 z1 z2 z3 z4 z5 z6 z7 z8 => (n1 q z8)) h
abbrev P_X5_readForgive (E : KE) (x : Nat)  (hp : Hp) (al : Option Nat) (out : Int32 × Int32 × Int32 × (Nat → Int32) × (Nat → Int32) × Int32 × Int32 × Int32 × Int32) : Option Value → Hp → Option Nat → Prop := fun v0 hp' al' => v0 = none ∧ hp' (x + 128) = some (.inr (7, [.ref (x + 126), .ref (x + 142), .ref (x + 129), .int out.1, .int out.2.1])) ∧ hp' (x + 139) = some (.inr (8, [.ref (x + 140), .ref (x + 141), .int out.2.2.1])) ∧ hp' (x + 140) = some (.inl (kC E 0, 36, .inl out.2.2.2.1)) ∧ hp' (x + 141) = some (.inl (kC E 0, 36, .inl out.2.2.2.2.1)) ∧ hp' (x + 142) = some (.inr (11, [.ref (x + 126), .int out.2.2.2.2.2.1, .int out.2.2.2.2.2.2.1, .int out.2.2.2.2.2.2.2.1, .int out.2.2.2.2.2.2.2.2])) ∧ (∀ q, q ≠ (x + 128) → q ≠ (x + 139) → q ≠ (x + 140) → q ≠ (x + 141) → q ≠ (x + 142) → hp' q = hp q) ∧ al = al'
set_option maxHeartbeats 4000000 in
set_option maxRecDepth 100000 in
theorem c_X5_readForgive {E : KE} {l : Launch} {hp : Hp} {al : Option Nat} {N : Nat} {x : Nat} {tl : Int32} {tb : Nat → Int32} {ec : Int32} {eo : Int32} {sd : Int32} {mn : Int32} {th : Int32} {pc : Int32} {ln : Nat → Int32} {lt : Nat → Int32} {oc : Int32} {op : Nat → Int32} {os : Nat → Int32} {kd : Int32} {ts : Int32} {te : Int32} {tv : Int32}  {out : Int32 × Int32 × Int32 × (Nat → Int32) × (Nat → Int32) × Int32 × Int32 × Int32 × Int32} (g0 : hp (x + 126) = some (.inr (10, [.ref (x + 127), .int tl]))) (g1 : hp (x + 127) = some (.inl (kC E 0, 900, .inl tb))) (g2 : hp (x + 128) = some (.inr (7, [.ref (x + 126), .ref (x + 142), .ref (x + 129), .int ec, .int eo]))) (g3 : hp (x + 129) = some (.inr (4, [.ref (x + 130), .ref (x + 133), .ref (x + 136), .ref (x + 139), .int sd, .int mn, .int th]))) (g7 : hp (x + 133) = some (.inr (9, [.ref (x + 134), .ref (x + 135), .int pc]))) (g8 : hp (x + 134) = some (.inl (kC E 0, 6, .inl ln))) (g9 : hp (x + 135) = some (.inl (kC E 0, 24, .inl lt))) (g13 : hp (x + 139) = some (.inr (8, [.ref (x + 140), .ref (x + 141), .int oc]))) (g14 : hp (x + 140) = some (.inl (kC E 0, 36, .inl op))) (g15 : hp (x + 141) = some (.inl (kC E 0, 36, .inl os))) (g16 : hp (x + 142) = some (.inr (11, [.ref (x + 126), .int kd, .int ts, .int te, .int tv])))  (h : f_X5_readForgive N tl tb pc ln lt ec eo oc op os kd ts te tv = some out) : AM E l yX5_readForgive cX5_readForgive 2 (Option.none : Option Jvm.ClassFile.FieldType) ⟨4, 0, 0, 92⟩ [.ref (x + 128)] hp al (P_X5_readForgive E x hp al out) := by
  refine A_of (by decide +kernel) (Nat.le_of_ble_eq_true rfl) ?_
  intro p e s m args below meth c X hr hnm
  have X : CX E p l s m args meth c "DiceAudit$Loader" cX5_readForgive 2 := X
  refine A_L (L' := [(0, .ref (x + 128))]) rfl ?_
  unfold f_X5_readForgive at h
  refine A_aload_n X dX5_readForgive_0 0 rfl ?_
  refine A_get X dX5_readForgive_1 kcl_X5 1 (by decide) kw_242 g2 rfl ?_
  obtain ⟨t1, hct1, h⟩ := bind_o h
  refine A_c (k' := 0) (n' := 0) rfl rfl (A_runV (rest := []) X dX5_readForgive_4 (c_X9_advance g0 g1 g16  hct1) kY_X9_advance kw_375 g16 rfl rfl ⟨(Nat.le_of_ble_eq_true rfl), (Nat.le_of_ble_eq_true rfl), (Nat.le_of_ble_eq_true rfl), (Nat.le_of_ble_eq_true rfl)⟩ rfl (Nat.le_of_ble_eq_true rfl)) (fun v9 hp1 al9 hP => ?_)
  obtain ⟨rfl, k1_0, n1, rfl⟩ := hP
  replace k1_0 : hp1 (x + 142) = some (.inr (11, [.ref (x + 126), .int t1.1, .int t1.2.1, .int t1.2.2.1, .int t1.2.2.2])) := k1_0
  refine A_st (st' := []) rfl ?_
  refine A_aload_n X dX5_readForgive_7 0 rfl ?_
  obtain ⟨t2, hct2, h⟩ := bind_o h
  refine A_c (k' := 0) (n' := 0) rfl rfl (A_runV (rest := []) X dX5_readForgive_8 (c_X5_takeKnownName ((n1 _ (by omega)).trans g0) ((n1 _ (by omega)).trans g1) ((n1 _ (by omega)).trans g2) ((n1 _ (by omega)).trans g3) ((n1 _ (by omega)).trans g7) ((n1 _ (by omega)).trans g8) ((n1 _ (by omega)).trans g9) k1_0  hct2) kY_X5_takeKnownName kw_472 ((n1 _ (by omega)).trans g2) rfl rfl ⟨(Nat.le_of_ble_eq_true rfl), (Nat.le_of_ble_eq_true rfl), (Nat.le_of_ble_eq_true rfl), (Nat.le_of_ble_eq_true rfl)⟩ rfl (Nat.le_of_ble_eq_true rfl)) (fun v9 hp2 al9 hP => ?_)
  obtain ⟨rfl, k2_0, k2_1, n2, rfl⟩ := hP
  replace k2_0 : hp2 (x + 128) = some (.inr (7, [.ref (x + 126), .ref (x + 142), .ref (x + 129), .int t2.2.1, .int t2.2.2.1])) := k2_0
  replace k2_1 : hp2 (x + 142) = some (.inr (11, [.ref (x + 126), .int t2.2.2.2.1, .int t2.2.2.2.2.1, .int t2.2.2.2.2.2.1, .int t2.2.2.2.2.2.2])) := k2_1
  refine A_st (st' := [.int t2.1]) rfl ?_
  refine A_istore_n (L' := [(1, .int t2.1), (0, .ref (x + 128))]) X dX5_readForgive_11 rfl (by decide) rfl ?_
  refine A_aload_n X dX5_readForgive_12 1 rfl ?_
  refine A_iconst (v := 0) X dX5_readForgive_13 (by decide) ?_
  obtain ⟨t3, hct3, h⟩ := bind_o h
  refine A_c (k' := 0) (n' := 0) rfl rfl (A_runV (rest := []) X dX5_readForgive_14 (c_X5_takeSemicolon ((n2 _ (by omega) (by omega)).trans ((n1 _ (by omega)).trans g0)) ((n2 _ (by omega) (by omega)).trans ((n1 _ (by omega)).trans g1)) k2_0 k2_1  hct3) kY_X5_takeSemicolon kw_385 k2_0 rfl rfl ⟨(Nat.le_of_ble_eq_true rfl), (Nat.le_of_ble_eq_true rfl), (Nat.le_of_ble_eq_true rfl), (Nat.le_of_ble_eq_true rfl)⟩ rfl (Nat.le_of_ble_eq_true rfl)) (fun v9 hp3 al9 hP => ?_)
  obtain ⟨rfl, k3_0, k3_1, n3, rfl⟩ := hP
  replace k3_0 : hp3 (x + 128) = some (.inr (7, [.ref (x + 126), .ref (x + 142), .ref (x + 129), .int t3.1, .int t3.2.1])) := k3_0
  replace k3_1 : hp3 (x + 142) = some (.inr (11, [.ref (x + 126), .int t3.2.2.1, .int t3.2.2.2.1, .int t3.2.2.2.2.1, .int t3.2.2.2.2.2])) := k3_1
  refine A_st (st' := []) rfl ?_
  refine A_aload_n X dX5_readForgive_17 1 rfl ?_
  refine A_get X dX5_readForgive_18 kcl_X5 3 (by decide) kw_245 k3_0 rfl ?_
  refine A_if_ne (tgt := 36) X dX5_readForgive_21 h (by decide) (fun hc h => ?_) (fun hc h => ?_)
  · cases h
    exact A_vret X dX5_readForgive_36 hr ⟨rfl, k3_0, ((n3 _ (by omega) (by omega)).trans ((n2 _ (by omega) (by omega)).trans ((n1 _ (by omega)).trans g13))), ((n3 _ (by omega) (by omega)).trans ((n2 _ (by omega) (by omega)).trans ((n1 _ (by omega)).trans g14))), ((n3 _ (by omega) (by omega)).trans ((n2 _ (by omega) (by omega)).trans ((n1 _ (by omega)).trans g15))), k3_1, (fun q z0 z1 z2 z3 z4 => ((n3 q z0 z4).trans ((n2 q z0 z4).trans (n1 q z4)))), rfl⟩ (Nat.le_of_ble_eq_true rfl) (Nat.le_of_ble_eq_true rfl)
  · refine A_aload_n X dX5_readForgive_24 1 rfl ?_
    refine A_get X dX5_readForgive_25 kcl_X5 2 (by decide) kw_243 k3_0 rfl ?_
    refine A_get X dX5_readForgive_28 kcl_X2 3 (by decide) kw_149 ((n3 _ (by omega) (by omega)).trans ((n2 _ (by omega) (by omega)).trans ((n1 _ (by omega)).trans g3))) rfl ?_
    refine A_iload_n X dX5_readForgive_31 0 rfl ?_
    obtain ⟨t4, hct4, h⟩ := bind_o h
    refine A_c (k' := 0) (n' := 0) rfl rfl (A_runV (rest := []) X dX5_readForgive_32 (c_X6_removeAllOf ((n3 _ (by omega) (by omega)).trans ((n2 _ (by omega) (by omega)).trans ((n1 _ (by omega)).trans g13))) ((n3 _ (by omega) (by omega)).trans ((n2 _ (by omega) (by omega)).trans ((n1 _ (by omega)).trans g14))) ((n3 _ (by omega) (by omega)).trans ((n2 _ (by omega) (by omega)).trans ((n1 _ (by omega)).trans g15)))  hct4) kY_X6_removeAllOf kw_606 ((n3 _ (by omega) (by omega)).trans ((n2 _ (by omega) (by omega)).trans ((n1 _ (by omega)).trans g13))) rfl rfl ⟨(Nat.le_of_ble_eq_true rfl), (Nat.le_of_ble_eq_true rfl), (Nat.le_of_ble_eq_true rfl), (Nat.le_of_ble_eq_true rfl)⟩ rfl (Nat.le_of_ble_eq_true rfl)) (fun v9 hp4 al9 hP => ?_)
    obtain ⟨rfl, k4_0, k4_1, k4_2, n4, rfl⟩ := hP
    replace k4_0 : hp4 (x + 139) = some (.inr (8, [.ref (x + 140), .ref (x + 141), .int t4.2.1])) := k4_0
    replace k4_1 : hp4 (x + 140) = some (.inl (kC E 0, 36, .inl t4.2.2.1)) := k4_1
    replace k4_2 : hp4 (x + 141) = some (.inl (kC E 0, 36, .inl t4.2.2.2)) := k4_2
    refine A_st (st' := [.int t4.1]) rfl ?_
    refine A_pop X dX5_readForgive_35 rfl ?_
    cases h
    exact A_vret X dX5_readForgive_36 hr ⟨rfl, ((n4 _ (by omega) (by omega) (by omega)).trans k3_0), k4_0, k4_1, k4_2, ((n4 _ (by omega) (by omega) (by omega)).trans k3_1), (fun q z0 z1 z2 z3 z4 => ((n4 q z1 z2 z3).trans ((n3 q z0 z4).trans ((n2 q z0 z4).trans (n1 q z4))))), rfl⟩ (Nat.le_of_ble_eq_true rfl) (Nat.le_of_ble_eq_true rfl)
abbrev P_X5_readStatement (E : KE) (x : Nat) (mn : Int32) (th : Int32) (hp : Hp) (al : Option Nat) (out : Int32 × Int32 × Int32 × Int32 × (Nat → Int32) × (Nat → Int32) × Int32 × (Nat → Int32) × (Nat → Int32) × Int32 × (Nat → Int32) × (Nat → Int32) × Int32 × (Nat → Int32) × (Nat → Int32) × Int32 × Int32 × Int32 × Int32) : Option Value → Hp → Option Nat → Prop := fun v0 hp' al' => v0 = none ∧ hp' (x + 128) = some (.inr (7, [.ref (x + 126), .ref (x + 142), .ref (x + 129), .int out.1, .int out.2.1])) ∧ hp' (x + 129) = some (.inr (4, [.ref (x + 130), .ref (x + 133), .ref (x + 136), .ref (x + 139), .int out.2.2.1, .int mn, .int th])) ∧ hp' (x + 130) = some (.inr (2, [.ref (x + 131), .ref (x + 132), .int out.2.2.2.1])) ∧ hp' (x + 131) = some (.inl (kC E 0, 6, .inl out.2.2.2.2.1)) ∧ hp' (x + 132) = some (.inl (kC E 0, 72, .inl out.2.2.2.2.2.1)) ∧ hp' (x + 133) = some (.inr (9, [.ref (x + 134), .ref (x + 135), .int out.2.2.2.2.2.2.1])) ∧ hp' (x + 134) = some (.inl (kC E 0, 6, .inl out.2.2.2.2.2.2.2.1)) ∧ hp' (x + 135) = some (.inl (kC E 0, 24, .inl out.2.2.2.2.2.2.2.2.1)) ∧ hp' (x + 136) = some (.inr (6, [.ref (x + 137), .ref (x + 138), .int out.2.2.2.2.2.2.2.2.2.1])) ∧ hp' (x + 137) = some (.inl (kC E 0, 300, .inl out.2.2.2.2.2.2.2.2.2.2.1)) ∧ hp' (x + 138) = some (.inl (kC E 0, 432, .inl out.2.2.2.2.2.2.2.2.2.2.2.1)) ∧ hp' (x + 139) = some (.inr (8, [.ref (x + 140), .ref (x + 141), .int out.2.2.2.2.2.2.2.2.2.2.2.2.1])) ∧ hp' (x + 140) = some (.inl (kC E 0, 36, .inl out.2.2.2.2.2.2.2.2.2.2.2.2.2.1)) ∧ hp' (x + 141) = some (.inl (kC E 0, 36, .inl out.2.2.2.2.2.2.2.2.2.2.2.2.2.2.1)) ∧ hp' (x + 142) = some (.inr (11, [.ref (x + 126), .int out.2.2.2.2.2.2.2.2.2.2.2.2.2.2.2.1, .int out.2.2.2.2.2.2.2.2.2.2.2.2.2.2.2.2.1, .int out.2.2.2.2.2.2.2.2.2.2.2.2.2.2.2.2.2.1, .int out.2.2.2.2.2.2.2.2.2.2.2.2.2.2.2.2.2.2])) ∧ (∀ q, q ≠ (x + 128) → q ≠ (x + 129) → q ≠ (x + 130) → q ≠ (x + 131) → q ≠ (x + 132) → q ≠ (x + 133) → q ≠ (x + 134) → q ≠ (x + 135) → q ≠ (x + 136) → q ≠ (x + 137) → q ≠ (x + 138) → q ≠ (x + 139) → q ≠ (x + 140) → q ≠ (x + 141) → q ≠ (x + 142) → hp' q = hp q) ∧ al = al'
set_option maxHeartbeats 4000000 in
set_option maxRecDepth 100000 in
theorem c_X5_readStatement {E : KE} {l : Launch} {hp : Hp} {al : Option Nat} {N : Nat} {x : Nat} {tl : Int32} {tb : Nat → Int32} {ec : Int32} {eo : Int32} {sd : Int32} {mn : Int32} {th : Int32} {dc : Int32} {fc : Nat → Int32} {dw : Nat → Int32} {pc : Int32} {ln : Nat → Int32} {lt : Nat → Int32} {tc : Int32} {en : Nat → Int32} {fr : Nat → Int32} {oc : Int32} {op : Nat → Int32} {os : Nat → Int32} {kd : Int32} {ts : Int32} {te : Int32} {tv : Int32}  {out : Int32 × Int32 × Int32 × Int32 × (Nat → Int32) × (Nat → Int32) × Int32 × (Nat → Int32) × (Nat → Int32) × Int32 × (Nat → Int32) × (Nat → Int32) × Int32 × (Nat → Int32) × (Nat → Int32) × Int32 × Int32 × Int32 × Int32} (g0 : hp (x + 126) = some (.inr (10, [.ref (x + 127), .int tl]))) (g1 : hp (x + 127) = some (.inl (kC E 0, 900, .inl tb))) (g2 : hp (x + 128) = some (.inr (7, [.ref (x + 126), .ref (x + 142), .ref (x + 129), .int ec, .int eo]))) (g3 : hp (x + 129) = some (.inr (4, [.ref (x + 130), .ref (x + 133), .ref (x + 136), .ref (x + 139), .int sd, .int mn, .int th]))) (g4 : hp (x + 130) = some (.inr (2, [.ref (x + 131), .ref (x + 132), .int dc]))) (g5 : hp (x + 131) = some (.inl (kC E 0, 6, .inl fc))) (g6 : hp (x + 132) = some (.inl (kC E 0, 72, .inl dw))) (g7 : hp (x + 133) = some (.inr (9, [.ref (x + 134), .ref (x + 135), .int pc]))) (g8 : hp (x + 134) = some (.inl (kC E 0, 6, .inl ln))) (g9 : hp (x + 135) = some (.inl (kC E 0, 24, .inl lt))) (g10 : hp (x + 136) = some (.inr (6, [.ref (x + 137), .ref (x + 138), .int tc]))) (g11 : hp (x + 137) = some (.inl (kC E 0, 300, .inl en))) (g12 : hp (x + 138) = some (.inl (kC E 0, 432, .inl fr))) (g13 : hp (x + 139) = some (.inr (8, [.ref (x + 140), .ref (x + 141), .int oc]))) (g14 : hp (x + 140) = some (.inl (kC E 0, 36, .inl op))) (g15 : hp (x + 141) = some (.inl (kC E 0, 36, .inl os))) (g16 : hp (x + 142) = some (.inr (11, [.ref (x + 126), .int kd, .int ts, .int te, .int tv])))  (h : f_X5_readStatement N tl tb mn th ec eo sd dc fc dw pc ln lt tc en fr oc op os kd ts te tv = some out) : AM E l yX5_readStatement cX5_readStatement 1 (Option.none : Option Jvm.ClassFile.FieldType) ⟨5, 0, 0, 121⟩ [.ref (x + 128)] hp al (P_X5_readStatement E x mn th hp al out) := by
  refine A_of (by decide +kernel) (Nat.le_of_ble_eq_true rfl) ?_
  intro p e s m args below meth c X hr hnm
  have X : CX E p l s m args meth c "DiceAudit$Loader" cX5_readStatement 1 := X
  refine A_L (L' := [(0, .ref (x + 128))]) rfl ?_
  unfold f_X5_readStatement at h
  refine A_aload_n X dX5_readStatement_0 0 rfl ?_
  refine A_get X dX5_readStatement_1 kcl_X5 1 (by decide) kw_242 g2 rfl ?_
  refine A_ldcS (j := 2) X dX5_readStatement_4 (List.mem_of_getElem? (i := 2) rfl) ?_
  obtain ⟨t1, hct1, h⟩ := bind_o h
  refine A_c (k' := 0) (n' := 0) rfl rfl (A_runV (rest := []) X dX5_readStatement_6 (c_X9_isWord g0 g1 g16 (by decide) hct1) kY_X9_isWord kw_361 g16 rfl rfl ⟨(Nat.le_of_ble_eq_true rfl), (Nat.le_of_ble_eq_true rfl), (Nat.le_of_ble_eq_true rfl), (Nat.le_of_ble_eq_true rfl)⟩ rfl (Nat.le_of_ble_eq_true rfl)) (fun v9 hp1 al9 hP => ?_)
  obtain ⟨rfl, zt1, rfl, rfl⟩ := hP
  refine A_st (st' := [.int t1]) rfl ?_
  refine A_if_eq (tgt := 19) X dX5_readStatement_9 h (by decide) (fun hc h => ?_) (fun hc h => ?_)
  · refine A_aload_n X dX5_readStatement_19 0 rfl ?_
    refine A_get X dX5_readStatement_20 kcl_X5 1 (by decide) kw_242 g2 rfl ?_
    refine A_ldcS (j := 3) X dX5_readStatement_23 (List.mem_of_getElem? (i := 3) rfl) ?_
    obtain ⟨t2, hct2, h⟩ := bind_o h
    refine A_c (k' := 0) (n' := 0) rfl rfl (A_runV (rest := []) X dX5_readStatement_25 (c_X9_isWord g0 g1 g16 (by decide) hct2) kY_X9_isWord kw_361 g16 rfl rfl ⟨(Nat.le_of_ble_eq_true rfl), (Nat.le_of_ble_eq_true rfl), (Nat.le_of_ble_eq_true rfl), (Nat.le_of_ble_eq_true rfl)⟩ rfl (Nat.le_of_ble_eq_true rfl)) (fun v9 hp1 al9 hP => ?_)
    obtain ⟨rfl, zt2, rfl, rfl⟩ := hP
    refine A_st (st' := [.int t2]) rfl ?_
    refine A_if_eq (tgt := 38) X dX5_readStatement_28 h (by decide) (fun hc h => ?_) (fun hc h => ?_)
    · refine A_aload_n X dX5_readStatement_38 0 rfl ?_
      refine A_get X dX5_readStatement_39 kcl_X5 1 (by decide) kw_242 g2 rfl ?_
      refine A_ldcS (j := 4) X dX5_readStatement_42 (List.mem_of_getElem? (i := 4) rfl) ?_
      obtain ⟨t3, hct3, h⟩ := bind_o h
      refine A_c (k' := 0) (n' := 0) rfl rfl (A_runV (rest := []) X dX5_readStatement_44 (c_X9_isWord g0 g1 g16 (by decide) hct3) kY_X9_isWord kw_361 g16 rfl rfl ⟨(Nat.le_of_ble_eq_true rfl), (Nat.le_of_ble_eq_true rfl), (Nat.le_of_ble_eq_true rfl), (Nat.le_of_ble_eq_true rfl)⟩ rfl (Nat.le_of_ble_eq_true rfl)) (fun v9 hp1 al9 hP => ?_)
      obtain ⟨rfl, zt3, rfl, rfl⟩ := hP
      refine A_st (st' := [.int t3]) rfl ?_
      refine A_if_eq (tgt := 57) X dX5_readStatement_47 h (by decide) (fun hc h => ?_) (fun hc h => ?_)
      · refine A_aload_n X dX5_readStatement_57 0 rfl ?_
        refine A_get X dX5_readStatement_58 kcl_X5 1 (by decide) kw_242 g2 rfl ?_
        refine A_ldcS (j := 5) X dX5_readStatement_61 (List.mem_of_getElem? (i := 5) rfl) ?_
        obtain ⟨t4, hct4, h⟩ := bind_o h
        refine A_c (k' := 0) (n' := 0) rfl rfl (A_runV (rest := []) X dX5_readStatement_63 (c_X9_isWord g0 g1 g16 (by decide) hct4) kY_X9_isWord kw_361 g16 rfl rfl ⟨(Nat.le_of_ble_eq_true rfl), (Nat.le_of_ble_eq_true rfl), (Nat.le_of_ble_eq_true rfl), (Nat.le_of_ble_eq_true rfl)⟩ rfl (Nat.le_of_ble_eq_true rfl)) (fun v9 hp1 al9 hP => ?_)
        obtain ⟨rfl, zt4, rfl, rfl⟩ := hP
        refine A_st (st' := [.int t4]) rfl ?_
        refine A_if_eq (tgt := 76) X dX5_readStatement_66 h (by decide) (fun hc h => ?_) (fun hc h => ?_)
        · refine A_aload_n X dX5_readStatement_76 0 rfl ?_
          refine A_get X dX5_readStatement_77 kcl_X5 1 (by decide) kw_242 g2 rfl ?_
          refine A_ldcS (j := 6) X dX5_readStatement_80 (List.mem_of_getElem? (i := 6) rfl) ?_
          obtain ⟨t5, hct5, h⟩ := bind_o h
          refine A_c (k' := 0) (n' := 0) rfl rfl (A_runV (rest := []) X dX5_readStatement_82 (c_X9_isWord g0 g1 g16 (by decide) hct5) kY_X9_isWord kw_361 g16 rfl rfl ⟨(Nat.le_of_ble_eq_true rfl), (Nat.le_of_ble_eq_true rfl), (Nat.le_of_ble_eq_true rfl), (Nat.le_of_ble_eq_true rfl)⟩ rfl (Nat.le_of_ble_eq_true rfl)) (fun v9 hp1 al9 hP => ?_)
          obtain ⟨rfl, zt5, rfl, rfl⟩ := hP
          refine A_st (st' := [.int t5]) rfl ?_
          refine A_if_eq (tgt := 95) X dX5_readStatement_85 h (by decide) (fun hc h => ?_) (fun hc h => ?_)
          · refine A_aload_n X dX5_readStatement_95 0 rfl ?_
            refine A_get X dX5_readStatement_96 kcl_X5 1 (by decide) kw_242 g2 rfl ?_
            refine A_ldcS (j := 7) X dX5_readStatement_99 (List.mem_of_getElem? (i := 7) rfl) ?_
            obtain ⟨t6, hct6, h⟩ := bind_o h
            refine A_c (k' := 0) (n' := 0) rfl rfl (A_runV (rest := []) X dX5_readStatement_101 (c_X9_isWord g0 g1 g16 (by decide) hct6) kY_X9_isWord kw_361 g16 rfl rfl ⟨(Nat.le_of_ble_eq_true rfl), (Nat.le_of_ble_eq_true rfl), (Nat.le_of_ble_eq_true rfl), (Nat.le_of_ble_eq_true rfl)⟩ rfl (Nat.le_of_ble_eq_true rfl)) (fun v9 hp1 al9 hP => ?_)
            obtain ⟨rfl, zt6, rfl, rfl⟩ := hP
            refine A_st (st' := [.int t6]) rfl ?_
            refine A_if_eq (tgt := 114) X dX5_readStatement_104 h (by decide) (fun hc h => ?_) (fun hc h => ?_)
            · refine A_aload_n X dX5_readStatement_114 0 rfl ?_
              refine A_iconst (v := 1) X dX5_readStatement_115 (by decide) ?_
              obtain ⟨t7, hct7, h⟩ := bind_o h
              refine A_c (k' := 0) (n' := 0) rfl rfl (A_runV (rest := []) X dX5_readStatement_116 (c_X5_fail g2 g16  hct7) kY_X5_fail kw_371 g2 rfl rfl ⟨(Nat.le_of_ble_eq_true rfl), (Nat.le_of_ble_eq_true rfl), (Nat.le_of_ble_eq_true rfl), (Nat.le_of_ble_eq_true rfl)⟩ rfl (Nat.le_of_ble_eq_true rfl)) (fun v9 hp1 al9 hP => ?_)
              obtain ⟨rfl, k1_0, n1, rfl⟩ := hP
              replace k1_0 : hp1 (x + 128) = some (.inr (7, [.ref (x + 126), .ref (x + 142), .ref (x + 129), .int t7.1, .int t7.2])) := k1_0
              refine A_st (st' := []) rfl ?_
              cases h
              exact A_vret X dX5_readStatement_119 hr ⟨rfl, k1_0, ((n1 _ (by omega)).trans g3), ((n1 _ (by omega)).trans g4), ((n1 _ (by omega)).trans g5), ((n1 _ (by omega)).trans g6), ((n1 _ (by omega)).trans g7), ((n1 _ (by omega)).trans g8), ((n1 _ (by omega)).trans g9), ((n1 _ (by omega)).trans g10), ((n1 _ (by omega)).trans g11), ((n1 _ (by omega)).trans g12), ((n1 _ (by omega)).trans g13), ((n1 _ (by omega)).trans g14), ((n1 _ (by omega)).trans g15), ((n1 _ (by omega)).trans g16), (fun q z0 z1 z2 z3 z4 z5 z6 z7 z8 z9 z10 z11 z12 z13 z14 => (n1 q z0)), rfl⟩ (Nat.le_of_ble_eq_true rfl) (Nat.le_of_ble_eq_true rfl)
            · refine A_aload_n X dX5_readStatement_107 0 rfl ?_
              obtain ⟨t8, hct8, h⟩ := bind_o h
              refine A_c (k' := 0) (n' := 0) rfl rfl (A_runV (rest := []) X dX5_readStatement_108 (c_X5_readForgive g0 g1 g2 g3 g7 g8 g9 g13 g14 g15 g16  hct8) kY_X5_readForgive kw_602 g2 rfl rfl ⟨(Nat.le_of_ble_eq_true rfl), (Nat.le_of_ble_eq_true rfl), (Nat.le_of_ble_eq_true rfl), (Nat.le_of_ble_eq_true rfl)⟩ rfl (Nat.le_of_ble_eq_true rfl)) (fun v9 hp1 al9 hP => ?_)
              obtain ⟨rfl, k1_0, k1_1, k1_2, k1_3, k1_4, n1, rfl⟩ := hP
              replace k1_0 : hp1 (x + 128) = some (.inr (7, [.ref (x + 126), .ref (x + 142), .ref (x + 129), .int t8.1, .int t8.2.1])) := k1_0
              replace k1_1 : hp1 (x + 139) = some (.inr (8, [.ref (x + 140), .ref (x + 141), .int t8.2.2.1])) := k1_1
              replace k1_2 : hp1 (x + 140) = some (.inl (kC E 0, 36, .inl t8.2.2.2.1)) := k1_2
              replace k1_3 : hp1 (x + 141) = some (.inl (kC E 0, 36, .inl t8.2.2.2.2.1)) := k1_3
              replace k1_4 : hp1 (x + 142) = some (.inr (11, [.ref (x + 126), .int t8.2.2.2.2.2.1, .int t8.2.2.2.2.2.2.1, .int t8.2.2.2.2.2.2.2.1, .int t8.2.2.2.2.2.2.2.2])) := k1_4
              refine A_st (st' := []) rfl ?_
              refine A_goto (tgt := 119) X dX5_readStatement_111 (by decide) ?_
              cases h
              exact A_vret X dX5_readStatement_119 hr ⟨rfl, k1_0, ((n1 _ (by omega) (by omega) (by omega) (by omega) (by omega)).trans g3), ((n1 _ (by omega) (by omega) (by omega) (by omega) (by omega)).trans g4), ((n1 _ (by omega) (by omega) (by omega) (by omega) (by omega)).trans g5), ((n1 _ (by omega) (by omega) (by omega) (by omega) (by omega)).trans g6), ((n1 _ (by omega) (by omega) (by omega) (by omega) (by omega)).trans g7), ((n1 _ (by omega) (by omega) (by omega) (by omega) (by omega)).trans g8), ((n1 _ (by omega) (by omega) (by omega) (by omega) (by omega)).trans g9), ((n1 _ (by omega) (by omega) (by omega) (by omega) (by omega)).trans g10), ((n1 _ (by omega) (by omega) (by omega) (by omega) (by omega)).trans g11), ((n1 _ (by omega) (by omega) (by omega) (by omega) (by omega)).trans g12), k1_1, k1_2, k1_3, k1_4, (fun q z0 z1 z2 z3 z4 z5 z6 z7 z8 z9 z10 z11 z12 z13 z14 => (n1 q z0 z11 z12 z13 z14)), rfl⟩ (Nat.le_of_ble_eq_true rfl) (Nat.le_of_ble_eq_true rfl)
          · refine A_aload_n X dX5_readStatement_88 0 rfl ?_
            obtain ⟨t9, hct9, h⟩ := bind_o h
            refine A_c (k' := 0) (n' := 0) rfl rfl (A_runV (rest := []) X dX5_readStatement_89 (c_X5_readAbsolve g0 g1 g2 g3 g4 g5 g6 g10 g11 g12 g13 g14 g15 g16  hct9) kY_X5_readAbsolve kw_560 g2 rfl rfl ⟨(Nat.le_of_ble_eq_true rfl), (Nat.le_of_ble_eq_true rfl), (Nat.le_of_ble_eq_true rfl), (Nat.le_of_ble_eq_true rfl)⟩ rfl (Nat.le_of_ble_eq_true rfl)) (fun v9 hp1 al9 hP => ?_)
            obtain ⟨rfl, k1_0, k1_1, k1_2, k1_3, k1_4, k1_5, k1_6, k1_7, k1_8, n1, rfl⟩ := hP
            replace k1_0 : hp1 (x + 128) = some (.inr (7, [.ref (x + 126), .ref (x + 142), .ref (x + 129), .int t9.1, .int t9.2.1])) := k1_0
            replace k1_1 : hp1 (x + 129) = some (.inr (4, [.ref (x + 130), .ref (x + 133), .ref (x + 136), .ref (x + 139), .int t9.2.2.1, .int mn, .int th])) := k1_1
            replace k1_2 : hp1 (x + 136) = some (.inr (6, [.ref (x + 137), .ref (x + 138), .int t9.2.2.2.1])) := k1_2
            replace k1_3 : hp1 (x + 137) = some (.inl (kC E 0, 300, .inl t9.2.2.2.2.1)) := k1_3
            replace k1_4 : hp1 (x + 138) = some (.inl (kC E 0, 432, .inl t9.2.2.2.2.2.1)) := k1_4
            replace k1_5 : hp1 (x + 139) = some (.inr (8, [.ref (x + 140), .ref (x + 141), .int t9.2.2.2.2.2.2.1])) := k1_5
            replace k1_6 : hp1 (x + 140) = some (.inl (kC E 0, 36, .inl t9.2.2.2.2.2.2.2.1)) := k1_6
            replace k1_7 : hp1 (x + 141) = some (.inl (kC E 0, 36, .inl t9.2.2.2.2.2.2.2.2.1)) := k1_7
            replace k1_8 : hp1 (x + 142) = some (.inr (11, [.ref (x + 126), .int t9.2.2.2.2.2.2.2.2.2.1, .int t9.2.2.2.2.2.2.2.2.2.2.1, .int t9.2.2.2.2.2.2.2.2.2.2.2.1, .int t9.2.2.2.2.2.2.2.2.2.2.2.2])) := k1_8
            refine A_st (st' := []) rfl ?_
            refine A_goto (tgt := 119) X dX5_readStatement_92 (by decide) ?_
            cases h
            exact A_vret X dX5_readStatement_119 hr ⟨rfl, k1_0, k1_1, ((n1 _ (by omega) (by omega) (by omega) (by omega) (by omega) (by omega) (by omega) (by omega) (by omega)).trans g4), ((n1 _ (by omega) (by omega) (by omega) (by omega) (by omega) (by omega) (by omega) (by omega) (by omega)).trans g5), ((n1 _ (by omega) (by omega) (by omega) (by omega) (by omega) (by omega) (by omega) (by omega) (by omega)).trans g6), ((n1 _ (by omega) (by omega) (by omega) (by omega) (by omega) (by omega) (by omega) (by omega) (by omega)).trans g7), ((n1 _ (by omega) (by omega) (by omega) (by omega) (by omega) (by omega) (by omega) (by omega) (by omega)).trans g8), ((n1 _ (by omega) (by omega) (by omega) (by omega) (by omega) (by omega) (by omega) (by omega) (by omega)).trans g9), k1_2, k1_3, k1_4, k1_5, k1_6, k1_7, k1_8, (fun q z0 z1 z2 z3 z4 z5 z6 z7 z8 z9 z10 z11 z12 z13 z14 => (n1 q z0 z1 z8 z9 z10 z11 z12 z13 z14)), rfl⟩ (Nat.le_of_ble_eq_true rfl) (Nat.le_of_ble_eq_true rfl)
        · refine A_aload_n X dX5_readStatement_69 0 rfl ?_
          obtain ⟨t10, hct10, h⟩ := bind_o h
          refine A_c (k' := 0) (n' := 0) rfl rfl (A_runV (rest := []) X dX5_readStatement_70 (c_X5_readAudit g0 g1 g2 g3 g4 g5 g10 g12 g13 g14 g15 g16  hct10) kY_X5_readAudit kw_510 g2 rfl rfl ⟨(Nat.le_of_ble_eq_true rfl), (Nat.le_of_ble_eq_true rfl), (Nat.le_of_ble_eq_true rfl), (Nat.le_of_ble_eq_true rfl)⟩ rfl (Nat.le_of_ble_eq_true rfl)) (fun v9 hp1 al9 hP => ?_)
          obtain ⟨rfl, k1_0, k1_1, k1_2, k1_3, k1_4, n1, rfl⟩ := hP
          replace k1_0 : hp1 (x + 128) = some (.inr (7, [.ref (x + 126), .ref (x + 142), .ref (x + 129), .int t10.1, .int t10.2.1])) := k1_0
          replace k1_1 : hp1 (x + 139) = some (.inr (8, [.ref (x + 140), .ref (x + 141), .int t10.2.2.1])) := k1_1
          replace k1_2 : hp1 (x + 140) = some (.inl (kC E 0, 36, .inl t10.2.2.2.1)) := k1_2
          replace k1_3 : hp1 (x + 141) = some (.inl (kC E 0, 36, .inl t10.2.2.2.2.1)) := k1_3
          replace k1_4 : hp1 (x + 142) = some (.inr (11, [.ref (x + 126), .int t10.2.2.2.2.2.1, .int t10.2.2.2.2.2.2.1, .int t10.2.2.2.2.2.2.2.1, .int t10.2.2.2.2.2.2.2.2])) := k1_4
          refine A_st (st' := []) rfl ?_
          refine A_goto (tgt := 119) X dX5_readStatement_73 (by decide) ?_
          cases h
          exact A_vret X dX5_readStatement_119 hr ⟨rfl, k1_0, ((n1 _ (by omega) (by omega) (by omega) (by omega) (by omega)).trans g3), ((n1 _ (by omega) (by omega) (by omega) (by omega) (by omega)).trans g4), ((n1 _ (by omega) (by omega) (by omega) (by omega) (by omega)).trans g5), ((n1 _ (by omega) (by omega) (by omega) (by omega) (by omega)).trans g6), ((n1 _ (by omega) (by omega) (by omega) (by omega) (by omega)).trans g7), ((n1 _ (by omega) (by omega) (by omega) (by omega) (by omega)).trans g8), ((n1 _ (by omega) (by omega) (by omega) (by omega) (by omega)).trans g9), ((n1 _ (by omega) (by omega) (by omega) (by omega) (by omega)).trans g10), ((n1 _ (by omega) (by omega) (by omega) (by omega) (by omega)).trans g11), ((n1 _ (by omega) (by omega) (by omega) (by omega) (by omega)).trans g12), k1_1, k1_2, k1_3, k1_4, (fun q z0 z1 z2 z3 z4 z5 z6 z7 z8 z9 z10 z11 z12 z13 z14 => (n1 q z0 z11 z12 z13 z14)), rfl⟩ (Nat.le_of_ble_eq_true rfl) (Nat.le_of_ble_eq_true rfl)
      · refine A_aload_n X dX5_readStatement_50 0 rfl ?_
        obtain ⟨t11, hct11, h⟩ := bind_o h
        refine A_c (k' := 0) (n' := 0) rfl rfl (A_runV (rest := []) X dX5_readStatement_51 (c_X5_readThrow g0 g1 g2 g3 g4 g5 g6 g7 g8 g9 g10 g11 g12 g16  hct11) kY_X5_readThrow kw_468 g2 rfl rfl ⟨(Nat.le_of_ble_eq_true rfl), (Nat.le_of_ble_eq_true rfl), (Nat.le_of_ble_eq_true rfl), (Nat.le_of_ble_eq_true rfl)⟩ rfl (Nat.le_of_ble_eq_true rfl)) (fun v9 hp1 al9 hP => ?_)
        obtain ⟨rfl, k1_0, k1_1, k1_2, k1_3, k1_4, k1_5, n1, rfl⟩ := hP
        replace k1_0 : hp1 (x + 128) = some (.inr (7, [.ref (x + 126), .ref (x + 142), .ref (x + 129), .int t11.1, .int t11.2.1])) := k1_0
        replace k1_1 : hp1 (x + 129) = some (.inr (4, [.ref (x + 130), .ref (x + 133), .ref (x + 136), .ref (x + 139), .int t11.2.2.1, .int mn, .int th])) := k1_1
        replace k1_2 : hp1 (x + 136) = some (.inr (6, [.ref (x + 137), .ref (x + 138), .int t11.2.2.2.1])) := k1_2
        replace k1_3 : hp1 (x + 137) = some (.inl (kC E 0, 300, .inl t11.2.2.2.2.1)) := k1_3
        replace k1_4 : hp1 (x + 138) = some (.inl (kC E 0, 432, .inl t11.2.2.2.2.2.1)) := k1_4
        replace k1_5 : hp1 (x + 142) = some (.inr (11, [.ref (x + 126), .int t11.2.2.2.2.2.2.1, .int t11.2.2.2.2.2.2.2.1, .int t11.2.2.2.2.2.2.2.2.1, .int t11.2.2.2.2.2.2.2.2.2])) := k1_5
        refine A_st (st' := []) rfl ?_
        refine A_goto (tgt := 119) X dX5_readStatement_54 (by decide) ?_
        cases h
        exact A_vret X dX5_readStatement_119 hr ⟨rfl, k1_0, k1_1, ((n1 _ (by omega) (by omega) (by omega) (by omega) (by omega) (by omega)).trans g4), ((n1 _ (by omega) (by omega) (by omega) (by omega) (by omega) (by omega)).trans g5), ((n1 _ (by omega) (by omega) (by omega) (by omega) (by omega) (by omega)).trans g6), ((n1 _ (by omega) (by omega) (by omega) (by omega) (by omega) (by omega)).trans g7), ((n1 _ (by omega) (by omega) (by omega) (by omega) (by omega) (by omega)).trans g8), ((n1 _ (by omega) (by omega) (by omega) (by omega) (by omega) (by omega)).trans g9), k1_2, k1_3, k1_4, ((n1 _ (by omega) (by omega) (by omega) (by omega) (by omega) (by omega)).trans g13), ((n1 _ (by omega) (by omega) (by omega) (by omega) (by omega) (by omega)).trans g14), ((n1 _ (by omega) (by omega) (by omega) (by omega) (by omega) (by omega)).trans g15), k1_5, (fun q z0 z1 z2 z3 z4 z5 z6 z7 z8 z9 z10 z11 z12 z13 z14 => (n1 q z0 z1 z8 z9 z10 z14)), rfl⟩ (Nat.le_of_ble_eq_true rfl) (Nat.le_of_ble_eq_true rfl)
    · refine A_aload_n X dX5_readStatement_31 0 rfl ?_
      obtain ⟨t12, hct12, h⟩ := bind_o h
      refine A_c (k' := 0) (n' := 0) rfl rfl (A_runV (rest := []) X dX5_readStatement_32 (c_X5_readPlayer g0 g1 g2 g3 g7 g8 g9 g16  hct12) kY_X5_readPlayer kw_442 g2 rfl rfl ⟨(Nat.le_of_ble_eq_true rfl), (Nat.le_of_ble_eq_true rfl), (Nat.le_of_ble_eq_true rfl), (Nat.le_of_ble_eq_true rfl)⟩ rfl (Nat.le_of_ble_eq_true rfl)) (fun v9 hp1 al9 hP => ?_)
      obtain ⟨rfl, k1_0, k1_1, k1_2, k1_3, k1_4, n1, rfl⟩ := hP
      replace k1_0 : hp1 (x + 128) = some (.inr (7, [.ref (x + 126), .ref (x + 142), .ref (x + 129), .int t12.1, .int t12.2.1])) := k1_0
      replace k1_1 : hp1 (x + 133) = some (.inr (9, [.ref (x + 134), .ref (x + 135), .int t12.2.2.1])) := k1_1
      replace k1_2 : hp1 (x + 134) = some (.inl (kC E 0, 6, .inl t12.2.2.2.1)) := k1_2
      replace k1_3 : hp1 (x + 135) = some (.inl (kC E 0, 24, .inl t12.2.2.2.2.1)) := k1_3
      replace k1_4 : hp1 (x + 142) = some (.inr (11, [.ref (x + 126), .int t12.2.2.2.2.2.1, .int t12.2.2.2.2.2.2.1, .int t12.2.2.2.2.2.2.2.1, .int t12.2.2.2.2.2.2.2.2])) := k1_4
      refine A_st (st' := []) rfl ?_
      refine A_goto (tgt := 119) X dX5_readStatement_35 (by decide) ?_
      cases h
      exact A_vret X dX5_readStatement_119 hr ⟨rfl, k1_0, ((n1 _ (by omega) (by omega) (by omega) (by omega) (by omega)).trans g3), ((n1 _ (by omega) (by omega) (by omega) (by omega) (by omega)).trans g4), ((n1 _ (by omega) (by omega) (by omega) (by omega) (by omega)).trans g5), ((n1 _ (by omega) (by omega) (by omega) (by omega) (by omega)).trans g6), k1_1, k1_2, k1_3, ((n1 _ (by omega) (by omega) (by omega) (by omega) (by omega)).trans g10), ((n1 _ (by omega) (by omega) (by omega) (by omega) (by omega)).trans g11), ((n1 _ (by omega) (by omega) (by omega) (by omega) (by omega)).trans g12), ((n1 _ (by omega) (by omega) (by omega) (by omega) (by omega)).trans g13), ((n1 _ (by omega) (by omega) (by omega) (by omega) (by omega)).trans g14), ((n1 _ (by omega) (by omega) (by omega) (by omega) (by omega)).trans g15), k1_4, (fun q z0 z1 z2 z3 z4 z5 z6 z7 z8 z9 z10 z11 z12 z13 z14 => (n1 q z0 z5 z6 z7 z14)), rfl⟩ (Nat.le_of_ble_eq_true rfl) (Nat.le_of_ble_eq_true rfl)
  · refine A_aload_n X dX5_readStatement_12 0 rfl ?_
    obtain ⟨t13, hct13, h⟩ := bind_o h
    refine A_c (k' := 0) (n' := 0) rfl rfl (A_runV (rest := []) X dX5_readStatement_13 (c_X5_readDie g0 g1 g2 g3 g4 g5 g6 g16  hct13) kY_X5_readDie kw_425 g2 rfl rfl ⟨(Nat.le_of_ble_eq_true rfl), (Nat.le_of_ble_eq_true rfl), (Nat.le_of_ble_eq_true rfl), (Nat.le_of_ble_eq_true rfl)⟩ rfl (Nat.le_of_ble_eq_true rfl)) (fun v9 hp1 al9 hP => ?_)
    obtain ⟨rfl, k1_0, k1_1, k1_2, k1_3, k1_4, n1, rfl⟩ := hP
    replace k1_0 : hp1 (x + 128) = some (.inr (7, [.ref (x + 126), .ref (x + 142), .ref (x + 129), .int t13.1, .int t13.2.1])) := k1_0
    replace k1_1 : hp1 (x + 130) = some (.inr (2, [.ref (x + 131), .ref (x + 132), .int t13.2.2.1])) := k1_1
    replace k1_2 : hp1 (x + 131) = some (.inl (kC E 0, 6, .inl t13.2.2.2.1)) := k1_2
    replace k1_3 : hp1 (x + 132) = some (.inl (kC E 0, 72, .inl t13.2.2.2.2.1)) := k1_3
    replace k1_4 : hp1 (x + 142) = some (.inr (11, [.ref (x + 126), .int t13.2.2.2.2.2.1, .int t13.2.2.2.2.2.2.1, .int t13.2.2.2.2.2.2.2.1, .int t13.2.2.2.2.2.2.2.2])) := k1_4
    refine A_st (st' := []) rfl ?_
    refine A_goto (tgt := 119) X dX5_readStatement_16 (by decide) ?_
    cases h
    exact A_vret X dX5_readStatement_119 hr ⟨rfl, k1_0, ((n1 _ (by omega) (by omega) (by omega) (by omega) (by omega)).trans g3), k1_1, k1_2, k1_3, ((n1 _ (by omega) (by omega) (by omega) (by omega) (by omega)).trans g7), ((n1 _ (by omega) (by omega) (by omega) (by omega) (by omega)).trans g8), ((n1 _ (by omega) (by omega) (by omega) (by omega) (by omega)).trans g9), ((n1 _ (by omega) (by omega) (by omega) (by omega) (by omega)).trans g10), ((n1 _ (by omega) (by omega) (by omega) (by omega) (by omega)).trans g11), ((n1 _ (by omega) (by omega) (by omega) (by omega) (by omega)).trans g12), ((n1 _ (by omega) (by omega) (by omega) (by omega) (by omega)).trans g13), ((n1 _ (by omega) (by omega) (by omega) (by omega) (by omega)).trans g14), ((n1 _ (by omega) (by omega) (by omega) (by omega) (by omega)).trans g15), k1_4, (fun q z0 z1 z2 z3 z4 z5 z6 z7 z8 z9 z10 z11 z12 z13 z14 => (n1 q z0 z2 z3 z4 z14)), rfl⟩ (Nat.le_of_ble_eq_true rfl) (Nat.le_of_ble_eq_true rfl)
abbrev P_X5_parse (E : KE) (x : Nat)  (hp : Hp) (al : Option Nat) (out : Int32 × Int32 × Int32 × Int32 × Int32 × Int32 × Int32 × (Nat → Int32) × (Nat → Int32) × Int32 × (Nat → Int32) × (Nat → Int32) × Int32 × (Nat → Int32) × (Nat → Int32) × Int32 × (Nat → Int32) × (Nat → Int32) × Int32 × Int32 × Int32 × Int32) : Option Value → Hp → Option Nat → Prop := fun v0 hp' al' => v0 = some (.int out.1) ∧ (out.1 = 0 ∨ out.1 = 1) ∧ hp' (x + 128) = some (.inr (7, [.ref (x + 126), .ref (x + 142), .ref (x + 129), .int out.2.1, .int out.2.2.1])) ∧ hp' (x + 129) = some (.inr (4, [.ref (x + 130), .ref (x + 133), .ref (x + 136), .ref (x + 139), .int out.2.2.2.1, .int out.2.2.2.2.1, .int out.2.2.2.2.2.1])) ∧ hp' (x + 130) = some (.inr (2, [.ref (x + 131), .ref (x + 132), .int out.2.2.2.2.2.2.1])) ∧ hp' (x + 131) = some (.inl (kC E 0, 6, .inl out.2.2.2.2.2.2.2.1)) ∧ hp' (x + 132) = some (.inl (kC E 0, 72, .inl out.2.2.2.2.2.2.2.2.1)) ∧ hp' (x + 133) = some (.inr (9, [.ref (x + 134), .ref (x + 135), .int out.2.2.2.2.2.2.2.2.2.1])) ∧ hp' (x + 134) = some (.inl (kC E 0, 6, .inl out.2.2.2.2.2.2.2.2.2.2.1)) ∧ hp' (x + 135) = some (.inl (kC E 0, 24, .inl out.2.2.2.2.2.2.2.2.2.2.2.1)) ∧ hp' (x + 136) = some (.inr (6, [.ref (x + 137), .ref (x + 138), .int out.2.2.2.2.2.2.2.2.2.2.2.2.1])) ∧ hp' (x + 137) = some (.inl (kC E 0, 300, .inl out.2.2.2.2.2.2.2.2.2.2.2.2.2.1)) ∧ hp' (x + 138) = some (.inl (kC E 0, 432, .inl out.2.2.2.2.2.2.2.2.2.2.2.2.2.2.1)) ∧ hp' (x + 139) = some (.inr (8, [.ref (x + 140), .ref (x + 141), .int out.2.2.2.2.2.2.2.2.2.2.2.2.2.2.2.1])) ∧ hp' (x + 140) = some (.inl (kC E 0, 36, .inl out.2.2.2.2.2.2.2.2.2.2.2.2.2.2.2.2.1)) ∧ hp' (x + 141) = some (.inl (kC E 0, 36, .inl out.2.2.2.2.2.2.2.2.2.2.2.2.2.2.2.2.2.1)) ∧ hp' (x + 142) = some (.inr (11, [.ref (x + 126), .int out.2.2.2.2.2.2.2.2.2.2.2.2.2.2.2.2.2.2.1, .int out.2.2.2.2.2.2.2.2.2.2.2.2.2.2.2.2.2.2.2.1, .int out.2.2.2.2.2.2.2.2.2.2.2.2.2.2.2.2.2.2.2.2.1, .int out.2.2.2.2.2.2.2.2.2.2.2.2.2.2.2.2.2.2.2.2.2])) ∧ (∀ q, q ≠ (x + 128) → q ≠ (x + 129) → q ≠ (x + 130) → q ≠ (x + 131) → q ≠ (x + 132) → q ≠ (x + 133) → q ≠ (x + 134) → q ≠ (x + 135) → q ≠ (x + 136) → q ≠ (x + 137) → q ≠ (x + 138) → q ≠ (x + 139) → q ≠ (x + 140) → q ≠ (x + 141) → q ≠ (x + 142) → hp' q = hp q) ∧ al = al'
set_option maxHeartbeats 4000000 in
set_option maxRecDepth 100000 in
theorem c_X5_parse_L47 {E : KE} {p : Program} {l : Launch} {e : Env} {s : State} {m : MethodId} {args : Array Value} {below : List Frame} {meth : Method} {c : Code} {al : Option Nat} {N : Nat} {x : Nat} {tl : Int32} {tb : Nat → Int32} {hp0 : Hp} {out : Int32 × Int32 × Int32 × Int32 × Int32 × Int32 × Int32 × (Nat → Int32) × (Nat → Int32) × Int32 × (Nat → Int32) × (Nat → Int32) × Int32 × (Nat → Int32) × (Nat → Int32) × Int32 × (Nat → Int32) × (Nat → Int32) × Int32 × Int32 × Int32 × Int32}  (X : CX E p l s m args meth c "DiceAudit$Loader" cX5_parse 2) (hr : meth.sig.returnType = (Option.some Jvm.ClassFile.FieldType.boolean))   : ∀ {ec : Int32} {eo : Int32} {sd : Int32} {mn : Int32} {th : Int32} {dc : Int32} {fc : Nat → Int32} {dw : Nat → Int32} {pc : Int32} {ln : Nat → Int32} {lt : Nat → Int32} {tc : Int32} {en : Nat → Int32} {fr : Nat → Int32} {oc : Int32} {op : Nat → Int32} {os : Nat → Int32} {kd : Int32} {ts : Int32} {te : Int32} {tv : Int32} {hp : Hp}, hp (x + 126) = some (.inr (10, [.ref (x + 127), .int tl])) → hp (x + 127) = some (.inl (kC E 0, 900, .inl tb)) → hp (x + 128) = some (.inr (7, [.ref (x + 126), .ref (x + 142), .ref (x + 129), .int ec, .int eo])) → hp (x + 129) = some (.inr (4, [.ref (x + 130), .ref (x + 133), .ref (x + 136), .ref (x + 139), .int sd, .int mn, .int th])) → hp (x + 130) = some (.inr (2, [.ref (x + 131), .ref (x + 132), .int dc])) → hp (x + 131) = some (.inl (kC E 0, 6, .inl fc)) → hp (x + 132) = some (.inl (kC E 0, 72, .inl dw)) → hp (x + 133) = some (.inr (9, [.ref (x + 134), .ref (x + 135), .int pc])) → hp (x + 134) = some (.inl (kC E 0, 6, .inl ln)) → hp (x + 135) = some (.inl (kC E 0, 24, .inl lt)) → hp (x + 136) = some (.inr (6, [.ref (x + 137), .ref (x + 138), .int tc])) → hp (x + 137) = some (.inl (kC E 0, 300, .inl en)) → hp (x + 138) = some (.inl (kC E 0, 432, .inl fr)) → hp (x + 139) = some (.inr (8, [.ref (x + 140), .ref (x + 141), .int oc])) → hp (x + 140) = some (.inl (kC E 0, 36, .inl op)) → hp (x + 141) = some (.inl (kC E 0, 36, .inl os)) → hp (x + 142) = some (.inr (11, [.ref (x + 126), .int kd, .int ts, .int te, .int tv])) → (∀ q, q ≠ (x + 128) → q ≠ (x + 129) → q ≠ (x + 130) → q ≠ (x + 131) → q ≠ (x + 132) → q ≠ (x + 133) → q ≠ (x + 134) → q ≠ (x + 135) → q ≠ (x + 136) → q ≠ (x + 137) → q ≠ (x + 138) → q ≠ (x + 139) → q ≠ (x + 140) → q ≠ (x + 141) → q ≠ (x + 142) → hp q = hp0 q) → f_X5_parse_L47 N tl tb ec eo sd mn th dc fc dw pc ln lt tc en fr oc op os kd ts te tv = some out → AW E p l e ⟨6, 0, 0, 141⟩ s m args below meth c 2 (MQ below (kQc E (P_X5_parse E x hp0 al out)) args s 0 0 (kA E)) hp al 0 0 47 [(0, .ref (x + 128))] [] := by
  intro ec eo sd mn th dc fc dw pc ln lt tc en fr oc op os kd ts te tv hp g0 g1 g2 g3 g4 g5 g6 g7 g8 g9 g10 g11 g12 g13 g14 g15 g16 hfr h
  unfold f_X5_parse_L47 at h
  refine A_aload_n X dX5_parse_47 0 rfl ?_
  refine A_get X dX5_parse_48 kcl_X5 3 (by decide) kw_245 g2 rfl ?_
  refine A_if_ne (tgt := 58) X dX5_parse_51 h (by decide) (fun hc h => ?_) (fun hc h => ?_)
  · refine A_iconst (v := 0) X dX5_parse_58 (by decide) ?_
    cases h
    exact A_zret X dX5_parse_59 hr (Or.inl rfl) ⟨rfl, (Or.inl rfl), g2, g3, g4, g5, g6, g7, g8, g9, g10, g11, g12, g13, g14, g15, g16, (fun q z0 z1 z2 z3 z4 z5 z6 z7 z8 z9 z10 z11 z12 z13 z14 => (hfr q z0 z1 z2 z3 z4 z5 z6 z7 z8 z9 z10 z11 z12 z13 z14)), rfl⟩ (Nat.le_of_ble_eq_true rfl) (Nat.le_of_ble_eq_true rfl)
  · refine A_iconst (v := 1) X dX5_parse_54 (by decide) ?_
    refine A_goto (tgt := 59) X dX5_parse_55 (by decide) ?_
    cases h
    exact A_zret X dX5_parse_59 hr (Or.inr rfl) ⟨rfl, (Or.inr rfl), g2, g3, g4, g5, g6, g7, g8, g9, g10, g11, g12, g13, g14, g15, g16, (fun q z0 z1 z2 z3 z4 z5 z6 z7 z8 z9 z10 z11 z12 z13 z14 => (hfr q z0 z1 z2 z3 z4 z5 z6 z7 z8 z9 z10 z11 z12 z13 z14)), rfl⟩ (Nat.le_of_ble_eq_true rfl) (Nat.le_of_ble_eq_true rfl)
set_option maxHeartbeats 4000000 in
set_option maxRecDepth 100000 in
theorem c_X5_parse_L23 {E : KE} {p : Program} {l : Launch} {e : Env} {s : State} {m : MethodId} {args : Array Value} {below : List Frame} {meth : Method} {c : Code} {al : Option Nat} {N : Nat} {x : Nat} {tl : Int32} {tb : Nat → Int32} {hp0 : Hp} {out : Int32 × Int32 × Int32 × Int32 × Int32 × Int32 × Int32 × (Nat → Int32) × (Nat → Int32) × Int32 × (Nat → Int32) × (Nat → Int32) × Int32 × (Nat → Int32) × (Nat → Int32) × Int32 × (Nat → Int32) × (Nat → Int32) × Int32 × Int32 × Int32 × Int32}  (X : CX E p l s m args meth c "DiceAudit$Loader" cX5_parse 2) (hr : meth.sig.returnType = (Option.some Jvm.ClassFile.FieldType.boolean))   : ∀ (j : Nat), ∀ {l1 : Int32} {ec : Int32} {eo : Int32} {sd : Int32} {mn : Int32} {th : Int32} {dc : Int32} {fc : Nat → Int32} {dw : Nat → Int32} {pc : Int32} {ln : Nat → Int32} {lt : Nat → Int32} {tc : Int32} {en : Nat → Int32} {fr : Nat → Int32} {oc : Int32} {op : Nat → Int32} {os : Nat → Int32} {kd : Int32} {ts : Int32} {te : Int32} {tv : Int32} {hp : Hp}, hp (x + 126) = some (.inr (10, [.ref (x + 127), .int tl])) → hp (x + 127) = some (.inl (kC E 0, 900, .inl tb)) → hp (x + 128) = some (.inr (7, [.ref (x + 126), .ref (x + 142), .ref (x + 129), .int ec, .int eo])) → hp (x + 129) = some (.inr (4, [.ref (x + 130), .ref (x + 133), .ref (x + 136), .ref (x + 139), .int sd, .int mn, .int th])) → hp (x + 130) = some (.inr (2, [.ref (x + 131), .ref (x + 132), .int dc])) → hp (x + 131) = some (.inl (kC E 0, 6, .inl fc)) → hp (x + 132) = some (.inl (kC E 0, 72, .inl dw)) → hp (x + 133) = some (.inr (9, [.ref (x + 134), .ref (x + 135), .int pc])) → hp (x + 134) = some (.inl (kC E 0, 6, .inl ln)) → hp (x + 135) = some (.inl (kC E 0, 24, .inl lt)) → hp (x + 136) = some (.inr (6, [.ref (x + 137), .ref (x + 138), .int tc])) → hp (x + 137) = some (.inl (kC E 0, 300, .inl en)) → hp (x + 138) = some (.inl (kC E 0, 432, .inl fr)) → hp (x + 139) = some (.inr (8, [.ref (x + 140), .ref (x + 141), .int oc])) → hp (x + 140) = some (.inl (kC E 0, 36, .inl op)) → hp (x + 141) = some (.inl (kC E 0, 36, .inl os)) → hp (x + 142) = some (.inr (11, [.ref (x + 126), .int kd, .int ts, .int te, .int tv])) → (∀ q, q ≠ (x + 128) → q ≠ (x + 129) → q ≠ (x + 130) → q ≠ (x + 131) → q ≠ (x + 132) → q ≠ (x + 133) → q ≠ (x + 134) → q ≠ (x + 135) → q ≠ (x + 136) → q ≠ (x + 137) → q ≠ (x + 138) → q ≠ (x + 139) → q ≠ (x + 140) → q ≠ (x + 141) → q ≠ (x + 142) → hp q = hp0 q) → f_X5_parse_L23 N tl tb j l1 ec eo sd mn th dc fc dw pc ln lt tc en fr oc op os kd ts te tv = some out → AW E p l e ⟨6, 0, 0, 141⟩ s m args below meth c 2 (MQ below (kQc E (P_X5_parse E x hp0 al out)) args s 0 0 (kA E)) hp al 0 0 23 [(0, .ref (x + 128)), (1, .int l1)] [] := by
  intro j
  induction j with
  | zero =>
    intro l1 ec eo sd mn th dc fc dw pc ln lt tc en fr oc op os kd ts te tv hp g0 g1 g2 g3 g4 g5 g6 g7 g8 g9 g10 g11 g12 g13 g14 g15 g16 hfr h
    have h : (none : Option (Int32 × Int32 × Int32 × Int32 × Int32 × Int32 × Int32 × (Nat → Int32) × (Nat → Int32) × Int32 × (Nat → Int32) × (Nat → Int32) × Int32 × (Nat → Int32) × (Nat → Int32) × Int32 × (Nat → Int32) × (Nat → Int32) × Int32 × Int32 × Int32 × Int32)) = some out := h
    cases h
  | succ j i23 =>
    intro l1 ec eo sd mn th dc fc dw pc ln lt tc en fr oc op os kd ts te tv hp g0 g1 g2 g3 g4 g5 g6 g7 g8 g9 g10 g11 g12 g13 g14 g15 g16 hfr h
    have h : f_X5_parse_L23_F N tl tb (f_X5_parse_L23 N tl tb j) l1 ec eo sd mn th dc fc dw pc ln lt tc en fr oc op os kd ts te tv = some out := h
    unfold f_X5_parse_L23_F at h
    refine A_iload_n X dX5_parse_23 1 rfl ?_
    refine A_sipush (v := 600) X dX5_parse_24 (by decide) ?_
    refine A_icmp_ge (tgt := 47) X dX5_parse_27 h (by decide) (fun hc h => ?_) (fun hc h => ?_)
    · refine A_sub (L' := [(0, .ref (x + 128))]) [0] rfl ?_
      exact c_X5_parse_L47 X hr  g0 g1 g2 g3 g4 g5 g6 g7 g8 g9 g10 g11 g12 g13 g14 g15 g16 (fun q z0 z1 z2 z3 z4 z5 z6 z7 z8 z9 z10 z11 z12 z13 z14 => (hfr q z0 z1 z2 z3 z4 z5 z6 z7 z8 z9 z10 z11 z12 z13 z14)) h
    · refine A_aload_n X dX5_parse_30 0 rfl ?_
      obtain ⟨t3, hct3, h⟩ := bind_o h
      refine A_c (k' := 0) (n' := 0) rfl rfl (A_runV (rest := []) X dX5_parse_31 (c_X5_hasMore g2 g16  hct3) kY_X5_hasMore kw_416 g2 rfl rfl ⟨(Nat.le_of_ble_eq_true rfl), (Nat.le_of_ble_eq_true rfl), (Nat.le_of_ble_eq_true rfl), (Nat.le_of_ble_eq_true rfl)⟩ rfl (Nat.le_of_ble_eq_true rfl)) (fun v9 hp1 al9 hP => ?_)
      obtain ⟨rfl, zt3, rfl, rfl⟩ := hP
      refine A_st (st' := [.int t3]) rfl ?_
      refine A_if_eq (tgt := 47) X dX5_parse_34 h (by decide) (fun hc h => ?_) (fun hc h => ?_)
      · refine A_sub (L' := [(0, .ref (x + 128))]) [0] rfl ?_
        exact c_X5_parse_L47 X hr  g0 g1 g2 g3 g4 g5 g6 g7 g8 g9 g10 g11 g12 g13 g14 g15 g16 (fun q z0 z1 z2 z3 z4 z5 z6 z7 z8 z9 z10 z11 z12 z13 z14 => (hfr q z0 z1 z2 z3 z4 z5 z6 z7 z8 z9 z10 z11 z12 z13 z14)) h
      · refine A_aload_n X dX5_parse_37 0 rfl ?_
        obtain ⟨t4, hct4, h⟩ := bind_o h
        refine A_c (k' := 0) (n' := 0) rfl rfl (A_runV (rest := []) X dX5_parse_38 (c_X5_readStatement g0 g1 g2 g3 g4 g5 g6 g7 g8 g9 g10 g11 g12 g13 g14 g15 g16  hct4) kY_X5_readStatement kw_420 g2 rfl rfl ⟨(Nat.le_of_ble_eq_true rfl), (Nat.le_of_ble_eq_true rfl), (Nat.le_of_ble_eq_true rfl), (Nat.le_of_ble_eq_true rfl)⟩ rfl (Nat.le_of_ble_eq_true rfl)) (fun v9 hp1 al9 hP => ?_)
        obtain ⟨rfl, k1_0, k1_1, k1_2, k1_3, k1_4, k1_5, k1_6, k1_7, k1_8, k1_9, k1_10, k1_11, k1_12, k1_13, k1_14, n1, rfl⟩ := hP
        replace k1_0 : hp1 (x + 128) = some (.inr (7, [.ref (x + 126), .ref (x + 142), .ref (x + 129), .int t4.1, .int t4.2.1])) := k1_0
        replace k1_1 : hp1 (x + 129) = some (.inr (4, [.ref (x + 130), .ref (x + 133), .ref (x + 136), .ref (x + 139), .int t4.2.2.1, .int mn, .int th])) := k1_1
        replace k1_2 : hp1 (x + 130) = some (.inr (2, [.ref (x + 131), .ref (x + 132), .int t4.2.2.2.1])) := k1_2
        replace k1_3 : hp1 (x + 131) = some (.inl (kC E 0, 6, .inl t4.2.2.2.2.1)) := k1_3
        replace k1_4 : hp1 (x + 132) = some (.inl (kC E 0, 72, .inl t4.2.2.2.2.2.1)) := k1_4
        replace k1_5 : hp1 (x + 133) = some (.inr (9, [.ref (x + 134), .ref (x + 135), .int t4.2.2.2.2.2.2.1])) := k1_5
        replace k1_6 : hp1 (x + 134) = some (.inl (kC E 0, 6, .inl t4.2.2.2.2.2.2.2.1)) := k1_6
        replace k1_7 : hp1 (x + 135) = some (.inl (kC E 0, 24, .inl t4.2.2.2.2.2.2.2.2.1)) := k1_7
        replace k1_8 : hp1 (x + 136) = some (.inr (6, [.ref (x + 137), .ref (x + 138), .int t4.2.2.2.2.2.2.2.2.2.1])) := k1_8
        replace k1_9 : hp1 (x + 137) = some (.inl (kC E 0, 300, .inl t4.2.2.2.2.2.2.2.2.2.2.1)) := k1_9
        replace k1_10 : hp1 (x + 138) = some (.inl (kC E 0, 432, .inl t4.2.2.2.2.2.2.2.2.2.2.2.1)) := k1_10
        replace k1_11 : hp1 (x + 139) = some (.inr (8, [.ref (x + 140), .ref (x + 141), .int t4.2.2.2.2.2.2.2.2.2.2.2.2.1])) := k1_11
        replace k1_12 : hp1 (x + 140) = some (.inl (kC E 0, 36, .inl t4.2.2.2.2.2.2.2.2.2.2.2.2.2.1)) := k1_12
        replace k1_13 : hp1 (x + 141) = some (.inl (kC E 0, 36, .inl t4.2.2.2.2.2.2.2.2.2.2.2.2.2.2.1)) := k1_13
        replace k1_14 : hp1 (x + 142) = some (.inr (11, [.ref (x + 126), .int t4.2.2.2.2.2.2.2.2.2.2.2.2.2.2.2.1, .int t4.2.2.2.2.2.2.2.2.2.2.2.2.2.2.2.2.1, .int t4.2.2.2.2.2.2.2.2.2.2.2.2.2.2.2.2.2.1, .int t4.2.2.2.2.2.2.2.2.2.2.2.2.2.2.2.2.2.2])) := k1_14
        refine A_st (st' := []) rfl ?_
        refine A_iinc (j := 1) (v := (l1 + 1)) (L' := [(1, .int (l1 + 1)), (0, .ref (x + 128))]) X dX5_parse_41 rfl rfl (by decide) rfl ?_
        refine A_goto (tgt := 23) X dX5_parse_44 (by decide) ?_
        refine A_sub (L' := [(0, .ref (x + 128)), (1, .int (l1 + 1))]) [1, 0] rfl ?_
        exact i23 ((n1 _ (by omega) (by omega) (by omega) (by omega) (by omega) (by omega) (by omega) (by omega) (by omega) (by omega) (by omega) (by omega) (by omega) (by omega) (by omega)).trans g0) ((n1 _ (by omega) (by omega) (by omega) (by omega) (by omega) (by omega) (by omega) (by omega) (by omega) (by omega) (by omega) (by omega) (by omega) (by omega) (by omega)).trans g1) k1_0 k1_1 k1_2 k1_3 k1_4 k1_5 k1_6 k1_7 k1_8 k1_9 k1_10 k1_11 k1_12 k1_13 k1_14 (fun q z0 z1 z2 z3 z4 z5 z6 z7 z8 z9 z10 z11 z12 z13 z14 => ((n1 q z0 z1 z2 z3 z4 z5 z6 z7 z8 z9 z10 z11 z12 z13 z14).trans (hfr q z0 z1 z2 z3 z4 z5 z6 z7 z8 z9 z10 z11 z12 z13 z14))) h
set_option maxHeartbeats 4000000 in
set_option maxRecDepth 100000 in
theorem c_X5_parse {E : KE} {l : Launch} {hp : Hp} {al : Option Nat} {N : Nat} {x : Nat} {tl : Int32} {tb : Nat → Int32} {ec : Int32} {eo : Int32} {sd : Int32} {mn : Int32} {th : Int32} {dc : Int32} {fc : Nat → Int32} {dw : Nat → Int32} {pc : Int32} {ln : Nat → Int32} {lt : Nat → Int32} {tc : Int32} {en : Nat → Int32} {fr : Nat → Int32} {oc : Int32} {op : Nat → Int32} {os : Nat → Int32} {kd : Int32} {ts : Int32} {te : Int32} {tv : Int32}  {out : Int32 × Int32 × Int32 × Int32 × Int32 × Int32 × Int32 × (Nat → Int32) × (Nat → Int32) × Int32 × (Nat → Int32) × (Nat → Int32) × Int32 × (Nat → Int32) × (Nat → Int32) × Int32 × (Nat → Int32) × (Nat → Int32) × Int32 × Int32 × Int32 × Int32} (g0 : hp (x + 126) = some (.inr (10, [.ref (x + 127), .int tl]))) (g1 : hp (x + 127) = some (.inl (kC E 0, 900, .inl tb))) (g2 : hp (x + 128) = some (.inr (7, [.ref (x + 126), .ref (x + 142), .ref (x + 129), .int ec, .int eo]))) (g3 : hp (x + 129) = some (.inr (4, [.ref (x + 130), .ref (x + 133), .ref (x + 136), .ref (x + 139), .int sd, .int mn, .int th]))) (g4 : hp (x + 130) = some (.inr (2, [.ref (x + 131), .ref (x + 132), .int dc]))) (g5 : hp (x + 131) = some (.inl (kC E 0, 6, .inl fc))) (g6 : hp (x + 132) = some (.inl (kC E 0, 72, .inl dw))) (g7 : hp (x + 133) = some (.inr (9, [.ref (x + 134), .ref (x + 135), .int pc]))) (g8 : hp (x + 134) = some (.inl (kC E 0, 6, .inl ln))) (g9 : hp (x + 135) = some (.inl (kC E 0, 24, .inl lt))) (g10 : hp (x + 136) = some (.inr (6, [.ref (x + 137), .ref (x + 138), .int tc]))) (g11 : hp (x + 137) = some (.inl (kC E 0, 300, .inl en))) (g12 : hp (x + 138) = some (.inl (kC E 0, 432, .inl fr))) (g13 : hp (x + 139) = some (.inr (8, [.ref (x + 140), .ref (x + 141), .int oc]))) (g14 : hp (x + 140) = some (.inl (kC E 0, 36, .inl op))) (g15 : hp (x + 141) = some (.inl (kC E 0, 36, .inl os))) (g16 : hp (x + 142) = some (.inr (11, [.ref (x + 126), .int kd, .int ts, .int te, .int tv])))  (h : f_X5_parse N tl tb ec eo sd mn th dc fc dw pc ln lt tc en fr oc op os kd ts te tv = some out) : AM E l yX5_parse cX5_parse 2 (Option.some Jvm.ClassFile.FieldType.boolean) ⟨6, 0, 0, 141⟩ [.ref (x + 128)] hp al (P_X5_parse E x hp al out) := by
  refine A_of (by decide +kernel) (Nat.le_of_ble_eq_true rfl) ?_
  intro p e s m args below meth c X hr hnm
  have X : CX E p l s m args meth c "DiceAudit$Loader" cX5_parse 2 := X
  refine A_L (L' := [(0, .ref (x + 128))]) rfl ?_
  unfold f_X5_parse at h
  refine A_aload_n X dX5_parse_0 0 rfl ?_
  refine A_iconst (v := 0) X dX5_parse_1 (by decide) ?_
  refine A_put X dX5_parse_2 kcl_X5 3 (by decide) kw_245 g2 rfl rfl rfl (by simp) (fun hp1 (k1 : hp1 (x + 128) = some (.inr (7, [.ref (x + 126), .ref (x + 142), .ref (x + 129), .int 0, .int eo]))) n1 => ?_)
  refine A_aload_n X dX5_parse_5 0 rfl ?_
  refine A_iconst (v := (-1)) X dX5_parse_6 (by decide) ?_
  refine A_put X dX5_parse_7 kcl_X5 4 (by decide) kw_247 k1 rfl rfl rfl (by simp) (fun hp2 (k2 : hp2 (x + 128) = some (.inr (7, [.ref (x + 126), .ref (x + 142), .ref (x + 129), .int 0, .int (-1)]))) n2 => ?_)
  refine A_aload_n X dX5_parse_10 0 rfl ?_
  refine A_get X dX5_parse_11 kcl_X5 1 (by decide) kw_242 k2 rfl ?_
  obtain ⟨t1, hct1, h⟩ := bind_o h
  refine A_c (k' := 0) (n' := 0) rfl rfl (A_runV (rest := []) X dX5_parse_14 (c_X9_rewind ((n2 _ (by omega)).trans ((n1 _ (by omega)).trans g0)) ((n2 _ (by omega)).trans ((n1 _ (by omega)).trans g1)) ((n2 _ (by omega)).trans ((n1 _ (by omega)).trans g16))  hct1) kY_X9_rewind kw_323 ((n2 _ (by omega)).trans ((n1 _ (by omega)).trans g16)) rfl rfl ⟨(Nat.le_of_ble_eq_true rfl), (Nat.le_of_ble_eq_true rfl), (Nat.le_of_ble_eq_true rfl), (Nat.le_of_ble_eq_true rfl)⟩ rfl (Nat.le_of_ble_eq_true rfl)) (fun v9 hp3 al9 hP => ?_)
  obtain ⟨rfl, k3_0, n3, rfl⟩ := hP
  replace k3_0 : hp3 (x + 142) = some (.inr (11, [.ref (x + 126), .int t1.1, .int t1.2.1, .int t1.2.2.1, .int t1.2.2.2])) := k3_0
  refine A_st (st' := []) rfl ?_
  refine A_aload_n X dX5_parse_17 0 rfl ?_
  obtain ⟨t2, hct2, h⟩ := bind_o h
  refine A_c (k' := 0) (n' := 0) rfl rfl (A_runV (rest := []) X dX5_parse_18 (c_X5_readHall ((n3 _ (by omega)).trans ((n2 _ (by omega)).trans ((n1 _ (by omega)).trans g0))) ((n3 _ (by omega)).trans ((n2 _ (by omega)).trans ((n1 _ (by omega)).trans g1))) ((n3 _ (by omega)).trans k2) ((n3 _ (by omega)).trans ((n2 _ (by omega)).trans ((n1 _ (by omega)).trans g3))) ((n3 _ (by omega)).trans ((n2 _ (by omega)).trans ((n1 _ (by omega)).trans g4))) ((n3 _ (by omega)).trans ((n2 _ (by omega)).trans ((n1 _ (by omega)).trans g7))) ((n3 _ (by omega)).trans ((n2 _ (by omega)).trans ((n1 _ (by omega)).trans g10))) ((n3 _ (by omega)).trans ((n2 _ (by omega)).trans ((n1 _ (by omega)).trans g12))) ((n3 _ (by omega)).trans ((n2 _ (by omega)).trans ((n1 _ (by omega)).trans g13))) k3_0  hct2) kY_X5_readHall kw_356 ((n3 _ (by omega)).trans k2) rfl rfl ⟨(Nat.le_of_ble_eq_true rfl), (Nat.le_of_ble_eq_true rfl), (Nat.le_of_ble_eq_true rfl), (Nat.le_of_ble_eq_true rfl)⟩ rfl (Nat.le_of_ble_eq_true rfl)) (fun v9 hp4 al9 hP => ?_)
  obtain ⟨rfl, k4_0, k4_1, k4_2, k4_3, k4_4, k4_5, k4_6, k4_7, n4, rfl⟩ := hP
  replace k4_0 : hp4 (x + 128) = some (.inr (7, [.ref (x + 126), .ref (x + 142), .ref (x + 129), .int t2.1, .int t2.2.1])) := k4_0
  replace k4_1 : hp4 (x + 129) = some (.inr (4, [.ref (x + 130), .ref (x + 133), .ref (x + 136), .ref (x + 139), .int t2.2.2.1, .int t2.2.2.2.1, .int t2.2.2.2.2.1])) := k4_1
  replace k4_2 : hp4 (x + 130) = some (.inr (2, [.ref (x + 131), .ref (x + 132), .int t2.2.2.2.2.2.1])) := k4_2
  replace k4_3 : hp4 (x + 133) = some (.inr (9, [.ref (x + 134), .ref (x + 135), .int t2.2.2.2.2.2.2.1])) := k4_3
  replace k4_4 : hp4 (x + 136) = some (.inr (6, [.ref (x + 137), .ref (x + 138), .int t2.2.2.2.2.2.2.2.1])) := k4_4
  replace k4_5 : hp4 (x + 138) = some (.inl (kC E 0, 432, .inl t2.2.2.2.2.2.2.2.2.1)) := k4_5
  replace k4_6 : hp4 (x + 139) = some (.inr (8, [.ref (x + 140), .ref (x + 141), .int t2.2.2.2.2.2.2.2.2.2.1])) := k4_6
  replace k4_7 : hp4 (x + 142) = some (.inr (11, [.ref (x + 126), .int t2.2.2.2.2.2.2.2.2.2.2.1, .int t2.2.2.2.2.2.2.2.2.2.2.2.1, .int t2.2.2.2.2.2.2.2.2.2.2.2.2.1, .int t2.2.2.2.2.2.2.2.2.2.2.2.2.2])) := k4_7
  refine A_st (st' := []) rfl ?_
  refine A_iconst (v := 0) X dX5_parse_21 (by decide) ?_
  refine A_istore_n (L' := [(1, .int 0), (0, .ref (x + 128))]) X dX5_parse_22 rfl (by decide) rfl ?_
  refine A_sub (L' := [(0, .ref (x + 128)), (1, .int 0)]) [1, 0] rfl ?_
  exact c_X5_parse_L23 X hr  N ((n4 _ (by omega) (by omega) (by omega) (by omega) (by omega) (by omega) (by omega) (by omega)).trans ((n3 _ (by omega)).trans ((n2 _ (by omega)).trans ((n1 _ (by omega)).trans g0)))) ((n4 _ (by omega) (by omega) (by omega) (by omega) (by omega) (by omega) (by omega) (by omega)).trans ((n3 _ (by omega)).trans ((n2 _ (by omega)).trans ((n1 _ (by omega)).trans g1)))) k4_0 k4_1 k4_2 ((n4 _ (by omega) (by omega) (by omega) (by omega) (by omega) (by omega) (by omega) (by omega)).trans ((n3 _ (by omega)).trans ((n2 _ (by omega)).trans ((n1 _ (by omega)).trans g5)))) ((n4 _ (by omega) (by omega) (by omega) (by omega) (by omega) (by omega) (by omega) (by omega)).trans ((n3 _ (by omega)).trans ((n2 _ (by omega)).trans ((n1 _ (by omega)).trans g6)))) k4_3 ((n4 _ (by omega) (by omega) (by omega) (by omega) (by omega) (by omega) (by omega) (by omega)).trans ((n3 _ (by omega)).trans ((n2 _ (by omega)).trans ((n1 _ (by omega)).trans g8)))) ((n4 _ (by omega) (by omega) (by omega) (by omega) (by omega) (by omega) (by omega) (by omega)).trans ((n3 _ (by omega)).trans ((n2 _ (by omega)).trans ((n1 _ (by omega)).trans g9)))) k4_4 ((n4 _ (by omega) (by omega) (by omega) (by omega) (by omega) (by omega) (by omega) (by omega)).trans ((n3 _ (by omega)).trans ((n2 _ (by omega)).trans ((n1 _ (by omega)).trans g11)))) k4_5 k4_6 ((n4 _ (by omega) (by omega) (by omega) (by omega) (by omega) (by omega) (by omega) (by omega)).trans ((n3 _ (by omega)).trans ((n2 _ (by omega)).trans ((n1 _ (by omega)).trans g14)))) ((n4 _ (by omega) (by omega) (by omega) (by omega) (by omega) (by omega) (by omega) (by omega)).trans ((n3 _ (by omega)).trans ((n2 _ (by omega)).trans ((n1 _ (by omega)).trans g15)))) k4_7 (fun q z0 z1 z2 z3 z4 z5 z6 z7 z8 z9 z10 z11 z12 z13 z14 => ((n4 q z0 z1 z2 z5 z8 z10 z11 z14).trans ((n3 q z14).trans ((n2 q z0).trans (n1 q z0))))) h
