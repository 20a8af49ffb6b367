def f_J6_stringSize_0f7a4_L16_F (N : Nat)   (r16 : Int32 → Int32 → Int32 → Int32 → Option (Int32)) (l0 : Int32) (l1 : Int32) (l2 : Int32) (l3 : Int32) : Option (Int32) :=
  if 10 ≤ l3 then
    some (10 + l1)
  else
    if l0 ≤ l2 then
      r16 l0 l1 (10 * l2) (l3 + 1)
    else
      some (l3 + l1)
def f_J6_stringSize_0f7a4_L16 (N : Nat)   : Nat → Int32 → Int32 → Int32 → Int32 → Option (Int32)
  | 0 => fun _ _ _ _ => none
  | j + 1 => f_J6_stringSize_0f7a4_L16_F N (f_J6_stringSize_0f7a4_L16 N j)
set_option maxHeartbeats 4000000 in
set_option maxRecDepth 100000 in
theorem c_J6_stringSize_0f7a4_L16 {E : KE} {p : Program} {l : Launch} {e : Env} {s : State} {m : MethodId} {args : Array Value} {below : List Frame} {meth : Method} {c : Code} {al : Option Nat} {N : Nat}   {hp0 : Hp} {out : Int32}  (X : CX E p l s m args meth c "java/lang/Integer" cJ6_stringSize_0f7a4 4) (hr : meth.sig.returnType = (Option.some Jvm.ClassFile.FieldType.int))   : ∀ (j : Nat), ∀ {l0 : Int32} {l1 : Int32} {l2 : Int32} {l3 : Int32}, f_J6_stringSize_0f7a4_L16 N j l0 l1 l2 l3 = some out → AW E p l e ⟨0, 0, 0, 0⟩ s m args below meth c 4 (MQ below (kQc E (kRet out hp0 al)) args s 0 0 (kA E)) hp0 al 0 0 16 [(0, .int l0), (1, .int l1), (2, .int l2), (3, .int l3)] [] := by
  intro j
  induction j with
  | zero =>
    intro l0 l1 l2 l3 h
    have h : (none : Option (Int32)) = some out := h
    first | (obtain rfl := Option.some.inj h) | cases h
  | succ j i16 =>
    intro l0 l1 l2 l3 h
    have h : f_J6_stringSize_0f7a4_L16_F N (f_J6_stringSize_0f7a4_L16 N j) l0 l1 l2 l3 = some out := h
    unfold f_J6_stringSize_0f7a4_L16_F at h
    refine A_iload_n X dJ6_stringSize_0f7a4_16 3 rfl ?_
    refine A_bipush (v := 10) X dJ6_stringSize_0f7a4_17 (by decide) ?_
    refine A_icmp_ge (tgt := 42) X dJ6_stringSize_0f7a4_19 h (by decide) (fun hc h => ?_) (fun hc h => ?_)
    · refine A_bipush (v := 10) X dJ6_stringSize_0f7a4_42 (by decide) ?_
      refine A_iload_n X dJ6_stringSize_0f7a4_44 1 rfl ?_
      refine A_iadd X dJ6_stringSize_0f7a4_45 ?_
      first | (obtain rfl := Option.some.inj h) | cases h
      exact A_iret X dJ6_stringSize_0f7a4_46 hr ⟨rfl, rfl, rfl⟩ (Nat.le_of_ble_eq_true rfl) (Nat.le_of_ble_eq_true rfl)
    · refine A_iload_n X dJ6_stringSize_0f7a4_22 0 rfl ?_
      refine A_iload_n X dJ6_stringSize_0f7a4_23 2 rfl ?_
      refine A_icmp_le (tgt := 31) X dJ6_stringSize_0f7a4_24 h (by decide) (fun hc h => ?_) (fun hc h => ?_)
      · refine A_bipush (v := 10) X dJ6_stringSize_0f7a4_31 (by decide) ?_
        refine A_iload_n X dJ6_stringSize_0f7a4_33 2 rfl ?_
        refine A_imul X dJ6_stringSize_0f7a4_34 ?_
        refine A_istore_n (L' := [(2, .int (10 * l2)), (0, .int l0), (1, .int l1), (3, .int l3)]) X dJ6_stringSize_0f7a4_35 rfl (by decide) rfl ?_
        refine A_iinc (j := 3) (v := (l3 + 1)) (L' := [(3, .int (l3 + 1)), (2, .int (10 * l2)), (0, .int l0), (1, .int l1)]) X dJ6_stringSize_0f7a4_36 rfl rfl (by decide) rfl ?_
        refine A_goto (tgt := 16) X dJ6_stringSize_0f7a4_39 (by decide) ?_
        refine A_sub (L' := [(0, .int l0), (1, .int l1), (2, .int (10 * l2)), (3, .int (l3 + 1))]) [2, 3, 1, 0] rfl ?_
        exact i16  h
      · refine A_iload_n X dJ6_stringSize_0f7a4_27 3 rfl ?_
        refine A_iload_n X dJ6_stringSize_0f7a4_28 1 rfl ?_
        refine A_iadd X dJ6_stringSize_0f7a4_29 ?_
        first | (obtain rfl := Option.some.inj h) | cases h
        exact A_iret X dJ6_stringSize_0f7a4_30 hr ⟨rfl, rfl, rfl⟩ (Nat.le_of_ble_eq_true rfl) (Nat.le_of_ble_eq_true rfl)
def f_J6_stringSize_0f7a4_L11 (N : Nat)   (l0 : Int32) (l1 : Int32) : Option (Int32) :=
  f_J6_stringSize_0f7a4_L16 N N l0 l1 (-10) 1
set_option maxHeartbeats 4000000 in
set_option maxRecDepth 100000 in
theorem c_J6_stringSize_0f7a4_L11 {E : KE} {p : Program} {l : Launch} {e : Env} {s : State} {m : MethodId} {args : Array Value} {below : List Frame} {meth : Method} {c : Code} {al : Option Nat} {N : Nat}   {hp0 : Hp} {out : Int32}  (X : CX E p l s m args meth c "java/lang/Integer" cJ6_stringSize_0f7a4 4) (hr : meth.sig.returnType = (Option.some Jvm.ClassFile.FieldType.int))   : ∀ {l0 : Int32} {l1 : Int32}, f_J6_stringSize_0f7a4_L11 N l0 l1 = some out → AW E p l e ⟨0, 0, 0, 0⟩ s m args below meth c 4 (MQ below (kQc E (kRet out hp0 al)) args s 0 0 (kA E)) hp0 al 0 0 11 [(0, .int l0), (1, .int l1)] [] := by
  intro l0 l1 h
  unfold f_J6_stringSize_0f7a4_L11 at h
  refine A_bipush (v := (-10)) X dJ6_stringSize_0f7a4_11 (by decide) ?_
  refine A_istore_n (L' := [(2, .int (-10)), (0, .int l0), (1, .int l1)]) X dJ6_stringSize_0f7a4_13 rfl (by decide) rfl ?_
  refine A_iconst (v := 1) X dJ6_stringSize_0f7a4_14 (by decide) ?_
  refine A_istore_n (L' := [(3, .int 1), (2, .int (-10)), (0, .int l0), (1, .int l1)]) X dJ6_stringSize_0f7a4_15 rfl (by decide) rfl ?_
  refine A_sub (L' := [(0, .int l0), (1, .int l1), (2, .int (-10)), (3, .int 1)]) [2, 3, 1, 0] rfl ?_
  exact c_J6_stringSize_0f7a4_L16 X hr  N  h
def f_J6_stringSize_0f7a4 (N : Nat)  (a0 : Int32) : Option (Int32) :=
  if a0 < 0 then
    f_J6_stringSize_0f7a4_L11 N a0 1
  else
    f_J6_stringSize_0f7a4_L11 N (-a0) 0
set_option maxHeartbeats 4000000 in
set_option maxRecDepth 100000 in
theorem c_J6_stringSize_0f7a4 {E : KE} {l : Launch} {hp : Hp} {al : Option Nat} {N : Nat}   {a0 : Int32} {out : Int32}   (h : f_J6_stringSize_0f7a4 N a0 = some out) : AM E l yJ6_stringSize_0f7a4 cJ6_stringSize_0f7a4 4 (Option.some Jvm.ClassFile.FieldType.int) ⟨0, 0, 0, 0⟩ [.int a0] hp al (kRet out hp al) := by
  refine A_of (by decide +kernel) (Nat.le_of_ble_eq_true rfl) ?_
  intro p e s m args below meth c X hr hnm
  have X : CX E p l s m args meth c "java/lang/Integer" cJ6_stringSize_0f7a4 4 := X
  refine A_L (L' := [(0, .int a0)]) rfl ?_
  unfold f_J6_stringSize_0f7a4 at h
  refine A_iconst (v := 1) X dJ6_stringSize_0f7a4_0 (by decide) ?_
  refine A_istore_n (L' := [(1, .int 1), (0, .int a0)]) X dJ6_stringSize_0f7a4_1 rfl (by decide) rfl ?_
  refine A_iload_n X dJ6_stringSize_0f7a4_2 1 rfl ?_
  refine A_if_lt (tgt := 11) X dJ6_stringSize_0f7a4_3 h (by decide) (fun hc h => ?_) (fun hc h => ?_)
  · refine A_sub (L' := [(0, .int a0), (1, .int 1)]) [1, 0] rfl ?_
    exact c_J6_stringSize_0f7a4_L11 X hr   h
  · refine A_iconst (v := 0) X dJ6_stringSize_0f7a4_6 (by decide) ?_
    refine A_istore_n (L' := [(1, .int 0), (0, .int a0)]) X dJ6_stringSize_0f7a4_7 rfl (by decide) rfl ?_
    refine A_iload_n X dJ6_stringSize_0f7a4_8 1 rfl ?_
    refine A_ineg X dJ6_stringSize_0f7a4_9 ?_
    refine A_istore_n (L' := [(0, .int (-a0)), (1, .int 0)]) X dJ6_stringSize_0f7a4_10 rfl (by decide) rfl ?_
    refine A_sub (L' := [(0, .int (-a0)), (1, .int 0)]) [0, 1] rfl ?_
    exact c_J6_stringSize_0f7a4_L11 X hr   h
abbrev P_J6_getChars_ba4f3 (E : KE) (r : Nat) (n : Nat) (hp : Hp) (al : Option Nat) (out : Int32 × (Nat → Int32)) : Option Value → Hp → Option Nat → Prop := fun v0 hp' al' => v0 = some (.int out.1) ∧ hp' r = some (.inl (kC E 3, n, .inl out.2)) ∧ (∀ q, q ≠ r → hp' q = hp q) ∧ al = al'
def f_J6_getChars_ba4f3_L104 (N : Nat) (n : Nat)  (l5 : Int32) (l6 : Int32) (f : Nat → Int32) : Option (Int32 × (Nat → Int32)) :=
  if l6 = 0 then
    some (l5, f)
  else
    gd (inb (l5 + (-1)) n) <|
    some ((l5 + (-1)), (upd f (Int32.toNatClampNeg (l5 + (-1))) (vp_nar .byte 45)))
set_option maxHeartbeats 4000000 in
set_option maxRecDepth 100000 in
theorem c_J6_getChars_ba4f3_L104 {E : KE} {p : Program} {l : Launch} {e : Env} {s : State} {m : MethodId} {args : Array Value} {below : List Frame} {meth : Method} {c : Code} {al : Option Nat} {N : Nat} {r : Nat} {n : Nat} {hp0 : Hp} {out : Int32 × (Nat → Int32)}  (X : CX E p l s m args meth c "java/lang/Integer" cJ6_getChars_ba4f3 7) (hr : meth.sig.returnType = (Option.some Jvm.ClassFile.FieldType.int))   : ∀ {l5 : Int32} {l6 : Int32} {f : Nat → Int32} {hp : Hp}, hp r = some (.inl (kC E 3, n, .inl f)) → (∀ q, q ≠ r → hp q = hp0 q) → f_J6_getChars_ba4f3_L104 N n l5 l6 f = some out → AW E p l e ⟨0, 0, 0, 0⟩ s m args below meth c 7 (MQ below (kQc E (P_J6_getChars_ba4f3 E r n hp0 al out)) args s 0 0 (kA E)) hp al 0 0 104 [(2, .ref r), (5, .int l5), (6, .int l6)] [] := by
  intro l5 l6 f hp g0 hfr h
  unfold f_J6_getChars_ba4f3_L104 at h
  refine A_iload X dJ6_getChars_ba4f3_104 2 rfl ?_
  refine A_if_eq (tgt := 118) X dJ6_getChars_ba4f3_106 h (by decide) (fun hc h => ?_) (fun hc h => ?_)
  · refine A_iload X dJ6_getChars_ba4f3_118 1 rfl ?_
    first | (obtain rfl := Option.some.inj h) | cases h
    exact A_iret X dJ6_getChars_ba4f3_120 hr ⟨rfl, g0, (fun q z0 => (hfr q z0)), rfl⟩ (Nat.le_of_ble_eq_true rfl) (Nat.le_of_ble_eq_true rfl)
  · refine A_aload_n X dJ6_getChars_ba4f3_109 0 rfl ?_
    refine A_iinc (j := 1) (v := (l5 + (-1))) (L' := [(5, .int (l5 + (-1))), (2, .ref r), (6, .int l6)]) X dJ6_getChars_ba4f3_110 rfl rfl (by decide) rfl ?_
    refine A_iload X dJ6_getChars_ba4f3_113 0 rfl ?_
    refine A_bipush (v := 45) X dJ6_getChars_ba4f3_115 (by decide) ?_
    obtain ⟨hq, h⟩ := gd_o h
    refine A_bast X dJ6_getChars_ba4f3_117 g0 hq (fun hp1 (k1 : hp1 r = some (.inl (kC E 3, n, .inl (upd f (Int32.toNatClampNeg (l5 + (-1))) (vp_nar .byte 45))))) n1 => ?_)
    refine A_iload X dJ6_getChars_ba4f3_118 0 rfl ?_
    first | (obtain rfl := Option.some.inj h) | cases h
    exact A_iret X dJ6_getChars_ba4f3_120 hr ⟨rfl, k1, (fun q z0 => ((n1 q z0).trans (hfr q z0))), rfl⟩ (Nat.le_of_ble_eq_true rfl) (Nat.le_of_ble_eq_true rfl)
def f_J6_getChars_ba4f3_L22_F (N : Nat) (n : Nat)  (r22 : Int32 → Int32 → Int32 → (Nat → Int32) → Option (Int32 × (Nat → Int32))) (l0 : Int32) (l5 : Int32) (l6 : Int32) (f : Nat → Int32) : Option (Int32 × (Nat → Int32)) :=
  if (-100) < l0 then
    gd (inb (-l0) 100) <|
    gd (inb (l5 + (-1)) n) <|
    if (-9) ≤ l0 then
      f_J6_getChars_ba4f3_L104 N n (l5 + (-1)) l6 (upd f (Int32.toNatClampNeg (l5 + (-1))) (vp_nar .byte (nI (kD1 (Int32.toNatClampNeg (-l0))))))
    else
      gd (inb (-l0) 100) <|
      gd (inb ((l5 + (-1)) + (-1)) n) <|
      f_J6_getChars_ba4f3_L104 N n ((l5 + (-1)) + (-1)) l6 (upd (upd f (Int32.toNatClampNeg (l5 + (-1))) (vp_nar .byte (nI (kD1 (Int32.toNatClampNeg (-l0)))))) (Int32.toNatClampNeg ((l5 + (-1)) + (-1))) (vp_nar .byte (nI (kD10 (Int32.toNatClampNeg (-l0))))))
  else
    gd (inb (((l0 / 100) * 100) - l0) 100) <|
    gd (inb (l5 + (-1)) n) <|
    gd (inb (((l0 / 100) * 100) - l0) 100) <|
    gd (inb ((l5 + (-1)) + (-1)) n) <|
    r22 (l0 / 100) ((l5 + (-1)) + (-1)) l6 (upd (upd f (Int32.toNatClampNeg (l5 + (-1))) (vp_nar .byte (nI (kD1 (Int32.toNatClampNeg (((l0 / 100) * 100) - l0)))))) (Int32.toNatClampNeg ((l5 + (-1)) + (-1))) (vp_nar .byte (nI (kD10 (Int32.toNatClampNeg (((l0 / 100) * 100) - l0))))))
def f_J6_getChars_ba4f3_L22 (N : Nat) (n : Nat)  : Nat → Int32 → Int32 → Int32 → (Nat → Int32) → Option (Int32 × (Nat → Int32))
  | 0 => fun _ _ _ _ => none
  | j + 1 => f_J6_getChars_ba4f3_L22_F N n (f_J6_getChars_ba4f3_L22 N n j)
set_option maxHeartbeats 4000000 in
set_option maxRecDepth 100000 in
theorem c_J6_getChars_ba4f3_L22 {E : KE} {p : Program} {l : Launch} {e : Env} {s : State} {m : MethodId} {args : Array Value} {below : List Frame} {meth : Method} {c : Code} {al : Option Nat} {N : Nat} {r : Nat} {n : Nat} {hp0 : Hp} {out : Int32 × (Nat → Int32)}  (X : CX E p l s m args meth c "java/lang/Integer" cJ6_getChars_ba4f3 7) (hr : meth.sig.returnType = (Option.some Jvm.ClassFile.FieldType.int))   : ∀ (j : Nat), ∀ {l0 : Int32} {l5 : Int32} {l6 : Int32} {f : Nat → Int32} {hp : Hp}, hp r = some (.inl (kC E 3, n, .inl f)) → (∀ q, q ≠ r → hp q = hp0 q) → f_J6_getChars_ba4f3_L22 N n j l0 l5 l6 f = some out → AW E p l e ⟨0, 0, 0, 0⟩ s m args below meth c 7 (MQ below (kQc E (P_J6_getChars_ba4f3 E r n hp0 al out)) args s 0 0 (kA E)) hp al 0 0 22 [(0, .int l0), (2, .ref r), (5, .int l5), (6, .int l6)] [] := by
  intro j
  induction j with
  | zero =>
    intro l0 l5 l6 f hp g0 hfr h
    have h : (none : Option (Int32 × (Nat → Int32))) = some out := h
    first | (obtain rfl := Option.some.inj h) | cases h
  | succ j i22 =>
    intro l0 l5 l6 f hp g0 hfr h
    have h : f_J6_getChars_ba4f3_L22_F N n (f_J6_getChars_ba4f3_L22 N n j) l0 l5 l6 f = some out := h
    unfold f_J6_getChars_ba4f3_L22_F at h
    refine A_iload_n X dJ6_getChars_ba4f3_22 0 rfl ?_
    refine A_bipush (v := (-100)) X dJ6_getChars_ba4f3_23 (by decide) ?_
    refine A_icmp_gt (tgt := 72) X dJ6_getChars_ba4f3_25 h (by decide) (fun hc h => ?_) (fun hc h => ?_)
    · refine A_aload_n X dJ6_getChars_ba4f3_72 1 rfl ?_
      refine A_iinc (j := 2) (v := (l5 + (-1))) (L' := [(5, .int (l5 + (-1))), (0, .int l0), (2, .ref r), (6, .int l6)]) X dJ6_getChars_ba4f3_73 rfl rfl (by decide) rfl ?_
      refine A_iload X dJ6_getChars_ba4f3_76 0 rfl ?_
      refine A_dg1 X dJ6_getChars_ba4f3_78 kw_1190 (fun t9 hT9 => ?_)
      refine A_iload_n X dJ6_getChars_ba4f3_81 1 rfl ?_
      refine A_ineg X dJ6_getChars_ba4f3_82 ?_
      obtain ⟨hq, h⟩ := gd_o h
      refine A_dgld X dJ6_getChars_ba4f3_83 hT9 hq ?_
      obtain ⟨hq, h⟩ := gd_o h
      refine A_bast X dJ6_getChars_ba4f3_84 g0 hq (fun hp1 (k1 : hp1 r = some (.inl (kC E 3, n, .inl (upd f (Int32.toNatClampNeg (l5 + (-1))) (vp_nar .byte (nI (kD1 (Int32.toNatClampNeg (-l0))))))))) n1 => ?_)
      refine A_iload_n X dJ6_getChars_ba4f3_85 1 rfl ?_
      refine A_bipush (v := (-9)) X dJ6_getChars_ba4f3_86 (by decide) ?_
      refine A_icmp_ge (tgt := 104) X dJ6_getChars_ba4f3_88 h (by decide) (fun hc h => ?_) (fun hc h => ?_)
      · refine A_sub (L' := [(2, .ref r), (5, .int (l5 + (-1))), (6, .int l6)]) [2, 0, 3] rfl ?_
        exact c_J6_getChars_ba4f3_L104 X hr  k1 (fun q z0 => ((n1 q z0).trans (hfr q z0))) h
      · refine A_aload_n X dJ6_getChars_ba4f3_91 2 rfl ?_
        refine A_iinc (j := 0) (v := ((l5 + (-1)) + (-1))) (L' := [(5, .int ((l5 + (-1)) + (-1))), (0, .int l0), (2, .ref r), (6, .int l6)]) X dJ6_getChars_ba4f3_92 rfl rfl (by decide) rfl ?_
        refine A_iload X dJ6_getChars_ba4f3_95 0 rfl ?_
        refine A_dg10 X dJ6_getChars_ba4f3_97 kw_1192 (fun t9 hT9 => ?_)
        refine A_iload_n X dJ6_getChars_ba4f3_100 1 rfl ?_
        refine A_ineg X dJ6_getChars_ba4f3_101 ?_
        obtain ⟨hq, h⟩ := gd_o h
        refine A_dgld X dJ6_getChars_ba4f3_102 hT9 hq ?_
        obtain ⟨hq, h⟩ := gd_o h
        refine A_bast X dJ6_getChars_ba4f3_103 k1 hq (fun hp2 (k2 : hp2 r = some (.inl (kC E 3, n, .inl (upd (upd f (Int32.toNatClampNeg (l5 + (-1))) (vp_nar .byte (nI (kD1 (Int32.toNatClampNeg (-l0)))))) (Int32.toNatClampNeg ((l5 + (-1)) + (-1))) (vp_nar .byte (nI (kD10 (Int32.toNatClampNeg (-l0))))))))) n2 => ?_)
        refine A_sub (L' := [(2, .ref r), (5, .int ((l5 + (-1)) + (-1))), (6, .int l6)]) [2, 0, 3] rfl ?_
        exact c_J6_getChars_ba4f3_L104 X hr  k2 (fun q z0 => ((n2 q z0).trans ((n1 q z0).trans (hfr q z0)))) h
    · refine A_iload_n X dJ6_getChars_ba4f3_28 0 rfl ?_
      refine A_bipush (v := 100) X dJ6_getChars_ba4f3_29 (by decide) ?_
      refine A_idiv X dJ6_getChars_ba4f3_31 (by decide) ?_
      refine A_istore_n (L' := [(3, .int (l0 / 100)), (0, .int l0), (2, .ref r), (5, .int l5), (6, .int l6)]) X dJ6_getChars_ba4f3_32 rfl (by decide) rfl ?_
      refine A_iload_n X dJ6_getChars_ba4f3_33 0 rfl ?_
      refine A_bipush (v := 100) X dJ6_getChars_ba4f3_34 (by decide) ?_
      refine A_imul X dJ6_getChars_ba4f3_36 ?_
      refine A_iload_n X dJ6_getChars_ba4f3_37 1 rfl ?_
      refine A_isub X dJ6_getChars_ba4f3_38 ?_
      refine A_istore (L' := [(4, .int (((l0 / 100) * 100) - l0)), (3, .int (l0 / 100)), (0, .int l0), (2, .ref r), (5, .int l5), (6, .int l6)]) X dJ6_getChars_ba4f3_39 (by decide) rfl ?_
      refine A_iload_n X dJ6_getChars_ba4f3_41 1 rfl ?_
      refine A_istore_n (L' := [(0, .int (l0 / 100)), (4, .int (((l0 / 100) * 100) - l0)), (3, .int (l0 / 100)), (2, .ref r), (5, .int l5), (6, .int l6)]) X dJ6_getChars_ba4f3_42 rfl (by decide) rfl ?_
      refine A_aload_n X dJ6_getChars_ba4f3_43 3 rfl ?_
      refine A_iinc (j := 4) (v := (l5 + (-1))) (L' := [(5, .int (l5 + (-1))), (0, .int (l0 / 100)), (4, .int (((l0 / 100) * 100) - l0)), (3, .int (l0 / 100)), (2, .ref r), (6, .int l6)]) X dJ6_getChars_ba4f3_44 rfl rfl (by decide) rfl ?_
      refine A_iload X dJ6_getChars_ba4f3_47 0 rfl ?_
      refine A_dg1 X dJ6_getChars_ba4f3_49 kw_1190 (fun t9 hT9 => ?_)
      refine A_iload X dJ6_getChars_ba4f3_52 2 rfl ?_
      obtain ⟨hq, h⟩ := gd_o h
      refine A_dgld X dJ6_getChars_ba4f3_54 hT9 hq ?_
      obtain ⟨hq, h⟩ := gd_o h
      refine A_bast X dJ6_getChars_ba4f3_55 g0 hq (fun hp1 (k1 : hp1 r = some (.inl (kC E 3, n, .inl (upd f (Int32.toNatClampNeg (l5 + (-1))) (vp_nar .byte (nI (kD1 (Int32.toNatClampNeg (((l0 / 100) * 100) - l0))))))))) n1 => ?_)
      refine A_aload_n X dJ6_getChars_ba4f3_56 4 rfl ?_
      refine A_iinc (j := 0) (v := ((l5 + (-1)) + (-1))) (L' := [(5, .int ((l5 + (-1)) + (-1))), (0, .int (l0 / 100)), (4, .int (((l0 / 100) * 100) - l0)), (3, .int (l0 / 100)), (2, .ref r), (6, .int l6)]) X dJ6_getChars_ba4f3_57 rfl rfl (by decide) rfl ?_
      refine A_iload X dJ6_getChars_ba4f3_60 0 rfl ?_
      refine A_dg10 X dJ6_getChars_ba4f3_62 kw_1192 (fun t9 hT9 => ?_)
      refine A_iload X dJ6_getChars_ba4f3_65 2 rfl ?_
      obtain ⟨hq, h⟩ := gd_o h
      refine A_dgld X dJ6_getChars_ba4f3_67 hT9 hq ?_
      obtain ⟨hq, h⟩ := gd_o h
      refine A_bast X dJ6_getChars_ba4f3_68 k1 hq (fun hp2 (k2 : hp2 r = some (.inl (kC E 3, n, .inl (upd (upd f (Int32.toNatClampNeg (l5 + (-1))) (vp_nar .byte (nI (kD1 (Int32.toNatClampNeg (((l0 / 100) * 100) - l0)))))) (Int32.toNatClampNeg ((l5 + (-1)) + (-1))) (vp_nar .byte (nI (kD10 (Int32.toNatClampNeg (((l0 / 100) * 100) - l0))))))))) n2 => ?_)
      refine A_goto (tgt := 22) X dJ6_getChars_ba4f3_69 (by decide) ?_
      refine A_sub (L' := [(0, .int (l0 / 100)), (2, .ref r), (5, .int ((l5 + (-1)) + (-1))), (6, .int l6)]) [1, 4, 0, 5] rfl ?_
      exact i22 k2 (fun q z0 => ((n2 q z0).trans ((n1 q z0).trans (hfr q z0)))) h
def f_J6_getChars_ba4f3_L12 (N : Nat) (n : Nat)  (l0 : Int32) (l5 : Int32) (s0 : Int32) (f : Nat → Int32) : Option (Int32 × (Nat → Int32)) :=
  if s0 = 0 then
    f_J6_getChars_ba4f3_L22 N n N (-l0) l5 s0 f
  else
    f_J6_getChars_ba4f3_L22 N n N l0 l5 s0 f
set_option maxHeartbeats 4000000 in
set_option maxRecDepth 100000 in
theorem c_J6_getChars_ba4f3_L12 {E : KE} {p : Program} {l : Launch} {e : Env} {s : State} {m : MethodId} {args : Array Value} {below : List Frame} {meth : Method} {c : Code} {al : Option Nat} {N : Nat} {r : Nat} {n : Nat} {hp0 : Hp} {out : Int32 × (Nat → Int32)}  (X : CX E p l s m args meth c "java/lang/Integer" cJ6_getChars_ba4f3 7) (hr : meth.sig.returnType = (Option.some Jvm.ClassFile.FieldType.int))   : ∀ {l0 : Int32} {l5 : Int32} {s0 : Int32} {f : Nat → Int32} {hp : Hp}, hp r = some (.inl (kC E 3, n, .inl f)) → (∀ q, q ≠ r → hp q = hp0 q) → f_J6_getChars_ba4f3_L12 N n l0 l5 s0 f = some out → AW E p l e ⟨0, 0, 0, 0⟩ s m args below meth c 7 (MQ below (kQc E (P_J6_getChars_ba4f3 E r n hp0 al out)) args s 0 0 (kA E)) hp al 0 0 12 [(0, .int l0), (2, .ref r), (5, .int l5)] [.int s0] := by
  intro l0 l5 s0 f hp g0 hfr h
  unfold f_J6_getChars_ba4f3_L12 at h
  refine A_istore (L' := [(6, .int s0), (0, .int l0), (2, .ref r), (5, .int l5)]) X dJ6_getChars_ba4f3_12 (by decide) rfl ?_
  refine A_iload X dJ6_getChars_ba4f3_14 0 rfl ?_
  refine A_if_ne (tgt := 22) X dJ6_getChars_ba4f3_16 h (by decide) (fun hc h => ?_) (fun hc h => ?_)
  · refine A_sub (L' := [(0, .int l0), (2, .ref r), (5, .int l5), (6, .int s0)]) [1, 2, 3, 0] rfl ?_
    exact c_J6_getChars_ba4f3_L22 X hr  N g0 (fun q z0 => (hfr q z0)) h
  · refine A_iload_n X dJ6_getChars_ba4f3_19 1 rfl ?_
    refine A_ineg X dJ6_getChars_ba4f3_20 ?_
    refine A_istore_n (L' := [(0, .int (-l0)), (6, .int s0), (2, .ref r), (5, .int l5)]) X dJ6_getChars_ba4f3_21 rfl (by decide) rfl ?_
    refine A_sub (L' := [(0, .int (-l0)), (2, .ref r), (5, .int l5), (6, .int s0)]) [0, 2, 3, 1] rfl ?_
    exact c_J6_getChars_ba4f3_L22 X hr  N g0 (fun q z0 => (hfr q z0)) h
def f_J6_getChars_ba4f3 (N : Nat) (n : Nat) (f : Nat → Int32) (a0 : Int32) (a1 : Int32) : Option (Int32 × (Nat → Int32)) :=
  if 0 ≤ a0 then
    f_J6_getChars_ba4f3_L12 N n a0 a1 0 f
  else
    f_J6_getChars_ba4f3_L12 N n a0 a1 1 f
set_option maxHeartbeats 4000000 in
set_option maxRecDepth 100000 in
theorem c_J6_getChars_ba4f3 {E : KE} {l : Launch} {hp : Hp} {al : Option Nat} {N : Nat} {r : Nat} {n : Nat} {f : Nat → Int32} {a0 : Int32} {a1 : Int32} {out : Int32 × (Nat → Int32)} (g0 : hp r = some (.inl (kC E 3, n, .inl f)))  (h : f_J6_getChars_ba4f3 N n f a0 a1 = some out) : AM E l yJ6_getChars_ba4f3 cJ6_getChars_ba4f3 7 (Option.some Jvm.ClassFile.FieldType.int) ⟨0, 0, 0, 0⟩ [.int a0, .int a1, .ref r] hp al (P_J6_getChars_ba4f3 E r n hp al out) := by
  refine A_of (by decide +kernel) (Nat.le_of_ble_eq_true rfl) ?_
  intro p e s m args below meth c X hr hnm
  have X : CX E p l s m args meth c "java/lang/Integer" cJ6_getChars_ba4f3 7 := X
  refine A_L (L' := [(0, .int a0), (1, .int a1), (2, .ref r)]) rfl ?_
  unfold f_J6_getChars_ba4f3 at h
  refine A_iload_n X dJ6_getChars_ba4f3_0 1 rfl ?_
  refine A_istore (L' := [(5, .int a1), (0, .int a0), (1, .int a1), (2, .ref r)]) X dJ6_getChars_ba4f3_1 (by decide) rfl ?_
  refine A_iload_n X dJ6_getChars_ba4f3_3 1 rfl ?_
  refine A_if_ge (tgt := 11) X dJ6_getChars_ba4f3_4 h (by decide) (fun hc h => ?_) (fun hc h => ?_)
  · refine A_iconst (v := 0) X dJ6_getChars_ba4f3_11 (by decide) ?_
    refine A_sub (L' := [(0, .int a0), (2, .ref r), (5, .int a1)]) [1, 3, 0] rfl ?_
    exact c_J6_getChars_ba4f3_L12 X hr  g0 (fun q z0 => rfl) h
  · refine A_iconst (v := 1) X dJ6_getChars_ba4f3_7 (by decide) ?_
    refine A_goto (tgt := 12) X dJ6_getChars_ba4f3_8 (by decide) ?_
    refine A_sub (L' := [(0, .int a0), (2, .ref r), (5, .int a1)]) [1, 3, 0] rfl ?_
    exact c_J6_getChars_ba4f3_L12 X hr  g0 (fun q z0 => rfl) h
