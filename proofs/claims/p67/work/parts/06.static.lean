abbrev P_X10_copyRow (E : KE) (r : Nat) (r1 : Nat) (gn : Nat) (hp : Hp) (al : Option Nat) (out : (Nat → Int32)) : Option Value → Hp → Option Nat → Prop := fun v0 hp' al' => v0 = none ∧ hp' r1 = some (.inl (kC E 0, gn, .inl out)) ∧ (∀ q, q ≠ r1 → hp' q = hp q) ∧ al = al'
set_option maxHeartbeats 4000000 in
set_option maxRecDepth 100000 in
theorem c_X10_copyRow {E : KE} {l : Launch} {hp : Hp} {al : Option Nat} {r : Nat} {r1 : Nat} {n : Nat} {f : Nat → Int32} {gn : Nat} {gf : Nat → Int32}  {out : (Nat → Int32)} (g0 : hp r = some (.inl (kC E 0, n, .inl f))) (g1 : hp r1 = some (.inl (kC E 0, gn, .inl gf))) (hz0 : r ≠ r1) (h : f_X10_copyRow n f gn gf = some out) : AM E l yX10_copyRow cX10_copyRow 2 (Option.none : Option Jvm.ClassFile.FieldType) ⟨1, 0, 0, 18⟩ [.ref r, .ref r1] hp al (P_X10_copyRow E r r1 gn hp al out) := by
  refine A_of (by decide +kernel) (Nat.le_of_ble_eq_true rfl) ?_
  intro p e s m args below meth c X hr hnm
  have X : CX E p l s m args meth c "DiceAudit" cX10_copyRow 2 := X
  refine A_L (L' := [(0, .ref r), (1, .ref r1)]) rfl ?_
  unfold f_X10_copyRow at h
  refine A_aload_n X dX10_copyRow_0 0 rfl ?_
  refine A_alen (t := 0) (v := (nI n)) X dX10_copyRow_1 g0 rfl rfl ?_
  refine A_aload_n X dX10_copyRow_2 1 rfl ?_
  refine A_alen (t := 0) (v := (nI gn)) X dX10_copyRow_3 g1 rfl rfl ?_
  refine A_icmp_ne (tgt := 16) X dX10_copyRow_4 h (by decide) (fun hc h => ?_) (fun hc h => ?_)
  · cases h
    exact A_vret X dX10_copyRow_16 hr ⟨rfl, g1, (fun q z0 => rfl), rfl⟩ (Nat.le_of_ble_eq_true rfl) (Nat.le_of_ble_eq_true rfl)
  · refine A_aload_n X dX10_copyRow_7 0 rfl ?_
    refine A_iconst (v := 0) X dX10_copyRow_8 (by decide) ?_
    refine A_aload_n X dX10_copyRow_9 1 rfl ?_
    refine A_iconst (v := 0) X dX10_copyRow_10 (by decide) ?_
    refine A_aload_n X dX10_copyRow_11 1 rfl ?_
    refine A_alen (t := 0) (v := (nI gn)) X dX10_copyRow_12 g1 rfl rfl ?_
    obtain ⟨hq, h⟩ := gd_o h
    obtain ⟨hq1, hq2, hq3, hq4, hq5⟩ := cpok_o hq
    refine A_copyi X dX10_copyRow_13 kw_628 kw_630 kw_629 kw_18 g0 g1 hq1 hq2 hq3 hq4 hq5 (Nat.le_of_ble_eq_true rfl) (Nat.le_of_ble_eq_true rfl) (fun hp1 (k1 : hp1 r1 = some (.inl (kC E 0, gn, .inl (va_cpy f gf (Int32.toNatClampNeg 0) (Int32.toNatClampNeg 0) (Int32.toNatClampNeg (nI gn)))))) n1 => ?_)
    cases h
    exact A_vret X dX10_copyRow_16 hr ⟨rfl, k1, (fun q z0 => (n1 q z0)), rfl⟩ (Nat.le_of_ble_eq_true rfl) (Nat.le_of_ble_eq_true rfl)
abbrev P_X10_put (E : KE) (r : Nat) (n : Nat) (hp : Hp) (al : Option Nat) (out : (Nat → Int32)) : Option Value → Hp → Option Nat → Prop := fun v0 hp' al' => v0 = none ∧ hp' r = some (.inl (kC E 0, n, .inl out)) ∧ (∀ q, q ≠ r → hp' q = hp q) ∧ al = al'
set_option maxHeartbeats 4000000 in
set_option maxRecDepth 100000 in
theorem c_X10_put {E : KE} {l : Launch} {hp : Hp} {al : Option Nat} {r : Nat} {n : Nat} {f : Nat → Int32} {a1 : Int32} {a2 : Int32} {out : (Nat → Int32)} (g0 : hp r = some (.inl (kC E 0, n, .inl f)))  (h : f_X10_put n f a1 a2 = some out) : AM E l yX10_put cX10_put 3 (Option.none : Option Jvm.ClassFile.FieldType) ⟨0, 0, 0, 0⟩ [.ref r, .int a1, .int a2] hp al (P_X10_put E r n hp al out) := by
  refine A_of (by decide +kernel) (Nat.le_of_ble_eq_true rfl) ?_
  intro p e s m args below meth c X hr hnm
  have X : CX E p l s m args meth c "DiceAudit" cX10_put 3 := X
  refine A_L (L' := [(0, .ref r), (1, .int a1), (2, .int a2)]) rfl ?_
  unfold f_X10_put at h
  refine A_iload_n X dX10_put_0 1 rfl ?_
  refine A_if_lt (tgt := 14) X dX10_put_1 h (by decide) (fun hc h => ?_) (fun hc h => ?_)
  · cases h
    exact A_vret X dX10_put_14 hr ⟨rfl, g0, (fun q z0 => rfl), rfl⟩ (Nat.le_of_ble_eq_true rfl) (Nat.le_of_ble_eq_true rfl)
  · refine A_iload_n X dX10_put_4 1 rfl ?_
    refine A_aload_n X dX10_put_5 0 rfl ?_
    refine A_alen (t := 0) (v := (nI n)) X dX10_put_6 g0 rfl rfl ?_
    refine A_icmp_ge (tgt := 14) X dX10_put_7 h (by decide) (fun hc h => ?_) (fun hc h => ?_)
    · cases h
      exact A_vret X dX10_put_14 hr ⟨rfl, g0, (fun q z0 => rfl), rfl⟩ (Nat.le_of_ble_eq_true rfl) (Nat.le_of_ble_eq_true rfl)
    · refine A_aload_n X dX10_put_10 0 rfl ?_
      refine A_iload_n X dX10_put_11 1 rfl ?_
      refine A_iload_n X dX10_put_12 2 rfl ?_
      obtain ⟨hq, h⟩ := gd_o h
      refine A_iast X dX10_put_13 g0 hq (fun hp1 (k1 : hp1 r = some (.inl (kC E 0, n, .inl (upd f (Int32.toNatClampNeg a1) a2)))) n1 => ?_)
      cases h
      exact A_vret X dX10_put_14 hr ⟨rfl, k1, (fun q z0 => (n1 q z0)), rfl⟩ (Nat.le_of_ble_eq_true rfl) (Nat.le_of_ble_eq_true rfl)
set_option maxHeartbeats 4000000 in
set_option maxRecDepth 100000 in
theorem c_X10_at {E : KE} {l : Launch} {hp : Hp} {al : Option Nat} {r : Nat} {n : Nat} {f : Nat → Int32} {a1 : Int32} {out : Int32} (g0 : hp r = some (.inl (kC E 0, n, .inl f)))  (h : f_X10_at n f a1 = some out) : AM E l yX10_at cX10_at 2 (Option.some Jvm.ClassFile.FieldType.int) ⟨0, 0, 0, 0⟩ [.ref r, .int a1] hp al (kRet out hp al) := by
  refine A_of (by decide +kernel) (Nat.le_of_ble_eq_true rfl) ?_
  intro p e s m args below meth c X hr hnm
  have X : CX E p l s m args meth c "DiceAudit" cX10_at 2 := X
  refine A_L (L' := [(0, .ref r), (1, .int a1)]) rfl ?_
  unfold f_X10_at at h
  refine A_iload_n X dX10_at_0 1 rfl ?_
  refine A_if_lt (tgt := 16) X dX10_at_1 h (by decide) (fun hc h => ?_) (fun hc h => ?_)
  · refine A_iconst (v := 0) X dX10_at_16 (by decide) ?_
    cases h
    exact A_iret X dX10_at_17 hr ⟨rfl, rfl, rfl⟩ (Nat.le_of_ble_eq_true rfl) (Nat.le_of_ble_eq_true rfl)
  · refine A_iload_n X dX10_at_4 1 rfl ?_
    refine A_aload_n X dX10_at_5 0 rfl ?_
    refine A_alen (t := 0) (v := (nI n)) X dX10_at_6 g0 rfl rfl ?_
    refine A_icmp_ge (tgt := 16) X dX10_at_7 h (by decide) (fun hc h => ?_) (fun hc h => ?_)
    · refine A_iconst (v := 0) X dX10_at_16 (by decide) ?_
      cases h
      exact A_iret X dX10_at_17 hr ⟨rfl, rfl, rfl⟩ (Nat.le_of_ble_eq_true rfl) (Nat.le_of_ble_eq_true rfl)
    · refine A_aload_n X dX10_at_10 0 rfl ?_
      refine A_iload_n X dX10_at_11 1 rfl ?_
      obtain ⟨hq, h⟩ := gd_o h
      refine A_iald X dX10_at_12 g0 hq ?_
      refine A_goto (tgt := 17) X dX10_at_13 (by decide) ?_
      cases h
      exact A_iret X dX10_at_17 hr ⟨rfl, rfl, rfl⟩ (Nat.le_of_ble_eq_true rfl) (Nat.le_of_ble_eq_true rfl)
set_option maxHeartbeats 4000000 in
set_option maxRecDepth 100000 in
theorem c_X10_cellOf {E : KE} {l : Launch} {hp : Hp} {al : Option Nat}   {a0 : Int32} {a1 : Int32} {out : Int32}   (h : f_X10_cellOf a0 a1 = some out) : AM E l yX10_cellOf cX10_cellOf 2 (Option.some Jvm.ClassFile.FieldType.int) ⟨0, 0, 0, 0⟩ [.int a0, .int a1] hp al (kRet out hp al) := by
  refine A_of (by decide +kernel) (Nat.le_of_ble_eq_true rfl) ?_
  intro p e s m args below meth c X hr hnm
  have X : CX E p l s m args meth c "DiceAudit" cX10_cellOf 2 := X
  refine A_L (L' := [(0, .int a0), (1, .int a1)]) rfl ?_
  unfold f_X10_cellOf at h
  refine A_iload_n X dX10_cellOf_0 0 rfl ?_
  refine A_bipush (v := 12) X dX10_cellOf_1 (by decide) ?_
  refine A_imul X dX10_cellOf_3 ?_
  refine A_iload_n X dX10_cellOf_4 1 rfl ?_
  refine A_iadd X dX10_cellOf_5 ?_
  refine A_iconst (v := 1) X dX10_cellOf_6 (by decide) ?_
  refine A_isub X dX10_cellOf_7 ?_
  cases h
  exact A_iret X dX10_cellOf_8 hr ⟨rfl, rfl, rfl⟩ (Nat.le_of_ble_eq_true rfl) (Nat.le_of_ble_eq_true rfl)
set_option maxHeartbeats 4000000 in
set_option maxRecDepth 100000 in
theorem c_X10_sumOf_L38 {E : KE} {p : Program} {l : Launch} {e : Env} {s : State} {m : MethodId} {args : Array Value} {below : List Frame} {meth : Method} {c : Code} {al : Option Nat} {N : Nat} {r : Nat} {n : Nat} {f : Nat → Int32} {hp0 : Hp} {out : Int32} {r5 : Int32 → Int32 → Int32 → Int32 → Option (Int32)} (X : CX E p l s m args meth c "DiceAudit" cX10_sumOf 6) (hr : meth.sig.returnType = (Option.some Jvm.ClassFile.FieldType.int))  (g0 : hp0 r = some (.inl (kC E 0, n, .inl f))) (i5 : ∀ {l1 : Int32} {l2 : Int32} {l3 : Int32} {l4 : Int32}, r5 l1 l2 l3 l4 = some out → AW E p l e ⟨0, 0, 0, 0⟩ s m args below meth c 6 (MQ below (kQc E (kRet out hp0 al)) args s 0 0 (kA E)) hp0 al 0 0 5 [(0, .ref r), (1, .int l1), (2, .int l2), (3, .int l3), (4, .int l4)] []) : ∀ {l1 : Int32} {l2 : Int32} {l4 : Int32} {s0 : Int32} {s1 : Int32}, f_X10_sumOf_L38 N n f r5 l1 l2 l4 s0 s1 = some out → AW E p l e ⟨0, 0, 0, 0⟩ s m args below meth c 6 (MQ below (kQc E (kRet out hp0 al)) args s 0 0 (kA E)) hp0 al 0 0 38 [(0, .ref r), (1, .int l1), (2, .int l2), (4, .int l4)] [.int s0, .int s1] := by
  intro l1 l2 l4 s0 s1 h
  unfold f_X10_sumOf_L38 at h
  refine A_iadd X dX10_sumOf_38 ?_
  refine A_istore_n (L' := [(3, .int (s1 + s0)), (0, .ref r), (1, .int l1), (2, .int l2), (4, .int l4)]) X dX10_sumOf_39 rfl (by decide) rfl ?_
  refine A_iinc (j := 4) (v := (l4 + 1)) (L' := [(4, .int (l4 + 1)), (3, .int (s1 + s0)), (0, .ref r), (1, .int l1), (2, .int l2)]) X dX10_sumOf_40 rfl rfl (by decide) rfl ?_
  refine A_goto (tgt := 5) X dX10_sumOf_43 (by decide) ?_
  refine A_sub (L' := [(0, .ref r), (1, .int l1), (2, .int l2), (3, .int (s1 + s0)), (4, .int (l4 + 1))]) [2, 3, 4, 1, 0] rfl ?_
  exact i5  h
set_option maxHeartbeats 4000000 in
set_option maxRecDepth 100000 in
theorem c_X10_sumOf_L37 {E : KE} {p : Program} {l : Launch} {e : Env} {s : State} {m : MethodId} {args : Array Value} {below : List Frame} {meth : Method} {c : Code} {al : Option Nat} {N : Nat} {r : Nat} {n : Nat} {f : Nat → Int32} {hp0 : Hp} {out : Int32} {r5 : Int32 → Int32 → Int32 → Int32 → Option (Int32)} (X : CX E p l s m args meth c "DiceAudit" cX10_sumOf 6) (hr : meth.sig.returnType = (Option.some Jvm.ClassFile.FieldType.int))  (g0 : hp0 r = some (.inl (kC E 0, n, .inl f))) (i5 : ∀ {l1 : Int32} {l2 : Int32} {l3 : Int32} {l4 : Int32}, r5 l1 l2 l3 l4 = some out → AW E p l e ⟨0, 0, 0, 0⟩ s m args below meth c 6 (MQ below (kQc E (kRet out hp0 al)) args s 0 0 (kA E)) hp0 al 0 0 5 [(0, .ref r), (1, .int l1), (2, .int l2), (3, .int l3), (4, .int l4)] []) : ∀ {l1 : Int32} {l2 : Int32} {l4 : Int32} {s0 : Int32}, f_X10_sumOf_L37 N n f r5 l1 l2 l4 s0 = some out → AW E p l e ⟨0, 0, 0, 0⟩ s m args below meth c 6 (MQ below (kQc E (kRet out hp0 al)) args s 0 0 (kA E)) hp0 al 0 0 37 [(0, .ref r), (1, .int l1), (2, .int l2), (4, .int l4)] [.int s0] := by
  intro l1 l2 l4 s0 h
  unfold f_X10_sumOf_L37 at h
  refine A_iconst (v := 0) X dX10_sumOf_37 (by decide) ?_
  refine A_sub (L' := [(0, .ref r), (1, .int l1), (2, .int l2), (4, .int l4)]) [0, 1, 2, 3] rfl ?_
  exact c_X10_sumOf_L38 X hr g0 i5  h
set_option maxHeartbeats 4000000 in
set_option maxRecDepth 100000 in
theorem c_X10_sumOf_L5 {E : KE} {p : Program} {l : Launch} {e : Env} {s : State} {m : MethodId} {args : Array Value} {below : List Frame} {meth : Method} {c : Code} {al : Option Nat} {N : Nat} {r : Nat} {n : Nat} {f : Nat → Int32} {hp0 : Hp} {out : Int32}  (X : CX E p l s m args meth c "DiceAudit" cX10_sumOf 6) (hr : meth.sig.returnType = (Option.some Jvm.ClassFile.FieldType.int))  (g0 : hp0 r = some (.inl (kC E 0, n, .inl f))) : ∀ (j : Nat), ∀ {l1 : Int32} {l2 : Int32} {l3 : Int32} {l4 : Int32}, f_X10_sumOf_L5 N n f j l1 l2 l3 l4 = some out → AW E p l e ⟨0, 0, 0, 0⟩ s m args below meth c 6 (MQ below (kQc E (kRet out hp0 al)) args s 0 0 (kA E)) hp0 al 0 0 5 [(0, .ref r), (1, .int l1), (2, .int l2), (3, .int l3), (4, .int l4)] [] := by
  intro j
  induction j with
  | zero =>
    intro l1 l2 l3 l4 h
    have h : (none : Option (Int32)) = some out := h
    cases h
  | succ j i5 =>
    intro l1 l2 l3 l4 h
    have h : f_X10_sumOf_L5_F N n f (f_X10_sumOf_L5 N n f j) l1 l2 l3 l4 = some out := h
    unfold f_X10_sumOf_L5_F at h
    refine A_iload X dX10_sumOf_5 4 rfl ?_
    refine A_iload_n X dX10_sumOf_7 2 rfl ?_
    refine A_icmp_ge (tgt := 46) X dX10_sumOf_8 h (by decide) (fun hc h => ?_) (fun hc h => ?_)
    · refine A_iload_n X dX10_sumOf_46 3 rfl ?_
      cases h
      exact A_iret X dX10_sumOf_47 hr ⟨rfl, rfl, rfl⟩ (Nat.le_of_ble_eq_true rfl) (Nat.le_of_ble_eq_true rfl)
    · refine A_iload_n X dX10_sumOf_11 1 rfl ?_
      refine A_iload X dX10_sumOf_12 4 rfl ?_
      refine A_iadd X dX10_sumOf_14 ?_
      refine A_istore (L' := [(5, .int (l1 + l4)), (0, .ref r), (1, .int l1), (2, .int l2), (3, .int l3), (4, .int l4)]) X dX10_sumOf_15 (by decide) rfl ?_
      refine A_iload_n X dX10_sumOf_17 4 rfl ?_
      refine A_iload X dX10_sumOf_18 0 rfl ?_
      refine A_if_lt (tgt := 37) X dX10_sumOf_20 h (by decide) (fun hc h => ?_) (fun hc h => ?_)
      · refine A_sub (L' := [(0, .ref r), (1, .int l1), (2, .int l2), (4, .int l4)]) [1, 2, 3, 5] rfl ?_
        exact c_X10_sumOf_L37 X hr g0 i5  h
      · refine A_iload X dX10_sumOf_23 0 rfl ?_
        refine A_aload_n X dX10_sumOf_25 1 rfl ?_
        refine A_alen (t := 0) (v := (nI n)) X dX10_sumOf_26 g0 rfl rfl ?_
        refine A_icmp_ge (tgt := 37) X dX10_sumOf_27 h (by decide) (fun hc h => ?_) (fun hc h => ?_)
        · refine A_sub (L' := [(0, .ref r), (1, .int l1), (2, .int l2), (4, .int l4)]) [1, 2, 3, 5] rfl ?_
          exact c_X10_sumOf_L37 X hr g0 i5  h
        · refine A_aload_n X dX10_sumOf_30 1 rfl ?_
          refine A_iload X dX10_sumOf_31 0 rfl ?_
          obtain ⟨hq, h⟩ := gd_o h
          refine A_iald X dX10_sumOf_33 g0 hq ?_
          refine A_goto (tgt := 38) X dX10_sumOf_34 (by decide) ?_
          refine A_sub (L' := [(0, .ref r), (1, .int l1), (2, .int l2), (4, .int l4)]) [1, 2, 3, 5] rfl ?_
          exact c_X10_sumOf_L38 X hr g0 i5  h
set_option maxHeartbeats 4000000 in
set_option maxRecDepth 100000 in
theorem c_X10_sumOf {E : KE} {l : Launch} {hp : Hp} {al : Option Nat} {N : Nat} {r : Nat} {n : Nat} {f : Nat → Int32} {a1 : Int32} {a2 : Int32} {out : Int32} (g0 : hp r = some (.inl (kC E 0, n, .inl f)))  (h : f_X10_sumOf N n f a1 a2 = some out) : AM E l yX10_sumOf cX10_sumOf 6 (Option.some Jvm.ClassFile.FieldType.int) ⟨0, 0, 0, 0⟩ [.ref r, .int a1, .int a2] hp al (kRet out hp al) := by
  refine A_of (by decide +kernel) (Nat.le_of_ble_eq_true rfl) ?_
  intro p e s m args below meth c X hr hnm
  have X : CX E p l s m args meth c "DiceAudit" cX10_sumOf 6 := X
  refine A_L (L' := [(0, .ref r), (1, .int a1), (2, .int a2)]) rfl ?_
  unfold f_X10_sumOf at h
  refine A_iconst (v := 0) X dX10_sumOf_0 (by decide) ?_
  refine A_istore_n (L' := [(3, .int 0), (0, .ref r), (1, .int a1), (2, .int a2)]) X dX10_sumOf_1 rfl (by decide) rfl ?_
  refine A_iconst (v := 0) X dX10_sumOf_2 (by decide) ?_
  refine A_istore (L' := [(4, .int 0), (3, .int 0), (0, .ref r), (1, .int a1), (2, .int a2)]) X dX10_sumOf_3 (by decide) rfl ?_
  refine A_sub (L' := [(0, .ref r), (1, .int a1), (2, .int a2), (3, .int 0), (4, .int 0)]) [2, 3, 4, 1, 0] rfl ?_
  exact c_X10_sumOf_L5 X hr g0 N  h
abbrev P_J7_fill_53178 (E : KE) (r : Nat) (n : Nat) (hp : Hp) (al : Option Nat) (out : (Nat → Int32)) : Option Value → Hp → Option Nat → Prop := fun v0 hp' al' => v0 = none ∧ hp' r = some (.inl (kC E 0, n, .inl out)) ∧ (∀ q, q ≠ r → hp' q = hp q) ∧ al = al'
set_option maxHeartbeats 4000000 in
set_option maxRecDepth 100000 in
theorem c_J7_fill_53178_L5 {E : KE} {p : Program} {l : Launch} {e : Env} {s : State} {m : MethodId} {args : Array Value} {below : List Frame} {meth : Method} {c : Code} {al : Option Nat} {N : Nat} {r : Nat} {n : Nat} {hp0 : Hp} {out : (Nat → Int32)}  (X : CX E p l s m args meth c "java/util/Arrays" cJ7_fill_53178 4) (hr : meth.sig.returnType = (Option.none : Option Jvm.ClassFile.FieldType))   : ∀ (j : Nat), ∀ {l1 : Int32} {l2 : Int32} {l3 : Int32} {f : Nat → Int32} {hp : Hp}, hp r = some (.inl (kC E 0, n, .inl f)) → (∀ q, q ≠ r → hp q = hp0 q) → f_J7_fill_53178_L5 N n j l1 l2 l3 f = some out → AW E p l e ⟨0, 0, 0, 0⟩ s m args below meth c 4 (MQ below (kQc E (P_J7_fill_53178 E r n hp0 al out)) args s 0 0 (kA E)) hp al 0 0 5 [(0, .ref r), (1, .int l1), (2, .int l2), (3, .int l3)] [] := by
  intro j
  induction j with
  | zero =>
    intro l1 l2 l3 f hp g0 hfr h
    have h : (none : Option ((Nat → Int32))) = some out := h
    cases h
  | succ j i5 =>
    intro l1 l2 l3 f hp g0 hfr h
    have h : f_J7_fill_53178_L5_F N n (f_J7_fill_53178_L5 N n j) l1 l2 l3 f = some out := h
    unfold f_J7_fill_53178_L5_F at h
    refine A_iload_n X dJ7_fill_53178_5 2 rfl ?_
    refine A_iload_n X dJ7_fill_53178_6 3 rfl ?_
    refine A_icmp_ge (tgt := 20) X dJ7_fill_53178_7 h (by decide) (fun hc h => ?_) (fun hc h => ?_)
    · cases h
      exact A_vret X dJ7_fill_53178_20 hr ⟨rfl, g0, (fun q z0 => (hfr q z0)), rfl⟩ (Nat.le_of_ble_eq_true rfl) (Nat.le_of_ble_eq_true rfl)
    · refine A_aload_n X dJ7_fill_53178_10 0 rfl ?_
      refine A_iload_n X dJ7_fill_53178_11 2 rfl ?_
      refine A_iload_n X dJ7_fill_53178_12 1 rfl ?_
      obtain ⟨hq, h⟩ := gd_o h
      refine A_iast X dJ7_fill_53178_13 g0 hq (fun hp1 (k1 : hp1 r = some (.inl (kC E 0, n, .inl (upd f (Int32.toNatClampNeg l2) l1)))) n1 => ?_)
      refine A_iinc (j := 2) (v := (l2 + 1)) (L' := [(2, .int (l2 + 1)), (0, .ref r), (1, .int l1), (3, .int l3)]) X dJ7_fill_53178_14 rfl rfl (by decide) rfl ?_
      refine A_goto (tgt := 5) X dJ7_fill_53178_17 (by decide) ?_
      refine A_sub (L' := [(0, .ref r), (1, .int l1), (2, .int (l2 + 1)), (3, .int l3)]) [1, 2, 0, 3] rfl ?_
      exact i5 k1 (fun q z0 => ((n1 q z0).trans (hfr q z0))) h
set_option maxHeartbeats 4000000 in
set_option maxRecDepth 100000 in
theorem c_J7_fill_53178 {E : KE} {l : Launch} {hp : Hp} {al : Option Nat} {N : Nat} {r : Nat} {n : Nat} {f : Nat → Int32} {a1 : Int32} {out : (Nat → Int32)} (g0 : hp r = some (.inl (kC E 0, n, .inl f)))  (h : f_J7_fill_53178 N n f a1 = some out) : AM E l yJ7_fill_53178 cJ7_fill_53178 4 (Option.none : Option Jvm.ClassFile.FieldType) ⟨0, 0, 0, 0⟩ [.ref r, .int a1] hp al (P_J7_fill_53178 E r n hp al out) := by
  refine A_of (by decide +kernel) (Nat.le_of_ble_eq_true rfl) ?_
  intro p e s m args below meth c X hr hnm
  have X : CX E p l s m args meth c "java/util/Arrays" cJ7_fill_53178 4 := X
  refine A_L (L' := [(0, .ref r), (1, .int a1)]) rfl ?_
  unfold f_J7_fill_53178 at h
  refine A_iconst (v := 0) X dJ7_fill_53178_0 (by decide) ?_
  refine A_istore_n (L' := [(2, .int 0), (0, .ref r), (1, .int a1)]) X dJ7_fill_53178_1 rfl (by decide) rfl ?_
  refine A_aload_n X dJ7_fill_53178_2 1 rfl ?_
  refine A_alen (t := 0) (v := (nI n)) X dJ7_fill_53178_3 g0 rfl rfl ?_
  refine A_istore_n (L' := [(3, .int (nI n)), (2, .int 0), (0, .ref r), (1, .int a1)]) X dJ7_fill_53178_4 rfl (by decide) rfl ?_
  refine A_sub (L' := [(0, .ref r), (1, .int a1), (2, .int 0), (3, .int (nI n))]) [2, 3, 1, 0] rfl ?_
  exact c_J7_fill_53178_L5 X hr  N g0 (fun q z0 => rfl) h
set_option maxHeartbeats 4000000 in
set_option maxRecDepth 100000 in
theorem c_X10_dieOf {E : KE} {l : Launch} {hp : Hp} {al : Option Nat}   {a0 : Int32} {out : Int32}   (h : f_X10_dieOf a0 = some out) : AM E l yX10_dieOf cX10_dieOf 1 (Option.some Jvm.ClassFile.FieldType.int) ⟨0, 0, 0, 0⟩ [.int a0] hp al (kRet out hp al) := by
  refine A_of (by decide +kernel) (Nat.le_of_ble_eq_true rfl) ?_
  intro p e s m args below meth c X hr hnm
  have X : CX E p l s m args meth c "DiceAudit" cX10_dieOf 1 := X
  refine A_L (L' := [(0, .int a0)]) rfl ?_
  unfold f_X10_dieOf at h
  refine A_iload_n X dX10_dieOf_0 0 rfl ?_
  refine A_bipush (v := 6) X dX10_dieOf_1 (by decide) ?_
  refine A_irem X dX10_dieOf_3 (by decide) ?_
  cases h
  exact A_iret X dX10_dieOf_4 hr ⟨rfl, rfl, rfl⟩ (Nat.le_of_ble_eq_true rfl) (Nat.le_of_ble_eq_true rfl)
set_option maxHeartbeats 4000000 in
set_option maxRecDepth 100000 in
theorem c_X10_nextSeed {E : KE} {l : Launch} {hp : Hp} {al : Option Nat}   {a0 : Int32} {out : Int32}   (h : f_X10_nextSeed a0 = some out) : AM E l yX10_nextSeed cX10_nextSeed 1 (Option.some Jvm.ClassFile.FieldType.int) ⟨0, 0, 0, 0⟩ [.int a0] hp al (kRet out hp al) := by
  refine A_of (by decide +kernel) (Nat.le_of_ble_eq_true rfl) ?_
  intro p e s m args below meth c X hr hnm
  have X : CX E p l s m args meth c "DiceAudit" cX10_nextSeed 1 := X
  refine A_L (L' := [(0, .int a0)]) rfl ?_
  unfold f_X10_nextSeed at h
  refine A_bipush (v := 75) X dX10_nextSeed_0 (by decide) ?_
  refine A_iload_n X dX10_nextSeed_2 0 rfl ?_
  refine A_imul X dX10_nextSeed_3 ?_
  refine A_bipush (v := 74) X dX10_nextSeed_4 (by decide) ?_
  refine A_iadd X dX10_nextSeed_6 ?_
  refine A_ldcwi X dX10_nextSeed_7 kw_489 ?_
  refine A_irem X dX10_nextSeed_10 (by decide) ?_
  cases h
  exact A_iret X dX10_nextSeed_11 hr ⟨rfl, rfl, rfl⟩ (Nat.le_of_ble_eq_true rfl) (Nat.le_of_ble_eq_true rfl)
set_option maxHeartbeats 4000000 in
set_option maxRecDepth 100000 in
theorem c_X10_testScore_L25 {E : KE} {p : Program} {l : Launch} {e : Env} {s : State} {m : MethodId} {args : Array Value} {below : List Frame} {meth : Method} {c : Code} {al : Option Nat} {N : Nat} {r : Nat} {n : Nat} {f : Nat → Int32} {hp0 : Hp} {out : Int32}  (X : CX E p l s m args meth c "DiceAudit" cX10_testScore 8) (hr : meth.sig.returnType = (Option.some Jvm.ClassFile.FieldType.int))  (g0 : hp0 r = some (.inl (kC E 0, n, .inl f))) : ∀ (j : Nat), ∀ {l1 : Int32} {l2 : Int32} {l3 : Int32} {l4 : Int32} {l5 : Int32} {l6 : Int32}, f_X10_testScore_L25 N n f j l1 l2 l3 l4 l5 l6 = some out → AW E p l e ⟨1, 0, 0, 25⟩ s m args below meth c 8 (MQ below (kQc E (kRet out hp0 al)) args s 0 0 (kA E)) hp0 al 0 0 25 [(0, .ref r), (1, .int l1), (2, .int l2), (3, .int l3), (4, .int l4), (5, .int l5), (6, .int l6)] [] := by
  intro j
  induction j with
  | zero =>
    intro l1 l2 l3 l4 l5 l6 h
    have h : (none : Option (Int32)) = some out := h
    cases h
  | succ j i25 =>
    intro l1 l2 l3 l4 l5 l6 h
    have h : f_X10_testScore_L25_F N n f (f_X10_testScore_L25 N n f j) l1 l2 l3 l4 l5 l6 = some out := h
    unfold f_X10_testScore_L25_F at h
    refine A_iload X dX10_testScore_25 6 rfl ?_
    refine A_iload_n X dX10_testScore_27 2 rfl ?_
    refine A_icmp_ge (tgt := 61) X dX10_testScore_28 h (by decide) (fun hc h => ?_) (fun hc h => ?_)
    · refine A_iload X dX10_testScore_61 5 rfl ?_
      refine A_iload X dX10_testScore_63 4 rfl ?_
      obtain ⟨hq, h⟩ := gd_o h
      refine A_idiv X dX10_testScore_65 (nz_o hq) ?_
      cases h
      exact A_iret X dX10_testScore_66 hr ⟨rfl, rfl, rfl⟩ (Nat.le_of_ble_eq_true rfl) (Nat.le_of_ble_eq_true rfl)
    · refine A_iload_n X dX10_testScore_31 2 rfl ?_
      refine A_aload_n X dX10_testScore_32 0 rfl ?_
      refine A_iload_n X dX10_testScore_33 1 rfl ?_
      refine A_iload X dX10_testScore_34 6 rfl ?_
      refine A_iadd X dX10_testScore_36 ?_
      obtain ⟨t2, hct2, h⟩ := bind_o h
      refine A_cp (k' := 0) (n' := 0) (A_runS (rest := [.int l2]) X dX10_testScore_37 (c_X10_at g0  hct2) kY_X10_at kw_531 ⟨(Nat.le_of_ble_eq_true rfl), (Nat.le_of_ble_eq_true rfl), (Nat.le_of_ble_eq_true rfl), (Nat.le_of_ble_eq_true rfl)⟩ rfl (Nat.le_of_ble_eq_true rfl)) rfl rfl ?_
      refine A_imul X dX10_testScore_40 ?_
      refine A_iload_n X dX10_testScore_41 3 rfl ?_
      refine A_isub X dX10_testScore_42 ?_
      refine A_istore (L' := [(7, .int ((l2 * t2) - l3)), (0, .ref r), (1, .int l1), (2, .int l2), (3, .int l3), (4, .int l4), (5, .int l5), (6, .int l6)]) X dX10_testScore_43 (by decide) rfl ?_
      refine A_iload X dX10_testScore_45 6 rfl ?_
      refine A_iload X dX10_testScore_47 0 rfl ?_
      refine A_iload X dX10_testScore_49 0 rfl ?_
      refine A_imul X dX10_testScore_51 ?_
      refine A_iadd X dX10_testScore_52 ?_
      refine A_istore (L' := [(5, .int (l5 + (((l2 * t2) - l3) * ((l2 * t2) - l3)))), (7, .int ((l2 * t2) - l3)), (0, .ref r), (1, .int l1), (2, .int l2), (3, .int l3), (4, .int l4), (6, .int l6)]) X dX10_testScore_53 (by decide) rfl ?_
      refine A_iinc (j := 7) (v := (l6 + 1)) (L' := [(6, .int (l6 + 1)), (5, .int (l5 + (((l2 * t2) - l3) * ((l2 * t2) - l3)))), (7, .int ((l2 * t2) - l3)), (0, .ref r), (1, .int l1), (2, .int l2), (3, .int l3), (4, .int l4)]) X dX10_testScore_55 rfl rfl (by decide) rfl ?_
      refine A_goto (tgt := 25) X dX10_testScore_58 (by decide) ?_
      refine A_sub (L' := [(0, .ref r), (1, .int l1), (2, .int l2), (3, .int l3), (4, .int l4), (5, .int (l5 + (((l2 * t2) - l3) * ((l2 * t2) - l3)))), (6, .int (l6 + 1))]) [3, 4, 5, 6, 7, 1, 0] rfl ?_
      exact i25  h
set_option maxHeartbeats 4000000 in
set_option maxRecDepth 100000 in
theorem c_X10_testScore {E : KE} {l : Launch} {hp : Hp} {al : Option Nat} {N : Nat} {r : Nat} {n : Nat} {f : Nat → Int32} {a1 : Int32} {a2 : Int32} {out : Int32} (g0 : hp r = some (.inl (kC E 0, n, .inl f)))  (h : f_X10_testScore N n f a1 a2 = some out) : AM E l yX10_testScore cX10_testScore 8 (Option.some Jvm.ClassFile.FieldType.int) ⟨1, 0, 0, 25⟩ [.ref r, .int a1, .int a2] hp al (kRet out hp al) := by
  refine A_of (by decide +kernel) (Nat.le_of_ble_eq_true rfl) ?_
  intro p e s m args below meth c X hr hnm
  have X : CX E p l s m args meth c "DiceAudit" cX10_testScore 8 := X
  refine A_L (L' := [(0, .ref r), (1, .int a1), (2, .int a2)]) rfl ?_
  unfold f_X10_testScore at h
  refine A_aload_n X dX10_testScore_0 0 rfl ?_
  refine A_iload_n X dX10_testScore_1 1 rfl ?_
  refine A_iload_n X dX10_testScore_2 2 rfl ?_
  obtain ⟨t1, hct1, h⟩ := bind_o h
  refine A_cp (k' := 0) (n' := 0) (A_runS (rest := []) X dX10_testScore_3 (c_X10_sumOf g0  hct1) kY_X10_sumOf kw_530 ⟨(Nat.le_of_ble_eq_true rfl), (Nat.le_of_ble_eq_true rfl), (Nat.le_of_ble_eq_true rfl), (Nat.le_of_ble_eq_true rfl)⟩ rfl (Nat.le_of_ble_eq_true rfl)) rfl rfl ?_
  refine A_istore_n (L' := [(3, .int t1), (0, .ref r), (1, .int a1), (2, .int a2)]) X dX10_testScore_6 rfl (by decide) rfl ?_
  refine A_iload_n X dX10_testScore_7 0 rfl ?_
  refine A_iload_n X dX10_testScore_8 3 rfl ?_
  refine A_imul X dX10_testScore_9 ?_
  refine A_istore (L' := [(4, .int (t1 * a2)), (3, .int t1), (0, .ref r), (1, .int a1), (2, .int a2)]) X dX10_testScore_10 (by decide) rfl ?_
  refine A_iload X dX10_testScore_12 0 rfl ?_
  refine A_if_gt (tgt := 19) X dX10_testScore_14 h (by decide) (fun hc h => ?_) (fun hc h => ?_)
  · refine A_iconst (v := 0) X dX10_testScore_19 (by decide) ?_
    refine A_istore (L' := [(5, .int 0), (4, .int (t1 * a2)), (3, .int t1), (0, .ref r), (1, .int a1), (2, .int a2)]) X dX10_testScore_20 (by decide) rfl ?_
    refine A_iconst (v := 0) X dX10_testScore_22 (by decide) ?_
    refine A_istore (L' := [(6, .int 0), (5, .int 0), (4, .int (t1 * a2)), (3, .int t1), (0, .ref r), (1, .int a1), (2, .int a2)]) X dX10_testScore_23 (by decide) rfl ?_
    refine A_sub (L' := [(0, .ref r), (1, .int a1), (2, .int a2), (3, .int t1), (4, .int (t1 * a2)), (5, .int 0), (6, .int 0)]) [4, 5, 6, 3, 2, 1, 0] rfl ?_
    exact c_X10_testScore_L25 X hr g0 N  h
  · refine A_iconst (v := 0) X dX10_testScore_17 (by decide) ?_
    cases h
    exact A_iret X dX10_testScore_18 hr ⟨rfl, rfl, rfl⟩ (Nat.le_of_ble_eq_true rfl) (Nat.le_of_ble_eq_true rfl)
set_option maxHeartbeats 4000000 in
set_option maxRecDepth 100000 in
theorem c_X10_pairOf {E : KE} {l : Launch} {hp : Hp} {al : Option Nat}   {a0 : Int32} {a1 : Int32} {out : Int32}   (h : f_X10_pairOf a0 a1 = some out) : AM E l yX10_pairOf cX10_pairOf 2 (Option.some Jvm.ClassFile.FieldType.int) ⟨0, 0, 0, 0⟩ [.int a0, .int a1] hp al (kRet out hp al) := by
  refine A_of (by decide +kernel) (Nat.le_of_ble_eq_true rfl) ?_
  intro p e s m args below meth c X hr hnm
  have X : CX E p l s m args meth c "DiceAudit" cX10_pairOf 2 := X
  refine A_L (L' := [(0, .int a0), (1, .int a1)]) rfl ?_
  unfold f_X10_pairOf at h
  refine A_iload_n X dX10_pairOf_0 0 rfl ?_
  refine A_bipush (v := 6) X dX10_pairOf_1 (by decide) ?_
  refine A_imul X dX10_pairOf_3 ?_
  refine A_iload_n X dX10_pairOf_4 1 rfl ?_
  refine A_iadd X dX10_pairOf_5 ?_
  cases h
  exact A_iret X dX10_pairOf_6 hr ⟨rfl, rfl, rfl⟩ (Nat.le_of_ble_eq_true rfl) (Nat.le_of_ble_eq_true rfl)
set_option maxHeartbeats 4000000 in
set_option maxRecDepth 100000 in
theorem c_X10_playerOf {E : KE} {l : Launch} {hp : Hp} {al : Option Nat}   {a0 : Int32} {out : Int32}   (h : f_X10_playerOf a0 = some out) : AM E l yX10_playerOf cX10_playerOf 1 (Option.some Jvm.ClassFile.FieldType.int) ⟨0, 0, 0, 0⟩ [.int a0] hp al (kRet out hp al) := by
  refine A_of (by decide +kernel) (Nat.le_of_ble_eq_true rfl) ?_
  intro p e s m args below meth c X hr hnm
  have X : CX E p l s m args meth c "DiceAudit" cX10_playerOf 1 := X
  refine A_L (L' := [(0, .int a0)]) rfl ?_
  unfold f_X10_playerOf at h
  refine A_iload_n X dX10_playerOf_0 0 rfl ?_
  refine A_bipush (v := 6) X dX10_playerOf_1 (by decide) ?_
  refine A_idiv X dX10_playerOf_3 (by decide) ?_
  cases h
  exact A_iret X dX10_playerOf_4 hr ⟨rfl, rfl, rfl⟩ (Nat.le_of_ble_eq_true rfl) (Nat.le_of_ble_eq_true rfl)
abbrev P_X10_requireRange (E : KE)   (hp : Hp) (al : Option Nat) (out : String ⊕ (Unit)) : Option Value → Hp → Option Nat → Prop := fun v0 hp' al' => ∃ u, out = .inr u ∧ v0 = none ∧ hp = hp' ∧ al = al'
set_option maxHeartbeats 4000000 in
set_option maxRecDepth 100000 in
theorem c_X10_requireRange_L10 {E : KE} {p : Program} {l : Launch} {e : Env} {s : State} {m : MethodId} {args : Array Value} {below : List Frame} {meth : Method} {c : Code} {al : Option Nat}   {hp0 : Hp} {out : String ⊕ (Unit)}  (X : CX E p l s m args meth c "DiceAudit" cX10_requireRange 3) (hr : meth.sig.returnType = (Option.none : Option Jvm.ClassFile.FieldType)) (htb : ∀ x ∈ c.exceptionTable.toList, False)   : f_X10_requireRange_L10  = some out → AW E p l e ⟨6, 1, 6, 82⟩ s m args below meth c 3 (vx_MQ below (kQc E (P_X10_requireRange E hp0 al out)) (kXC E (kThr out hp0)) args s 1 6 (kA E)) hp0 al 0 0 10 [] [] := by
  intro  h
  unfold f_X10_requireRange_L10 at h
  cases h
  exact A_throwSW (names := ["java/lang/RuntimeException", "java/lang/Exception"]) X htb (by decide +kernel) (by decide +kernel) kw_799 kw_27 (List.mem_of_getElem? (i := 12) rfl) xa_X10_99 xg_X10_99 dX10_requireRange_10 dX10_requireRange_13 dX10_requireRange_14 dX10_requireRange_17 dX10_requireRange_20 (Nat.le_of_ble_eq_true rfl) (Nat.le_of_ble_eq_true rfl) (Nat.le_of_ble_eq_true rfl) (Nat.le_of_ble_eq_true rfl) ⟨rfl, rfl⟩ (Nat.le_of_ble_eq_true rfl) (Nat.le_of_ble_eq_true rfl)
set_option maxHeartbeats 4000000 in
set_option maxRecDepth 100000 in
theorem c_X10_requireRange {E : KE} {l : Launch} {hp : Hp} {al : Option Nat}   {a0 : Int32} {a1 : Int32} {a2 : Int32} {out : String ⊕ (Unit)}   (h : f_X10_requireRange a0 a1 a2 = some out) : AX E l yX10_requireRange cX10_requireRange 3 (Option.none : Option Jvm.ClassFile.FieldType) ⟨6, 1, 6, 82⟩ [.int a0, .int a1, .int a2] hp al (P_X10_requireRange E hp al out) (kThr out hp) := by
  refine A_ofX (by decide +kernel) (Nat.le_of_ble_eq_true rfl) ?_
  intro p e s m args below meth c X hr htb
  have X : CX E p l s m args meth c "DiceAudit" cX10_requireRange 3 := X
  refine A_L (L' := [(0, .int a0), (1, .int a1), (2, .int a2)]) rfl ?_
  unfold f_X10_requireRange at h
  refine A_iload_n X dX10_requireRange_0 0 rfl ?_
  refine A_iload_n X dX10_requireRange_1 1 rfl ?_
  refine A_icmp_lt (tgt := 10) X dX10_requireRange_2 h (by decide) (fun hc h => ?_) (fun hc h => ?_)
  · refine A_sub (L' := []) [] rfl ?_
    exact c_X10_requireRange_L10 X hr htb   h
  · refine A_iload_n X dX10_requireRange_5 0 rfl ?_
    refine A_iload_n X dX10_requireRange_6 2 rfl ?_
    refine A_icmp_le (tgt := 21) X dX10_requireRange_7 h (by decide) (fun hc h => ?_) (fun hc h => ?_)
    · cases h
      exact A_vretX X dX10_requireRange_21 hr ⟨_, rfl, rfl, rfl, rfl⟩ (Nat.le_of_ble_eq_true rfl) (Nat.le_of_ble_eq_true rfl)
    · refine A_sub (L' := []) [] rfl ?_
      exact c_X10_requireRange_L10 X hr htb   h
abbrev P_X10_requireIndex (E : KE)   (hp : Hp) (al : Option Nat) (out : String ⊕ (Unit)) : Option Value → Hp → Option Nat → Prop := fun v0 hp' al' => ∃ u, out = .inr u ∧ v0 = none ∧ hp = hp' ∧ al = al'
set_option maxHeartbeats 4000000 in
set_option maxRecDepth 100000 in
theorem c_X10_requireIndex_L9 {E : KE} {p : Program} {l : Launch} {e : Env} {s : State} {m : MethodId} {args : Array Value} {below : List Frame} {meth : Method} {c : Code} {al : Option Nat}   {hp0 : Hp} {out : String ⊕ (Unit)}  (X : CX E p l s m args meth c "DiceAudit" cX10_requireIndex 2) (hr : meth.sig.returnType = (Option.none : Option Jvm.ClassFile.FieldType)) (htb : ∀ x ∈ c.exceptionTable.toList, False)   : f_X10_requireIndex_L9  = some out → AW E p l e ⟨6, 1, 6, 82⟩ s m args below meth c 2 (vx_MQ below (kQc E (P_X10_requireIndex E hp0 al out)) (kXC E (kThr out hp0)) args s 1 6 (kA E)) hp0 al 0 0 9 [] [] := by
  intro  h
  unfold f_X10_requireIndex_L9 at h
  cases h
  exact A_throwSW (names := ["java/lang/RuntimeException", "java/lang/Exception"]) X htb (by decide +kernel) (by decide +kernel) kw_720 kw_30 (List.mem_of_getElem? (i := 14) rfl) xa_X10_380 xg_X10_380 dX10_requireIndex_9 dX10_requireIndex_12 dX10_requireIndex_13 dX10_requireIndex_16 dX10_requireIndex_19 (Nat.le_of_ble_eq_true rfl) (Nat.le_of_ble_eq_true rfl) (Nat.le_of_ble_eq_true rfl) (Nat.le_of_ble_eq_true rfl) ⟨rfl, rfl⟩ (Nat.le_of_ble_eq_true rfl) (Nat.le_of_ble_eq_true rfl)
set_option maxHeartbeats 4000000 in
set_option maxRecDepth 100000 in
theorem c_X10_requireIndex {E : KE} {l : Launch} {hp : Hp} {al : Option Nat}   {a0 : Int32} {a1 : Int32} {out : String ⊕ (Unit)}   (h : f_X10_requireIndex a0 a1 = some out) : AX E l yX10_requireIndex cX10_requireIndex 2 (Option.none : Option Jvm.ClassFile.FieldType) ⟨6, 1, 6, 82⟩ [.int a0, .int a1] hp al (P_X10_requireIndex E hp al out) (kThr out hp) := by
  refine A_ofX (by decide +kernel) (Nat.le_of_ble_eq_true rfl) ?_
  intro p e s m args below meth c X hr htb
  have X : CX E p l s m args meth c "DiceAudit" cX10_requireIndex 2 := X
  refine A_L (L' := [(0, .int a0), (1, .int a1)]) rfl ?_
  unfold f_X10_requireIndex at h
  refine A_iload_n X dX10_requireIndex_0 0 rfl ?_
  refine A_if_lt (tgt := 9) X dX10_requireIndex_1 h (by decide) (fun hc h => ?_) (fun hc h => ?_)
  · refine A_sub (L' := []) [] rfl ?_
    exact c_X10_requireIndex_L9 X hr htb   h
  · refine A_iload_n X dX10_requireIndex_4 0 rfl ?_
    refine A_iload_n X dX10_requireIndex_5 1 rfl ?_
    refine A_icmp_lt (tgt := 20) X dX10_requireIndex_6 h (by decide) (fun hc h => ?_) (fun hc h => ?_)
    · cases h
      exact A_vretX X dX10_requireIndex_20 hr ⟨_, rfl, rfl, rfl, rfl⟩ (Nat.le_of_ble_eq_true rfl) (Nat.le_of_ble_eq_true rfl)
    · refine A_sub (L' := []) [] rfl ?_
      exact c_X10_requireIndex_L9 X hr htb   h
