/-! the hand's methods -/
abbrev PHs (E : KE) (b ub : Nat) (hp : Hp) (v : Option Value) (ul : Nat → Nat) (uw : Nat → Nat → Int32) (ut uq : Nat → Option (Nat → Int32)) (um uo : Int32) (us : Int64) (ui uh : Int32) : Option Value → Hp → Option Nat → Prop := fun v0 hp' al' => v0 = v ∧ HandP E hp' b ub ul uw ut uq um uo us ui uh ∧ ∀ q, q ≠ b → hp' q = hp q
abbrev PHt (E : KE) (b : Nat) (hp : Hp) (v : Option Value) (ul : Nat → Nat) (uw : Nat → Nat → Int32) (ut uq : Nat → Option (Nat → Int32)) (um uo : Int32) (us : Int64) (ui uh : Int32) : Option Value → Hp → Option Nat → Prop := fun v0 hp' al' => v0 = v ∧ (∃ ub, HandP E hp' b ub ul uw ut uq um uo us ui uh) ∧ ∀ q, q < b → hp' q = hp q
def f_X11_shows_L79_F (N : Nat) (ul : Nat → Nat) (uw : Nat → Nat → Int32)  (r79 : Int32 → Int32 → Int32 → Int32 → Int32 → Int64 → Option (Int32 × Int64)) (l1 : Int32) (l2 : Int32) (l4 : Int32) (l5 : Int32) (l6 : Int32) (us : Int64) : Option (Int32 × Int64) :=
  gd (inb l1 3) <|
  if (nI (ul (Int32.toNatClampNeg l1))) ≤ l6 then
    some ((-1), us)
  else
    if l2 = 0 then
      gd (inb l1 3) <|
      gd (inb l6 (ul (Int32.toNatClampNeg l1))) <|
      if (l5 + (uw (Int32.toNatClampNeg l1) (Int32.toNatClampNeg l6))) ≤ l4 then
        r79 l1 l2 l4 (l5 + (uw (Int32.toNatClampNeg l1) (Int32.toNatClampNeg l6))) (l6 + 1) us
      else
        some ((l6 + 1), us)
    else
      if (l5 + 1) ≤ l4 then
        r79 l1 l2 l4 (l5 + 1) (l6 + 1) us
      else
        some ((l6 + 1), us)
def f_X11_shows_L79 (N : Nat) (ul : Nat → Nat) (uw : Nat → Nat → Int32)  : Nat → Int32 → Int32 → Int32 → Int32 → Int32 → Int64 → Option (Int32 × Int64)
  | 0 => fun _ _ _ _ _ _ => none
  | j + 1 => f_X11_shows_L79_F N ul uw (f_X11_shows_L79 N ul uw j)
set_option maxHeartbeats 4000000 in
set_option maxRecDepth 100000 in
theorem c_X11_shows_L79 {E : KE} {p : Program} {l : Launch} {e : Env} {s : State} {m : MethodId} {args : Array Value} {below : List Frame} {meth : Method} {c : Code} {N : Nat} {b : Nat} {ul : Nat → Nat} {uw : Nat → Nat → Int32} {ut : Nat → Option (Nat → Int32)} {uq : Nat → Option (Nat → Int32)} {um : Int32} {uo : Int32} {ui : Int32} {uh : Int32}  {hp0 : Hp} {out : Int32 × Int64}  (X : CX E p l s m args meth c "DiceAuditLaw$Hand" cX11_shows 7) (hr : meth.sig.returnType = (Option.some Jvm.ClassFile.FieldType.int))  : ∀ (j : Nat), ∀ {l1 : Int32} {l2 : Int32} {l4 : Int32} {l5 : Int32} {l6 : Int32} {us : Int64} {ub : Nat} {hp : Hp}, HandP E hp b ub ul uw ut uq um uo us ui uh → (∀ q, q ≠ b → hp q = hp0 q) → f_X11_shows_L79 N ul uw j l1 l2 l4 l5 l6 us = some out → AW E p l e ⟨0, 0, 0, 0⟩ s m args below meth c 7 (MQ below (kQc E (PHs E b ub hp0 (some (.int out.1)) ul uw ut uq um uo out.2 ui uh)) args s 0 0 (kA E)) hp none 0 0 79 [(0, .ref b), (1, .int l1), (2, .int l2), (4, .int l4), (5, .int l5), (6, .int l6)] [] := by
  intro j
  induction j with
  | zero =>
    intro l1 l2 l4 l5 l6 us ub hp G hfr h
    have h : (none : Option (Int32 × Int64)) = some out := h
    cases h
  | succ j i79 =>
    intro l1 l2 l4 l5 l6 us ub hp G hfr h
    have h : f_X11_shows_L79_F N ul uw (f_X11_shows_L79 N ul uw j) l1 l2 l4 l5 l6 us = some out := h
    unfold f_X11_shows_L79_F at h
    refine A_iload X dX11_shows_79 5 rfl ?_
    refine A_aload_n X dX11_shows_81 0 rfl ?_
    refine A_get X dX11_shows_82 kcl_X11 0 (by decide) kw_831 G.1 rfl ?_
    refine A_iload_n X dX11_shows_85 1 rfl ?_
    obtain ⟨hw2, h⟩ := gd_o h
    refine A_wrow X dX11_shows_86 G hw2 ?_
    refine A_alen (t := 0) (v := (nI (ul (Int32.toNatClampNeg l1)))) X dX11_shows_87 (G.2.2.1 _ (inb3 hw2)) rfl rfl ?_
    refine A_icmp_ge (tgt := 131) X dX11_shows_88 h (by decide) (fun hc h => ?_) (fun hc h => ?_)
    · refine A_iconst (v := (-1)) X dX11_shows_131 (by decide) ?_
      cases h
      exact A_iret X dX11_shows_132 hr ⟨rfl, G, hfr⟩ (Nat.le_of_ble_eq_true rfl) (Nat.le_of_ble_eq_true rfl)
    · refine A_iload X dX11_shows_91 4 rfl ?_
      refine A_iload_n X dX11_shows_93 2 rfl ?_
      refine A_if_eq (tgt := 101) X dX11_shows_94 h (by decide) (fun hc h => ?_) (fun hc h => ?_)
      · refine A_aload_n X dX11_shows_101 0 rfl ?_
        refine A_get X dX11_shows_102 kcl_X11 0 (by decide) kw_831 G.1 rfl ?_
        refine A_iload_n X dX11_shows_105 1 rfl ?_
        obtain ⟨hw3, h⟩ := gd_o h
        refine A_wrow X dX11_shows_106 G hw3 ?_
        refine A_iload X dX11_shows_107 5 rfl ?_
        obtain ⟨hq, h⟩ := gd_o h
        refine A_iald X dX11_shows_109 (G.2.2.1 _ (inb3 hw3)) hq ?_
        refine A_iadd X dX11_shows_110 ?_
        refine A_istore (L' := [(5, .int (l5 + (uw (Int32.toNatClampNeg l1) (Int32.toNatClampNeg l6)))), (0, .ref b), (1, .int l1), (2, .int l2), (4, .int l4), (6, .int l6)]) X dX11_shows_111 (by decide) rfl ?_
        refine A_iload X dX11_shows_113 0 rfl ?_
        refine A_iload X dX11_shows_115 4 rfl ?_
        refine A_icmp_le (tgt := 125) X dX11_shows_117 h (by decide) (fun hc h => ?_) (fun hc h => ?_)
        · refine A_iinc (j := 5) (v := (l6 + 1)) (L' := [(6, .int (l6 + 1)), (5, .int (l5 + (uw (Int32.toNatClampNeg l1) (Int32.toNatClampNeg l6)))), (0, .ref b), (1, .int l1), (2, .int l2), (4, .int l4)]) X dX11_shows_125 rfl rfl (by decide) rfl ?_
          refine A_goto (tgt := 79) X dX11_shows_128 (by decide) ?_
          refine A_sub (L' := [(0, .ref b), (1, .int l1), (2, .int l2), (4, .int l4), (5, .int (l5 + (uw (Int32.toNatClampNeg l1) (Int32.toNatClampNeg l6)))), (6, .int (l6 + 1))]) [2, 3, 4, 5, 1, 0] rfl ?_
          exact i79 G hfr h
        · refine A_iload X dX11_shows_120 5 rfl ?_
          refine A_iconst (v := 1) X dX11_shows_122 (by decide) ?_
          refine A_iadd X dX11_shows_123 ?_
          cases h
          exact A_iret X dX11_shows_124 hr ⟨rfl, G, hfr⟩ (Nat.le_of_ble_eq_true rfl) (Nat.le_of_ble_eq_true rfl)
      · refine A_iconst (v := 1) X dX11_shows_97 (by decide) ?_
        refine A_goto (tgt := 110) X dX11_shows_98 (by decide) ?_
        refine A_iadd X dX11_shows_110 ?_
        refine A_istore (L' := [(5, .int (l5 + 1)), (0, .ref b), (1, .int l1), (2, .int l2), (4, .int l4), (6, .int l6)]) X dX11_shows_111 (by decide) rfl ?_
        refine A_iload X dX11_shows_113 0 rfl ?_
        refine A_iload X dX11_shows_115 4 rfl ?_
        refine A_icmp_le (tgt := 125) X dX11_shows_117 h (by decide) (fun hc h => ?_) (fun hc h => ?_)
        · refine A_iinc (j := 5) (v := (l6 + 1)) (L' := [(6, .int (l6 + 1)), (5, .int (l5 + 1)), (0, .ref b), (1, .int l1), (2, .int l2), (4, .int l4)]) X dX11_shows_125 rfl rfl (by decide) rfl ?_
          refine A_goto (tgt := 79) X dX11_shows_128 (by decide) ?_
          refine A_sub (L' := [(0, .ref b), (1, .int l1), (2, .int l2), (4, .int l4), (5, .int (l5 + 1)), (6, .int (l6 + 1))]) [2, 3, 4, 5, 1, 0] rfl ?_
          exact i79 G hfr h
        · refine A_iload X dX11_shows_120 5 rfl ?_
          refine A_iconst (v := 1) X dX11_shows_122 (by decide) ?_
          refine A_iadd X dX11_shows_123 ?_
          cases h
          exact A_iret X dX11_shows_124 hr ⟨rfl, G, hfr⟩ (Nat.le_of_ble_eq_true rfl) (Nat.le_of_ble_eq_true rfl)
def f_X11_shows_L25_F (N : Nat) (ul : Nat → Nat) (uw : Nat → Nat → Int32)  (r25 : Int32 → Int32 → Int32 → Int32 → Int64 → Option (Int32 × Int64)) (l1 : Int32) (l2 : Int32) (l3 : Int32) (l4 : Int32) (us : Int64) : Option (Int32 × Int64) :=
  gd (inb l1 3) <|
  if (nI (ul (Int32.toNatClampNeg l1))) ≤ l4 then
    gd (nzl l3.toInt64) <|
    f_X11_shows_L79 N ul uw N l1 l2 ((us - us / l3.toInt64 * l3.toInt64).toInt32) 0 0 us
  else
    if l2 = 0 then
      gd (inb l1 3) <|
      gd (inb l4 (ul (Int32.toNatClampNeg l1))) <|
      r25 l1 l2 (l3 + (uw (Int32.toNatClampNeg l1) (Int32.toNatClampNeg l4))) (l4 + 1) us
    else
      r25 l1 l2 (l3 + 1) (l4 + 1) us
def f_X11_shows_L25 (N : Nat) (ul : Nat → Nat) (uw : Nat → Nat → Int32)  : Nat → Int32 → Int32 → Int32 → Int32 → Int64 → Option (Int32 × Int64)
  | 0 => fun _ _ _ _ _ => none
  | j + 1 => f_X11_shows_L25_F N ul uw (f_X11_shows_L25 N ul uw j)
set_option maxHeartbeats 4000000 in
set_option maxRecDepth 100000 in
theorem c_X11_shows_L25 {E : KE} {p : Program} {l : Launch} {e : Env} {s : State} {m : MethodId} {args : Array Value} {below : List Frame} {meth : Method} {c : Code} {N : Nat} {b : Nat} {ul : Nat → Nat} {uw : Nat → Nat → Int32} {ut : Nat → Option (Nat → Int32)} {uq : Nat → Option (Nat → Int32)} {um : Int32} {uo : Int32} {ui : Int32} {uh : Int32}  {hp0 : Hp} {out : Int32 × Int64}  (X : CX E p l s m args meth c "DiceAuditLaw$Hand" cX11_shows 7) (hr : meth.sig.returnType = (Option.some Jvm.ClassFile.FieldType.int))  : ∀ (j : Nat), ∀ {l1 : Int32} {l2 : Int32} {l3 : Int32} {l4 : Int32} {us : Int64} {ub : Nat} {hp : Hp}, HandP E hp b ub ul uw ut uq um uo us ui uh → (∀ q, q ≠ b → hp q = hp0 q) → f_X11_shows_L25 N ul uw j l1 l2 l3 l4 us = some out → AW E p l e ⟨0, 0, 0, 0⟩ s m args below meth c 7 (MQ below (kQc E (PHs E b ub hp0 (some (.int out.1)) ul uw ut uq um uo out.2 ui uh)) args s 0 0 (kA E)) hp none 0 0 25 [(0, .ref b), (1, .int l1), (2, .int l2), (3, .int l3), (4, .int l4)] [] := by
  intro j
  induction j with
  | zero =>
    intro l1 l2 l3 l4 us ub hp G hfr h
    have h : (none : Option (Int32 × Int64)) = some out := h
    cases h
  | succ j i25 =>
    intro l1 l2 l3 l4 us ub hp G hfr h
    have h : f_X11_shows_L25_F N ul uw (f_X11_shows_L25 N ul uw j) l1 l2 l3 l4 us = some out := h
    unfold f_X11_shows_L25_F at h
    refine A_iload X dX11_shows_25 4 rfl ?_
    refine A_aload_n X dX11_shows_27 0 rfl ?_
    refine A_get X dX11_shows_28 kcl_X11 0 (by decide) kw_831 G.1 rfl ?_
    refine A_iload_n X dX11_shows_31 1 rfl ?_
    obtain ⟨hw1, h⟩ := gd_o h
    refine A_wrow X dX11_shows_32 G hw1 ?_
    refine A_alen (t := 0) (v := (nI (ul (Int32.toNatClampNeg l1)))) X dX11_shows_33 (G.2.2.1 _ (inb3 hw1)) rfl rfl ?_
    refine A_icmp_ge (tgt := 63) X dX11_shows_34 h (by decide) (fun hc h => ?_) (fun hc h => ?_)
    · refine A_aload_n X dX11_shows_63 0 rfl ?_
      refine A_get X dX11_shows_64 kcl_X11 5 (by decide) kw_836 G.1 rfl ?_
      refine A_iload_n X dX11_shows_67 3 rfl ?_
      refine A_i2l X dX11_shows_68 ?_
      obtain ⟨hq, h⟩ := gd_o h
      refine A_lrem X dX11_shows_69 (nzl_o hq) ?_
      refine A_l2i X dX11_shows_70 ?_
      refine A_istore (L' := [(4, .int (us - us / l3.toInt64 * l3.toInt64).toInt32), (0, .ref b), (1, .int l1), (2, .int l2), (3, .int l3)]) X dX11_shows_71 (by decide) rfl ?_
      refine A_iconst (v := 0) X dX11_shows_73 (by decide) ?_
      refine A_istore (L' := [(5, .int 0), (4, .int (us - us / l3.toInt64 * l3.toInt64).toInt32), (0, .ref b), (1, .int l1), (2, .int l2), (3, .int l3)]) X dX11_shows_74 (by decide) rfl ?_
      refine A_iconst (v := 0) X dX11_shows_76 (by decide) ?_
      refine A_istore (L' := [(6, .int 0), (5, .int 0), (4, .int (us - us / l3.toInt64 * l3.toInt64).toInt32), (0, .ref b), (1, .int l1), (2, .int l2), (3, .int l3)]) X dX11_shows_77 (by decide) rfl ?_
      refine A_sub (L' := [(0, .ref b), (1, .int l1), (2, .int l2), (4, .int (us - us / l3.toInt64 * l3.toInt64).toInt32), (5, .int 0), (6, .int 0)]) [3, 4, 5, 2, 1, 0] rfl ?_
      exact c_X11_shows_L79 X hr  N G hfr h
    · refine A_iload_n X dX11_shows_37 3 rfl ?_
      refine A_iload_n X dX11_shows_38 2 rfl ?_
      refine A_if_eq (tgt := 46) X dX11_shows_39 h (by decide) (fun hc h => ?_) (fun hc h => ?_)
      · refine A_aload_n X dX11_shows_46 0 rfl ?_
        refine A_get X dX11_shows_47 kcl_X11 0 (by decide) kw_831 G.1 rfl ?_
        refine A_iload_n X dX11_shows_50 1 rfl ?_
        obtain ⟨hw2, h⟩ := gd_o h
        refine A_wrow X dX11_shows_51 G hw2 ?_
        refine A_iload X dX11_shows_52 4 rfl ?_
        obtain ⟨hq, h⟩ := gd_o h
        refine A_iald X dX11_shows_54 (G.2.2.1 _ (inb3 hw2)) hq ?_
        refine A_iadd X dX11_shows_55 ?_
        refine A_istore_n (L' := [(3, .int (l3 + (uw (Int32.toNatClampNeg l1) (Int32.toNatClampNeg l4)))), (0, .ref b), (1, .int l1), (2, .int l2), (4, .int l4)]) X dX11_shows_56 rfl (by decide) rfl ?_
        refine A_iinc (j := 4) (v := (l4 + 1)) (L' := [(4, .int (l4 + 1)), (3, .int (l3 + (uw (Int32.toNatClampNeg l1) (Int32.toNatClampNeg l4)))), (0, .ref b), (1, .int l1), (2, .int l2)]) X dX11_shows_57 rfl rfl (by decide) rfl ?_
        refine A_goto (tgt := 25) X dX11_shows_60 (by decide) ?_
        refine A_sub (L' := [(0, .ref b), (1, .int l1), (2, .int l2), (3, .int (l3 + (uw (Int32.toNatClampNeg l1) (Int32.toNatClampNeg l4)))), (4, .int (l4 + 1))]) [2, 3, 4, 1, 0] rfl ?_
        exact i25 G hfr h
      · refine A_iconst (v := 1) X dX11_shows_42 (by decide) ?_
        refine A_goto (tgt := 55) X dX11_shows_43 (by decide) ?_
        refine A_iadd X dX11_shows_55 ?_
        refine A_istore_n (L' := [(3, .int (l3 + 1)), (0, .ref b), (1, .int l1), (2, .int l2), (4, .int l4)]) X dX11_shows_56 rfl (by decide) rfl ?_
        refine A_iinc (j := 4) (v := (l4 + 1)) (L' := [(4, .int (l4 + 1)), (3, .int (l3 + 1)), (0, .ref b), (1, .int l1), (2, .int l2)]) X dX11_shows_57 rfl rfl (by decide) rfl ?_
        refine A_goto (tgt := 25) X dX11_shows_60 (by decide) ?_
        refine A_sub (L' := [(0, .ref b), (1, .int l1), (2, .int l2), (3, .int (l3 + 1)), (4, .int (l4 + 1))]) [2, 3, 4, 1, 0] rfl ?_
        exact i25 G hfr h
def f_X11_shows (N : Nat) (ul : Nat → Nat) (uw : Nat → Nat → Int32) (us : Int64) (a0 : Int32) (a1 : Int32) : Option (Int32 × Int64) :=
  f_X11_shows_L25 N ul uw N a0 a1 0 0 ((((75 : Int64) * us) + (74 : Int64)) - (((75 : Int64) * us) + (74 : Int64)) / (65537 : Int64) * (65537 : Int64))
set_option maxHeartbeats 4000000 in
set_option maxRecDepth 100000 in
theorem c_X11_shows {E : KE} {l : Launch} {hp : Hp} {N : Nat} {b ub : Nat} {ul : Nat → Nat} {uw : Nat → Nat → Int32} {ut : Nat → Option (Nat → Int32)} {uq : Nat → Option (Nat → Int32)} {um : Int32} {uo : Int32} {us : Int64} {ui : Int32} {uh : Int32}  {a0 : Int32} {a1 : Int32} {out : Int32 × Int64} (G : HandP E hp b ub ul uw ut uq um uo us ui uh) (h : f_X11_shows N ul uw us a0 a1 = some out) : AM E l yX11_shows cX11_shows 7 (Option.some Jvm.ClassFile.FieldType.int) ⟨0, 0, 0, 0⟩ [.ref b, .int a0, .int a1] hp none (PHs E b ub hp (some (.int out.1)) ul uw ut uq um uo out.2 ui uh) := by
  refine A_of (by decide +kernel) (Nat.le_of_ble_eq_true rfl) ?_
  intro p e s m args below meth c X hr hnm
  have X : CX E p l s m args meth c "DiceAuditLaw$Hand" cX11_shows 7 := X
  refine A_L (L' := [(0, .ref b), (1, .int a0), (2, .int a1)]) rfl ?_
  unfold f_X11_shows at h
  have hfr : ∀ q, q ≠ b → hp q = hp q := fun q hq => rfl
  refine A_aload_n X dX11_shows_0 0 rfl ?_
  refine A_ldc2 X dX11_shows_1 kw_868 ?_
  refine A_aload_n X dX11_shows_4 0 rfl ?_
  refine A_get X dX11_shows_5 kcl_X11 5 (by decide) kw_836 G.1 rfl ?_
  refine A_lmul X dX11_shows_8 ?_
  refine A_ldc2 X dX11_shows_9 kw_869 ?_
  refine A_ladd X dX11_shows_12 ?_
  refine A_ldc2 X dX11_shows_13 kw_870 ?_
  refine A_lrem X dX11_shows_16 (by decide) ?_
  refine A_put X dX11_shows_17 kcl_X11 5 (by decide) kw_836 G.1 rfl rfl rfl (by simp) (fun hp1 k1 n1 => ?_)
  have G : HandP E hp1 b ub ul uw ut uq um uo ((((75 : Int64) * us) + (74 : Int64)) - (((75 : Int64) * us) + (74 : Int64)) / (65537 : Int64) * (65537 : Int64)) ui uh := G.obj k1 n1
  have hfr : ∀ q, q ≠ b → hp1 q = hp q := fun q hq => (n1 q hq).trans (hfr q hq)
  refine A_iconst (v := 0) X dX11_shows_20 (by decide) ?_
  refine A_istore_n (L' := [(3, .int 0), (0, .ref b), (1, .int a0), (2, .int a1)]) X dX11_shows_21 rfl (by decide) rfl ?_
  refine A_iconst (v := 0) X dX11_shows_22 (by decide) ?_
  refine A_istore (L' := [(4, .int 0), (3, .int 0), (0, .ref b), (1, .int a0), (2, .int a1)]) X dX11_shows_23 (by decide) rfl ?_
  refine A_sub (L' := [(0, .ref b), (1, .int a0), (2, .int a1), (3, .int 0), (4, .int 0)]) [2, 3, 4, 1, 0] rfl ?_
  exact c_X11_shows_L25 X hr  N G hfr h
def f_X11_throwsDie_L6_F (N : Nat) (ul : Nat → Nat) (uw : Nat → Nat → Int32)  (r6 : Int32 → Int32 → Int32 → Int32 → Int32 → Int32 → (Nat → Option (Nat → Int32)) → Int32 → Int64 → Option (Int32 × (Nat → Option (Nat → Int32)) × Int32 × Int64)) (l1 : Int32) (l2 : Int32) (l3 : Int32) (l4 : Int32) (l5 : Int32) (l6 : Int32) (ut : Nat → Option (Nat → Int32)) (um : Int32) (us : Int64) : Option (Int32 × (Nat → Option (Nat → Int32)) × Int32 × Int64) :=
  gd (inb um 400) <|
  if l3 ≤ l6 then
    some (l5, ut, um, us)
  else
    (f_X11_shows N ul uw us l2 l4).bind fun t1 =>
    if l4 = 0 then
      gd (inb um 400) <|
      gd (inb um 400) <|
      ((upo ut (Int32.toNatClampNeg um) (upd (upd (upd (upd (fun _ => 0) (Int32.toNatClampNeg 0) l1) (Int32.toNatClampNeg 1) l2) (Int32.toNatClampNeg 2) t1.1) (Int32.toNatClampNeg 3) 0)) (Int32.toNatClampNeg um)).bind fun c2 =>
      r6 l1 l2 l3 l4 (l5 + (c2 (Int32.toNatClampNeg 2))) (l6 + 1) (upo ut (Int32.toNatClampNeg um) (upd (upd (upd (upd (fun _ => 0) (Int32.toNatClampNeg 0) l1) (Int32.toNatClampNeg 1) l2) (Int32.toNatClampNeg 2) t1.1) (Int32.toNatClampNeg 3) 0)) (um + 1) t1.2
    else
      gd (inb um 400) <|
      gd (inb um 400) <|
      ((upo ut (Int32.toNatClampNeg um) (upd (upd (upd (upd (fun _ => 0) (Int32.toNatClampNeg 0) l1) (Int32.toNatClampNeg 1) l2) (Int32.toNatClampNeg 2) t1.1) (Int32.toNatClampNeg 3) 1)) (Int32.toNatClampNeg um)).bind fun c3 =>
      r6 l1 l2 l3 l4 (l5 + (c3 (Int32.toNatClampNeg 2))) (l6 + 1) (upo ut (Int32.toNatClampNeg um) (upd (upd (upd (upd (fun _ => 0) (Int32.toNatClampNeg 0) l1) (Int32.toNatClampNeg 1) l2) (Int32.toNatClampNeg 2) t1.1) (Int32.toNatClampNeg 3) 1)) (um + 1) t1.2
def f_X11_throwsDie_L6 (N : Nat) (ul : Nat → Nat) (uw : Nat → Nat → Int32)  : Nat → Int32 → Int32 → Int32 → Int32 → Int32 → Int32 → (Nat → Option (Nat → Int32)) → Int32 → Int64 → Option (Int32 × (Nat → Option (Nat → Int32)) × Int32 × Int64)
  | 0 => fun _ _ _ _ _ _ _ _ _ => none
  | j + 1 => f_X11_throwsDie_L6_F N ul uw (f_X11_throwsDie_L6 N ul uw j)
set_option maxHeartbeats 4000000 in
set_option maxRecDepth 100000 in
theorem c_X11_throwsDie_L6 {E : KE} {p : Program} {l : Launch} {e : Env} {s : State} {m : MethodId} {args : Array Value} {below : List Frame} {meth : Method} {c : Code} {N : Nat} {b : Nat} {ul : Nat → Nat} {uw : Nat → Nat → Int32} {uq : Nat → Option (Nat → Int32)} {uo : Int32} {ui : Int32} {uh : Int32}  {hp0 : Hp} {out : Int32 × (Nat → Option (Nat → Int32)) × Int32 × Int64}  (X : CX E p l s m args meth c "DiceAuditLaw$Hand" cX11_throwsDie 7) (hr : meth.sig.returnType = (Option.some Jvm.ClassFile.FieldType.int))  : ∀ (j : Nat), ∀ {l1 : Int32} {l2 : Int32} {l3 : Int32} {l4 : Int32} {l5 : Int32} {l6 : Int32} {ut : Nat → Option (Nat → Int32)} {um : Int32} {us : Int64} {ub : Nat} {hp : Hp}, HandP E hp b ub ul uw ut uq um uo us ui uh → (∀ q, q < b → hp q = hp0 q) → f_X11_throwsDie_L6 N ul uw j l1 l2 l3 l4 l5 l6 ut um us = some out → AW E p l e ⟨1, 400, 1600, 26⟩ s m args below meth c 7 (MQ below (kQc E (PHt E b hp0 (some (.int out.1)) ul uw out.2.1 uq out.2.2.1 uo out.2.2.2 ui uh)) args s 400 1600 (kA E)) hp none (Int32.toNatClampNeg um) (4 * (Int32.toNatClampNeg um)) 6 [(0, .ref b), (1, .int l1), (2, .int l2), (3, .int l3), (4, .int l4), (5, .int l5), (6, .int l6)] [] := by
  intro j
  induction j with
  | zero =>
    intro l1 l2 l3 l4 l5 l6 ut um us ub hp G hfr h
    have h : (none : Option (Int32 × (Nat → Option (Nat → Int32)) × Int32 × Int64)) = some out := h
    cases h
  | succ j i6 =>
    intro l1 l2 l3 l4 l5 l6 ut um us ub hp G hfr h
    have h : f_X11_throwsDie_L6_F N ul uw (f_X11_throwsDie_L6 N ul uw j) l1 l2 l3 l4 l5 l6 ut um us = some out := h
    unfold f_X11_throwsDie_L6_F at h
    obtain ⟨hgb, h⟩ := gd_o h
    have hgn := inb3 hgb
    refine A_iload X dX11_throwsDie_6 6 rfl ?_
    refine A_iload_n X dX11_throwsDie_8 3 rfl ?_
    refine A_icmp_ge (tgt := 87) X dX11_throwsDie_9 h (by decide) (fun hc h => ?_) (fun hc h => ?_)
    · refine A_iload X dX11_throwsDie_87 5 rfl ?_
      cases h
      exact A_iret X dX11_throwsDie_89 hr ⟨rfl, ⟨_, G⟩, hfr⟩ (by omega) (by omega)
    · refine A_aload_n X dX11_throwsDie_12 0 rfl ?_
      refine A_get X dX11_throwsDie_13 kcl_X11 1 (by decide) kw_832 G.1 rfl ?_
      refine A_aload_n X dX11_throwsDie_16 0 rfl ?_
      refine A_get X dX11_throwsDie_17 kcl_X11 3 (by decide) kw_834 G.1 rfl ?_
      refine A_iconst (v := 4) X dX11_throwsDie_20 (by decide) ?_
      refine A_newr (N := 4) X dX11_throwsDie_21 kw_54 (by decide) (by decide) (by decide) (by dsimp only; omega) (by dsimp only; omega) (fun z1 hp1 f1 kz n1 => ?_)
      have G : HandP E hp1 b z1 ul uw ut uq um uo us ui uh := G.new f1 n1
      have hz : b + 7 ≤ z1 := G.2.2.2.2.2
      have kz : hp1 z1 = some (rowc E 4 (fun _ => 0)) := kz
      have hfr : ∀ q, q < b → hp1 q = hp0 q := fun q hq => (n1 q (by omega)).trans (hfr q hq)
      refine A_dup X dX11_throwsDie_23 rfl ?_
      refine A_iconst (v := 0) X dX11_throwsDie_24 (by decide) ?_
      refine A_iload_n X dX11_throwsDie_25 1 rfl ?_
      refine A_iast X dX11_throwsDie_26 kz (by decide) (fun hp2 kz n2 => ?_)
      have kz : hp2 z1 = some (rowc E 4 (upd (fun _ => 0) (Int32.toNatClampNeg 0) l1)) := kz
      have G : HandP E hp2 b z1 ul uw ut uq um uo us ui uh := G.oth (Nat.le_refl _) n2
      have hfr : ∀ q, q < b → hp2 q = hp0 q := fun q hq => (n2 q (by omega)).trans (hfr q hq)
      refine A_dup X dX11_throwsDie_27 rfl ?_
      refine A_iconst (v := 1) X dX11_throwsDie_28 (by decide) ?_
      refine A_iload_n X dX11_throwsDie_29 2 rfl ?_
      refine A_iast X dX11_throwsDie_30 kz (by decide) (fun hp3 kz n3 => ?_)
      have kz : hp3 z1 = some (rowc E 4 (upd (upd (fun _ => 0) (Int32.toNatClampNeg 0) l1) (Int32.toNatClampNeg 1) l2)) := kz
      have G : HandP E hp3 b z1 ul uw ut uq um uo us ui uh := G.oth (Nat.le_refl _) n3
      have hfr : ∀ q, q < b → hp3 q = hp0 q := fun q hq => (n3 q (by omega)).trans (hfr q hq)
      refine A_dup X dX11_throwsDie_31 rfl ?_
      refine A_iconst (v := 2) X dX11_throwsDie_32 (by decide) ?_
      refine A_aload_n X dX11_throwsDie_33 0 rfl ?_
      refine A_iload_n X dX11_throwsDie_34 2 rfl ?_
      refine A_iload X dX11_throwsDie_35 4 rfl ?_
      obtain ⟨t1, hct1, h⟩ := bind_o h
      refine A_c (k' := ((Int32.toNatClampNeg um) + 1)) (n' := (4 * (Int32.toNatClampNeg um) + 4)) rfl rfl (A_runV (rest := [.int 2, .ref z1, .ref z1, .int um, .ref (b + 2)]) X dX11_throwsDie_37 (c_X11_shows G  hct1) kY_X11_shows kw_864 G.1 rfl rfl ⟨(Nat.le_of_ble_eq_true rfl), (Nat.le_of_ble_eq_true rfl), (by dsimp only; omega), (by dsimp only; omega)⟩ rfl (Nat.le_of_ble_eq_true rfl)) (fun v9 hp4 al9 hP => ?_)
      obtain ⟨rfl, G, n4⟩ := hP
      refine A_al ?_
      have hfr : ∀ q, q < b → hp4 q = hp0 q := fun q hq => (n4 q (by omega)).trans (hfr q hq)
      have kz : hp4 z1 = some (rowc E 4 (upd (upd (fun _ => 0) (Int32.toNatClampNeg 0) l1) (Int32.toNatClampNeg 1) l2)) := (n4 z1 (by omega)).trans kz
      have G : HandP E hp4 b z1 ul uw ut uq um uo t1.2 ui uh := G
      refine A_st (st' := [.int t1.1, .int 2, .ref z1, .ref z1, .int um, .ref (b + 2)]) rfl ?_
      refine A_iast X dX11_throwsDie_40 kz (by decide) (fun hp5 kz n5 => ?_)
      have kz : hp5 z1 = some (rowc E 4 (upd (upd (upd (fun _ => 0) (Int32.toNatClampNeg 0) l1) (Int32.toNatClampNeg 1) l2) (Int32.toNatClampNeg 2) t1.1)) := kz
      have G : HandP E hp5 b z1 ul uw ut uq um uo t1.2 ui uh := G.oth (Nat.le_refl _) n5
      have hfr : ∀ q, q < b → hp5 q = hp0 q := fun q hq => (n5 q (by omega)).trans (hfr q hq)
      refine A_dup X dX11_throwsDie_41 rfl ?_
      refine A_iconst (v := 3) X dX11_throwsDie_42 (by decide) ?_
      refine A_iload X dX11_throwsDie_43 4 rfl ?_
      refine A_if_eq (tgt := 52) X dX11_throwsDie_45 h (by decide) (fun hc h => ?_) (fun hc h => ?_)
      · refine A_iconst (v := 0) X dX11_throwsDie_52 (by decide) ?_
        refine A_iast X dX11_throwsDie_53 kz (by decide) (fun hp6 kz n6 => ?_)
        have kz : hp6 z1 = some (rowc E 4 (upd (upd (upd (upd (fun _ => 0) (Int32.toNatClampNeg 0) l1) (Int32.toNatClampNeg 1) l2) (Int32.toNatClampNeg 2) t1.1) (Int32.toNatClampNeg 3) 0)) := kz
        have G : HandP E hp6 b z1 ul uw ut uq um uo t1.2 ui uh := G.oth (Nat.le_refl _) n6
        have hfr : ∀ q, q < b → hp6 q = hp0 q := fun q hq => (n6 q (by omega)).trans (hfr q hq)
        obtain ⟨hq, h⟩ := gd_o h
        have G : HandP E hp6 b (z1 + 1) ul uw ut uq um uo t1.2 ui uh := G.up (by omega)
        refine A_tput X dX11_throwsDie_54 kw_708 G hq kz hz (by omega) (fun hp7 G n7 => ?_)
        have hfr : ∀ q, q < b → hp7 q = hp0 q := fun q hq => (n7 q (by omega)).trans (hfr q hq)
        refine A_iload X dX11_throwsDie_55 5 rfl ?_
        refine A_aload_n X dX11_throwsDie_57 0 rfl ?_
        refine A_get X dX11_throwsDie_58 kcl_X11 1 (by decide) kw_832 G.1 rfl ?_
        refine A_aload_n X dX11_throwsDie_61 0 rfl ?_
        refine A_get X dX11_throwsDie_62 kcl_X11 3 (by decide) kw_834 G.1 rfl ?_
        obtain ⟨hq, h⟩ := gd_o h
        obtain ⟨c2, hc2, h⟩ := bind_o h
        refine A_row X dX11_throwsDie_65 G.2.2.2.1 hq hc2 (fun q2 hb2 k2 => ?_)
        refine A_iconst (v := 2) X dX11_throwsDie_66 (by decide) ?_
        refine A_iald X dX11_throwsDie_67 k2 (by decide) ?_
        refine A_iadd X dX11_throwsDie_68 ?_
        refine A_istore (L' := [(5, .int (l5 + (c2 (Int32.toNatClampNeg 2)))), (0, .ref b), (1, .int l1), (2, .int l2), (3, .int l3), (4, .int l4), (6, .int l6)]) X dX11_throwsDie_69 (by decide) rfl ?_
        refine A_aload_n X dX11_throwsDie_71 1 rfl ?_
        refine A_dup X dX11_throwsDie_72 rfl ?_
        refine A_get X dX11_throwsDie_73 kcl_X11 3 (by decide) kw_834 G.1 rfl ?_
        refine A_iconst (v := 1) X dX11_throwsDie_76 (by decide) ?_
        refine A_iadd X dX11_throwsDie_77 ?_
        refine A_put X dX11_throwsDie_78 kcl_X11 3 (by decide) kw_834 G.1 rfl rfl rfl (by simp) (fun hp8 k8 n8 => ?_)
        have G : HandP E hp8 b (z1 + 1) ul uw (upo ut (Int32.toNatClampNeg um) (upd (upd (upd (upd (fun _ => 0) (Int32.toNatClampNeg 0) l1) (Int32.toNatClampNeg 1) l2) (Int32.toNatClampNeg 2) t1.1) (Int32.toNatClampNeg 3) 0)) uq (um + 1) uo t1.2 ui uh := G.obj k8 n8
        have hfr : ∀ q, q < b → hp8 q = hp0 q := fun q hq => (n8 q (by omega)).trans (hfr q hq)
        refine A_iinc (j := 6) (v := (l6 + 1)) (L' := [(6, .int (l6 + 1)), (5, .int (l5 + (c2 (Int32.toNatClampNeg 2)))), (0, .ref b), (1, .int l1), (2, .int l2), (3, .int l3), (4, .int l4)]) X dX11_throwsDie_81 rfl rfl (by decide) rfl ?_
        refine A_goto (tgt := 6) X dX11_throwsDie_84 (by decide) ?_
        refine A_sub (L' := [(0, .ref b), (1, .int l1), (2, .int l2), (3, .int l3), (4, .int l4), (5, .int (l5 + (c2 (Int32.toNatClampNeg 2)))), (6, .int (l6 + 1))]) [2, 3, 4, 5, 6, 1, 0] rfl ?_
        refine A_widen (k' := (Int32.toNatClampNeg (um + 1))) (n' := 4 * (Int32.toNatClampNeg (um + 1))) (by rw [tn_s hgb (Nat.le_of_ble_eq_true rfl)]; omega) (by rw [tn_s hgb (Nat.le_of_ble_eq_true rfl)]; omega) ?_
        exact i6 G hfr h
      · refine A_iconst (v := 1) X dX11_throwsDie_48 (by decide) ?_
        refine A_goto (tgt := 53) X dX11_throwsDie_49 (by decide) ?_
        refine A_iast X dX11_throwsDie_53 kz (by decide) (fun hp9 kz n9 => ?_)
        have kz : hp9 z1 = some (rowc E 4 (upd (upd (upd (upd (fun _ => 0) (Int32.toNatClampNeg 0) l1) (Int32.toNatClampNeg 1) l2) (Int32.toNatClampNeg 2) t1.1) (Int32.toNatClampNeg 3) 1)) := kz
        have G : HandP E hp9 b z1 ul uw ut uq um uo t1.2 ui uh := G.oth (Nat.le_refl _) n9
        have hfr : ∀ q, q < b → hp9 q = hp0 q := fun q hq => (n9 q (by omega)).trans (hfr q hq)
        obtain ⟨hq, h⟩ := gd_o h
        have G : HandP E hp9 b (z1 + 1) ul uw ut uq um uo t1.2 ui uh := G.up (by omega)
        refine A_tput X dX11_throwsDie_54 kw_708 G hq kz hz (by omega) (fun hp10 G n10 => ?_)
        have hfr : ∀ q, q < b → hp10 q = hp0 q := fun q hq => (n10 q (by omega)).trans (hfr q hq)
        refine A_iload X dX11_throwsDie_55 5 rfl ?_
        refine A_aload_n X dX11_throwsDie_57 0 rfl ?_
        refine A_get X dX11_throwsDie_58 kcl_X11 1 (by decide) kw_832 G.1 rfl ?_
        refine A_aload_n X dX11_throwsDie_61 0 rfl ?_
        refine A_get X dX11_throwsDie_62 kcl_X11 3 (by decide) kw_834 G.1 rfl ?_
        obtain ⟨hq, h⟩ := gd_o h
        obtain ⟨c3, hc3, h⟩ := bind_o h
        refine A_row X dX11_throwsDie_65 G.2.2.2.1 hq hc3 (fun q3 hb3 k3 => ?_)
        refine A_iconst (v := 2) X dX11_throwsDie_66 (by decide) ?_
        refine A_iald X dX11_throwsDie_67 k3 (by decide) ?_
        refine A_iadd X dX11_throwsDie_68 ?_
        refine A_istore (L' := [(5, .int (l5 + (c3 (Int32.toNatClampNeg 2)))), (0, .ref b), (1, .int l1), (2, .int l2), (3, .int l3), (4, .int l4), (6, .int l6)]) X dX11_throwsDie_69 (by decide) rfl ?_
        refine A_aload_n X dX11_throwsDie_71 1 rfl ?_
        refine A_dup X dX11_throwsDie_72 rfl ?_
        refine A_get X dX11_throwsDie_73 kcl_X11 3 (by decide) kw_834 G.1 rfl ?_
        refine A_iconst (v := 1) X dX11_throwsDie_76 (by decide) ?_
        refine A_iadd X dX11_throwsDie_77 ?_
        refine A_put X dX11_throwsDie_78 kcl_X11 3 (by decide) kw_834 G.1 rfl rfl rfl (by simp) (fun hp11 k11 n11 => ?_)
        have G : HandP E hp11 b (z1 + 1) ul uw (upo ut (Int32.toNatClampNeg um) (upd (upd (upd (upd (fun _ => 0) (Int32.toNatClampNeg 0) l1) (Int32.toNatClampNeg 1) l2) (Int32.toNatClampNeg 2) t1.1) (Int32.toNatClampNeg 3) 1)) uq (um + 1) uo t1.2 ui uh := G.obj k11 n11
        have hfr : ∀ q, q < b → hp11 q = hp0 q := fun q hq => (n11 q (by omega)).trans (hfr q hq)
        refine A_iinc (j := 6) (v := (l6 + 1)) (L' := [(6, .int (l6 + 1)), (5, .int (l5 + (c3 (Int32.toNatClampNeg 2)))), (0, .ref b), (1, .int l1), (2, .int l2), (3, .int l3), (4, .int l4)]) X dX11_throwsDie_81 rfl rfl (by decide) rfl ?_
        refine A_goto (tgt := 6) X dX11_throwsDie_84 (by decide) ?_
        refine A_sub (L' := [(0, .ref b), (1, .int l1), (2, .int l2), (3, .int l3), (4, .int l4), (5, .int (l5 + (c3 (Int32.toNatClampNeg 2)))), (6, .int (l6 + 1))]) [2, 3, 4, 5, 6, 1, 0] rfl ?_
        refine A_widen (k' := (Int32.toNatClampNeg (um + 1))) (n' := 4 * (Int32.toNatClampNeg (um + 1))) (by rw [tn_s hgb (Nat.le_of_ble_eq_true rfl)]; omega) (by rw [tn_s hgb (Nat.le_of_ble_eq_true rfl)]; omega) ?_
        exact i6 G hfr h
def f_X11_throwsDie (N : Nat) (ul : Nat → Nat) (uw : Nat → Nat → Int32) (ut : Nat → Option (Nat → Int32)) (um : Int32) (us : Int64) (a0 : Int32) (a1 : Int32) (a2 : Int32) (a3 : Int32) : Option (Int32 × (Nat → Option (Nat → Int32)) × Int32 × Int64) :=
  f_X11_throwsDie_L6 N ul uw N a0 a1 a2 a3 0 0 ut um us
set_option maxHeartbeats 4000000 in
set_option maxRecDepth 100000 in
theorem c_X11_throwsDie {E : KE} {l : Launch} {hp : Hp} {N : Nat} {b ub : Nat} {ul : Nat → Nat} {uw : Nat → Nat → Int32} {ut : Nat → Option (Nat → Int32)} {uq : Nat → Option (Nat → Int32)} {um : Int32} {uo : Int32} {us : Int64} {ui : Int32} {uh : Int32}  {a0 : Int32} {a1 : Int32} {a2 : Int32} {a3 : Int32} {out : Int32 × (Nat → Option (Nat → Int32)) × Int32 × Int64} (G : HandP E hp b ub ul uw ut uq um uo us ui uh) (h : f_X11_throwsDie N ul uw ut um us a0 a1 a2 a3 = some out) : AM E l yX11_throwsDie cX11_throwsDie 7 (Option.some Jvm.ClassFile.FieldType.int) ⟨1, 400, 1600, 26⟩ [.ref b, .int a0, .int a1, .int a2, .int a3] hp none (PHt E b hp (some (.int out.1)) ul uw out.2.1 uq out.2.2.1 uo out.2.2.2 ui uh) := by
  refine A_of (by decide +kernel) (Nat.le_of_ble_eq_true rfl) ?_
  intro p e s m args below meth c X hr hnm
  have X : CX E p l s m args meth c "DiceAuditLaw$Hand" cX11_throwsDie 7 := X
  refine A_L (L' := [(0, .ref b), (1, .int a0), (2, .int a1), (3, .int a2), (4, .int a3)]) rfl ?_
  unfold f_X11_throwsDie at h
  have hfr : ∀ q, q < b → hp q = hp q := fun q hq => rfl
  refine A_iconst (v := 0) X dX11_throwsDie_0 (by decide) ?_
  refine A_istore (L' := [(5, .int 0), (0, .ref b), (1, .int a0), (2, .int a1), (3, .int a2), (4, .int a3)]) X dX11_throwsDie_1 (by decide) rfl ?_
  refine A_iconst (v := 0) X dX11_throwsDie_3 (by decide) ?_
  refine A_istore (L' := [(6, .int 0), (5, .int 0), (0, .ref b), (1, .int a0), (2, .int a1), (3, .int a2), (4, .int a3)]) X dX11_throwsDie_4 (by decide) rfl ?_
  refine A_sub (L' := [(0, .ref b), (1, .int a0), (2, .int a1), (3, .int a2), (4, .int a3), (5, .int 0), (6, .int 0)]) [2, 3, 4, 5, 6, 1, 0] rfl ?_
  refine A_widen (k' := (Int32.toNatClampNeg um)) (n' := 4 * (Int32.toNatClampNeg um)) (Nat.zero_le _) (Nat.zero_le _) ?_
  exact c_X11_throwsDie_L6 X hr  N G hfr h
def f_X11_ofPair_L43 (N : Nat) (ut : Nat → Option (Nat → Int32)) (um : Int32) (r5 : Int32 → Int32 → Int32 → Int32 → Option (Int32)) (l1 : Int32) (l2 : Int32) (l3 : Int32) (l4 : Int32) : Option (Int32) :=
  r5 l1 l2 l3 (l4 + 1)
set_option maxHeartbeats 4000000 in
set_option maxRecDepth 100000 in
theorem c_X11_ofPair_L43 {E : KE} {p : Program} {l : Launch} {e : Env} {s : State} {m : MethodId} {args : Array Value} {below : List Frame} {meth : Method} {c : Code} {al : Option Nat} {N : Nat} {b : Nat} {ul : Nat → Nat} {uw : Nat → Nat → Int32} {ut : Nat → Option (Nat → Int32)} {uq : Nat → Option (Nat → Int32)} {um : Int32} {uo : Int32} {us : Int64} {ui : Int32} {uh : Int32}  {ub : Nat} {hp0 : Hp} {out : Int32} {r5 : Int32 → Int32 → Int32 → Int32 → Option (Int32)} (X : CX E p l s m args meth c "DiceAuditLaw$Hand" cX11_ofPair 5) (hr : meth.sig.returnType = (Option.some Jvm.ClassFile.FieldType.int)) (G : HandP E hp0 b ub ul uw ut uq um uo us ui uh)  (i5 : ∀ {l1 : Int32} {l2 : Int32} {l3 : Int32} {l4 : Int32}, r5 l1 l2 l3 l4 = some out → AW E p l e ⟨0, 0, 0, 0⟩ s m args below meth c 5 (MQ below (kQc E (kRet out hp0 al)) args s 0 0 (kA E)) hp0 al 0 0 5 [(0, .ref b), (1, .int l1), (2, .int l2), (3, .int l3), (4, .int l4)] []) : ∀ {l1 : Int32} {l2 : Int32} {l3 : Int32} {l4 : Int32}, f_X11_ofPair_L43 N ut um r5 l1 l2 l3 l4 = some out → AW E p l e ⟨0, 0, 0, 0⟩ s m args below meth c 5 (MQ below (kQc E (kRet out hp0 al)) args s 0 0 (kA E)) hp0 al 0 0 43 [(0, .ref b), (1, .int l1), (2, .int l2), (3, .int l3), (4, .int l4)] [] := by
  intro l1 l2 l3 l4 h
  unfold f_X11_ofPair_L43 at h
  refine A_iinc (j := 4) (v := (l4 + 1)) (L' := [(4, .int (l4 + 1)), (0, .ref b), (1, .int l1), (2, .int l2), (3, .int l3)]) X dX11_ofPair_43 rfl rfl (by decide) rfl ?_
  refine A_goto (tgt := 5) X dX11_ofPair_46 (by decide) ?_
  refine A_sub (L' := [(0, .ref b), (1, .int l1), (2, .int l2), (3, .int l3), (4, .int (l4 + 1))]) [1, 2, 3, 4, 0] rfl ?_
  exact i5 h
def f_X11_ofPair_L5_F (N : Nat) (ut : Nat → Option (Nat → Int32)) (um : Int32)  (r5 : Int32 → Int32 → Int32 → Int32 → Option (Int32)) (l1 : Int32) (l2 : Int32) (l3 : Int32) (l4 : Int32) : Option (Int32) :=
  if um ≤ l4 then
    some l3
  else
    gd (inb l4 400) <|
    (ut (Int32.toNatClampNeg l4)).bind fun c1 =>
    if (c1 (Int32.toNatClampNeg 0)) = l1 then
      gd (inb l4 400) <|
      (ut (Int32.toNatClampNeg l4)).bind fun c2 =>
      if (c2 (Int32.toNatClampNeg 1)) = l2 then
        f_X11_ofPair_L43 N ut um r5 l1 l2 (l3 + 1) l4
      else
        f_X11_ofPair_L43 N ut um r5 l1 l2 l3 l4
    else
      f_X11_ofPair_L43 N ut um r5 l1 l2 l3 l4
def f_X11_ofPair_L5 (N : Nat) (ut : Nat → Option (Nat → Int32)) (um : Int32)  : Nat → Int32 → Int32 → Int32 → Int32 → Option (Int32)
  | 0 => fun _ _ _ _ => none
  | j + 1 => f_X11_ofPair_L5_F N ut um (f_X11_ofPair_L5 N ut um j)
set_option maxHeartbeats 4000000 in
set_option maxRecDepth 100000 in
theorem c_X11_ofPair_L5 {E : KE} {p : Program} {l : Launch} {e : Env} {s : State} {m : MethodId} {args : Array Value} {below : List Frame} {meth : Method} {c : Code} {al : Option Nat} {N : Nat} {b : Nat} {ul : Nat → Nat} {uw : Nat → Nat → Int32} {ut : Nat → Option (Nat → Int32)} {uq : Nat → Option (Nat → Int32)} {um : Int32} {uo : Int32} {us : Int64} {ui : Int32} {uh : Int32}  {ub : Nat} {hp0 : Hp} {out : Int32}  (X : CX E p l s m args meth c "DiceAuditLaw$Hand" cX11_ofPair 5) (hr : meth.sig.returnType = (Option.some Jvm.ClassFile.FieldType.int)) (G : HandP E hp0 b ub ul uw ut uq um uo us ui uh)  : ∀ (j : Nat), ∀ {l1 : Int32} {l2 : Int32} {l3 : Int32} {l4 : Int32}, f_X11_ofPair_L5 N ut um j l1 l2 l3 l4 = some out → AW E p l e ⟨0, 0, 0, 0⟩ s m args below meth c 5 (MQ below (kQc E (kRet out hp0 al)) args s 0 0 (kA E)) hp0 al 0 0 5 [(0, .ref b), (1, .int l1), (2, .int l2), (3, .int l3), (4, .int l4)] [] := by
  intro j
  induction j with
  | zero =>
    intro l1 l2 l3 l4 h
    have h : (none : Option (Int32)) = some out := h
    cases h
  | succ j i5 =>
    intro l1 l2 l3 l4 h
    have h : f_X11_ofPair_L5_F N ut um (f_X11_ofPair_L5 N ut um j) l1 l2 l3 l4 = some out := h
    unfold f_X11_ofPair_L5_F at h
    refine A_iload X dX11_ofPair_5 4 rfl ?_
    refine A_aload_n X dX11_ofPair_7 0 rfl ?_
    refine A_get X dX11_ofPair_8 kcl_X11 3 (by decide) kw_834 G.1 rfl ?_
    refine A_icmp_ge (tgt := 49) X dX11_ofPair_11 h (by decide) (fun hc h => ?_) (fun hc h => ?_)
    · refine A_iload_n X dX11_ofPair_49 3 rfl ?_
      cases h
      exact A_iret X dX11_ofPair_50 hr ⟨rfl, rfl, rfl⟩ (Nat.le_of_ble_eq_true rfl) (Nat.le_of_ble_eq_true rfl)
    · refine A_aload_n X dX11_ofPair_14 0 rfl ?_
      refine A_get X dX11_ofPair_15 kcl_X11 1 (by decide) kw_832 G.1 rfl ?_
      refine A_iload X dX11_ofPair_18 4 rfl ?_
      obtain ⟨hq, h⟩ := gd_o h
      obtain ⟨c1, hc1, h⟩ := bind_o h
      refine A_row X dX11_ofPair_20 G.2.2.2.1 hq hc1 (fun q1 hb1 k1 => ?_)
      refine A_iconst (v := 0) X dX11_ofPair_21 (by decide) ?_
      refine A_iald X dX11_ofPair_22 k1 (by decide) ?_
      refine A_iload_n X dX11_ofPair_23 1 rfl ?_
      refine A_icmp_ne (tgt := 43) X dX11_ofPair_24 h (by decide) (fun hc h => ?_) (fun hc h => ?_)
      · refine A_sub (L' := [(0, .ref b), (1, .int l1), (2, .int l2), (3, .int l3), (4, .int l4)]) [0, 1, 2, 3, 4] rfl ?_
        exact c_X11_ofPair_L43 X hr G i5 h
      · refine A_aload_n X dX11_ofPair_27 0 rfl ?_
        refine A_get X dX11_ofPair_28 kcl_X11 1 (by decide) kw_832 G.1 rfl ?_
        refine A_iload X dX11_ofPair_31 4 rfl ?_
        obtain ⟨hq, h⟩ := gd_o h
        obtain ⟨c2, hc2, h⟩ := bind_o h
        refine A_row X dX11_ofPair_33 G.2.2.2.1 hq hc2 (fun q2 hb2 k2 => ?_)
        refine A_iconst (v := 1) X dX11_ofPair_34 (by decide) ?_
        refine A_iald X dX11_ofPair_35 k2 (by decide) ?_
        refine A_iload_n X dX11_ofPair_36 2 rfl ?_
        refine A_icmp_ne (tgt := 43) X dX11_ofPair_37 h (by decide) (fun hc h => ?_) (fun hc h => ?_)
        · refine A_sub (L' := [(0, .ref b), (1, .int l1), (2, .int l2), (3, .int l3), (4, .int l4)]) [0, 1, 2, 3, 4] rfl ?_
          exact c_X11_ofPair_L43 X hr G i5 h
        · refine A_iinc (j := 3) (v := (l3 + 1)) (L' := [(3, .int (l3 + 1)), (0, .ref b), (1, .int l1), (2, .int l2), (4, .int l4)]) X dX11_ofPair_40 rfl rfl (by decide) rfl ?_
          refine A_sub (L' := [(0, .ref b), (1, .int l1), (2, .int l2), (3, .int (l3 + 1)), (4, .int l4)]) [1, 2, 3, 0, 4] rfl ?_
          exact c_X11_ofPair_L43 X hr G i5 h
def f_X11_ofPair (N : Nat) (ut : Nat → Option (Nat → Int32)) (um : Int32) (a0 : Int32) (a1 : Int32) : Option (Int32) :=
  f_X11_ofPair_L5 N ut um N a0 a1 0 0
set_option maxHeartbeats 4000000 in
set_option maxRecDepth 100000 in
theorem c_X11_ofPair {E : KE} {l : Launch} {hp : Hp} {al : Option Nat} {N : Nat} {b ub : Nat} {ul : Nat → Nat} {uw : Nat → Nat → Int32} {ut : Nat → Option (Nat → Int32)} {uq : Nat → Option (Nat → Int32)} {um : Int32} {uo : Int32} {us : Int64} {ui : Int32} {uh : Int32}  {a0 : Int32} {a1 : Int32} {out : Int32} (G : HandP E hp b ub ul uw ut uq um uo us ui uh) (h : f_X11_ofPair N ut um a0 a1 = some out) : AM E l yX11_ofPair cX11_ofPair 5 (Option.some Jvm.ClassFile.FieldType.int) ⟨0, 0, 0, 0⟩ [.ref b, .int a0, .int a1] hp al (kRet out hp al) := by
  refine A_of (by decide +kernel) (Nat.le_of_ble_eq_true rfl) ?_
  intro p e s m args below meth c X hr hnm
  have X : CX E p l s m args meth c "DiceAuditLaw$Hand" cX11_ofPair 5 := X
  refine A_L (L' := [(0, .ref b), (1, .int a0), (2, .int a1)]) rfl ?_
  unfold f_X11_ofPair at h
  refine A_iconst (v := 0) X dX11_ofPair_0 (by decide) ?_
  refine A_istore_n (L' := [(3, .int 0), (0, .ref b), (1, .int a0), (2, .int a1)]) X dX11_ofPair_1 rfl (by decide) rfl ?_
  refine A_iconst (v := 0) X dX11_ofPair_2 (by decide) ?_
  refine A_istore (L' := [(4, .int 0), (3, .int 0), (0, .ref b), (1, .int a0), (2, .int a1)]) X dX11_ofPair_3 (by decide) rfl ?_
  refine A_sub (L' := [(0, .ref b), (1, .int a0), (2, .int a1), (3, .int 0), (4, .int 0)]) [2, 3, 4, 1, 0] rfl ?_
  exact c_X11_ofPair_L5 X hr G N h
def f_X11_score_L94 (N : Nat) (ul : Nat → Nat) (ut : Nat → Option (Nat → Int32)) (um : Int32) (r22 : Int32 → Int32 → Int32 → Int32 → Int64 → Int32 → Option (Int32)) (r37 : Int32 → Int32 → Int32 → Int32 → Int64 → Int32 → Int64 → Int32 → Option (Int32)) (l1 : Int32) (l2 : Int32) (l3 : Int32) (l4 : Int32) (l5 : Int64) (l7 : Int32) (l8 : Int64) (l10 : Int32) : Option (Int32) :=
  r37 l1 l2 l3 l4 l5 l7 l8 (l10 + 1)
set_option maxHeartbeats 4000000 in
set_option maxRecDepth 100000 in
theorem c_X11_score_L94 {E : KE} {p : Program} {l : Launch} {e : Env} {s : State} {m : MethodId} {args : Array Value} {below : List Frame} {meth : Method} {c : Code} {al : Option Nat} {N : Nat} {b : Nat} {ul : Nat → Nat} {uw : Nat → Nat → Int32} {ut : Nat → Option (Nat → Int32)} {uq : Nat → Option (Nat → Int32)} {um : Int32} {uo : Int32} {us : Int64} {ui : Int32} {uh : Int32}  {ub : Nat} {hp0 : Hp} {out : Int32} {r22 : Int32 → Int32 → Int32 → Int32 → Int64 → Int32 → Option (Int32)} {r37 : Int32 → Int32 → Int32 → Int32 → Int64 → Int32 → Int64 → Int32 → Option (Int32)} (X : CX E p l s m args meth c "DiceAuditLaw$Hand" cX11_score 11) (hr : meth.sig.returnType = (Option.some Jvm.ClassFile.FieldType.int)) (G : HandP E hp0 b ub ul uw ut uq um uo us ui uh)  (i22 : ∀ {l1 : Int32} {l2 : Int32} {l3 : Int32} {l4 : Int32} {l5 : Int64} {l7 : Int32}, r22 l1 l2 l3 l4 l5 l7 = some out → AW E p l e ⟨1, 0, 0, 24⟩ s m args below meth c 11 (MQ below (kQc E (kRet out hp0 al)) args s 0 0 (kA E)) hp0 al 0 0 22 [(0, .ref b), (1, .int l1), (2, .int l2), (3, .int l3), (4, .int l4), (5, .long l5), (7, .int l7)] []) (i37 : ∀ {l1 : Int32} {l2 : Int32} {l3 : Int32} {l4 : Int32} {l5 : Int64} {l7 : Int32} {l8 : Int64} {l10 : Int32}, r37 l1 l2 l3 l4 l5 l7 l8 l10 = some out → AW E p l e ⟨1, 0, 0, 24⟩ s m args below meth c 11 (MQ below (kQc E (kRet out hp0 al)) args s 0 0 (kA E)) hp0 al 0 0 37 [(0, .ref b), (1, .int l1), (2, .int l2), (3, .int l3), (4, .int l4), (5, .long l5), (7, .int l7), (8, .long l8), (10, .int l10)] []) : ∀ {l1 : Int32} {l2 : Int32} {l3 : Int32} {l4 : Int32} {l5 : Int64} {l7 : Int32} {l8 : Int64} {l10 : Int32}, f_X11_score_L94 N ul ut um r22 r37 l1 l2 l3 l4 l5 l7 l8 l10 = some out → AW E p l e ⟨1, 0, 0, 24⟩ s m args below meth c 11 (MQ below (kQc E (kRet out hp0 al)) args s 0 0 (kA E)) hp0 al 0 0 94 [(0, .ref b), (1, .int l1), (2, .int l2), (3, .int l3), (4, .int l4), (5, .long l5), (7, .int l7), (8, .long l8), (10, .int l10)] [] := by
  intro l1 l2 l3 l4 l5 l7 l8 l10 h
  unfold f_X11_score_L94 at h
  refine A_iinc (j := 8) (v := (l10 + 1)) (L' := [(10, .int (l10 + 1)), (0, .ref b), (1, .int l1), (2, .int l2), (3, .int l3), (4, .int l4), (5, .long l5), (7, .int l7), (8, .long l8)]) X dX11_score_94 rfl rfl (by decide) rfl ?_
  refine A_goto (tgt := 37) X dX11_score_97 (by decide) ?_
  refine A_sub (L' := [(0, .ref b), (1, .int l1), (2, .int l2), (3, .int l3), (4, .int l4), (5, .long l5), (7, .int l7), (8, .long l8), (10, .int (l10 + 1))]) [1, 2, 3, 4, 5, 6, 7, 8, 0] rfl ?_
  exact i37 h
def f_X11_score_L37_F (N : Nat) (ul : Nat → Nat) (ut : Nat → Option (Nat → Int32)) (um : Int32) (r22 : Int32 → Int32 → Int32 → Int32 → Int64 → Int32 → Option (Int32)) (r37 : Int32 → Int32 → Int32 → Int32 → Int64 → Int32 → Int64 → Int32 → Option (Int32)) (l1 : Int32) (l2 : Int32) (l3 : Int32) (l4 : Int32) (l5 : Int64) (l7 : Int32) (l8 : Int64) (l10 : Int32) : Option (Int32) :=
  if um ≤ l10 then
    r22 l1 l2 l3 l4 (l5 + (l8 * l8)) (l7 + 1)
  else
    gd (inb l10 400) <|
    (ut (Int32.toNatClampNeg l10)).bind fun c3 =>
    if (c3 (Int32.toNatClampNeg 0)) = l1 then
      gd (inb l10 400) <|
      (ut (Int32.toNatClampNeg l10)).bind fun c4 =>
      if (c4 (Int32.toNatClampNeg 1)) = l2 then
        gd (inb l10 400) <|
        (ut (Int32.toNatClampNeg l10)).bind fun c5 =>
        if (c5 (Int32.toNatClampNeg 2)) = l7 then
          f_X11_score_L94 N ul ut um r22 r37 l1 l2 l3 l4 l5 l7 (l8 + l4.toInt64) l10
        else
          f_X11_score_L94 N ul ut um r22 r37 l1 l2 l3 l4 l5 l7 l8 l10
      else
        f_X11_score_L94 N ul ut um r22 r37 l1 l2 l3 l4 l5 l7 l8 l10
    else
      f_X11_score_L94 N ul ut um r22 r37 l1 l2 l3 l4 l5 l7 l8 l10
def f_X11_score_L37 (N : Nat) (ul : Nat → Nat) (ut : Nat → Option (Nat → Int32)) (um : Int32) (r22 : Int32 → Int32 → Int32 → Int32 → Int64 → Int32 → Option (Int32)) : Nat → Int32 → Int32 → Int32 → Int32 → Int64 → Int32 → Int64 → Int32 → Option (Int32)
  | 0 => fun _ _ _ _ _ _ _ _ => none
  | j + 1 => f_X11_score_L37_F N ul ut um r22 (f_X11_score_L37 N ul ut um r22 j)
set_option maxHeartbeats 4000000 in
set_option maxRecDepth 100000 in
theorem c_X11_score_L37 {E : KE} {p : Program} {l : Launch} {e : Env} {s : State} {m : MethodId} {args : Array Value} {below : List Frame} {meth : Method} {c : Code} {al : Option Nat} {N : Nat} {b : Nat} {ul : Nat → Nat} {uw : Nat → Nat → Int32} {ut : Nat → Option (Nat → Int32)} {uq : Nat → Option (Nat → Int32)} {um : Int32} {uo : Int32} {us : Int64} {ui : Int32} {uh : Int32}  {ub : Nat} {hp0 : Hp} {out : Int32} {r22 : Int32 → Int32 → Int32 → Int32 → Int64 → Int32 → Option (Int32)} (X : CX E p l s m args meth c "DiceAuditLaw$Hand" cX11_score 11) (hr : meth.sig.returnType = (Option.some Jvm.ClassFile.FieldType.int)) (G : HandP E hp0 b ub ul uw ut uq um uo us ui uh)  (i22 : ∀ {l1 : Int32} {l2 : Int32} {l3 : Int32} {l4 : Int32} {l5 : Int64} {l7 : Int32}, r22 l1 l2 l3 l4 l5 l7 = some out → AW E p l e ⟨1, 0, 0, 24⟩ s m args below meth c 11 (MQ below (kQc E (kRet out hp0 al)) args s 0 0 (kA E)) hp0 al 0 0 22 [(0, .ref b), (1, .int l1), (2, .int l2), (3, .int l3), (4, .int l4), (5, .long l5), (7, .int l7)] []) : ∀ (j : Nat), ∀ {l1 : Int32} {l2 : Int32} {l3 : Int32} {l4 : Int32} {l5 : Int64} {l7 : Int32} {l8 : Int64} {l10 : Int32}, f_X11_score_L37 N ul ut um r22 j l1 l2 l3 l4 l5 l7 l8 l10 = some out → AW E p l e ⟨1, 0, 0, 24⟩ s m args below meth c 11 (MQ below (kQc E (kRet out hp0 al)) args s 0 0 (kA E)) hp0 al 0 0 37 [(0, .ref b), (1, .int l1), (2, .int l2), (3, .int l3), (4, .int l4), (5, .long l5), (7, .int l7), (8, .long l8), (10, .int l10)] [] := by
  intro j
  induction j with
  | zero =>
    intro l1 l2 l3 l4 l5 l7 l8 l10 h
    have h : (none : Option (Int32)) = some out := h
    cases h
  | succ j i37 =>
    intro l1 l2 l3 l4 l5 l7 l8 l10 h
    have h : f_X11_score_L37_F N ul ut um r22 (f_X11_score_L37 N ul ut um r22 j) l1 l2 l3 l4 l5 l7 l8 l10 = some out := h
    unfold f_X11_score_L37_F at h
    refine A_iload X dX11_score_37 8 rfl ?_
    refine A_aload_n X dX11_score_39 0 rfl ?_
    refine A_get X dX11_score_40 kcl_X11 3 (by decide) kw_834 G.1 rfl ?_
    refine A_icmp_ge (tgt := 100) X dX11_score_43 h (by decide) (fun hc h => ?_) (fun hc h => ?_)
    · refine A_lload X dX11_score_100 5 rfl ?_
      refine A_lload X dX11_score_102 7 rfl ?_
      refine A_lload X dX11_score_104 7 rfl ?_
      refine A_lmul X dX11_score_106 ?_
      refine A_ladd X dX11_score_107 ?_
      refine A_lstore (L' := [(5, .long (l5 + (l8 * l8))), (0, .ref b), (1, .int l1), (2, .int l2), (3, .int l3), (4, .int l4), (7, .int l7), (8, .long l8), (10, .int l10)]) X dX11_score_108 (by decide) rfl ?_
      refine A_iinc (j := 6) (v := (l7 + 1)) (L' := [(7, .int (l7 + 1)), (5, .long (l5 + (l8 * l8))), (0, .ref b), (1, .int l1), (2, .int l2), (3, .int l3), (4, .int l4), (8, .long l8), (10, .int l10)]) X dX11_score_110 rfl rfl (by decide) rfl ?_
      refine A_goto (tgt := 22) X dX11_score_113 (by decide) ?_
      refine A_sub (L' := [(0, .ref b), (1, .int l1), (2, .int l2), (3, .int l3), (4, .int l4), (5, .long (l5 + (l8 * l8))), (7, .int (l7 + 1))]) [2, 3, 4, 5, 6, 1, 0] rfl ?_
      exact i22 h
    · refine A_aload_n X dX11_score_46 0 rfl ?_
      refine A_get X dX11_score_47 kcl_X11 1 (by decide) kw_832 G.1 rfl ?_
      refine A_iload X dX11_score_50 8 rfl ?_
      obtain ⟨hq, h⟩ := gd_o h
      obtain ⟨c3, hc3, h⟩ := bind_o h
      refine A_row X dX11_score_52 G.2.2.2.1 hq hc3 (fun q3 hb3 k3 => ?_)
      refine A_iconst (v := 0) X dX11_score_53 (by decide) ?_
      refine A_iald X dX11_score_54 k3 (by decide) ?_
      refine A_iload_n X dX11_score_55 1 rfl ?_
      refine A_icmp_ne (tgt := 94) X dX11_score_56 h (by decide) (fun hc h => ?_) (fun hc h => ?_)
      · refine A_sub (L' := [(0, .ref b), (1, .int l1), (2, .int l2), (3, .int l3), (4, .int l4), (5, .long l5), (7, .int l7), (8, .long l8), (10, .int l10)]) [0, 1, 2, 3, 4, 5, 6, 7, 8] rfl ?_
        exact c_X11_score_L94 X hr G i22 i37 h
      · refine A_aload_n X dX11_score_59 0 rfl ?_
        refine A_get X dX11_score_60 kcl_X11 1 (by decide) kw_832 G.1 rfl ?_
        refine A_iload X dX11_score_63 8 rfl ?_
        obtain ⟨hq, h⟩ := gd_o h
        obtain ⟨c4, hc4, h⟩ := bind_o h
        refine A_row X dX11_score_65 G.2.2.2.1 hq hc4 (fun q4 hb4 k4 => ?_)
        refine A_iconst (v := 1) X dX11_score_66 (by decide) ?_
        refine A_iald X dX11_score_67 k4 (by decide) ?_
        refine A_iload_n X dX11_score_68 2 rfl ?_
        refine A_icmp_ne (tgt := 94) X dX11_score_69 h (by decide) (fun hc h => ?_) (fun hc h => ?_)
        · refine A_sub (L' := [(0, .ref b), (1, .int l1), (2, .int l2), (3, .int l3), (4, .int l4), (5, .long l5), (7, .int l7), (8, .long l8), (10, .int l10)]) [0, 1, 2, 3, 4, 5, 6, 7, 8] rfl ?_
          exact c_X11_score_L94 X hr G i22 i37 h
        · refine A_aload_n X dX11_score_72 0 rfl ?_
          refine A_get X dX11_score_73 kcl_X11 1 (by decide) kw_832 G.1 rfl ?_
          refine A_iload X dX11_score_76 8 rfl ?_
          obtain ⟨hq, h⟩ := gd_o h
          obtain ⟨c5, hc5, h⟩ := bind_o h
          refine A_row X dX11_score_78 G.2.2.2.1 hq hc5 (fun q5 hb5 k5 => ?_)
          refine A_iconst (v := 2) X dX11_score_79 (by decide) ?_
          refine A_iald X dX11_score_80 k5 (by decide) ?_
          refine A_iload X dX11_score_81 6 rfl ?_
          refine A_icmp_ne (tgt := 94) X dX11_score_83 h (by decide) (fun hc h => ?_) (fun hc h => ?_)
          · refine A_sub (L' := [(0, .ref b), (1, .int l1), (2, .int l2), (3, .int l3), (4, .int l4), (5, .long l5), (7, .int l7), (8, .long l8), (10, .int l10)]) [0, 1, 2, 3, 4, 5, 6, 7, 8] rfl ?_
            exact c_X11_score_L94 X hr G i22 i37 h
          · refine A_lload X dX11_score_86 7 rfl ?_
            refine A_iload X dX11_score_88 4 rfl ?_
            refine A_i2l X dX11_score_90 ?_
            refine A_ladd X dX11_score_91 ?_
            refine A_lstore (L' := [(8, .long (l8 + l4.toInt64)), (0, .ref b), (1, .int l1), (2, .int l2), (3, .int l3), (4, .int l4), (5, .long l5), (7, .int l7), (10, .int l10)]) X dX11_score_92 (by decide) rfl ?_
            refine A_sub (L' := [(0, .ref b), (1, .int l1), (2, .int l2), (3, .int l3), (4, .int l4), (5, .long l5), (7, .int l7), (8, .long (l8 + l4.toInt64)), (10, .int l10)]) [1, 2, 3, 4, 5, 6, 7, 0, 8] rfl ?_
            exact c_X11_score_L94 X hr G i22 i37 h
def f_X11_score_L22_F (N : Nat) (ul : Nat → Nat) (ut : Nat → Option (Nat → Int32)) (um : Int32)  (r22 : Int32 → Int32 → Int32 → Int32 → Int64 → Int32 → Option (Int32)) (l1 : Int32) (l2 : Int32) (l3 : Int32) (l4 : Int32) (l5 : Int64) (l7 : Int32) : Option (Int32) :=
  if l4 < l7 then
    if l3 = 0 then
      some 0
    else
      gd (nzl (l3 * l4).toInt64) <|
      some ((l5 / (l3 * l4).toInt64).toInt32)
  else
    f_X11_score_L37 N ul ut um r22 N l1 l2 l3 l4 l5 l7 ((-l3).toInt64) 0
def f_X11_score_L22 (N : Nat) (ul : Nat → Nat) (ut : Nat → Option (Nat → Int32)) (um : Int32)  : Nat → Int32 → Int32 → Int32 → Int32 → Int64 → Int32 → Option (Int32)
  | 0 => fun _ _ _ _ _ _ => none
  | j + 1 => f_X11_score_L22_F N ul ut um (f_X11_score_L22 N ul ut um j)
set_option maxHeartbeats 4000000 in
set_option maxRecDepth 100000 in
theorem c_X11_score_L22 {E : KE} {p : Program} {l : Launch} {e : Env} {s : State} {m : MethodId} {args : Array Value} {below : List Frame} {meth : Method} {c : Code} {al : Option Nat} {N : Nat} {b : Nat} {ul : Nat → Nat} {uw : Nat → Nat → Int32} {ut : Nat → Option (Nat → Int32)} {uq : Nat → Option (Nat → Int32)} {um : Int32} {uo : Int32} {us : Int64} {ui : Int32} {uh : Int32}  {ub : Nat} {hp0 : Hp} {out : Int32}  (X : CX E p l s m args meth c "DiceAuditLaw$Hand" cX11_score 11) (hr : meth.sig.returnType = (Option.some Jvm.ClassFile.FieldType.int)) (G : HandP E hp0 b ub ul uw ut uq um uo us ui uh)  : ∀ (j : Nat), ∀ {l1 : Int32} {l2 : Int32} {l3 : Int32} {l4 : Int32} {l5 : Int64} {l7 : Int32}, f_X11_score_L22 N ul ut um j l1 l2 l3 l4 l5 l7 = some out → AW E p l e ⟨1, 0, 0, 24⟩ s m args below meth c 11 (MQ below (kQc E (kRet out hp0 al)) args s 0 0 (kA E)) hp0 al 0 0 22 [(0, .ref b), (1, .int l1), (2, .int l2), (3, .int l3), (4, .int l4), (5, .long l5), (7, .int l7)] [] := by
  intro j
  induction j with
  | zero =>
    intro l1 l2 l3 l4 l5 l7 h
    have h : (none : Option (Int32)) = some out := h
    cases h
  | succ j i22 =>
    intro l1 l2 l3 l4 l5 l7 h
    have h : f_X11_score_L22_F N ul ut um (f_X11_score_L22 N ul ut um j) l1 l2 l3 l4 l5 l7 = some out := h
    unfold f_X11_score_L22_F at h
    refine A_iload X dX11_score_22 6 rfl ?_
    refine A_iload X dX11_score_24 4 rfl ?_
    refine A_icmp_gt (tgt := 116) X dX11_score_26 h (by decide) (fun hc h => ?_) (fun hc h => ?_)
    · refine A_iload_n X dX11_score_116 3 rfl ?_
      refine A_if_ne (tgt := 124) X dX11_score_117 h (by decide) (fun hc h => ?_) (fun hc h => ?_)
      · refine A_lload X dX11_score_124 5 rfl ?_
        refine A_iload_n X dX11_score_126 3 rfl ?_
        refine A_iload X dX11_score_127 4 rfl ?_
        refine A_imul X dX11_score_129 ?_
        refine A_i2l X dX11_score_130 ?_
        obtain ⟨hq, h⟩ := gd_o h
        refine A_ldiv X dX11_score_131 (nzl_o hq) ?_
        refine A_l2i X dX11_score_132 ?_
        cases h
        exact A_iret X dX11_score_133 hr ⟨rfl, rfl, rfl⟩ (Nat.le_of_ble_eq_true rfl) (Nat.le_of_ble_eq_true rfl)
      · refine A_iconst (v := 0) X dX11_score_120 (by decide) ?_
        refine A_goto (tgt := 133) X dX11_score_121 (by decide) ?_
        cases h
        exact A_iret X dX11_score_133 hr ⟨rfl, rfl, rfl⟩ (Nat.le_of_ble_eq_true rfl) (Nat.le_of_ble_eq_true rfl)
    · refine A_iload_n X dX11_score_29 3 rfl ?_
      refine A_ineg X dX11_score_30 ?_
      refine A_i2l X dX11_score_31 ?_
      refine A_lstore (L' := [(8, .long (-l3).toInt64), (0, .ref b), (1, .int l1), (2, .int l2), (3, .int l3), (4, .int l4), (5, .long l5), (7, .int l7)]) X dX11_score_32 (by decide) rfl ?_
      refine A_iconst (v := 0) X dX11_score_34 (by decide) ?_
      refine A_istore (L' := [(10, .int 0), (8, .long (-l3).toInt64), (0, .ref b), (1, .int l1), (2, .int l2), (3, .int l3), (4, .int l4), (5, .long l5), (7, .int l7)]) X dX11_score_35 (by decide) rfl ?_
      refine A_sub (L' := [(0, .ref b), (1, .int l1), (2, .int l2), (3, .int l3), (4, .int l4), (5, .long l5), (7, .int l7), (8, .long (-l3).toInt64), (10, .int 0)]) [2, 3, 4, 5, 6, 7, 8, 1, 0] rfl ?_
      exact c_X11_score_L37 X hr G i22 N h
def f_X11_score (N : Nat) (ul : Nat → Nat) (ut : Nat → Option (Nat → Int32)) (um : Int32) (a0 : Int32) (a1 : Int32) : Option (Int32) :=
  (f_X11_ofPair N ut um a0 a1).bind fun t1 =>
  gd (inb a1 3) <|
  f_X11_score_L22 N ul ut um N a0 a1 t1 (nI (ul (Int32.toNatClampNeg a1))) (0 : Int64) 1
set_option maxHeartbeats 4000000 in
set_option maxRecDepth 100000 in
theorem c_X11_score {E : KE} {l : Launch} {hp : Hp} {al : Option Nat} {N : Nat} {b ub : Nat} {ul : Nat → Nat} {uw : Nat → Nat → Int32} {ut : Nat → Option (Nat → Int32)} {uq : Nat → Option (Nat → Int32)} {um : Int32} {uo : Int32} {us : Int64} {ui : Int32} {uh : Int32}  {a0 : Int32} {a1 : Int32} {out : Int32} (G : HandP E hp b ub ul uw ut uq um uo us ui uh) (h : f_X11_score N ul ut um a0 a1 = some out) : AM E l yX11_score cX11_score 11 (Option.some Jvm.ClassFile.FieldType.int) ⟨1, 0, 0, 24⟩ [.ref b, .int a0, .int a1] hp al (kRet out hp al) := by
  refine A_of (by decide +kernel) (Nat.le_of_ble_eq_true rfl) ?_
  intro p e s m args below meth c X hr hnm
  have X : CX E p l s m args meth c "DiceAuditLaw$Hand" cX11_score 11 := X
  refine A_L (L' := [(0, .ref b), (1, .int a0), (2, .int a1)]) rfl ?_
  unfold f_X11_score at h
  refine A_aload_n X dX11_score_0 0 rfl ?_
  refine A_iload_n X dX11_score_1 1 rfl ?_
  refine A_iload_n X dX11_score_2 2 rfl ?_
  obtain ⟨t1, hct1, h⟩ := bind_o h
  refine A_cp (k' := 0) (n' := 0) (A_runV (rest := []) X dX11_score_3 (c_X11_ofPair G  hct1) kY_X11_ofPair kw_879 G.1 rfl rfl ⟨(Nat.le_of_ble_eq_true rfl), (Nat.le_of_ble_eq_true rfl), (Nat.le_of_ble_eq_true rfl), (Nat.le_of_ble_eq_true rfl)⟩ rfl (Nat.le_of_ble_eq_true rfl)) rfl rfl ?_
  refine A_istore_n (L' := [(3, .int t1), (0, .ref b), (1, .int a0), (2, .int a1)]) X dX11_score_6 rfl (by decide) rfl ?_
  refine A_aload_n X dX11_score_7 1 rfl ?_
  refine A_get X dX11_score_8 kcl_X11 0 (by decide) kw_831 G.1 rfl ?_
  refine A_iload_n X dX11_score_11 3 rfl ?_
  obtain ⟨hw2, h⟩ := gd_o h
  refine A_wrow X dX11_score_12 G hw2 ?_
  refine A_alen (t := 0) (v := (nI (ul (Int32.toNatClampNeg a1)))) X dX11_score_13 (G.2.2.1 _ (inb3 hw2)) rfl rfl ?_
  refine A_istore (L' := [(4, .int (nI (ul (Int32.toNatClampNeg a1)))), (3, .int t1), (0, .ref b), (1, .int a0), (2, .int a1)]) X dX11_score_14 (by decide) rfl ?_
  refine A_lconst (v := 0) X dX11_score_16 (by decide) ?_
  refine A_lstore (L' := [(5, .long (0 : Int64)), (4, .int (nI (ul (Int32.toNatClampNeg a1)))), (3, .int t1), (0, .ref b), (1, .int a0), (2, .int a1)]) X dX11_score_17 (by decide) rfl ?_
  refine A_iconst (v := 1) X dX11_score_19 (by decide) ?_
  refine A_istore (L' := [(7, .int 1), (5, .long (0 : Int64)), (4, .int (nI (ul (Int32.toNatClampNeg a1)))), (3, .int t1), (0, .ref b), (1, .int a0), (2, .int a1)]) X dX11_score_20 (by decide) rfl ?_
  refine A_sub (L' := [(0, .ref b), (1, .int a0), (2, .int a1), (3, .int t1), (4, .int (nI (ul (Int32.toNatClampNeg a1)))), (5, .long (0 : Int64)), (7, .int 1)]) [4, 5, 6, 3, 2, 1, 0] rfl ?_
  exact c_X11_score_L22 X hr G N h
def f_X11_isBad (N : Nat) (ul : Nat → Nat) (ut : Nat → Option (Nat → Int32)) (um : Int32) (ui : Int32) (uh : Int32) (a0 : Int32) (a1 : Int32) : Option (Int32) :=
  (f_X11_ofPair N ut um a0 a1).bind fun t1 =>
  if t1 < ui then
    some 0
  else
    (f_X11_score N ul ut um a0 a1).bind fun t2 =>
    if t2 ≤ uh then
      some 0
    else
      some 1
set_option maxHeartbeats 4000000 in
set_option maxRecDepth 100000 in
theorem c_X11_isBad {E : KE} {l : Launch} {hp : Hp} {al : Option Nat} {N : Nat} {b ub : Nat} {ul : Nat → Nat} {uw : Nat → Nat → Int32} {ut : Nat → Option (Nat → Int32)} {uq : Nat → Option (Nat → Int32)} {um : Int32} {uo : Int32} {us : Int64} {ui : Int32} {uh : Int32}  {a0 : Int32} {a1 : Int32} {out : Int32} (G : HandP E hp b ub ul uw ut uq um uo us ui uh) (h : f_X11_isBad N ul ut um ui uh a0 a1 = some out) : AM E l yX11_isBad cX11_isBad 3 (Option.some Jvm.ClassFile.FieldType.boolean) ⟨2, 0, 0, 54⟩ [.ref b, .int a0, .int a1] hp al (kRet out hp al) := by
  refine A_of (by decide +kernel) (Nat.le_of_ble_eq_true rfl) ?_
  intro p e s m args below meth c X hr hnm
  have X : CX E p l s m args meth c "DiceAuditLaw$Hand" cX11_isBad 3 := X
  refine A_L (L' := [(0, .ref b), (1, .int a0), (2, .int a1)]) rfl ?_
  unfold f_X11_isBad at h
  refine A_aload_n X dX11_isBad_0 0 rfl ?_
  refine A_iload_n X dX11_isBad_1 1 rfl ?_
  refine A_iload_n X dX11_isBad_2 2 rfl ?_
  obtain ⟨t1, hct1, h⟩ := bind_o h
  refine A_cp (k' := 0) (n' := 0) (A_runV (rest := []) X dX11_isBad_3 (c_X11_ofPair G  hct1) kY_X11_ofPair kw_879 G.1 rfl rfl ⟨(Nat.le_of_ble_eq_true rfl), (Nat.le_of_ble_eq_true rfl), (Nat.le_of_ble_eq_true rfl), (Nat.le_of_ble_eq_true rfl)⟩ rfl (Nat.le_of_ble_eq_true rfl)) rfl rfl ?_
  refine A_aload_n X dX11_isBad_6 0 rfl ?_
  refine A_get X dX11_isBad_7 kcl_X11 6 (by decide) kw_837 G.1 rfl ?_
  refine A_icmp_lt (tgt := 30) X dX11_isBad_10 h (by decide) (fun hc h => ?_) (fun hc h => ?_)
  · refine A_iconst (v := 0) X dX11_isBad_30 (by decide) ?_
    cases h
    exact A_zret X dX11_isBad_31 hr (Or.inl rfl) ⟨rfl, rfl, rfl⟩ (Nat.le_of_ble_eq_true rfl) (Nat.le_of_ble_eq_true rfl)
  · refine A_aload_n X dX11_isBad_13 0 rfl ?_
    refine A_iload_n X dX11_isBad_14 1 rfl ?_
    refine A_iload_n X dX11_isBad_15 2 rfl ?_
    obtain ⟨t2, hct2, h⟩ := bind_o h
    refine A_cp (k' := 0) (n' := 0) (A_runV (rest := []) X dX11_isBad_16 (c_X11_score G  hct2) kY_X11_score kw_883 G.1 rfl rfl ⟨(Nat.le_of_ble_eq_true rfl), (Nat.le_of_ble_eq_true rfl), (Nat.le_of_ble_eq_true rfl), (Nat.le_of_ble_eq_true rfl)⟩ rfl (Nat.le_of_ble_eq_true rfl)) rfl rfl ?_
    refine A_aload_n X dX11_isBad_19 0 rfl ?_
    refine A_get X dX11_isBad_20 kcl_X11 7 (by decide) kw_838 G.1 rfl ?_
    refine A_icmp_le (tgt := 30) X dX11_isBad_23 h (by decide) (fun hc h => ?_) (fun hc h => ?_)
    · refine A_iconst (v := 0) X dX11_isBad_30 (by decide) ?_
      cases h
      exact A_zret X dX11_isBad_31 hr (Or.inl rfl) ⟨rfl, rfl, rfl⟩ (Nat.le_of_ble_eq_true rfl) (Nat.le_of_ble_eq_true rfl)
    · refine A_iconst (v := 1) X dX11_isBad_26 (by decide) ?_
      refine A_goto (tgt := 31) X dX11_isBad_27 (by decide) ?_
      cases h
      exact A_zret X dX11_isBad_31 hr (Or.inr rfl) ⟨rfl, rfl, rfl⟩ (Nat.le_of_ble_eq_true rfl) (Nat.le_of_ble_eq_true rfl)
def f_X11_isQueued_L36 (N : Nat) (uq : Nat → Option (Nat → Int32)) (uo : Int32) (r2 : Int32 → Int32 → Int32 → Option (Int32)) (l1 : Int32) (l2 : Int32) (l3 : Int32) : Option (Int32) :=
  r2 l1 l2 (l3 + 1)
set_option maxHeartbeats 4000000 in
set_option maxRecDepth 100000 in
theorem c_X11_isQueued_L36 {E : KE} {p : Program} {l : Launch} {e : Env} {s : State} {m : MethodId} {args : Array Value} {below : List Frame} {meth : Method} {c : Code} {al : Option Nat} {N : Nat} {b : Nat} {ul : Nat → Nat} {uw : Nat → Nat → Int32} {ut : Nat → Option (Nat → Int32)} {uq : Nat → Option (Nat → Int32)} {um : Int32} {uo : Int32} {us : Int64} {ui : Int32} {uh : Int32}  {ub : Nat} {hp0 : Hp} {out : Int32} {r2 : Int32 → Int32 → Int32 → Option (Int32)} (X : CX E p l s m args meth c "DiceAuditLaw$Hand" cX11_isQueued 4) (hr : meth.sig.returnType = (Option.some Jvm.ClassFile.FieldType.boolean)) (G : HandP E hp0 b ub ul uw ut uq um uo us ui uh)  (i2 : ∀ {l1 : Int32} {l2 : Int32} {l3 : Int32}, r2 l1 l2 l3 = some out → AW E p l e ⟨0, 0, 0, 0⟩ s m args below meth c 4 (MQ below (kQc E (kRet out hp0 al)) args s 0 0 (kA E)) hp0 al 0 0 2 [(0, .ref b), (1, .int l1), (2, .int l2), (3, .int l3)] []) : ∀ {l1 : Int32} {l2 : Int32} {l3 : Int32}, f_X11_isQueued_L36 N uq uo r2 l1 l2 l3 = some out → AW E p l e ⟨0, 0, 0, 0⟩ s m args below meth c 4 (MQ below (kQc E (kRet out hp0 al)) args s 0 0 (kA E)) hp0 al 0 0 36 [(0, .ref b), (1, .int l1), (2, .int l2), (3, .int l3)] [] := by
  intro l1 l2 l3 h
  unfold f_X11_isQueued_L36 at h
  refine A_iinc (j := 3) (v := (l3 + 1)) (L' := [(3, .int (l3 + 1)), (0, .ref b), (1, .int l1), (2, .int l2)]) X dX11_isQueued_36 rfl rfl (by decide) rfl ?_
  refine A_goto (tgt := 2) X dX11_isQueued_39 (by decide) ?_
  refine A_sub (L' := [(0, .ref b), (1, .int l1), (2, .int l2), (3, .int (l3 + 1))]) [1, 2, 3, 0] rfl ?_
  exact i2 h
def f_X11_isQueued_L2_F (N : Nat) (uq : Nat → Option (Nat → Int32)) (uo : Int32)  (r2 : Int32 → Int32 → Int32 → Option (Int32)) (l1 : Int32) (l2 : Int32) (l3 : Int32) : Option (Int32) :=
  if uo ≤ l3 then
    some 0
  else
    gd (inb l3 9) <|
    (uq (Int32.toNatClampNeg l3)).bind fun c1 =>
    if (c1 (Int32.toNatClampNeg 0)) = l1 then
      gd (inb l3 9) <|
      (uq (Int32.toNatClampNeg l3)).bind fun c2 =>
      if (c2 (Int32.toNatClampNeg 1)) = l2 then
        some 1
      else
        f_X11_isQueued_L36 N uq uo r2 l1 l2 l3
    else
      f_X11_isQueued_L36 N uq uo r2 l1 l2 l3
def f_X11_isQueued_L2 (N : Nat) (uq : Nat → Option (Nat → Int32)) (uo : Int32)  : Nat → Int32 → Int32 → Int32 → Option (Int32)
  | 0 => fun _ _ _ => none
  | j + 1 => f_X11_isQueued_L2_F N uq uo (f_X11_isQueued_L2 N uq uo j)
set_option maxHeartbeats 4000000 in
set_option maxRecDepth 100000 in
theorem c_X11_isQueued_L2 {E : KE} {p : Program} {l : Launch} {e : Env} {s : State} {m : MethodId} {args : Array Value} {below : List Frame} {meth : Method} {c : Code} {al : Option Nat} {N : Nat} {b : Nat} {ul : Nat → Nat} {uw : Nat → Nat → Int32} {ut : Nat → Option (Nat → Int32)} {uq : Nat → Option (Nat → Int32)} {um : Int32} {uo : Int32} {us : Int64} {ui : Int32} {uh : Int32}  {ub : Nat} {hp0 : Hp} {out : Int32}  (X : CX E p l s m args meth c "DiceAuditLaw$Hand" cX11_isQueued 4) (hr : meth.sig.returnType = (Option.some Jvm.ClassFile.FieldType.boolean)) (G : HandP E hp0 b ub ul uw ut uq um uo us ui uh)  : ∀ (j : Nat), ∀ {l1 : Int32} {l2 : Int32} {l3 : Int32}, f_X11_isQueued_L2 N uq uo j l1 l2 l3 = some out → AW E p l e ⟨0, 0, 0, 0⟩ s m args below meth c 4 (MQ below (kQc E (kRet out hp0 al)) args s 0 0 (kA E)) hp0 al 0 0 2 [(0, .ref b), (1, .int l1), (2, .int l2), (3, .int l3)] [] := by
  intro j
  induction j with
  | zero =>
    intro l1 l2 l3 h
    have h : (none : Option (Int32)) = some out := h
    cases h
  | succ j i2 =>
    intro l1 l2 l3 h
    have h : f_X11_isQueued_L2_F N uq uo (f_X11_isQueued_L2 N uq uo j) l1 l2 l3 = some out := h
    unfold f_X11_isQueued_L2_F at h
    refine A_iload_n X dX11_isQueued_2 3 rfl ?_
    refine A_aload_n X dX11_isQueued_3 0 rfl ?_
    refine A_get X dX11_isQueued_4 kcl_X11 4 (by decide) kw_835 G.1 rfl ?_
    refine A_icmp_ge (tgt := 42) X dX11_isQueued_7 h (by decide) (fun hc h => ?_) (fun hc h => ?_)
    · refine A_iconst (v := 0) X dX11_isQueued_42 (by decide) ?_
      cases h
      exact A_zret X dX11_isQueued_43 hr (Or.inl rfl) ⟨rfl, rfl, rfl⟩ (Nat.le_of_ble_eq_true rfl) (Nat.le_of_ble_eq_true rfl)
    · refine A_aload_n X dX11_isQueued_10 0 rfl ?_
      refine A_get X dX11_isQueued_11 kcl_X11 2 (by decide) kw_833 G.1 rfl ?_
      refine A_iload_n X dX11_isQueued_14 3 rfl ?_
      obtain ⟨hq, h⟩ := gd_o h
      obtain ⟨c1, hc1, h⟩ := bind_o h
      refine A_row X dX11_isQueued_15 G.2.2.2.2.1 hq hc1 (fun q1 hb1 k1 => ?_)
      refine A_iconst (v := 0) X dX11_isQueued_16 (by decide) ?_
      refine A_iald X dX11_isQueued_17 k1 (by decide) ?_
      refine A_iload_n X dX11_isQueued_18 1 rfl ?_
      refine A_icmp_ne (tgt := 36) X dX11_isQueued_19 h (by decide) (fun hc h => ?_) (fun hc h => ?_)
      · refine A_sub (L' := [(0, .ref b), (1, .int l1), (2, .int l2), (3, .int l3)]) [0, 1, 2, 3] rfl ?_
        exact c_X11_isQueued_L36 X hr G i2 h
      · refine A_aload_n X dX11_isQueued_22 0 rfl ?_
        refine A_get X dX11_isQueued_23 kcl_X11 2 (by decide) kw_833 G.1 rfl ?_
        refine A_iload_n X dX11_isQueued_26 3 rfl ?_
        obtain ⟨hq, h⟩ := gd_o h
        obtain ⟨c2, hc2, h⟩ := bind_o h
        refine A_row X dX11_isQueued_27 G.2.2.2.2.1 hq hc2 (fun q2 hb2 k2 => ?_)
        refine A_iconst (v := 1) X dX11_isQueued_28 (by decide) ?_
        refine A_iald X dX11_isQueued_29 k2 (by decide) ?_
        refine A_iload_n X dX11_isQueued_30 2 rfl ?_
        refine A_icmp_ne (tgt := 36) X dX11_isQueued_31 h (by decide) (fun hc h => ?_) (fun hc h => ?_)
        · refine A_sub (L' := [(0, .ref b), (1, .int l1), (2, .int l2), (3, .int l3)]) [0, 1, 2, 3] rfl ?_
          exact c_X11_isQueued_L36 X hr G i2 h
        · refine A_iconst (v := 1) X dX11_isQueued_34 (by decide) ?_
          cases h
          exact A_zret X dX11_isQueued_35 hr (Or.inr rfl) ⟨rfl, rfl, rfl⟩ (Nat.le_of_ble_eq_true rfl) (Nat.le_of_ble_eq_true rfl)
def f_X11_isQueued (N : Nat) (uq : Nat → Option (Nat → Int32)) (uo : Int32) (a0 : Int32) (a1 : Int32) : Option (Int32) :=
  f_X11_isQueued_L2 N uq uo N a0 a1 0
set_option maxHeartbeats 4000000 in
set_option maxRecDepth 100000 in
theorem c_X11_isQueued {E : KE} {l : Launch} {hp : Hp} {al : Option Nat} {N : Nat} {b ub : Nat} {ul : Nat → Nat} {uw : Nat → Nat → Int32} {ut : Nat → Option (Nat → Int32)} {uq : Nat → Option (Nat → Int32)} {um : Int32} {uo : Int32} {us : Int64} {ui : Int32} {uh : Int32}  {a0 : Int32} {a1 : Int32} {out : Int32} (G : HandP E hp b ub ul uw ut uq um uo us ui uh) (h : f_X11_isQueued N uq uo a0 a1 = some out) : AM E l yX11_isQueued cX11_isQueued 4 (Option.some Jvm.ClassFile.FieldType.boolean) ⟨0, 0, 0, 0⟩ [.ref b, .int a0, .int a1] hp al (kRet out hp al) := by
  refine A_of (by decide +kernel) (Nat.le_of_ble_eq_true rfl) ?_
  intro p e s m args below meth c X hr hnm
  have X : CX E p l s m args meth c "DiceAuditLaw$Hand" cX11_isQueued 4 := X
  refine A_L (L' := [(0, .ref b), (1, .int a0), (2, .int a1)]) rfl ?_
  unfold f_X11_isQueued at h
  refine A_iconst (v := 0) X dX11_isQueued_0 (by decide) ?_
  refine A_istore_n (L' := [(3, .int 0), (0, .ref b), (1, .int a0), (2, .int a1)]) X dX11_isQueued_1 rfl (by decide) rfl ?_
  refine A_sub (L' := [(0, .ref b), (1, .int a0), (2, .int a1), (3, .int 0)]) [1, 2, 3, 0] rfl ?_
  exact c_X11_isQueued_L2 X hr G N h
def f_X11_audits_L79 (N : Nat) (ul : Nat → Nat) (ut : Nat → Option (Nat → Int32)) (um : Int32) (ui : Int32) (uh : Int32) (r4 : Int32 → Int32 → (Nat → Option (Nat → Int32)) → Int32 → Option (Int32 × (Nat → Option (Nat → Int32)) × Int32)) (r11 : Int32 → Int32 → Int32 → (Nat → Option (Nat → Int32)) → Int32 → Option (Int32 × (Nat → Option (Nat → Int32)) × Int32)) (l1 : Int32) (l2 : Int32) (l3 : Int32) (uq : Nat → Option (Nat → Int32)) (uo : Int32) : Option (Int32 × (Nat → Option (Nat → Int32)) × Int32) :=
  gd (inb uo 10) <|
  r11 l1 l2 (l3 + 1) uq uo
set_option maxHeartbeats 4000000 in
set_option maxRecDepth 100000 in
theorem c_X11_audits_L79 {E : KE} {p : Program} {l : Launch} {e : Env} {s : State} {m : MethodId} {args : Array Value} {below : List Frame} {meth : Method} {c : Code} {N : Nat} {b : Nat} {ul : Nat → Nat} {uw : Nat → Nat → Int32} {ut : Nat → Option (Nat → Int32)} {um : Int32} {us : Int64} {ui : Int32} {uh : Int32}  {hp0 : Hp} {out : Int32 × (Nat → Option (Nat → Int32)) × Int32} {r4 : Int32 → Int32 → (Nat → Option (Nat → Int32)) → Int32 → Option (Int32 × (Nat → Option (Nat → Int32)) × Int32)} {r11 : Int32 → Int32 → Int32 → (Nat → Option (Nat → Int32)) → Int32 → Option (Int32 × (Nat → Option (Nat → Int32)) × Int32)} (X : CX E p l s m args meth c "DiceAuditLaw$Hand" cX11_audits 4) (hr : meth.sig.returnType = (Option.some Jvm.ClassFile.FieldType.int))  (i4 : ∀ {l1 : Int32} {l2 : Int32} {uq : Nat → Option (Nat → Int32)} {uo : Int32} {ub : Nat} {hp : Hp}, HandP E hp b ub ul uw ut uq um uo us ui uh → (∀ q, q < b → hp q = hp0 q) → r4 l1 l2 uq uo = some out → AW E p l e ⟨3, 10, 30, 76⟩ s m args below meth c 4 (MQ below (kQc E (PHt E b hp0 (some (.int out.1)) ul uw ut out.2.1 um out.2.2 us ui uh)) args s 10 30 (kA E)) hp none (Int32.toNatClampNeg uo) (3 * (Int32.toNatClampNeg uo)) 4 [(0, .ref b), (1, .int l1), (2, .int l2)] []) (i11 : ∀ {l1 : Int32} {l2 : Int32} {l3 : Int32} {uq : Nat → Option (Nat → Int32)} {uo : Int32} {ub : Nat} {hp : Hp}, HandP E hp b ub ul uw ut uq um uo us ui uh → (∀ q, q < b → hp q = hp0 q) → r11 l1 l2 l3 uq uo = some out → AW E p l e ⟨3, 10, 30, 76⟩ s m args below meth c 4 (MQ below (kQc E (PHt E b hp0 (some (.int out.1)) ul uw ut out.2.1 um out.2.2 us ui uh)) args s 10 30 (kA E)) hp none (Int32.toNatClampNeg uo) (3 * (Int32.toNatClampNeg uo)) 11 [(0, .ref b), (1, .int l1), (2, .int l2), (3, .int l3)] []) : ∀ {l1 : Int32} {l2 : Int32} {l3 : Int32} {uq : Nat → Option (Nat → Int32)} {uo : Int32} {ub : Nat} {hp : Hp}, HandP E hp b ub ul uw ut uq um uo us ui uh → (∀ q, q < b → hp q = hp0 q) → f_X11_audits_L79 N ul ut um ui uh r4 r11 l1 l2 l3 uq uo = some out → AW E p l e ⟨3, 10, 30, 76⟩ s m args below meth c 4 (MQ below (kQc E (PHt E b hp0 (some (.int out.1)) ul uw ut out.2.1 um out.2.2 us ui uh)) args s 10 30 (kA E)) hp none (Int32.toNatClampNeg uo) (3 * (Int32.toNatClampNeg uo)) 79 [(0, .ref b), (1, .int l1), (2, .int l2), (3, .int l3)] [] := by
  intro l1 l2 l3 uq uo ub hp G hfr h
  unfold f_X11_audits_L79 at h
  obtain ⟨hgb, h⟩ := gd_o h
  have hgn := inb3 hgb
  refine A_iinc (j := 3) (v := (l3 + 1)) (L' := [(3, .int (l3 + 1)), (0, .ref b), (1, .int l1), (2, .int l2)]) X dX11_audits_79 rfl rfl (by decide) rfl ?_
  refine A_goto (tgt := 11) X dX11_audits_82 (by decide) ?_
  refine A_sub (L' := [(0, .ref b), (1, .int l1), (2, .int l2), (3, .int (l3 + 1))]) [1, 2, 3, 0] rfl ?_
  exact i11 G hfr h
def f_X11_audits_L11_F (N : Nat) (ul : Nat → Nat) (ut : Nat → Option (Nat → Int32)) (um : Int32) (ui : Int32) (uh : Int32) (r4 : Int32 → Int32 → (Nat → Option (Nat → Int32)) → Int32 → Option (Int32 × (Nat → Option (Nat → Int32)) × Int32)) (r11 : Int32 → Int32 → Int32 → (Nat → Option (Nat → Int32)) → Int32 → Option (Int32 × (Nat → Option (Nat → Int32)) × Int32)) (l1 : Int32) (l2 : Int32) (l3 : Int32) (uq : Nat → Option (Nat → Int32)) (uo : Int32) : Option (Int32 × (Nat → Option (Nat → Int32)) × Int32) :=
  gd (inb uo 10) <|
  if 3 ≤ l3 then
    r4 l1 (l2 + 1) uq uo
  else
    (f_X11_isBad N ul ut um ui uh l2 l3).bind fun t1 =>
    if t1 = 0 then
      f_X11_audits_L79 N ul ut um ui uh r4 r11 l1 l2 l3 uq uo
    else
      (f_X11_isQueued N uq uo l2 l3).bind fun t2 =>
      if t2 = 0 then
        (f_X11_score N ul ut um l2 l3).bind fun t3 =>
        gd (inb uo 9) <|
        f_X11_audits_L79 N ul ut um ui uh r4 r11 (l1 + 1) l2 l3 (upo uq (Int32.toNatClampNeg uo) (upd (upd (upd (fun _ => 0) (Int32.toNatClampNeg 0) l2) (Int32.toNatClampNeg 1) l3) (Int32.toNatClampNeg 2) t3)) (uo + 1)
      else
        f_X11_audits_L79 N ul ut um ui uh r4 r11 l1 l2 l3 uq uo
def f_X11_audits_L11 (N : Nat) (ul : Nat → Nat) (ut : Nat → Option (Nat → Int32)) (um : Int32) (ui : Int32) (uh : Int32) (r4 : Int32 → Int32 → (Nat → Option (Nat → Int32)) → Int32 → Option (Int32 × (Nat → Option (Nat → Int32)) × Int32)) : Nat → Int32 → Int32 → Int32 → (Nat → Option (Nat → Int32)) → Int32 → Option (Int32 × (Nat → Option (Nat → Int32)) × Int32)
  | 0 => fun _ _ _ _ _ => none
  | j + 1 => f_X11_audits_L11_F N ul ut um ui uh r4 (f_X11_audits_L11 N ul ut um ui uh r4 j)
set_option maxHeartbeats 4000000 in
set_option maxRecDepth 100000 in
theorem c_X11_audits_L11 {E : KE} {p : Program} {l : Launch} {e : Env} {s : State} {m : MethodId} {args : Array Value} {below : List Frame} {meth : Method} {c : Code} {N : Nat} {b : Nat} {ul : Nat → Nat} {uw : Nat → Nat → Int32} {ut : Nat → Option (Nat → Int32)} {um : Int32} {us : Int64} {ui : Int32} {uh : Int32}  {hp0 : Hp} {out : Int32 × (Nat → Option (Nat → Int32)) × Int32} {r4 : Int32 → Int32 → (Nat → Option (Nat → Int32)) → Int32 → Option (Int32 × (Nat → Option (Nat → Int32)) × Int32)} (X : CX E p l s m args meth c "DiceAuditLaw$Hand" cX11_audits 4) (hr : meth.sig.returnType = (Option.some Jvm.ClassFile.FieldType.int))  (i4 : ∀ {l1 : Int32} {l2 : Int32} {uq : Nat → Option (Nat → Int32)} {uo : Int32} {ub : Nat} {hp : Hp}, HandP E hp b ub ul uw ut uq um uo us ui uh → (∀ q, q < b → hp q = hp0 q) → r4 l1 l2 uq uo = some out → AW E p l e ⟨3, 10, 30, 76⟩ s m args below meth c 4 (MQ below (kQc E (PHt E b hp0 (some (.int out.1)) ul uw ut out.2.1 um out.2.2 us ui uh)) args s 10 30 (kA E)) hp none (Int32.toNatClampNeg uo) (3 * (Int32.toNatClampNeg uo)) 4 [(0, .ref b), (1, .int l1), (2, .int l2)] []) : ∀ (j : Nat), ∀ {l1 : Int32} {l2 : Int32} {l3 : Int32} {uq : Nat → Option (Nat → Int32)} {uo : Int32} {ub : Nat} {hp : Hp}, HandP E hp b ub ul uw ut uq um uo us ui uh → (∀ q, q < b → hp q = hp0 q) → f_X11_audits_L11 N ul ut um ui uh r4 j l1 l2 l3 uq uo = some out → AW E p l e ⟨3, 10, 30, 76⟩ s m args below meth c 4 (MQ below (kQc E (PHt E b hp0 (some (.int out.1)) ul uw ut out.2.1 um out.2.2 us ui uh)) args s 10 30 (kA E)) hp none (Int32.toNatClampNeg uo) (3 * (Int32.toNatClampNeg uo)) 11 [(0, .ref b), (1, .int l1), (2, .int l2), (3, .int l3)] [] := by
  intro j
  induction j with
  | zero =>
    intro l1 l2 l3 uq uo ub hp G hfr h
    have h : (none : Option (Int32 × (Nat → Option (Nat → Int32)) × Int32)) = some out := h
    cases h
  | succ j i11 =>
    intro l1 l2 l3 uq uo ub hp G hfr h
    have h : f_X11_audits_L11_F N ul ut um ui uh r4 (f_X11_audits_L11 N ul ut um ui uh r4 j) l1 l2 l3 uq uo = some out := h
    unfold f_X11_audits_L11_F at h
    obtain ⟨hgb, h⟩ := gd_o h
    have hgn := inb3 hgb
    refine A_iload_n X dX11_audits_11 3 rfl ?_
    refine A_iconst (v := 3) X dX11_audits_12 (by decide) ?_
    refine A_icmp_ge (tgt := 85) X dX11_audits_13 h (by decide) (fun hc h => ?_) (fun hc h => ?_)
    · refine A_iinc (j := 2) (v := (l2 + 1)) (L' := [(2, .int (l2 + 1)), (0, .ref b), (1, .int l1), (3, .int l3)]) X dX11_audits_85 rfl rfl (by decide) rfl ?_
      refine A_goto (tgt := 4) X dX11_audits_88 (by decide) ?_
      refine A_sub (L' := [(0, .ref b), (1, .int l1), (2, .int (l2 + 1))]) [1, 2, 0] rfl ?_
      exact i4 G hfr h
    · refine A_aload_n X dX11_audits_16 0 rfl ?_
      refine A_iload_n X dX11_audits_17 2 rfl ?_
      refine A_iload_n X dX11_audits_18 3 rfl ?_
      obtain ⟨t1, hct1, h⟩ := bind_o h
      refine A_cp (k' := (Int32.toNatClampNeg uo)) (n' := (3 * (Int32.toNatClampNeg uo))) (A_runV (rest := []) X dX11_audits_19 (c_X11_isBad G  hct1) kY_X11_isBad kw_875 G.1 rfl rfl ⟨(Nat.le_of_ble_eq_true rfl), (Nat.le_of_ble_eq_true rfl), (by dsimp only; omega), (by dsimp only; omega)⟩ rfl (Nat.le_of_ble_eq_true rfl)) rfl rfl ?_
      refine A_if_eq (tgt := 79) X dX11_audits_22 h (by decide) (fun hc h => ?_) (fun hc h => ?_)
      · refine A_sub (L' := [(0, .ref b), (1, .int l1), (2, .int l2), (3, .int l3)]) [0, 1, 2, 3] rfl ?_
        exact c_X11_audits_L79 X hr i4 i11 G hfr h
      · refine A_aload_n X dX11_audits_25 0 rfl ?_
        refine A_iload_n X dX11_audits_26 2 rfl ?_
        refine A_iload_n X dX11_audits_27 3 rfl ?_
        obtain ⟨t2, hct2, h⟩ := bind_o h
        refine A_cp (k' := (Int32.toNatClampNeg uo)) (n' := (3 * (Int32.toNatClampNeg uo))) (A_runV (rest := []) X dX11_audits_28 (c_X11_isQueued G  hct2) kY_X11_isQueued kw_887 G.1 rfl rfl ⟨(Nat.le_of_ble_eq_true rfl), (Nat.le_of_ble_eq_true rfl), (by dsimp only; omega), (by dsimp only; omega)⟩ rfl (Nat.le_of_ble_eq_true rfl)) rfl rfl ?_
        refine A_if_eq (tgt := 37) X dX11_audits_31 h (by decide) (fun hc h => ?_) (fun hc h => ?_)
        · refine A_aload_n X dX11_audits_37 0 rfl ?_
          refine A_get X dX11_audits_38 kcl_X11 2 (by decide) kw_833 G.1 rfl ?_
          refine A_aload_n X dX11_audits_41 0 rfl ?_
          refine A_get X dX11_audits_42 kcl_X11 4 (by decide) kw_835 G.1 rfl ?_
          refine A_iconst (v := 3) X dX11_audits_45 (by decide) ?_
          refine A_newr (N := 3) X dX11_audits_46 kw_54 (by decide) (by decide) (by decide) (by dsimp only; omega) (by dsimp only; omega) (fun z1 hp1 f1 kz n1 => ?_)
          have G : HandP E hp1 b z1 ul uw ut uq um uo us ui uh := G.new f1 n1
          have hz : b + 7 ≤ z1 := G.2.2.2.2.2
          have kz : hp1 z1 = some (rowc E 3 (fun _ => 0)) := kz
          have hfr : ∀ q, q < b → hp1 q = hp0 q := fun q hq => (n1 q (by omega)).trans (hfr q hq)
          refine A_dup X dX11_audits_48 rfl ?_
          refine A_iconst (v := 0) X dX11_audits_49 (by decide) ?_
          refine A_iload_n X dX11_audits_50 2 rfl ?_
          refine A_iast X dX11_audits_51 kz (by decide) (fun hp2 kz n2 => ?_)
          have kz : hp2 z1 = some (rowc E 3 (upd (fun _ => 0) (Int32.toNatClampNeg 0) l2)) := kz
          have G : HandP E hp2 b z1 ul uw ut uq um uo us ui uh := G.oth (Nat.le_refl _) n2
          have hfr : ∀ q, q < b → hp2 q = hp0 q := fun q hq => (n2 q (by omega)).trans (hfr q hq)
          refine A_dup X dX11_audits_52 rfl ?_
          refine A_iconst (v := 1) X dX11_audits_53 (by decide) ?_
          refine A_iload_n X dX11_audits_54 3 rfl ?_
          refine A_iast X dX11_audits_55 kz (by decide) (fun hp3 kz n3 => ?_)
          have kz : hp3 z1 = some (rowc E 3 (upd (upd (fun _ => 0) (Int32.toNatClampNeg 0) l2) (Int32.toNatClampNeg 1) l3)) := kz
          have G : HandP E hp3 b z1 ul uw ut uq um uo us ui uh := G.oth (Nat.le_refl _) n3
          have hfr : ∀ q, q < b → hp3 q = hp0 q := fun q hq => (n3 q (by omega)).trans (hfr q hq)
          refine A_dup X dX11_audits_56 rfl ?_
          refine A_iconst (v := 2) X dX11_audits_57 (by decide) ?_
          refine A_aload_n X dX11_audits_58 0 rfl ?_
          refine A_iload_n X dX11_audits_59 2 rfl ?_
          refine A_iload_n X dX11_audits_60 3 rfl ?_
          obtain ⟨t3, hct3, h⟩ := bind_o h
          refine A_cp (k' := ((Int32.toNatClampNeg uo) + 1)) (n' := (3 * (Int32.toNatClampNeg uo) + 3)) (A_runV (rest := [.int 2, .ref z1, .ref z1, .int uo, .ref (b + 3)]) X dX11_audits_61 (c_X11_score G  hct3) kY_X11_score kw_883 G.1 rfl rfl ⟨(Nat.le_of_ble_eq_true rfl), (Nat.le_of_ble_eq_true rfl), (by dsimp only; omega), (by dsimp only; omega)⟩ rfl (Nat.le_of_ble_eq_true rfl)) rfl rfl ?_
          refine A_iast X dX11_audits_64 kz (by decide) (fun hp4 kz n4 => ?_)
          have kz : hp4 z1 = some (rowc E 3 (upd (upd (upd (fun _ => 0) (Int32.toNatClampNeg 0) l2) (Int32.toNatClampNeg 1) l3) (Int32.toNatClampNeg 2) t3)) := kz
          have G : HandP E hp4 b z1 ul uw ut uq um uo us ui uh := G.oth (Nat.le_refl _) n4
          have hfr : ∀ q, q < b → hp4 q = hp0 q := fun q hq => (n4 q (by omega)).trans (hfr q hq)
          obtain ⟨hq, h⟩ := gd_o h
          have G : HandP E hp4 b (z1 + 1) ul uw ut uq um uo us ui uh := G.up (by omega)
          refine A_qput X dX11_audits_65 kw_708 G hq kz hz (by omega) (fun hp5 G n5 => ?_)
          have hfr : ∀ q, q < b → hp5 q = hp0 q := fun q hq => (n5 q (by omega)).trans (hfr q hq)
          refine A_aload_n X dX11_audits_66 0 rfl ?_
          refine A_dup X dX11_audits_67 rfl ?_
          refine A_get X dX11_audits_68 kcl_X11 4 (by decide) kw_835 G.1 rfl ?_
          refine A_iconst (v := 1) X dX11_audits_71 (by decide) ?_
          refine A_iadd X dX11_audits_72 ?_
          refine A_put X dX11_audits_73 kcl_X11 4 (by decide) kw_835 G.1 rfl rfl rfl (by simp) (fun hp6 k6 n6 => ?_)
          have G : HandP E hp6 b (z1 + 1) ul uw ut (upo uq (Int32.toNatClampNeg uo) (upd (upd (upd (fun _ => 0) (Int32.toNatClampNeg 0) l2) (Int32.toNatClampNeg 1) l3) (Int32.toNatClampNeg 2) t3)) um (uo + 1) us ui uh := G.obj k6 n6
          have hfr : ∀ q, q < b → hp6 q = hp0 q := fun q hq => (n6 q (by omega)).trans (hfr q hq)
          refine A_iinc (j := 1) (v := (l1 + 1)) (L' := [(1, .int (l1 + 1)), (0, .ref b), (2, .int l2), (3, .int l3)]) X dX11_audits_76 rfl rfl (by decide) rfl ?_
          refine A_sub (L' := [(0, .ref b), (1, .int (l1 + 1)), (2, .int l2), (3, .int l3)]) [1, 0, 2, 3] rfl ?_
          refine A_widen (k' := (Int32.toNatClampNeg (uo + 1))) (n' := 3 * (Int32.toNatClampNeg (uo + 1))) (by rw [tn_s hgb (Nat.le_of_ble_eq_true rfl)]; omega) (by rw [tn_s hgb (Nat.le_of_ble_eq_true rfl)]; omega) ?_
          exact c_X11_audits_L79 X hr i4 i11 G hfr h
        · refine A_goto (tgt := 79) X dX11_audits_34 (by decide) ?_
          refine A_sub (L' := [(0, .ref b), (1, .int l1), (2, .int l2), (3, .int l3)]) [0, 1, 2, 3] rfl ?_
          exact c_X11_audits_L79 X hr i4 i11 G hfr h
def f_X11_audits_L4_F (N : Nat) (ul : Nat → Nat) (ut : Nat → Option (Nat → Int32)) (um : Int32) (ui : Int32) (uh : Int32)  (r4 : Int32 → Int32 → (Nat → Option (Nat → Int32)) → Int32 → Option (Int32 × (Nat → Option (Nat → Int32)) × Int32)) (l1 : Int32) (l2 : Int32) (uq : Nat → Option (Nat → Int32)) (uo : Int32) : Option (Int32 × (Nat → Option (Nat → Int32)) × Int32) :=
  gd (inb uo 10) <|
  if 3 ≤ l2 then
    some (l1, uq, uo)
  else
    f_X11_audits_L11 N ul ut um ui uh r4 N l1 l2 0 uq uo
def f_X11_audits_L4 (N : Nat) (ul : Nat → Nat) (ut : Nat → Option (Nat → Int32)) (um : Int32) (ui : Int32) (uh : Int32)  : Nat → Int32 → Int32 → (Nat → Option (Nat → Int32)) → Int32 → Option (Int32 × (Nat → Option (Nat → Int32)) × Int32)
  | 0 => fun _ _ _ _ => none
  | j + 1 => f_X11_audits_L4_F N ul ut um ui uh (f_X11_audits_L4 N ul ut um ui uh j)
set_option maxHeartbeats 4000000 in
set_option maxRecDepth 100000 in
theorem c_X11_audits_L4 {E : KE} {p : Program} {l : Launch} {e : Env} {s : State} {m : MethodId} {args : Array Value} {below : List Frame} {meth : Method} {c : Code} {N : Nat} {b : Nat} {ul : Nat → Nat} {uw : Nat → Nat → Int32} {ut : Nat → Option (Nat → Int32)} {um : Int32} {us : Int64} {ui : Int32} {uh : Int32}  {hp0 : Hp} {out : Int32 × (Nat → Option (Nat → Int32)) × Int32}  (X : CX E p l s m args meth c "DiceAuditLaw$Hand" cX11_audits 4) (hr : meth.sig.returnType = (Option.some Jvm.ClassFile.FieldType.int))  : ∀ (j : Nat), ∀ {l1 : Int32} {l2 : Int32} {uq : Nat → Option (Nat → Int32)} {uo : Int32} {ub : Nat} {hp : Hp}, HandP E hp b ub ul uw ut uq um uo us ui uh → (∀ q, q < b → hp q = hp0 q) → f_X11_audits_L4 N ul ut um ui uh j l1 l2 uq uo = some out → AW E p l e ⟨3, 10, 30, 76⟩ s m args below meth c 4 (MQ below (kQc E (PHt E b hp0 (some (.int out.1)) ul uw ut out.2.1 um out.2.2 us ui uh)) args s 10 30 (kA E)) hp none (Int32.toNatClampNeg uo) (3 * (Int32.toNatClampNeg uo)) 4 [(0, .ref b), (1, .int l1), (2, .int l2)] [] := by
  intro j
  induction j with
  | zero =>
    intro l1 l2 uq uo ub hp G hfr h
    have h : (none : Option (Int32 × (Nat → Option (Nat → Int32)) × Int32)) = some out := h
    cases h
  | succ j i4 =>
    intro l1 l2 uq uo ub hp G hfr h
    have h : f_X11_audits_L4_F N ul ut um ui uh (f_X11_audits_L4 N ul ut um ui uh j) l1 l2 uq uo = some out := h
    unfold f_X11_audits_L4_F at h
    obtain ⟨hgb, h⟩ := gd_o h
    have hgn := inb3 hgb
    refine A_iload_n X dX11_audits_4 2 rfl ?_
    refine A_iconst (v := 3) X dX11_audits_5 (by decide) ?_
    refine A_icmp_ge (tgt := 91) X dX11_audits_6 h (by decide) (fun hc h => ?_) (fun hc h => ?_)
    · refine A_iload_n X dX11_audits_91 1 rfl ?_
      cases h
      exact A_iret X dX11_audits_92 hr ⟨rfl, ⟨_, G⟩, hfr⟩ (by omega) (by omega)
    · refine A_iconst (v := 0) X dX11_audits_9 (by decide) ?_
      refine A_istore_n (L' := [(3, .int 0), (0, .ref b), (1, .int l1), (2, .int l2)]) X dX11_audits_10 rfl (by decide) rfl ?_
      refine A_sub (L' := [(0, .ref b), (1, .int l1), (2, .int l2), (3, .int 0)]) [1, 2, 3, 0] rfl ?_
      exact c_X11_audits_L11 X hr i4 N G hfr h
def f_X11_audits (N : Nat) (ul : Nat → Nat) (ut : Nat → Option (Nat → Int32)) (um : Int32) (ui : Int32) (uh : Int32) (uq : Nat → Option (Nat → Int32)) (uo : Int32) : Option (Int32 × (Nat → Option (Nat → Int32)) × Int32) :=
  f_X11_audits_L4 N ul ut um ui uh N 0 0 uq uo
set_option maxHeartbeats 4000000 in
set_option maxRecDepth 100000 in
theorem c_X11_audits {E : KE} {l : Launch} {hp : Hp} {N : Nat} {b ub : Nat} {ul : Nat → Nat} {uw : Nat → Nat → Int32} {ut : Nat → Option (Nat → Int32)} {uq : Nat → Option (Nat → Int32)} {um : Int32} {uo : Int32} {us : Int64} {ui : Int32} {uh : Int32}   {out : Int32 × (Nat → Option (Nat → Int32)) × Int32} (G : HandP E hp b ub ul uw ut uq um uo us ui uh) (h : f_X11_audits N ul ut um ui uh uq uo = some out) : AM E l yX11_audits cX11_audits 4 (Option.some Jvm.ClassFile.FieldType.int) ⟨3, 10, 30, 76⟩ [.ref b] hp none (PHt E b hp (some (.int out.1)) ul uw ut out.2.1 um out.2.2 us ui uh) := by
  refine A_of (by decide +kernel) (Nat.le_of_ble_eq_true rfl) ?_
  intro p e s m args below meth c X hr hnm
  have X : CX E p l s m args meth c "DiceAuditLaw$Hand" cX11_audits 4 := X
  refine A_L (L' := [(0, .ref b)]) rfl ?_
  unfold f_X11_audits at h
  have hfr : ∀ q, q < b → hp q = hp q := fun q hq => rfl
  refine A_iconst (v := 0) X dX11_audits_0 (by decide) ?_
  refine A_istore_n (L' := [(1, .int 0), (0, .ref b)]) X dX11_audits_1 rfl (by decide) rfl ?_
  refine A_iconst (v := 0) X dX11_audits_2 (by decide) ?_
  refine A_istore_n (L' := [(2, .int 0), (1, .int 0), (0, .ref b)]) X dX11_audits_3 rfl (by decide) rfl ?_
  refine A_sub (L' := [(0, .ref b), (1, .int 0), (2, .int 0)]) [2, 1, 0] rfl ?_
  refine A_widen (k' := (Int32.toNatClampNeg uo)) (n' := 3 * (Int32.toNatClampNeg uo)) (Nat.zero_le _) (Nat.zero_le _) ?_
  exact c_X11_audits_L4 X hr  N G hfr h
def f_X11_isWorse (c0 : Nat → Int32) (c1 : Nat → Int32)  : Option (Int32) :=
  if (c0 (Int32.toNatClampNeg 2)) = (c1 (Int32.toNatClampNeg 2)) then
    if (c0 (Int32.toNatClampNeg 0)) = (c1 (Int32.toNatClampNeg 0)) then
      if (c1 (Int32.toNatClampNeg 1)) ≤ (c0 (Int32.toNatClampNeg 1)) then
        some 0
      else
        some 1
    else
      if (c1 (Int32.toNatClampNeg 0)) ≤ (c0 (Int32.toNatClampNeg 0)) then
        some 0
      else
        some 1
  else
    if (c0 (Int32.toNatClampNeg 2)) ≤ (c1 (Int32.toNatClampNeg 2)) then
      some 0
    else
      some 1
set_option maxHeartbeats 4000000 in
set_option maxRecDepth 100000 in
theorem c_X11_isWorse {E : KE} {l : Launch} {hp : Hp} {al : Option Nat} {b ub : Nat} {ul : Nat → Nat} {uw : Nat → Nat → Int32} {ut : Nat → Option (Nat → Int32)} {uq : Nat → Option (Nat → Int32)} {um : Int32} {uo : Int32} {us : Int64} {ui : Int32} {uh : Int32} {q0 : Nat} {c0 : Nat → Int32} {q1 : Nat} {c1 : Nat → Int32}  {out : Int32} (G : HandP E hp b ub ul uw ut uq um uo us ui uh) (k0 : hp q0 = some (rowc E 3 c0)) (k1 : hp q1 = some (rowc E 3 c1)) (h : f_X11_isWorse c0 c1 = some out) : AM E l yX11_isWorse cX11_isWorse 3 (Option.some Jvm.ClassFile.FieldType.boolean) ⟨0, 0, 0, 0⟩ [.ref b, .ref q0, .ref q1] hp al (kRet out hp al) := by
  refine A_of (by decide +kernel) (Nat.le_of_ble_eq_true rfl) ?_
  intro p e s m args below meth c X hr hnm
  have X : CX E p l s m args meth c "DiceAuditLaw$Hand" cX11_isWorse 3 := X
  refine A_L (L' := [(0, .ref b), (1, .ref q0), (2, .ref q1)]) rfl ?_
  unfold f_X11_isWorse at h
  refine A_aload_n X dX11_isWorse_0 1 rfl ?_
  refine A_iconst (v := 2) X dX11_isWorse_1 (by decide) ?_
  refine A_iald X dX11_isWorse_2 k0 (by decide) ?_
  refine A_aload_n X dX11_isWorse_3 2 rfl ?_
  refine A_iconst (v := 2) X dX11_isWorse_4 (by decide) ?_
  refine A_iald X dX11_isWorse_5 k1 (by decide) ?_
  refine A_icmp_eq (tgt := 26) X dX11_isWorse_6 h (by decide) (fun hc h => ?_) (fun hc h => ?_)
  · refine A_aload_n X dX11_isWorse_26 1 rfl ?_
    refine A_iconst (v := 0) X dX11_isWorse_27 (by decide) ?_
    refine A_iald X dX11_isWorse_28 k0 (by decide) ?_
    refine A_aload_n X dX11_isWorse_29 2 rfl ?_
    refine A_iconst (v := 0) X dX11_isWorse_30 (by decide) ?_
    refine A_iald X dX11_isWorse_31 k1 (by decide) ?_
    refine A_icmp_eq (tgt := 52) X dX11_isWorse_32 h (by decide) (fun hc h => ?_) (fun hc h => ?_)
    · refine A_aload_n X dX11_isWorse_52 1 rfl ?_
      refine A_iconst (v := 1) X dX11_isWorse_53 (by decide) ?_
      refine A_iald X dX11_isWorse_54 k0 (by decide) ?_
      refine A_aload_n X dX11_isWorse_55 2 rfl ?_
      refine A_iconst (v := 1) X dX11_isWorse_56 (by decide) ?_
      refine A_iald X dX11_isWorse_57 k1 (by decide) ?_
      refine A_icmp_ge (tgt := 65) X dX11_isWorse_58 h (by decide) (fun hc h => ?_) (fun hc h => ?_)
      · refine A_iconst (v := 0) X dX11_isWorse_65 (by decide) ?_
        cases h
        exact A_zret X dX11_isWorse_66 hr (Or.inl rfl) ⟨rfl, rfl, rfl⟩ (Nat.le_of_ble_eq_true rfl) (Nat.le_of_ble_eq_true rfl)
      · refine A_iconst (v := 1) X dX11_isWorse_61 (by decide) ?_
        refine A_goto (tgt := 66) X dX11_isWorse_62 (by decide) ?_
        cases h
        exact A_zret X dX11_isWorse_66 hr (Or.inr rfl) ⟨rfl, rfl, rfl⟩ (Nat.le_of_ble_eq_true rfl) (Nat.le_of_ble_eq_true rfl)
    · refine A_aload_n X dX11_isWorse_35 1 rfl ?_
      refine A_iconst (v := 0) X dX11_isWorse_36 (by decide) ?_
      refine A_iald X dX11_isWorse_37 k0 (by decide) ?_
      refine A_aload_n X dX11_isWorse_38 2 rfl ?_
      refine A_iconst (v := 0) X dX11_isWorse_39 (by decide) ?_
      refine A_iald X dX11_isWorse_40 k1 (by decide) ?_
      refine A_icmp_ge (tgt := 48) X dX11_isWorse_41 h (by decide) (fun hc h => ?_) (fun hc h => ?_)
      · refine A_iconst (v := 0) X dX11_isWorse_48 (by decide) ?_
        refine A_goto (tgt := 66) X dX11_isWorse_49 (by decide) ?_
        cases h
        exact A_zret X dX11_isWorse_66 hr (Or.inl rfl) ⟨rfl, rfl, rfl⟩ (Nat.le_of_ble_eq_true rfl) (Nat.le_of_ble_eq_true rfl)
      · refine A_iconst (v := 1) X dX11_isWorse_44 (by decide) ?_
        refine A_goto (tgt := 66) X dX11_isWorse_45 (by decide) ?_
        cases h
        exact A_zret X dX11_isWorse_66 hr (Or.inr rfl) ⟨rfl, rfl, rfl⟩ (Nat.le_of_ble_eq_true rfl) (Nat.le_of_ble_eq_true rfl)
  · refine A_aload_n X dX11_isWorse_9 1 rfl ?_
    refine A_iconst (v := 2) X dX11_isWorse_10 (by decide) ?_
    refine A_iald X dX11_isWorse_11 k0 (by decide) ?_
    refine A_aload_n X dX11_isWorse_12 2 rfl ?_
    refine A_iconst (v := 2) X dX11_isWorse_13 (by decide) ?_
    refine A_iald X dX11_isWorse_14 k1 (by decide) ?_
    refine A_icmp_le (tgt := 22) X dX11_isWorse_15 h (by decide) (fun hc h => ?_) (fun hc h => ?_)
    · refine A_iconst (v := 0) X dX11_isWorse_22 (by decide) ?_
      refine A_goto (tgt := 66) X dX11_isWorse_23 (by decide) ?_
      cases h
      exact A_zret X dX11_isWorse_66 hr (Or.inl rfl) ⟨rfl, rfl, rfl⟩ (Nat.le_of_ble_eq_true rfl) (Nat.le_of_ble_eq_true rfl)
    · refine A_iconst (v := 1) X dX11_isWorse_18 (by decide) ?_
      refine A_goto (tgt := 66) X dX11_isWorse_19 (by decide) ?_
      cases h
      exact A_zret X dX11_isWorse_66 hr (Or.inr rfl) ⟨rfl, rfl, rfl⟩ (Nat.le_of_ble_eq_true rfl) (Nat.le_of_ble_eq_true rfl)
def f_X11_rank_L34 (N : Nat) (uq : Nat → Option (Nat → Int32)) (uo : Int32) (r4 : Int32 → Int32 → Int32 → Option (Int32)) (l1 : Int32) (l2 : Int32) (l3 : Int32) : Option (Int32) :=
  r4 l1 l2 (l3 + 1)
set_option maxHeartbeats 4000000 in
set_option maxRecDepth 100000 in
theorem c_X11_rank_L34 {E : KE} {p : Program} {l : Launch} {e : Env} {s : State} {m : MethodId} {args : Array Value} {below : List Frame} {meth : Method} {c : Code} {al : Option Nat} {N : Nat} {b : Nat} {ul : Nat → Nat} {uw : Nat → Nat → Int32} {ut : Nat → Option (Nat → Int32)} {uq : Nat → Option (Nat → Int32)} {um : Int32} {uo : Int32} {us : Int64} {ui : Int32} {uh : Int32}  {ub : Nat} {hp0 : Hp} {out : Int32} {r4 : Int32 → Int32 → Int32 → Option (Int32)} (X : CX E p l s m args meth c "DiceAuditLaw$Hand" cX11_rank 4) (hr : meth.sig.returnType = (Option.some Jvm.ClassFile.FieldType.int)) (G : HandP E hp0 b ub ul uw ut uq um uo us ui uh)  (i4 : ∀ {l1 : Int32} {l2 : Int32} {l3 : Int32}, r4 l1 l2 l3 = some out → AW E p l e ⟨1, 0, 0, 22⟩ s m args below meth c 4 (MQ below (kQc E (kRet out hp0 al)) args s 0 0 (kA E)) hp0 al 0 0 4 [(0, .ref b), (1, .int l1), (2, .int l2), (3, .int l3)] []) : ∀ {l1 : Int32} {l2 : Int32} {l3 : Int32}, f_X11_rank_L34 N uq uo r4 l1 l2 l3 = some out → AW E p l e ⟨1, 0, 0, 22⟩ s m args below meth c 4 (MQ below (kQc E (kRet out hp0 al)) args s 0 0 (kA E)) hp0 al 0 0 34 [(0, .ref b), (1, .int l1), (2, .int l2), (3, .int l3)] [] := by
  intro l1 l2 l3 h
  unfold f_X11_rank_L34 at h
  refine A_iinc (j := 3) (v := (l3 + 1)) (L' := [(3, .int (l3 + 1)), (0, .ref b), (1, .int l1), (2, .int l2)]) X dX11_rank_34 rfl rfl (by decide) rfl ?_
  refine A_goto (tgt := 4) X dX11_rank_37 (by decide) ?_
  refine A_sub (L' := [(0, .ref b), (1, .int l1), (2, .int l2), (3, .int (l3 + 1))]) [1, 2, 3, 0] rfl ?_
  exact i4 h
def f_X11_rank_L4_F (N : Nat) (uq : Nat → Option (Nat → Int32)) (uo : Int32)  (r4 : Int32 → Int32 → Int32 → Option (Int32)) (l1 : Int32) (l2 : Int32) (l3 : Int32) : Option (Int32) :=
  if uo ≤ l3 then
    some l2
  else
    gd (inb l3 9) <|
    (uq (Int32.toNatClampNeg l3)).bind fun c1 =>
    gd (inb l1 9) <|
    (uq (Int32.toNatClampNeg l1)).bind fun c2 =>
    (f_X11_isWorse c1 c2).bind fun t3 =>
    if t3 = 0 then
      f_X11_rank_L34 N uq uo r4 l1 l2 l3
    else
      f_X11_rank_L34 N uq uo r4 l1 (l2 + 1) l3
def f_X11_rank_L4 (N : Nat) (uq : Nat → Option (Nat → Int32)) (uo : Int32)  : Nat → Int32 → Int32 → Int32 → Option (Int32)
  | 0 => fun _ _ _ => none
  | j + 1 => f_X11_rank_L4_F N uq uo (f_X11_rank_L4 N uq uo j)
set_option maxHeartbeats 4000000 in
set_option maxRecDepth 100000 in
theorem c_X11_rank_L4 {E : KE} {p : Program} {l : Launch} {e : Env} {s : State} {m : MethodId} {args : Array Value} {below : List Frame} {meth : Method} {c : Code} {al : Option Nat} {N : Nat} {b : Nat} {ul : Nat → Nat} {uw : Nat → Nat → Int32} {ut : Nat → Option (Nat → Int32)} {uq : Nat → Option (Nat → Int32)} {um : Int32} {uo : Int32} {us : Int64} {ui : Int32} {uh : Int32}  {ub : Nat} {hp0 : Hp} {out : Int32}  (X : CX E p l s m args meth c "DiceAuditLaw$Hand" cX11_rank 4) (hr : meth.sig.returnType = (Option.some Jvm.ClassFile.FieldType.int)) (G : HandP E hp0 b ub ul uw ut uq um uo us ui uh)  : ∀ (j : Nat), ∀ {l1 : Int32} {l2 : Int32} {l3 : Int32}, f_X11_rank_L4 N uq uo j l1 l2 l3 = some out → AW E p l e ⟨1, 0, 0, 22⟩ s m args below meth c 4 (MQ below (kQc E (kRet out hp0 al)) args s 0 0 (kA E)) hp0 al 0 0 4 [(0, .ref b), (1, .int l1), (2, .int l2), (3, .int l3)] [] := by
  intro j
  induction j with
  | zero =>
    intro l1 l2 l3 h
    have h : (none : Option (Int32)) = some out := h
    cases h
  | succ j i4 =>
    intro l1 l2 l3 h
    have h : f_X11_rank_L4_F N uq uo (f_X11_rank_L4 N uq uo j) l1 l2 l3 = some out := h
    unfold f_X11_rank_L4_F at h
    refine A_iload_n X dX11_rank_4 3 rfl ?_
    refine A_aload_n X dX11_rank_5 0 rfl ?_
    refine A_get X dX11_rank_6 kcl_X11 4 (by decide) kw_835 G.1 rfl ?_
    refine A_icmp_ge (tgt := 40) X dX11_rank_9 h (by decide) (fun hc h => ?_) (fun hc h => ?_)
    · refine A_iload_n X dX11_rank_40 2 rfl ?_
      cases h
      exact A_iret X dX11_rank_41 hr ⟨rfl, rfl, rfl⟩ (Nat.le_of_ble_eq_true rfl) (Nat.le_of_ble_eq_true rfl)
    · refine A_aload_n X dX11_rank_12 0 rfl ?_
      refine A_aload_n X dX11_rank_13 0 rfl ?_
      refine A_get X dX11_rank_14 kcl_X11 2 (by decide) kw_833 G.1 rfl ?_
      refine A_iload_n X dX11_rank_17 3 rfl ?_
      obtain ⟨hq, h⟩ := gd_o h
      obtain ⟨c1, hc1, h⟩ := bind_o h
      refine A_row X dX11_rank_18 G.2.2.2.2.1 hq hc1 (fun q1 hb1 k1 => ?_)
      refine A_aload_n X dX11_rank_19 0 rfl ?_
      refine A_get X dX11_rank_20 kcl_X11 2 (by decide) kw_833 G.1 rfl ?_
      refine A_iload_n X dX11_rank_23 1 rfl ?_
      obtain ⟨hq, h⟩ := gd_o h
      obtain ⟨c2, hc2, h⟩ := bind_o h
      refine A_row X dX11_rank_24 G.2.2.2.2.1 hq hc2 (fun q2 hb2 k2 => ?_)
      obtain ⟨t3, hct3, h⟩ := bind_o h
      refine A_cp (k' := 0) (n' := 0) (A_runV (rest := []) X dX11_rank_25 (c_X11_isWorse G k1 k2 hct3) kY_X11_isWorse kw_899 G.1 rfl rfl ⟨(Nat.le_of_ble_eq_true rfl), (Nat.le_of_ble_eq_true rfl), (Nat.le_of_ble_eq_true rfl), (Nat.le_of_ble_eq_true rfl)⟩ rfl (Nat.le_of_ble_eq_true rfl)) rfl rfl ?_
      refine A_if_eq (tgt := 34) X dX11_rank_28 h (by decide) (fun hc h => ?_) (fun hc h => ?_)
      · refine A_sub (L' := [(0, .ref b), (1, .int l1), (2, .int l2), (3, .int l3)]) [0, 1, 2, 3] rfl ?_
        exact c_X11_rank_L34 X hr G i4 h
      · refine A_iinc (j := 2) (v := (l2 + 1)) (L' := [(2, .int (l2 + 1)), (0, .ref b), (1, .int l1), (3, .int l3)]) X dX11_rank_31 rfl rfl (by decide) rfl ?_
        refine A_sub (L' := [(0, .ref b), (1, .int l1), (2, .int (l2 + 1)), (3, .int l3)]) [1, 2, 0, 3] rfl ?_
        exact c_X11_rank_L34 X hr G i4 h
def f_X11_rank (N : Nat) (uq : Nat → Option (Nat → Int32)) (uo : Int32) (a0 : Int32) : Option (Int32) :=
  f_X11_rank_L4 N uq uo N a0 0 0
set_option maxHeartbeats 4000000 in
set_option maxRecDepth 100000 in
theorem c_X11_rank {E : KE} {l : Launch} {hp : Hp} {al : Option Nat} {N : Nat} {b ub : Nat} {ul : Nat → Nat} {uw : Nat → Nat → Int32} {ut : Nat → Option (Nat → Int32)} {uq : Nat → Option (Nat → Int32)} {um : Int32} {uo : Int32} {us : Int64} {ui : Int32} {uh : Int32}  {a0 : Int32} {out : Int32} (G : HandP E hp b ub ul uw ut uq um uo us ui uh) (h : f_X11_rank N uq uo a0 = some out) : AM E l yX11_rank cX11_rank 4 (Option.some Jvm.ClassFile.FieldType.int) ⟨1, 0, 0, 22⟩ [.ref b, .int a0] hp al (kRet out hp al) := by
  refine A_of (by decide +kernel) (Nat.le_of_ble_eq_true rfl) ?_
  intro p e s m args below meth c X hr hnm
  have X : CX E p l s m args meth c "DiceAuditLaw$Hand" cX11_rank 4 := X
  refine A_L (L' := [(0, .ref b), (1, .int a0)]) rfl ?_
  unfold f_X11_rank at h
  refine A_iconst (v := 0) X dX11_rank_0 (by decide) ?_
  refine A_istore_n (L' := [(2, .int 0), (0, .ref b), (1, .int a0)]) X dX11_rank_1 rfl (by decide) rfl ?_
  refine A_iconst (v := 0) X dX11_rank_2 (by decide) ?_
  refine A_istore_n (L' := [(3, .int 0), (2, .int 0), (0, .ref b), (1, .int a0)]) X dX11_rank_3 rfl (by decide) rfl ?_
  refine A_sub (L' := [(0, .ref b), (1, .int a0), (2, .int 0), (3, .int 0)]) [2, 3, 1, 0] rfl ?_
  exact c_X11_rank_L4 X hr G N h
def f_X11_unqueue  (uq : Nat → Option (Nat → Int32)) (uo : Int32) (a0 : Int32) : Option ((Nat → Option (Nat → Int32)) × Int32) :=
  gd (inb (uo - 1) 9) <|
  (uq (Int32.toNatClampNeg (uo - 1))).bind fun c1 =>
  gd (inb a0 9) <|
  some ((upo uq (Int32.toNatClampNeg a0) c1), (uo - 1))
set_option maxHeartbeats 4000000 in
set_option maxRecDepth 100000 in
theorem c_X11_unqueue {E : KE} {l : Launch} {hp : Hp} {b ub : Nat} {ul : Nat → Nat} {uw : Nat → Nat → Int32} {ut : Nat → Option (Nat → Int32)} {uq : Nat → Option (Nat → Int32)} {um : Int32} {uo : Int32} {us : Int64} {ui : Int32} {uh : Int32}  {a0 : Int32} {out : (Nat → Option (Nat → Int32)) × Int32} (G : HandP E hp b ub ul uw ut uq um uo us ui uh) (h : f_X11_unqueue uq uo a0 = some out) : AM E l yX11_unqueue cX11_unqueue 2 (Option.none : Option Jvm.ClassFile.FieldType) ⟨0, 0, 0, 0⟩ [.ref b, .int a0] hp none (PHt E b hp none ul uw ut out.1 um out.2 us ui uh) := by
  refine A_of (by decide +kernel) (Nat.le_of_ble_eq_true rfl) ?_
  intro p e s m args below meth c X hr hnm
  have X : CX E p l s m args meth c "DiceAuditLaw$Hand" cX11_unqueue 2 := X
  refine A_L (L' := [(0, .ref b), (1, .int a0)]) rfl ?_
  unfold f_X11_unqueue at h
  have hfr : ∀ q, q < b → hp q = hp q := fun q hq => rfl
  refine A_aload_n X dX11_unqueue_0 0 rfl ?_
  refine A_dup X dX11_unqueue_1 rfl ?_
  refine A_get X dX11_unqueue_2 kcl_X11 4 (by decide) kw_835 G.1 rfl ?_
  refine A_iconst (v := 1) X dX11_unqueue_5 (by decide) ?_
  refine A_isub X dX11_unqueue_6 ?_
  refine A_put X dX11_unqueue_7 kcl_X11 4 (by decide) kw_835 G.1 rfl rfl rfl (by simp) (fun hp1 k1 n1 => ?_)
  have G : HandP E hp1 b ub ul uw ut uq um (uo - 1) us ui uh := G.obj k1 n1
  have hfr : ∀ q, q < b → hp1 q = hp q := fun q hq => (n1 q (by omega)).trans (hfr q hq)
  refine A_aload_n X dX11_unqueue_10 0 rfl ?_
  refine A_get X dX11_unqueue_11 kcl_X11 2 (by decide) kw_833 G.1 rfl ?_
  refine A_iload_n X dX11_unqueue_14 1 rfl ?_
  refine A_aload_n X dX11_unqueue_15 0 rfl ?_
  refine A_get X dX11_unqueue_16 kcl_X11 2 (by decide) kw_833 G.1 rfl ?_
  refine A_aload_n X dX11_unqueue_19 0 rfl ?_
  refine A_get X dX11_unqueue_20 kcl_X11 4 (by decide) kw_835 G.1 rfl ?_
  obtain ⟨hq, h⟩ := gd_o h
  obtain ⟨c1, hc1, h⟩ := bind_o h
  refine A_row X dX11_unqueue_23 G.2.2.2.2.1 hq hc1 (fun q1 hb1 k1 => ?_)
  obtain ⟨hq, h⟩ := gd_o h
  refine A_qput X dX11_unqueue_24 kw_708 G hq k1 hb1.1 hb1.2 (fun hp2 G n2 => ?_)
  have hfr : ∀ q, q < b → hp2 q = hp q := fun q hq => (n2 q (by omega)).trans (hfr q hq)
  cases h
  exact A_vret X dX11_unqueue_25 hr ⟨rfl, ⟨_, G⟩, hfr⟩ (Nat.le_of_ble_eq_true rfl) (Nat.le_of_ble_eq_true rfl)
def f_X11_absolves_L173 (N : Nat) (ul : Nat → Nat) (uw : Nat → Nat → Int32)  (l2 : Int32) (l3 : Int32) (l5 : Int32) (ut : Nat → Option (Nat → Int32)) (uq : Nat → Option (Nat → Int32)) (um : Int32) (uo : Int32) (us : Int64) : Option (Int32 × (Nat → Option (Nat → Int32)) × (Nat → Option (Nat → Int32)) × Int32 × Int32 × Int64) :=
  (f_X11_throwsDie N ul uw ut um us l2 l3 l5 1).bind fun t7 =>
  some (t7.1, t7.2.1, uq, t7.2.2.1, uo, t7.2.2.2)
set_option maxHeartbeats 4000000 in
set_option maxRecDepth 100000 in
theorem c_X11_absolves_L173 {E : KE} {p : Program} {l : Launch} {e : Env} {s : State} {m : MethodId} {args : Array Value} {below : List Frame} {meth : Method} {c : Code} {N : Nat} {b : Nat} {ul : Nat → Nat} {uw : Nat → Nat → Int32} {ui : Int32} {uh : Int32}  {hp0 : Hp} {out : Int32 × (Nat → Option (Nat → Int32)) × (Nat → Option (Nat → Int32)) × Int32 × Int32 × Int64}  (X : CX E p l s m args meth c "DiceAuditLaw$Hand" cX11_absolves 8) (hr : meth.sig.returnType = (Option.some Jvm.ClassFile.FieldType.int))  : ∀ {l2 : Int32} {l3 : Int32} {l5 : Int32} {ut : Nat → Option (Nat → Int32)} {uq : Nat → Option (Nat → Int32)} {um : Int32} {uo : Int32} {us : Int64} {ub : Nat} {hp : Hp}, HandP E hp b ub ul uw ut uq um uo us ui uh → (∀ q, q < b → hp q = hp0 q) → f_X11_absolves_L173 N ul uw l2 l3 l5 ut uq um uo us = some out → AW E p l e ⟨2, 400, 1600, 52⟩ s m args below meth c 8 (MQ below (kQc E (PHt E b hp0 (some (.int out.1)) ul uw out.2.1 out.2.2.1 out.2.2.2.1 out.2.2.2.2.1 out.2.2.2.2.2 ui uh)) args s 400 1600 (kA E)) hp none 0 0 173 [(0, .ref b), (2, .int l2), (3, .int l3), (5, .int l5)] [] := by
  intro l2 l3 l5 ut uq um uo us ub hp G hfr h
  unfold f_X11_absolves_L173 at h
  refine A_aload_n X dX11_absolves_173 0 rfl ?_
  refine A_iload_n X dX11_absolves_174 1 rfl ?_
  refine A_iload_n X dX11_absolves_175 2 rfl ?_
  refine A_iload X dX11_absolves_176 3 rfl ?_
  refine A_iconst (v := 1) X dX11_absolves_178 (by decide) ?_
  obtain ⟨t7, hct7, h⟩ := bind_o h
  refine A_c (k' := 400) (n' := 1600) rfl rfl (A_runV (rest := []) X dX11_absolves_179 (c_X11_throwsDie G  hct7) kY_X11_throwsDie kw_860 G.1 rfl rfl ⟨(Nat.le_of_ble_eq_true rfl), (Nat.le_of_ble_eq_true rfl), (Nat.le_of_ble_eq_true rfl), (Nat.le_of_ble_eq_true rfl)⟩ rfl (Nat.le_of_ble_eq_true rfl)) (fun v9 hp2 al9 hP => ?_)
  obtain ⟨rfl, ⟨ub2, G⟩, n2⟩ := hP
  refine A_al ?_
  have hfr : ∀ q, q < b → hp2 q = hp0 q := fun q hq => (n2 q hq).trans (hfr q hq)
  have G : HandP E hp2 b ub2 ul uw t7.2.1 uq t7.2.2.1 uo t7.2.2.2 ui uh := G
  refine A_st (st' := [.int t7.1]) rfl ?_
  cases h
  exact A_iret X dX11_absolves_182 hr ⟨rfl, ⟨_, G⟩, hfr⟩ (Nat.le_of_ble_eq_true rfl) (Nat.le_of_ble_eq_true rfl)
def f_X11_absolves_L167 (N : Nat) (ul : Nat → Nat) (uw : Nat → Nat → Int32) (r80 : Int32 → Int32 → Int32 → Int32 → Int32 → (Nat → Option (Nat → Int32)) → (Nat → Option (Nat → Int32)) → Int32 → Int32 → Int64 → Option (Int32 × (Nat → Option (Nat → Int32)) × (Nat → Option (Nat → Int32)) × Int32 × Int32 × Int64)) (l2 : Int32) (l3 : Int32) (l4 : Int32) (l5 : Int32) (l6 : Int32) (ut : Nat → Option (Nat → Int32)) (uq : Nat → Option (Nat → Int32)) (um : Int32) (uo : Int32) (us : Int64) : Option (Int32 × (Nat → Option (Nat → Int32)) × (Nat → Option (Nat → Int32)) × Int32 × Int32 × Int64) :=
  r80 l2 l3 l4 l5 (l6 + (-1)) ut uq um uo us
set_option maxHeartbeats 4000000 in
set_option maxRecDepth 100000 in
theorem c_X11_absolves_L167 {E : KE} {p : Program} {l : Launch} {e : Env} {s : State} {m : MethodId} {args : Array Value} {below : List Frame} {meth : Method} {c : Code} {N : Nat} {b : Nat} {ul : Nat → Nat} {uw : Nat → Nat → Int32} {ui : Int32} {uh : Int32}  {hp0 : Hp} {out : Int32 × (Nat → Option (Nat → Int32)) × (Nat → Option (Nat → Int32)) × Int32 × Int32 × Int64} {r80 : Int32 → Int32 → Int32 → Int32 → Int32 → (Nat → Option (Nat → Int32)) → (Nat → Option (Nat → Int32)) → Int32 → Int32 → Int64 → Option (Int32 × (Nat → Option (Nat → Int32)) × (Nat → Option (Nat → Int32)) × Int32 × Int32 × Int64)} (X : CX E p l s m args meth c "DiceAuditLaw$Hand" cX11_absolves 8) (hr : meth.sig.returnType = (Option.some Jvm.ClassFile.FieldType.int))  (i80 : ∀ {l2 : Int32} {l3 : Int32} {l4 : Int32} {l5 : Int32} {l6 : Int32} {ut : Nat → Option (Nat → Int32)} {uq : Nat → Option (Nat → Int32)} {um : Int32} {uo : Int32} {us : Int64} {ub : Nat} {hp : Hp}, HandP E hp b ub ul uw ut uq um uo us ui uh → (∀ q, q < b → hp q = hp0 q) → r80 l2 l3 l4 l5 l6 ut uq um uo us = some out → AW E p l e ⟨2, 400, 1600, 52⟩ s m args below meth c 8 (MQ below (kQc E (PHt E b hp0 (some (.int out.1)) ul uw out.2.1 out.2.2.1 out.2.2.2.1 out.2.2.2.2.1 out.2.2.2.2.2 ui uh)) args s 400 1600 (kA E)) hp none 0 0 80 [(0, .ref b), (2, .int l2), (3, .int l3), (4, .int l4), (5, .int l5), (6, .int l6)] []) : ∀ {l2 : Int32} {l3 : Int32} {l4 : Int32} {l5 : Int32} {l6 : Int32} {ut : Nat → Option (Nat → Int32)} {uq : Nat → Option (Nat → Int32)} {um : Int32} {uo : Int32} {us : Int64} {ub : Nat} {hp : Hp}, HandP E hp b ub ul uw ut uq um uo us ui uh → (∀ q, q < b → hp q = hp0 q) → f_X11_absolves_L167 N ul uw r80 l2 l3 l4 l5 l6 ut uq um uo us = some out → AW E p l e ⟨2, 400, 1600, 52⟩ s m args below meth c 8 (MQ below (kQc E (PHt E b hp0 (some (.int out.1)) ul uw out.2.1 out.2.2.1 out.2.2.2.1 out.2.2.2.2.1 out.2.2.2.2.2 ui uh)) args s 400 1600 (kA E)) hp none 0 0 167 [(0, .ref b), (2, .int l2), (3, .int l3), (4, .int l4), (5, .int l5), (6, .int l6)] [] := by
  intro l2 l3 l4 l5 l6 ut uq um uo us ub hp G hfr h
  unfold f_X11_absolves_L167 at h
  refine A_iinc (j := 5) (v := (l6 + (-1))) (L' := [(6, .int (l6 + (-1))), (0, .ref b), (2, .int l2), (3, .int l3), (4, .int l4), (5, .int l5)]) X dX11_absolves_167 rfl rfl (by decide) rfl ?_
  refine A_goto (tgt := 80) X dX11_absolves_170 (by decide) ?_
  refine A_sub (L' := [(0, .ref b), (2, .int l2), (3, .int l3), (4, .int l4), (5, .int l5), (6, .int (l6 + (-1)))]) [1, 2, 3, 4, 5, 0] rfl ?_
  exact i80 G hfr h
def f_X11_absolves_L136_F (N : Nat) (ul : Nat → Nat) (uw : Nat → Nat → Int32) (r80 : Int32 → Int32 → Int32 → Int32 → Int32 → (Nat → Option (Nat → Int32)) → (Nat → Option (Nat → Int32)) → Int32 → Int32 → Int64 → Option (Int32 × (Nat → Option (Nat → Int32)) × (Nat → Option (Nat → Int32)) × Int32 × Int32 × Int64)) (r136 : Int32 → Int32 → Int32 → Int32 → Int32 → Int32 → (Nat → Option (Nat → Int32)) → (Nat → Option (Nat → Int32)) → Int32 → Int32 → Int64 → Option (Int32 × (Nat → Option (Nat → Int32)) × (Nat → Option (Nat → Int32)) × Int32 × Int32 × Int64)) (l2 : Int32) (l3 : Int32) (l4 : Int32) (l5 : Int32) (l6 : Int32) (l7 : Int32) (ut : Nat → Option (Nat → Int32)) (uq : Nat → Option (Nat → Int32)) (um : Int32) (uo : Int32) (us : Int64) : Option (Int32 × (Nat → Option (Nat → Int32)) × (Nat → Option (Nat → Int32)) × Int32 × Int32 × Int64) :=
  if um ≤ l7 then
    f_X11_absolves_L167 N ul uw r80 l2 l3 l4 l5 l6 ut uq um uo us
  else
    gd (inb (l7 + 1) 400) <|
    (ut (Int32.toNatClampNeg (l7 + 1))).bind fun c9 =>
    gd (inb l7 400) <|
    r136 l2 l3 l4 l5 l6 (l7 + 1) (upo ut (Int32.toNatClampNeg l7) c9) uq um uo us
def f_X11_absolves_L136 (N : Nat) (ul : Nat → Nat) (uw : Nat → Nat → Int32) (r80 : Int32 → Int32 → Int32 → Int32 → Int32 → (Nat → Option (Nat → Int32)) → (Nat → Option (Nat → Int32)) → Int32 → Int32 → Int64 → Option (Int32 × (Nat → Option (Nat → Int32)) × (Nat → Option (Nat → Int32)) × Int32 × Int32 × Int64)) : Nat → Int32 → Int32 → Int32 → Int32 → Int32 → Int32 → (Nat → Option (Nat → Int32)) → (Nat → Option (Nat → Int32)) → Int32 → Int32 → Int64 → Option (Int32 × (Nat → Option (Nat → Int32)) × (Nat → Option (Nat → Int32)) × Int32 × Int32 × Int64)
  | 0 => fun _ _ _ _ _ _ _ _ _ _ _ => none
  | j + 1 => f_X11_absolves_L136_F N ul uw r80 (f_X11_absolves_L136 N ul uw r80 j)
set_option maxHeartbeats 4000000 in
set_option maxRecDepth 100000 in
theorem c_X11_absolves_L136 {E : KE} {p : Program} {l : Launch} {e : Env} {s : State} {m : MethodId} {args : Array Value} {below : List Frame} {meth : Method} {c : Code} {N : Nat} {b : Nat} {ul : Nat → Nat} {uw : Nat → Nat → Int32} {ui : Int32} {uh : Int32}  {hp0 : Hp} {out : Int32 × (Nat → Option (Nat → Int32)) × (Nat → Option (Nat → Int32)) × Int32 × Int32 × Int64} {r80 : Int32 → Int32 → Int32 → Int32 → Int32 → (Nat → Option (Nat → Int32)) → (Nat → Option (Nat → Int32)) → Int32 → Int32 → Int64 → Option (Int32 × (Nat → Option (Nat → Int32)) × (Nat → Option (Nat → Int32)) × Int32 × Int32 × Int64)} (X : CX E p l s m args meth c "DiceAuditLaw$Hand" cX11_absolves 8) (hr : meth.sig.returnType = (Option.some Jvm.ClassFile.FieldType.int))  (i80 : ∀ {l2 : Int32} {l3 : Int32} {l4 : Int32} {l5 : Int32} {l6 : Int32} {ut : Nat → Option (Nat → Int32)} {uq : Nat → Option (Nat → Int32)} {um : Int32} {uo : Int32} {us : Int64} {ub : Nat} {hp : Hp}, HandP E hp b ub ul uw ut uq um uo us ui uh → (∀ q, q < b → hp q = hp0 q) → r80 l2 l3 l4 l5 l6 ut uq um uo us = some out → AW E p l e ⟨2, 400, 1600, 52⟩ s m args below meth c 8 (MQ below (kQc E (PHt E b hp0 (some (.int out.1)) ul uw out.2.1 out.2.2.1 out.2.2.2.1 out.2.2.2.2.1 out.2.2.2.2.2 ui uh)) args s 400 1600 (kA E)) hp none 0 0 80 [(0, .ref b), (2, .int l2), (3, .int l3), (4, .int l4), (5, .int l5), (6, .int l6)] []) : ∀ (j : Nat), ∀ {l2 : Int32} {l3 : Int32} {l4 : Int32} {l5 : Int32} {l6 : Int32} {l7 : Int32} {ut : Nat → Option (Nat → Int32)} {uq : Nat → Option (Nat → Int32)} {um : Int32} {uo : Int32} {us : Int64} {ub : Nat} {hp : Hp}, HandP E hp b ub ul uw ut uq um uo us ui uh → (∀ q, q < b → hp q = hp0 q) → f_X11_absolves_L136 N ul uw r80 j l2 l3 l4 l5 l6 l7 ut uq um uo us = some out → AW E p l e ⟨2, 400, 1600, 52⟩ s m args below meth c 8 (MQ below (kQc E (PHt E b hp0 (some (.int out.1)) ul uw out.2.1 out.2.2.1 out.2.2.2.1 out.2.2.2.2.1 out.2.2.2.2.2 ui uh)) args s 400 1600 (kA E)) hp none 0 0 136 [(0, .ref b), (2, .int l2), (3, .int l3), (4, .int l4), (5, .int l5), (6, .int l6), (7, .int l7)] [] := by
  intro j
  induction j with
  | zero =>
    intro l2 l3 l4 l5 l6 l7 ut uq um uo us ub hp G hfr h
    have h : (none : Option (Int32 × (Nat → Option (Nat → Int32)) × (Nat → Option (Nat → Int32)) × Int32 × Int32 × Int64)) = some out := h
    cases h
  | succ j i136 =>
    intro l2 l3 l4 l5 l6 l7 ut uq um uo us ub hp G hfr h
    have h : f_X11_absolves_L136_F N ul uw r80 (f_X11_absolves_L136 N ul uw r80 j) l2 l3 l4 l5 l6 l7 ut uq um uo us = some out := h
    unfold f_X11_absolves_L136_F at h
    refine A_iload X dX11_absolves_136 6 rfl ?_
    refine A_aload_n X dX11_absolves_138 0 rfl ?_
    refine A_get X dX11_absolves_139 kcl_X11 3 (by decide) kw_834 G.1 rfl ?_
    refine A_icmp_ge (tgt := 167) X dX11_absolves_142 h (by decide) (fun hc h => ?_) (fun hc h => ?_)
    · refine A_sub (L' := [(0, .ref b), (2, .int l2), (3, .int l3), (4, .int l4), (5, .int l5), (6, .int l6)]) [0, 1, 2, 3, 4, 5] rfl ?_
      exact c_X11_absolves_L167 X hr i80 G hfr h
    · refine A_aload_n X dX11_absolves_145 0 rfl ?_
      refine A_get X dX11_absolves_146 kcl_X11 1 (by decide) kw_832 G.1 rfl ?_
      refine A_iload X dX11_absolves_149 6 rfl ?_
      refine A_aload_n X dX11_absolves_151 0 rfl ?_
      refine A_get X dX11_absolves_152 kcl_X11 1 (by decide) kw_832 G.1 rfl ?_
      refine A_iload X dX11_absolves_155 6 rfl ?_
      refine A_iconst (v := 1) X dX11_absolves_157 (by decide) ?_
      refine A_iadd X dX11_absolves_158 ?_
      obtain ⟨hq, h⟩ := gd_o h
      obtain ⟨c9, hc9, h⟩ := bind_o h
      refine A_row X dX11_absolves_159 G.2.2.2.1 hq hc9 (fun q9 hb9 k9 => ?_)
      obtain ⟨hq, h⟩ := gd_o h
      refine A_tput X dX11_absolves_160 kw_708 G hq k9 hb9.1 hb9.2 (fun hp3 G n3 => ?_)
      have hfr : ∀ q, q < b → hp3 q = hp0 q := fun q hq => (n3 q (by omega)).trans (hfr q hq)
      refine A_iinc (j := 6) (v := (l7 + 1)) (L' := [(7, .int (l7 + 1)), (0, .ref b), (2, .int l2), (3, .int l3), (4, .int l4), (5, .int l5), (6, .int l6)]) X dX11_absolves_161 rfl rfl (by decide) rfl ?_
      refine A_goto (tgt := 136) X dX11_absolves_164 (by decide) ?_
      refine A_sub (L' := [(0, .ref b), (2, .int l2), (3, .int l3), (4, .int l4), (5, .int l5), (6, .int l6), (7, .int (l7 + 1))]) [1, 2, 3, 4, 5, 6, 0] rfl ?_
      exact i136 G hfr h
def f_X11_absolves_L80_F (N : Nat) (ul : Nat → Nat) (uw : Nat → Nat → Int32)  (r80 : Int32 → Int32 → Int32 → Int32 → Int32 → (Nat → Option (Nat → Int32)) → (Nat → Option (Nat → Int32)) → Int32 → Int32 → Int64 → Option (Int32 × (Nat → Option (Nat → Int32)) × (Nat → Option (Nat → Int32)) × Int32 × Int32 × Int64)) (l2 : Int32) (l3 : Int32) (l4 : Int32) (l5 : Int32) (l6 : Int32) (ut : Nat → Option (Nat → Int32)) (uq : Nat → Option (Nat → Int32)) (um : Int32) (uo : Int32) (us : Int64) : Option (Int32 × (Nat → Option (Nat → Int32)) × (Nat → Option (Nat → Int32)) × Int32 × Int32 × Int64) :=
  if l6 < 0 then
    f_X11_absolves_L173 N ul uw l2 l3 l5 ut uq um uo us
  else
    if l4 ≤ 0 then
      f_X11_absolves_L173 N ul uw l2 l3 l5 ut uq um uo us
    else
      gd (inb l6 400) <|
      (ut (Int32.toNatClampNeg l6)).bind fun c7 =>
      if (c7 (Int32.toNatClampNeg 0)) = l2 then
        gd (inb l6 400) <|
        (ut (Int32.toNatClampNeg l6)).bind fun c8 =>
        if (c8 (Int32.toNatClampNeg 1)) = l3 then
          f_X11_absolves_L136 N ul uw r80 N l2 l3 (l4 + (-1)) l5 l6 l6 ut uq (um - 1) uo us
        else
          f_X11_absolves_L167 N ul uw r80 l2 l3 l4 l5 l6 ut uq um uo us
      else
        f_X11_absolves_L167 N ul uw r80 l2 l3 l4 l5 l6 ut uq um uo us
def f_X11_absolves_L80 (N : Nat) (ul : Nat → Nat) (uw : Nat → Nat → Int32)  : Nat → Int32 → Int32 → Int32 → Int32 → Int32 → (Nat → Option (Nat → Int32)) → (Nat → Option (Nat → Int32)) → Int32 → Int32 → Int64 → Option (Int32 × (Nat → Option (Nat → Int32)) × (Nat → Option (Nat → Int32)) × Int32 × Int32 × Int64)
  | 0 => fun _ _ _ _ _ _ _ _ _ _ => none
  | j + 1 => f_X11_absolves_L80_F N ul uw (f_X11_absolves_L80 N ul uw j)
set_option maxHeartbeats 4000000 in
set_option maxRecDepth 100000 in
theorem c_X11_absolves_L80 {E : KE} {p : Program} {l : Launch} {e : Env} {s : State} {m : MethodId} {args : Array Value} {below : List Frame} {meth : Method} {c : Code} {N : Nat} {b : Nat} {ul : Nat → Nat} {uw : Nat → Nat → Int32} {ui : Int32} {uh : Int32}  {hp0 : Hp} {out : Int32 × (Nat → Option (Nat → Int32)) × (Nat → Option (Nat → Int32)) × Int32 × Int32 × Int64}  (X : CX E p l s m args meth c "DiceAuditLaw$Hand" cX11_absolves 8) (hr : meth.sig.returnType = (Option.some Jvm.ClassFile.FieldType.int))  : ∀ (j : Nat), ∀ {l2 : Int32} {l3 : Int32} {l4 : Int32} {l5 : Int32} {l6 : Int32} {ut : Nat → Option (Nat → Int32)} {uq : Nat → Option (Nat → Int32)} {um : Int32} {uo : Int32} {us : Int64} {ub : Nat} {hp : Hp}, HandP E hp b ub ul uw ut uq um uo us ui uh → (∀ q, q < b → hp q = hp0 q) → f_X11_absolves_L80 N ul uw j l2 l3 l4 l5 l6 ut uq um uo us = some out → AW E p l e ⟨2, 400, 1600, 52⟩ s m args below meth c 8 (MQ below (kQc E (PHt E b hp0 (some (.int out.1)) ul uw out.2.1 out.2.2.1 out.2.2.2.1 out.2.2.2.2.1 out.2.2.2.2.2 ui uh)) args s 400 1600 (kA E)) hp none 0 0 80 [(0, .ref b), (2, .int l2), (3, .int l3), (4, .int l4), (5, .int l5), (6, .int l6)] [] := by
  intro j
  induction j with
  | zero =>
    intro l2 l3 l4 l5 l6 ut uq um uo us ub hp G hfr h
    have h : (none : Option (Int32 × (Nat → Option (Nat → Int32)) × (Nat → Option (Nat → Int32)) × Int32 × Int32 × Int64)) = some out := h
    cases h
  | succ j i80 =>
    intro l2 l3 l4 l5 l6 ut uq um uo us ub hp G hfr h
    have h : f_X11_absolves_L80_F N ul uw (f_X11_absolves_L80 N ul uw j) l2 l3 l4 l5 l6 ut uq um uo us = some out := h
    unfold f_X11_absolves_L80_F at h
    refine A_iload X dX11_absolves_80 5 rfl ?_
    refine A_if_lt (tgt := 173) X dX11_absolves_82 h (by decide) (fun hc h => ?_) (fun hc h => ?_)
    · refine A_sub (L' := [(0, .ref b), (2, .int l2), (3, .int l3), (5, .int l5)]) [0, 1, 2, 4] rfl ?_
      exact c_X11_absolves_L173 X hr  G hfr h
    · refine A_iload X dX11_absolves_85 3 rfl ?_
      refine A_if_le (tgt := 173) X dX11_absolves_87 h (by decide) (fun hc h => ?_) (fun hc h => ?_)
      · refine A_sub (L' := [(0, .ref b), (2, .int l2), (3, .int l3), (5, .int l5)]) [0, 1, 2, 4] rfl ?_
        exact c_X11_absolves_L173 X hr  G hfr h
      · refine A_aload_n X dX11_absolves_90 0 rfl ?_
        refine A_get X dX11_absolves_91 kcl_X11 1 (by decide) kw_832 G.1 rfl ?_
        refine A_iload X dX11_absolves_94 5 rfl ?_
        obtain ⟨hq, h⟩ := gd_o h
        obtain ⟨c7, hc7, h⟩ := bind_o h
        refine A_row X dX11_absolves_96 G.2.2.2.1 hq hc7 (fun q7 hb7 k7 => ?_)
        refine A_iconst (v := 0) X dX11_absolves_97 (by decide) ?_
        refine A_iald X dX11_absolves_98 k7 (by decide) ?_
        refine A_iload_n X dX11_absolves_99 1 rfl ?_
        refine A_icmp_ne (tgt := 167) X dX11_absolves_100 h (by decide) (fun hc h => ?_) (fun hc h => ?_)
        · refine A_sub (L' := [(0, .ref b), (2, .int l2), (3, .int l3), (4, .int l4), (5, .int l5), (6, .int l6)]) [0, 1, 2, 3, 4, 5] rfl ?_
          exact c_X11_absolves_L167 X hr i80 G hfr h
        · refine A_aload_n X dX11_absolves_103 0 rfl ?_
          refine A_get X dX11_absolves_104 kcl_X11 1 (by decide) kw_832 G.1 rfl ?_
          refine A_iload X dX11_absolves_107 5 rfl ?_
          obtain ⟨hq, h⟩ := gd_o h
          obtain ⟨c8, hc8, h⟩ := bind_o h
          refine A_row X dX11_absolves_109 G.2.2.2.1 hq hc8 (fun q8 hb8 k8 => ?_)
          refine A_iconst (v := 1) X dX11_absolves_110 (by decide) ?_
          refine A_iald X dX11_absolves_111 k8 (by decide) ?_
          refine A_iload_n X dX11_absolves_112 2 rfl ?_
          refine A_icmp_eq (tgt := 119) X dX11_absolves_113 h (by decide) (fun hc h => ?_) (fun hc h => ?_)
          · refine A_iinc (j := 3) (v := (l4 + (-1))) (L' := [(4, .int (l4 + (-1))), (0, .ref b), (2, .int l2), (3, .int l3), (5, .int l5), (6, .int l6)]) X dX11_absolves_119 rfl rfl (by decide) rfl ?_
            refine A_aload_n X dX11_absolves_122 1 rfl ?_
            refine A_dup X dX11_absolves_123 rfl ?_
            refine A_get X dX11_absolves_124 kcl_X11 3 (by decide) kw_834 G.1 rfl ?_
            refine A_iconst (v := 1) X dX11_absolves_127 (by decide) ?_
            refine A_isub X dX11_absolves_128 ?_
            refine A_put X dX11_absolves_129 kcl_X11 3 (by decide) kw_834 G.1 rfl rfl rfl (by simp) (fun hp2 k2 n2 => ?_)
            have G : HandP E hp2 b ub ul uw ut uq (um - 1) uo us ui uh := G.obj k2 n2
            have hfr : ∀ q, q < b → hp2 q = hp0 q := fun q hq => (n2 q (by omega)).trans (hfr q hq)
            refine A_iload X dX11_absolves_132 5 rfl ?_
            refine A_istore (L' := [(7, .int l6), (4, .int (l4 + (-1))), (0, .ref b), (2, .int l2), (3, .int l3), (5, .int l5), (6, .int l6)]) X dX11_absolves_134 (by decide) rfl ?_
            refine A_sub (L' := [(0, .ref b), (2, .int l2), (3, .int l3), (4, .int (l4 + (-1))), (5, .int l5), (6, .int l6), (7, .int l6)]) [2, 3, 4, 1, 5, 6, 0] rfl ?_
            exact c_X11_absolves_L136 X hr i80 N G hfr h
          · refine A_goto (tgt := 167) X dX11_absolves_116 (by decide) ?_
            refine A_sub (L' := [(0, .ref b), (2, .int l2), (3, .int l3), (4, .int l4), (5, .int l5), (6, .int l6)]) [0, 1, 2, 3, 4, 5] rfl ?_
            exact c_X11_absolves_L167 X hr i80 G hfr h
def f_X11_absolves_L12_F (N : Nat) (ul : Nat → Nat) (uw : Nat → Nat → Int32)  (r12 : Int32 → (Nat → Option (Nat → Int32)) → (Nat → Option (Nat → Int32)) → Int32 → Int32 → Int64 → Option (Int32 × (Nat → Option (Nat → Int32)) × (Nat → Option (Nat → Int32)) × Int32 × Int32 × Int64)) (l1 : Int32) (ut : Nat → Option (Nat → Int32)) (uq : Nat → Option (Nat → Int32)) (um : Int32) (uo : Int32) (us : Int64) : Option (Int32 × (Nat → Option (Nat → Int32)) × (Nat → Option (Nat → Int32)) × Int32 × Int32 × Int64) :=
  (f_X11_rank N uq uo l1).bind fun t1 =>
  if t1 = 0 then
    gd (inb l1 9) <|
    (uq (Int32.toNatClampNeg l1)).bind fun c2 =>
    gd (inb l1 9) <|
    (uq (Int32.toNatClampNeg l1)).bind fun c3 =>
    gd (inb l1 9) <|
    (uq (Int32.toNatClampNeg l1)).bind fun c4 =>
    (f_X11_ofPair N ut um (c2 (Int32.toNatClampNeg 0)) (c3 (Int32.toNatClampNeg 1))).bind fun t5 =>
    (f_X11_unqueue uq uo l1).bind fun t6 =>
    f_X11_absolves_L80 N ul uw N (c2 (Int32.toNatClampNeg 0)) (c3 (Int32.toNatClampNeg 1)) (if t5 < (c4 (Int32.toNatClampNeg 2)) then t5 else (c4 (Int32.toNatClampNeg 2))) (if t5 < (c4 (Int32.toNatClampNeg 2)) then t5 else (c4 (Int32.toNatClampNeg 2))) (um - 1) ut t6.1 um t6.2 us
  else
    r12 (l1 + 1) ut uq um uo us
def f_X11_absolves_L12 (N : Nat) (ul : Nat → Nat) (uw : Nat → Nat → Int32)  : Nat → Int32 → (Nat → Option (Nat → Int32)) → (Nat → Option (Nat → Int32)) → Int32 → Int32 → Int64 → Option (Int32 × (Nat → Option (Nat → Int32)) × (Nat → Option (Nat → Int32)) × Int32 × Int32 × Int64)
  | 0 => fun _ _ _ _ _ _ => none
  | j + 1 => f_X11_absolves_L12_F N ul uw (f_X11_absolves_L12 N ul uw j)
set_option maxHeartbeats 4000000 in
set_option maxRecDepth 100000 in
theorem c_X11_absolves_L12 {E : KE} {p : Program} {l : Launch} {e : Env} {s : State} {m : MethodId} {args : Array Value} {below : List Frame} {meth : Method} {c : Code} {N : Nat} {b : Nat} {ul : Nat → Nat} {uw : Nat → Nat → Int32} {ui : Int32} {uh : Int32}  {hp0 : Hp} {out : Int32 × (Nat → Option (Nat → Int32)) × (Nat → Option (Nat → Int32)) × Int32 × Int32 × Int64}  (X : CX E p l s m args meth c "DiceAuditLaw$Hand" cX11_absolves 8) (hr : meth.sig.returnType = (Option.some Jvm.ClassFile.FieldType.int))  : ∀ (j : Nat), ∀ {l1 : Int32} {ut : Nat → Option (Nat → Int32)} {uq : Nat → Option (Nat → Int32)} {um : Int32} {uo : Int32} {us : Int64} {ub : Nat} {hp : Hp}, HandP E hp b ub ul uw ut uq um uo us ui uh → (∀ q, q < b → hp q = hp0 q) → f_X11_absolves_L12 N ul uw j l1 ut uq um uo us = some out → AW E p l e ⟨2, 400, 1600, 52⟩ s m args below meth c 8 (MQ below (kQc E (PHt E b hp0 (some (.int out.1)) ul uw out.2.1 out.2.2.1 out.2.2.2.1 out.2.2.2.2.1 out.2.2.2.2.2 ui uh)) args s 400 1600 (kA E)) hp none 0 0 12 [(0, .ref b), (1, .int l1)] [] := by
  intro j
  induction j with
  | zero =>
    intro l1 ut uq um uo us ub hp G hfr h
    have h : (none : Option (Int32 × (Nat → Option (Nat → Int32)) × (Nat → Option (Nat → Int32)) × Int32 × Int32 × Int64)) = some out := h
    cases h
  | succ j i12 =>
    intro l1 ut uq um uo us ub hp G hfr h
    have h : f_X11_absolves_L12_F N ul uw (f_X11_absolves_L12 N ul uw j) l1 ut uq um uo us = some out := h
    unfold f_X11_absolves_L12_F at h
    refine A_aload_n X dX11_absolves_12 0 rfl ?_
    refine A_iload_n X dX11_absolves_13 1 rfl ?_
    obtain ⟨t1, hct1, h⟩ := bind_o h
    refine A_cp (k' := 0) (n' := 0) (A_runV (rest := []) X dX11_absolves_14 (c_X11_rank G  hct1) kY_X11_rank kw_895 G.1 rfl rfl ⟨(Nat.le_of_ble_eq_true rfl), (Nat.le_of_ble_eq_true rfl), (Nat.le_of_ble_eq_true rfl), (Nat.le_of_ble_eq_true rfl)⟩ rfl (Nat.le_of_ble_eq_true rfl)) rfl rfl ?_
    refine A_if_eq (tgt := 26) X dX11_absolves_17 h (by decide) (fun hc h => ?_) (fun hc h => ?_)
    · refine A_aload_n X dX11_absolves_26 0 rfl ?_
      refine A_get X dX11_absolves_27 kcl_X11 2 (by decide) kw_833 G.1 rfl ?_
      refine A_iload_n X dX11_absolves_30 1 rfl ?_
      obtain ⟨hq, h⟩ := gd_o h
      obtain ⟨c2, hc2, h⟩ := bind_o h
      refine A_row X dX11_absolves_31 G.2.2.2.2.1 hq hc2 (fun q2 hb2 k2 => ?_)
      refine A_iconst (v := 0) X dX11_absolves_32 (by decide) ?_
      refine A_iald X dX11_absolves_33 k2 (by decide) ?_
      refine A_istore_n (L' := [(2, .int (c2 (Int32.toNatClampNeg 0))), (0, .ref b), (1, .int l1)]) X dX11_absolves_34 rfl (by decide) rfl ?_
      refine A_aload_n X dX11_absolves_35 1 rfl ?_
      refine A_get X dX11_absolves_36 kcl_X11 2 (by decide) kw_833 G.1 rfl ?_
      refine A_iload_n X dX11_absolves_39 2 rfl ?_
      obtain ⟨hq, h⟩ := gd_o h
      obtain ⟨c3, hc3, h⟩ := bind_o h
      refine A_row X dX11_absolves_40 G.2.2.2.2.1 hq hc3 (fun q3 hb3 k3 => ?_)
      refine A_iconst (v := 1) X dX11_absolves_41 (by decide) ?_
      refine A_iald X dX11_absolves_42 k3 (by decide) ?_
      refine A_istore_n (L' := [(3, .int (c3 (Int32.toNatClampNeg 1))), (2, .int (c2 (Int32.toNatClampNeg 0))), (0, .ref b), (1, .int l1)]) X dX11_absolves_43 rfl (by decide) rfl ?_
      refine A_aload_n X dX11_absolves_44 2 rfl ?_
      refine A_get X dX11_absolves_45 kcl_X11 2 (by decide) kw_833 G.1 rfl ?_
      refine A_iload_n X dX11_absolves_48 3 rfl ?_
      obtain ⟨hq, h⟩ := gd_o h
      obtain ⟨c4, hc4, h⟩ := bind_o h
      refine A_row X dX11_absolves_49 G.2.2.2.2.1 hq hc4 (fun q4 hb4 k4 => ?_)
      refine A_iconst (v := 2) X dX11_absolves_50 (by decide) ?_
      refine A_iald X dX11_absolves_51 k4 (by decide) ?_
      refine A_aload_n X dX11_absolves_52 2 rfl ?_
      refine A_iload_n X dX11_absolves_53 1 rfl ?_
      refine A_iload_n X dX11_absolves_54 0 rfl ?_
      obtain ⟨t5, hct5, h⟩ := bind_o h
      refine A_cp (k' := 0) (n' := 0) (A_runV (rest := [.int (c4 (Int32.toNatClampNeg 2))]) X dX11_absolves_55 (c_X11_ofPair G  hct5) kY_X11_ofPair kw_879 G.1 rfl rfl ⟨(Nat.le_of_ble_eq_true rfl), (Nat.le_of_ble_eq_true rfl), (Nat.le_of_ble_eq_true rfl), (Nat.le_of_ble_eq_true rfl)⟩ rfl (Nat.le_of_ble_eq_true rfl)) rfl rfl ?_
      refine A_mmin X dX11_absolves_58 kw_903 kw_354 kw_16 kw_355 (Nat.le_of_ble_eq_true rfl) (Nat.le_of_ble_eq_true rfl) (Nat.le_of_ble_eq_true rfl) (Nat.le_of_ble_eq_true rfl) ?_
      refine A_istore (L' := [(4, .int (if t5 < (c4 (Int32.toNatClampNeg 2)) then t5 else (c4 (Int32.toNatClampNeg 2)))), (3, .int (c3 (Int32.toNatClampNeg 1))), (2, .int (c2 (Int32.toNatClampNeg 0))), (0, .ref b), (1, .int l1)]) X dX11_absolves_61 (by decide) rfl ?_
      refine A_iload X dX11_absolves_63 0 rfl ?_
      refine A_istore (L' := [(5, .int (if t5 < (c4 (Int32.toNatClampNeg 2)) then t5 else (c4 (Int32.toNatClampNeg 2)))), (4, .int (if t5 < (c4 (Int32.toNatClampNeg 2)) then t5 else (c4 (Int32.toNatClampNeg 2)))), (3, .int (c3 (Int32.toNatClampNeg 1))), (2, .int (c2 (Int32.toNatClampNeg 0))), (0, .ref b), (1, .int l1)]) X dX11_absolves_65 (by decide) rfl ?_
      refine A_aload_n X dX11_absolves_67 4 rfl ?_
      refine A_iload_n X dX11_absolves_68 5 rfl ?_
      obtain ⟨t6, hct6, h⟩ := bind_o h
      refine A_c (k' := 0) (n' := 0) rfl rfl (A_runV (rest := []) X dX11_absolves_69 (c_X11_unqueue G  hct6) kY_X11_unqueue kw_904 G.1 rfl rfl ⟨(Nat.le_of_ble_eq_true rfl), (Nat.le_of_ble_eq_true rfl), (Nat.le_of_ble_eq_true rfl), (Nat.le_of_ble_eq_true rfl)⟩ rfl (Nat.le_of_ble_eq_true rfl)) (fun v9 hp1 al9 hP => ?_)
      obtain ⟨rfl, ⟨ub1, G⟩, n1⟩ := hP
      refine A_al ?_
      have hfr : ∀ q, q < b → hp1 q = hp0 q := fun q hq => (n1 q hq).trans (hfr q hq)
      have G : HandP E hp1 b ub1 ul uw ut t6.1 um t6.2 us ui uh := G
      refine A_st (st' := []) rfl ?_
      refine A_aload_n X dX11_absolves_72 4 rfl ?_
      refine A_get X dX11_absolves_73 kcl_X11 3 (by decide) kw_834 G.1 rfl ?_
      refine A_iconst (v := 1) X dX11_absolves_76 (by decide) ?_
      refine A_isub X dX11_absolves_77 ?_
      refine A_istore (L' := [(6, .int (um - 1)), (5, .int (if t5 < (c4 (Int32.toNatClampNeg 2)) then t5 else (c4 (Int32.toNatClampNeg 2)))), (4, .int (if t5 < (c4 (Int32.toNatClampNeg 2)) then t5 else (c4 (Int32.toNatClampNeg 2)))), (3, .int (c3 (Int32.toNatClampNeg 1))), (2, .int (c2 (Int32.toNatClampNeg 0))), (0, .ref b), (1, .int l1)]) X dX11_absolves_78 (by decide) rfl ?_
      refine A_sub (L' := [(0, .ref b), (2, .int (c2 (Int32.toNatClampNeg 0))), (3, .int (c3 (Int32.toNatClampNeg 1))), (4, .int (if t5 < (c4 (Int32.toNatClampNeg 2)) then t5 else (c4 (Int32.toNatClampNeg 2)))), (5, .int (if t5 < (c4 (Int32.toNatClampNeg 2)) then t5 else (c4 (Int32.toNatClampNeg 2)))), (6, .int (um - 1))]) [5, 4, 3, 2, 1, 0] rfl ?_
      exact c_X11_absolves_L80 X hr  N G hfr h
    · refine A_iinc (j := 1) (v := (l1 + 1)) (L' := [(1, .int (l1 + 1)), (0, .ref b)]) X dX11_absolves_20 rfl rfl (by decide) rfl ?_
      refine A_goto (tgt := 12) X dX11_absolves_23 (by decide) ?_
      refine A_sub (L' := [(0, .ref b), (1, .int (l1 + 1))]) [1, 0] rfl ?_
      exact i12 G hfr h
def f_X11_absolves (N : Nat) (ul : Nat → Nat) (uw : Nat → Nat → Int32) (ut : Nat → Option (Nat → Int32)) (uq : Nat → Option (Nat → Int32)) (um : Int32) (uo : Int32) (us : Int64) : Option (Int32 × (Nat → Option (Nat → Int32)) × (Nat → Option (Nat → Int32)) × Int32 × Int32 × Int64) :=
  if uo = 0 then
    some ((-9), ut, uq, um, uo, us)
  else
    f_X11_absolves_L12 N ul uw N 0 ut uq um uo us
set_option maxHeartbeats 4000000 in
set_option maxRecDepth 100000 in
theorem c_X11_absolves {E : KE} {l : Launch} {hp : Hp} {N : Nat} {b ub : Nat} {ul : Nat → Nat} {uw : Nat → Nat → Int32} {ut : Nat → Option (Nat → Int32)} {uq : Nat → Option (Nat → Int32)} {um : Int32} {uo : Int32} {us : Int64} {ui : Int32} {uh : Int32}   {out : Int32 × (Nat → Option (Nat → Int32)) × (Nat → Option (Nat → Int32)) × Int32 × Int32 × Int64} (G : HandP E hp b ub ul uw ut uq um uo us ui uh) (h : f_X11_absolves N ul uw ut uq um uo us = some out) : AM E l yX11_absolves cX11_absolves 8 (Option.some Jvm.ClassFile.FieldType.int) ⟨2, 400, 1600, 52⟩ [.ref b] hp none (PHt E b hp (some (.int out.1)) ul uw out.2.1 out.2.2.1 out.2.2.2.1 out.2.2.2.2.1 out.2.2.2.2.2 ui uh) := by
  refine A_of (by decide +kernel) (Nat.le_of_ble_eq_true rfl) ?_
  intro p e s m args below meth c X hr hnm
  have X : CX E p l s m args meth c "DiceAuditLaw$Hand" cX11_absolves 8 := X
  refine A_L (L' := [(0, .ref b)]) rfl ?_
  unfold f_X11_absolves at h
  have hfr : ∀ q, q < b → hp q = hp q := fun q hq => rfl
  refine A_aload_n X dX11_absolves_0 0 rfl ?_
  refine A_get X dX11_absolves_1 kcl_X11 4 (by decide) kw_835 G.1 rfl ?_
  refine A_if_ne (tgt := 10) X dX11_absolves_4 h (by decide) (fun hc h => ?_) (fun hc h => ?_)
  · refine A_iconst (v := 0) X dX11_absolves_10 (by decide) ?_
    refine A_istore_n (L' := [(1, .int 0), (0, .ref b)]) X dX11_absolves_11 rfl (by decide) rfl ?_
    refine A_sub (L' := [(0, .ref b), (1, .int 0)]) [1, 0] rfl ?_
    exact c_X11_absolves_L12 X hr  N G hfr h
  · refine A_bipush (v := (-9)) X dX11_absolves_7 (by decide) ?_
    cases h
    exact A_iret X dX11_absolves_9 hr ⟨rfl, ⟨_, G⟩, hfr⟩ (Nat.le_of_ble_eq_true rfl) (Nat.le_of_ble_eq_true rfl)
def f_X11_acts_L186 (N : Nat) (ul : Nat → Nat) (r154 : Int32 → Int32 → Int32 → (Nat → Nat → Int32) → (Nat → Option (Nat → Int32)) → (Nat → Option (Nat → Int32)) → Int32 → Int32 → Int64 → Int32 → Int32 → Option (Int32 × (Nat → Nat → Int32) × (Nat → Option (Nat → Int32)) × (Nat → Option (Nat → Int32)) × Int32 × Int32 × Int64 × Int32 × Int32)) (l3 : Int32) (l4 : Int32) (l5 : Int32) (uw : Nat → Nat → Int32) (ut : Nat → Option (Nat → Int32)) (uq : Nat → Option (Nat → Int32)) (um : Int32) (uo : Int32) (us : Int64) (ui : Int32) (uh : Int32) : Option (Int32 × (Nat → Nat → Int32) × (Nat → Option (Nat → Int32)) × (Nat → Option (Nat → Int32)) × Int32 × Int32 × Int64 × Int32 × Int32) :=
  r154 l3 l4 (l5 + (-1)) uw ut uq um uo us ui uh
set_option maxHeartbeats 4000000 in
set_option maxRecDepth 100000 in
theorem c_X11_acts_L186 {E : KE} {p : Program} {l : Launch} {e : Env} {s : State} {m : MethodId} {args : Array Value} {below : List Frame} {meth : Method} {c : Code} {N : Nat} {b : Nat} {ul : Nat → Nat}  {hp0 : Hp} {out : Int32 × (Nat → Nat → Int32) × (Nat → Option (Nat → Int32)) × (Nat → Option (Nat → Int32)) × Int32 × Int32 × Int64 × Int32 × Int32} {r154 : Int32 → Int32 → Int32 → (Nat → Nat → Int32) → (Nat → Option (Nat → Int32)) → (Nat → Option (Nat → Int32)) → Int32 → Int32 → Int64 → Int32 → Int32 → Option (Int32 × (Nat → Nat → Int32) × (Nat → Option (Nat → Int32)) × (Nat → Option (Nat → Int32)) × Int32 × Int32 × Int64 × Int32 × Int32)} (X : CX E p l s m args meth c "DiceAuditLaw$Hand" cX11_acts 9) (hr : meth.sig.returnType = (Option.some Jvm.ClassFile.FieldType.int))  (i154 : ∀ {l3 : Int32} {l4 : Int32} {l5 : Int32} {uw : Nat → Nat → Int32} {ut : Nat → Option (Nat → Int32)} {uq : Nat → Option (Nat → Int32)} {um : Int32} {uo : Int32} {us : Int64} {ui : Int32} {uh : Int32} {ub : Nat} {hp : Hp}, HandP E hp b ub ul uw ut uq um uo us ui uh → (∀ q, q < b → hp q = hp0 q) → r154 l3 l4 l5 uw ut uq um uo us ui uh = some out → AW E p l e ⟨4, 400, 1600, 99⟩ s m args below meth c 9 (MQ below (kQc E (PHt E b hp0 (some (.int out.1)) ul out.2.1 out.2.2.1 out.2.2.2.1 out.2.2.2.2.1 out.2.2.2.2.2.1 out.2.2.2.2.2.2.1 out.2.2.2.2.2.2.2.1 out.2.2.2.2.2.2.2.2)) args s 400 1600 (kA E)) hp none 0 0 154 [(0, .ref b), (3, .int l3), (4, .int l4), (5, .int l5)] []) : ∀ {l3 : Int32} {l4 : Int32} {l5 : Int32} {uw : Nat → Nat → Int32} {ut : Nat → Option (Nat → Int32)} {uq : Nat → Option (Nat → Int32)} {um : Int32} {uo : Int32} {us : Int64} {ui : Int32} {uh : Int32} {ub : Nat} {hp : Hp}, HandP E hp b ub ul uw ut uq um uo us ui uh → (∀ q, q < b → hp q = hp0 q) → f_X11_acts_L186 N ul r154 l3 l4 l5 uw ut uq um uo us ui uh = some out → AW E p l e ⟨4, 400, 1600, 99⟩ s m args below meth c 9 (MQ below (kQc E (PHt E b hp0 (some (.int out.1)) ul out.2.1 out.2.2.1 out.2.2.2.1 out.2.2.2.2.1 out.2.2.2.2.2.1 out.2.2.2.2.2.2.1 out.2.2.2.2.2.2.2.1 out.2.2.2.2.2.2.2.2)) args s 400 1600 (kA E)) hp none 0 0 186 [(0, .ref b), (3, .int l3), (4, .int l4), (5, .int l5)] [] := by
  intro l3 l4 l5 uw ut uq um uo us ui uh ub hp G hfr h
  unfold f_X11_acts_L186 at h
  refine A_iinc (j := 3) (v := (l5 + (-1))) (L' := [(5, .int (l5 + (-1))), (0, .ref b), (3, .int l3), (4, .int l4)]) X dX11_acts_186 rfl rfl (by decide) rfl ?_
  refine A_goto (tgt := 154) X dX11_acts_189 (by decide) ?_
  refine A_sub (L' := [(0, .ref b), (3, .int l3), (4, .int l4), (5, .int (l5 + (-1)))]) [1, 2, 3, 0] rfl ?_
  exact i154 G hfr h
def f_X11_acts_L154_F (N : Nat) (ul : Nat → Nat)  (r154 : Int32 → Int32 → Int32 → (Nat → Nat → Int32) → (Nat → Option (Nat → Int32)) → (Nat → Option (Nat → Int32)) → Int32 → Int32 → Int64 → Int32 → Int32 → Option (Int32 × (Nat → Nat → Int32) × (Nat → Option (Nat → Int32)) × (Nat → Option (Nat → Int32)) × Int32 × Int32 × Int64 × Int32 × Int32)) (l3 : Int32) (l4 : Int32) (l5 : Int32) (uw : Nat → Nat → Int32) (ut : Nat → Option (Nat → Int32)) (uq : Nat → Option (Nat → Int32)) (um : Int32) (uo : Int32) (us : Int64) (ui : Int32) (uh : Int32) : Option (Int32 × (Nat → Nat → Int32) × (Nat → Option (Nat → Int32)) × (Nat → Option (Nat → Int32)) × Int32 × Int32 × Int64 × Int32 × Int32) :=
  if l5 < 0 then
    some (l4, uw, ut, uq, um, uo, us, ui, uh)
  else
    gd (inb l5 9) <|
    (uq (Int32.toNatClampNeg l5)).bind fun c4 =>
    if (c4 (Int32.toNatClampNeg 0)) = (l3 - l3 / 3 * 3) then
      (f_X11_unqueue uq uo l5).bind fun t5 =>
      f_X11_acts_L186 N ul r154 l3 (l4 + 1) l5 uw ut t5.1 um t5.2 us ui uh
    else
      f_X11_acts_L186 N ul r154 l3 l4 l5 uw ut uq um uo us ui uh
def f_X11_acts_L154 (N : Nat) (ul : Nat → Nat)  : Nat → Int32 → Int32 → Int32 → (Nat → Nat → Int32) → (Nat → Option (Nat → Int32)) → (Nat → Option (Nat → Int32)) → Int32 → Int32 → Int64 → Int32 → Int32 → Option (Int32 × (Nat → Nat → Int32) × (Nat → Option (Nat → Int32)) × (Nat → Option (Nat → Int32)) × Int32 × Int32 × Int64 × Int32 × Int32)
  | 0 => fun _ _ _ _ _ _ _ _ _ _ _ => none
  | j + 1 => f_X11_acts_L154_F N ul (f_X11_acts_L154 N ul j)
set_option maxHeartbeats 4000000 in
set_option maxRecDepth 100000 in
theorem c_X11_acts_L154 {E : KE} {p : Program} {l : Launch} {e : Env} {s : State} {m : MethodId} {args : Array Value} {below : List Frame} {meth : Method} {c : Code} {N : Nat} {b : Nat} {ul : Nat → Nat}  {hp0 : Hp} {out : Int32 × (Nat → Nat → Int32) × (Nat → Option (Nat → Int32)) × (Nat → Option (Nat → Int32)) × Int32 × Int32 × Int64 × Int32 × Int32}  (X : CX E p l s m args meth c "DiceAuditLaw$Hand" cX11_acts 9) (hr : meth.sig.returnType = (Option.some Jvm.ClassFile.FieldType.int))  : ∀ (j : Nat), ∀ {l3 : Int32} {l4 : Int32} {l5 : Int32} {uw : Nat → Nat → Int32} {ut : Nat → Option (Nat → Int32)} {uq : Nat → Option (Nat → Int32)} {um : Int32} {uo : Int32} {us : Int64} {ui : Int32} {uh : Int32} {ub : Nat} {hp : Hp}, HandP E hp b ub ul uw ut uq um uo us ui uh → (∀ q, q < b → hp q = hp0 q) → f_X11_acts_L154 N ul j l3 l4 l5 uw ut uq um uo us ui uh = some out → AW E p l e ⟨4, 400, 1600, 99⟩ s m args below meth c 9 (MQ below (kQc E (PHt E b hp0 (some (.int out.1)) ul out.2.1 out.2.2.1 out.2.2.2.1 out.2.2.2.2.1 out.2.2.2.2.2.1 out.2.2.2.2.2.2.1 out.2.2.2.2.2.2.2.1 out.2.2.2.2.2.2.2.2)) args s 400 1600 (kA E)) hp none 0 0 154 [(0, .ref b), (3, .int l3), (4, .int l4), (5, .int l5)] [] := by
  intro j
  induction j with
  | zero =>
    intro l3 l4 l5 uw ut uq um uo us ui uh ub hp G hfr h
    have h : (none : Option (Int32 × (Nat → Nat → Int32) × (Nat → Option (Nat → Int32)) × (Nat → Option (Nat → Int32)) × Int32 × Int32 × Int64 × Int32 × Int32)) = some out := h
    cases h
  | succ j i154 =>
    intro l3 l4 l5 uw ut uq um uo us ui uh ub hp G hfr h
    have h : f_X11_acts_L154_F N ul (f_X11_acts_L154 N ul j) l3 l4 l5 uw ut uq um uo us ui uh = some out := h
    unfold f_X11_acts_L154_F at h
    refine A_iload X dX11_acts_154 3 rfl ?_
    refine A_if_lt (tgt := 192) X dX11_acts_156 h (by decide) (fun hc h => ?_) (fun hc h => ?_)
    · refine A_iload X dX11_acts_192 2 rfl ?_
      cases h
      exact A_iret X dX11_acts_194 hr ⟨rfl, ⟨_, G⟩, hfr⟩ (Nat.le_of_ble_eq_true rfl) (Nat.le_of_ble_eq_true rfl)
    · refine A_aload_n X dX11_acts_159 0 rfl ?_
      refine A_get X dX11_acts_160 kcl_X11 2 (by decide) kw_833 G.1 rfl ?_
      refine A_iload X dX11_acts_163 3 rfl ?_
      obtain ⟨hq, h⟩ := gd_o h
      obtain ⟨c4, hc4, h⟩ := bind_o h
      refine A_row X dX11_acts_165 G.2.2.2.2.1 hq hc4 (fun q4 hb4 k4 => ?_)
      refine A_iconst (v := 0) X dX11_acts_166 (by decide) ?_
      refine A_iald X dX11_acts_167 k4 (by decide) ?_
      refine A_iload_n X dX11_acts_168 1 rfl ?_
      refine A_iconst (v := 3) X dX11_acts_169 (by decide) ?_
      refine A_irem X dX11_acts_170 (by decide) ?_
      refine A_icmp_eq (tgt := 177) X dX11_acts_171 h (by decide) (fun hc h => ?_) (fun hc h => ?_)
      · refine A_aload_n X dX11_acts_177 0 rfl ?_
        refine A_iload X dX11_acts_178 3 rfl ?_
        obtain ⟨t5, hct5, h⟩ := bind_o h
        refine A_c (k' := 0) (n' := 0) rfl rfl (A_runV (rest := []) X dX11_acts_180 (c_X11_unqueue G  hct5) kY_X11_unqueue kw_904 G.1 rfl rfl ⟨(Nat.le_of_ble_eq_true rfl), (Nat.le_of_ble_eq_true rfl), (Nat.le_of_ble_eq_true rfl), (Nat.le_of_ble_eq_true rfl)⟩ rfl (Nat.le_of_ble_eq_true rfl)) (fun v9 hp4 al9 hP => ?_)
        obtain ⟨rfl, ⟨ub4, G⟩, n4⟩ := hP
        refine A_al ?_
        have hfr : ∀ q, q < b → hp4 q = hp0 q := fun q hq => (n4 q hq).trans (hfr q hq)
        have G : HandP E hp4 b ub4 ul uw ut t5.1 um t5.2 us ui uh := G
        refine A_st (st' := []) rfl ?_
        refine A_iinc (j := 2) (v := (l4 + 1)) (L' := [(4, .int (l4 + 1)), (0, .ref b), (3, .int l3), (5, .int l5)]) X dX11_acts_183 rfl rfl (by decide) rfl ?_
        refine A_sub (L' := [(0, .ref b), (3, .int l3), (4, .int (l4 + 1)), (5, .int l5)]) [1, 2, 0, 3] rfl ?_
        exact c_X11_acts_L186 X hr i154 G hfr h
      · refine A_goto (tgt := 186) X dX11_acts_174 (by decide) ?_
        refine A_sub (L' := [(0, .ref b), (3, .int l3), (4, .int l4), (5, .int l5)]) [0, 1, 2, 3] rfl ?_
        exact c_X11_acts_L186 X hr i154 G hfr h
def f_X11_acts_L220_F (N : Nat) (ul : Nat → Nat)  (r220 : Int32 → Int32 → Int32 → Int32 → Int32 → (Nat → Nat → Int32) → (Nat → Option (Nat → Int32)) → (Nat → Option (Nat → Int32)) → Int32 → Int32 → Int64 → Int32 → Int32 → Option (Int32 × (Nat → Nat → Int32) × (Nat → Option (Nat → Int32)) × (Nat → Option (Nat → Int32)) × Int32 × Int32 × Int64 × Int32 × Int32)) (l3 : Int32) (l5 : Int32) (l6 : Int32) (l7 : Int32) (l8 : Int32) (uw : Nat → Nat → Int32) (ut : Nat → Option (Nat → Int32)) (uq : Nat → Option (Nat → Int32)) (um : Int32) (uo : Int32) (us : Int64) (ui : Int32) (uh : Int32) : Option (Int32 × (Nat → Nat → Int32) × (Nat → Option (Nat → Int32)) × (Nat → Option (Nat → Int32)) × Int32 × Int32 × Int64 × Int32 × Int32) :=
  gd (inb l5 3) <|
  if (nI (ul (Int32.toNatClampNeg l5))) ≤ l8 then
    if l7 = 0 then
      some ((-9), uw, ut, uq, um, uo, us, ui, uh)
    else
      gd (inb l6 (ul (Int32.toNatClampNeg l5))) <|
      gd (inb l6 (ul (Int32.toNatClampNeg l5))) <|
      some ((uw (Int32.toNatClampNeg l5) (Int32.toNatClampNeg l6)), (upw uw (Int32.toNatClampNeg l5) (Int32.toNatClampNeg l6) ((l3 / 64) - (l3 / 64) / 10 * 10)), ut, uq, um, uo, us, ui, uh)
  else
    if l8 = l6 then
      r220 l3 l5 l6 (l7 + ((l3 / 64) - (l3 / 64) / 10 * 10)) (l8 + 1) uw ut uq um uo us ui uh
    else
      gd (inb l8 (ul (Int32.toNatClampNeg l5))) <|
      r220 l3 l5 l6 (l7 + (uw (Int32.toNatClampNeg l5) (Int32.toNatClampNeg l8))) (l8 + 1) uw ut uq um uo us ui uh
def f_X11_acts_L220 (N : Nat) (ul : Nat → Nat)  : Nat → Int32 → Int32 → Int32 → Int32 → Int32 → (Nat → Nat → Int32) → (Nat → Option (Nat → Int32)) → (Nat → Option (Nat → Int32)) → Int32 → Int32 → Int64 → Int32 → Int32 → Option (Int32 × (Nat → Nat → Int32) × (Nat → Option (Nat → Int32)) × (Nat → Option (Nat → Int32)) × Int32 × Int32 × Int64 × Int32 × Int32)
  | 0 => fun _ _ _ _ _ _ _ _ _ _ _ _ _ => none
  | j + 1 => f_X11_acts_L220_F N ul (f_X11_acts_L220 N ul j)
set_option maxHeartbeats 4000000 in
set_option maxRecDepth 100000 in
theorem c_X11_acts_L220 {E : KE} {p : Program} {l : Launch} {e : Env} {s : State} {m : MethodId} {args : Array Value} {below : List Frame} {meth : Method} {c : Code} {N : Nat} {b : Nat} {ul : Nat → Nat}  {hp0 : Hp} {out : Int32 × (Nat → Nat → Int32) × (Nat → Option (Nat → Int32)) × (Nat → Option (Nat → Int32)) × Int32 × Int32 × Int64 × Int32 × Int32}  (X : CX E p l s m args meth c "DiceAuditLaw$Hand" cX11_acts 9) (hr : meth.sig.returnType = (Option.some Jvm.ClassFile.FieldType.int))  : ∀ (j : Nat), ∀ {l3 : Int32} {l5 : Int32} {l6 : Int32} {l7 : Int32} {l8 : Int32} {uw : Nat → Nat → Int32} {ut : Nat → Option (Nat → Int32)} {uq : Nat → Option (Nat → Int32)} {um : Int32} {uo : Int32} {us : Int64} {ui : Int32} {uh : Int32} {ub : Nat} {hp : Hp}, HandP E hp b ub ul uw ut uq um uo us ui uh → (∀ q, q < b → hp q = hp0 q) → f_X11_acts_L220 N ul j l3 l5 l6 l7 l8 uw ut uq um uo us ui uh = some out → AW E p l e ⟨4, 400, 1600, 99⟩ s m args below meth c 9 (MQ below (kQc E (PHt E b hp0 (some (.int out.1)) ul out.2.1 out.2.2.1 out.2.2.2.1 out.2.2.2.2.1 out.2.2.2.2.2.1 out.2.2.2.2.2.2.1 out.2.2.2.2.2.2.2.1 out.2.2.2.2.2.2.2.2)) args s 400 1600 (kA E)) hp none 0 0 220 [(3, .int l3), (5, .ref (b + 4 + (Int32.toNatClampNeg l5))), (6, .int l6), (7, .int l7), (8, .int l8)] [] := by
  intro j
  induction j with
  | zero =>
    intro l3 l5 l6 l7 l8 uw ut uq um uo us ui uh ub hp G hfr h
    have h : (none : Option (Int32 × (Nat → Nat → Int32) × (Nat → Option (Nat → Int32)) × (Nat → Option (Nat → Int32)) × Int32 × Int32 × Int64 × Int32 × Int32)) = some out := h
    cases h
  | succ j i220 =>
    intro l3 l5 l6 l7 l8 uw ut uq um uo us ui uh ub hp G hfr h
    have h : f_X11_acts_L220_F N ul (f_X11_acts_L220 N ul j) l3 l5 l6 l7 l8 uw ut uq um uo us ui uh = some out := h
    unfold f_X11_acts_L220_F at h
    obtain ⟨hw5x, h⟩ := gd_o h
    refine A_iload X dX11_acts_220 4 rfl ?_
    refine A_aload X dX11_acts_222 1 rfl ?_
    refine A_alen (t := 0) (v := (nI (ul (Int32.toNatClampNeg l5)))) X dX11_acts_224 (G.2.2.1 _ (inb3 hw5x)) rfl rfl ?_
    refine A_icmp_ge (tgt := 261) X dX11_acts_225 h (by decide) (fun hc h => ?_) (fun hc h => ?_)
    · refine A_iload X dX11_acts_261 3 rfl ?_
      refine A_if_ne (tgt := 269) X dX11_acts_263 h (by decide) (fun hc h => ?_) (fun hc h => ?_)
      · refine A_aload X dX11_acts_269 1 rfl ?_
        refine A_iload X dX11_acts_271 2 rfl ?_
        obtain ⟨hq, h⟩ := gd_o h
        refine A_iald X dX11_acts_273 (G.2.2.1 _ (inb3 hw5x)) hq ?_
        refine A_istore (L' := [(4, .int (uw (Int32.toNatClampNeg l5) (Int32.toNatClampNeg l6))), (3, .int l3), (5, .ref (b + 4 + (Int32.toNatClampNeg l5))), (6, .int l6), (7, .int l7), (8, .int l8)]) X dX11_acts_274 (by decide) rfl ?_
        refine A_aload X dX11_acts_276 2 rfl ?_
        refine A_iload X dX11_acts_278 3 rfl ?_
        refine A_iload_n X dX11_acts_280 1 rfl ?_
        refine A_bipush (v := 64) X dX11_acts_281 (by decide) ?_
        refine A_idiv X dX11_acts_283 (by decide) ?_
        refine A_bipush (v := 10) X dX11_acts_284 (by decide) ?_
        refine A_irem X dX11_acts_286 (by decide) ?_
        obtain ⟨hq, h⟩ := gd_o h
        refine A_wput X dX11_acts_287 G hw5x hq (fun hp4 G n4 => ?_)
        have hfr : ∀ q, q < b → hp4 q = hp0 q := fun q hq => (n4 q (by omega)).trans (hfr q hq)
        refine A_iload X dX11_acts_288 0 rfl ?_
        cases h
        exact A_iret X dX11_acts_290 hr ⟨rfl, ⟨_, G⟩, hfr⟩ (Nat.le_of_ble_eq_true rfl) (Nat.le_of_ble_eq_true rfl)
      · refine A_bipush (v := (-9)) X dX11_acts_266 (by decide) ?_
        cases h
        exact A_iret X dX11_acts_268 hr ⟨rfl, ⟨_, G⟩, hfr⟩ (Nat.le_of_ble_eq_true rfl) (Nat.le_of_ble_eq_true rfl)
    · refine A_iload X dX11_acts_228 3 rfl ?_
      refine A_iload X dX11_acts_230 4 rfl ?_
      refine A_iload X dX11_acts_232 2 rfl ?_
      refine A_icmp_ne (tgt := 247) X dX11_acts_234 h (by decide) (fun hc h => ?_) (fun hc h => ?_)
      · refine A_aload X dX11_acts_247 1 rfl ?_
        refine A_iload X dX11_acts_249 4 rfl ?_
        obtain ⟨hq, h⟩ := gd_o h
        refine A_iald X dX11_acts_251 (G.2.2.1 _ (inb3 hw5x)) hq ?_
        refine A_iadd X dX11_acts_252 ?_
        refine A_istore (L' := [(7, .int (l7 + (uw (Int32.toNatClampNeg l5) (Int32.toNatClampNeg l8)))), (3, .int l3), (5, .ref (b + 4 + (Int32.toNatClampNeg l5))), (6, .int l6), (8, .int l8)]) X dX11_acts_253 (by decide) rfl ?_
        refine A_iinc (j := 4) (v := (l8 + 1)) (L' := [(8, .int (l8 + 1)), (7, .int (l7 + (uw (Int32.toNatClampNeg l5) (Int32.toNatClampNeg l8)))), (3, .int l3), (5, .ref (b + 4 + (Int32.toNatClampNeg l5))), (6, .int l6)]) X dX11_acts_255 rfl rfl (by decide) rfl ?_
        refine A_goto (tgt := 220) X dX11_acts_258 (by decide) ?_
        refine A_sub (L' := [(3, .int l3), (5, .ref (b + 4 + (Int32.toNatClampNeg l5))), (6, .int l6), (7, .int (l7 + (uw (Int32.toNatClampNeg l5) (Int32.toNatClampNeg l8)))), (8, .int (l8 + 1))]) [2, 3, 4, 1, 0] rfl ?_
        exact i220 G hfr h
      · refine A_iload_n X dX11_acts_237 0 rfl ?_
        refine A_bipush (v := 64) X dX11_acts_238 (by decide) ?_
        refine A_idiv X dX11_acts_240 (by decide) ?_
        refine A_bipush (v := 10) X dX11_acts_241 (by decide) ?_
        refine A_irem X dX11_acts_243 (by decide) ?_
        refine A_goto (tgt := 252) X dX11_acts_244 (by decide) ?_
        refine A_iadd X dX11_acts_252 ?_
        refine A_istore (L' := [(7, .int (l7 + ((l3 / 64) - (l3 / 64) / 10 * 10))), (3, .int l3), (5, .ref (b + 4 + (Int32.toNatClampNeg l5))), (6, .int l6), (8, .int l8)]) X dX11_acts_253 (by decide) rfl ?_
        refine A_iinc (j := 4) (v := (l8 + 1)) (L' := [(8, .int (l8 + 1)), (7, .int (l7 + ((l3 / 64) - (l3 / 64) / 10 * 10))), (3, .int l3), (5, .ref (b + 4 + (Int32.toNatClampNeg l5))), (6, .int l6)]) X dX11_acts_255 rfl rfl (by decide) rfl ?_
        refine A_goto (tgt := 220) X dX11_acts_258 (by decide) ?_
        refine A_sub (L' := [(3, .int l3), (5, .ref (b + 4 + (Int32.toNatClampNeg l5))), (6, .int l6), (7, .int (l7 + ((l3 / 64) - (l3 / 64) / 10 * 10))), (8, .int (l8 + 1))]) [2, 3, 4, 1, 0] rfl ?_
        exact i220 G hfr h
def f_X11_acts_L363 (N : Nat) (ul : Nat → Nat) (r334 : Int32 → Int32 → (Nat → Nat → Int32) → (Nat → Option (Nat → Int32)) → (Nat → Option (Nat → Int32)) → Int32 → Int32 → Int64 → Int32 → Int32 → Option (Int32 × (Nat → Nat → Int32) × (Nat → Option (Nat → Int32)) × (Nat → Option (Nat → Int32)) × Int32 × Int32 × Int64 × Int32 × Int32)) (r343 : Int32 → Int32 → Int32 → (Nat → Nat → Int32) → (Nat → Option (Nat → Int32)) → (Nat → Option (Nat → Int32)) → Int32 → Int32 → Int64 → Int32 → Int32 → Option (Int32 × (Nat → Nat → Int32) × (Nat → Option (Nat → Int32)) × (Nat → Option (Nat → Int32)) × Int32 × Int32 × Int64 × Int32 × Int32)) (l4 : Int32) (l5 : Int32) (l6 : Int32) (uw : Nat → Nat → Int32) (ut : Nat → Option (Nat → Int32)) (uq : Nat → Option (Nat → Int32)) (um : Int32) (uo : Int32) (us : Int64) (ui : Int32) (uh : Int32) : Option (Int32 × (Nat → Nat → Int32) × (Nat → Option (Nat → Int32)) × (Nat → Option (Nat → Int32)) × Int32 × Int32 × Int64 × Int32 × Int32) :=
  r343 l4 l5 (l6 + 1) uw ut uq um uo us ui uh
set_option maxHeartbeats 4000000 in
set_option maxRecDepth 100000 in
theorem c_X11_acts_L363 {E : KE} {p : Program} {l : Launch} {e : Env} {s : State} {m : MethodId} {args : Array Value} {below : List Frame} {meth : Method} {c : Code} {N : Nat} {b : Nat} {ul : Nat → Nat}  {hp0 : Hp} {out : Int32 × (Nat → Nat → Int32) × (Nat → Option (Nat → Int32)) × (Nat → Option (Nat → Int32)) × Int32 × Int32 × Int64 × Int32 × Int32} {r334 : Int32 → Int32 → (Nat → Nat → Int32) → (Nat → Option (Nat → Int32)) → (Nat → Option (Nat → Int32)) → Int32 → Int32 → Int64 → Int32 → Int32 → Option (Int32 × (Nat → Nat → Int32) × (Nat → Option (Nat → Int32)) × (Nat → Option (Nat → Int32)) × Int32 × Int32 × Int64 × Int32 × Int32)} {r343 : Int32 → Int32 → Int32 → (Nat → Nat → Int32) → (Nat → Option (Nat → Int32)) → (Nat → Option (Nat → Int32)) → Int32 → Int32 → Int64 → Int32 → Int32 → Option (Int32 × (Nat → Nat → Int32) × (Nat → Option (Nat → Int32)) × (Nat → Option (Nat → Int32)) × Int32 × Int32 × Int64 × Int32 × Int32)} (X : CX E p l s m args meth c "DiceAuditLaw$Hand" cX11_acts 9) (hr : meth.sig.returnType = (Option.some Jvm.ClassFile.FieldType.int))  (i334 : ∀ {l4 : Int32} {l5 : Int32} {uw : Nat → Nat → Int32} {ut : Nat → Option (Nat → Int32)} {uq : Nat → Option (Nat → Int32)} {um : Int32} {uo : Int32} {us : Int64} {ui : Int32} {uh : Int32} {ub : Nat} {hp : Hp}, HandP E hp b ub ul uw ut uq um uo us ui uh → (∀ q, q < b → hp q = hp0 q) → r334 l4 l5 uw ut uq um uo us ui uh = some out → AW E p l e ⟨4, 400, 1600, 99⟩ s m args below meth c 9 (MQ below (kQc E (PHt E b hp0 (some (.int out.1)) ul out.2.1 out.2.2.1 out.2.2.2.1 out.2.2.2.2.1 out.2.2.2.2.2.1 out.2.2.2.2.2.2.1 out.2.2.2.2.2.2.2.1 out.2.2.2.2.2.2.2.2)) args s 400 1600 (kA E)) hp none 0 0 334 [(0, .ref b), (4, .int l4), (5, .int l5)] []) (i343 : ∀ {l4 : Int32} {l5 : Int32} {l6 : Int32} {uw : Nat → Nat → Int32} {ut : Nat → Option (Nat → Int32)} {uq : Nat → Option (Nat → Int32)} {um : Int32} {uo : Int32} {us : Int64} {ui : Int32} {uh : Int32} {ub : Nat} {hp : Hp}, HandP E hp b ub ul uw ut uq um uo us ui uh → (∀ q, q < b → hp q = hp0 q) → r343 l4 l5 l6 uw ut uq um uo us ui uh = some out → AW E p l e ⟨4, 400, 1600, 99⟩ s m args below meth c 9 (MQ below (kQc E (PHt E b hp0 (some (.int out.1)) ul out.2.1 out.2.2.1 out.2.2.2.1 out.2.2.2.2.1 out.2.2.2.2.2.1 out.2.2.2.2.2.2.1 out.2.2.2.2.2.2.2.1 out.2.2.2.2.2.2.2.2)) args s 400 1600 (kA E)) hp none 0 0 343 [(0, .ref b), (4, .int l4), (5, .int l5), (6, .int l6)] []) : ∀ {l4 : Int32} {l5 : Int32} {l6 : Int32} {uw : Nat → Nat → Int32} {ut : Nat → Option (Nat → Int32)} {uq : Nat → Option (Nat → Int32)} {um : Int32} {uo : Int32} {us : Int64} {ui : Int32} {uh : Int32} {ub : Nat} {hp : Hp}, HandP E hp b ub ul uw ut uq um uo us ui uh → (∀ q, q < b → hp q = hp0 q) → f_X11_acts_L363 N ul r334 r343 l4 l5 l6 uw ut uq um uo us ui uh = some out → AW E p l e ⟨4, 400, 1600, 99⟩ s m args below meth c 9 (MQ below (kQc E (PHt E b hp0 (some (.int out.1)) ul out.2.1 out.2.2.1 out.2.2.2.1 out.2.2.2.2.1 out.2.2.2.2.2.1 out.2.2.2.2.2.2.1 out.2.2.2.2.2.2.2.1 out.2.2.2.2.2.2.2.2)) args s 400 1600 (kA E)) hp none 0 0 363 [(0, .ref b), (4, .int l4), (5, .int l5), (6, .int l6)] [] := by
  intro l4 l5 l6 uw ut uq um uo us ui uh ub hp G hfr h
  unfold f_X11_acts_L363 at h
  refine A_iinc (j := 3) (v := (l6 + 1)) (L' := [(6, .int (l6 + 1)), (0, .ref b), (4, .int l4), (5, .int l5)]) X dX11_acts_363 rfl rfl (by decide) rfl ?_
  refine A_goto (tgt := 343) X dX11_acts_366 (by decide) ?_
  refine A_sub (L' := [(0, .ref b), (4, .int l4), (5, .int l5), (6, .int (l6 + 1))]) [1, 2, 3, 0] rfl ?_
  exact i343 G hfr h
def f_X11_acts_L343_F (N : Nat) (ul : Nat → Nat) (r334 : Int32 → Int32 → (Nat → Nat → Int32) → (Nat → Option (Nat → Int32)) → (Nat → Option (Nat → Int32)) → Int32 → Int32 → Int64 → Int32 → Int32 → Option (Int32 × (Nat → Nat → Int32) × (Nat → Option (Nat → Int32)) × (Nat → Option (Nat → Int32)) × Int32 × Int32 × Int64 × Int32 × Int32)) (r343 : Int32 → Int32 → Int32 → (Nat → Nat → Int32) → (Nat → Option (Nat → Int32)) → (Nat → Option (Nat → Int32)) → Int32 → Int32 → Int64 → Int32 → Int32 → Option (Int32 × (Nat → Nat → Int32) × (Nat → Option (Nat → Int32)) × (Nat → Option (Nat → Int32)) × Int32 × Int32 × Int64 × Int32 × Int32)) (l4 : Int32) (l5 : Int32) (l6 : Int32) (uw : Nat → Nat → Int32) (ut : Nat → Option (Nat → Int32)) (uq : Nat → Option (Nat → Int32)) (um : Int32) (uo : Int32) (us : Int64) (ui : Int32) (uh : Int32) : Option (Int32 × (Nat → Nat → Int32) × (Nat → Option (Nat → Int32)) × (Nat → Option (Nat → Int32)) × Int32 × Int32 × Int64 × Int32 × Int32) :=
  if 3 ≤ l6 then
    r334 l4 (l5 + 1) uw ut uq um uo us ui uh
  else
    (f_X11_isBad N ul ut um ui uh l5 l6).bind fun t5 =>
    if t5 = 0 then
      f_X11_acts_L363 N ul r334 r343 l4 l5 l6 uw ut uq um uo us ui uh
    else
      f_X11_acts_L363 N ul r334 r343 (l4 + 1) l5 l6 uw ut uq um uo us ui uh
def f_X11_acts_L343 (N : Nat) (ul : Nat → Nat) (r334 : Int32 → Int32 → (Nat → Nat → Int32) → (Nat → Option (Nat → Int32)) → (Nat → Option (Nat → Int32)) → Int32 → Int32 → Int64 → Int32 → Int32 → Option (Int32 × (Nat → Nat → Int32) × (Nat → Option (Nat → Int32)) × (Nat → Option (Nat → Int32)) × Int32 × Int32 × Int64 × Int32 × Int32)) : Nat → Int32 → Int32 → Int32 → (Nat → Nat → Int32) → (Nat → Option (Nat → Int32)) → (Nat → Option (Nat → Int32)) → Int32 → Int32 → Int64 → Int32 → Int32 → Option (Int32 × (Nat → Nat → Int32) × (Nat → Option (Nat → Int32)) × (Nat → Option (Nat → Int32)) × Int32 × Int32 × Int64 × Int32 × Int32)
  | 0 => fun _ _ _ _ _ _ _ _ _ _ _ => none
  | j + 1 => f_X11_acts_L343_F N ul r334 (f_X11_acts_L343 N ul r334 j)
set_option maxHeartbeats 4000000 in
set_option maxRecDepth 100000 in
theorem c_X11_acts_L343 {E : KE} {p : Program} {l : Launch} {e : Env} {s : State} {m : MethodId} {args : Array Value} {below : List Frame} {meth : Method} {c : Code} {N : Nat} {b : Nat} {ul : Nat → Nat}  {hp0 : Hp} {out : Int32 × (Nat → Nat → Int32) × (Nat → Option (Nat → Int32)) × (Nat → Option (Nat → Int32)) × Int32 × Int32 × Int64 × Int32 × Int32} {r334 : Int32 → Int32 → (Nat → Nat → Int32) → (Nat → Option (Nat → Int32)) → (Nat → Option (Nat → Int32)) → Int32 → Int32 → Int64 → Int32 → Int32 → Option (Int32 × (Nat → Nat → Int32) × (Nat → Option (Nat → Int32)) × (Nat → Option (Nat → Int32)) × Int32 × Int32 × Int64 × Int32 × Int32)} (X : CX E p l s m args meth c "DiceAuditLaw$Hand" cX11_acts 9) (hr : meth.sig.returnType = (Option.some Jvm.ClassFile.FieldType.int))  (i334 : ∀ {l4 : Int32} {l5 : Int32} {uw : Nat → Nat → Int32} {ut : Nat → Option (Nat → Int32)} {uq : Nat → Option (Nat → Int32)} {um : Int32} {uo : Int32} {us : Int64} {ui : Int32} {uh : Int32} {ub : Nat} {hp : Hp}, HandP E hp b ub ul uw ut uq um uo us ui uh → (∀ q, q < b → hp q = hp0 q) → r334 l4 l5 uw ut uq um uo us ui uh = some out → AW E p l e ⟨4, 400, 1600, 99⟩ s m args below meth c 9 (MQ below (kQc E (PHt E b hp0 (some (.int out.1)) ul out.2.1 out.2.2.1 out.2.2.2.1 out.2.2.2.2.1 out.2.2.2.2.2.1 out.2.2.2.2.2.2.1 out.2.2.2.2.2.2.2.1 out.2.2.2.2.2.2.2.2)) args s 400 1600 (kA E)) hp none 0 0 334 [(0, .ref b), (4, .int l4), (5, .int l5)] []) : ∀ (j : Nat), ∀ {l4 : Int32} {l5 : Int32} {l6 : Int32} {uw : Nat → Nat → Int32} {ut : Nat → Option (Nat → Int32)} {uq : Nat → Option (Nat → Int32)} {um : Int32} {uo : Int32} {us : Int64} {ui : Int32} {uh : Int32} {ub : Nat} {hp : Hp}, HandP E hp b ub ul uw ut uq um uo us ui uh → (∀ q, q < b → hp q = hp0 q) → f_X11_acts_L343 N ul r334 j l4 l5 l6 uw ut uq um uo us ui uh = some out → AW E p l e ⟨4, 400, 1600, 99⟩ s m args below meth c 9 (MQ below (kQc E (PHt E b hp0 (some (.int out.1)) ul out.2.1 out.2.2.1 out.2.2.2.1 out.2.2.2.2.1 out.2.2.2.2.2.1 out.2.2.2.2.2.2.1 out.2.2.2.2.2.2.2.1 out.2.2.2.2.2.2.2.2)) args s 400 1600 (kA E)) hp none 0 0 343 [(0, .ref b), (4, .int l4), (5, .int l5), (6, .int l6)] [] := by
  intro j
  induction j with
  | zero =>
    intro l4 l5 l6 uw ut uq um uo us ui uh ub hp G hfr h
    have h : (none : Option (Int32 × (Nat → Nat → Int32) × (Nat → Option (Nat → Int32)) × (Nat → Option (Nat → Int32)) × Int32 × Int32 × Int64 × Int32 × Int32)) = some out := h
    cases h
  | succ j i343 =>
    intro l4 l5 l6 uw ut uq um uo us ui uh ub hp G hfr h
    have h : f_X11_acts_L343_F N ul r334 (f_X11_acts_L343 N ul r334 j) l4 l5 l6 uw ut uq um uo us ui uh = some out := h
    unfold f_X11_acts_L343_F at h
    refine A_iload X dX11_acts_343 3 rfl ?_
    refine A_iconst (v := 3) X dX11_acts_345 (by decide) ?_
    refine A_icmp_ge (tgt := 369) X dX11_acts_346 h (by decide) (fun hc h => ?_) (fun hc h => ?_)
    · refine A_iinc (j := 2) (v := (l5 + 1)) (L' := [(5, .int (l5 + 1)), (0, .ref b), (4, .int l4), (6, .int l6)]) X dX11_acts_369 rfl rfl (by decide) rfl ?_
      refine A_goto (tgt := 334) X dX11_acts_372 (by decide) ?_
      refine A_sub (L' := [(0, .ref b), (4, .int l4), (5, .int (l5 + 1))]) [1, 2, 0] rfl ?_
      exact i334 G hfr h
    · refine A_aload_n X dX11_acts_349 0 rfl ?_
      refine A_iload X dX11_acts_350 2 rfl ?_
      refine A_iload X dX11_acts_352 3 rfl ?_
      obtain ⟨t5, hct5, h⟩ := bind_o h
      refine A_cp (k' := 0) (n' := 0) (A_runV (rest := []) X dX11_acts_354 (c_X11_isBad G  hct5) kY_X11_isBad kw_875 G.1 rfl rfl ⟨(Nat.le_of_ble_eq_true rfl), (Nat.le_of_ble_eq_true rfl), (Nat.le_of_ble_eq_true rfl), (Nat.le_of_ble_eq_true rfl)⟩ rfl (Nat.le_of_ble_eq_true rfl)) rfl rfl ?_
      refine A_if_eq (tgt := 363) X dX11_acts_357 h (by decide) (fun hc h => ?_) (fun hc h => ?_)
      · refine A_sub (L' := [(0, .ref b), (4, .int l4), (5, .int l5), (6, .int l6)]) [0, 1, 2, 3] rfl ?_
        exact c_X11_acts_L363 X hr i334 i343 G hfr h
      · refine A_iinc (j := 1) (v := (l4 + 1)) (L' := [(4, .int (l4 + 1)), (0, .ref b), (5, .int l5), (6, .int l6)]) X dX11_acts_360 rfl rfl (by decide) rfl ?_
        refine A_sub (L' := [(0, .ref b), (4, .int (l4 + 1)), (5, .int l5), (6, .int l6)]) [1, 0, 2, 3] rfl ?_
        exact c_X11_acts_L363 X hr i334 i343 G hfr h
def f_X11_acts_L334_F (N : Nat) (ul : Nat → Nat)  (r334 : Int32 → Int32 → (Nat → Nat → Int32) → (Nat → Option (Nat → Int32)) → (Nat → Option (Nat → Int32)) → Int32 → Int32 → Int64 → Int32 → Int32 → Option (Int32 × (Nat → Nat → Int32) × (Nat → Option (Nat → Int32)) × (Nat → Option (Nat → Int32)) × Int32 × Int32 × Int64 × Int32 × Int32)) (l4 : Int32) (l5 : Int32) (uw : Nat → Nat → Int32) (ut : Nat → Option (Nat → Int32)) (uq : Nat → Option (Nat → Int32)) (um : Int32) (uo : Int32) (us : Int64) (ui : Int32) (uh : Int32) : Option (Int32 × (Nat → Nat → Int32) × (Nat → Option (Nat → Int32)) × (Nat → Option (Nat → Int32)) × Int32 × Int32 × Int64 × Int32 × Int32) :=
  if 3 ≤ l5 then
    some (l4, uw, ut, uq, um, uo, us, ui, uh)
  else
    f_X11_acts_L343 N ul r334 N l4 l5 0 uw ut uq um uo us ui uh
def f_X11_acts_L334 (N : Nat) (ul : Nat → Nat)  : Nat → Int32 → Int32 → (Nat → Nat → Int32) → (Nat → Option (Nat → Int32)) → (Nat → Option (Nat → Int32)) → Int32 → Int32 → Int64 → Int32 → Int32 → Option (Int32 × (Nat → Nat → Int32) × (Nat → Option (Nat → Int32)) × (Nat → Option (Nat → Int32)) × Int32 × Int32 × Int64 × Int32 × Int32)
  | 0 => fun _ _ _ _ _ _ _ _ _ _ => none
  | j + 1 => f_X11_acts_L334_F N ul (f_X11_acts_L334 N ul j)
set_option maxHeartbeats 4000000 in
set_option maxRecDepth 100000 in
theorem c_X11_acts_L334 {E : KE} {p : Program} {l : Launch} {e : Env} {s : State} {m : MethodId} {args : Array Value} {below : List Frame} {meth : Method} {c : Code} {N : Nat} {b : Nat} {ul : Nat → Nat}  {hp0 : Hp} {out : Int32 × (Nat → Nat → Int32) × (Nat → Option (Nat → Int32)) × (Nat → Option (Nat → Int32)) × Int32 × Int32 × Int64 × Int32 × Int32}  (X : CX E p l s m args meth c "DiceAuditLaw$Hand" cX11_acts 9) (hr : meth.sig.returnType = (Option.some Jvm.ClassFile.FieldType.int))  : ∀ (j : Nat), ∀ {l4 : Int32} {l5 : Int32} {uw : Nat → Nat → Int32} {ut : Nat → Option (Nat → Int32)} {uq : Nat → Option (Nat → Int32)} {um : Int32} {uo : Int32} {us : Int64} {ui : Int32} {uh : Int32} {ub : Nat} {hp : Hp}, HandP E hp b ub ul uw ut uq um uo us ui uh → (∀ q, q < b → hp q = hp0 q) → f_X11_acts_L334 N ul j l4 l5 uw ut uq um uo us ui uh = some out → AW E p l e ⟨4, 400, 1600, 99⟩ s m args below meth c 9 (MQ below (kQc E (PHt E b hp0 (some (.int out.1)) ul out.2.1 out.2.2.1 out.2.2.2.1 out.2.2.2.2.1 out.2.2.2.2.2.1 out.2.2.2.2.2.2.1 out.2.2.2.2.2.2.2.1 out.2.2.2.2.2.2.2.2)) args s 400 1600 (kA E)) hp none 0 0 334 [(0, .ref b), (4, .int l4), (5, .int l5)] [] := by
  intro j
  induction j with
  | zero =>
    intro l4 l5 uw ut uq um uo us ui uh ub hp G hfr h
    have h : (none : Option (Int32 × (Nat → Nat → Int32) × (Nat → Option (Nat → Int32)) × (Nat → Option (Nat → Int32)) × Int32 × Int32 × Int64 × Int32 × Int32)) = some out := h
    cases h
  | succ j i334 =>
    intro l4 l5 uw ut uq um uo us ui uh ub hp G hfr h
    have h : f_X11_acts_L334_F N ul (f_X11_acts_L334 N ul j) l4 l5 uw ut uq um uo us ui uh = some out := h
    unfold f_X11_acts_L334_F at h
    refine A_iload X dX11_acts_334 2 rfl ?_
    refine A_iconst (v := 3) X dX11_acts_336 (by decide) ?_
    refine A_icmp_ge (tgt := 375) X dX11_acts_337 h (by decide) (fun hc h => ?_) (fun hc h => ?_)
    · refine A_iload X dX11_acts_375 1 rfl ?_
      cases h
      exact A_iret X dX11_acts_377 hr ⟨rfl, ⟨_, G⟩, hfr⟩ (Nat.le_of_ble_eq_true rfl) (Nat.le_of_ble_eq_true rfl)
    · refine A_iconst (v := 0) X dX11_acts_340 (by decide) ?_
      refine A_istore (L' := [(6, .int 0), (0, .ref b), (4, .int l4), (5, .int l5)]) X dX11_acts_341 (by decide) rfl ?_
      refine A_sub (L' := [(0, .ref b), (4, .int l4), (5, .int l5), (6, .int 0)]) [1, 2, 3, 0] rfl ?_
      exact c_X11_acts_L343 X hr i334 N G hfr h
def f_X11_acts (N : Nat) (ul : Nat → Nat) (uw : Nat → Nat → Int32) (ut : Nat → Option (Nat → Int32)) (uq : Nat → Option (Nat → Int32)) (um : Int32) (uo : Int32) (us : Int64) (ui : Int32) (uh : Int32) (a0 : Int32) : Option (Int32 × (Nat → Nat → Int32) × (Nat → Option (Nat → Int32)) × (Nat → Option (Nat → Int32)) × Int32 × Int32 × Int64 × Int32 × Int32) :=
  gd (inb (a0 - a0 / 16 * 16) 16) <|
  if (a0 - a0 / 16 * 16) < nI 8 then
    if ((um + 1) + (((a0 / 16) / 16) - ((a0 / 16) / 16) / 14 * 14)) ≤ 300 then
      (f_X11_throwsDie N ul uw ut um us ((a0 / 16) - (a0 / 16) / 3 * 3) (((a0 / 16) / 4) - ((a0 / 16) / 4) / 3 * 3) (1 + (((a0 / 16) / 16) - ((a0 / 16) / 16) / 14 * 14)) 0).bind fun t1 =>
      some (t1.1, uw, t1.2.1, uq, t1.2.2.1, uo, t1.2.2.2, ui, uh)
    else
      some ((-9), uw, ut, uq, um, uo, us, ui, uh)
  else
    if (a0 - a0 / 16 * 16) < nI 10 then
      (f_X11_audits N ul ut um ui uh uq uo).bind fun t2 =>
      some (t2.1, uw, ut, t2.2.1, um, t2.2.2, us, ui, uh)
    else
      if (a0 - a0 / 16 * 16) < nI 12 then
        (f_X11_absolves N ul uw ut uq um uo us).bind fun t3 =>
        some (t3.1, uw, t3.2.1, t3.2.2.1, t3.2.2.2.1, t3.2.2.2.2.1, t3.2.2.2.2.2, ui, uh)
      else
        if (a0 - a0 / 16 * 16) < nI 13 then
          f_X11_acts_L154 N ul N (a0 / 16) 0 (uo - 1) uw ut uq um uo us ui uh
        else
          if (a0 - a0 / 16 * 16) < nI 14 then
            gd (inb ((a0 / 16) - (a0 / 16) / 3 * 3) 3) <|
            gd (nz (nI (ul (Int32.toNatClampNeg ((a0 / 16) - (a0 / 16) / 3 * 3))))) <|
            f_X11_acts_L220 N ul N (a0 / 16) ((a0 / 16) - (a0 / 16) / 3 * 3) (((a0 / 16) / 4) - ((a0 / 16) / 4) / (nI (ul (Int32.toNatClampNeg ((a0 / 16) - (a0 / 16) / 3 * 3)))) * (nI (ul (Int32.toNatClampNeg ((a0 / 16) - (a0 / 16) / 3 * 3))))) 0 0 uw ut uq um uo us ui uh
          else
            if (a0 - a0 / 16 * 16) < nI 15 then
              some (us.toInt32, uw, ut, uq, um, uo, ((a0 / 16) - (a0 / 16) / 65537 * 65537).toInt64, ui, uh)
            else
              f_X11_acts_L334 N ul N 0 0 uw ut uq um uo us (1 + ((a0 / 16) - (a0 / 16) / 9 * 9)) (((a0 / 16) / 16) - ((a0 / 16) / 16) / 14 * 14)
set_option maxHeartbeats 4000000 in
set_option maxRecDepth 100000 in
theorem c_X11_acts {E : KE} {l : Launch} {hp : Hp} {N : Nat} {b ub : Nat} {x : Nat} {ul : Nat → Nat} {uw : Nat → Nat → Int32} {ut : Nat → Option (Nat → Int32)} {uq : Nat → Option (Nat → Int32)} {um : Int32} {uo : Int32} {us : Int64} {ui : Int32} {uh : Int32}  {a0 : Int32} {out : Int32 × (Nat → Nat → Int32) × (Nat → Option (Nat → Int32)) × (Nat → Option (Nat → Int32)) × Int32 × Int32 × Int64 × Int32 × Int32} (G : HandP E hp b ub ul uw ut uq um uo us ui uh) (h : f_X11_acts N ul uw ut uq um uo us ui uh a0 = some out) : AM E l yX11_acts cX11_acts 9 (Option.some Jvm.ClassFile.FieldType.int) ⟨4, 400, 1600, 99⟩ [.ref b, .int a0, .ref x] hp none (PHt E b hp (some (.int out.1)) ul out.2.1 out.2.2.1 out.2.2.2.1 out.2.2.2.2.1 out.2.2.2.2.2.1 out.2.2.2.2.2.2.1 out.2.2.2.2.2.2.2.1 out.2.2.2.2.2.2.2.2) := by
  refine A_of (by decide +kernel) (Nat.le_of_ble_eq_true rfl) ?_
  intro p e s m args below meth c X hr hnm
  have X : CX E p l s m args meth c "DiceAuditLaw$Hand" cX11_acts 9 := X
  refine A_L (L' := [(0, .ref b), (1, .int a0), (2, .ref x)]) rfl ?_
  unfold f_X11_acts at h
  have hfr : ∀ q, q < b → hp q = hp q := fun q hq => rfl
  refine A_iload_n X dX11_acts_0 1 rfl ?_
  refine A_bipush (v := 16) X dX11_acts_1 (by decide) ?_
  refine A_idiv X dX11_acts_3 (by decide) ?_
  refine A_istore_n (L' := [(3, .int (a0 / 16)), (0, .ref b), (1, .int a0), (2, .ref x)]) X dX11_acts_4 rfl (by decide) rfl ?_
  refine A_iconst (v := 0) X dX11_acts_5 (by decide) ?_
  refine A_istore (L' := [(4, .int 0), (3, .int (a0 / 16)), (0, .ref b), (1, .int a0), (2, .ref x)]) X dX11_acts_6 (by decide) rfl ?_
  refine A_iload_n X dX11_acts_8 3 rfl ?_
  refine A_bipush (v := 16) X dX11_acts_9 (by decide) ?_
  refine A_irem X dX11_acts_11 (by decide) ?_
  obtain ⟨hq, h⟩ := gd_o h
  obtain ⟨j9, hj9, hx9⟩ := vp_in_of (inb_in hq) (by decide)
  by_cases c0 : (a0 - a0 / 16 * 16) < nI 8
  · rw [if_pos c0] at h
    have j0 := br_j hx9 (by omega) (by omega) c0
    refine A_tabN (tgt := 88) X dX11_acts_12 hx9 (by omega) (by omega) ((by decide : ∀ j, j < 8 → 0 ≤ j → (#[76, 76, 76, 76, 76, 76, 76, 76, 124, 124, 129, 129, 134, 183, 279] : Array Int)[j]? = some 76) j9 j0 (by omega)) (by decide) ?_
    refine A_aload_n X dX11_acts_88 2 rfl ?_
    refine A_get X dX11_acts_89 kcl_X11 3 (by decide) kw_834 G.1 rfl ?_
    refine A_iconst (v := 1) X dX11_acts_92 (by decide) ?_
    refine A_iadd X dX11_acts_93 ?_
    refine A_iload_n X dX11_acts_94 1 rfl ?_
    refine A_bipush (v := 16) X dX11_acts_95 (by decide) ?_
    refine A_idiv X dX11_acts_97 (by decide) ?_
    refine A_bipush (v := 14) X dX11_acts_98 (by decide) ?_
    refine A_irem X dX11_acts_100 (by decide) ?_
    refine A_iadd X dX11_acts_101 ?_
    refine A_sipush (v := 300) X dX11_acts_102 (by decide) ?_
    refine A_icmp_le (tgt := 113) X dX11_acts_105 h (by decide) (fun hc h => ?_) (fun hc h => ?_)
    · refine A_aload_n X dX11_acts_113 2 rfl ?_
      refine A_iload_n X dX11_acts_114 1 rfl ?_
      refine A_iconst (v := 3) X dX11_acts_115 (by decide) ?_
      refine A_irem X dX11_acts_116 (by decide) ?_
      refine A_iload_n X dX11_acts_117 1 rfl ?_
      refine A_iconst (v := 4) X dX11_acts_118 (by decide) ?_
      refine A_idiv X dX11_acts_119 (by decide) ?_
      refine A_iconst (v := 3) X dX11_acts_120 (by decide) ?_
      refine A_irem X dX11_acts_121 (by decide) ?_
      refine A_iconst (v := 1) X dX11_acts_122 (by decide) ?_
      refine A_iload_n X dX11_acts_123 1 rfl ?_
      refine A_bipush (v := 16) X dX11_acts_124 (by decide) ?_
      refine A_idiv X dX11_acts_126 (by decide) ?_
      refine A_bipush (v := 14) X dX11_acts_127 (by decide) ?_
      refine A_irem X dX11_acts_129 (by decide) ?_
      refine A_iadd X dX11_acts_130 ?_
      refine A_iconst (v := 0) X dX11_acts_131 (by decide) ?_
      obtain ⟨t1, hct1, h⟩ := bind_o h
      refine A_c (k' := 400) (n' := 1600) rfl rfl (A_runV (rest := []) X dX11_acts_132 (c_X11_throwsDie G  hct1) kY_X11_throwsDie kw_860 G.1 rfl rfl ⟨(Nat.le_of_ble_eq_true rfl), (Nat.le_of_ble_eq_true rfl), (Nat.le_of_ble_eq_true rfl), (Nat.le_of_ble_eq_true rfl)⟩ rfl (Nat.le_of_ble_eq_true rfl)) (fun v9 hp1 al9 hP => ?_)
      obtain ⟨rfl, ⟨ub1, G⟩, n1⟩ := hP
      refine A_al ?_
      have hfr : ∀ q, q < b → hp1 q = hp q := fun q hq => (n1 q hq).trans (hfr q hq)
      have G : HandP E hp1 b ub1 ul uw t1.2.1 uq t1.2.2.1 uo t1.2.2.2 ui uh := G
      refine A_st (st' := [.int t1.1]) rfl ?_
      cases h
      exact A_iret X dX11_acts_135 hr ⟨rfl, ⟨_, G⟩, hfr⟩ (Nat.le_of_ble_eq_true rfl) (Nat.le_of_ble_eq_true rfl)
    · refine A_bipush (v := (-9)) X dX11_acts_108 (by decide) ?_
      refine A_goto (tgt := 135) X dX11_acts_110 (by decide) ?_
      cases h
      exact A_iret X dX11_acts_135 hr ⟨rfl, ⟨_, G⟩, hfr⟩ (Nat.le_of_ble_eq_true rfl) (Nat.le_of_ble_eq_true rfl)
  · rw [if_neg c0] at h
    have m0 := br_n hx9 (by omega) (by omega) c0
    by_cases c1 : (a0 - a0 / 16 * 16) < nI 10
    · rw [if_pos c1] at h
      have j1 := br_j hx9 (by omega) (by omega) c1
      refine A_tabN (tgt := 136) X dX11_acts_12 hx9 (by omega) (by omega) ((by decide : ∀ j, j < 10 → 8 ≤ j → (#[76, 76, 76, 76, 76, 76, 76, 76, 124, 124, 129, 129, 134, 183, 279] : Array Int)[j]? = some 124) j9 j1 (by omega)) (by decide) ?_
      refine A_aload_n X dX11_acts_136 2 rfl ?_
      obtain ⟨t2, hct2, h⟩ := bind_o h
      refine A_c (k' := 10) (n' := 30) rfl rfl (A_runV (rest := []) X dX11_acts_137 (c_X11_audits G  hct2) kY_X11_audits kw_871 G.1 rfl rfl ⟨(Nat.le_of_ble_eq_true rfl), (Nat.le_of_ble_eq_true rfl), (Nat.le_of_ble_eq_true rfl), (Nat.le_of_ble_eq_true rfl)⟩ rfl (Nat.le_of_ble_eq_true rfl)) (fun v9 hp2 al9 hP => ?_)
      obtain ⟨rfl, ⟨ub2, G⟩, n2⟩ := hP
      refine A_al ?_
      have hfr : ∀ q, q < b → hp2 q = hp q := fun q hq => (n2 q hq).trans (hfr q hq)
      have G : HandP E hp2 b ub2 ul uw ut t2.2.1 um t2.2.2 us ui uh := G
      refine A_st (st' := [.int t2.1]) rfl ?_
      cases h
      exact A_iret X dX11_acts_140 hr ⟨rfl, ⟨_, G⟩, hfr⟩ (Nat.le_of_ble_eq_true rfl) (Nat.le_of_ble_eq_true rfl)
    · rw [if_neg c1] at h
      have m1 := br_n hx9 (by omega) (by omega) c1
      by_cases c2 : (a0 - a0 / 16 * 16) < nI 12
      · rw [if_pos c2] at h
        have j2 := br_j hx9 (by omega) (by omega) c2
        refine A_tabN (tgt := 141) X dX11_acts_12 hx9 (by omega) (by omega) ((by decide : ∀ j, j < 12 → 10 ≤ j → (#[76, 76, 76, 76, 76, 76, 76, 76, 124, 124, 129, 129, 134, 183, 279] : Array Int)[j]? = some 129) j9 j2 (by omega)) (by decide) ?_
        refine A_aload_n X dX11_acts_141 2 rfl ?_
        obtain ⟨t3, hct3, h⟩ := bind_o h
        refine A_c (k' := 400) (n' := 1600) rfl rfl (A_runV (rest := []) X dX11_acts_142 (c_X11_absolves G  hct3) kY_X11_absolves kw_891 G.1 rfl rfl ⟨(Nat.le_of_ble_eq_true rfl), (Nat.le_of_ble_eq_true rfl), (Nat.le_of_ble_eq_true rfl), (Nat.le_of_ble_eq_true rfl)⟩ rfl (Nat.le_of_ble_eq_true rfl)) (fun v9 hp3 al9 hP => ?_)
        obtain ⟨rfl, ⟨ub3, G⟩, n3⟩ := hP
        refine A_al ?_
        have hfr : ∀ q, q < b → hp3 q = hp q := fun q hq => (n3 q hq).trans (hfr q hq)
        have G : HandP E hp3 b ub3 ul uw t3.2.1 t3.2.2.1 t3.2.2.2.1 t3.2.2.2.2.1 t3.2.2.2.2.2 ui uh := G
        refine A_st (st' := [.int t3.1]) rfl ?_
        cases h
        exact A_iret X dX11_acts_145 hr ⟨rfl, ⟨_, G⟩, hfr⟩ (Nat.le_of_ble_eq_true rfl) (Nat.le_of_ble_eq_true rfl)
      · rw [if_neg c2] at h
        have m2 := br_n hx9 (by omega) (by omega) c2
        by_cases c3 : (a0 - a0 / 16 * 16) < nI 13
        · rw [if_pos c3] at h
          have j3 := br_j hx9 (by omega) (by omega) c3
          refine A_tabN (tgt := 146) X dX11_acts_12 hx9 (by omega) (by omega) ((by decide : ∀ j, j < 13 → 12 ≤ j → (#[76, 76, 76, 76, 76, 76, 76, 76, 124, 124, 129, 129, 134, 183, 279] : Array Int)[j]? = some 134) j9 j3 (by omega)) (by decide) ?_
          refine A_aload_n X dX11_acts_146 2 rfl ?_
          refine A_get X dX11_acts_147 kcl_X11 4 (by decide) kw_835 G.1 rfl ?_
          refine A_iconst (v := 1) X dX11_acts_150 (by decide) ?_
          refine A_isub X dX11_acts_151 ?_
          refine A_istore (L' := [(5, .int (uo - 1)), (4, .int 0), (3, .int (a0 / 16)), (0, .ref b), (1, .int a0), (2, .ref x)]) X dX11_acts_152 (by decide) rfl ?_
          refine A_sub (L' := [(0, .ref b), (3, .int (a0 / 16)), (4, .int 0), (5, .int (uo - 1))]) [3, 2, 1, 0] rfl ?_
          exact c_X11_acts_L154 X hr  N G hfr h
        · rw [if_neg c3] at h
          have m3 := br_n hx9 (by omega) (by omega) c3
          by_cases c4 : (a0 - a0 / 16 * 16) < nI 14
          · rw [if_pos c4] at h
            have j4 := br_j hx9 (by omega) (by omega) c4
            refine A_tabN (tgt := 195) X dX11_acts_12 hx9 (by omega) (by omega) ((by decide : ∀ j, j < 14 → 13 ≤ j → (#[76, 76, 76, 76, 76, 76, 76, 76, 124, 124, 129, 129, 134, 183, 279] : Array Int)[j]? = some 183) j9 j4 (by omega)) (by decide) ?_
            refine A_aload_n X dX11_acts_195 2 rfl ?_
            refine A_get X dX11_acts_196 kcl_X11 0 (by decide) kw_831 G.1 rfl ?_
            refine A_iload_n X dX11_acts_199 1 rfl ?_
            refine A_iconst (v := 3) X dX11_acts_200 (by decide) ?_
            refine A_irem X dX11_acts_201 (by decide) ?_
            obtain ⟨hw4, h⟩ := gd_o h
            refine A_wrow X dX11_acts_202 G hw4 ?_
            refine A_astore (L' := [(5, .ref (b + 4 + (Int32.toNatClampNeg ((a0 / 16) - (a0 / 16) / 3 * 3)))), (4, .int 0), (3, .int (a0 / 16)), (0, .ref b), (1, .int a0), (2, .ref x)]) X dX11_acts_203 (by decide) rfl ?_
            refine A_iload_n X dX11_acts_205 2 rfl ?_
            refine A_iconst (v := 4) X dX11_acts_206 (by decide) ?_
            refine A_idiv X dX11_acts_207 (by decide) ?_
            refine A_aload X dX11_acts_208 0 rfl ?_
            refine A_alen (t := 0) (v := (nI (ul (Int32.toNatClampNeg ((a0 / 16) - (a0 / 16) / 3 * 3))))) X dX11_acts_210 (G.2.2.1 _ (inb3 hw4)) rfl rfl ?_
            obtain ⟨hq, h⟩ := gd_o h
            refine A_irem X dX11_acts_211 (nz_o hq) ?_
            refine A_istore (L' := [(6, .int (((a0 / 16) / 4) - ((a0 / 16) / 4) / (nI (ul (Int32.toNatClampNeg ((a0 / 16) - (a0 / 16) / 3 * 3)))) * (nI (ul (Int32.toNatClampNeg ((a0 / 16) - (a0 / 16) / 3 * 3)))))), (5, .ref (b + 4 + (Int32.toNatClampNeg ((a0 / 16) - (a0 / 16) / 3 * 3)))), (4, .int 0), (3, .int (a0 / 16)), (0, .ref b), (1, .int a0), (2, .ref x)]) X dX11_acts_212 (by decide) rfl ?_
            refine A_iconst (v := 0) X dX11_acts_214 (by decide) ?_
            refine A_istore (L' := [(7, .int 0), (6, .int (((a0 / 16) / 4) - ((a0 / 16) / 4) / (nI (ul (Int32.toNatClampNeg ((a0 / 16) - (a0 / 16) / 3 * 3)))) * (nI (ul (Int32.toNatClampNeg ((a0 / 16) - (a0 / 16) / 3 * 3)))))), (5, .ref (b + 4 + (Int32.toNatClampNeg ((a0 / 16) - (a0 / 16) / 3 * 3)))), (4, .int 0), (3, .int (a0 / 16)), (0, .ref b), (1, .int a0), (2, .ref x)]) X dX11_acts_215 (by decide) rfl ?_
            refine A_iconst (v := 0) X dX11_acts_217 (by decide) ?_
            refine A_istore (L' := [(8, .int 0), (7, .int 0), (6, .int (((a0 / 16) / 4) - ((a0 / 16) / 4) / (nI (ul (Int32.toNatClampNeg ((a0 / 16) - (a0 / 16) / 3 * 3)))) * (nI (ul (Int32.toNatClampNeg ((a0 / 16) - (a0 / 16) / 3 * 3)))))), (5, .ref (b + 4 + (Int32.toNatClampNeg ((a0 / 16) - (a0 / 16) / 3 * 3)))), (4, .int 0), (3, .int (a0 / 16)), (0, .ref b), (1, .int a0), (2, .ref x)]) X dX11_acts_218 (by decide) rfl ?_
            refine A_sub (L' := [(3, .int (a0 / 16)), (5, .ref (b + 4 + (Int32.toNatClampNeg ((a0 / 16) - (a0 / 16) / 3 * 3)))), (6, .int (((a0 / 16) / 4) - ((a0 / 16) / 4) / (nI (ul (Int32.toNatClampNeg ((a0 / 16) - (a0 / 16) / 3 * 3)))) * (nI (ul (Int32.toNatClampNeg ((a0 / 16) - (a0 / 16) / 3 * 3)))))), (7, .int 0), (8, .int 0)]) [5, 3, 2, 1, 0] rfl ?_
            exact c_X11_acts_L220 X hr  N G hfr h
          · rw [if_neg c4] at h
            have m4 := br_n hx9 (by omega) (by omega) c4
            by_cases c5 : (a0 - a0 / 16 * 16) < nI 15
            · rw [if_pos c5] at h
              have j5 := br_j hx9 (by omega) (by omega) c5
              refine A_tabN (tgt := 291) X dX11_acts_12 hx9 (by omega) (by omega) ((by decide : ∀ j, j < 15 → 14 ≤ j → (#[76, 76, 76, 76, 76, 76, 76, 76, 124, 124, 129, 129, 134, 183, 279] : Array Int)[j]? = some 279) j9 j5 (by omega)) (by decide) ?_
              refine A_aload_n X dX11_acts_291 2 rfl ?_
              refine A_get X dX11_acts_292 kcl_X11 5 (by decide) kw_836 G.1 rfl ?_
              refine A_l2i X dX11_acts_295 ?_
              refine A_istore (L' := [(4, .int us.toInt32), (3, .int (a0 / 16)), (0, .ref b), (1, .int a0), (2, .ref x)]) X dX11_acts_296 (by decide) rfl ?_
              refine A_aload_n X dX11_acts_298 2 rfl ?_
              refine A_iload_n X dX11_acts_299 1 rfl ?_
              refine A_ldci X dX11_acts_300 kw_908 ?_
              refine A_irem X dX11_acts_302 (by decide) ?_
              refine A_i2l X dX11_acts_303 ?_
              refine A_put X dX11_acts_304 kcl_X11 5 (by decide) kw_836 G.1 rfl rfl rfl (by simp) (fun hp4 k4 n4 => ?_)
              have G : HandP E hp4 b ub ul uw ut uq um uo (((a0 / 16) - (a0 / 16) / 65537 * 65537).toInt64) ui uh := G.obj k4 n4
              have hfr : ∀ q, q < b → hp4 q = hp q := fun q hq => (n4 q (by omega)).trans (hfr q hq)
              refine A_iload X dX11_acts_307 0 rfl ?_
              cases h
              exact A_iret X dX11_acts_309 hr ⟨rfl, ⟨_, G⟩, hfr⟩ (Nat.le_of_ble_eq_true rfl) (Nat.le_of_ble_eq_true rfl)
            · rw [if_neg c5] at h
              have m5 := br_n hx9 (by omega) (by omega) c5
              refine A_tabM (tgt := 310) X dX11_acts_12 hx9 (by omega) (by omega) (by decide) ?_
              refine A_aload_n X dX11_acts_310 2 rfl ?_
              refine A_iconst (v := 1) X dX11_acts_311 (by decide) ?_
              refine A_iload_n X dX11_acts_312 1 rfl ?_
              refine A_bipush (v := 9) X dX11_acts_313 (by decide) ?_
              refine A_irem X dX11_acts_315 (by decide) ?_
              refine A_iadd X dX11_acts_316 ?_
              refine A_put X dX11_acts_317 kcl_X11 6 (by decide) kw_837 G.1 rfl rfl rfl (by simp) (fun hp5 k5 n5 => ?_)
              have G : HandP E hp5 b ub ul uw ut uq um uo us (1 + ((a0 / 16) - (a0 / 16) / 9 * 9)) uh := G.obj k5 n5
              have hfr : ∀ q, q < b → hp5 q = hp q := fun q hq => (n5 q (by omega)).trans (hfr q hq)
              refine A_aload_n X dX11_acts_320 2 rfl ?_
              refine A_iload_n X dX11_acts_321 1 rfl ?_
              refine A_bipush (v := 16) X dX11_acts_322 (by decide) ?_
              refine A_idiv X dX11_acts_324 (by decide) ?_
              refine A_bipush (v := 14) X dX11_acts_325 (by decide) ?_
              refine A_irem X dX11_acts_327 (by decide) ?_
              refine A_put X dX11_acts_328 kcl_X11 7 (by decide) kw_838 G.1 rfl rfl rfl (by simp) (fun hp6 k6 n6 => ?_)
              have G : HandP E hp6 b ub ul uw ut uq um uo us (1 + ((a0 / 16) - (a0 / 16) / 9 * 9)) (((a0 / 16) / 16) - ((a0 / 16) / 16) / 14 * 14) := G.obj k6 n6
              have hfr : ∀ q, q < b → hp6 q = hp q := fun q hq => (n6 q (by omega)).trans (hfr q hq)
              refine A_iconst (v := 0) X dX11_acts_331 (by decide) ?_
              refine A_istore (L' := [(5, .int 0), (4, .int 0), (3, .int (a0 / 16)), (0, .ref b), (1, .int a0), (2, .ref x)]) X dX11_acts_332 (by decide) rfl ?_
              refine A_sub (L' := [(0, .ref b), (4, .int 0), (5, .int 0)]) [3, 1, 0] rfl ?_
              exact c_X11_acts_L334 X hr  N G hfr h
def f_X11_agrees_L231_F (N : Nat) (dc : Int32) (en : Nat → Int32) (fc : Nat → Int32) (fr : Nat → Int32) (mn : Int32) (oc : Int32) (op : Nat → Int32) (os : Nat → Int32) (pc : Int32) (sd : Int32) (tc : Int32) (th : Int32) (ul : Nat → Nat) (ut : Nat → Option (Nat → Int32)) (uq : Nat → Option (Nat → Int32)) (um : Int32) (uo : Int32) (us : Int64) (ui : Int32) (uh : Int32) (r224 : Int32 → Option (Int32)) (r231 : Int32 → Int32 → Option (Int32)) (l2 : Int32) (l3 : Int32) : Option (Int32) :=
  gd (inb l2 3) <|
  gd (inb l3 4) <|
  if 3 ≤ l3 then
    r224 (l2 + 1)
  else
    hbd (f_X10_score N dc fc pc fr l2 l3) (fun _ => none) fun t6 =>
    (f_X11_score N ul ut um l2 l3).bind fun t7 =>
    if t6 = t7 then
      hbd (f_X10_isSuspicious N mn th dc fc pc fr l2 l3) (fun _ => none) fun t8 =>
      (f_X11_isBad N ul ut um ui uh l2 l3).bind fun t9 =>
      if t8 = t9 then
        hbd (f_X10_throwsOfPair N dc pc fr l2 l3) (fun _ => none) fun t10 =>
        (f_X11_ofPair N ut um l2 l3).bind fun t11 =>
        if t10 = t11 then
          r231 l2 (l3 + 1)
        else
          some 0
      else
        some 0
    else
      some 0
def f_X11_agrees_L231 (N : Nat) (dc : Int32) (en : Nat → Int32) (fc : Nat → Int32) (fr : Nat → Int32) (mn : Int32) (oc : Int32) (op : Nat → Int32) (os : Nat → Int32) (pc : Int32) (sd : Int32) (tc : Int32) (th : Int32) (ul : Nat → Nat) (ut : Nat → Option (Nat → Int32)) (uq : Nat → Option (Nat → Int32)) (um : Int32) (uo : Int32) (us : Int64) (ui : Int32) (uh : Int32) (r224 : Int32 → Option (Int32)) : Nat → Int32 → Int32 → Option (Int32)
  | 0 => fun _ _ => none
  | j + 1 => f_X11_agrees_L231_F N dc en fc fr mn oc op os pc sd tc th ul ut uq um uo us ui uh r224 (f_X11_agrees_L231 N dc en fc fr mn oc op os pc sd tc th ul ut uq um uo us ui uh r224 j)
set_option maxHeartbeats 4000000 in
set_option maxRecDepth 100000 in
theorem c_X11_agrees_L231 {E : KE} {p : Program} {l : Launch} {e : Env} {s : State} {m : MethodId} {args : Array Value} {below : List Frame} {meth : Method} {c : Code} {al : Option Nat} {N : Nat} {b : Nat} {x : Nat} {ul : Nat → Nat} {uw : Nat → Nat → Int32} {ut : Nat → Option (Nat → Int32)} {uq : Nat → Option (Nat → Int32)} {um : Int32} {uo : Int32} {us : Int64} {ui : Int32} {uh : Int32} {sd : Int32} {mn : Int32} {th : Int32} {dc : Int32} {fc : Nat → Int32} {pc : Int32} {tc : Int32} {en : Nat → Int32} {fr : Nat → Int32} {oc : Int32} {op : Nat → Int32} {os : Nat → Int32}  {ub : Nat} {hp0 : Hp} {out : Int32} {r224 : Int32 → Option (Int32)} (X : CX E p l s m args meth c "DiceAuditLaw$Hand" cX11_agrees 4) (hr : meth.sig.returnType = (Option.some Jvm.ClassFile.FieldType.boolean)) (G : HandP E hp0 b ub ul uw ut uq um uo us ui uh) (g0 : hp0 x = some (.inr (12, [.ref (x + 126), .ref (x + 128), .ref (x + 1), .ref (x + 3), .ref (x + 16), .ref (x + 18), .ref (x + 124), .ref (x + 125)]))) (g3 : hp0 (x + 3) = some (.inr (4, [.ref (x + 4), .ref (x + 7), .ref (x + 10), .ref (x + 13), .int sd, .int mn, .int th]))) (g4 : hp0 (x + 4) = some (.inr (2, [.ref (x + 5), .ref (x + 6), .int dc]))) (g5 : hp0 (x + 5) = some (.inl (kC E 0, 6, .inl fc))) (g7 : hp0 (x + 7) = some (.inr (9, [.ref (x + 8), .ref (x + 9), .int pc]))) (g10 : hp0 (x + 10) = some (.inr (6, [.ref (x + 11), .ref (x + 12), .int tc]))) (g11 : hp0 (x + 11) = some (.inl (kC E 0, 300, .inl en))) (g12 : hp0 (x + 12) = some (.inl (kC E 0, 432, .inl fr))) (g13 : hp0 (x + 13) = some (.inr (8, [.ref (x + 14), .ref (x + 15), .int oc]))) (g14 : hp0 (x + 14) = some (.inl (kC E 0, 36, .inl op))) (g15 : hp0 (x + 15) = some (.inl (kC E 0, 36, .inl os)))  (i224 : ∀ {l2 : Int32}, r224 l2 = some out → AW E p l e ⟨10, 1700, 10200, 168⟩ s m args below meth c 4 (MQ below (kQc E (kRet out hp0 al)) args s 1700 10200 (kA E)) hp0 al (1630 + 18 * (Int32.toNatClampNeg l2)) (6 * (1630 + 18 * (Int32.toNatClampNeg l2))) 224 [(0, .ref b), (1, .ref x), (2, .int l2)] []) : ∀ (j : Nat), ∀ {l2 : Int32} {l3 : Int32}, f_X11_agrees_L231 N dc en fc fr mn oc op os pc sd tc th ul ut uq um uo us ui uh r224 j l2 l3 = some out → AW E p l e ⟨10, 1700, 10200, 168⟩ s m args below meth c 4 (MQ below (kQc E (kRet out hp0 al)) args s 1700 10200 (kA E)) hp0 al (1630 + 18 * (Int32.toNatClampNeg l2) + 6 * (Int32.toNatClampNeg l3)) (6 * (1630 + 18 * (Int32.toNatClampNeg l2) + 6 * (Int32.toNatClampNeg l3))) 231 [(0, .ref b), (1, .ref x), (2, .int l2), (3, .int l3)] [] := by
  intro j
  induction j with
  | zero =>
    intro l2 l3 h
    have h : (none : Option (Int32)) = some out := h
    cases h
  | succ j i231 =>
    intro l2 l3 h
    have h : f_X11_agrees_L231_F N dc en fc fr mn oc op os pc sd tc th ul ut uq um uo us ui uh r224 (f_X11_agrees_L231 N dc en fc fr mn oc op os pc sd tc th ul ut uq um uo us ui uh r224 j) l2 l3 = some out := h
    unfold f_X11_agrees_L231_F at h
    obtain ⟨hgl2, h⟩ := gd_o h
    have hnl2 := inb3 hgl2
    obtain ⟨hgl3, h⟩ := gd_o h
    have hnl3 := inb3 hgl3
    refine A_iload_n X dX11_agrees_231 3 rfl ?_
    refine A_iconst (v := 3) X dX11_agrees_232 (by decide) ?_
    refine A_icmp_ge (tgt := 289) X dX11_agrees_233 h (by decide) (fun hc h => ?_) (fun hc h => ?_)
    · refine A_iinc (j := 2) (v := (l2 + 1)) (L' := [(2, .int (l2 + 1)), (0, .ref b), (1, .ref x), (3, .int l3)]) X dX11_agrees_289 rfl rfl (by decide) rfl ?_
      refine A_goto (tgt := 224) X dX11_agrees_292 (by decide) ?_
      refine A_sub (L' := [(0, .ref b), (1, .ref x), (2, .int (l2 + 1))]) [1, 2, 0] rfl ?_
      refine A_widen (k' := (1630 + 18 * (Int32.toNatClampNeg (l2 + 1)))) (n' := 6 * (1630 + 18 * (Int32.toNatClampNeg (l2 + 1)))) (by first | omega | (simp only [tn_s hgl2 (Nat.le_of_ble_eq_true rfl), tn_s hgl3 (Nat.le_of_ble_eq_true rfl)]; omega)) (by first | omega | (simp only [tn_s hgl2 (Nat.le_of_ble_eq_true rfl), tn_s hgl3 (Nat.le_of_ble_eq_true rfl)]; omega)) ?_
      exact i224 h
    · refine A_aload_n X dX11_agrees_236 1 rfl ?_
      refine A_iload_n X dX11_agrees_237 2 rfl ?_
      refine A_iload_n X dX11_agrees_238 3 rfl ?_
      rcases hbd_o h with ⟨C9, hc9, h⟩ | ⟨t6, hct6, h⟩
      · cases (show (none : Option _) = some _ from h)
      refine A_cX (k' := ((1630 + 18 * (Int32.toNatClampNeg l2) + 6 * (Int32.toNatClampNeg l3)) + 2)) (n' := (6 * (1630 + 18 * (Int32.toNatClampNeg l2) + 6 * (Int32.toNatClampNeg l3)) + 12)) rfl rfl (A_runVX (rest := []) X dX11_agrees_239 (c_X10_score g0 g3 g4 g5 g7 g10 g12 hct6) kY_X10_score kw_962 g0 rfl rfl ⟨(Nat.le_of_ble_eq_true rfl), (Nat.le_of_ble_eq_true rfl), (by dsimp only; omega), (by dsimp only; omega)⟩ rfl (Nat.le_of_ble_eq_true rfl)) (fun C hp1 hP => by obtain ⟨hC, _⟩ := hP; cases hC) (fun v9 hp9 al9 hP => ?_)
      obtain ⟨u9, hu9, rfl, rfl, rfl⟩ := hP
      cases hu9
      refine A_st (st' := [.int t6]) rfl ?_
      refine A_aload_n X dX11_agrees_242 0 rfl ?_
      refine A_iload_n X dX11_agrees_243 2 rfl ?_
      refine A_iload_n X dX11_agrees_244 3 rfl ?_
      obtain ⟨t7, hct7, h⟩ := bind_o h
      refine A_cp (k' := ((1630 + 18 * (Int32.toNatClampNeg l2) + 6 * (Int32.toNatClampNeg l3)) + 2)) (n' := (6 * (1630 + 18 * (Int32.toNatClampNeg l2) + 6 * (Int32.toNatClampNeg l3)) + 12)) (A_runV (rest := [.int t6]) X dX11_agrees_245 (c_X11_score G  hct7) kY_X11_score kw_883 G.1 rfl rfl ⟨(Nat.le_of_ble_eq_true rfl), (Nat.le_of_ble_eq_true rfl), (by dsimp only; omega), (by dsimp only; omega)⟩ rfl (Nat.le_of_ble_eq_true rfl)) rfl rfl ?_
      refine A_icmp_ne (tgt := 281) X dX11_agrees_248 h (by decide) (fun hc h => ?_) (fun hc h => ?_)
      · refine A_iconst (v := 0) X dX11_agrees_281 (by decide) ?_
        cases h
        exact A_zret X dX11_agrees_282 hr (Or.inl rfl) ⟨rfl, rfl, rfl⟩ (by omega) (by omega)
      · refine A_aload_n X dX11_agrees_251 1 rfl ?_
        refine A_iload_n X dX11_agrees_252 2 rfl ?_
        refine A_iload_n X dX11_agrees_253 3 rfl ?_
        rcases hbd_o h with ⟨C9, hc9, h⟩ | ⟨t8, hct8, h⟩
        · cases (show (none : Option _) = some _ from h)
        refine A_cX (k' := ((1630 + 18 * (Int32.toNatClampNeg l2) + 6 * (Int32.toNatClampNeg l3)) + 4)) (n' := (6 * (1630 + 18 * (Int32.toNatClampNeg l2) + 6 * (Int32.toNatClampNeg l3)) + 24)) rfl rfl (A_runVX (rest := []) X dX11_agrees_254 (c_X10_isSuspicious g0 g3 g4 g5 g7 g10 g12 hct8) kY_X10_isSuspicious kw_976 g0 rfl rfl ⟨(Nat.le_of_ble_eq_true rfl), (Nat.le_of_ble_eq_true rfl), (by dsimp only; omega), (by dsimp only; omega)⟩ rfl (Nat.le_of_ble_eq_true rfl)) (fun C hp1 hP => by obtain ⟨hC, _⟩ := hP; cases hC) (fun v9 hp9 al9 hP => ?_)
        obtain ⟨u9, hu9, rfl, z9, rfl, rfl⟩ := hP
        cases hu9
        refine A_st (st' := [.int t8]) rfl ?_
        refine A_aload_n X dX11_agrees_257 0 rfl ?_
        refine A_iload_n X dX11_agrees_258 2 rfl ?_
        refine A_iload_n X dX11_agrees_259 3 rfl ?_
        obtain ⟨t9, hct9, h⟩ := bind_o h
        refine A_cp (k' := ((1630 + 18 * (Int32.toNatClampNeg l2) + 6 * (Int32.toNatClampNeg l3)) + 4)) (n' := (6 * (1630 + 18 * (Int32.toNatClampNeg l2) + 6 * (Int32.toNatClampNeg l3)) + 24)) (A_runV (rest := [.int t8]) X dX11_agrees_260 (c_X11_isBad G  hct9) kY_X11_isBad kw_875 G.1 rfl rfl ⟨(Nat.le_of_ble_eq_true rfl), (Nat.le_of_ble_eq_true rfl), (by dsimp only; omega), (by dsimp only; omega)⟩ rfl (Nat.le_of_ble_eq_true rfl)) rfl rfl ?_
        refine A_icmp_ne (tgt := 281) X dX11_agrees_263 h (by decide) (fun hc h => ?_) (fun hc h => ?_)
        · refine A_iconst (v := 0) X dX11_agrees_281 (by decide) ?_
          cases h
          exact A_zret X dX11_agrees_282 hr (Or.inl rfl) ⟨rfl, rfl, rfl⟩ (by omega) (by omega)
        · refine A_aload_n X dX11_agrees_266 1 rfl ?_
          refine A_iload_n X dX11_agrees_267 2 rfl ?_
          refine A_iload_n X dX11_agrees_268 3 rfl ?_
          rcases hbd_o h with ⟨C9, hc9, h⟩ | ⟨t10, hct10, h⟩
          · cases (show (none : Option _) = some _ from h)
          refine A_cX (k' := ((1630 + 18 * (Int32.toNatClampNeg l2) + 6 * (Int32.toNatClampNeg l3)) + 6)) (n' := (6 * (1630 + 18 * (Int32.toNatClampNeg l2) + 6 * (Int32.toNatClampNeg l3)) + 36)) rfl rfl (A_runVX (rest := []) X dX11_agrees_269 (c_X10_throwsOfPair g0 g3 g4 g7 g10 g12 hct10) kY_X10_throwsOfPair kw_984 g0 rfl rfl ⟨(Nat.le_of_ble_eq_true rfl), (Nat.le_of_ble_eq_true rfl), (by dsimp only; omega), (by dsimp only; omega)⟩ rfl (Nat.le_of_ble_eq_true rfl)) (fun C hp1 hP => by obtain ⟨hC, _⟩ := hP; cases hC) (fun v9 hp9 al9 hP => ?_)
          obtain ⟨u9, hu9, rfl, rfl, rfl⟩ := hP
          cases hu9
          refine A_st (st' := [.int t10]) rfl ?_
          refine A_aload_n X dX11_agrees_272 0 rfl ?_
          refine A_iload_n X dX11_agrees_273 2 rfl ?_
          refine A_iload_n X dX11_agrees_274 3 rfl ?_
          obtain ⟨t11, hct11, h⟩ := bind_o h
          refine A_cp (k' := ((1630 + 18 * (Int32.toNatClampNeg l2) + 6 * (Int32.toNatClampNeg l3)) + 6)) (n' := (6 * (1630 + 18 * (Int32.toNatClampNeg l2) + 6 * (Int32.toNatClampNeg l3)) + 36)) (A_runV (rest := [.int t10]) X dX11_agrees_275 (c_X11_ofPair G  hct11) kY_X11_ofPair kw_879 G.1 rfl rfl ⟨(Nat.le_of_ble_eq_true rfl), (Nat.le_of_ble_eq_true rfl), (by dsimp only; omega), (by dsimp only; omega)⟩ rfl (Nat.le_of_ble_eq_true rfl)) rfl rfl ?_
          refine A_icmp_eq (tgt := 283) X dX11_agrees_278 h (by decide) (fun hc h => ?_) (fun hc h => ?_)
          · refine A_iinc (j := 3) (v := (l3 + 1)) (L' := [(3, .int (l3 + 1)), (0, .ref b), (1, .ref x), (2, .int l2)]) X dX11_agrees_283 rfl rfl (by decide) rfl ?_
            refine A_goto (tgt := 231) X dX11_agrees_286 (by decide) ?_
            refine A_sub (L' := [(0, .ref b), (1, .ref x), (2, .int l2), (3, .int (l3 + 1))]) [1, 2, 3, 0] rfl ?_
            refine A_widen (k' := (1630 + 18 * (Int32.toNatClampNeg l2) + 6 * (Int32.toNatClampNeg (l3 + 1)))) (n' := 6 * (1630 + 18 * (Int32.toNatClampNeg l2) + 6 * (Int32.toNatClampNeg (l3 + 1)))) (by first | omega | (simp only [tn_s hgl2 (Nat.le_of_ble_eq_true rfl), tn_s hgl3 (Nat.le_of_ble_eq_true rfl)]; omega)) (by first | omega | (simp only [tn_s hgl2 (Nat.le_of_ble_eq_true rfl), tn_s hgl3 (Nat.le_of_ble_eq_true rfl)]; omega)) ?_
            exact i231 h
          · refine A_iconst (v := 0) X dX11_agrees_281 (by decide) ?_
            cases h
            exact A_zret X dX11_agrees_282 hr (Or.inl rfl) ⟨rfl, rfl, rfl⟩ (by omega) (by omega)
def f_X11_agrees_L224_F (N : Nat) (dc : Int32) (en : Nat → Int32) (fc : Nat → Int32) (fr : Nat → Int32) (mn : Int32) (oc : Int32) (op : Nat → Int32) (os : Nat → Int32) (pc : Int32) (sd : Int32) (tc : Int32) (th : Int32) (ul : Nat → Nat) (ut : Nat → Option (Nat → Int32)) (uq : Nat → Option (Nat → Int32)) (um : Int32) (uo : Int32) (us : Int64) (ui : Int32) (uh : Int32)  (r224 : Int32 → Option (Int32)) (l2 : Int32) : Option (Int32) :=
  gd (inb l2 4) <|
  if 3 ≤ l2 then
    some 1
  else
    f_X11_agrees_L231 N dc en fc fr mn oc op os pc sd tc th ul ut uq um uo us ui uh r224 N l2 0
def f_X11_agrees_L224 (N : Nat) (dc : Int32) (en : Nat → Int32) (fc : Nat → Int32) (fr : Nat → Int32) (mn : Int32) (oc : Int32) (op : Nat → Int32) (os : Nat → Int32) (pc : Int32) (sd : Int32) (tc : Int32) (th : Int32) (ul : Nat → Nat) (ut : Nat → Option (Nat → Int32)) (uq : Nat → Option (Nat → Int32)) (um : Int32) (uo : Int32) (us : Int64) (ui : Int32) (uh : Int32)  : Nat → Int32 → Option (Int32)
  | 0 => fun _ => none
  | j + 1 => f_X11_agrees_L224_F N dc en fc fr mn oc op os pc sd tc th ul ut uq um uo us ui uh (f_X11_agrees_L224 N dc en fc fr mn oc op os pc sd tc th ul ut uq um uo us ui uh j)
set_option maxHeartbeats 4000000 in
set_option maxRecDepth 100000 in
theorem c_X11_agrees_L224 {E : KE} {p : Program} {l : Launch} {e : Env} {s : State} {m : MethodId} {args : Array Value} {below : List Frame} {meth : Method} {c : Code} {al : Option Nat} {N : Nat} {b : Nat} {x : Nat} {ul : Nat → Nat} {uw : Nat → Nat → Int32} {ut : Nat → Option (Nat → Int32)} {uq : Nat → Option (Nat → Int32)} {um : Int32} {uo : Int32} {us : Int64} {ui : Int32} {uh : Int32} {sd : Int32} {mn : Int32} {th : Int32} {dc : Int32} {fc : Nat → Int32} {pc : Int32} {tc : Int32} {en : Nat → Int32} {fr : Nat → Int32} {oc : Int32} {op : Nat → Int32} {os : Nat → Int32}  {ub : Nat} {hp0 : Hp} {out : Int32}  (X : CX E p l s m args meth c "DiceAuditLaw$Hand" cX11_agrees 4) (hr : meth.sig.returnType = (Option.some Jvm.ClassFile.FieldType.boolean)) (G : HandP E hp0 b ub ul uw ut uq um uo us ui uh) (g0 : hp0 x = some (.inr (12, [.ref (x + 126), .ref (x + 128), .ref (x + 1), .ref (x + 3), .ref (x + 16), .ref (x + 18), .ref (x + 124), .ref (x + 125)]))) (g3 : hp0 (x + 3) = some (.inr (4, [.ref (x + 4), .ref (x + 7), .ref (x + 10), .ref (x + 13), .int sd, .int mn, .int th]))) (g4 : hp0 (x + 4) = some (.inr (2, [.ref (x + 5), .ref (x + 6), .int dc]))) (g5 : hp0 (x + 5) = some (.inl (kC E 0, 6, .inl fc))) (g7 : hp0 (x + 7) = some (.inr (9, [.ref (x + 8), .ref (x + 9), .int pc]))) (g10 : hp0 (x + 10) = some (.inr (6, [.ref (x + 11), .ref (x + 12), .int tc]))) (g11 : hp0 (x + 11) = some (.inl (kC E 0, 300, .inl en))) (g12 : hp0 (x + 12) = some (.inl (kC E 0, 432, .inl fr))) (g13 : hp0 (x + 13) = some (.inr (8, [.ref (x + 14), .ref (x + 15), .int oc]))) (g14 : hp0 (x + 14) = some (.inl (kC E 0, 36, .inl op))) (g15 : hp0 (x + 15) = some (.inl (kC E 0, 36, .inl os)))  : ∀ (j : Nat), ∀ {l2 : Int32}, f_X11_agrees_L224 N dc en fc fr mn oc op os pc sd tc th ul ut uq um uo us ui uh j l2 = some out → AW E p l e ⟨10, 1700, 10200, 168⟩ s m args below meth c 4 (MQ below (kQc E (kRet out hp0 al)) args s 1700 10200 (kA E)) hp0 al (1630 + 18 * (Int32.toNatClampNeg l2)) (6 * (1630 + 18 * (Int32.toNatClampNeg l2))) 224 [(0, .ref b), (1, .ref x), (2, .int l2)] [] := by
  intro j
  induction j with
  | zero =>
    intro l2 h
    have h : (none : Option (Int32)) = some out := h
    cases h
  | succ j i224 =>
    intro l2 h
    have h : f_X11_agrees_L224_F N dc en fc fr mn oc op os pc sd tc th ul ut uq um uo us ui uh (f_X11_agrees_L224 N dc en fc fr mn oc op os pc sd tc th ul ut uq um uo us ui uh j) l2 = some out := h
    unfold f_X11_agrees_L224_F at h
    obtain ⟨hgl2, h⟩ := gd_o h
    have hnl2 := inb3 hgl2
    refine A_iload_n X dX11_agrees_224 2 rfl ?_
    refine A_iconst (v := 3) X dX11_agrees_225 (by decide) ?_
    refine A_icmp_ge (tgt := 295) X dX11_agrees_226 h (by decide) (fun hc h => ?_) (fun hc h => ?_)
    · refine A_iconst (v := 1) X dX11_agrees_295 (by decide) ?_
      cases h
      exact A_zret X dX11_agrees_296 hr (Or.inr rfl) ⟨rfl, rfl, rfl⟩ (by omega) (by omega)
    · refine A_iconst (v := 0) X dX11_agrees_229 (by decide) ?_
      refine A_istore_n (L' := [(3, .int 0), (0, .ref b), (1, .ref x), (2, .int l2)]) X dX11_agrees_230 rfl (by decide) rfl ?_
      refine A_sub (L' := [(0, .ref b), (1, .ref x), (2, .int l2), (3, .int 0)]) [1, 2, 3, 0] rfl ?_
      refine A_widen (k' := (1630 + 18 * (Int32.toNatClampNeg l2) + 6 * (Int32.toNatClampNeg 0))) (n' := 6 * (1630 + 18 * (Int32.toNatClampNeg l2) + 6 * (Int32.toNatClampNeg 0))) (by first | omega | (simp only [tn_s hgl2 (Nat.le_of_ble_eq_true rfl)]; omega)) (by first | omega | (simp only [tn_s hgl2 (Nat.le_of_ble_eq_true rfl)]; omega)) ?_
      exact c_X11_agrees_L231 X hr G g0 g3 g4 g5 g7 g10 g11 g12 g13 g14 g15 i224 N h
def f_X11_agrees_L152_F (N : Nat) (dc : Int32) (en : Nat → Int32) (fc : Nat → Int32) (fr : Nat → Int32) (mn : Int32) (oc : Int32) (op : Nat → Int32) (os : Nat → Int32) (pc : Int32) (sd : Int32) (tc : Int32) (th : Int32) (ul : Nat → Nat) (ut : Nat → Option (Nat → Int32)) (uq : Nat → Option (Nat → Int32)) (um : Int32) (uo : Int32) (us : Int64) (ui : Int32) (uh : Int32)  (r152 : Int32 → Option (Int32)) (l2 : Int32) : Option (Int32) :=
  gd (inb l2 10) <|
  if uo ≤ l2 then
    f_X11_agrees_L224 N dc en fc fr mn oc op os pc sd tc th ul ut uq um uo us ui uh N 0
  else
    (f_X11_rank N uq uo l2).bind fun t6 =>
    hbd (f_X10_offencePlayer oc op t6) (fun _ => none) fun t7 =>
    gd (inb l2 9) <|
    (uq (Int32.toNatClampNeg l2)).bind fun c8 =>
    if t7 = (c8 (Int32.toNatClampNeg 0)) then
      hbd (f_X10_offenceDie oc op t6) (fun _ => none) fun t9 =>
      gd (inb l2 9) <|
      (uq (Int32.toNatClampNeg l2)).bind fun c10 =>
      if t9 = (c10 (Int32.toNatClampNeg 1)) then
        hbd (f_X10_offenceScore oc os t6) (fun _ => none) fun t11 =>
        gd (inb l2 9) <|
        (uq (Int32.toNatClampNeg l2)).bind fun c12 =>
        if t11 = (c12 (Int32.toNatClampNeg 2)) then
          r152 (l2 + 1)
        else
          some 0
      else
        some 0
    else
      some 0
def f_X11_agrees_L152 (N : Nat) (dc : Int32) (en : Nat → Int32) (fc : Nat → Int32) (fr : Nat → Int32) (mn : Int32) (oc : Int32) (op : Nat → Int32) (os : Nat → Int32) (pc : Int32) (sd : Int32) (tc : Int32) (th : Int32) (ul : Nat → Nat) (ut : Nat → Option (Nat → Int32)) (uq : Nat → Option (Nat → Int32)) (um : Int32) (uo : Int32) (us : Int64) (ui : Int32) (uh : Int32)  : Nat → Int32 → Option (Int32)
  | 0 => fun _ => none
  | j + 1 => f_X11_agrees_L152_F N dc en fc fr mn oc op os pc sd tc th ul ut uq um uo us ui uh (f_X11_agrees_L152 N dc en fc fr mn oc op os pc sd tc th ul ut uq um uo us ui uh j)
set_option maxHeartbeats 4000000 in
set_option maxRecDepth 100000 in
theorem c_X11_agrees_L152 {E : KE} {p : Program} {l : Launch} {e : Env} {s : State} {m : MethodId} {args : Array Value} {below : List Frame} {meth : Method} {c : Code} {al : Option Nat} {N : Nat} {b : Nat} {x : Nat} {ul : Nat → Nat} {uw : Nat → Nat → Int32} {ut : Nat → Option (Nat → Int32)} {uq : Nat → Option (Nat → Int32)} {um : Int32} {uo : Int32} {us : Int64} {ui : Int32} {uh : Int32} {sd : Int32} {mn : Int32} {th : Int32} {dc : Int32} {fc : Nat → Int32} {pc : Int32} {tc : Int32} {en : Nat → Int32} {fr : Nat → Int32} {oc : Int32} {op : Nat → Int32} {os : Nat → Int32}  {ub : Nat} {hp0 : Hp} {out : Int32}  (X : CX E p l s m args meth c "DiceAuditLaw$Hand" cX11_agrees 4) (hr : meth.sig.returnType = (Option.some Jvm.ClassFile.FieldType.boolean)) (G : HandP E hp0 b ub ul uw ut uq um uo us ui uh) (g0 : hp0 x = some (.inr (12, [.ref (x + 126), .ref (x + 128), .ref (x + 1), .ref (x + 3), .ref (x + 16), .ref (x + 18), .ref (x + 124), .ref (x + 125)]))) (g3 : hp0 (x + 3) = some (.inr (4, [.ref (x + 4), .ref (x + 7), .ref (x + 10), .ref (x + 13), .int sd, .int mn, .int th]))) (g4 : hp0 (x + 4) = some (.inr (2, [.ref (x + 5), .ref (x + 6), .int dc]))) (g5 : hp0 (x + 5) = some (.inl (kC E 0, 6, .inl fc))) (g7 : hp0 (x + 7) = some (.inr (9, [.ref (x + 8), .ref (x + 9), .int pc]))) (g10 : hp0 (x + 10) = some (.inr (6, [.ref (x + 11), .ref (x + 12), .int tc]))) (g11 : hp0 (x + 11) = some (.inl (kC E 0, 300, .inl en))) (g12 : hp0 (x + 12) = some (.inl (kC E 0, 432, .inl fr))) (g13 : hp0 (x + 13) = some (.inr (8, [.ref (x + 14), .ref (x + 15), .int oc]))) (g14 : hp0 (x + 14) = some (.inl (kC E 0, 36, .inl op))) (g15 : hp0 (x + 15) = some (.inl (kC E 0, 36, .inl os)))  : ∀ (j : Nat), ∀ {l2 : Int32}, f_X11_agrees_L152 N dc en fc fr mn oc op os pc sd tc th ul ut uq um uo us ui uh j l2 = some out → AW E p l e ⟨10, 1700, 10200, 168⟩ s m args below meth c 4 (MQ below (kQc E (kRet out hp0 al)) args s 1700 10200 (kA E)) hp0 al (1600 + 3 * (Int32.toNatClampNeg l2)) (6 * (1600 + 3 * (Int32.toNatClampNeg l2))) 152 [(0, .ref b), (1, .ref x), (2, .int l2)] [] := by
  intro j
  induction j with
  | zero =>
    intro l2 h
    have h : (none : Option (Int32)) = some out := h
    cases h
  | succ j i152 =>
    intro l2 h
    have h : f_X11_agrees_L152_F N dc en fc fr mn oc op os pc sd tc th ul ut uq um uo us ui uh (f_X11_agrees_L152 N dc en fc fr mn oc op os pc sd tc th ul ut uq um uo us ui uh j) l2 = some out := h
    unfold f_X11_agrees_L152_F at h
    obtain ⟨hgl2, h⟩ := gd_o h
    have hnl2 := inb3 hgl2
    refine A_iload_n X dX11_agrees_152 2 rfl ?_
    refine A_aload_n X dX11_agrees_153 0 rfl ?_
    refine A_get X dX11_agrees_154 kcl_X11 4 (by decide) kw_835 G.1 rfl ?_
    refine A_icmp_ge (tgt := 222) X dX11_agrees_157 h (by decide) (fun hc h => ?_) (fun hc h => ?_)
    · refine A_iconst (v := 0) X dX11_agrees_222 (by decide) ?_
      refine A_istore_n (L' := [(2, .int 0), (0, .ref b), (1, .ref x)]) X dX11_agrees_223 rfl (by decide) rfl ?_
      refine A_sub (L' := [(0, .ref b), (1, .ref x), (2, .int 0)]) [1, 2, 0] rfl ?_
      refine A_widen (k' := (1630 + 18 * (Int32.toNatClampNeg 0))) (n' := 6 * (1630 + 18 * (Int32.toNatClampNeg 0))) (by first | omega | (simp only [tn_s hgl2 (Nat.le_of_ble_eq_true rfl)]; omega)) (by first | omega | (simp only [tn_s hgl2 (Nat.le_of_ble_eq_true rfl)]; omega)) ?_
      exact c_X11_agrees_L224 X hr G g0 g3 g4 g5 g7 g10 g11 g12 g13 g14 g15 N h
    · refine A_aload_n X dX11_agrees_160 0 rfl ?_
      refine A_iload_n X dX11_agrees_161 2 rfl ?_
      obtain ⟨t6, hct6, h⟩ := bind_o h
      refine A_cp (k' := (1600 + 3 * (Int32.toNatClampNeg l2))) (n' := (6 * (1600 + 3 * (Int32.toNatClampNeg l2)))) (A_runV (rest := []) X dX11_agrees_162 (c_X11_rank G  hct6) kY_X11_rank kw_895 G.1 rfl rfl ⟨(Nat.le_of_ble_eq_true rfl), (Nat.le_of_ble_eq_true rfl), (by dsimp only; omega), (by dsimp only; omega)⟩ rfl (Nat.le_of_ble_eq_true rfl)) rfl rfl ?_
      refine A_istore_n (L' := [(3, .int t6), (0, .ref b), (1, .ref x), (2, .int l2)]) X dX11_agrees_165 rfl (by decide) rfl ?_
      refine A_aload_n X dX11_agrees_166 2 rfl ?_
      refine A_iload_n X dX11_agrees_167 0 rfl ?_
      rcases hbd_o h with ⟨C9, hc9, h⟩ | ⟨t7, hct7, h⟩
      · cases (show (none : Option _) = some _ from h)
      refine A_cX (k' := ((1600 + 3 * (Int32.toNatClampNeg l2)) + 1)) (n' := (6 * (1600 + 3 * (Int32.toNatClampNeg l2)) + 6)) rfl rfl (A_runVX (rest := []) X dX11_agrees_168 (c_X10_offencePlayer g0 g3 g13 g14 hct7) kY_X10_offencePlayer kw_946 g0 rfl rfl ⟨(Nat.le_of_ble_eq_true rfl), (Nat.le_of_ble_eq_true rfl), (by dsimp only; omega), (by dsimp only; omega)⟩ rfl (Nat.le_of_ble_eq_true rfl)) (fun C hp1 hP => by obtain ⟨hC, _⟩ := hP; cases hC) (fun v9 hp9 al9 hP => ?_)
      obtain ⟨u9, hu9, rfl, rfl, rfl⟩ := hP
      cases hu9
      refine A_st (st' := [.int t7]) rfl ?_
      refine A_aload_n X dX11_agrees_171 1 rfl ?_
      refine A_get X dX11_agrees_172 kcl_X11 2 (by decide) kw_833 G.1 rfl ?_
      refine A_iload_n X dX11_agrees_175 3 rfl ?_
      obtain ⟨hq, h⟩ := gd_o h
      obtain ⟨c8, hc8, h⟩ := bind_o h
      refine A_row X dX11_agrees_176 G.2.2.2.2.1 hq hc8 (fun q8 hb8 k8 => ?_)
      refine A_iconst (v := 0) X dX11_agrees_177 (by decide) ?_
      refine A_iald X dX11_agrees_178 k8 (by decide) ?_
      refine A_icmp_ne (tgt := 214) X dX11_agrees_179 h (by decide) (fun hc h => ?_) (fun hc h => ?_)
      · refine A_iconst (v := 0) X dX11_agrees_214 (by decide) ?_
        cases h
        exact A_zret X dX11_agrees_215 hr (Or.inl rfl) ⟨rfl, rfl, rfl⟩ (by omega) (by omega)
      · refine A_aload_n X dX11_agrees_182 2 rfl ?_
        refine A_iload_n X dX11_agrees_183 0 rfl ?_
        rcases hbd_o h with ⟨C9, hc9, h⟩ | ⟨t9, hct9, h⟩
        · cases (show (none : Option _) = some _ from h)
        refine A_cX (k' := ((1600 + 3 * (Int32.toNatClampNeg l2)) + 2)) (n' := (6 * (1600 + 3 * (Int32.toNatClampNeg l2)) + 12)) rfl rfl (A_runVX (rest := []) X dX11_agrees_184 (c_X10_offenceDie g0 g3 g13 g14 hct9) kY_X10_offenceDie kw_954 g0 rfl rfl ⟨(Nat.le_of_ble_eq_true rfl), (Nat.le_of_ble_eq_true rfl), (by dsimp only; omega), (by dsimp only; omega)⟩ rfl (Nat.le_of_ble_eq_true rfl)) (fun C hp1 hP => by obtain ⟨hC, _⟩ := hP; cases hC) (fun v9 hp9 al9 hP => ?_)
        obtain ⟨u9, hu9, rfl, rfl, rfl⟩ := hP
        cases hu9
        refine A_st (st' := [.int t9]) rfl ?_
        refine A_aload_n X dX11_agrees_187 1 rfl ?_
        refine A_get X dX11_agrees_188 kcl_X11 2 (by decide) kw_833 G.1 rfl ?_
        refine A_iload_n X dX11_agrees_191 3 rfl ?_
        obtain ⟨hq, h⟩ := gd_o h
        obtain ⟨c10, hc10, h⟩ := bind_o h
        refine A_row X dX11_agrees_192 G.2.2.2.2.1 hq hc10 (fun q10 hb10 k10 => ?_)
        refine A_iconst (v := 1) X dX11_agrees_193 (by decide) ?_
        refine A_iald X dX11_agrees_194 k10 (by decide) ?_
        refine A_icmp_ne (tgt := 214) X dX11_agrees_195 h (by decide) (fun hc h => ?_) (fun hc h => ?_)
        · refine A_iconst (v := 0) X dX11_agrees_214 (by decide) ?_
          cases h
          exact A_zret X dX11_agrees_215 hr (Or.inl rfl) ⟨rfl, rfl, rfl⟩ (by omega) (by omega)
        · refine A_aload_n X dX11_agrees_198 2 rfl ?_
          refine A_iload_n X dX11_agrees_199 0 rfl ?_
          rcases hbd_o h with ⟨C9, hc9, h⟩ | ⟨t11, hct11, h⟩
          · cases (show (none : Option _) = some _ from h)
          refine A_cX (k' := ((1600 + 3 * (Int32.toNatClampNeg l2)) + 3)) (n' := (6 * (1600 + 3 * (Int32.toNatClampNeg l2)) + 18)) rfl rfl (A_runVX (rest := []) X dX11_agrees_200 (c_X10_offenceScore g0 g3 g13 g15 hct11) kY_X10_offenceScore kw_958 g0 rfl rfl ⟨(Nat.le_of_ble_eq_true rfl), (Nat.le_of_ble_eq_true rfl), (by dsimp only; omega), (by dsimp only; omega)⟩ rfl (Nat.le_of_ble_eq_true rfl)) (fun C hp1 hP => by obtain ⟨hC, _⟩ := hP; cases hC) (fun v9 hp9 al9 hP => ?_)
          obtain ⟨u9, hu9, rfl, rfl, rfl⟩ := hP
          cases hu9
          refine A_st (st' := [.int t11]) rfl ?_
          refine A_aload_n X dX11_agrees_203 1 rfl ?_
          refine A_get X dX11_agrees_204 kcl_X11 2 (by decide) kw_833 G.1 rfl ?_
          refine A_iload_n X dX11_agrees_207 3 rfl ?_
          obtain ⟨hq, h⟩ := gd_o h
          obtain ⟨c12, hc12, h⟩ := bind_o h
          refine A_row X dX11_agrees_208 G.2.2.2.2.1 hq hc12 (fun q12 hb12 k12 => ?_)
          refine A_iconst (v := 2) X dX11_agrees_209 (by decide) ?_
          refine A_iald X dX11_agrees_210 k12 (by decide) ?_
          refine A_icmp_eq (tgt := 216) X dX11_agrees_211 h (by decide) (fun hc h => ?_) (fun hc h => ?_)
          · refine A_iinc (j := 3) (v := (l2 + 1)) (L' := [(2, .int (l2 + 1)), (3, .int t6), (0, .ref b), (1, .ref x)]) X dX11_agrees_216 rfl rfl (by decide) rfl ?_
            refine A_goto (tgt := 152) X dX11_agrees_219 (by decide) ?_
            refine A_sub (L' := [(0, .ref b), (1, .ref x), (2, .int (l2 + 1))]) [2, 3, 0] rfl ?_
            refine A_widen (k' := (1600 + 3 * (Int32.toNatClampNeg (l2 + 1)))) (n' := 6 * (1600 + 3 * (Int32.toNatClampNeg (l2 + 1)))) (by first | omega | (simp only [tn_s hgl2 (Nat.le_of_ble_eq_true rfl)]; omega)) (by first | omega | (simp only [tn_s hgl2 (Nat.le_of_ble_eq_true rfl)]; omega)) ?_
            exact i152 h
          · refine A_iconst (v := 0) X dX11_agrees_214 (by decide) ?_
            cases h
            exact A_zret X dX11_agrees_215 hr (Or.inl rfl) ⟨rfl, rfl, rfl⟩ (by omega) (by omega)
def f_X11_agrees_L61_F (N : Nat) (dc : Int32) (en : Nat → Int32) (fc : Nat → Int32) (fr : Nat → Int32) (mn : Int32) (oc : Int32) (op : Nat → Int32) (os : Nat → Int32) (pc : Int32) (sd : Int32) (tc : Int32) (th : Int32) (ul : Nat → Nat) (ut : Nat → Option (Nat → Int32)) (uq : Nat → Option (Nat → Int32)) (um : Int32) (uo : Int32) (us : Int64) (ui : Int32) (uh : Int32)  (r61 : Int32 → Option (Int32)) (l2 : Int32) : Option (Int32) :=
  gd (inb l2 400) <|
  if um ≤ l2 then
    f_X11_agrees_L152 N dc en fc fr mn oc op os pc sd tc th ul ut uq um uo us ui uh N 0
  else
    hbd (f_X10_playerAt tc en l2) (fun _ => none) fun t6 =>
    gd (inb l2 400) <|
    (ut (Int32.toNatClampNeg l2)).bind fun c7 =>
    if t6 = (c7 (Int32.toNatClampNeg 0)) then
      hbd (f_X10_dieAt tc en l2) (fun _ => none) fun t8 =>
      gd (inb l2 400) <|
      (ut (Int32.toNatClampNeg l2)).bind fun c9 =>
      if t8 = (c9 (Int32.toNatClampNeg 1)) then
        hbd (f_X10_faceAt tc en l2) (fun _ => none) fun t10 =>
        gd (inb l2 400) <|
        (ut (Int32.toNatClampNeg l2)).bind fun c11 =>
        if t10 = (c11 (Int32.toNatClampNeg 2)) then
          hbd (f_X10_isFairAt tc en l2) (fun _ => none) fun t12 =>
          gd (inb l2 400) <|
          (ut (Int32.toNatClampNeg l2)).bind fun c13 =>
          if (c13 (Int32.toNatClampNeg 3)) = 1 then
            if t12 = 1 then
              r61 (l2 + 1)
            else
              some 0
          else
            if t12 = 0 then
              r61 (l2 + 1)
            else
              some 0
        else
          some 0
      else
        some 0
    else
      some 0
def f_X11_agrees_L61 (N : Nat) (dc : Int32) (en : Nat → Int32) (fc : Nat → Int32) (fr : Nat → Int32) (mn : Int32) (oc : Int32) (op : Nat → Int32) (os : Nat → Int32) (pc : Int32) (sd : Int32) (tc : Int32) (th : Int32) (ul : Nat → Nat) (ut : Nat → Option (Nat → Int32)) (uq : Nat → Option (Nat → Int32)) (um : Int32) (uo : Int32) (us : Int64) (ui : Int32) (uh : Int32)  : Nat → Int32 → Option (Int32)
  | 0 => fun _ => none
  | j + 1 => f_X11_agrees_L61_F N dc en fc fr mn oc op os pc sd tc th ul ut uq um uo us ui uh (f_X11_agrees_L61 N dc en fc fr mn oc op os pc sd tc th ul ut uq um uo us ui uh j)
set_option maxHeartbeats 4000000 in
set_option maxRecDepth 100000 in
theorem c_X11_agrees_L61 {E : KE} {p : Program} {l : Launch} {e : Env} {s : State} {m : MethodId} {args : Array Value} {below : List Frame} {meth : Method} {c : Code} {al : Option Nat} {N : Nat} {b : Nat} {x : Nat} {ul : Nat → Nat} {uw : Nat → Nat → Int32} {ut : Nat → Option (Nat → Int32)} {uq : Nat → Option (Nat → Int32)} {um : Int32} {uo : Int32} {us : Int64} {ui : Int32} {uh : Int32} {sd : Int32} {mn : Int32} {th : Int32} {dc : Int32} {fc : Nat → Int32} {pc : Int32} {tc : Int32} {en : Nat → Int32} {fr : Nat → Int32} {oc : Int32} {op : Nat → Int32} {os : Nat → Int32}  {ub : Nat} {hp0 : Hp} {out : Int32}  (X : CX E p l s m args meth c "DiceAuditLaw$Hand" cX11_agrees 4) (hr : meth.sig.returnType = (Option.some Jvm.ClassFile.FieldType.boolean)) (G : HandP E hp0 b ub ul uw ut uq um uo us ui uh) (g0 : hp0 x = some (.inr (12, [.ref (x + 126), .ref (x + 128), .ref (x + 1), .ref (x + 3), .ref (x + 16), .ref (x + 18), .ref (x + 124), .ref (x + 125)]))) (g3 : hp0 (x + 3) = some (.inr (4, [.ref (x + 4), .ref (x + 7), .ref (x + 10), .ref (x + 13), .int sd, .int mn, .int th]))) (g4 : hp0 (x + 4) = some (.inr (2, [.ref (x + 5), .ref (x + 6), .int dc]))) (g5 : hp0 (x + 5) = some (.inl (kC E 0, 6, .inl fc))) (g7 : hp0 (x + 7) = some (.inr (9, [.ref (x + 8), .ref (x + 9), .int pc]))) (g10 : hp0 (x + 10) = some (.inr (6, [.ref (x + 11), .ref (x + 12), .int tc]))) (g11 : hp0 (x + 11) = some (.inl (kC E 0, 300, .inl en))) (g12 : hp0 (x + 12) = some (.inl (kC E 0, 432, .inl fr))) (g13 : hp0 (x + 13) = some (.inr (8, [.ref (x + 14), .ref (x + 15), .int oc]))) (g14 : hp0 (x + 14) = some (.inl (kC E 0, 36, .inl op))) (g15 : hp0 (x + 15) = some (.inl (kC E 0, 36, .inl os)))  : ∀ (j : Nat), ∀ {l2 : Int32}, f_X11_agrees_L61 N dc en fc fr mn oc op os pc sd tc th ul ut uq um uo us ui uh j l2 = some out → AW E p l e ⟨10, 1700, 10200, 168⟩ s m args below meth c 4 (MQ below (kQc E (kRet out hp0 al)) args s 1700 10200 (kA E)) hp0 al (4 * (Int32.toNatClampNeg l2)) (6 * (4 * (Int32.toNatClampNeg l2))) 61 [(0, .ref b), (1, .ref x), (2, .int l2)] [] := by
  intro j
  induction j with
  | zero =>
    intro l2 h
    have h : (none : Option (Int32)) = some out := h
    cases h
  | succ j i61 =>
    intro l2 h
    have h : f_X11_agrees_L61_F N dc en fc fr mn oc op os pc sd tc th ul ut uq um uo us ui uh (f_X11_agrees_L61 N dc en fc fr mn oc op os pc sd tc th ul ut uq um uo us ui uh j) l2 = some out := h
    unfold f_X11_agrees_L61_F at h
    obtain ⟨hgl2, h⟩ := gd_o h
    have hnl2 := inb3 hgl2
    refine A_iload_n X dX11_agrees_61 2 rfl ?_
    refine A_aload_n X dX11_agrees_62 0 rfl ?_
    refine A_get X dX11_agrees_63 kcl_X11 3 (by decide) kw_834 G.1 rfl ?_
    refine A_icmp_ge (tgt := 150) X dX11_agrees_66 h (by decide) (fun hc h => ?_) (fun hc h => ?_)
    · refine A_iconst (v := 0) X dX11_agrees_150 (by decide) ?_
      refine A_istore_n (L' := [(2, .int 0), (0, .ref b), (1, .ref x)]) X dX11_agrees_151 rfl (by decide) rfl ?_
      refine A_sub (L' := [(0, .ref b), (1, .ref x), (2, .int 0)]) [1, 2, 0] rfl ?_
      refine A_widen (k' := (1600 + 3 * (Int32.toNatClampNeg 0))) (n' := 6 * (1600 + 3 * (Int32.toNatClampNeg 0))) (by first | omega | (simp only [tn_s hgl2 (Nat.le_of_ble_eq_true rfl)]; omega)) (by first | omega | (simp only [tn_s hgl2 (Nat.le_of_ble_eq_true rfl)]; omega)) ?_
      exact c_X11_agrees_L152 X hr G g0 g3 g4 g5 g7 g10 g11 g12 g13 g14 g15 N h
    · refine A_aload_n X dX11_agrees_69 1 rfl ?_
      refine A_iload_n X dX11_agrees_70 2 rfl ?_
      rcases hbd_o h with ⟨C9, hc9, h⟩ | ⟨t6, hct6, h⟩
      · cases (show (none : Option _) = some _ from h)
      refine A_cX (k' := ((4 * (Int32.toNatClampNeg l2)) + 1)) (n' := (6 * (4 * (Int32.toNatClampNeg l2)) + 6)) rfl rfl (A_runVX (rest := []) X dX11_agrees_71 (c_X10_playerAt g0 g3 g10 g11 hct6) kY_X10_playerAt kw_921 g0 rfl rfl ⟨(Nat.le_of_ble_eq_true rfl), (Nat.le_of_ble_eq_true rfl), (by dsimp only; omega), (by dsimp only; omega)⟩ rfl (Nat.le_of_ble_eq_true rfl)) (fun C hp1 hP => by obtain ⟨hC, _⟩ := hP; cases hC) (fun v9 hp9 al9 hP => ?_)
      obtain ⟨u9, hu9, rfl, rfl, rfl⟩ := hP
      cases hu9
      refine A_st (st' := [.int t6]) rfl ?_
      refine A_aload_n X dX11_agrees_74 0 rfl ?_
      refine A_get X dX11_agrees_75 kcl_X11 1 (by decide) kw_832 G.1 rfl ?_
      refine A_iload_n X dX11_agrees_78 2 rfl ?_
      obtain ⟨hq, h⟩ := gd_o h
      obtain ⟨c7, hc7, h⟩ := bind_o h
      refine A_row X dX11_agrees_79 G.2.2.2.1 hq hc7 (fun q7 hb7 k7 => ?_)
      refine A_iconst (v := 0) X dX11_agrees_80 (by decide) ?_
      refine A_iald X dX11_agrees_81 k7 (by decide) ?_
      refine A_icmp_ne (tgt := 142) X dX11_agrees_82 h (by decide) (fun hc h => ?_) (fun hc h => ?_)
      · refine A_iconst (v := 0) X dX11_agrees_142 (by decide) ?_
        cases h
        exact A_zret X dX11_agrees_143 hr (Or.inl rfl) ⟨rfl, rfl, rfl⟩ (by omega) (by omega)
      · refine A_aload_n X dX11_agrees_85 1 rfl ?_
        refine A_iload_n X dX11_agrees_86 2 rfl ?_
        rcases hbd_o h with ⟨C9, hc9, h⟩ | ⟨t8, hct8, h⟩
        · cases (show (none : Option _) = some _ from h)
        refine A_cX (k' := ((4 * (Int32.toNatClampNeg l2)) + 2)) (n' := (6 * (4 * (Int32.toNatClampNeg l2)) + 12)) rfl rfl (A_runVX (rest := []) X dX11_agrees_87 (c_X10_dieAt g0 g3 g10 g11 hct8) kY_X10_dieAt kw_931 g0 rfl rfl ⟨(Nat.le_of_ble_eq_true rfl), (Nat.le_of_ble_eq_true rfl), (by dsimp only; omega), (by dsimp only; omega)⟩ rfl (Nat.le_of_ble_eq_true rfl)) (fun C hp1 hP => by obtain ⟨hC, _⟩ := hP; cases hC) (fun v9 hp9 al9 hP => ?_)
        obtain ⟨u9, hu9, rfl, rfl, rfl⟩ := hP
        cases hu9
        refine A_st (st' := [.int t8]) rfl ?_
        refine A_aload_n X dX11_agrees_90 0 rfl ?_
        refine A_get X dX11_agrees_91 kcl_X11 1 (by decide) kw_832 G.1 rfl ?_
        refine A_iload_n X dX11_agrees_94 2 rfl ?_
        obtain ⟨hq, h⟩ := gd_o h
        obtain ⟨c9, hc9, h⟩ := bind_o h
        refine A_row X dX11_agrees_95 G.2.2.2.1 hq hc9 (fun q9 hb9 k9 => ?_)
        refine A_iconst (v := 1) X dX11_agrees_96 (by decide) ?_
        refine A_iald X dX11_agrees_97 k9 (by decide) ?_
        refine A_icmp_ne (tgt := 142) X dX11_agrees_98 h (by decide) (fun hc h => ?_) (fun hc h => ?_)
        · refine A_iconst (v := 0) X dX11_agrees_142 (by decide) ?_
          cases h
          exact A_zret X dX11_agrees_143 hr (Or.inl rfl) ⟨rfl, rfl, rfl⟩ (by omega) (by omega)
        · refine A_aload_n X dX11_agrees_101 1 rfl ?_
          refine A_iload_n X dX11_agrees_102 2 rfl ?_
          rcases hbd_o h with ⟨C9, hc9, h⟩ | ⟨t10, hct10, h⟩
          · cases (show (none : Option _) = some _ from h)
          refine A_cX (k' := ((4 * (Int32.toNatClampNeg l2)) + 3)) (n' := (6 * (4 * (Int32.toNatClampNeg l2)) + 18)) rfl rfl (A_runVX (rest := []) X dX11_agrees_103 (c_X10_faceAt g0 g3 g10 g11 hct10) kY_X10_faceAt kw_936 g0 rfl rfl ⟨(Nat.le_of_ble_eq_true rfl), (Nat.le_of_ble_eq_true rfl), (by dsimp only; omega), (by dsimp only; omega)⟩ rfl (Nat.le_of_ble_eq_true rfl)) (fun C hp1 hP => by obtain ⟨hC, _⟩ := hP; cases hC) (fun v9 hp9 al9 hP => ?_)
          obtain ⟨u9, hu9, rfl, rfl, rfl⟩ := hP
          cases hu9
          refine A_st (st' := [.int t10]) rfl ?_
          refine A_aload_n X dX11_agrees_106 0 rfl ?_
          refine A_get X dX11_agrees_107 kcl_X11 1 (by decide) kw_832 G.1 rfl ?_
          refine A_iload_n X dX11_agrees_110 2 rfl ?_
          obtain ⟨hq, h⟩ := gd_o h
          obtain ⟨c11, hc11, h⟩ := bind_o h
          refine A_row X dX11_agrees_111 G.2.2.2.1 hq hc11 (fun q11 hb11 k11 => ?_)
          refine A_iconst (v := 2) X dX11_agrees_112 (by decide) ?_
          refine A_iald X dX11_agrees_113 k11 (by decide) ?_
          refine A_icmp_ne (tgt := 142) X dX11_agrees_114 h (by decide) (fun hc h => ?_) (fun hc h => ?_)
          · refine A_iconst (v := 0) X dX11_agrees_142 (by decide) ?_
            cases h
            exact A_zret X dX11_agrees_143 hr (Or.inl rfl) ⟨rfl, rfl, rfl⟩ (by omega) (by omega)
          · refine A_aload_n X dX11_agrees_117 1 rfl ?_
            refine A_iload_n X dX11_agrees_118 2 rfl ?_
            rcases hbd_o h with ⟨C9, hc9, h⟩ | ⟨t12, hct12, h⟩
            · cases (show (none : Option _) = some _ from h)
            refine A_cX (k' := ((4 * (Int32.toNatClampNeg l2)) + 4)) (n' := (6 * (4 * (Int32.toNatClampNeg l2)) + 24)) rfl rfl (A_runVX (rest := []) X dX11_agrees_119 (c_X10_isFairAt g0 g3 g10 g11 hct12) kY_X10_isFairAt kw_941 g0 rfl rfl ⟨(Nat.le_of_ble_eq_true rfl), (Nat.le_of_ble_eq_true rfl), (by dsimp only; omega), (by dsimp only; omega)⟩ rfl (Nat.le_of_ble_eq_true rfl)) (fun C hp1 hP => by obtain ⟨hC, _⟩ := hP; cases hC) (fun v9 hp9 al9 hP => ?_)
            obtain ⟨u9, hu9, rfl, z9, rfl, rfl⟩ := hP
            cases hu9
            refine A_st (st' := [.int t12]) rfl ?_
            refine A_aload_n X dX11_agrees_122 0 rfl ?_
            refine A_get X dX11_agrees_123 kcl_X11 1 (by decide) kw_832 G.1 rfl ?_
            refine A_iload_n X dX11_agrees_126 2 rfl ?_
            obtain ⟨hq, h⟩ := gd_o h
            obtain ⟨c13, hc13, h⟩ := bind_o h
            refine A_row X dX11_agrees_127 G.2.2.2.1 hq hc13 (fun q13 hb13 k13 => ?_)
            refine A_iconst (v := 3) X dX11_agrees_128 (by decide) ?_
            refine A_iald X dX11_agrees_129 k13 (by decide) ?_
            refine A_iconst (v := 1) X dX11_agrees_130 (by decide) ?_
            refine A_icmp_ne (tgt := 138) X dX11_agrees_131 h (by decide) (fun hc h => ?_) (fun hc h => ?_)
            · refine A_iconst (v := 0) X dX11_agrees_138 (by decide) ?_
              refine A_icmp_eq (tgt := 144) X dX11_agrees_139 h (by decide) (fun hc h => ?_) (fun hc h => ?_)
              · refine A_iinc (j := 2) (v := (l2 + 1)) (L' := [(2, .int (l2 + 1)), (0, .ref b), (1, .ref x)]) X dX11_agrees_144 rfl rfl (by decide) rfl ?_
                refine A_goto (tgt := 61) X dX11_agrees_147 (by decide) ?_
                refine A_sub (L' := [(0, .ref b), (1, .ref x), (2, .int (l2 + 1))]) [1, 2, 0] rfl ?_
                refine A_widen (k' := (4 * (Int32.toNatClampNeg (l2 + 1)))) (n' := 6 * (4 * (Int32.toNatClampNeg (l2 + 1)))) (by first | omega | (simp only [tn_s hgl2 (Nat.le_of_ble_eq_true rfl)]; omega)) (by first | omega | (simp only [tn_s hgl2 (Nat.le_of_ble_eq_true rfl)]; omega)) ?_
                exact i61 h
              · refine A_iconst (v := 0) X dX11_agrees_142 (by decide) ?_
                cases h
                exact A_zret X dX11_agrees_143 hr (Or.inl rfl) ⟨rfl, rfl, rfl⟩ (by omega) (by omega)
            · refine A_iconst (v := 1) X dX11_agrees_134 (by decide) ?_
              refine A_goto (tgt := 139) X dX11_agrees_135 (by decide) ?_
              refine A_icmp_eq (tgt := 144) X dX11_agrees_139 h (by decide) (fun hc h => ?_) (fun hc h => ?_)
              · refine A_iinc (j := 2) (v := (l2 + 1)) (L' := [(2, .int (l2 + 1)), (0, .ref b), (1, .ref x)]) X dX11_agrees_144 rfl rfl (by decide) rfl ?_
                refine A_goto (tgt := 61) X dX11_agrees_147 (by decide) ?_
                refine A_sub (L' := [(0, .ref b), (1, .ref x), (2, .int (l2 + 1))]) [1, 2, 0] rfl ?_
                refine A_widen (k' := (4 * (Int32.toNatClampNeg (l2 + 1)))) (n' := 6 * (4 * (Int32.toNatClampNeg (l2 + 1)))) (by first | omega | (simp only [tn_s hgl2 (Nat.le_of_ble_eq_true rfl)]; omega)) (by first | omega | (simp only [tn_s hgl2 (Nat.le_of_ble_eq_true rfl)]; omega)) ?_
                exact i61 h
              · refine A_iconst (v := 0) X dX11_agrees_142 (by decide) ?_
                cases h
                exact A_zret X dX11_agrees_143 hr (Or.inl rfl) ⟨rfl, rfl, rfl⟩ (by omega) (by omega)
def f_X11_agrees (N : Nat) (dc : Int32) (en : Nat → Int32) (fc : Nat → Int32) (fr : Nat → Int32) (mn : Int32) (oc : Int32) (op : Nat → Int32) (os : Nat → Int32) (pc : Int32) (sd : Int32) (tc : Int32) (th : Int32) (ul : Nat → Nat) (ut : Nat → Option (Nat → Int32)) (uq : Nat → Option (Nat → Int32)) (um : Int32) (uo : Int32) (us : Int64) (ui : Int32) (uh : Int32)  : Option (Int32) :=
  (f_X10_seed sd).bind fun t1 =>
  if (lg_cmp t1.toInt64 us) = 0 then
    (f_X10_throwCount tc).bind fun t2 =>
    if t2 = um then
      (f_X10_offenceCount oc).bind fun t3 =>
      if t3 = uo then
        (f_X10_minimum mn).bind fun t4 =>
        if t4 = ui then
          (f_X10_threshold th).bind fun t5 =>
          if t5 = uh then
            f_X11_agrees_L61 N dc en fc fr mn oc op os pc sd tc th ul ut uq um uo us ui uh N 0
          else
            some 0
        else
          some 0
      else
        some 0
    else
      some 0
  else
    some 0
set_option maxHeartbeats 4000000 in
set_option maxRecDepth 100000 in
theorem c_X11_agrees {E : KE} {l : Launch} {hp : Hp} {al : Option Nat} {N : Nat} {b ub : Nat} {x : Nat} {ul : Nat → Nat} {uw : Nat → Nat → Int32} {ut : Nat → Option (Nat → Int32)} {uq : Nat → Option (Nat → Int32)} {um : Int32} {uo : Int32} {us : Int64} {ui : Int32} {uh : Int32} {sd : Int32} {mn : Int32} {th : Int32} {dc : Int32} {fc : Nat → Int32} {pc : Int32} {tc : Int32} {en : Nat → Int32} {fr : Nat → Int32} {oc : Int32} {op : Nat → Int32} {os : Nat → Int32}   {out : Int32} (G : HandP E hp b ub ul uw ut uq um uo us ui uh) (g0 : hp x = some (.inr (12, [.ref (x + 126), .ref (x + 128), .ref (x + 1), .ref (x + 3), .ref (x + 16), .ref (x + 18), .ref (x + 124), .ref (x + 125)]))) (g3 : hp (x + 3) = some (.inr (4, [.ref (x + 4), .ref (x + 7), .ref (x + 10), .ref (x + 13), .int sd, .int mn, .int th]))) (g4 : hp (x + 4) = some (.inr (2, [.ref (x + 5), .ref (x + 6), .int dc]))) (g5 : hp (x + 5) = some (.inl (kC E 0, 6, .inl fc))) (g7 : hp (x + 7) = some (.inr (9, [.ref (x + 8), .ref (x + 9), .int pc]))) (g10 : hp (x + 10) = some (.inr (6, [.ref (x + 11), .ref (x + 12), .int tc]))) (g11 : hp (x + 11) = some (.inl (kC E 0, 300, .inl en))) (g12 : hp (x + 12) = some (.inl (kC E 0, 432, .inl fr))) (g13 : hp (x + 13) = some (.inr (8, [.ref (x + 14), .ref (x + 15), .int oc]))) (g14 : hp (x + 14) = some (.inl (kC E 0, 36, .inl op))) (g15 : hp (x + 15) = some (.inl (kC E 0, 36, .inl os))) (h : f_X11_agrees N dc en fc fr mn oc op os pc sd tc th ul ut uq um uo us ui uh = some out) : AM E l yX11_agrees cX11_agrees 4 (Option.some Jvm.ClassFile.FieldType.boolean) ⟨10, 1700, 10200, 168⟩ [.ref b, .ref x] hp al (kRet out hp al) := by
  refine A_of (by decide +kernel) (Nat.le_of_ble_eq_true rfl) ?_
  intro p e s m args below meth c X hr hnm
  have X : CX E p l s m args meth c "DiceAuditLaw$Hand" cX11_agrees 4 := X
  refine A_L (L' := [(0, .ref b), (1, .ref x)]) rfl ?_
  unfold f_X11_agrees at h
  refine A_aload_n X dX11_agrees_0 1 rfl ?_
  obtain ⟨t1, hct1, h⟩ := bind_o h
  refine A_cp (k' := 0) (n' := 0) (A_runV (rest := []) X dX11_agrees_1 (c_X10_seed g0 g3 hct1) kY_X10_seed kw_819 g0 rfl rfl ⟨(Nat.le_of_ble_eq_true rfl), (Nat.le_of_ble_eq_true rfl), (Nat.le_of_ble_eq_true rfl), (Nat.le_of_ble_eq_true rfl)⟩ rfl (Nat.le_of_ble_eq_true rfl)) rfl rfl ?_
  refine A_i2l X dX11_agrees_4 ?_
  refine A_aload_n X dX11_agrees_5 0 rfl ?_
  refine A_get X dX11_agrees_6 kcl_X11 5 (by decide) kw_836 G.1 rfl ?_
  refine A_lcmp X dX11_agrees_9 ?_
  refine A_if_ne (tgt := 57) X dX11_agrees_10 h (by decide) (fun hc h => ?_) (fun hc h => ?_)
  · refine A_iconst (v := 0) X dX11_agrees_57 (by decide) ?_
    cases h
    exact A_zret X dX11_agrees_58 hr (Or.inl rfl) ⟨rfl, rfl, rfl⟩ (Nat.le_of_ble_eq_true rfl) (Nat.le_of_ble_eq_true rfl)
  · refine A_aload_n X dX11_agrees_13 1 rfl ?_
    obtain ⟨t2, hct2, h⟩ := bind_o h
    refine A_cp (k' := 0) (n' := 0) (A_runV (rest := []) X dX11_agrees_14 (c_X10_throwCount g0 g3 g10 hct2) kY_X10_throwCount kw_913 g0 rfl rfl ⟨(Nat.le_of_ble_eq_true rfl), (Nat.le_of_ble_eq_true rfl), (Nat.le_of_ble_eq_true rfl), (Nat.le_of_ble_eq_true rfl)⟩ rfl (Nat.le_of_ble_eq_true rfl)) rfl rfl ?_
    refine A_aload_n X dX11_agrees_17 0 rfl ?_
    refine A_get X dX11_agrees_18 kcl_X11 3 (by decide) kw_834 G.1 rfl ?_
    refine A_icmp_ne (tgt := 57) X dX11_agrees_21 h (by decide) (fun hc h => ?_) (fun hc h => ?_)
    · refine A_iconst (v := 0) X dX11_agrees_57 (by decide) ?_
      cases h
      exact A_zret X dX11_agrees_58 hr (Or.inl rfl) ⟨rfl, rfl, rfl⟩ (Nat.le_of_ble_eq_true rfl) (Nat.le_of_ble_eq_true rfl)
    · refine A_aload_n X dX11_agrees_24 1 rfl ?_
      obtain ⟨t3, hct3, h⟩ := bind_o h
      refine A_cp (k' := 0) (n' := 0) (A_runV (rest := []) X dX11_agrees_25 (c_X10_offenceCount g0 g3 g13 hct3) kY_X10_offenceCount kw_917 g0 rfl rfl ⟨(Nat.le_of_ble_eq_true rfl), (Nat.le_of_ble_eq_true rfl), (Nat.le_of_ble_eq_true rfl), (Nat.le_of_ble_eq_true rfl)⟩ rfl (Nat.le_of_ble_eq_true rfl)) rfl rfl ?_
      refine A_aload_n X dX11_agrees_28 0 rfl ?_
      refine A_get X dX11_agrees_29 kcl_X11 4 (by decide) kw_835 G.1 rfl ?_
      refine A_icmp_ne (tgt := 57) X dX11_agrees_32 h (by decide) (fun hc h => ?_) (fun hc h => ?_)
      · refine A_iconst (v := 0) X dX11_agrees_57 (by decide) ?_
        cases h
        exact A_zret X dX11_agrees_58 hr (Or.inl rfl) ⟨rfl, rfl, rfl⟩ (Nat.le_of_ble_eq_true rfl) (Nat.le_of_ble_eq_true rfl)
      · refine A_aload_n X dX11_agrees_35 1 rfl ?_
        obtain ⟨t4, hct4, h⟩ := bind_o h
        refine A_cp (k' := 0) (n' := 0) (A_runV (rest := []) X dX11_agrees_36 (c_X10_minimum g0 g3 hct4) kY_X10_minimum kw_823 g0 rfl rfl ⟨(Nat.le_of_ble_eq_true rfl), (Nat.le_of_ble_eq_true rfl), (Nat.le_of_ble_eq_true rfl), (Nat.le_of_ble_eq_true rfl)⟩ rfl (Nat.le_of_ble_eq_true rfl)) rfl rfl ?_
        refine A_aload_n X dX11_agrees_39 0 rfl ?_
        refine A_get X dX11_agrees_40 kcl_X11 6 (by decide) kw_837 G.1 rfl ?_
        refine A_icmp_ne (tgt := 57) X dX11_agrees_43 h (by decide) (fun hc h => ?_) (fun hc h => ?_)
        · refine A_iconst (v := 0) X dX11_agrees_57 (by decide) ?_
          cases h
          exact A_zret X dX11_agrees_58 hr (Or.inl rfl) ⟨rfl, rfl, rfl⟩ (Nat.le_of_ble_eq_true rfl) (Nat.le_of_ble_eq_true rfl)
        · refine A_aload_n X dX11_agrees_46 1 rfl ?_
          obtain ⟨t5, hct5, h⟩ := bind_o h
          refine A_cp (k' := 0) (n' := 0) (A_runV (rest := []) X dX11_agrees_47 (c_X10_threshold g0 g3 hct5) kY_X10_threshold kw_827 g0 rfl rfl ⟨(Nat.le_of_ble_eq_true rfl), (Nat.le_of_ble_eq_true rfl), (Nat.le_of_ble_eq_true rfl), (Nat.le_of_ble_eq_true rfl)⟩ rfl (Nat.le_of_ble_eq_true rfl)) rfl rfl ?_
          refine A_aload_n X dX11_agrees_50 0 rfl ?_
          refine A_get X dX11_agrees_51 kcl_X11 7 (by decide) kw_838 G.1 rfl ?_
          refine A_icmp_eq (tgt := 59) X dX11_agrees_54 h (by decide) (fun hc h => ?_) (fun hc h => ?_)
          · refine A_iconst (v := 0) X dX11_agrees_59 (by decide) ?_
            refine A_istore_n (L' := [(2, .int 0), (0, .ref b), (1, .ref x)]) X dX11_agrees_60 rfl (by decide) rfl ?_
            refine A_sub (L' := [(0, .ref b), (1, .ref x), (2, .int 0)]) [1, 2, 0] rfl ?_
            refine A_widen (k' := (4 * (Int32.toNatClampNeg 0))) (n' := 6 * (4 * (Int32.toNatClampNeg 0))) (Nat.zero_le _) (Nat.zero_le _) ?_
            exact c_X11_agrees_L61 X hr G g0 g3 g4 g5 g7 g10 g11 g12 g13 g14 g15 N h
          · refine A_iconst (v := 0) X dX11_agrees_57 (by decide) ?_
            cases h
            exact A_zret X dX11_agrees_58 hr (Or.inl rfl) ⟨rfl, rfl, rfl⟩ (Nat.le_of_ble_eq_true rfl) (Nat.le_of_ble_eq_true rfl)
