def f_X10_copyRow (n : Nat) (f : Nat → Int32) (gn : Nat) (gf : Nat → Int32) : Option ((Nat → Int32)) :=
  if (nI n) = (nI gn) then
    gd (cpok 0 0 (nI gn) n gn) <|
    some (va_cpy f gf (Int32.toNatClampNeg 0) (Int32.toNatClampNeg 0) (Int32.toNatClampNeg (nI gn)))
  else
    some gf
def f_X10_put (n : Nat) (f : Nat → Int32) (a1 : Int32) (a2 : Int32) : Option ((Nat → Int32)) :=
  if a1 < 0 then
    some f
  else
    if (nI n) ≤ a1 then
      some f
    else
      gd (inb a1 n) <|
      some (upd f (Int32.toNatClampNeg a1) a2)
def f_X10_at (n : Nat) (f : Nat → Int32) (a1 : Int32) : Option (Int32) :=
  if a1 < 0 then
    some 0
  else
    if (nI n) ≤ a1 then
      some 0
    else
      gd (inb a1 n) <|
      some (f (Int32.toNatClampNeg a1))
def f_X10_cellOf  (a0 : Int32) (a1 : Int32) : Option (Int32) :=
  some (((a0 * 12) + a1) - 1)
def f_X10_sumOf_L38 (N : Nat) (n : Nat) (f : Nat → Int32) (r5 : Int32 → Int32 → Int32 → Int32 → Option (Int32)) (l1 : Int32) (l2 : Int32) (l4 : Int32) (s0 : Int32) (s1 : Int32) : Option (Int32) :=
  r5 l1 l2 (s1 + s0) (l4 + 1)
def f_X10_sumOf_L37 (N : Nat) (n : Nat) (f : Nat → Int32) (r5 : Int32 → Int32 → Int32 → Int32 → Option (Int32)) (l1 : Int32) (l2 : Int32) (l4 : Int32) (s0 : Int32) : Option (Int32) :=
  f_X10_sumOf_L38 N n f r5 l1 l2 l4 0 s0
def f_X10_sumOf_L5_F (N : Nat) (n : Nat) (f : Nat → Int32)  (r5 : Int32 → Int32 → Int32 → Int32 → Option (Int32)) (l1 : Int32) (l2 : Int32) (l3 : Int32) (l4 : Int32) : Option (Int32) :=
  if l2 ≤ l4 then
    some l3
  else
    if (l1 + l4) < 0 then
      f_X10_sumOf_L37 N n f r5 l1 l2 l4 l3
    else
      if (nI n) ≤ (l1 + l4) then
        f_X10_sumOf_L37 N n f r5 l1 l2 l4 l3
      else
        gd (inb (l1 + l4) n) <|
        f_X10_sumOf_L38 N n f r5 l1 l2 l4 (f (Int32.toNatClampNeg (l1 + l4))) l3
def f_X10_sumOf_L5 (N : Nat) (n : Nat) (f : Nat → Int32)  : Nat → Int32 → Int32 → Int32 → Int32 → Option (Int32)
  | 0 => fun _ _ _ _ => none
  | j + 1 => f_X10_sumOf_L5_F N n f (f_X10_sumOf_L5 N n f j)
def f_X10_sumOf (N : Nat) (n : Nat) (f : Nat → Int32) (a1 : Int32) (a2 : Int32) : Option (Int32) :=
  f_X10_sumOf_L5 N n f N a1 a2 0 0
def f_J7_fill_53178_L5_F (N : Nat) (n : Nat)  (r5 : Int32 → Int32 → Int32 → (Nat → Int32) → Option ((Nat → Int32))) (l1 : Int32) (l2 : Int32) (l3 : Int32) (f : Nat → Int32) : Option ((Nat → Int32)) :=
  if l3 ≤ l2 then
    some f
  else
    gd (inb l2 n) <|
    r5 l1 (l2 + 1) l3 (upd f (Int32.toNatClampNeg l2) l1)
def f_J7_fill_53178_L5 (N : Nat) (n : Nat)  : Nat → Int32 → Int32 → Int32 → (Nat → Int32) → Option ((Nat → Int32))
  | 0 => fun _ _ _ _ => none
  | j + 1 => f_J7_fill_53178_L5_F N n (f_J7_fill_53178_L5 N n j)
def f_J7_fill_53178 (N : Nat) (n : Nat) (f : Nat → Int32) (a1 : Int32) : Option ((Nat → Int32)) :=
  f_J7_fill_53178_L5 N n N a1 0 (nI n) f
def f_X10_dieOf  (a0 : Int32) : Option (Int32) :=
  some (a0 - a0 / 6 * 6)
def f_X10_nextSeed  (a0 : Int32) : Option (Int32) :=
  some (((75 * a0) + 74) - ((75 * a0) + 74) / 65537 * 65537)
def f_X10_testScore_L25_F (N : Nat) (n : Nat) (f : Nat → Int32)  (r25 : Int32 → Int32 → Int32 → Int32 → Int32 → Int32 → Option (Int32)) (l1 : Int32) (l2 : Int32) (l3 : Int32) (l4 : Int32) (l5 : Int32) (l6 : Int32) : Option (Int32) :=
  if l2 ≤ l6 then
    gd (nz l4) <|
    some (l5 / l4)
  else
    (f_X10_at n f (l1 + l6)).bind fun t2 =>
    r25 l1 l2 l3 l4 (l5 + (((l2 * t2) - l3) * ((l2 * t2) - l3))) (l6 + 1)
def f_X10_testScore_L25 (N : Nat) (n : Nat) (f : Nat → Int32)  : Nat → Int32 → Int32 → Int32 → Int32 → Int32 → Int32 → Option (Int32)
  | 0 => fun _ _ _ _ _ _ => none
  | j + 1 => f_X10_testScore_L25_F N n f (f_X10_testScore_L25 N n f j)
def f_X10_testScore (N : Nat) (n : Nat) (f : Nat → Int32) (a1 : Int32) (a2 : Int32) : Option (Int32) :=
  (f_X10_sumOf N n f a1 a2).bind fun t1 =>
  if 0 < (t1 * a2) then
    f_X10_testScore_L25 N n f N a1 a2 t1 (t1 * a2) 0 0
  else
    some 0
def f_X10_pairOf  (a0 : Int32) (a1 : Int32) : Option (Int32) :=
  some ((a0 * 6) + a1)
def f_X10_playerOf  (a0 : Int32) : Option (Int32) :=
  some (a0 / 6)
def f_X10_requireRange_L10    : Option (String ⊕ (Unit)) :=
  some (.inl "java/lang/IllegalArgumentException")
def f_X10_requireRange  (a0 : Int32) (a1 : Int32) (a2 : Int32) : Option (String ⊕ (Unit)) :=
  if a0 < a1 then
    f_X10_requireRange_L10 
  else
    if a0 ≤ a2 then
      some (.inr ())
    else
      f_X10_requireRange_L10 
def f_X10_requireIndex_L9    : Option (String ⊕ (Unit)) :=
  some (.inl "java/lang/IndexOutOfBoundsException")
def f_X10_requireIndex  (a0 : Int32) (a1 : Int32) : Option (String ⊕ (Unit)) :=
  if a0 < 0 then
    f_X10_requireIndex_L9 
  else
    if a0 < a1 then
      some (.inr ())
    else
      f_X10_requireIndex_L9 
def f_X0_clear  (dc : Int32) : Option (Int32) :=
  some 0
def f_X0_copyFrom (y_dc : Int32) (y_fc : Nat → Int32) (y_dw : Nat → Int32) (dc : Int32) (fc : Nat → Int32) (dw : Nat → Int32) : Option (Int32 × (Nat → Int32) × (Nat → Int32)) :=
  (f_X10_copyRow 6 y_fc 6 fc).bind fun t1 =>
  (f_X10_copyRow 72 y_dw 72 dw).bind fun t2 =>
  some (y_dc, t1, t2)
def f_X0_add  (dc : Int32) (fc : Nat → Int32) (a0 : Int32) : Option (Int32 × (Nat → Int32)) :=
  if 6 ≤ dc then
    some (dc, fc)
  else
    (f_X10_put 6 fc dc a0).bind fun t1 =>
    some ((dc + 1), t1)
def f_X0_faceCount (fc : Nat → Int32) (a0 : Int32) : Option (Int32) :=
  (f_X10_at 6 fc a0).bind fun t1 =>
  some t1
def f_X0_weight (dw : Nat → Int32) (a0 : Int32) (a1 : Int32) : Option (Int32) :=
  (f_X10_cellOf a0 a1).bind fun t1 =>
  (f_X10_at 72 dw t1).bind fun t2 =>
  some t2
def f_X0_putWeight  (dw : Nat → Int32) (a0 : Int32) (a1 : Int32) (a2 : Int32) : Option ((Nat → Int32)) :=
  (f_X10_cellOf a0 a1).bind fun t1 =>
  (f_X10_put 72 dw t1 a2).bind fun t2 =>
  some t2
def f_X0_weightSum (N : Nat) (fc : Nat → Int32) (dw : Nat → Int32) (a0 : Int32) : Option (Int32) :=
  (f_X10_cellOf a0 1).bind fun t1 =>
  (f_X0_faceCount fc a0).bind fun t2 =>
  (f_X10_sumOf N 72 dw t1 t2).bind fun t3 =>
  some t3
def f_X0_faceShown_L45_F (N : Nat) (fc : Nat → Int32) (dw : Nat → Int32)  (r45 : Int32 → Int32 → Int32 → Int32 → Int32 → Option (Int32)) (l1 : Int32) (l3 : Int32) (l5 : Int32) (l6 : Int32) (l7 : Int32) : Option (Int32) :=
  if l3 ≤ l7 then
    some l3
  else
    (f_X10_cellOf l1 l7).bind fun t4 =>
    (f_X10_at 72 dw t4).bind fun t5 =>
    if (l6 + t5) ≤ l5 then
      r45 l1 l3 l5 (l6 + t5) (l7 + 1)
    else
      some l7
def f_X0_faceShown_L45 (N : Nat) (fc : Nat → Int32) (dw : Nat → Int32)  : Nat → Int32 → Int32 → Int32 → Int32 → Int32 → Option (Int32)
  | 0 => fun _ _ _ _ _ => none
  | j + 1 => f_X0_faceShown_L45_F N fc dw (f_X0_faceShown_L45 N fc dw j)
def f_X0_faceShown_L37 (N : Nat) (fc : Nat → Int32) (dw : Nat → Int32)  (l1 : Int32) (l3 : Int32) (s0 : Int32) : Option (Int32) :=
  f_X0_faceShown_L45 N fc dw N l1 l3 s0 0 1
def f_X0_faceShown (N : Nat) (fc : Nat → Int32) (dw : Nat → Int32) (a0 : Int32) (a1 : Int32) : Option (Int32) :=
  (f_X10_at 6 fc a0).bind fun t1 =>
  (f_X10_cellOf a0 1).bind fun t2 =>
  (f_X10_sumOf N 72 dw t2 t1).bind fun t3 =>
  if t3 ≤ 0 then
    f_X0_faceShown_L37 N fc dw a0 t1 0
  else
    gd (nz t3) <|
    f_X0_faceShown_L37 N fc dw a0 t1 (a1 - a1 / t3 * t3)
def f_X0_fairFaceShown (fc : Nat → Int32) (a0 : Int32) (a1 : Int32) : Option (Int32) :=
  (f_X10_at 6 fc a0).bind fun t1 =>
  if t1 ≤ 0 then
    some 1
  else
    gd (nz t1) <|
    some ((a1 - a1 / t1 * t1) + 1)
def f_X7_clear  (pc : Int32) : Option (Int32) :=
  some 0
def f_X4_clear (N : Nat)  (tc : Int32) (fr : Nat → Int32) : Option (Int32 × (Nat → Int32)) :=
  (f_J7_fill_53178 N 432 fr 0).bind fun t1 =>
  some (0, t1)
def f_X6_clear  (oc : Int32) : Option (Int32) :=
  some 0
def f_X7_copyFrom (y_pc : Int32) (y_ln : Nat → Int32) (y_lt : Nat → Int32) (pc : Int32) (ln : Nat → Int32) (lt : Nat → Int32) : Option (Int32 × (Nat → Int32) × (Nat → Int32)) :=
  (f_X10_copyRow 6 y_ln 6 ln).bind fun t1 =>
  (f_X10_copyRow 24 y_lt 24 lt).bind fun t2 =>
  some (y_pc, t1, t2)
def f_X4_copyFrom (y_tc : Int32) (y_en : Nat → Int32) (y_fr : Nat → Int32) (tc : Int32) (en : Nat → Int32) (fr : Nat → Int32) : Option (Int32 × (Nat → Int32) × (Nat → Int32)) :=
  (f_X10_copyRow 300 y_en 300 en).bind fun t1 =>
  (f_X10_copyRow 432 y_fr 432 fr).bind fun t2 =>
  some (y_tc, t1, t2)
def f_X6_copyFrom (y_oc : Int32) (y_op : Nat → Int32) (y_os : Nat → Int32) (oc : Int32) (op : Nat → Int32) (os : Nat → Int32) : Option (Int32 × (Nat → Int32) × (Nat → Int32)) :=
  (f_X10_copyRow 36 y_op 36 op).bind fun t1 =>
  (f_X10_copyRow 36 y_os 36 os).bind fun t2 =>
  some (y_oc, t1, t2)
def f_X4_add_L34   (l1 : Int32) (l2 : Int32) (s0 : Int32) (s1 : Int32) (s2 : Int32) (tc : Int32) (en : Nat → Int32) (fr : Nat → Int32) : Option (Int32 × (Nat → Int32) × (Nat → Int32)) :=
  (f_X10_put 300 en s2 (s1 ||| s0)).bind fun t1 =>
  (f_X10_cellOf l1 l2).bind fun t2 =>
  (f_X10_at 432 fr t2).bind fun t3 =>
  (f_X10_put 432 fr t2 (t3 + 1)).bind fun t4 =>
  some ((tc + 1), t1, t4)
def f_X4_add  (tc : Int32) (en : Nat → Int32) (fr : Nat → Int32) (a0 : Int32) (a1 : Int32) (a2 : Int32) : Option (Int32 × (Nat → Int32) × (Nat → Int32)) :=
  if 300 ≤ tc then
    some (tc, en, fr)
  else
    if a2 = 0 then
      f_X4_add_L34 a0 a1 0 ((a0 <<< (5 &&& 31)) ||| (a1 <<< (1 &&& 31))) tc tc en fr
    else
      f_X4_add_L34 a0 a1 1 ((a0 <<< (5 &&& 31)) ||| (a1 <<< (1 &&& 31))) tc tc en fr
def f_X4_pairThrows (N : Nat) (fr : Nat → Int32) (a0 : Int32) : Option (Int32) :=
  (f_X10_cellOf a0 1).bind fun t1 =>
  (f_X10_sumOf N 432 fr t1 12).bind fun t2 =>
  some t2
def f_X6_has_L2_F (N : Nat) (oc : Int32) (op : Nat → Int32)  (r2 : Int32 → Int32 → Option (Int32)) (l1 : Int32) (l2 : Int32) : Option (Int32) :=
  if oc ≤ l2 then
    some 0
  else
    (f_X10_at 36 op l2).bind fun t1 =>
    if t1 = l1 then
      some 1
    else
      r2 l1 (l2 + 1)
def f_X6_has_L2 (N : Nat) (oc : Int32) (op : Nat → Int32)  : Nat → Int32 → Int32 → Option (Int32)
  | 0 => fun _ _ => none
  | j + 1 => f_X6_has_L2_F N oc op (f_X6_has_L2 N oc op j)
def f_X6_has (N : Nat) (oc : Int32) (op : Nat → Int32) (a0 : Int32) : Option (Int32) :=
  f_X6_has_L2 N oc op N a0 0
def f_X6_goesBefore (op : Nat → Int32) (os : Nat → Int32) (a0 : Int32) (a1 : Int32) (a2 : Int32) : Option (Int32) :=
  (f_X10_at 36 os a2).bind fun t1 =>
  if t1 < a1 then
    some 1
  else
    if a1 = t1 then
      (f_X10_at 36 op a2).bind fun t2 =>
      if t2 ≤ a0 then
        some 0
      else
        some 1
    else
      some 0
def f_X6_set  (op : Nat → Int32) (os : Nat → Int32) (a0 : Int32) (a1 : Int32) (a2 : Int32) : Option ((Nat → Int32) × (Nat → Int32)) :=
  (f_X10_put 36 op a0 a1).bind fun t1 =>
  (f_X10_put 36 os a0 a2).bind fun t2 =>
  some (t1, t2)
def f_X6_add_L62 (N : Nat)   (l1 : Int32) (l2 : Int32) (l3 : Int32) (oc : Int32) (op : Nat → Int32) (os : Nat → Int32) : Option (Int32 × (Nat → Int32) × (Nat → Int32)) :=
  (f_X6_set op os l3 l1 l2).bind fun t1 =>
  some ((oc + 1), t1.1, t1.2)
def f_X6_add_L15_F (N : Nat)   (r15 : Int32 → Int32 → Int32 → Int32 → (Nat → Int32) → (Nat → Int32) → Option (Int32 × (Nat → Int32) × (Nat → Int32))) (l1 : Int32) (l2 : Int32) (l3 : Int32) (oc : Int32) (op : Nat → Int32) (os : Nat → Int32) : Option (Int32 × (Nat → Int32) × (Nat → Int32)) :=
  if l3 ≤ 0 then
    f_X6_add_L62 N l1 l2 l3 oc op os
  else
    (f_X6_goesBefore op os l1 l2 (l3 - 1)).bind fun t1 =>
    if t1 = 0 then
      f_X6_add_L62 N l1 l2 l3 oc op os
    else
      (f_X10_at 36 op (l3 - 1)).bind fun t2 =>
      (f_X10_at 36 os (l3 - 1)).bind fun t3 =>
      (f_X6_set op os l3 t2 t3).bind fun t4 =>
      r15 l1 l2 (l3 + (-1)) oc t4.1 t4.2
def f_X6_add_L15 (N : Nat)   : Nat → Int32 → Int32 → Int32 → Int32 → (Nat → Int32) → (Nat → Int32) → Option (Int32 × (Nat → Int32) × (Nat → Int32))
  | 0 => fun _ _ _ _ _ _ => none
  | j + 1 => f_X6_add_L15_F N (f_X6_add_L15 N j)
def f_X6_add (N : Nat)  (oc : Int32) (op : Nat → Int32) (os : Nat → Int32) (a0 : Int32) (a1 : Int32) : Option (Int32 × (Nat → Int32) × (Nat → Int32)) :=
  if oc < 36 then
    f_X6_add_L15 N N a0 a1 oc oc op os
  else
    some (oc, op, os)
def f_X6_removeFirst_L2_F (N : Nat)   (r2 : Int32 → Int32 → (Nat → Int32) → (Nat → Int32) → Option (Int32 × (Nat → Int32) × (Nat → Int32))) (l1 : Int32) (oc : Int32) (op : Nat → Int32) (os : Nat → Int32) : Option (Int32 × (Nat → Int32) × (Nat → Int32)) :=
  if oc ≤ l1 then
    some ((if 0 < (oc - 1) then (oc - 1) else 0), op, os)
  else
    (f_X10_at 36 op l1).bind fun t1 =>
    (f_X10_at 36 os l1).bind fun t2 =>
    (f_X6_set op os (l1 - 1) t1 t2).bind fun t3 =>
    r2 (l1 + 1) oc t3.1 t3.2
def f_X6_removeFirst_L2 (N : Nat)   : Nat → Int32 → Int32 → (Nat → Int32) → (Nat → Int32) → Option (Int32 × (Nat → Int32) × (Nat → Int32))
  | 0 => fun _ _ _ _ => none
  | j + 1 => f_X6_removeFirst_L2_F N (f_X6_removeFirst_L2 N j)
def f_X6_removeFirst (N : Nat)  (oc : Int32) (op : Nat → Int32) (os : Nat → Int32) : Option (Int32 × (Nat → Int32) × (Nat → Int32)) :=
  f_X6_removeFirst_L2 N N 1 oc op os
def f_X4_pairIn (en : Nat → Int32) (a0 : Int32) : Option (Int32) :=
  (f_X10_at 300 en a0).bind fun t1 =>
  some (t1 >>> (5 &&& 31))
def f_X4_faceIn (en : Nat → Int32) (a0 : Int32) : Option (Int32) :=
  (f_X10_at 300 en a0).bind fun t1 =>
  some ((t1 >>> (1 &&& 31)) &&& 15)
def f_X4_isMarked (en : Nat → Int32) (a0 : Int32) : Option (Int32) :=
  (f_X10_at 300 en a0).bind fun t1 =>
  if (t1 &&& 1) = 1 then
    some 1
  else
    some 0
def f_X4_removeLatest_L73 (N : Nat)  (r21 : Int32 → Int32 → Int32 → Int32 → Int32 → (Nat → Int32) → (Nat → Int32) → Option (Int32 × (Nat → Int32) × (Nat → Int32))) (l1 : Int32) (l3 : Int32) (l4 : Int32) (l5 : Int32) (tc : Int32) (en : Nat → Int32) (fr : Nat → Int32) : Option (Int32 × (Nat → Int32) × (Nat → Int32)) :=
  r21 l1 l3 l4 (l5 + 1) tc en fr
def f_X4_removeLatest_L64 (N : Nat)  (r21 : Int32 → Int32 → Int32 → Int32 → Int32 → (Nat → Int32) → (Nat → Int32) → Option (Int32 × (Nat → Int32) × (Nat → Int32))) (l1 : Int32) (l3 : Int32) (l4 : Int32) (l5 : Int32) (l6 : Int32) (tc : Int32) (en : Nat → Int32) (fr : Nat → Int32) : Option (Int32 × (Nat → Int32) × (Nat → Int32)) :=
  if l6 = l1 then
    f_X4_removeLatest_L73 N r21 l1 (l3 + (-1)) l4 l5 tc en fr
  else
    f_X4_removeLatest_L73 N r21 l1 l3 l4 l5 tc en fr
def f_X4_removeLatest_L46 (N : Nat)  (r21 : Int32 → Int32 → Int32 → Int32 → Int32 → (Nat → Int32) → (Nat → Int32) → Option (Int32 × (Nat → Int32) × (Nat → Int32))) (l1 : Int32) (l3 : Int32) (l4 : Int32) (l5 : Int32) (l6 : Int32) (tc : Int32) (en : Nat → Int32) (fr : Nat → Int32) : Option (Int32 × (Nat → Int32) × (Nat → Int32)) :=
  (f_X4_faceIn en l5).bind fun t4 =>
  (f_X4_isMarked en l5).bind fun t5 =>
  (f_X4_add tc en fr l6 t4 t5).bind fun t6 =>
  f_X4_removeLatest_L64 N r21 l1 l3 l4 l5 l6 t6.1 t6.2.1 t6.2.2
def f_X4_removeLatest_L21_F (N : Nat)   (r21 : Int32 → Int32 → Int32 → Int32 → Int32 → (Nat → Int32) → (Nat → Int32) → Option (Int32 × (Nat → Int32) × (Nat → Int32))) (l1 : Int32) (l3 : Int32) (l4 : Int32) (l5 : Int32) (tc : Int32) (en : Nat → Int32) (fr : Nat → Int32) : Option (Int32 × (Nat → Int32) × (Nat → Int32)) :=
  if l4 ≤ l5 then
    some (tc, en, fr)
  else
    (f_X4_pairIn en l5).bind fun t3 =>
    if t3 = l1 then
      if l3 ≤ 0 then
        f_X4_removeLatest_L64 N r21 l1 l3 l4 l5 t3 tc en fr
      else
        f_X4_removeLatest_L46 N r21 l1 l3 l4 l5 t3 tc en fr
    else
      f_X4_removeLatest_L46 N r21 l1 l3 l4 l5 t3 tc en fr
def f_X4_removeLatest_L21 (N : Nat)   : Nat → Int32 → Int32 → Int32 → Int32 → Int32 → (Nat → Int32) → (Nat → Int32) → Option (Int32 × (Nat → Int32) × (Nat → Int32))
  | 0 => fun _ _ _ _ _ _ _ => none
  | j + 1 => f_X4_removeLatest_L21_F N (f_X4_removeLatest_L21 N j)
def f_X4_removeLatest (N : Nat)  (tc : Int32) (en : Nat → Int32) (fr : Nat → Int32) (a0 : Int32) (a1 : Int32) : Option (Int32 × (Nat → Int32) × (Nat → Int32)) :=
  (f_X4_pairThrows N fr a0).bind fun t1 =>
  (f_X4_clear N tc fr).bind fun t2 =>
  f_X4_removeLatest_L21 N N a0 (t1 - a1) tc 0 t2.1 en t2.2
def f_X4_playerTotal_L13_F (N : Nat) (fr : Nat → Int32) (r4 : Int32 → Int32 → Int32 → Option (Int32)) (r13 : Int32 → Int32 → Int32 → Int32 → Option (Int32)) (l1 : Int32) (l2 : Int32) (l3 : Int32) (l4 : Int32) : Option (Int32) :=
  if 12 < l4 then
    r4 l1 l2 (l3 + 1)
  else
    (f_X10_pairOf l1 l3).bind fun t1 =>
    (f_X10_cellOf t1 l4).bind fun t2 =>
    (f_X10_at 432 fr t2).bind fun t3 =>
    r13 l1 (l2 + (l4 * t3)) l3 (l4 + 1)
def f_X4_playerTotal_L13 (N : Nat) (fr : Nat → Int32) (r4 : Int32 → Int32 → Int32 → Option (Int32)) : Nat → Int32 → Int32 → Int32 → Int32 → Option (Int32)
  | 0 => fun _ _ _ _ => none
  | j + 1 => f_X4_playerTotal_L13_F N fr r4 (f_X4_playerTotal_L13 N fr r4 j)
def f_X4_playerTotal_L4_F (N : Nat) (fr : Nat → Int32)  (r4 : Int32 → Int32 → Int32 → Option (Int32)) (l1 : Int32) (l2 : Int32) (l3 : Int32) : Option (Int32) :=
  if 6 ≤ l3 then
    some l2
  else
    f_X4_playerTotal_L13 N fr r4 N l1 l2 l3 1
def f_X4_playerTotal_L4 (N : Nat) (fr : Nat → Int32)  : Nat → Int32 → Int32 → Int32 → Option (Int32)
  | 0 => fun _ _ _ => none
  | j + 1 => f_X4_playerTotal_L4_F N fr (f_X4_playerTotal_L4 N fr j)
def f_X4_playerTotal (N : Nat) (fr : Nat → Int32) (a0 : Int32) : Option (Int32) :=
  f_X4_playerTotal_L4 N fr N a0 0 0
def f_X4_frequencySum (N : Nat) (fr : Nat → Int32)  : Option (Int32) :=
  (f_X10_sumOf N 432 fr 0 432).bind fun t1 =>
  some t1
def f_X4_faceSum_L4_F (N : Nat) (tc : Int32) (en : Nat → Int32)  (r4 : Int32 → Int32 → Option (Int32)) (l1 : Int32) (l2 : Int32) : Option (Int32) :=
  if tc ≤ l2 then
    some l1
  else
    (f_X4_faceIn en l2).bind fun t1 =>
    r4 (l1 + t1) (l2 + 1)
def f_X4_faceSum_L4 (N : Nat) (tc : Int32) (en : Nat → Int32)  : Nat → Int32 → Int32 → Option (Int32)
  | 0 => fun _ _ => none
  | j + 1 => f_X4_faceSum_L4_F N tc en (f_X4_faceSum_L4 N tc en j)
def f_X4_faceSum (N : Nat) (tc : Int32) (en : Nat → Int32)  : Option (Int32) :=
  f_X4_faceSum_L4 N tc en N 0 0
def f_X8_byteIn (tl : Int32) (tb : Nat → Int32) (a0 : Int32) : Option (Int32) :=
  if a0 < 0 then
    some (-1)
  else
    if tl ≤ a0 then
      some (-1)
    else
      if 900 ≤ a0 then
        some (-1)
      else
        gd (inb a0 900) <|
        some (tb (Int32.toNatClampNeg a0))
def f_X7_isNamed_L24_F (N : Nat) (ln : Nat → Int32) (lt : Nat → Int32) (tl : Int32) (tb : Nat → Int32)  (r24 : Int32 → Int32 → Int32 → Int32 → Option (Int32)) (l1 : Int32) (l3 : Int32) (l5 : Int32) (l6 : Int32) : Option (Int32) :=
  if l5 ≤ l6 then
    some 1
  else
    (f_X10_at 24 lt ((l1 * 4) + l6)).bind fun t2 =>
    (f_X8_byteIn tl tb (l3 + l6)).bind fun t3 =>
    if t2 = t3 then
      r24 l1 l3 l5 (l6 + 1)
    else
      some 0
def f_X7_isNamed_L24 (N : Nat) (ln : Nat → Int32) (lt : Nat → Int32) (tl : Int32) (tb : Nat → Int32)  : Nat → Int32 → Int32 → Int32 → Int32 → Option (Int32)
  | 0 => fun _ _ _ _ => none
  | j + 1 => f_X7_isNamed_L24_F N ln lt tl tb (f_X7_isNamed_L24 N ln lt tl tb j)
def f_X7_isNamed (N : Nat) (ln : Nat → Int32) (lt : Nat → Int32) (tl : Int32) (tb : Nat → Int32) (a0 : Int32) (a2 : Int32) (a3 : Int32) : Option (Int32) :=
  (f_X10_at 6 ln a0).bind fun t1 =>
  if t1 = (a3 - a2) then
    f_X7_isNamed_L24 N ln lt tl tb N a0 a2 t1 0
  else
    some 0
def f_X7_find_L3_F (N : Nat) (pc : Int32) (ln : Nat → Int32) (lt : Nat → Int32) (tl : Int32) (tb : Nat → Int32)  (r3 : Int32 → Int32 → Int32 → Option (Int32)) (l2 : Int32) (l3 : Int32) (l4 : Int32) : Option (Int32) :=
  if pc ≤ l4 then
    some (-1)
  else
    (f_X7_isNamed N ln lt tl tb l4 l2 l3).bind fun t1 =>
    if t1 = 0 then
      r3 l2 l3 (l4 + 1)
    else
      some l4
def f_X7_find_L3 (N : Nat) (pc : Int32) (ln : Nat → Int32) (lt : Nat → Int32) (tl : Int32) (tb : Nat → Int32)  : Nat → Int32 → Int32 → Int32 → Option (Int32)
  | 0 => fun _ _ _ => none
  | j + 1 => f_X7_find_L3_F N pc ln lt tl tb (f_X7_find_L3 N pc ln lt tl tb j)
def f_X7_find (N : Nat) (pc : Int32) (ln : Nat → Int32) (lt : Nat → Int32) (tl : Int32) (tb : Nat → Int32) (a1 : Int32) (a2 : Int32) : Option (Int32) :=
  f_X7_find_L3 N pc ln lt tl tb N a1 a2 0
def f_X7_add_L52 (N : Nat) (tl : Int32) (tb : Nat → Int32) (r13 : Int32 → Int32 → Int32 → Int32 → (Nat → Int32) → (Nat → Int32) → Option (Int32 × (Nat → Int32) × (Nat → Int32))) (l2 : Int32) (l3 : Int32) (l4 : Int32) (s0 : Int32) (s1 : Int32) (pc : Int32) (ln : Nat → Int32) (lt : Nat → Int32) : Option (Int32 × (Nat → Int32) × (Nat → Int32)) :=
  (f_X10_put 24 lt s1 s0).bind fun t2 =>
  r13 l2 l3 (l4 + 1) pc ln t2
def f_X7_add_L13_F (N : Nat) (tl : Int32) (tb : Nat → Int32)  (r13 : Int32 → Int32 → Int32 → Int32 → (Nat → Int32) → (Nat → Int32) → Option (Int32 × (Nat → Int32) × (Nat → Int32))) (l2 : Int32) (l3 : Int32) (l4 : Int32) (pc : Int32) (ln : Nat → Int32) (lt : Nat → Int32) : Option (Int32 × (Nat → Int32) × (Nat → Int32)) :=
  if 4 ≤ l4 then
    (f_X10_put 6 ln pc (l3 - l2)).bind fun t1 =>
    some ((pc + 1), t1, lt)
  else
    if l3 ≤ (l2 + l4) then
      f_X7_add_L52 N tl tb r13 l2 l3 l4 0 ((pc * 4) + l4) pc ln lt
    else
      (f_X8_byteIn tl tb (l2 + l4)).bind fun t2 =>
      f_X7_add_L52 N tl tb r13 l2 l3 l4 t2 ((pc * 4) + l4) pc ln lt
def f_X7_add_L13 (N : Nat) (tl : Int32) (tb : Nat → Int32)  : Nat → Int32 → Int32 → Int32 → Int32 → (Nat → Int32) → (Nat → Int32) → Option (Int32 × (Nat → Int32) × (Nat → Int32))
  | 0 => fun _ _ _ _ _ _ => none
  | j + 1 => f_X7_add_L13_F N tl tb (f_X7_add_L13 N tl tb j)
def f_X7_add (N : Nat) (tl : Int32) (tb : Nat → Int32) (pc : Int32) (ln : Nat → Int32) (lt : Nat → Int32) (a1 : Int32) (a2 : Int32) : Option (Int32 × (Nat → Int32) × (Nat → Int32)) :=
  if pc < 6 then
    f_X7_add_L13 N tl tb N a1 a2 0 pc ln lt
  else
    some (pc, ln, lt)
def f_X6_removeAllOf_L51 (N : Nat)  (r4 : Int32 → Int32 → Int32 → Int32 → (Nat → Int32) → (Nat → Int32) → Option (Int32 × Int32 × (Nat → Int32) × (Nat → Int32))) (l1 : Int32) (l2 : Int32) (l3 : Int32) (oc : Int32) (op : Nat → Int32) (os : Nat → Int32) : Option (Int32 × Int32 × (Nat → Int32) × (Nat → Int32)) :=
  r4 l1 l2 (l3 + 1) oc op os
def f_X6_removeAllOf_L4_F (N : Nat)   (r4 : Int32 → Int32 → Int32 → Int32 → (Nat → Int32) → (Nat → Int32) → Option (Int32 × Int32 × (Nat → Int32) × (Nat → Int32))) (l1 : Int32) (l2 : Int32) (l3 : Int32) (oc : Int32) (op : Nat → Int32) (os : Nat → Int32) : Option (Int32 × Int32 × (Nat → Int32) × (Nat → Int32)) :=
  if oc ≤ l3 then
    some ((oc - l2), l2, op, os)
  else
    (f_X10_at 36 op l3).bind fun t1 =>
    (f_X10_playerOf t1).bind fun t2 =>
    if t2 = l1 then
      f_X6_removeAllOf_L51 N r4 l1 l2 l3 oc op os
    else
      (f_X10_at 36 op l3).bind fun t3 =>
      (f_X10_at 36 os l3).bind fun t4 =>
      (f_X6_set op os l2 t3 t4).bind fun t5 =>
      f_X6_removeAllOf_L51 N r4 l1 (l2 + 1) l3 oc t5.1 t5.2
def f_X6_removeAllOf_L4 (N : Nat)   : Nat → Int32 → Int32 → Int32 → Int32 → (Nat → Int32) → (Nat → Int32) → Option (Int32 × Int32 × (Nat → Int32) × (Nat → Int32))
  | 0 => fun _ _ _ _ _ _ => none
  | j + 1 => f_X6_removeAllOf_L4_F N (f_X6_removeAllOf_L4 N j)
def f_X6_removeAllOf (N : Nat)  (oc : Int32) (op : Nat → Int32) (os : Nat → Int32) (a0 : Int32) : Option (Int32 × Int32 × (Nat → Int32) × (Nat → Int32)) :=
  f_X6_removeAllOf_L4 N N a0 0 0 oc op os
def f_X8_append  (tl : Int32) (tb : Nat → Int32) (a0 : Int32) : Option (Int32 × (Nat → Int32)) :=
  if 900 ≤ tl then
    some (tl, tb)
  else
    (f_X10_put 900 tb tl a0).bind fun t1 =>
    some ((tl + 1), t1)
def f_X8_appendWord_L3_F (N : Nat)   (r3 : Int32 → Int32 → Int32 → (Nat → Int32) → Option (Int32 × (Nat → Int32))) (l1 : Int32) (l2 : Int32) (tl : Int32) (tb : Nat → Int32) : Option (Int32 × (Nat → Int32)) :=
  if l2 < 0 then
    some (tl, tb)
  else
    (f_X8_append tl tb ((l1 >>> (l2 &&& 31)) &&& 255)).bind fun t1 =>
    r3 l1 (l2 + (-8)) t1.1 t1.2
def f_X8_appendWord_L3 (N : Nat)   : Nat → Int32 → Int32 → Int32 → (Nat → Int32) → Option (Int32 × (Nat → Int32))
  | 0 => fun _ _ _ _ => none
  | j + 1 => f_X8_appendWord_L3_F N (f_X8_appendWord_L3 N j)
def f_X8_appendWord (N : Nat)  (tl : Int32) (tb : Nat → Int32) (a0 : Int32) : Option (Int32 × (Nat → Int32)) :=
  f_X8_appendWord_L3 N N a0 24 tl tb
def f_X8_appendString_L2_F (N : Nat)  (sj : Nat)  (r2 : Int32 → Int32 → (Nat → Int32) → Option (Int32 × (Nat → Int32))) (l2 : Int32) (tl : Int32) (tb : Nat → Int32) : Option (Int32 × (Nat → Int32)) :=
  if (kSl sj) ≤ l2 then
    some (tl, tb)
  else
    gd (inb l2 (kSn sj)) <|
    (f_X8_append tl tb (kSc sj l2)).bind fun t1 =>
    r2 (l2 + 1) t1.1 t1.2
def f_X8_appendString_L2 (N : Nat)  (sj : Nat)  : Nat → Int32 → Int32 → (Nat → Int32) → Option (Int32 × (Nat → Int32))
  | 0 => fun _ _ _ => none
  | j + 1 => f_X8_appendString_L2_F N sj (f_X8_appendString_L2 N sj j)
def f_X8_appendString (N : Nat)  (sj : Nat) (tl : Int32) (tb : Nat → Int32) : Option (Int32 × (Nat → Int32)) :=
  f_X8_appendString_L2 N sj N 0 tl tb
def f_X8_cutTo  (tl : Int32) (a0 : Int32) : Option (Int32) :=
  some a0
def f_X2_begin (N : Nat)  (sd : Int32) (mn : Int32) (th : Int32) (dc : Int32) (pc : Int32) (tc : Int32) (fr : Nat → Int32) (oc : Int32) (a0 : Int32) (a1 : Int32) (a2 : Int32) : Option (Int32 × Int32 × Int32 × Int32 × Int32 × Int32 × (Nat → Int32) × Int32) :=
  (f_X0_clear dc).bind fun t1 =>
  (f_X7_clear pc).bind fun t2 =>
  (f_X4_clear N tc fr).bind fun t3 =>
  (f_X6_clear oc).bind fun t4 =>
  some (a0, a1, a2, t1, t2, t3.1, t3.2, t4)
def f_X2_copyFrom (y_sd : Int32) (y_mn : Int32) (y_th : Int32) (y_dc : Int32) (y_fc : Nat → Int32) (y_dw : Nat → Int32) (y_pc : Int32) (y_ln : Nat → Int32) (y_lt : Nat → Int32) (y_tc : Int32) (y_en : Nat → Int32) (y_fr : Nat → Int32) (y_oc : Int32) (y_op : Nat → Int32) (y_os : Nat → Int32) (sd : Int32) (mn : Int32) (th : Int32) (dc : Int32) (fc : Nat → Int32) (dw : Nat → Int32) (pc : Int32) (ln : Nat → Int32) (lt : Nat → Int32) (tc : Int32) (en : Nat → Int32) (fr : Nat → Int32) (oc : Int32) (op : Nat → Int32) (os : Nat → Int32) : Option (Int32 × Int32 × Int32 × Int32 × (Nat → Int32) × (Nat → Int32) × Int32 × (Nat → Int32) × (Nat → Int32) × Int32 × (Nat → Int32) × (Nat → Int32) × Int32 × (Nat → Int32) × (Nat → Int32)) :=
  (f_X0_copyFrom y_dc y_fc y_dw dc fc dw).bind fun t1 =>
  (f_X7_copyFrom y_pc y_ln y_lt pc ln lt).bind fun t2 =>
  (f_X4_copyFrom y_tc y_en y_fr tc en fr).bind fun t3 =>
  (f_X6_copyFrom y_oc y_op y_os oc op os).bind fun t4 =>
  some (y_sd, y_mn, y_th, t1.1, t1.2.1, t1.2.2, t2.1, t2.2.1, t2.2.2, t3.1, t3.2.1, t3.2.2, t4.1, t4.2.1, t4.2.2)
def f_X2_makeThrows_L62 (N : Nat) (fc : Nat → Int32) (dw : Nat → Int32) (r12 : Int32 → Int32 → Int32 → Int32 → Int32 → Int32 → Int32 → Int32 → (Nat → Int32) → (Nat → Int32) → Option (Int32 × Int32 × Int32 × (Nat → Int32) × (Nat → Int32))) (l1 : Int32) (l2 : Int32) (l3 : Int32) (l4 : Int32) (l5 : Int32) (l6 : Int32) (s0 : Int32) (sd : Int32) (tc : Int32) (en : Nat → Int32) (fr : Nat → Int32) : Option (Int32 × Int32 × Int32 × (Nat → Int32) × (Nat → Int32)) :=
  (f_X4_add tc en fr l1 s0 l3).bind fun t4 =>
  r12 l1 l2 l3 l4 (l5 + s0) (l6 + 1) sd t4.1 t4.2.1 t4.2.2
def f_X2_makeThrows_L12_F (N : Nat) (fc : Nat → Int32) (dw : Nat → Int32)  (r12 : Int32 → Int32 → Int32 → Int32 → Int32 → Int32 → Int32 → Int32 → (Nat → Int32) → (Nat → Int32) → Option (Int32 × Int32 × Int32 × (Nat → Int32) × (Nat → Int32))) (l1 : Int32) (l2 : Int32) (l3 : Int32) (l4 : Int32) (l5 : Int32) (l6 : Int32) (sd : Int32) (tc : Int32) (en : Nat → Int32) (fr : Nat → Int32) : Option (Int32 × Int32 × Int32 × (Nat → Int32) × (Nat → Int32)) :=
  if l2 ≤ l6 then
    some (l5, sd, tc, en, fr)
  else
    (f_X10_nextSeed sd).bind fun t2 =>
    if l3 = 0 then
      (f_X0_faceShown N fc dw l4 t2).bind fun t3 =>
      f_X2_makeThrows_L62 N fc dw r12 l1 l2 l3 l4 l5 l6 t3 t2 tc en fr
    else
      (f_X0_fairFaceShown fc l4 t2).bind fun t4 =>
      f_X2_makeThrows_L62 N fc dw r12 l1 l2 l3 l4 l5 l6 t4 t2 tc en fr
def f_X2_makeThrows_L12 (N : Nat) (fc : Nat → Int32) (dw : Nat → Int32)  : Nat → Int32 → Int32 → Int32 → Int32 → Int32 → Int32 → Int32 → Int32 → (Nat → Int32) → (Nat → Int32) → Option (Int32 × Int32 × Int32 × (Nat → Int32) × (Nat → Int32))
  | 0 => fun _ _ _ _ _ _ _ _ _ _ => none
  | j + 1 => f_X2_makeThrows_L12_F N fc dw (f_X2_makeThrows_L12 N fc dw j)
def f_X2_makeThrows (N : Nat) (fc : Nat → Int32) (dw : Nat → Int32) (sd : Int32) (tc : Int32) (en : Nat → Int32) (fr : Nat → Int32) (a0 : Int32) (a1 : Int32) (a2 : Int32) : Option (Int32 × Int32 × Int32 × (Nat → Int32) × (Nat → Int32)) :=
  (f_X10_dieOf a0).bind fun t1 =>
  f_X2_makeThrows_L12 N fc dw N a0 a1 a2 t1 0 0 sd tc en fr
def f_X2_pairScore (N : Nat) (fc : Nat → Int32) (fr : Nat → Int32) (a0 : Int32) : Option (Int32) :=
  (f_X10_cellOf a0 1).bind fun t1 =>
  (f_X10_dieOf a0).bind fun t2 =>
  (f_X0_faceCount fc t2).bind fun t3 =>
  (f_X10_testScore N 432 fr t1 t3).bind fun t4 =>
  some t4
def f_X2_exceedsLimits (mn : Int32) (th : Int32) (a0 : Int32) (a1 : Int32) : Option (Int32) :=
  if a0 < mn then
    some 0
  else
    if a1 ≤ th then
      some 0
    else
      some 1
def f_X2_isPairSuspicious (N : Nat) (mn : Int32) (th : Int32) (fc : Nat → Int32) (fr : Nat → Int32) (a0 : Int32) : Option (Int32) :=
  (f_X4_pairThrows N fr a0).bind fun t1 =>
  (f_X2_pairScore N fc fr a0).bind fun t2 =>
  (f_X2_exceedsLimits mn th t1 t2).bind fun t3 =>
  some t3
def f_X2_countSuspicious_L21 (N : Nat) (mn : Int32) (th : Int32) (fc : Nat → Int32) (fr : Nat → Int32) (r4 : Int32 → Int32 → Option (Int32)) (l1 : Int32) (l2 : Int32) : Option (Int32) :=
  r4 l1 (l2 + 1)
def f_X2_countSuspicious_L4_F (N : Nat) (mn : Int32) (th : Int32) (fc : Nat → Int32) (fr : Nat → Int32)  (r4 : Int32 → Int32 → Option (Int32)) (l1 : Int32) (l2 : Int32) : Option (Int32) :=
  if 36 ≤ l2 then
    some l1
  else
    (f_X2_isPairSuspicious N mn th fc fr l2).bind fun t1 =>
    if t1 = 0 then
      f_X2_countSuspicious_L21 N mn th fc fr r4 l1 l2
    else
      f_X2_countSuspicious_L21 N mn th fc fr r4 (l1 + 1) l2
def f_X2_countSuspicious_L4 (N : Nat) (mn : Int32) (th : Int32) (fc : Nat → Int32) (fr : Nat → Int32)  : Nat → Int32 → Int32 → Option (Int32)
  | 0 => fun _ _ => none
  | j + 1 => f_X2_countSuspicious_L4_F N mn th fc fr (f_X2_countSuspicious_L4 N mn th fc fr j)
def f_X2_countSuspicious (N : Nat) (mn : Int32) (th : Int32) (fc : Nat → Int32) (fr : Nat → Int32)  : Option (Int32) :=
  f_X2_countSuspicious_L4 N mn th fc fr N 0 0
def f_X2_holdAudit_L58 (N : Nat) (mn : Int32) (th : Int32) (fc : Nat → Int32) (fr : Nat → Int32) (r10 : Int32 → Int32 → Int32 → (Nat → Int32) → (Nat → Int32) → Option (Int32 × Int32 × (Nat → Int32) × (Nat → Int32))) (l1 : Int32) (l2 : Int32) (oc : Int32) (op : Nat → Int32) (os : Nat → Int32) : Option (Int32 × Int32 × (Nat → Int32) × (Nat → Int32)) :=
  r10 l1 (l2 + 1) oc op os
def f_X2_holdAudit_L10_F (N : Nat) (mn : Int32) (th : Int32) (fc : Nat → Int32) (fr : Nat → Int32)  (r10 : Int32 → Int32 → Int32 → (Nat → Int32) → (Nat → Int32) → Option (Int32 × Int32 × (Nat → Int32) × (Nat → Int32))) (l1 : Int32) (l2 : Int32) (oc : Int32) (op : Nat → Int32) (os : Nat → Int32) : Option (Int32 × Int32 × (Nat → Int32) × (Nat → Int32)) :=
  if 36 ≤ l2 then
    some ((oc - l1), oc, op, os)
  else
    (f_X2_pairScore N fc fr l2).bind fun t1 =>
    (f_X4_pairThrows N fr l2).bind fun t2 =>
    (f_X2_exceedsLimits mn th t2 t1).bind fun t3 =>
    if t3 = 0 then
      f_X2_holdAudit_L58 N mn th fc fr r10 l1 l2 oc op os
    else
      (f_X6_has N oc op l2).bind fun t4 =>
      if t4 = 0 then
        (f_X6_add N oc op os l2 t1).bind fun t5 =>
        f_X2_holdAudit_L58 N mn th fc fr r10 l1 l2 t5.1 t5.2.1 t5.2.2
      else
        f_X2_holdAudit_L58 N mn th fc fr r10 l1 l2 oc op os
def f_X2_holdAudit_L10 (N : Nat) (mn : Int32) (th : Int32) (fc : Nat → Int32) (fr : Nat → Int32)  : Nat → Int32 → Int32 → Int32 → (Nat → Int32) → (Nat → Int32) → Option (Int32 × Int32 × (Nat → Int32) × (Nat → Int32))
  | 0 => fun _ _ _ _ _ => none
  | j + 1 => f_X2_holdAudit_L10_F N mn th fc fr (f_X2_holdAudit_L10 N mn th fc fr j)
def f_X2_holdAudit (N : Nat) (mn : Int32) (th : Int32) (fc : Nat → Int32) (fr : Nat → Int32) (oc : Int32) (op : Nat → Int32) (os : Nat → Int32) : Option (Int32 × Int32 × (Nat → Int32) × (Nat → Int32)) :=
  f_X2_holdAudit_L10 N mn th fc fr N oc 0 oc op os
def f_X2_penanceSize (N : Nat) (fr : Nat → Int32) (oc : Int32) (op : Nat → Int32) (os : Nat → Int32)  : Option (Int32) :=
  if oc = 0 then
    some 0
  else
    (f_X10_at 36 os 0).bind fun t1 =>
    (f_X10_at 36 op 0).bind fun t2 =>
    (f_X4_pairThrows N fr t2).bind fun t3 =>
    some (if t3 < t1 then t3 else t1)
def f_X2_doPenance (N : Nat) (fc : Nat → Int32) (dw : Nat → Int32) (sd : Int32) (tc : Int32) (en : Nat → Int32) (fr : Nat → Int32) (oc : Int32) (op : Nat → Int32) (os : Nat → Int32) : Option (Int32 × Int32 × Int32 × (Nat → Int32) × (Nat → Int32) × Int32 × (Nat → Int32) × (Nat → Int32)) :=
  (f_X2_penanceSize N fr oc op os).bind fun t1 =>
  (f_X10_at 36 op 0).bind fun t2 =>
  (f_X6_removeFirst N oc op os).bind fun t3 =>
  (f_X4_removeLatest N tc en fr t2 t1).bind fun t4 =>
  (f_X2_makeThrows N fc dw sd t4.1 t4.2.1 t4.2.2 t2 t1 1).bind fun t5 =>
  some (t5.1, t5.2.1, t5.2.2.1, t5.2.2.2.1, t5.2.2.2.2, t3.1, t3.2.1, t3.2.2)
def f_X3_remember_L44 (sd : Int32) (mn : Int32) (th : Int32) (dc : Int32) (fc : Nat → Int32) (dw : Nat → Int32) (pc : Int32) (ln : Nat → Int32) (lt : Nat → Int32) (tc : Int32) (en : Nat → Int32) (fr : Nat → Int32) (oc : Int32) (op : Nat → Int32) (os : Nat → Int32)  (nx : Int32) (dp : Int32) (v_sd : Int32) (v_mn : Int32) (v_th : Int32) (v_dc : Int32) (v_fc : Nat → Int32) (v_dw : Nat → Int32) (v_pc : Int32) (v_ln : Nat → Int32) (v_lt : Nat → Int32) (v_tc : Int32) (v_en : Nat → Int32) (v_fr : Nat → Int32) (v_oc : Int32) (v_op : Nat → Int32) (v_os : Nat → Int32) : Option (Int32 × Int32 × Int32 × Int32 × Int32 × Int32 × (Nat → Int32) × (Nat → Int32) × Int32 × (Nat → Int32) × (Nat → Int32) × Int32 × (Nat → Int32) × (Nat → Int32) × Int32 × (Nat → Int32) × (Nat → Int32)) :=
  some (((nx + 1) - (nx + 1) / 8 * 8), (if 8 < (dp + 1) then 8 else (dp + 1)), v_sd, v_mn, v_th, v_dc, v_fc, v_dw, v_pc, v_ln, v_lt, v_tc, v_en, v_fr, v_oc, v_op, v_os)
def f_X3_remember (sd : Int32) (mn : Int32) (th : Int32) (dc : Int32) (fc : Nat → Int32) (dw : Nat → Int32) (pc : Int32) (ln : Nat → Int32) (lt : Nat → Int32) (tc : Int32) (en : Nat → Int32) (fr : Nat → Int32) (oc : Int32) (op : Nat → Int32) (os : Nat → Int32) (nx : Int32) (dp : Int32) (v_sd : Int32) (v_mn : Int32) (v_th : Int32) (v_dc : Int32) (v_fc : Nat → Int32) (v_dw : Nat → Int32) (v_pc : Int32) (v_ln : Nat → Int32) (v_lt : Nat → Int32) (v_tc : Int32) (v_en : Nat → Int32) (v_fr : Nat → Int32) (v_oc : Int32) (v_op : Nat → Int32) (v_os : Nat → Int32) : Option (Int32 × Int32 × Int32 × Int32 × Int32 × Int32 × (Nat → Int32) × (Nat → Int32) × Int32 × (Nat → Int32) × (Nat → Int32) × Int32 × (Nat → Int32) × (Nat → Int32) × Int32 × (Nat → Int32) × (Nat → Int32)) :=
  if nx < 0 then
    f_X3_remember_L44 sd mn th dc fc dw pc ln lt tc en fr oc op os nx dp v_sd v_mn v_th v_dc v_fc v_dw v_pc v_ln v_lt v_tc v_en v_fr v_oc v_op v_os
  else
    if 8 ≤ nx then
      f_X3_remember_L44 sd mn th dc fc dw pc ln lt tc en fr oc op os nx dp v_sd v_mn v_th v_dc v_fc v_dw v_pc v_ln v_lt v_tc v_en v_fr v_oc v_op v_os
    else
      gd (inb nx 8) <|
      gd (inb nx 8) <|
      (f_X2_copyFrom sd mn th dc fc dw pc ln lt tc en fr oc op os v_sd v_mn v_th v_dc v_fc v_dw v_pc v_ln v_lt v_tc v_en v_fr v_oc v_op v_os).bind fun t1 =>
      f_X3_remember_L44 sd mn th dc fc dw pc ln lt tc en fr oc op os nx dp t1.1 t1.2.1 t1.2.2.1 t1.2.2.2.1 t1.2.2.2.2.1 t1.2.2.2.2.2.1 t1.2.2.2.2.2.2.1 t1.2.2.2.2.2.2.2.1 t1.2.2.2.2.2.2.2.2.1 t1.2.2.2.2.2.2.2.2.2.1 t1.2.2.2.2.2.2.2.2.2.2.1 t1.2.2.2.2.2.2.2.2.2.2.2.1 t1.2.2.2.2.2.2.2.2.2.2.2.2.1 t1.2.2.2.2.2.2.2.2.2.2.2.2.2.1 t1.2.2.2.2.2.2.2.2.2.2.2.2.2.2
def f_X9_isBlank  (a0 : Int32) : Option (Int32) :=
  if a0 = 32 then
    some 1
  else
    if a0 = 10 then
      some 1
    else
      some 0
def f_X9_isLetter  (a0 : Int32) : Option (Int32) :=
  if a0 < 97 then
    some 0
  else
    if 122 < a0 then
      some 0
    else
      some 1
def f_X9_passLetters_L0_F (N : Nat) (tl : Int32) (tb : Nat → Int32)  (r0 : Int32 → Option (Int32)) (te : Int32) : Option (Int32) :=
  if tl ≤ te then
    some te
  else
    (f_X8_byteIn tl tb te).bind fun t1 =>
    (f_X9_isLetter t1).bind fun t2 =>
    if t2 = 0 then
      some te
    else
      r0 (te + 1)
def f_X9_passLetters_L0 (N : Nat) (tl : Int32) (tb : Nat → Int32)  : Nat → Int32 → Option (Int32)
  | 0 => fun _ => none
  | j + 1 => f_X9_passLetters_L0_F N tl tb (f_X9_passLetters_L0 N tl tb j)
def f_X9_passLetters (N : Nat) (tl : Int32) (tb : Nat → Int32) (te : Int32) : Option (Int32) :=
  f_X9_passLetters_L0 N tl tb N te
def f_X9_isDigit  (a0 : Int32) : Option (Int32) :=
  if a0 < 48 then
    some 0
  else
    if 57 < a0 then
      some 0
    else
      some 1
def f_X9_passDigits_L5_F (N : Nat) (tl : Int32) (tb : Nat → Int32)  (r5 : Int32 → Int32 → Option (Int32 × Int32)) (te : Int32) (tv : Int32) : Option (Int32 × Int32) :=
  if tl ≤ te then
    some (te, tv)
  else
    (f_X8_byteIn tl tb te).bind fun t1 =>
    (f_X9_isDigit t1).bind fun t2 =>
    if t2 = 0 then
      some (te, tv)
    else
      (f_X8_byteIn tl tb te).bind fun t3 =>
      r5 (te + 1) (if 1000000 < (((tv * 10) + t3) - 48) then 1000000 else (((tv * 10) + t3) - 48))
def f_X9_passDigits_L5 (N : Nat) (tl : Int32) (tb : Nat → Int32)  : Nat → Int32 → Int32 → Option (Int32 × Int32)
  | 0 => fun _ _ => none
  | j + 1 => f_X9_passDigits_L5_F N tl tb (f_X9_passDigits_L5 N tl tb j)
def f_X9_passDigits (N : Nat) (tl : Int32) (tb : Nat → Int32) (te : Int32) (tv : Int32) : Option (Int32 × Int32) :=
  f_X9_passDigits_L5 N tl tb N te 0
def f_X9_advance_L52 (N : Nat) (tl : Int32) (tb : Nat → Int32)  (kd : Int32) (ts : Int32) (te : Int32) (tv : Int32) : Option (Int32 × Int32 × Int32 × Int32) :=
  (f_X8_byteIn tl tb ts).bind fun t1 =>
  if ts < tl then
    (f_X9_isLetter t1).bind fun t2 =>
    if t2 = 0 then
      (f_X9_isDigit t1).bind fun t3 =>
      if t3 = 0 then
        some (3, ts, (ts + 1), tv)
      else
        (f_X9_passDigits N tl tb ts tv).bind fun t4 =>
        some (2, ts, t4.1, t4.2)
    else
      (f_X9_passLetters N tl tb ts).bind fun t5 =>
      some (1, ts, t5, tv)
  else
    some (0, ts, ts, tv)
def f_X9_advance_L8_F (N : Nat) (tl : Int32) (tb : Nat → Int32)  (r8 : Int32 → Int32 → Int32 → Int32 → Option (Int32 × Int32 × Int32 × Int32)) (kd : Int32) (ts : Int32) (te : Int32) (tv : Int32) : Option (Int32 × Int32 × Int32 × Int32) :=
  if tl ≤ ts then
    f_X9_advance_L52 N tl tb kd ts te tv
  else
    (f_X8_byteIn tl tb ts).bind fun t1 =>
    (f_X9_isBlank t1).bind fun t2 =>
    if t2 = 0 then
      f_X9_advance_L52 N tl tb kd ts te tv
    else
      r8 kd (ts + 1) te tv
def f_X9_advance_L8 (N : Nat) (tl : Int32) (tb : Nat → Int32)  : Nat → Int32 → Int32 → Int32 → Int32 → Option (Int32 × Int32 × Int32 × Int32)
  | 0 => fun _ _ _ _ => none
  | j + 1 => f_X9_advance_L8_F N tl tb (f_X9_advance_L8 N tl tb j)
def f_X9_advance (N : Nat) (tl : Int32) (tb : Nat → Int32) (kd : Int32) (ts : Int32) (te : Int32) (tv : Int32) : Option (Int32 × Int32 × Int32 × Int32) :=
  f_X9_advance_L8 N tl tb N kd te te tv
def f_X9_rewind (N : Nat) (tl : Int32) (tb : Nat → Int32) (kd : Int32) (ts : Int32) (te : Int32) (tv : Int32) : Option (Int32 × Int32 × Int32 × Int32) :=
  (f_X9_advance N tl tb kd ts 0 tv).bind fun t1 =>
  some (t1.1, t1.2.1, t1.2.2.1, t1.2.2.2)
def f_X9_isWord_L28_F (N : Nat) (tl : Int32) (tb : Nat → Int32) (kd : Int32) (ts : Int32) (te : Int32) (sj : Nat)  (r28 : Int32 → Option (Int32)) (l2 : Int32) : Option (Int32) :=
  if (kSl sj) ≤ l2 then
    some 1
  else
    gd (inb l2 (kSn sj)) <|
    (f_X8_byteIn tl tb (ts + l2)).bind fun t1 =>
    if (kSc sj l2) = t1 then
      r28 (l2 + 1)
    else
      some 0
def f_X9_isWord_L28 (N : Nat) (tl : Int32) (tb : Nat → Int32) (kd : Int32) (ts : Int32) (te : Int32) (sj : Nat)  : Nat → Int32 → Option (Int32)
  | 0 => fun _ => none
  | j + 1 => f_X9_isWord_L28_F N tl tb kd ts te sj (f_X9_isWord_L28 N tl tb kd ts te sj j)
def f_X9_isWord (N : Nat) (tl : Int32) (tb : Nat → Int32) (kd : Int32) (ts : Int32) (te : Int32) (sj : Nat)  : Option (Int32) :=
  if kd = 1 then
    if (te - ts) = (kSl sj) then
      f_X9_isWord_L28 N tl tb kd ts te sj N 0
    else
      some 0
  else
    some 0
def f_X5_fail (ts : Int32) (ec : Int32) (eo : Int32) (a0 : Int32) : Option (Int32 × Int32) :=
  if ec = 0 then
    some (a0, ts)
  else
    some (ec, eo)
def f_X5_takeKeyword (N : Nat) (tl : Int32) (tb : Nat → Int32) (ec : Int32) (eo : Int32) (kd : Int32) (ts : Int32) (te : Int32) (tv : Int32) (a0 : Int32) : Option (Int32 × Int32 × Int32 × Int32 × Int32 × Int32) :=
  if a0 = 0 then
    (f_X9_advance N tl tb kd ts te tv).bind fun t1 =>
    some (ec, eo, t1.1, t1.2.1, t1.2.2.1, t1.2.2.2)
  else
    (f_X5_fail ts ec eo a0).bind fun t2 =>
    some (t2.1, t2.2, kd, ts, te, tv)
def f_X5_isNumberIn (kd : Int32) (tv : Int32) (a0 : Int32) (a1 : Int32) : Option (Int32) :=
  if kd = 2 then
    if tv < a0 then
      some 0
    else
      if a1 < tv then
        some 0
      else
        some 1
  else
    some 0
def f_X5_takeNumber_L35 (N : Nat) (tl : Int32) (tb : Nat → Int32)  (s0 : Int32) (ec : Int32) (eo : Int32) (kd : Int32) (ts : Int32) (te : Int32) (tv : Int32) : Option (Int32 × Int32 × Int32 × Int32 × Int32 × Int32 × Int32) :=
  (f_X5_fail ts ec eo s0).bind fun t3 =>
  some ((-1), t3.1, t3.2, kd, ts, te, tv)
def f_X5_takeNumber (N : Nat) (tl : Int32) (tb : Nat → Int32) (ec : Int32) (eo : Int32) (kd : Int32) (ts : Int32) (te : Int32) (tv : Int32) (a0 : Int32) (a1 : Int32) : Option (Int32 × Int32 × Int32 × Int32 × Int32 × Int32 × Int32) :=
  if ec = 0 then
    (f_X5_isNumberIn kd tv a0 a1).bind fun t1 =>
    if t1 = 0 then
      if kd = 2 then
        f_X5_takeNumber_L35 N tl tb 2 ec eo kd ts te tv
      else
        f_X5_takeNumber_L35 N tl tb 1 ec eo kd ts te tv
    else
      (f_X9_advance N tl tb kd ts te tv).bind fun t2 =>
      some (tv, ec, eo, t2.1, t2.2.1, t2.2.2.1, t2.2.2.2)
  else
    some ((-1), ec, eo, kd, ts, te, tv)
def f_X9_isSemicolon (tl : Int32) (tb : Nat → Int32) (kd : Int32) (ts : Int32)  : Option (Int32) :=
  if kd = 3 then
    (f_X8_byteIn tl tb ts).bind fun t1 =>
    if t1 = 59 then
      some 1
    else
      some 0
  else
    some 0
def f_X5_takeSemicolon (N : Nat) (tl : Int32) (tb : Nat → Int32) (ec : Int32) (eo : Int32) (kd : Int32) (ts : Int32) (te : Int32) (tv : Int32) (a0 : Int32) : Option (Int32 × Int32 × Int32 × Int32 × Int32 × Int32) :=
  if ec = 0 then
    (f_X9_isSemicolon tl tb kd ts).bind fun t1 =>
    if t1 = 0 then
      (f_X5_fail ts ec eo 1).bind fun t4 =>
      some (t4.1, t4.2, kd, ts, te, tv)
    else
      if a0 = 0 then
        (f_X9_advance N tl tb kd ts te tv).bind fun t2 =>
        some (ec, eo, t2.1, t2.2.1, t2.2.2.1, t2.2.2.2)
      else
        (f_X5_fail ts ec eo a0).bind fun t3 =>
        some (t3.1, t3.2, kd, ts, te, tv)
  else
    some (ec, eo, kd, ts, te, tv)
def f_X5_readHall_L18 (N : Nat) (tl : Int32) (tb : Nat → Int32)  (s0 : Int32) (ec : Int32) (eo : Int32) (sd : Int32) (mn : Int32) (th : Int32) (dc : Int32) (pc : Int32) (tc : Int32) (fr : Nat → Int32) (oc : Int32) (kd : Int32) (ts : Int32) (te : Int32) (tv : Int32) : Option (Int32 × Int32 × Int32 × Int32 × Int32 × Int32 × Int32 × Int32 × (Nat → Int32) × Int32 × Int32 × Int32 × Int32 × Int32) :=
  (f_X5_takeKeyword N tl tb ec eo kd ts te tv s0).bind fun t2 =>
  (f_X5_takeNumber N tl tb t2.1 t2.2.1 t2.2.2.1 t2.2.2.2.1 t2.2.2.2.2.1 t2.2.2.2.2.2 0 65536).bind fun t3 =>
  (f_X5_takeNumber N tl tb t3.2.1 t3.2.2.1 t3.2.2.2.1 t3.2.2.2.2.1 t3.2.2.2.2.2.1 t3.2.2.2.2.2.2 1 99).bind fun t4 =>
  (f_X5_takeNumber N tl tb t4.2.1 t4.2.2.1 t4.2.2.2.1 t4.2.2.2.2.1 t4.2.2.2.2.2.1 t4.2.2.2.2.2.2 0 999).bind fun t5 =>
  (f_X5_takeSemicolon N tl tb t5.2.1 t5.2.2.1 t5.2.2.2.1 t5.2.2.2.2.1 t5.2.2.2.2.2.1 t5.2.2.2.2.2.2 0).bind fun t6 =>
  if t6.1 = 0 then
    (f_X2_begin N sd mn th dc pc tc fr oc t3.1 t4.1 t5.1).bind fun t7 =>
    some (t6.1, t6.2.1, t7.1, t7.2.1, t7.2.2.1, t7.2.2.2.1, t7.2.2.2.2.1, t7.2.2.2.2.2.1, t7.2.2.2.2.2.2.1, t7.2.2.2.2.2.2.2, t6.2.2.1, t6.2.2.2.1, t6.2.2.2.2.1, t6.2.2.2.2.2)
  else
    some (t6.1, t6.2.1, sd, mn, th, dc, pc, tc, fr, oc, t6.2.2.1, t6.2.2.2.1, t6.2.2.2.2.1, t6.2.2.2.2.2)
def f_X5_readHall (N : Nat) (tl : Int32) (tb : Nat → Int32) (ec : Int32) (eo : Int32) (sd : Int32) (mn : Int32) (th : Int32) (dc : Int32) (pc : Int32) (tc : Int32) (fr : Nat → Int32) (oc : Int32) (kd : Int32) (ts : Int32) (te : Int32) (tv : Int32) : Option (Int32 × Int32 × Int32 × Int32 × Int32 × Int32 × Int32 × Int32 × (Nat → Int32) × Int32 × Int32 × Int32 × Int32 × Int32) :=
  (f_X9_isWord N tl tb kd ts te 1).bind fun t1 =>
  if t1 = 0 then
    f_X5_readHall_L18 N tl tb 1 ec eo sd mn th dc pc tc fr oc kd ts te tv
  else
    f_X5_readHall_L18 N tl tb 0 ec eo sd mn th dc pc tc fr oc kd ts te tv
def f_X5_hasMore (ec : Int32) (kd : Int32)  : Option (Int32) :=
  if ec = 0 then
    if kd = 0 then
      some 0
    else
      some 1
  else
    some 0
def f_X5_readDie_L131 (N : Nat) (tl : Int32) (tb : Nat → Int32)  (l2 : Int32) (s0 : Int32) (ec : Int32) (eo : Int32) (dc : Int32) (fc : Nat → Int32) (dw : Nat → Int32) (kd : Int32) (ts : Int32) (te : Int32) (tv : Int32) : Option (Int32 × Int32 × Int32 × (Nat → Int32) × (Nat → Int32) × Int32 × Int32 × Int32 × Int32) :=
  (f_X5_takeSemicolon N tl tb ec eo kd ts te tv s0).bind fun t2 =>
  if t2.1 = 0 then
    (f_X0_add dc fc l2).bind fun t3 =>
    some (t2.1, t2.2.1, t3.1, t3.2, dw, t2.2.2.1, t2.2.2.2.1, t2.2.2.2.2.1, t2.2.2.2.2.2)
  else
    some (t2.1, t2.2.1, dc, fc, dw, t2.2.2.1, t2.2.2.2.1, t2.2.2.2.2.1, t2.2.2.2.2.2)
def f_X5_readDie_L120 (N : Nat) (tl : Int32) (tb : Nat → Int32)  (l2 : Int32) (l3 : Int32) (ec : Int32) (eo : Int32) (dc : Int32) (fc : Nat → Int32) (dw : Nat → Int32) (kd : Int32) (ts : Int32) (te : Int32) (tv : Int32) : Option (Int32 × Int32 × Int32 × (Nat → Int32) × (Nat → Int32) × Int32 × Int32 × Int32 × Int32) :=
  if l3 = 0 then
    f_X5_readDie_L131 N tl tb l2 6 ec eo dc fc dw kd ts te tv
  else
    f_X5_readDie_L131 N tl tb l2 0 ec eo dc fc dw kd ts te tv
def f_X5_readDie_L117 (N : Nat) (tl : Int32) (tb : Nat → Int32) (r30 : Int32 → Int32 → Int32 → Int32 → Int32 → Int32 → (Nat → Int32) → (Nat → Int32) → Int32 → Int32 → Int32 → Int32 → Option (Int32 × Int32 × Int32 × (Nat → Int32) × (Nat → Int32) × Int32 × Int32 × Int32 × Int32)) (l1 : Int32) (l2 : Int32) (l3 : Int32) (ec : Int32) (eo : Int32) (dc : Int32) (fc : Nat → Int32) (dw : Nat → Int32) (kd : Int32) (ts : Int32) (te : Int32) (tv : Int32) : Option (Int32 × Int32 × Int32 × (Nat → Int32) × (Nat → Int32) × Int32 × Int32 × Int32 × Int32) :=
  r30 l1 l2 l3 ec eo dc fc dw kd ts te tv
def f_X5_readDie_L79 (N : Nat) (tl : Int32) (tb : Nat → Int32) (r30 : Int32 → Int32 → Int32 → Int32 → Int32 → Int32 → (Nat → Int32) → (Nat → Int32) → Int32 → Int32 → Int32 → Int32 → Option (Int32 × Int32 × Int32 × (Nat → Int32) × (Nat → Int32) × Int32 × Int32 × Int32 × Int32)) (l1 : Int32) (l2 : Int32) (l3 : Int32) (ec : Int32) (eo : Int32) (dc : Int32) (fc : Nat → Int32) (dw : Nat → Int32) (kd : Int32) (ts : Int32) (te : Int32) (tv : Int32) : Option (Int32 × Int32 × Int32 × (Nat → Int32) × (Nat → Int32) × Int32 × Int32 × Int32 × Int32) :=
  (f_X5_takeNumber N tl tb ec eo kd ts te tv 0 9).bind fun t2 =>
  if t2.2.1 = 0 then
    (f_X0_putWeight dw l1 (l2 + 1) t2.1).bind fun t3 =>
    f_X5_readDie_L117 N tl tb r30 l1 (l2 + 1) (l3 + t2.1) t2.2.1 t2.2.2.1 dc fc t3 t2.2.2.2.1 t2.2.2.2.2.1 t2.2.2.2.2.2.1 t2.2.2.2.2.2.2
  else
    f_X5_readDie_L117 N tl tb r30 l1 (l2 + 1) (l3 + t2.1) t2.2.1 t2.2.2.1 dc fc dw t2.2.2.2.1 t2.2.2.2.2.1 t2.2.2.2.2.2.1 t2.2.2.2.2.2.2
def f_X5_readDie_L58 (N : Nat) (tl : Int32) (tb : Nat → Int32) (r30 : Int32 → Int32 → Int32 → Int32 → Int32 → Int32 → (Nat → Int32) → (Nat → Int32) → Int32 → Int32 → Int32 → Int32 → Option (Int32 × Int32 × Int32 × (Nat → Int32) × (Nat → Int32) × Int32 × Int32 × Int32 × Int32)) (l1 : Int32) (l2 : Int32) (l3 : Int32) (ec : Int32) (eo : Int32) (dc : Int32) (fc : Nat → Int32) (dw : Nat → Int32) (kd : Int32) (ts : Int32) (te : Int32) (tv : Int32) : Option (Int32 × Int32 × Int32 × (Nat → Int32) × (Nat → Int32) × Int32 × Int32 × Int32 × Int32) :=
  if l2 < 12 then
    f_X5_readDie_L79 N tl tb r30 l1 l2 l3 ec eo dc fc dw kd ts te tv
  else
    (f_X5_isNumberIn kd tv 0 9).bind fun t2 =>
    if t2 = 0 then
      f_X5_readDie_L79 N tl tb r30 l1 l2 l3 ec eo dc fc dw kd ts te tv
    else
      (f_X5_fail ts ec eo 5).bind fun t3 =>
      f_X5_readDie_L79 N tl tb r30 l1 l2 l3 t3.1 t3.2 dc fc dw kd ts te tv
def f_X5_readDie_L30_F (N : Nat) (tl : Int32) (tb : Nat → Int32)  (r30 : Int32 → Int32 → Int32 → Int32 → Int32 → Int32 → (Nat → Int32) → (Nat → Int32) → Int32 → Int32 → Int32 → Int32 → Option (Int32 × Int32 × Int32 × (Nat → Int32) × (Nat → Int32) × Int32 × Int32 × Int32 × Int32)) (l1 : Int32) (l2 : Int32) (l3 : Int32) (ec : Int32) (eo : Int32) (dc : Int32) (fc : Nat → Int32) (dw : Nat → Int32) (kd : Int32) (ts : Int32) (te : Int32) (tv : Int32) : Option (Int32 × Int32 × Int32 × (Nat → Int32) × (Nat → Int32) × Int32 × Int32 × Int32 × Int32) :=
  if 12 < l2 then
    f_X5_readDie_L120 N tl tb l2 l3 ec eo dc fc dw kd ts te tv
  else
    if ec = 0 then
      if l2 < 2 then
        f_X5_readDie_L58 N tl tb r30 l1 l2 l3 ec eo dc fc dw kd ts te tv
      else
        (f_X9_isSemicolon tl tb kd ts).bind fun t2 =>
        if t2 = 0 then
          f_X5_readDie_L58 N tl tb r30 l1 l2 l3 ec eo dc fc dw kd ts te tv
        else
          f_X5_readDie_L120 N tl tb l2 l3 ec eo dc fc dw kd ts te tv
    else
      f_X5_readDie_L120 N tl tb l2 l3 ec eo dc fc dw kd ts te tv
def f_X5_readDie_L30 (N : Nat) (tl : Int32) (tb : Nat → Int32)  : Nat → Int32 → Int32 → Int32 → Int32 → Int32 → Int32 → (Nat → Int32) → (Nat → Int32) → Int32 → Int32 → Int32 → Int32 → Option (Int32 × Int32 × Int32 × (Nat → Int32) × (Nat → Int32) × Int32 × Int32 × Int32 × Int32)
  | 0 => fun _ _ _ _ _ _ _ _ _ _ _ _ => none
  | j + 1 => f_X5_readDie_L30_F N tl tb (f_X5_readDie_L30 N tl tb j)
def f_X5_readDie_L23 (N : Nat) (tl : Int32) (tb : Nat → Int32)  (l1 : Int32) (s0 : Int32) (ec : Int32) (eo : Int32) (dc : Int32) (fc : Nat → Int32) (dw : Nat → Int32) (kd : Int32) (ts : Int32) (te : Int32) (tv : Int32) : Option (Int32 × Int32 × Int32 × (Nat → Int32) × (Nat → Int32) × Int32 × Int32 × Int32 × Int32) :=
  (f_X5_takeKeyword N tl tb ec eo kd ts te tv s0).bind fun t1 =>
  f_X5_readDie_L30 N tl tb N l1 0 0 t1.1 t1.2.1 dc fc dw t1.2.2.1 t1.2.2.2.1 t1.2.2.2.2.1 t1.2.2.2.2.2
def f_X5_readDie (N : Nat) (tl : Int32) (tb : Nat → Int32) (ec : Int32) (eo : Int32) (dc : Int32) (fc : Nat → Int32) (dw : Nat → Int32) (kd : Int32) (ts : Int32) (te : Int32) (tv : Int32) : Option (Int32 × Int32 × Int32 × (Nat → Int32) × (Nat → Int32) × Int32 × Int32 × Int32 × Int32) :=
  if dc < 6 then
    f_X5_readDie_L23 N tl tb dc 0 ec eo dc fc dw kd ts te tv
  else
    f_X5_readDie_L23 N tl tb dc 5 ec eo dc fc dw kd ts te tv
def f_X5_takeNewName (N : Nat) (tl : Int32) (tb : Nat → Int32) (pc : Int32) (ln : Nat → Int32) (lt : Nat → Int32) (ec : Int32) (eo : Int32) (kd : Int32) (ts : Int32) (te : Int32) (tv : Int32) : Option (Int32 × Int32 × Int32 × Int32 × Int32 × Int32) :=
  if kd = 1 then
    if (te - ts) ≤ 4 then
      (f_X7_find N pc ln lt tl tb ts te).bind fun t1 =>
      if t1 = (-1) then
        (f_X9_advance N tl tb kd ts te tv).bind fun t2 =>
        some (ec, eo, t2.1, t2.2.1, t2.2.2.1, t2.2.2.2)
      else
        (f_X5_fail ts ec eo 3).bind fun t3 =>
        some (t3.1, t3.2, kd, ts, te, tv)
    else
      (f_X5_fail ts ec eo 2).bind fun t4 =>
      some (t4.1, t4.2, kd, ts, te, tv)
  else
    (f_X5_fail ts ec eo 1).bind fun t5 =>
    some (t5.1, t5.2, kd, ts, te, tv)
def f_X5_readPlayer_L21 (N : Nat) (tl : Int32) (tb : Nat → Int32)  (s0 : Int32) (ec : Int32) (eo : Int32) (pc : Int32) (ln : Nat → Int32) (lt : Nat → Int32) (kd : Int32) (ts : Int32) (te : Int32) (tv : Int32) : Option (Int32 × Int32 × Int32 × (Nat → Int32) × (Nat → Int32) × Int32 × Int32 × Int32 × Int32) :=
  (f_X5_takeKeyword N tl tb ec eo kd ts te tv s0).bind fun t1 =>
  (f_X5_takeNewName N tl tb pc ln lt t1.1 t1.2.1 t1.2.2.1 t1.2.2.2.1 t1.2.2.2.2.1 t1.2.2.2.2.2).bind fun t2 =>
  (f_X5_takeSemicolon N tl tb t2.1 t2.2.1 t2.2.2.1 t2.2.2.2.1 t2.2.2.2.2.1 t2.2.2.2.2.2 0).bind fun t3 =>
  if t3.1 = 0 then
    (f_X7_add N tl tb pc ln lt t1.2.2.2.1 t1.2.2.2.2.1).bind fun t4 =>
    some (t3.1, t3.2.1, t4.1, t4.2.1, t4.2.2, t3.2.2.1, t3.2.2.2.1, t3.2.2.2.2.1, t3.2.2.2.2.2)
  else
    some (t3.1, t3.2.1, pc, ln, lt, t3.2.2.1, t3.2.2.2.1, t3.2.2.2.2.1, t3.2.2.2.2.2)
def f_X5_readPlayer (N : Nat) (tl : Int32) (tb : Nat → Int32) (ec : Int32) (eo : Int32) (pc : Int32) (ln : Nat → Int32) (lt : Nat → Int32) (kd : Int32) (ts : Int32) (te : Int32) (tv : Int32) : Option (Int32 × Int32 × Int32 × (Nat → Int32) × (Nat → Int32) × Int32 × Int32 × Int32 × Int32) :=
  if pc < 6 then
    f_X5_readPlayer_L21 N tl tb 0 ec eo pc ln lt kd ts te tv
  else
    f_X5_readPlayer_L21 N tl tb 5 ec eo pc ln lt kd ts te tv
def f_X5_takeKnownName (N : Nat) (tl : Int32) (tb : Nat → Int32) (pc : Int32) (ln : Nat → Int32) (lt : Nat → Int32) (ec : Int32) (eo : Int32) (kd : Int32) (ts : Int32) (te : Int32) (tv : Int32) : Option (Int32 × Int32 × Int32 × Int32 × Int32 × Int32 × Int32) :=
  if kd = 1 then
    (f_X7_find N pc ln lt tl tb ts te).bind fun t1 =>
    if t1 = (-1) then
      (f_X5_fail ts ec eo 4).bind fun t3 =>
      some ((-1), t3.1, t3.2, kd, ts, te, tv)
    else
      (f_X9_advance N tl tb kd ts te tv).bind fun t2 =>
      some (t1, ec, eo, t2.1, t2.2.1, t2.2.2.1, t2.2.2.2)
  else
    (f_X5_fail ts ec eo 1).bind fun t4 =>
    some ((-1), t4.1, t4.2, kd, ts, te, tv)
def f_X5_readThrow_L63 (N : Nat) (tl : Int32) (tb : Nat → Int32) (dc : Int32) (fc : Nat → Int32) (dw : Nat → Int32) (pc : Int32) (ln : Nat → Int32) (lt : Nat → Int32)  (l1 : Int32) (l2 : Int32) (l3 : Int32) (s0 : Int32) (ec : Int32) (eo : Int32) (sd : Int32) (tc : Int32) (en : Nat → Int32) (fr : Nat → Int32) (kd : Int32) (ts : Int32) (te : Int32) (tv : Int32) : Option (Int32 × Int32 × Int32 × Int32 × (Nat → Int32) × (Nat → Int32) × Int32 × Int32 × Int32 × Int32) :=
  (f_X5_takeSemicolon N tl tb ec eo kd ts te tv s0).bind fun t5 =>
  if t5.1 = 0 then
    (f_X10_pairOf l1 l2).bind fun t6 =>
    (f_X2_makeThrows N fc dw sd tc en fr t6 l3 0).bind fun t7 =>
    some (t5.1, t5.2.1, t7.2.1, t7.2.2.1, t7.2.2.2.1, t7.2.2.2.2, t5.2.2.1, t5.2.2.2.1, t5.2.2.2.2.1, t5.2.2.2.2.2)
  else
    some (t5.1, t5.2.1, sd, tc, en, fr, t5.2.2.1, t5.2.2.2.1, t5.2.2.2.2.1, t5.2.2.2.2.2)
def f_X5_readThrow (N : Nat) (tl : Int32) (tb : Nat → Int32) (dc : Int32) (fc : Nat → Int32) (dw : Nat → Int32) (pc : Int32) (ln : Nat → Int32) (lt : Nat → Int32) (ec : Int32) (eo : Int32) (sd : Int32) (tc : Int32) (en : Nat → Int32) (fr : Nat → Int32) (kd : Int32) (ts : Int32) (te : Int32) (tv : Int32) : Option (Int32 × Int32 × Int32 × Int32 × (Nat → Int32) × (Nat → Int32) × Int32 × Int32 × Int32 × Int32) :=
  (f_X9_advance N tl tb kd ts te tv).bind fun t1 =>
  (f_X5_takeKnownName N tl tb pc ln lt ec eo t1.1 t1.2.1 t1.2.2.1 t1.2.2.2).bind fun t2 =>
  (f_X5_takeNumber N tl tb t2.2.1 t2.2.2.1 t2.2.2.2.1 t2.2.2.2.2.1 t2.2.2.2.2.2.1 t2.2.2.2.2.2.2 0 (dc - 1)).bind fun t3 =>
  (f_X5_takeNumber N tl tb t3.2.1 t3.2.2.1 t3.2.2.2.1 t3.2.2.2.2.1 t3.2.2.2.2.2.1 t3.2.2.2.2.2.2 1 50).bind fun t4 =>
  if (tc + t4.1) ≤ 300 then
    f_X5_readThrow_L63 N tl tb dc fc dw pc ln lt t2.1 t3.1 t4.1 0 t4.2.1 t4.2.2.1 sd tc en fr t4.2.2.2.1 t4.2.2.2.2.1 t4.2.2.2.2.2.1 t4.2.2.2.2.2.2
  else
    f_X5_readThrow_L63 N tl tb dc fc dw pc ln lt t2.1 t3.1 t4.1 6 t4.2.1 t4.2.2.1 sd tc en fr t4.2.2.2.1 t4.2.2.2.2.1 t4.2.2.2.2.2.1 t4.2.2.2.2.2.2
def f_X5_readAudit (N : Nat) (tl : Int32) (tb : Nat → Int32) (mn : Int32) (th : Int32) (fc : Nat → Int32) (fr : Nat → Int32) (ec : Int32) (eo : Int32) (oc : Int32) (op : Nat → Int32) (os : Nat → Int32) (kd : Int32) (ts : Int32) (te : Int32) (tv : Int32) : Option (Int32 × Int32 × Int32 × (Nat → Int32) × (Nat → Int32) × Int32 × Int32 × Int32 × Int32) :=
  (f_X9_advance N tl tb kd ts te tv).bind fun t1 =>
  (f_X5_takeSemicolon N tl tb ec eo t1.1 t1.2.1 t1.2.2.1 t1.2.2.2 0).bind fun t2 =>
  if t2.1 = 0 then
    (f_X2_holdAudit N mn th fc fr oc op os).bind fun t3 =>
    some (t2.1, t2.2.1, t3.2.1, t3.2.2.1, t3.2.2.2, t2.2.2.1, t2.2.2.2.1, t2.2.2.2.2.1, t2.2.2.2.2.2)
  else
    some (t2.1, t2.2.1, oc, op, os, t2.2.2.1, t2.2.2.2.1, t2.2.2.2.2.1, t2.2.2.2.2.2)
def f_X5_readAbsolve_L27 (N : Nat) (tl : Int32) (tb : Nat → Int32) (fc : Nat → Int32) (dw : Nat → Int32)  (s0 : Int32) (ec : Int32) (eo : Int32) (sd : Int32) (tc : Int32) (en : Nat → Int32) (fr : Nat → Int32) (oc : Int32) (op : Nat → Int32) (os : Nat → Int32) (kd : Int32) (ts : Int32) (te : Int32) (tv : Int32) : Option (Int32 × Int32 × Int32 × Int32 × (Nat → Int32) × (Nat → Int32) × Int32 × (Nat → Int32) × (Nat → Int32) × Int32 × Int32 × Int32 × Int32) :=
  (f_X5_takeSemicolon N tl tb ec eo kd ts te tv s0).bind fun t2 =>
  if t2.1 = 0 then
    (f_X2_doPenance N fc dw sd tc en fr oc op os).bind fun t3 =>
    some (t2.1, t2.2.1, t3.2.1, t3.2.2.1, t3.2.2.2.1, t3.2.2.2.2.1, t3.2.2.2.2.2.1, t3.2.2.2.2.2.2.1, t3.2.2.2.2.2.2.2, t2.2.2.1, t2.2.2.2.1, t2.2.2.2.2.1, t2.2.2.2.2.2)
  else
    some (t2.1, t2.2.1, sd, tc, en, fr, oc, op, os, t2.2.2.1, t2.2.2.2.1, t2.2.2.2.2.1, t2.2.2.2.2.2)
def f_X5_readAbsolve (N : Nat) (tl : Int32) (tb : Nat → Int32) (fc : Nat → Int32) (dw : Nat → Int32) (ec : Int32) (eo : Int32) (sd : Int32) (tc : Int32) (en : Nat → Int32) (fr : Nat → Int32) (oc : Int32) (op : Nat → Int32) (os : Nat → Int32) (kd : Int32) (ts : Int32) (te : Int32) (tv : Int32) : Option (Int32 × Int32 × Int32 × Int32 × (Nat → Int32) × (Nat → Int32) × Int32 × (Nat → Int32) × (Nat → Int32) × Int32 × Int32 × Int32 × Int32) :=
  (f_X9_advance N tl tb kd ts te tv).bind fun t1 =>
  if oc = 0 then
    f_X5_readAbsolve_L27 N tl tb fc dw 6 ec eo sd tc en fr oc op os t1.1 t1.2.1 t1.2.2.1 t1.2.2.2
  else
    f_X5_readAbsolve_L27 N tl tb fc dw 0 ec eo sd tc en fr oc op os t1.1 t1.2.1 t1.2.2.1 t1.2.2.2
def f_X5_readForgive (N : Nat) (tl : Int32) (tb : Nat → Int32) (pc : Int32) (ln : Nat → Int32) (lt : Nat → Int32) (ec : Int32) (eo : Int32) (oc : Int32) (op : Nat → Int32) (os : Nat → Int32) (kd : Int32) (ts : Int32) (te : Int32) (tv : Int32) : Option (Int32 × Int32 × Int32 × (Nat → Int32) × (Nat → Int32) × Int32 × Int32 × Int32 × Int32) :=
  (f_X9_advance N tl tb kd ts te tv).bind fun t1 =>
  (f_X5_takeKnownName N tl tb pc ln lt ec eo t1.1 t1.2.1 t1.2.2.1 t1.2.2.2).bind fun t2 =>
  (f_X5_takeSemicolon N tl tb t2.2.1 t2.2.2.1 t2.2.2.2.1 t2.2.2.2.2.1 t2.2.2.2.2.2.1 t2.2.2.2.2.2.2 0).bind fun t3 =>
  if t3.1 = 0 then
    (f_X6_removeAllOf N oc op os t2.1).bind fun t4 =>
    some (t3.1, t3.2.1, t4.2.1, t4.2.2.1, t4.2.2.2, t3.2.2.1, t3.2.2.2.1, t3.2.2.2.2.1, t3.2.2.2.2.2)
  else
    some (t3.1, t3.2.1, oc, op, os, t3.2.2.1, t3.2.2.2.1, t3.2.2.2.2.1, t3.2.2.2.2.2)
def f_X5_readStatement (N : Nat) (tl : Int32) (tb : Nat → Int32) (mn : Int32) (th : Int32) (ec : Int32) (eo : Int32) (sd : Int32) (dc : Int32) (fc : Nat → Int32) (dw : Nat → Int32) (pc : Int32) (ln : Nat → Int32) (lt : Nat → Int32) (tc : Int32) (en : Nat → Int32) (fr : Nat → Int32) (oc : Int32) (op : Nat → Int32) (os : Nat → Int32) (kd : Int32) (ts : Int32) (te : Int32) (tv : Int32) : Option (Int32 × Int32 × Int32 × Int32 × (Nat → Int32) × (Nat → Int32) × Int32 × (Nat → Int32) × (Nat → Int32) × Int32 × (Nat → Int32) × (Nat → Int32) × Int32 × (Nat → Int32) × (Nat → Int32) × Int32 × Int32 × Int32 × Int32) :=
  (f_X9_isWord N tl tb kd ts te 2).bind fun t1 =>
  if t1 = 0 then
    (f_X9_isWord N tl tb kd ts te 3).bind fun t2 =>
    if t2 = 0 then
      (f_X9_isWord N tl tb kd ts te 4).bind fun t3 =>
      if t3 = 0 then
        (f_X9_isWord N tl tb kd ts te 5).bind fun t4 =>
        if t4 = 0 then
          (f_X9_isWord N tl tb kd ts te 6).bind fun t5 =>
          if t5 = 0 then
            (f_X9_isWord N tl tb kd ts te 7).bind fun t6 =>
            if t6 = 0 then
              (f_X5_fail ts ec eo 1).bind fun t7 =>
              some (t7.1, t7.2, sd, dc, fc, dw, pc, ln, lt, tc, en, fr, oc, op, os, kd, ts, te, tv)
            else
              (f_X5_readForgive N tl tb pc ln lt ec eo oc op os kd ts te tv).bind fun t8 =>
              some (t8.1, t8.2.1, sd, dc, fc, dw, pc, ln, lt, tc, en, fr, t8.2.2.1, t8.2.2.2.1, t8.2.2.2.2.1, t8.2.2.2.2.2.1, t8.2.2.2.2.2.2.1, t8.2.2.2.2.2.2.2.1, t8.2.2.2.2.2.2.2.2)
          else
            (f_X5_readAbsolve N tl tb fc dw ec eo sd tc en fr oc op os kd ts te tv).bind fun t9 =>
            some (t9.1, t9.2.1, t9.2.2.1, dc, fc, dw, pc, ln, lt, t9.2.2.2.1, t9.2.2.2.2.1, t9.2.2.2.2.2.1, t9.2.2.2.2.2.2.1, t9.2.2.2.2.2.2.2.1, t9.2.2.2.2.2.2.2.2.1, t9.2.2.2.2.2.2.2.2.2.1, t9.2.2.2.2.2.2.2.2.2.2.1, t9.2.2.2.2.2.2.2.2.2.2.2.1, t9.2.2.2.2.2.2.2.2.2.2.2.2)
        else
          (f_X5_readAudit N tl tb mn th fc fr ec eo oc op os kd ts te tv).bind fun t10 =>
          some (t10.1, t10.2.1, sd, dc, fc, dw, pc, ln, lt, tc, en, fr, t10.2.2.1, t10.2.2.2.1, t10.2.2.2.2.1, t10.2.2.2.2.2.1, t10.2.2.2.2.2.2.1, t10.2.2.2.2.2.2.2.1, t10.2.2.2.2.2.2.2.2)
      else
        (f_X5_readThrow N tl tb dc fc dw pc ln lt ec eo sd tc en fr kd ts te tv).bind fun t11 =>
        some (t11.1, t11.2.1, t11.2.2.1, dc, fc, dw, pc, ln, lt, t11.2.2.2.1, t11.2.2.2.2.1, t11.2.2.2.2.2.1, oc, op, os, t11.2.2.2.2.2.2.1, t11.2.2.2.2.2.2.2.1, t11.2.2.2.2.2.2.2.2.1, t11.2.2.2.2.2.2.2.2.2)
    else
      (f_X5_readPlayer N tl tb ec eo pc ln lt kd ts te tv).bind fun t12 =>
      some (t12.1, t12.2.1, sd, dc, fc, dw, t12.2.2.1, t12.2.2.2.1, t12.2.2.2.2.1, tc, en, fr, oc, op, os, t12.2.2.2.2.2.1, t12.2.2.2.2.2.2.1, t12.2.2.2.2.2.2.2.1, t12.2.2.2.2.2.2.2.2)
  else
    (f_X5_readDie N tl tb ec eo dc fc dw kd ts te tv).bind fun t13 =>
    some (t13.1, t13.2.1, sd, t13.2.2.1, t13.2.2.2.1, t13.2.2.2.2.1, pc, ln, lt, tc, en, fr, oc, op, os, t13.2.2.2.2.2.1, t13.2.2.2.2.2.2.1, t13.2.2.2.2.2.2.2.1, t13.2.2.2.2.2.2.2.2)
def f_X5_parse_L47 (N : Nat) (tl : Int32) (tb : Nat → Int32)  (ec : Int32) (eo : Int32) (sd : Int32) (mn : Int32) (th : Int32) (dc : Int32) (fc : Nat → Int32) (dw : Nat → Int32) (pc : Int32) (ln : Nat → Int32) (lt : Nat → Int32) (tc : Int32) (en : Nat → Int32) (fr : Nat → Int32) (oc : Int32) (op : Nat → Int32) (os : Nat → Int32) (kd : Int32) (ts : Int32) (te : Int32) (tv : Int32) : Option (Int32 × Int32 × Int32 × Int32 × Int32 × Int32 × Int32 × (Nat → Int32) × (Nat → Int32) × Int32 × (Nat → Int32) × (Nat → Int32) × Int32 × (Nat → Int32) × (Nat → Int32) × Int32 × (Nat → Int32) × (Nat → Int32) × Int32 × Int32 × Int32 × Int32) :=
  if ec = 0 then
    some (1, ec, eo, sd, mn, th, dc, fc, dw, pc, ln, lt, tc, en, fr, oc, op, os, kd, ts, te, tv)
  else
    some (0, ec, eo, sd, mn, th, dc, fc, dw, pc, ln, lt, tc, en, fr, oc, op, os, kd, ts, te, tv)
def f_X5_parse_L23_F (N : Nat) (tl : Int32) (tb : Nat → Int32)  (r23 : Int32 → Int32 → Int32 → Int32 → Int32 → Int32 → Int32 → (Nat → Int32) → (Nat → Int32) → Int32 → (Nat → Int32) → (Nat → Int32) → Int32 → (Nat → Int32) → (Nat → Int32) → Int32 → (Nat → Int32) → (Nat → Int32) → Int32 → Int32 → Int32 → Int32 → Option (Int32 × Int32 × Int32 × Int32 × Int32 × Int32 × Int32 × (Nat → Int32) × (Nat → Int32) × Int32 × (Nat → Int32) × (Nat → Int32) × Int32 × (Nat → Int32) × (Nat → Int32) × Int32 × (Nat → Int32) × (Nat → Int32) × Int32 × Int32 × Int32 × Int32)) (l1 : Int32) (ec : Int32) (eo : Int32) (sd : Int32) (mn : Int32) (th : Int32) (dc : Int32) (fc : Nat → Int32) (dw : Nat → Int32) (pc : Int32) (ln : Nat → Int32) (lt : Nat → Int32) (tc : Int32) (en : Nat → Int32) (fr : Nat → Int32) (oc : Int32) (op : Nat → Int32) (os : Nat → Int32) (kd : Int32) (ts : Int32) (te : Int32) (tv : Int32) : Option (Int32 × Int32 × Int32 × Int32 × Int32 × Int32 × Int32 × (Nat → Int32) × (Nat → Int32) × Int32 × (Nat → Int32) × (Nat → Int32) × Int32 × (Nat → Int32) × (Nat → Int32) × Int32 × (Nat → Int32) × (Nat → Int32) × Int32 × Int32 × Int32 × Int32) :=
  if 600 ≤ l1 then
    f_X5_parse_L47 N tl tb ec eo sd mn th dc fc dw pc ln lt tc en fr oc op os kd ts te tv
  else
    (f_X5_hasMore ec kd).bind fun t3 =>
    if t3 = 0 then
      f_X5_parse_L47 N tl tb ec eo sd mn th dc fc dw pc ln lt tc en fr oc op os kd ts te tv
    else
      (f_X5_readStatement N tl tb mn th ec eo sd dc fc dw pc ln lt tc en fr oc op os kd ts te tv).bind fun t4 =>
      r23 (l1 + 1) t4.1 t4.2.1 t4.2.2.1 mn th t4.2.2.2.1 t4.2.2.2.2.1 t4.2.2.2.2.2.1 t4.2.2.2.2.2.2.1 t4.2.2.2.2.2.2.2.1 t4.2.2.2.2.2.2.2.2.1 t4.2.2.2.2.2.2.2.2.2.1 t4.2.2.2.2.2.2.2.2.2.2.1 t4.2.2.2.2.2.2.2.2.2.2.2.1 t4.2.2.2.2.2.2.2.2.2.2.2.2.1 t4.2.2.2.2.2.2.2.2.2.2.2.2.2.1 t4.2.2.2.2.2.2.2.2.2.2.2.2.2.2.1 t4.2.2.2.2.2.2.2.2.2.2.2.2.2.2.2.1 t4.2.2.2.2.2.2.2.2.2.2.2.2.2.2.2.2.1 t4.2.2.2.2.2.2.2.2.2.2.2.2.2.2.2.2.2.1 t4.2.2.2.2.2.2.2.2.2.2.2.2.2.2.2.2.2.2
def f_X5_parse_L23 (N : Nat) (tl : Int32) (tb : Nat → Int32)  : Nat → Int32 → Int32 → Int32 → Int32 → Int32 → Int32 → Int32 → (Nat → Int32) → (Nat → Int32) → Int32 → (Nat → Int32) → (Nat → Int32) → Int32 → (Nat → Int32) → (Nat → Int32) → Int32 → (Nat → Int32) → (Nat → Int32) → Int32 → Int32 → Int32 → Int32 → Option (Int32 × Int32 × Int32 × Int32 × Int32 × Int32 × Int32 × (Nat → Int32) × (Nat → Int32) × Int32 × (Nat → Int32) × (Nat → Int32) × Int32 × (Nat → Int32) × (Nat → Int32) × Int32 × (Nat → Int32) × (Nat → Int32) × Int32 × Int32 × Int32 × Int32)
  | 0 => fun _ _ _ _ _ _ _ _ _ _ _ _ _ _ _ _ _ _ _ _ _ _ => none
  | j + 1 => f_X5_parse_L23_F N tl tb (f_X5_parse_L23 N tl tb j)
def f_X5_parse (N : Nat) (tl : Int32) (tb : Nat → Int32) (ec : Int32) (eo : Int32) (sd : Int32) (mn : Int32) (th : Int32) (dc : Int32) (fc : Nat → Int32) (dw : Nat → Int32) (pc : Int32) (ln : Nat → Int32) (lt : Nat → Int32) (tc : Int32) (en : Nat → Int32) (fr : Nat → Int32) (oc : Int32) (op : Nat → Int32) (os : Nat → Int32) (kd : Int32) (ts : Int32) (te : Int32) (tv : Int32) : Option (Int32 × Int32 × Int32 × Int32 × Int32 × Int32 × Int32 × (Nat → Int32) × (Nat → Int32) × Int32 × (Nat → Int32) × (Nat → Int32) × Int32 × (Nat → Int32) × (Nat → Int32) × Int32 × (Nat → Int32) × (Nat → Int32) × Int32 × Int32 × Int32 × Int32) :=
  (f_X9_rewind N tl tb kd ts te tv).bind fun t1 =>
  (f_X5_readHall N tl tb 0 (-1) sd mn th dc pc tc fr oc t1.1 t1.2.1 t1.2.2.1 t1.2.2.2).bind fun t2 =>
  f_X5_parse_L23 N tl tb N 0 t2.1 t2.2.1 t2.2.2.1 t2.2.2.2.1 t2.2.2.2.2.1 t2.2.2.2.2.2.1 fc dw t2.2.2.2.2.2.2.1 ln lt t2.2.2.2.2.2.2.2.1 en t2.2.2.2.2.2.2.2.2.1 t2.2.2.2.2.2.2.2.2.2.1 op os t2.2.2.2.2.2.2.2.2.2.2.1 t2.2.2.2.2.2.2.2.2.2.2.2.1 t2.2.2.2.2.2.2.2.2.2.2.2.2.1 t2.2.2.2.2.2.2.2.2.2.2.2.2.2
def f_X10_appendInput (N : Nat)  (itl : Int32) (itb : Nat → Int32) (a0 : Int32) (a1 : Int32) (a2 : Int32) (a3 : Int32) (a4 : Int32) : Option (String ⊕ (Int32 × Int32 × (Nat → Int32))) :=
  if (itl + 20) ≤ 600 then
    (f_X8_appendWord N itl itb a0).bind fun t1 =>
    (f_X8_appendWord N t1.1 t1.2 a1).bind fun t2 =>
    (f_X8_appendWord N t2.1 t2.2 a2).bind fun t3 =>
    (f_X8_appendWord N t3.1 t3.2 a3).bind fun t4 =>
    (f_X8_appendWord N t4.1 t4.2 a4).bind fun t5 =>
    some (.inr (t5.1, t5.1, t5.2))
  else
    some (.inl "java/lang/IllegalStateException")
def f_X10_truncateInput  (itl : Int32) (a0 : Int32) : Option (String ⊕ (Int32 × Int32)) :=
  sbd (f_X10_requireRange a0 0 itl) fun t1 =>
  (f_X8_cutTo itl a0).bind fun t2 =>
  some (.inr (t2, t2))
def f_X10_load (N : Nat) (itb : Nat → Int32) (sd : Int32) (mn : Int32) (th : Int32) (dc : Int32) (fc : Nat → Int32) (dw : Nat → Int32) (pc : Int32) (ln : Nat → Int32) (lt : Nat → Int32) (tc : Int32) (en : Nat → Int32) (fr : Nat → Int32) (oc : Int32) (op : Nat → Int32) (os : Nat → Int32) (nx : Int32) (dp : Int32) (itl : Int32) (ec : Int32) (eo : Int32) (d_sd : Int32) (d_mn : Int32) (d_th : Int32) (d_dc : Int32) (d_fc : Nat → Int32) (d_dw : Nat → Int32) (d_pc : Int32) (d_ln : Nat → Int32) (d_lt : Nat → Int32) (d_tc : Int32) (d_en : Nat → Int32) (d_fr : Nat → Int32) (d_oc : Int32) (d_op : Nat → Int32) (d_os : Nat → Int32) (kd : Int32) (ts : Int32) (te : Int32) (tv : Int32) (v_sd : Int32) (v_mn : Int32) (v_th : Int32) (v_dc : Int32) (v_fc : Nat → Int32) (v_dw : Nat → Int32) (v_pc : Int32) (v_ln : Nat → Int32) (v_lt : Nat → Int32) (v_tc : Int32) (v_en : Nat → Int32) (v_fr : Nat → Int32) (v_oc : Int32) (v_op : Nat → Int32) (v_os : Nat → Int32) : Option ((String × (Int32 × Int32 × Int32 × Int32 × (Nat → Int32) × (Nat → Int32) × Int32 × (Nat → Int32) × (Nat → Int32) × Int32 × (Nat → Int32) × (Nat → Int32) × Int32 × (Nat → Int32) × (Nat → Int32) × Int32 × Int32 × Int32 × Int32 × Int32 × Int32 × Int32 × Int32 × Int32 × (Nat → Int32) × (Nat → Int32) × Int32 × (Nat → Int32) × (Nat → Int32) × Int32 × (Nat → Int32) × (Nat → Int32) × Int32 × (Nat → Int32) × (Nat → Int32) × Int32 × Int32 × Int32 × Int32 × Int32 × Int32 × Int32 × Int32 × (Nat → Int32) × (Nat → Int32) × Int32 × (Nat → Int32) × (Nat → Int32) × Int32 × (Nat → Int32) × (Nat → Int32) × Int32 × (Nat → Int32) × (Nat → Int32))) ⊕ (Int32 × Int32 × Int32 × Int32 × Int32 × (Nat → Int32) × (Nat → Int32) × Int32 × (Nat → Int32) × (Nat → Int32) × Int32 × (Nat → Int32) × (Nat → Int32) × Int32 × (Nat → Int32) × (Nat → Int32) × Int32 × Int32 × Int32 × Int32 × Int32 × Int32 × Int32 × Int32 × Int32 × (Nat → Int32) × (Nat → Int32) × Int32 × (Nat → Int32) × (Nat → Int32) × Int32 × (Nat → Int32) × (Nat → Int32) × Int32 × (Nat → Int32) × (Nat → Int32) × Int32 × Int32 × Int32 × Int32 × Int32 × Int32 × Int32 × Int32 × (Nat → Int32) × (Nat → Int32) × Int32 × (Nat → Int32) × (Nat → Int32) × Int32 × (Nat → Int32) × (Nat → Int32) × Int32 × (Nat → Int32) × (Nat → Int32))) :=
  (f_X5_parse N itl itb ec eo d_sd d_mn d_th d_dc d_fc d_dw d_pc d_ln d_lt d_tc d_en d_fr d_oc d_op d_os kd ts te tv).bind fun t1 =>
  (f_X8_cutTo itl 0).bind fun t2 =>
  if t1.1 = 0 then
    some (.inl ("java/lang/IllegalArgumentException", (sd, mn, th, dc, fc, dw, pc, ln, lt, tc, en, fr, oc, op, os, nx, dp, t2, t1.2.1, t1.2.2.1, t1.2.2.2.1, t1.2.2.2.2.1, t1.2.2.2.2.2.1, t1.2.2.2.2.2.2.1, t1.2.2.2.2.2.2.2.1, t1.2.2.2.2.2.2.2.2.1, t1.2.2.2.2.2.2.2.2.2.1, t1.2.2.2.2.2.2.2.2.2.2.1, t1.2.2.2.2.2.2.2.2.2.2.2.1, t1.2.2.2.2.2.2.2.2.2.2.2.2.1, t1.2.2.2.2.2.2.2.2.2.2.2.2.2.1, t1.2.2.2.2.2.2.2.2.2.2.2.2.2.2.1, t1.2.2.2.2.2.2.2.2.2.2.2.2.2.2.2.1, t1.2.2.2.2.2.2.2.2.2.2.2.2.2.2.2.2.1, t1.2.2.2.2.2.2.2.2.2.2.2.2.2.2.2.2.2.1, t1.2.2.2.2.2.2.2.2.2.2.2.2.2.2.2.2.2.2.1, t1.2.2.2.2.2.2.2.2.2.2.2.2.2.2.2.2.2.2.2.1, t1.2.2.2.2.2.2.2.2.2.2.2.2.2.2.2.2.2.2.2.2.1, t1.2.2.2.2.2.2.2.2.2.2.2.2.2.2.2.2.2.2.2.2.2, v_sd, v_mn, v_th, v_dc, v_fc, v_dw, v_pc, v_ln, v_lt, v_tc, v_en, v_fr, v_oc, v_op, v_os)))
  else
    (f_X3_remember sd mn th dc fc dw pc ln lt tc en fr oc op os nx dp v_sd v_mn v_th v_dc v_fc v_dw v_pc v_ln v_lt v_tc v_en v_fr v_oc v_op v_os).bind fun t3 =>
    (f_X2_copyFrom t1.2.2.2.1 t1.2.2.2.2.1 t1.2.2.2.2.2.1 t1.2.2.2.2.2.2.1 t1.2.2.2.2.2.2.2.1 t1.2.2.2.2.2.2.2.2.1 t1.2.2.2.2.2.2.2.2.2.1 t1.2.2.2.2.2.2.2.2.2.2.1 t1.2.2.2.2.2.2.2.2.2.2.2.1 t1.2.2.2.2.2.2.2.2.2.2.2.2.1 t1.2.2.2.2.2.2.2.2.2.2.2.2.2.1 t1.2.2.2.2.2.2.2.2.2.2.2.2.2.2.1 t1.2.2.2.2.2.2.2.2.2.2.2.2.2.2.2.1 t1.2.2.2.2.2.2.2.2.2.2.2.2.2.2.2.2.1 t1.2.2.2.2.2.2.2.2.2.2.2.2.2.2.2.2.2.1 sd mn th dc fc dw pc ln lt tc en fr oc op os).bind fun t4 =>
    some (.inr (t4.2.2.2.2.2.2.2.2.2.1, t4.1, t4.2.1, t4.2.2.1, t4.2.2.2.1, t4.2.2.2.2.1, t4.2.2.2.2.2.1, t4.2.2.2.2.2.2.1, t4.2.2.2.2.2.2.2.1, t4.2.2.2.2.2.2.2.2.1, t4.2.2.2.2.2.2.2.2.2.1, t4.2.2.2.2.2.2.2.2.2.2.1, t4.2.2.2.2.2.2.2.2.2.2.2.1, t4.2.2.2.2.2.2.2.2.2.2.2.2.1, t4.2.2.2.2.2.2.2.2.2.2.2.2.2.1, t4.2.2.2.2.2.2.2.2.2.2.2.2.2.2, t3.1, t3.2.1, t2, t1.2.1, t1.2.2.1, t1.2.2.2.1, t1.2.2.2.2.1, t1.2.2.2.2.2.1, t1.2.2.2.2.2.2.1, t1.2.2.2.2.2.2.2.1, t1.2.2.2.2.2.2.2.2.1, t1.2.2.2.2.2.2.2.2.2.1, t1.2.2.2.2.2.2.2.2.2.2.1, t1.2.2.2.2.2.2.2.2.2.2.2.1, t1.2.2.2.2.2.2.2.2.2.2.2.2.1, t1.2.2.2.2.2.2.2.2.2.2.2.2.2.1, t1.2.2.2.2.2.2.2.2.2.2.2.2.2.2.1, t1.2.2.2.2.2.2.2.2.2.2.2.2.2.2.2.1, t1.2.2.2.2.2.2.2.2.2.2.2.2.2.2.2.2.1, t1.2.2.2.2.2.2.2.2.2.2.2.2.2.2.2.2.2.1, t1.2.2.2.2.2.2.2.2.2.2.2.2.2.2.2.2.2.2.1, t1.2.2.2.2.2.2.2.2.2.2.2.2.2.2.2.2.2.2.2.1, t1.2.2.2.2.2.2.2.2.2.2.2.2.2.2.2.2.2.2.2.2.1, t1.2.2.2.2.2.2.2.2.2.2.2.2.2.2.2.2.2.2.2.2.2, t3.2.2.1, t3.2.2.2.1, t3.2.2.2.2.1, t3.2.2.2.2.2.1, t3.2.2.2.2.2.2.1, t3.2.2.2.2.2.2.2.1, t3.2.2.2.2.2.2.2.2.1, t3.2.2.2.2.2.2.2.2.2.1, t3.2.2.2.2.2.2.2.2.2.2.1, t3.2.2.2.2.2.2.2.2.2.2.2.1, t3.2.2.2.2.2.2.2.2.2.2.2.2.1, t3.2.2.2.2.2.2.2.2.2.2.2.2.2.1, t3.2.2.2.2.2.2.2.2.2.2.2.2.2.2.1, t3.2.2.2.2.2.2.2.2.2.2.2.2.2.2.2.1, t3.2.2.2.2.2.2.2.2.2.2.2.2.2.2.2.2))
def f_X10_errorCode (ec : Int32)  : Option (Int32) :=
  some ec
def f_X10_seed (sd : Int32)  : Option (Int32) :=
  some sd
def f_X10_minimum (mn : Int32)  : Option (Int32) :=
  some mn
def f_X10_threshold (th : Int32)  : Option (Int32) :=
  some th
def f_X10_dieCount (dc : Int32)  : Option (Int32) :=
  some dc
def f_X10_throwCount (tc : Int32)  : Option (Int32) :=
  some tc
def f_X10_requireDie (dc : Int32) (a0 : Int32) : Option (String ⊕ (Unit)) :=
  sbd (f_X10_requireIndex a0 dc) fun t1 =>
  some (.inr ())
def f_X10_faces (dc : Int32) (fc : Nat → Int32) (a0 : Int32) : Option (String ⊕ (Int32)) :=
  sbd (f_X10_requireDie dc a0) fun t1 =>
  (f_X0_faceCount fc a0).bind fun t2 =>
  some (.inr t2)
def f_X10_requireFace (fc : Nat → Int32) (a0 : Int32) (a1 : Int32) : Option (String ⊕ (Unit)) :=
  (f_X0_faceCount fc a0).bind fun t1 =>
  sbd (f_X10_requireRange a1 1 t1) fun t2 =>
  some (.inr ())
def f_X10_weightOf (dc : Int32) (fc : Nat → Int32) (dw : Nat → Int32) (a0 : Int32) (a1 : Int32) : Option (String ⊕ (Int32)) :=
  sbd (f_X10_requireDie dc a0) fun t1 =>
  sbd (f_X10_requireFace fc a0 a1) fun t2 =>
  (f_X0_weight dw a0 a1).bind fun t3 =>
  some (.inr t3)
def f_X10_requireThrow (tc : Int32) (a0 : Int32) : Option (String ⊕ (Unit)) :=
  sbd (f_X10_requireIndex a0 tc) fun t1 =>
  some (.inr ())
def f_X10_playerAt (tc : Int32) (en : Nat → Int32) (a0 : Int32) : Option (String ⊕ (Int32)) :=
  sbd (f_X10_requireThrow tc a0) fun t1 =>
  (f_X4_pairIn en a0).bind fun t2 =>
  (f_X10_playerOf t2).bind fun t3 =>
  some (.inr t3)
def f_X10_dieAt (tc : Int32) (en : Nat → Int32) (a0 : Int32) : Option (String ⊕ (Int32)) :=
  sbd (f_X10_requireThrow tc a0) fun t1 =>
  (f_X4_pairIn en a0).bind fun t2 =>
  (f_X10_dieOf t2).bind fun t3 =>
  some (.inr t3)
def f_X10_faceAt (tc : Int32) (en : Nat → Int32) (a0 : Int32) : Option (String ⊕ (Int32)) :=
  sbd (f_X10_requireThrow tc a0) fun t1 =>
  (f_X4_faceIn en a0).bind fun t2 =>
  some (.inr t2)
def f_X10_isFairAt (tc : Int32) (en : Nat → Int32) (a0 : Int32) : Option (String ⊕ (Int32)) :=
  sbd (f_X10_requireThrow tc a0) fun t1 =>
  (f_X4_isMarked en a0).bind fun t2 =>
  some (.inr t2)
def f_X10_requirePlayer (pc : Int32) (a0 : Int32) : Option (String ⊕ (Unit)) :=
  sbd (f_X10_requireIndex a0 pc) fun t1 =>
  some (.inr ())
def f_X10_requirePair (dc : Int32) (pc : Int32) (a0 : Int32) (a1 : Int32) : Option (String ⊕ (Unit)) :=
  sbd (f_X10_requirePlayer pc a0) fun t1 =>
  sbd (f_X10_requireDie dc a1) fun t2 =>
  some (.inr ())
def f_X10_throwsOfPair (N : Nat) (dc : Int32) (pc : Int32) (fr : Nat → Int32) (a0 : Int32) (a1 : Int32) : Option (String ⊕ (Int32)) :=
  sbd (f_X10_requirePair dc pc a0 a1) fun t1 =>
  (f_X10_pairOf a0 a1).bind fun t2 =>
  (f_X4_pairThrows N fr t2).bind fun t3 =>
  some (.inr t3)
def f_X10_score (N : Nat) (dc : Int32) (fc : Nat → Int32) (pc : Int32) (fr : Nat → Int32) (a0 : Int32) (a1 : Int32) : Option (String ⊕ (Int32)) :=
  sbd (f_X10_requirePair dc pc a0 a1) fun t1 =>
  (f_X10_pairOf a0 a1).bind fun t2 =>
  (f_X2_pairScore N fc fr t2).bind fun t3 =>
  some (.inr t3)
def f_X10_isSuspicious (N : Nat) (mn : Int32) (th : Int32) (dc : Int32) (fc : Nat → Int32) (pc : Int32) (fr : Nat → Int32) (a0 : Int32) (a1 : Int32) : Option (String ⊕ (Int32)) :=
  sbd (f_X10_requirePair dc pc a0 a1) fun t1 =>
  (f_X10_pairOf a0 a1).bind fun t2 =>
  (f_X2_isPairSuspicious N mn th fc fr t2).bind fun t3 =>
  some (.inr t3)
def f_X10_offenceCount (oc : Int32)  : Option (Int32) :=
  some oc
def f_X10_requireOffence (oc : Int32) (a0 : Int32) : Option (String ⊕ (Unit)) :=
  sbd (f_X10_requireIndex a0 oc) fun t1 =>
  some (.inr ())
def f_X10_offencePlayer (oc : Int32) (op : Nat → Int32) (a0 : Int32) : Option (String ⊕ (Int32)) :=
  sbd (f_X10_requireOffence oc a0) fun t1 =>
  (f_X10_at 36 op a0).bind fun t2 =>
  (f_X10_playerOf t2).bind fun t3 =>
  some (.inr t3)
def f_X10_offenceDie (oc : Int32) (op : Nat → Int32) (a0 : Int32) : Option (String ⊕ (Int32)) :=
  sbd (f_X10_requireOffence oc a0) fun t1 =>
  (f_X10_at 36 op a0).bind fun t2 =>
  (f_X10_dieOf t2).bind fun t3 =>
  some (.inr t3)
def f_X10_offenceScore (oc : Int32) (os : Nat → Int32) (a0 : Int32) : Option (String ⊕ (Int32)) :=
  sbd (f_X10_requireOffence oc a0) fun t1 =>
  (f_X10_at 36 os a0).bind fun t2 =>
  some (.inr t2)
def f_X10_frequencyDifference (N : Nat) (tc : Int32) (fr : Nat → Int32)  : Option (Int32) :=
  (f_X4_frequencySum N fr).bind fun t1 =>
  some (t1 - tc)
def f_X10_totalDifference_L4_F (N : Nat) (pc : Int32) (tc : Int32) (en : Nat → Int32) (fr : Nat → Int32)  (r4 : Int32 → Int32 → Option (Int32)) (l1 : Int32) (l2 : Int32) : Option (Int32) :=
  if pc ≤ l2 then
    (f_X4_faceSum N tc en).bind fun t1 =>
    some (l1 - t1)
  else
    (f_X4_playerTotal N fr l2).bind fun t2 =>
    r4 (l1 + t2) (l2 + 1)
def f_X10_totalDifference_L4 (N : Nat) (pc : Int32) (tc : Int32) (en : Nat → Int32) (fr : Nat → Int32)  : Nat → Int32 → Int32 → Option (Int32)
  | 0 => fun _ _ => none
  | j + 1 => f_X10_totalDifference_L4_F N pc tc en fr (f_X10_totalDifference_L4 N pc tc en fr j)
def f_X10_totalDifference (N : Nat) (pc : Int32) (tc : Int32) (en : Nat → Int32) (fr : Nat → Int32)  : Option (Int32) :=
  f_X10_totalDifference_L4 N pc tc en fr N 0 0
def f_X10_throwDie (N : Nat) (mn : Int32) (th : Int32) (dc : Int32) (fc : Nat → Int32) (dw : Nat → Int32) (pc : Int32) (ln : Nat → Int32) (lt : Nat → Int32) (oc : Int32) (op : Nat → Int32) (os : Nat → Int32) (sd : Int32) (tc : Int32) (en : Nat → Int32) (fr : Nat → Int32) (nx : Int32) (dp : Int32) (v_sd : Int32) (v_mn : Int32) (v_th : Int32) (v_dc : Int32) (v_fc : Nat → Int32) (v_dw : Nat → Int32) (v_pc : Int32) (v_ln : Nat → Int32) (v_lt : Nat → Int32) (v_tc : Int32) (v_en : Nat → Int32) (v_fr : Nat → Int32) (v_oc : Int32) (v_op : Nat → Int32) (v_os : Nat → Int32) (a0 : Int32) (a1 : Int32) (a2 : Int32) : Option (String ⊕ (Int32 × Int32 × Int32 × (Nat → Int32) × (Nat → Int32) × Int32 × Int32 × Int32 × Int32 × Int32 × Int32 × (Nat → Int32) × (Nat → Int32) × Int32 × (Nat → Int32) × (Nat → Int32) × Int32 × (Nat → Int32) × (Nat → Int32) × Int32 × (Nat → Int32) × (Nat → Int32))) :=
  sbd (f_X10_requirePair dc pc a0 a1) fun t1 =>
  sbd (f_X10_requireRange a2 1 50) fun t2 =>
  if (tc + a2) ≤ 300 then
    (f_X3_remember sd mn th dc fc dw pc ln lt tc en fr oc op os nx dp v_sd v_mn v_th v_dc v_fc v_dw v_pc v_ln v_lt v_tc v_en v_fr v_oc v_op v_os).bind fun t3 =>
    (f_X10_pairOf a0 a1).bind fun t4 =>
    (f_X2_makeThrows N fc dw sd tc en fr t4 a2 0).bind fun t5 =>
    some (.inr (t5.1, t5.2.1, t5.2.2.1, t5.2.2.2.1, t5.2.2.2.2, t3.1, t3.2.1, t3.2.2.1, t3.2.2.2.1, t3.2.2.2.2.1, t3.2.2.2.2.2.1, t3.2.2.2.2.2.2.1, t3.2.2.2.2.2.2.2.1, t3.2.2.2.2.2.2.2.2.1, t3.2.2.2.2.2.2.2.2.2.1, t3.2.2.2.2.2.2.2.2.2.2.1, t3.2.2.2.2.2.2.2.2.2.2.2.1, t3.2.2.2.2.2.2.2.2.2.2.2.2.1, t3.2.2.2.2.2.2.2.2.2.2.2.2.2.1, t3.2.2.2.2.2.2.2.2.2.2.2.2.2.2.1, t3.2.2.2.2.2.2.2.2.2.2.2.2.2.2.2.1, t3.2.2.2.2.2.2.2.2.2.2.2.2.2.2.2.2))
  else
    some (.inl "java/lang/IllegalStateException")
def f_X10_audit (N : Nat) (sd : Int32) (mn : Int32) (th : Int32) (dc : Int32) (fc : Nat → Int32) (dw : Nat → Int32) (pc : Int32) (ln : Nat → Int32) (lt : Nat → Int32) (tc : Int32) (en : Nat → Int32) (fr : Nat → Int32) (oc : Int32) (op : Nat → Int32) (os : Nat → Int32) (nx : Int32) (dp : Int32) (v_sd : Int32) (v_mn : Int32) (v_th : Int32) (v_dc : Int32) (v_fc : Nat → Int32) (v_dw : Nat → Int32) (v_pc : Int32) (v_ln : Nat → Int32) (v_lt : Nat → Int32) (v_tc : Int32) (v_en : Nat → Int32) (v_fr : Nat → Int32) (v_oc : Int32) (v_op : Nat → Int32) (v_os : Nat → Int32) : Option (Int32 × Int32 × (Nat → Int32) × (Nat → Int32) × Int32 × Int32 × Int32 × Int32 × Int32 × Int32 × (Nat → Int32) × (Nat → Int32) × Int32 × (Nat → Int32) × (Nat → Int32) × Int32 × (Nat → Int32) × (Nat → Int32) × Int32 × (Nat → Int32) × (Nat → Int32)) :=
  (f_X3_remember sd mn th dc fc dw pc ln lt tc en fr oc op os nx dp v_sd v_mn v_th v_dc v_fc v_dw v_pc v_ln v_lt v_tc v_en v_fr v_oc v_op v_os).bind fun t1 =>
  (f_X2_holdAudit N mn th fc fr oc op os).bind fun t2 =>
  some (t2.1, t2.2.1, t2.2.2.1, t2.2.2.2, t1.1, t1.2.1, t1.2.2.1, t1.2.2.2.1, t1.2.2.2.2.1, t1.2.2.2.2.2.1, t1.2.2.2.2.2.2.1, t1.2.2.2.2.2.2.2.1, t1.2.2.2.2.2.2.2.2.1, t1.2.2.2.2.2.2.2.2.2.1, t1.2.2.2.2.2.2.2.2.2.2.1, t1.2.2.2.2.2.2.2.2.2.2.2.1, t1.2.2.2.2.2.2.2.2.2.2.2.2.1, t1.2.2.2.2.2.2.2.2.2.2.2.2.2.1, t1.2.2.2.2.2.2.2.2.2.2.2.2.2.2.1, t1.2.2.2.2.2.2.2.2.2.2.2.2.2.2.2.1, t1.2.2.2.2.2.2.2.2.2.2.2.2.2.2.2.2)
def f_X10_absolve (N : Nat) (mn : Int32) (th : Int32) (dc : Int32) (fc : Nat → Int32) (dw : Nat → Int32) (pc : Int32) (ln : Nat → Int32) (lt : Nat → Int32) (sd : Int32) (tc : Int32) (en : Nat → Int32) (fr : Nat → Int32) (oc : Int32) (op : Nat → Int32) (os : Nat → Int32) (nx : Int32) (dp : Int32) (v_sd : Int32) (v_mn : Int32) (v_th : Int32) (v_dc : Int32) (v_fc : Nat → Int32) (v_dw : Nat → Int32) (v_pc : Int32) (v_ln : Nat → Int32) (v_lt : Nat → Int32) (v_tc : Int32) (v_en : Nat → Int32) (v_fr : Nat → Int32) (v_oc : Int32) (v_op : Nat → Int32) (v_os : Nat → Int32) : Option (String ⊕ (Int32 × Int32 × Int32 × (Nat → Int32) × (Nat → Int32) × Int32 × (Nat → Int32) × (Nat → Int32) × Int32 × Int32 × Int32 × Int32 × Int32 × Int32 × (Nat → Int32) × (Nat → Int32) × Int32 × (Nat → Int32) × (Nat → Int32) × Int32 × (Nat → Int32) × (Nat → Int32) × Int32 × (Nat → Int32) × (Nat → Int32))) :=
  if oc = 0 then
    some (.inl "java/lang/IllegalStateException")
  else
    (f_X3_remember sd mn th dc fc dw pc ln lt tc en fr oc op os nx dp v_sd v_mn v_th v_dc v_fc v_dw v_pc v_ln v_lt v_tc v_en v_fr v_oc v_op v_os).bind fun t1 =>
    (f_X2_doPenance N fc dw sd tc en fr oc op os).bind fun t2 =>
    some (.inr (t2.1, t2.2.1, t2.2.2.1, t2.2.2.2.1, t2.2.2.2.2.1, t2.2.2.2.2.2.1, t2.2.2.2.2.2.2.1, t2.2.2.2.2.2.2.2, t1.1, t1.2.1, t1.2.2.1, t1.2.2.2.1, t1.2.2.2.2.1, t1.2.2.2.2.2.1, t1.2.2.2.2.2.2.1, t1.2.2.2.2.2.2.2.1, t1.2.2.2.2.2.2.2.2.1, t1.2.2.2.2.2.2.2.2.2.1, t1.2.2.2.2.2.2.2.2.2.2.1, t1.2.2.2.2.2.2.2.2.2.2.2.1, t1.2.2.2.2.2.2.2.2.2.2.2.2.1, t1.2.2.2.2.2.2.2.2.2.2.2.2.2.1, t1.2.2.2.2.2.2.2.2.2.2.2.2.2.2.1, t1.2.2.2.2.2.2.2.2.2.2.2.2.2.2.2.1, t1.2.2.2.2.2.2.2.2.2.2.2.2.2.2.2.2))
def f_X10_forgive (N : Nat) (sd : Int32) (mn : Int32) (th : Int32) (dc : Int32) (fc : Nat → Int32) (dw : Nat → Int32) (pc : Int32) (ln : Nat → Int32) (lt : Nat → Int32) (tc : Int32) (en : Nat → Int32) (fr : Nat → Int32) (oc : Int32) (op : Nat → Int32) (os : Nat → Int32) (nx : Int32) (dp : Int32) (v_sd : Int32) (v_mn : Int32) (v_th : Int32) (v_dc : Int32) (v_fc : Nat → Int32) (v_dw : Nat → Int32) (v_pc : Int32) (v_ln : Nat → Int32) (v_lt : Nat → Int32) (v_tc : Int32) (v_en : Nat → Int32) (v_fr : Nat → Int32) (v_oc : Int32) (v_op : Nat → Int32) (v_os : Nat → Int32) (a0 : Int32) : Option (String ⊕ (Int32 × Int32 × (Nat → Int32) × (Nat → Int32) × Int32 × Int32 × Int32 × Int32 × Int32 × Int32 × (Nat → Int32) × (Nat → Int32) × Int32 × (Nat → Int32) × (Nat → Int32) × Int32 × (Nat → Int32) × (Nat → Int32) × Int32 × (Nat → Int32) × (Nat → Int32))) :=
  sbd (f_X10_requirePlayer pc a0) fun t1 =>
  (f_X3_remember sd mn th dc fc dw pc ln lt tc en fr oc op os nx dp v_sd v_mn v_th v_dc v_fc v_dw v_pc v_ln v_lt v_tc v_en v_fr v_oc v_op v_os).bind fun t2 =>
  (f_X6_removeAllOf N oc op os a0).bind fun t3 =>
  some (.inr (t3.1, t3.2.1, t3.2.2.1, t3.2.2.2, t2.1, t2.2.1, t2.2.2.1, t2.2.2.2.1, t2.2.2.2.2.1, t2.2.2.2.2.2.1, t2.2.2.2.2.2.2.1, t2.2.2.2.2.2.2.2.1, t2.2.2.2.2.2.2.2.2.1, t2.2.2.2.2.2.2.2.2.2.1, t2.2.2.2.2.2.2.2.2.2.2.1, t2.2.2.2.2.2.2.2.2.2.2.2.1, t2.2.2.2.2.2.2.2.2.2.2.2.2.1, t2.2.2.2.2.2.2.2.2.2.2.2.2.2.1, t2.2.2.2.2.2.2.2.2.2.2.2.2.2.2.1, t2.2.2.2.2.2.2.2.2.2.2.2.2.2.2.2.1, t2.2.2.2.2.2.2.2.2.2.2.2.2.2.2.2.2))
def f_X10_setWeight (N : Nat) (sd : Int32) (mn : Int32) (th : Int32) (dc : Int32) (fc : Nat → Int32) (pc : Int32) (ln : Nat → Int32) (lt : Nat → Int32) (tc : Int32) (en : Nat → Int32) (fr : Nat → Int32) (oc : Int32) (op : Nat → Int32) (os : Nat → Int32) (dw : Nat → Int32) (nx : Int32) (dp : Int32) (v_sd : Int32) (v_mn : Int32) (v_th : Int32) (v_dc : Int32) (v_fc : Nat → Int32) (v_dw : Nat → Int32) (v_pc : Int32) (v_ln : Nat → Int32) (v_lt : Nat → Int32) (v_tc : Int32) (v_en : Nat → Int32) (v_fr : Nat → Int32) (v_oc : Int32) (v_op : Nat → Int32) (v_os : Nat → Int32) (a0 : Int32) (a1 : Int32) (a2 : Int32) : Option (String ⊕ (Int32 × (Nat → Int32) × Int32 × Int32 × Int32 × Int32 × Int32 × Int32 × (Nat → Int32) × (Nat → Int32) × Int32 × (Nat → Int32) × (Nat → Int32) × Int32 × (Nat → Int32) × (Nat → Int32) × Int32 × (Nat → Int32) × (Nat → Int32))) :=
  sbd (f_X10_requireDie dc a0) fun t1 =>
  sbd (f_X10_requireFace fc a0 a1) fun t2 =>
  sbd (f_X10_requireRange a2 0 9) fun t3 =>
  (f_X0_weight dw a0 a1).bind fun t4 =>
  (f_X0_weightSum N fc dw a0).bind fun t5 =>
  if ((t5 - t4) + a2) = 0 then
    some (.inl "java/lang/IllegalStateException")
  else
    (f_X3_remember sd mn th dc fc dw pc ln lt tc en fr oc op os nx dp v_sd v_mn v_th v_dc v_fc v_dw v_pc v_ln v_lt v_tc v_en v_fr v_oc v_op v_os).bind fun t6 =>
    (f_X0_putWeight dw a0 a1 a2).bind fun t7 =>
    some (.inr (t4, t7, t6.1, t6.2.1, t6.2.2.1, t6.2.2.2.1, t6.2.2.2.2.1, t6.2.2.2.2.2.1, t6.2.2.2.2.2.2.1, t6.2.2.2.2.2.2.2.1, t6.2.2.2.2.2.2.2.2.1, t6.2.2.2.2.2.2.2.2.2.1, t6.2.2.2.2.2.2.2.2.2.2.1, t6.2.2.2.2.2.2.2.2.2.2.2.1, t6.2.2.2.2.2.2.2.2.2.2.2.2.1, t6.2.2.2.2.2.2.2.2.2.2.2.2.2.1, t6.2.2.2.2.2.2.2.2.2.2.2.2.2.2.1, t6.2.2.2.2.2.2.2.2.2.2.2.2.2.2.2.1, t6.2.2.2.2.2.2.2.2.2.2.2.2.2.2.2.2))
def f_X10_setSeed (mn : Int32) (th : Int32) (dc : Int32) (fc : Nat → Int32) (dw : Nat → Int32) (pc : Int32) (ln : Nat → Int32) (lt : Nat → Int32) (tc : Int32) (en : Nat → Int32) (fr : Nat → Int32) (oc : Int32) (op : Nat → Int32) (os : Nat → Int32) (sd : Int32) (nx : Int32) (dp : Int32) (v_sd : Int32) (v_mn : Int32) (v_th : Int32) (v_dc : Int32) (v_fc : Nat → Int32) (v_dw : Nat → Int32) (v_pc : Int32) (v_ln : Nat → Int32) (v_lt : Nat → Int32) (v_tc : Int32) (v_en : Nat → Int32) (v_fr : Nat → Int32) (v_oc : Int32) (v_op : Nat → Int32) (v_os : Nat → Int32) (a0 : Int32) : Option (String ⊕ (Int32 × Int32 × Int32 × Int32 × Int32 × Int32 × Int32 × Int32 × (Nat → Int32) × (Nat → Int32) × Int32 × (Nat → Int32) × (Nat → Int32) × Int32 × (Nat → Int32) × (Nat → Int32) × Int32 × (Nat → Int32) × (Nat → Int32))) :=
  sbd (f_X10_requireRange a0 0 65536) fun t1 =>
  (f_X3_remember sd mn th dc fc dw pc ln lt tc en fr oc op os nx dp v_sd v_mn v_th v_dc v_fc v_dw v_pc v_ln v_lt v_tc v_en v_fr v_oc v_op v_os).bind fun t2 =>
  some (.inr (sd, a0, t2.1, t2.2.1, t2.2.2.1, t2.2.2.2.1, t2.2.2.2.2.1, t2.2.2.2.2.2.1, t2.2.2.2.2.2.2.1, t2.2.2.2.2.2.2.2.1, t2.2.2.2.2.2.2.2.2.1, t2.2.2.2.2.2.2.2.2.2.1, t2.2.2.2.2.2.2.2.2.2.2.1, t2.2.2.2.2.2.2.2.2.2.2.2.1, t2.2.2.2.2.2.2.2.2.2.2.2.2.1, t2.2.2.2.2.2.2.2.2.2.2.2.2.2.1, t2.2.2.2.2.2.2.2.2.2.2.2.2.2.2.1, t2.2.2.2.2.2.2.2.2.2.2.2.2.2.2.2.1, t2.2.2.2.2.2.2.2.2.2.2.2.2.2.2.2.2))
def f_X10_setLimits (N : Nat) (sd : Int32) (dc : Int32) (fc : Nat → Int32) (dw : Nat → Int32) (pc : Int32) (ln : Nat → Int32) (lt : Nat → Int32) (tc : Int32) (en : Nat → Int32) (fr : Nat → Int32) (oc : Int32) (op : Nat → Int32) (os : Nat → Int32) (mn : Int32) (th : Int32) (nx : Int32) (dp : Int32) (v_sd : Int32) (v_mn : Int32) (v_th : Int32) (v_dc : Int32) (v_fc : Nat → Int32) (v_dw : Nat → Int32) (v_pc : Int32) (v_ln : Nat → Int32) (v_lt : Nat → Int32) (v_tc : Int32) (v_en : Nat → Int32) (v_fr : Nat → Int32) (v_oc : Int32) (v_op : Nat → Int32) (v_os : Nat → Int32) (a0 : Int32) (a1 : Int32) : Option (String ⊕ (Int32 × Int32 × Int32 × Int32 × Int32 × Int32 × Int32 × Int32 × Int32 × (Nat → Int32) × (Nat → Int32) × Int32 × (Nat → Int32) × (Nat → Int32) × Int32 × (Nat → Int32) × (Nat → Int32) × Int32 × (Nat → Int32) × (Nat → Int32))) :=
  sbd (f_X10_requireRange a0 1 99) fun t1 =>
  sbd (f_X10_requireRange a1 0 999) fun t2 =>
  (f_X3_remember sd mn th dc fc dw pc ln lt tc en fr oc op os nx dp v_sd v_mn v_th v_dc v_fc v_dw v_pc v_ln v_lt v_tc v_en v_fr v_oc v_op v_os).bind fun t3 =>
  (f_X2_countSuspicious N a0 a1 fc fr).bind fun t4 =>
  some (.inr (t4, a0, a1, t3.1, t3.2.1, t3.2.2.1, t3.2.2.2.1, t3.2.2.2.2.1, t3.2.2.2.2.2.1, t3.2.2.2.2.2.2.1, t3.2.2.2.2.2.2.2.1, t3.2.2.2.2.2.2.2.2.1, t3.2.2.2.2.2.2.2.2.2.1, t3.2.2.2.2.2.2.2.2.2.2.1, t3.2.2.2.2.2.2.2.2.2.2.2.1, t3.2.2.2.2.2.2.2.2.2.2.2.2.1, t3.2.2.2.2.2.2.2.2.2.2.2.2.2.1, t3.2.2.2.2.2.2.2.2.2.2.2.2.2.2.1, t3.2.2.2.2.2.2.2.2.2.2.2.2.2.2.2.1, t3.2.2.2.2.2.2.2.2.2.2.2.2.2.2.2.2))
def f_L_loaded (N : Nat) (itb : Nat → Int32) (sd : Int32) (mn : Int32) (th : Int32) (dc : Int32) (fc : Nat → Int32) (dw : Nat → Int32) (pc : Int32) (ln : Nat → Int32) (lt : Nat → Int32) (tc : Int32) (en : Nat → Int32) (fr : Nat → Int32) (oc : Int32) (op : Nat → Int32) (os : Nat → Int32) (nx : Int32) (dp : Int32) (itl : Int32) (ec : Int32) (eo : Int32) (d_sd : Int32) (d_mn : Int32) (d_th : Int32) (d_dc : Int32) (d_fc : Nat → Int32) (d_dw : Nat → Int32) (d_pc : Int32) (d_ln : Nat → Int32) (d_lt : Nat → Int32) (d_tc : Int32) (d_en : Nat → Int32) (d_fr : Nat → Int32) (d_oc : Int32) (d_op : Nat → Int32) (d_os : Nat → Int32) (kd : Int32) (ts : Int32) (te : Int32) (tv : Int32) (v_sd : Int32) (v_mn : Int32) (v_th : Int32) (v_dc : Int32) (v_fc : Nat → Int32) (v_dw : Nat → Int32) (v_pc : Int32) (v_ln : Nat → Int32) (v_lt : Nat → Int32) (v_tc : Int32) (v_en : Nat → Int32) (v_fr : Nat → Int32) (v_oc : Int32) (v_op : Nat → Int32) (v_os : Nat → Int32) : Option (Int32 × Int32 × Int32 × Int32 × Int32 × (Nat → Int32) × (Nat → Int32) × Int32 × (Nat → Int32) × (Nat → Int32) × Int32 × (Nat → Int32) × (Nat → Int32) × Int32 × (Nat → Int32) × (Nat → Int32) × Int32 × Int32 × Int32 × Int32 × Int32 × Int32 × Int32 × Int32 × Int32 × (Nat → Int32) × (Nat → Int32) × Int32 × (Nat → Int32) × (Nat → Int32) × Int32 × (Nat → Int32) × (Nat → Int32) × Int32 × (Nat → Int32) × (Nat → Int32) × Int32 × Int32 × Int32 × Int32 × Int32 × Int32 × Int32 × Int32 × (Nat → Int32) × (Nat → Int32) × Int32 × (Nat → Int32) × (Nat → Int32) × Int32 × (Nat → Int32) × (Nat → Int32) × Int32 × (Nat → Int32) × (Nat → Int32)) :=
  hbdw (f_X10_load N itb sd mn th dc fc dw pc ln lt tc en fr oc op os nx dp itl ec eo d_sd d_mn d_th d_dc d_fc d_dw d_pc d_ln d_lt d_tc d_en d_fr d_oc d_op d_os kd ts te tv v_sd v_mn v_th v_dc v_fc v_dw v_pc v_ln v_lt v_tc v_en v_fr v_oc v_op v_os) (fun C9 u9 => if C9 = "java/lang/IllegalArgumentException" then some ((-9), u9.1, u9.2.1, u9.2.2.1, u9.2.2.2.1, u9.2.2.2.2.1, u9.2.2.2.2.2.1, u9.2.2.2.2.2.2.1, u9.2.2.2.2.2.2.2.1, u9.2.2.2.2.2.2.2.2.1, u9.2.2.2.2.2.2.2.2.2.1, u9.2.2.2.2.2.2.2.2.2.2.1, u9.2.2.2.2.2.2.2.2.2.2.2.1, u9.2.2.2.2.2.2.2.2.2.2.2.2.1, u9.2.2.2.2.2.2.2.2.2.2.2.2.2.1, u9.2.2.2.2.2.2.2.2.2.2.2.2.2.2.1, u9.2.2.2.2.2.2.2.2.2.2.2.2.2.2.2.1, u9.2.2.2.2.2.2.2.2.2.2.2.2.2.2.2.2.1, u9.2.2.2.2.2.2.2.2.2.2.2.2.2.2.2.2.2.1, u9.2.2.2.2.2.2.2.2.2.2.2.2.2.2.2.2.2.2.1, u9.2.2.2.2.2.2.2.2.2.2.2.2.2.2.2.2.2.2.2.1, u9.2.2.2.2.2.2.2.2.2.2.2.2.2.2.2.2.2.2.2.2.1, u9.2.2.2.2.2.2.2.2.2.2.2.2.2.2.2.2.2.2.2.2.2.1, u9.2.2.2.2.2.2.2.2.2.2.2.2.2.2.2.2.2.2.2.2.2.2.1, u9.2.2.2.2.2.2.2.2.2.2.2.2.2.2.2.2.2.2.2.2.2.2.2.1, u9.2.2.2.2.2.2.2.2.2.2.2.2.2.2.2.2.2.2.2.2.2.2.2.2.1, u9.2.2.2.2.2.2.2.2.2.2.2.2.2.2.2.2.2.2.2.2.2.2.2.2.2.1, u9.2.2.2.2.2.2.2.2.2.2.2.2.2.2.2.2.2.2.2.2.2.2.2.2.2.2.1, u9.2.2.2.2.2.2.2.2.2.2.2.2.2.2.2.2.2.2.2.2.2.2.2.2.2.2.2.1, u9.2.2.2.2.2.2.2.2.2.2.2.2.2.2.2.2.2.2.2.2.2.2.2.2.2.2.2.2.1, u9.2.2.2.2.2.2.2.2.2.2.2.2.2.2.2.2.2.2.2.2.2.2.2.2.2.2.2.2.2.1, u9.2.2.2.2.2.2.2.2.2.2.2.2.2.2.2.2.2.2.2.2.2.2.2.2.2.2.2.2.2.2.1, u9.2.2.2.2.2.2.2.2.2.2.2.2.2.2.2.2.2.2.2.2.2.2.2.2.2.2.2.2.2.2.2.1, u9.2.2.2.2.2.2.2.2.2.2.2.2.2.2.2.2.2.2.2.2.2.2.2.2.2.2.2.2.2.2.2.2.1, u9.2.2.2.2.2.2.2.2.2.2.2.2.2.2.2.2.2.2.2.2.2.2.2.2.2.2.2.2.2.2.2.2.2.1, u9.2.2.2.2.2.2.2.2.2.2.2.2.2.2.2.2.2.2.2.2.2.2.2.2.2.2.2.2.2.2.2.2.2.2.1, u9.2.2.2.2.2.2.2.2.2.2.2.2.2.2.2.2.2.2.2.2.2.2.2.2.2.2.2.2.2.2.2.2.2.2.2.1, u9.2.2.2.2.2.2.2.2.2.2.2.2.2.2.2.2.2.2.2.2.2.2.2.2.2.2.2.2.2.2.2.2.2.2.2.2.1, u9.2.2.2.2.2.2.2.2.2.2.2.2.2.2.2.2.2.2.2.2.2.2.2.2.2.2.2.2.2.2.2.2.2.2.2.2.2.1, u9.2.2.2.2.2.2.2.2.2.2.2.2.2.2.2.2.2.2.2.2.2.2.2.2.2.2.2.2.2.2.2.2.2.2.2.2.2.2.1, u9.2.2.2.2.2.2.2.2.2.2.2.2.2.2.2.2.2.2.2.2.2.2.2.2.2.2.2.2.2.2.2.2.2.2.2.2.2.2.2.1, u9.2.2.2.2.2.2.2.2.2.2.2.2.2.2.2.2.2.2.2.2.2.2.2.2.2.2.2.2.2.2.2.2.2.2.2.2.2.2.2.2.1, u9.2.2.2.2.2.2.2.2.2.2.2.2.2.2.2.2.2.2.2.2.2.2.2.2.2.2.2.2.2.2.2.2.2.2.2.2.2.2.2.2.2.1, u9.2.2.2.2.2.2.2.2.2.2.2.2.2.2.2.2.2.2.2.2.2.2.2.2.2.2.2.2.2.2.2.2.2.2.2.2.2.2.2.2.2.2.1, u9.2.2.2.2.2.2.2.2.2.2.2.2.2.2.2.2.2.2.2.2.2.2.2.2.2.2.2.2.2.2.2.2.2.2.2.2.2.2.2.2.2.2.2.1, u9.2.2.2.2.2.2.2.2.2.2.2.2.2.2.2.2.2.2.2.2.2.2.2.2.2.2.2.2.2.2.2.2.2.2.2.2.2.2.2.2.2.2.2.2.1, u9.2.2.2.2.2.2.2.2.2.2.2.2.2.2.2.2.2.2.2.2.2.2.2.2.2.2.2.2.2.2.2.2.2.2.2.2.2.2.2.2.2.2.2.2.2.1, u9.2.2.2.2.2.2.2.2.2.2.2.2.2.2.2.2.2.2.2.2.2.2.2.2.2.2.2.2.2.2.2.2.2.2.2.2.2.2.2.2.2.2.2.2.2.2.1, u9.2.2.2.2.2.2.2.2.2.2.2.2.2.2.2.2.2.2.2.2.2.2.2.2.2.2.2.2.2.2.2.2.2.2.2.2.2.2.2.2.2.2.2.2.2.2.2.1, u9.2.2.2.2.2.2.2.2.2.2.2.2.2.2.2.2.2.2.2.2.2.2.2.2.2.2.2.2.2.2.2.2.2.2.2.2.2.2.2.2.2.2.2.2.2.2.2.2.1, u9.2.2.2.2.2.2.2.2.2.2.2.2.2.2.2.2.2.2.2.2.2.2.2.2.2.2.2.2.2.2.2.2.2.2.2.2.2.2.2.2.2.2.2.2.2.2.2.2.2.1, u9.2.2.2.2.2.2.2.2.2.2.2.2.2.2.2.2.2.2.2.2.2.2.2.2.2.2.2.2.2.2.2.2.2.2.2.2.2.2.2.2.2.2.2.2.2.2.2.2.2.2.1, u9.2.2.2.2.2.2.2.2.2.2.2.2.2.2.2.2.2.2.2.2.2.2.2.2.2.2.2.2.2.2.2.2.2.2.2.2.2.2.2.2.2.2.2.2.2.2.2.2.2.2.2.1, u9.2.2.2.2.2.2.2.2.2.2.2.2.2.2.2.2.2.2.2.2.2.2.2.2.2.2.2.2.2.2.2.2.2.2.2.2.2.2.2.2.2.2.2.2.2.2.2.2.2.2.2.2.1, u9.2.2.2.2.2.2.2.2.2.2.2.2.2.2.2.2.2.2.2.2.2.2.2.2.2.2.2.2.2.2.2.2.2.2.2.2.2.2.2.2.2.2.2.2.2.2.2.2.2.2.2.2.2) else none) fun t1 =>
  some (t1.1, t1.2.1, t1.2.2.1, t1.2.2.2.1, t1.2.2.2.2.1, t1.2.2.2.2.2.1, t1.2.2.2.2.2.2.1, t1.2.2.2.2.2.2.2.1, t1.2.2.2.2.2.2.2.2.1, t1.2.2.2.2.2.2.2.2.2.1, t1.2.2.2.2.2.2.2.2.2.2.1, t1.2.2.2.2.2.2.2.2.2.2.2.1, t1.2.2.2.2.2.2.2.2.2.2.2.2.1, t1.2.2.2.2.2.2.2.2.2.2.2.2.2.1, t1.2.2.2.2.2.2.2.2.2.2.2.2.2.2.1, t1.2.2.2.2.2.2.2.2.2.2.2.2.2.2.2.1, t1.2.2.2.2.2.2.2.2.2.2.2.2.2.2.2.2.1, t1.2.2.2.2.2.2.2.2.2.2.2.2.2.2.2.2.2.1, t1.2.2.2.2.2.2.2.2.2.2.2.2.2.2.2.2.2.2.1, t1.2.2.2.2.2.2.2.2.2.2.2.2.2.2.2.2.2.2.2.1, t1.2.2.2.2.2.2.2.2.2.2.2.2.2.2.2.2.2.2.2.2.1, t1.2.2.2.2.2.2.2.2.2.2.2.2.2.2.2.2.2.2.2.2.2.1, t1.2.2.2.2.2.2.2.2.2.2.2.2.2.2.2.2.2.2.2.2.2.2.1, t1.2.2.2.2.2.2.2.2.2.2.2.2.2.2.2.2.2.2.2.2.2.2.2.1, t1.2.2.2.2.2.2.2.2.2.2.2.2.2.2.2.2.2.2.2.2.2.2.2.2.1, t1.2.2.2.2.2.2.2.2.2.2.2.2.2.2.2.2.2.2.2.2.2.2.2.2.2.1, t1.2.2.2.2.2.2.2.2.2.2.2.2.2.2.2.2.2.2.2.2.2.2.2.2.2.2.1, t1.2.2.2.2.2.2.2.2.2.2.2.2.2.2.2.2.2.2.2.2.2.2.2.2.2.2.2.1, t1.2.2.2.2.2.2.2.2.2.2.2.2.2.2.2.2.2.2.2.2.2.2.2.2.2.2.2.2.1, t1.2.2.2.2.2.2.2.2.2.2.2.2.2.2.2.2.2.2.2.2.2.2.2.2.2.2.2.2.2.1, t1.2.2.2.2.2.2.2.2.2.2.2.2.2.2.2.2.2.2.2.2.2.2.2.2.2.2.2.2.2.2.1, t1.2.2.2.2.2.2.2.2.2.2.2.2.2.2.2.2.2.2.2.2.2.2.2.2.2.2.2.2.2.2.2.1, t1.2.2.2.2.2.2.2.2.2.2.2.2.2.2.2.2.2.2.2.2.2.2.2.2.2.2.2.2.2.2.2.2.1, t1.2.2.2.2.2.2.2.2.2.2.2.2.2.2.2.2.2.2.2.2.2.2.2.2.2.2.2.2.2.2.2.2.2.1, t1.2.2.2.2.2.2.2.2.2.2.2.2.2.2.2.2.2.2.2.2.2.2.2.2.2.2.2.2.2.2.2.2.2.2.1, t1.2.2.2.2.2.2.2.2.2.2.2.2.2.2.2.2.2.2.2.2.2.2.2.2.2.2.2.2.2.2.2.2.2.2.2.1, t1.2.2.2.2.2.2.2.2.2.2.2.2.2.2.2.2.2.2.2.2.2.2.2.2.2.2.2.2.2.2.2.2.2.2.2.2.1, t1.2.2.2.2.2.2.2.2.2.2.2.2.2.2.2.2.2.2.2.2.2.2.2.2.2.2.2.2.2.2.2.2.2.2.2.2.2.1, t1.2.2.2.2.2.2.2.2.2.2.2.2.2.2.2.2.2.2.2.2.2.2.2.2.2.2.2.2.2.2.2.2.2.2.2.2.2.2.1, t1.2.2.2.2.2.2.2.2.2.2.2.2.2.2.2.2.2.2.2.2.2.2.2.2.2.2.2.2.2.2.2.2.2.2.2.2.2.2.2.1, t1.2.2.2.2.2.2.2.2.2.2.2.2.2.2.2.2.2.2.2.2.2.2.2.2.2.2.2.2.2.2.2.2.2.2.2.2.2.2.2.2.1, t1.2.2.2.2.2.2.2.2.2.2.2.2.2.2.2.2.2.2.2.2.2.2.2.2.2.2.2.2.2.2.2.2.2.2.2.2.2.2.2.2.2.1, t1.2.2.2.2.2.2.2.2.2.2.2.2.2.2.2.2.2.2.2.2.2.2.2.2.2.2.2.2.2.2.2.2.2.2.2.2.2.2.2.2.2.2.1, t1.2.2.2.2.2.2.2.2.2.2.2.2.2.2.2.2.2.2.2.2.2.2.2.2.2.2.2.2.2.2.2.2.2.2.2.2.2.2.2.2.2.2.2.1, t1.2.2.2.2.2.2.2.2.2.2.2.2.2.2.2.2.2.2.2.2.2.2.2.2.2.2.2.2.2.2.2.2.2.2.2.2.2.2.2.2.2.2.2.2.1, t1.2.2.2.2.2.2.2.2.2.2.2.2.2.2.2.2.2.2.2.2.2.2.2.2.2.2.2.2.2.2.2.2.2.2.2.2.2.2.2.2.2.2.2.2.2.1, t1.2.2.2.2.2.2.2.2.2.2.2.2.2.2.2.2.2.2.2.2.2.2.2.2.2.2.2.2.2.2.2.2.2.2.2.2.2.2.2.2.2.2.2.2.2.2.1, t1.2.2.2.2.2.2.2.2.2.2.2.2.2.2.2.2.2.2.2.2.2.2.2.2.2.2.2.2.2.2.2.2.2.2.2.2.2.2.2.2.2.2.2.2.2.2.2.1, t1.2.2.2.2.2.2.2.2.2.2.2.2.2.2.2.2.2.2.2.2.2.2.2.2.2.2.2.2.2.2.2.2.2.2.2.2.2.2.2.2.2.2.2.2.2.2.2.2.1, t1.2.2.2.2.2.2.2.2.2.2.2.2.2.2.2.2.2.2.2.2.2.2.2.2.2.2.2.2.2.2.2.2.2.2.2.2.2.2.2.2.2.2.2.2.2.2.2.2.2.1, t1.2.2.2.2.2.2.2.2.2.2.2.2.2.2.2.2.2.2.2.2.2.2.2.2.2.2.2.2.2.2.2.2.2.2.2.2.2.2.2.2.2.2.2.2.2.2.2.2.2.2.1, t1.2.2.2.2.2.2.2.2.2.2.2.2.2.2.2.2.2.2.2.2.2.2.2.2.2.2.2.2.2.2.2.2.2.2.2.2.2.2.2.2.2.2.2.2.2.2.2.2.2.2.2.1, t1.2.2.2.2.2.2.2.2.2.2.2.2.2.2.2.2.2.2.2.2.2.2.2.2.2.2.2.2.2.2.2.2.2.2.2.2.2.2.2.2.2.2.2.2.2.2.2.2.2.2.2.2.1, t1.2.2.2.2.2.2.2.2.2.2.2.2.2.2.2.2.2.2.2.2.2.2.2.2.2.2.2.2.2.2.2.2.2.2.2.2.2.2.2.2.2.2.2.2.2.2.2.2.2.2.2.2.2.1, t1.2.2.2.2.2.2.2.2.2.2.2.2.2.2.2.2.2.2.2.2.2.2.2.2.2.2.2.2.2.2.2.2.2.2.2.2.2.2.2.2.2.2.2.2.2.2.2.2.2.2.2.2.2.2)
