def f_X10_copyRow (n : Nat) (f : Nat → Int32) (gn : Nat) (gf : Nat → Int32) : Option ((Nat → Int32)) :=
  if (nI n) = (nI gn) then
    gd (cpok 0 0 (nI gn) n gn) <|
    some (va_cpy f gf (Int32.toNatClampNeg 0) (Int32.toNatClampNeg 0) (Int32.toNatClampNeg (nI gn)))
  else
    some gf
def f_X10_put (n : Nat) (f : Nat → Int32) (a1 : Int32) (a2 : Int32) : Option ((Nat → Int32)) :=
  if a1 < 0 then
    some f
  else
    if (nI n) ≤ a1 then
      some f
    else
      gd (inb a1 n) <|
      some (upd f (Int32.toNatClampNeg a1) a2)
def f_X10_at (n : Nat) (f : Nat → Int32) (a1 : Int32) : Option (Int32) :=
  if a1 < 0 then
    some 0
  else
    if (nI n) ≤ a1 then
      some 0
    else
      gd (inb a1 n) <|
      some (f (Int32.toNatClampNeg a1))
def f_X10_cellOf  (a0 : Int32) (a1 : Int32) : Option (Int32) :=
  some (((a0 * 12) + a1) - 1)
def f_X10_sumOf_L38 (N : Nat) (n : Nat) (f : Nat → Int32) (r5 : Int32 → Int32 → Int32 → Int32 → Option (Int32)) (l1 : Int32) (l2 : Int32) (l4 : Int32) (s0 : Int32) (s1 : Int32) : Option (Int32) :=
  r5 l1 l2 (s1 + s0) (l4 + 1)
def f_X10_sumOf_L37 (N : Nat) (n : Nat) (f : Nat → Int32) (r5 : Int32 → Int32 → Int32 → Int32 → Option (Int32)) (l1 : Int32) (l2 : Int32) (l4 : Int32) (s0 : Int32) : Option (Int32) :=
  f_X10_sumOf_L38 N n f r5 l1 l2 l4 0 s0
def f_X10_sumOf_L5_F (N : Nat) (n : Nat) (f : Nat → Int32)  (r5 : Int32 → Int32 → Int32 → Int32 → Option (Int32)) (l1 : Int32) (l2 : Int32) (l3 : Int32) (l4 : Int32) : Option (Int32) :=
  if l2 ≤ l4 then
    some l3
  else
    if (l1 + l4) < 0 then
      f_X10_sumOf_L37 N n f r5 l1 l2 l4 l3
    else
      if (nI n) ≤ (l1 + l4) then
        f_X10_sumOf_L37 N n f r5 l1 l2 l4 l3
      else
        gd (inb (l1 + l4) n) <|
        f_X10_sumOf_L38 N n f r5 l1 l2 l4 (f (Int32.toNatClampNeg (l1 + l4))) l3
def f_X10_sumOf_L5 (N : Nat) (n : Nat) (f : Nat → Int32)  : Nat → Int32 → Int32 → Int32 → Int32 → Option (Int32)
  | 0 => fun _ _ _ _ => none
  | j + 1 => f_X10_sumOf_L5_F N n f (f_X10_sumOf_L5 N n f j)
def f_X10_sumOf (N : Nat) (n : Nat) (f : Nat → Int32) (a1 : Int32) (a2 : Int32) : Option (Int32) :=
  f_X10_sumOf_L5 N n f N a1 a2 0 0
def f_X10_pairOf  (a0 : Int32) (a1 : Int32) : Option (Int32) :=
  some ((a0 * 6) + a1)
def f_X10_nextSeed  (a0 : Int32) : Option (Int32) :=
  some (((75 * a0) + 74) - ((75 * a0) + 74) / 65537 * 65537)
def f_X10_testScore_L25_F (N : Nat) (n : Nat) (f : Nat → Int32)  (r25 : Int32 → Int32 → Int32 → Int32 → Int32 → Int32 → Option (Int32)) (l1 : Int32) (l2 : Int32) (l3 : Int32) (l4 : Int32) (l5 : Int32) (l6 : Int32) : Option (Int32) :=
  if l2 ≤ l6 then
    gd (nz l4) <|
    some (l5 / l4)
  else
    (f_X10_at n f (l1 + l6)).bind fun t2 =>
    r25 l1 l2 l3 l4 (l5 + (((l2 * t2) - l3) * ((l2 * t2) - l3))) (l6 + 1)
def f_X10_testScore_L25 (N : Nat) (n : Nat) (f : Nat → Int32)  : Nat → Int32 → Int32 → Int32 → Int32 → Int32 → Int32 → Option (Int32)
  | 0 => fun _ _ _ _ _ _ => none
  | j + 1 => f_X10_testScore_L25_F N n f (f_X10_testScore_L25 N n f j)
def f_X10_testScore (N : Nat) (n : Nat) (f : Nat → Int32) (a1 : Int32) (a2 : Int32) : Option (Int32) :=
  (f_X10_sumOf N n f a1 a2).bind fun t1 =>
  if 0 < (t1 * a2) then
    f_X10_testScore_L25 N n f N a1 a2 t1 (t1 * a2) 0 0
  else
    some 0
def f_J7_fill_53178_L5_F (N : Nat) (n : Nat)  (r5 : Int32 → Int32 → Int32 → (Nat → Int32) → Option ((Nat → Int32))) (l1 : Int32) (l2 : Int32) (l3 : Int32) (f : Nat → Int32) : Option ((Nat → Int32)) :=
  if l3 ≤ l2 then
    some f
  else
    gd (inb l2 n) <|
    r5 l1 (l2 + 1) l3 (upd f (Int32.toNatClampNeg l2) l1)
def f_J7_fill_53178_L5 (N : Nat) (n : Nat)  : Nat → Int32 → Int32 → Int32 → (Nat → Int32) → Option ((Nat → Int32))
  | 0 => fun _ _ _ _ => none
  | j + 1 => f_J7_fill_53178_L5_F N n (f_J7_fill_53178_L5 N n j)
def f_J7_fill_53178 (N : Nat) (n : Nat) (f : Nat → Int32) (a1 : Int32) : Option ((Nat → Int32)) :=
  f_J7_fill_53178_L5 N n N a1 0 (nI n) f
def f_X10_dieOf  (a0 : Int32) : Option (Int32) :=
  some (a0 - a0 / 6 * 6)
def f_X10_playerOf  (a0 : Int32) : Option (Int32) :=
  some (a0 / 6)
def f_X10_requireRange_L10    : Option (String ⊕ (Unit)) :=
  some (.inl "java/lang/IllegalArgumentException")
def f_X10_requireRange  (a0 : Int32) (a1 : Int32) (a2 : Int32) : Option (String ⊕ (Unit)) :=
  if a0 < a1 then
    f_X10_requireRange_L10 
  else
    if a0 ≤ a2 then
      some (.inr ())
    else
      f_X10_requireRange_L10 
def f_X10_requireIndex_L9    : Option (String ⊕ (Unit)) :=
  some (.inl "java/lang/IndexOutOfBoundsException")
def f_X10_requireIndex  (a0 : Int32) (a1 : Int32) : Option (String ⊕ (Unit)) :=
  if a0 < 0 then
    f_X10_requireIndex_L9 
  else
    if a0 < a1 then
      some (.inr ())
    else
      f_X10_requireIndex_L9 
def f_X10_greatestCell_L40 (N : Nat) (n : Nat) (f : Nat → Int32) (r8 : Int32 → Int32 → Int32 → Int32 → Int32 → Option (Int32)) (l1 : Int32) (l2 : Int32) (l3 : Int32) (l4 : Int32) (l5 : Int32) : Option (Int32) :=
  r8 l1 l2 l3 l4 (l5 + 1)
def f_X10_greatestCell_L8_F (N : Nat) (n : Nat) (f : Nat → Int32)  (r8 : Int32 → Int32 → Int32 → Int32 → Int32 → Option (Int32)) (l1 : Int32) (l2 : Int32) (l3 : Int32) (l4 : Int32) (l5 : Int32) : Option (Int32) :=
  if l2 ≤ l5 then
    some l3
  else
    (f_X10_at n f (l1 + l5)).bind fun t1 =>
    if t1 ≤ l4 then
      f_X10_greatestCell_L40 N n f r8 l1 l2 l3 l4 l5
    else
      f_X10_greatestCell_L40 N n f r8 l1 l2 (l5 + 1) t1 l5
def f_X10_greatestCell_L8 (N : Nat) (n : Nat) (f : Nat → Int32)  : Nat → Int32 → Int32 → Int32 → Int32 → Int32 → Option (Int32)
  | 0 => fun _ _ _ _ _ => none
  | j + 1 => f_X10_greatestCell_L8_F N n f (f_X10_greatestCell_L8 N n f j)
def f_X10_greatestCell (N : Nat) (n : Nat) (f : Nat → Int32) (a1 : Int32) (a2 : Int32) : Option (Int32) :=
  f_X10_greatestCell_L8 N n f N a1 a2 (-1) 0 0
def f_X10_requireSlot  (a0 : Int32) : Option (String ⊕ (Unit)) :=
  sbd (f_X10_requireIndex a0 2) fun t1 =>
  some (.inr ())
def f_X0_clear  (dc : Int32) : Option (Int32) :=
  some 0
def f_X0_copyFrom (y_dc : Int32) (y_fc : Nat → Int32) (y_dw : Nat → Int32) (dc : Int32) (fc : Nat → Int32) (dw : Nat → Int32) : Option (Int32 × (Nat → Int32) × (Nat → Int32)) :=
  (f_X10_copyRow 6 y_fc 6 fc).bind fun t1 =>
  (f_X10_copyRow 72 y_dw 72 dw).bind fun t2 =>
  some (y_dc, t1, t2)
def f_X0_add  (dc : Int32) (fc : Nat → Int32) (a0 : Int32) : Option (Int32 × (Nat → Int32)) :=
  if 6 ≤ dc then
    some (dc, fc)
  else
    (f_X10_put 6 fc dc a0).bind fun t1 =>
    some ((dc + 1), t1)
def f_X0_faceCount (fc : Nat → Int32) (a0 : Int32) : Option (Int32) :=
  (f_X10_at 6 fc a0).bind fun t1 =>
  some t1
def f_X0_weight (dw : Nat → Int32) (a0 : Int32) (a1 : Int32) : Option (Int32) :=
  (f_X10_cellOf a0 a1).bind fun t1 =>
  (f_X10_at 72 dw t1).bind fun t2 =>
  some t2
def f_X0_putWeight  (dw : Nat → Int32) (a0 : Int32) (a1 : Int32) (a2 : Int32) : Option ((Nat → Int32)) :=
  (f_X10_cellOf a0 a1).bind fun t1 =>
  (f_X10_put 72 dw t1 a2).bind fun t2 =>
  some t2
def f_X0_weightSum (N : Nat) (fc : Nat → Int32) (dw : Nat → Int32) (a0 : Int32) : Option (Int32) :=
  (f_X10_cellOf a0 1).bind fun t1 =>
  (f_X0_faceCount fc a0).bind fun t2 =>
  (f_X10_sumOf N 72 dw t1 t2).bind fun t3 =>
  some t3
def f_X0_hasEqualWeights_L9_F (N : Nat) (fc : Nat → Int32) (dw : Nat → Int32)  (r9 : Int32 → Int32 → Int32 → Option (Int32)) (l1 : Int32) (l2 : Int32) (l3 : Int32) : Option (Int32) :=
  (f_X0_faceCount fc l1).bind fun t2 =>
  if t2 < l3 then
    some 1
  else
    (f_X0_weight dw l1 l3).bind fun t3 =>
    if t3 = l2 then
      r9 l1 l2 (l3 + 1)
    else
      some 0
def f_X0_hasEqualWeights_L9 (N : Nat) (fc : Nat → Int32) (dw : Nat → Int32)  : Nat → Int32 → Int32 → Int32 → Option (Int32)
  | 0 => fun _ _ _ => none
  | j + 1 => f_X0_hasEqualWeights_L9_F N fc dw (f_X0_hasEqualWeights_L9 N fc dw j)
def f_X0_hasEqualWeights (N : Nat) (fc : Nat → Int32) (dw : Nat → Int32) (a0 : Int32) : Option (Int32) :=
  (f_X0_weight dw a0 1).bind fun t1 =>
  f_X0_hasEqualWeights_L9 N fc dw N a0 t1 2
def f_X0_faceShown_L45_F (N : Nat) (fc : Nat → Int32) (dw : Nat → Int32)  (r45 : Int32 → Int32 → Int32 → Int32 → Int32 → Option (Int32)) (l1 : Int32) (l3 : Int32) (l5 : Int32) (l6 : Int32) (l7 : Int32) : Option (Int32) :=
  if l3 ≤ l7 then
    some l3
  else
    (f_X10_cellOf l1 l7).bind fun t4 =>
    (f_X10_at 72 dw t4).bind fun t5 =>
    if (l6 + t5) ≤ l5 then
      r45 l1 l3 l5 (l6 + t5) (l7 + 1)
    else
      some l7
def f_X0_faceShown_L45 (N : Nat) (fc : Nat → Int32) (dw : Nat → Int32)  : Nat → Int32 → Int32 → Int32 → Int32 → Int32 → Option (Int32)
  | 0 => fun _ _ _ _ _ => none
  | j + 1 => f_X0_faceShown_L45_F N fc dw (f_X0_faceShown_L45 N fc dw j)
def f_X0_faceShown_L37 (N : Nat) (fc : Nat → Int32) (dw : Nat → Int32)  (l1 : Int32) (l3 : Int32) (s0 : Int32) : Option (Int32) :=
  f_X0_faceShown_L45 N fc dw N l1 l3 s0 0 1
def f_X0_faceShown (N : Nat) (fc : Nat → Int32) (dw : Nat → Int32) (a0 : Int32) (a1 : Int32) : Option (Int32) :=
  (f_X10_at 6 fc a0).bind fun t1 =>
  (f_X10_cellOf a0 1).bind fun t2 =>
  (f_X10_sumOf N 72 dw t2 t1).bind fun t3 =>
  if t3 ≤ 0 then
    f_X0_faceShown_L37 N fc dw a0 t1 0
  else
    gd (nz t3) <|
    f_X0_faceShown_L37 N fc dw a0 t1 (a1 - a1 / t3 * t3)
def f_X0_fairFaceShown (fc : Nat → Int32) (a0 : Int32) (a1 : Int32) : Option (Int32) :=
  (f_X10_at 6 fc a0).bind fun t1 =>
  if t1 ≤ 0 then
    some 1
  else
    gd (nz t1) <|
    some ((a1 - a1 / t1 * t1) + 1)
def f_X7_clear  (pc : Int32) : Option (Int32) :=
  some 0
def f_X4_clear (N : Nat)  (tc : Int32) (fr : Nat → Int32) : Option (Int32 × (Nat → Int32)) :=
  (f_J7_fill_53178 N 432 fr 0).bind fun t1 =>
  some (0, t1)
def f_X6_clear  (oc : Int32) : Option (Int32) :=
  some 0
def f_X7_copyFrom (y_pc : Int32) (y_ln : Nat → Int32) (y_lt : Nat → Int32) (pc : Int32) (ln : Nat → Int32) (lt : Nat → Int32) : Option (Int32 × (Nat → Int32) × (Nat → Int32)) :=
  (f_X10_copyRow 6 y_ln 6 ln).bind fun t1 =>
  (f_X10_copyRow 24 y_lt 24 lt).bind fun t2 =>
  some (y_pc, t1, t2)
def f_X4_copyFrom (y_tc : Int32) (y_en : Nat → Int32) (y_fr : Nat → Int32) (tc : Int32) (en : Nat → Int32) (fr : Nat → Int32) : Option (Int32 × (Nat → Int32) × (Nat → Int32)) :=
  (f_X10_copyRow 300 y_en 300 en).bind fun t1 =>
  (f_X10_copyRow 432 y_fr 432 fr).bind fun t2 =>
  some (y_tc, t1, t2)
def f_X6_copyFrom (y_oc : Int32) (y_op : Nat → Int32) (y_os : Nat → Int32) (oc : Int32) (op : Nat → Int32) (os : Nat → Int32) : Option (Int32 × (Nat → Int32) × (Nat → Int32)) :=
  (f_X10_copyRow 36 y_op 36 op).bind fun t1 =>
  (f_X10_copyRow 36 y_os 36 os).bind fun t2 =>
  some (y_oc, t1, t2)
def f_X4_add_L34   (l1 : Int32) (l2 : Int32) (s0 : Int32) (s1 : Int32) (s2 : Int32) (tc : Int32) (en : Nat → Int32) (fr : Nat → Int32) : Option (Int32 × (Nat → Int32) × (Nat → Int32)) :=
  (f_X10_put 300 en s2 (s1 ||| s0)).bind fun t1 =>
  (f_X10_cellOf l1 l2).bind fun t2 =>
  (f_X10_at 432 fr t2).bind fun t3 =>
  (f_X10_put 432 fr t2 (t3 + 1)).bind fun t4 =>
  some ((tc + 1), t1, t4)
def f_X4_add  (tc : Int32) (en : Nat → Int32) (fr : Nat → Int32) (a0 : Int32) (a1 : Int32) (a2 : Int32) : Option (Int32 × (Nat → Int32) × (Nat → Int32)) :=
  if 300 ≤ tc then
    some (tc, en, fr)
  else
    if a2 = 0 then
      f_X4_add_L34 a0 a1 0 ((a0 <<< (5 &&& 31)) ||| (a1 <<< (1 &&& 31))) tc tc en fr
    else
      f_X4_add_L34 a0 a1 1 ((a0 <<< (5 &&& 31)) ||| (a1 <<< (1 &&& 31))) tc tc en fr
def f_X4_pairThrows (N : Nat) (fr : Nat → Int32) (a0 : Int32) : Option (Int32) :=
  (f_X10_cellOf a0 1).bind fun t1 =>
  (f_X10_sumOf N 432 fr t1 12).bind fun t2 =>
  some t2
def f_X6_has_L2_F (N : Nat) (oc : Int32) (op : Nat → Int32)  (r2 : Int32 → Int32 → Option (Int32)) (l1 : Int32) (l2 : Int32) : Option (Int32) :=
  if oc ≤ l2 then
    some 0
  else
    (f_X10_at 36 op l2).bind fun t1 =>
    if t1 = l1 then
      some 1
    else
      r2 l1 (l2 + 1)
def f_X6_has_L2 (N : Nat) (oc : Int32) (op : Nat → Int32)  : Nat → Int32 → Int32 → Option (Int32)
  | 0 => fun _ _ => none
  | j + 1 => f_X6_has_L2_F N oc op (f_X6_has_L2 N oc op j)
def f_X6_has (N : Nat) (oc : Int32) (op : Nat → Int32) (a0 : Int32) : Option (Int32) :=
  f_X6_has_L2 N oc op N a0 0
def f_X6_goesBefore (op : Nat → Int32) (os : Nat → Int32) (a0 : Int32) (a1 : Int32) (a2 : Int32) : Option (Int32) :=
  (f_X10_at 36 os a2).bind fun t1 =>
  if t1 < a1 then
    some 1
  else
    if a1 = t1 then
      (f_X10_at 36 op a2).bind fun t2 =>
      if t2 ≤ a0 then
        some 0
      else
        some 1
    else
      some 0
def f_X6_set  (op : Nat → Int32) (os : Nat → Int32) (a0 : Int32) (a1 : Int32) (a2 : Int32) : Option ((Nat → Int32) × (Nat → Int32)) :=
  (f_X10_put 36 op a0 a1).bind fun t1 =>
  (f_X10_put 36 os a0 a2).bind fun t2 =>
  some (t1, t2)
def f_X6_add_L62 (N : Nat)   (l1 : Int32) (l2 : Int32) (l3 : Int32) (oc : Int32) (op : Nat → Int32) (os : Nat → Int32) : Option (Int32 × (Nat → Int32) × (Nat → Int32)) :=
  (f_X6_set op os l3 l1 l2).bind fun t1 =>
  some ((oc + 1), t1.1, t1.2)
def f_X6_add_L15_F (N : Nat)   (r15 : Int32 → Int32 → Int32 → Int32 → (Nat → Int32) → (Nat → Int32) → Option (Int32 × (Nat → Int32) × (Nat → Int32))) (l1 : Int32) (l2 : Int32) (l3 : Int32) (oc : Int32) (op : Nat → Int32) (os : Nat → Int32) : Option (Int32 × (Nat → Int32) × (Nat → Int32)) :=
  if l3 ≤ 0 then
    f_X6_add_L62 N l1 l2 l3 oc op os
  else
    (f_X6_goesBefore op os l1 l2 (l3 - 1)).bind fun t1 =>
    if t1 = 0 then
      f_X6_add_L62 N l1 l2 l3 oc op os
    else
      (f_X10_at 36 op (l3 - 1)).bind fun t2 =>
      (f_X10_at 36 os (l3 - 1)).bind fun t3 =>
      (f_X6_set op os l3 t2 t3).bind fun t4 =>
      r15 l1 l2 (l3 + (-1)) oc t4.1 t4.2
def f_X6_add_L15 (N : Nat)   : Nat → Int32 → Int32 → Int32 → Int32 → (Nat → Int32) → (Nat → Int32) → Option (Int32 × (Nat → Int32) × (Nat → Int32))
  | 0 => fun _ _ _ _ _ _ => none
  | j + 1 => f_X6_add_L15_F N (f_X6_add_L15 N j)
def f_X6_add (N : Nat)  (oc : Int32) (op : Nat → Int32) (os : Nat → Int32) (a0 : Int32) (a1 : Int32) : Option (Int32 × (Nat → Int32) × (Nat → Int32)) :=
  if oc < 36 then
    f_X6_add_L15 N N a0 a1 oc oc op os
  else
    some (oc, op, os)
def f_X6_removeFirst_L2_F (N : Nat)   (r2 : Int32 → Int32 → (Nat → Int32) → (Nat → Int32) → Option (Int32 × (Nat → Int32) × (Nat → Int32))) (l1 : Int32) (oc : Int32) (op : Nat → Int32) (os : Nat → Int32) : Option (Int32 × (Nat → Int32) × (Nat → Int32)) :=
  if oc ≤ l1 then
    some ((if 0 < (oc - 1) then (oc - 1) else 0), op, os)
  else
    (f_X10_at 36 op l1).bind fun t1 =>
    (f_X10_at 36 os l1).bind fun t2 =>
    (f_X6_set op os (l1 - 1) t1 t2).bind fun t3 =>
    r2 (l1 + 1) oc t3.1 t3.2
def f_X6_removeFirst_L2 (N : Nat)   : Nat → Int32 → Int32 → (Nat → Int32) → (Nat → Int32) → Option (Int32 × (Nat → Int32) × (Nat → Int32))
  | 0 => fun _ _ _ _ => none
  | j + 1 => f_X6_removeFirst_L2_F N (f_X6_removeFirst_L2 N j)
def f_X6_removeFirst (N : Nat)  (oc : Int32) (op : Nat → Int32) (os : Nat → Int32) : Option (Int32 × (Nat → Int32) × (Nat → Int32)) :=
  f_X6_removeFirst_L2 N N 1 oc op os
def f_X4_pairIn (en : Nat → Int32) (a0 : Int32) : Option (Int32) :=
  (f_X10_at 300 en a0).bind fun t1 =>
  some (t1 >>> (5 &&& 31))
def f_X4_faceIn (en : Nat → Int32) (a0 : Int32) : Option (Int32) :=
  (f_X10_at 300 en a0).bind fun t1 =>
  some ((t1 >>> (1 &&& 31)) &&& 15)
def f_X4_isMarked (en : Nat → Int32) (a0 : Int32) : Option (Int32) :=
  (f_X10_at 300 en a0).bind fun t1 =>
  if (t1 &&& 1) = 1 then
    some 1
  else
    some 0
def f_X4_removeLatest_L73 (N : Nat)  (r21 : Int32 → Int32 → Int32 → Int32 → Int32 → (Nat → Int32) → (Nat → Int32) → Option (Int32 × (Nat → Int32) × (Nat → Int32))) (l1 : Int32) (l3 : Int32) (l4 : Int32) (l5 : Int32) (tc : Int32) (en : Nat → Int32) (fr : Nat → Int32) : Option (Int32 × (Nat → Int32) × (Nat → Int32)) :=
  r21 l1 l3 l4 (l5 + 1) tc en fr
def f_X4_removeLatest_L64 (N : Nat)  (r21 : Int32 → Int32 → Int32 → Int32 → Int32 → (Nat → Int32) → (Nat → Int32) → Option (Int32 × (Nat → Int32) × (Nat → Int32))) (l1 : Int32) (l3 : Int32) (l4 : Int32) (l5 : Int32) (l6 : Int32) (tc : Int32) (en : Nat → Int32) (fr : Nat → Int32) : Option (Int32 × (Nat → Int32) × (Nat → Int32)) :=
  if l6 = l1 then
    f_X4_removeLatest_L73 N r21 l1 (l3 + (-1)) l4 l5 tc en fr
  else
    f_X4_removeLatest_L73 N r21 l1 l3 l4 l5 tc en fr
def f_X4_removeLatest_L46 (N : Nat)  (r21 : Int32 → Int32 → Int32 → Int32 → Int32 → (Nat → Int32) → (Nat → Int32) → Option (Int32 × (Nat → Int32) × (Nat → Int32))) (l1 : Int32) (l3 : Int32) (l4 : Int32) (l5 : Int32) (l6 : Int32) (tc : Int32) (en : Nat → Int32) (fr : Nat → Int32) : Option (Int32 × (Nat → Int32) × (Nat → Int32)) :=
  (f_X4_faceIn en l5).bind fun t4 =>
  (f_X4_isMarked en l5).bind fun t5 =>
  (f_X4_add tc en fr l6 t4 t5).bind fun t6 =>
  f_X4_removeLatest_L64 N r21 l1 l3 l4 l5 l6 t6.1 t6.2.1 t6.2.2
def f_X4_removeLatest_L21_F (N : Nat)   (r21 : Int32 → Int32 → Int32 → Int32 → Int32 → (Nat → Int32) → (Nat → Int32) → Option (Int32 × (Nat → Int32) × (Nat → Int32))) (l1 : Int32) (l3 : Int32) (l4 : Int32) (l5 : Int32) (tc : Int32) (en : Nat → Int32) (fr : Nat → Int32) : Option (Int32 × (Nat → Int32) × (Nat → Int32)) :=
  if l4 ≤ l5 then
    some (tc, en, fr)
  else
    (f_X4_pairIn en l5).bind fun t3 =>
    if t3 = l1 then
      if l3 ≤ 0 then
        f_X4_removeLatest_L64 N r21 l1 l3 l4 l5 t3 tc en fr
      else
        f_X4_removeLatest_L46 N r21 l1 l3 l4 l5 t3 tc en fr
    else
      f_X4_removeLatest_L46 N r21 l1 l3 l4 l5 t3 tc en fr
def f_X4_removeLatest_L21 (N : Nat)   : Nat → Int32 → Int32 → Int32 → Int32 → Int32 → (Nat → Int32) → (Nat → Int32) → Option (Int32 × (Nat → Int32) × (Nat → Int32))
  | 0 => fun _ _ _ _ _ _ _ => none
  | j + 1 => f_X4_removeLatest_L21_F N (f_X4_removeLatest_L21 N j)
def f_X4_removeLatest (N : Nat)  (tc : Int32) (en : Nat → Int32) (fr : Nat → Int32) (a0 : Int32) (a1 : Int32) : Option (Int32 × (Nat → Int32) × (Nat → Int32)) :=
  (f_X4_pairThrows N fr a0).bind fun t1 =>
  (f_X4_clear N tc fr).bind fun t2 =>
  f_X4_removeLatest_L21 N N a0 (t1 - a1) tc 0 t2.1 en t2.2
def f_X4_playerTotal_L13_F (N : Nat) (fr : Nat → Int32) (r4 : Int32 → Int32 → Int32 → Option (Int32)) (r13 : Int32 → Int32 → Int32 → Int32 → Option (Int32)) (l1 : Int32) (l2 : Int32) (l3 : Int32) (l4 : Int32) : Option (Int32) :=
  if 12 < l4 then
    r4 l1 l2 (l3 + 1)
  else
    (f_X10_pairOf l1 l3).bind fun t1 =>
    (f_X10_cellOf t1 l4).bind fun t2 =>
    (f_X10_at 432 fr t2).bind fun t3 =>
    r13 l1 (l2 + (l4 * t3)) l3 (l4 + 1)
def f_X4_playerTotal_L13 (N : Nat) (fr : Nat → Int32) (r4 : Int32 → Int32 → Int32 → Option (Int32)) : Nat → Int32 → Int32 → Int32 → Int32 → Option (Int32)
  | 0 => fun _ _ _ _ => none
  | j + 1 => f_X4_playerTotal_L13_F N fr r4 (f_X4_playerTotal_L13 N fr r4 j)
def f_X4_playerTotal_L4_F (N : Nat) (fr : Nat → Int32)  (r4 : Int32 → Int32 → Int32 → Option (Int32)) (l1 : Int32) (l2 : Int32) (l3 : Int32) : Option (Int32) :=
  if 6 ≤ l3 then
    some l2
  else
    f_X4_playerTotal_L13 N fr r4 N l1 l2 l3 1
def f_X4_playerTotal_L4 (N : Nat) (fr : Nat → Int32)  : Nat → Int32 → Int32 → Int32 → Option (Int32)
  | 0 => fun _ _ _ => none
  | j + 1 => f_X4_playerTotal_L4_F N fr (f_X4_playerTotal_L4 N fr j)
def f_X4_playerTotal (N : Nat) (fr : Nat → Int32) (a0 : Int32) : Option (Int32) :=
  f_X4_playerTotal_L4 N fr N a0 0 0
def f_X7_letter (lt : Nat → Int32) (a0 : Int32) (a1 : Int32) : Option (Int32) :=
  (f_X10_at 24 lt ((a0 * 4) + a1)).bind fun t1 =>
  some t1
def f_X7_comesBefore_L2_F (N : Nat) (lt : Nat → Int32)  (r2 : Int32 → Int32 → Int32 → Option (Int32)) (l1 : Int32) (l2 : Int32) (l3 : Int32) : Option (Int32) :=
  if 4 ≤ l3 then
    some 0
  else
    (f_X7_letter lt l1 l3).bind fun t1 =>
    (f_X7_letter lt l2 l3).bind fun t2 =>
    if (t1 - t2) = 0 then
      r2 l1 l2 (l3 + 1)
    else
      if 0 ≤ (t1 - t2) then
        some 0
      else
        some 1
def f_X7_comesBefore_L2 (N : Nat) (lt : Nat → Int32)  : Nat → Int32 → Int32 → Int32 → Option (Int32)
  | 0 => fun _ _ _ => none
  | j + 1 => f_X7_comesBefore_L2_F N lt (f_X7_comesBefore_L2 N lt j)
def f_X7_comesBefore (N : Nat) (lt : Nat → Int32) (a0 : Int32) (a1 : Int32) : Option (Int32) :=
  f_X7_comesBefore_L2 N lt N a0 a1 0
def f_X4_distinctFaces_L28 (N : Nat) (fr : Nat → Int32) (r4 : Int32 → Int32 → Int32 → Option (Int32)) (l1 : Int32) (l2 : Int32) (l3 : Int32) : Option (Int32) :=
  r4 l1 l2 (l3 + 1)
def f_X4_distinctFaces_L4_F (N : Nat) (fr : Nat → Int32)  (r4 : Int32 → Int32 → Int32 → Option (Int32)) (l1 : Int32) (l2 : Int32) (l3 : Int32) : Option (Int32) :=
  if 12 < l3 then
    some l2
  else
    (f_X10_cellOf l1 l3).bind fun t1 =>
    (f_X10_at 432 fr t1).bind fun t2 =>
    if t2 ≤ 0 then
      f_X4_distinctFaces_L28 N fr r4 l1 l2 l3
    else
      f_X4_distinctFaces_L28 N fr r4 l1 (l2 + 1) l3
def f_X4_distinctFaces_L4 (N : Nat) (fr : Nat → Int32)  : Nat → Int32 → Int32 → Int32 → Option (Int32)
  | 0 => fun _ _ _ => none
  | j + 1 => f_X4_distinctFaces_L4_F N fr (f_X4_distinctFaces_L4 N fr j)
def f_X4_distinctFaces (N : Nat) (fr : Nat → Int32) (a0 : Int32) : Option (Int32) :=
  f_X4_distinctFaces_L4 N fr N a0 0 1
def f_X4_latestOf_L7_F (N : Nat) (tc : Int32) (en : Nat → Int32)  (r7 : Int32 → Int32 → Option (Int32)) (l1 : Int32) (l2 : Int32) : Option (Int32) :=
  if l2 < 0 then
    some (-1)
  else
    (f_X4_pairIn en l2).bind fun t1 =>
    if t1 = l1 then
      some l2
    else
      r7 l1 (l2 + (-1))
def f_X4_latestOf_L7 (N : Nat) (tc : Int32) (en : Nat → Int32)  : Nat → Int32 → Int32 → Option (Int32)
  | 0 => fun _ _ => none
  | j + 1 => f_X4_latestOf_L7_F N tc en (f_X4_latestOf_L7 N tc en j)
def f_X4_latestOf (N : Nat) (tc : Int32) (en : Nat → Int32) (a0 : Int32) : Option (Int32) :=
  f_X4_latestOf_L7 N tc en N a0 (tc - 1)
def f_X4_playerThrows (N : Nat) (fr : Nat → Int32) (a0 : Int32) : Option (Int32) :=
  (f_X10_pairOf a0 0).bind fun t1 =>
  (f_X10_cellOf t1 1).bind fun t2 =>
  (f_X10_sumOf N 432 fr t2 72).bind fun t3 =>
  some t3
def f_X4_longestStreak_L65 (N : Nat) (tc : Int32) (en : Nat → Int32) (r10 : Int32 → Int32 → Int32 → Int32 → Int32 → Option (Int32)) (l1 : Int32) (l2 : Int32) (l3 : Int32) (l4 : Int32) (l5 : Int32) : Option (Int32) :=
  r10 l1 l2 l3 l4 (l5 + 1)
def f_X4_longestStreak_L50 (N : Nat) (tc : Int32) (en : Nat → Int32) (r10 : Int32 → Int32 → Int32 → Int32 → Int32 → Option (Int32)) (l1 : Int32) (l2 : Int32) (l5 : Int32) (s0 : Int32) : Option (Int32) :=
  (f_X4_faceIn en l5).bind fun t4 =>
  f_X4_longestStreak_L65 N tc en r10 l1 (if l2 < s0 then s0 else l2) s0 t4 l5
def f_X4_longestStreak_L10_F (N : Nat) (tc : Int32) (en : Nat → Int32)  (r10 : Int32 → Int32 → Int32 → Int32 → Int32 → Option (Int32)) (l1 : Int32) (l2 : Int32) (l3 : Int32) (l4 : Int32) (l5 : Int32) : Option (Int32) :=
  if tc ≤ l5 then
    some l2
  else
    (f_X4_pairIn en l5).bind fun t1 =>
    (f_X10_playerOf t1).bind fun t2 =>
    if t2 = l1 then
      (f_X4_faceIn en l5).bind fun t3 =>
      if t3 = l4 then
        f_X4_longestStreak_L50 N tc en r10 l1 l2 l5 (l3 + 1)
      else
        f_X4_longestStreak_L50 N tc en r10 l1 l2 l5 1
    else
      f_X4_longestStreak_L65 N tc en r10 l1 l2 l3 l4 l5
def f_X4_longestStreak_L10 (N : Nat) (tc : Int32) (en : Nat → Int32)  : Nat → Int32 → Int32 → Int32 → Int32 → Int32 → Option (Int32)
  | 0 => fun _ _ _ _ _ => none
  | j + 1 => f_X4_longestStreak_L10_F N tc en (f_X4_longestStreak_L10 N tc en j)
def f_X4_longestStreak (N : Nat) (tc : Int32) (en : Nat → Int32) (a0 : Int32) : Option (Int32) :=
  f_X4_longestStreak_L10 N tc en N a0 0 0 0 0
def f_X4_frequencySum (N : Nat) (fr : Nat → Int32)  : Option (Int32) :=
  (f_X10_sumOf N 432 fr 0 432).bind fun t1 =>
  some t1
def f_X4_faceSum_L4_F (N : Nat) (tc : Int32) (en : Nat → Int32)  (r4 : Int32 → Int32 → Option (Int32)) (l1 : Int32) (l2 : Int32) : Option (Int32) :=
  if tc ≤ l2 then
    some l1
  else
    (f_X4_faceIn en l2).bind fun t1 =>
    r4 (l1 + t1) (l2 + 1)
def f_X4_faceSum_L4 (N : Nat) (tc : Int32) (en : Nat → Int32)  : Nat → Int32 → Int32 → Option (Int32)
  | 0 => fun _ _ => none
  | j + 1 => f_X4_faceSum_L4_F N tc en (f_X4_faceSum_L4 N tc en j)
def f_X4_faceSum (N : Nat) (tc : Int32) (en : Nat → Int32)  : Option (Int32) :=
  f_X4_faceSum_L4 N tc en N 0 0
def f_X4_markedThrows_L23 (N : Nat) (tc : Int32) (en : Nat → Int32) (r4 : Int32 → Int32 → Option (Int32)) (l1 : Int32) (l2 : Int32) : Option (Int32) :=
  r4 l1 (l2 + 1)
def f_X4_markedThrows_L4_F (N : Nat) (tc : Int32) (en : Nat → Int32)  (r4 : Int32 → Int32 → Option (Int32)) (l1 : Int32) (l2 : Int32) : Option (Int32) :=
  if tc ≤ l2 then
    some l1
  else
    (f_X4_isMarked en l2).bind fun t1 =>
    if t1 = 0 then
      f_X4_markedThrows_L23 N tc en r4 l1 l2
    else
      f_X4_markedThrows_L23 N tc en r4 (l1 + 1) l2
def f_X4_markedThrows_L4 (N : Nat) (tc : Int32) (en : Nat → Int32)  : Nat → Int32 → Int32 → Option (Int32)
  | 0 => fun _ _ => none
  | j + 1 => f_X4_markedThrows_L4_F N tc en (f_X4_markedThrows_L4 N tc en j)
def f_X4_markedThrows (N : Nat) (tc : Int32) (en : Nat → Int32)  : Option (Int32) :=
  f_X4_markedThrows_L4 N tc en N 0 0
def f_X8_byteIn (tl : Int32) (tb : Nat → Int32) (a0 : Int32) : Option (Int32) :=
  if a0 < 0 then
    some (-1)
  else
    if tl ≤ a0 then
      some (-1)
    else
      if 900 ≤ a0 then
        some (-1)
      else
        gd (inb a0 900) <|
        some (tb (Int32.toNatClampNeg a0))
def f_X7_isNamed_L24_F (N : Nat) (ln : Nat → Int32) (lt : Nat → Int32) (tl : Int32) (tb : Nat → Int32)  (r24 : Int32 → Int32 → Int32 → Int32 → Option (Int32)) (l1 : Int32) (l3 : Int32) (l5 : Int32) (l6 : Int32) : Option (Int32) :=
  if l5 ≤ l6 then
    some 1
  else
    (f_X10_at 24 lt ((l1 * 4) + l6)).bind fun t2 =>
    (f_X8_byteIn tl tb (l3 + l6)).bind fun t3 =>
    if t2 = t3 then
      r24 l1 l3 l5 (l6 + 1)
    else
      some 0
def f_X7_isNamed_L24 (N : Nat) (ln : Nat → Int32) (lt : Nat → Int32) (tl : Int32) (tb : Nat → Int32)  : Nat → Int32 → Int32 → Int32 → Int32 → Option (Int32)
  | 0 => fun _ _ _ _ => none
  | j + 1 => f_X7_isNamed_L24_F N ln lt tl tb (f_X7_isNamed_L24 N ln lt tl tb j)
def f_X7_isNamed (N : Nat) (ln : Nat → Int32) (lt : Nat → Int32) (tl : Int32) (tb : Nat → Int32) (a0 : Int32) (a2 : Int32) (a3 : Int32) : Option (Int32) :=
  (f_X10_at 6 ln a0).bind fun t1 =>
  if t1 = (a3 - a2) then
    f_X7_isNamed_L24 N ln lt tl tb N a0 a2 t1 0
  else
    some 0
def f_X7_find_L3_F (N : Nat) (pc : Int32) (ln : Nat → Int32) (lt : Nat → Int32) (tl : Int32) (tb : Nat → Int32)  (r3 : Int32 → Int32 → Int32 → Option (Int32)) (l2 : Int32) (l3 : Int32) (l4 : Int32) : Option (Int32) :=
  if pc ≤ l4 then
    some (-1)
  else
    (f_X7_isNamed N ln lt tl tb l4 l2 l3).bind fun t1 =>
    if t1 = 0 then
      r3 l2 l3 (l4 + 1)
    else
      some l4
def f_X7_find_L3 (N : Nat) (pc : Int32) (ln : Nat → Int32) (lt : Nat → Int32) (tl : Int32) (tb : Nat → Int32)  : Nat → Int32 → Int32 → Int32 → Option (Int32)
  | 0 => fun _ _ _ => none
  | j + 1 => f_X7_find_L3_F N pc ln lt tl tb (f_X7_find_L3 N pc ln lt tl tb j)
def f_X7_find (N : Nat) (pc : Int32) (ln : Nat → Int32) (lt : Nat → Int32) (tl : Int32) (tb : Nat → Int32) (a1 : Int32) (a2 : Int32) : Option (Int32) :=
  f_X7_find_L3 N pc ln lt tl tb N a1 a2 0
def f_X7_add_L52 (N : Nat) (tl : Int32) (tb : Nat → Int32) (r13 : Int32 → Int32 → Int32 → Int32 → (Nat → Int32) → (Nat → Int32) → Option (Int32 × (Nat → Int32) × (Nat → Int32))) (l2 : Int32) (l3 : Int32) (l4 : Int32) (s0 : Int32) (s1 : Int32) (pc : Int32) (ln : Nat → Int32) (lt : Nat → Int32) : Option (Int32 × (Nat → Int32) × (Nat → Int32)) :=
  (f_X10_put 24 lt s1 s0).bind fun t2 =>
  r13 l2 l3 (l4 + 1) pc ln t2
def f_X7_add_L13_F (N : Nat) (tl : Int32) (tb : Nat → Int32)  (r13 : Int32 → Int32 → Int32 → Int32 → (Nat → Int32) → (Nat → Int32) → Option (Int32 × (Nat → Int32) × (Nat → Int32))) (l2 : Int32) (l3 : Int32) (l4 : Int32) (pc : Int32) (ln : Nat → Int32) (lt : Nat → Int32) : Option (Int32 × (Nat → Int32) × (Nat → Int32)) :=
  if 4 ≤ l4 then
    (f_X10_put 6 ln pc (l3 - l2)).bind fun t1 =>
    some ((pc + 1), t1, lt)
  else
    if l3 ≤ (l2 + l4) then
      f_X7_add_L52 N tl tb r13 l2 l3 l4 0 ((pc * 4) + l4) pc ln lt
    else
      (f_X8_byteIn tl tb (l2 + l4)).bind fun t2 =>
      f_X7_add_L52 N tl tb r13 l2 l3 l4 t2 ((pc * 4) + l4) pc ln lt
def f_X7_add_L13 (N : Nat) (tl : Int32) (tb : Nat → Int32)  : Nat → Int32 → Int32 → Int32 → Int32 → (Nat → Int32) → (Nat → Int32) → Option (Int32 × (Nat → Int32) × (Nat → Int32))
  | 0 => fun _ _ _ _ _ _ => none
  | j + 1 => f_X7_add_L13_F N tl tb (f_X7_add_L13 N tl tb j)
def f_X7_add (N : Nat) (tl : Int32) (tb : Nat → Int32) (pc : Int32) (ln : Nat → Int32) (lt : Nat → Int32) (a1 : Int32) (a2 : Int32) : Option (Int32 × (Nat → Int32) × (Nat → Int32)) :=
  if pc < 6 then
    f_X7_add_L13 N tl tb N a1 a2 0 pc ln lt
  else
    some (pc, ln, lt)
def f_X6_removeAllOf_L51 (N : Nat)  (r4 : Int32 → Int32 → Int32 → Int32 → (Nat → Int32) → (Nat → Int32) → Option (Int32 × Int32 × (Nat → Int32) × (Nat → Int32))) (l1 : Int32) (l2 : Int32) (l3 : Int32) (oc : Int32) (op : Nat → Int32) (os : Nat → Int32) : Option (Int32 × Int32 × (Nat → Int32) × (Nat → Int32)) :=
  r4 l1 l2 (l3 + 1) oc op os
def f_X6_removeAllOf_L4_F (N : Nat)   (r4 : Int32 → Int32 → Int32 → Int32 → (Nat → Int32) → (Nat → Int32) → Option (Int32 × Int32 × (Nat → Int32) × (Nat → Int32))) (l1 : Int32) (l2 : Int32) (l3 : Int32) (oc : Int32) (op : Nat → Int32) (os : Nat → Int32) : Option (Int32 × Int32 × (Nat → Int32) × (Nat → Int32)) :=
  if oc ≤ l3 then
    some ((oc - l2), l2, op, os)
  else
    (f_X10_at 36 op l3).bind fun t1 =>
    (f_X10_playerOf t1).bind fun t2 =>
    if t2 = l1 then
      f_X6_removeAllOf_L51 N r4 l1 l2 l3 oc op os
    else
      (f_X10_at 36 op l3).bind fun t3 =>
      (f_X10_at 36 os l3).bind fun t4 =>
      (f_X6_set op os l2 t3 t4).bind fun t5 =>
      f_X6_removeAllOf_L51 N r4 l1 (l2 + 1) l3 oc t5.1 t5.2
def f_X6_removeAllOf_L4 (N : Nat)   : Nat → Int32 → Int32 → Int32 → Int32 → (Nat → Int32) → (Nat → Int32) → Option (Int32 × Int32 × (Nat → Int32) × (Nat → Int32))
  | 0 => fun _ _ _ _ _ _ => none
  | j + 1 => f_X6_removeAllOf_L4_F N (f_X6_removeAllOf_L4 N j)
def f_X6_removeAllOf (N : Nat)  (oc : Int32) (op : Nat → Int32) (os : Nat → Int32) (a0 : Int32) : Option (Int32 × Int32 × (Nat → Int32) × (Nat → Int32)) :=
  f_X6_removeAllOf_L4 N N a0 0 0 oc op os
def f_X6_countOf_L30 (N : Nat) (oc : Int32) (op : Nat → Int32) (r4 : Int32 → Int32 → Int32 → Option (Int32)) (l1 : Int32) (l2 : Int32) (l3 : Int32) : Option (Int32) :=
  r4 l1 l2 (l3 + 1)
def f_X6_countOf_L4_F (N : Nat) (oc : Int32) (op : Nat → Int32)  (r4 : Int32 → Int32 → Int32 → Option (Int32)) (l1 : Int32) (l2 : Int32) (l3 : Int32) : Option (Int32) :=
  if oc ≤ l3 then
    some l2
  else
    (f_X10_at 36 op l3).bind fun t1 =>
    (f_X10_playerOf t1).bind fun t2 =>
    if t2 = l1 then
      f_X6_countOf_L30 N oc op r4 l1 (l2 + 1) l3
    else
      f_X6_countOf_L30 N oc op r4 l1 l2 l3
def f_X6_countOf_L4 (N : Nat) (oc : Int32) (op : Nat → Int32)  : Nat → Int32 → Int32 → Int32 → Option (Int32)
  | 0 => fun _ _ _ => none
  | j + 1 => f_X6_countOf_L4_F N oc op (f_X6_countOf_L4 N oc op j)
def f_X6_countOf (N : Nat) (oc : Int32) (op : Nat → Int32) (a0 : Int32) : Option (Int32) :=
  f_X6_countOf_L4 N oc op N a0 0 0
def f_X7_nameLength (ln : Nat → Int32) (a0 : Int32) : Option (Int32) :=
  (f_X10_at 6 ln a0).bind fun t1 =>
  some t1
def f_X7_placeByName_L24 (N : Nat) (pc : Int32) (lt : Nat → Int32) (r4 : Int32 → Int32 → Int32 → Option (Int32)) (l1 : Int32) (l2 : Int32) (l3 : Int32) : Option (Int32) :=
  r4 l1 l2 (l3 + 1)
def f_X7_placeByName_L4_F (N : Nat) (pc : Int32) (lt : Nat → Int32)  (r4 : Int32 → Int32 → Int32 → Option (Int32)) (l1 : Int32) (l2 : Int32) (l3 : Int32) : Option (Int32) :=
  if pc ≤ l3 then
    some l2
  else
    (f_X7_comesBefore N lt l3 l1).bind fun t1 =>
    if t1 = 0 then
      f_X7_placeByName_L24 N pc lt r4 l1 l2 l3
    else
      f_X7_placeByName_L24 N pc lt r4 l1 (l2 + 1) l3
def f_X7_placeByName_L4 (N : Nat) (pc : Int32) (lt : Nat → Int32)  : Nat → Int32 → Int32 → Int32 → Option (Int32)
  | 0 => fun _ _ _ => none
  | j + 1 => f_X7_placeByName_L4_F N pc lt (f_X7_placeByName_L4 N pc lt j)
def f_X7_placeByName (N : Nat) (pc : Int32) (lt : Nat → Int32) (a0 : Int32) : Option (Int32) :=
  f_X7_placeByName_L4 N pc lt N a0 0 0
def f_X7_playerInPlace_L2_F (N : Nat) (pc : Int32) (lt : Nat → Int32)  (r2 : Int32 → Int32 → Option (Int32)) (l1 : Int32) (l2 : Int32) : Option (Int32) :=
  if pc ≤ l2 then
    some (-1)
  else
    (f_X7_placeByName N pc lt l2).bind fun t1 =>
    if t1 = l1 then
      some l2
    else
      r2 l1 (l2 + 1)
def f_X7_playerInPlace_L2 (N : Nat) (pc : Int32) (lt : Nat → Int32)  : Nat → Int32 → Int32 → Option (Int32)
  | 0 => fun _ _ => none
  | j + 1 => f_X7_playerInPlace_L2_F N pc lt (f_X7_playerInPlace_L2 N pc lt j)
def f_X7_playerInPlace (N : Nat) (pc : Int32) (lt : Nat → Int32) (a0 : Int32) : Option (Int32) :=
  f_X7_playerInPlace_L2 N pc lt N a0 0
def f_X8_append  (tl : Int32) (tb : Nat → Int32) (a0 : Int32) : Option (Int32 × (Nat → Int32)) :=
  if 900 ≤ tl then
    some (tl, tb)
  else
    (f_X10_put 900 tb tl a0).bind fun t1 =>
    some ((tl + 1), t1)
def f_X8_appendWord_L3_F (N : Nat)   (r3 : Int32 → Int32 → Int32 → (Nat → Int32) → Option (Int32 × (Nat → Int32))) (l1 : Int32) (l2 : Int32) (tl : Int32) (tb : Nat → Int32) : Option (Int32 × (Nat → Int32)) :=
  if l2 < 0 then
    some (tl, tb)
  else
    (f_X8_append tl tb ((l1 >>> (l2 &&& 31)) &&& 255)).bind fun t1 =>
    r3 l1 (l2 + (-8)) t1.1 t1.2
def f_X8_appendWord_L3 (N : Nat)   : Nat → Int32 → Int32 → Int32 → (Nat → Int32) → Option (Int32 × (Nat → Int32))
  | 0 => fun _ _ _ _ => none
  | j + 1 => f_X8_appendWord_L3_F N (f_X8_appendWord_L3 N j)
def f_X8_appendWord (N : Nat)  (tl : Int32) (tb : Nat → Int32) (a0 : Int32) : Option (Int32 × (Nat → Int32)) :=
  f_X8_appendWord_L3 N N a0 24 tl tb
def f_X8_appendString_L2_F (N : Nat)  (sj : Nat)  (r2 : Int32 → Int32 → (Nat → Int32) → Option (Int32 × (Nat → Int32))) (l2 : Int32) (tl : Int32) (tb : Nat → Int32) : Option (Int32 × (Nat → Int32)) :=
  if (kSl sj) ≤ l2 then
    some (tl, tb)
  else
    gd (inb l2 (kSn sj)) <|
    (f_X8_append tl tb (kSc sj l2)).bind fun t1 =>
    r2 (l2 + 1) t1.1 t1.2
def f_X8_appendString_L2 (N : Nat)  (sj : Nat)  : Nat → Int32 → Int32 → (Nat → Int32) → Option (Int32 × (Nat → Int32))
  | 0 => fun _ _ _ => none
  | j + 1 => f_X8_appendString_L2_F N sj (f_X8_appendString_L2 N sj j)
def f_X8_appendString (N : Nat)  (sj : Nat) (tl : Int32) (tb : Nat → Int32) : Option (Int32 × (Nat → Int32)) :=
  f_X8_appendString_L2 N sj N 0 tl tb
def f_X8_appendSeparator  (tl : Int32) (tb : Nat → Int32) (a0 : Int32) : Option (Int32 × (Nat → Int32)) :=
  if tl ≤ 0 then
    some (tl, tb)
  else
    (f_X8_append tl tb a0).bind fun t1 =>
    some (t1.1, t1.2)
def f_X8_appendNumber_L32 (N : Nat)  (r4 : Int32 → Int32 → Int32 → (Nat → Int32) → Option (Int32 × (Nat → Int32))) (l1 : Int32) (l2 : Int32) (tl : Int32) (tb : Nat → Int32) : Option (Int32 × (Nat → Int32)) :=
  r4 l1 (l2 / 10) tl tb
def f_X8_appendNumber_L19 (N : Nat)  (r4 : Int32 → Int32 → Int32 → (Nat → Int32) → Option (Int32 × (Nat → Int32))) (l1 : Int32) (l2 : Int32) (tl : Int32) (tb : Nat → Int32) : Option (Int32 × (Nat → Int32)) :=
  gd (nz l2) <|
  (f_X8_append tl tb (48 + ((l1 / l2) - (l1 / l2) / 10 * 10))).bind fun t1 =>
  f_X8_appendNumber_L32 N r4 l1 l2 t1.1 t1.2
def f_X8_appendNumber_L4_F (N : Nat)   (r4 : Int32 → Int32 → Int32 → (Nat → Int32) → Option (Int32 × (Nat → Int32))) (l1 : Int32) (l2 : Int32) (tl : Int32) (tb : Nat → Int32) : Option (Int32 × (Nat → Int32)) :=
  if l2 < 1 then
    some (tl, tb)
  else
    if l2 ≤ l1 then
      f_X8_appendNumber_L19 N r4 l1 l2 tl tb
    else
      if l2 = 1 then
        f_X8_appendNumber_L19 N r4 l1 l2 tl tb
      else
        f_X8_appendNumber_L32 N r4 l1 l2 tl tb
def f_X8_appendNumber_L4 (N : Nat)   : Nat → Int32 → Int32 → Int32 → (Nat → Int32) → Option (Int32 × (Nat → Int32))
  | 0 => fun _ _ _ _ => none
  | j + 1 => f_X8_appendNumber_L4_F N (f_X8_appendNumber_L4 N j)
def f_X8_appendNumber (N : Nat)  (tl : Int32) (tb : Nat → Int32) (a0 : Int32) : Option (Int32 × (Nat → Int32)) :=
  f_X8_appendNumber_L4 N N a0 1000 tl tb
def f_X8_cutTo  (tl : Int32) (a0 : Int32) : Option (Int32) :=
  some a0
def f_X1_begin_L16_F (N : Nat) (sd : Int32) (fr : Nat → Int32)  (r16 : Int32 → Int32 → Int32 → Int32 → (Nat → Int32) → Option (Int32 × Int32 × (Nat → Int32))) (l2 : Int32) (l4 : Int32) (fd : Int32) (fs : Int32) (ff : Nat → Int32) : Option (Int32 × Int32 × (Nat → Int32)) :=
  if 12 < l4 then
    some (fd, fs, ff)
  else
    (f_X10_pairOf l2 fd).bind fun t1 =>
    (f_X10_cellOf t1 l4).bind fun t2 =>
    (f_X10_at 432 fr t2).bind fun t3 =>
    (f_X10_put 12 ff (l4 - 1) t3).bind fun t4 =>
    r16 l2 (l4 + 1) fd fs t4
def f_X1_begin_L16 (N : Nat) (sd : Int32) (fr : Nat → Int32)  : Nat → Int32 → Int32 → Int32 → Int32 → (Nat → Int32) → Option (Int32 × Int32 × (Nat → Int32))
  | 0 => fun _ _ _ _ _ => none
  | j + 1 => f_X1_begin_L16_F N sd fr (f_X1_begin_L16 N sd fr j)
def f_X1_begin (N : Nat) (sd : Int32) (fr : Nat → Int32) (fd : Int32) (fs : Int32) (ff : Nat → Int32) (a1 : Int32) (a2 : Int32) : Option (Int32 × Int32 × (Nat → Int32)) :=
  f_X1_begin_L16 N sd fr N a1 1 a2 sd ff
def f_X1_throwOnce (N : Nat) (fd : Int32) (fc : Nat → Int32) (dw : Nat → Int32) (fs : Int32) (ff : Nat → Int32) : Option (Int32 × (Nat → Int32)) :=
  (f_X10_nextSeed fs).bind fun t1 =>
  (f_X0_faceShown N fc dw fd t1).bind fun t2 =>
  (f_X10_at 12 ff (t2 - 1)).bind fun t3 =>
  (f_X10_put 12 ff (t2 - 1) (t3 + 1)).bind fun t4 =>
  some (t1, t4)
def f_X1_made (N : Nat) (ff : Nat → Int32)  : Option (Int32) :=
  (f_X10_sumOf N 12 ff 0 12).bind fun t1 =>
  some t1
def f_X1_presentScore (N : Nat) (fd : Int32) (ff : Nat → Int32) (fc : Nat → Int32)  : Option (Int32) :=
  (f_X0_faceCount fc fd).bind fun t1 =>
  (f_X10_testScore N 12 ff 0 t1).bind fun t2 =>
  some t2
def f_X2_begin (N : Nat)  (sd : Int32) (mn : Int32) (th : Int32) (dc : Int32) (pc : Int32) (tc : Int32) (fr : Nat → Int32) (oc : Int32) (a0 : Int32) (a1 : Int32) (a2 : Int32) : Option (Int32 × Int32 × Int32 × Int32 × Int32 × Int32 × (Nat → Int32) × Int32) :=
  (f_X0_clear dc).bind fun t1 =>
  (f_X7_clear pc).bind fun t2 =>
  (f_X4_clear N tc fr).bind fun t3 =>
  (f_X6_clear oc).bind fun t4 =>
  some (a0, a1, a2, t1, t2, t3.1, t3.2, t4)
def f_X2_copyFrom (y_sd : Int32) (y_mn : Int32) (y_th : Int32) (y_dc : Int32) (y_fc : Nat → Int32) (y_dw : Nat → Int32) (y_pc : Int32) (y_ln : Nat → Int32) (y_lt : Nat → Int32) (y_tc : Int32) (y_en : Nat → Int32) (y_fr : Nat → Int32) (y_oc : Int32) (y_op : Nat → Int32) (y_os : Nat → Int32) (sd : Int32) (mn : Int32) (th : Int32) (dc : Int32) (fc : Nat → Int32) (dw : Nat → Int32) (pc : Int32) (ln : Nat → Int32) (lt : Nat → Int32) (tc : Int32) (en : Nat → Int32) (fr : Nat → Int32) (oc : Int32) (op : Nat → Int32) (os : Nat → Int32) : Option (Int32 × Int32 × Int32 × Int32 × (Nat → Int32) × (Nat → Int32) × Int32 × (Nat → Int32) × (Nat → Int32) × Int32 × (Nat → Int32) × (Nat → Int32) × Int32 × (Nat → Int32) × (Nat → Int32)) :=
  (f_X0_copyFrom y_dc y_fc y_dw dc fc dw).bind fun t1 =>
  (f_X7_copyFrom y_pc y_ln y_lt pc ln lt).bind fun t2 =>
  (f_X4_copyFrom y_tc y_en y_fr tc en fr).bind fun t3 =>
  (f_X6_copyFrom y_oc y_op y_os oc op os).bind fun t4 =>
  some (y_sd, y_mn, y_th, t1.1, t1.2.1, t1.2.2, t2.1, t2.2.1, t2.2.2, t3.1, t3.2.1, t3.2.2, t4.1, t4.2.1, t4.2.2)
def f_X2_makeThrows_L62 (N : Nat) (fc : Nat → Int32) (dw : Nat → Int32) (r12 : Int32 → Int32 → Int32 → Int32 → Int32 → Int32 → Int32 → Int32 → (Nat → Int32) → (Nat → Int32) → Option (Int32 × Int32 × Int32 × (Nat → Int32) × (Nat → Int32))) (l1 : Int32) (l2 : Int32) (l3 : Int32) (l4 : Int32) (l5 : Int32) (l6 : Int32) (s0 : Int32) (sd : Int32) (tc : Int32) (en : Nat → Int32) (fr : Nat → Int32) : Option (Int32 × Int32 × Int32 × (Nat → Int32) × (Nat → Int32)) :=
  (f_X4_add tc en fr l1 s0 l3).bind fun t4 =>
  r12 l1 l2 l3 l4 (l5 + s0) (l6 + 1) sd t4.1 t4.2.1 t4.2.2
def f_X2_makeThrows_L12_F (N : Nat) (fc : Nat → Int32) (dw : Nat → Int32)  (r12 : Int32 → Int32 → Int32 → Int32 → Int32 → Int32 → Int32 → Int32 → (Nat → Int32) → (Nat → Int32) → Option (Int32 × Int32 × Int32 × (Nat → Int32) × (Nat → Int32))) (l1 : Int32) (l2 : Int32) (l3 : Int32) (l4 : Int32) (l5 : Int32) (l6 : Int32) (sd : Int32) (tc : Int32) (en : Nat → Int32) (fr : Nat → Int32) : Option (Int32 × Int32 × Int32 × (Nat → Int32) × (Nat → Int32)) :=
  if l2 ≤ l6 then
    some (l5, sd, tc, en, fr)
  else
    (f_X10_nextSeed sd).bind fun t2 =>
    if l3 = 0 then
      (f_X0_faceShown N fc dw l4 t2).bind fun t3 =>
      f_X2_makeThrows_L62 N fc dw r12 l1 l2 l3 l4 l5 l6 t3 t2 tc en fr
    else
      (f_X0_fairFaceShown fc l4 t2).bind fun t4 =>
      f_X2_makeThrows_L62 N fc dw r12 l1 l2 l3 l4 l5 l6 t4 t2 tc en fr
def f_X2_makeThrows_L12 (N : Nat) (fc : Nat → Int32) (dw : Nat → Int32)  : Nat → Int32 → Int32 → Int32 → Int32 → Int32 → Int32 → Int32 → Int32 → (Nat → Int32) → (Nat → Int32) → Option (Int32 × Int32 × Int32 × (Nat → Int32) × (Nat → Int32))
  | 0 => fun _ _ _ _ _ _ _ _ _ _ => none
  | j + 1 => f_X2_makeThrows_L12_F N fc dw (f_X2_makeThrows_L12 N fc dw j)
def f_X2_makeThrows (N : Nat) (fc : Nat → Int32) (dw : Nat → Int32) (sd : Int32) (tc : Int32) (en : Nat → Int32) (fr : Nat → Int32) (a0 : Int32) (a1 : Int32) (a2 : Int32) : Option (Int32 × Int32 × Int32 × (Nat → Int32) × (Nat → Int32)) :=
  (f_X10_dieOf a0).bind fun t1 =>
  f_X2_makeThrows_L12 N fc dw N a0 a1 a2 t1 0 0 sd tc en fr
def f_X2_pairScore (N : Nat) (fc : Nat → Int32) (fr : Nat → Int32) (a0 : Int32) : Option (Int32) :=
  (f_X10_cellOf a0 1).bind fun t1 =>
  (f_X10_dieOf a0).bind fun t2 =>
  (f_X0_faceCount fc t2).bind fun t3 =>
  (f_X10_testScore N 432 fr t1 t3).bind fun t4 =>
  some t4
def f_X2_exceedsLimits (mn : Int32) (th : Int32) (a0 : Int32) (a1 : Int32) : Option (Int32) :=
  if a0 < mn then
    some 0
  else
    if a1 ≤ th then
      some 0
    else
      some 1
def f_X2_isPairSuspicious (N : Nat) (mn : Int32) (th : Int32) (fc : Nat → Int32) (fr : Nat → Int32) (a0 : Int32) : Option (Int32) :=
  (f_X4_pairThrows N fr a0).bind fun t1 =>
  (f_X2_pairScore N fc fr a0).bind fun t2 =>
  (f_X2_exceedsLimits mn th t1 t2).bind fun t3 =>
  some t3
def f_X2_countSuspicious_L21 (N : Nat) (mn : Int32) (th : Int32) (fc : Nat → Int32) (fr : Nat → Int32) (r4 : Int32 → Int32 → Option (Int32)) (l1 : Int32) (l2 : Int32) : Option (Int32) :=
  r4 l1 (l2 + 1)
def f_X2_countSuspicious_L4_F (N : Nat) (mn : Int32) (th : Int32) (fc : Nat → Int32) (fr : Nat → Int32)  (r4 : Int32 → Int32 → Option (Int32)) (l1 : Int32) (l2 : Int32) : Option (Int32) :=
  if 36 ≤ l2 then
    some l1
  else
    (f_X2_isPairSuspicious N mn th fc fr l2).bind fun t1 =>
    if t1 = 0 then
      f_X2_countSuspicious_L21 N mn th fc fr r4 l1 l2
    else
      f_X2_countSuspicious_L21 N mn th fc fr r4 (l1 + 1) l2
def f_X2_countSuspicious_L4 (N : Nat) (mn : Int32) (th : Int32) (fc : Nat → Int32) (fr : Nat → Int32)  : Nat → Int32 → Int32 → Option (Int32)
  | 0 => fun _ _ => none
  | j + 1 => f_X2_countSuspicious_L4_F N mn th fc fr (f_X2_countSuspicious_L4 N mn th fc fr j)
def f_X2_countSuspicious (N : Nat) (mn : Int32) (th : Int32) (fc : Nat → Int32) (fr : Nat → Int32)  : Option (Int32) :=
  f_X2_countSuspicious_L4 N mn th fc fr N 0 0
def f_X2_pairWithGreatestScore_L30 (N : Nat) (fc : Nat → Int32) (fr : Nat → Int32) (r6 : Int32 → Int32 → Int32 → Option (Int32)) (l1 : Int32) (l2 : Int32) (l3 : Int32) : Option (Int32) :=
  r6 l1 l2 (l3 + 1)
def f_X2_pairWithGreatestScore_L6_F (N : Nat) (fc : Nat → Int32) (fr : Nat → Int32)  (r6 : Int32 → Int32 → Int32 → Option (Int32)) (l1 : Int32) (l2 : Int32) (l3 : Int32) : Option (Int32) :=
  if 36 ≤ l3 then
    some l1
  else
    (f_X2_pairScore N fc fr l3).bind fun t1 =>
    if t1 ≤ l2 then
      f_X2_pairWithGreatestScore_L30 N fc fr r6 l1 l2 l3
    else
      f_X2_pairWithGreatestScore_L30 N fc fr r6 l3 t1 l3
def f_X2_pairWithGreatestScore_L6 (N : Nat) (fc : Nat → Int32) (fr : Nat → Int32)  : Nat → Int32 → Int32 → Int32 → Option (Int32)
  | 0 => fun _ _ _ => none
  | j + 1 => f_X2_pairWithGreatestScore_L6_F N fc fr (f_X2_pairWithGreatestScore_L6 N fc fr j)
def f_X2_pairWithGreatestScore (N : Nat) (fc : Nat → Int32) (fr : Nat → Int32)  : Option (Int32) :=
  f_X2_pairWithGreatestScore_L6 N fc fr N 0 0 0
def f_X2_holdAudit_L58 (N : Nat) (mn : Int32) (th : Int32) (fc : Nat → Int32) (fr : Nat → Int32) (r10 : Int32 → Int32 → Int32 → (Nat → Int32) → (Nat → Int32) → Option (Int32 × Int32 × (Nat → Int32) × (Nat → Int32))) (l1 : Int32) (l2 : Int32) (oc : Int32) (op : Nat → Int32) (os : Nat → Int32) : Option (Int32 × Int32 × (Nat → Int32) × (Nat → Int32)) :=
  r10 l1 (l2 + 1) oc op os
def f_X2_holdAudit_L10_F (N : Nat) (mn : Int32) (th : Int32) (fc : Nat → Int32) (fr : Nat → Int32)  (r10 : Int32 → Int32 → Int32 → (Nat → Int32) → (Nat → Int32) → Option (Int32 × Int32 × (Nat → Int32) × (Nat → Int32))) (l1 : Int32) (l2 : Int32) (oc : Int32) (op : Nat → Int32) (os : Nat → Int32) : Option (Int32 × Int32 × (Nat → Int32) × (Nat → Int32)) :=
  if 36 ≤ l2 then
    some ((oc - l1), oc, op, os)
  else
    (f_X2_pairScore N fc fr l2).bind fun t1 =>
    (f_X4_pairThrows N fr l2).bind fun t2 =>
    (f_X2_exceedsLimits mn th t2 t1).bind fun t3 =>
    if t3 = 0 then
      f_X2_holdAudit_L58 N mn th fc fr r10 l1 l2 oc op os
    else
      (f_X6_has N oc op l2).bind fun t4 =>
      if t4 = 0 then
        (f_X6_add N oc op os l2 t1).bind fun t5 =>
        f_X2_holdAudit_L58 N mn th fc fr r10 l1 l2 t5.1 t5.2.1 t5.2.2
      else
        f_X2_holdAudit_L58 N mn th fc fr r10 l1 l2 oc op os
def f_X2_holdAudit_L10 (N : Nat) (mn : Int32) (th : Int32) (fc : Nat → Int32) (fr : Nat → Int32)  : Nat → Int32 → Int32 → Int32 → (Nat → Int32) → (Nat → Int32) → Option (Int32 × Int32 × (Nat → Int32) × (Nat → Int32))
  | 0 => fun _ _ _ _ _ => none
  | j + 1 => f_X2_holdAudit_L10_F N mn th fc fr (f_X2_holdAudit_L10 N mn th fc fr j)
def f_X2_holdAudit (N : Nat) (mn : Int32) (th : Int32) (fc : Nat → Int32) (fr : Nat → Int32) (oc : Int32) (op : Nat → Int32) (os : Nat → Int32) : Option (Int32 × Int32 × (Nat → Int32) × (Nat → Int32)) :=
  f_X2_holdAudit_L10 N mn th fc fr N oc 0 oc op os
def f_X2_penanceSize (N : Nat) (fr : Nat → Int32) (oc : Int32) (op : Nat → Int32) (os : Nat → Int32)  : Option (Int32) :=
  if oc = 0 then
    some 0
  else
    (f_X10_at 36 os 0).bind fun t1 =>
    (f_X10_at 36 op 0).bind fun t2 =>
    (f_X4_pairThrows N fr t2).bind fun t3 =>
    some (if t3 < t1 then t3 else t1)
def f_X2_doPenance (N : Nat) (fc : Nat → Int32) (dw : Nat → Int32) (sd : Int32) (tc : Int32) (en : Nat → Int32) (fr : Nat → Int32) (oc : Int32) (op : Nat → Int32) (os : Nat → Int32) : Option (Int32 × Int32 × Int32 × (Nat → Int32) × (Nat → Int32) × Int32 × (Nat → Int32) × (Nat → Int32)) :=
  (f_X2_penanceSize N fr oc op os).bind fun t1 =>
  (f_X10_at 36 op 0).bind fun t2 =>
  (f_X6_removeFirst N oc op os).bind fun t3 =>
  (f_X4_removeLatest N tc en fr t2 t1).bind fun t4 =>
  (f_X2_makeThrows N fc dw sd t4.1 t4.2.1 t4.2.2 t2 t1 1).bind fun t5 =>
  some (t5.1, t5.2.1, t5.2.2.1, t5.2.2.2.1, t5.2.2.2.2, t3.1, t3.2.1, t3.2.2)
def f_X2_ranksBefore (N : Nat) (lt : Nat → Int32) (fr : Nat → Int32) (a0 : Int32) (a1 : Int32) : Option (Int32) :=
  (f_X4_playerTotal N fr a0).bind fun t1 =>
  (f_X4_playerTotal N fr a1).bind fun t2 =>
  if (t1 - t2) = 0 then
    (f_X7_comesBefore N lt a0 a1).bind fun t3 =>
    some t3
  else
    if (t1 - t2) ≤ 0 then
      some 0
    else
      some 1
def f_X2_placeByTotal_L27 (N : Nat) (pc : Int32) (lt : Nat → Int32) (fr : Nat → Int32) (r4 : Int32 → Int32 → Int32 → Option (Int32)) (l1 : Int32) (l2 : Int32) (l3 : Int32) : Option (Int32) :=
  r4 l1 l2 (l3 + 1)
def f_X2_placeByTotal_L4_F (N : Nat) (pc : Int32) (lt : Nat → Int32) (fr : Nat → Int32)  (r4 : Int32 → Int32 → Int32 → Option (Int32)) (l1 : Int32) (l2 : Int32) (l3 : Int32) : Option (Int32) :=
  if pc ≤ l3 then
    some l2
  else
    (f_X2_ranksBefore N lt fr l3 l1).bind fun t1 =>
    if t1 = 0 then
      f_X2_placeByTotal_L27 N pc lt fr r4 l1 l2 l3
    else
      f_X2_placeByTotal_L27 N pc lt fr r4 l1 (l2 + 1) l3
def f_X2_placeByTotal_L4 (N : Nat) (pc : Int32) (lt : Nat → Int32) (fr : Nat → Int32)  : Nat → Int32 → Int32 → Int32 → Option (Int32)
  | 0 => fun _ _ _ => none
  | j + 1 => f_X2_placeByTotal_L4_F N pc lt fr (f_X2_placeByTotal_L4 N pc lt fr j)
def f_X2_placeByTotal (N : Nat) (pc : Int32) (lt : Nat → Int32) (fr : Nat → Int32) (a0 : Int32) : Option (Int32) :=
  f_X2_placeByTotal_L4 N pc lt fr N a0 0 0
def f_X3_remember_L44 (sd : Int32) (mn : Int32) (th : Int32) (dc : Int32) (fc : Nat → Int32) (dw : Nat → Int32) (pc : Int32) (ln : Nat → Int32) (lt : Nat → Int32) (tc : Int32) (en : Nat → Int32) (fr : Nat → Int32) (oc : Int32) (op : Nat → Int32) (os : Nat → Int32)  (nx : Int32) (dp : Int32) (v_sd : Int32) (v_mn : Int32) (v_th : Int32) (v_dc : Int32) (v_fc : Nat → Int32) (v_dw : Nat → Int32) (v_pc : Int32) (v_ln : Nat → Int32) (v_lt : Nat → Int32) (v_tc : Int32) (v_en : Nat → Int32) (v_fr : Nat → Int32) (v_oc : Int32) (v_op : Nat → Int32) (v_os : Nat → Int32) : Option (Int32 × Int32 × Int32 × Int32 × Int32 × Int32 × (Nat → Int32) × (Nat → Int32) × Int32 × (Nat → Int32) × (Nat → Int32) × Int32 × (Nat → Int32) × (Nat → Int32) × Int32 × (Nat → Int32) × (Nat → Int32)) :=
  some (((nx + 1) - (nx + 1) / 8 * 8), (if 8 < (dp + 1) then 8 else (dp + 1)), v_sd, v_mn, v_th, v_dc, v_fc, v_dw, v_pc, v_ln, v_lt, v_tc, v_en, v_fr, v_oc, v_op, v_os)
def f_X3_remember (sd : Int32) (mn : Int32) (th : Int32) (dc : Int32) (fc : Nat → Int32) (dw : Nat → Int32) (pc : Int32) (ln : Nat → Int32) (lt : Nat → Int32) (tc : Int32) (en : Nat → Int32) (fr : Nat → Int32) (oc : Int32) (op : Nat → Int32) (os : Nat → Int32) (nx : Int32) (dp : Int32) (v_sd : Int32) (v_mn : Int32) (v_th : Int32) (v_dc : Int32) (v_fc : Nat → Int32) (v_dw : Nat → Int32) (v_pc : Int32) (v_ln : Nat → Int32) (v_lt : Nat → Int32) (v_tc : Int32) (v_en : Nat → Int32) (v_fr : Nat → Int32) (v_oc : Int32) (v_op : Nat → Int32) (v_os : Nat → Int32) : Option (Int32 × Int32 × Int32 × Int32 × Int32 × Int32 × (Nat → Int32) × (Nat → Int32) × Int32 × (Nat → Int32) × (Nat → Int32) × Int32 × (Nat → Int32) × (Nat → Int32) × Int32 × (Nat → Int32) × (Nat → Int32)) :=
  if nx < 0 then
    f_X3_remember_L44 sd mn th dc fc dw pc ln lt tc en fr oc op os nx dp v_sd v_mn v_th v_dc v_fc v_dw v_pc v_ln v_lt v_tc v_en v_fr v_oc v_op v_os
  else
    if 8 ≤ nx then
      f_X3_remember_L44 sd mn th dc fc dw pc ln lt tc en fr oc op os nx dp v_sd v_mn v_th v_dc v_fc v_dw v_pc v_ln v_lt v_tc v_en v_fr v_oc v_op v_os
    else
      gd (inb nx 8) <|
      gd (inb nx 8) <|
      (f_X2_copyFrom sd mn th dc fc dw pc ln lt tc en fr oc op os v_sd v_mn v_th v_dc v_fc v_dw v_pc v_ln v_lt v_tc v_en v_fr v_oc v_op v_os).bind fun t1 =>
      f_X3_remember_L44 sd mn th dc fc dw pc ln lt tc en fr oc op os nx dp t1.1 t1.2.1 t1.2.2.1 t1.2.2.2.1 t1.2.2.2.2.1 t1.2.2.2.2.2.1 t1.2.2.2.2.2.2.1 t1.2.2.2.2.2.2.2.1 t1.2.2.2.2.2.2.2.2.1 t1.2.2.2.2.2.2.2.2.2.1 t1.2.2.2.2.2.2.2.2.2.2.1 t1.2.2.2.2.2.2.2.2.2.2.2.1 t1.2.2.2.2.2.2.2.2.2.2.2.2.1 t1.2.2.2.2.2.2.2.2.2.2.2.2.2.1 t1.2.2.2.2.2.2.2.2.2.2.2.2.2.2
def f_X3_bringBack (v_sd : Int32) (v_mn : Int32) (v_th : Int32) (v_dc : Int32) (v_fc : Nat → Int32) (v_dw : Nat → Int32) (v_pc : Int32) (v_ln : Nat → Int32) (v_lt : Nat → Int32) (v_tc : Int32) (v_en : Nat → Int32) (v_fr : Nat → Int32) (v_oc : Int32) (v_op : Nat → Int32) (v_os : Nat → Int32) (nx : Int32) (dp : Int32) (sd : Int32) (mn : Int32) (th : Int32) (dc : Int32) (fc : Nat → Int32) (dw : Nat → Int32) (pc : Int32) (ln : Nat → Int32) (lt : Nat → Int32) (tc : Int32) (en : Nat → Int32) (fr : Nat → Int32) (oc : Int32) (op : Nat → Int32) (os : Nat → Int32) : Option (Int32 × Int32 × Int32 × Int32 × Int32 × Int32 × (Nat → Int32) × (Nat → Int32) × Int32 × (Nat → Int32) × (Nat → Int32) × Int32 × (Nat → Int32) × (Nat → Int32) × Int32 × (Nat → Int32) × (Nat → Int32)) :=
  if (((nx + 8) - 1) - ((nx + 8) - 1) / 8 * 8) < 0 then
    some ((((nx + 8) - 1) - ((nx + 8) - 1) / 8 * 8), (if (dp - 1) < 0 then 0 else (dp - 1)), sd, mn, th, dc, fc, dw, pc, ln, lt, tc, en, fr, oc, op, os)
  else
    if 8 ≤ (((nx + 8) - 1) - ((nx + 8) - 1) / 8 * 8) then
      some ((((nx + 8) - 1) - ((nx + 8) - 1) / 8 * 8), (if (dp - 1) < 0 then 0 else (dp - 1)), sd, mn, th, dc, fc, dw, pc, ln, lt, tc, en, fr, oc, op, os)
    else
      gd (inb (((nx + 8) - 1) - ((nx + 8) - 1) / 8 * 8) 8) <|
      gd (inb (((nx + 8) - 1) - ((nx + 8) - 1) / 8 * 8) 8) <|
      (f_X2_copyFrom v_sd v_mn v_th v_dc v_fc v_dw v_pc v_ln v_lt v_tc v_en v_fr v_oc v_op v_os sd mn th dc fc dw pc ln lt tc en fr oc op os).bind fun t1 =>
      some ((((nx + 8) - 1) - ((nx + 8) - 1) / 8 * 8), (if (dp - 1) < 0 then 0 else (dp - 1)), t1.1, t1.2.1, t1.2.2.1, t1.2.2.2.1, t1.2.2.2.2.1, t1.2.2.2.2.2.1, t1.2.2.2.2.2.2.1, t1.2.2.2.2.2.2.2.1, t1.2.2.2.2.2.2.2.2.1, t1.2.2.2.2.2.2.2.2.2.1, t1.2.2.2.2.2.2.2.2.2.2.1, t1.2.2.2.2.2.2.2.2.2.2.2.1, t1.2.2.2.2.2.2.2.2.2.2.2.2.1, t1.2.2.2.2.2.2.2.2.2.2.2.2.2.1, t1.2.2.2.2.2.2.2.2.2.2.2.2.2.2)
def f_X9_isBlank  (a0 : Int32) : Option (Int32) :=
  if a0 = 32 then
    some 1
  else
    if a0 = 10 then
      some 1
    else
      some 0
def f_X9_isLetter  (a0 : Int32) : Option (Int32) :=
  if a0 < 97 then
    some 0
  else
    if 122 < a0 then
      some 0
    else
      some 1
def f_X9_passLetters_L0_F (N : Nat) (tl : Int32) (tb : Nat → Int32)  (r0 : Int32 → Option (Int32)) (te : Int32) : Option (Int32) :=
  if tl ≤ te then
    some te
  else
    (f_X8_byteIn tl tb te).bind fun t1 =>
    (f_X9_isLetter t1).bind fun t2 =>
    if t2 = 0 then
      some te
    else
      r0 (te + 1)
def f_X9_passLetters_L0 (N : Nat) (tl : Int32) (tb : Nat → Int32)  : Nat → Int32 → Option (Int32)
  | 0 => fun _ => none
  | j + 1 => f_X9_passLetters_L0_F N tl tb (f_X9_passLetters_L0 N tl tb j)
def f_X9_passLetters (N : Nat) (tl : Int32) (tb : Nat → Int32) (te : Int32) : Option (Int32) :=
  f_X9_passLetters_L0 N tl tb N te
def f_X9_isDigit  (a0 : Int32) : Option (Int32) :=
  if a0 < 48 then
    some 0
  else
    if 57 < a0 then
      some 0
    else
      some 1
def f_X9_passDigits_L5_F (N : Nat) (tl : Int32) (tb : Nat → Int32)  (r5 : Int32 → Int32 → Option (Int32 × Int32)) (te : Int32) (tv : Int32) : Option (Int32 × Int32) :=
  if tl ≤ te then
    some (te, tv)
  else
    (f_X8_byteIn tl tb te).bind fun t1 =>
    (f_X9_isDigit t1).bind fun t2 =>
    if t2 = 0 then
      some (te, tv)
    else
      (f_X8_byteIn tl tb te).bind fun t3 =>
      r5 (te + 1) (if 1000000 < (((tv * 10) + t3) - 48) then 1000000 else (((tv * 10) + t3) - 48))
def f_X9_passDigits_L5 (N : Nat) (tl : Int32) (tb : Nat → Int32)  : Nat → Int32 → Int32 → Option (Int32 × Int32)
  | 0 => fun _ _ => none
  | j + 1 => f_X9_passDigits_L5_F N tl tb (f_X9_passDigits_L5 N tl tb j)
def f_X9_passDigits (N : Nat) (tl : Int32) (tb : Nat → Int32) (te : Int32) (tv : Int32) : Option (Int32 × Int32) :=
  f_X9_passDigits_L5 N tl tb N te 0
def f_X9_advance_L52 (N : Nat) (tl : Int32) (tb : Nat → Int32)  (kd : Int32) (ts : Int32) (te : Int32) (tv : Int32) : Option (Int32 × Int32 × Int32 × Int32) :=
  (f_X8_byteIn tl tb ts).bind fun t1 =>
  if ts < tl then
    (f_X9_isLetter t1).bind fun t2 =>
    if t2 = 0 then
      (f_X9_isDigit t1).bind fun t3 =>
      if t3 = 0 then
        some (3, ts, (ts + 1), tv)
      else
        (f_X9_passDigits N tl tb ts tv).bind fun t4 =>
        some (2, ts, t4.1, t4.2)
    else
      (f_X9_passLetters N tl tb ts).bind fun t5 =>
      some (1, ts, t5, tv)
  else
    some (0, ts, ts, tv)
def f_X9_advance_L8_F (N : Nat) (tl : Int32) (tb : Nat → Int32)  (r8 : Int32 → Int32 → Int32 → Int32 → Option (Int32 × Int32 × Int32 × Int32)) (kd : Int32) (ts : Int32) (te : Int32) (tv : Int32) : Option (Int32 × Int32 × Int32 × Int32) :=
  if tl ≤ ts then
    f_X9_advance_L52 N tl tb kd ts te tv
  else
    (f_X8_byteIn tl tb ts).bind fun t1 =>
    (f_X9_isBlank t1).bind fun t2 =>
    if t2 = 0 then
      f_X9_advance_L52 N tl tb kd ts te tv
    else
      r8 kd (ts + 1) te tv
def f_X9_advance_L8 (N : Nat) (tl : Int32) (tb : Nat → Int32)  : Nat → Int32 → Int32 → Int32 → Int32 → Option (Int32 × Int32 × Int32 × Int32)
  | 0 => fun _ _ _ _ => none
  | j + 1 => f_X9_advance_L8_F N tl tb (f_X9_advance_L8 N tl tb j)
def f_X9_advance (N : Nat) (tl : Int32) (tb : Nat → Int32) (kd : Int32) (ts : Int32) (te : Int32) (tv : Int32) : Option (Int32 × Int32 × Int32 × Int32) :=
  f_X9_advance_L8 N tl tb N kd te te tv
def f_X9_rewind (N : Nat) (tl : Int32) (tb : Nat → Int32) (kd : Int32) (ts : Int32) (te : Int32) (tv : Int32) : Option (Int32 × Int32 × Int32 × Int32) :=
  (f_X9_advance N tl tb kd ts 0 tv).bind fun t1 =>
  some (t1.1, t1.2.1, t1.2.2.1, t1.2.2.2)
def f_X9_isWord_L28_F (N : Nat) (tl : Int32) (tb : Nat → Int32) (kd : Int32) (ts : Int32) (te : Int32) (sj : Nat)  (r28 : Int32 → Option (Int32)) (l2 : Int32) : Option (Int32) :=
  if (kSl sj) ≤ l2 then
    some 1
  else
    gd (inb l2 (kSn sj)) <|
    (f_X8_byteIn tl tb (ts + l2)).bind fun t1 =>
    if (kSc sj l2) = t1 then
      r28 (l2 + 1)
    else
      some 0
def f_X9_isWord_L28 (N : Nat) (tl : Int32) (tb : Nat → Int32) (kd : Int32) (ts : Int32) (te : Int32) (sj : Nat)  : Nat → Int32 → Option (Int32)
  | 0 => fun _ => none
  | j + 1 => f_X9_isWord_L28_F N tl tb kd ts te sj (f_X9_isWord_L28 N tl tb kd ts te sj j)
def f_X9_isWord (N : Nat) (tl : Int32) (tb : Nat → Int32) (kd : Int32) (ts : Int32) (te : Int32) (sj : Nat)  : Option (Int32) :=
  if kd = 1 then
    if (te - ts) = (kSl sj) then
      f_X9_isWord_L28 N tl tb kd ts te sj N 0
    else
      some 0
  else
    some 0
def f_X5_fail (ts : Int32) (ec : Int32) (eo : Int32) (a0 : Int32) : Option (Int32 × Int32) :=
  if ec = 0 then
    some (a0, ts)
  else
    some (ec, eo)
def f_X5_takeKeyword (N : Nat) (tl : Int32) (tb : Nat → Int32) (ec : Int32) (eo : Int32) (kd : Int32) (ts : Int32) (te : Int32) (tv : Int32) (a0 : Int32) : Option (Int32 × Int32 × Int32 × Int32 × Int32 × Int32) :=
  if a0 = 0 then
    (f_X9_advance N tl tb kd ts te tv).bind fun t1 =>
    some (ec, eo, t1.1, t1.2.1, t1.2.2.1, t1.2.2.2)
  else
    (f_X5_fail ts ec eo a0).bind fun t2 =>
    some (t2.1, t2.2, kd, ts, te, tv)
def f_X5_isNumberIn (kd : Int32) (tv : Int32) (a0 : Int32) (a1 : Int32) : Option (Int32) :=
  if kd = 2 then
    if tv < a0 then
      some 0
    else
      if a1 < tv then
        some 0
      else
        some 1
  else
    some 0
def f_X5_takeNumber_L35 (N : Nat) (tl : Int32) (tb : Nat → Int32)  (s0 : Int32) (ec : Int32) (eo : Int32) (kd : Int32) (ts : Int32) (te : Int32) (tv : Int32) : Option (Int32 × Int32 × Int32 × Int32 × Int32 × Int32 × Int32) :=
  (f_X5_fail ts ec eo s0).bind fun t3 =>
  some ((-1), t3.1, t3.2, kd, ts, te, tv)
def f_X5_takeNumber (N : Nat) (tl : Int32) (tb : Nat → Int32) (ec : Int32) (eo : Int32) (kd : Int32) (ts : Int32) (te : Int32) (tv : Int32) (a0 : Int32) (a1 : Int32) : Option (Int32 × Int32 × Int32 × Int32 × Int32 × Int32 × Int32) :=
  if ec = 0 then
    (f_X5_isNumberIn kd tv a0 a1).bind fun t1 =>
    if t1 = 0 then
      if kd = 2 then
        f_X5_takeNumber_L35 N tl tb 2 ec eo kd ts te tv
      else
        f_X5_takeNumber_L35 N tl tb 1 ec eo kd ts te tv
    else
      (f_X9_advance N tl tb kd ts te tv).bind fun t2 =>
      some (tv, ec, eo, t2.1, t2.2.1, t2.2.2.1, t2.2.2.2)
  else
    some ((-1), ec, eo, kd, ts, te, tv)
def f_X9_isSemicolon (tl : Int32) (tb : Nat → Int32) (kd : Int32) (ts : Int32)  : Option (Int32) :=
  if kd = 3 then
    (f_X8_byteIn tl tb ts).bind fun t1 =>
    if t1 = 59 then
      some 1
    else
      some 0
  else
    some 0
def f_X5_takeSemicolon (N : Nat) (tl : Int32) (tb : Nat → Int32) (ec : Int32) (eo : Int32) (kd : Int32) (ts : Int32) (te : Int32) (tv : Int32) (a0 : Int32) : Option (Int32 × Int32 × Int32 × Int32 × Int32 × Int32) :=
  if ec = 0 then
    (f_X9_isSemicolon tl tb kd ts).bind fun t1 =>
    if t1 = 0 then
      (f_X5_fail ts ec eo 1).bind fun t4 =>
      some (t4.1, t4.2, kd, ts, te, tv)
    else
      if a0 = 0 then
        (f_X9_advance N tl tb kd ts te tv).bind fun t2 =>
        some (ec, eo, t2.1, t2.2.1, t2.2.2.1, t2.2.2.2)
      else
        (f_X5_fail ts ec eo a0).bind fun t3 =>
        some (t3.1, t3.2, kd, ts, te, tv)
  else
    some (ec, eo, kd, ts, te, tv)
def f_X5_readHall_L18 (N : Nat) (tl : Int32) (tb : Nat → Int32)  (s0 : Int32) (ec : Int32) (eo : Int32) (sd : Int32) (mn : Int32) (th : Int32) (dc : Int32) (pc : Int32) (tc : Int32) (fr : Nat → Int32) (oc : Int32) (kd : Int32) (ts : Int32) (te : Int32) (tv : Int32) : Option (Int32 × Int32 × Int32 × Int32 × Int32 × Int32 × Int32 × Int32 × (Nat → Int32) × Int32 × Int32 × Int32 × Int32 × Int32) :=
  (f_X5_takeKeyword N tl tb ec eo kd ts te tv s0).bind fun t2 =>
  (f_X5_takeNumber N tl tb t2.1 t2.2.1 t2.2.2.1 t2.2.2.2.1 t2.2.2.2.2.1 t2.2.2.2.2.2 0 65536).bind fun t3 =>
  (f_X5_takeNumber N tl tb t3.2.1 t3.2.2.1 t3.2.2.2.1 t3.2.2.2.2.1 t3.2.2.2.2.2.1 t3.2.2.2.2.2.2 1 99).bind fun t4 =>
  (f_X5_takeNumber N tl tb t4.2.1 t4.2.2.1 t4.2.2.2.1 t4.2.2.2.2.1 t4.2.2.2.2.2.1 t4.2.2.2.2.2.2 0 999).bind fun t5 =>
  (f_X5_takeSemicolon N tl tb t5.2.1 t5.2.2.1 t5.2.2.2.1 t5.2.2.2.2.1 t5.2.2.2.2.2.1 t5.2.2.2.2.2.2 0).bind fun t6 =>
  if t6.1 = 0 then
    (f_X2_begin N sd mn th dc pc tc fr oc t3.1 t4.1 t5.1).bind fun t7 =>
    some (t6.1, t6.2.1, t7.1, t7.2.1, t7.2.2.1, t7.2.2.2.1, t7.2.2.2.2.1, t7.2.2.2.2.2.1, t7.2.2.2.2.2.2.1, t7.2.2.2.2.2.2.2, t6.2.2.1, t6.2.2.2.1, t6.2.2.2.2.1, t6.2.2.2.2.2)
  else
    some (t6.1, t6.2.1, sd, mn, th, dc, pc, tc, fr, oc, t6.2.2.1, t6.2.2.2.1, t6.2.2.2.2.1, t6.2.2.2.2.2)
def f_X5_readHall (N : Nat) (tl : Int32) (tb : Nat → Int32) (ec : Int32) (eo : Int32) (sd : Int32) (mn : Int32) (th : Int32) (dc : Int32) (pc : Int32) (tc : Int32) (fr : Nat → Int32) (oc : Int32) (kd : Int32) (ts : Int32) (te : Int32) (tv : Int32) : Option (Int32 × Int32 × Int32 × Int32 × Int32 × Int32 × Int32 × Int32 × (Nat → Int32) × Int32 × Int32 × Int32 × Int32 × Int32) :=
  (f_X9_isWord N tl tb kd ts te 1).bind fun t1 =>
  if t1 = 0 then
    f_X5_readHall_L18 N tl tb 1 ec eo sd mn th dc pc tc fr oc kd ts te tv
  else
    f_X5_readHall_L18 N tl tb 0 ec eo sd mn th dc pc tc fr oc kd ts te tv
def f_X5_hasMore (ec : Int32) (kd : Int32)  : Option (Int32) :=
  if ec = 0 then
    if kd = 0 then
      some 0
    else
      some 1
  else
    some 0
def f_X5_readDie_L131 (N : Nat) (tl : Int32) (tb : Nat → Int32)  (l2 : Int32) (s0 : Int32) (ec : Int32) (eo : Int32) (dc : Int32) (fc : Nat → Int32) (dw : Nat → Int32) (kd : Int32) (ts : Int32) (te : Int32) (tv : Int32) : Option (Int32 × Int32 × Int32 × (Nat → Int32) × (Nat → Int32) × Int32 × Int32 × Int32 × Int32) :=
  (f_X5_takeSemicolon N tl tb ec eo kd ts te tv s0).bind fun t2 =>
  if t2.1 = 0 then
    (f_X0_add dc fc l2).bind fun t3 =>
    some (t2.1, t2.2.1, t3.1, t3.2, dw, t2.2.2.1, t2.2.2.2.1, t2.2.2.2.2.1, t2.2.2.2.2.2)
  else
    some (t2.1, t2.2.1, dc, fc, dw, t2.2.2.1, t2.2.2.2.1, t2.2.2.2.2.1, t2.2.2.2.2.2)
def f_X5_readDie_L120 (N : Nat) (tl : Int32) (tb : Nat → Int32)  (l2 : Int32) (l3 : Int32) (ec : Int32) (eo : Int32) (dc : Int32) (fc : Nat → Int32) (dw : Nat → Int32) (kd : Int32) (ts : Int32) (te : Int32) (tv : Int32) : Option (Int32 × Int32 × Int32 × (Nat → Int32) × (Nat → Int32) × Int32 × Int32 × Int32 × Int32) :=
  if l3 = 0 then
    f_X5_readDie_L131 N tl tb l2 6 ec eo dc fc dw kd ts te tv
  else
    f_X5_readDie_L131 N tl tb l2 0 ec eo dc fc dw kd ts te tv
def f_X5_readDie_L117 (N : Nat) (tl : Int32) (tb : Nat → Int32) (r30 : Int32 → Int32 → Int32 → Int32 → Int32 → Int32 → (Nat → Int32) → (Nat → Int32) → Int32 → Int32 → Int32 → Int32 → Option (Int32 × Int32 × Int32 × (Nat → Int32) × (Nat → Int32) × Int32 × Int32 × Int32 × Int32)) (l1 : Int32) (l2 : Int32) (l3 : Int32) (ec : Int32) (eo : Int32) (dc : Int32) (fc : Nat → Int32) (dw : Nat → Int32) (kd : Int32) (ts : Int32) (te : Int32) (tv : Int32) : Option (Int32 × Int32 × Int32 × (Nat → Int32) × (Nat → Int32) × Int32 × Int32 × Int32 × Int32) :=
  r30 l1 l2 l3 ec eo dc fc dw kd ts te tv
def f_X5_readDie_L79 (N : Nat) (tl : Int32) (tb : Nat → Int32) (r30 : Int32 → Int32 → Int32 → Int32 → Int32 → Int32 → (Nat → Int32) → (Nat → Int32) → Int32 → Int32 → Int32 → Int32 → Option (Int32 × Int32 × Int32 × (Nat → Int32) × (Nat → Int32) × Int32 × Int32 × Int32 × Int32)) (l1 : Int32) (l2 : Int32) (l3 : Int32) (ec : Int32) (eo : Int32) (dc : Int32) (fc : Nat → Int32) (dw : Nat → Int32) (kd : Int32) (ts : Int32) (te : Int32) (tv : Int32) : Option (Int32 × Int32 × Int32 × (Nat → Int32) × (Nat → Int32) × Int32 × Int32 × Int32 × Int32) :=
  (f_X5_takeNumber N tl tb ec eo kd ts te tv 0 9).bind fun t2 =>
  if t2.2.1 = 0 then
    (f_X0_putWeight dw l1 (l2 + 1) t2.1).bind fun t3 =>
    f_X5_readDie_L117 N tl tb r30 l1 (l2 + 1) (l3 + t2.1) t2.2.1 t2.2.2.1 dc fc t3 t2.2.2.2.1 t2.2.2.2.2.1 t2.2.2.2.2.2.1 t2.2.2.2.2.2.2
  else
    f_X5_readDie_L117 N tl tb r30 l1 (l2 + 1) (l3 + t2.1) t2.2.1 t2.2.2.1 dc fc dw t2.2.2.2.1 t2.2.2.2.2.1 t2.2.2.2.2.2.1 t2.2.2.2.2.2.2
def f_X5_readDie_L58 (N : Nat) (tl : Int32) (tb : Nat → Int32) (r30 : Int32 → Int32 → Int32 → Int32 → Int32 → Int32 → (Nat → Int32) → (Nat → Int32) → Int32 → Int32 → Int32 → Int32 → Option (Int32 × Int32 × Int32 × (Nat → Int32) × (Nat → Int32) × Int32 × Int32 × Int32 × Int32)) (l1 : Int32) (l2 : Int32) (l3 : Int32) (ec : Int32) (eo : Int32) (dc : Int32) (fc : Nat → Int32) (dw : Nat → Int32) (kd : Int32) (ts : Int32) (te : Int32) (tv : Int32) : Option (Int32 × Int32 × Int32 × (Nat → Int32) × (Nat → Int32) × Int32 × Int32 × Int32 × Int32) :=
  if l2 < 12 then
    f_X5_readDie_L79 N tl tb r30 l1 l2 l3 ec eo dc fc dw kd ts te tv
  else
    (f_X5_isNumberIn kd tv 0 9).bind fun t2 =>
    if t2 = 0 then
      f_X5_readDie_L79 N tl tb r30 l1 l2 l3 ec eo dc fc dw kd ts te tv
    else
      (f_X5_fail ts ec eo 5).bind fun t3 =>
      f_X5_readDie_L79 N tl tb r30 l1 l2 l3 t3.1 t3.2 dc fc dw kd ts te tv
def f_X5_readDie_L30_F (N : Nat) (tl : Int32) (tb : Nat → Int32)  (r30 : Int32 → Int32 → Int32 → Int32 → Int32 → Int32 → (Nat → Int32) → (Nat → Int32) → Int32 → Int32 → Int32 → Int32 → Option (Int32 × Int32 × Int32 × (Nat → Int32) × (Nat → Int32) × Int32 × Int32 × Int32 × Int32)) (l1 : Int32) (l2 : Int32) (l3 : Int32) (ec : Int32) (eo : Int32) (dc : Int32) (fc : Nat → Int32) (dw : Nat → Int32) (kd : Int32) (ts : Int32) (te : Int32) (tv : Int32) : Option (Int32 × Int32 × Int32 × (Nat → Int32) × (Nat → Int32) × Int32 × Int32 × Int32 × Int32) :=
  if 12 < l2 then
    f_X5_readDie_L120 N tl tb l2 l3 ec eo dc fc dw kd ts te tv
  else
    if ec = 0 then
      if l2 < 2 then
        f_X5_readDie_L58 N tl tb r30 l1 l2 l3 ec eo dc fc dw kd ts te tv
      else
        (f_X9_isSemicolon tl tb kd ts).bind fun t2 =>
        if t2 = 0 then
          f_X5_readDie_L58 N tl tb r30 l1 l2 l3 ec eo dc fc dw kd ts te tv
        else
          f_X5_readDie_L120 N tl tb l2 l3 ec eo dc fc dw kd ts te tv
    else
      f_X5_readDie_L120 N tl tb l2 l3 ec eo dc fc dw kd ts te tv
def f_X5_readDie_L30 (N : Nat) (tl : Int32) (tb : Nat → Int32)  : Nat → Int32 → Int32 → Int32 → Int32 → Int32 → Int32 → (Nat → Int32) → (Nat → Int32) → Int32 → Int32 → Int32 → Int32 → Option (Int32 × Int32 × Int32 × (Nat → Int32) × (Nat → Int32) × Int32 × Int32 × Int32 × Int32)
  | 0 => fun _ _ _ _ _ _ _ _ _ _ _ _ => none
  | j + 1 => f_X5_readDie_L30_F N tl tb (f_X5_readDie_L30 N tl tb j)
def f_X5_readDie_L23 (N : Nat) (tl : Int32) (tb : Nat → Int32)  (l1 : Int32) (s0 : Int32) (ec : Int32) (eo : Int32) (dc : Int32) (fc : Nat → Int32) (dw : Nat → Int32) (kd : Int32) (ts : Int32) (te : Int32) (tv : Int32) : Option (Int32 × Int32 × Int32 × (Nat → Int32) × (Nat → Int32) × Int32 × Int32 × Int32 × Int32) :=
  (f_X5_takeKeyword N tl tb ec eo kd ts te tv s0).bind fun t1 =>
  f_X5_readDie_L30 N tl tb N l1 0 0 t1.1 t1.2.1 dc fc dw t1.2.2.1 t1.2.2.2.1 t1.2.2.2.2.1 t1.2.2.2.2.2
def f_X5_readDie (N : Nat) (tl : Int32) (tb : Nat → Int32) (ec : Int32) (eo : Int32) (dc : Int32) (fc : Nat → Int32) (dw : Nat → Int32) (kd : Int32) (ts : Int32) (te : Int32) (tv : Int32) : Option (Int32 × Int32 × Int32 × (Nat → Int32) × (Nat → Int32) × Int32 × Int32 × Int32 × Int32) :=
  if dc < 6 then
    f_X5_readDie_L23 N tl tb dc 0 ec eo dc fc dw kd ts te tv
  else
    f_X5_readDie_L23 N tl tb dc 5 ec eo dc fc dw kd ts te tv
def f_X5_takeNewName (N : Nat) (tl : Int32) (tb : Nat → Int32) (pc : Int32) (ln : Nat → Int32) (lt : Nat → Int32) (ec : Int32) (eo : Int32) (kd : Int32) (ts : Int32) (te : Int32) (tv : Int32) : Option (Int32 × Int32 × Int32 × Int32 × Int32 × Int32) :=
  if kd = 1 then
    if (te - ts) ≤ 4 then
      (f_X7_find N pc ln lt tl tb ts te).bind fun t1 =>
      if t1 = (-1) then
        (f_X9_advance N tl tb kd ts te tv).bind fun t2 =>
        some (ec, eo, t2.1, t2.2.1, t2.2.2.1, t2.2.2.2)
      else
        (f_X5_fail ts ec eo 3).bind fun t3 =>
        some (t3.1, t3.2, kd, ts, te, tv)
    else
      (f_X5_fail ts ec eo 2).bind fun t4 =>
      some (t4.1, t4.2, kd, ts, te, tv)
  else
    (f_X5_fail ts ec eo 1).bind fun t5 =>
    some (t5.1, t5.2, kd, ts, te, tv)
def f_X5_readPlayer_L21 (N : Nat) (tl : Int32) (tb : Nat → Int32)  (s0 : Int32) (ec : Int32) (eo : Int32) (pc : Int32) (ln : Nat → Int32) (lt : Nat → Int32) (kd : Int32) (ts : Int32) (te : Int32) (tv : Int32) : Option (Int32 × Int32 × Int32 × (Nat → Int32) × (Nat → Int32) × Int32 × Int32 × Int32 × Int32) :=
  (f_X5_takeKeyword N tl tb ec eo kd ts te tv s0).bind fun t1 =>
  (f_X5_takeNewName N tl tb pc ln lt t1.1 t1.2.1 t1.2.2.1 t1.2.2.2.1 t1.2.2.2.2.1 t1.2.2.2.2.2).bind fun t2 =>
  (f_X5_takeSemicolon N tl tb t2.1 t2.2.1 t2.2.2.1 t2.2.2.2.1 t2.2.2.2.2.1 t2.2.2.2.2.2 0).bind fun t3 =>
  if t3.1 = 0 then
    (f_X7_add N tl tb pc ln lt t1.2.2.2.1 t1.2.2.2.2.1).bind fun t4 =>
    some (t3.1, t3.2.1, t4.1, t4.2.1, t4.2.2, t3.2.2.1, t3.2.2.2.1, t3.2.2.2.2.1, t3.2.2.2.2.2)
  else
    some (t3.1, t3.2.1, pc, ln, lt, t3.2.2.1, t3.2.2.2.1, t3.2.2.2.2.1, t3.2.2.2.2.2)
def f_X5_readPlayer (N : Nat) (tl : Int32) (tb : Nat → Int32) (ec : Int32) (eo : Int32) (pc : Int32) (ln : Nat → Int32) (lt : Nat → Int32) (kd : Int32) (ts : Int32) (te : Int32) (tv : Int32) : Option (Int32 × Int32 × Int32 × (Nat → Int32) × (Nat → Int32) × Int32 × Int32 × Int32 × Int32) :=
  if pc < 6 then
    f_X5_readPlayer_L21 N tl tb 0 ec eo pc ln lt kd ts te tv
  else
    f_X5_readPlayer_L21 N tl tb 5 ec eo pc ln lt kd ts te tv
def f_X5_takeKnownName (N : Nat) (tl : Int32) (tb : Nat → Int32) (pc : Int32) (ln : Nat → Int32) (lt : Nat → Int32) (ec : Int32) (eo : Int32) (kd : Int32) (ts : Int32) (te : Int32) (tv : Int32) : Option (Int32 × Int32 × Int32 × Int32 × Int32 × Int32 × Int32) :=
  if kd = 1 then
    (f_X7_find N pc ln lt tl tb ts te).bind fun t1 =>
    if t1 = (-1) then
      (f_X5_fail ts ec eo 4).bind fun t3 =>
      some ((-1), t3.1, t3.2, kd, ts, te, tv)
    else
      (f_X9_advance N tl tb kd ts te tv).bind fun t2 =>
      some (t1, ec, eo, t2.1, t2.2.1, t2.2.2.1, t2.2.2.2)
  else
    (f_X5_fail ts ec eo 1).bind fun t4 =>
    some ((-1), t4.1, t4.2, kd, ts, te, tv)
def f_X5_readThrow_L63 (N : Nat) (tl : Int32) (tb : Nat → Int32) (dc : Int32) (fc : Nat → Int32) (dw : Nat → Int32) (pc : Int32) (ln : Nat → Int32) (lt : Nat → Int32)  (l1 : Int32) (l2 : Int32) (l3 : Int32) (s0 : Int32) (ec : Int32) (eo : Int32) (sd : Int32) (tc : Int32) (en : Nat → Int32) (fr : Nat → Int32) (kd : Int32) (ts : Int32) (te : Int32) (tv : Int32) : Option (Int32 × Int32 × Int32 × Int32 × (Nat → Int32) × (Nat → Int32) × Int32 × Int32 × Int32 × Int32) :=
  (f_X5_takeSemicolon N tl tb ec eo kd ts te tv s0).bind fun t5 =>
  if t5.1 = 0 then
    (f_X10_pairOf l1 l2).bind fun t6 =>
    (f_X2_makeThrows N fc dw sd tc en fr t6 l3 0).bind fun t7 =>
    some (t5.1, t5.2.1, t7.2.1, t7.2.2.1, t7.2.2.2.1, t7.2.2.2.2, t5.2.2.1, t5.2.2.2.1, t5.2.2.2.2.1, t5.2.2.2.2.2)
  else
    some (t5.1, t5.2.1, sd, tc, en, fr, t5.2.2.1, t5.2.2.2.1, t5.2.2.2.2.1, t5.2.2.2.2.2)
def f_X5_readThrow (N : Nat) (tl : Int32) (tb : Nat → Int32) (dc : Int32) (fc : Nat → Int32) (dw : Nat → Int32) (pc : Int32) (ln : Nat → Int32) (lt : Nat → Int32) (ec : Int32) (eo : Int32) (sd : Int32) (tc : Int32) (en : Nat → Int32) (fr : Nat → Int32) (kd : Int32) (ts : Int32) (te : Int32) (tv : Int32) : Option (Int32 × Int32 × Int32 × Int32 × (Nat → Int32) × (Nat → Int32) × Int32 × Int32 × Int32 × Int32) :=
  (f_X9_advance N tl tb kd ts te tv).bind fun t1 =>
  (f_X5_takeKnownName N tl tb pc ln lt ec eo t1.1 t1.2.1 t1.2.2.1 t1.2.2.2).bind fun t2 =>
  (f_X5_takeNumber N tl tb t2.2.1 t2.2.2.1 t2.2.2.2.1 t2.2.2.2.2.1 t2.2.2.2.2.2.1 t2.2.2.2.2.2.2 0 (dc - 1)).bind fun t3 =>
  (f_X5_takeNumber N tl tb t3.2.1 t3.2.2.1 t3.2.2.2.1 t3.2.2.2.2.1 t3.2.2.2.2.2.1 t3.2.2.2.2.2.2 1 50).bind fun t4 =>
  if (tc + t4.1) ≤ 300 then
    f_X5_readThrow_L63 N tl tb dc fc dw pc ln lt t2.1 t3.1 t4.1 0 t4.2.1 t4.2.2.1 sd tc en fr t4.2.2.2.1 t4.2.2.2.2.1 t4.2.2.2.2.2.1 t4.2.2.2.2.2.2
  else
    f_X5_readThrow_L63 N tl tb dc fc dw pc ln lt t2.1 t3.1 t4.1 6 t4.2.1 t4.2.2.1 sd tc en fr t4.2.2.2.1 t4.2.2.2.2.1 t4.2.2.2.2.2.1 t4.2.2.2.2.2.2
def f_X5_readAudit (N : Nat) (tl : Int32) (tb : Nat → Int32) (mn : Int32) (th : Int32) (fc : Nat → Int32) (fr : Nat → Int32) (ec : Int32) (eo : Int32) (oc : Int32) (op : Nat → Int32) (os : Nat → Int32) (kd : Int32) (ts : Int32) (te : Int32) (tv : Int32) : Option (Int32 × Int32 × Int32 × (Nat → Int32) × (Nat → Int32) × Int32 × Int32 × Int32 × Int32) :=
  (f_X9_advance N tl tb kd ts te tv).bind fun t1 =>
  (f_X5_takeSemicolon N tl tb ec eo t1.1 t1.2.1 t1.2.2.1 t1.2.2.2 0).bind fun t2 =>
  if t2.1 = 0 then
    (f_X2_holdAudit N mn th fc fr oc op os).bind fun t3 =>
    some (t2.1, t2.2.1, t3.2.1, t3.2.2.1, t3.2.2.2, t2.2.2.1, t2.2.2.2.1, t2.2.2.2.2.1, t2.2.2.2.2.2)
  else
    some (t2.1, t2.2.1, oc, op, os, t2.2.2.1, t2.2.2.2.1, t2.2.2.2.2.1, t2.2.2.2.2.2)
def f_X5_readAbsolve_L27 (N : Nat) (tl : Int32) (tb : Nat → Int32) (fc : Nat → Int32) (dw : Nat → Int32)  (s0 : Int32) (ec : Int32) (eo : Int32) (sd : Int32) (tc : Int32) (en : Nat → Int32) (fr : Nat → Int32) (oc : Int32) (op : Nat → Int32) (os : Nat → Int32) (kd : Int32) (ts : Int32) (te : Int32) (tv : Int32) : Option (Int32 × Int32 × Int32 × Int32 × (Nat → Int32) × (Nat → Int32) × Int32 × (Nat → Int32) × (Nat → Int32) × Int32 × Int32 × Int32 × Int32) :=
  (f_X5_takeSemicolon N tl tb ec eo kd ts te tv s0).bind fun t2 =>
  if t2.1 = 0 then
    (f_X2_doPenance N fc dw sd tc en fr oc op os).bind fun t3 =>
    some (t2.1, t2.2.1, t3.2.1, t3.2.2.1, t3.2.2.2.1, t3.2.2.2.2.1, t3.2.2.2.2.2.1, t3.2.2.2.2.2.2.1, t3.2.2.2.2.2.2.2, t2.2.2.1, t2.2.2.2.1, t2.2.2.2.2.1, t2.2.2.2.2.2)
  else
    some (t2.1, t2.2.1, sd, tc, en, fr, oc, op, os, t2.2.2.1, t2.2.2.2.1, t2.2.2.2.2.1, t2.2.2.2.2.2)
def f_X5_readAbsolve (N : Nat) (tl : Int32) (tb : Nat → Int32) (fc : Nat → Int32) (dw : Nat → Int32) (ec : Int32) (eo : Int32) (sd : Int32) (tc : Int32) (en : Nat → Int32) (fr : Nat → Int32) (oc : Int32) (op : Nat → Int32) (os : Nat → Int32) (kd : Int32) (ts : Int32) (te : Int32) (tv : Int32) : Option (Int32 × Int32 × Int32 × Int32 × (Nat → Int32) × (Nat → Int32) × Int32 × (Nat → Int32) × (Nat → Int32) × Int32 × Int32 × Int32 × Int32) :=
  (f_X9_advance N tl tb kd ts te tv).bind fun t1 =>
  if oc = 0 then
    f_X5_readAbsolve_L27 N tl tb fc dw 6 ec eo sd tc en fr oc op os t1.1 t1.2.1 t1.2.2.1 t1.2.2.2
  else
    f_X5_readAbsolve_L27 N tl tb fc dw 0 ec eo sd tc en fr oc op os t1.1 t1.2.1 t1.2.2.1 t1.2.2.2
def f_X5_readForgive (N : Nat) (tl : Int32) (tb : Nat → Int32) (pc : Int32) (ln : Nat → Int32) (lt : Nat → Int32) (ec : Int32) (eo : Int32) (oc : Int32) (op : Nat → Int32) (os : Nat → Int32) (kd : Int32) (ts : Int32) (te : Int32) (tv : Int32) : Option (Int32 × Int32 × Int32 × (Nat → Int32) × (Nat → Int32) × Int32 × Int32 × Int32 × Int32) :=
  (f_X9_advance N tl tb kd ts te tv).bind fun t1 =>
  (f_X5_takeKnownName N tl tb pc ln lt ec eo t1.1 t1.2.1 t1.2.2.1 t1.2.2.2).bind fun t2 =>
  (f_X5_takeSemicolon N tl tb t2.2.1 t2.2.2.1 t2.2.2.2.1 t2.2.2.2.2.1 t2.2.2.2.2.2.1 t2.2.2.2.2.2.2 0).bind fun t3 =>
  if t3.1 = 0 then
    (f_X6_removeAllOf N oc op os t2.1).bind fun t4 =>
    some (t3.1, t3.2.1, t4.2.1, t4.2.2.1, t4.2.2.2, t3.2.2.1, t3.2.2.2.1, t3.2.2.2.2.1, t3.2.2.2.2.2)
  else
    some (t3.1, t3.2.1, oc, op, os, t3.2.2.1, t3.2.2.2.1, t3.2.2.2.2.1, t3.2.2.2.2.2)
def f_X5_readStatement (N : Nat) (tl : Int32) (tb : Nat → Int32) (mn : Int32) (th : Int32) (ec : Int32) (eo : Int32) (sd : Int32) (dc : Int32) (fc : Nat → Int32) (dw : Nat → Int32) (pc : Int32) (ln : Nat → Int32) (lt : Nat → Int32) (tc : Int32) (en : Nat → Int32) (fr : Nat → Int32) (oc : Int32) (op : Nat → Int32) (os : Nat → Int32) (kd : Int32) (ts : Int32) (te : Int32) (tv : Int32) : Option (Int32 × Int32 × Int32 × Int32 × (Nat → Int32) × (Nat → Int32) × Int32 × (Nat → Int32) × (Nat → Int32) × Int32 × (Nat → Int32) × (Nat → Int32) × Int32 × (Nat → Int32) × (Nat → Int32) × Int32 × Int32 × Int32 × Int32) :=
  (f_X9_isWord N tl tb kd ts te 2).bind fun t1 =>
  if t1 = 0 then
    (f_X9_isWord N tl tb kd ts te 3).bind fun t2 =>
    if t2 = 0 then
      (f_X9_isWord N tl tb kd ts te 4).bind fun t3 =>
      if t3 = 0 then
        (f_X9_isWord N tl tb kd ts te 5).bind fun t4 =>
        if t4 = 0 then
          (f_X9_isWord N tl tb kd ts te 6).bind fun t5 =>
          if t5 = 0 then
            (f_X9_isWord N tl tb kd ts te 7).bind fun t6 =>
            if t6 = 0 then
              (f_X5_fail ts ec eo 1).bind fun t7 =>
              some (t7.1, t7.2, sd, dc, fc, dw, pc, ln, lt, tc, en, fr, oc, op, os, kd, ts, te, tv)
            else
              (f_X5_readForgive N tl tb pc ln lt ec eo oc op os kd ts te tv).bind fun t8 =>
              some (t8.1, t8.2.1, sd, dc, fc, dw, pc, ln, lt, tc, en, fr, t8.2.2.1, t8.2.2.2.1, t8.2.2.2.2.1, t8.2.2.2.2.2.1, t8.2.2.2.2.2.2.1, t8.2.2.2.2.2.2.2.1, t8.2.2.2.2.2.2.2.2)
          else
            (f_X5_readAbsolve N tl tb fc dw ec eo sd tc en fr oc op os kd ts te tv).bind fun t9 =>
            some (t9.1, t9.2.1, t9.2.2.1, dc, fc, dw, pc, ln, lt, t9.2.2.2.1, t9.2.2.2.2.1, t9.2.2.2.2.2.1, t9.2.2.2.2.2.2.1, t9.2.2.2.2.2.2.2.1, t9.2.2.2.2.2.2.2.2.1, t9.2.2.2.2.2.2.2.2.2.1, t9.2.2.2.2.2.2.2.2.2.2.1, t9.2.2.2.2.2.2.2.2.2.2.2.1, t9.2.2.2.2.2.2.2.2.2.2.2.2)
        else
          (f_X5_readAudit N tl tb mn th fc fr ec eo oc op os kd ts te tv).bind fun t10 =>
          some (t10.1, t10.2.1, sd, dc, fc, dw, pc, ln, lt, tc, en, fr, t10.2.2.1, t10.2.2.2.1, t10.2.2.2.2.1, t10.2.2.2.2.2.1, t10.2.2.2.2.2.2.1, t10.2.2.2.2.2.2.2.1, t10.2.2.2.2.2.2.2.2)
      else
        (f_X5_readThrow N tl tb dc fc dw pc ln lt ec eo sd tc en fr kd ts te tv).bind fun t11 =>
        some (t11.1, t11.2.1, t11.2.2.1, dc, fc, dw, pc, ln, lt, t11.2.2.2.1, t11.2.2.2.2.1, t11.2.2.2.2.2.1, oc, op, os, t11.2.2.2.2.2.2.1, t11.2.2.2.2.2.2.2.1, t11.2.2.2.2.2.2.2.2.1, t11.2.2.2.2.2.2.2.2.2)
    else
      (f_X5_readPlayer N tl tb ec eo pc ln lt kd ts te tv).bind fun t12 =>
      some (t12.1, t12.2.1, sd, dc, fc, dw, t12.2.2.1, t12.2.2.2.1, t12.2.2.2.2.1, tc, en, fr, oc, op, os, t12.2.2.2.2.2.1, t12.2.2.2.2.2.2.1, t12.2.2.2.2.2.2.2.1, t12.2.2.2.2.2.2.2.2)
  else
    (f_X5_readDie N tl tb ec eo dc fc dw kd ts te tv).bind fun t13 =>
    some (t13.1, t13.2.1, sd, t13.2.2.1, t13.2.2.2.1, t13.2.2.2.2.1, pc, ln, lt, tc, en, fr, oc, op, os, t13.2.2.2.2.2.1, t13.2.2.2.2.2.2.1, t13.2.2.2.2.2.2.2.1, t13.2.2.2.2.2.2.2.2)
def f_X5_parse_L47 (N : Nat) (tl : Int32) (tb : Nat → Int32)  (ec : Int32) (eo : Int32) (sd : Int32) (mn : Int32) (th : Int32) (dc : Int32) (fc : Nat → Int32) (dw : Nat → Int32) (pc : Int32) (ln : Nat → Int32) (lt : Nat → Int32) (tc : Int32) (en : Nat → Int32) (fr : Nat → Int32) (oc : Int32) (op : Nat → Int32) (os : Nat → Int32) (kd : Int32) (ts : Int32) (te : Int32) (tv : Int32) : Option (Int32 × Int32 × Int32 × Int32 × Int32 × Int32 × Int32 × (Nat → Int32) × (Nat → Int32) × Int32 × (Nat → Int32) × (Nat → Int32) × Int32 × (Nat → Int32) × (Nat → Int32) × Int32 × (Nat → Int32) × (Nat → Int32) × Int32 × Int32 × Int32 × Int32) :=
  if ec = 0 then
    some (1, ec, eo, sd, mn, th, dc, fc, dw, pc, ln, lt, tc, en, fr, oc, op, os, kd, ts, te, tv)
  else
    some (0, ec, eo, sd, mn, th, dc, fc, dw, pc, ln, lt, tc, en, fr, oc, op, os, kd, ts, te, tv)
def f_X5_parse_L23_F (N : Nat) (tl : Int32) (tb : Nat → Int32)  (r23 : Int32 → Int32 → Int32 → Int32 → Int32 → Int32 → Int32 → (Nat → Int32) → (Nat → Int32) → Int32 → (Nat → Int32) → (Nat → Int32) → Int32 → (Nat → Int32) → (Nat → Int32) → Int32 → (Nat → Int32) → (Nat → Int32) → Int32 → Int32 → Int32 → Int32 → Option (Int32 × Int32 × Int32 × Int32 × Int32 × Int32 × Int32 × (Nat → Int32) × (Nat → Int32) × Int32 × (Nat → Int32) × (Nat → Int32) × Int32 × (Nat → Int32) × (Nat → Int32) × Int32 × (Nat → Int32) × (Nat → Int32) × Int32 × Int32 × Int32 × Int32)) (l1 : Int32) (ec : Int32) (eo : Int32) (sd : Int32) (mn : Int32) (th : Int32) (dc : Int32) (fc : Nat → Int32) (dw : Nat → Int32) (pc : Int32) (ln : Nat → Int32) (lt : Nat → Int32) (tc : Int32) (en : Nat → Int32) (fr : Nat → Int32) (oc : Int32) (op : Nat → Int32) (os : Nat → Int32) (kd : Int32) (ts : Int32) (te : Int32) (tv : Int32) : Option (Int32 × Int32 × Int32 × Int32 × Int32 × Int32 × Int32 × (Nat → Int32) × (Nat → Int32) × Int32 × (Nat → Int32) × (Nat → Int32) × Int32 × (Nat → Int32) × (Nat → Int32) × Int32 × (Nat → Int32) × (Nat → Int32) × Int32 × Int32 × Int32 × Int32) :=
  if 600 ≤ l1 then
    f_X5_parse_L47 N tl tb ec eo sd mn th dc fc dw pc ln lt tc en fr oc op os kd ts te tv
  else
    (f_X5_hasMore ec kd).bind fun t3 =>
    if t3 = 0 then
      f_X5_parse_L47 N tl tb ec eo sd mn th dc fc dw pc ln lt tc en fr oc op os kd ts te tv
    else
      (f_X5_readStatement N tl tb mn th ec eo sd dc fc dw pc ln lt tc en fr oc op os kd ts te tv).bind fun t4 =>
      r23 (l1 + 1) t4.1 t4.2.1 t4.2.2.1 mn th t4.2.2.2.1 t4.2.2.2.2.1 t4.2.2.2.2.2.1 t4.2.2.2.2.2.2.1 t4.2.2.2.2.2.2.2.1 t4.2.2.2.2.2.2.2.2.1 t4.2.2.2.2.2.2.2.2.2.1 t4.2.2.2.2.2.2.2.2.2.2.1 t4.2.2.2.2.2.2.2.2.2.2.2.1 t4.2.2.2.2.2.2.2.2.2.2.2.2.1 t4.2.2.2.2.2.2.2.2.2.2.2.2.2.1 t4.2.2.2.2.2.2.2.2.2.2.2.2.2.2.1 t4.2.2.2.2.2.2.2.2.2.2.2.2.2.2.2.1 t4.2.2.2.2.2.2.2.2.2.2.2.2.2.2.2.2.1 t4.2.2.2.2.2.2.2.2.2.2.2.2.2.2.2.2.2.1 t4.2.2.2.2.2.2.2.2.2.2.2.2.2.2.2.2.2.2
def f_X5_parse_L23 (N : Nat) (tl : Int32) (tb : Nat → Int32)  : Nat → Int32 → Int32 → Int32 → Int32 → Int32 → Int32 → Int32 → (Nat → Int32) → (Nat → Int32) → Int32 → (Nat → Int32) → (Nat → Int32) → Int32 → (Nat → Int32) → (Nat → Int32) → Int32 → (Nat → Int32) → (Nat → Int32) → Int32 → Int32 → Int32 → Int32 → Option (Int32 × Int32 × Int32 × Int32 × Int32 × Int32 × Int32 × (Nat → Int32) × (Nat → Int32) × Int32 × (Nat → Int32) × (Nat → Int32) × Int32 × (Nat → Int32) × (Nat → Int32) × Int32 × (Nat → Int32) × (Nat → Int32) × Int32 × Int32 × Int32 × Int32)
  | 0 => fun _ _ _ _ _ _ _ _ _ _ _ _ _ _ _ _ _ _ _ _ _ _ => none
  | j + 1 => f_X5_parse_L23_F N tl tb (f_X5_parse_L23 N tl tb j)
def f_X5_parse (N : Nat) (tl : Int32) (tb : Nat → Int32) (ec : Int32) (eo : Int32) (sd : Int32) (mn : Int32) (th : Int32) (dc : Int32) (fc : Nat → Int32) (dw : Nat → Int32) (pc : Int32) (ln : Nat → Int32) (lt : Nat → Int32) (tc : Int32) (en : Nat → Int32) (fr : Nat → Int32) (oc : Int32) (op : Nat → Int32) (os : Nat → Int32) (kd : Int32) (ts : Int32) (te : Int32) (tv : Int32) : Option (Int32 × Int32 × Int32 × Int32 × Int32 × Int32 × Int32 × (Nat → Int32) × (Nat → Int32) × Int32 × (Nat → Int32) × (Nat → Int32) × Int32 × (Nat → Int32) × (Nat → Int32) × Int32 × (Nat → Int32) × (Nat → Int32) × Int32 × Int32 × Int32 × Int32) :=
  (f_X9_rewind N tl tb kd ts te tv).bind fun t1 =>
  (f_X5_readHall N tl tb 0 (-1) sd mn th dc pc tc fr oc t1.1 t1.2.1 t1.2.2.1 t1.2.2.2).bind fun t2 =>
  f_X5_parse_L23 N tl tb N 0 t2.1 t2.2.1 t2.2.2.1 t2.2.2.2.1 t2.2.2.2.2.1 t2.2.2.2.2.2.1 fc dw t2.2.2.2.2.2.2.1 ln lt t2.2.2.2.2.2.2.2.1 en t2.2.2.2.2.2.2.2.2.1 t2.2.2.2.2.2.2.2.2.2.1 op os t2.2.2.2.2.2.2.2.2.2.2.1 t2.2.2.2.2.2.2.2.2.2.2.2.1 t2.2.2.2.2.2.2.2.2.2.2.2.2.1 t2.2.2.2.2.2.2.2.2.2.2.2.2.2
def f_X10_appendInput (N : Nat)  (itl : Int32) (itb : Nat → Int32) (a0 : Int32) (a1 : Int32) (a2 : Int32) (a3 : Int32) (a4 : Int32) : Option (String ⊕ (Int32 × Int32 × (Nat → Int32))) :=
  if (itl + 20) ≤ 600 then
    (f_X8_appendWord N itl itb a0).bind fun t1 =>
    (f_X8_appendWord N t1.1 t1.2 a1).bind fun t2 =>
    (f_X8_appendWord N t2.1 t2.2 a2).bind fun t3 =>
    (f_X8_appendWord N t3.1 t3.2 a3).bind fun t4 =>
    (f_X8_appendWord N t4.1 t4.2 a4).bind fun t5 =>
    some (.inr (t5.1, t5.1, t5.2))
  else
    some (.inl "java/lang/IllegalStateException")
def f_X10_truncateInput  (itl : Int32) (a0 : Int32) : Option (String ⊕ (Int32 × Int32)) :=
  sbd (f_X10_requireRange a0 0 itl) fun t1 =>
  (f_X8_cutTo itl a0).bind fun t2 =>
  some (.inr (t2, t2))
def f_X10_load (N : Nat) (itb : Nat → Int32) (sd : Int32) (mn : Int32) (th : Int32) (dc : Int32) (fc : Nat → Int32) (dw : Nat → Int32) (pc : Int32) (ln : Nat → Int32) (lt : Nat → Int32) (tc : Int32) (en : Nat → Int32) (fr : Nat → Int32) (oc : Int32) (op : Nat → Int32) (os : Nat → Int32) (nx : Int32) (dp : Int32) (itl : Int32) (ec : Int32) (eo : Int32) (d_sd : Int32) (d_mn : Int32) (d_th : Int32) (d_dc : Int32) (d_fc : Nat → Int32) (d_dw : Nat → Int32) (d_pc : Int32) (d_ln : Nat → Int32) (d_lt : Nat → Int32) (d_tc : Int32) (d_en : Nat → Int32) (d_fr : Nat → Int32) (d_oc : Int32) (d_op : Nat → Int32) (d_os : Nat → Int32) (kd : Int32) (ts : Int32) (te : Int32) (tv : Int32) (v_sd : Int32) (v_mn : Int32) (v_th : Int32) (v_dc : Int32) (v_fc : Nat → Int32) (v_dw : Nat → Int32) (v_pc : Int32) (v_ln : Nat → Int32) (v_lt : Nat → Int32) (v_tc : Int32) (v_en : Nat → Int32) (v_fr : Nat → Int32) (v_oc : Int32) (v_op : Nat → Int32) (v_os : Nat → Int32) : Option ((String × (Int32 × Int32 × Int32 × Int32 × (Nat → Int32) × (Nat → Int32) × Int32 × (Nat → Int32) × (Nat → Int32) × Int32 × (Nat → Int32) × (Nat → Int32) × Int32 × (Nat → Int32) × (Nat → Int32) × Int32 × Int32 × Int32 × Int32 × Int32 × Int32 × Int32 × Int32 × Int32 × (Nat → Int32) × (Nat → Int32) × Int32 × (Nat → Int32) × (Nat → Int32) × Int32 × (Nat → Int32) × (Nat → Int32) × Int32 × (Nat → Int32) × (Nat → Int32) × Int32 × Int32 × Int32 × Int32 × Int32 × Int32 × Int32 × Int32 × (Nat → Int32) × (Nat → Int32) × Int32 × (Nat → Int32) × (Nat → Int32) × Int32 × (Nat → Int32) × (Nat → Int32) × Int32 × (Nat → Int32) × (Nat → Int32))) ⊕ (Int32 × Int32 × Int32 × Int32 × Int32 × (Nat → Int32) × (Nat → Int32) × Int32 × (Nat → Int32) × (Nat → Int32) × Int32 × (Nat → Int32) × (Nat → Int32) × Int32 × (Nat → Int32) × (Nat → Int32) × Int32 × Int32 × Int32 × Int32 × Int32 × Int32 × Int32 × Int32 × Int32 × (Nat → Int32) × (Nat → Int32) × Int32 × (Nat → Int32) × (Nat → Int32) × Int32 × (Nat → Int32) × (Nat → Int32) × Int32 × (Nat → Int32) × (Nat → Int32) × Int32 × Int32 × Int32 × Int32 × Int32 × Int32 × Int32 × Int32 × (Nat → Int32) × (Nat → Int32) × Int32 × (Nat → Int32) × (Nat → Int32) × Int32 × (Nat → Int32) × (Nat → Int32) × Int32 × (Nat → Int32) × (Nat → Int32))) :=
  (f_X5_parse N itl itb ec eo d_sd d_mn d_th d_dc d_fc d_dw d_pc d_ln d_lt d_tc d_en d_fr d_oc d_op d_os kd ts te tv).bind fun t1 =>
  (f_X8_cutTo itl 0).bind fun t2 =>
  if t1.1 = 0 then
    some (.inl ("java/lang/IllegalArgumentException", (sd, mn, th, dc, fc, dw, pc, ln, lt, tc, en, fr, oc, op, os, nx, dp, t2, t1.2.1, t1.2.2.1, t1.2.2.2.1, t1.2.2.2.2.1, t1.2.2.2.2.2.1, t1.2.2.2.2.2.2.1, t1.2.2.2.2.2.2.2.1, t1.2.2.2.2.2.2.2.2.1, t1.2.2.2.2.2.2.2.2.2.1, t1.2.2.2.2.2.2.2.2.2.2.1, t1.2.2.2.2.2.2.2.2.2.2.2.1, t1.2.2.2.2.2.2.2.2.2.2.2.2.1, t1.2.2.2.2.2.2.2.2.2.2.2.2.2.1, t1.2.2.2.2.2.2.2.2.2.2.2.2.2.2.1, t1.2.2.2.2.2.2.2.2.2.2.2.2.2.2.2.1, t1.2.2.2.2.2.2.2.2.2.2.2.2.2.2.2.2.1, t1.2.2.2.2.2.2.2.2.2.2.2.2.2.2.2.2.2.1, t1.2.2.2.2.2.2.2.2.2.2.2.2.2.2.2.2.2.2.1, t1.2.2.2.2.2.2.2.2.2.2.2.2.2.2.2.2.2.2.2.1, t1.2.2.2.2.2.2.2.2.2.2.2.2.2.2.2.2.2.2.2.2.1, t1.2.2.2.2.2.2.2.2.2.2.2.2.2.2.2.2.2.2.2.2.2, v_sd, v_mn, v_th, v_dc, v_fc, v_dw, v_pc, v_ln, v_lt, v_tc, v_en, v_fr, v_oc, v_op, v_os)))
  else
    (f_X3_remember sd mn th dc fc dw pc ln lt tc en fr oc op os nx dp v_sd v_mn v_th v_dc v_fc v_dw v_pc v_ln v_lt v_tc v_en v_fr v_oc v_op v_os).bind fun t3 =>
    (f_X2_copyFrom t1.2.2.2.1 t1.2.2.2.2.1 t1.2.2.2.2.2.1 t1.2.2.2.2.2.2.1 t1.2.2.2.2.2.2.2.1 t1.2.2.2.2.2.2.2.2.1 t1.2.2.2.2.2.2.2.2.2.1 t1.2.2.2.2.2.2.2.2.2.2.1 t1.2.2.2.2.2.2.2.2.2.2.2.1 t1.2.2.2.2.2.2.2.2.2.2.2.2.1 t1.2.2.2.2.2.2.2.2.2.2.2.2.2.1 t1.2.2.2.2.2.2.2.2.2.2.2.2.2.2.1 t1.2.2.2.2.2.2.2.2.2.2.2.2.2.2.2.1 t1.2.2.2.2.2.2.2.2.2.2.2.2.2.2.2.2.1 t1.2.2.2.2.2.2.2.2.2.2.2.2.2.2.2.2.2.1 sd mn th dc fc dw pc ln lt tc en fr oc op os).bind fun t4 =>
    some (.inr (t4.2.2.2.2.2.2.2.2.2.1, t4.1, t4.2.1, t4.2.2.1, t4.2.2.2.1, t4.2.2.2.2.1, t4.2.2.2.2.2.1, t4.2.2.2.2.2.2.1, t4.2.2.2.2.2.2.2.1, t4.2.2.2.2.2.2.2.2.1, t4.2.2.2.2.2.2.2.2.2.1, t4.2.2.2.2.2.2.2.2.2.2.1, t4.2.2.2.2.2.2.2.2.2.2.2.1, t4.2.2.2.2.2.2.2.2.2.2.2.2.1, t4.2.2.2.2.2.2.2.2.2.2.2.2.2.1, t4.2.2.2.2.2.2.2.2.2.2.2.2.2.2, t3.1, t3.2.1, t2, t1.2.1, t1.2.2.1, t1.2.2.2.1, t1.2.2.2.2.1, t1.2.2.2.2.2.1, t1.2.2.2.2.2.2.1, t1.2.2.2.2.2.2.2.1, t1.2.2.2.2.2.2.2.2.1, t1.2.2.2.2.2.2.2.2.2.1, t1.2.2.2.2.2.2.2.2.2.2.1, t1.2.2.2.2.2.2.2.2.2.2.2.1, t1.2.2.2.2.2.2.2.2.2.2.2.2.1, t1.2.2.2.2.2.2.2.2.2.2.2.2.2.1, t1.2.2.2.2.2.2.2.2.2.2.2.2.2.2.1, t1.2.2.2.2.2.2.2.2.2.2.2.2.2.2.2.1, t1.2.2.2.2.2.2.2.2.2.2.2.2.2.2.2.2.1, t1.2.2.2.2.2.2.2.2.2.2.2.2.2.2.2.2.2.1, t1.2.2.2.2.2.2.2.2.2.2.2.2.2.2.2.2.2.2.1, t1.2.2.2.2.2.2.2.2.2.2.2.2.2.2.2.2.2.2.2.1, t1.2.2.2.2.2.2.2.2.2.2.2.2.2.2.2.2.2.2.2.2.1, t1.2.2.2.2.2.2.2.2.2.2.2.2.2.2.2.2.2.2.2.2.2, t3.2.2.1, t3.2.2.2.1, t3.2.2.2.2.1, t3.2.2.2.2.2.1, t3.2.2.2.2.2.2.1, t3.2.2.2.2.2.2.2.1, t3.2.2.2.2.2.2.2.2.1, t3.2.2.2.2.2.2.2.2.2.1, t3.2.2.2.2.2.2.2.2.2.2.1, t3.2.2.2.2.2.2.2.2.2.2.2.1, t3.2.2.2.2.2.2.2.2.2.2.2.2.1, t3.2.2.2.2.2.2.2.2.2.2.2.2.2.1, t3.2.2.2.2.2.2.2.2.2.2.2.2.2.2.1, t3.2.2.2.2.2.2.2.2.2.2.2.2.2.2.2.1, t3.2.2.2.2.2.2.2.2.2.2.2.2.2.2.2.2))
def f_X10_errorCode (ec : Int32)  : Option (Int32) :=
  some ec
def f_X10_errorPosition (eo : Int32)  : Option (Int32) :=
  some eo
def f_X10_seed (sd : Int32)  : Option (Int32) :=
  some sd
def f_X10_minimum (mn : Int32)  : Option (Int32) :=
  some mn
def f_X10_threshold (th : Int32)  : Option (Int32) :=
  some th
def f_X10_dieCount (dc : Int32)  : Option (Int32) :=
  some dc
def f_X10_playerCount (pc : Int32)  : Option (Int32) :=
  some pc
def f_X10_throwCount (tc : Int32)  : Option (Int32) :=
  some tc
def f_X10_requireDie (dc : Int32) (a0 : Int32) : Option (String ⊕ (Unit)) :=
  sbd (f_X10_requireIndex a0 dc) fun t1 =>
  some (.inr ())
def f_X10_faces (dc : Int32) (fc : Nat → Int32) (a0 : Int32) : Option (String ⊕ (Int32)) :=
  sbd (f_X10_requireDie dc a0) fun t1 =>
  (f_X0_faceCount fc a0).bind fun t2 =>
  some (.inr t2)
def f_X10_requireFace (fc : Nat → Int32) (a0 : Int32) (a1 : Int32) : Option (String ⊕ (Unit)) :=
  (f_X0_faceCount fc a0).bind fun t1 =>
  sbd (f_X10_requireRange a1 1 t1) fun t2 =>
  some (.inr ())
def f_X10_weightOf (dc : Int32) (fc : Nat → Int32) (dw : Nat → Int32) (a0 : Int32) (a1 : Int32) : Option (String ⊕ (Int32)) :=
  sbd (f_X10_requireDie dc a0) fun t1 =>
  sbd (f_X10_requireFace fc a0 a1) fun t2 =>
  (f_X0_weight dw a0 a1).bind fun t3 =>
  some (.inr t3)
def f_X10_isBalanced (N : Nat) (dc : Int32) (fc : Nat → Int32) (dw : Nat → Int32) (a0 : Int32) : Option (String ⊕ (Int32)) :=
  sbd (f_X10_requireDie dc a0) fun t1 =>
  (f_X0_hasEqualWeights N fc dw a0).bind fun t2 =>
  some (.inr t2)
def f_X10_heaviestFace (N : Nat) (dc : Int32) (fc : Nat → Int32) (dw : Nat → Int32) (a0 : Int32) : Option (String ⊕ (Int32)) :=
  sbd (f_X10_requireDie dc a0) fun t1 =>
  (f_X10_cellOf a0 1).bind fun t2 =>
  (f_X0_faceCount fc a0).bind fun t3 =>
  (f_X10_greatestCell N 72 dw t2 t3).bind fun t4 =>
  some (.inr t4)
def f_X10_requirePlayer (pc : Int32) (a0 : Int32) : Option (String ⊕ (Unit)) :=
  sbd (f_X10_requireIndex a0 pc) fun t1 =>
  some (.inr ())
def f_X10_nameByte_L24 (pc : Int32) (ln : Nat → Int32) (lt : Nat → Int32)   : Option (String ⊕ (Int32)) :=
  some (.inl "java/util/NoSuchElementException")
def f_X10_nameByte (pc : Int32) (ln : Nat → Int32) (lt : Nat → Int32) (a0 : Int32) (a1 : Int32) : Option (String ⊕ (Int32)) :=
  sbd (f_X10_requirePlayer pc a0) fun t1 =>
  if a1 < 0 then
    f_X10_nameByte_L24 pc ln lt
  else
    (f_X7_nameLength ln a0).bind fun t2 =>
    if a1 < t2 then
      (f_X7_letter lt a0 a1).bind fun t3 =>
      some (.inr t3)
    else
      f_X10_nameByte_L24 pc ln lt
def f_X10_requireThrow (tc : Int32) (a0 : Int32) : Option (String ⊕ (Unit)) :=
  sbd (f_X10_requireIndex a0 tc) fun t1 =>
  some (.inr ())
def f_X10_playerAt (tc : Int32) (en : Nat → Int32) (a0 : Int32) : Option (String ⊕ (Int32)) :=
  sbd (f_X10_requireThrow tc a0) fun t1 =>
  (f_X4_pairIn en a0).bind fun t2 =>
  (f_X10_playerOf t2).bind fun t3 =>
  some (.inr t3)
def f_X10_dieAt (tc : Int32) (en : Nat → Int32) (a0 : Int32) : Option (String ⊕ (Int32)) :=
  sbd (f_X10_requireThrow tc a0) fun t1 =>
  (f_X4_pairIn en a0).bind fun t2 =>
  (f_X10_dieOf t2).bind fun t3 =>
  some (.inr t3)
def f_X10_faceAt (tc : Int32) (en : Nat → Int32) (a0 : Int32) : Option (String ⊕ (Int32)) :=
  sbd (f_X10_requireThrow tc a0) fun t1 =>
  (f_X4_faceIn en a0).bind fun t2 =>
  some (.inr t2)
def f_X10_isFairAt (tc : Int32) (en : Nat → Int32) (a0 : Int32) : Option (String ⊕ (Int32)) :=
  sbd (f_X10_requireThrow tc a0) fun t1 =>
  (f_X4_isMarked en a0).bind fun t2 =>
  some (.inr t2)
def f_X10_throwsOf (N : Nat) (pc : Int32) (fr : Nat → Int32) (a0 : Int32) : Option (String ⊕ (Int32)) :=
  sbd (f_X10_requirePlayer pc a0) fun t1 =>
  (f_X4_playerThrows N fr a0).bind fun t2 =>
  some (.inr t2)
def f_X10_total (N : Nat) (pc : Int32) (fr : Nat → Int32) (a0 : Int32) : Option (String ⊕ (Int32)) :=
  sbd (f_X10_requirePlayer pc a0) fun t1 =>
  (f_X4_playerTotal N fr a0).bind fun t2 =>
  some (.inr t2)
def f_X10_meanFace (N : Nat) (pc : Int32) (fr : Nat → Int32) (a0 : Int32) : Option (String ⊕ (UInt64)) :=
  sbd (f_X10_requirePlayer pc a0) fun t1 =>
  (f_X4_playerThrows N fr a0).bind fun t2 =>
  if t2 = 0 then
    some (.inr FP.dconst0)
  else
    (f_X4_playerTotal N fr a0).bind fun t3 =>
    gd (isn64 (FP.ddiv (FP.i2d t3) (FP.i2d t2))) <|
    some (.inr (FP.ddiv (FP.i2d t3) (FP.i2d t2)))
def f_X10_rankOf (N : Nat) (pc : Int32) (lt : Nat → Int32) (fr : Nat → Int32) (a0 : Int32) : Option (String ⊕ (Int32)) :=
  sbd (f_X10_requirePlayer pc a0) fun t1 =>
  (f_X2_placeByTotal N pc lt fr a0).bind fun t2 =>
  some (.inr t2)
def f_X10_playerWithRank_L2_F (N : Nat) (pc : Int32) (lt : Nat → Int32) (fr : Nat → Int32)  (r2 : Int32 → Int32 → Option (String ⊕ (Int32))) (l1 : Int32) (l2 : Int32) : Option (String ⊕ (Int32)) :=
  if pc ≤ l2 then
    some (.inl "java/util/NoSuchElementException")
  else
    (f_X2_placeByTotal N pc lt fr l2).bind fun t1 =>
    if t1 = l1 then
      some (.inr l2)
    else
      r2 l1 (l2 + 1)
def f_X10_playerWithRank_L2 (N : Nat) (pc : Int32) (lt : Nat → Int32) (fr : Nat → Int32)  : Nat → Int32 → Int32 → Option (String ⊕ (Int32))
  | 0 => fun _ _ => none
  | j + 1 => f_X10_playerWithRank_L2_F N pc lt fr (f_X10_playerWithRank_L2 N pc lt fr j)
def f_X10_playerWithRank (N : Nat) (pc : Int32) (lt : Nat → Int32) (fr : Nat → Int32) (a0 : Int32) : Option (String ⊕ (Int32)) :=
  f_X10_playerWithRank_L2 N pc lt fr N a0 0
def f_X10_longestRun (N : Nat) (pc : Int32) (tc : Int32) (en : Nat → Int32) (a0 : Int32) : Option (String ⊕ (Int32)) :=
  sbd (f_X10_requirePlayer pc a0) fun t1 =>
  (f_X4_longestStreak N tc en a0).bind fun t2 =>
  some (.inr t2)
def f_X10_findPlayer (N : Nat) (pc : Int32) (ln : Nat → Int32) (lt : Nat → Int32) (itl : Int32) (itb : Nat → Int32)  : Option (Int32) :=
  (f_X7_find N pc ln lt itl itb 0 itl).bind fun t1 =>
  some t1
def f_X10_requirePair (dc : Int32) (pc : Int32) (a0 : Int32) (a1 : Int32) : Option (String ⊕ (Unit)) :=
  sbd (f_X10_requirePlayer pc a0) fun t1 =>
  sbd (f_X10_requireDie dc a1) fun t2 =>
  some (.inr ())
def f_X10_throwsOfPair (N : Nat) (dc : Int32) (pc : Int32) (fr : Nat → Int32) (a0 : Int32) (a1 : Int32) : Option (String ⊕ (Int32)) :=
  sbd (f_X10_requirePair dc pc a0 a1) fun t1 =>
  (f_X10_pairOf a0 a1).bind fun t2 =>
  (f_X4_pairThrows N fr t2).bind fun t3 =>
  some (.inr t3)
def f_X10_frequency (dc : Int32) (fc : Nat → Int32) (pc : Int32) (fr : Nat → Int32) (a0 : Int32) (a1 : Int32) (a2 : Int32) : Option (String ⊕ (Int32)) :=
  sbd (f_X10_requirePair dc pc a0 a1) fun t1 =>
  sbd (f_X10_requireFace fc a1 a2) fun t2 =>
  (f_X10_pairOf a0 a1).bind fun t3 =>
  (f_X10_cellOf t3 a2).bind fun t4 =>
  (f_X10_at 432 fr t4).bind fun t5 =>
  some (.inr t5)
def f_X10_commonFace (N : Nat) (dc : Int32) (fc : Nat → Int32) (pc : Int32) (fr : Nat → Int32) (a0 : Int32) (a1 : Int32) : Option (String ⊕ (Int32)) :=
  sbd (f_X10_requirePair dc pc a0 a1) fun t1 =>
  (f_X10_pairOf a0 a1).bind fun t2 =>
  (f_X10_cellOf t2 1).bind fun t3 =>
  (f_X0_faceCount fc a1).bind fun t4 =>
  (f_X10_greatestCell N 432 fr t3 t4).bind fun t5 =>
  some (.inr t5)
def f_X10_facesSeen (N : Nat) (dc : Int32) (pc : Int32) (fr : Nat → Int32) (a0 : Int32) (a1 : Int32) : Option (String ⊕ (Int32)) :=
  sbd (f_X10_requirePair dc pc a0 a1) fun t1 =>
  (f_X10_pairOf a0 a1).bind fun t2 =>
  (f_X4_distinctFaces N fr t2).bind fun t3 =>
  some (.inr t3)
def f_X10_latestThrow (N : Nat) (dc : Int32) (pc : Int32) (tc : Int32) (en : Nat → Int32) (a0 : Int32) (a1 : Int32) : Option (String ⊕ (Int32)) :=
  sbd (f_X10_requirePair dc pc a0 a1) fun t1 =>
  (f_X10_pairOf a0 a1).bind fun t2 =>
  (f_X4_latestOf N tc en t2).bind fun t3 =>
  some (.inr t3)
def f_X10_score (N : Nat) (dc : Int32) (fc : Nat → Int32) (pc : Int32) (fr : Nat → Int32) (a0 : Int32) (a1 : Int32) : Option (String ⊕ (Int32)) :=
  sbd (f_X10_requirePair dc pc a0 a1) fun t1 =>
  (f_X10_pairOf a0 a1).bind fun t2 =>
  (f_X2_pairScore N fc fr t2).bind fun t3 =>
  some (.inr t3)
def f_X10_isSuspicious (N : Nat) (mn : Int32) (th : Int32) (dc : Int32) (fc : Nat → Int32) (pc : Int32) (fr : Nat → Int32) (a0 : Int32) (a1 : Int32) : Option (String ⊕ (Int32)) :=
  sbd (f_X10_requirePair dc pc a0 a1) fun t1 =>
  (f_X10_pairOf a0 a1).bind fun t2 =>
  (f_X2_isPairSuspicious N mn th fc fr t2).bind fun t3 =>
  some (.inr t3)
def f_X10_suspiciousPairs (N : Nat) (mn : Int32) (th : Int32) (fc : Nat → Int32) (fr : Nat → Int32)  : Option (Int32) :=
  (f_X2_countSuspicious N mn th fc fr).bind fun t1 =>
  some t1
def f_X10_worstPair (N : Nat) (fc : Nat → Int32) (tc : Int32) (fr : Nat → Int32)  : Option (Int32) :=
  if tc = 0 then
    some (-1)
  else
    (f_X2_pairWithGreatestScore N fc fr).bind fun t1 =>
    (f_X10_playerOf t1).bind fun t2 =>
    (f_X10_dieOf t1).bind fun t3 =>
    some ((10 * t2) + t3)
def f_X10_offenceCount (oc : Int32)  : Option (Int32) :=
  some oc
def f_X10_requireOffence (oc : Int32) (a0 : Int32) : Option (String ⊕ (Unit)) :=
  sbd (f_X10_requireIndex a0 oc) fun t1 =>
  some (.inr ())
def f_X10_offencePlayer (oc : Int32) (op : Nat → Int32) (a0 : Int32) : Option (String ⊕ (Int32)) :=
  sbd (f_X10_requireOffence oc a0) fun t1 =>
  (f_X10_at 36 op a0).bind fun t2 =>
  (f_X10_playerOf t2).bind fun t3 =>
  some (.inr t3)
def f_X10_offenceDie (oc : Int32) (op : Nat → Int32) (a0 : Int32) : Option (String ⊕ (Int32)) :=
  sbd (f_X10_requireOffence oc a0) fun t1 =>
  (f_X10_at 36 op a0).bind fun t2 =>
  (f_X10_dieOf t2).bind fun t3 =>
  some (.inr t3)
def f_X10_offenceScore (oc : Int32) (os : Nat → Int32) (a0 : Int32) : Option (String ⊕ (Int32)) :=
  sbd (f_X10_requireOffence oc a0) fun t1 =>
  (f_X10_at 36 os a0).bind fun t2 =>
  some (.inr t2)
def f_X10_offencesOf (N : Nat) (pc : Int32) (oc : Int32) (op : Nat → Int32) (a0 : Int32) : Option (String ⊕ (Int32)) :=
  sbd (f_X10_requirePlayer pc a0) fun t1 =>
  (f_X6_countOf N oc op a0).bind fun t2 =>
  some (.inr t2)
def f_X10_nextFace (N : Nat) (sd : Int32) (dc : Int32) (fc : Nat → Int32) (dw : Nat → Int32) (a0 : Int32) : Option (String ⊕ (Int32)) :=
  sbd (f_X10_requireDie dc a0) fun t1 =>
  (f_X10_nextSeed sd).bind fun t2 =>
  (f_X0_faceShown N fc dw a0 t2).bind fun t3 =>
  some (.inr t3)
def f_X10_faceAfter_L24_F (N : Nat) (sd : Int32) (dc : Int32) (fc : Nat → Int32) (dw : Nat → Int32)  (r24 : Int32 → Int32 → Int32 → Int32 → Option (String ⊕ (Int32))) (l1 : Int32) (l2 : Int32) (l3 : Int32) (l4 : Int32) : Option (String ⊕ (Int32)) :=
  if l2 ≤ l4 then
    (f_X0_faceShown N fc dw l1 l3).bind fun t3 =>
    some (.inr t3)
  else
    (f_X10_nextSeed l3).bind fun t4 =>
    r24 l1 l2 t4 (l4 + 1)
def f_X10_faceAfter_L24 (N : Nat) (sd : Int32) (dc : Int32) (fc : Nat → Int32) (dw : Nat → Int32)  : Nat → Int32 → Int32 → Int32 → Int32 → Option (String ⊕ (Int32))
  | 0 => fun _ _ _ _ => none
  | j + 1 => f_X10_faceAfter_L24_F N sd dc fc dw (f_X10_faceAfter_L24 N sd dc fc dw j)
def f_X10_faceAfter (N : Nat) (sd : Int32) (dc : Int32) (fc : Nat → Int32) (dw : Nat → Int32) (a0 : Int32) (a1 : Int32) : Option (String ⊕ (Int32)) :=
  sbd (f_X10_requireDie dc a0) fun t1 =>
  sbd (f_X10_requireRange a1 1 200) fun t2 =>
  f_X10_faceAfter_L24 N sd dc fc dw N a0 a1 sd 0
def f_X10_throwsUntil_L22_F (N : Nat) (sd : Int32) (dc : Int32) (fc : Nat → Int32) (dw : Nat → Int32)  (r22 : Int32 → Int32 → Int32 → Int32 → Option (String ⊕ (Int32))) (l1 : Int32) (l2 : Int32) (l3 : Int32) (l4 : Int32) : Option (String ⊕ (Int32)) :=
  if 200 < l4 then
    some (.inr (-1))
  else
    (f_X10_nextSeed l3).bind fun t3 =>
    (f_X0_faceShown N fc dw l1 t3).bind fun t4 =>
    if t4 = l2 then
      some (.inr l4)
    else
      r22 l1 l2 t3 (l4 + 1)
def f_X10_throwsUntil_L22 (N : Nat) (sd : Int32) (dc : Int32) (fc : Nat → Int32) (dw : Nat → Int32)  : Nat → Int32 → Int32 → Int32 → Int32 → Option (String ⊕ (Int32))
  | 0 => fun _ _ _ _ => none
  | j + 1 => f_X10_throwsUntil_L22_F N sd dc fc dw (f_X10_throwsUntil_L22 N sd dc fc dw j)
def f_X10_throwsUntil (N : Nat) (sd : Int32) (dc : Int32) (fc : Nat → Int32) (dw : Nat → Int32) (a0 : Int32) (a1 : Int32) : Option (String ⊕ (Int32)) :=
  sbd (f_X10_requireDie dc a0) fun t1 =>
  sbd (f_X10_requireFace fc a0 a1) fun t2 =>
  f_X10_throwsUntil_L22 N sd dc fc dw N a0 a1 sd 1
def f_X10_scoreAfter_L29_F (N : Nat) (sd : Int32) (dc : Int32) (fc : Nat → Int32) (dw : Nat → Int32) (pc : Int32) (fr : Nat → Int32)  (r29 : Int32 → Int32 → Int32 → Int32 → (Nat → Int32) → Option (String ⊕ (Int32 × Int32 × Int32 × (Nat → Int32)))) (l3 : Int32) (l4 : Int32) (fd : Int32) (fs : Int32) (ff : Nat → Int32) : Option (String ⊕ (Int32 × Int32 × Int32 × (Nat → Int32))) :=
  if l3 ≤ l4 then
    (f_X1_presentScore N fd ff fc).bind fun t4 =>
    some (.inr (t4, fd, fs, ff))
  else
    (f_X1_throwOnce N fd fc dw fs ff).bind fun t5 =>
    r29 l3 (l4 + 1) fd t5.1 t5.2
def f_X10_scoreAfter_L29 (N : Nat) (sd : Int32) (dc : Int32) (fc : Nat → Int32) (dw : Nat → Int32) (pc : Int32) (fr : Nat → Int32)  : Nat → Int32 → Int32 → Int32 → Int32 → (Nat → Int32) → Option (String ⊕ (Int32 × Int32 × Int32 × (Nat → Int32)))
  | 0 => fun _ _ _ _ _ => none
  | j + 1 => f_X10_scoreAfter_L29_F N sd dc fc dw pc fr (f_X10_scoreAfter_L29 N sd dc fc dw pc fr j)
def f_X10_scoreAfter (N : Nat) (sd : Int32) (dc : Int32) (fc : Nat → Int32) (dw : Nat → Int32) (pc : Int32) (fr : Nat → Int32) (fd : Int32) (fs : Int32) (ff : Nat → Int32) (a0 : Int32) (a1 : Int32) (a2 : Int32) : Option (String ⊕ (Int32 × Int32 × Int32 × (Nat → Int32))) :=
  sbd (f_X10_requirePair dc pc a0 a1) fun t1 =>
  sbd (f_X10_requireRange a2 0 50) fun t2 =>
  (f_X1_begin N sd fr fd fs ff a0 a1).bind fun t3 =>
  f_X10_scoreAfter_L29 N sd dc fc dw pc fr N a2 0 t3.1 t3.2.1 t3.2.2
def f_X10_throwsUntilSuspicious_L21_F (N : Nat) (sd : Int32) (mn : Int32) (th : Int32) (dc : Int32) (fc : Nat → Int32) (dw : Nat → Int32) (pc : Int32) (fr : Nat → Int32)  (r21 : Int32 → Int32 → Int32 → (Nat → Int32) → Option (String ⊕ (Int32 × Int32 × Int32 × (Nat → Int32)))) (l3 : Int32) (fd : Int32) (fs : Int32) (ff : Nat → Int32) : Option (String ⊕ (Int32 × Int32 × Int32 × (Nat → Int32))) :=
  if 50 < l3 then
    some (.inr ((-1), fd, fs, ff))
  else
    (f_X1_made N ff).bind fun t3 =>
    (f_X1_presentScore N fd ff fc).bind fun t4 =>
    (f_X2_exceedsLimits mn th t3 t4).bind fun t5 =>
    if t5 = 0 then
      (f_X1_throwOnce N fd fc dw fs ff).bind fun t6 =>
      r21 (l3 + 1) fd t6.1 t6.2
    else
      some (.inr (l3, fd, fs, ff))
def f_X10_throwsUntilSuspicious_L21 (N : Nat) (sd : Int32) (mn : Int32) (th : Int32) (dc : Int32) (fc : Nat → Int32) (dw : Nat → Int32) (pc : Int32) (fr : Nat → Int32)  : Nat → Int32 → Int32 → Int32 → (Nat → Int32) → Option (String ⊕ (Int32 × Int32 × Int32 × (Nat → Int32)))
  | 0 => fun _ _ _ _ => none
  | j + 1 => f_X10_throwsUntilSuspicious_L21_F N sd mn th dc fc dw pc fr (f_X10_throwsUntilSuspicious_L21 N sd mn th dc fc dw pc fr j)
def f_X10_throwsUntilSuspicious (N : Nat) (sd : Int32) (mn : Int32) (th : Int32) (dc : Int32) (fc : Nat → Int32) (dw : Nat → Int32) (pc : Int32) (fr : Nat → Int32) (fd : Int32) (fs : Int32) (ff : Nat → Int32) (a0 : Int32) (a1 : Int32) : Option (String ⊕ (Int32 × Int32 × Int32 × (Nat → Int32))) :=
  sbd (f_X10_requirePair dc pc a0 a1) fun t1 =>
  (f_X1_begin N sd fr fd fs ff a0 a1).bind fun t2 =>
  f_X10_throwsUntilSuspicious_L21 N sd mn th dc fc dw pc fr N 0 t2.1 t2.2.1 t2.2.2
def f_X10_penanceNow (N : Nat) (fr : Nat → Int32) (oc : Int32) (op : Nat → Int32) (os : Nat → Int32)  : Option (Int32) :=
  (f_X2_penanceSize N fr oc op os).bind fun t1 =>
  some t1
def f_X10_frequencyDifference (N : Nat) (tc : Int32) (fr : Nat → Int32)  : Option (Int32) :=
  (f_X4_frequencySum N fr).bind fun t1 =>
  some (t1 - tc)
def f_X10_totalDifference_L4_F (N : Nat) (pc : Int32) (tc : Int32) (en : Nat → Int32) (fr : Nat → Int32)  (r4 : Int32 → Int32 → Option (Int32)) (l1 : Int32) (l2 : Int32) : Option (Int32) :=
  if pc ≤ l2 then
    (f_X4_faceSum N tc en).bind fun t1 =>
    some (l1 - t1)
  else
    (f_X4_playerTotal N fr l2).bind fun t2 =>
    r4 (l1 + t2) (l2 + 1)
def f_X10_totalDifference_L4 (N : Nat) (pc : Int32) (tc : Int32) (en : Nat → Int32) (fr : Nat → Int32)  : Nat → Int32 → Int32 → Option (Int32)
  | 0 => fun _ _ => none
  | j + 1 => f_X10_totalDifference_L4_F N pc tc en fr (f_X10_totalDifference_L4 N pc tc en fr j)
def f_X10_totalDifference (N : Nat) (pc : Int32) (tc : Int32) (en : Nat → Int32) (fr : Nat → Int32)  : Option (Int32) :=
  f_X10_totalDifference_L4 N pc tc en fr N 0 0
def f_X10_fairShare (N : Nat) (tc : Int32) (en : Nat → Int32)  : Option (UInt32) :=
  if tc = 0 then
    some FP.fconst0
  else
    (f_X4_markedThrows N tc en).bind fun t1 =>
    gd (isn32 (FP.fdiv (FP.i2f t1) (FP.i2f tc))) <|
    some (FP.fdiv (FP.i2f t1) (FP.i2f tc))
def f_X10_throwDie (N : Nat) (mn : Int32) (th : Int32) (dc : Int32) (fc : Nat → Int32) (dw : Nat → Int32) (pc : Int32) (ln : Nat → Int32) (lt : Nat → Int32) (oc : Int32) (op : Nat → Int32) (os : Nat → Int32) (sd : Int32) (tc : Int32) (en : Nat → Int32) (fr : Nat → Int32) (nx : Int32) (dp : Int32) (v_sd : Int32) (v_mn : Int32) (v_th : Int32) (v_dc : Int32) (v_fc : Nat → Int32) (v_dw : Nat → Int32) (v_pc : Int32) (v_ln : Nat → Int32) (v_lt : Nat → Int32) (v_tc : Int32) (v_en : Nat → Int32) (v_fr : Nat → Int32) (v_oc : Int32) (v_op : Nat → Int32) (v_os : Nat → Int32) (a0 : Int32) (a1 : Int32) (a2 : Int32) : Option (String ⊕ (Int32 × Int32 × Int32 × (Nat → Int32) × (Nat → Int32) × Int32 × Int32 × Int32 × Int32 × Int32 × Int32 × (Nat → Int32) × (Nat → Int32) × Int32 × (Nat → Int32) × (Nat → Int32) × Int32 × (Nat → Int32) × (Nat → Int32) × Int32 × (Nat → Int32) × (Nat → Int32))) :=
  sbd (f_X10_requirePair dc pc a0 a1) fun t1 =>
  sbd (f_X10_requireRange a2 1 50) fun t2 =>
  if (tc + a2) ≤ 300 then
    (f_X3_remember sd mn th dc fc dw pc ln lt tc en fr oc op os nx dp v_sd v_mn v_th v_dc v_fc v_dw v_pc v_ln v_lt v_tc v_en v_fr v_oc v_op v_os).bind fun t3 =>
    (f_X10_pairOf a0 a1).bind fun t4 =>
    (f_X2_makeThrows N fc dw sd tc en fr t4 a2 0).bind fun t5 =>
    some (.inr (t5.1, t5.2.1, t5.2.2.1, t5.2.2.2.1, t5.2.2.2.2, t3.1, t3.2.1, t3.2.2.1, t3.2.2.2.1, t3.2.2.2.2.1, t3.2.2.2.2.2.1, t3.2.2.2.2.2.2.1, t3.2.2.2.2.2.2.2.1, t3.2.2.2.2.2.2.2.2.1, t3.2.2.2.2.2.2.2.2.2.1, t3.2.2.2.2.2.2.2.2.2.2.1, t3.2.2.2.2.2.2.2.2.2.2.2.1, t3.2.2.2.2.2.2.2.2.2.2.2.2.1, t3.2.2.2.2.2.2.2.2.2.2.2.2.2.1, t3.2.2.2.2.2.2.2.2.2.2.2.2.2.2.1, t3.2.2.2.2.2.2.2.2.2.2.2.2.2.2.2.1, t3.2.2.2.2.2.2.2.2.2.2.2.2.2.2.2.2))
  else
    some (.inl "java/lang/IllegalStateException")
def f_X10_audit (N : Nat) (sd : Int32) (mn : Int32) (th : Int32) (dc : Int32) (fc : Nat → Int32) (dw : Nat → Int32) (pc : Int32) (ln : Nat → Int32) (lt : Nat → Int32) (tc : Int32) (en : Nat → Int32) (fr : Nat → Int32) (oc : Int32) (op : Nat → Int32) (os : Nat → Int32) (nx : Int32) (dp : Int32) (v_sd : Int32) (v_mn : Int32) (v_th : Int32) (v_dc : Int32) (v_fc : Nat → Int32) (v_dw : Nat → Int32) (v_pc : Int32) (v_ln : Nat → Int32) (v_lt : Nat → Int32) (v_tc : Int32) (v_en : Nat → Int32) (v_fr : Nat → Int32) (v_oc : Int32) (v_op : Nat → Int32) (v_os : Nat → Int32) : Option (Int32 × Int32 × (Nat → Int32) × (Nat → Int32) × Int32 × Int32 × Int32 × Int32 × Int32 × Int32 × (Nat → Int32) × (Nat → Int32) × Int32 × (Nat → Int32) × (Nat → Int32) × Int32 × (Nat → Int32) × (Nat → Int32) × Int32 × (Nat → Int32) × (Nat → Int32)) :=
  (f_X3_remember sd mn th dc fc dw pc ln lt tc en fr oc op os nx dp v_sd v_mn v_th v_dc v_fc v_dw v_pc v_ln v_lt v_tc v_en v_fr v_oc v_op v_os).bind fun t1 =>
  (f_X2_holdAudit N mn th fc fr oc op os).bind fun t2 =>
  some (t2.1, t2.2.1, t2.2.2.1, t2.2.2.2, t1.1, t1.2.1, t1.2.2.1, t1.2.2.2.1, t1.2.2.2.2.1, t1.2.2.2.2.2.1, t1.2.2.2.2.2.2.1, t1.2.2.2.2.2.2.2.1, t1.2.2.2.2.2.2.2.2.1, t1.2.2.2.2.2.2.2.2.2.1, t1.2.2.2.2.2.2.2.2.2.2.1, t1.2.2.2.2.2.2.2.2.2.2.2.1, t1.2.2.2.2.2.2.2.2.2.2.2.2.1, t1.2.2.2.2.2.2.2.2.2.2.2.2.2.1, t1.2.2.2.2.2.2.2.2.2.2.2.2.2.2.1, t1.2.2.2.2.2.2.2.2.2.2.2.2.2.2.2.1, t1.2.2.2.2.2.2.2.2.2.2.2.2.2.2.2.2)
def f_X10_absolve (N : Nat) (mn : Int32) (th : Int32) (dc : Int32) (fc : Nat → Int32) (dw : Nat → Int32) (pc : Int32) (ln : Nat → Int32) (lt : Nat → Int32) (sd : Int32) (tc : Int32) (en : Nat → Int32) (fr : Nat → Int32) (oc : Int32) (op : Nat → Int32) (os : Nat → Int32) (nx : Int32) (dp : Int32) (v_sd : Int32) (v_mn : Int32) (v_th : Int32) (v_dc : Int32) (v_fc : Nat → Int32) (v_dw : Nat → Int32) (v_pc : Int32) (v_ln : Nat → Int32) (v_lt : Nat → Int32) (v_tc : Int32) (v_en : Nat → Int32) (v_fr : Nat → Int32) (v_oc : Int32) (v_op : Nat → Int32) (v_os : Nat → Int32) : Option (String ⊕ (Int32 × Int32 × Int32 × (Nat → Int32) × (Nat → Int32) × Int32 × (Nat → Int32) × (Nat → Int32) × Int32 × Int32 × Int32 × Int32 × Int32 × Int32 × (Nat → Int32) × (Nat → Int32) × Int32 × (Nat → Int32) × (Nat → Int32) × Int32 × (Nat → Int32) × (Nat → Int32) × Int32 × (Nat → Int32) × (Nat → Int32))) :=
  if oc = 0 then
    some (.inl "java/lang/IllegalStateException")
  else
    (f_X3_remember sd mn th dc fc dw pc ln lt tc en fr oc op os nx dp v_sd v_mn v_th v_dc v_fc v_dw v_pc v_ln v_lt v_tc v_en v_fr v_oc v_op v_os).bind fun t1 =>
    (f_X2_doPenance N fc dw sd tc en fr oc op os).bind fun t2 =>
    some (.inr (t2.1, t2.2.1, t2.2.2.1, t2.2.2.2.1, t2.2.2.2.2.1, t2.2.2.2.2.2.1, t2.2.2.2.2.2.2.1, t2.2.2.2.2.2.2.2, t1.1, t1.2.1, t1.2.2.1, t1.2.2.2.1, t1.2.2.2.2.1, t1.2.2.2.2.2.1, t1.2.2.2.2.2.2.1, t1.2.2.2.2.2.2.2.1, t1.2.2.2.2.2.2.2.2.1, t1.2.2.2.2.2.2.2.2.2.1, t1.2.2.2.2.2.2.2.2.2.2.1, t1.2.2.2.2.2.2.2.2.2.2.2.1, t1.2.2.2.2.2.2.2.2.2.2.2.2.1, t1.2.2.2.2.2.2.2.2.2.2.2.2.2.1, t1.2.2.2.2.2.2.2.2.2.2.2.2.2.2.1, t1.2.2.2.2.2.2.2.2.2.2.2.2.2.2.2.1, t1.2.2.2.2.2.2.2.2.2.2.2.2.2.2.2.2))
def f_X10_forgive (N : Nat) (sd : Int32) (mn : Int32) (th : Int32) (dc : Int32) (fc : Nat → Int32) (dw : Nat → Int32) (pc : Int32) (ln : Nat → Int32) (lt : Nat → Int32) (tc : Int32) (en : Nat → Int32) (fr : Nat → Int32) (oc : Int32) (op : Nat → Int32) (os : Nat → Int32) (nx : Int32) (dp : Int32) (v_sd : Int32) (v_mn : Int32) (v_th : Int32) (v_dc : Int32) (v_fc : Nat → Int32) (v_dw : Nat → Int32) (v_pc : Int32) (v_ln : Nat → Int32) (v_lt : Nat → Int32) (v_tc : Int32) (v_en : Nat → Int32) (v_fr : Nat → Int32) (v_oc : Int32) (v_op : Nat → Int32) (v_os : Nat → Int32) (a0 : Int32) : Option (String ⊕ (Int32 × Int32 × (Nat → Int32) × (Nat → Int32) × Int32 × Int32 × Int32 × Int32 × Int32 × Int32 × (Nat → Int32) × (Nat → Int32) × Int32 × (Nat → Int32) × (Nat → Int32) × Int32 × (Nat → Int32) × (Nat → Int32) × Int32 × (Nat → Int32) × (Nat → Int32))) :=
  sbd (f_X10_requirePlayer pc a0) fun t1 =>
  (f_X3_remember sd mn th dc fc dw pc ln lt tc en fr oc op os nx dp v_sd v_mn v_th v_dc v_fc v_dw v_pc v_ln v_lt v_tc v_en v_fr v_oc v_op v_os).bind fun t2 =>
  (f_X6_removeAllOf N oc op os a0).bind fun t3 =>
  some (.inr (t3.1, t3.2.1, t3.2.2.1, t3.2.2.2, t2.1, t2.2.1, t2.2.2.1, t2.2.2.2.1, t2.2.2.2.2.1, t2.2.2.2.2.2.1, t2.2.2.2.2.2.2.1, t2.2.2.2.2.2.2.2.1, t2.2.2.2.2.2.2.2.2.1, t2.2.2.2.2.2.2.2.2.2.1, t2.2.2.2.2.2.2.2.2.2.2.1, t2.2.2.2.2.2.2.2.2.2.2.2.1, t2.2.2.2.2.2.2.2.2.2.2.2.2.1, t2.2.2.2.2.2.2.2.2.2.2.2.2.2.1, t2.2.2.2.2.2.2.2.2.2.2.2.2.2.2.1, t2.2.2.2.2.2.2.2.2.2.2.2.2.2.2.2.1, t2.2.2.2.2.2.2.2.2.2.2.2.2.2.2.2.2))
def f_X10_setWeight (N : Nat) (sd : Int32) (mn : Int32) (th : Int32) (dc : Int32) (fc : Nat → Int32) (pc : Int32) (ln : Nat → Int32) (lt : Nat → Int32) (tc : Int32) (en : Nat → Int32) (fr : Nat → Int32) (oc : Int32) (op : Nat → Int32) (os : Nat → Int32) (dw : Nat → Int32) (nx : Int32) (dp : Int32) (v_sd : Int32) (v_mn : Int32) (v_th : Int32) (v_dc : Int32) (v_fc : Nat → Int32) (v_dw : Nat → Int32) (v_pc : Int32) (v_ln : Nat → Int32) (v_lt : Nat → Int32) (v_tc : Int32) (v_en : Nat → Int32) (v_fr : Nat → Int32) (v_oc : Int32) (v_op : Nat → Int32) (v_os : Nat → Int32) (a0 : Int32) (a1 : Int32) (a2 : Int32) : Option (String ⊕ (Int32 × (Nat → Int32) × Int32 × Int32 × Int32 × Int32 × Int32 × Int32 × (Nat → Int32) × (Nat → Int32) × Int32 × (Nat → Int32) × (Nat → Int32) × Int32 × (Nat → Int32) × (Nat → Int32) × Int32 × (Nat → Int32) × (Nat → Int32))) :=
  sbd (f_X10_requireDie dc a0) fun t1 =>
  sbd (f_X10_requireFace fc a0 a1) fun t2 =>
  sbd (f_X10_requireRange a2 0 9) fun t3 =>
  (f_X0_weight dw a0 a1).bind fun t4 =>
  (f_X0_weightSum N fc dw a0).bind fun t5 =>
  if ((t5 - t4) + a2) = 0 then
    some (.inl "java/lang/IllegalStateException")
  else
    (f_X3_remember sd mn th dc fc dw pc ln lt tc en fr oc op os nx dp v_sd v_mn v_th v_dc v_fc v_dw v_pc v_ln v_lt v_tc v_en v_fr v_oc v_op v_os).bind fun t6 =>
    (f_X0_putWeight dw a0 a1 a2).bind fun t7 =>
    some (.inr (t4, t7, t6.1, t6.2.1, t6.2.2.1, t6.2.2.2.1, t6.2.2.2.2.1, t6.2.2.2.2.2.1, t6.2.2.2.2.2.2.1, t6.2.2.2.2.2.2.2.1, t6.2.2.2.2.2.2.2.2.1, t6.2.2.2.2.2.2.2.2.2.1, t6.2.2.2.2.2.2.2.2.2.2.1, t6.2.2.2.2.2.2.2.2.2.2.2.1, t6.2.2.2.2.2.2.2.2.2.2.2.2.1, t6.2.2.2.2.2.2.2.2.2.2.2.2.2.1, t6.2.2.2.2.2.2.2.2.2.2.2.2.2.2.1, t6.2.2.2.2.2.2.2.2.2.2.2.2.2.2.2.1, t6.2.2.2.2.2.2.2.2.2.2.2.2.2.2.2.2))
def f_X10_setSeed (mn : Int32) (th : Int32) (dc : Int32) (fc : Nat → Int32) (dw : Nat → Int32) (pc : Int32) (ln : Nat → Int32) (lt : Nat → Int32) (tc : Int32) (en : Nat → Int32) (fr : Nat → Int32) (oc : Int32) (op : Nat → Int32) (os : Nat → Int32) (sd : Int32) (nx : Int32) (dp : Int32) (v_sd : Int32) (v_mn : Int32) (v_th : Int32) (v_dc : Int32) (v_fc : Nat → Int32) (v_dw : Nat → Int32) (v_pc : Int32) (v_ln : Nat → Int32) (v_lt : Nat → Int32) (v_tc : Int32) (v_en : Nat → Int32) (v_fr : Nat → Int32) (v_oc : Int32) (v_op : Nat → Int32) (v_os : Nat → Int32) (a0 : Int32) : Option (String ⊕ (Int32 × Int32 × Int32 × Int32 × Int32 × Int32 × Int32 × Int32 × (Nat → Int32) × (Nat → Int32) × Int32 × (Nat → Int32) × (Nat → Int32) × Int32 × (Nat → Int32) × (Nat → Int32) × Int32 × (Nat → Int32) × (Nat → Int32))) :=
  sbd (f_X10_requireRange a0 0 65536) fun t1 =>
  (f_X3_remember sd mn th dc fc dw pc ln lt tc en fr oc op os nx dp v_sd v_mn v_th v_dc v_fc v_dw v_pc v_ln v_lt v_tc v_en v_fr v_oc v_op v_os).bind fun t2 =>
  some (.inr (sd, a0, t2.1, t2.2.1, t2.2.2.1, t2.2.2.2.1, t2.2.2.2.2.1, t2.2.2.2.2.2.1, t2.2.2.2.2.2.2.1, t2.2.2.2.2.2.2.2.1, t2.2.2.2.2.2.2.2.2.1, t2.2.2.2.2.2.2.2.2.2.1, t2.2.2.2.2.2.2.2.2.2.2.1, t2.2.2.2.2.2.2.2.2.2.2.2.1, t2.2.2.2.2.2.2.2.2.2.2.2.2.1, t2.2.2.2.2.2.2.2.2.2.2.2.2.2.1, t2.2.2.2.2.2.2.2.2.2.2.2.2.2.2.1, t2.2.2.2.2.2.2.2.2.2.2.2.2.2.2.2.1, t2.2.2.2.2.2.2.2.2.2.2.2.2.2.2.2.2))
def f_X10_setLimits (N : Nat) (sd : Int32) (dc : Int32) (fc : Nat → Int32) (dw : Nat → Int32) (pc : Int32) (ln : Nat → Int32) (lt : Nat → Int32) (tc : Int32) (en : Nat → Int32) (fr : Nat → Int32) (oc : Int32) (op : Nat → Int32) (os : Nat → Int32) (mn : Int32) (th : Int32) (nx : Int32) (dp : Int32) (v_sd : Int32) (v_mn : Int32) (v_th : Int32) (v_dc : Int32) (v_fc : Nat → Int32) (v_dw : Nat → Int32) (v_pc : Int32) (v_ln : Nat → Int32) (v_lt : Nat → Int32) (v_tc : Int32) (v_en : Nat → Int32) (v_fr : Nat → Int32) (v_oc : Int32) (v_op : Nat → Int32) (v_os : Nat → Int32) (a0 : Int32) (a1 : Int32) : Option (String ⊕ (Int32 × Int32 × Int32 × Int32 × Int32 × Int32 × Int32 × Int32 × Int32 × (Nat → Int32) × (Nat → Int32) × Int32 × (Nat → Int32) × (Nat → Int32) × Int32 × (Nat → Int32) × (Nat → Int32) × Int32 × (Nat → Int32) × (Nat → Int32))) :=
  sbd (f_X10_requireRange a0 1 99) fun t1 =>
  sbd (f_X10_requireRange a1 0 999) fun t2 =>
  (f_X3_remember sd mn th dc fc dw pc ln lt tc en fr oc op os nx dp v_sd v_mn v_th v_dc v_fc v_dw v_pc v_ln v_lt v_tc v_en v_fr v_oc v_op v_os).bind fun t3 =>
  (f_X2_countSuspicious N a0 a1 fc fr).bind fun t4 =>
  some (.inr (t4, a0, a1, t3.1, t3.2.1, t3.2.2.1, t3.2.2.2.1, t3.2.2.2.2.1, t3.2.2.2.2.2.1, t3.2.2.2.2.2.2.1, t3.2.2.2.2.2.2.2.1, t3.2.2.2.2.2.2.2.2.1, t3.2.2.2.2.2.2.2.2.2.1, t3.2.2.2.2.2.2.2.2.2.2.1, t3.2.2.2.2.2.2.2.2.2.2.2.1, t3.2.2.2.2.2.2.2.2.2.2.2.2.1, t3.2.2.2.2.2.2.2.2.2.2.2.2.2.1, t3.2.2.2.2.2.2.2.2.2.2.2.2.2.2.1, t3.2.2.2.2.2.2.2.2.2.2.2.2.2.2.2.1, t3.2.2.2.2.2.2.2.2.2.2.2.2.2.2.2.2))
def f_X10_writeRecordOf_L26_F (N : Nat) (ln : Nat → Int32) (lt : Nat → Int32) (fr : Nat → Int32) (oc : Int32) (op : Nat → Int32)  (r26 : Int32 → Int32 → Int32 → (Nat → Int32) → Option (Int32 × (Nat → Int32))) (l1 : Int32) (l2 : Int32) (otl : Int32) (otb : Nat → Int32) : Option (Int32 × (Nat → Int32)) :=
  (f_X7_nameLength ln l1).bind fun t3 =>
  if t3 ≤ l2 then
    (f_X8_append otl otb 58).bind fun t4 =>
    (f_X4_playerTotal N fr l1).bind fun t5 =>
    (f_X8_appendNumber N t4.1 t4.2 t5).bind fun t6 =>
    (f_X6_countOf N oc op l1).bind fun t7 =>
    if t7 ≤ 0 then
      some (t6.1, t6.2)
    else
      (f_X8_append t6.1 t6.2 33).bind fun t8 =>
      some (t8.1, t8.2)
  else
    (f_X7_letter lt l1 l2).bind fun t9 =>
    (f_X8_append otl otb t9).bind fun t10 =>
    r26 l1 (l2 + 1) t10.1 t10.2
def f_X10_writeRecordOf_L26 (N : Nat) (ln : Nat → Int32) (lt : Nat → Int32) (fr : Nat → Int32) (oc : Int32) (op : Nat → Int32)  : Nat → Int32 → Int32 → Int32 → (Nat → Int32) → Option (Int32 × (Nat → Int32))
  | 0 => fun _ _ _ _ => none
  | j + 1 => f_X10_writeRecordOf_L26_F N ln lt fr oc op (f_X10_writeRecordOf_L26 N ln lt fr oc op j)
def f_X10_writeRecordOf (N : Nat) (ln : Nat → Int32) (lt : Nat → Int32) (fr : Nat → Int32) (oc : Int32) (op : Nat → Int32) (otl : Int32) (otb : Nat → Int32) (a0 : Int32) : Option (Int32 × (Nat → Int32)) :=
  (f_X4_playerThrows N fr a0).bind fun t1 =>
  if t1 = 0 then
    some (otl, otb)
  else
    (f_X8_appendSeparator otl otb 32).bind fun t2 =>
    f_X10_writeRecordOf_L26 N ln lt fr oc op N a0 0 t2.1 t2.2
def f_X10_writeRecords_L10_F (N : Nat) (pc : Int32) (ln : Nat → Int32) (lt : Nat → Int32) (fr : Nat → Int32) (oc : Int32) (op : Nat → Int32)  (r10 : Int32 → Int32 → (Nat → Int32) → Option (Int32 × Int32 × (Nat → Int32))) (l1 : Int32) (otl : Int32) (otb : Nat → Int32) : Option (Int32 × Int32 × (Nat → Int32)) :=
  if pc ≤ l1 then
    some (otl, otl, otb)
  else
    (f_X7_playerInPlace N pc lt l1).bind fun t2 =>
    (f_X10_writeRecordOf N ln lt fr oc op otl otb t2).bind fun t3 =>
    r10 (l1 + 1) t3.1 t3.2
def f_X10_writeRecords_L10 (N : Nat) (pc : Int32) (ln : Nat → Int32) (lt : Nat → Int32) (fr : Nat → Int32) (oc : Int32) (op : Nat → Int32)  : Nat → Int32 → Int32 → (Nat → Int32) → Option (Int32 × Int32 × (Nat → Int32))
  | 0 => fun _ _ _ => none
  | j + 1 => f_X10_writeRecords_L10_F N pc ln lt fr oc op (f_X10_writeRecords_L10 N pc ln lt fr oc op j)
def f_X10_writeRecords (N : Nat) (pc : Int32) (ln : Nat → Int32) (lt : Nat → Int32) (fr : Nat → Int32) (oc : Int32) (op : Nat → Int32) (otl : Int32) (otb : Nat → Int32) : Option (Int32 × Int32 × (Nat → Int32)) :=
  (f_X8_cutTo otl 0).bind fun t1 =>
  f_X10_writeRecords_L10 N pc ln lt fr oc op N 0 t1 otb
def f_X10_writeFaces_L74 (N : Nat) (pc : Int32) (tc : Int32) (en : Nat → Int32) (r15 : Int32 → Int32 → Int32 → (Nat → Int32) → Option (String ⊕ (Int32 × Int32 × (Nat → Int32)))) (l1 : Int32) (l2 : Int32) (otl : Int32) (otb : Nat → Int32) : Option (String ⊕ (Int32 × Int32 × (Nat → Int32))) :=
  r15 l1 (l2 + 1) otl otb
def f_X10_writeFaces_L15_F (N : Nat) (pc : Int32) (tc : Int32) (en : Nat → Int32)  (r15 : Int32 → Int32 → Int32 → (Nat → Int32) → Option (String ⊕ (Int32 × Int32 × (Nat → Int32)))) (l1 : Int32) (l2 : Int32) (otl : Int32) (otb : Nat → Int32) : Option (String ⊕ (Int32 × Int32 × (Nat → Int32))) :=
  if tc ≤ l2 then
    some (.inr (otl, otl, otb))
  else
    (f_X4_pairIn en l2).bind fun t3 =>
    (f_X10_playerOf t3).bind fun t4 =>
    if t4 = l1 then
      (f_X8_appendSeparator otl otb 44).bind fun t5 =>
      (f_X4_faceIn en l2).bind fun t6 =>
      (f_X8_appendNumber N t5.1 t5.2 t6).bind fun t7 =>
      f_X10_writeFaces_L74 N pc tc en r15 l1 l2 t7.1 t7.2
    else
      f_X10_writeFaces_L74 N pc tc en r15 l1 l2 otl otb
def f_X10_writeFaces_L15 (N : Nat) (pc : Int32) (tc : Int32) (en : Nat → Int32)  : Nat → Int32 → Int32 → Int32 → (Nat → Int32) → Option (String ⊕ (Int32 × Int32 × (Nat → Int32)))
  | 0 => fun _ _ _ _ => none
  | j + 1 => f_X10_writeFaces_L15_F N pc tc en (f_X10_writeFaces_L15 N pc tc en j)
def f_X10_writeFaces (N : Nat) (pc : Int32) (tc : Int32) (en : Nat → Int32) (otl : Int32) (otb : Nat → Int32) (a0 : Int32) : Option (String ⊕ (Int32 × Int32 × (Nat → Int32))) :=
  sbd (f_X10_requirePlayer pc a0) fun t1 =>
  (f_X8_cutTo otl 0).bind fun t2 =>
  f_X10_writeFaces_L15 N pc tc en N a0 0 t2 otb
def f_X10_outputByte_L15 (otl : Int32) (otb : Nat → Int32)   : Option (String ⊕ (Int32)) :=
  some (.inl "java/util/NoSuchElementException")
def f_X10_outputByte (otl : Int32) (otb : Nat → Int32) (a0 : Int32) : Option (String ⊕ (Int32)) :=
  if a0 < 0 then
    f_X10_outputByte_L15 otl otb
  else
    if a0 < otl then
      (f_X8_byteIn otl otb a0).bind fun t1 =>
      some (.inr t1)
    else
      f_X10_outputByte_L15 otl otb
def f_X10_save_L48 (sd : Int32) (mn : Int32) (th : Int32) (dc : Int32) (fc : Nat → Int32) (dw : Nat → Int32) (pc : Int32) (ln : Nat → Int32) (lt : Nat → Int32) (tc : Int32) (en : Nat → Int32) (fr : Nat → Int32) (oc : Int32) (op : Nat → Int32) (os : Nat → Int32)  (su : Nat → Int32) (w_sd : Int32) (w_mn : Int32) (w_th : Int32) (w_dc : Int32) (w_fc : Nat → Int32) (w_dw : Nat → Int32) (w_pc : Int32) (w_ln : Nat → Int32) (w_lt : Nat → Int32) (w_tc : Int32) (w_en : Nat → Int32) (w_fr : Nat → Int32) (w_oc : Int32) (w_op : Nat → Int32) (w_os : Nat → Int32) : Option (String ⊕ (Int32 × (Nat → Int32) × Int32 × Int32 × Int32 × Int32 × (Nat → Int32) × (Nat → Int32) × Int32 × (Nat → Int32) × (Nat → Int32) × Int32 × (Nat → Int32) × (Nat → Int32) × Int32 × (Nat → Int32) × (Nat → Int32))) :=
  some (.inr (tc, su, w_sd, w_mn, w_th, w_dc, w_fc, w_dw, w_pc, w_ln, w_lt, w_tc, w_en, w_fr, w_oc, w_op, w_os))
def f_X10_save (sd : Int32) (mn : Int32) (th : Int32) (dc : Int32) (fc : Nat → Int32) (dw : Nat → Int32) (pc : Int32) (ln : Nat → Int32) (lt : Nat → Int32) (tc : Int32) (en : Nat → Int32) (fr : Nat → Int32) (oc : Int32) (op : Nat → Int32) (os : Nat → Int32) (su : Nat → Int32) (w_sd : Int32) (w_mn : Int32) (w_th : Int32) (w_dc : Int32) (w_fc : Nat → Int32) (w_dw : Nat → Int32) (w_pc : Int32) (w_ln : Nat → Int32) (w_lt : Nat → Int32) (w_tc : Int32) (w_en : Nat → Int32) (w_fr : Nat → Int32) (w_oc : Int32) (w_op : Nat → Int32) (w_os : Nat → Int32) (a0 : Int32) : Option (String ⊕ (Int32 × (Nat → Int32) × Int32 × Int32 × Int32 × Int32 × (Nat → Int32) × (Nat → Int32) × Int32 × (Nat → Int32) × (Nat → Int32) × Int32 × (Nat → Int32) × (Nat → Int32) × Int32 × (Nat → Int32) × (Nat → Int32))) :=
  sbd (f_X10_requireSlot a0) fun t1 =>
  if a0 < 0 then
    f_X10_save_L48 sd mn th dc fc dw pc ln lt tc en fr oc op os su w_sd w_mn w_th w_dc w_fc w_dw w_pc w_ln w_lt w_tc w_en w_fr w_oc w_op w_os
  else
    if 2 ≤ a0 then
      f_X10_save_L48 sd mn th dc fc dw pc ln lt tc en fr oc op os su w_sd w_mn w_th w_dc w_fc w_dw w_pc w_ln w_lt w_tc w_en w_fr w_oc w_op w_os
    else
      gd (inb a0 2) <|
      gd (inb a0 2) <|
      (f_X2_copyFrom sd mn th dc fc dw pc ln lt tc en fr oc op os w_sd w_mn w_th w_dc w_fc w_dw w_pc w_ln w_lt w_tc w_en w_fr w_oc w_op w_os).bind fun t2 =>
      (f_X10_put 2 su a0 1).bind fun t3 =>
      f_X10_save_L48 sd mn th dc fc dw pc ln lt tc en fr oc op os t3 t2.1 t2.2.1 t2.2.2.1 t2.2.2.2.1 t2.2.2.2.2.1 t2.2.2.2.2.2.1 t2.2.2.2.2.2.2.1 t2.2.2.2.2.2.2.2.1 t2.2.2.2.2.2.2.2.2.1 t2.2.2.2.2.2.2.2.2.2.1 t2.2.2.2.2.2.2.2.2.2.2.1 t2.2.2.2.2.2.2.2.2.2.2.2.1 t2.2.2.2.2.2.2.2.2.2.2.2.2.1 t2.2.2.2.2.2.2.2.2.2.2.2.2.2.1 t2.2.2.2.2.2.2.2.2.2.2.2.2.2.2
def f_X10_restore_L72 (su : Nat → Int32) (w_sd : Int32) (w_mn : Int32) (w_th : Int32) (w_dc : Int32) (w_fc : Nat → Int32) (w_dw : Nat → Int32) (w_pc : Int32) (w_ln : Nat → Int32) (w_lt : Nat → Int32) (w_tc : Int32) (w_en : Nat → Int32) (w_fr : Nat → Int32) (w_oc : Int32) (w_op : Nat → Int32) (w_os : Nat → Int32)  (sd : Int32) (mn : Int32) (th : Int32) (dc : Int32) (fc : Nat → Int32) (dw : Nat → Int32) (pc : Int32) (ln : Nat → Int32) (lt : Nat → Int32) (tc : Int32) (en : Nat → Int32) (fr : Nat → Int32) (oc : Int32) (op : Nat → Int32) (os : Nat → Int32) (nx : Int32) (dp : Int32) (v_sd : Int32) (v_mn : Int32) (v_th : Int32) (v_dc : Int32) (v_fc : Nat → Int32) (v_dw : Nat → Int32) (v_pc : Int32) (v_ln : Nat → Int32) (v_lt : Nat → Int32) (v_tc : Int32) (v_en : Nat → Int32) (v_fr : Nat → Int32) (v_oc : Int32) (v_op : Nat → Int32) (v_os : Nat → Int32) : Option (String ⊕ (Int32 × Int32 × Int32 × Int32 × Int32 × (Nat → Int32) × (Nat → Int32) × Int32 × (Nat → Int32) × (Nat → Int32) × Int32 × (Nat → Int32) × (Nat → Int32) × Int32 × (Nat → Int32) × (Nat → Int32) × Int32 × Int32 × Int32 × Int32 × Int32 × Int32 × (Nat → Int32) × (Nat → Int32) × Int32 × (Nat → Int32) × (Nat → Int32) × Int32 × (Nat → Int32) × (Nat → Int32) × Int32 × (Nat → Int32) × (Nat → Int32))) :=
  some (.inr (tc, sd, mn, th, dc, fc, dw, pc, ln, lt, tc, en, fr, oc, op, os, nx, dp, v_sd, v_mn, v_th, v_dc, v_fc, v_dw, v_pc, v_ln, v_lt, v_tc, v_en, v_fr, v_oc, v_op, v_os))
def f_X10_restore (su : Nat → Int32) (w_sd : Int32) (w_mn : Int32) (w_th : Int32) (w_dc : Int32) (w_fc : Nat → Int32) (w_dw : Nat → Int32) (w_pc : Int32) (w_ln : Nat → Int32) (w_lt : Nat → Int32) (w_tc : Int32) (w_en : Nat → Int32) (w_fr : Nat → Int32) (w_oc : Int32) (w_op : Nat → Int32) (w_os : Nat → Int32) (sd : Int32) (mn : Int32) (th : Int32) (dc : Int32) (fc : Nat → Int32) (dw : Nat → Int32) (pc : Int32) (ln : Nat → Int32) (lt : Nat → Int32) (tc : Int32) (en : Nat → Int32) (fr : Nat → Int32) (oc : Int32) (op : Nat → Int32) (os : Nat → Int32) (nx : Int32) (dp : Int32) (v_sd : Int32) (v_mn : Int32) (v_th : Int32) (v_dc : Int32) (v_fc : Nat → Int32) (v_dw : Nat → Int32) (v_pc : Int32) (v_ln : Nat → Int32) (v_lt : Nat → Int32) (v_tc : Int32) (v_en : Nat → Int32) (v_fr : Nat → Int32) (v_oc : Int32) (v_op : Nat → Int32) (v_os : Nat → Int32) (a0 : Int32) : Option (String ⊕ (Int32 × Int32 × Int32 × Int32 × Int32 × (Nat → Int32) × (Nat → Int32) × Int32 × (Nat → Int32) × (Nat → Int32) × Int32 × (Nat → Int32) × (Nat → Int32) × Int32 × (Nat → Int32) × (Nat → Int32) × Int32 × Int32 × Int32 × Int32 × Int32 × Int32 × (Nat → Int32) × (Nat → Int32) × Int32 × (Nat → Int32) × (Nat → Int32) × Int32 × (Nat → Int32) × (Nat → Int32) × Int32 × (Nat → Int32) × (Nat → Int32))) :=
  sbd (f_X10_requireSlot a0) fun t1 =>
  (f_X10_at 2 su a0).bind fun t2 =>
  if t2 = 0 then
    some (.inl "java/lang/IllegalStateException")
  else
    (f_X3_remember sd mn th dc fc dw pc ln lt tc en fr oc op os nx dp v_sd v_mn v_th v_dc v_fc v_dw v_pc v_ln v_lt v_tc v_en v_fr v_oc v_op v_os).bind fun t3 =>
    if a0 < 0 then
      f_X10_restore_L72 su w_sd w_mn w_th w_dc w_fc w_dw w_pc w_ln w_lt w_tc w_en w_fr w_oc w_op w_os sd mn th dc fc dw pc ln lt tc en fr oc op os t3.1 t3.2.1 t3.2.2.1 t3.2.2.2.1 t3.2.2.2.2.1 t3.2.2.2.2.2.1 t3.2.2.2.2.2.2.1 t3.2.2.2.2.2.2.2.1 t3.2.2.2.2.2.2.2.2.1 t3.2.2.2.2.2.2.2.2.2.1 t3.2.2.2.2.2.2.2.2.2.2.1 t3.2.2.2.2.2.2.2.2.2.2.2.1 t3.2.2.2.2.2.2.2.2.2.2.2.2.1 t3.2.2.2.2.2.2.2.2.2.2.2.2.2.1 t3.2.2.2.2.2.2.2.2.2.2.2.2.2.2.1 t3.2.2.2.2.2.2.2.2.2.2.2.2.2.2.2.1 t3.2.2.2.2.2.2.2.2.2.2.2.2.2.2.2.2
    else
      if 2 ≤ a0 then
        f_X10_restore_L72 su w_sd w_mn w_th w_dc w_fc w_dw w_pc w_ln w_lt w_tc w_en w_fr w_oc w_op w_os sd mn th dc fc dw pc ln lt tc en fr oc op os t3.1 t3.2.1 t3.2.2.1 t3.2.2.2.1 t3.2.2.2.2.1 t3.2.2.2.2.2.1 t3.2.2.2.2.2.2.1 t3.2.2.2.2.2.2.2.1 t3.2.2.2.2.2.2.2.2.1 t3.2.2.2.2.2.2.2.2.2.1 t3.2.2.2.2.2.2.2.2.2.2.1 t3.2.2.2.2.2.2.2.2.2.2.2.1 t3.2.2.2.2.2.2.2.2.2.2.2.2.1 t3.2.2.2.2.2.2.2.2.2.2.2.2.2.1 t3.2.2.2.2.2.2.2.2.2.2.2.2.2.2.1 t3.2.2.2.2.2.2.2.2.2.2.2.2.2.2.2.1 t3.2.2.2.2.2.2.2.2.2.2.2.2.2.2.2.2
      else
        gd (inb a0 2) <|
        gd (inb a0 2) <|
        (f_X2_copyFrom w_sd w_mn w_th w_dc w_fc w_dw w_pc w_ln w_lt w_tc w_en w_fr w_oc w_op w_os sd mn th dc fc dw pc ln lt tc en fr oc op os).bind fun t4 =>
        f_X10_restore_L72 su w_sd w_mn w_th w_dc w_fc w_dw w_pc w_ln w_lt w_tc w_en w_fr w_oc w_op w_os t4.1 t4.2.1 t4.2.2.1 t4.2.2.2.1 t4.2.2.2.2.1 t4.2.2.2.2.2.1 t4.2.2.2.2.2.2.1 t4.2.2.2.2.2.2.2.1 t4.2.2.2.2.2.2.2.2.1 t4.2.2.2.2.2.2.2.2.2.1 t4.2.2.2.2.2.2.2.2.2.2.1 t4.2.2.2.2.2.2.2.2.2.2.2.1 t4.2.2.2.2.2.2.2.2.2.2.2.2.1 t4.2.2.2.2.2.2.2.2.2.2.2.2.2.1 t4.2.2.2.2.2.2.2.2.2.2.2.2.2.2 t3.1 t3.2.1 t3.2.2.1 t3.2.2.2.1 t3.2.2.2.2.1 t3.2.2.2.2.2.1 t3.2.2.2.2.2.2.1 t3.2.2.2.2.2.2.2.1 t3.2.2.2.2.2.2.2.2.1 t3.2.2.2.2.2.2.2.2.2.1 t3.2.2.2.2.2.2.2.2.2.2.1 t3.2.2.2.2.2.2.2.2.2.2.2.1 t3.2.2.2.2.2.2.2.2.2.2.2.2.1 t3.2.2.2.2.2.2.2.2.2.2.2.2.2.1 t3.2.2.2.2.2.2.2.2.2.2.2.2.2.2.1 t3.2.2.2.2.2.2.2.2.2.2.2.2.2.2.2.1 t3.2.2.2.2.2.2.2.2.2.2.2.2.2.2.2.2
def f_X10_undo (v_sd : Int32) (v_mn : Int32) (v_th : Int32) (v_dc : Int32) (v_fc : Nat → Int32) (v_dw : Nat → Int32) (v_pc : Int32) (v_ln : Nat → Int32) (v_lt : Nat → Int32) (v_tc : Int32) (v_en : Nat → Int32) (v_fr : Nat → Int32) (v_oc : Int32) (v_op : Nat → Int32) (v_os : Nat → Int32) (sd : Int32) (mn : Int32) (th : Int32) (dc : Int32) (fc : Nat → Int32) (dw : Nat → Int32) (pc : Int32) (ln : Nat → Int32) (lt : Nat → Int32) (tc : Int32) (en : Nat → Int32) (fr : Nat → Int32) (oc : Int32) (op : Nat → Int32) (os : Nat → Int32) (nx : Int32) (dp : Int32) : Option (String ⊕ (Int32 × Int32 × Int32 × Int32 × Int32 × (Nat → Int32) × (Nat → Int32) × Int32 × (Nat → Int32) × (Nat → Int32) × Int32 × (Nat → Int32) × (Nat → Int32) × Int32 × (Nat → Int32) × (Nat → Int32) × Int32 × Int32)) :=
  if dp = 0 then
    some (.inl "java/lang/IllegalStateException")
  else
    (f_X3_bringBack v_sd v_mn v_th v_dc v_fc v_dw v_pc v_ln v_lt v_tc v_en v_fr v_oc v_op v_os nx dp sd mn th dc fc dw pc ln lt tc en fr oc op os).bind fun t1 =>
    some (.inr (t1.2.1, t1.2.2.1, t1.2.2.2.1, t1.2.2.2.2.1, t1.2.2.2.2.2.1, t1.2.2.2.2.2.2.1, t1.2.2.2.2.2.2.2.1, t1.2.2.2.2.2.2.2.2.1, t1.2.2.2.2.2.2.2.2.2.1, t1.2.2.2.2.2.2.2.2.2.2.1, t1.2.2.2.2.2.2.2.2.2.2.2.1, t1.2.2.2.2.2.2.2.2.2.2.2.2.1, t1.2.2.2.2.2.2.2.2.2.2.2.2.2.1, t1.2.2.2.2.2.2.2.2.2.2.2.2.2.2.1, t1.2.2.2.2.2.2.2.2.2.2.2.2.2.2.2.1, t1.2.2.2.2.2.2.2.2.2.2.2.2.2.2.2.2, t1.1, t1.2.1))
def f_X10_undoDepth (dp : Int32)  : Option (Int32) :=
  some dp
def f_X11_layInput_L2_F (N : Nat)  (sj : Nat)  (r2 : Int32 → Int32 → (Nat → Int32) → Option (Int32 × (Nat → Int32))) (l2 : Int32) (m_inputLength : Int32) (m_input : Nat → Int32) : Option (Int32 × (Nat → Int32)) :=
  if (kSl sj) ≤ l2 then
    some ((kSl sj), m_input)
  else
    gd (inb l2 (kSn sj)) <|
    gd (inb l2 600) <|
    r2 (l2 + 1) m_inputLength (upd m_input (Int32.toNatClampNeg l2) (kSc sj l2))
def f_X11_layInput_L2 (N : Nat)  (sj : Nat)  : Nat → Int32 → Int32 → (Nat → Int32) → Option (Int32 × (Nat → Int32))
  | 0 => fun _ _ _ => none
  | j + 1 => f_X11_layInput_L2_F N sj (f_X11_layInput_L2 N sj j)
def f_X11_layInput (N : Nat)  (sj : Nat) (m_inputLength : Int32) (m_input : Nat → Int32) : Option (Int32 × (Nat → Int32)) :=
  f_X11_layInput_L2 N sj N 0 m_inputLength m_input
def f_X11_byteAt (m_inputLength : Int32) (m_input : Nat → Int32) (a0 : Int32) : Option (Int32) :=
  if m_inputLength ≤ a0 then
    some (-1)
  else
    gd (inb a0 600) <|
    some (m_input (Int32.toNatClampNeg a0))
def f_X11_isBetween  (a0 : Int32) (a1 : Int32) (a2 : Int32) : Option (Int32) :=
  if a0 < a1 then
    some 0
  else
    if a2 < a0 then
      some 0
    else
      some 1
def f_X11_isLetter  (a0 : Int32) : Option (Int32) :=
  (f_X11_isBetween a0 97 122).bind fun t1 =>
  some t1
def f_X11_advance_L26 (N : Nat) (m_inputLength : Int32) (m_input : Nat → Int32) (r0 : Int32 → Int32 → Int32 → Int32 → Int32 → Option (Int32 × Int32 × Int32 × Int32 × Int32)) (m_position : Int32) (m_start : Int32) (m_token : Int32) (m_value : Int32) (m_letters : Int32) : Option (Int32 × Int32 × Int32 × Int32 × Int32) :=
  r0 (m_position + 1) m_start m_token m_value m_letters
def f_X11_advance_L198 (N : Nat) (m_inputLength : Int32) (m_input : Nat → Int32) (r144 : Int32 → Int32 → Int32 → Int32 → Int32 → Option (Int32 × Int32 × Int32 × Int32 × Int32)) (s0 : Int32) (m_position : Int32) (m_start : Int32) (m_token : Int32) (m_value : Int32) (m_letters : Int32) : Option (Int32 × Int32 × Int32 × Int32 × Int32) :=
  r144 (m_position + 1) m_start m_token s0 m_letters
def f_X11_advance_L144_F (N : Nat) (m_inputLength : Int32) (m_input : Nat → Int32)  (r144 : Int32 → Int32 → Int32 → Int32 → Int32 → Option (Int32 × Int32 × Int32 × Int32 × Int32)) (m_position : Int32) (m_start : Int32) (m_token : Int32) (m_value : Int32) (m_letters : Int32) : Option (Int32 × Int32 × Int32 × Int32 × Int32) :=
  (f_X11_byteAt m_inputLength m_input m_position).bind fun t6 =>
  (f_X11_isBetween t6 48 57).bind fun t7 =>
  if t7 = 0 then
    some (m_position, m_start, m_token, m_value, m_letters)
  else
    if m_value ≤ 99999999 then
      (f_X11_byteAt m_inputLength m_input m_position).bind fun t8 =>
      f_X11_advance_L198 N m_inputLength m_input r144 (((10 * m_value) + t8) - 48) m_position m_start m_token m_value m_letters
    else
      f_X11_advance_L198 N m_inputLength m_input r144 m_value m_position m_start m_token m_value m_letters
def f_X11_advance_L144 (N : Nat) (m_inputLength : Int32) (m_input : Nat → Int32)  : Nat → Int32 → Int32 → Int32 → Int32 → Int32 → Option (Int32 × Int32 × Int32 × Int32 × Int32)
  | 0 => fun _ _ _ _ _ => none
  | j + 1 => f_X11_advance_L144_F N m_inputLength m_input (f_X11_advance_L144 N m_inputLength m_input j)
def f_X11_advance_L91_F (N : Nat) (m_inputLength : Int32) (m_input : Nat → Int32)  (r91 : Int32 → Int32 → Int32 → Int32 → Int32 → Option (Int32 × Int32 × Int32 × Int32 × Int32)) (m_position : Int32) (m_start : Int32) (m_token : Int32) (m_value : Int32) (m_letters : Int32) : Option (Int32 × Int32 × Int32 × Int32 × Int32) :=
  (f_X11_byteAt m_inputLength m_input m_position).bind fun t6 =>
  (f_X11_isLetter t6).bind fun t7 =>
  if t7 = 0 then
    some (m_position, m_start, m_token, m_value, m_letters)
  else
    r91 (m_position + 1) m_start m_token m_value (m_letters + 1)
def f_X11_advance_L91 (N : Nat) (m_inputLength : Int32) (m_input : Nat → Int32)  : Nat → Int32 → Int32 → Int32 → Int32 → Int32 → Option (Int32 × Int32 × Int32 × Int32 × Int32)
  | 0 => fun _ _ _ _ _ => none
  | j + 1 => f_X11_advance_L91_F N m_inputLength m_input (f_X11_advance_L91 N m_inputLength m_input j)
def f_X11_advance_L0_F (N : Nat) (m_inputLength : Int32) (m_input : Nat → Int32)  (r0 : Int32 → Int32 → Int32 → Int32 → Int32 → Option (Int32 × Int32 × Int32 × Int32 × Int32)) (m_position : Int32) (m_start : Int32) (m_token : Int32) (m_value : Int32) (m_letters : Int32) : Option (Int32 × Int32 × Int32 × Int32 × Int32) :=
  (f_X11_byteAt m_inputLength m_input m_position).bind fun t1 =>
  if t1 = 32 then
    f_X11_advance_L26 N m_inputLength m_input r0 m_position m_start m_token m_value m_letters
  else
    (f_X11_byteAt m_inputLength m_input m_position).bind fun t2 =>
    if t2 = 10 then
      f_X11_advance_L26 N m_inputLength m_input r0 m_position m_start m_token m_value m_letters
    else
      (f_X11_byteAt m_inputLength m_input m_position).bind fun t3 =>
      if t3 = (-1) then
        some (m_position, m_position, 0, 0, 0)
      else
        (f_X11_isLetter t3).bind fun t4 =>
        if t4 = 0 then
          (f_X11_isBetween t3 48 57).bind fun t5 =>
          if t5 = 0 then
            some ((m_position + 1), m_position, 1, 0, 0)
          else
            f_X11_advance_L144 N m_inputLength m_input N m_position m_position 2 0 0
        else
          f_X11_advance_L91 N m_inputLength m_input N m_position m_position 3 0 0
def f_X11_advance_L0 (N : Nat) (m_inputLength : Int32) (m_input : Nat → Int32)  : Nat → Int32 → Int32 → Int32 → Int32 → Int32 → Option (Int32 × Int32 × Int32 × Int32 × Int32)
  | 0 => fun _ _ _ _ _ => none
  | j + 1 => f_X11_advance_L0_F N m_inputLength m_input (f_X11_advance_L0 N m_inputLength m_input j)
def f_X11_advance (N : Nat) (m_inputLength : Int32) (m_input : Nat → Int32) (m_position : Int32) (m_start : Int32) (m_token : Int32) (m_value : Int32) (m_letters : Int32) : Option (Int32 × Int32 × Int32 × Int32 × Int32) :=
  f_X11_advance_L0 N m_inputLength m_input N m_position m_start m_token m_value m_letters
def f_X11_is_L23_F (N : Nat) (m_start : Int32) (m_token : Int32) (m_letters : Int32) (m_input : Nat → Int32) (sj : Nat)  (r23 : Int32 → Option (Int32)) (l2 : Int32) : Option (Int32) :=
  if m_letters ≤ l2 then
    some 1
  else
    gd (inb (m_start + l2) 600) <|
    gd (inb l2 (kSn sj)) <|
    if (m_input (Int32.toNatClampNeg (m_start + l2))) = (kSc sj l2) then
      r23 (l2 + 1)
    else
      some 0
def f_X11_is_L23 (N : Nat) (m_start : Int32) (m_token : Int32) (m_letters : Int32) (m_input : Nat → Int32) (sj : Nat)  : Nat → Int32 → Option (Int32)
  | 0 => fun _ => none
  | j + 1 => f_X11_is_L23_F N m_start m_token m_letters m_input sj (f_X11_is_L23 N m_start m_token m_letters m_input sj j)
def f_X11_is (N : Nat) (m_start : Int32) (m_token : Int32) (m_letters : Int32) (m_input : Nat → Int32) (sj : Nat)  : Option (Int32) :=
  if m_token = 3 then
    if m_letters = (kSl sj) then
      f_X11_is_L23 N m_start m_token m_letters m_input sj N 0
    else
      some 0
  else
    some 0
def f_X11_check_L24 (m_start : Int32)  (m_code : Int32) (m_place : Int32) : Option (Int32 × Int32 × Int32) :=
  if m_code = 0 then
    some (1, m_code, m_place)
  else
    some (0, m_code, m_place)
def f_X11_check (m_start : Int32) (m_code : Int32) (m_place : Int32) (a0 : Int32) (a1 : Int32) : Option (Int32 × Int32 × Int32) :=
  if m_code = 0 then
    if a0 = 0 then
      f_X11_check_L24 m_start a1 m_start
    else
      f_X11_check_L24 m_start m_code m_place
  else
    f_X11_check_L24 m_start m_code m_place
def f_X11_next (N : Nat) (m_inputLength : Int32) (m_code : Int32) (m_input : Nat → Int32) (m_position : Int32) (m_start : Int32) (m_token : Int32) (m_value : Int32) (m_letters : Int32) : Option (Int32 × Int32 × Int32 × Int32 × Int32) :=
  if m_code = 0 then
    (f_X11_advance N m_inputLength m_input m_position m_start m_token m_value m_letters).bind fun t1 =>
    some (t1.1, t1.2.1, t1.2.2.1, t1.2.2.2.1, t1.2.2.2.2)
  else
    some (m_position, m_start, m_token, m_value, m_letters)
def f_X11_look_L14 (m_start : Int32) (m_token : Int32) (m_value : Int32)  (l1 : Int32) (l2 : Int32) (s0 : Int32) (m_code : Int32) (m_place : Int32) : Option (Int32 × Int32 × Int32) :=
  (f_X11_check m_start m_code m_place s0 1).bind fun t1 =>
  (f_X11_isBetween m_value l1 l2).bind fun t2 =>
  (f_X11_check m_start t1.2.1 t1.2.2 t2 2).bind fun t3 =>
  if t3.2.1 = 0 then
    some (m_value, t3.2.1, t3.2.2)
  else
    some (l1, t3.2.1, t3.2.2)
def f_X11_look (m_start : Int32) (m_token : Int32) (m_value : Int32) (m_code : Int32) (m_place : Int32) (a0 : Int32) (a1 : Int32) : Option (Int32 × Int32 × Int32) :=
  if m_token = 2 then
    f_X11_look_L14 m_start m_token m_value a0 a1 1 m_code m_place
  else
    f_X11_look_L14 m_start m_token m_value a0 a1 0 m_code m_place
def f_X11_number (N : Nat) (m_inputLength : Int32) (m_input : Nat → Int32) (m_position : Int32) (m_start : Int32) (m_token : Int32) (m_value : Int32) (m_letters : Int32) (m_code : Int32) (m_place : Int32) (a0 : Int32) (a1 : Int32) : Option (Int32 × Int32 × Int32 × Int32 × Int32 × Int32 × Int32 × Int32) :=
  (f_X11_look m_start m_token m_value m_code m_place a0 a1).bind fun t1 =>
  (f_X11_next N m_inputLength t1.2.1 m_input m_position m_start m_token m_value m_letters).bind fun t2 =>
  some (t1.1, t2.1, t2.2.1, t2.2.2.1, t2.2.2.2.1, t2.2.2.2.2, t1.2.1, t1.2.2)
def f_X11_semicolon_L28 (m_start : Int32) (m_token : Int32) (m_input : Nat → Int32)  (s0 : Int32) (m_code : Int32) (m_place : Int32) : Option (Int32 × Int32) :=
  (f_X11_check m_start m_code m_place s0 1).bind fun t1 =>
  some (t1.2.1, t1.2.2)
def f_X11_semicolon_L27 (m_start : Int32) (m_token : Int32) (m_input : Nat → Int32)  (m_code : Int32) (m_place : Int32) : Option (Int32 × Int32) :=
  f_X11_semicolon_L28 m_start m_token m_input 0 m_code m_place
def f_X11_semicolon (m_start : Int32) (m_token : Int32) (m_input : Nat → Int32) (m_code : Int32) (m_place : Int32) : Option (Int32 × Int32) :=
  if m_token = 1 then
    gd (inb m_start 600) <|
    if (m_input (Int32.toNatClampNeg m_start)) = 59 then
      f_X11_semicolon_L28 m_start m_token m_input 1 m_code m_place
    else
      f_X11_semicolon_L27 m_start m_token m_input m_code m_place
  else
    f_X11_semicolon_L27 m_start m_token m_input m_code m_place
def f_X11_finish (N : Nat) (m_inputLength : Int32) (m_input : Nat → Int32) (m_position : Int32) (m_start : Int32) (m_token : Int32) (m_value : Int32) (m_letters : Int32) (m_code : Int32) (m_place : Int32) : Option (Int32 × Int32 × Int32 × Int32 × Int32 × Int32 × Int32) :=
  (f_X11_semicolon m_start m_token m_input m_code m_place).bind fun t1 =>
  (f_X11_next N m_inputLength t1.1 m_input m_position m_start m_token m_value m_letters).bind fun t2 =>
  some (t2.1, t2.2.1, t2.2.2.1, t2.2.2.2.1, t2.2.2.2.2, t1.1, t1.2)
def f_X11_ofDie  (a0 : Int32) : Option (Int32) :=
  some (7 + (13 * a0))
def f_X11_facesOf (gn : Nat) (gf : Nat → Int32) (a1 : Int32) : Option (Int32) :=
  (f_X11_ofDie a1).bind fun t1 =>
  gd (inb (t1 + 0) gn) <|
  some (gf (Int32.toNatClampNeg (t1 + 0)))
def f_X11_weight (gn : Nat) (gf : Nat → Int32) (a1 : Int32) (a2 : Int32) : Option (Int32) :=
  (f_X11_ofDie a1).bind fun t1 =>
  gd (inb (((t1 + 1) + a2) - 1) gn) <|
  some (gf (Int32.toNatClampNeg (((t1 + 1) + a2) - 1)))
def f_X11_allWeights_L4_F (N : Nat) (gn : Nat) (gf : Nat → Int32)  (r4 : Int32 → Int32 → Int32 → Option (Int32)) (l1 : Int32) (l2 : Int32) (l3 : Int32) : Option (Int32) :=
  (f_X11_facesOf gn gf l1).bind fun t1 =>
  if t1 < l3 then
    some l2
  else
    (f_X11_weight gn gf l1 l3).bind fun t2 =>
    r4 l1 (l2 + t2) (l3 + 1)
def f_X11_allWeights_L4 (N : Nat) (gn : Nat) (gf : Nat → Int32)  : Nat → Int32 → Int32 → Int32 → Option (Int32)
  | 0 => fun _ _ _ => none
  | j + 1 => f_X11_allWeights_L4_F N gn gf (f_X11_allWeights_L4 N gn gf j)
def f_X11_allWeights (N : Nat) (gn : Nat) (gf : Nat → Int32) (a1 : Int32) : Option (Int32) :=
  f_X11_allWeights_L4 N gn gf N a1 0 1
def f_X11_readDie_L183 (N : Nat) (m_inputLength : Int32) (m_input : Nat → Int32)  (m_position : Int32) (m_start : Int32) (m_token : Int32) (m_value : Int32) (m_letters : Int32) (m_code : Int32) (m_place : Int32) (m_parsed : Nat → Int32) : Option (Int32 × Int32 × Int32 × Int32 × Int32 × Int32 × Int32 × (Nat → Int32)) :=
  (f_X11_next N m_inputLength m_code m_input m_position m_start m_token m_value m_letters).bind fun t5 =>
  some (t5.1, t5.2.1, t5.2.2.1, t5.2.2.2.1, t5.2.2.2.2, m_code, m_place, m_parsed)
def f_X11_readDie_L167 (N : Nat) (m_inputLength : Int32) (m_input : Nat → Int32)  (s0 : Int32) (m_position : Int32) (m_start : Int32) (m_token : Int32) (m_value : Int32) (m_letters : Int32) (m_code : Int32) (m_place : Int32) (m_parsed : Nat → Int32) : Option (Int32 × Int32 × Int32 × Int32 × Int32 × Int32 × Int32 × (Nat → Int32)) :=
  (f_X11_check m_start m_code m_place s0 6).bind fun t6 =>
  f_X11_readDie_L183 N m_inputLength m_input m_position m_start m_token m_value m_letters t6.2.1 t6.2.2 (upd m_parsed (Int32.toNatClampNeg 3) ((m_parsed (Int32.toNatClampNeg 3)) + 1))
def f_X11_readDie_L125 (N : Nat) (m_inputLength : Int32) (m_input : Nat → Int32)  (l1 : Int32) (l2 : Int32) (m_position : Int32) (m_start : Int32) (m_token : Int32) (m_value : Int32) (m_letters : Int32) (m_code : Int32) (m_place : Int32) (m_parsed : Nat → Int32) : Option (Int32 × Int32 × Int32 × Int32 × Int32 × Int32 × Int32 × (Nat → Int32)) :=
  (f_X11_semicolon m_start m_token m_input m_code m_place).bind fun t4 =>
  if t4.1 = 0 then
    gd (inb (l1 + 0) 1399) <|
    (f_X11_allWeights N 1399 (upd m_parsed (Int32.toNatClampNeg (l1 + 0)) l2) ((upd m_parsed (Int32.toNatClampNeg (l1 + 0)) l2) (Int32.toNatClampNeg 3))).bind fun t5 =>
    if t5 ≤ 0 then
      f_X11_readDie_L167 N m_inputLength m_input 0 m_position m_start m_token m_value m_letters t4.1 t4.2 (upd m_parsed (Int32.toNatClampNeg (l1 + 0)) l2)
    else
      f_X11_readDie_L167 N m_inputLength m_input 1 m_position m_start m_token m_value m_letters t4.1 t4.2 (upd m_parsed (Int32.toNatClampNeg (l1 + 0)) l2)
  else
    f_X11_readDie_L183 N m_inputLength m_input m_position m_start m_token m_value m_letters t4.1 t4.2 m_parsed
def f_X11_readDie_L118 (N : Nat) (m_inputLength : Int32) (m_input : Nat → Int32) (r52 : Int32 → Int32 → Int32 → Int32 → Int32 → Int32 → Int32 → Int32 → Int32 → (Nat → Int32) → Option (Int32 × Int32 × Int32 × Int32 × Int32 × Int32 × Int32 × (Nat → Int32))) (l1 : Int32) (l2 : Int32) (m_position : Int32) (m_start : Int32) (m_token : Int32) (m_value : Int32) (m_letters : Int32) (m_code : Int32) (m_place : Int32) (m_parsed : Nat → Int32) : Option (Int32 × Int32 × Int32 × Int32 × Int32 × Int32 × Int32 × (Nat → Int32)) :=
  (f_X11_next N m_inputLength m_code m_input m_position m_start m_token m_value m_letters).bind fun t6 =>
  r52 l1 l2 t6.1 t6.2.1 t6.2.2.1 t6.2.2.2.1 t6.2.2.2.2 m_code m_place m_parsed
def f_X11_readDie_L92 (N : Nat) (m_inputLength : Int32) (m_input : Nat → Int32) (r52 : Int32 → Int32 → Int32 → Int32 → Int32 → Int32 → Int32 → Int32 → Int32 → (Nat → Int32) → Option (Int32 × Int32 × Int32 × Int32 × Int32 × Int32 × Int32 × (Nat → Int32))) (l1 : Int32) (l2 : Int32) (l3 : Int32) (s0 : Int32) (m_position : Int32) (m_start : Int32) (m_token : Int32) (m_value : Int32) (m_letters : Int32) (m_code : Int32) (m_place : Int32) (m_parsed : Nat → Int32) : Option (Int32 × Int32 × Int32 × Int32 × Int32 × Int32 × Int32 × (Nat → Int32)) :=
  (f_X11_check m_start m_code m_place s0 5).bind fun t5 =>
  if t5.2.1 = 0 then
    gd (inb ((l1 + 1) + l2) 1399) <|
    f_X11_readDie_L118 N m_inputLength m_input r52 l1 (l2 + 1) m_position m_start m_token m_value m_letters t5.2.1 t5.2.2 (upd m_parsed (Int32.toNatClampNeg ((l1 + 1) + l2)) l3)
  else
    f_X11_readDie_L118 N m_inputLength m_input r52 l1 l2 m_position m_start m_token m_value m_letters t5.2.1 t5.2.2 m_parsed
def f_X11_readDie_L72 (N : Nat) (m_inputLength : Int32) (m_input : Nat → Int32) (r52 : Int32 → Int32 → Int32 → Int32 → Int32 → Int32 → Int32 → Int32 → Int32 → (Nat → Int32) → Option (Int32 × Int32 × Int32 × Int32 × Int32 × Int32 × Int32 × (Nat → Int32))) (l1 : Int32) (l2 : Int32) (m_position : Int32) (m_start : Int32) (m_token : Int32) (m_value : Int32) (m_letters : Int32) (m_code : Int32) (m_place : Int32) (m_parsed : Nat → Int32) : Option (Int32 × Int32 × Int32 × Int32 × Int32 × Int32 × Int32 × (Nat → Int32)) :=
  (f_X11_look m_start m_token m_value m_code m_place 0 9).bind fun t4 =>
  if 12 ≤ l2 then
    f_X11_readDie_L92 N m_inputLength m_input r52 l1 l2 t4.1 0 m_position m_start m_token m_value m_letters t4.2.1 t4.2.2 m_parsed
  else
    f_X11_readDie_L92 N m_inputLength m_input r52 l1 l2 t4.1 1 m_position m_start m_token m_value m_letters t4.2.1 t4.2.2 m_parsed
def f_X11_readDie_L52_F (N : Nat) (m_inputLength : Int32) (m_input : Nat → Int32)  (r52 : Int32 → Int32 → Int32 → Int32 → Int32 → Int32 → Int32 → Int32 → Int32 → (Nat → Int32) → Option (Int32 × Int32 × Int32 × Int32 × Int32 × Int32 × Int32 × (Nat → Int32))) (l1 : Int32) (l2 : Int32) (m_position : Int32) (m_start : Int32) (m_token : Int32) (m_value : Int32) (m_letters : Int32) (m_code : Int32) (m_place : Int32) (m_parsed : Nat → Int32) : Option (Int32 × Int32 × Int32 × Int32 × Int32 × Int32 × Int32 × (Nat → Int32)) :=
  if m_code = 0 then
    if l2 < 2 then
      f_X11_readDie_L72 N m_inputLength m_input r52 l1 l2 m_position m_start m_token m_value m_letters m_code m_place m_parsed
    else
      if m_token = 2 then
        f_X11_readDie_L72 N m_inputLength m_input r52 l1 l2 m_position m_start m_token m_value m_letters m_code m_place m_parsed
      else
        f_X11_readDie_L125 N m_inputLength m_input l1 l2 m_position m_start m_token m_value m_letters m_code m_place m_parsed
  else
    f_X11_readDie_L125 N m_inputLength m_input l1 l2 m_position m_start m_token m_value m_letters m_code m_place m_parsed
def f_X11_readDie_L52 (N : Nat) (m_inputLength : Int32) (m_input : Nat → Int32)  : Nat → Int32 → Int32 → Int32 → Int32 → Int32 → Int32 → Int32 → Int32 → Int32 → (Nat → Int32) → Option (Int32 × Int32 × Int32 × Int32 × Int32 × Int32 × Int32 × (Nat → Int32))
  | 0 => fun _ _ _ _ _ _ _ _ _ _ => none
  | j + 1 => f_X11_readDie_L52_F N m_inputLength m_input (f_X11_readDie_L52 N m_inputLength m_input j)
def f_X11_readDie_L49 (N : Nat) (m_inputLength : Int32) (m_input : Nat → Int32)  (s0 : Int32) (m_position : Int32) (m_start : Int32) (m_token : Int32) (m_value : Int32) (m_letters : Int32) (m_code : Int32) (m_place : Int32) (m_parsed : Nat → Int32) : Option (Int32 × Int32 × Int32 × Int32 × Int32 × Int32 × Int32 × (Nat → Int32)) :=
  f_X11_readDie_L52 N m_inputLength m_input N s0 0 m_position m_start m_token m_value m_letters m_code m_place m_parsed
def f_X11_readDie_L17 (N : Nat) (m_inputLength : Int32) (m_input : Nat → Int32)  (s0 : Int32) (m_position : Int32) (m_start : Int32) (m_token : Int32) (m_value : Int32) (m_letters : Int32) (m_code : Int32) (m_place : Int32) (m_parsed : Nat → Int32) : Option (Int32 × Int32 × Int32 × Int32 × Int32 × Int32 × Int32 × (Nat → Int32)) :=
  (f_X11_check m_start m_code m_place s0 5).bind fun t1 =>
  (f_X11_next N m_inputLength t1.2.1 m_input m_position m_start m_token m_value m_letters).bind fun t2 =>
  if t1.2.1 = 0 then
    (f_X11_ofDie (m_parsed (Int32.toNatClampNeg 3))).bind fun t4 =>
    f_X11_readDie_L49 N m_inputLength m_input t4 t2.1 t2.2.1 t2.2.2.1 t2.2.2.2.1 t2.2.2.2.2 t1.2.1 t1.2.2 m_parsed
  else
    (f_X11_ofDie 0).bind fun t3 =>
    f_X11_readDie_L49 N m_inputLength m_input t3 t2.1 t2.2.1 t2.2.2.1 t2.2.2.2.1 t2.2.2.2.2 t1.2.1 t1.2.2 m_parsed
def f_X11_readDie (N : Nat) (m_inputLength : Int32) (m_input : Nat → Int32) (m_position : Int32) (m_start : Int32) (m_token : Int32) (m_value : Int32) (m_letters : Int32) (m_code : Int32) (m_place : Int32) (m_parsed : Nat → Int32) : Option (Int32 × Int32 × Int32 × Int32 × Int32 × Int32 × Int32 × (Nat → Int32)) :=
  if 6 ≤ (m_parsed (Int32.toNatClampNeg 3)) then
    f_X11_readDie_L17 N m_inputLength m_input 0 m_position m_start m_token m_value m_letters m_code m_place m_parsed
  else
    f_X11_readDie_L17 N m_inputLength m_input 1 m_position m_start m_token m_value m_letters m_code m_place m_parsed
def f_X11_nameFrom_L71 (N : Nat) (m_input : Nat → Int32) (r16 : Int32 → Int32 → Int32 → Int32 → Option (Int32)) (l1 : Int32) (l2 : Int32) (l4 : Int32) (s0 : Int32) (s1 : Int32) : Option (Int32) :=
  r16 l1 l2 (s1 + s0) (l4 + 1)
def f_X11_nameFrom_L45 (N : Nat) (m_input : Nat → Int32) (r16 : Int32 → Int32 → Int32 → Int32 → Option (Int32)) (l1 : Int32) (l2 : Int32) (l3 : Int32) (l4 : Int32) : Option (Int32) :=
  if l2 ≤ l4 then
    f_X11_nameFrom_L71 N m_input r16 l1 l2 l4 0 (l3 * 27)
  else
    gd (inb (l1 + l4) 600) <|
    f_X11_nameFrom_L71 N m_input r16 l1 l2 l4 ((m_input (Int32.toNatClampNeg (l1 + l4))) - 96) (l3 * 27)
def f_X11_nameFrom_L16_F (N : Nat) (m_input : Nat → Int32)  (r16 : Int32 → Int32 → Int32 → Int32 → Option (Int32)) (l1 : Int32) (l2 : Int32) (l3 : Int32) (l4 : Int32) : Option (Int32) :=
  if 4 ≤ l4 then
    some l3
  else
    if l2 ≤ l4 then
      f_X11_nameFrom_L45 N m_input r16 l1 l2 l3 l4
    else
      gd (inb (l1 + l4) 600) <|
      (f_X11_isLetter (m_input (Int32.toNatClampNeg (l1 + l4)))).bind fun t2 =>
      if t2 = 0 then
        some (-1)
      else
        f_X11_nameFrom_L45 N m_input r16 l1 l2 l3 l4
def f_X11_nameFrom_L16 (N : Nat) (m_input : Nat → Int32)  : Nat → Int32 → Int32 → Int32 → Int32 → Option (Int32)
  | 0 => fun _ _ _ _ => none
  | j + 1 => f_X11_nameFrom_L16_F N m_input (f_X11_nameFrom_L16 N m_input j)
def f_X11_nameFrom (N : Nat) (m_input : Nat → Int32) (a0 : Int32) (a1 : Int32) : Option (Int32) :=
  (f_X11_isBetween a1 1 4).bind fun t1 =>
  if t1 = 0 then
    some (-1)
  else
    f_X11_nameFrom_L16 N m_input N a0 a1 0 0
def f_X11_named_L2_F (N : Nat) (gn : Nat) (gf : Nat → Int32)  (r2 : Int32 → Int32 → Option (Int32)) (l1 : Int32) (l2 : Int32) : Option (Int32) :=
  gd (inb 4 gn) <|
  if (gf (Int32.toNatClampNeg 4)) ≤ l2 then
    some (-1)
  else
    gd (inb (85 + l2) gn) <|
    if (gf (Int32.toNatClampNeg (85 + l2))) = l1 then
      some l2
    else
      r2 l1 (l2 + 1)
def f_X11_named_L2 (N : Nat) (gn : Nat) (gf : Nat → Int32)  : Nat → Int32 → Int32 → Option (Int32)
  | 0 => fun _ _ => none
  | j + 1 => f_X11_named_L2_F N gn gf (f_X11_named_L2 N gn gf j)
def f_X11_named (N : Nat) (gn : Nat) (gf : Nat → Int32) (a1 : Int32) : Option (Int32) :=
  f_X11_named_L2 N gn gf N a1 0
def f_X11_readPlayer_L110 (N : Nat) (m_inputLength : Int32) (m_input : Nat → Int32)  (l1 : Int32) (s0 : Int32) (m_position : Int32) (m_start : Int32) (m_token : Int32) (m_value : Int32) (m_letters : Int32) (m_code : Int32) (m_place : Int32) (m_parsed : Nat → Int32) : Option (Int32 × Int32 × Int32 × Int32 × Int32 × Int32 × Int32 × (Nat → Int32)) :=
  (f_X11_check m_start m_code m_place s0 3).bind fun t5 =>
  (f_X11_next N m_inputLength t5.2.1 m_input m_position m_start m_token m_value m_letters).bind fun t6 =>
  (f_X11_finish N m_inputLength m_input t6.1 t6.2.1 t6.2.2.1 t6.2.2.2.1 t6.2.2.2.2 t5.2.1 t5.2.2).bind fun t7 =>
  if t7.2.2.2.2.2.1 = 0 then
    gd (inb (85 + (m_parsed (Int32.toNatClampNeg 4))) 1399) <|
    some (t7.1, t7.2.1, t7.2.2.1, t7.2.2.2.1, t7.2.2.2.2.1, t7.2.2.2.2.2.1, t7.2.2.2.2.2.2, (upd (upd m_parsed (Int32.toNatClampNeg (85 + (m_parsed (Int32.toNatClampNeg 4)))) l1) (Int32.toNatClampNeg 4) (((upd m_parsed (Int32.toNatClampNeg (85 + (m_parsed (Int32.toNatClampNeg 4)))) l1) (Int32.toNatClampNeg 4)) + 1)))
  else
    some (t7.1, t7.2.1, t7.2.2.1, t7.2.2.2.1, t7.2.2.2.2.1, t7.2.2.2.2.2.1, t7.2.2.2.2.2.2, m_parsed)
def f_X11_readPlayer_L105 (N : Nat) (m_inputLength : Int32) (m_input : Nat → Int32)  (l1 : Int32) (m_position : Int32) (m_start : Int32) (m_token : Int32) (m_value : Int32) (m_letters : Int32) (m_code : Int32) (m_place : Int32) (m_parsed : Nat → Int32) : Option (Int32 × Int32 × Int32 × Int32 × Int32 × Int32 × Int32 × (Nat → Int32)) :=
  f_X11_readPlayer_L110 N m_inputLength m_input l1 1 m_position m_start m_token m_value m_letters m_code m_place m_parsed
def f_X11_readPlayer_L80 (N : Nat) (m_inputLength : Int32) (m_input : Nat → Int32)  (l1 : Int32) (s0 : Int32) (m_position : Int32) (m_start : Int32) (m_token : Int32) (m_value : Int32) (m_letters : Int32) (m_code : Int32) (m_place : Int32) (m_parsed : Nat → Int32) : Option (Int32 × Int32 × Int32 × Int32 × Int32 × Int32 × Int32 × (Nat → Int32)) :=
  (f_X11_check m_start m_code m_place s0 2).bind fun t4 =>
  if t4.2.1 = 0 then
    (f_X11_named N 1399 m_parsed l1).bind fun t5 =>
    if t5 = (-1) then
      f_X11_readPlayer_L105 N m_inputLength m_input l1 m_position m_start m_token m_value m_letters t4.2.1 t4.2.2 m_parsed
    else
      f_X11_readPlayer_L110 N m_inputLength m_input l1 0 m_position m_start m_token m_value m_letters t4.2.1 t4.2.2 m_parsed
  else
    f_X11_readPlayer_L105 N m_inputLength m_input l1 m_position m_start m_token m_value m_letters t4.2.1 t4.2.2 m_parsed
def f_X11_readPlayer_L68 (N : Nat) (m_inputLength : Int32) (m_input : Nat → Int32)  (s0 : Int32) (m_position : Int32) (m_start : Int32) (m_token : Int32) (m_value : Int32) (m_letters : Int32) (m_code : Int32) (m_place : Int32) (m_parsed : Nat → Int32) : Option (Int32 × Int32 × Int32 × Int32 × Int32 × Int32 × Int32 × (Nat → Int32)) :=
  if s0 = (-1) then
    f_X11_readPlayer_L80 N m_inputLength m_input s0 0 m_position m_start m_token m_value m_letters m_code m_place m_parsed
  else
    f_X11_readPlayer_L80 N m_inputLength m_input s0 1 m_position m_start m_token m_value m_letters m_code m_place m_parsed
def f_X11_readPlayer_L40 (N : Nat) (m_inputLength : Int32) (m_input : Nat → Int32)  (s0 : Int32) (m_position : Int32) (m_start : Int32) (m_token : Int32) (m_value : Int32) (m_letters : Int32) (m_code : Int32) (m_place : Int32) (m_parsed : Nat → Int32) : Option (Int32 × Int32 × Int32 × Int32 × Int32 × Int32 × Int32 × (Nat → Int32)) :=
  (f_X11_check m_start m_code m_place s0 1).bind fun t3 =>
  if t3.2.1 = 0 then
    (f_X11_nameFrom N m_input m_start m_letters).bind fun t4 =>
    f_X11_readPlayer_L68 N m_inputLength m_input t4 m_position m_start m_token m_value m_letters t3.2.1 t3.2.2 m_parsed
  else
    f_X11_readPlayer_L68 N m_inputLength m_input 0 m_position m_start m_token m_value m_letters t3.2.1 t3.2.2 m_parsed
def f_X11_readPlayer_L17 (N : Nat) (m_inputLength : Int32) (m_input : Nat → Int32)  (s0 : Int32) (m_position : Int32) (m_start : Int32) (m_token : Int32) (m_value : Int32) (m_letters : Int32) (m_code : Int32) (m_place : Int32) (m_parsed : Nat → Int32) : Option (Int32 × Int32 × Int32 × Int32 × Int32 × Int32 × Int32 × (Nat → Int32)) :=
  (f_X11_check m_start m_code m_place s0 5).bind fun t1 =>
  (f_X11_next N m_inputLength t1.2.1 m_input m_position m_start m_token m_value m_letters).bind fun t2 =>
  if t2.2.2.1 = 3 then
    f_X11_readPlayer_L40 N m_inputLength m_input 1 t2.1 t2.2.1 t2.2.2.1 t2.2.2.2.1 t2.2.2.2.2 t1.2.1 t1.2.2 m_parsed
  else
    f_X11_readPlayer_L40 N m_inputLength m_input 0 t2.1 t2.2.1 t2.2.2.1 t2.2.2.2.1 t2.2.2.2.2 t1.2.1 t1.2.2 m_parsed
def f_X11_readPlayer (N : Nat) (m_inputLength : Int32) (m_input : Nat → Int32) (m_position : Int32) (m_start : Int32) (m_token : Int32) (m_value : Int32) (m_letters : Int32) (m_code : Int32) (m_place : Int32) (m_parsed : Nat → Int32) : Option (Int32 × Int32 × Int32 × Int32 × Int32 × Int32 × Int32 × (Nat → Int32)) :=
  if 6 ≤ (m_parsed (Int32.toNatClampNeg 4)) then
    f_X11_readPlayer_L17 N m_inputLength m_input 0 m_position m_start m_token m_value m_letters m_code m_place m_parsed
  else
    f_X11_readPlayer_L17 N m_inputLength m_input 1 m_position m_start m_token m_value m_letters m_code m_place m_parsed
def f_X11_player_L68 (N : Nat) (m_inputLength : Int32) (m_parsed : Nat → Int32) (m_input : Nat → Int32)  (l1 : Int32) (s0 : Int32) (m_position : Int32) (m_start : Int32) (m_token : Int32) (m_value : Int32) (m_letters : Int32) (m_code : Int32) (m_place : Int32) : Option (Int32 × Int32 × Int32 × Int32 × Int32 × Int32 × Int32 × Int32) :=
  (f_X11_check m_start m_code m_place s0 4).bind fun t2 =>
  (f_X11_next N m_inputLength t2.2.1 m_input m_position m_start m_token m_value m_letters).bind fun t3 =>
  some (l1, t3.1, t3.2.1, t3.2.2.1, t3.2.2.2.1, t3.2.2.2.2, t2.2.1, t2.2.2)
def f_X11_player_L63 (N : Nat) (m_inputLength : Int32) (m_parsed : Nat → Int32) (m_input : Nat → Int32)  (l1 : Int32) (m_position : Int32) (m_start : Int32) (m_token : Int32) (m_value : Int32) (m_letters : Int32) (m_code : Int32) (m_place : Int32) : Option (Int32 × Int32 × Int32 × Int32 × Int32 × Int32 × Int32 × Int32) :=
  f_X11_player_L68 N m_inputLength m_parsed m_input l1 1 m_position m_start m_token m_value m_letters m_code m_place
def f_X11_player_L49 (N : Nat) (m_inputLength : Int32) (m_parsed : Nat → Int32) (m_input : Nat → Int32)  (s0 : Int32) (m_position : Int32) (m_start : Int32) (m_token : Int32) (m_value : Int32) (m_letters : Int32) (m_code : Int32) (m_place : Int32) : Option (Int32 × Int32 × Int32 × Int32 × Int32 × Int32 × Int32 × Int32) :=
  if m_code = 0 then
    if s0 = (-1) then
      f_X11_player_L68 N m_inputLength m_parsed m_input s0 0 m_position m_start m_token m_value m_letters m_code m_place
    else
      f_X11_player_L63 N m_inputLength m_parsed m_input s0 m_position m_start m_token m_value m_letters m_code m_place
  else
    f_X11_player_L63 N m_inputLength m_parsed m_input s0 m_position m_start m_token m_value m_letters m_code m_place
def f_X11_player_L14 (N : Nat) (m_inputLength : Int32) (m_parsed : Nat → Int32) (m_input : Nat → Int32)  (s0 : Int32) (m_position : Int32) (m_start : Int32) (m_token : Int32) (m_value : Int32) (m_letters : Int32) (m_code : Int32) (m_place : Int32) : Option (Int32 × Int32 × Int32 × Int32 × Int32 × Int32 × Int32 × Int32) :=
  (f_X11_check m_start m_code m_place s0 1).bind fun t1 =>
  if t1.2.1 = 0 then
    (f_X11_nameFrom N m_input m_start m_letters).bind fun t2 =>
    (f_X11_named N 1399 m_parsed t2).bind fun t3 =>
    f_X11_player_L49 N m_inputLength m_parsed m_input t3 m_position m_start m_token m_value m_letters t1.2.1 t1.2.2
  else
    f_X11_player_L49 N m_inputLength m_parsed m_input 0 m_position m_start m_token m_value m_letters t1.2.1 t1.2.2
def f_X11_player (N : Nat) (m_inputLength : Int32) (m_parsed : Nat → Int32) (m_input : Nat → Int32) (m_position : Int32) (m_start : Int32) (m_token : Int32) (m_value : Int32) (m_letters : Int32) (m_code : Int32) (m_place : Int32) : Option (Int32 × Int32 × Int32 × Int32 × Int32 × Int32 × Int32 × Int32) :=
  if m_token = 3 then
    f_X11_player_L14 N m_inputLength m_parsed m_input 1 m_position m_start m_token m_value m_letters m_code m_place
  else
    f_X11_player_L14 N m_inputLength m_parsed m_input 0 m_position m_start m_token m_value m_letters m_code m_place
def f_X11_nextSeed  (a0 : Int32) : Option (Int32) :=
  some (((75 * a0) + 74) - ((75 * a0) + 74) / 65537 * 65537)
def f_X11_faceBy_L11_F (N : Nat) (gn : Nat) (gf : Nat → Int32)  (r11 : Int32 → Int32 → Int32 → Option (Int32)) (l1 : Int32) (l3 : Int32) (l4 : Int32) : Option (Int32) :=
  (f_X11_weight gn gf l1 l4).bind fun t2 =>
  if l3 < t2 then
    some l4
  else
    (f_X11_weight gn gf l1 l4).bind fun t3 =>
    r11 l1 (l3 - t3) (l4 + 1)
def f_X11_faceBy_L11 (N : Nat) (gn : Nat) (gf : Nat → Int32)  : Nat → Int32 → Int32 → Int32 → Option (Int32)
  | 0 => fun _ _ _ => none
  | j + 1 => f_X11_faceBy_L11_F N gn gf (f_X11_faceBy_L11 N gn gf j)
def f_X11_faceBy (N : Nat) (gn : Nat) (gf : Nat → Int32) (a1 : Int32) (a2 : Int32) : Option (Int32) :=
  (f_X11_allWeights N gn gf a1).bind fun t1 =>
  gd (nz t1) <|
  f_X11_faceBy_L11 N gn gf N a1 (a2 - a2 / t1 * t1) 1
def f_X11_ofThrow  (a0 : Int32) : Option (Int32) :=
  some (91 + (4 * a0))
def f_X11_enter (gn : Nat) (gf : Nat → Int32) (a1 : Int32) (a2 : Int32) (a3 : Int32) (a4 : Int32) : Option ((Nat → Int32)) :=
  gd (inb 5 gn) <|
  (f_X11_ofThrow (gf (Int32.toNatClampNeg 5))).bind fun t1 =>
  gd (inb (t1 + 0) gn) <|
  gd (inb (t1 + 1) gn) <|
  gd (inb (t1 + 2) gn) <|
  gd (inb (t1 + 3) gn) <|
  gd (inb 5 gn) <|
  gd (inb 5 gn) <|
  some (upd (upd (upd (upd (upd gf (Int32.toNatClampNeg (t1 + 0)) a1) (Int32.toNatClampNeg (t1 + 1)) a2) (Int32.toNatClampNeg (t1 + 2)) a3) (Int32.toNatClampNeg (t1 + 3)) a4) (Int32.toNatClampNeg 5) (((upd (upd (upd (upd gf (Int32.toNatClampNeg (t1 + 0)) a1) (Int32.toNatClampNeg (t1 + 1)) a2) (Int32.toNatClampNeg (t1 + 2)) a3) (Int32.toNatClampNeg (t1 + 3)) a4) (Int32.toNatClampNeg 5)) + 1))
def f_X11_throwMany_L65 (N : Nat) (gn : Nat) (r6 : Int32 → Int32 → Int32 → Int32 → Int32 → Int32 → (Nat → Int32) → Option (Int32 × (Nat → Int32))) (l1 : Int32) (l2 : Int32) (l3 : Int32) (l4 : Int32) (l5 : Int32) (l6 : Int32) (l7 : Int32) (s0 : Int32) (s1 : Int32) (s2 : Int32) (s3 : Int32) (gf : Nat → Int32) : Option (Int32 × (Nat → Int32)) :=
  (f_X11_enter gn gf s3 s2 s1 s0).bind fun t3 =>
  r6 l1 l2 l3 l4 (l5 + l7) (l6 + 1) t3
def f_X11_throwMany_L48 (N : Nat) (gn : Nat) (r6 : Int32 → Int32 → Int32 → Int32 → Int32 → Int32 → (Nat → Int32) → Option (Int32 × (Nat → Int32))) (l1 : Int32) (l2 : Int32) (l3 : Int32) (l4 : Int32) (l5 : Int32) (l6 : Int32) (s0 : Int32) (gf : Nat → Int32) : Option (Int32 × (Nat → Int32)) :=
  if l4 = 0 then
    f_X11_throwMany_L65 N gn r6 l1 l2 l3 l4 l5 l6 s0 0 s0 l2 l1 gf
  else
    f_X11_throwMany_L65 N gn r6 l1 l2 l3 l4 l5 l6 s0 1 s0 l2 l1 gf
def f_X11_throwMany_L6_F (N : Nat) (gn : Nat)  (r6 : Int32 → Int32 → Int32 → Int32 → Int32 → Int32 → (Nat → Int32) → Option (Int32 × (Nat → Int32))) (l1 : Int32) (l2 : Int32) (l3 : Int32) (l4 : Int32) (l5 : Int32) (l6 : Int32) (gf : Nat → Int32) : Option (Int32 × (Nat → Int32)) :=
  if l3 ≤ l6 then
    some (l5, gf)
  else
    gd (inb 0 gn) <|
    (f_X11_nextSeed (gf (Int32.toNatClampNeg 0))).bind fun t1 =>
    gd (inb 0 gn) <|
    if l4 = 0 then
      gd (inb 0 gn) <|
      (f_X11_faceBy N gn (upd gf (Int32.toNatClampNeg 0) t1) l2 ((upd gf (Int32.toNatClampNeg 0) t1) (Int32.toNatClampNeg 0))).bind fun t2 =>
      f_X11_throwMany_L48 N gn r6 l1 l2 l3 l4 l5 l6 t2 (upd gf (Int32.toNatClampNeg 0) t1)
    else
      gd (inb 0 gn) <|
      (f_X11_facesOf gn (upd gf (Int32.toNatClampNeg 0) t1) l2).bind fun t3 =>
      gd (nz t3) <|
      f_X11_throwMany_L48 N gn r6 l1 l2 l3 l4 l5 l6 ((((upd gf (Int32.toNatClampNeg 0) t1) (Int32.toNatClampNeg 0)) - ((upd gf (Int32.toNatClampNeg 0) t1) (Int32.toNatClampNeg 0)) / t3 * t3) + 1) (upd gf (Int32.toNatClampNeg 0) t1)
def f_X11_throwMany_L6 (N : Nat) (gn : Nat)  : Nat → Int32 → Int32 → Int32 → Int32 → Int32 → Int32 → (Nat → Int32) → Option (Int32 × (Nat → Int32))
  | 0 => fun _ _ _ _ _ _ _ => none
  | j + 1 => f_X11_throwMany_L6_F N gn (f_X11_throwMany_L6 N gn j)
def f_X11_throwMany (N : Nat) (gn : Nat) (gf : Nat → Int32) (a1 : Int32) (a2 : Int32) (a3 : Int32) (a4 : Int32) : Option (Int32 × (Nat → Int32)) :=
  f_X11_throwMany_L6 N gn N a1 a2 a3 a4 0 0 gf
def f_X11_readThrow_L94 (N : Nat) (m_inputLength : Int32) (m_input : Nat → Int32)  (m_position : Int32) (m_start : Int32) (m_token : Int32) (m_value : Int32) (m_letters : Int32) (m_code : Int32) (m_place : Int32) (m_parsed : Nat → Int32) : Option (Int32 × Int32 × Int32 × Int32 × Int32 × Int32 × Int32 × (Nat → Int32)) :=
  (f_X11_next N m_inputLength m_code m_input m_position m_start m_token m_value m_letters).bind fun t7 =>
  some (t7.1, t7.2.1, t7.2.2.1, t7.2.2.2.1, t7.2.2.2.2, m_code, m_place, m_parsed)
def f_X11_readThrow_L62 (N : Nat) (m_inputLength : Int32) (m_input : Nat → Int32)  (l1 : Int32) (l2 : Int32) (l3 : Int32) (s0 : Int32) (m_position : Int32) (m_start : Int32) (m_token : Int32) (m_value : Int32) (m_letters : Int32) (m_code : Int32) (m_place : Int32) (m_parsed : Nat → Int32) : Option (Int32 × Int32 × Int32 × Int32 × Int32 × Int32 × Int32 × (Nat → Int32)) :=
  (f_X11_check m_start m_code m_place s0 6).bind fun t6 =>
  if t6.2.1 = 0 then
    (f_X11_throwMany N 1399 m_parsed l1 l2 l3 0).bind fun t7 =>
    if 0 ≤ t7.1 then
      f_X11_readThrow_L94 N m_inputLength m_input m_position m_start m_token m_value m_letters t6.2.1 t6.2.2 t7.2
    else
      f_X11_readThrow_L94 N m_inputLength m_input m_position m_start m_token m_value m_letters 1 t6.2.2 t7.2
  else
    f_X11_readThrow_L94 N m_inputLength m_input m_position m_start m_token m_value m_letters t6.2.1 t6.2.2 m_parsed
def f_X11_readThrow_L57 (N : Nat) (m_inputLength : Int32) (m_input : Nat → Int32)  (l1 : Int32) (l2 : Int32) (l3 : Int32) (m_position : Int32) (m_start : Int32) (m_token : Int32) (m_value : Int32) (m_letters : Int32) (m_code : Int32) (m_place : Int32) (m_parsed : Nat → Int32) : Option (Int32 × Int32 × Int32 × Int32 × Int32 × Int32 × Int32 × (Nat → Int32)) :=
  f_X11_readThrow_L62 N m_inputLength m_input l1 l2 l3 1 m_position m_start m_token m_value m_letters m_code m_place m_parsed
def f_X11_readThrow (N : Nat) (m_inputLength : Int32) (m_input : Nat → Int32) (m_position : Int32) (m_start : Int32) (m_token : Int32) (m_value : Int32) (m_letters : Int32) (m_code : Int32) (m_place : Int32) (m_parsed : Nat → Int32) : Option (Int32 × Int32 × Int32 × Int32 × Int32 × Int32 × Int32 × (Nat → Int32)) :=
  (f_X11_next N m_inputLength m_code m_input m_position m_start m_token m_value m_letters).bind fun t1 =>
  (f_X11_player N m_inputLength m_parsed m_input t1.1 t1.2.1 t1.2.2.1 t1.2.2.2.1 t1.2.2.2.2 m_code m_place).bind fun t2 =>
  (f_X11_number N m_inputLength m_input t2.2.1 t2.2.2.1 t2.2.2.2.1 t2.2.2.2.2.1 t2.2.2.2.2.2.1 t2.2.2.2.2.2.2.1 t2.2.2.2.2.2.2.2 0 ((m_parsed (Int32.toNatClampNeg 3)) - 1)).bind fun t3 =>
  (f_X11_number N m_inputLength m_input t3.2.1 t3.2.2.1 t3.2.2.2.1 t3.2.2.2.2.1 t3.2.2.2.2.2.1 t3.2.2.2.2.2.2.1 t3.2.2.2.2.2.2.2 1 50).bind fun t4 =>
  (f_X11_semicolon t4.2.2.1 t4.2.2.2.1 m_input t4.2.2.2.2.2.2.1 t4.2.2.2.2.2.2.2).bind fun t5 =>
  if t5.1 = 0 then
    if 300 < ((m_parsed (Int32.toNatClampNeg 5)) + t4.1) then
      f_X11_readThrow_L62 N m_inputLength m_input t2.1 t3.1 t4.1 0 t4.2.1 t4.2.2.1 t4.2.2.2.1 t4.2.2.2.2.1 t4.2.2.2.2.2.1 t5.1 t5.2 m_parsed
    else
      f_X11_readThrow_L57 N m_inputLength m_input t2.1 t3.1 t4.1 t4.2.1 t4.2.2.1 t4.2.2.2.1 t4.2.2.2.2.1 t4.2.2.2.2.2.1 t5.1 t5.2 m_parsed
  else
    f_X11_readThrow_L57 N m_inputLength m_input t2.1 t3.1 t4.1 t4.2.1 t4.2.2.1 t4.2.2.2.1 t4.2.2.2.2.1 t4.2.2.2.2.2.1 t5.1 t5.2 m_parsed
def f_X11_isOf (gn : Nat) (gf : Nat → Int32) (a1 : Int32) (a2 : Int32) (a3 : Int32) : Option (Int32) :=
  (f_X11_ofThrow a1).bind fun t1 =>
  gd (inb (t1 + 0) gn) <|
  if (gf (Int32.toNatClampNeg (t1 + 0))) = a2 then
    (f_X11_ofThrow a1).bind fun t2 =>
    gd (inb (t2 + 1) gn) <|
    if (gf (Int32.toNatClampNeg (t2 + 1))) = a3 then
      some 1
    else
      some 0
  else
    some 0
def f_X11_countPair_L79 (N : Nat) (gn : Nat) (gf : Nat → Int32) (r32 : Int32 → Int32 → Int32 → Int32 → (Nat → Int32) → Option (Int32 × (Nat → Int32))) (l2 : Int32) (l3 : Int32) (l4 : Int32) (m_oftenAll : Int32) (m_often : Nat → Int32) : Option (Int32 × (Nat → Int32)) :=
  r32 l2 l3 (l4 + 1) m_oftenAll m_often
def f_X11_countPair_L32_F (N : Nat) (gn : Nat) (gf : Nat → Int32)  (r32 : Int32 → Int32 → Int32 → Int32 → (Nat → Int32) → Option (Int32 × (Nat → Int32))) (l2 : Int32) (l3 : Int32) (l4 : Int32) (m_oftenAll : Int32) (m_often : Nat → Int32) : Option (Int32 × (Nat → Int32)) :=
  gd (inb 5 gn) <|
  if (gf (Int32.toNatClampNeg 5)) ≤ l4 then
    some (m_oftenAll, m_often)
  else
    (f_X11_isOf gn gf l4 l2 l3).bind fun t1 =>
    if t1 = 0 then
      f_X11_countPair_L79 N gn gf r32 l2 l3 l4 m_oftenAll m_often
    else
      (f_X11_ofThrow l4).bind fun t2 =>
      gd (inb (t2 + 2) gn) <|
      gd (inb (gf (Int32.toNatClampNeg (t2 + 2))) 13) <|
      gd (inb (gf (Int32.toNatClampNeg (t2 + 2))) 13) <|
      f_X11_countPair_L79 N gn gf r32 l2 l3 l4 (m_oftenAll + 1) (upd m_often (Int32.toNatClampNeg (gf (Int32.toNatClampNeg (t2 + 2)))) ((m_often (Int32.toNatClampNeg (gf (Int32.toNatClampNeg (t2 + 2))))) + 1))
def f_X11_countPair_L32 (N : Nat) (gn : Nat) (gf : Nat → Int32)  : Nat → Int32 → Int32 → Int32 → Int32 → (Nat → Int32) → Option (Int32 × (Nat → Int32))
  | 0 => fun _ _ _ _ _ => none
  | j + 1 => f_X11_countPair_L32_F N gn gf (f_X11_countPair_L32 N gn gf j)
def f_X11_countPair_L8_F (N : Nat) (gn : Nat) (gf : Nat → Int32)  (r8 : Int32 → Int32 → Int32 → Int32 → (Nat → Int32) → Option (Int32 × (Nat → Int32))) (l2 : Int32) (l3 : Int32) (l4 : Int32) (m_oftenAll : Int32) (m_often : Nat → Int32) : Option (Int32 × (Nat → Int32)) :=
  if 12 < l4 then
    f_X11_countPair_L32 N gn gf N l2 l3 0 m_oftenAll m_often
  else
    gd (inb l4 13) <|
    r8 l2 l3 (l4 + 1) m_oftenAll (upd m_often (Int32.toNatClampNeg l4) 0)
def f_X11_countPair_L8 (N : Nat) (gn : Nat) (gf : Nat → Int32)  : Nat → Int32 → Int32 → Int32 → Int32 → (Nat → Int32) → Option (Int32 × (Nat → Int32))
  | 0 => fun _ _ _ _ _ => none
  | j + 1 => f_X11_countPair_L8_F N gn gf (f_X11_countPair_L8 N gn gf j)
def f_X11_countPair (N : Nat) (gn : Nat) (gf : Nat → Int32) (m_oftenAll : Int32) (m_often : Nat → Int32) (a1 : Int32) (a2 : Int32) : Option (Int32 × (Nat → Int32)) :=
  f_X11_countPair_L8 N gn gf N a1 a2 0 0 m_often
def f_X11_scoreOfCounts_L4_F (N : Nat) (m_oftenAll : Int32) (m_often : Nat → Int32)  (r4 : Int32 → Int32 → Int32 → Option (Int32)) (l1 : Int32) (l2 : Int32) (l3 : Int32) : Option (Int32) :=
  if l1 < l3 then
    if m_oftenAll = 0 then
      some 0
    else
      gd (nz (m_oftenAll * l1)) <|
      some (l2 / (m_oftenAll * l1))
  else
    gd (inb l3 13) <|
    r4 l1 (l2 + (((l1 * (m_often (Int32.toNatClampNeg l3))) - m_oftenAll) * ((l1 * (m_often (Int32.toNatClampNeg l3))) - m_oftenAll))) (l3 + 1)
def f_X11_scoreOfCounts_L4 (N : Nat) (m_oftenAll : Int32) (m_often : Nat → Int32)  : Nat → Int32 → Int32 → Int32 → Option (Int32)
  | 0 => fun _ _ _ => none
  | j + 1 => f_X11_scoreOfCounts_L4_F N m_oftenAll m_often (f_X11_scoreOfCounts_L4 N m_oftenAll m_often j)
def f_X11_scoreOfCounts (N : Nat) (m_oftenAll : Int32) (m_often : Nat → Int32) (a0 : Int32) : Option (Int32) :=
  f_X11_scoreOfCounts_L4 N m_oftenAll m_often N a0 0 1
def f_X11_isBad (N : Nat) (m_oftenAll : Int32) (m_often : Nat → Int32) (gn : Nat) (gf : Nat → Int32) (a1 : Int32) : Option (Int32) :=
  gd (inb 1 gn) <|
  if m_oftenAll < (gf (Int32.toNatClampNeg 1)) then
    some 0
  else
    (f_X11_scoreOfCounts N m_oftenAll m_often a1).bind fun t1 =>
    gd (inb 2 gn) <|
    if t1 ≤ (gf (Int32.toNatClampNeg 2)) then
      some 0
    else
      some 1
def f_X11_suspects (N : Nat) (gn : Nat) (gf : Nat → Int32) (m_oftenAll : Int32) (m_often : Nat → Int32) (a1 : Int32) (a2 : Int32) : Option (Int32 × Int32 × (Nat → Int32)) :=
  (f_X11_countPair N gn gf m_oftenAll m_often a1 a2).bind fun t1 =>
  (f_X11_facesOf gn gf a2).bind fun t2 =>
  (f_X11_isBad N t1.1 t1.2 gn gf t2).bind fun t3 =>
  some (t3, t1.1, t1.2)
def f_X11_ofOffence  (a0 : Int32) : Option (Int32) :=
  some (1291 + (3 * a0))
def f_X11_hasOffence_L36 (N : Nat) (gn : Nat) (gf : Nat → Int32) (r2 : Int32 → Int32 → Int32 → Option (Int32)) (l1 : Int32) (l2 : Int32) (l3 : Int32) : Option (Int32) :=
  r2 l1 l2 (l3 + 1)
def f_X11_hasOffence_L2_F (N : Nat) (gn : Nat) (gf : Nat → Int32)  (r2 : Int32 → Int32 → Int32 → Option (Int32)) (l1 : Int32) (l2 : Int32) (l3 : Int32) : Option (Int32) :=
  gd (inb 6 gn) <|
  if (gf (Int32.toNatClampNeg 6)) ≤ l3 then
    some 0
  else
    (f_X11_ofOffence l3).bind fun t1 =>
    gd (inb (t1 + 0) gn) <|
    if (gf (Int32.toNatClampNeg (t1 + 0))) = l1 then
      (f_X11_ofOffence l3).bind fun t2 =>
      gd (inb (t2 + 1) gn) <|
      if (gf (Int32.toNatClampNeg (t2 + 1))) = l2 then
        some 1
      else
        f_X11_hasOffence_L36 N gn gf r2 l1 l2 l3
    else
      f_X11_hasOffence_L36 N gn gf r2 l1 l2 l3
def f_X11_hasOffence_L2 (N : Nat) (gn : Nat) (gf : Nat → Int32)  : Nat → Int32 → Int32 → Int32 → Option (Int32)
  | 0 => fun _ _ _ => none
  | j + 1 => f_X11_hasOffence_L2_F N gn gf (f_X11_hasOffence_L2 N gn gf j)
def f_X11_hasOffence (N : Nat) (gn : Nat) (gf : Nat → Int32) (a1 : Int32) (a2 : Int32) : Option (Int32) :=
  f_X11_hasOffence_L2 N gn gf N a1 a2 0
def f_X11_scoreOf (N : Nat) (gn : Nat) (gf : Nat → Int32) (m_oftenAll : Int32) (m_often : Nat → Int32) (a1 : Int32) (a2 : Int32) : Option (Int32 × Int32 × (Nat → Int32)) :=
  (f_X11_countPair N gn gf m_oftenAll m_often a1 a2).bind fun t1 =>
  (f_X11_facesOf gn gf a2).bind fun t2 =>
  (f_X11_scoreOfCounts N t1.1 t1.2 t2).bind fun t3 =>
  some (t3, t1.1, t1.2)
def f_X11_isAhead (gn : Nat) (gf : Nat → Int32) (a1 : Int32) (a2 : Int32) (a3 : Int32) (a4 : Int32) : Option (Int32) :=
  gd (inb (a1 + 2) gn) <|
  if (gf (Int32.toNatClampNeg (a1 + 2))) = a4 then
    gd (inb (a1 + 0) gn) <|
    if (gf (Int32.toNatClampNeg (a1 + 0))) = a2 then
      gd (inb (a1 + 1) gn) <|
      if a3 ≤ (gf (Int32.toNatClampNeg (a1 + 1))) then
        some 0
      else
        some 1
    else
      gd (inb (a1 + 0) gn) <|
      if a2 ≤ (gf (Int32.toNatClampNeg (a1 + 0))) then
        some 0
      else
        some 1
  else
    gd (inb (a1 + 2) gn) <|
    if (gf (Int32.toNatClampNeg (a1 + 2))) ≤ a4 then
      some 0
    else
      some 1
def f_X11_layOffence_L71 (N : Nat) (gn : Nat)  (l1 : Int32) (l2 : Int32) (l3 : Int32) (l4 : Int32) (gf : Nat → Int32) : Option ((Nat → Int32)) :=
  (f_X11_ofOffence l4).bind fun t1 =>
  gd (inb (t1 + 0) gn) <|
  (f_X11_ofOffence l4).bind fun t2 =>
  gd (inb (t2 + 1) gn) <|
  (f_X11_ofOffence l4).bind fun t3 =>
  gd (inb (t3 + 2) gn) <|
  gd (inb 6 gn) <|
  gd (inb 6 gn) <|
  some (upd (upd (upd (upd gf (Int32.toNatClampNeg (t1 + 0)) l1) (Int32.toNatClampNeg (t2 + 1)) l2) (Int32.toNatClampNeg (t3 + 2)) l3) (Int32.toNatClampNeg 6) (((upd (upd (upd gf (Int32.toNatClampNeg (t1 + 0)) l1) (Int32.toNatClampNeg (t2 + 1)) l2) (Int32.toNatClampNeg (t3 + 2)) l3) (Int32.toNatClampNeg 6)) + 1))
def f_X11_layOffence_L31_F (N : Nat) (gn : Nat) (r6 : Int32 → Int32 → Int32 → Int32 → (Nat → Int32) → Option ((Nat → Int32))) (r31 : Int32 → Int32 → Int32 → Int32 → Int32 → (Nat → Int32) → Option ((Nat → Int32))) (l1 : Int32) (l2 : Int32) (l3 : Int32) (l4 : Int32) (l5 : Int32) (gf : Nat → Int32) : Option ((Nat → Int32)) :=
  if 3 ≤ l5 then
    r6 l1 l2 l3 (l4 + (-1)) gf
  else
    (f_X11_ofOffence l4).bind fun t3 =>
    (f_X11_ofOffence (l4 - 1)).bind fun t4 =>
    gd (inb (t4 + l5) gn) <|
    gd (inb (t3 + l5) gn) <|
    r31 l1 l2 l3 l4 (l5 + 1) (upd gf (Int32.toNatClampNeg (t3 + l5)) (gf (Int32.toNatClampNeg (t4 + l5))))
def f_X11_layOffence_L31 (N : Nat) (gn : Nat) (r6 : Int32 → Int32 → Int32 → Int32 → (Nat → Int32) → Option ((Nat → Int32))) : Nat → Int32 → Int32 → Int32 → Int32 → Int32 → (Nat → Int32) → Option ((Nat → Int32))
  | 0 => fun _ _ _ _ _ _ => none
  | j + 1 => f_X11_layOffence_L31_F N gn r6 (f_X11_layOffence_L31 N gn r6 j)
def f_X11_layOffence_L6_F (N : Nat) (gn : Nat)  (r6 : Int32 → Int32 → Int32 → Int32 → (Nat → Int32) → Option ((Nat → Int32))) (l1 : Int32) (l2 : Int32) (l3 : Int32) (l4 : Int32) (gf : Nat → Int32) : Option ((Nat → Int32)) :=
  if l4 ≤ 0 then
    f_X11_layOffence_L71 N gn l1 l2 l3 l4 gf
  else
    (f_X11_ofOffence (l4 - 1)).bind fun t1 =>
    (f_X11_isAhead gn gf t1 l1 l2 l3).bind fun t2 =>
    if t2 = 0 then
      f_X11_layOffence_L31 N gn r6 N l1 l2 l3 l4 0 gf
    else
      f_X11_layOffence_L71 N gn l1 l2 l3 l4 gf
def f_X11_layOffence_L6 (N : Nat) (gn : Nat)  : Nat → Int32 → Int32 → Int32 → Int32 → (Nat → Int32) → Option ((Nat → Int32))
  | 0 => fun _ _ _ _ _ => none
  | j + 1 => f_X11_layOffence_L6_F N gn (f_X11_layOffence_L6 N gn j)
def f_X11_layOffence (N : Nat) (gn : Nat) (gf : Nat → Int32) (a1 : Int32) (a2 : Int32) (a3 : Int32) : Option ((Nat → Int32)) :=
  gd (inb 6 gn) <|
  f_X11_layOffence_L6 N gn N a1 a2 a3 (gf (Int32.toNatClampNeg 6)) gf
def f_X11_holdAudit_L61 (N : Nat) (gn : Nat) (r4 : Int32 → Int32 → Int32 → (Nat → Int32) → (Nat → Int32) → Option (Int32 × Int32 × (Nat → Int32) × (Nat → Int32))) (r14 : Int32 → Int32 → Int32 → Int32 → (Nat → Int32) → (Nat → Int32) → Option (Int32 × Int32 × (Nat → Int32) × (Nat → Int32))) (l2 : Int32) (l3 : Int32) (l4 : Int32) (m_oftenAll : Int32) (m_often : Nat → Int32) (gf : Nat → Int32) : Option (Int32 × Int32 × (Nat → Int32) × (Nat → Int32)) :=
  r14 l2 l3 (l4 + 1) m_oftenAll m_often gf
def f_X11_holdAudit_L14_F (N : Nat) (gn : Nat) (r4 : Int32 → Int32 → Int32 → (Nat → Int32) → (Nat → Int32) → Option (Int32 × Int32 × (Nat → Int32) × (Nat → Int32))) (r14 : Int32 → Int32 → Int32 → Int32 → (Nat → Int32) → (Nat → Int32) → Option (Int32 × Int32 × (Nat → Int32) × (Nat → Int32))) (l2 : Int32) (l3 : Int32) (l4 : Int32) (m_oftenAll : Int32) (m_often : Nat → Int32) (gf : Nat → Int32) : Option (Int32 × Int32 × (Nat → Int32) × (Nat → Int32)) :=
  gd (inb 3 gn) <|
  if (gf (Int32.toNatClampNeg 3)) ≤ l4 then
    r4 l2 (l3 + 1) m_oftenAll m_often gf
  else
    (f_X11_suspects N gn gf m_oftenAll m_often l3 l4).bind fun t1 =>
    if t1.1 = 0 then
      f_X11_holdAudit_L61 N gn r4 r14 l2 l3 l4 t1.2.1 t1.2.2 gf
    else
      (f_X11_hasOffence N gn gf l3 l4).bind fun t2 =>
      if t2 = 0 then
        (f_X11_scoreOf N gn gf t1.2.1 t1.2.2 l3 l4).bind fun t3 =>
        (f_X11_layOffence N gn gf l3 l4 t3.1).bind fun t4 =>
        f_X11_holdAudit_L61 N gn r4 r14 (l2 + 1) l3 l4 t3.2.1 t3.2.2 t4
      else
        f_X11_holdAudit_L61 N gn r4 r14 l2 l3 l4 t1.2.1 t1.2.2 gf
def f_X11_holdAudit_L14 (N : Nat) (gn : Nat) (r4 : Int32 → Int32 → Int32 → (Nat → Int32) → (Nat → Int32) → Option (Int32 × Int32 × (Nat → Int32) × (Nat → Int32))) : Nat → Int32 → Int32 → Int32 → Int32 → (Nat → Int32) → (Nat → Int32) → Option (Int32 × Int32 × (Nat → Int32) × (Nat → Int32))
  | 0 => fun _ _ _ _ _ _ => none
  | j + 1 => f_X11_holdAudit_L14_F N gn r4 (f_X11_holdAudit_L14 N gn r4 j)
def f_X11_holdAudit_L4_F (N : Nat) (gn : Nat)  (r4 : Int32 → Int32 → Int32 → (Nat → Int32) → (Nat → Int32) → Option (Int32 × Int32 × (Nat → Int32) × (Nat → Int32))) (l2 : Int32) (l3 : Int32) (m_oftenAll : Int32) (m_often : Nat → Int32) (gf : Nat → Int32) : Option (Int32 × Int32 × (Nat → Int32) × (Nat → Int32)) :=
  gd (inb 4 gn) <|
  if (gf (Int32.toNatClampNeg 4)) ≤ l3 then
    some (l2, m_oftenAll, m_often, gf)
  else
    f_X11_holdAudit_L14 N gn r4 N l2 l3 0 m_oftenAll m_often gf
def f_X11_holdAudit_L4 (N : Nat) (gn : Nat)  : Nat → Int32 → Int32 → Int32 → (Nat → Int32) → (Nat → Int32) → Option (Int32 × Int32 × (Nat → Int32) × (Nat → Int32))
  | 0 => fun _ _ _ _ _ => none
  | j + 1 => f_X11_holdAudit_L4_F N gn (f_X11_holdAudit_L4 N gn j)
def f_X11_holdAudit (N : Nat) (gn : Nat) (m_oftenAll : Int32) (m_often : Nat → Int32) (gf : Nat → Int32) : Option (Int32 × Int32 × (Nat → Int32) × (Nat → Int32)) :=
  f_X11_holdAudit_L4 N gn N 0 0 m_oftenAll m_often gf
def f_X11_readAudit (N : Nat) (m_inputLength : Int32) (m_input : Nat → Int32) (m_oftenAll : Int32) (m_position : Int32) (m_start : Int32) (m_token : Int32) (m_value : Int32) (m_letters : Int32) (m_code : Int32) (m_place : Int32) (m_parsed : Nat → Int32) (m_often : Nat → Int32) : Option (Int32 × Int32 × Int32 × Int32 × Int32 × Int32 × Int32 × Int32 × (Nat → Int32) × (Nat → Int32)) :=
  (f_X11_next N m_inputLength m_code m_input m_position m_start m_token m_value m_letters).bind fun t1 =>
  (f_X11_finish N m_inputLength m_input t1.1 t1.2.1 t1.2.2.1 t1.2.2.2.1 t1.2.2.2.2 m_code m_place).bind fun t2 =>
  if t2.2.2.2.2.2.1 = 0 then
    (f_X11_holdAudit N 1399 m_oftenAll m_often m_parsed).bind fun t3 =>
    if 0 ≤ t3.1 then
      some (t3.2.1, t2.1, t2.2.1, t2.2.2.1, t2.2.2.2.1, t2.2.2.2.2.1, t2.2.2.2.2.2.1, t2.2.2.2.2.2.2, t3.2.2.2, t3.2.2.1)
    else
      some (t3.2.1, t2.1, t2.2.1, t2.2.2.1, t2.2.2.2.1, t2.2.2.2.2.1, 1, t2.2.2.2.2.2.2, t3.2.2.2, t3.2.2.1)
  else
    some (m_oftenAll, t2.1, t2.2.1, t2.2.2.1, t2.2.2.2.1, t2.2.2.2.2.1, t2.2.2.2.2.2.1, t2.2.2.2.2.2.2, m_parsed, m_often)
def f_X11_ofPair_L30 (N : Nat) (gn : Nat) (gf : Nat → Int32) (r5 : Int32 → Int32 → Int32 → Int32 → Option (Int32)) (l1 : Int32) (l2 : Int32) (l4 : Int32) (s0 : Int32) (s1 : Int32) : Option (Int32) :=
  r5 l1 l2 (s1 + s0) (l4 + 1)
def f_X11_ofPair_L5_F (N : Nat) (gn : Nat) (gf : Nat → Int32)  (r5 : Int32 → Int32 → Int32 → Int32 → Option (Int32)) (l1 : Int32) (l2 : Int32) (l3 : Int32) (l4 : Int32) : Option (Int32) :=
  gd (inb 5 gn) <|
  if (gf (Int32.toNatClampNeg 5)) ≤ l4 then
    some l3
  else
    (f_X11_isOf gn gf l4 l1 l2).bind fun t1 =>
    if t1 = 0 then
      f_X11_ofPair_L30 N gn gf r5 l1 l2 l4 0 l3
    else
      f_X11_ofPair_L30 N gn gf r5 l1 l2 l4 1 l3
def f_X11_ofPair_L5 (N : Nat) (gn : Nat) (gf : Nat → Int32)  : Nat → Int32 → Int32 → Int32 → Int32 → Option (Int32)
  | 0 => fun _ _ _ _ => none
  | j + 1 => f_X11_ofPair_L5_F N gn gf (f_X11_ofPair_L5 N gn gf j)
def f_X11_ofPair (N : Nat) (gn : Nat) (gf : Nat → Int32) (a1 : Int32) (a2 : Int32) : Option (Int32) :=
  f_X11_ofPair_L5 N gn gf N a1 a2 0 0
def f_X11_penance (N : Nat) (gn : Nat) (gf : Nat → Int32)  : Option (Int32) :=
  gd (inb 6 gn) <|
  if (gf (Int32.toNatClampNeg 6)) = 0 then
    some 0
  else
    (f_X11_ofOffence 0).bind fun t1 =>
    gd (inb (t1 + 0) gn) <|
    gd (inb (t1 + 1) gn) <|
    (f_X11_ofPair N gn gf (gf (Int32.toNatClampNeg (t1 + 0))) (gf (Int32.toNatClampNeg (t1 + 1)))).bind fun t2 =>
    gd (inb (t1 + 2) gn) <|
    if t2 ≤ (gf (Int32.toNatClampNeg (t1 + 2))) then
      some t2
    else
      gd (inb (t1 + 2) gn) <|
      some (gf (Int32.toNatClampNeg (t1 + 2)))
def f_X11_dropOffence_L13_F (N : Nat) (gn : Nat)  (r13 : Int32 → (Nat → Int32) → Option ((Nat → Int32))) (l2 : Int32) (gf : Nat → Int32) : Option ((Nat → Int32)) :=
  gd (inb 6 gn) <|
  (f_X11_ofOffence (gf (Int32.toNatClampNeg 6))).bind fun t2 =>
  if t2 ≤ l2 then
    some gf
  else
    gd (inb (l2 + 3) gn) <|
    gd (inb l2 gn) <|
    r13 (l2 + 1) (upd gf (Int32.toNatClampNeg l2) (gf (Int32.toNatClampNeg (l2 + 3))))
def f_X11_dropOffence_L13 (N : Nat) (gn : Nat)  : Nat → Int32 → (Nat → Int32) → Option ((Nat → Int32))
  | 0 => fun _ _ => none
  | j + 1 => f_X11_dropOffence_L13_F N gn (f_X11_dropOffence_L13 N gn j)
def f_X11_dropOffence (N : Nat) (gn : Nat) (gf : Nat → Int32) (a1 : Int32) : Option ((Nat → Int32)) :=
  gd (inb 6 gn) <|
  gd (inb 6 gn) <|
  (f_X11_ofOffence a1).bind fun t1 =>
  f_X11_dropOffence_L13 N gn N t1 (upd gf (Int32.toNatClampNeg 6) ((gf (Int32.toNatClampNeg 6)) - 1))
def f_X11_dropThrow_L12_F (N : Nat) (gn : Nat)  (r12 : Int32 → (Nat → Int32) → Option ((Nat → Int32))) (l2 : Int32) (gf : Nat → Int32) : Option ((Nat → Int32)) :=
  gd (inb 5 gn) <|
  (f_X11_ofThrow (gf (Int32.toNatClampNeg 5))).bind fun t2 =>
  if t2 ≤ l2 then
    some gf
  else
    gd (inb (l2 + 4) gn) <|
    gd (inb l2 gn) <|
    r12 (l2 + 1) (upd gf (Int32.toNatClampNeg l2) (gf (Int32.toNatClampNeg (l2 + 4))))
def f_X11_dropThrow_L12 (N : Nat) (gn : Nat)  : Nat → Int32 → (Nat → Int32) → Option ((Nat → Int32))
  | 0 => fun _ _ => none
  | j + 1 => f_X11_dropThrow_L12_F N gn (f_X11_dropThrow_L12 N gn j)
def f_X11_dropThrow (N : Nat) (gn : Nat) (gf : Nat → Int32) (a1 : Int32) : Option ((Nat → Int32)) :=
  gd (inb 5 gn) <|
  gd (inb 5 gn) <|
  (f_X11_ofThrow a1).bind fun t1 =>
  f_X11_dropThrow_L12 N gn N t1 (upd gf (Int32.toNatClampNeg 5) ((gf (Int32.toNatClampNeg 5)) - 1))
def f_X11_absolveFirst_L74 (N : Nat) (gn : Nat)  (l1 : Int32) (l2 : Int32) (l3 : Int32) (gf : Nat → Int32) : Option (Int32 × (Nat → Int32)) :=
  (f_X11_throwMany N gn gf l2 l3 l1 1).bind fun t5 =>
  some (t5.1, t5.2)
def f_X11_absolveFirst_L68 (N : Nat) (gn : Nat) (r38 : Int32 → Int32 → Int32 → Int32 → Int32 → (Nat → Int32) → Option (Int32 × (Nat → Int32))) (l1 : Int32) (l2 : Int32) (l3 : Int32) (l4 : Int32) (l5 : Int32) (gf : Nat → Int32) : Option (Int32 × (Nat → Int32)) :=
  r38 l1 l2 l3 l4 (l5 + (-1)) gf
def f_X11_absolveFirst_L38_F (N : Nat) (gn : Nat)  (r38 : Int32 → Int32 → Int32 → Int32 → Int32 → (Nat → Int32) → Option (Int32 × (Nat → Int32))) (l1 : Int32) (l2 : Int32) (l3 : Int32) (l4 : Int32) (l5 : Int32) (gf : Nat → Int32) : Option (Int32 × (Nat → Int32)) :=
  if l5 < 0 then
    f_X11_absolveFirst_L74 N gn l1 l2 l3 gf
  else
    if l4 ≤ 0 then
      f_X11_absolveFirst_L74 N gn l1 l2 l3 gf
    else
      (f_X11_isOf gn gf l5 l2 l3).bind fun t5 =>
      if t5 = 0 then
        f_X11_absolveFirst_L68 N gn r38 l1 l2 l3 l4 l5 gf
      else
        (f_X11_dropThrow N gn gf l5).bind fun t6 =>
        f_X11_absolveFirst_L68 N gn r38 l1 l2 l3 (l4 + (-1)) l5 t6
def f_X11_absolveFirst_L38 (N : Nat) (gn : Nat)  : Nat → Int32 → Int32 → Int32 → Int32 → Int32 → (Nat → Int32) → Option (Int32 × (Nat → Int32))
  | 0 => fun _ _ _ _ _ _ => none
  | j + 1 => f_X11_absolveFirst_L38_F N gn (f_X11_absolveFirst_L38 N gn j)
def f_X11_absolveFirst (N : Nat) (gn : Nat) (gf : Nat → Int32) : Option (Int32 × (Nat → Int32)) :=
  (f_X11_penance N gn gf).bind fun t1 =>
  (f_X11_ofOffence 0).bind fun t2 =>
  gd (inb (t2 + 0) gn) <|
  (f_X11_ofOffence 0).bind fun t3 =>
  gd (inb (t3 + 1) gn) <|
  (f_X11_dropOffence N gn gf 0).bind fun t4 =>
  gd (inb 5 gn) <|
  f_X11_absolveFirst_L38 N gn N t1 (gf (Int32.toNatClampNeg (t2 + 0))) (gf (Int32.toNatClampNeg (t3 + 1))) t1 ((t4 (Int32.toNatClampNeg 5)) - 1) t4
def f_X11_readAbsolve_L59 (N : Nat) (m_inputLength : Int32) (m_input : Nat → Int32)  (m_position : Int32) (m_start : Int32) (m_token : Int32) (m_value : Int32) (m_letters : Int32) (m_code : Int32) (m_place : Int32) (m_parsed : Nat → Int32) : Option (Int32 × Int32 × Int32 × Int32 × Int32 × Int32 × Int32 × (Nat → Int32)) :=
  (f_X11_next N m_inputLength m_code m_input m_position m_start m_token m_value m_letters).bind fun t4 =>
  some (t4.1, t4.2.1, t4.2.2.1, t4.2.2.2.1, t4.2.2.2.2, m_code, m_place, m_parsed)
def f_X11_readAbsolve_L31 (N : Nat) (m_inputLength : Int32) (m_input : Nat → Int32)  (s0 : Int32) (m_position : Int32) (m_start : Int32) (m_token : Int32) (m_value : Int32) (m_letters : Int32) (m_code : Int32) (m_place : Int32) (m_parsed : Nat → Int32) : Option (Int32 × Int32 × Int32 × Int32 × Int32 × Int32 × Int32 × (Nat → Int32)) :=
  (f_X11_check m_start m_code m_place s0 6).bind fun t3 =>
  if t3.2.1 = 0 then
    (f_X11_absolveFirst N 1399 m_parsed).bind fun t4 =>
    if 0 ≤ t4.1 then
      f_X11_readAbsolve_L59 N m_inputLength m_input m_position m_start m_token m_value m_letters t3.2.1 t3.2.2 t4.2
    else
      f_X11_readAbsolve_L59 N m_inputLength m_input m_position m_start m_token m_value m_letters 1 t3.2.2 t4.2
  else
    f_X11_readAbsolve_L59 N m_inputLength m_input m_position m_start m_token m_value m_letters t3.2.1 t3.2.2 m_parsed
def f_X11_readAbsolve_L26 (N : Nat) (m_inputLength : Int32) (m_input : Nat → Int32)  (m_position : Int32) (m_start : Int32) (m_token : Int32) (m_value : Int32) (m_letters : Int32) (m_code : Int32) (m_place : Int32) (m_parsed : Nat → Int32) : Option (Int32 × Int32 × Int32 × Int32 × Int32 × Int32 × Int32 × (Nat → Int32)) :=
  f_X11_readAbsolve_L31 N m_inputLength m_input 1 m_position m_start m_token m_value m_letters m_code m_place m_parsed
def f_X11_readAbsolve (N : Nat) (m_inputLength : Int32) (m_input : Nat → Int32) (m_position : Int32) (m_start : Int32) (m_token : Int32) (m_value : Int32) (m_letters : Int32) (m_code : Int32) (m_place : Int32) (m_parsed : Nat → Int32) : Option (Int32 × Int32 × Int32 × Int32 × Int32 × Int32 × Int32 × (Nat → Int32)) :=
  (f_X11_next N m_inputLength m_code m_input m_position m_start m_token m_value m_letters).bind fun t1 =>
  (f_X11_semicolon t1.2.1 t1.2.2.1 m_input m_code m_place).bind fun t2 =>
  if t2.1 = 0 then
    if (m_parsed (Int32.toNatClampNeg 6)) ≤ 0 then
      f_X11_readAbsolve_L31 N m_inputLength m_input 0 t1.1 t1.2.1 t1.2.2.1 t1.2.2.2.1 t1.2.2.2.2 t2.1 t2.2 m_parsed
    else
      f_X11_readAbsolve_L26 N m_inputLength m_input t1.1 t1.2.1 t1.2.2.1 t1.2.2.2.1 t1.2.2.2.2 t2.1 t2.2 m_parsed
  else
    f_X11_readAbsolve_L26 N m_inputLength m_input t1.1 t1.2.1 t1.2.2.1 t1.2.2.2.1 t1.2.2.2.2 t2.1 t2.2 m_parsed
def f_X11_offencesBy_L30 (N : Nat) (gn : Nat) (gf : Nat → Int32) (r4 : Int32 → Int32 → Int32 → Option (Int32)) (l1 : Int32) (l3 : Int32) (s0 : Int32) (s1 : Int32) : Option (Int32) :=
  r4 l1 (s1 + s0) (l3 + 1)
def f_X11_offencesBy_L4_F (N : Nat) (gn : Nat) (gf : Nat → Int32)  (r4 : Int32 → Int32 → Int32 → Option (Int32)) (l1 : Int32) (l2 : Int32) (l3 : Int32) : Option (Int32) :=
  gd (inb 6 gn) <|
  if (gf (Int32.toNatClampNeg 6)) ≤ l3 then
    some l2
  else
    (f_X11_ofOffence l3).bind fun t1 =>
    gd (inb (t1 + 0) gn) <|
    if (gf (Int32.toNatClampNeg (t1 + 0))) = l1 then
      f_X11_offencesBy_L30 N gn gf r4 l1 l3 1 l2
    else
      f_X11_offencesBy_L30 N gn gf r4 l1 l3 0 l2
def f_X11_offencesBy_L4 (N : Nat) (gn : Nat) (gf : Nat → Int32)  : Nat → Int32 → Int32 → Int32 → Option (Int32)
  | 0 => fun _ _ _ => none
  | j + 1 => f_X11_offencesBy_L4_F N gn gf (f_X11_offencesBy_L4 N gn gf j)
def f_X11_offencesBy (N : Nat) (gn : Nat) (gf : Nat → Int32) (a1 : Int32) : Option (Int32) :=
  f_X11_offencesBy_L4 N gn gf N a1 0 0
def f_X11_forgiveAll_L34 (N : Nat) (gn : Nat) (r13 : Int32 → Int32 → Int32 → (Nat → Int32) → Option (Int32 × (Nat → Int32))) (l1 : Int32) (l2 : Int32) (l3 : Int32) (gf : Nat → Int32) : Option (Int32 × (Nat → Int32)) :=
  r13 l1 l2 (l3 + (-1)) gf
def f_X11_forgiveAll_L13_F (N : Nat) (gn : Nat)  (r13 : Int32 → Int32 → Int32 → (Nat → Int32) → Option (Int32 × (Nat → Int32))) (l1 : Int32) (l2 : Int32) (l3 : Int32) (gf : Nat → Int32) : Option (Int32 × (Nat → Int32)) :=
  if l3 < 0 then
    some (l2, gf)
  else
    (f_X11_ofOffence l3).bind fun t2 =>
    gd (inb (t2 + 0) gn) <|
    if (gf (Int32.toNatClampNeg (t2 + 0))) = l1 then
      (f_X11_dropOffence N gn gf l3).bind fun t3 =>
      f_X11_forgiveAll_L34 N gn r13 l1 l2 l3 t3
    else
      f_X11_forgiveAll_L34 N gn r13 l1 l2 l3 gf
def f_X11_forgiveAll_L13 (N : Nat) (gn : Nat)  : Nat → Int32 → Int32 → Int32 → (Nat → Int32) → Option (Int32 × (Nat → Int32))
  | 0 => fun _ _ _ _ => none
  | j + 1 => f_X11_forgiveAll_L13_F N gn (f_X11_forgiveAll_L13 N gn j)
def f_X11_forgiveAll (N : Nat) (gn : Nat) (gf : Nat → Int32) (a1 : Int32) : Option (Int32 × (Nat → Int32)) :=
  (f_X11_offencesBy N gn gf a1).bind fun t1 =>
  gd (inb 6 gn) <|
  f_X11_forgiveAll_L13 N gn N a1 t1 ((gf (Int32.toNatClampNeg 6)) - 1) gf
def f_X11_readForgive (N : Nat) (m_inputLength : Int32) (m_input : Nat → Int32) (m_position : Int32) (m_start : Int32) (m_token : Int32) (m_value : Int32) (m_letters : Int32) (m_code : Int32) (m_place : Int32) (m_parsed : Nat → Int32) : Option (Int32 × Int32 × Int32 × Int32 × Int32 × Int32 × Int32 × (Nat → Int32)) :=
  (f_X11_next N m_inputLength m_code m_input m_position m_start m_token m_value m_letters).bind fun t1 =>
  (f_X11_player N m_inputLength m_parsed m_input t1.1 t1.2.1 t1.2.2.1 t1.2.2.2.1 t1.2.2.2.2 m_code m_place).bind fun t2 =>
  (f_X11_finish N m_inputLength m_input t2.2.1 t2.2.2.1 t2.2.2.2.1 t2.2.2.2.2.1 t2.2.2.2.2.2.1 t2.2.2.2.2.2.2.1 t2.2.2.2.2.2.2.2).bind fun t3 =>
  if t3.2.2.2.2.2.1 = 0 then
    (f_X11_forgiveAll N 1399 m_parsed t2.1).bind fun t4 =>
    if 0 ≤ t4.1 then
      some (t3.1, t3.2.1, t3.2.2.1, t3.2.2.2.1, t3.2.2.2.2.1, t3.2.2.2.2.2.1, t3.2.2.2.2.2.2, t4.2)
    else
      some (t3.1, t3.2.1, t3.2.2.1, t3.2.2.2.1, t3.2.2.2.2.1, 1, t3.2.2.2.2.2.2, t4.2)
  else
    some (t3.1, t3.2.1, t3.2.2.1, t3.2.2.2.1, t3.2.2.2.2.1, t3.2.2.2.2.2.1, t3.2.2.2.2.2.2, m_parsed)
def f_X11_readStatement (N : Nat) (m_inputLength : Int32) (m_input : Nat → Int32) (m_oftenAll : Int32) (m_position : Int32) (m_start : Int32) (m_token : Int32) (m_value : Int32) (m_letters : Int32) (m_code : Int32) (m_place : Int32) (m_parsed : Nat → Int32) (m_often : Nat → Int32) : Option (Int32 × Int32 × Int32 × Int32 × Int32 × Int32 × Int32 × Int32 × (Nat → Int32) × (Nat → Int32)) :=
  (f_X11_is N m_start m_token m_letters m_input 2).bind fun t1 =>
  if t1 = 0 then
    (f_X11_is N m_start m_token m_letters m_input 3).bind fun t2 =>
    if t2 = 0 then
      (f_X11_is N m_start m_token m_letters m_input 4).bind fun t3 =>
      if t3 = 0 then
        (f_X11_is N m_start m_token m_letters m_input 5).bind fun t4 =>
        if t4 = 0 then
          (f_X11_is N m_start m_token m_letters m_input 6).bind fun t5 =>
          if t5 = 0 then
            (f_X11_is N m_start m_token m_letters m_input 7).bind fun t6 =>
            if t6 = 0 then
              (f_X11_check m_start m_code m_place 0 1).bind fun t7 =>
              some (m_oftenAll, m_position, m_start, m_token, m_value, m_letters, t7.2.1, t7.2.2, m_parsed, m_often)
            else
              (f_X11_readForgive N m_inputLength m_input m_position m_start m_token m_value m_letters m_code m_place m_parsed).bind fun t8 =>
              some (m_oftenAll, t8.1, t8.2.1, t8.2.2.1, t8.2.2.2.1, t8.2.2.2.2.1, t8.2.2.2.2.2.1, t8.2.2.2.2.2.2.1, t8.2.2.2.2.2.2.2, m_often)
          else
            (f_X11_readAbsolve N m_inputLength m_input m_position m_start m_token m_value m_letters m_code m_place m_parsed).bind fun t9 =>
            some (m_oftenAll, t9.1, t9.2.1, t9.2.2.1, t9.2.2.2.1, t9.2.2.2.2.1, t9.2.2.2.2.2.1, t9.2.2.2.2.2.2.1, t9.2.2.2.2.2.2.2, m_often)
        else
          (f_X11_readAudit N m_inputLength m_input m_oftenAll m_position m_start m_token m_value m_letters m_code m_place m_parsed m_often).bind fun t10 =>
          some (t10.1, t10.2.1, t10.2.2.1, t10.2.2.2.1, t10.2.2.2.2.1, t10.2.2.2.2.2.1, t10.2.2.2.2.2.2.1, t10.2.2.2.2.2.2.2.1, t10.2.2.2.2.2.2.2.2.1, t10.2.2.2.2.2.2.2.2.2)
      else
        (f_X11_readThrow N m_inputLength m_input m_position m_start m_token m_value m_letters m_code m_place m_parsed).bind fun t11 =>
        some (m_oftenAll, t11.1, t11.2.1, t11.2.2.1, t11.2.2.2.1, t11.2.2.2.2.1, t11.2.2.2.2.2.1, t11.2.2.2.2.2.2.1, t11.2.2.2.2.2.2.2, m_often)
    else
      (f_X11_readPlayer N m_inputLength m_input m_position m_start m_token m_value m_letters m_code m_place m_parsed).bind fun t12 =>
      some (m_oftenAll, t12.1, t12.2.1, t12.2.2.1, t12.2.2.2.1, t12.2.2.2.2.1, t12.2.2.2.2.2.1, t12.2.2.2.2.2.2.1, t12.2.2.2.2.2.2.2, m_often)
  else
    (f_X11_readDie N m_inputLength m_input m_position m_start m_token m_value m_letters m_code m_place m_parsed).bind fun t13 =>
    some (m_oftenAll, t13.1, t13.2.1, t13.2.2.1, t13.2.2.2.1, t13.2.2.2.2.1, t13.2.2.2.2.2.1, t13.2.2.2.2.2.2.1, t13.2.2.2.2.2.2.2, m_often)
def f_X11_read_L103_F (N : Nat) (m_inputLength : Int32) (m_input : Nat → Int32)  (r103 : Int32 → Int32 → Int32 → Int32 → Int32 → Int32 → Int32 → Int32 → (Nat → Int32) → (Nat → Int32) → Option (Int32 × Int32 × Int32 × Int32 × Int32 × Int32 × Int32 × Int32 × (Nat → Int32) × (Nat → Int32))) (m_oftenAll : Int32) (m_position : Int32) (m_start : Int32) (m_token : Int32) (m_value : Int32) (m_letters : Int32) (m_code : Int32) (m_place : Int32) (m_parsed : Nat → Int32) (m_often : Nat → Int32) : Option (Int32 × Int32 × Int32 × Int32 × Int32 × Int32 × Int32 × Int32 × (Nat → Int32) × (Nat → Int32)) :=
  if m_code = 0 then
    if m_token = 0 then
      some (m_oftenAll, m_position, m_start, m_token, m_value, m_letters, m_code, m_place, m_parsed, m_often)
    else
      (f_X11_readStatement N m_inputLength m_input m_oftenAll m_position m_start m_token m_value m_letters m_code m_place m_parsed m_often).bind fun t9 =>
      r103 t9.1 t9.2.1 t9.2.2.1 t9.2.2.2.1 t9.2.2.2.2.1 t9.2.2.2.2.2.1 t9.2.2.2.2.2.2.1 t9.2.2.2.2.2.2.2.1 t9.2.2.2.2.2.2.2.2.1 t9.2.2.2.2.2.2.2.2.2
  else
    some (m_oftenAll, m_position, m_start, m_token, m_value, m_letters, m_code, m_place, m_parsed, m_often)
def f_X11_read_L103 (N : Nat) (m_inputLength : Int32) (m_input : Nat → Int32)  : Nat → Int32 → Int32 → Int32 → Int32 → Int32 → Int32 → Int32 → Int32 → (Nat → Int32) → (Nat → Int32) → Option (Int32 × Int32 × Int32 × Int32 × Int32 × Int32 × Int32 × Int32 × (Nat → Int32) × (Nat → Int32))
  | 0 => fun _ _ _ _ _ _ _ _ _ _ => none
  | j + 1 => f_X11_read_L103_F N m_inputLength m_input (f_X11_read_L103 N m_inputLength m_input j)
def f_X11_read_L17_F (N : Nat) (m_inputLength : Int32) (m_input : Nat → Int32)  (r17 : Int32 → Int32 → Int32 → Int32 → Int32 → Int32 → Int32 → Int32 → Int32 → (Nat → Int32) → (Nat → Int32) → Option (Int32 × Int32 × Int32 × Int32 × Int32 × Int32 × Int32 × Int32 × (Nat → Int32) × (Nat → Int32))) (l1 : Int32) (m_oftenAll : Int32) (m_position : Int32) (m_start : Int32) (m_token : Int32) (m_value : Int32) (m_letters : Int32) (m_code : Int32) (m_place : Int32) (m_parsed : Nat → Int32) (m_often : Nat → Int32) : Option (Int32 × Int32 × Int32 × Int32 × Int32 × Int32 × Int32 × Int32 × (Nat → Int32) × (Nat → Int32)) :=
  if 1399 ≤ l1 then
    (f_X11_advance N m_inputLength m_input m_position m_start m_token m_value m_letters).bind fun t1 =>
    (f_X11_is N t1.2.1 t1.2.2.1 t1.2.2.2.2 m_input 1).bind fun t2 =>
    (f_X11_check t1.2.1 m_code m_place t2 1).bind fun t3 =>
    (f_X11_next N m_inputLength t3.2.1 m_input t1.1 t1.2.1 t1.2.2.1 t1.2.2.2.1 t1.2.2.2.2).bind fun t4 =>
    (f_X11_number N m_inputLength m_input t4.1 t4.2.1 t4.2.2.1 t4.2.2.2.1 t4.2.2.2.2 t3.2.1 t3.2.2 0 65536).bind fun t5 =>
    (f_X11_number N m_inputLength m_input t5.2.1 t5.2.2.1 t5.2.2.2.1 t5.2.2.2.2.1 t5.2.2.2.2.2.1 t5.2.2.2.2.2.2.1 t5.2.2.2.2.2.2.2 1 99).bind fun t6 =>
    (f_X11_number N m_inputLength m_input t6.2.1 t6.2.2.1 t6.2.2.2.1 t6.2.2.2.2.1 t6.2.2.2.2.2.1 t6.2.2.2.2.2.2.1 t6.2.2.2.2.2.2.2 0 999).bind fun t7 =>
    (f_X11_finish N m_inputLength m_input t7.2.1 t7.2.2.1 t7.2.2.2.1 t7.2.2.2.2.1 t7.2.2.2.2.2.1 t7.2.2.2.2.2.2.1 t7.2.2.2.2.2.2.2).bind fun t8 =>
    f_X11_read_L103 N m_inputLength m_input N m_oftenAll t8.1 t8.2.1 t8.2.2.1 t8.2.2.2.1 t8.2.2.2.2.1 t8.2.2.2.2.2.1 t8.2.2.2.2.2.2 (upd (upd (upd m_parsed (Int32.toNatClampNeg 0) t5.1) (Int32.toNatClampNeg 1) t6.1) (Int32.toNatClampNeg 2) t7.1) m_often
  else
    gd (inb l1 1399) <|
    r17 (l1 + 1) m_oftenAll m_position m_start m_token m_value m_letters m_code m_place (upd m_parsed (Int32.toNatClampNeg l1) 0) m_often
def f_X11_read_L17 (N : Nat) (m_inputLength : Int32) (m_input : Nat → Int32)  : Nat → Int32 → Int32 → Int32 → Int32 → Int32 → Int32 → Int32 → Int32 → Int32 → (Nat → Int32) → (Nat → Int32) → Option (Int32 × Int32 × Int32 × Int32 × Int32 × Int32 × Int32 × Int32 × (Nat → Int32) × (Nat → Int32))
  | 0 => fun _ _ _ _ _ _ _ _ _ _ _ => none
  | j + 1 => f_X11_read_L17_F N m_inputLength m_input (f_X11_read_L17 N m_inputLength m_input j)
def f_X11_read (N : Nat) (m_inputLength : Int32) (m_input : Nat → Int32) (m_oftenAll : Int32) (m_position : Int32) (m_start : Int32) (m_token : Int32) (m_value : Int32) (m_letters : Int32) (m_code : Int32) (m_place : Int32) (m_parsed : Nat → Int32) (m_often : Nat → Int32) : Option (Int32 × Int32 × Int32 × Int32 × Int32 × Int32 × Int32 × Int32 × (Nat → Int32) × (Nat → Int32)) :=
  f_X11_read_L17 N m_inputLength m_input N 0 m_oftenAll 0 m_start m_token m_value m_letters 0 (-1) m_parsed m_often
def f_X11_copyRow_L3_F (N : Nat) (gn : Nat) (gf : Nat → Int32) (qn : Nat)  (r3 : Int32 → Int32 → Int32 → (Nat → Int32) → Option ((Nat → Int32))) (l1 : Int32) (l3 : Int32) (l4 : Int32) (qf : Nat → Int32) : Option ((Nat → Int32)) :=
  if 1399 ≤ l4 then
    some qf
  else
    gd (inb (l1 + l4) gn) <|
    gd (inb (l3 + l4) qn) <|
    r3 l1 l3 (l4 + 1) (upd qf (Int32.toNatClampNeg (l3 + l4)) (gf (Int32.toNatClampNeg (l1 + l4))))
def f_X11_copyRow_L3 (N : Nat) (gn : Nat) (gf : Nat → Int32) (qn : Nat)  : Nat → Int32 → Int32 → Int32 → (Nat → Int32) → Option ((Nat → Int32))
  | 0 => fun _ _ _ _ => none
  | j + 1 => f_X11_copyRow_L3_F N gn gf qn (f_X11_copyRow_L3 N gn gf qn j)
def f_X11_copyRow (N : Nat) (gn : Nat) (gf : Nat → Int32) (qn : Nat) (qf : Nat → Int32) (a1 : Int32) (a3 : Int32) : Option ((Nat → Int32)) :=
  f_X11_copyRow_L3 N gn gf qn N a1 a3 0 qf
def f_X11_thrown (m_thrown : Int32)  : Option (Int32) :=
  some m_thrown
def f_X11_refuses_L16   (m_thrown : Int32) : Option (Int32 × Int32) :=
  if m_thrown = 0 then
    some (0, m_thrown)
  else
    some (1, m_thrown)
def f_X11_refuses  (m_thrown : Int32) (a0 : Int32) (a1 : Int32) : Option (Int32 × Int32) :=
  if a0 = 0 then
    f_X11_refuses_L16 m_thrown
  else
    if m_thrown = 0 then
      f_X11_refuses_L16 a1
    else
      f_X11_refuses_L16 m_thrown
def f_X11_totalOf_L36 (N : Nat) (gn : Nat) (gf : Nat → Int32) (r4 : Int32 → Int32 → Int32 → Option (Int32)) (l1 : Int32) (l3 : Int32) (s0 : Int32) (s1 : Int32) : Option (Int32) :=
  r4 l1 (s1 + s0) (l3 + 1)
def f_X11_totalOf_L4_F (N : Nat) (gn : Nat) (gf : Nat → Int32)  (r4 : Int32 → Int32 → Int32 → Option (Int32)) (l1 : Int32) (l2 : Int32) (l3 : Int32) : Option (Int32) :=
  gd (inb 5 gn) <|
  if (gf (Int32.toNatClampNeg 5)) ≤ l3 then
    some l2
  else
    (f_X11_ofThrow l3).bind fun t1 =>
    gd (inb (t1 + 0) gn) <|
    if (gf (Int32.toNatClampNeg (t1 + 0))) = l1 then
      (f_X11_ofThrow l3).bind fun t2 =>
      gd (inb (t2 + 2) gn) <|
      f_X11_totalOf_L36 N gn gf r4 l1 l3 (gf (Int32.toNatClampNeg (t2 + 2))) l2
    else
      f_X11_totalOf_L36 N gn gf r4 l1 l3 0 l2
def f_X11_totalOf_L4 (N : Nat) (gn : Nat) (gf : Nat → Int32)  : Nat → Int32 → Int32 → Int32 → Option (Int32)
  | 0 => fun _ _ _ => none
  | j + 1 => f_X11_totalOf_L4_F N gn gf (f_X11_totalOf_L4 N gn gf j)
def f_X11_totalOf (N : Nat) (gn : Nat) (gf : Nat → Int32) (a1 : Int32) : Option (Int32) :=
  f_X11_totalOf_L4 N gn gf N a1 0 0
def f_X11_throwsBy_L29 (N : Nat) (gn : Nat) (gf : Nat → Int32) (r4 : Int32 → Int32 → Int32 → Option (Int32)) (l1 : Int32) (l3 : Int32) (s0 : Int32) (s1 : Int32) : Option (Int32) :=
  r4 l1 (s1 + s0) (l3 + 1)
def f_X11_throwsBy_L4_F (N : Nat) (gn : Nat) (gf : Nat → Int32)  (r4 : Int32 → Int32 → Int32 → Option (Int32)) (l1 : Int32) (l2 : Int32) (l3 : Int32) : Option (Int32) :=
  gd (inb 5 gn) <|
  if (gf (Int32.toNatClampNeg 5)) ≤ l3 then
    some l2
  else
    (f_X11_ofThrow l3).bind fun t1 =>
    gd (inb (t1 + 0) gn) <|
    if (gf (Int32.toNatClampNeg (t1 + 0))) = l1 then
      f_X11_throwsBy_L29 N gn gf r4 l1 l3 1 l2
    else
      f_X11_throwsBy_L29 N gn gf r4 l1 l3 0 l2
def f_X11_throwsBy_L4 (N : Nat) (gn : Nat) (gf : Nat → Int32)  : Nat → Int32 → Int32 → Int32 → Option (Int32)
  | 0 => fun _ _ _ => none
  | j + 1 => f_X11_throwsBy_L4_F N gn gf (f_X11_throwsBy_L4 N gn gf j)
def f_X11_throwsBy (N : Nat) (gn : Nat) (gf : Nat → Int32) (a1 : Int32) : Option (Int32) :=
  f_X11_throwsBy_L4 N gn gf N a1 0 0
def f_X11_rank_L61 (N : Nat) (gn : Nat) (gf : Nat → Int32) (r11 : Int32 → Int32 → Int32 → Int32 → Option (Int32)) (l1 : Int32) (l3 : Int32) (l4 : Int32) (s0 : Int32) (s1 : Int32) : Option (Int32) :=
  r11 l1 (s1 + s0) l3 (l4 + 1)
def f_X11_rank_L56 (N : Nat) (gn : Nat) (gf : Nat → Int32) (r11 : Int32 → Int32 → Int32 → Int32 → Option (Int32)) (l1 : Int32) (l3 : Int32) (l4 : Int32) (s0 : Int32) : Option (Int32) :=
  f_X11_rank_L61 N gn gf r11 l1 l3 l4 1 s0
def f_X11_rank_L60 (N : Nat) (gn : Nat) (gf : Nat → Int32) (r11 : Int32 → Int32 → Int32 → Int32 → Option (Int32)) (l1 : Int32) (l3 : Int32) (l4 : Int32) (s0 : Int32) : Option (Int32) :=
  f_X11_rank_L61 N gn gf r11 l1 l3 l4 0 s0
def f_X11_rank_L11_F (N : Nat) (gn : Nat) (gf : Nat → Int32)  (r11 : Int32 → Int32 → Int32 → Int32 → Option (Int32)) (l1 : Int32) (l2 : Int32) (l3 : Int32) (l4 : Int32) : Option (Int32) :=
  gd (inb 4 gn) <|
  if (gf (Int32.toNatClampNeg 4)) ≤ l4 then
    some l2
  else
    (f_X11_totalOf N gn gf l4).bind fun t2 =>
    if l3 < t2 then
      f_X11_rank_L56 N gn gf r11 l1 l3 l4 l2
    else
      if t2 = l3 then
        gd (inb (85 + l4) gn) <|
        gd (inb (85 + l1) gn) <|
        if (gf (Int32.toNatClampNeg (85 + l1))) ≤ (gf (Int32.toNatClampNeg (85 + l4))) then
          f_X11_rank_L60 N gn gf r11 l1 l3 l4 l2
        else
          f_X11_rank_L56 N gn gf r11 l1 l3 l4 l2
      else
        f_X11_rank_L60 N gn gf r11 l1 l3 l4 l2
def f_X11_rank_L11 (N : Nat) (gn : Nat) (gf : Nat → Int32)  : Nat → Int32 → Int32 → Int32 → Int32 → Option (Int32)
  | 0 => fun _ _ _ _ => none
  | j + 1 => f_X11_rank_L11_F N gn gf (f_X11_rank_L11 N gn gf j)
def f_X11_rank (N : Nat) (gn : Nat) (gf : Nat → Int32) (a1 : Int32) : Option (Int32) :=
  (f_X11_totalOf N gn gf a1).bind fun t1 =>
  f_X11_rank_L11 N gn gf N a1 0 t1 0
def f_X11_appendWord_L3_F (N : Nat)   (r3 : Int32 → Int32 → Int32 → (Nat → Int32) → Option (Int32 × (Nat → Int32))) (l1 : Int32) (l2 : Int32) (m_inputLength : Int32) (m_input : Nat → Int32) : Option (Int32 × (Nat → Int32)) :=
  if l2 < 0 then
    some (m_inputLength, m_input)
  else
    gd (inb m_inputLength 600) <|
    r3 l1 (l2 + (-8)) (m_inputLength + 1) (upd m_input (Int32.toNatClampNeg m_inputLength) ((l1 >>> (l2 &&& 31)) &&& 255))
def f_X11_appendWord_L3 (N : Nat)   : Nat → Int32 → Int32 → Int32 → (Nat → Int32) → Option (Int32 × (Nat → Int32))
  | 0 => fun _ _ _ _ => none
  | j + 1 => f_X11_appendWord_L3_F N (f_X11_appendWord_L3 N j)
def f_X11_appendWord (N : Nat)  (m_inputLength : Int32) (m_input : Nat → Int32) (a0 : Int32) : Option (Int32 × (Nat → Int32)) :=
  f_X11_appendWord_L3 N N a0 24 m_inputLength m_input
def f_X11_appendInput_L24 (N : Nat)   (l1 : Int32) (l2 : Int32) (l3 : Int32) (l4 : Int32) (l5 : Int32) (s0 : Int32) (m_thrown : Int32) (m_inputLength : Int32) (m_input : Nat → Int32) : Option (Int32 × Int32 × Int32 × (Nat → Int32)) :=
  (f_X11_refuses m_thrown s0 1).bind fun t1 =>
  if t1.1 = 0 then
    (f_X11_appendWord N m_inputLength m_input l1).bind fun t2 =>
    (f_X11_appendWord N t2.1 t2.2 l2).bind fun t3 =>
    (f_X11_appendWord N t3.1 t3.2 l3).bind fun t4 =>
    (f_X11_appendWord N t4.1 t4.2 l4).bind fun t5 =>
    (f_X11_appendWord N t5.1 t5.2 l5).bind fun t6 =>
    some (t6.1, t1.2, t6.1, t6.2)
  else
    some (0, t1.2, m_inputLength, m_input)
def f_X11_appendInput (N : Nat)  (m_thrown : Int32) (m_inputLength : Int32) (m_input : Nat → Int32) (a0 : Int32) (a1 : Int32) (a2 : Int32) (a3 : Int32) (a4 : Int32) : Option (Int32 × Int32 × Int32 × (Nat → Int32)) :=
  if (m_inputLength + 20) ≤ 600 then
    f_X11_appendInput_L24 N a0 a1 a2 a3 a4 0 0 m_inputLength m_input
  else
    f_X11_appendInput_L24 N a0 a1 a2 a3 a4 1 0 m_inputLength m_input
def f_X11_noNumber_L20   (s0 : Int32) (m_thrown : Int32) : Option (Int32 × Int32) :=
  (f_X11_refuses m_thrown s0 1).bind fun t2 =>
  some (t2.1, t2.2)
def f_X11_noNumber  (m_thrown : Int32) (a0 : Int32) (a1 : Int32) (a2 : Int32) : Option (Int32 × Int32) :=
  (f_X11_isBetween a0 a1 a2).bind fun t1 =>
  if t1 = 0 then
    f_X11_noNumber_L20 1 0
  else
    f_X11_noNumber_L20 0 0
def f_X11_truncateInput  (m_thrown : Int32) (m_inputLength : Int32) (a0 : Int32) : Option (Int32 × Int32 × Int32) :=
  (f_X11_noNumber m_thrown a0 0 m_inputLength).bind fun t1 =>
  if t1.1 = 0 then
    some (a0, t1.2, a0)
  else
    some (0, t1.2, m_inputLength)
def f_X11_errorCode (m_code : Int32) (m_thrown : Int32) : Option (Int32 × Int32) :=
  some (m_code, 0)
def f_X11_errorPosition (m_place : Int32) (m_thrown : Int32) : Option (Int32 × Int32) :=
  some (m_place, 0)
def f_X11_remember_L32 (N : Nat) (m_s : Nat → Int32)  (m_undoable : Int32) (m_undoStart : Int32) (m_remembered : Nat → Int32) : Option (Int32 × Int32 × (Nat → Int32)) :=
  (f_X11_copyRow N 1399 m_s 11192 m_remembered 0 (1399 * ((m_undoStart + m_undoable) - (m_undoStart + m_undoable) / 8 * 8))).bind fun t1 =>
  some ((m_undoable + 1), m_undoStart, t1)
def f_X11_remember (N : Nat) (m_s : Nat → Int32) (m_undoable : Int32) (m_undoStart : Int32) (m_remembered : Nat → Int32) : Option (Int32 × Int32 × (Nat → Int32)) :=
  if m_undoable = 8 then
    f_X11_remember_L32 N m_s (m_undoable - 1) ((m_undoStart + 1) - (m_undoStart + 1) / 8 * 8) m_remembered
  else
    f_X11_remember_L32 N m_s m_undoable m_undoStart m_remembered
def f_X11_load_L27 (N : Nat) (m_input : Nat → Int32)  (s0 : Int32) (m_undoable : Int32) (m_undoStart : Int32) (m_thrown : Int32) (m_oftenAll : Int32) (m_inputLength : Int32) (m_position : Int32) (m_start : Int32) (m_token : Int32) (m_value : Int32) (m_letters : Int32) (m_code : Int32) (m_place : Int32) (m_s : Nat → Int32) (m_parsed : Nat → Int32) (m_remembered : Nat → Int32) (m_often : Nat → Int32) : Option (Int32 × Int32 × Int32 × Int32 × Int32 × Int32 × Int32 × Int32 × Int32 × Int32 × Int32 × Int32 × Int32 × (Nat → Int32) × (Nat → Int32) × (Nat → Int32) × (Nat → Int32)) :=
  (f_X11_refuses m_thrown s0 1).bind fun t2 =>
  if t2.1 = 0 then
    (f_X11_remember N m_s m_undoable m_undoStart m_remembered).bind fun t3 =>
    (f_X11_copyRow N 1399 m_parsed 1399 m_s 0 0).bind fun t4 =>
    some ((t4 (Int32.toNatClampNeg 5)), t3.1, t3.2.1, t2.2, m_oftenAll, m_inputLength, m_position, m_start, m_token, m_value, m_letters, m_code, m_place, t4, m_parsed, t3.2.2, m_often)
  else
    some (0, m_undoable, m_undoStart, t2.2, m_oftenAll, m_inputLength, m_position, m_start, m_token, m_value, m_letters, m_code, m_place, m_s, m_parsed, m_remembered, m_often)
def f_X11_load (N : Nat) (m_input : Nat → Int32) (m_undoable : Int32) (m_undoStart : Int32) (m_thrown : Int32) (m_oftenAll : Int32) (m_inputLength : Int32) (m_position : Int32) (m_start : Int32) (m_token : Int32) (m_value : Int32) (m_letters : Int32) (m_code : Int32) (m_place : Int32) (m_s : Nat → Int32) (m_parsed : Nat → Int32) (m_remembered : Nat → Int32) (m_often : Nat → Int32) : Option (Int32 × Int32 × Int32 × Int32 × Int32 × Int32 × Int32 × Int32 × Int32 × Int32 × Int32 × Int32 × Int32 × (Nat → Int32) × (Nat → Int32) × (Nat → Int32) × (Nat → Int32)) :=
  (f_X11_read N m_inputLength m_input m_oftenAll m_position m_start m_token m_value m_letters m_code m_place m_parsed m_often).bind fun t1 =>
  if t1.2.2.2.2.2.2.1 = 0 then
    f_X11_load_L27 N m_input 0 m_undoable m_undoStart 0 t1.1 0 t1.2.1 t1.2.2.1 t1.2.2.2.1 t1.2.2.2.2.1 t1.2.2.2.2.2.1 t1.2.2.2.2.2.2.1 t1.2.2.2.2.2.2.2.1 m_s t1.2.2.2.2.2.2.2.2.1 m_remembered t1.2.2.2.2.2.2.2.2.2
  else
    f_X11_load_L27 N m_input 1 m_undoable m_undoStart 0 t1.1 0 t1.2.1 t1.2.2.1 t1.2.2.2.1 t1.2.2.2.2.1 t1.2.2.2.2.2.1 t1.2.2.2.2.2.2.1 t1.2.2.2.2.2.2.2.1 m_s t1.2.2.2.2.2.2.2.2.1 m_remembered t1.2.2.2.2.2.2.2.2.2
def f_X11_undo_L18 (N : Nat) (m_undoStart : Int32) (m_remembered : Nat → Int32)  (s0 : Int32) (m_undoable : Int32) (m_thrown : Int32) (m_s : Nat → Int32) : Option (Int32 × Int32 × Int32 × (Nat → Int32)) :=
  (f_X11_refuses m_thrown s0 1).bind fun t1 =>
  if t1.1 = 0 then
    (f_X11_copyRow N 11192 m_remembered 1399 m_s (1399 * ((m_undoStart + (m_undoable - 1)) - (m_undoStart + (m_undoable - 1)) / 8 * 8)) 0).bind fun t2 =>
    some ((m_undoable - 1), (m_undoable - 1), t1.2, t2)
  else
    some (0, m_undoable, t1.2, m_s)
def f_X11_undo (N : Nat) (m_undoStart : Int32) (m_remembered : Nat → Int32) (m_undoable : Int32) (m_thrown : Int32) (m_s : Nat → Int32) : Option (Int32 × Int32 × Int32 × (Nat → Int32)) :=
  if m_undoable = 0 then
    f_X11_undo_L18 N m_undoStart m_remembered 1 m_undoable 0 m_s
  else
    f_X11_undo_L18 N m_undoStart m_remembered 0 m_undoable 0 m_s
def f_X11_undoDepth (m_undoable : Int32) (m_thrown : Int32) : Option (Int32 × Int32) :=
  some (m_undoable, 0)
def f_X11_noDie (m_s : Nat → Int32) (m_thrown : Int32) (a0 : Int32) : Option (Int32 × Int32) :=
  (f_X11_noNumber m_thrown a0 0 ((m_s (Int32.toNatClampNeg 3)) - 1)).bind fun t1 =>
  some (t1.1, t1.2)
def f_X11_noPlayer (m_s : Nat → Int32) (m_thrown : Int32) (a0 : Int32) : Option (Int32 × Int32) :=
  (f_X11_noNumber m_thrown a0 0 ((m_s (Int32.toNatClampNeg 4)) - 1)).bind fun t1 =>
  some (t1.1, t1.2)
def f_X11_noPair (m_s : Nat → Int32) (m_thrown : Int32) (a0 : Int32) (a1 : Int32) : Option (Int32 × Int32) :=
  (f_X11_noPlayer m_s m_thrown a0).bind fun t1 =>
  if t1.1 = 0 then
    (f_X11_noDie m_s t1.2 a1).bind fun t2 =>
    if t2.1 = 0 then
      some (0, t2.2)
    else
      some (1, t2.2)
  else
    some (1, t1.2)
def f_X11_noThrow (m_s : Nat → Int32) (m_thrown : Int32) (a0 : Int32) : Option (Int32 × Int32) :=
  (f_X11_noNumber m_thrown a0 0 ((m_s (Int32.toNatClampNeg 5)) - 1)).bind fun t1 =>
  some (t1.1, t1.2)
def f_X11_noOffence (m_s : Nat → Int32) (m_thrown : Int32) (a0 : Int32) : Option (Int32 × Int32) :=
  (f_X11_noNumber m_thrown a0 0 ((m_s (Int32.toNatClampNeg 6)) - 1)).bind fun t1 =>
  some (t1.1, t1.2)
def f_X11_out_L15   (s0 : Int32) (m_thrown : Int32) : Option (Int32 × Int32) :=
  (f_X11_refuses m_thrown s0 2).bind fun t2 =>
  some (t2.1, t2.2)
def f_X11_out  (m_thrown : Int32) (a0 : Int32) (a1 : Int32) (a2 : Int32) : Option (Int32 × Int32) :=
  (f_X11_isBetween a0 a1 a2).bind fun t1 =>
  if t1 = 0 then
    f_X11_out_L15 1 m_thrown
  else
    f_X11_out_L15 0 m_thrown
def f_X11_seed (m_s : Nat → Int32) (m_thrown : Int32) : Option (Int32 × Int32) :=
  some ((m_s (Int32.toNatClampNeg 0)), 0)
def f_X11_minimum (m_s : Nat → Int32) (m_thrown : Int32) : Option (Int32 × Int32) :=
  some ((m_s (Int32.toNatClampNeg 1)), 0)
def f_X11_threshold (m_s : Nat → Int32) (m_thrown : Int32) : Option (Int32 × Int32) :=
  some ((m_s (Int32.toNatClampNeg 2)), 0)
def f_X11_dieCount (m_s : Nat → Int32) (m_thrown : Int32) : Option (Int32 × Int32) :=
  some ((m_s (Int32.toNatClampNeg 3)), 0)
def f_X11_playerCount (m_s : Nat → Int32) (m_thrown : Int32) : Option (Int32 × Int32) :=
  some ((m_s (Int32.toNatClampNeg 4)), 0)
def f_X11_throwCount (m_s : Nat → Int32) (m_thrown : Int32) : Option (Int32 × Int32) :=
  some ((m_s (Int32.toNatClampNeg 5)), 0)
def f_X11_faces (m_s : Nat → Int32) (m_thrown : Int32) (a0 : Int32) : Option (Int32 × Int32) :=
  (f_X11_noDie m_s m_thrown a0).bind fun t1 =>
  if t1.1 = 0 then
    (f_X11_facesOf 1399 m_s a0).bind fun t2 =>
    some (t2, t1.2)
  else
    some (0, t1.2)
def f_X11_weightOf (m_s : Nat → Int32) (m_thrown : Int32) (a0 : Int32) (a1 : Int32) : Option (Int32 × Int32) :=
  (f_X11_noDie m_s m_thrown a0).bind fun t1 =>
  if t1.1 = 0 then
    (f_X11_facesOf 1399 m_s a0).bind fun t2 =>
    (f_X11_out t1.2 a1 1 t2).bind fun t3 =>
    if t3.1 = 0 then
      (f_X11_weight 1399 m_s a0 a1).bind fun t4 =>
      some (t4, t3.2)
    else
      some (0, t3.2)
  else
    some (0, t1.2)
def f_X11_isBalanced_L12_F (N : Nat) (m_s : Nat → Int32)  (r12 : Int32 → Int32 → Int32 → Option (Int32 × Int32)) (l1 : Int32) (l2 : Int32) (m_thrown : Int32) : Option (Int32 × Int32) :=
  (f_X11_facesOf 1399 m_s l1).bind fun t2 =>
  if t2 < l2 then
    some (1, m_thrown)
  else
    (f_X11_weight 1399 m_s l1 l2).bind fun t3 =>
    (f_X11_weight 1399 m_s l1 1).bind fun t4 =>
    if t3 = t4 then
      r12 l1 (l2 + 1) m_thrown
    else
      some (0, m_thrown)
def f_X11_isBalanced_L12 (N : Nat) (m_s : Nat → Int32)  : Nat → Int32 → Int32 → Int32 → Option (Int32 × Int32)
  | 0 => fun _ _ _ => none
  | j + 1 => f_X11_isBalanced_L12_F N m_s (f_X11_isBalanced_L12 N m_s j)
def f_X11_isBalanced (N : Nat) (m_s : Nat → Int32) (m_thrown : Int32) (a0 : Int32) : Option (Int32 × Int32) :=
  (f_X11_noDie m_s m_thrown a0).bind fun t1 =>
  if t1.1 = 0 then
    f_X11_isBalanced_L12 N m_s N a0 2 t1.2
  else
    some (0, t1.2)
def f_X11_heaviestFace_L52 (N : Nat) (m_s : Nat → Int32) (r14 : Int32 → Int32 → Int32 → Int32 → Option (Int32 × Int32)) (l1 : Int32) (l3 : Int32) (s0 : Int32) (m_thrown : Int32) : Option (Int32 × Int32) :=
  r14 l1 s0 (l3 + 1) m_thrown
def f_X11_heaviestFace_L14_F (N : Nat) (m_s : Nat → Int32)  (r14 : Int32 → Int32 → Int32 → Int32 → Option (Int32 × Int32)) (l1 : Int32) (l2 : Int32) (l3 : Int32) (m_thrown : Int32) : Option (Int32 × Int32) :=
  (f_X11_facesOf 1399 m_s l1).bind fun t2 =>
  if t2 < l3 then
    some (l2, m_thrown)
  else
    (f_X11_weight 1399 m_s l1 l3).bind fun t3 =>
    (f_X11_weight 1399 m_s l1 l2).bind fun t4 =>
    if t3 ≤ t4 then
      f_X11_heaviestFace_L52 N m_s r14 l1 l3 l2 m_thrown
    else
      f_X11_heaviestFace_L52 N m_s r14 l1 l3 l3 m_thrown
def f_X11_heaviestFace_L14 (N : Nat) (m_s : Nat → Int32)  : Nat → Int32 → Int32 → Int32 → Int32 → Option (Int32 × Int32)
  | 0 => fun _ _ _ _ => none
  | j + 1 => f_X11_heaviestFace_L14_F N m_s (f_X11_heaviestFace_L14 N m_s j)
def f_X11_heaviestFace (N : Nat) (m_s : Nat → Int32) (m_thrown : Int32) (a0 : Int32) : Option (Int32 × Int32) :=
  (f_X11_noDie m_s m_thrown a0).bind fun t1 =>
  if t1.1 = 0 then
    f_X11_heaviestFace_L14 N m_s N a0 1 2 t1.2
  else
    some (0, t1.2)
def f_X11_letterOf_L4_F (N : Nat)   (r4 : Int32 → Int32 → Int32 → Option (Int32)) (l1 : Int32) (l2 : Int32) (l3 : Int32) : Option (Int32) :=
  if l3 ≤ l1 then
    some (l2 - l2 / 27 * 27)
  else
    r4 l1 (l2 / 27) (l3 + (-1))
def f_X11_letterOf_L4 (N : Nat)   : Nat → Int32 → Int32 → Int32 → Option (Int32)
  | 0 => fun _ _ _ => none
  | j + 1 => f_X11_letterOf_L4_F N (f_X11_letterOf_L4 N j)
def f_X11_letterOf (N : Nat)  (a0 : Int32) (a1 : Int32) : Option (Int32) :=
  f_X11_letterOf_L4 N N a1 a0 3
def f_X11_lettersOf_L2_F (N : Nat)   (r2 : Int32 → Int32 → Option (Int32)) (l0 : Int32) (l1 : Int32) : Option (Int32) :=
  if 4 ≤ l1 then
    some l1
  else
    (f_X11_letterOf N l0 l1).bind fun t1 =>
    if t1 ≤ 0 then
      some l1
    else
      r2 l0 (l1 + 1)
def f_X11_lettersOf_L2 (N : Nat)   : Nat → Int32 → Int32 → Option (Int32)
  | 0 => fun _ _ => none
  | j + 1 => f_X11_lettersOf_L2_F N (f_X11_lettersOf_L2 N j)
def f_X11_lettersOf (N : Nat)  (a0 : Int32) : Option (Int32) :=
  f_X11_lettersOf_L2 N N a0 0
def f_X11_nameByte (N : Nat) (m_s : Nat → Int32) (m_thrown : Int32) (a0 : Int32) (a1 : Int32) : Option (Int32 × Int32) :=
  (f_X11_noPlayer m_s m_thrown a0).bind fun t1 =>
  if t1.1 = 0 then
    gd (inb (85 + a0) 1399) <|
    (f_X11_lettersOf N (m_s (Int32.toNatClampNeg (85 + a0)))).bind fun t2 =>
    (f_X11_out t1.2 a1 0 (t2 - 1)).bind fun t3 =>
    if t3.1 = 0 then
      gd (inb (85 + a0) 1399) <|
      (f_X11_letterOf N (m_s (Int32.toNatClampNeg (85 + a0))) a1).bind fun t4 =>
      some ((96 + t4), t3.2)
    else
      some (0, t3.2)
  else
    some (0, t1.2)
def f_X11_ofIt (m_s : Nat → Int32) (m_thrown : Int32) (a0 : Int32) (a1 : Int32) : Option (Int32 × Int32) :=
  (f_X11_noThrow m_s m_thrown a0).bind fun t1 =>
  if t1.1 = 0 then
    (f_X11_ofThrow a0).bind fun t2 =>
    gd (inb (t2 + a1) 1399) <|
    some ((m_s (Int32.toNatClampNeg (t2 + a1))), t1.2)
  else
    some (0, t1.2)
def f_X11_playerAt (m_s : Nat → Int32) (m_thrown : Int32) (a0 : Int32) : Option (Int32 × Int32) :=
  (f_X11_ofIt m_s m_thrown a0 0).bind fun t1 =>
  some (t1.1, t1.2)
def f_X11_dieAt (m_s : Nat → Int32) (m_thrown : Int32) (a0 : Int32) : Option (Int32 × Int32) :=
  (f_X11_ofIt m_s m_thrown a0 1).bind fun t1 =>
  some (t1.1, t1.2)
def f_X11_faceAt (m_s : Nat → Int32) (m_thrown : Int32) (a0 : Int32) : Option (Int32 × Int32) :=
  (f_X11_ofIt m_s m_thrown a0 2).bind fun t1 =>
  some (t1.1, t1.2)
def f_X11_isFairAt (m_s : Nat → Int32) (m_thrown : Int32) (a0 : Int32) : Option (Int32 × Int32) :=
  (f_X11_ofIt m_s m_thrown a0 3).bind fun t1 =>
  if t1.1 = 1 then
    some (1, t1.2)
  else
    some (0, t1.2)
def f_X11_throwsOf (N : Nat) (m_s : Nat → Int32) (m_thrown : Int32) (a0 : Int32) : Option (Int32 × Int32) :=
  (f_X11_noPlayer m_s m_thrown a0).bind fun t1 =>
  if t1.1 = 0 then
    (f_X11_throwsBy N 1399 m_s a0).bind fun t2 =>
    some (t2, t1.2)
  else
    some (0, t1.2)
def f_X11_total (N : Nat) (m_s : Nat → Int32) (m_thrown : Int32) (a0 : Int32) : Option (Int32 × Int32) :=
  (f_X11_noPlayer m_s m_thrown a0).bind fun t1 =>
  if t1.1 = 0 then
    (f_X11_totalOf N 1399 m_s a0).bind fun t2 =>
    some (t2, t1.2)
  else
    some (0, t1.2)
def f_X11_meanFace (N : Nat) (m_s : Nat → Int32) (m_thrown : Int32) (a0 : Int32) : Option (UInt64 × Int32) :=
  (f_X11_noPlayer m_s m_thrown a0).bind fun t1 =>
  if t1.1 = 0 then
    (f_X11_throwsBy N 1399 m_s a0).bind fun t2 =>
    if t2 = 0 then
      some (FP.dconst0, t1.2)
    else
      (f_X11_totalOf N 1399 m_s a0).bind fun t3 =>
      gd (isn64 (FP.ddiv (FP.i2d t3) (FP.i2d t2))) <|
      some ((FP.ddiv (FP.i2d t3) (FP.i2d t2)), t1.2)
  else
    some (FP.dconst0, t1.2)
def f_X11_rankOf (N : Nat) (m_s : Nat → Int32) (m_thrown : Int32) (a0 : Int32) : Option (Int32 × Int32) :=
  (f_X11_noPlayer m_s m_thrown a0).bind fun t1 =>
  if t1.1 = 0 then
    (f_X11_rank N 1399 m_s a0).bind fun t2 =>
    some (t2, t1.2)
  else
    some (0, t1.2)
def f_X11_playerWithRank_L21_F (N : Nat) (m_s : Nat → Int32)  (r21 : Int32 → Int32 → Int32 → Option (Int32 × Int32)) (l1 : Int32) (l2 : Int32) (m_thrown : Int32) : Option (Int32 × Int32) :=
  (f_X11_rank N 1399 m_s l2).bind fun t2 =>
  if t2 = l1 then
    some (l2, m_thrown)
  else
    r21 l1 (l2 + 1) m_thrown
def f_X11_playerWithRank_L21 (N : Nat) (m_s : Nat → Int32)  : Nat → Int32 → Int32 → Int32 → Option (Int32 × Int32)
  | 0 => fun _ _ _ => none
  | j + 1 => f_X11_playerWithRank_L21_F N m_s (f_X11_playerWithRank_L21 N m_s j)
def f_X11_playerWithRank (N : Nat) (m_s : Nat → Int32) (m_thrown : Int32) (a0 : Int32) : Option (Int32 × Int32) :=
  (f_X11_noNumber m_thrown a0 0 ((m_s (Int32.toNatClampNeg 4)) - 1)).bind fun t1 =>
  if t1.1 = 0 then
    f_X11_playerWithRank_L21 N m_s N a0 0 t1.2
  else
    some (0, t1.2)
def f_X11_longestRun_L97 (N : Nat) (m_s : Nat → Int32) (r20 : Int32 → Int32 → Int32 → Int32 → Int32 → Int32 → Option (Int32 × Int32)) (l1 : Int32) (l2 : Int32) (l3 : Int32) (l4 : Int32) (l5 : Int32) (m_thrown : Int32) : Option (Int32 × Int32) :=
  r20 l1 l2 l3 l4 (l5 + 1) m_thrown
def f_X11_longestRun_L96 (N : Nat) (m_s : Nat → Int32) (r20 : Int32 → Int32 → Int32 → Int32 → Int32 → Int32 → Option (Int32 × Int32)) (l1 : Int32) (l3 : Int32) (l4 : Int32) (l5 : Int32) (s0 : Int32) (m_thrown : Int32) : Option (Int32 × Int32) :=
  f_X11_longestRun_L97 N m_s r20 l1 s0 l3 l4 l5 m_thrown
def f_X11_longestRun_L71 (N : Nat) (m_s : Nat → Int32) (r20 : Int32 → Int32 → Int32 → Int32 → Int32 → Int32 → Option (Int32 × Int32)) (l1 : Int32) (l2 : Int32) (l5 : Int32) (s0 : Int32) (m_thrown : Int32) : Option (Int32 × Int32) :=
  (f_X11_ofThrow l5).bind fun t4 =>
  gd (inb (t4 + 2) 1399) <|
  if s0 ≤ l2 then
    f_X11_longestRun_L96 N m_s r20 l1 s0 (m_s (Int32.toNatClampNeg (t4 + 2))) l5 l2 m_thrown
  else
    f_X11_longestRun_L96 N m_s r20 l1 s0 (m_s (Int32.toNatClampNeg (t4 + 2))) l5 s0 m_thrown
def f_X11_longestRun_L20_F (N : Nat) (m_s : Nat → Int32)  (r20 : Int32 → Int32 → Int32 → Int32 → Int32 → Int32 → Option (Int32 × Int32)) (l1 : Int32) (l2 : Int32) (l3 : Int32) (l4 : Int32) (l5 : Int32) (m_thrown : Int32) : Option (Int32 × Int32) :=
  if (m_s (Int32.toNatClampNeg 5)) ≤ l5 then
    some (l2, m_thrown)
  else
    (f_X11_ofThrow l5).bind fun t2 =>
    gd (inb (t2 + 0) 1399) <|
    if (m_s (Int32.toNatClampNeg (t2 + 0))) = l1 then
      (f_X11_ofThrow l5).bind fun t3 =>
      gd (inb (t3 + 2) 1399) <|
      if (m_s (Int32.toNatClampNeg (t3 + 2))) = l4 then
        f_X11_longestRun_L71 N m_s r20 l1 l2 l5 (l3 + 1) m_thrown
      else
        f_X11_longestRun_L71 N m_s r20 l1 l2 l5 1 m_thrown
    else
      f_X11_longestRun_L97 N m_s r20 l1 l2 l3 l4 l5 m_thrown
def f_X11_longestRun_L20 (N : Nat) (m_s : Nat → Int32)  : Nat → Int32 → Int32 → Int32 → Int32 → Int32 → Int32 → Option (Int32 × Int32)
  | 0 => fun _ _ _ _ _ _ => none
  | j + 1 => f_X11_longestRun_L20_F N m_s (f_X11_longestRun_L20 N m_s j)
def f_X11_longestRun (N : Nat) (m_s : Nat → Int32) (m_thrown : Int32) (a0 : Int32) : Option (Int32 × Int32) :=
  (f_X11_noPlayer m_s m_thrown a0).bind fun t1 =>
  if t1.1 = 0 then
    f_X11_longestRun_L20 N m_s N a0 0 0 0 0 t1.2
  else
    some (0, t1.2)
def f_X11_findPlayer (N : Nat) (m_inputLength : Int32) (m_s : Nat → Int32) (m_input : Nat → Int32) (m_thrown : Int32) : Option (Int32 × Int32) :=
  (f_X11_nameFrom N m_input 0 m_inputLength).bind fun t1 =>
  if t1 = (-1) then
    some ((-1), 0)
  else
    (f_X11_named N 1399 m_s t1).bind fun t2 =>
    some (t2, 0)
def f_X11_throwsOfPair (N : Nat) (m_s : Nat → Int32) (m_thrown : Int32) (a0 : Int32) (a1 : Int32) : Option (Int32 × Int32) :=
  (f_X11_noPair m_s m_thrown a0 a1).bind fun t1 =>
  if t1.1 = 0 then
    (f_X11_ofPair N 1399 m_s a0 a1).bind fun t2 =>
    some (t2, t1.2)
  else
    some (0, t1.2)
def f_X11_frequency (N : Nat) (m_s : Nat → Int32) (m_thrown : Int32) (m_oftenAll : Int32) (m_often : Nat → Int32) (a0 : Int32) (a1 : Int32) (a2 : Int32) : Option (Int32 × Int32 × Int32 × (Nat → Int32)) :=
  (f_X11_noPair m_s m_thrown a0 a1).bind fun t1 =>
  if t1.1 = 0 then
    (f_X11_facesOf 1399 m_s a1).bind fun t2 =>
    (f_X11_out t1.2 a2 1 t2).bind fun t3 =>
    if t3.1 = 0 then
      (f_X11_countPair N 1399 m_s m_oftenAll m_often a0 a1).bind fun t4 =>
      gd (inb a2 13) <|
      some ((t4.2 (Int32.toNatClampNeg a2)), t3.2, t4.1, t4.2)
    else
      some (0, t3.2, m_oftenAll, m_often)
  else
    some (0, t1.2, m_oftenAll, m_often)
def f_X11_commonFace_L79 (N : Nat) (m_s : Nat → Int32) (r29 : Int32 → Int32 → Int32 → Int32 → Int32 → (Nat → Int32) → Option (Int32 × Int32 × Int32 × (Nat → Int32))) (l3 : Int32) (l5 : Int32) (s0 : Int32) (m_thrown : Int32) (m_oftenAll : Int32) (m_often : Nat → Int32) : Option (Int32 × Int32 × Int32 × (Nat → Int32)) :=
  r29 l3 s0 (l5 + 1) m_thrown m_oftenAll m_often
def f_X11_commonFace_L54 (N : Nat) (m_s : Nat → Int32) (r29 : Int32 → Int32 → Int32 → Int32 → Int32 → (Nat → Int32) → Option (Int32 × Int32 × Int32 × (Nat → Int32))) (l4 : Int32) (l5 : Int32) (s0 : Int32) (m_thrown : Int32) (m_oftenAll : Int32) (m_often : Nat → Int32) : Option (Int32 × Int32 × Int32 × (Nat → Int32)) :=
  gd (inb l5 13) <|
  if (m_often (Int32.toNatClampNeg l5)) ≤ l4 then
    f_X11_commonFace_L79 N m_s r29 s0 l5 l4 m_thrown m_oftenAll m_often
  else
    gd (inb l5 13) <|
    f_X11_commonFace_L79 N m_s r29 s0 l5 (m_often (Int32.toNatClampNeg l5)) m_thrown m_oftenAll m_often
def f_X11_commonFace_L29_F (N : Nat) (m_s : Nat → Int32)  (r29 : Int32 → Int32 → Int32 → Int32 → Int32 → (Nat → Int32) → Option (Int32 × Int32 × Int32 × (Nat → Int32))) (l3 : Int32) (l4 : Int32) (l5 : Int32) (m_thrown : Int32) (m_oftenAll : Int32) (m_often : Nat → Int32) : Option (Int32 × Int32 × Int32 × (Nat → Int32)) :=
  if 12 < l5 then
    some (l3, m_thrown, m_oftenAll, m_often)
  else
    gd (inb l5 13) <|
    if (m_often (Int32.toNatClampNeg l5)) ≤ l4 then
      f_X11_commonFace_L54 N m_s r29 l4 l5 l3 m_thrown m_oftenAll m_often
    else
      f_X11_commonFace_L54 N m_s r29 l4 l5 l5 m_thrown m_oftenAll m_often
def f_X11_commonFace_L29 (N : Nat) (m_s : Nat → Int32)  : Nat → Int32 → Int32 → Int32 → Int32 → Int32 → (Nat → Int32) → Option (Int32 × Int32 × Int32 × (Nat → Int32))
  | 0 => fun _ _ _ _ _ _ => none
  | j + 1 => f_X11_commonFace_L29_F N m_s (f_X11_commonFace_L29 N m_s j)
def f_X11_commonFace (N : Nat) (m_s : Nat → Int32) (m_thrown : Int32) (m_oftenAll : Int32) (m_often : Nat → Int32) (a0 : Int32) (a1 : Int32) : Option (Int32 × Int32 × Int32 × (Nat → Int32)) :=
  (f_X11_noPair m_s m_thrown a0 a1).bind fun t1 =>
  if t1.1 = 0 then
    (f_X11_countPair N 1399 m_s m_oftenAll m_often a0 a1).bind fun t2 =>
    f_X11_commonFace_L29 N m_s N (-1) 0 1 t1.2 t2.1 t2.2
  else
    some (0, t1.2, m_oftenAll, m_often)
def f_X11_facesSeen_L49 (N : Nat) (m_s : Nat → Int32) (r26 : Int32 → Int32 → Int32 → Int32 → (Nat → Int32) → Option (Int32 × Int32 × Int32 × (Nat → Int32))) (l4 : Int32) (s0 : Int32) (s1 : Int32) (m_thrown : Int32) (m_oftenAll : Int32) (m_often : Nat → Int32) : Option (Int32 × Int32 × Int32 × (Nat → Int32)) :=
  r26 (s1 + s0) (l4 + 1) m_thrown m_oftenAll m_often
def f_X11_facesSeen_L26_F (N : Nat) (m_s : Nat → Int32)  (r26 : Int32 → Int32 → Int32 → Int32 → (Nat → Int32) → Option (Int32 × Int32 × Int32 × (Nat → Int32))) (l3 : Int32) (l4 : Int32) (m_thrown : Int32) (m_oftenAll : Int32) (m_often : Nat → Int32) : Option (Int32 × Int32 × Int32 × (Nat → Int32)) :=
  if 12 < l4 then
    some (l3, m_thrown, m_oftenAll, m_often)
  else
    gd (inb l4 13) <|
    if (m_often (Int32.toNatClampNeg l4)) ≤ 0 then
      f_X11_facesSeen_L49 N m_s r26 l4 0 l3 m_thrown m_oftenAll m_often
    else
      f_X11_facesSeen_L49 N m_s r26 l4 1 l3 m_thrown m_oftenAll m_often
def f_X11_facesSeen_L26 (N : Nat) (m_s : Nat → Int32)  : Nat → Int32 → Int32 → Int32 → Int32 → (Nat → Int32) → Option (Int32 × Int32 × Int32 × (Nat → Int32))
  | 0 => fun _ _ _ _ _ => none
  | j + 1 => f_X11_facesSeen_L26_F N m_s (f_X11_facesSeen_L26 N m_s j)
def f_X11_facesSeen (N : Nat) (m_s : Nat → Int32) (m_thrown : Int32) (m_oftenAll : Int32) (m_often : Nat → Int32) (a0 : Int32) (a1 : Int32) : Option (Int32 × Int32 × Int32 × (Nat → Int32)) :=
  (f_X11_noPair m_s m_thrown a0 a1).bind fun t1 =>
  if t1.1 = 0 then
    (f_X11_countPair N 1399 m_s m_oftenAll m_often a0 a1).bind fun t2 =>
    f_X11_facesSeen_L26 N m_s N 0 1 t1.2 t2.1 t2.2
  else
    some (0, t1.2, m_oftenAll, m_often)
def f_X11_latestThrow_L20_F (N : Nat) (m_s : Nat → Int32)  (r20 : Int32 → Int32 → Int32 → Int32 → Option (Int32 × Int32)) (l1 : Int32) (l2 : Int32) (l3 : Int32) (m_thrown : Int32) : Option (Int32 × Int32) :=
  if l3 < 0 then
    some ((-1), m_thrown)
  else
    (f_X11_isOf 1399 m_s l3 l1 l2).bind fun t2 =>
    if t2 = 0 then
      r20 l1 l2 (l3 + (-1)) m_thrown
    else
      some (l3, m_thrown)
def f_X11_latestThrow_L20 (N : Nat) (m_s : Nat → Int32)  : Nat → Int32 → Int32 → Int32 → Int32 → Option (Int32 × Int32)
  | 0 => fun _ _ _ _ => none
  | j + 1 => f_X11_latestThrow_L20_F N m_s (f_X11_latestThrow_L20 N m_s j)
def f_X11_latestThrow (N : Nat) (m_s : Nat → Int32) (m_thrown : Int32) (a0 : Int32) (a1 : Int32) : Option (Int32 × Int32) :=
  (f_X11_noPair m_s m_thrown a0 a1).bind fun t1 =>
  if t1.1 = 0 then
    f_X11_latestThrow_L20 N m_s N a0 a1 ((m_s (Int32.toNatClampNeg 5)) - 1) t1.2
  else
    some (0, t1.2)
def f_X11_score (N : Nat) (m_s : Nat → Int32) (m_thrown : Int32) (m_oftenAll : Int32) (m_often : Nat → Int32) (a0 : Int32) (a1 : Int32) : Option (Int32 × Int32 × Int32 × (Nat → Int32)) :=
  (f_X11_noPair m_s m_thrown a0 a1).bind fun t1 =>
  if t1.1 = 0 then
    (f_X11_scoreOf N 1399 m_s m_oftenAll m_often a0 a1).bind fun t2 =>
    some (t2.1, t1.2, t2.2.1, t2.2.2)
  else
    some (0, t1.2, m_oftenAll, m_often)
def f_X11_isSuspicious (N : Nat) (m_s : Nat → Int32) (m_thrown : Int32) (m_oftenAll : Int32) (m_often : Nat → Int32) (a0 : Int32) (a1 : Int32) : Option (Int32 × Int32 × Int32 × (Nat → Int32)) :=
  (f_X11_noPair m_s m_thrown a0 a1).bind fun t1 =>
  if t1.1 = 0 then
    (f_X11_suspects N 1399 m_s m_oftenAll m_often a0 a1).bind fun t2 =>
    if t2.1 = 0 then
      some (0, t1.2, t2.2.1, t2.2.2)
    else
      some (1, t1.2, t2.2.1, t2.2.2)
  else
    some (0, t1.2, m_oftenAll, m_often)
def f_X11_suspiciousIn_L45 (N : Nat) (m_s : Nat → Int32) (r4 : Int32 → Int32 → Int32 → (Nat → Int32) → Option (Int32 × Int32 × (Nat → Int32))) (r16 : Int32 → Int32 → Int32 → Int32 → (Nat → Int32) → Option (Int32 × Int32 × (Nat → Int32))) (l2 : Int32) (l3 : Int32) (s0 : Int32) (s1 : Int32) (m_oftenAll : Int32) (m_often : Nat → Int32) : Option (Int32 × Int32 × (Nat → Int32)) :=
  r16 (s1 + s0) l2 (l3 + 1) m_oftenAll m_often
def f_X11_suspiciousIn_L16_F (N : Nat) (m_s : Nat → Int32) (r4 : Int32 → Int32 → Int32 → (Nat → Int32) → Option (Int32 × Int32 × (Nat → Int32))) (r16 : Int32 → Int32 → Int32 → Int32 → (Nat → Int32) → Option (Int32 × Int32 × (Nat → Int32))) (l1 : Int32) (l2 : Int32) (l3 : Int32) (m_oftenAll : Int32) (m_often : Nat → Int32) : Option (Int32 × Int32 × (Nat → Int32)) :=
  if (m_s (Int32.toNatClampNeg 3)) ≤ l3 then
    r4 l1 (l2 + 1) m_oftenAll m_often
  else
    (f_X11_suspects N 1399 m_s m_oftenAll m_often l2 l3).bind fun t1 =>
    if t1.1 = 0 then
      f_X11_suspiciousIn_L45 N m_s r4 r16 l2 l3 0 l1 t1.2.1 t1.2.2
    else
      f_X11_suspiciousIn_L45 N m_s r4 r16 l2 l3 1 l1 t1.2.1 t1.2.2
def f_X11_suspiciousIn_L16 (N : Nat) (m_s : Nat → Int32) (r4 : Int32 → Int32 → Int32 → (Nat → Int32) → Option (Int32 × Int32 × (Nat → Int32))) : Nat → Int32 → Int32 → Int32 → Int32 → (Nat → Int32) → Option (Int32 × Int32 × (Nat → Int32))
  | 0 => fun _ _ _ _ _ => none
  | j + 1 => f_X11_suspiciousIn_L16_F N m_s r4 (f_X11_suspiciousIn_L16 N m_s r4 j)
def f_X11_suspiciousIn_L4_F (N : Nat) (m_s : Nat → Int32)  (r4 : Int32 → Int32 → Int32 → (Nat → Int32) → Option (Int32 × Int32 × (Nat → Int32))) (l1 : Int32) (l2 : Int32) (m_oftenAll : Int32) (m_often : Nat → Int32) : Option (Int32 × Int32 × (Nat → Int32)) :=
  if (m_s (Int32.toNatClampNeg 4)) ≤ l2 then
    some (l1, m_oftenAll, m_often)
  else
    f_X11_suspiciousIn_L16 N m_s r4 N l1 l2 0 m_oftenAll m_often
def f_X11_suspiciousIn_L4 (N : Nat) (m_s : Nat → Int32)  : Nat → Int32 → Int32 → Int32 → (Nat → Int32) → Option (Int32 × Int32 × (Nat → Int32))
  | 0 => fun _ _ _ _ => none
  | j + 1 => f_X11_suspiciousIn_L4_F N m_s (f_X11_suspiciousIn_L4 N m_s j)
def f_X11_suspiciousIn (N : Nat) (m_s : Nat → Int32) (m_oftenAll : Int32) (m_often : Nat → Int32) : Option (Int32 × Int32 × (Nat → Int32)) :=
  f_X11_suspiciousIn_L4 N m_s N 0 0 m_oftenAll m_often
def f_X11_suspiciousPairs (N : Nat) (m_s : Nat → Int32) (m_thrown : Int32) (m_oftenAll : Int32) (m_often : Nat → Int32) : Option (Int32 × Int32 × Int32 × (Nat → Int32)) :=
  (f_X11_suspiciousIn N m_s m_oftenAll m_often).bind fun t1 =>
  some (t1.1, 0, t1.2.1, t1.2.2)
def f_X11_worstPair_L87 (N : Nat) (m_s : Nat → Int32) (r11 : Int32 → Int32 → Int32 → Int32 → Int32 → (Nat → Int32) → Option (Int32 × Int32 × Int32 × (Nat → Int32))) (r33 : Int32 → Int32 → Int32 → Int32 → Int32 → Int32 → (Nat → Int32) → Option (Int32 × Int32 × Int32 × (Nat → Int32))) (l1 : Int32) (l3 : Int32) (l4 : Int32) (s0 : Int32) (m_thrown : Int32) (m_oftenAll : Int32) (m_often : Nat → Int32) : Option (Int32 × Int32 × Int32 × (Nat → Int32)) :=
  r33 l1 s0 l3 (l4 + 1) m_thrown m_oftenAll m_often
def f_X11_worstPair_L74 (N : Nat) (m_s : Nat → Int32) (r11 : Int32 → Int32 → Int32 → Int32 → Int32 → (Nat → Int32) → Option (Int32 × Int32 × Int32 × (Nat → Int32))) (r33 : Int32 → Int32 → Int32 → Int32 → Int32 → Int32 → (Nat → Int32) → Option (Int32 × Int32 × Int32 × (Nat → Int32))) (l2 : Int32) (l3 : Int32) (l4 : Int32) (l5 : Int32) (s0 : Int32) (m_thrown : Int32) (m_oftenAll : Int32) (m_often : Nat → Int32) : Option (Int32 × Int32 × Int32 × (Nat → Int32)) :=
  if l5 ≤ l2 then
    f_X11_worstPair_L87 N m_s r11 r33 s0 l3 l4 l2 m_thrown m_oftenAll m_often
  else
    f_X11_worstPair_L87 N m_s r11 r33 s0 l3 l4 l5 m_thrown m_oftenAll m_often
def f_X11_worstPair_L33_F (N : Nat) (m_s : Nat → Int32) (r11 : Int32 → Int32 → Int32 → Int32 → Int32 → (Nat → Int32) → Option (Int32 × Int32 × Int32 × (Nat → Int32))) (r33 : Int32 → Int32 → Int32 → Int32 → Int32 → Int32 → (Nat → Int32) → Option (Int32 × Int32 × Int32 × (Nat → Int32))) (l1 : Int32) (l2 : Int32) (l3 : Int32) (l4 : Int32) (m_thrown : Int32) (m_oftenAll : Int32) (m_often : Nat → Int32) : Option (Int32 × Int32 × Int32 × (Nat → Int32)) :=
  if (m_s (Int32.toNatClampNeg 3)) ≤ l4 then
    r11 l1 l2 (l3 + 1) m_thrown m_oftenAll m_often
  else
    (f_X11_scoreOf N 1399 m_s m_oftenAll m_often l3 l4).bind fun t1 =>
    if t1.1 ≤ l2 then
      f_X11_worstPair_L74 N m_s r11 r33 l2 l3 l4 t1.1 l1 m_thrown t1.2.1 t1.2.2
    else
      f_X11_worstPair_L74 N m_s r11 r33 l2 l3 l4 t1.1 ((10 * l3) + l4) m_thrown t1.2.1 t1.2.2
def f_X11_worstPair_L33 (N : Nat) (m_s : Nat → Int32) (r11 : Int32 → Int32 → Int32 → Int32 → Int32 → (Nat → Int32) → Option (Int32 × Int32 × Int32 × (Nat → Int32))) : Nat → Int32 → Int32 → Int32 → Int32 → Int32 → Int32 → (Nat → Int32) → Option (Int32 × Int32 × Int32 × (Nat → Int32))
  | 0 => fun _ _ _ _ _ _ _ => none
  | j + 1 => f_X11_worstPair_L33_F N m_s r11 (f_X11_worstPair_L33 N m_s r11 j)
def f_X11_worstPair_L11_F (N : Nat) (m_s : Nat → Int32)  (r11 : Int32 → Int32 → Int32 → Int32 → Int32 → (Nat → Int32) → Option (Int32 × Int32 × Int32 × (Nat → Int32))) (l1 : Int32) (l2 : Int32) (l3 : Int32) (m_thrown : Int32) (m_oftenAll : Int32) (m_often : Nat → Int32) : Option (Int32 × Int32 × Int32 × (Nat → Int32)) :=
  if (m_s (Int32.toNatClampNeg 4)) ≤ l3 then
    some (l1, m_thrown, m_oftenAll, m_often)
  else
    if (m_s (Int32.toNatClampNeg 5)) ≤ 0 then
      some (l1, m_thrown, m_oftenAll, m_often)
    else
      f_X11_worstPair_L33 N m_s r11 N l1 l2 l3 0 m_thrown m_oftenAll m_often
def f_X11_worstPair_L11 (N : Nat) (m_s : Nat → Int32)  : Nat → Int32 → Int32 → Int32 → Int32 → Int32 → (Nat → Int32) → Option (Int32 × Int32 × Int32 × (Nat → Int32))
  | 0 => fun _ _ _ _ _ _ => none
  | j + 1 => f_X11_worstPair_L11_F N m_s (f_X11_worstPair_L11 N m_s j)
def f_X11_worstPair (N : Nat) (m_s : Nat → Int32) (m_thrown : Int32) (m_oftenAll : Int32) (m_often : Nat → Int32) : Option (Int32 × Int32 × Int32 × (Nat → Int32)) :=
  f_X11_worstPair_L11 N m_s N (-1) (-1) 0 0 m_oftenAll m_often
def f_X11_offenceCount (m_s : Nat → Int32) (m_thrown : Int32) : Option (Int32 × Int32) :=
  some ((m_s (Int32.toNatClampNeg 6)), 0)
def f_X11_ofThat (m_s : Nat → Int32) (m_thrown : Int32) (a0 : Int32) (a1 : Int32) : Option (Int32 × Int32) :=
  (f_X11_noOffence m_s m_thrown a0).bind fun t1 =>
  if t1.1 = 0 then
    (f_X11_ofOffence a0).bind fun t2 =>
    gd (inb (t2 + a1) 1399) <|
    some ((m_s (Int32.toNatClampNeg (t2 + a1))), t1.2)
  else
    some (0, t1.2)
def f_X11_offencePlayer (m_s : Nat → Int32) (m_thrown : Int32) (a0 : Int32) : Option (Int32 × Int32) :=
  (f_X11_ofThat m_s m_thrown a0 0).bind fun t1 =>
  some (t1.1, t1.2)
def f_X11_offenceDie (m_s : Nat → Int32) (m_thrown : Int32) (a0 : Int32) : Option (Int32 × Int32) :=
  (f_X11_ofThat m_s m_thrown a0 1).bind fun t1 =>
  some (t1.1, t1.2)
def f_X11_offenceScore (m_s : Nat → Int32) (m_thrown : Int32) (a0 : Int32) : Option (Int32 × Int32) :=
  (f_X11_ofThat m_s m_thrown a0 2).bind fun t1 =>
  some (t1.1, t1.2)
def f_X11_offencesOf (N : Nat) (m_s : Nat → Int32) (m_thrown : Int32) (a0 : Int32) : Option (Int32 × Int32) :=
  (f_X11_noPlayer m_s m_thrown a0).bind fun t1 =>
  if t1.1 = 0 then
    (f_X11_offencesBy N 1399 m_s a0).bind fun t2 =>
    some (t2, t1.2)
  else
    some (0, t1.2)
def f_X11_nextFace (N : Nat) (m_s : Nat → Int32) (m_thrown : Int32) (a0 : Int32) : Option (Int32 × Int32) :=
  (f_X11_noDie m_s m_thrown a0).bind fun t1 =>
  if t1.1 = 0 then
    (f_X11_nextSeed (m_s (Int32.toNatClampNeg 0))).bind fun t2 =>
    (f_X11_faceBy N 1399 m_s a0 t2).bind fun t3 =>
    some (t3, t1.2)
  else
    some (0, t1.2)
def f_X11_faceAfter_L32_F (N : Nat) (m_s : Nat → Int32)  (r32 : Int32 → Int32 → Int32 → Int32 → Int32 → Option (Int32 × Int32)) (l1 : Int32) (l2 : Int32) (l3 : Int32) (l4 : Int32) (m_thrown : Int32) : Option (Int32 × Int32) :=
  if l2 ≤ l4 then
    (f_X11_faceBy N 1399 m_s l1 l3).bind fun t3 =>
    some (t3, m_thrown)
  else
    (f_X11_nextSeed l3).bind fun t4 =>
    r32 l1 l2 t4 (l4 + 1) m_thrown
def f_X11_faceAfter_L32 (N : Nat) (m_s : Nat → Int32)  : Nat → Int32 → Int32 → Int32 → Int32 → Int32 → Option (Int32 × Int32)
  | 0 => fun _ _ _ _ _ => none
  | j + 1 => f_X11_faceAfter_L32_F N m_s (f_X11_faceAfter_L32 N m_s j)
def f_X11_faceAfter (N : Nat) (m_s : Nat → Int32) (m_thrown : Int32) (a0 : Int32) (a1 : Int32) : Option (Int32 × Int32) :=
  (f_X11_noDie m_s m_thrown a0).bind fun t1 =>
  if t1.1 = 0 then
    (f_X11_out t1.2 a1 1 200).bind fun t2 =>
    if t2.1 = 0 then
      f_X11_faceAfter_L32 N m_s N a0 a1 (m_s (Int32.toNatClampNeg 0)) 0 t2.2
    else
      some (0, t2.2)
  else
    some (0, t1.2)
def f_X11_throwsUntil_L37_F (N : Nat) (m_s : Nat → Int32)  (r37 : Int32 → Int32 → Int32 → Int32 → Int32 → Option (Int32 × Int32)) (l1 : Int32) (l2 : Int32) (l3 : Int32) (l4 : Int32) (m_thrown : Int32) : Option (Int32 × Int32) :=
  if 200 < l4 then
    some ((-1), m_thrown)
  else
    (f_X11_nextSeed l3).bind fun t4 =>
    (f_X11_faceBy N 1399 m_s l1 t4).bind fun t5 =>
    if t5 = l2 then
      some (l4, m_thrown)
    else
      r37 l1 l2 t4 (l4 + 1) m_thrown
def f_X11_throwsUntil_L37 (N : Nat) (m_s : Nat → Int32)  : Nat → Int32 → Int32 → Int32 → Int32 → Int32 → Option (Int32 × Int32)
  | 0 => fun _ _ _ _ _ => none
  | j + 1 => f_X11_throwsUntil_L37_F N m_s (f_X11_throwsUntil_L37 N m_s j)
def f_X11_throwsUntil (N : Nat) (m_s : Nat → Int32) (m_thrown : Int32) (a0 : Int32) (a1 : Int32) : Option (Int32 × Int32) :=
  (f_X11_noDie m_s m_thrown a0).bind fun t1 =>
  if t1.1 = 0 then
    (f_X11_facesOf 1399 m_s a0).bind fun t2 =>
    (f_X11_out t1.2 a1 1 t2).bind fun t3 =>
    if t3.1 = 0 then
      f_X11_throwsUntil_L37 N m_s N a0 a1 (m_s (Int32.toNatClampNeg 0)) 1 t3.2
    else
      some (0, t3.2)
  else
    some (0, t1.2)
def f_X11_countThrow (N : Nat) (m_s : Nat → Int32) (m_oftenAll : Int32) (m_often : Nat → Int32) (a0 : Int32) (a1 : Int32) : Option (Int32 × Int32 × (Nat → Int32)) :=
  (f_X11_nextSeed a1).bind fun t1 =>
  (f_X11_faceBy N 1399 m_s a0 t1).bind fun t2 =>
  gd (inb t2 13) <|
  gd (inb t2 13) <|
  some (t1, (m_oftenAll + 1), (upd m_often (Int32.toNatClampNeg t2) ((m_often (Int32.toNatClampNeg t2)) + 1)))
def f_X11_scoreAfter_L43_F (N : Nat) (m_s : Nat → Int32)  (r43 : Int32 → Int32 → Int32 → Int32 → Int32 → Int32 → (Nat → Int32) → Option (Int32 × Int32 × Int32 × (Nat → Int32))) (l2 : Int32) (l3 : Int32) (l4 : Int32) (l5 : Int32) (m_thrown : Int32) (m_oftenAll : Int32) (m_often : Nat → Int32) : Option (Int32 × Int32 × Int32 × (Nat → Int32)) :=
  if l3 ≤ l5 then
    (f_X11_facesOf 1399 m_s l2).bind fun t4 =>
    (f_X11_scoreOfCounts N m_oftenAll m_often t4).bind fun t5 =>
    some (t5, m_thrown, m_oftenAll, m_often)
  else
    (f_X11_countThrow N m_s m_oftenAll m_often l2 l4).bind fun t6 =>
    r43 l2 l3 t6.1 (l5 + 1) m_thrown t6.2.1 t6.2.2
def f_X11_scoreAfter_L43 (N : Nat) (m_s : Nat → Int32)  : Nat → Int32 → Int32 → Int32 → Int32 → Int32 → Int32 → (Nat → Int32) → Option (Int32 × Int32 × Int32 × (Nat → Int32))
  | 0 => fun _ _ _ _ _ _ _ => none
  | j + 1 => f_X11_scoreAfter_L43_F N m_s (f_X11_scoreAfter_L43 N m_s j)
def f_X11_scoreAfter (N : Nat) (m_s : Nat → Int32) (m_thrown : Int32) (m_oftenAll : Int32) (m_often : Nat → Int32) (a0 : Int32) (a1 : Int32) (a2 : Int32) : Option (Int32 × Int32 × Int32 × (Nat → Int32)) :=
  (f_X11_noPair m_s m_thrown a0 a1).bind fun t1 =>
  if t1.1 = 0 then
    (f_X11_out t1.2 a2 0 50).bind fun t2 =>
    if t2.1 = 0 then
      (f_X11_countPair N 1399 m_s m_oftenAll m_often a0 a1).bind fun t3 =>
      f_X11_scoreAfter_L43 N m_s N a1 a2 (m_s (Int32.toNatClampNeg 0)) 0 t2.2 t3.1 t3.2
    else
      some (0, t2.2, m_oftenAll, m_often)
  else
    some (0, t1.2, m_oftenAll, m_often)
def f_X11_throwsUntilSuspicious_L31_F (N : Nat) (m_s : Nat → Int32)  (r31 : Int32 → Int32 → Int32 → Int32 → Int32 → (Nat → Int32) → Option (Int32 × Int32 × Int32 × (Nat → Int32))) (l2 : Int32) (l3 : Int32) (l4 : Int32) (m_thrown : Int32) (m_oftenAll : Int32) (m_often : Nat → Int32) : Option (Int32 × Int32 × Int32 × (Nat → Int32)) :=
  if 50 < l4 then
    some ((-1), m_thrown, m_oftenAll, m_often)
  else
    (f_X11_facesOf 1399 m_s l2).bind fun t3 =>
    (f_X11_isBad N m_oftenAll m_often 1399 m_s t3).bind fun t4 =>
    if t4 = 0 then
      (f_X11_countThrow N m_s m_oftenAll m_often l2 l3).bind fun t5 =>
      r31 l2 t5.1 (l4 + 1) m_thrown t5.2.1 t5.2.2
    else
      some (l4, m_thrown, m_oftenAll, m_often)
def f_X11_throwsUntilSuspicious_L31 (N : Nat) (m_s : Nat → Int32)  : Nat → Int32 → Int32 → Int32 → Int32 → Int32 → (Nat → Int32) → Option (Int32 × Int32 × Int32 × (Nat → Int32))
  | 0 => fun _ _ _ _ _ _ => none
  | j + 1 => f_X11_throwsUntilSuspicious_L31_F N m_s (f_X11_throwsUntilSuspicious_L31 N m_s j)
def f_X11_throwsUntilSuspicious (N : Nat) (m_s : Nat → Int32) (m_thrown : Int32) (m_oftenAll : Int32) (m_often : Nat → Int32) (a0 : Int32) (a1 : Int32) : Option (Int32 × Int32 × Int32 × (Nat → Int32)) :=
  (f_X11_noPair m_s m_thrown a0 a1).bind fun t1 =>
  if t1.1 = 0 then
    (f_X11_countPair N 1399 m_s m_oftenAll m_often a0 a1).bind fun t2 =>
    f_X11_throwsUntilSuspicious_L31 N m_s N a1 (m_s (Int32.toNatClampNeg 0)) 0 t1.2 t2.1 t2.2
  else
    some (0, t1.2, m_oftenAll, m_often)
def f_X11_penanceNow (N : Nat) (m_s : Nat → Int32) (m_thrown : Int32) : Option (Int32 × Int32) :=
  (f_X11_penance N 1399 m_s).bind fun t1 =>
  some (t1, 0)
def f_X11_frequencyDifference_L50_F (N : Nat) (m_s : Nat → Int32) (r15 : Int32 → Int32 → Int32 → Int32 → (Nat → Int32) → Option (Int32 × Int32 × Int32 × (Nat → Int32))) (r27 : Int32 → Int32 → Int32 → Int32 → Int32 → (Nat → Int32) → Option (Int32 × Int32 × Int32 × (Nat → Int32))) (r50 : Int32 → Int32 → Int32 → Int32 → Int32 → Int32 → (Nat → Int32) → Option (Int32 × Int32 × Int32 × (Nat → Int32))) (l1 : Int32) (l2 : Int32) (l3 : Int32) (l4 : Int32) (m_thrown : Int32) (m_oftenAll : Int32) (m_often : Nat → Int32) : Option (Int32 × Int32 × Int32 × (Nat → Int32)) :=
  if 12 < l4 then
    r27 l1 l2 (l3 + 1) m_thrown m_oftenAll m_often
  else
    gd (inb l4 13) <|
    r50 (l1 + (m_often (Int32.toNatClampNeg l4))) l2 l3 (l4 + 1) m_thrown m_oftenAll m_often
def f_X11_frequencyDifference_L50 (N : Nat) (m_s : Nat → Int32) (r15 : Int32 → Int32 → Int32 → Int32 → (Nat → Int32) → Option (Int32 × Int32 × Int32 × (Nat → Int32))) (r27 : Int32 → Int32 → Int32 → Int32 → Int32 → (Nat → Int32) → Option (Int32 × Int32 × Int32 × (Nat → Int32))) : Nat → Int32 → Int32 → Int32 → Int32 → Int32 → Int32 → (Nat → Int32) → Option (Int32 × Int32 × Int32 × (Nat → Int32))
  | 0 => fun _ _ _ _ _ _ _ => none
  | j + 1 => f_X11_frequencyDifference_L50_F N m_s r15 r27 (f_X11_frequencyDifference_L50 N m_s r15 r27 j)
def f_X11_frequencyDifference_L27_F (N : Nat) (m_s : Nat → Int32) (r15 : Int32 → Int32 → Int32 → Int32 → (Nat → Int32) → Option (Int32 × Int32 × Int32 × (Nat → Int32))) (r27 : Int32 → Int32 → Int32 → Int32 → Int32 → (Nat → Int32) → Option (Int32 × Int32 × Int32 × (Nat → Int32))) (l1 : Int32) (l2 : Int32) (l3 : Int32) (m_thrown : Int32) (m_oftenAll : Int32) (m_often : Nat → Int32) : Option (Int32 × Int32 × Int32 × (Nat → Int32)) :=
  if (m_s (Int32.toNatClampNeg 3)) ≤ l3 then
    r15 l1 (l2 + 1) m_thrown m_oftenAll m_often
  else
    (f_X11_countPair N 1399 m_s m_oftenAll m_often l2 l3).bind fun t1 =>
    f_X11_frequencyDifference_L50 N m_s r15 r27 N l1 l2 l3 1 m_thrown t1.1 t1.2
def f_X11_frequencyDifference_L27 (N : Nat) (m_s : Nat → Int32) (r15 : Int32 → Int32 → Int32 → Int32 → (Nat → Int32) → Option (Int32 × Int32 × Int32 × (Nat → Int32))) : Nat → Int32 → Int32 → Int32 → Int32 → Int32 → (Nat → Int32) → Option (Int32 × Int32 × Int32 × (Nat → Int32))
  | 0 => fun _ _ _ _ _ _ => none
  | j + 1 => f_X11_frequencyDifference_L27_F N m_s r15 (f_X11_frequencyDifference_L27 N m_s r15 j)
def f_X11_frequencyDifference_L15_F (N : Nat) (m_s : Nat → Int32)  (r15 : Int32 → Int32 → Int32 → Int32 → (Nat → Int32) → Option (Int32 × Int32 × Int32 × (Nat → Int32))) (l1 : Int32) (l2 : Int32) (m_thrown : Int32) (m_oftenAll : Int32) (m_often : Nat → Int32) : Option (Int32 × Int32 × Int32 × (Nat → Int32)) :=
  if (m_s (Int32.toNatClampNeg 4)) ≤ l2 then
    some (l1, m_thrown, m_oftenAll, m_often)
  else
    f_X11_frequencyDifference_L27 N m_s r15 N l1 l2 0 m_thrown m_oftenAll m_often
def f_X11_frequencyDifference_L15 (N : Nat) (m_s : Nat → Int32)  : Nat → Int32 → Int32 → Int32 → Int32 → (Nat → Int32) → Option (Int32 × Int32 × Int32 × (Nat → Int32))
  | 0 => fun _ _ _ _ _ => none
  | j + 1 => f_X11_frequencyDifference_L15_F N m_s (f_X11_frequencyDifference_L15 N m_s j)
def f_X11_frequencyDifference (N : Nat) (m_s : Nat → Int32) (m_thrown : Int32) (m_oftenAll : Int32) (m_often : Nat → Int32) : Option (Int32 × Int32 × Int32 × (Nat → Int32)) :=
  f_X11_frequencyDifference_L15 N m_s N (-(m_s (Int32.toNatClampNeg 5))) 0 0 m_oftenAll m_often
def f_X11_totalDifference_L38_F (N : Nat) (m_s : Nat → Int32)  (r38 : Int32 → Int32 → Int32 → Option (Int32 × Int32)) (l1 : Int32) (l2 : Int32) (m_thrown : Int32) : Option (Int32 × Int32) :=
  if (m_s (Int32.toNatClampNeg 5)) ≤ l2 then
    some (l1, m_thrown)
  else
    (f_X11_ofThrow l2).bind fun t1 =>
    gd (inb (t1 + 2) 1399) <|
    r38 (l1 - (m_s (Int32.toNatClampNeg (t1 + 2)))) (l2 + 1) m_thrown
def f_X11_totalDifference_L38 (N : Nat) (m_s : Nat → Int32)  : Nat → Int32 → Int32 → Int32 → Option (Int32 × Int32)
  | 0 => fun _ _ _ => none
  | j + 1 => f_X11_totalDifference_L38_F N m_s (f_X11_totalDifference_L38 N m_s j)
def f_X11_totalDifference_L9_F (N : Nat) (m_s : Nat → Int32)  (r9 : Int32 → Int32 → Int32 → Option (Int32 × Int32)) (l1 : Int32) (l2 : Int32) (m_thrown : Int32) : Option (Int32 × Int32) :=
  if (m_s (Int32.toNatClampNeg 4)) ≤ l2 then
    f_X11_totalDifference_L38 N m_s N l1 0 m_thrown
  else
    (f_X11_totalOf N 1399 m_s l2).bind fun t1 =>
    r9 (l1 + t1) (l2 + 1) m_thrown
def f_X11_totalDifference_L9 (N : Nat) (m_s : Nat → Int32)  : Nat → Int32 → Int32 → Int32 → Option (Int32 × Int32)
  | 0 => fun _ _ _ => none
  | j + 1 => f_X11_totalDifference_L9_F N m_s (f_X11_totalDifference_L9 N m_s j)
def f_X11_totalDifference (N : Nat) (m_s : Nat → Int32) (m_thrown : Int32) : Option (Int32 × Int32) :=
  f_X11_totalDifference_L9 N m_s N 0 0 0
def f_X11_fairShare_L9_F (N : Nat) (m_s : Nat → Int32)  (r9 : Int32 → Int32 → Int32 → Option (UInt32 × Int32)) (l1 : Int32) (l2 : Int32) (m_thrown : Int32) : Option (UInt32 × Int32) :=
  if (m_s (Int32.toNatClampNeg 5)) ≤ l2 then
    if (m_s (Int32.toNatClampNeg 5)) = 0 then
      some (FP.fconst0, m_thrown)
    else
      gd (isn32 (FP.fdiv (FP.i2f l1) (FP.i2f (m_s (Int32.toNatClampNeg 5))))) <|
      some ((FP.fdiv (FP.i2f l1) (FP.i2f (m_s (Int32.toNatClampNeg 5)))), m_thrown)
  else
    (f_X11_ofThrow l2).bind fun t1 =>
    gd (inb (t1 + 3) 1399) <|
    r9 (l1 + (m_s (Int32.toNatClampNeg (t1 + 3)))) (l2 + 1) m_thrown
def f_X11_fairShare_L9 (N : Nat) (m_s : Nat → Int32)  : Nat → Int32 → Int32 → Int32 → Option (UInt32 × Int32)
  | 0 => fun _ _ _ => none
  | j + 1 => f_X11_fairShare_L9_F N m_s (f_X11_fairShare_L9 N m_s j)
def f_X11_fairShare (N : Nat) (m_s : Nat → Int32) (m_thrown : Int32) : Option (UInt32 × Int32) :=
  f_X11_fairShare_L9 N m_s N 0 0 0
def f_X11_throwDie_L40 (N : Nat)   (l1 : Int32) (l2 : Int32) (l3 : Int32) (s0 : Int32) (m_undoable : Int32) (m_undoStart : Int32) (m_thrown : Int32) (m_s : Nat → Int32) (m_remembered : Nat → Int32) : Option (Int32 × Int32 × Int32 × Int32 × (Nat → Int32) × (Nat → Int32)) :=
  (f_X11_refuses m_thrown s0 3).bind fun t3 =>
  if t3.1 = 0 then
    (f_X11_remember N m_s m_undoable m_undoStart m_remembered).bind fun t4 =>
    (f_X11_throwMany N 1399 m_s l1 l2 l3 0).bind fun t5 =>
    some (t5.1, t4.1, t4.2.1, t3.2, t5.2, t4.2.2)
  else
    some (0, m_undoable, m_undoStart, t3.2, m_s, m_remembered)
def f_X11_throwDie (N : Nat)  (m_undoable : Int32) (m_undoStart : Int32) (m_thrown : Int32) (m_s : Nat → Int32) (m_remembered : Nat → Int32) (a0 : Int32) (a1 : Int32) (a2 : Int32) : Option (Int32 × Int32 × Int32 × Int32 × (Nat → Int32) × (Nat → Int32)) :=
  (f_X11_noPair m_s m_thrown a0 a1).bind fun t1 =>
  if t1.1 = 0 then
    (f_X11_out t1.2 a2 1 50).bind fun t2 =>
    if t2.1 = 0 then
      if ((m_s (Int32.toNatClampNeg 5)) + a2) ≤ 300 then
        f_X11_throwDie_L40 N a0 a1 a2 0 m_undoable m_undoStart t2.2 m_s m_remembered
      else
        f_X11_throwDie_L40 N a0 a1 a2 1 m_undoable m_undoStart t2.2 m_s m_remembered
    else
      some (0, m_undoable, m_undoStart, t2.2, m_s, m_remembered)
  else
    some (0, m_undoable, m_undoStart, t1.2, m_s, m_remembered)
def f_X11_audit (N : Nat)  (m_undoable : Int32) (m_undoStart : Int32) (m_thrown : Int32) (m_oftenAll : Int32) (m_s : Nat → Int32) (m_remembered : Nat → Int32) (m_often : Nat → Int32) : Option (Int32 × Int32 × Int32 × Int32 × Int32 × (Nat → Int32) × (Nat → Int32) × (Nat → Int32)) :=
  (f_X11_remember N m_s m_undoable m_undoStart m_remembered).bind fun t1 =>
  (f_X11_holdAudit N 1399 m_oftenAll m_often m_s).bind fun t2 =>
  some (t2.1, t1.1, t1.2.1, 0, t2.2.1, t2.2.2.2, t1.2.2, t2.2.2.1)
def f_X11_absolve_L21 (N : Nat)   (s0 : Int32) (m_undoable : Int32) (m_undoStart : Int32) (m_thrown : Int32) (m_s : Nat → Int32) (m_remembered : Nat → Int32) : Option (Int32 × Int32 × Int32 × Int32 × (Nat → Int32) × (Nat → Int32)) :=
  (f_X11_refuses m_thrown s0 1).bind fun t1 =>
  if t1.1 = 0 then
    (f_X11_remember N m_s m_undoable m_undoStart m_remembered).bind fun t2 =>
    (f_X11_absolveFirst N 1399 m_s).bind fun t3 =>
    some (t3.1, t2.1, t2.2.1, t1.2, t3.2, t2.2.2)
  else
    some (0, m_undoable, m_undoStart, t1.2, m_s, m_remembered)
def f_X11_absolve (N : Nat)  (m_undoable : Int32) (m_undoStart : Int32) (m_thrown : Int32) (m_s : Nat → Int32) (m_remembered : Nat → Int32) : Option (Int32 × Int32 × Int32 × Int32 × (Nat → Int32) × (Nat → Int32)) :=
  if (m_s (Int32.toNatClampNeg 6)) = 0 then
    f_X11_absolve_L21 N 1 m_undoable m_undoStart 0 m_s m_remembered
  else
    f_X11_absolve_L21 N 0 m_undoable m_undoStart 0 m_s m_remembered
def f_X11_forgive (N : Nat)  (m_undoable : Int32) (m_undoStart : Int32) (m_thrown : Int32) (m_s : Nat → Int32) (m_remembered : Nat → Int32) (a0 : Int32) : Option (Int32 × Int32 × Int32 × Int32 × (Nat → Int32) × (Nat → Int32)) :=
  (f_X11_noPlayer m_s m_thrown a0).bind fun t1 =>
  if t1.1 = 0 then
    (f_X11_remember N m_s m_undoable m_undoStart m_remembered).bind fun t2 =>
    (f_X11_forgiveAll N 1399 m_s a0).bind fun t3 =>
    some (t3.1, t2.1, t2.2.1, t1.2, t3.2, t2.2.2)
  else
    some (0, m_undoable, m_undoStart, t1.2, m_s, m_remembered)
def f_X11_setWeight_L71 (N : Nat)   (l1 : Int32) (l2 : Int32) (l3 : Int32) (l4 : Int32) (s0 : Int32) (m_undoable : Int32) (m_undoStart : Int32) (m_thrown : Int32) (m_s : Nat → Int32) (m_remembered : Nat → Int32) : Option (Int32 × Int32 × Int32 × Int32 × (Nat → Int32) × (Nat → Int32)) :=
  (f_X11_refuses m_thrown s0 3).bind fun t7 =>
  if t7.1 = 0 then
    (f_X11_remember N m_s m_undoable m_undoStart m_remembered).bind fun t8 =>
    (f_X11_ofDie l1).bind fun t9 =>
    gd (inb (((t9 + 1) + l2) - 1) 1399) <|
    some (l4, t8.1, t8.2.1, t7.2, (upd m_s (Int32.toNatClampNeg (((t9 + 1) + l2) - 1)) l3), t8.2.2)
  else
    some (0, m_undoable, m_undoStart, t7.2, m_s, m_remembered)
def f_X11_setWeight (N : Nat)  (m_undoable : Int32) (m_undoStart : Int32) (m_thrown : Int32) (m_s : Nat → Int32) (m_remembered : Nat → Int32) (a0 : Int32) (a1 : Int32) (a2 : Int32) : Option (Int32 × Int32 × Int32 × Int32 × (Nat → Int32) × (Nat → Int32)) :=
  (f_X11_noDie m_s m_thrown a0).bind fun t1 =>
  if t1.1 = 0 then
    (f_X11_facesOf 1399 m_s a0).bind fun t2 =>
    (f_X11_out t1.2 a1 1 t2).bind fun t3 =>
    if t3.1 = 0 then
      (f_X11_out t3.2 a2 0 9).bind fun t4 =>
      if t4.1 = 0 then
        (f_X11_weight 1399 m_s a0 a1).bind fun t5 =>
        (f_X11_allWeights N 1399 m_s a0).bind fun t6 =>
        if ((t6 - t5) + a2) = 0 then
          f_X11_setWeight_L71 N a0 a1 a2 t5 1 m_undoable m_undoStart t4.2 m_s m_remembered
        else
          f_X11_setWeight_L71 N a0 a1 a2 t5 0 m_undoable m_undoStart t4.2 m_s m_remembered
      else
        some (0, m_undoable, m_undoStart, t4.2, m_s, m_remembered)
    else
      some (0, m_undoable, m_undoStart, t3.2, m_s, m_remembered)
  else
    some (0, m_undoable, m_undoStart, t1.2, m_s, m_remembered)
def f_X11_setSeed (N : Nat)  (m_undoable : Int32) (m_undoStart : Int32) (m_thrown : Int32) (m_s : Nat → Int32) (m_remembered : Nat → Int32) (a0 : Int32) : Option (Int32 × Int32 × Int32 × Int32 × (Nat → Int32) × (Nat → Int32)) :=
  (f_X11_noNumber m_thrown a0 0 65536).bind fun t1 =>
  if t1.1 = 0 then
    (f_X11_remember N m_s m_undoable m_undoStart m_remembered).bind fun t2 =>
    some ((m_s (Int32.toNatClampNeg 0)), t2.1, t2.2.1, t1.2, (upd m_s (Int32.toNatClampNeg 0) a0), t2.2.2)
  else
    some (0, m_undoable, m_undoStart, t1.2, m_s, m_remembered)
def f_X11_setLimits_L28 (N : Nat)   (l1 : Int32) (l2 : Int32) (s0 : Int32) (m_undoable : Int32) (m_undoStart : Int32) (m_thrown : Int32) (m_oftenAll : Int32) (m_s : Nat → Int32) (m_remembered : Nat → Int32) (m_often : Nat → Int32) : Option (Int32 × Int32 × Int32 × Int32 × Int32 × (Nat → Int32) × (Nat → Int32) × (Nat → Int32)) :=
  (f_X11_refuses m_thrown s0 1).bind fun t3 =>
  if t3.1 = 0 then
    (f_X11_remember N m_s m_undoable m_undoStart m_remembered).bind fun t4 =>
    (f_X11_suspiciousIn N (upd (upd m_s (Int32.toNatClampNeg 1) l1) (Int32.toNatClampNeg 2) l2) m_oftenAll m_often).bind fun t5 =>
    some (t5.1, t4.1, t4.2.1, t3.2, t5.2.1, (upd (upd m_s (Int32.toNatClampNeg 1) l1) (Int32.toNatClampNeg 2) l2), t4.2.2, t5.2.2)
  else
    some (0, m_undoable, m_undoStart, t3.2, m_oftenAll, m_s, m_remembered, m_often)
def f_X11_setLimits (N : Nat)  (m_undoable : Int32) (m_undoStart : Int32) (m_thrown : Int32) (m_oftenAll : Int32) (m_s : Nat → Int32) (m_remembered : Nat → Int32) (m_often : Nat → Int32) (a0 : Int32) (a1 : Int32) : Option (Int32 × Int32 × Int32 × Int32 × Int32 × (Nat → Int32) × (Nat → Int32) × (Nat → Int32)) :=
  (f_X11_noNumber m_thrown a0 1 99).bind fun t1 =>
  if t1.1 = 0 then
    (f_X11_isBetween a1 0 999).bind fun t2 =>
    if t2 = 0 then
      f_X11_setLimits_L28 N a0 a1 1 m_undoable m_undoStart t1.2 m_oftenAll m_s m_remembered m_often
    else
      f_X11_setLimits_L28 N a0 a1 0 m_undoable m_undoStart t1.2 m_oftenAll m_s m_remembered m_often
  else
    some (0, m_undoable, m_undoStart, t1.2, m_oftenAll, m_s, m_remembered, m_often)
def f_X11_print  (m_outputLength : Int32) (m_output : Nat → Int32) (a0 : Int32) : Option (Int32 × (Nat → Int32)) :=
  gd (inb m_outputLength 1000) <|
  some ((m_outputLength + 1), (upd m_output (Int32.toNatClampNeg m_outputLength) (vp_nar .byte a0.toInt8.toInt32)))
def f_X11_printNumber_L20_F (N : Nat)   (r20 : Int32 → Int32 → Int32 → (Nat → Int32) → Option (Int32 × (Nat → Int32))) (l1 : Int32) (l3 : Int32) (m_outputLength : Int32) (m_output : Nat → Int32) : Option (Int32 × (Nat → Int32)) :=
  if l3 ≤ 0 then
    some (m_outputLength, m_output)
  else
    gd (nz l3) <|
    (f_X11_print m_outputLength m_output (48 + ((l1 / l3) - (l1 / l3) / 10 * 10))).bind fun t1 =>
    r20 l1 (l3 / 10) t1.1 t1.2
def f_X11_printNumber_L20 (N : Nat)   : Nat → Int32 → Int32 → Int32 → (Nat → Int32) → Option (Int32 × (Nat → Int32))
  | 0 => fun _ _ _ _ => none
  | j + 1 => f_X11_printNumber_L20_F N (f_X11_printNumber_L20 N j)
def f_X11_printNumber_L2_F (N : Nat)   (r2 : Int32 → Int32 → Int32 → (Nat → Int32) → Option (Int32 × (Nat → Int32))) (l1 : Int32) (l2 : Int32) (m_outputLength : Int32) (m_output : Nat → Int32) : Option (Int32 × (Nat → Int32)) :=
  gd (nz l2) <|
  if (l1 / l2) ≤ 9 then
    f_X11_printNumber_L20 N N l1 l2 m_outputLength m_output
  else
    r2 l1 (l2 * 10) m_outputLength m_output
def f_X11_printNumber_L2 (N : Nat)   : Nat → Int32 → Int32 → Int32 → (Nat → Int32) → Option (Int32 × (Nat → Int32))
  | 0 => fun _ _ _ _ => none
  | j + 1 => f_X11_printNumber_L2_F N (f_X11_printNumber_L2 N j)
def f_X11_printNumber (N : Nat)  (m_outputLength : Int32) (m_output : Nat → Int32) (a0 : Int32) : Option (Int32 × (Nat → Int32)) :=
  f_X11_printNumber_L2 N N a0 1 m_outputLength m_output
def f_X11_printPlayer_L15_F (N : Nat) (m_s : Nat → Int32)  (r15 : Int32 → Int32 → Int32 → (Nat → Int32) → Option (Int32 × (Nat → Int32))) (l1 : Int32) (l2 : Int32) (m_outputLength : Int32) (m_output : Nat → Int32) : Option (Int32 × (Nat → Int32)) :=
  gd (inb (85 + l1) 1399) <|
  (f_X11_lettersOf N (m_s (Int32.toNatClampNeg (85 + l1)))).bind fun t1 =>
  if t1 ≤ l2 then
    (f_X11_print m_outputLength m_output 58).bind fun t2 =>
    (f_X11_totalOf N 1399 m_s l1).bind fun t3 =>
    (f_X11_printNumber N t2.1 t2.2 t3).bind fun t4 =>
    (f_X11_offencesBy N 1399 m_s l1).bind fun t5 =>
    if t5 ≤ 0 then
      some (t4.1, t4.2)
    else
      (f_X11_print t4.1 t4.2 33).bind fun t6 =>
      some (t6.1, t6.2)
  else
    gd (inb (85 + l1) 1399) <|
    (f_X11_letterOf N (m_s (Int32.toNatClampNeg (85 + l1))) l2).bind fun t7 =>
    (f_X11_print m_outputLength m_output (96 + t7)).bind fun t8 =>
    r15 l1 (l2 + 1) t8.1 t8.2
def f_X11_printPlayer_L15 (N : Nat) (m_s : Nat → Int32)  : Nat → Int32 → Int32 → Int32 → (Nat → Int32) → Option (Int32 × (Nat → Int32))
  | 0 => fun _ _ _ _ => none
  | j + 1 => f_X11_printPlayer_L15_F N m_s (f_X11_printPlayer_L15 N m_s j)
def f_X11_printPlayer_L13 (N : Nat) (m_s : Nat → Int32)  (l1 : Int32) (m_outputLength : Int32) (m_output : Nat → Int32) : Option (Int32 × (Nat → Int32)) :=
  f_X11_printPlayer_L15 N m_s N l1 0 m_outputLength m_output
def f_X11_printPlayer (N : Nat) (m_s : Nat → Int32) (m_outputLength : Int32) (m_output : Nat → Int32) (a0 : Int32) : Option (Int32 × (Nat → Int32)) :=
  if m_outputLength ≤ 0 then
    f_X11_printPlayer_L13 N m_s a0 m_outputLength m_output
  else
    (f_X11_print m_outputLength m_output 32).bind fun t1 =>
    f_X11_printPlayer_L13 N m_s a0 t1.1 t1.2
def f_X11_byName_L56 (N : Nat) (m_s : Nat → Int32) (r2 : Int32 → Int32 → Option (Int32)) (r17 : Int32 → Int32 → Int32 → Int32 → Option (Int32)) (l1 : Int32) (l2 : Int32) (l4 : Int32) (s0 : Int32) (s1 : Int32) : Option (Int32) :=
  r17 l1 l2 (s1 + s0) (l4 + 1)
def f_X11_byName_L17_F (N : Nat) (m_s : Nat → Int32) (r2 : Int32 → Int32 → Option (Int32)) (r17 : Int32 → Int32 → Int32 → Int32 → Option (Int32)) (l1 : Int32) (l2 : Int32) (l3 : Int32) (l4 : Int32) : Option (Int32) :=
  if (m_s (Int32.toNatClampNeg 4)) ≤ l4 then
    if l3 = l1 then
      some l2
    else
      r2 l1 (l2 + 1)
  else
    gd (inb (85 + l4) 1399) <|
    gd (inb (85 + l2) 1399) <|
    if (m_s (Int32.toNatClampNeg (85 + l2))) ≤ (m_s (Int32.toNatClampNeg (85 + l4))) then
      f_X11_byName_L56 N m_s r2 r17 l1 l2 l4 0 l3
    else
      f_X11_byName_L56 N m_s r2 r17 l1 l2 l4 1 l3
def f_X11_byName_L17 (N : Nat) (m_s : Nat → Int32) (r2 : Int32 → Int32 → Option (Int32)) : Nat → Int32 → Int32 → Int32 → Int32 → Option (Int32)
  | 0 => fun _ _ _ _ => none
  | j + 1 => f_X11_byName_L17_F N m_s r2 (f_X11_byName_L17 N m_s r2 j)
def f_X11_byName_L2_F (N : Nat) (m_s : Nat → Int32)  (r2 : Int32 → Int32 → Option (Int32)) (l1 : Int32) (l2 : Int32) : Option (Int32) :=
  if (m_s (Int32.toNatClampNeg 4)) ≤ l2 then
    some (-1)
  else
    f_X11_byName_L17 N m_s r2 N l1 l2 0 0
def f_X11_byName_L2 (N : Nat) (m_s : Nat → Int32)  : Nat → Int32 → Int32 → Option (Int32)
  | 0 => fun _ _ => none
  | j + 1 => f_X11_byName_L2_F N m_s (f_X11_byName_L2 N m_s j)
def f_X11_byName (N : Nat) (m_s : Nat → Int32) (a0 : Int32) : Option (Int32) :=
  f_X11_byName_L2 N m_s N a0 0
def f_X11_writeRecords_L46 (N : Nat) (m_s : Nat → Int32) (r12 : Int32 → Int32 → Int32 → (Nat → Int32) → Option (Int32 × Int32 × Int32 × (Nat → Int32))) (l1 : Int32) (m_thrown : Int32) (m_outputLength : Int32) (m_output : Nat → Int32) : Option (Int32 × Int32 × Int32 × (Nat → Int32)) :=
  r12 (l1 + 1) m_thrown m_outputLength m_output
def f_X11_writeRecords_L12_F (N : Nat) (m_s : Nat → Int32)  (r12 : Int32 → Int32 → Int32 → (Nat → Int32) → Option (Int32 × Int32 × Int32 × (Nat → Int32))) (l1 : Int32) (m_thrown : Int32) (m_outputLength : Int32) (m_output : Nat → Int32) : Option (Int32 × Int32 × Int32 × (Nat → Int32)) :=
  if (m_s (Int32.toNatClampNeg 4)) ≤ l1 then
    some (m_outputLength, m_thrown, m_outputLength, m_output)
  else
    (f_X11_byName N m_s l1).bind fun t1 =>
    (f_X11_throwsBy N 1399 m_s t1).bind fun t2 =>
    if t2 ≤ 0 then
      f_X11_writeRecords_L46 N m_s r12 l1 m_thrown m_outputLength m_output
    else
      (f_X11_byName N m_s l1).bind fun t3 =>
      (f_X11_printPlayer N m_s m_outputLength m_output t3).bind fun t4 =>
      f_X11_writeRecords_L46 N m_s r12 l1 m_thrown t4.1 t4.2
def f_X11_writeRecords_L12 (N : Nat) (m_s : Nat → Int32)  : Nat → Int32 → Int32 → Int32 → (Nat → Int32) → Option (Int32 × Int32 × Int32 × (Nat → Int32))
  | 0 => fun _ _ _ _ => none
  | j + 1 => f_X11_writeRecords_L12_F N m_s (f_X11_writeRecords_L12 N m_s j)
def f_X11_writeRecords (N : Nat) (m_s : Nat → Int32) (m_thrown : Int32) (m_outputLength : Int32) (m_output : Nat → Int32) : Option (Int32 × Int32 × Int32 × (Nat → Int32)) :=
  f_X11_writeRecords_L12 N m_s N 0 0 0 m_output
def f_X11_writeFaces_L70 (N : Nat) (m_s : Nat → Int32) (r17 : Int32 → Int32 → Int32 → Int32 → (Nat → Int32) → Option (Int32 × Int32 × Int32 × (Nat → Int32))) (l1 : Int32) (l2 : Int32) (m_thrown : Int32) (m_outputLength : Int32) (m_output : Nat → Int32) : Option (Int32 × Int32 × Int32 × (Nat → Int32)) :=
  r17 l1 (l2 + 1) m_thrown m_outputLength m_output
def f_X11_writeFaces_L55 (N : Nat) (m_s : Nat → Int32) (r17 : Int32 → Int32 → Int32 → Int32 → (Nat → Int32) → Option (Int32 × Int32 × Int32 × (Nat → Int32))) (l1 : Int32) (l2 : Int32) (m_thrown : Int32) (m_outputLength : Int32) (m_output : Nat → Int32) : Option (Int32 × Int32 × Int32 × (Nat → Int32)) :=
  (f_X11_ofThrow l2).bind fun t3 =>
  gd (inb (t3 + 2) 1399) <|
  (f_X11_printNumber N m_outputLength m_output (m_s (Int32.toNatClampNeg (t3 + 2)))).bind fun t4 =>
  f_X11_writeFaces_L70 N m_s r17 l1 l2 m_thrown t4.1 t4.2
def f_X11_writeFaces_L17_F (N : Nat) (m_s : Nat → Int32)  (r17 : Int32 → Int32 → Int32 → Int32 → (Nat → Int32) → Option (Int32 × Int32 × Int32 × (Nat → Int32))) (l1 : Int32) (l2 : Int32) (m_thrown : Int32) (m_outputLength : Int32) (m_output : Nat → Int32) : Option (Int32 × Int32 × Int32 × (Nat → Int32)) :=
  if (m_s (Int32.toNatClampNeg 5)) ≤ l2 then
    some (m_outputLength, m_thrown, m_outputLength, m_output)
  else
    (f_X11_ofThrow l2).bind fun t2 =>
    gd (inb (t2 + 0) 1399) <|
    if (m_s (Int32.toNatClampNeg (t2 + 0))) = l1 then
      if m_outputLength ≤ 0 then
        f_X11_writeFaces_L55 N m_s r17 l1 l2 m_thrown m_outputLength m_output
      else
        (f_X11_print m_outputLength m_output 44).bind fun t3 =>
        f_X11_writeFaces_L55 N m_s r17 l1 l2 m_thrown t3.1 t3.2
    else
      f_X11_writeFaces_L70 N m_s r17 l1 l2 m_thrown m_outputLength m_output
def f_X11_writeFaces_L17 (N : Nat) (m_s : Nat → Int32)  : Nat → Int32 → Int32 → Int32 → Int32 → (Nat → Int32) → Option (Int32 × Int32 × Int32 × (Nat → Int32))
  | 0 => fun _ _ _ _ _ => none
  | j + 1 => f_X11_writeFaces_L17_F N m_s (f_X11_writeFaces_L17 N m_s j)
def f_X11_writeFaces (N : Nat) (m_s : Nat → Int32) (m_thrown : Int32) (m_outputLength : Int32) (m_output : Nat → Int32) (a0 : Int32) : Option (Int32 × Int32 × Int32 × (Nat → Int32)) :=
  (f_X11_noPlayer m_s m_thrown a0).bind fun t1 =>
  if t1.1 = 0 then
    f_X11_writeFaces_L17 N m_s N a0 0 t1.2 0 m_output
  else
    some (0, t1.2, m_outputLength, m_output)
def f_X11_outputByte (m_outputLength : Int32) (m_output : Nat → Int32) (m_thrown : Int32) (a0 : Int32) : Option (Int32 × Int32) :=
  (f_X11_noNumber m_thrown a0 0 (m_outputLength - 1)).bind fun t1 =>
  if t1.1 = 0 then
    gd (inb a0 1000) <|
    some ((m_output (Int32.toNatClampNeg a0)), t1.2)
  else
    some (0, t1.2)
def f_X11_save (N : Nat) (m_s : Nat → Int32) (m_thrown : Int32) (m_slots : Nat → Int32) (m_kept : Nat → Int32) (a0 : Int32) : Option (Int32 × Int32 × (Nat → Int32) × (Nat → Int32)) :=
  (f_X11_noNumber m_thrown a0 0 1).bind fun t1 =>
  if t1.1 = 0 then
    (f_X11_copyRow N 1399 m_s 2798 m_slots 0 (1399 * a0)).bind fun t2 =>
    gd (inb a0 2) <|
    some ((m_s (Int32.toNatClampNeg 5)), t1.2, t2, (upd m_kept (Int32.toNatClampNeg a0) (vp_nar .boolean 1)))
  else
    some (0, t1.2, m_slots, m_kept)
def f_X11_restore_L25 (N : Nat) (m_slots : Nat → Int32) (m_kept : Nat → Int32)  (l1 : Int32) (s0 : Int32) (m_undoable : Int32) (m_undoStart : Int32) (m_thrown : Int32) (m_s : Nat → Int32) (m_remembered : Nat → Int32) : Option (Int32 × Int32 × Int32 × Int32 × (Nat → Int32) × (Nat → Int32)) :=
  (f_X11_refuses m_thrown s0 2).bind fun t2 =>
  if t2.1 = 0 then
    (f_X11_remember N m_s m_undoable m_undoStart m_remembered).bind fun t3 =>
    (f_X11_copyRow N 2798 m_slots 1399 m_s (1399 * l1) 0).bind fun t4 =>
    some ((t4 (Int32.toNatClampNeg 5)), t3.1, t3.2.1, t2.2, t4, t3.2.2)
  else
    some (0, m_undoable, m_undoStart, t2.2, m_s, m_remembered)
def f_X11_restore (N : Nat) (m_slots : Nat → Int32) (m_kept : Nat → Int32) (m_undoable : Int32) (m_undoStart : Int32) (m_thrown : Int32) (m_s : Nat → Int32) (m_remembered : Nat → Int32) (a0 : Int32) : Option (Int32 × Int32 × Int32 × Int32 × (Nat → Int32) × (Nat → Int32)) :=
  (f_X11_noNumber m_thrown a0 0 1).bind fun t1 =>
  if t1.1 = 0 then
    gd (inb a0 2) <|
    if (m_kept (Int32.toNatClampNeg a0)) = 0 then
      f_X11_restore_L25 N m_slots m_kept a0 1 m_undoable m_undoStart t1.2 m_s m_remembered
    else
      f_X11_restore_L25 N m_slots m_kept a0 0 m_undoable m_undoStart t1.2 m_s m_remembered
  else
    some (0, m_undoable, m_undoStart, t1.2, m_s, m_remembered)
def f_L_appendInput (N : Nat)  (itl : Int32) (itb : Nat → Int32) (ov : Nat → Int64) (a1 : Int32) (a2 : Int32) (a3 : Int32) (a4 : Int32) (a5 : Int32) : Option (Int32 × Int32 × (Nat → Int32) × (Nat → Int64)) :=
  hbd (f_X10_appendInput N itl itb a1 a2 a3 a4 a5) (fun C9 => if C9 = "java/lang/IllegalStateException" then some (1, itl, itb, ov) else none) fun t1 =>
  some (0, t1.2.1, t1.2.2, (vp_updL ov (Int32.toNatClampNeg 0) t1.1.toInt64))
def f_L_truncateInput  (itl : Int32) (ov : Nat → Int64) (a1 : Int32) : Option (Int32 × Int32 × (Nat → Int64)) :=
  hbd (f_X10_truncateInput itl a1) (fun C9 => if C9 = "java/lang/IllegalArgumentException" then some (1, itl, ov) else none) fun t1 =>
  some (0, t1.2, (vp_updL ov (Int32.toNatClampNeg 0) t1.1.toInt64))
def f_L_load (N : Nat) (itb : Nat → Int32) (sd : Int32) (mn : Int32) (th : Int32) (dc : Int32) (fc : Nat → Int32) (dw : Nat → Int32) (pc : Int32) (ln : Nat → Int32) (lt : Nat → Int32) (tc : Int32) (en : Nat → Int32) (fr : Nat → Int32) (oc : Int32) (op : Nat → Int32) (os : Nat → Int32) (nx : Int32) (dp : Int32) (itl : Int32) (ec : Int32) (eo : Int32) (d_sd : Int32) (d_mn : Int32) (d_th : Int32) (d_dc : Int32) (d_fc : Nat → Int32) (d_dw : Nat → Int32) (d_pc : Int32) (d_ln : Nat → Int32) (d_lt : Nat → Int32) (d_tc : Int32) (d_en : Nat → Int32) (d_fr : Nat → Int32) (d_oc : Int32) (d_op : Nat → Int32) (d_os : Nat → Int32) (kd : Int32) (ts : Int32) (te : Int32) (tv : Int32) (ov : Nat → Int64) (v_sd : Int32) (v_mn : Int32) (v_th : Int32) (v_dc : Int32) (v_fc : Nat → Int32) (v_dw : Nat → Int32) (v_pc : Int32) (v_ln : Nat → Int32) (v_lt : Nat → Int32) (v_tc : Int32) (v_en : Nat → Int32) (v_fr : Nat → Int32) (v_oc : Int32) (v_op : Nat → Int32) (v_os : Nat → Int32) : Option (Int32 × Int32 × Int32 × Int32 × Int32 × (Nat → Int32) × (Nat → Int32) × Int32 × (Nat → Int32) × (Nat → Int32) × Int32 × (Nat → Int32) × (Nat → Int32) × Int32 × (Nat → Int32) × (Nat → Int32) × Int32 × Int32 × Int32 × Int32 × Int32 × Int32 × Int32 × Int32 × Int32 × (Nat → Int32) × (Nat → Int32) × Int32 × (Nat → Int32) × (Nat → Int32) × Int32 × (Nat → Int32) × (Nat → Int32) × Int32 × (Nat → Int32) × (Nat → Int32) × Int32 × Int32 × Int32 × Int32 × (Nat → Int64) × Int32 × Int32 × Int32 × Int32 × (Nat → Int32) × (Nat → Int32) × Int32 × (Nat → Int32) × (Nat → Int32) × Int32 × (Nat → Int32) × (Nat → Int32) × Int32 × (Nat → Int32) × (Nat → Int32)) :=
  hbdw (f_X10_load N itb sd mn th dc fc dw pc ln lt tc en fr oc op os nx dp itl ec eo d_sd d_mn d_th d_dc d_fc d_dw d_pc d_ln d_lt d_tc d_en d_fr d_oc d_op d_os kd ts te tv v_sd v_mn v_th v_dc v_fc v_dw v_pc v_ln v_lt v_tc v_en v_fr v_oc v_op v_os) (fun C9 u9 => if C9 = "java/lang/IllegalArgumentException" then some (1, u9.1, u9.2.1, u9.2.2.1, u9.2.2.2.1, u9.2.2.2.2.1, u9.2.2.2.2.2.1, u9.2.2.2.2.2.2.1, u9.2.2.2.2.2.2.2.1, u9.2.2.2.2.2.2.2.2.1, u9.2.2.2.2.2.2.2.2.2.1, u9.2.2.2.2.2.2.2.2.2.2.1, u9.2.2.2.2.2.2.2.2.2.2.2.1, u9.2.2.2.2.2.2.2.2.2.2.2.2.1, u9.2.2.2.2.2.2.2.2.2.2.2.2.2.1, u9.2.2.2.2.2.2.2.2.2.2.2.2.2.2.1, u9.2.2.2.2.2.2.2.2.2.2.2.2.2.2.2.1, u9.2.2.2.2.2.2.2.2.2.2.2.2.2.2.2.2.1, u9.2.2.2.2.2.2.2.2.2.2.2.2.2.2.2.2.2.1, u9.2.2.2.2.2.2.2.2.2.2.2.2.2.2.2.2.2.2.1, u9.2.2.2.2.2.2.2.2.2.2.2.2.2.2.2.2.2.2.2.1, u9.2.2.2.2.2.2.2.2.2.2.2.2.2.2.2.2.2.2.2.2.1, u9.2.2.2.2.2.2.2.2.2.2.2.2.2.2.2.2.2.2.2.2.2.1, u9.2.2.2.2.2.2.2.2.2.2.2.2.2.2.2.2.2.2.2.2.2.2.1, u9.2.2.2.2.2.2.2.2.2.2.2.2.2.2.2.2.2.2.2.2.2.2.2.1, u9.2.2.2.2.2.2.2.2.2.2.2.2.2.2.2.2.2.2.2.2.2.2.2.2.1, u9.2.2.2.2.2.2.2.2.2.2.2.2.2.2.2.2.2.2.2.2.2.2.2.2.2.1, u9.2.2.2.2.2.2.2.2.2.2.2.2.2.2.2.2.2.2.2.2.2.2.2.2.2.2.1, u9.2.2.2.2.2.2.2.2.2.2.2.2.2.2.2.2.2.2.2.2.2.2.2.2.2.2.2.1, u9.2.2.2.2.2.2.2.2.2.2.2.2.2.2.2.2.2.2.2.2.2.2.2.2.2.2.2.2.1, u9.2.2.2.2.2.2.2.2.2.2.2.2.2.2.2.2.2.2.2.2.2.2.2.2.2.2.2.2.2.1, u9.2.2.2.2.2.2.2.2.2.2.2.2.2.2.2.2.2.2.2.2.2.2.2.2.2.2.2.2.2.2.1, u9.2.2.2.2.2.2.2.2.2.2.2.2.2.2.2.2.2.2.2.2.2.2.2.2.2.2.2.2.2.2.2.1, u9.2.2.2.2.2.2.2.2.2.2.2.2.2.2.2.2.2.2.2.2.2.2.2.2.2.2.2.2.2.2.2.2.1, u9.2.2.2.2.2.2.2.2.2.2.2.2.2.2.2.2.2.2.2.2.2.2.2.2.2.2.2.2.2.2.2.2.2.1, u9.2.2.2.2.2.2.2.2.2.2.2.2.2.2.2.2.2.2.2.2.2.2.2.2.2.2.2.2.2.2.2.2.2.2.1, u9.2.2.2.2.2.2.2.2.2.2.2.2.2.2.2.2.2.2.2.2.2.2.2.2.2.2.2.2.2.2.2.2.2.2.2.1, u9.2.2.2.2.2.2.2.2.2.2.2.2.2.2.2.2.2.2.2.2.2.2.2.2.2.2.2.2.2.2.2.2.2.2.2.2.1, u9.2.2.2.2.2.2.2.2.2.2.2.2.2.2.2.2.2.2.2.2.2.2.2.2.2.2.2.2.2.2.2.2.2.2.2.2.2.1, u9.2.2.2.2.2.2.2.2.2.2.2.2.2.2.2.2.2.2.2.2.2.2.2.2.2.2.2.2.2.2.2.2.2.2.2.2.2.2.1, ov, u9.2.2.2.2.2.2.2.2.2.2.2.2.2.2.2.2.2.2.2.2.2.2.2.2.2.2.2.2.2.2.2.2.2.2.2.2.2.2.2.1, u9.2.2.2.2.2.2.2.2.2.2.2.2.2.2.2.2.2.2.2.2.2.2.2.2.2.2.2.2.2.2.2.2.2.2.2.2.2.2.2.2.1, u9.2.2.2.2.2.2.2.2.2.2.2.2.2.2.2.2.2.2.2.2.2.2.2.2.2.2.2.2.2.2.2.2.2.2.2.2.2.2.2.2.2.1, u9.2.2.2.2.2.2.2.2.2.2.2.2.2.2.2.2.2.2.2.2.2.2.2.2.2.2.2.2.2.2.2.2.2.2.2.2.2.2.2.2.2.2.1, u9.2.2.2.2.2.2.2.2.2.2.2.2.2.2.2.2.2.2.2.2.2.2.2.2.2.2.2.2.2.2.2.2.2.2.2.2.2.2.2.2.2.2.2.1, u9.2.2.2.2.2.2.2.2.2.2.2.2.2.2.2.2.2.2.2.2.2.2.2.2.2.2.2.2.2.2.2.2.2.2.2.2.2.2.2.2.2.2.2.2.1, u9.2.2.2.2.2.2.2.2.2.2.2.2.2.2.2.2.2.2.2.2.2.2.2.2.2.2.2.2.2.2.2.2.2.2.2.2.2.2.2.2.2.2.2.2.2.1, u9.2.2.2.2.2.2.2.2.2.2.2.2.2.2.2.2.2.2.2.2.2.2.2.2.2.2.2.2.2.2.2.2.2.2.2.2.2.2.2.2.2.2.2.2.2.2.1, u9.2.2.2.2.2.2.2.2.2.2.2.2.2.2.2.2.2.2.2.2.2.2.2.2.2.2.2.2.2.2.2.2.2.2.2.2.2.2.2.2.2.2.2.2.2.2.2.1, u9.2.2.2.2.2.2.2.2.2.2.2.2.2.2.2.2.2.2.2.2.2.2.2.2.2.2.2.2.2.2.2.2.2.2.2.2.2.2.2.2.2.2.2.2.2.2.2.2.1, u9.2.2.2.2.2.2.2.2.2.2.2.2.2.2.2.2.2.2.2.2.2.2.2.2.2.2.2.2.2.2.2.2.2.2.2.2.2.2.2.2.2.2.2.2.2.2.2.2.2.1, u9.2.2.2.2.2.2.2.2.2.2.2.2.2.2.2.2.2.2.2.2.2.2.2.2.2.2.2.2.2.2.2.2.2.2.2.2.2.2.2.2.2.2.2.2.2.2.2.2.2.2.1, u9.2.2.2.2.2.2.2.2.2.2.2.2.2.2.2.2.2.2.2.2.2.2.2.2.2.2.2.2.2.2.2.2.2.2.2.2.2.2.2.2.2.2.2.2.2.2.2.2.2.2.2.1, u9.2.2.2.2.2.2.2.2.2.2.2.2.2.2.2.2.2.2.2.2.2.2.2.2.2.2.2.2.2.2.2.2.2.2.2.2.2.2.2.2.2.2.2.2.2.2.2.2.2.2.2.2.1, u9.2.2.2.2.2.2.2.2.2.2.2.2.2.2.2.2.2.2.2.2.2.2.2.2.2.2.2.2.2.2.2.2.2.2.2.2.2.2.2.2.2.2.2.2.2.2.2.2.2.2.2.2.2) else none) fun t1 =>
  some (0, t1.2.1, t1.2.2.1, t1.2.2.2.1, t1.2.2.2.2.1, t1.2.2.2.2.2.1, t1.2.2.2.2.2.2.1, t1.2.2.2.2.2.2.2.1, t1.2.2.2.2.2.2.2.2.1, t1.2.2.2.2.2.2.2.2.2.1, t1.2.2.2.2.2.2.2.2.2.2.1, t1.2.2.2.2.2.2.2.2.2.2.2.1, t1.2.2.2.2.2.2.2.2.2.2.2.2.1, t1.2.2.2.2.2.2.2.2.2.2.2.2.2.1, t1.2.2.2.2.2.2.2.2.2.2.2.2.2.2.1, t1.2.2.2.2.2.2.2.2.2.2.2.2.2.2.2.1, t1.2.2.2.2.2.2.2.2.2.2.2.2.2.2.2.2.1, t1.2.2.2.2.2.2.2.2.2.2.2.2.2.2.2.2.2.1, t1.2.2.2.2.2.2.2.2.2.2.2.2.2.2.2.2.2.2.1, t1.2.2.2.2.2.2.2.2.2.2.2.2.2.2.2.2.2.2.2.1, t1.2.2.2.2.2.2.2.2.2.2.2.2.2.2.2.2.2.2.2.2.1, t1.2.2.2.2.2.2.2.2.2.2.2.2.2.2.2.2.2.2.2.2.2.1, t1.2.2.2.2.2.2.2.2.2.2.2.2.2.2.2.2.2.2.2.2.2.2.1, t1.2.2.2.2.2.2.2.2.2.2.2.2.2.2.2.2.2.2.2.2.2.2.2.1, t1.2.2.2.2.2.2.2.2.2.2.2.2.2.2.2.2.2.2.2.2.2.2.2.2.1, t1.2.2.2.2.2.2.2.2.2.2.2.2.2.2.2.2.2.2.2.2.2.2.2.2.2.1, t1.2.2.2.2.2.2.2.2.2.2.2.2.2.2.2.2.2.2.2.2.2.2.2.2.2.2.1, t1.2.2.2.2.2.2.2.2.2.2.2.2.2.2.2.2.2.2.2.2.2.2.2.2.2.2.2.1, t1.2.2.2.2.2.2.2.2.2.2.2.2.2.2.2.2.2.2.2.2.2.2.2.2.2.2.2.2.1, t1.2.2.2.2.2.2.2.2.2.2.2.2.2.2.2.2.2.2.2.2.2.2.2.2.2.2.2.2.2.1, t1.2.2.2.2.2.2.2.2.2.2.2.2.2.2.2.2.2.2.2.2.2.2.2.2.2.2.2.2.2.2.1, t1.2.2.2.2.2.2.2.2.2.2.2.2.2.2.2.2.2.2.2.2.2.2.2.2.2.2.2.2.2.2.2.1, t1.2.2.2.2.2.2.2.2.2.2.2.2.2.2.2.2.2.2.2.2.2.2.2.2.2.2.2.2.2.2.2.2.1, t1.2.2.2.2.2.2.2.2.2.2.2.2.2.2.2.2.2.2.2.2.2.2.2.2.2.2.2.2.2.2.2.2.2.1, t1.2.2.2.2.2.2.2.2.2.2.2.2.2.2.2.2.2.2.2.2.2.2.2.2.2.2.2.2.2.2.2.2.2.2.1, t1.2.2.2.2.2.2.2.2.2.2.2.2.2.2.2.2.2.2.2.2.2.2.2.2.2.2.2.2.2.2.2.2.2.2.2.1, t1.2.2.2.2.2.2.2.2.2.2.2.2.2.2.2.2.2.2.2.2.2.2.2.2.2.2.2.2.2.2.2.2.2.2.2.2.1, t1.2.2.2.2.2.2.2.2.2.2.2.2.2.2.2.2.2.2.2.2.2.2.2.2.2.2.2.2.2.2.2.2.2.2.2.2.2.1, t1.2.2.2.2.2.2.2.2.2.2.2.2.2.2.2.2.2.2.2.2.2.2.2.2.2.2.2.2.2.2.2.2.2.2.2.2.2.2.1, t1.2.2.2.2.2.2.2.2.2.2.2.2.2.2.2.2.2.2.2.2.2.2.2.2.2.2.2.2.2.2.2.2.2.2.2.2.2.2.2.1, (vp_updL ov (Int32.toNatClampNeg 0) t1.1.toInt64), t1.2.2.2.2.2.2.2.2.2.2.2.2.2.2.2.2.2.2.2.2.2.2.2.2.2.2.2.2.2.2.2.2.2.2.2.2.2.2.2.2.1, t1.2.2.2.2.2.2.2.2.2.2.2.2.2.2.2.2.2.2.2.2.2.2.2.2.2.2.2.2.2.2.2.2.2.2.2.2.2.2.2.2.2.1, t1.2.2.2.2.2.2.2.2.2.2.2.2.2.2.2.2.2.2.2.2.2.2.2.2.2.2.2.2.2.2.2.2.2.2.2.2.2.2.2.2.2.2.1, t1.2.2.2.2.2.2.2.2.2.2.2.2.2.2.2.2.2.2.2.2.2.2.2.2.2.2.2.2.2.2.2.2.2.2.2.2.2.2.2.2.2.2.2.1, t1.2.2.2.2.2.2.2.2.2.2.2.2.2.2.2.2.2.2.2.2.2.2.2.2.2.2.2.2.2.2.2.2.2.2.2.2.2.2.2.2.2.2.2.2.1, t1.2.2.2.2.2.2.2.2.2.2.2.2.2.2.2.2.2.2.2.2.2.2.2.2.2.2.2.2.2.2.2.2.2.2.2.2.2.2.2.2.2.2.2.2.2.1, t1.2.2.2.2.2.2.2.2.2.2.2.2.2.2.2.2.2.2.2.2.2.2.2.2.2.2.2.2.2.2.2.2.2.2.2.2.2.2.2.2.2.2.2.2.2.2.1, t1.2.2.2.2.2.2.2.2.2.2.2.2.2.2.2.2.2.2.2.2.2.2.2.2.2.2.2.2.2.2.2.2.2.2.2.2.2.2.2.2.2.2.2.2.2.2.2.1, t1.2.2.2.2.2.2.2.2.2.2.2.2.2.2.2.2.2.2.2.2.2.2.2.2.2.2.2.2.2.2.2.2.2.2.2.2.2.2.2.2.2.2.2.2.2.2.2.2.1, t1.2.2.2.2.2.2.2.2.2.2.2.2.2.2.2.2.2.2.2.2.2.2.2.2.2.2.2.2.2.2.2.2.2.2.2.2.2.2.2.2.2.2.2.2.2.2.2.2.2.1, t1.2.2.2.2.2.2.2.2.2.2.2.2.2.2.2.2.2.2.2.2.2.2.2.2.2.2.2.2.2.2.2.2.2.2.2.2.2.2.2.2.2.2.2.2.2.2.2.2.2.2.1, t1.2.2.2.2.2.2.2.2.2.2.2.2.2.2.2.2.2.2.2.2.2.2.2.2.2.2.2.2.2.2.2.2.2.2.2.2.2.2.2.2.2.2.2.2.2.2.2.2.2.2.2.1, t1.2.2.2.2.2.2.2.2.2.2.2.2.2.2.2.2.2.2.2.2.2.2.2.2.2.2.2.2.2.2.2.2.2.2.2.2.2.2.2.2.2.2.2.2.2.2.2.2.2.2.2.2.1, t1.2.2.2.2.2.2.2.2.2.2.2.2.2.2.2.2.2.2.2.2.2.2.2.2.2.2.2.2.2.2.2.2.2.2.2.2.2.2.2.2.2.2.2.2.2.2.2.2.2.2.2.2.2.1, t1.2.2.2.2.2.2.2.2.2.2.2.2.2.2.2.2.2.2.2.2.2.2.2.2.2.2.2.2.2.2.2.2.2.2.2.2.2.2.2.2.2.2.2.2.2.2.2.2.2.2.2.2.2.2)
def f_L_faces (dc : Int32) (fc : Nat → Int32) (ov : Nat → Int64) (a1 : Int32) : Option (Int32 × (Nat → Int64)) :=
  hbd (f_X10_faces dc fc a1) (fun C9 => if C9 = "java/lang/IndexOutOfBoundsException" then some (1, ov) else none) fun t1 =>
  some (0, (vp_updL ov (Int32.toNatClampNeg 0) t1.toInt64))
def f_L_weightOf (dc : Int32) (fc : Nat → Int32) (dw : Nat → Int32) (ov : Nat → Int64) (a1 : Int32) (a2 : Int32) : Option (Int32 × (Nat → Int64)) :=
  hbd (f_X10_weightOf dc fc dw a1 a2) (fun C9 => if C9 = "java/lang/IndexOutOfBoundsException" then some (1, ov) else if C9 = "java/lang/IllegalArgumentException" then some (2, ov) else none) fun t1 =>
  some (0, (vp_updL ov (Int32.toNatClampNeg 0) t1.toInt64))
def f_L_isBalanced (N : Nat) (dc : Int32) (fc : Nat → Int32) (dw : Nat → Int32) (ov : Nat → Int64) (a1 : Int32) : Option (Int32 × (Nat → Int64)) :=
  hbd (f_X10_isBalanced N dc fc dw a1) (fun C9 => if C9 = "java/lang/IndexOutOfBoundsException" then some (1, ov) else none) fun t1 =>
  if t1 = 0 then
    some (0, (vp_updL ov (Int32.toNatClampNeg 0) 0))
  else
    some (0, (vp_updL ov (Int32.toNatClampNeg 0) 1))
def f_L_heaviestFace (N : Nat) (dc : Int32) (fc : Nat → Int32) (dw : Nat → Int32) (ov : Nat → Int64) (a1 : Int32) : Option (Int32 × (Nat → Int64)) :=
  hbd (f_X10_heaviestFace N dc fc dw a1) (fun C9 => if C9 = "java/lang/IndexOutOfBoundsException" then some (1, ov) else none) fun t1 =>
  some (0, (vp_updL ov (Int32.toNatClampNeg 0) t1.toInt64))
def f_L_nameByte (pc : Int32) (ln : Nat → Int32) (lt : Nat → Int32) (ov : Nat → Int64) (a1 : Int32) (a2 : Int32) : Option (Int32 × (Nat → Int64)) :=
  hbd (f_X10_nameByte pc ln lt a1 a2) (fun C9 => if C9 = "java/lang/IndexOutOfBoundsException" then some (1, ov) else if C9 = "java/util/NoSuchElementException" then some (2, ov) else none) fun t1 =>
  some (0, (vp_updL ov (Int32.toNatClampNeg 0) t1.toInt64))
def f_L_playerAt (tc : Int32) (en : Nat → Int32) (ov : Nat → Int64) (a1 : Int32) : Option (Int32 × (Nat → Int64)) :=
  hbd (f_X10_playerAt tc en a1) (fun C9 => if C9 = "java/lang/IndexOutOfBoundsException" then some (1, ov) else none) fun t1 =>
  some (0, (vp_updL ov (Int32.toNatClampNeg 0) t1.toInt64))
def f_L_dieAt (tc : Int32) (en : Nat → Int32) (ov : Nat → Int64) (a1 : Int32) : Option (Int32 × (Nat → Int64)) :=
  hbd (f_X10_dieAt tc en a1) (fun C9 => if C9 = "java/lang/IndexOutOfBoundsException" then some (1, ov) else none) fun t1 =>
  some (0, (vp_updL ov (Int32.toNatClampNeg 0) t1.toInt64))
def f_L_faceAt (tc : Int32) (en : Nat → Int32) (ov : Nat → Int64) (a1 : Int32) : Option (Int32 × (Nat → Int64)) :=
  hbd (f_X10_faceAt tc en a1) (fun C9 => if C9 = "java/lang/IndexOutOfBoundsException" then some (1, ov) else none) fun t1 =>
  some (0, (vp_updL ov (Int32.toNatClampNeg 0) t1.toInt64))
def f_L_isFairAt (tc : Int32) (en : Nat → Int32) (ov : Nat → Int64) (a1 : Int32) : Option (Int32 × (Nat → Int64)) :=
  hbd (f_X10_isFairAt tc en a1) (fun C9 => if C9 = "java/lang/IndexOutOfBoundsException" then some (1, ov) else none) fun t1 =>
  if t1 = 0 then
    some (0, (vp_updL ov (Int32.toNatClampNeg 0) 0))
  else
    some (0, (vp_updL ov (Int32.toNatClampNeg 0) 1))
def f_L_throwsOf (N : Nat) (pc : Int32) (fr : Nat → Int32) (ov : Nat → Int64) (a1 : Int32) : Option (Int32 × (Nat → Int64)) :=
  hbd (f_X10_throwsOf N pc fr a1) (fun C9 => if C9 = "java/lang/IndexOutOfBoundsException" then some (1, ov) else none) fun t1 =>
  some (0, (vp_updL ov (Int32.toNatClampNeg 0) t1.toInt64))
def f_L_total (N : Nat) (pc : Int32) (fr : Nat → Int32) (ov : Nat → Int64) (a1 : Int32) : Option (Int32 × (Nat → Int64)) :=
  hbd (f_X10_total N pc fr a1) (fun C9 => if C9 = "java/lang/IndexOutOfBoundsException" then some (1, ov) else none) fun t1 =>
  some (0, (vp_updL ov (Int32.toNatClampNeg 0) t1.toInt64))
def f_L_meanFace (N : Nat) (pc : Int32) (fr : Nat → Int32) (ow : Nat → UInt64) (a1 : Int32) : Option (Int32 × (Nat → UInt64)) :=
  hbd (f_X10_meanFace N pc fr a1) (fun C9 => if C9 = "java/lang/IndexOutOfBoundsException" then some (1, ow) else none) fun t1 =>
  some (0, (vf_upd ow (Int32.toNatClampNeg 0) t1))
def f_L_rankOf (N : Nat) (pc : Int32) (lt : Nat → Int32) (fr : Nat → Int32) (ov : Nat → Int64) (a1 : Int32) : Option (Int32 × (Nat → Int64)) :=
  hbd (f_X10_rankOf N pc lt fr a1) (fun C9 => if C9 = "java/lang/IndexOutOfBoundsException" then some (1, ov) else none) fun t1 =>
  some (0, (vp_updL ov (Int32.toNatClampNeg 0) t1.toInt64))
def f_L_playerWithRank (N : Nat) (pc : Int32) (lt : Nat → Int32) (fr : Nat → Int32) (ov : Nat → Int64) (a1 : Int32) : Option (Int32 × (Nat → Int64)) :=
  hbd (f_X10_playerWithRank N pc lt fr a1) (fun C9 => if C9 = "java/util/NoSuchElementException" then some (1, ov) else none) fun t1 =>
  some (0, (vp_updL ov (Int32.toNatClampNeg 0) t1.toInt64))
def f_L_longestRun (N : Nat) (pc : Int32) (tc : Int32) (en : Nat → Int32) (ov : Nat → Int64) (a1 : Int32) : Option (Int32 × (Nat → Int64)) :=
  hbd (f_X10_longestRun N pc tc en a1) (fun C9 => if C9 = "java/lang/IndexOutOfBoundsException" then some (1, ov) else none) fun t1 =>
  some (0, (vp_updL ov (Int32.toNatClampNeg 0) t1.toInt64))
def f_L_throwsOfPair (N : Nat) (dc : Int32) (pc : Int32) (fr : Nat → Int32) (ov : Nat → Int64) (a1 : Int32) (a2 : Int32) : Option (Int32 × (Nat → Int64)) :=
  hbd (f_X10_throwsOfPair N dc pc fr a1 a2) (fun C9 => if C9 = "java/lang/IndexOutOfBoundsException" then some (1, ov) else none) fun t1 =>
  some (0, (vp_updL ov (Int32.toNatClampNeg 0) t1.toInt64))
def f_L_frequency (dc : Int32) (fc : Nat → Int32) (pc : Int32) (fr : Nat → Int32) (ov : Nat → Int64) (a1 : Int32) (a2 : Int32) (a3 : Int32) : Option (Int32 × (Nat → Int64)) :=
  hbd (f_X10_frequency dc fc pc fr a1 a2 a3) (fun C9 => if C9 = "java/lang/IndexOutOfBoundsException" then some (1, ov) else if C9 = "java/lang/IllegalArgumentException" then some (2, ov) else none) fun t1 =>
  some (0, (vp_updL ov (Int32.toNatClampNeg 0) t1.toInt64))
def f_L_commonFace (N : Nat) (dc : Int32) (fc : Nat → Int32) (pc : Int32) (fr : Nat → Int32) (ov : Nat → Int64) (a1 : Int32) (a2 : Int32) : Option (Int32 × (Nat → Int64)) :=
  hbd (f_X10_commonFace N dc fc pc fr a1 a2) (fun C9 => if C9 = "java/lang/IndexOutOfBoundsException" then some (1, ov) else none) fun t1 =>
  some (0, (vp_updL ov (Int32.toNatClampNeg 0) t1.toInt64))
def f_L_facesSeen (N : Nat) (dc : Int32) (pc : Int32) (fr : Nat → Int32) (ov : Nat → Int64) (a1 : Int32) (a2 : Int32) : Option (Int32 × (Nat → Int64)) :=
  hbd (f_X10_facesSeen N dc pc fr a1 a2) (fun C9 => if C9 = "java/lang/IndexOutOfBoundsException" then some (1, ov) else none) fun t1 =>
  some (0, (vp_updL ov (Int32.toNatClampNeg 0) t1.toInt64))
def f_L_latestThrow (N : Nat) (dc : Int32) (pc : Int32) (tc : Int32) (en : Nat → Int32) (ov : Nat → Int64) (a1 : Int32) (a2 : Int32) : Option (Int32 × (Nat → Int64)) :=
  hbd (f_X10_latestThrow N dc pc tc en a1 a2) (fun C9 => if C9 = "java/lang/IndexOutOfBoundsException" then some (1, ov) else none) fun t1 =>
  some (0, (vp_updL ov (Int32.toNatClampNeg 0) t1.toInt64))
def f_L_score (N : Nat) (dc : Int32) (fc : Nat → Int32) (pc : Int32) (fr : Nat → Int32) (ov : Nat → Int64) (a1 : Int32) (a2 : Int32) : Option (Int32 × (Nat → Int64)) :=
  hbd (f_X10_score N dc fc pc fr a1 a2) (fun C9 => if C9 = "java/lang/IndexOutOfBoundsException" then some (1, ov) else none) fun t1 =>
  some (0, (vp_updL ov (Int32.toNatClampNeg 0) t1.toInt64))
def f_L_isSuspicious (N : Nat) (mn : Int32) (th : Int32) (dc : Int32) (fc : Nat → Int32) (pc : Int32) (fr : Nat → Int32) (ov : Nat → Int64) (a1 : Int32) (a2 : Int32) : Option (Int32 × (Nat → Int64)) :=
  hbd (f_X10_isSuspicious N mn th dc fc pc fr a1 a2) (fun C9 => if C9 = "java/lang/IndexOutOfBoundsException" then some (1, ov) else none) fun t1 =>
  if t1 = 0 then
    some (0, (vp_updL ov (Int32.toNatClampNeg 0) 0))
  else
    some (0, (vp_updL ov (Int32.toNatClampNeg 0) 1))
def f_L_offencePlayer (oc : Int32) (op : Nat → Int32) (ov : Nat → Int64) (a1 : Int32) : Option (Int32 × (Nat → Int64)) :=
  hbd (f_X10_offencePlayer oc op a1) (fun C9 => if C9 = "java/lang/IndexOutOfBoundsException" then some (1, ov) else none) fun t1 =>
  some (0, (vp_updL ov (Int32.toNatClampNeg 0) t1.toInt64))
def f_L_offenceDie (oc : Int32) (op : Nat → Int32) (ov : Nat → Int64) (a1 : Int32) : Option (Int32 × (Nat → Int64)) :=
  hbd (f_X10_offenceDie oc op a1) (fun C9 => if C9 = "java/lang/IndexOutOfBoundsException" then some (1, ov) else none) fun t1 =>
  some (0, (vp_updL ov (Int32.toNatClampNeg 0) t1.toInt64))
def f_L_offenceScore (oc : Int32) (os : Nat → Int32) (ov : Nat → Int64) (a1 : Int32) : Option (Int32 × (Nat → Int64)) :=
  hbd (f_X10_offenceScore oc os a1) (fun C9 => if C9 = "java/lang/IndexOutOfBoundsException" then some (1, ov) else none) fun t1 =>
  some (0, (vp_updL ov (Int32.toNatClampNeg 0) t1.toInt64))
def f_L_offencesOf (N : Nat) (pc : Int32) (oc : Int32) (op : Nat → Int32) (ov : Nat → Int64) (a1 : Int32) : Option (Int32 × (Nat → Int64)) :=
  hbd (f_X10_offencesOf N pc oc op a1) (fun C9 => if C9 = "java/lang/IndexOutOfBoundsException" then some (1, ov) else none) fun t1 =>
  some (0, (vp_updL ov (Int32.toNatClampNeg 0) t1.toInt64))
def f_L_nextFace (N : Nat) (sd : Int32) (dc : Int32) (fc : Nat → Int32) (dw : Nat → Int32) (ov : Nat → Int64) (a1 : Int32) : Option (Int32 × (Nat → Int64)) :=
  hbd (f_X10_nextFace N sd dc fc dw a1) (fun C9 => if C9 = "java/lang/IndexOutOfBoundsException" then some (1, ov) else none) fun t1 =>
  some (0, (vp_updL ov (Int32.toNatClampNeg 0) t1.toInt64))
def f_L_faceAfter (N : Nat) (sd : Int32) (dc : Int32) (fc : Nat → Int32) (dw : Nat → Int32) (ov : Nat → Int64) (a1 : Int32) (a2 : Int32) : Option (Int32 × (Nat → Int64)) :=
  hbd (f_X10_faceAfter N sd dc fc dw a1 a2) (fun C9 => if C9 = "java/lang/IndexOutOfBoundsException" then some (1, ov) else if C9 = "java/lang/IllegalArgumentException" then some (2, ov) else none) fun t1 =>
  some (0, (vp_updL ov (Int32.toNatClampNeg 0) t1.toInt64))
def f_L_throwsUntil (N : Nat) (sd : Int32) (dc : Int32) (fc : Nat → Int32) (dw : Nat → Int32) (ov : Nat → Int64) (a1 : Int32) (a2 : Int32) : Option (Int32 × (Nat → Int64)) :=
  hbd (f_X10_throwsUntil N sd dc fc dw a1 a2) (fun C9 => if C9 = "java/lang/IndexOutOfBoundsException" then some (1, ov) else if C9 = "java/lang/IllegalArgumentException" then some (2, ov) else none) fun t1 =>
  some (0, (vp_updL ov (Int32.toNatClampNeg 0) t1.toInt64))
def f_L_scoreAfter (N : Nat) (sd : Int32) (dc : Int32) (fc : Nat → Int32) (dw : Nat → Int32) (pc : Int32) (fr : Nat → Int32) (fd : Int32) (fs : Int32) (ff : Nat → Int32) (ov : Nat → Int64) (a1 : Int32) (a2 : Int32) (a3 : Int32) : Option (Int32 × Int32 × Int32 × (Nat → Int32) × (Nat → Int64)) :=
  hbd (f_X10_scoreAfter N sd dc fc dw pc fr fd fs ff a1 a2 a3) (fun C9 => if C9 = "java/lang/IndexOutOfBoundsException" then some (1, fd, fs, ff, ov) else if C9 = "java/lang/IllegalArgumentException" then some (2, fd, fs, ff, ov) else none) fun t1 =>
  some (0, t1.2.1, t1.2.2.1, t1.2.2.2, (vp_updL ov (Int32.toNatClampNeg 0) t1.1.toInt64))
def f_L_throwsUntilSuspicious (N : Nat) (sd : Int32) (mn : Int32) (th : Int32) (dc : Int32) (fc : Nat → Int32) (dw : Nat → Int32) (pc : Int32) (fr : Nat → Int32) (fd : Int32) (fs : Int32) (ff : Nat → Int32) (ov : Nat → Int64) (a1 : Int32) (a2 : Int32) : Option (Int32 × Int32 × Int32 × (Nat → Int32) × (Nat → Int64)) :=
  hbd (f_X10_throwsUntilSuspicious N sd mn th dc fc dw pc fr fd fs ff a1 a2) (fun C9 => if C9 = "java/lang/IndexOutOfBoundsException" then some (1, fd, fs, ff, ov) else none) fun t1 =>
  some (0, t1.2.1, t1.2.2.1, t1.2.2.2, (vp_updL ov (Int32.toNatClampNeg 0) t1.1.toInt64))
def f_L_throwDie (N : Nat) (mn : Int32) (th : Int32) (dc : Int32) (fc : Nat → Int32) (dw : Nat → Int32) (pc : Int32) (ln : Nat → Int32) (lt : Nat → Int32) (oc : Int32) (op : Nat → Int32) (os : Nat → Int32) (sd : Int32) (tc : Int32) (en : Nat → Int32) (fr : Nat → Int32) (nx : Int32) (dp : Int32) (ov : Nat → Int64) (v_sd : Int32) (v_mn : Int32) (v_th : Int32) (v_dc : Int32) (v_fc : Nat → Int32) (v_dw : Nat → Int32) (v_pc : Int32) (v_ln : Nat → Int32) (v_lt : Nat → Int32) (v_tc : Int32) (v_en : Nat → Int32) (v_fr : Nat → Int32) (v_oc : Int32) (v_op : Nat → Int32) (v_os : Nat → Int32) (a1 : Int32) (a2 : Int32) (a3 : Int32) : Option (Int32 × Int32 × Int32 × (Nat → Int32) × (Nat → Int32) × Int32 × Int32 × (Nat → Int64) × Int32 × Int32 × Int32 × Int32 × (Nat → Int32) × (Nat → Int32) × Int32 × (Nat → Int32) × (Nat → Int32) × Int32 × (Nat → Int32) × (Nat → Int32) × Int32 × (Nat → Int32) × (Nat → Int32)) :=
  hbd (f_X10_throwDie N mn th dc fc dw pc ln lt oc op os sd tc en fr nx dp v_sd v_mn v_th v_dc v_fc v_dw v_pc v_ln v_lt v_tc v_en v_fr v_oc v_op v_os a1 a2 a3) (fun C9 => if C9 = "java/lang/IndexOutOfBoundsException" then some (1, sd, tc, en, fr, nx, dp, ov, v_sd, v_mn, v_th, v_dc, v_fc, v_dw, v_pc, v_ln, v_lt, v_tc, v_en, v_fr, v_oc, v_op, v_os) else if C9 = "java/lang/IllegalArgumentException" then some (2, sd, tc, en, fr, nx, dp, ov, v_sd, v_mn, v_th, v_dc, v_fc, v_dw, v_pc, v_ln, v_lt, v_tc, v_en, v_fr, v_oc, v_op, v_os) else if C9 = "java/lang/IllegalStateException" then some (3, sd, tc, en, fr, nx, dp, ov, v_sd, v_mn, v_th, v_dc, v_fc, v_dw, v_pc, v_ln, v_lt, v_tc, v_en, v_fr, v_oc, v_op, v_os) else none) fun t1 =>
  some (0, t1.2.1, t1.2.2.1, t1.2.2.2.1, t1.2.2.2.2.1, t1.2.2.2.2.2.1, t1.2.2.2.2.2.2.1, (vp_updL ov (Int32.toNatClampNeg 0) t1.1.toInt64), t1.2.2.2.2.2.2.2.1, t1.2.2.2.2.2.2.2.2.1, t1.2.2.2.2.2.2.2.2.2.1, t1.2.2.2.2.2.2.2.2.2.2.1, t1.2.2.2.2.2.2.2.2.2.2.2.1, t1.2.2.2.2.2.2.2.2.2.2.2.2.1, t1.2.2.2.2.2.2.2.2.2.2.2.2.2.1, t1.2.2.2.2.2.2.2.2.2.2.2.2.2.2.1, t1.2.2.2.2.2.2.2.2.2.2.2.2.2.2.2.1, t1.2.2.2.2.2.2.2.2.2.2.2.2.2.2.2.2.1, t1.2.2.2.2.2.2.2.2.2.2.2.2.2.2.2.2.2.1, t1.2.2.2.2.2.2.2.2.2.2.2.2.2.2.2.2.2.2.1, t1.2.2.2.2.2.2.2.2.2.2.2.2.2.2.2.2.2.2.2.1, t1.2.2.2.2.2.2.2.2.2.2.2.2.2.2.2.2.2.2.2.2.1, t1.2.2.2.2.2.2.2.2.2.2.2.2.2.2.2.2.2.2.2.2.2)
def f_L_absolve (N : Nat) (mn : Int32) (th : Int32) (dc : Int32) (fc : Nat → Int32) (dw : Nat → Int32) (pc : Int32) (ln : Nat → Int32) (lt : Nat → Int32) (sd : Int32) (tc : Int32) (en : Nat → Int32) (fr : Nat → Int32) (oc : Int32) (op : Nat → Int32) (os : Nat → Int32) (nx : Int32) (dp : Int32) (ov : Nat → Int64) (v_sd : Int32) (v_mn : Int32) (v_th : Int32) (v_dc : Int32) (v_fc : Nat → Int32) (v_dw : Nat → Int32) (v_pc : Int32) (v_ln : Nat → Int32) (v_lt : Nat → Int32) (v_tc : Int32) (v_en : Nat → Int32) (v_fr : Nat → Int32) (v_oc : Int32) (v_op : Nat → Int32) (v_os : Nat → Int32) : Option (Int32 × Int32 × Int32 × (Nat → Int32) × (Nat → Int32) × Int32 × (Nat → Int32) × (Nat → Int32) × Int32 × Int32 × (Nat → Int64) × Int32 × Int32 × Int32 × Int32 × (Nat → Int32) × (Nat → Int32) × Int32 × (Nat → Int32) × (Nat → Int32) × Int32 × (Nat → Int32) × (Nat → Int32) × Int32 × (Nat → Int32) × (Nat → Int32)) :=
  hbd (f_X10_absolve N mn th dc fc dw pc ln lt sd tc en fr oc op os nx dp v_sd v_mn v_th v_dc v_fc v_dw v_pc v_ln v_lt v_tc v_en v_fr v_oc v_op v_os) (fun C9 => if C9 = "java/lang/IllegalStateException" then some (1, sd, tc, en, fr, oc, op, os, nx, dp, ov, v_sd, v_mn, v_th, v_dc, v_fc, v_dw, v_pc, v_ln, v_lt, v_tc, v_en, v_fr, v_oc, v_op, v_os) else none) fun t1 =>
  some (0, t1.2.1, t1.2.2.1, t1.2.2.2.1, t1.2.2.2.2.1, t1.2.2.2.2.2.1, t1.2.2.2.2.2.2.1, t1.2.2.2.2.2.2.2.1, t1.2.2.2.2.2.2.2.2.1, t1.2.2.2.2.2.2.2.2.2.1, (vp_updL ov (Int32.toNatClampNeg 0) t1.1.toInt64), t1.2.2.2.2.2.2.2.2.2.2.1, t1.2.2.2.2.2.2.2.2.2.2.2.1, t1.2.2.2.2.2.2.2.2.2.2.2.2.1, t1.2.2.2.2.2.2.2.2.2.2.2.2.2.1, t1.2.2.2.2.2.2.2.2.2.2.2.2.2.2.1, t1.2.2.2.2.2.2.2.2.2.2.2.2.2.2.2.1, t1.2.2.2.2.2.2.2.2.2.2.2.2.2.2.2.2.1, t1.2.2.2.2.2.2.2.2.2.2.2.2.2.2.2.2.2.1, t1.2.2.2.2.2.2.2.2.2.2.2.2.2.2.2.2.2.2.1, t1.2.2.2.2.2.2.2.2.2.2.2.2.2.2.2.2.2.2.2.1, t1.2.2.2.2.2.2.2.2.2.2.2.2.2.2.2.2.2.2.2.2.1, t1.2.2.2.2.2.2.2.2.2.2.2.2.2.2.2.2.2.2.2.2.2.1, t1.2.2.2.2.2.2.2.2.2.2.2.2.2.2.2.2.2.2.2.2.2.2.1, t1.2.2.2.2.2.2.2.2.2.2.2.2.2.2.2.2.2.2.2.2.2.2.2.1, t1.2.2.2.2.2.2.2.2.2.2.2.2.2.2.2.2.2.2.2.2.2.2.2.2)
def f_L_forgive (N : Nat) (sd : Int32) (mn : Int32) (th : Int32) (dc : Int32) (fc : Nat → Int32) (dw : Nat → Int32) (pc : Int32) (ln : Nat → Int32) (lt : Nat → Int32) (tc : Int32) (en : Nat → Int32) (fr : Nat → Int32) (oc : Int32) (op : Nat → Int32) (os : Nat → Int32) (nx : Int32) (dp : Int32) (ov : Nat → Int64) (v_sd : Int32) (v_mn : Int32) (v_th : Int32) (v_dc : Int32) (v_fc : Nat → Int32) (v_dw : Nat → Int32) (v_pc : Int32) (v_ln : Nat → Int32) (v_lt : Nat → Int32) (v_tc : Int32) (v_en : Nat → Int32) (v_fr : Nat → Int32) (v_oc : Int32) (v_op : Nat → Int32) (v_os : Nat → Int32) (a1 : Int32) : Option (Int32 × Int32 × (Nat → Int32) × (Nat → Int32) × Int32 × Int32 × (Nat → Int64) × Int32 × Int32 × Int32 × Int32 × (Nat → Int32) × (Nat → Int32) × Int32 × (Nat → Int32) × (Nat → Int32) × Int32 × (Nat → Int32) × (Nat → Int32) × Int32 × (Nat → Int32) × (Nat → Int32)) :=
  hbd (f_X10_forgive N sd mn th dc fc dw pc ln lt tc en fr oc op os nx dp v_sd v_mn v_th v_dc v_fc v_dw v_pc v_ln v_lt v_tc v_en v_fr v_oc v_op v_os a1) (fun C9 => if C9 = "java/lang/IndexOutOfBoundsException" then some (1, oc, op, os, nx, dp, ov, v_sd, v_mn, v_th, v_dc, v_fc, v_dw, v_pc, v_ln, v_lt, v_tc, v_en, v_fr, v_oc, v_op, v_os) else none) fun t1 =>
  some (0, t1.2.1, t1.2.2.1, t1.2.2.2.1, t1.2.2.2.2.1, t1.2.2.2.2.2.1, (vp_updL ov (Int32.toNatClampNeg 0) t1.1.toInt64), t1.2.2.2.2.2.2.1, t1.2.2.2.2.2.2.2.1, t1.2.2.2.2.2.2.2.2.1, t1.2.2.2.2.2.2.2.2.2.1, t1.2.2.2.2.2.2.2.2.2.2.1, t1.2.2.2.2.2.2.2.2.2.2.2.1, t1.2.2.2.2.2.2.2.2.2.2.2.2.1, t1.2.2.2.2.2.2.2.2.2.2.2.2.2.1, t1.2.2.2.2.2.2.2.2.2.2.2.2.2.2.1, t1.2.2.2.2.2.2.2.2.2.2.2.2.2.2.2.1, t1.2.2.2.2.2.2.2.2.2.2.2.2.2.2.2.2.1, t1.2.2.2.2.2.2.2.2.2.2.2.2.2.2.2.2.2.1, t1.2.2.2.2.2.2.2.2.2.2.2.2.2.2.2.2.2.2.1, t1.2.2.2.2.2.2.2.2.2.2.2.2.2.2.2.2.2.2.2.1, t1.2.2.2.2.2.2.2.2.2.2.2.2.2.2.2.2.2.2.2.2)
def f_L_setWeight (N : Nat) (sd : Int32) (mn : Int32) (th : Int32) (dc : Int32) (fc : Nat → Int32) (pc : Int32) (ln : Nat → Int32) (lt : Nat → Int32) (tc : Int32) (en : Nat → Int32) (fr : Nat → Int32) (oc : Int32) (op : Nat → Int32) (os : Nat → Int32) (dw : Nat → Int32) (nx : Int32) (dp : Int32) (ov : Nat → Int64) (v_sd : Int32) (v_mn : Int32) (v_th : Int32) (v_dc : Int32) (v_fc : Nat → Int32) (v_dw : Nat → Int32) (v_pc : Int32) (v_ln : Nat → Int32) (v_lt : Nat → Int32) (v_tc : Int32) (v_en : Nat → Int32) (v_fr : Nat → Int32) (v_oc : Int32) (v_op : Nat → Int32) (v_os : Nat → Int32) (a1 : Int32) (a2 : Int32) (a3 : Int32) : Option (Int32 × (Nat → Int32) × Int32 × Int32 × (Nat → Int64) × Int32 × Int32 × Int32 × Int32 × (Nat → Int32) × (Nat → Int32) × Int32 × (Nat → Int32) × (Nat → Int32) × Int32 × (Nat → Int32) × (Nat → Int32) × Int32 × (Nat → Int32) × (Nat → Int32)) :=
  hbd (f_X10_setWeight N sd mn th dc fc pc ln lt tc en fr oc op os dw nx dp v_sd v_mn v_th v_dc v_fc v_dw v_pc v_ln v_lt v_tc v_en v_fr v_oc v_op v_os a1 a2 a3) (fun C9 => if C9 = "java/lang/IndexOutOfBoundsException" then some (1, dw, nx, dp, ov, v_sd, v_mn, v_th, v_dc, v_fc, v_dw, v_pc, v_ln, v_lt, v_tc, v_en, v_fr, v_oc, v_op, v_os) else if C9 = "java/lang/IllegalArgumentException" then some (2, dw, nx, dp, ov, v_sd, v_mn, v_th, v_dc, v_fc, v_dw, v_pc, v_ln, v_lt, v_tc, v_en, v_fr, v_oc, v_op, v_os) else if C9 = "java/lang/IllegalStateException" then some (3, dw, nx, dp, ov, v_sd, v_mn, v_th, v_dc, v_fc, v_dw, v_pc, v_ln, v_lt, v_tc, v_en, v_fr, v_oc, v_op, v_os) else none) fun t1 =>
  some (0, t1.2.1, t1.2.2.1, t1.2.2.2.1, (vp_updL ov (Int32.toNatClampNeg 0) t1.1.toInt64), t1.2.2.2.2.1, t1.2.2.2.2.2.1, t1.2.2.2.2.2.2.1, t1.2.2.2.2.2.2.2.1, t1.2.2.2.2.2.2.2.2.1, t1.2.2.2.2.2.2.2.2.2.1, t1.2.2.2.2.2.2.2.2.2.2.1, t1.2.2.2.2.2.2.2.2.2.2.2.1, t1.2.2.2.2.2.2.2.2.2.2.2.2.1, t1.2.2.2.2.2.2.2.2.2.2.2.2.2.1, t1.2.2.2.2.2.2.2.2.2.2.2.2.2.2.1, t1.2.2.2.2.2.2.2.2.2.2.2.2.2.2.2.1, t1.2.2.2.2.2.2.2.2.2.2.2.2.2.2.2.2.1, t1.2.2.2.2.2.2.2.2.2.2.2.2.2.2.2.2.2.1, t1.2.2.2.2.2.2.2.2.2.2.2.2.2.2.2.2.2.2)
def f_L_setSeed (mn : Int32) (th : Int32) (dc : Int32) (fc : Nat → Int32) (dw : Nat → Int32) (pc : Int32) (ln : Nat → Int32) (lt : Nat → Int32) (tc : Int32) (en : Nat → Int32) (fr : Nat → Int32) (oc : Int32) (op : Nat → Int32) (os : Nat → Int32) (sd : Int32) (nx : Int32) (dp : Int32) (ov : Nat → Int64) (v_sd : Int32) (v_mn : Int32) (v_th : Int32) (v_dc : Int32) (v_fc : Nat → Int32) (v_dw : Nat → Int32) (v_pc : Int32) (v_ln : Nat → Int32) (v_lt : Nat → Int32) (v_tc : Int32) (v_en : Nat → Int32) (v_fr : Nat → Int32) (v_oc : Int32) (v_op : Nat → Int32) (v_os : Nat → Int32) (a1 : Int32) : Option (Int32 × Int32 × Int32 × Int32 × (Nat → Int64) × Int32 × Int32 × Int32 × Int32 × (Nat → Int32) × (Nat → Int32) × Int32 × (Nat → Int32) × (Nat → Int32) × Int32 × (Nat → Int32) × (Nat → Int32) × Int32 × (Nat → Int32) × (Nat → Int32)) :=
  hbd (f_X10_setSeed mn th dc fc dw pc ln lt tc en fr oc op os sd nx dp v_sd v_mn v_th v_dc v_fc v_dw v_pc v_ln v_lt v_tc v_en v_fr v_oc v_op v_os a1) (fun C9 => if C9 = "java/lang/IllegalArgumentException" then some (1, sd, nx, dp, ov, v_sd, v_mn, v_th, v_dc, v_fc, v_dw, v_pc, v_ln, v_lt, v_tc, v_en, v_fr, v_oc, v_op, v_os) else none) fun t1 =>
  some (0, t1.2.1, t1.2.2.1, t1.2.2.2.1, (vp_updL ov (Int32.toNatClampNeg 0) t1.1.toInt64), t1.2.2.2.2.1, t1.2.2.2.2.2.1, t1.2.2.2.2.2.2.1, t1.2.2.2.2.2.2.2.1, t1.2.2.2.2.2.2.2.2.1, t1.2.2.2.2.2.2.2.2.2.1, t1.2.2.2.2.2.2.2.2.2.2.1, t1.2.2.2.2.2.2.2.2.2.2.2.1, t1.2.2.2.2.2.2.2.2.2.2.2.2.1, t1.2.2.2.2.2.2.2.2.2.2.2.2.2.1, t1.2.2.2.2.2.2.2.2.2.2.2.2.2.2.1, t1.2.2.2.2.2.2.2.2.2.2.2.2.2.2.2.1, t1.2.2.2.2.2.2.2.2.2.2.2.2.2.2.2.2.1, t1.2.2.2.2.2.2.2.2.2.2.2.2.2.2.2.2.2.1, t1.2.2.2.2.2.2.2.2.2.2.2.2.2.2.2.2.2.2)
def f_L_setLimits (N : Nat) (sd : Int32) (dc : Int32) (fc : Nat → Int32) (dw : Nat → Int32) (pc : Int32) (ln : Nat → Int32) (lt : Nat → Int32) (tc : Int32) (en : Nat → Int32) (fr : Nat → Int32) (oc : Int32) (op : Nat → Int32) (os : Nat → Int32) (mn : Int32) (th : Int32) (nx : Int32) (dp : Int32) (ov : Nat → Int64) (v_sd : Int32) (v_mn : Int32) (v_th : Int32) (v_dc : Int32) (v_fc : Nat → Int32) (v_dw : Nat → Int32) (v_pc : Int32) (v_ln : Nat → Int32) (v_lt : Nat → Int32) (v_tc : Int32) (v_en : Nat → Int32) (v_fr : Nat → Int32) (v_oc : Int32) (v_op : Nat → Int32) (v_os : Nat → Int32) (a1 : Int32) (a2 : Int32) : Option (Int32 × Int32 × Int32 × Int32 × Int32 × (Nat → Int64) × Int32 × Int32 × Int32 × Int32 × (Nat → Int32) × (Nat → Int32) × Int32 × (Nat → Int32) × (Nat → Int32) × Int32 × (Nat → Int32) × (Nat → Int32) × Int32 × (Nat → Int32) × (Nat → Int32)) :=
  hbd (f_X10_setLimits N sd dc fc dw pc ln lt tc en fr oc op os mn th nx dp v_sd v_mn v_th v_dc v_fc v_dw v_pc v_ln v_lt v_tc v_en v_fr v_oc v_op v_os a1 a2) (fun C9 => if C9 = "java/lang/IllegalArgumentException" then some (1, mn, th, nx, dp, ov, v_sd, v_mn, v_th, v_dc, v_fc, v_dw, v_pc, v_ln, v_lt, v_tc, v_en, v_fr, v_oc, v_op, v_os) else none) fun t1 =>
  some (0, t1.2.1, t1.2.2.1, t1.2.2.2.1, t1.2.2.2.2.1, (vp_updL ov (Int32.toNatClampNeg 0) t1.1.toInt64), t1.2.2.2.2.2.1, t1.2.2.2.2.2.2.1, t1.2.2.2.2.2.2.2.1, t1.2.2.2.2.2.2.2.2.1, t1.2.2.2.2.2.2.2.2.2.1, t1.2.2.2.2.2.2.2.2.2.2.1, t1.2.2.2.2.2.2.2.2.2.2.2.1, t1.2.2.2.2.2.2.2.2.2.2.2.2.1, t1.2.2.2.2.2.2.2.2.2.2.2.2.2.1, t1.2.2.2.2.2.2.2.2.2.2.2.2.2.2.1, t1.2.2.2.2.2.2.2.2.2.2.2.2.2.2.2.1, t1.2.2.2.2.2.2.2.2.2.2.2.2.2.2.2.2.1, t1.2.2.2.2.2.2.2.2.2.2.2.2.2.2.2.2.2.1, t1.2.2.2.2.2.2.2.2.2.2.2.2.2.2.2.2.2.2.1, t1.2.2.2.2.2.2.2.2.2.2.2.2.2.2.2.2.2.2.2)
def f_L_writeFaces (N : Nat) (pc : Int32) (tc : Int32) (en : Nat → Int32) (otl : Int32) (otb : Nat → Int32) (ov : Nat → Int64) (a1 : Int32) : Option (Int32 × Int32 × (Nat → Int32) × (Nat → Int64)) :=
  hbd (f_X10_writeFaces N pc tc en otl otb a1) (fun C9 => if C9 = "java/lang/IndexOutOfBoundsException" then some (1, otl, otb, ov) else none) fun t1 =>
  some (0, t1.2.1, t1.2.2, (vp_updL ov (Int32.toNatClampNeg 0) t1.1.toInt64))
def f_L_outputByte (otl : Int32) (otb : Nat → Int32) (ov : Nat → Int64) (a1 : Int32) : Option (Int32 × (Nat → Int64)) :=
  hbd (f_X10_outputByte otl otb a1) (fun C9 => if C9 = "java/util/NoSuchElementException" then some (1, ov) else none) fun t1 =>
  some (0, (vp_updL ov (Int32.toNatClampNeg 0) t1.toInt64))
def f_L_save (sd : Int32) (mn : Int32) (th : Int32) (dc : Int32) (fc : Nat → Int32) (dw : Nat → Int32) (pc : Int32) (ln : Nat → Int32) (lt : Nat → Int32) (tc : Int32) (en : Nat → Int32) (fr : Nat → Int32) (oc : Int32) (op : Nat → Int32) (os : Nat → Int32) (su : Nat → Int32) (ov : Nat → Int64) (w_sd : Int32) (w_mn : Int32) (w_th : Int32) (w_dc : Int32) (w_fc : Nat → Int32) (w_dw : Nat → Int32) (w_pc : Int32) (w_ln : Nat → Int32) (w_lt : Nat → Int32) (w_tc : Int32) (w_en : Nat → Int32) (w_fr : Nat → Int32) (w_oc : Int32) (w_op : Nat → Int32) (w_os : Nat → Int32) (a1 : Int32) : Option (Int32 × (Nat → Int32) × (Nat → Int64) × Int32 × Int32 × Int32 × Int32 × (Nat → Int32) × (Nat → Int32) × Int32 × (Nat → Int32) × (Nat → Int32) × Int32 × (Nat → Int32) × (Nat → Int32) × Int32 × (Nat → Int32) × (Nat → Int32)) :=
  hbd (f_X10_save sd mn th dc fc dw pc ln lt tc en fr oc op os su w_sd w_mn w_th w_dc w_fc w_dw w_pc w_ln w_lt w_tc w_en w_fr w_oc w_op w_os a1) (fun C9 => if C9 = "java/lang/IndexOutOfBoundsException" then some (1, su, ov, w_sd, w_mn, w_th, w_dc, w_fc, w_dw, w_pc, w_ln, w_lt, w_tc, w_en, w_fr, w_oc, w_op, w_os) else none) fun t1 =>
  some (0, t1.2.1, (vp_updL ov (Int32.toNatClampNeg 0) t1.1.toInt64), t1.2.2.1, t1.2.2.2.1, t1.2.2.2.2.1, t1.2.2.2.2.2.1, t1.2.2.2.2.2.2.1, t1.2.2.2.2.2.2.2.1, t1.2.2.2.2.2.2.2.2.1, t1.2.2.2.2.2.2.2.2.2.1, t1.2.2.2.2.2.2.2.2.2.2.1, t1.2.2.2.2.2.2.2.2.2.2.2.1, t1.2.2.2.2.2.2.2.2.2.2.2.2.1, t1.2.2.2.2.2.2.2.2.2.2.2.2.2.1, t1.2.2.2.2.2.2.2.2.2.2.2.2.2.2.1, t1.2.2.2.2.2.2.2.2.2.2.2.2.2.2.2.1, t1.2.2.2.2.2.2.2.2.2.2.2.2.2.2.2.2)
def f_L_restore (su : Nat → Int32) (w_sd : Int32) (w_mn : Int32) (w_th : Int32) (w_dc : Int32) (w_fc : Nat → Int32) (w_dw : Nat → Int32) (w_pc : Int32) (w_ln : Nat → Int32) (w_lt : Nat → Int32) (w_tc : Int32) (w_en : Nat → Int32) (w_fr : Nat → Int32) (w_oc : Int32) (w_op : Nat → Int32) (w_os : Nat → Int32) (sd : Int32) (mn : Int32) (th : Int32) (dc : Int32) (fc : Nat → Int32) (dw : Nat → Int32) (pc : Int32) (ln : Nat → Int32) (lt : Nat → Int32) (tc : Int32) (en : Nat → Int32) (fr : Nat → Int32) (oc : Int32) (op : Nat → Int32) (os : Nat → Int32) (nx : Int32) (dp : Int32) (ov : Nat → Int64) (v_sd : Int32) (v_mn : Int32) (v_th : Int32) (v_dc : Int32) (v_fc : Nat → Int32) (v_dw : Nat → Int32) (v_pc : Int32) (v_ln : Nat → Int32) (v_lt : Nat → Int32) (v_tc : Int32) (v_en : Nat → Int32) (v_fr : Nat → Int32) (v_oc : Int32) (v_op : Nat → Int32) (v_os : Nat → Int32) (a1 : Int32) : Option (Int32 × Int32 × Int32 × Int32 × Int32 × (Nat → Int32) × (Nat → Int32) × Int32 × (Nat → Int32) × (Nat → Int32) × Int32 × (Nat → Int32) × (Nat → Int32) × Int32 × (Nat → Int32) × (Nat → Int32) × Int32 × Int32 × (Nat → Int64) × Int32 × Int32 × Int32 × Int32 × (Nat → Int32) × (Nat → Int32) × Int32 × (Nat → Int32) × (Nat → Int32) × Int32 × (Nat → Int32) × (Nat → Int32) × Int32 × (Nat → Int32) × (Nat → Int32)) :=
  hbd (f_X10_restore su w_sd w_mn w_th w_dc w_fc w_dw w_pc w_ln w_lt w_tc w_en w_fr w_oc w_op w_os sd mn th dc fc dw pc ln lt tc en fr oc op os nx dp v_sd v_mn v_th v_dc v_fc v_dw v_pc v_ln v_lt v_tc v_en v_fr v_oc v_op v_os a1) (fun C9 => if C9 = "java/lang/IndexOutOfBoundsException" then some (1, sd, mn, th, dc, fc, dw, pc, ln, lt, tc, en, fr, oc, op, os, nx, dp, ov, v_sd, v_mn, v_th, v_dc, v_fc, v_dw, v_pc, v_ln, v_lt, v_tc, v_en, v_fr, v_oc, v_op, v_os) else if C9 = "java/lang/IllegalStateException" then some (2, sd, mn, th, dc, fc, dw, pc, ln, lt, tc, en, fr, oc, op, os, nx, dp, ov, v_sd, v_mn, v_th, v_dc, v_fc, v_dw, v_pc, v_ln, v_lt, v_tc, v_en, v_fr, v_oc, v_op, v_os) else none) fun t1 =>
  some (0, t1.2.1, t1.2.2.1, t1.2.2.2.1, t1.2.2.2.2.1, t1.2.2.2.2.2.1, t1.2.2.2.2.2.2.1, t1.2.2.2.2.2.2.2.1, t1.2.2.2.2.2.2.2.2.1, t1.2.2.2.2.2.2.2.2.2.1, t1.2.2.2.2.2.2.2.2.2.2.1, t1.2.2.2.2.2.2.2.2.2.2.2.1, t1.2.2.2.2.2.2.2.2.2.2.2.2.1, t1.2.2.2.2.2.2.2.2.2.2.2.2.2.1, t1.2.2.2.2.2.2.2.2.2.2.2.2.2.2.1, t1.2.2.2.2.2.2.2.2.2.2.2.2.2.2.2.1, t1.2.2.2.2.2.2.2.2.2.2.2.2.2.2.2.2.1, t1.2.2.2.2.2.2.2.2.2.2.2.2.2.2.2.2.2.1, (vp_updL ov (Int32.toNatClampNeg 0) t1.1.toInt64), t1.2.2.2.2.2.2.2.2.2.2.2.2.2.2.2.2.2.2.1, t1.2.2.2.2.2.2.2.2.2.2.2.2.2.2.2.2.2.2.2.1, t1.2.2.2.2.2.2.2.2.2.2.2.2.2.2.2.2.2.2.2.2.1, t1.2.2.2.2.2.2.2.2.2.2.2.2.2.2.2.2.2.2.2.2.2.1, t1.2.2.2.2.2.2.2.2.2.2.2.2.2.2.2.2.2.2.2.2.2.2.1, t1.2.2.2.2.2.2.2.2.2.2.2.2.2.2.2.2.2.2.2.2.2.2.2.1, t1.2.2.2.2.2.2.2.2.2.2.2.2.2.2.2.2.2.2.2.2.2.2.2.2.1, t1.2.2.2.2.2.2.2.2.2.2.2.2.2.2.2.2.2.2.2.2.2.2.2.2.2.1, t1.2.2.2.2.2.2.2.2.2.2.2.2.2.2.2.2.2.2.2.2.2.2.2.2.2.2.1, t1.2.2.2.2.2.2.2.2.2.2.2.2.2.2.2.2.2.2.2.2.2.2.2.2.2.2.2.1, t1.2.2.2.2.2.2.2.2.2.2.2.2.2.2.2.2.2.2.2.2.2.2.2.2.2.2.2.2.1, t1.2.2.2.2.2.2.2.2.2.2.2.2.2.2.2.2.2.2.2.2.2.2.2.2.2.2.2.2.2.1, t1.2.2.2.2.2.2.2.2.2.2.2.2.2.2.2.2.2.2.2.2.2.2.2.2.2.2.2.2.2.2.1, t1.2.2.2.2.2.2.2.2.2.2.2.2.2.2.2.2.2.2.2.2.2.2.2.2.2.2.2.2.2.2.2.1, t1.2.2.2.2.2.2.2.2.2.2.2.2.2.2.2.2.2.2.2.2.2.2.2.2.2.2.2.2.2.2.2.2)
def f_L_undo (v_sd : Int32) (v_mn : Int32) (v_th : Int32) (v_dc : Int32) (v_fc : Nat → Int32) (v_dw : Nat → Int32) (v_pc : Int32) (v_ln : Nat → Int32) (v_lt : Nat → Int32) (v_tc : Int32) (v_en : Nat → Int32) (v_fr : Nat → Int32) (v_oc : Int32) (v_op : Nat → Int32) (v_os : Nat → Int32) (sd : Int32) (mn : Int32) (th : Int32) (dc : Int32) (fc : Nat → Int32) (dw : Nat → Int32) (pc : Int32) (ln : Nat → Int32) (lt : Nat → Int32) (tc : Int32) (en : Nat → Int32) (fr : Nat → Int32) (oc : Int32) (op : Nat → Int32) (os : Nat → Int32) (nx : Int32) (dp : Int32) (ov : Nat → Int64) : Option (Int32 × Int32 × Int32 × Int32 × Int32 × (Nat → Int32) × (Nat → Int32) × Int32 × (Nat → Int32) × (Nat → Int32) × Int32 × (Nat → Int32) × (Nat → Int32) × Int32 × (Nat → Int32) × (Nat → Int32) × Int32 × Int32 × (Nat → Int64)) :=
  hbd (f_X10_undo v_sd v_mn v_th v_dc v_fc v_dw v_pc v_ln v_lt v_tc v_en v_fr v_oc v_op v_os sd mn th dc fc dw pc ln lt tc en fr oc op os nx dp) (fun C9 => if C9 = "java/lang/IllegalStateException" then some (1, sd, mn, th, dc, fc, dw, pc, ln, lt, tc, en, fr, oc, op, os, nx, dp, ov) else none) fun t1 =>
  some (0, t1.2.1, t1.2.2.1, t1.2.2.2.1, t1.2.2.2.2.1, t1.2.2.2.2.2.1, t1.2.2.2.2.2.2.1, t1.2.2.2.2.2.2.2.1, t1.2.2.2.2.2.2.2.2.1, t1.2.2.2.2.2.2.2.2.2.1, t1.2.2.2.2.2.2.2.2.2.2.1, t1.2.2.2.2.2.2.2.2.2.2.2.1, t1.2.2.2.2.2.2.2.2.2.2.2.2.1, t1.2.2.2.2.2.2.2.2.2.2.2.2.2.1, t1.2.2.2.2.2.2.2.2.2.2.2.2.2.2.1, t1.2.2.2.2.2.2.2.2.2.2.2.2.2.2.2.1, t1.2.2.2.2.2.2.2.2.2.2.2.2.2.2.2.2.1, t1.2.2.2.2.2.2.2.2.2.2.2.2.2.2.2.2.2, (vp_updL ov (Int32.toNatClampNeg 0) t1.1.toInt64))
def f_W0 (N : Nat) (xs : Nat → Int32) (l5 : Int32)  (itl : Int32) (itb : Nat → Int32) (m_thrown : Int32) (m_inputLength : Int32) (m_input : Nat → Int32) (ov : Nat → Int64) : Option (Int32 × (Nat → Int32) × Int32 × Int32 × (Nat → Int32) × (Nat → Int64)) :=
  (f_L_appendInput N itl itb ov (xs (Int32.toNatClampNeg (l5 + 1))) (xs (Int32.toNatClampNeg (l5 + 2))) (xs (Int32.toNatClampNeg (l5 + 3))) (xs (Int32.toNatClampNeg (l5 + 4))) (xs (Int32.toNatClampNeg (l5 + 5)))).bind fun t1 =>
  (f_X11_appendInput N m_thrown m_inputLength m_input (xs (Int32.toNatClampNeg (l5 + 1))) (xs (Int32.toNatClampNeg (l5 + 2))) (xs (Int32.toNatClampNeg (l5 + 3))) (xs (Int32.toNatClampNeg (l5 + 4))) (xs (Int32.toNatClampNeg (l5 + 5)))).bind fun t2 =>
  (f_X11_thrown t2.2.1).bind fun t3 =>
  if t3 = t1.1 then
    if t1.1 = 0 then
      if (lg_cmp (t1.2.2.2 (Int32.toNatClampNeg 0)) t2.1.toInt64) = 0 then
        some (t1.2.1, t1.2.2.1, t2.2.1, t2.2.2.1, t2.2.2.2, t1.2.2.2)
      else
        none
    else
      some (t1.2.1, t1.2.2.1, t2.2.1, t2.2.2.1, t2.2.2.2, t1.2.2.2)
  else
    none
def f_W1 (xs : Nat → Int32) (l5 : Int32)  (itl : Int32) (m_thrown : Int32) (m_inputLength : Int32) (ov : Nat → Int64) : Option (Int32 × Int32 × Int32 × (Nat → Int64)) :=
  (f_L_truncateInput itl ov (xs (Int32.toNatClampNeg (l5 + 1)))).bind fun t1 =>
  (f_X11_truncateInput m_thrown m_inputLength (xs (Int32.toNatClampNeg (l5 + 1)))).bind fun t2 =>
  (f_X11_thrown t2.2.1).bind fun t3 =>
  if t3 = t1.1 then
    if t1.1 = 0 then
      if (lg_cmp (t1.2.2 (Int32.toNatClampNeg 0)) t2.1.toInt64) = 0 then
        some (t1.2.1, t2.2.1, t2.2.2, t1.2.2)
      else
        none
    else
      some (t1.2.1, t2.2.1, t2.2.2, t1.2.2)
  else
    none
def f_W2 (N : Nat) (xs : Nat → Int32) (l5 : Int32) (itb : Nat → Int32) (m_input : Nat → Int32) (sd : Int32) (mn : Int32) (th : Int32) (dc : Int32) (fc : Nat → Int32) (dw : Nat → Int32) (pc : Int32) (ln : Nat → Int32) (lt : Nat → Int32) (tc : Int32) (en : Nat → Int32) (fr : Nat → Int32) (oc : Int32) (op : Nat → Int32) (os : Nat → Int32) (nx : Int32) (dp : Int32) (itl : Int32) (ec : Int32) (eo : Int32) (d_sd : Int32) (d_mn : Int32) (d_th : Int32) (d_dc : Int32) (d_fc : Nat → Int32) (d_dw : Nat → Int32) (d_pc : Int32) (d_ln : Nat → Int32) (d_lt : Nat → Int32) (d_tc : Int32) (d_en : Nat → Int32) (d_fr : Nat → Int32) (d_oc : Int32) (d_op : Nat → Int32) (d_os : Nat → Int32) (kd : Int32) (ts : Int32) (te : Int32) (tv : Int32) (m_undoable : Int32) (m_undoStart : Int32) (m_thrown : Int32) (m_oftenAll : Int32) (m_inputLength : Int32) (m_position : Int32) (m_start : Int32) (m_token : Int32) (m_value : Int32) (m_letters : Int32) (m_code : Int32) (m_place : Int32) (m_s : Nat → Int32) (m_parsed : Nat → Int32) (m_remembered : Nat → Int32) (m_often : Nat → Int32) (ov : Nat → Int64) (v_sd : Int32) (v_mn : Int32) (v_th : Int32) (v_dc : Int32) (v_fc : Nat → Int32) (v_dw : Nat → Int32) (v_pc : Int32) (v_ln : Nat → Int32) (v_lt : Nat → Int32) (v_tc : Int32) (v_en : Nat → Int32) (v_fr : Nat → Int32) (v_oc : Int32) (v_op : Nat → Int32) (v_os : Nat → Int32) : Option (Int32 × Int32 × Int32 × Int32 × (Nat → Int32) × (Nat → Int32) × Int32 × (Nat → Int32) × (Nat → Int32) × Int32 × (Nat → Int32) × (Nat → Int32) × Int32 × (Nat → Int32) × (Nat → Int32) × Int32 × Int32 × Int32 × Int32 × Int32 × Int32 × Int32 × Int32 × Int32 × (Nat → Int32) × (Nat → Int32) × Int32 × (Nat → Int32) × (Nat → Int32) × Int32 × (Nat → Int32) × (Nat → Int32) × Int32 × (Nat → Int32) × (Nat → Int32) × Int32 × Int32 × Int32 × Int32 × Int32 × Int32 × Int32 × Int32 × Int32 × Int32 × Int32 × Int32 × Int32 × Int32 × Int32 × Int32 × (Nat → Int32) × (Nat → Int32) × (Nat → Int32) × (Nat → Int32) × (Nat → Int64) × Int32 × Int32 × Int32 × Int32 × (Nat → Int32) × (Nat → Int32) × Int32 × (Nat → Int32) × (Nat → Int32) × Int32 × (Nat → Int32) × (Nat → Int32) × Int32 × (Nat → Int32) × (Nat → Int32)) :=
  (f_L_load N itb sd mn th dc fc dw pc ln lt tc en fr oc op os nx dp itl ec eo d_sd d_mn d_th d_dc d_fc d_dw d_pc d_ln d_lt d_tc d_en d_fr d_oc d_op d_os kd ts te tv ov v_sd v_mn v_th v_dc v_fc v_dw v_pc v_ln v_lt v_tc v_en v_fr v_oc v_op v_os).bind fun t1 =>
  (f_X11_load N m_input m_undoable m_undoStart m_thrown m_oftenAll m_inputLength m_position m_start m_token m_value m_letters m_code m_place m_s m_parsed m_remembered m_often).bind fun t2 =>
  (f_X11_thrown t2.2.2.2.1).bind fun t3 =>
  if t3 = t1.1 then
    if t1.1 = 0 then
      if (lg_cmp (t1.2.2.2.2.2.2.2.2.2.2.2.2.2.2.2.2.2.2.2.2.2.2.2.2.2.2.2.2.2.2.2.2.2.2.2.2.2.2.2.2.1 (Int32.toNatClampNeg 0)) t2.1.toInt64) = 0 then
        some (t1.2.1, t1.2.2.1, t1.2.2.2.1, t1.2.2.2.2.1, t1.2.2.2.2.2.1, t1.2.2.2.2.2.2.1, t1.2.2.2.2.2.2.2.1, t1.2.2.2.2.2.2.2.2.1, t1.2.2.2.2.2.2.2.2.2.1, t1.2.2.2.2.2.2.2.2.2.2.1, t1.2.2.2.2.2.2.2.2.2.2.2.1, t1.2.2.2.2.2.2.2.2.2.2.2.2.1, t1.2.2.2.2.2.2.2.2.2.2.2.2.2.1, t1.2.2.2.2.2.2.2.2.2.2.2.2.2.2.1, t1.2.2.2.2.2.2.2.2.2.2.2.2.2.2.2.1, t1.2.2.2.2.2.2.2.2.2.2.2.2.2.2.2.2.1, t1.2.2.2.2.2.2.2.2.2.2.2.2.2.2.2.2.2.1, t1.2.2.2.2.2.2.2.2.2.2.2.2.2.2.2.2.2.2.1, t1.2.2.2.2.2.2.2.2.2.2.2.2.2.2.2.2.2.2.2.1, t1.2.2.2.2.2.2.2.2.2.2.2.2.2.2.2.2.2.2.2.2.1, t1.2.2.2.2.2.2.2.2.2.2.2.2.2.2.2.2.2.2.2.2.2.1, t1.2.2.2.2.2.2.2.2.2.2.2.2.2.2.2.2.2.2.2.2.2.2.1, t1.2.2.2.2.2.2.2.2.2.2.2.2.2.2.2.2.2.2.2.2.2.2.2.1, t1.2.2.2.2.2.2.2.2.2.2.2.2.2.2.2.2.2.2.2.2.2.2.2.2.1, t1.2.2.2.2.2.2.2.2.2.2.2.2.2.2.2.2.2.2.2.2.2.2.2.2.2.1, t1.2.2.2.2.2.2.2.2.2.2.2.2.2.2.2.2.2.2.2.2.2.2.2.2.2.2.1, t1.2.2.2.2.2.2.2.2.2.2.2.2.2.2.2.2.2.2.2.2.2.2.2.2.2.2.2.1, t1.2.2.2.2.2.2.2.2.2.2.2.2.2.2.2.2.2.2.2.2.2.2.2.2.2.2.2.2.1, t1.2.2.2.2.2.2.2.2.2.2.2.2.2.2.2.2.2.2.2.2.2.2.2.2.2.2.2.2.2.1, t1.2.2.2.2.2.2.2.2.2.2.2.2.2.2.2.2.2.2.2.2.2.2.2.2.2.2.2.2.2.2.1, t1.2.2.2.2.2.2.2.2.2.2.2.2.2.2.2.2.2.2.2.2.2.2.2.2.2.2.2.2.2.2.2.1, t1.2.2.2.2.2.2.2.2.2.2.2.2.2.2.2.2.2.2.2.2.2.2.2.2.2.2.2.2.2.2.2.2.1, t1.2.2.2.2.2.2.2.2.2.2.2.2.2.2.2.2.2.2.2.2.2.2.2.2.2.2.2.2.2.2.2.2.2.1, t1.2.2.2.2.2.2.2.2.2.2.2.2.2.2.2.2.2.2.2.2.2.2.2.2.2.2.2.2.2.2.2.2.2.2.1, t1.2.2.2.2.2.2.2.2.2.2.2.2.2.2.2.2.2.2.2.2.2.2.2.2.2.2.2.2.2.2.2.2.2.2.2.1, t1.2.2.2.2.2.2.2.2.2.2.2.2.2.2.2.2.2.2.2.2.2.2.2.2.2.2.2.2.2.2.2.2.2.2.2.2.1, t1.2.2.2.2.2.2.2.2.2.2.2.2.2.2.2.2.2.2.2.2.2.2.2.2.2.2.2.2.2.2.2.2.2.2.2.2.2.1, t1.2.2.2.2.2.2.2.2.2.2.2.2.2.2.2.2.2.2.2.2.2.2.2.2.2.2.2.2.2.2.2.2.2.2.2.2.2.2.1, t1.2.2.2.2.2.2.2.2.2.2.2.2.2.2.2.2.2.2.2.2.2.2.2.2.2.2.2.2.2.2.2.2.2.2.2.2.2.2.2.1, t2.2.1, t2.2.2.1, t2.2.2.2.1, t2.2.2.2.2.1, t2.2.2.2.2.2.1, t2.2.2.2.2.2.2.1, t2.2.2.2.2.2.2.2.1, t2.2.2.2.2.2.2.2.2.1, t2.2.2.2.2.2.2.2.2.2.1, t2.2.2.2.2.2.2.2.2.2.2.1, t2.2.2.2.2.2.2.2.2.2.2.2.1, t2.2.2.2.2.2.2.2.2.2.2.2.2.1, t2.2.2.2.2.2.2.2.2.2.2.2.2.2.1, t2.2.2.2.2.2.2.2.2.2.2.2.2.2.2.1, t2.2.2.2.2.2.2.2.2.2.2.2.2.2.2.2.1, t2.2.2.2.2.2.2.2.2.2.2.2.2.2.2.2.2, t1.2.2.2.2.2.2.2.2.2.2.2.2.2.2.2.2.2.2.2.2.2.2.2.2.2.2.2.2.2.2.2.2.2.2.2.2.2.2.2.2.1, t1.2.2.2.2.2.2.2.2.2.2.2.2.2.2.2.2.2.2.2.2.2.2.2.2.2.2.2.2.2.2.2.2.2.2.2.2.2.2.2.2.2.1, t1.2.2.2.2.2.2.2.2.2.2.2.2.2.2.2.2.2.2.2.2.2.2.2.2.2.2.2.2.2.2.2.2.2.2.2.2.2.2.2.2.2.2.1, t1.2.2.2.2.2.2.2.2.2.2.2.2.2.2.2.2.2.2.2.2.2.2.2.2.2.2.2.2.2.2.2.2.2.2.2.2.2.2.2.2.2.2.2.1, t1.2.2.2.2.2.2.2.2.2.2.2.2.2.2.2.2.2.2.2.2.2.2.2.2.2.2.2.2.2.2.2.2.2.2.2.2.2.2.2.2.2.2.2.2.1, t1.2.2.2.2.2.2.2.2.2.2.2.2.2.2.2.2.2.2.2.2.2.2.2.2.2.2.2.2.2.2.2.2.2.2.2.2.2.2.2.2.2.2.2.2.2.1, t1.2.2.2.2.2.2.2.2.2.2.2.2.2.2.2.2.2.2.2.2.2.2.2.2.2.2.2.2.2.2.2.2.2.2.2.2.2.2.2.2.2.2.2.2.2.2.1, t1.2.2.2.2.2.2.2.2.2.2.2.2.2.2.2.2.2.2.2.2.2.2.2.2.2.2.2.2.2.2.2.2.2.2.2.2.2.2.2.2.2.2.2.2.2.2.2.1, t1.2.2.2.2.2.2.2.2.2.2.2.2.2.2.2.2.2.2.2.2.2.2.2.2.2.2.2.2.2.2.2.2.2.2.2.2.2.2.2.2.2.2.2.2.2.2.2.2.1, t1.2.2.2.2.2.2.2.2.2.2.2.2.2.2.2.2.2.2.2.2.2.2.2.2.2.2.2.2.2.2.2.2.2.2.2.2.2.2.2.2.2.2.2.2.2.2.2.2.2.1, t1.2.2.2.2.2.2.2.2.2.2.2.2.2.2.2.2.2.2.2.2.2.2.2.2.2.2.2.2.2.2.2.2.2.2.2.2.2.2.2.2.2.2.2.2.2.2.2.2.2.2.1, t1.2.2.2.2.2.2.2.2.2.2.2.2.2.2.2.2.2.2.2.2.2.2.2.2.2.2.2.2.2.2.2.2.2.2.2.2.2.2.2.2.2.2.2.2.2.2.2.2.2.2.2.1, t1.2.2.2.2.2.2.2.2.2.2.2.2.2.2.2.2.2.2.2.2.2.2.2.2.2.2.2.2.2.2.2.2.2.2.2.2.2.2.2.2.2.2.2.2.2.2.2.2.2.2.2.2.1, t1.2.2.2.2.2.2.2.2.2.2.2.2.2.2.2.2.2.2.2.2.2.2.2.2.2.2.2.2.2.2.2.2.2.2.2.2.2.2.2.2.2.2.2.2.2.2.2.2.2.2.2.2.2.1, t1.2.2.2.2.2.2.2.2.2.2.2.2.2.2.2.2.2.2.2.2.2.2.2.2.2.2.2.2.2.2.2.2.2.2.2.2.2.2.2.2.2.2.2.2.2.2.2.2.2.2.2.2.2.2.1, t1.2.2.2.2.2.2.2.2.2.2.2.2.2.2.2.2.2.2.2.2.2.2.2.2.2.2.2.2.2.2.2.2.2.2.2.2.2.2.2.2.2.2.2.2.2.2.2.2.2.2.2.2.2.2.2)
      else
        none
    else
      some (t1.2.1, t1.2.2.1, t1.2.2.2.1, t1.2.2.2.2.1, t1.2.2.2.2.2.1, t1.2.2.2.2.2.2.1, t1.2.2.2.2.2.2.2.1, t1.2.2.2.2.2.2.2.2.1, t1.2.2.2.2.2.2.2.2.2.1, t1.2.2.2.2.2.2.2.2.2.2.1, t1.2.2.2.2.2.2.2.2.2.2.2.1, t1.2.2.2.2.2.2.2.2.2.2.2.2.1, t1.2.2.2.2.2.2.2.2.2.2.2.2.2.1, t1.2.2.2.2.2.2.2.2.2.2.2.2.2.2.1, t1.2.2.2.2.2.2.2.2.2.2.2.2.2.2.2.1, t1.2.2.2.2.2.2.2.2.2.2.2.2.2.2.2.2.1, t1.2.2.2.2.2.2.2.2.2.2.2.2.2.2.2.2.2.1, t1.2.2.2.2.2.2.2.2.2.2.2.2.2.2.2.2.2.2.1, t1.2.2.2.2.2.2.2.2.2.2.2.2.2.2.2.2.2.2.2.1, t1.2.2.2.2.2.2.2.2.2.2.2.2.2.2.2.2.2.2.2.2.1, t1.2.2.2.2.2.2.2.2.2.2.2.2.2.2.2.2.2.2.2.2.2.1, t1.2.2.2.2.2.2.2.2.2.2.2.2.2.2.2.2.2.2.2.2.2.2.1, t1.2.2.2.2.2.2.2.2.2.2.2.2.2.2.2.2.2.2.2.2.2.2.2.1, t1.2.2.2.2.2.2.2.2.2.2.2.2.2.2.2.2.2.2.2.2.2.2.2.2.1, t1.2.2.2.2.2.2.2.2.2.2.2.2.2.2.2.2.2.2.2.2.2.2.2.2.2.1, t1.2.2.2.2.2.2.2.2.2.2.2.2.2.2.2.2.2.2.2.2.2.2.2.2.2.2.1, t1.2.2.2.2.2.2.2.2.2.2.2.2.2.2.2.2.2.2.2.2.2.2.2.2.2.2.2.1, t1.2.2.2.2.2.2.2.2.2.2.2.2.2.2.2.2.2.2.2.2.2.2.2.2.2.2.2.2.1, t1.2.2.2.2.2.2.2.2.2.2.2.2.2.2.2.2.2.2.2.2.2.2.2.2.2.2.2.2.2.1, t1.2.2.2.2.2.2.2.2.2.2.2.2.2.2.2.2.2.2.2.2.2.2.2.2.2.2.2.2.2.2.1, t1.2.2.2.2.2.2.2.2.2.2.2.2.2.2.2.2.2.2.2.2.2.2.2.2.2.2.2.2.2.2.2.1, t1.2.2.2.2.2.2.2.2.2.2.2.2.2.2.2.2.2.2.2.2.2.2.2.2.2.2.2.2.2.2.2.2.1, t1.2.2.2.2.2.2.2.2.2.2.2.2.2.2.2.2.2.2.2.2.2.2.2.2.2.2.2.2.2.2.2.2.2.1, t1.2.2.2.2.2.2.2.2.2.2.2.2.2.2.2.2.2.2.2.2.2.2.2.2.2.2.2.2.2.2.2.2.2.2.1, t1.2.2.2.2.2.2.2.2.2.2.2.2.2.2.2.2.2.2.2.2.2.2.2.2.2.2.2.2.2.2.2.2.2.2.2.1, t1.2.2.2.2.2.2.2.2.2.2.2.2.2.2.2.2.2.2.2.2.2.2.2.2.2.2.2.2.2.2.2.2.2.2.2.2.1, t1.2.2.2.2.2.2.2.2.2.2.2.2.2.2.2.2.2.2.2.2.2.2.2.2.2.2.2.2.2.2.2.2.2.2.2.2.2.1, t1.2.2.2.2.2.2.2.2.2.2.2.2.2.2.2.2.2.2.2.2.2.2.2.2.2.2.2.2.2.2.2.2.2.2.2.2.2.2.1, t1.2.2.2.2.2.2.2.2.2.2.2.2.2.2.2.2.2.2.2.2.2.2.2.2.2.2.2.2.2.2.2.2.2.2.2.2.2.2.2.1, t2.2.1, t2.2.2.1, t2.2.2.2.1, t2.2.2.2.2.1, t2.2.2.2.2.2.1, t2.2.2.2.2.2.2.1, t2.2.2.2.2.2.2.2.1, t2.2.2.2.2.2.2.2.2.1, t2.2.2.2.2.2.2.2.2.2.1, t2.2.2.2.2.2.2.2.2.2.2.1, t2.2.2.2.2.2.2.2.2.2.2.2.1, t2.2.2.2.2.2.2.2.2.2.2.2.2.1, t2.2.2.2.2.2.2.2.2.2.2.2.2.2.1, t2.2.2.2.2.2.2.2.2.2.2.2.2.2.2.1, t2.2.2.2.2.2.2.2.2.2.2.2.2.2.2.2.1, t2.2.2.2.2.2.2.2.2.2.2.2.2.2.2.2.2, t1.2.2.2.2.2.2.2.2.2.2.2.2.2.2.2.2.2.2.2.2.2.2.2.2.2.2.2.2.2.2.2.2.2.2.2.2.2.2.2.2.1, t1.2.2.2.2.2.2.2.2.2.2.2.2.2.2.2.2.2.2.2.2.2.2.2.2.2.2.2.2.2.2.2.2.2.2.2.2.2.2.2.2.2.1, t1.2.2.2.2.2.2.2.2.2.2.2.2.2.2.2.2.2.2.2.2.2.2.2.2.2.2.2.2.2.2.2.2.2.2.2.2.2.2.2.2.2.2.1, t1.2.2.2.2.2.2.2.2.2.2.2.2.2.2.2.2.2.2.2.2.2.2.2.2.2.2.2.2.2.2.2.2.2.2.2.2.2.2.2.2.2.2.2.1, t1.2.2.2.2.2.2.2.2.2.2.2.2.2.2.2.2.2.2.2.2.2.2.2.2.2.2.2.2.2.2.2.2.2.2.2.2.2.2.2.2.2.2.2.2.1, t1.2.2.2.2.2.2.2.2.2.2.2.2.2.2.2.2.2.2.2.2.2.2.2.2.2.2.2.2.2.2.2.2.2.2.2.2.2.2.2.2.2.2.2.2.2.1, t1.2.2.2.2.2.2.2.2.2.2.2.2.2.2.2.2.2.2.2.2.2.2.2.2.2.2.2.2.2.2.2.2.2.2.2.2.2.2.2.2.2.2.2.2.2.2.1, t1.2.2.2.2.2.2.2.2.2.2.2.2.2.2.2.2.2.2.2.2.2.2.2.2.2.2.2.2.2.2.2.2.2.2.2.2.2.2.2.2.2.2.2.2.2.2.2.1, t1.2.2.2.2.2.2.2.2.2.2.2.2.2.2.2.2.2.2.2.2.2.2.2.2.2.2.2.2.2.2.2.2.2.2.2.2.2.2.2.2.2.2.2.2.2.2.2.2.1, t1.2.2.2.2.2.2.2.2.2.2.2.2.2.2.2.2.2.2.2.2.2.2.2.2.2.2.2.2.2.2.2.2.2.2.2.2.2.2.2.2.2.2.2.2.2.2.2.2.2.1, t1.2.2.2.2.2.2.2.2.2.2.2.2.2.2.2.2.2.2.2.2.2.2.2.2.2.2.2.2.2.2.2.2.2.2.2.2.2.2.2.2.2.2.2.2.2.2.2.2.2.2.1, t1.2.2.2.2.2.2.2.2.2.2.2.2.2.2.2.2.2.2.2.2.2.2.2.2.2.2.2.2.2.2.2.2.2.2.2.2.2.2.2.2.2.2.2.2.2.2.2.2.2.2.2.1, t1.2.2.2.2.2.2.2.2.2.2.2.2.2.2.2.2.2.2.2.2.2.2.2.2.2.2.2.2.2.2.2.2.2.2.2.2.2.2.2.2.2.2.2.2.2.2.2.2.2.2.2.2.1, t1.2.2.2.2.2.2.2.2.2.2.2.2.2.2.2.2.2.2.2.2.2.2.2.2.2.2.2.2.2.2.2.2.2.2.2.2.2.2.2.2.2.2.2.2.2.2.2.2.2.2.2.2.2.1, t1.2.2.2.2.2.2.2.2.2.2.2.2.2.2.2.2.2.2.2.2.2.2.2.2.2.2.2.2.2.2.2.2.2.2.2.2.2.2.2.2.2.2.2.2.2.2.2.2.2.2.2.2.2.2.1, t1.2.2.2.2.2.2.2.2.2.2.2.2.2.2.2.2.2.2.2.2.2.2.2.2.2.2.2.2.2.2.2.2.2.2.2.2.2.2.2.2.2.2.2.2.2.2.2.2.2.2.2.2.2.2.2)
  else
    none
def f_W3 (xs : Nat → Int32) (l5 : Int32) (ec : Int32) (m_code : Int32) (m_thrown : Int32) : Option (Int32) :=
  (f_X10_errorCode ec).bind fun t1 =>
  (f_X11_errorCode m_code m_thrown).bind fun t2 =>
  if t1 = t2.1 then
    some t2.2
  else
    none
def f_W4 (xs : Nat → Int32) (l5 : Int32) (eo : Int32) (m_place : Int32) (m_thrown : Int32) : Option (Int32) :=
  (f_X10_errorPosition eo).bind fun t1 =>
  (f_X11_errorPosition m_place m_thrown).bind fun t2 =>
  if t1 = t2.1 then
    some t2.2
  else
    none
def f_W5 (xs : Nat → Int32) (l5 : Int32) (sd : Int32) (m_s : Nat → Int32) (m_thrown : Int32) : Option (Int32) :=
  (f_X10_seed sd).bind fun t1 =>
  (f_X11_seed m_s m_thrown).bind fun t2 =>
  if t1 = t2.1 then
    some t2.2
  else
    none
def f_W6 (xs : Nat → Int32) (l5 : Int32) (mn : Int32) (m_s : Nat → Int32) (m_thrown : Int32) : Option (Int32) :=
  (f_X10_minimum mn).bind fun t1 =>
  (f_X11_minimum m_s m_thrown).bind fun t2 =>
  if t1 = t2.1 then
    some t2.2
  else
    none
def f_W7 (xs : Nat → Int32) (l5 : Int32) (th : Int32) (m_s : Nat → Int32) (m_thrown : Int32) : Option (Int32) :=
  (f_X10_threshold th).bind fun t1 =>
  (f_X11_threshold m_s m_thrown).bind fun t2 =>
  if t1 = t2.1 then
    some t2.2
  else
    none
def f_W8 (xs : Nat → Int32) (l5 : Int32) (dc : Int32) (m_s : Nat → Int32) (m_thrown : Int32) : Option (Int32) :=
  (f_X10_dieCount dc).bind fun t1 =>
  (f_X11_dieCount m_s m_thrown).bind fun t2 =>
  if t1 = t2.1 then
    some t2.2
  else
    none
def f_W9 (xs : Nat → Int32) (l5 : Int32) (pc : Int32) (m_s : Nat → Int32) (m_thrown : Int32) : Option (Int32) :=
  (f_X10_playerCount pc).bind fun t1 =>
  (f_X11_playerCount m_s m_thrown).bind fun t2 =>
  if t1 = t2.1 then
    some t2.2
  else
    none
def f_W10 (xs : Nat → Int32) (l5 : Int32) (tc : Int32) (m_s : Nat → Int32) (m_thrown : Int32) : Option (Int32) :=
  (f_X10_throwCount tc).bind fun t1 =>
  (f_X11_throwCount m_s m_thrown).bind fun t2 =>
  if t1 = t2.1 then
    some t2.2
  else
    none
def f_W11 (xs : Nat → Int32) (l5 : Int32) (dc : Int32) (fc : Nat → Int32) (m_s : Nat → Int32) (m_thrown : Int32) (ov : Nat → Int64) : Option (Int32 × (Nat → Int64)) :=
  (f_L_faces dc fc ov (xs (Int32.toNatClampNeg (l5 + 1)))).bind fun t1 =>
  (f_X11_faces m_s m_thrown (xs (Int32.toNatClampNeg (l5 + 1)))).bind fun t2 =>
  (f_X11_thrown t2.2).bind fun t3 =>
  if t3 = t1.1 then
    if t1.1 = 0 then
      if (lg_cmp (t1.2 (Int32.toNatClampNeg 0)) t2.1.toInt64) = 0 then
        some (t2.2, t1.2)
      else
        none
    else
      some (t2.2, t1.2)
  else
    none
def f_W12 (xs : Nat → Int32) (l5 : Int32) (dc : Int32) (fc : Nat → Int32) (dw : Nat → Int32) (m_s : Nat → Int32) (m_thrown : Int32) (ov : Nat → Int64) : Option (Int32 × (Nat → Int64)) :=
  (f_L_weightOf dc fc dw ov (xs (Int32.toNatClampNeg (l5 + 1))) (xs (Int32.toNatClampNeg (l5 + 2)))).bind fun t1 =>
  (f_X11_weightOf m_s m_thrown (xs (Int32.toNatClampNeg (l5 + 1))) (xs (Int32.toNatClampNeg (l5 + 2)))).bind fun t2 =>
  (f_X11_thrown t2.2).bind fun t3 =>
  if t3 = t1.1 then
    if t1.1 = 0 then
      if (lg_cmp (t1.2 (Int32.toNatClampNeg 0)) t2.1.toInt64) = 0 then
        some (t2.2, t1.2)
      else
        none
    else
      some (t2.2, t1.2)
  else
    none
def f_W13 (N : Nat) (xs : Nat → Int32) (l5 : Int32) (dc : Int32) (fc : Nat → Int32) (dw : Nat → Int32) (m_s : Nat → Int32) (m_thrown : Int32) (ov : Nat → Int64) : Option (Int32 × (Nat → Int64)) :=
  (f_L_isBalanced N dc fc dw ov (xs (Int32.toNatClampNeg (l5 + 1)))).bind fun t1 =>
  (f_X11_isBalanced N m_s m_thrown (xs (Int32.toNatClampNeg (l5 + 1)))).bind fun t2 =>
  (f_X11_thrown t2.2).bind fun t3 =>
  if t3 = t1.1 then
    if t1.1 = 0 then
      if t2.1 = 0 then
        if (lg_cmp (t1.2 (Int32.toNatClampNeg 0)) 0) = 0 then
          some (t2.2, t1.2)
        else
          none
      else
        if (lg_cmp (t1.2 (Int32.toNatClampNeg 0)) 1) = 0 then
          some (t2.2, t1.2)
        else
          none
    else
      some (t2.2, t1.2)
  else
    none
def f_W14 (N : Nat) (xs : Nat → Int32) (l5 : Int32) (dc : Int32) (fc : Nat → Int32) (dw : Nat → Int32) (m_s : Nat → Int32) (m_thrown : Int32) (ov : Nat → Int64) : Option (Int32 × (Nat → Int64)) :=
  (f_L_heaviestFace N dc fc dw ov (xs (Int32.toNatClampNeg (l5 + 1)))).bind fun t1 =>
  (f_X11_heaviestFace N m_s m_thrown (xs (Int32.toNatClampNeg (l5 + 1)))).bind fun t2 =>
  (f_X11_thrown t2.2).bind fun t3 =>
  if t3 = t1.1 then
    if t1.1 = 0 then
      if (lg_cmp (t1.2 (Int32.toNatClampNeg 0)) t2.1.toInt64) = 0 then
        some (t2.2, t1.2)
      else
        none
    else
      some (t2.2, t1.2)
  else
    none
def f_W15 (N : Nat) (xs : Nat → Int32) (l5 : Int32) (pc : Int32) (ln : Nat → Int32) (lt : Nat → Int32) (m_s : Nat → Int32) (m_thrown : Int32) (ov : Nat → Int64) : Option (Int32 × (Nat → Int64)) :=
  (f_L_nameByte pc ln lt ov (xs (Int32.toNatClampNeg (l5 + 1))) (xs (Int32.toNatClampNeg (l5 + 2)))).bind fun t1 =>
  (f_X11_nameByte N m_s m_thrown (xs (Int32.toNatClampNeg (l5 + 1))) (xs (Int32.toNatClampNeg (l5 + 2)))).bind fun t2 =>
  (f_X11_thrown t2.2).bind fun t3 =>
  if t3 = t1.1 then
    if t1.1 = 0 then
      if (lg_cmp (t1.2 (Int32.toNatClampNeg 0)) t2.1.toInt64) = 0 then
        some (t2.2, t1.2)
      else
        none
    else
      some (t2.2, t1.2)
  else
    none
def f_W16 (xs : Nat → Int32) (l5 : Int32) (tc : Int32) (en : Nat → Int32) (m_s : Nat → Int32) (m_thrown : Int32) (ov : Nat → Int64) : Option (Int32 × (Nat → Int64)) :=
  (f_L_playerAt tc en ov (xs (Int32.toNatClampNeg (l5 + 1)))).bind fun t1 =>
  (f_X11_playerAt m_s m_thrown (xs (Int32.toNatClampNeg (l5 + 1)))).bind fun t2 =>
  (f_X11_thrown t2.2).bind fun t3 =>
  if t3 = t1.1 then
    if t1.1 = 0 then
      if (lg_cmp (t1.2 (Int32.toNatClampNeg 0)) t2.1.toInt64) = 0 then
        some (t2.2, t1.2)
      else
        none
    else
      some (t2.2, t1.2)
  else
    none
def f_W17 (xs : Nat → Int32) (l5 : Int32) (tc : Int32) (en : Nat → Int32) (m_s : Nat → Int32) (m_thrown : Int32) (ov : Nat → Int64) : Option (Int32 × (Nat → Int64)) :=
  (f_L_dieAt tc en ov (xs (Int32.toNatClampNeg (l5 + 1)))).bind fun t1 =>
  (f_X11_dieAt m_s m_thrown (xs (Int32.toNatClampNeg (l5 + 1)))).bind fun t2 =>
  (f_X11_thrown t2.2).bind fun t3 =>
  if t3 = t1.1 then
    if t1.1 = 0 then
      if (lg_cmp (t1.2 (Int32.toNatClampNeg 0)) t2.1.toInt64) = 0 then
        some (t2.2, t1.2)
      else
        none
    else
      some (t2.2, t1.2)
  else
    none
def f_W18 (xs : Nat → Int32) (l5 : Int32) (tc : Int32) (en : Nat → Int32) (m_s : Nat → Int32) (m_thrown : Int32) (ov : Nat → Int64) : Option (Int32 × (Nat → Int64)) :=
  (f_L_faceAt tc en ov (xs (Int32.toNatClampNeg (l5 + 1)))).bind fun t1 =>
  (f_X11_faceAt m_s m_thrown (xs (Int32.toNatClampNeg (l5 + 1)))).bind fun t2 =>
  (f_X11_thrown t2.2).bind fun t3 =>
  if t3 = t1.1 then
    if t1.1 = 0 then
      if (lg_cmp (t1.2 (Int32.toNatClampNeg 0)) t2.1.toInt64) = 0 then
        some (t2.2, t1.2)
      else
        none
    else
      some (t2.2, t1.2)
  else
    none
def f_W19 (xs : Nat → Int32) (l5 : Int32) (tc : Int32) (en : Nat → Int32) (m_s : Nat → Int32) (m_thrown : Int32) (ov : Nat → Int64) : Option (Int32 × (Nat → Int64)) :=
  (f_L_isFairAt tc en ov (xs (Int32.toNatClampNeg (l5 + 1)))).bind fun t1 =>
  (f_X11_isFairAt m_s m_thrown (xs (Int32.toNatClampNeg (l5 + 1)))).bind fun t2 =>
  (f_X11_thrown t2.2).bind fun t3 =>
  if t3 = t1.1 then
    if t1.1 = 0 then
      if t2.1 = 0 then
        if (lg_cmp (t1.2 (Int32.toNatClampNeg 0)) 0) = 0 then
          some (t2.2, t1.2)
        else
          none
      else
        if (lg_cmp (t1.2 (Int32.toNatClampNeg 0)) 1) = 0 then
          some (t2.2, t1.2)
        else
          none
    else
      some (t2.2, t1.2)
  else
    none
def f_W20 (N : Nat) (xs : Nat → Int32) (l5 : Int32) (pc : Int32) (fr : Nat → Int32) (m_s : Nat → Int32) (m_thrown : Int32) (ov : Nat → Int64) : Option (Int32 × (Nat → Int64)) :=
  (f_L_throwsOf N pc fr ov (xs (Int32.toNatClampNeg (l5 + 1)))).bind fun t1 =>
  (f_X11_throwsOf N m_s m_thrown (xs (Int32.toNatClampNeg (l5 + 1)))).bind fun t2 =>
  (f_X11_thrown t2.2).bind fun t3 =>
  if t3 = t1.1 then
    if t1.1 = 0 then
      if (lg_cmp (t1.2 (Int32.toNatClampNeg 0)) t2.1.toInt64) = 0 then
        some (t2.2, t1.2)
      else
        none
    else
      some (t2.2, t1.2)
  else
    none
def f_W21 (N : Nat) (xs : Nat → Int32) (l5 : Int32) (pc : Int32) (fr : Nat → Int32) (m_s : Nat → Int32) (m_thrown : Int32) (ov : Nat → Int64) : Option (Int32 × (Nat → Int64)) :=
  (f_L_total N pc fr ov (xs (Int32.toNatClampNeg (l5 + 1)))).bind fun t1 =>
  (f_X11_total N m_s m_thrown (xs (Int32.toNatClampNeg (l5 + 1)))).bind fun t2 =>
  (f_X11_thrown t2.2).bind fun t3 =>
  if t3 = t1.1 then
    if t1.1 = 0 then
      if (lg_cmp (t1.2 (Int32.toNatClampNeg 0)) t2.1.toInt64) = 0 then
        some (t2.2, t1.2)
      else
        none
    else
      some (t2.2, t1.2)
  else
    none
def f_W22 (N : Nat) (xs : Nat → Int32) (l5 : Int32) (pc : Int32) (fr : Nat → Int32) (m_s : Nat → Int32) (m_thrown : Int32) (ow : Nat → UInt64) : Option (Int32 × (Nat → UInt64)) :=
  (f_L_meanFace N pc fr ow (xs (Int32.toNatClampNeg (l5 + 1)))).bind fun t1 =>
  (f_X11_meanFace N m_s m_thrown (xs (Int32.toNatClampNeg (l5 + 1)))).bind fun t2 =>
  (f_X11_thrown t2.2).bind fun t3 =>
  if t3 = t1.1 then
    if t1.1 = 0 then
      if (Op.cmpValue (FP.dcmp (t1.2 (Int32.toNatClampNeg 0)) t2.1) CmpOp.l) = 0 then
        some (t2.2, t1.2)
      else
        if (Op.cmpValue (FP.dcmp (t1.2 (Int32.toNatClampNeg 0)) (t1.2 (Int32.toNatClampNeg 0))) CmpOp.l) = 0 then
          none
        else
          if (Op.cmpValue (FP.dcmp t2.1 t2.1) CmpOp.l) = 0 then
            none
          else
            some (t2.2, t1.2)
    else
      some (t2.2, t1.2)
  else
    none
def f_W23 (N : Nat) (xs : Nat → Int32) (l5 : Int32) (pc : Int32) (lt : Nat → Int32) (fr : Nat → Int32) (m_s : Nat → Int32) (m_thrown : Int32) (ov : Nat → Int64) : Option (Int32 × (Nat → Int64)) :=
  (f_L_rankOf N pc lt fr ov (xs (Int32.toNatClampNeg (l5 + 1)))).bind fun t1 =>
  (f_X11_rankOf N m_s m_thrown (xs (Int32.toNatClampNeg (l5 + 1)))).bind fun t2 =>
  (f_X11_thrown t2.2).bind fun t3 =>
  if t3 = t1.1 then
    if t1.1 = 0 then
      if (lg_cmp (t1.2 (Int32.toNatClampNeg 0)) t2.1.toInt64) = 0 then
        some (t2.2, t1.2)
      else
        none
    else
      some (t2.2, t1.2)
  else
    none
def f_W24 (N : Nat) (xs : Nat → Int32) (l5 : Int32) (pc : Int32) (lt : Nat → Int32) (fr : Nat → Int32) (m_s : Nat → Int32) (m_thrown : Int32) (ov : Nat → Int64) : Option (Int32 × (Nat → Int64)) :=
  (f_L_playerWithRank N pc lt fr ov (xs (Int32.toNatClampNeg (l5 + 1)))).bind fun t1 =>
  (f_X11_playerWithRank N m_s m_thrown (xs (Int32.toNatClampNeg (l5 + 1)))).bind fun t2 =>
  (f_X11_thrown t2.2).bind fun t3 =>
  if t3 = t1.1 then
    if t1.1 = 0 then
      if (lg_cmp (t1.2 (Int32.toNatClampNeg 0)) t2.1.toInt64) = 0 then
        some (t2.2, t1.2)
      else
        none
    else
      some (t2.2, t1.2)
  else
    none
def f_W25 (N : Nat) (xs : Nat → Int32) (l5 : Int32) (pc : Int32) (tc : Int32) (en : Nat → Int32) (m_s : Nat → Int32) (m_thrown : Int32) (ov : Nat → Int64) : Option (Int32 × (Nat → Int64)) :=
  (f_L_longestRun N pc tc en ov (xs (Int32.toNatClampNeg (l5 + 1)))).bind fun t1 =>
  (f_X11_longestRun N m_s m_thrown (xs (Int32.toNatClampNeg (l5 + 1)))).bind fun t2 =>
  (f_X11_thrown t2.2).bind fun t3 =>
  if t3 = t1.1 then
    if t1.1 = 0 then
      if (lg_cmp (t1.2 (Int32.toNatClampNeg 0)) t2.1.toInt64) = 0 then
        some (t2.2, t1.2)
      else
        none
    else
      some (t2.2, t1.2)
  else
    none
def f_W26 (N : Nat) (xs : Nat → Int32) (l5 : Int32) (pc : Int32) (ln : Nat → Int32) (lt : Nat → Int32) (itl : Int32) (itb : Nat → Int32) (m_inputLength : Int32) (m_s : Nat → Int32) (m_input : Nat → Int32) (m_thrown : Int32) : Option (Int32) :=
  (f_X10_findPlayer N pc ln lt itl itb).bind fun t1 =>
  (f_X11_findPlayer N m_inputLength m_s m_input m_thrown).bind fun t2 =>
  if t1 = t2.1 then
    some t2.2
  else
    none
def f_W27 (N : Nat) (xs : Nat → Int32) (l5 : Int32) (dc : Int32) (pc : Int32) (fr : Nat → Int32) (m_s : Nat → Int32) (m_thrown : Int32) (ov : Nat → Int64) : Option (Int32 × (Nat → Int64)) :=
  (f_L_throwsOfPair N dc pc fr ov (xs (Int32.toNatClampNeg (l5 + 1))) (xs (Int32.toNatClampNeg (l5 + 2)))).bind fun t1 =>
  (f_X11_throwsOfPair N m_s m_thrown (xs (Int32.toNatClampNeg (l5 + 1))) (xs (Int32.toNatClampNeg (l5 + 2)))).bind fun t2 =>
  (f_X11_thrown t2.2).bind fun t3 =>
  if t3 = t1.1 then
    if t1.1 = 0 then
      if (lg_cmp (t1.2 (Int32.toNatClampNeg 0)) t2.1.toInt64) = 0 then
        some (t2.2, t1.2)
      else
        none
    else
      some (t2.2, t1.2)
  else
    none
def f_W28 (N : Nat) (xs : Nat → Int32) (l5 : Int32) (dc : Int32) (fc : Nat → Int32) (pc : Int32) (fr : Nat → Int32) (m_s : Nat → Int32) (m_thrown : Int32) (m_oftenAll : Int32) (m_often : Nat → Int32) (ov : Nat → Int64) : Option (Int32 × Int32 × (Nat → Int32) × (Nat → Int64)) :=
  (f_L_frequency dc fc pc fr ov (xs (Int32.toNatClampNeg (l5 + 1))) (xs (Int32.toNatClampNeg (l5 + 2))) (xs (Int32.toNatClampNeg (l5 + 3)))).bind fun t1 =>
  (f_X11_frequency N m_s m_thrown m_oftenAll m_often (xs (Int32.toNatClampNeg (l5 + 1))) (xs (Int32.toNatClampNeg (l5 + 2))) (xs (Int32.toNatClampNeg (l5 + 3)))).bind fun t2 =>
  (f_X11_thrown t2.2.1).bind fun t3 =>
  if t3 = t1.1 then
    if t1.1 = 0 then
      if (lg_cmp (t1.2 (Int32.toNatClampNeg 0)) t2.1.toInt64) = 0 then
        some (t2.2.1, t2.2.2.1, t2.2.2.2, t1.2)
      else
        none
    else
      some (t2.2.1, t2.2.2.1, t2.2.2.2, t1.2)
  else
    none
def f_W29 (N : Nat) (xs : Nat → Int32) (l5 : Int32) (dc : Int32) (fc : Nat → Int32) (pc : Int32) (fr : Nat → Int32) (m_s : Nat → Int32) (m_thrown : Int32) (m_oftenAll : Int32) (m_often : Nat → Int32) (ov : Nat → Int64) : Option (Int32 × Int32 × (Nat → Int32) × (Nat → Int64)) :=
  (f_L_commonFace N dc fc pc fr ov (xs (Int32.toNatClampNeg (l5 + 1))) (xs (Int32.toNatClampNeg (l5 + 2)))).bind fun t1 =>
  (f_X11_commonFace N m_s m_thrown m_oftenAll m_often (xs (Int32.toNatClampNeg (l5 + 1))) (xs (Int32.toNatClampNeg (l5 + 2)))).bind fun t2 =>
  (f_X11_thrown t2.2.1).bind fun t3 =>
  if t3 = t1.1 then
    if t1.1 = 0 then
      if (lg_cmp (t1.2 (Int32.toNatClampNeg 0)) t2.1.toInt64) = 0 then
        some (t2.2.1, t2.2.2.1, t2.2.2.2, t1.2)
      else
        none
    else
      some (t2.2.1, t2.2.2.1, t2.2.2.2, t1.2)
  else
    none
def f_W30 (N : Nat) (xs : Nat → Int32) (l5 : Int32) (dc : Int32) (pc : Int32) (fr : Nat → Int32) (m_s : Nat → Int32) (m_thrown : Int32) (m_oftenAll : Int32) (m_often : Nat → Int32) (ov : Nat → Int64) : Option (Int32 × Int32 × (Nat → Int32) × (Nat → Int64)) :=
  (f_L_facesSeen N dc pc fr ov (xs (Int32.toNatClampNeg (l5 + 1))) (xs (Int32.toNatClampNeg (l5 + 2)))).bind fun t1 =>
  (f_X11_facesSeen N m_s m_thrown m_oftenAll m_often (xs (Int32.toNatClampNeg (l5 + 1))) (xs (Int32.toNatClampNeg (l5 + 2)))).bind fun t2 =>
  (f_X11_thrown t2.2.1).bind fun t3 =>
  if t3 = t1.1 then
    if t1.1 = 0 then
      if (lg_cmp (t1.2 (Int32.toNatClampNeg 0)) t2.1.toInt64) = 0 then
        some (t2.2.1, t2.2.2.1, t2.2.2.2, t1.2)
      else
        none
    else
      some (t2.2.1, t2.2.2.1, t2.2.2.2, t1.2)
  else
    none
def f_W31 (N : Nat) (xs : Nat → Int32) (l5 : Int32) (dc : Int32) (pc : Int32) (tc : Int32) (en : Nat → Int32) (m_s : Nat → Int32) (m_thrown : Int32) (ov : Nat → Int64) : Option (Int32 × (Nat → Int64)) :=
  (f_L_latestThrow N dc pc tc en ov (xs (Int32.toNatClampNeg (l5 + 1))) (xs (Int32.toNatClampNeg (l5 + 2)))).bind fun t1 =>
  (f_X11_latestThrow N m_s m_thrown (xs (Int32.toNatClampNeg (l5 + 1))) (xs (Int32.toNatClampNeg (l5 + 2)))).bind fun t2 =>
  (f_X11_thrown t2.2).bind fun t3 =>
  if t3 = t1.1 then
    if t1.1 = 0 then
      if (lg_cmp (t1.2 (Int32.toNatClampNeg 0)) t2.1.toInt64) = 0 then
        some (t2.2, t1.2)
      else
        none
    else
      some (t2.2, t1.2)
  else
    none
def f_W32 (N : Nat) (xs : Nat → Int32) (l5 : Int32) (dc : Int32) (fc : Nat → Int32) (pc : Int32) (fr : Nat → Int32) (m_s : Nat → Int32) (m_thrown : Int32) (m_oftenAll : Int32) (m_often : Nat → Int32) (ov : Nat → Int64) : Option (Int32 × Int32 × (Nat → Int32) × (Nat → Int64)) :=
  (f_L_score N dc fc pc fr ov (xs (Int32.toNatClampNeg (l5 + 1))) (xs (Int32.toNatClampNeg (l5 + 2)))).bind fun t1 =>
  (f_X11_score N m_s m_thrown m_oftenAll m_often (xs (Int32.toNatClampNeg (l5 + 1))) (xs (Int32.toNatClampNeg (l5 + 2)))).bind fun t2 =>
  (f_X11_thrown t2.2.1).bind fun t3 =>
  if t3 = t1.1 then
    if t1.1 = 0 then
      if (lg_cmp (t1.2 (Int32.toNatClampNeg 0)) t2.1.toInt64) = 0 then
        some (t2.2.1, t2.2.2.1, t2.2.2.2, t1.2)
      else
        none
    else
      some (t2.2.1, t2.2.2.1, t2.2.2.2, t1.2)
  else
    none
def f_W33 (N : Nat) (xs : Nat → Int32) (l5 : Int32) (mn : Int32) (th : Int32) (dc : Int32) (fc : Nat → Int32) (pc : Int32) (fr : Nat → Int32) (m_s : Nat → Int32) (m_thrown : Int32) (m_oftenAll : Int32) (m_often : Nat → Int32) (ov : Nat → Int64) : Option (Int32 × Int32 × (Nat → Int32) × (Nat → Int64)) :=
  (f_L_isSuspicious N mn th dc fc pc fr ov (xs (Int32.toNatClampNeg (l5 + 1))) (xs (Int32.toNatClampNeg (l5 + 2)))).bind fun t1 =>
  (f_X11_isSuspicious N m_s m_thrown m_oftenAll m_often (xs (Int32.toNatClampNeg (l5 + 1))) (xs (Int32.toNatClampNeg (l5 + 2)))).bind fun t2 =>
  (f_X11_thrown t2.2.1).bind fun t3 =>
  if t3 = t1.1 then
    if t1.1 = 0 then
      if t2.1 = 0 then
        if (lg_cmp (t1.2 (Int32.toNatClampNeg 0)) 0) = 0 then
          some (t2.2.1, t2.2.2.1, t2.2.2.2, t1.2)
        else
          none
      else
        if (lg_cmp (t1.2 (Int32.toNatClampNeg 0)) 1) = 0 then
          some (t2.2.1, t2.2.2.1, t2.2.2.2, t1.2)
        else
          none
    else
      some (t2.2.1, t2.2.2.1, t2.2.2.2, t1.2)
  else
    none
def f_W34 (N : Nat) (xs : Nat → Int32) (l5 : Int32) (mn : Int32) (th : Int32) (fc : Nat → Int32) (fr : Nat → Int32) (m_s : Nat → Int32) (m_thrown : Int32) (m_oftenAll : Int32) (m_often : Nat → Int32) : Option (Int32 × Int32 × (Nat → Int32)) :=
  (f_X10_suspiciousPairs N mn th fc fr).bind fun t1 =>
  (f_X11_suspiciousPairs N m_s m_thrown m_oftenAll m_often).bind fun t2 =>
  if t1 = t2.1 then
    some (t2.2.1, t2.2.2.1, t2.2.2.2)
  else
    none
def f_W35 (N : Nat) (xs : Nat → Int32) (l5 : Int32) (fc : Nat → Int32) (tc : Int32) (fr : Nat → Int32) (m_s : Nat → Int32) (m_thrown : Int32) (m_oftenAll : Int32) (m_often : Nat → Int32) : Option (Int32 × Int32 × (Nat → Int32)) :=
  (f_X10_worstPair N fc tc fr).bind fun t1 =>
  (f_X11_worstPair N m_s m_thrown m_oftenAll m_often).bind fun t2 =>
  if t1 = t2.1 then
    some (t2.2.1, t2.2.2.1, t2.2.2.2)
  else
    none
def f_W36 (xs : Nat → Int32) (l5 : Int32) (oc : Int32) (m_s : Nat → Int32) (m_thrown : Int32) : Option (Int32) :=
  (f_X10_offenceCount oc).bind fun t1 =>
  (f_X11_offenceCount m_s m_thrown).bind fun t2 =>
  if t1 = t2.1 then
    some t2.2
  else
    none
def f_W37 (xs : Nat → Int32) (l5 : Int32) (oc : Int32) (op : Nat → Int32) (m_s : Nat → Int32) (m_thrown : Int32) (ov : Nat → Int64) : Option (Int32 × (Nat → Int64)) :=
  (f_L_offencePlayer oc op ov (xs (Int32.toNatClampNeg (l5 + 1)))).bind fun t1 =>
  (f_X11_offencePlayer m_s m_thrown (xs (Int32.toNatClampNeg (l5 + 1)))).bind fun t2 =>
  (f_X11_thrown t2.2).bind fun t3 =>
  if t3 = t1.1 then
    if t1.1 = 0 then
      if (lg_cmp (t1.2 (Int32.toNatClampNeg 0)) t2.1.toInt64) = 0 then
        some (t2.2, t1.2)
      else
        none
    else
      some (t2.2, t1.2)
  else
    none
def f_W38 (xs : Nat → Int32) (l5 : Int32) (oc : Int32) (op : Nat → Int32) (m_s : Nat → Int32) (m_thrown : Int32) (ov : Nat → Int64) : Option (Int32 × (Nat → Int64)) :=
  (f_L_offenceDie oc op ov (xs (Int32.toNatClampNeg (l5 + 1)))).bind fun t1 =>
  (f_X11_offenceDie m_s m_thrown (xs (Int32.toNatClampNeg (l5 + 1)))).bind fun t2 =>
  (f_X11_thrown t2.2).bind fun t3 =>
  if t3 = t1.1 then
    if t1.1 = 0 then
      if (lg_cmp (t1.2 (Int32.toNatClampNeg 0)) t2.1.toInt64) = 0 then
        some (t2.2, t1.2)
      else
        none
    else
      some (t2.2, t1.2)
  else
    none
def f_W39 (xs : Nat → Int32) (l5 : Int32) (oc : Int32) (os : Nat → Int32) (m_s : Nat → Int32) (m_thrown : Int32) (ov : Nat → Int64) : Option (Int32 × (Nat → Int64)) :=
  (f_L_offenceScore oc os ov (xs (Int32.toNatClampNeg (l5 + 1)))).bind fun t1 =>
  (f_X11_offenceScore m_s m_thrown (xs (Int32.toNatClampNeg (l5 + 1)))).bind fun t2 =>
  (f_X11_thrown t2.2).bind fun t3 =>
  if t3 = t1.1 then
    if t1.1 = 0 then
      if (lg_cmp (t1.2 (Int32.toNatClampNeg 0)) t2.1.toInt64) = 0 then
        some (t2.2, t1.2)
      else
        none
    else
      some (t2.2, t1.2)
  else
    none
def f_W40 (N : Nat) (xs : Nat → Int32) (l5 : Int32) (pc : Int32) (oc : Int32) (op : Nat → Int32) (m_s : Nat → Int32) (m_thrown : Int32) (ov : Nat → Int64) : Option (Int32 × (Nat → Int64)) :=
  (f_L_offencesOf N pc oc op ov (xs (Int32.toNatClampNeg (l5 + 1)))).bind fun t1 =>
  (f_X11_offencesOf N m_s m_thrown (xs (Int32.toNatClampNeg (l5 + 1)))).bind fun t2 =>
  (f_X11_thrown t2.2).bind fun t3 =>
  if t3 = t1.1 then
    if t1.1 = 0 then
      if (lg_cmp (t1.2 (Int32.toNatClampNeg 0)) t2.1.toInt64) = 0 then
        some (t2.2, t1.2)
      else
        none
    else
      some (t2.2, t1.2)
  else
    none
def f_W41 (N : Nat) (xs : Nat → Int32) (l5 : Int32) (sd : Int32) (dc : Int32) (fc : Nat → Int32) (dw : Nat → Int32) (m_s : Nat → Int32) (m_thrown : Int32) (ov : Nat → Int64) : Option (Int32 × (Nat → Int64)) :=
  (f_L_nextFace N sd dc fc dw ov (xs (Int32.toNatClampNeg (l5 + 1)))).bind fun t1 =>
  (f_X11_nextFace N m_s m_thrown (xs (Int32.toNatClampNeg (l5 + 1)))).bind fun t2 =>
  (f_X11_thrown t2.2).bind fun t3 =>
  if t3 = t1.1 then
    if t1.1 = 0 then
      if (lg_cmp (t1.2 (Int32.toNatClampNeg 0)) t2.1.toInt64) = 0 then
        some (t2.2, t1.2)
      else
        none
    else
      some (t2.2, t1.2)
  else
    none
def f_W42 (N : Nat) (xs : Nat → Int32) (l5 : Int32) (sd : Int32) (dc : Int32) (fc : Nat → Int32) (dw : Nat → Int32) (m_s : Nat → Int32) (m_thrown : Int32) (ov : Nat → Int64) : Option (Int32 × (Nat → Int64)) :=
  (f_L_faceAfter N sd dc fc dw ov (xs (Int32.toNatClampNeg (l5 + 1))) (xs (Int32.toNatClampNeg (l5 + 2)))).bind fun t1 =>
  (f_X11_faceAfter N m_s m_thrown (xs (Int32.toNatClampNeg (l5 + 1))) (xs (Int32.toNatClampNeg (l5 + 2)))).bind fun t2 =>
  (f_X11_thrown t2.2).bind fun t3 =>
  if t3 = t1.1 then
    if t1.1 = 0 then
      if (lg_cmp (t1.2 (Int32.toNatClampNeg 0)) t2.1.toInt64) = 0 then
        some (t2.2, t1.2)
      else
        none
    else
      some (t2.2, t1.2)
  else
    none
def f_W43 (N : Nat) (xs : Nat → Int32) (l5 : Int32) (sd : Int32) (dc : Int32) (fc : Nat → Int32) (dw : Nat → Int32) (m_s : Nat → Int32) (m_thrown : Int32) (ov : Nat → Int64) : Option (Int32 × (Nat → Int64)) :=
  (f_L_throwsUntil N sd dc fc dw ov (xs (Int32.toNatClampNeg (l5 + 1))) (xs (Int32.toNatClampNeg (l5 + 2)))).bind fun t1 =>
  (f_X11_throwsUntil N m_s m_thrown (xs (Int32.toNatClampNeg (l5 + 1))) (xs (Int32.toNatClampNeg (l5 + 2)))).bind fun t2 =>
  (f_X11_thrown t2.2).bind fun t3 =>
  if t3 = t1.1 then
    if t1.1 = 0 then
      if (lg_cmp (t1.2 (Int32.toNatClampNeg 0)) t2.1.toInt64) = 0 then
        some (t2.2, t1.2)
      else
        none
    else
      some (t2.2, t1.2)
  else
    none
def f_W44 (N : Nat) (xs : Nat → Int32) (l5 : Int32) (sd : Int32) (dc : Int32) (fc : Nat → Int32) (dw : Nat → Int32) (pc : Int32) (fr : Nat → Int32) (m_s : Nat → Int32) (fd : Int32) (fs : Int32) (ff : Nat → Int32) (m_thrown : Int32) (m_oftenAll : Int32) (m_often : Nat → Int32) (ov : Nat → Int64) : Option (Int32 × Int32 × (Nat → Int32) × Int32 × Int32 × (Nat → Int32) × (Nat → Int64)) :=
  (f_L_scoreAfter N sd dc fc dw pc fr fd fs ff ov (xs (Int32.toNatClampNeg (l5 + 1))) (xs (Int32.toNatClampNeg (l5 + 2))) (xs (Int32.toNatClampNeg (l5 + 3)))).bind fun t1 =>
  (f_X11_scoreAfter N m_s m_thrown m_oftenAll m_often (xs (Int32.toNatClampNeg (l5 + 1))) (xs (Int32.toNatClampNeg (l5 + 2))) (xs (Int32.toNatClampNeg (l5 + 3)))).bind fun t2 =>
  (f_X11_thrown t2.2.1).bind fun t3 =>
  if t3 = t1.1 then
    if t1.1 = 0 then
      if (lg_cmp (t1.2.2.2.2 (Int32.toNatClampNeg 0)) t2.1.toInt64) = 0 then
        some (t1.2.1, t1.2.2.1, t1.2.2.2.1, t2.2.1, t2.2.2.1, t2.2.2.2, t1.2.2.2.2)
      else
        none
    else
      some (t1.2.1, t1.2.2.1, t1.2.2.2.1, t2.2.1, t2.2.2.1, t2.2.2.2, t1.2.2.2.2)
  else
    none
def f_W45 (N : Nat) (xs : Nat → Int32) (l5 : Int32) (sd : Int32) (mn : Int32) (th : Int32) (dc : Int32) (fc : Nat → Int32) (dw : Nat → Int32) (pc : Int32) (fr : Nat → Int32) (m_s : Nat → Int32) (fd : Int32) (fs : Int32) (ff : Nat → Int32) (m_thrown : Int32) (m_oftenAll : Int32) (m_often : Nat → Int32) (ov : Nat → Int64) : Option (Int32 × Int32 × (Nat → Int32) × Int32 × Int32 × (Nat → Int32) × (Nat → Int64)) :=
  (f_L_throwsUntilSuspicious N sd mn th dc fc dw pc fr fd fs ff ov (xs (Int32.toNatClampNeg (l5 + 1))) (xs (Int32.toNatClampNeg (l5 + 2)))).bind fun t1 =>
  (f_X11_throwsUntilSuspicious N m_s m_thrown m_oftenAll m_often (xs (Int32.toNatClampNeg (l5 + 1))) (xs (Int32.toNatClampNeg (l5 + 2)))).bind fun t2 =>
  (f_X11_thrown t2.2.1).bind fun t3 =>
  if t3 = t1.1 then
    if t1.1 = 0 then
      if (lg_cmp (t1.2.2.2.2 (Int32.toNatClampNeg 0)) t2.1.toInt64) = 0 then
        some (t1.2.1, t1.2.2.1, t1.2.2.2.1, t2.2.1, t2.2.2.1, t2.2.2.2, t1.2.2.2.2)
      else
        none
    else
      some (t1.2.1, t1.2.2.1, t1.2.2.2.1, t2.2.1, t2.2.2.1, t2.2.2.2, t1.2.2.2.2)
  else
    none
def f_W46 (N : Nat) (xs : Nat → Int32) (l5 : Int32) (fr : Nat → Int32) (oc : Int32) (op : Nat → Int32) (os : Nat → Int32) (m_s : Nat → Int32) (m_thrown : Int32) : Option (Int32) :=
  (f_X10_penanceNow N fr oc op os).bind fun t1 =>
  (f_X11_penanceNow N m_s m_thrown).bind fun t2 =>
  if t1 = t2.1 then
    some t2.2
  else
    none
def f_W47 (N : Nat) (xs : Nat → Int32) (l5 : Int32) (tc : Int32) (fr : Nat → Int32) (m_s : Nat → Int32) (m_thrown : Int32) (m_oftenAll : Int32) (m_often : Nat → Int32) : Option (Int32 × Int32 × (Nat → Int32)) :=
  (f_X10_frequencyDifference N tc fr).bind fun t1 =>
  (f_X11_frequencyDifference N m_s m_thrown m_oftenAll m_often).bind fun t2 =>
  if t1 = t2.1 then
    some (t2.2.1, t2.2.2.1, t2.2.2.2)
  else
    none
def f_W48 (N : Nat) (xs : Nat → Int32) (l5 : Int32) (pc : Int32) (tc : Int32) (en : Nat → Int32) (fr : Nat → Int32) (m_s : Nat → Int32) (m_thrown : Int32) : Option (Int32) :=
  (f_X10_totalDifference N pc tc en fr).bind fun t1 =>
  (f_X11_totalDifference N m_s m_thrown).bind fun t2 =>
  if t1 = t2.1 then
    some t2.2
  else
    none
def f_W49 (N : Nat) (xs : Nat → Int32) (l5 : Int32) (tc : Int32) (en : Nat → Int32) (m_s : Nat → Int32) (m_thrown : Int32) : Option (Int32) :=
  (f_X10_fairShare N tc en).bind fun t1 =>
  gd (isn64 (FP.f2d t1)) <|
  (f_X11_fairShare N m_s m_thrown).bind fun t2 =>
  gd (isn64 (FP.f2d t2.1)) <|
  if (Op.cmpValue (FP.dcmp (FP.f2d t1) (FP.f2d t2.1)) CmpOp.l) = 0 then
    some t2.2
  else
    if (Op.cmpValue (FP.dcmp (FP.f2d t1) (FP.f2d t1)) CmpOp.l) = 0 then
      none
    else
      if (Op.cmpValue (FP.dcmp (FP.f2d t2.1) (FP.f2d t2.1)) CmpOp.l) = 0 then
        none
      else
        some t2.2
def f_W50 (N : Nat) (xs : Nat → Int32) (l5 : Int32) (mn : Int32) (th : Int32) (dc : Int32) (fc : Nat → Int32) (dw : Nat → Int32) (pc : Int32) (ln : Nat → Int32) (lt : Nat → Int32) (oc : Int32) (op : Nat → Int32) (os : Nat → Int32) (sd : Int32) (tc : Int32) (en : Nat → Int32) (fr : Nat → Int32) (nx : Int32) (dp : Int32) (m_undoable : Int32) (m_undoStart : Int32) (m_thrown : Int32) (m_s : Nat → Int32) (m_remembered : Nat → Int32) (ov : Nat → Int64) (v_sd : Int32) (v_mn : Int32) (v_th : Int32) (v_dc : Int32) (v_fc : Nat → Int32) (v_dw : Nat → Int32) (v_pc : Int32) (v_ln : Nat → Int32) (v_lt : Nat → Int32) (v_tc : Int32) (v_en : Nat → Int32) (v_fr : Nat → Int32) (v_oc : Int32) (v_op : Nat → Int32) (v_os : Nat → Int32) : Option (Int32 × Int32 × (Nat → Int32) × (Nat → Int32) × Int32 × Int32 × Int32 × Int32 × Int32 × (Nat → Int32) × (Nat → Int32) × (Nat → Int64) × Int32 × Int32 × Int32 × Int32 × (Nat → Int32) × (Nat → Int32) × Int32 × (Nat → Int32) × (Nat → Int32) × Int32 × (Nat → Int32) × (Nat → Int32) × Int32 × (Nat → Int32) × (Nat → Int32)) :=
  (f_L_throwDie N mn th dc fc dw pc ln lt oc op os sd tc en fr nx dp ov v_sd v_mn v_th v_dc v_fc v_dw v_pc v_ln v_lt v_tc v_en v_fr v_oc v_op v_os (xs (Int32.toNatClampNeg (l5 + 1))) (xs (Int32.toNatClampNeg (l5 + 2))) (xs (Int32.toNatClampNeg (l5 + 3)))).bind fun t1 =>
  (f_X11_throwDie N m_undoable m_undoStart m_thrown m_s m_remembered (xs (Int32.toNatClampNeg (l5 + 1))) (xs (Int32.toNatClampNeg (l5 + 2))) (xs (Int32.toNatClampNeg (l5 + 3)))).bind fun t2 =>
  (f_X11_thrown t2.2.2.2.1).bind fun t3 =>
  if t3 = t1.1 then
    if t1.1 = 0 then
      if (lg_cmp (t1.2.2.2.2.2.2.2.1 (Int32.toNatClampNeg 0)) t2.1.toInt64) = 0 then
        some (t1.2.1, t1.2.2.1, t1.2.2.2.1, t1.2.2.2.2.1, t1.2.2.2.2.2.1, t1.2.2.2.2.2.2.1, t2.2.1, t2.2.2.1, t2.2.2.2.1, t2.2.2.2.2.1, t2.2.2.2.2.2, t1.2.2.2.2.2.2.2.1, t1.2.2.2.2.2.2.2.2.1, t1.2.2.2.2.2.2.2.2.2.1, t1.2.2.2.2.2.2.2.2.2.2.1, t1.2.2.2.2.2.2.2.2.2.2.2.1, t1.2.2.2.2.2.2.2.2.2.2.2.2.1, t1.2.2.2.2.2.2.2.2.2.2.2.2.2.1, t1.2.2.2.2.2.2.2.2.2.2.2.2.2.2.1, t1.2.2.2.2.2.2.2.2.2.2.2.2.2.2.2.1, t1.2.2.2.2.2.2.2.2.2.2.2.2.2.2.2.2.1, t1.2.2.2.2.2.2.2.2.2.2.2.2.2.2.2.2.2.1, t1.2.2.2.2.2.2.2.2.2.2.2.2.2.2.2.2.2.2.1, t1.2.2.2.2.2.2.2.2.2.2.2.2.2.2.2.2.2.2.2.1, t1.2.2.2.2.2.2.2.2.2.2.2.2.2.2.2.2.2.2.2.2.1, t1.2.2.2.2.2.2.2.2.2.2.2.2.2.2.2.2.2.2.2.2.2.1, t1.2.2.2.2.2.2.2.2.2.2.2.2.2.2.2.2.2.2.2.2.2.2)
      else
        none
    else
      some (t1.2.1, t1.2.2.1, t1.2.2.2.1, t1.2.2.2.2.1, t1.2.2.2.2.2.1, t1.2.2.2.2.2.2.1, t2.2.1, t2.2.2.1, t2.2.2.2.1, t2.2.2.2.2.1, t2.2.2.2.2.2, t1.2.2.2.2.2.2.2.1, t1.2.2.2.2.2.2.2.2.1, t1.2.2.2.2.2.2.2.2.2.1, t1.2.2.2.2.2.2.2.2.2.2.1, t1.2.2.2.2.2.2.2.2.2.2.2.1, t1.2.2.2.2.2.2.2.2.2.2.2.2.1, t1.2.2.2.2.2.2.2.2.2.2.2.2.2.1, t1.2.2.2.2.2.2.2.2.2.2.2.2.2.2.1, t1.2.2.2.2.2.2.2.2.2.2.2.2.2.2.2.1, t1.2.2.2.2.2.2.2.2.2.2.2.2.2.2.2.2.1, t1.2.2.2.2.2.2.2.2.2.2.2.2.2.2.2.2.2.1, t1.2.2.2.2.2.2.2.2.2.2.2.2.2.2.2.2.2.2.1, t1.2.2.2.2.2.2.2.2.2.2.2.2.2.2.2.2.2.2.2.1, t1.2.2.2.2.2.2.2.2.2.2.2.2.2.2.2.2.2.2.2.2.1, t1.2.2.2.2.2.2.2.2.2.2.2.2.2.2.2.2.2.2.2.2.2.1, t1.2.2.2.2.2.2.2.2.2.2.2.2.2.2.2.2.2.2.2.2.2.2)
  else
    none
def f_W51 (N : Nat) (xs : Nat → Int32) (l5 : Int32) (sd : Int32) (mn : Int32) (th : Int32) (dc : Int32) (fc : Nat → Int32) (dw : Nat → Int32) (pc : Int32) (ln : Nat → Int32) (lt : Nat → Int32) (tc : Int32) (en : Nat → Int32) (fr : Nat → Int32) (oc : Int32) (op : Nat → Int32) (os : Nat → Int32) (nx : Int32) (dp : Int32) (m_undoable : Int32) (m_undoStart : Int32) (m_thrown : Int32) (m_oftenAll : Int32) (m_s : Nat → Int32) (m_remembered : Nat → Int32) (m_often : Nat → Int32) (v_sd : Int32) (v_mn : Int32) (v_th : Int32) (v_dc : Int32) (v_fc : Nat → Int32) (v_dw : Nat → Int32) (v_pc : Int32) (v_ln : Nat → Int32) (v_lt : Nat → Int32) (v_tc : Int32) (v_en : Nat → Int32) (v_fr : Nat → Int32) (v_oc : Int32) (v_op : Nat → Int32) (v_os : Nat → Int32) : Option (Int32 × (Nat → Int32) × (Nat → Int32) × Int32 × Int32 × Int32 × Int32 × Int32 × Int32 × (Nat → Int32) × (Nat → Int32) × (Nat → Int32) × Int32 × Int32 × Int32 × Int32 × (Nat → Int32) × (Nat → Int32) × Int32 × (Nat → Int32) × (Nat → Int32) × Int32 × (Nat → Int32) × (Nat → Int32) × Int32 × (Nat → Int32) × (Nat → Int32)) :=
  (f_X10_audit N sd mn th dc fc dw pc ln lt tc en fr oc op os nx dp v_sd v_mn v_th v_dc v_fc v_dw v_pc v_ln v_lt v_tc v_en v_fr v_oc v_op v_os).bind fun t1 =>
  (f_X11_audit N m_undoable m_undoStart m_thrown m_oftenAll m_s m_remembered m_often).bind fun t2 =>
  if t1.1 = t2.1 then
    some (t1.2.1, t1.2.2.1, t1.2.2.2.1, t1.2.2.2.2.1, t1.2.2.2.2.2.1, t2.2.1, t2.2.2.1, t2.2.2.2.1, t2.2.2.2.2.1, t2.2.2.2.2.2.1, t2.2.2.2.2.2.2.1, t2.2.2.2.2.2.2.2, t1.2.2.2.2.2.2.1, t1.2.2.2.2.2.2.2.1, t1.2.2.2.2.2.2.2.2.1, t1.2.2.2.2.2.2.2.2.2.1, t1.2.2.2.2.2.2.2.2.2.2.1, t1.2.2.2.2.2.2.2.2.2.2.2.1, t1.2.2.2.2.2.2.2.2.2.2.2.2.1, t1.2.2.2.2.2.2.2.2.2.2.2.2.2.1, t1.2.2.2.2.2.2.2.2.2.2.2.2.2.2.1, t1.2.2.2.2.2.2.2.2.2.2.2.2.2.2.2.1, t1.2.2.2.2.2.2.2.2.2.2.2.2.2.2.2.2.1, t1.2.2.2.2.2.2.2.2.2.2.2.2.2.2.2.2.2.1, t1.2.2.2.2.2.2.2.2.2.2.2.2.2.2.2.2.2.2.1, t1.2.2.2.2.2.2.2.2.2.2.2.2.2.2.2.2.2.2.2.1, t1.2.2.2.2.2.2.2.2.2.2.2.2.2.2.2.2.2.2.2.2)
  else
    none
def f_W52 (N : Nat) (xs : Nat → Int32) (l5 : Int32) (mn : Int32) (th : Int32) (dc : Int32) (fc : Nat → Int32) (dw : Nat → Int32) (pc : Int32) (ln : Nat → Int32) (lt : Nat → Int32) (sd : Int32) (tc : Int32) (en : Nat → Int32) (fr : Nat → Int32) (oc : Int32) (op : Nat → Int32) (os : Nat → Int32) (nx : Int32) (dp : Int32) (m_undoable : Int32) (m_undoStart : Int32) (m_thrown : Int32) (m_s : Nat → Int32) (m_remembered : Nat → Int32) (ov : Nat → Int64) (v_sd : Int32) (v_mn : Int32) (v_th : Int32) (v_dc : Int32) (v_fc : Nat → Int32) (v_dw : Nat → Int32) (v_pc : Int32) (v_ln : Nat → Int32) (v_lt : Nat → Int32) (v_tc : Int32) (v_en : Nat → Int32) (v_fr : Nat → Int32) (v_oc : Int32) (v_op : Nat → Int32) (v_os : Nat → Int32) : Option (Int32 × Int32 × (Nat → Int32) × (Nat → Int32) × Int32 × (Nat → Int32) × (Nat → Int32) × Int32 × Int32 × Int32 × Int32 × Int32 × (Nat → Int32) × (Nat → Int32) × (Nat → Int64) × Int32 × Int32 × Int32 × Int32 × (Nat → Int32) × (Nat → Int32) × Int32 × (Nat → Int32) × (Nat → Int32) × Int32 × (Nat → Int32) × (Nat → Int32) × Int32 × (Nat → Int32) × (Nat → Int32)) :=
  (f_L_absolve N mn th dc fc dw pc ln lt sd tc en fr oc op os nx dp ov v_sd v_mn v_th v_dc v_fc v_dw v_pc v_ln v_lt v_tc v_en v_fr v_oc v_op v_os).bind fun t1 =>
  (f_X11_absolve N m_undoable m_undoStart m_thrown m_s m_remembered).bind fun t2 =>
  (f_X11_thrown t2.2.2.2.1).bind fun t3 =>
  if t3 = t1.1 then
    if t1.1 = 0 then
      if (lg_cmp (t1.2.2.2.2.2.2.2.2.2.2.1 (Int32.toNatClampNeg 0)) t2.1.toInt64) = 0 then
        some (t1.2.1, t1.2.2.1, t1.2.2.2.1, t1.2.2.2.2.1, t1.2.2.2.2.2.1, t1.2.2.2.2.2.2.1, t1.2.2.2.2.2.2.2.1, t1.2.2.2.2.2.2.2.2.1, t1.2.2.2.2.2.2.2.2.2.1, t2.2.1, t2.2.2.1, t2.2.2.2.1, t2.2.2.2.2.1, t2.2.2.2.2.2, t1.2.2.2.2.2.2.2.2.2.2.1, t1.2.2.2.2.2.2.2.2.2.2.2.1, t1.2.2.2.2.2.2.2.2.2.2.2.2.1, t1.2.2.2.2.2.2.2.2.2.2.2.2.2.1, t1.2.2.2.2.2.2.2.2.2.2.2.2.2.2.1, t1.2.2.2.2.2.2.2.2.2.2.2.2.2.2.2.1, t1.2.2.2.2.2.2.2.2.2.2.2.2.2.2.2.2.1, t1.2.2.2.2.2.2.2.2.2.2.2.2.2.2.2.2.2.1, t1.2.2.2.2.2.2.2.2.2.2.2.2.2.2.2.2.2.2.1, t1.2.2.2.2.2.2.2.2.2.2.2.2.2.2.2.2.2.2.2.1, t1.2.2.2.2.2.2.2.2.2.2.2.2.2.2.2.2.2.2.2.2.1, t1.2.2.2.2.2.2.2.2.2.2.2.2.2.2.2.2.2.2.2.2.2.1, t1.2.2.2.2.2.2.2.2.2.2.2.2.2.2.2.2.2.2.2.2.2.2.1, t1.2.2.2.2.2.2.2.2.2.2.2.2.2.2.2.2.2.2.2.2.2.2.2.1, t1.2.2.2.2.2.2.2.2.2.2.2.2.2.2.2.2.2.2.2.2.2.2.2.2.1, t1.2.2.2.2.2.2.2.2.2.2.2.2.2.2.2.2.2.2.2.2.2.2.2.2.2)
      else
        none
    else
      some (t1.2.1, t1.2.2.1, t1.2.2.2.1, t1.2.2.2.2.1, t1.2.2.2.2.2.1, t1.2.2.2.2.2.2.1, t1.2.2.2.2.2.2.2.1, t1.2.2.2.2.2.2.2.2.1, t1.2.2.2.2.2.2.2.2.2.1, t2.2.1, t2.2.2.1, t2.2.2.2.1, t2.2.2.2.2.1, t2.2.2.2.2.2, t1.2.2.2.2.2.2.2.2.2.2.1, t1.2.2.2.2.2.2.2.2.2.2.2.1, t1.2.2.2.2.2.2.2.2.2.2.2.2.1, t1.2.2.2.2.2.2.2.2.2.2.2.2.2.1, t1.2.2.2.2.2.2.2.2.2.2.2.2.2.2.1, t1.2.2.2.2.2.2.2.2.2.2.2.2.2.2.2.1, t1.2.2.2.2.2.2.2.2.2.2.2.2.2.2.2.2.1, t1.2.2.2.2.2.2.2.2.2.2.2.2.2.2.2.2.2.1, t1.2.2.2.2.2.2.2.2.2.2.2.2.2.2.2.2.2.2.1, t1.2.2.2.2.2.2.2.2.2.2.2.2.2.2.2.2.2.2.2.1, t1.2.2.2.2.2.2.2.2.2.2.2.2.2.2.2.2.2.2.2.2.1, t1.2.2.2.2.2.2.2.2.2.2.2.2.2.2.2.2.2.2.2.2.2.1, t1.2.2.2.2.2.2.2.2.2.2.2.2.2.2.2.2.2.2.2.2.2.2.1, t1.2.2.2.2.2.2.2.2.2.2.2.2.2.2.2.2.2.2.2.2.2.2.2.1, t1.2.2.2.2.2.2.2.2.2.2.2.2.2.2.2.2.2.2.2.2.2.2.2.2.1, t1.2.2.2.2.2.2.2.2.2.2.2.2.2.2.2.2.2.2.2.2.2.2.2.2.2)
  else
    none
def f_W53 (N : Nat) (xs : Nat → Int32) (l5 : Int32) (sd : Int32) (mn : Int32) (th : Int32) (dc : Int32) (fc : Nat → Int32) (dw : Nat → Int32) (pc : Int32) (ln : Nat → Int32) (lt : Nat → Int32) (tc : Int32) (en : Nat → Int32) (fr : Nat → Int32) (oc : Int32) (op : Nat → Int32) (os : Nat → Int32) (nx : Int32) (dp : Int32) (m_undoable : Int32) (m_undoStart : Int32) (m_thrown : Int32) (m_s : Nat → Int32) (m_remembered : Nat → Int32) (ov : Nat → Int64) (v_sd : Int32) (v_mn : Int32) (v_th : Int32) (v_dc : Int32) (v_fc : Nat → Int32) (v_dw : Nat → Int32) (v_pc : Int32) (v_ln : Nat → Int32) (v_lt : Nat → Int32) (v_tc : Int32) (v_en : Nat → Int32) (v_fr : Nat → Int32) (v_oc : Int32) (v_op : Nat → Int32) (v_os : Nat → Int32) : Option (Int32 × (Nat → Int32) × (Nat → Int32) × Int32 × Int32 × Int32 × Int32 × Int32 × (Nat → Int32) × (Nat → Int32) × (Nat → Int64) × Int32 × Int32 × Int32 × Int32 × (Nat → Int32) × (Nat → Int32) × Int32 × (Nat → Int32) × (Nat → Int32) × Int32 × (Nat → Int32) × (Nat → Int32) × Int32 × (Nat → Int32) × (Nat → Int32)) :=
  (f_L_forgive N sd mn th dc fc dw pc ln lt tc en fr oc op os nx dp ov v_sd v_mn v_th v_dc v_fc v_dw v_pc v_ln v_lt v_tc v_en v_fr v_oc v_op v_os (xs (Int32.toNatClampNeg (l5 + 1)))).bind fun t1 =>
  (f_X11_forgive N m_undoable m_undoStart m_thrown m_s m_remembered (xs (Int32.toNatClampNeg (l5 + 1)))).bind fun t2 =>
  (f_X11_thrown t2.2.2.2.1).bind fun t3 =>
  if t3 = t1.1 then
    if t1.1 = 0 then
      if (lg_cmp (t1.2.2.2.2.2.2.1 (Int32.toNatClampNeg 0)) t2.1.toInt64) = 0 then
        some (t1.2.1, t1.2.2.1, t1.2.2.2.1, t1.2.2.2.2.1, t1.2.2.2.2.2.1, t2.2.1, t2.2.2.1, t2.2.2.2.1, t2.2.2.2.2.1, t2.2.2.2.2.2, t1.2.2.2.2.2.2.1, t1.2.2.2.2.2.2.2.1, t1.2.2.2.2.2.2.2.2.1, t1.2.2.2.2.2.2.2.2.2.1, t1.2.2.2.2.2.2.2.2.2.2.1, t1.2.2.2.2.2.2.2.2.2.2.2.1, t1.2.2.2.2.2.2.2.2.2.2.2.2.1, t1.2.2.2.2.2.2.2.2.2.2.2.2.2.1, t1.2.2.2.2.2.2.2.2.2.2.2.2.2.2.1, t1.2.2.2.2.2.2.2.2.2.2.2.2.2.2.2.1, t1.2.2.2.2.2.2.2.2.2.2.2.2.2.2.2.2.1, t1.2.2.2.2.2.2.2.2.2.2.2.2.2.2.2.2.2.1, t1.2.2.2.2.2.2.2.2.2.2.2.2.2.2.2.2.2.2.1, t1.2.2.2.2.2.2.2.2.2.2.2.2.2.2.2.2.2.2.2.1, t1.2.2.2.2.2.2.2.2.2.2.2.2.2.2.2.2.2.2.2.2.1, t1.2.2.2.2.2.2.2.2.2.2.2.2.2.2.2.2.2.2.2.2.2)
      else
        none
    else
      some (t1.2.1, t1.2.2.1, t1.2.2.2.1, t1.2.2.2.2.1, t1.2.2.2.2.2.1, t2.2.1, t2.2.2.1, t2.2.2.2.1, t2.2.2.2.2.1, t2.2.2.2.2.2, t1.2.2.2.2.2.2.1, t1.2.2.2.2.2.2.2.1, t1.2.2.2.2.2.2.2.2.1, t1.2.2.2.2.2.2.2.2.2.1, t1.2.2.2.2.2.2.2.2.2.2.1, t1.2.2.2.2.2.2.2.2.2.2.2.1, t1.2.2.2.2.2.2.2.2.2.2.2.2.1, t1.2.2.2.2.2.2.2.2.2.2.2.2.2.1, t1.2.2.2.2.2.2.2.2.2.2.2.2.2.2.1, t1.2.2.2.2.2.2.2.2.2.2.2.2.2.2.2.1, t1.2.2.2.2.2.2.2.2.2.2.2.2.2.2.2.2.1, t1.2.2.2.2.2.2.2.2.2.2.2.2.2.2.2.2.2.1, t1.2.2.2.2.2.2.2.2.2.2.2.2.2.2.2.2.2.2.1, t1.2.2.2.2.2.2.2.2.2.2.2.2.2.2.2.2.2.2.2.1, t1.2.2.2.2.2.2.2.2.2.2.2.2.2.2.2.2.2.2.2.2.1, t1.2.2.2.2.2.2.2.2.2.2.2.2.2.2.2.2.2.2.2.2.2)
  else
    none
def f_W54 (N : Nat) (xs : Nat → Int32) (l5 : Int32) (sd : Int32) (mn : Int32) (th : Int32) (dc : Int32) (fc : Nat → Int32) (pc : Int32) (ln : Nat → Int32) (lt : Nat → Int32) (tc : Int32) (en : Nat → Int32) (fr : Nat → Int32) (oc : Int32) (op : Nat → Int32) (os : Nat → Int32) (dw : Nat → Int32) (nx : Int32) (dp : Int32) (m_undoable : Int32) (m_undoStart : Int32) (m_thrown : Int32) (m_s : Nat → Int32) (m_remembered : Nat → Int32) (ov : Nat → Int64) (v_sd : Int32) (v_mn : Int32) (v_th : Int32) (v_dc : Int32) (v_fc : Nat → Int32) (v_dw : Nat → Int32) (v_pc : Int32) (v_ln : Nat → Int32) (v_lt : Nat → Int32) (v_tc : Int32) (v_en : Nat → Int32) (v_fr : Nat → Int32) (v_oc : Int32) (v_op : Nat → Int32) (v_os : Nat → Int32) : Option ((Nat → Int32) × Int32 × Int32 × Int32 × Int32 × Int32 × (Nat → Int32) × (Nat → Int32) × (Nat → Int64) × Int32 × Int32 × Int32 × Int32 × (Nat → Int32) × (Nat → Int32) × Int32 × (Nat → Int32) × (Nat → Int32) × Int32 × (Nat → Int32) × (Nat → Int32) × Int32 × (Nat → Int32) × (Nat → Int32)) :=
  (f_L_setWeight N sd mn th dc fc pc ln lt tc en fr oc op os dw nx dp ov v_sd v_mn v_th v_dc v_fc v_dw v_pc v_ln v_lt v_tc v_en v_fr v_oc v_op v_os (xs (Int32.toNatClampNeg (l5 + 1))) (xs (Int32.toNatClampNeg (l5 + 2))) (xs (Int32.toNatClampNeg (l5 + 3)))).bind fun t1 =>
  (f_X11_setWeight N m_undoable m_undoStart m_thrown m_s m_remembered (xs (Int32.toNatClampNeg (l5 + 1))) (xs (Int32.toNatClampNeg (l5 + 2))) (xs (Int32.toNatClampNeg (l5 + 3)))).bind fun t2 =>
  (f_X11_thrown t2.2.2.2.1).bind fun t3 =>
  if t3 = t1.1 then
    if t1.1 = 0 then
      if (lg_cmp (t1.2.2.2.2.1 (Int32.toNatClampNeg 0)) t2.1.toInt64) = 0 then
        some (t1.2.1, t1.2.2.1, t1.2.2.2.1, t2.2.1, t2.2.2.1, t2.2.2.2.1, t2.2.2.2.2.1, t2.2.2.2.2.2, t1.2.2.2.2.1, t1.2.2.2.2.2.1, t1.2.2.2.2.2.2.1, t1.2.2.2.2.2.2.2.1, t1.2.2.2.2.2.2.2.2.1, t1.2.2.2.2.2.2.2.2.2.1, t1.2.2.2.2.2.2.2.2.2.2.1, t1.2.2.2.2.2.2.2.2.2.2.2.1, t1.2.2.2.2.2.2.2.2.2.2.2.2.1, t1.2.2.2.2.2.2.2.2.2.2.2.2.2.1, t1.2.2.2.2.2.2.2.2.2.2.2.2.2.2.1, t1.2.2.2.2.2.2.2.2.2.2.2.2.2.2.2.1, t1.2.2.2.2.2.2.2.2.2.2.2.2.2.2.2.2.1, t1.2.2.2.2.2.2.2.2.2.2.2.2.2.2.2.2.2.1, t1.2.2.2.2.2.2.2.2.2.2.2.2.2.2.2.2.2.2.1, t1.2.2.2.2.2.2.2.2.2.2.2.2.2.2.2.2.2.2.2)
      else
        none
    else
      some (t1.2.1, t1.2.2.1, t1.2.2.2.1, t2.2.1, t2.2.2.1, t2.2.2.2.1, t2.2.2.2.2.1, t2.2.2.2.2.2, t1.2.2.2.2.1, t1.2.2.2.2.2.1, t1.2.2.2.2.2.2.1, t1.2.2.2.2.2.2.2.1, t1.2.2.2.2.2.2.2.2.1, t1.2.2.2.2.2.2.2.2.2.1, t1.2.2.2.2.2.2.2.2.2.2.1, t1.2.2.2.2.2.2.2.2.2.2.2.1, t1.2.2.2.2.2.2.2.2.2.2.2.2.1, t1.2.2.2.2.2.2.2.2.2.2.2.2.2.1, t1.2.2.2.2.2.2.2.2.2.2.2.2.2.2.1, t1.2.2.2.2.2.2.2.2.2.2.2.2.2.2.2.1, t1.2.2.2.2.2.2.2.2.2.2.2.2.2.2.2.2.1, t1.2.2.2.2.2.2.2.2.2.2.2.2.2.2.2.2.2.1, t1.2.2.2.2.2.2.2.2.2.2.2.2.2.2.2.2.2.2.1, t1.2.2.2.2.2.2.2.2.2.2.2.2.2.2.2.2.2.2.2)
  else
    none
def f_W55 (N : Nat) (xs : Nat → Int32) (l5 : Int32) (mn : Int32) (th : Int32) (dc : Int32) (fc : Nat → Int32) (dw : Nat → Int32) (pc : Int32) (ln : Nat → Int32) (lt : Nat → Int32) (tc : Int32) (en : Nat → Int32) (fr : Nat → Int32) (oc : Int32) (op : Nat → Int32) (os : Nat → Int32) (sd : Int32) (nx : Int32) (dp : Int32) (m_undoable : Int32) (m_undoStart : Int32) (m_thrown : Int32) (m_s : Nat → Int32) (m_remembered : Nat → Int32) (ov : Nat → Int64) (v_sd : Int32) (v_mn : Int32) (v_th : Int32) (v_dc : Int32) (v_fc : Nat → Int32) (v_dw : Nat → Int32) (v_pc : Int32) (v_ln : Nat → Int32) (v_lt : Nat → Int32) (v_tc : Int32) (v_en : Nat → Int32) (v_fr : Nat → Int32) (v_oc : Int32) (v_op : Nat → Int32) (v_os : Nat → Int32) : Option (Int32 × Int32 × Int32 × Int32 × Int32 × Int32 × (Nat → Int32) × (Nat → Int32) × (Nat → Int64) × Int32 × Int32 × Int32 × Int32 × (Nat → Int32) × (Nat → Int32) × Int32 × (Nat → Int32) × (Nat → Int32) × Int32 × (Nat → Int32) × (Nat → Int32) × Int32 × (Nat → Int32) × (Nat → Int32)) :=
  (f_L_setSeed mn th dc fc dw pc ln lt tc en fr oc op os sd nx dp ov v_sd v_mn v_th v_dc v_fc v_dw v_pc v_ln v_lt v_tc v_en v_fr v_oc v_op v_os (xs (Int32.toNatClampNeg (l5 + 1)))).bind fun t1 =>
  (f_X11_setSeed N m_undoable m_undoStart m_thrown m_s m_remembered (xs (Int32.toNatClampNeg (l5 + 1)))).bind fun t2 =>
  (f_X11_thrown t2.2.2.2.1).bind fun t3 =>
  if t3 = t1.1 then
    if t1.1 = 0 then
      if (lg_cmp (t1.2.2.2.2.1 (Int32.toNatClampNeg 0)) t2.1.toInt64) = 0 then
        some (t1.2.1, t1.2.2.1, t1.2.2.2.1, t2.2.1, t2.2.2.1, t2.2.2.2.1, t2.2.2.2.2.1, t2.2.2.2.2.2, t1.2.2.2.2.1, t1.2.2.2.2.2.1, t1.2.2.2.2.2.2.1, t1.2.2.2.2.2.2.2.1, t1.2.2.2.2.2.2.2.2.1, t1.2.2.2.2.2.2.2.2.2.1, t1.2.2.2.2.2.2.2.2.2.2.1, t1.2.2.2.2.2.2.2.2.2.2.2.1, t1.2.2.2.2.2.2.2.2.2.2.2.2.1, t1.2.2.2.2.2.2.2.2.2.2.2.2.2.1, t1.2.2.2.2.2.2.2.2.2.2.2.2.2.2.1, t1.2.2.2.2.2.2.2.2.2.2.2.2.2.2.2.1, t1.2.2.2.2.2.2.2.2.2.2.2.2.2.2.2.2.1, t1.2.2.2.2.2.2.2.2.2.2.2.2.2.2.2.2.2.1, t1.2.2.2.2.2.2.2.2.2.2.2.2.2.2.2.2.2.2.1, t1.2.2.2.2.2.2.2.2.2.2.2.2.2.2.2.2.2.2.2)
      else
        none
    else
      some (t1.2.1, t1.2.2.1, t1.2.2.2.1, t2.2.1, t2.2.2.1, t2.2.2.2.1, t2.2.2.2.2.1, t2.2.2.2.2.2, t1.2.2.2.2.1, t1.2.2.2.2.2.1, t1.2.2.2.2.2.2.1, t1.2.2.2.2.2.2.2.1, t1.2.2.2.2.2.2.2.2.1, t1.2.2.2.2.2.2.2.2.2.1, t1.2.2.2.2.2.2.2.2.2.2.1, t1.2.2.2.2.2.2.2.2.2.2.2.1, t1.2.2.2.2.2.2.2.2.2.2.2.2.1, t1.2.2.2.2.2.2.2.2.2.2.2.2.2.1, t1.2.2.2.2.2.2.2.2.2.2.2.2.2.2.1, t1.2.2.2.2.2.2.2.2.2.2.2.2.2.2.2.1, t1.2.2.2.2.2.2.2.2.2.2.2.2.2.2.2.2.1, t1.2.2.2.2.2.2.2.2.2.2.2.2.2.2.2.2.2.1, t1.2.2.2.2.2.2.2.2.2.2.2.2.2.2.2.2.2.2.1, t1.2.2.2.2.2.2.2.2.2.2.2.2.2.2.2.2.2.2.2)
  else
    none
def f_W56 (N : Nat) (xs : Nat → Int32) (l5 : Int32) (sd : Int32) (dc : Int32) (fc : Nat → Int32) (dw : Nat → Int32) (pc : Int32) (ln : Nat → Int32) (lt : Nat → Int32) (tc : Int32) (en : Nat → Int32) (fr : Nat → Int32) (oc : Int32) (op : Nat → Int32) (os : Nat → Int32) (mn : Int32) (th : Int32) (nx : Int32) (dp : Int32) (m_undoable : Int32) (m_undoStart : Int32) (m_thrown : Int32) (m_oftenAll : Int32) (m_s : Nat → Int32) (m_remembered : Nat → Int32) (m_often : Nat → Int32) (ov : Nat → Int64) (v_sd : Int32) (v_mn : Int32) (v_th : Int32) (v_dc : Int32) (v_fc : Nat → Int32) (v_dw : Nat → Int32) (v_pc : Int32) (v_ln : Nat → Int32) (v_lt : Nat → Int32) (v_tc : Int32) (v_en : Nat → Int32) (v_fr : Nat → Int32) (v_oc : Int32) (v_op : Nat → Int32) (v_os : Nat → Int32) : Option (Int32 × Int32 × Int32 × Int32 × Int32 × Int32 × Int32 × Int32 × (Nat → Int32) × (Nat → Int32) × (Nat → Int32) × (Nat → Int64) × Int32 × Int32 × Int32 × Int32 × (Nat → Int32) × (Nat → Int32) × Int32 × (Nat → Int32) × (Nat → Int32) × Int32 × (Nat → Int32) × (Nat → Int32) × Int32 × (Nat → Int32) × (Nat → Int32)) :=
  (f_L_setLimits N sd dc fc dw pc ln lt tc en fr oc op os mn th nx dp ov v_sd v_mn v_th v_dc v_fc v_dw v_pc v_ln v_lt v_tc v_en v_fr v_oc v_op v_os (xs (Int32.toNatClampNeg (l5 + 1))) (xs (Int32.toNatClampNeg (l5 + 2)))).bind fun t1 =>
  (f_X11_setLimits N m_undoable m_undoStart m_thrown m_oftenAll m_s m_remembered m_often (xs (Int32.toNatClampNeg (l5 + 1))) (xs (Int32.toNatClampNeg (l5 + 2)))).bind fun t2 =>
  (f_X11_thrown t2.2.2.2.1).bind fun t3 =>
  if t3 = t1.1 then
    if t1.1 = 0 then
      if (lg_cmp (t1.2.2.2.2.2.1 (Int32.toNatClampNeg 0)) t2.1.toInt64) = 0 then
        some (t1.2.1, t1.2.2.1, t1.2.2.2.1, t1.2.2.2.2.1, t2.2.1, t2.2.2.1, t2.2.2.2.1, t2.2.2.2.2.1, t2.2.2.2.2.2.1, t2.2.2.2.2.2.2.1, t2.2.2.2.2.2.2.2, t1.2.2.2.2.2.1, t1.2.2.2.2.2.2.1, t1.2.2.2.2.2.2.2.1, t1.2.2.2.2.2.2.2.2.1, t1.2.2.2.2.2.2.2.2.2.1, t1.2.2.2.2.2.2.2.2.2.2.1, t1.2.2.2.2.2.2.2.2.2.2.2.1, t1.2.2.2.2.2.2.2.2.2.2.2.2.1, t1.2.2.2.2.2.2.2.2.2.2.2.2.2.1, t1.2.2.2.2.2.2.2.2.2.2.2.2.2.2.1, t1.2.2.2.2.2.2.2.2.2.2.2.2.2.2.2.1, t1.2.2.2.2.2.2.2.2.2.2.2.2.2.2.2.2.1, t1.2.2.2.2.2.2.2.2.2.2.2.2.2.2.2.2.2.1, t1.2.2.2.2.2.2.2.2.2.2.2.2.2.2.2.2.2.2.1, t1.2.2.2.2.2.2.2.2.2.2.2.2.2.2.2.2.2.2.2.1, t1.2.2.2.2.2.2.2.2.2.2.2.2.2.2.2.2.2.2.2.2)
      else
        none
    else
      some (t1.2.1, t1.2.2.1, t1.2.2.2.1, t1.2.2.2.2.1, t2.2.1, t2.2.2.1, t2.2.2.2.1, t2.2.2.2.2.1, t2.2.2.2.2.2.1, t2.2.2.2.2.2.2.1, t2.2.2.2.2.2.2.2, t1.2.2.2.2.2.1, t1.2.2.2.2.2.2.1, t1.2.2.2.2.2.2.2.1, t1.2.2.2.2.2.2.2.2.1, t1.2.2.2.2.2.2.2.2.2.1, t1.2.2.2.2.2.2.2.2.2.2.1, t1.2.2.2.2.2.2.2.2.2.2.2.1, t1.2.2.2.2.2.2.2.2.2.2.2.2.1, t1.2.2.2.2.2.2.2.2.2.2.2.2.2.1, t1.2.2.2.2.2.2.2.2.2.2.2.2.2.2.1, t1.2.2.2.2.2.2.2.2.2.2.2.2.2.2.2.1, t1.2.2.2.2.2.2.2.2.2.2.2.2.2.2.2.2.1, t1.2.2.2.2.2.2.2.2.2.2.2.2.2.2.2.2.2.1, t1.2.2.2.2.2.2.2.2.2.2.2.2.2.2.2.2.2.2.1, t1.2.2.2.2.2.2.2.2.2.2.2.2.2.2.2.2.2.2.2.1, t1.2.2.2.2.2.2.2.2.2.2.2.2.2.2.2.2.2.2.2.2)
  else
    none
def f_W57 (N : Nat) (xs : Nat → Int32) (l5 : Int32) (pc : Int32) (ln : Nat → Int32) (lt : Nat → Int32) (fr : Nat → Int32) (oc : Int32) (op : Nat → Int32) (m_s : Nat → Int32) (otl : Int32) (otb : Nat → Int32) (m_thrown : Int32) (m_outputLength : Int32) (m_output : Nat → Int32) : Option (Int32 × (Nat → Int32) × Int32 × Int32 × (Nat → Int32)) :=
  (f_X10_writeRecords N pc ln lt fr oc op otl otb).bind fun t1 =>
  (f_X11_writeRecords N m_s m_thrown m_outputLength m_output).bind fun t2 =>
  if t1.1 = t2.1 then
    some (t1.2.1, t1.2.2, t2.2.1, t2.2.2.1, t2.2.2.2)
  else
    none
def f_W58 (N : Nat) (xs : Nat → Int32) (l5 : Int32) (pc : Int32) (tc : Int32) (en : Nat → Int32) (m_s : Nat → Int32) (otl : Int32) (otb : Nat → Int32) (m_thrown : Int32) (m_outputLength : Int32) (m_output : Nat → Int32) (ov : Nat → Int64) : Option (Int32 × (Nat → Int32) × Int32 × Int32 × (Nat → Int32) × (Nat → Int64)) :=
  (f_L_writeFaces N pc tc en otl otb ov (xs (Int32.toNatClampNeg (l5 + 1)))).bind fun t1 =>
  (f_X11_writeFaces N m_s m_thrown m_outputLength m_output (xs (Int32.toNatClampNeg (l5 + 1)))).bind fun t2 =>
  (f_X11_thrown t2.2.1).bind fun t3 =>
  if t3 = t1.1 then
    if t1.1 = 0 then
      if (lg_cmp (t1.2.2.2 (Int32.toNatClampNeg 0)) t2.1.toInt64) = 0 then
        some (t1.2.1, t1.2.2.1, t2.2.1, t2.2.2.1, t2.2.2.2, t1.2.2.2)
      else
        none
    else
      some (t1.2.1, t1.2.2.1, t2.2.1, t2.2.2.1, t2.2.2.2, t1.2.2.2)
  else
    none
def f_W59 (xs : Nat → Int32) (l5 : Int32) (otl : Int32) (otb : Nat → Int32) (m_outputLength : Int32) (m_output : Nat → Int32) (m_thrown : Int32) (ov : Nat → Int64) : Option (Int32 × (Nat → Int64)) :=
  (f_L_outputByte otl otb ov (xs (Int32.toNatClampNeg (l5 + 1)))).bind fun t1 =>
  (f_X11_outputByte m_outputLength m_output m_thrown (xs (Int32.toNatClampNeg (l5 + 1)))).bind fun t2 =>
  (f_X11_thrown t2.2).bind fun t3 =>
  if t3 = t1.1 then
    if t1.1 = 0 then
      if (lg_cmp (t1.2 (Int32.toNatClampNeg 0)) t2.1.toInt64) = 0 then
        some (t2.2, t1.2)
      else
        none
    else
      some (t2.2, t1.2)
  else
    none
def f_W60 (N : Nat) (xs : Nat → Int32) (l5 : Int32) (sd : Int32) (mn : Int32) (th : Int32) (dc : Int32) (fc : Nat → Int32) (dw : Nat → Int32) (pc : Int32) (ln : Nat → Int32) (lt : Nat → Int32) (tc : Int32) (en : Nat → Int32) (fr : Nat → Int32) (oc : Int32) (op : Nat → Int32) (os : Nat → Int32) (m_s : Nat → Int32) (su : Nat → Int32) (m_thrown : Int32) (m_slots : Nat → Int32) (m_kept : Nat → Int32) (ov : Nat → Int64) (w_sd : Int32) (w_mn : Int32) (w_th : Int32) (w_dc : Int32) (w_fc : Nat → Int32) (w_dw : Nat → Int32) (w_pc : Int32) (w_ln : Nat → Int32) (w_lt : Nat → Int32) (w_tc : Int32) (w_en : Nat → Int32) (w_fr : Nat → Int32) (w_oc : Int32) (w_op : Nat → Int32) (w_os : Nat → Int32) : Option ((Nat → Int32) × Int32 × (Nat → Int32) × (Nat → Int32) × (Nat → Int64) × Int32 × Int32 × Int32 × Int32 × (Nat → Int32) × (Nat → Int32) × Int32 × (Nat → Int32) × (Nat → Int32) × Int32 × (Nat → Int32) × (Nat → Int32) × Int32 × (Nat → Int32) × (Nat → Int32)) :=
  (f_L_save sd mn th dc fc dw pc ln lt tc en fr oc op os su ov w_sd w_mn w_th w_dc w_fc w_dw w_pc w_ln w_lt w_tc w_en w_fr w_oc w_op w_os (xs (Int32.toNatClampNeg (l5 + 1)))).bind fun t1 =>
  (f_X11_save N m_s m_thrown m_slots m_kept (xs (Int32.toNatClampNeg (l5 + 1)))).bind fun t2 =>
  (f_X11_thrown t2.2.1).bind fun t3 =>
  if t3 = t1.1 then
    if t1.1 = 0 then
      if (lg_cmp (t1.2.2.1 (Int32.toNatClampNeg 0)) t2.1.toInt64) = 0 then
        some (t1.2.1, t2.2.1, t2.2.2.1, t2.2.2.2, t1.2.2.1, t1.2.2.2.1, t1.2.2.2.2.1, t1.2.2.2.2.2.1, t1.2.2.2.2.2.2.1, t1.2.2.2.2.2.2.2.1, t1.2.2.2.2.2.2.2.2.1, t1.2.2.2.2.2.2.2.2.2.1, t1.2.2.2.2.2.2.2.2.2.2.1, t1.2.2.2.2.2.2.2.2.2.2.2.1, t1.2.2.2.2.2.2.2.2.2.2.2.2.1, t1.2.2.2.2.2.2.2.2.2.2.2.2.2.1, t1.2.2.2.2.2.2.2.2.2.2.2.2.2.2.1, t1.2.2.2.2.2.2.2.2.2.2.2.2.2.2.2.1, t1.2.2.2.2.2.2.2.2.2.2.2.2.2.2.2.2.1, t1.2.2.2.2.2.2.2.2.2.2.2.2.2.2.2.2.2)
      else
        none
    else
      some (t1.2.1, t2.2.1, t2.2.2.1, t2.2.2.2, t1.2.2.1, t1.2.2.2.1, t1.2.2.2.2.1, t1.2.2.2.2.2.1, t1.2.2.2.2.2.2.1, t1.2.2.2.2.2.2.2.1, t1.2.2.2.2.2.2.2.2.1, t1.2.2.2.2.2.2.2.2.2.1, t1.2.2.2.2.2.2.2.2.2.2.1, t1.2.2.2.2.2.2.2.2.2.2.2.1, t1.2.2.2.2.2.2.2.2.2.2.2.2.1, t1.2.2.2.2.2.2.2.2.2.2.2.2.2.1, t1.2.2.2.2.2.2.2.2.2.2.2.2.2.2.1, t1.2.2.2.2.2.2.2.2.2.2.2.2.2.2.2.1, t1.2.2.2.2.2.2.2.2.2.2.2.2.2.2.2.2.1, t1.2.2.2.2.2.2.2.2.2.2.2.2.2.2.2.2.2)
  else
    none
def f_W61 (N : Nat) (xs : Nat → Int32) (l5 : Int32) (su : Nat → Int32) (m_slots : Nat → Int32) (m_kept : Nat → Int32) (w_sd : Int32) (w_mn : Int32) (w_th : Int32) (w_dc : Int32) (w_fc : Nat → Int32) (w_dw : Nat → Int32) (w_pc : Int32) (w_ln : Nat → Int32) (w_lt : Nat → Int32) (w_tc : Int32) (w_en : Nat → Int32) (w_fr : Nat → Int32) (w_oc : Int32) (w_op : Nat → Int32) (w_os : Nat → Int32) (sd : Int32) (mn : Int32) (th : Int32) (dc : Int32) (fc : Nat → Int32) (dw : Nat → Int32) (pc : Int32) (ln : Nat → Int32) (lt : Nat → Int32) (tc : Int32) (en : Nat → Int32) (fr : Nat → Int32) (oc : Int32) (op : Nat → Int32) (os : Nat → Int32) (nx : Int32) (dp : Int32) (m_undoable : Int32) (m_undoStart : Int32) (m_thrown : Int32) (m_s : Nat → Int32) (m_remembered : Nat → Int32) (ov : Nat → Int64) (v_sd : Int32) (v_mn : Int32) (v_th : Int32) (v_dc : Int32) (v_fc : Nat → Int32) (v_dw : Nat → Int32) (v_pc : Int32) (v_ln : Nat → Int32) (v_lt : Nat → Int32) (v_tc : Int32) (v_en : Nat → Int32) (v_fr : Nat → Int32) (v_oc : Int32) (v_op : Nat → Int32) (v_os : Nat → Int32) : Option (Int32 × Int32 × Int32 × Int32 × (Nat → Int32) × (Nat → Int32) × Int32 × (Nat → Int32) × (Nat → Int32) × Int32 × (Nat → Int32) × (Nat → Int32) × Int32 × (Nat → Int32) × (Nat → Int32) × Int32 × Int32 × Int32 × Int32 × Int32 × (Nat → Int32) × (Nat → Int32) × (Nat → Int64) × Int32 × Int32 × Int32 × Int32 × (Nat → Int32) × (Nat → Int32) × Int32 × (Nat → Int32) × (Nat → Int32) × Int32 × (Nat → Int32) × (Nat → Int32) × Int32 × (Nat → Int32) × (Nat → Int32)) :=
  (f_L_restore su w_sd w_mn w_th w_dc w_fc w_dw w_pc w_ln w_lt w_tc w_en w_fr w_oc w_op w_os sd mn th dc fc dw pc ln lt tc en fr oc op os nx dp ov v_sd v_mn v_th v_dc v_fc v_dw v_pc v_ln v_lt v_tc v_en v_fr v_oc v_op v_os (xs (Int32.toNatClampNeg (l5 + 1)))).bind fun t1 =>
  (f_X11_restore N m_slots m_kept m_undoable m_undoStart m_thrown m_s m_remembered (xs (Int32.toNatClampNeg (l5 + 1)))).bind fun t2 =>
  (f_X11_thrown t2.2.2.2.1).bind fun t3 =>
  if t3 = t1.1 then
    if t1.1 = 0 then
      if (lg_cmp (t1.2.2.2.2.2.2.2.2.2.2.2.2.2.2.2.2.2.2.1 (Int32.toNatClampNeg 0)) t2.1.toInt64) = 0 then
        some (t1.2.1, t1.2.2.1, t1.2.2.2.1, t1.2.2.2.2.1, t1.2.2.2.2.2.1, t1.2.2.2.2.2.2.1, t1.2.2.2.2.2.2.2.1, t1.2.2.2.2.2.2.2.2.1, t1.2.2.2.2.2.2.2.2.2.1, t1.2.2.2.2.2.2.2.2.2.2.1, t1.2.2.2.2.2.2.2.2.2.2.2.1, t1.2.2.2.2.2.2.2.2.2.2.2.2.1, t1.2.2.2.2.2.2.2.2.2.2.2.2.2.1, t1.2.2.2.2.2.2.2.2.2.2.2.2.2.2.1, t1.2.2.2.2.2.2.2.2.2.2.2.2.2.2.2.1, t1.2.2.2.2.2.2.2.2.2.2.2.2.2.2.2.2.1, t1.2.2.2.2.2.2.2.2.2.2.2.2.2.2.2.2.2.1, t2.2.1, t2.2.2.1, t2.2.2.2.1, t2.2.2.2.2.1, t2.2.2.2.2.2, t1.2.2.2.2.2.2.2.2.2.2.2.2.2.2.2.2.2.2.1, t1.2.2.2.2.2.2.2.2.2.2.2.2.2.2.2.2.2.2.2.1, t1.2.2.2.2.2.2.2.2.2.2.2.2.2.2.2.2.2.2.2.2.1, t1.2.2.2.2.2.2.2.2.2.2.2.2.2.2.2.2.2.2.2.2.2.1, t1.2.2.2.2.2.2.2.2.2.2.2.2.2.2.2.2.2.2.2.2.2.2.1, t1.2.2.2.2.2.2.2.2.2.2.2.2.2.2.2.2.2.2.2.2.2.2.2.1, t1.2.2.2.2.2.2.2.2.2.2.2.2.2.2.2.2.2.2.2.2.2.2.2.2.1, t1.2.2.2.2.2.2.2.2.2.2.2.2.2.2.2.2.2.2.2.2.2.2.2.2.2.1, t1.2.2.2.2.2.2.2.2.2.2.2.2.2.2.2.2.2.2.2.2.2.2.2.2.2.2.1, t1.2.2.2.2.2.2.2.2.2.2.2.2.2.2.2.2.2.2.2.2.2.2.2.2.2.2.2.1, t1.2.2.2.2.2.2.2.2.2.2.2.2.2.2.2.2.2.2.2.2.2.2.2.2.2.2.2.2.1, t1.2.2.2.2.2.2.2.2.2.2.2.2.2.2.2.2.2.2.2.2.2.2.2.2.2.2.2.2.2.1, t1.2.2.2.2.2.2.2.2.2.2.2.2.2.2.2.2.2.2.2.2.2.2.2.2.2.2.2.2.2.2.1, t1.2.2.2.2.2.2.2.2.2.2.2.2.2.2.2.2.2.2.2.2.2.2.2.2.2.2.2.2.2.2.2.1, t1.2.2.2.2.2.2.2.2.2.2.2.2.2.2.2.2.2.2.2.2.2.2.2.2.2.2.2.2.2.2.2.2.1, t1.2.2.2.2.2.2.2.2.2.2.2.2.2.2.2.2.2.2.2.2.2.2.2.2.2.2.2.2.2.2.2.2.2)
      else
        none
    else
      some (t1.2.1, t1.2.2.1, t1.2.2.2.1, t1.2.2.2.2.1, t1.2.2.2.2.2.1, t1.2.2.2.2.2.2.1, t1.2.2.2.2.2.2.2.1, t1.2.2.2.2.2.2.2.2.1, t1.2.2.2.2.2.2.2.2.2.1, t1.2.2.2.2.2.2.2.2.2.2.1, t1.2.2.2.2.2.2.2.2.2.2.2.1, t1.2.2.2.2.2.2.2.2.2.2.2.2.1, t1.2.2.2.2.2.2.2.2.2.2.2.2.2.1, t1.2.2.2.2.2.2.2.2.2.2.2.2.2.2.1, t1.2.2.2.2.2.2.2.2.2.2.2.2.2.2.2.1, t1.2.2.2.2.2.2.2.2.2.2.2.2.2.2.2.2.1, t1.2.2.2.2.2.2.2.2.2.2.2.2.2.2.2.2.2.1, t2.2.1, t2.2.2.1, t2.2.2.2.1, t2.2.2.2.2.1, t2.2.2.2.2.2, t1.2.2.2.2.2.2.2.2.2.2.2.2.2.2.2.2.2.2.1, t1.2.2.2.2.2.2.2.2.2.2.2.2.2.2.2.2.2.2.2.1, t1.2.2.2.2.2.2.2.2.2.2.2.2.2.2.2.2.2.2.2.2.1, t1.2.2.2.2.2.2.2.2.2.2.2.2.2.2.2.2.2.2.2.2.2.1, t1.2.2.2.2.2.2.2.2.2.2.2.2.2.2.2.2.2.2.2.2.2.2.1, t1.2.2.2.2.2.2.2.2.2.2.2.2.2.2.2.2.2.2.2.2.2.2.2.1, t1.2.2.2.2.2.2.2.2.2.2.2.2.2.2.2.2.2.2.2.2.2.2.2.2.1, t1.2.2.2.2.2.2.2.2.2.2.2.2.2.2.2.2.2.2.2.2.2.2.2.2.2.1, t1.2.2.2.2.2.2.2.2.2.2.2.2.2.2.2.2.2.2.2.2.2.2.2.2.2.2.1, t1.2.2.2.2.2.2.2.2.2.2.2.2.2.2.2.2.2.2.2.2.2.2.2.2.2.2.2.1, t1.2.2.2.2.2.2.2.2.2.2.2.2.2.2.2.2.2.2.2.2.2.2.2.2.2.2.2.2.1, t1.2.2.2.2.2.2.2.2.2.2.2.2.2.2.2.2.2.2.2.2.2.2.2.2.2.2.2.2.2.1, t1.2.2.2.2.2.2.2.2.2.2.2.2.2.2.2.2.2.2.2.2.2.2.2.2.2.2.2.2.2.2.1, t1.2.2.2.2.2.2.2.2.2.2.2.2.2.2.2.2.2.2.2.2.2.2.2.2.2.2.2.2.2.2.2.1, t1.2.2.2.2.2.2.2.2.2.2.2.2.2.2.2.2.2.2.2.2.2.2.2.2.2.2.2.2.2.2.2.2.1, t1.2.2.2.2.2.2.2.2.2.2.2.2.2.2.2.2.2.2.2.2.2.2.2.2.2.2.2.2.2.2.2.2.2)
  else
    none
def f_W62 (N : Nat) (xs : Nat → Int32) (l5 : Int32) (m_undoStart : Int32) (m_remembered : Nat → Int32) (v_sd : Int32) (v_mn : Int32) (v_th : Int32) (v_dc : Int32) (v_fc : Nat → Int32) (v_dw : Nat → Int32) (v_pc : Int32) (v_ln : Nat → Int32) (v_lt : Nat → Int32) (v_tc : Int32) (v_en : Nat → Int32) (v_fr : Nat → Int32) (v_oc : Int32) (v_op : Nat → Int32) (v_os : Nat → Int32) (sd : Int32) (mn : Int32) (th : Int32) (dc : Int32) (fc : Nat → Int32) (dw : Nat → Int32) (pc : Int32) (ln : Nat → Int32) (lt : Nat → Int32) (tc : Int32) (en : Nat → Int32) (fr : Nat → Int32) (oc : Int32) (op : Nat → Int32) (os : Nat → Int32) (nx : Int32) (dp : Int32) (m_undoable : Int32) (m_thrown : Int32) (m_s : Nat → Int32) (ov : Nat → Int64) : Option (Int32 × Int32 × Int32 × Int32 × (Nat → Int32) × (Nat → Int32) × Int32 × (Nat → Int32) × (Nat → Int32) × Int32 × (Nat → Int32) × (Nat → Int32) × Int32 × (Nat → Int32) × (Nat → Int32) × Int32 × Int32 × Int32 × Int32 × (Nat → Int32) × (Nat → Int64)) :=
  (f_L_undo v_sd v_mn v_th v_dc v_fc v_dw v_pc v_ln v_lt v_tc v_en v_fr v_oc v_op v_os sd mn th dc fc dw pc ln lt tc en fr oc op os nx dp ov).bind fun t1 =>
  (f_X11_undo N m_undoStart m_remembered m_undoable m_thrown m_s).bind fun t2 =>
  (f_X11_thrown t2.2.2.1).bind fun t3 =>
  if t3 = t1.1 then
    if t1.1 = 0 then
      if (lg_cmp (t1.2.2.2.2.2.2.2.2.2.2.2.2.2.2.2.2.2.2 (Int32.toNatClampNeg 0)) t2.1.toInt64) = 0 then
        some (t1.2.1, t1.2.2.1, t1.2.2.2.1, t1.2.2.2.2.1, t1.2.2.2.2.2.1, t1.2.2.2.2.2.2.1, t1.2.2.2.2.2.2.2.1, t1.2.2.2.2.2.2.2.2.1, t1.2.2.2.2.2.2.2.2.2.1, t1.2.2.2.2.2.2.2.2.2.2.1, t1.2.2.2.2.2.2.2.2.2.2.2.1, t1.2.2.2.2.2.2.2.2.2.2.2.2.1, t1.2.2.2.2.2.2.2.2.2.2.2.2.2.1, t1.2.2.2.2.2.2.2.2.2.2.2.2.2.2.1, t1.2.2.2.2.2.2.2.2.2.2.2.2.2.2.2.1, t1.2.2.2.2.2.2.2.2.2.2.2.2.2.2.2.2.1, t1.2.2.2.2.2.2.2.2.2.2.2.2.2.2.2.2.2.1, t2.2.1, t2.2.2.1, t2.2.2.2, t1.2.2.2.2.2.2.2.2.2.2.2.2.2.2.2.2.2.2)
      else
        none
    else
      some (t1.2.1, t1.2.2.1, t1.2.2.2.1, t1.2.2.2.2.1, t1.2.2.2.2.2.1, t1.2.2.2.2.2.2.1, t1.2.2.2.2.2.2.2.1, t1.2.2.2.2.2.2.2.2.1, t1.2.2.2.2.2.2.2.2.2.1, t1.2.2.2.2.2.2.2.2.2.2.1, t1.2.2.2.2.2.2.2.2.2.2.2.1, t1.2.2.2.2.2.2.2.2.2.2.2.2.1, t1.2.2.2.2.2.2.2.2.2.2.2.2.2.1, t1.2.2.2.2.2.2.2.2.2.2.2.2.2.2.1, t1.2.2.2.2.2.2.2.2.2.2.2.2.2.2.2.1, t1.2.2.2.2.2.2.2.2.2.2.2.2.2.2.2.2.1, t1.2.2.2.2.2.2.2.2.2.2.2.2.2.2.2.2.2.1, t2.2.1, t2.2.2.1, t2.2.2.2, t1.2.2.2.2.2.2.2.2.2.2.2.2.2.2.2.2.2.2)
  else
    none
def f_W63 (xs : Nat → Int32) (l5 : Int32) (dp : Int32) (m_undoable : Int32) (m_thrown : Int32) : Option (Int32) :=
  (f_X10_undoDepth dp).bind fun t1 =>
  (f_X11_undoDepth m_undoable m_thrown).bind fun t2 =>
  if t1 = t2.1 then
    some t2.2
  else
    none
