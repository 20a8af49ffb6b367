abbrev P_L_acts (E : KE) (x : Nat) (v : Nat)  (hp : Hp) (al : Option Nat) (out : Int32 × Int32 × Int32 × Int32 × (Nat → Int32) × Int32 × (Nat → Int32) × (Nat → Int32) × Int32 × (Nat → Int32) × (Nat → Int32) × Int32 × Int32 × Int32 × Int32 × Int32 × Int32 × (Nat → Int32) × (Nat → Int32) × Int32 × (Nat → Int32) × (Nat → Int32) × Int32 × (Nat → Int32) × (Nat → Int32) × Int32 × (Nat → Int32) × (Nat → Int32)) : Option Value → Hp → Option Nat → Prop := fun v0 hp' al' => v0 = some (.int out.1) ∧ hp' (x + 3) = some (.inr (4, [.ref (x + 4), .ref (x + 7), .ref (x + 10), .ref (x + 13), .int out.2.1, .int out.2.2.1, .int out.2.2.2.1])) ∧ hp' (x + 6) = some (.inl (kC E 0, 72, .inl out.2.2.2.2.1)) ∧ hp' (x + 10) = some (.inr (6, [.ref (x + 11), .ref (x + 12), .int out.2.2.2.2.2.1])) ∧ hp' (x + 11) = some (.inl (kC E 0, 300, .inl out.2.2.2.2.2.2.1)) ∧ hp' (x + 12) = some (.inl (kC E 0, 432, .inl out.2.2.2.2.2.2.2.1)) ∧ hp' (x + 13) = some (.inr (8, [.ref (x + 14), .ref (x + 15), .int out.2.2.2.2.2.2.2.2.1])) ∧ hp' (x + 14) = some (.inl (kC E 0, 36, .inl out.2.2.2.2.2.2.2.2.2.1)) ∧ hp' (x + 15) = some (.inl (kC E 0, 36, .inl out.2.2.2.2.2.2.2.2.2.2.1)) ∧ hp' (x + 18) = some (.inr (5, [.ref (x + 19), .int out.2.2.2.2.2.2.2.2.2.2.2.1, .int out.2.2.2.2.2.2.2.2.2.2.2.2.1])) ∧ hp' v = some (.inr (4, [.ref (v + 1), .ref (v + 4), .ref (v + 7), .ref (v + 10), .int out.2.2.2.2.2.2.2.2.2.2.2.2.2.1, .int out.2.2.2.2.2.2.2.2.2.2.2.2.2.2.1, .int out.2.2.2.2.2.2.2.2.2.2.2.2.2.2.2.1])) ∧ hp' (v + 1) = some (.inr (2, [.ref (v + 2), .ref (v + 3), .int out.2.2.2.2.2.2.2.2.2.2.2.2.2.2.2.2.1])) ∧ hp' (v + 2) = some (.inl (kC E 0, 6, .inl out.2.2.2.2.2.2.2.2.2.2.2.2.2.2.2.2.2.1)) ∧ hp' (v + 3) = some (.inl (kC E 0, 72, .inl out.2.2.2.2.2.2.2.2.2.2.2.2.2.2.2.2.2.2.1)) ∧ hp' (v + 4) = some (.inr (9, [.ref (v + 5), .ref (v + 6), .int out.2.2.2.2.2.2.2.2.2.2.2.2.2.2.2.2.2.2.2.1])) ∧ hp' (v + 5) = some (.inl (kC E 0, 6, .inl out.2.2.2.2.2.2.2.2.2.2.2.2.2.2.2.2.2.2.2.2.1)) ∧ hp' (v + 6) = some (.inl (kC E 0, 24, .inl out.2.2.2.2.2.2.2.2.2.2.2.2.2.2.2.2.2.2.2.2.2.1)) ∧ hp' (v + 7) = some (.inr (6, [.ref (v + 8), .ref (v + 9), .int out.2.2.2.2.2.2.2.2.2.2.2.2.2.2.2.2.2.2.2.2.2.2.1])) ∧ hp' (v + 8) = some (.inl (kC E 0, 300, .inl out.2.2.2.2.2.2.2.2.2.2.2.2.2.2.2.2.2.2.2.2.2.2.2.1)) ∧ hp' (v + 9) = some (.inl (kC E 0, 432, .inl out.2.2.2.2.2.2.2.2.2.2.2.2.2.2.2.2.2.2.2.2.2.2.2.2.1)) ∧ hp' (v + 10) = some (.inr (8, [.ref (v + 11), .ref (v + 12), .int out.2.2.2.2.2.2.2.2.2.2.2.2.2.2.2.2.2.2.2.2.2.2.2.2.2.1])) ∧ hp' (v + 11) = some (.inl (kC E 0, 36, .inl out.2.2.2.2.2.2.2.2.2.2.2.2.2.2.2.2.2.2.2.2.2.2.2.2.2.2.1)) ∧ hp' (v + 12) = some (.inl (kC E 0, 36, .inl out.2.2.2.2.2.2.2.2.2.2.2.2.2.2.2.2.2.2.2.2.2.2.2.2.2.2.2)) ∧ (∀ q, q ≠ (x + 3) → q ≠ (x + 6) → q ≠ (x + 10) → q ≠ (x + 11) → q ≠ (x + 12) → q ≠ (x + 13) → q ≠ (x + 14) → q ≠ (x + 15) → q ≠ (x + 18) → q ≠ v → q ≠ (v + 1) → q ≠ (v + 2) → q ≠ (v + 3) → q ≠ (v + 4) → q ≠ (v + 5) → q ≠ (v + 6) → q ≠ (v + 7) → q ≠ (v + 8) → q ≠ (v + 9) → q ≠ (v + 10) → q ≠ (v + 11) → q ≠ (v + 12) → hp' q = hp q) ∧ al = al'
def f_L_acts (N : Nat) (dc : Int32) (fc : Nat → Int32) (pc : Int32) (ln : Nat → Int32) (lt : Nat → Int32) (sd : Int32) (mn : Int32) (th : Int32) (dw : Nat → Int32) (tc : Int32) (en : Nat → Int32) (fr : Nat → Int32) (oc : Int32) (op : Nat → Int32) (os : Nat → Int32) (nx : Int32) (dp : Int32) (v_sd : Int32) (v_mn : Int32) (v_th : Int32) (v_dc : Int32) (v_fc : Nat → Int32) (v_dw : Nat → Int32) (v_pc : Int32) (v_ln : Nat → Int32) (v_lt : Nat → Int32) (v_tc : Int32) (v_en : Nat → Int32) (v_fr : Nat → Int32) (v_oc : Int32) (v_op : Nat → Int32) (v_os : Nat → Int32) (a1 : Int32) : Option (Int32 × Int32 × Int32 × Int32 × (Nat → Int32) × Int32 × (Nat → Int32) × (Nat → Int32) × Int32 × (Nat → Int32) × (Nat → Int32) × Int32 × Int32 × Int32 × Int32 × Int32 × Int32 × (Nat → Int32) × (Nat → Int32) × Int32 × (Nat → Int32) × (Nat → Int32) × Int32 × (Nat → Int32) × (Nat → Int32) × Int32 × (Nat → Int32) × (Nat → Int32)) :=
  gd (inb (a1 - a1 / 16 * 16) 16) <|
  if (a1 - a1 / 16 * 16) < nI 8 then
    hbd (f_X10_throwDie N mn th dc fc dw pc ln lt oc op os sd tc en fr nx dp v_sd v_mn v_th v_dc v_fc v_dw v_pc v_ln v_lt v_tc v_en v_fr v_oc v_op v_os ((a1 / 16) - (a1 / 16) / 3 * 3) (((a1 / 16) / 4) - ((a1 / 16) / 4) / 3 * 3) (1 + (((a1 / 16) / 16) - ((a1 / 16) / 16) / 14 * 14))) (fun C9 => if C9 = "java/lang/IllegalStateException" then some ((-9), sd, mn, th, dw, tc, en, fr, oc, op, os, nx, dp, v_sd, v_mn, v_th, v_dc, v_fc, v_dw, v_pc, v_ln, v_lt, v_tc, v_en, v_fr, v_oc, v_op, v_os) else none) fun t1 =>
    some (t1.1, t1.2.1, mn, th, dw, t1.2.2.1, t1.2.2.2.1, t1.2.2.2.2.1, oc, op, os, t1.2.2.2.2.2.1, t1.2.2.2.2.2.2.1, t1.2.2.2.2.2.2.2.1, t1.2.2.2.2.2.2.2.2.1, t1.2.2.2.2.2.2.2.2.2.1, t1.2.2.2.2.2.2.2.2.2.2.1, t1.2.2.2.2.2.2.2.2.2.2.2.1, t1.2.2.2.2.2.2.2.2.2.2.2.2.1, t1.2.2.2.2.2.2.2.2.2.2.2.2.2.1, t1.2.2.2.2.2.2.2.2.2.2.2.2.2.2.1, t1.2.2.2.2.2.2.2.2.2.2.2.2.2.2.2.1, t1.2.2.2.2.2.2.2.2.2.2.2.2.2.2.2.2.1, t1.2.2.2.2.2.2.2.2.2.2.2.2.2.2.2.2.2.1, t1.2.2.2.2.2.2.2.2.2.2.2.2.2.2.2.2.2.2.1, t1.2.2.2.2.2.2.2.2.2.2.2.2.2.2.2.2.2.2.2.1, t1.2.2.2.2.2.2.2.2.2.2.2.2.2.2.2.2.2.2.2.2.1, t1.2.2.2.2.2.2.2.2.2.2.2.2.2.2.2.2.2.2.2.2.2)
  else
    if (a1 - a1 / 16 * 16) < nI 10 then
      (f_X10_audit N sd mn th dc fc dw pc ln lt tc en fr oc op os nx dp v_sd v_mn v_th v_dc v_fc v_dw v_pc v_ln v_lt v_tc v_en v_fr v_oc v_op v_os).bind fun t2 =>
      some (t2.1, sd, mn, th, dw, tc, en, fr, t2.2.1, t2.2.2.1, t2.2.2.2.1, t2.2.2.2.2.1, t2.2.2.2.2.2.1, t2.2.2.2.2.2.2.1, t2.2.2.2.2.2.2.2.1, t2.2.2.2.2.2.2.2.2.1, t2.2.2.2.2.2.2.2.2.2.1, t2.2.2.2.2.2.2.2.2.2.2.1, t2.2.2.2.2.2.2.2.2.2.2.2.1, t2.2.2.2.2.2.2.2.2.2.2.2.2.1, t2.2.2.2.2.2.2.2.2.2.2.2.2.2.1, t2.2.2.2.2.2.2.2.2.2.2.2.2.2.2.1, t2.2.2.2.2.2.2.2.2.2.2.2.2.2.2.2.1, t2.2.2.2.2.2.2.2.2.2.2.2.2.2.2.2.2.1, t2.2.2.2.2.2.2.2.2.2.2.2.2.2.2.2.2.2.1, t2.2.2.2.2.2.2.2.2.2.2.2.2.2.2.2.2.2.2.1, t2.2.2.2.2.2.2.2.2.2.2.2.2.2.2.2.2.2.2.2.1, t2.2.2.2.2.2.2.2.2.2.2.2.2.2.2.2.2.2.2.2.2)
    else
      if (a1 - a1 / 16 * 16) < nI 12 then
        hbd (f_X10_absolve N mn th dc fc dw pc ln lt sd tc en fr oc op os nx dp v_sd v_mn v_th v_dc v_fc v_dw v_pc v_ln v_lt v_tc v_en v_fr v_oc v_op v_os) (fun C9 => if C9 = "java/lang/IllegalStateException" then some ((-9), sd, mn, th, dw, tc, en, fr, oc, op, os, nx, dp, v_sd, v_mn, v_th, v_dc, v_fc, v_dw, v_pc, v_ln, v_lt, v_tc, v_en, v_fr, v_oc, v_op, v_os) else none) fun t3 =>
        some (t3.1, t3.2.1, mn, th, dw, t3.2.2.1, t3.2.2.2.1, t3.2.2.2.2.1, t3.2.2.2.2.2.1, t3.2.2.2.2.2.2.1, t3.2.2.2.2.2.2.2.1, t3.2.2.2.2.2.2.2.2.1, t3.2.2.2.2.2.2.2.2.2.1, t3.2.2.2.2.2.2.2.2.2.2.1, t3.2.2.2.2.2.2.2.2.2.2.2.1, t3.2.2.2.2.2.2.2.2.2.2.2.2.1, t3.2.2.2.2.2.2.2.2.2.2.2.2.2.1, t3.2.2.2.2.2.2.2.2.2.2.2.2.2.2.1, t3.2.2.2.2.2.2.2.2.2.2.2.2.2.2.2.1, t3.2.2.2.2.2.2.2.2.2.2.2.2.2.2.2.2.1, t3.2.2.2.2.2.2.2.2.2.2.2.2.2.2.2.2.2.1, t3.2.2.2.2.2.2.2.2.2.2.2.2.2.2.2.2.2.2.1, t3.2.2.2.2.2.2.2.2.2.2.2.2.2.2.2.2.2.2.2.1, t3.2.2.2.2.2.2.2.2.2.2.2.2.2.2.2.2.2.2.2.2.1, t3.2.2.2.2.2.2.2.2.2.2.2.2.2.2.2.2.2.2.2.2.2.1, t3.2.2.2.2.2.2.2.2.2.2.2.2.2.2.2.2.2.2.2.2.2.2.1, t3.2.2.2.2.2.2.2.2.2.2.2.2.2.2.2.2.2.2.2.2.2.2.2.1, t3.2.2.2.2.2.2.2.2.2.2.2.2.2.2.2.2.2.2.2.2.2.2.2.2)
      else
        if (a1 - a1 / 16 * 16) < nI 13 then
          hbd (f_X10_forgive N sd mn th dc fc dw pc ln lt tc en fr oc op os nx dp v_sd v_mn v_th v_dc v_fc v_dw v_pc v_ln v_lt v_tc v_en v_fr v_oc v_op v_os ((a1 / 16) - (a1 / 16) / 3 * 3)) (fun C9 => if C9 = "java/lang/IllegalStateException" then some ((-9), sd, mn, th, dw, tc, en, fr, oc, op, os, nx, dp, v_sd, v_mn, v_th, v_dc, v_fc, v_dw, v_pc, v_ln, v_lt, v_tc, v_en, v_fr, v_oc, v_op, v_os) else none) fun t4 =>
          some (t4.1, sd, mn, th, dw, tc, en, fr, t4.2.1, t4.2.2.1, t4.2.2.2.1, t4.2.2.2.2.1, t4.2.2.2.2.2.1, t4.2.2.2.2.2.2.1, t4.2.2.2.2.2.2.2.1, t4.2.2.2.2.2.2.2.2.1, t4.2.2.2.2.2.2.2.2.2.1, t4.2.2.2.2.2.2.2.2.2.2.1, t4.2.2.2.2.2.2.2.2.2.2.2.1, t4.2.2.2.2.2.2.2.2.2.2.2.2.1, t4.2.2.2.2.2.2.2.2.2.2.2.2.2.1, t4.2.2.2.2.2.2.2.2.2.2.2.2.2.2.1, t4.2.2.2.2.2.2.2.2.2.2.2.2.2.2.2.1, t4.2.2.2.2.2.2.2.2.2.2.2.2.2.2.2.2.1, t4.2.2.2.2.2.2.2.2.2.2.2.2.2.2.2.2.2.1, t4.2.2.2.2.2.2.2.2.2.2.2.2.2.2.2.2.2.2.1, t4.2.2.2.2.2.2.2.2.2.2.2.2.2.2.2.2.2.2.2.1, t4.2.2.2.2.2.2.2.2.2.2.2.2.2.2.2.2.2.2.2.2)
        else
          if (a1 - a1 / 16 * 16) < nI 14 then
            hbd (f_X10_faces dc fc ((a1 / 16) - (a1 / 16) / 3 * 3)) (fun C9 => if C9 = "java/lang/IllegalStateException" then some ((-9), sd, mn, th, dw, tc, en, fr, oc, op, os, nx, dp, v_sd, v_mn, v_th, v_dc, v_fc, v_dw, v_pc, v_ln, v_lt, v_tc, v_en, v_fr, v_oc, v_op, v_os) else none) fun t5 =>
            gd (nz t5) <|
            hbd (f_X10_setWeight N sd mn th dc fc pc ln lt tc en fr oc op os dw nx dp v_sd v_mn v_th v_dc v_fc v_dw v_pc v_ln v_lt v_tc v_en v_fr v_oc v_op v_os ((a1 / 16) - (a1 / 16) / 3 * 3) (1 + (((a1 / 16) / 4) - ((a1 / 16) / 4) / t5 * t5)) (((a1 / 16) / 64) - ((a1 / 16) / 64) / 10 * 10)) (fun C9 => if C9 = "java/lang/IllegalStateException" then some ((-9), sd, mn, th, dw, tc, en, fr, oc, op, os, nx, dp, v_sd, v_mn, v_th, v_dc, v_fc, v_dw, v_pc, v_ln, v_lt, v_tc, v_en, v_fr, v_oc, v_op, v_os) else none) fun t6 =>
            some (t6.1, sd, mn, th, t6.2.1, tc, en, fr, oc, op, os, t6.2.2.1, t6.2.2.2.1, t6.2.2.2.2.1, t6.2.2.2.2.2.1, t6.2.2.2.2.2.2.1, t6.2.2.2.2.2.2.2.1, t6.2.2.2.2.2.2.2.2.1, t6.2.2.2.2.2.2.2.2.2.1, t6.2.2.2.2.2.2.2.2.2.2.1, t6.2.2.2.2.2.2.2.2.2.2.2.1, t6.2.2.2.2.2.2.2.2.2.2.2.2.1, t6.2.2.2.2.2.2.2.2.2.2.2.2.2.1, t6.2.2.2.2.2.2.2.2.2.2.2.2.2.2.1, t6.2.2.2.2.2.2.2.2.2.2.2.2.2.2.2.1, t6.2.2.2.2.2.2.2.2.2.2.2.2.2.2.2.2.1, t6.2.2.2.2.2.2.2.2.2.2.2.2.2.2.2.2.2.1, t6.2.2.2.2.2.2.2.2.2.2.2.2.2.2.2.2.2.2)
          else
            if (a1 - a1 / 16 * 16) < nI 15 then
              hbd (f_X10_setSeed mn th dc fc dw pc ln lt tc en fr oc op os sd nx dp v_sd v_mn v_th v_dc v_fc v_dw v_pc v_ln v_lt v_tc v_en v_fr v_oc v_op v_os ((a1 / 16) - (a1 / 16) / 65537 * 65537)) (fun C9 => if C9 = "java/lang/IllegalStateException" then some ((-9), sd, mn, th, dw, tc, en, fr, oc, op, os, nx, dp, v_sd, v_mn, v_th, v_dc, v_fc, v_dw, v_pc, v_ln, v_lt, v_tc, v_en, v_fr, v_oc, v_op, v_os) else none) fun t7 =>
              some (t7.1, t7.2.1, mn, th, dw, tc, en, fr, oc, op, os, t7.2.2.1, t7.2.2.2.1, t7.2.2.2.2.1, t7.2.2.2.2.2.1, t7.2.2.2.2.2.2.1, t7.2.2.2.2.2.2.2.1, t7.2.2.2.2.2.2.2.2.1, t7.2.2.2.2.2.2.2.2.2.1, t7.2.2.2.2.2.2.2.2.2.2.1, t7.2.2.2.2.2.2.2.2.2.2.2.1, t7.2.2.2.2.2.2.2.2.2.2.2.2.1, t7.2.2.2.2.2.2.2.2.2.2.2.2.2.1, t7.2.2.2.2.2.2.2.2.2.2.2.2.2.2.1, t7.2.2.2.2.2.2.2.2.2.2.2.2.2.2.2.1, t7.2.2.2.2.2.2.2.2.2.2.2.2.2.2.2.2.1, t7.2.2.2.2.2.2.2.2.2.2.2.2.2.2.2.2.2.1, t7.2.2.2.2.2.2.2.2.2.2.2.2.2.2.2.2.2.2)
            else
              hbd (f_X10_setLimits N sd dc fc dw pc ln lt tc en fr oc op os mn th nx dp v_sd v_mn v_th v_dc v_fc v_dw v_pc v_ln v_lt v_tc v_en v_fr v_oc v_op v_os (1 + ((a1 / 16) - (a1 / 16) / 9 * 9)) (((a1 / 16) / 16) - ((a1 / 16) / 16) / 14 * 14)) (fun C9 => if C9 = "java/lang/IllegalStateException" then some ((-9), sd, mn, th, dw, tc, en, fr, oc, op, os, nx, dp, v_sd, v_mn, v_th, v_dc, v_fc, v_dw, v_pc, v_ln, v_lt, v_tc, v_en, v_fr, v_oc, v_op, v_os) else none) fun t8 =>
              some (t8.1, sd, t8.2.1, t8.2.2.1, dw, tc, en, fr, oc, op, os, t8.2.2.2.1, t8.2.2.2.2.1, t8.2.2.2.2.2.1, t8.2.2.2.2.2.2.1, t8.2.2.2.2.2.2.2.1, t8.2.2.2.2.2.2.2.2.1, t8.2.2.2.2.2.2.2.2.2.1, t8.2.2.2.2.2.2.2.2.2.2.1, t8.2.2.2.2.2.2.2.2.2.2.2.1, t8.2.2.2.2.2.2.2.2.2.2.2.2.1, t8.2.2.2.2.2.2.2.2.2.2.2.2.2.1, t8.2.2.2.2.2.2.2.2.2.2.2.2.2.2.1, t8.2.2.2.2.2.2.2.2.2.2.2.2.2.2.2.1, t8.2.2.2.2.2.2.2.2.2.2.2.2.2.2.2.2.1, t8.2.2.2.2.2.2.2.2.2.2.2.2.2.2.2.2.2.1, t8.2.2.2.2.2.2.2.2.2.2.2.2.2.2.2.2.2.2.1, t8.2.2.2.2.2.2.2.2.2.2.2.2.2.2.2.2.2.2.2)
set_option maxHeartbeats 4000000 in
set_option maxRecDepth 100000 in
theorem c_L_acts {E : KE} {l : Launch} {hp : Hp} {N : Nat} {x : Nat} {v : Nat} {sd : Int32} {mn : Int32} {th : Int32} {dc : Int32} {fc : Nat → Int32} {dw : Nat → Int32} {pc : Int32} {ln : Nat → Int32} {lt : Nat → Int32} {tc : Int32} {en : Nat → Int32} {fr : Nat → Int32} {oc : Int32} {op : Nat → Int32} {os : Nat → Int32} {nx : Int32} {dp : Int32} {rws : Nat → Option Nat} {v_sd : Int32} {v_mn : Int32} {v_th : Int32} {v_dc : Int32} {v_fc : Nat → Int32} {v_dw : Nat → Int32} {v_pc : Int32} {v_ln : Nat → Int32} {v_lt : Nat → Int32} {v_tc : Int32} {v_en : Nat → Int32} {v_fr : Nat → Int32} {v_oc : Int32} {v_op : Nat → Int32} {v_os : Nat → Int32} {a1 : Int32} {out : Int32 × Int32 × Int32 × Int32 × (Nat → Int32) × Int32 × (Nat → Int32) × (Nat → Int32) × Int32 × (Nat → Int32) × (Nat → Int32) × Int32 × Int32 × Int32 × Int32 × Int32 × Int32 × (Nat → Int32) × (Nat → Int32) × Int32 × (Nat → Int32) × (Nat → Int32) × Int32 × (Nat → Int32) × (Nat → Int32) × Int32 × (Nat → Int32) × (Nat → Int32)} (g0 : hp x = some (.inr (12, [.ref (x + 126), .ref (x + 128), .ref (x + 1), .ref (x + 3), .ref (x + 16), .ref (x + 18), .ref (x + 124), .ref (x + 125)]))) (g3 : hp (x + 3) = some (.inr (4, [.ref (x + 4), .ref (x + 7), .ref (x + 10), .ref (x + 13), .int sd, .int mn, .int th]))) (g4 : hp (x + 4) = some (.inr (2, [.ref (x + 5), .ref (x + 6), .int dc]))) (g5 : hp (x + 5) = some (.inl (kC E 0, 6, .inl fc))) (g6 : hp (x + 6) = some (.inl (kC E 0, 72, .inl dw))) (g7 : hp (x + 7) = some (.inr (9, [.ref (x + 8), .ref (x + 9), .int pc]))) (g8 : hp (x + 8) = some (.inl (kC E 0, 6, .inl ln))) (g9 : hp (x + 9) = some (.inl (kC E 0, 24, .inl lt))) (g10 : hp (x + 10) = some (.inr (6, [.ref (x + 11), .ref (x + 12), .int tc]))) (g11 : hp (x + 11) = some (.inl (kC E 0, 300, .inl en))) (g12 : hp (x + 12) = some (.inl (kC E 0, 432, .inl fr))) (g13 : hp (x + 13) = some (.inr (8, [.ref (x + 14), .ref (x + 15), .int oc]))) (g14 : hp (x + 14) = some (.inl (kC E 0, 36, .inl op))) (g15 : hp (x + 15) = some (.inl (kC E 0, 36, .inl os))) (g18 : hp (x + 18) = some (.inr (5, [.ref (x + 19), .int nx, .int dp]))) (g19 : hp (x + 19) = some (.inl (kC E 5, 8, .inr (.inr (.inr (.inr rws)))))) (g39 : hp v = some (.inr (4, [.ref (v + 1), .ref (v + 4), .ref (v + 7), .ref (v + 10), .int v_sd, .int v_mn, .int v_th]))) (g40 : hp (v + 1) = some (.inr (2, [.ref (v + 2), .ref (v + 3), .int v_dc]))) (g41 : hp (v + 2) = some (.inl (kC E 0, 6, .inl v_fc))) (g42 : hp (v + 3) = some (.inl (kC E 0, 72, .inl v_dw))) (g43 : hp (v + 4) = some (.inr (9, [.ref (v + 5), .ref (v + 6), .int v_pc]))) (g44 : hp (v + 5) = some (.inl (kC E 0, 6, .inl v_ln))) (g45 : hp (v + 6) = some (.inl (kC E 0, 24, .inl v_lt))) (g46 : hp (v + 7) = some (.inr (6, [.ref (v + 8), .ref (v + 9), .int v_tc]))) (g47 : hp (v + 8) = some (.inl (kC E 0, 300, .inl v_en))) (g48 : hp (v + 9) = some (.inl (kC E 0, 432, .inl v_fr))) (g49 : hp (v + 10) = some (.inr (8, [.ref (v + 11), .ref (v + 12), .int v_oc]))) (g50 : hp (v + 11) = some (.inl (kC E 0, 36, .inl v_op))) (g51 : hp (v + 12) = some (.inl (kC E 0, 36, .inl v_os))) (hvv : rws (Int32.toNatClampNeg nx) = some v) (hlv : (x + 20) ≤ v) (huv : (v + 13) ≤ (x + 124)) (h : f_L_acts N dc fc pc ln lt sd mn th dw tc en fr oc op os nx dp v_sd v_mn v_th v_dc v_fc v_dw v_pc v_ln v_lt v_tc v_en v_fr v_oc v_op v_os a1 = some out) : AH E l yL_acts cL_acts 4 (Option.some Jvm.ClassFile.FieldType.int) [((5 : Nat), (105 : Nat), (179 : Nat), (93 : Nat)), ((106 : Nat), (110 : Nat), (179 : Nat), (93 : Nat)), ((111 : Nat), (115 : Nat), (179 : Nat), (93 : Nat)), ((116 : Nat), (123 : Nat), (179 : Nat), (93 : Nat)), ((124 : Nat), (151 : Nat), (179 : Nat), (93 : Nat)), ((152 : Nat), (160 : Nat), (179 : Nat), (93 : Nat)), ((161 : Nat), (178 : Nat), (179 : Nat), (93 : Nat))] ⟨10, 5, 30, 169⟩ [.ref x, .int a1] hp none (P_L_acts E x v hp none out) := by
  refine A_ofH (by decide +kernel) (Nat.le_of_ble_eq_true rfl) ?_
  intro p e s m args below meth c X hr htb
  have X : CX E p l s m args meth c "DiceAuditLaw" cL_acts 4 := X
  refine A_L (L' := [(0, .ref x), (1, .int a1)]) rfl ?_
  unfold f_L_acts at h
  refine A_iload_n X dL_acts_0 1 rfl ?_
  refine A_bipush (v := 16) X dL_acts_1 (by decide) ?_
  refine A_idiv X dL_acts_3 (by decide) ?_
  refine A_istore_n (L' := [(2, .int (a1 / 16)), (0, .ref x), (1, .int a1)]) X dL_acts_4 rfl (by decide) rfl ?_
  refine A_iload_n X dL_acts_5 2 rfl ?_
  refine A_bipush (v := 16) X dL_acts_6 (by decide) ?_
  refine A_irem X dL_acts_8 (by decide) ?_
  obtain ⟨hq, h⟩ := gd_o h
  obtain ⟨j9, hj9, hx9⟩ := vp_in_of (inb_in hq) (by decide)
  by_cases c0 : (a1 - a1 / 16 * 16) < nI 8
  · rw [if_pos c0] at h
    have j0 := br_j hx9 (by omega) (by omega) c0
    refine A_tabN (tgt := 84) X dL_acts_9 hx9 (by omega) (by omega) ((by decide : ∀ j, j < 8 → 0 ≤ j → (#[75, 75, 75, 75, 75, 75, 75, 75, 97, 97, 102, 102, 107, 115, 143] : Array Int)[j]? = some 75) j9 j0 (by omega)) (by decide) ?_
    refine A_aload_n X dL_acts_84 1 rfl ?_
    refine A_iload_n X dL_acts_85 0 rfl ?_
    refine A_iconst (v := 3) X dL_acts_86 (by decide) ?_
    refine A_irem X dL_acts_87 (by decide) ?_
    refine A_iload_n X dL_acts_88 0 rfl ?_
    refine A_iconst (v := 4) X dL_acts_89 (by decide) ?_
    refine A_idiv X dL_acts_90 (by decide) ?_
    refine A_iconst (v := 3) X dL_acts_91 (by decide) ?_
    refine A_irem X dL_acts_92 (by decide) ?_
    refine A_iconst (v := 1) X dL_acts_93 (by decide) ?_
    refine A_iload_n X dL_acts_94 0 rfl ?_
    refine A_bipush (v := 16) X dL_acts_95 (by decide) ?_
    refine A_idiv X dL_acts_97 (by decide) ?_
    refine A_bipush (v := 14) X dL_acts_98 (by decide) ?_
    refine A_irem X dL_acts_100 (by decide) ?_
    refine A_iadd X dL_acts_101 ?_
    rcases hbd_o h with ⟨C9, hc9, h⟩ | ⟨t1, hct1, h⟩
    · refine A_cX (k' := 4) (n' := 24) rfl rfl (A_runVX (rest := []) X dL_acts_102 (c_X10_throwDie g0 g3 g4 g5 g6 g7 g8 g9 g10 g11 g12 g13 g14 g15 g18 g19 g39 g40 g41 g42 g43 g44 g45 g46 g47 g48 g49 g50 g51 hvv (by omega) (by omega) hc9) kY_X10_throwDie kw_1294 g0 rfl rfl ⟨(Nat.le_of_ble_eq_true rfl), (Nat.le_of_ble_eq_true rfl), (Nat.le_of_ble_eq_true rfl), (Nat.le_of_ble_eq_true rfl)⟩ rfl (Nat.le_of_ble_eq_true rfl)) (fun C hp1 hP => ?_) (fun v hp1 al1 hP => by obtain ⟨u, hu, _⟩ := hP; cases hu)
      obtain ⟨hC, rfl⟩ := hP
      cases hC
      rcases ite_o h with ⟨rfl, h⟩ | h
      · refine A_catch (name := "java/lang/IllegalStateException") (Lc := []) (stc := []) X [] ⟨5, 105, 179, 93⟩ [⟨106, 110, 179, 93⟩, ⟨111, 115, 179, 93⟩, ⟨116, 123, 179, 93⟩, ⟨124, 151, 179, 93⟩, ⟨152, 160, 179, 93⟩, ⟨161, 178, 179, 93⟩] (htb.trans rfl) (fun z hz => nomatch hz) (by decide) (by decide) kw_1293 kw_1004 (fun q9 => ?_)
        refine A_astore_n (L' := [(3, .ref q9), (2, .int (a1 / 16)), (0, .ref x), (1, .int a1)]) X dL_acts_179 rfl (by decide) rfl ?_
        refine A_bipush (v := (-9)) X dL_acts_180 (by decide) ?_
        cases h
        exact A_iretX X dL_acts_182 hr ⟨rfl, g3, g6, g10, g11, g12, g13, g14, g15, g18, g39, g40, g41, g42, g43, g44, g45, g46, g47, g48, g49, g50, g51, (fun q z0 z1 z2 z3 z4 z5 z6 z7 z8 z9 z10 z11 z12 z13 z14 z15 z16 z17 z18 z19 z20 z21 => rfl), rfl⟩ (Nat.le_of_ble_eq_true rfl) (Nat.le_of_ble_eq_true rfl)
      cases h
    refine A_cX (k' := 4) (n' := 24) rfl rfl (A_runVX (rest := []) X dL_acts_102 (c_X10_throwDie g0 g3 g4 g5 g6 g7 g8 g9 g10 g11 g12 g13 g14 g15 g18 g19 g39 g40 g41 g42 g43 g44 g45 g46 g47 g48 g49 g50 g51 hvv (by omega) (by omega) hct1) kY_X10_throwDie kw_1294 g0 rfl rfl ⟨(Nat.le_of_ble_eq_true rfl), (Nat.le_of_ble_eq_true rfl), (Nat.le_of_ble_eq_true rfl), (Nat.le_of_ble_eq_true rfl)⟩ rfl (Nat.le_of_ble_eq_true rfl)) (fun C hp1 hP => by obtain ⟨hC, _⟩ := hP; cases hC) (fun v9 hp1 al9 hP => ?_)
    obtain ⟨u9, hu9, rfl, k1_0, k1_1, k1_2, k1_3, k1_4, k1_5, k1_6, k1_7, k1_8, k1_9, k1_10, k1_11, k1_12, k1_13, k1_14, k1_15, k1_16, k1_17, n1, rfl⟩ := hP
    cases hu9
    replace k1_0 : hp1 (x + 3) = some (.inr (4, [.ref (x + 4), .ref (x + 7), .ref (x + 10), .ref (x + 13), .int t1.2.1, .int mn, .int th])) := k1_0
    replace k1_1 : hp1 (x + 10) = some (.inr (6, [.ref (x + 11), .ref (x + 12), .int t1.2.2.1])) := k1_1
    replace k1_2 : hp1 (x + 11) = some (.inl (kC E 0, 300, .inl t1.2.2.2.1)) := k1_2
    replace k1_3 : hp1 (x + 12) = some (.inl (kC E 0, 432, .inl t1.2.2.2.2.1)) := k1_3
    replace k1_4 : hp1 (x + 18) = some (.inr (5, [.ref (x + 19), .int t1.2.2.2.2.2.1, .int t1.2.2.2.2.2.2.1])) := k1_4
    replace k1_5 : hp1 v = some (.inr (4, [.ref (v + 1), .ref (v + 4), .ref (v + 7), .ref (v + 10), .int t1.2.2.2.2.2.2.2.1, .int t1.2.2.2.2.2.2.2.2.1, .int t1.2.2.2.2.2.2.2.2.2.1])) := k1_5
    replace k1_6 : hp1 (v + 1) = some (.inr (2, [.ref (v + 2), .ref (v + 3), .int t1.2.2.2.2.2.2.2.2.2.2.1])) := k1_6
    replace k1_7 : hp1 (v + 2) = some (.inl (kC E 0, 6, .inl t1.2.2.2.2.2.2.2.2.2.2.2.1)) := k1_7
    replace k1_8 : hp1 (v + 3) = some (.inl (kC E 0, 72, .inl t1.2.2.2.2.2.2.2.2.2.2.2.2.1)) := k1_8
    replace k1_9 : hp1 (v + 4) = some (.inr (9, [.ref (v + 5), .ref (v + 6), .int t1.2.2.2.2.2.2.2.2.2.2.2.2.2.1])) := k1_9
    replace k1_10 : hp1 (v + 5) = some (.inl (kC E 0, 6, .inl t1.2.2.2.2.2.2.2.2.2.2.2.2.2.2.1)) := k1_10
    replace k1_11 : hp1 (v + 6) = some (.inl (kC E 0, 24, .inl t1.2.2.2.2.2.2.2.2.2.2.2.2.2.2.2.1)) := k1_11
    replace k1_12 : hp1 (v + 7) = some (.inr (6, [.ref (v + 8), .ref (v + 9), .int t1.2.2.2.2.2.2.2.2.2.2.2.2.2.2.2.2.1])) := k1_12
    replace k1_13 : hp1 (v + 8) = some (.inl (kC E 0, 300, .inl t1.2.2.2.2.2.2.2.2.2.2.2.2.2.2.2.2.2.1)) := k1_13
    replace k1_14 : hp1 (v + 9) = some (.inl (kC E 0, 432, .inl t1.2.2.2.2.2.2.2.2.2.2.2.2.2.2.2.2.2.2.1)) := k1_14
    replace k1_15 : hp1 (v + 10) = some (.inr (8, [.ref (v + 11), .ref (v + 12), .int t1.2.2.2.2.2.2.2.2.2.2.2.2.2.2.2.2.2.2.2.1])) := k1_15
    replace k1_16 : hp1 (v + 11) = some (.inl (kC E 0, 36, .inl t1.2.2.2.2.2.2.2.2.2.2.2.2.2.2.2.2.2.2.2.2.1)) := k1_16
    replace k1_17 : hp1 (v + 12) = some (.inl (kC E 0, 36, .inl t1.2.2.2.2.2.2.2.2.2.2.2.2.2.2.2.2.2.2.2.2.2)) := k1_17
    refine A_st (st' := [.int t1.1]) rfl ?_
    cases h
    exact A_iretX X dL_acts_105 hr ⟨rfl, k1_0, ((n1 _ (by omega) (by omega) (by omega) (by omega) (by omega) (by omega) (by omega) (by omega) (by omega) (by omega) (by omega) (by omega) (by omega) (by omega) (by omega) (by omega) (by omega) (by omega)).trans g6), k1_1, k1_2, k1_3, ((n1 _ (by omega) (by omega) (by omega) (by omega) (by omega) (by omega) (by omega) (by omega) (by omega) (by omega) (by omega) (by omega) (by omega) (by omega) (by omega) (by omega) (by omega) (by omega)).trans g13), ((n1 _ (by omega) (by omega) (by omega) (by omega) (by omega) (by omega) (by omega) (by omega) (by omega) (by omega) (by omega) (by omega) (by omega) (by omega) (by omega) (by omega) (by omega) (by omega)).trans g14), ((n1 _ (by omega) (by omega) (by omega) (by omega) (by omega) (by omega) (by omega) (by omega) (by omega) (by omega) (by omega) (by omega) (by omega) (by omega) (by omega) (by omega) (by omega) (by omega)).trans g15), k1_4, k1_5, k1_6, k1_7, k1_8, k1_9, k1_10, k1_11, k1_12, k1_13, k1_14, k1_15, k1_16, k1_17, (fun q z0 z1 z2 z3 z4 z5 z6 z7 z8 z9 z10 z11 z12 z13 z14 z15 z16 z17 z18 z19 z20 z21 => (n1 q z0 z2 z3 z4 z8 z9 z10 z11 z12 z13 z14 z15 z16 z17 z18 z19 z20 z21)), rfl⟩ (Nat.le_of_ble_eq_true rfl) (Nat.le_of_ble_eq_true rfl)
  · rw [if_neg c0] at h
    have m0 := br_n hx9 (by omega) (by omega) c0
    by_cases c1 : (a1 - a1 / 16 * 16) < nI 10
    · rw [if_pos c1] at h
      have j1 := br_j hx9 (by omega) (by omega) c1
      refine A_tabN (tgt := 106) X dL_acts_9 hx9 (by omega) (by omega) ((by decide : ∀ j, j < 10 → 8 ≤ j → (#[75, 75, 75, 75, 75, 75, 75, 75, 97, 97, 102, 102, 107, 115, 143] : Array Int)[j]? = some 97) j9 j1 (by omega)) (by decide) ?_
      refine A_aload_n X dL_acts_106 1 rfl ?_
      obtain ⟨t2, hct2, h⟩ := bind_o h
      refine A_c (k' := 0) (n' := 0) rfl rfl (A_runV (rest := []) X dL_acts_107 (c_X10_audit g0 g3 g4 g5 g6 g7 g8 g9 g10 g11 g12 g13 g14 g15 g18 g19 g39 g40 g41 g42 g43 g44 g45 g46 g47 g48 g49 g50 g51 hvv (by omega) (by omega) hct2) kY_X10_audit kw_1300 g0 rfl rfl ⟨(Nat.le_of_ble_eq_true rfl), (Nat.le_of_ble_eq_true rfl), (Nat.le_of_ble_eq_true rfl), (Nat.le_of_ble_eq_true rfl)⟩ rfl (Nat.le_of_ble_eq_true rfl)) (fun v9 hp1 al9 hP => ?_)
      obtain ⟨rfl, k1_0, k1_1, k1_2, k1_3, k1_4, k1_5, k1_6, k1_7, k1_8, k1_9, k1_10, k1_11, k1_12, k1_13, k1_14, k1_15, k1_16, n1, rfl⟩ := hP
      replace k1_0 : hp1 (x + 13) = some (.inr (8, [.ref (x + 14), .ref (x + 15), .int t2.2.1])) := k1_0
      replace k1_1 : hp1 (x + 14) = some (.inl (kC E 0, 36, .inl t2.2.2.1)) := k1_1
      replace k1_2 : hp1 (x + 15) = some (.inl (kC E 0, 36, .inl t2.2.2.2.1)) := k1_2
      replace k1_3 : hp1 (x + 18) = some (.inr (5, [.ref (x + 19), .int t2.2.2.2.2.1, .int t2.2.2.2.2.2.1])) := k1_3
      replace k1_4 : hp1 v = some (.inr (4, [.ref (v + 1), .ref (v + 4), .ref (v + 7), .ref (v + 10), .int t2.2.2.2.2.2.2.1, .int t2.2.2.2.2.2.2.2.1, .int t2.2.2.2.2.2.2.2.2.1])) := k1_4
      replace k1_5 : hp1 (v + 1) = some (.inr (2, [.ref (v + 2), .ref (v + 3), .int t2.2.2.2.2.2.2.2.2.2.1])) := k1_5
      replace k1_6 : hp1 (v + 2) = some (.inl (kC E 0, 6, .inl t2.2.2.2.2.2.2.2.2.2.2.1)) := k1_6
      replace k1_7 : hp1 (v + 3) = some (.inl (kC E 0, 72, .inl t2.2.2.2.2.2.2.2.2.2.2.2.1)) := k1_7
      replace k1_8 : hp1 (v + 4) = some (.inr (9, [.ref (v + 5), .ref (v + 6), .int t2.2.2.2.2.2.2.2.2.2.2.2.2.1])) := k1_8
      replace k1_9 : hp1 (v + 5) = some (.inl (kC E 0, 6, .inl t2.2.2.2.2.2.2.2.2.2.2.2.2.2.1)) := k1_9
      replace k1_10 : hp1 (v + 6) = some (.inl (kC E 0, 24, .inl t2.2.2.2.2.2.2.2.2.2.2.2.2.2.2.1)) := k1_10
      replace k1_11 : hp1 (v + 7) = some (.inr (6, [.ref (v + 8), .ref (v + 9), .int t2.2.2.2.2.2.2.2.2.2.2.2.2.2.2.2.1])) := k1_11
      replace k1_12 : hp1 (v + 8) = some (.inl (kC E 0, 300, .inl t2.2.2.2.2.2.2.2.2.2.2.2.2.2.2.2.2.1)) := k1_12
      replace k1_13 : hp1 (v + 9) = some (.inl (kC E 0, 432, .inl t2.2.2.2.2.2.2.2.2.2.2.2.2.2.2.2.2.2.1)) := k1_13
      replace k1_14 : hp1 (v + 10) = some (.inr (8, [.ref (v + 11), .ref (v + 12), .int t2.2.2.2.2.2.2.2.2.2.2.2.2.2.2.2.2.2.2.1])) := k1_14
      replace k1_15 : hp1 (v + 11) = some (.inl (kC E 0, 36, .inl t2.2.2.2.2.2.2.2.2.2.2.2.2.2.2.2.2.2.2.2.1)) := k1_15
      replace k1_16 : hp1 (v + 12) = some (.inl (kC E 0, 36, .inl t2.2.2.2.2.2.2.2.2.2.2.2.2.2.2.2.2.2.2.2.2)) := k1_16
      refine A_st (st' := [.int t2.1]) rfl ?_
      cases h
      exact A_iretX X dL_acts_110 hr ⟨rfl, ((n1 _ (by omega) (by omega) (by omega) (by omega) (by omega) (by omega) (by omega) (by omega) (by omega) (by omega) (by omega) (by omega) (by omega) (by omega) (by omega) (by omega) (by omega)).trans g3), ((n1 _ (by omega) (by omega) (by omega) (by omega) (by omega) (by omega) (by omega) (by omega) (by omega) (by omega) (by omega) (by omega) (by omega) (by omega) (by omega) (by omega) (by omega)).trans g6), ((n1 _ (by omega) (by omega) (by omega) (by omega) (by omega) (by omega) (by omega) (by omega) (by omega) (by omega) (by omega) (by omega) (by omega) (by omega) (by omega) (by omega) (by omega)).trans g10), ((n1 _ (by omega) (by omega) (by omega) (by omega) (by omega) (by omega) (by omega) (by omega) (by omega) (by omega) (by omega) (by omega) (by omega) (by omega) (by omega) (by omega) (by omega)).trans g11), ((n1 _ (by omega) (by omega) (by omega) (by omega) (by omega) (by omega) (by omega) (by omega) (by omega) (by omega) (by omega) (by omega) (by omega) (by omega) (by omega) (by omega) (by omega)).trans g12), k1_0, k1_1, k1_2, k1_3, k1_4, k1_5, k1_6, k1_7, k1_8, k1_9, k1_10, k1_11, k1_12, k1_13, k1_14, k1_15, k1_16, (fun q z0 z1 z2 z3 z4 z5 z6 z7 z8 z9 z10 z11 z12 z13 z14 z15 z16 z17 z18 z19 z20 z21 => (n1 q z5 z6 z7 z8 z9 z10 z11 z12 z13 z14 z15 z16 z17 z18 z19 z20 z21)), rfl⟩ (Nat.le_of_ble_eq_true rfl) (Nat.le_of_ble_eq_true rfl)
    · rw [if_neg c1] at h
      have m1 := br_n hx9 (by omega) (by omega) c1
      by_cases c2 : (a1 - a1 / 16 * 16) < nI 12
      · rw [if_pos c2] at h
        have j2 := br_j hx9 (by omega) (by omega) c2
        refine A_tabN (tgt := 111) X dL_acts_9 hx9 (by omega) (by omega) ((by decide : ∀ j, j < 12 → 10 ≤ j → (#[75, 75, 75, 75, 75, 75, 75, 75, 97, 97, 102, 102, 107, 115, 143] : Array Int)[j]? = some 102) j9 j2 (by omega)) (by decide) ?_
        refine A_aload_n X dL_acts_111 1 rfl ?_
        rcases hbd_o h with ⟨C9, hc9, h⟩ | ⟨t3, hct3, h⟩
        · refine A_cX (k' := 1) (n' := 6) rfl rfl (A_runVX (rest := []) X dL_acts_112 (c_X10_absolve g0 g3 g4 g5 g6 g7 g8 g9 g10 g11 g12 g13 g14 g15 g18 g19 g39 g40 g41 g42 g43 g44 g45 g46 g47 g48 g49 g50 g51 hvv (by omega) (by omega) hc9) kY_X10_absolve kw_1305 g0 rfl rfl ⟨(Nat.le_of_ble_eq_true rfl), (Nat.le_of_ble_eq_true rfl), (Nat.le_of_ble_eq_true rfl), (Nat.le_of_ble_eq_true rfl)⟩ rfl (Nat.le_of_ble_eq_true rfl)) (fun C hp1 hP => ?_) (fun v hp1 al1 hP => by obtain ⟨u, hu, _⟩ := hP; cases hu)
          obtain ⟨hC, rfl⟩ := hP
          cases hC
          rcases ite_o h with ⟨rfl, h⟩ | h
          · refine A_catch (name := "java/lang/IllegalStateException") (Lc := []) (stc := []) X [⟨5, 105, 179, 93⟩, ⟨106, 110, 179, 93⟩] ⟨111, 115, 179, 93⟩ [⟨116, 123, 179, 93⟩, ⟨124, 151, 179, 93⟩, ⟨152, 160, 179, 93⟩, ⟨161, 178, 179, 93⟩] (htb.trans rfl) (fun z hz => by simp only [List.mem_cons, List.not_mem_nil, or_false] at hz; rcases hz with rfl | rfl; { exact Or.inl (by decide) }; { exact Or.inl (by decide) }) (by decide) (by decide) kw_1293 kw_1004 (fun q9 => ?_)
            refine A_astore_n (L' := [(3, .ref q9), (2, .int (a1 / 16)), (0, .ref x), (1, .int a1)]) X dL_acts_179 rfl (by decide) rfl ?_
            refine A_bipush (v := (-9)) X dL_acts_180 (by decide) ?_
            cases h
            exact A_iretX X dL_acts_182 hr ⟨rfl, g3, g6, g10, g11, g12, g13, g14, g15, g18, g39, g40, g41, g42, g43, g44, g45, g46, g47, g48, g49, g50, g51, (fun q z0 z1 z2 z3 z4 z5 z6 z7 z8 z9 z10 z11 z12 z13 z14 z15 z16 z17 z18 z19 z20 z21 => rfl), rfl⟩ (Nat.le_of_ble_eq_true rfl) (Nat.le_of_ble_eq_true rfl)
          cases h
        refine A_cX (k' := 1) (n' := 6) rfl rfl (A_runVX (rest := []) X dL_acts_112 (c_X10_absolve g0 g3 g4 g5 g6 g7 g8 g9 g10 g11 g12 g13 g14 g15 g18 g19 g39 g40 g41 g42 g43 g44 g45 g46 g47 g48 g49 g50 g51 hvv (by omega) (by omega) hct3) kY_X10_absolve kw_1305 g0 rfl rfl ⟨(Nat.le_of_ble_eq_true rfl), (Nat.le_of_ble_eq_true rfl), (Nat.le_of_ble_eq_true rfl), (Nat.le_of_ble_eq_true rfl)⟩ rfl (Nat.le_of_ble_eq_true rfl)) (fun C hp1 hP => by obtain ⟨hC, _⟩ := hP; cases hC) (fun v9 hp1 al9 hP => ?_)
        obtain ⟨u9, hu9, rfl, k1_0, k1_1, k1_2, k1_3, k1_4, k1_5, k1_6, k1_7, k1_8, k1_9, k1_10, k1_11, k1_12, k1_13, k1_14, k1_15, k1_16, k1_17, k1_18, k1_19, k1_20, n1, rfl⟩ := hP
        cases hu9
        replace k1_0 : hp1 (x + 3) = some (.inr (4, [.ref (x + 4), .ref (x + 7), .ref (x + 10), .ref (x + 13), .int t3.2.1, .int mn, .int th])) := k1_0
        replace k1_1 : hp1 (x + 10) = some (.inr (6, [.ref (x + 11), .ref (x + 12), .int t3.2.2.1])) := k1_1
        replace k1_2 : hp1 (x + 11) = some (.inl (kC E 0, 300, .inl t3.2.2.2.1)) := k1_2
        replace k1_3 : hp1 (x + 12) = some (.inl (kC E 0, 432, .inl t3.2.2.2.2.1)) := k1_3
        replace k1_4 : hp1 (x + 13) = some (.inr (8, [.ref (x + 14), .ref (x + 15), .int t3.2.2.2.2.2.1])) := k1_4
        replace k1_5 : hp1 (x + 14) = some (.inl (kC E 0, 36, .inl t3.2.2.2.2.2.2.1)) := k1_5
        replace k1_6 : hp1 (x + 15) = some (.inl (kC E 0, 36, .inl t3.2.2.2.2.2.2.2.1)) := k1_6
        replace k1_7 : hp1 (x + 18) = some (.inr (5, [.ref (x + 19), .int t3.2.2.2.2.2.2.2.2.1, .int t3.2.2.2.2.2.2.2.2.2.1])) := k1_7
        replace k1_8 : hp1 v = some (.inr (4, [.ref (v + 1), .ref (v + 4), .ref (v + 7), .ref (v + 10), .int t3.2.2.2.2.2.2.2.2.2.2.1, .int t3.2.2.2.2.2.2.2.2.2.2.2.1, .int t3.2.2.2.2.2.2.2.2.2.2.2.2.1])) := k1_8
        replace k1_9 : hp1 (v + 1) = some (.inr (2, [.ref (v + 2), .ref (v + 3), .int t3.2.2.2.2.2.2.2.2.2.2.2.2.2.1])) := k1_9
        replace k1_10 : hp1 (v + 2) = some (.inl (kC E 0, 6, .inl t3.2.2.2.2.2.2.2.2.2.2.2.2.2.2.1)) := k1_10
        replace k1_11 : hp1 (v + 3) = some (.inl (kC E 0, 72, .inl t3.2.2.2.2.2.2.2.2.2.2.2.2.2.2.2.1)) := k1_11
        replace k1_12 : hp1 (v + 4) = some (.inr (9, [.ref (v + 5), .ref (v + 6), .int t3.2.2.2.2.2.2.2.2.2.2.2.2.2.2.2.2.1])) := k1_12
        replace k1_13 : hp1 (v + 5) = some (.inl (kC E 0, 6, .inl t3.2.2.2.2.2.2.2.2.2.2.2.2.2.2.2.2.2.1)) := k1_13
        replace k1_14 : hp1 (v + 6) = some (.inl (kC E 0, 24, .inl t3.2.2.2.2.2.2.2.2.2.2.2.2.2.2.2.2.2.2.1)) := k1_14
        replace k1_15 : hp1 (v + 7) = some (.inr (6, [.ref (v + 8), .ref (v + 9), .int t3.2.2.2.2.2.2.2.2.2.2.2.2.2.2.2.2.2.2.2.1])) := k1_15
        replace k1_16 : hp1 (v + 8) = some (.inl (kC E 0, 300, .inl t3.2.2.2.2.2.2.2.2.2.2.2.2.2.2.2.2.2.2.2.2.1)) := k1_16
        replace k1_17 : hp1 (v + 9) = some (.inl (kC E 0, 432, .inl t3.2.2.2.2.2.2.2.2.2.2.2.2.2.2.2.2.2.2.2.2.2.1)) := k1_17
        replace k1_18 : hp1 (v + 10) = some (.inr (8, [.ref (v + 11), .ref (v + 12), .int t3.2.2.2.2.2.2.2.2.2.2.2.2.2.2.2.2.2.2.2.2.2.2.1])) := k1_18
        replace k1_19 : hp1 (v + 11) = some (.inl (kC E 0, 36, .inl t3.2.2.2.2.2.2.2.2.2.2.2.2.2.2.2.2.2.2.2.2.2.2.2.1)) := k1_19
        replace k1_20 : hp1 (v + 12) = some (.inl (kC E 0, 36, .inl t3.2.2.2.2.2.2.2.2.2.2.2.2.2.2.2.2.2.2.2.2.2.2.2.2)) := k1_20
        refine A_st (st' := [.int t3.1]) rfl ?_
        cases h
        exact A_iretX X dL_acts_115 hr ⟨rfl, k1_0, ((n1 _ (by omega) (by omega) (by omega) (by omega) (by omega) (by omega) (by omega) (by omega) (by omega) (by omega) (by omega) (by omega) (by omega) (by omega) (by omega) (by omega) (by omega) (by omega) (by omega) (by omega) (by omega)).trans g6), k1_1, k1_2, k1_3, k1_4, k1_5, k1_6, k1_7, k1_8, k1_9, k1_10, k1_11, k1_12, k1_13, k1_14, k1_15, k1_16, k1_17, k1_18, k1_19, k1_20, (fun q z0 z1 z2 z3 z4 z5 z6 z7 z8 z9 z10 z11 z12 z13 z14 z15 z16 z17 z18 z19 z20 z21 => (n1 q z0 z2 z3 z4 z5 z6 z7 z8 z9 z10 z11 z12 z13 z14 z15 z16 z17 z18 z19 z20 z21)), rfl⟩ (Nat.le_of_ble_eq_true rfl) (Nat.le_of_ble_eq_true rfl)
      · rw [if_neg c2] at h
        have m2 := br_n hx9 (by omega) (by omega) c2
        by_cases c3 : (a1 - a1 / 16 * 16) < nI 13
        · rw [if_pos c3] at h
          have j3 := br_j hx9 (by omega) (by omega) c3
          refine A_tabN (tgt := 116) X dL_acts_9 hx9 (by omega) (by omega) ((by decide : ∀ j, j < 13 → 12 ≤ j → (#[75, 75, 75, 75, 75, 75, 75, 75, 97, 97, 102, 102, 107, 115, 143] : Array Int)[j]? = some 107) j9 j3 (by omega)) (by decide) ?_
          refine A_aload_n X dL_acts_116 1 rfl ?_
          refine A_iload_n X dL_acts_117 0 rfl ?_
          refine A_iconst (v := 3) X dL_acts_118 (by decide) ?_
          refine A_irem X dL_acts_119 (by decide) ?_
          rcases hbd_o h with ⟨C9, hc9, h⟩ | ⟨t4, hct4, h⟩
          · refine A_cX (k' := 1) (n' := 6) rfl rfl (A_runVX (rest := []) X dL_acts_120 (c_X10_forgive g0 g3 g4 g5 g6 g7 g8 g9 g10 g11 g12 g13 g14 g15 g18 g19 g39 g40 g41 g42 g43 g44 g45 g46 g47 g48 g49 g50 g51 hvv (by omega) (by omega) hc9) kY_X10_forgive kw_1311 g0 rfl rfl ⟨(Nat.le_of_ble_eq_true rfl), (Nat.le_of_ble_eq_true rfl), (Nat.le_of_ble_eq_true rfl), (Nat.le_of_ble_eq_true rfl)⟩ rfl (Nat.le_of_ble_eq_true rfl)) (fun C hp1 hP => ?_) (fun v hp1 al1 hP => by obtain ⟨u, hu, _⟩ := hP; cases hu)
            obtain ⟨hC, rfl⟩ := hP
            cases hC
            rcases ite_o h with ⟨rfl, h⟩ | h
            · refine A_catch (name := "java/lang/IllegalStateException") (Lc := []) (stc := []) X [⟨5, 105, 179, 93⟩, ⟨106, 110, 179, 93⟩, ⟨111, 115, 179, 93⟩] ⟨116, 123, 179, 93⟩ [⟨124, 151, 179, 93⟩, ⟨152, 160, 179, 93⟩, ⟨161, 178, 179, 93⟩] (htb.trans rfl) (fun z hz => by simp only [List.mem_cons, List.not_mem_nil, or_false] at hz; rcases hz with rfl | rfl | rfl; { exact Or.inl (by decide) }; { exact Or.inl (by decide) }; { exact Or.inl (by decide) }) (by decide) (by decide) kw_1293 kw_1004 (fun q9 => ?_)
              refine A_astore_n (L' := [(3, .ref q9), (2, .int (a1 / 16)), (0, .ref x), (1, .int a1)]) X dL_acts_179 rfl (by decide) rfl ?_
              refine A_bipush (v := (-9)) X dL_acts_180 (by decide) ?_
              cases h
              exact A_iretX X dL_acts_182 hr ⟨rfl, g3, g6, g10, g11, g12, g13, g14, g15, g18, g39, g40, g41, g42, g43, g44, g45, g46, g47, g48, g49, g50, g51, (fun q z0 z1 z2 z3 z4 z5 z6 z7 z8 z9 z10 z11 z12 z13 z14 z15 z16 z17 z18 z19 z20 z21 => rfl), rfl⟩ (Nat.le_of_ble_eq_true rfl) (Nat.le_of_ble_eq_true rfl)
            cases h
          refine A_cX (k' := 1) (n' := 6) rfl rfl (A_runVX (rest := []) X dL_acts_120 (c_X10_forgive g0 g3 g4 g5 g6 g7 g8 g9 g10 g11 g12 g13 g14 g15 g18 g19 g39 g40 g41 g42 g43 g44 g45 g46 g47 g48 g49 g50 g51 hvv (by omega) (by omega) hct4) kY_X10_forgive kw_1311 g0 rfl rfl ⟨(Nat.le_of_ble_eq_true rfl), (Nat.le_of_ble_eq_true rfl), (Nat.le_of_ble_eq_true rfl), (Nat.le_of_ble_eq_true rfl)⟩ rfl (Nat.le_of_ble_eq_true rfl)) (fun C hp1 hP => by obtain ⟨hC, _⟩ := hP; cases hC) (fun v9 hp1 al9 hP => ?_)
          obtain ⟨u9, hu9, rfl, k1_0, k1_1, k1_2, k1_3, k1_4, k1_5, k1_6, k1_7, k1_8, k1_9, k1_10, k1_11, k1_12, k1_13, k1_14, k1_15, k1_16, n1, rfl⟩ := hP
          cases hu9
          replace k1_0 : hp1 (x + 13) = some (.inr (8, [.ref (x + 14), .ref (x + 15), .int t4.2.1])) := k1_0
          replace k1_1 : hp1 (x + 14) = some (.inl (kC E 0, 36, .inl t4.2.2.1)) := k1_1
          replace k1_2 : hp1 (x + 15) = some (.inl (kC E 0, 36, .inl t4.2.2.2.1)) := k1_2
          replace k1_3 : hp1 (x + 18) = some (.inr (5, [.ref (x + 19), .int t4.2.2.2.2.1, .int t4.2.2.2.2.2.1])) := k1_3
          replace k1_4 : hp1 v = some (.inr (4, [.ref (v + 1), .ref (v + 4), .ref (v + 7), .ref (v + 10), .int t4.2.2.2.2.2.2.1, .int t4.2.2.2.2.2.2.2.1, .int t4.2.2.2.2.2.2.2.2.1])) := k1_4
          replace k1_5 : hp1 (v + 1) = some (.inr (2, [.ref (v + 2), .ref (v + 3), .int t4.2.2.2.2.2.2.2.2.2.1])) := k1_5
          replace k1_6 : hp1 (v + 2) = some (.inl (kC E 0, 6, .inl t4.2.2.2.2.2.2.2.2.2.2.1)) := k1_6
          replace k1_7 : hp1 (v + 3) = some (.inl (kC E 0, 72, .inl t4.2.2.2.2.2.2.2.2.2.2.2.1)) := k1_7
          replace k1_8 : hp1 (v + 4) = some (.inr (9, [.ref (v + 5), .ref (v + 6), .int t4.2.2.2.2.2.2.2.2.2.2.2.2.1])) := k1_8
          replace k1_9 : hp1 (v + 5) = some (.inl (kC E 0, 6, .inl t4.2.2.2.2.2.2.2.2.2.2.2.2.2.1)) := k1_9
          replace k1_10 : hp1 (v + 6) = some (.inl (kC E 0, 24, .inl t4.2.2.2.2.2.2.2.2.2.2.2.2.2.2.1)) := k1_10
          replace k1_11 : hp1 (v + 7) = some (.inr (6, [.ref (v + 8), .ref (v + 9), .int t4.2.2.2.2.2.2.2.2.2.2.2.2.2.2.2.1])) := k1_11
          replace k1_12 : hp1 (v + 8) = some (.inl (kC E 0, 300, .inl t4.2.2.2.2.2.2.2.2.2.2.2.2.2.2.2.2.1)) := k1_12
          replace k1_13 : hp1 (v + 9) = some (.inl (kC E 0, 432, .inl t4.2.2.2.2.2.2.2.2.2.2.2.2.2.2.2.2.2.1)) := k1_13
          replace k1_14 : hp1 (v + 10) = some (.inr (8, [.ref (v + 11), .ref (v + 12), .int t4.2.2.2.2.2.2.2.2.2.2.2.2.2.2.2.2.2.2.1])) := k1_14
          replace k1_15 : hp1 (v + 11) = some (.inl (kC E 0, 36, .inl t4.2.2.2.2.2.2.2.2.2.2.2.2.2.2.2.2.2.2.2.1)) := k1_15
          replace k1_16 : hp1 (v + 12) = some (.inl (kC E 0, 36, .inl t4.2.2.2.2.2.2.2.2.2.2.2.2.2.2.2.2.2.2.2.2)) := k1_16
          refine A_st (st' := [.int t4.1]) rfl ?_
          cases h
          exact A_iretX X dL_acts_123 hr ⟨rfl, ((n1 _ (by omega) (by omega) (by omega) (by omega) (by omega) (by omega) (by omega) (by omega) (by omega) (by omega) (by omega) (by omega) (by omega) (by omega) (by omega) (by omega) (by omega)).trans g3), ((n1 _ (by omega) (by omega) (by omega) (by omega) (by omega) (by omega) (by omega) (by omega) (by omega) (by omega) (by omega) (by omega) (by omega) (by omega) (by omega) (by omega) (by omega)).trans g6), ((n1 _ (by omega) (by omega) (by omega) (by omega) (by omega) (by omega) (by omega) (by omega) (by omega) (by omega) (by omega) (by omega) (by omega) (by omega) (by omega) (by omega) (by omega)).trans g10), ((n1 _ (by omega) (by omega) (by omega) (by omega) (by omega) (by omega) (by omega) (by omega) (by omega) (by omega) (by omega) (by omega) (by omega) (by omega) (by omega) (by omega) (by omega)).trans g11), ((n1 _ (by omega) (by omega) (by omega) (by omega) (by omega) (by omega) (by omega) (by omega) (by omega) (by omega) (by omega) (by omega) (by omega) (by omega) (by omega) (by omega) (by omega)).trans g12), k1_0, k1_1, k1_2, k1_3, k1_4, k1_5, k1_6, k1_7, k1_8, k1_9, k1_10, k1_11, k1_12, k1_13, k1_14, k1_15, k1_16, (fun q z0 z1 z2 z3 z4 z5 z6 z7 z8 z9 z10 z11 z12 z13 z14 z15 z16 z17 z18 z19 z20 z21 => (n1 q z5 z6 z7 z8 z9 z10 z11 z12 z13 z14 z15 z16 z17 z18 z19 z20 z21)), rfl⟩ (Nat.le_of_ble_eq_true rfl) (Nat.le_of_ble_eq_true rfl)
        · rw [if_neg c3] at h
          have m3 := br_n hx9 (by omega) (by omega) c3
          by_cases c4 : (a1 - a1 / 16 * 16) < nI 14
          · rw [if_pos c4] at h
            have j4 := br_j hx9 (by omega) (by omega) c4
            refine A_tabN (tgt := 124) X dL_acts_9 hx9 (by omega) (by omega) ((by decide : ∀ j, j < 14 → 13 ≤ j → (#[75, 75, 75, 75, 75, 75, 75, 75, 97, 97, 102, 102, 107, 115, 143] : Array Int)[j]? = some 115) j9 j4 (by omega)) (by decide) ?_
            refine A_aload_n X dL_acts_124 1 rfl ?_
            refine A_iload_n X dL_acts_125 0 rfl ?_
            refine A_iconst (v := 3) X dL_acts_126 (by decide) ?_
            refine A_irem X dL_acts_127 (by decide) ?_
            refine A_iconst (v := 1) X dL_acts_128 (by decide) ?_
            refine A_iload_n X dL_acts_129 0 rfl ?_
            refine A_iconst (v := 4) X dL_acts_130 (by decide) ?_
            refine A_idiv X dL_acts_131 (by decide) ?_
            refine A_aload_n X dL_acts_132 1 rfl ?_
            refine A_iload_n X dL_acts_133 0 rfl ?_
            refine A_iconst (v := 3) X dL_acts_134 (by decide) ?_
            refine A_irem X dL_acts_135 (by decide) ?_
            rcases hbd_o h with ⟨C9, hc9, h⟩ | ⟨t5, hct5, h⟩
            · refine A_cX (k' := 1) (n' := 6) rfl rfl (A_runVX (rest := [.int ((a1 / 16) / 4), .int 1, .int ((a1 / 16) - (a1 / 16) / 3 * 3), .ref x]) X dL_acts_136 (c_X10_faces g0 g3 g4 g5  hc9) kY_X10_faces kw_1316 g0 rfl rfl ⟨(Nat.le_of_ble_eq_true rfl), (Nat.le_of_ble_eq_true rfl), (Nat.le_of_ble_eq_true rfl), (Nat.le_of_ble_eq_true rfl)⟩ rfl (Nat.le_of_ble_eq_true rfl)) (fun C hp1 hP => ?_) (fun v hp1 al1 hP => by obtain ⟨u, hu, _⟩ := hP; cases hu)
              obtain ⟨hC, rfl⟩ := hP
              cases hC
              rcases ite_o h with ⟨rfl, h⟩ | h
              · refine A_catch (name := "java/lang/IllegalStateException") (Lc := []) (stc := []) X [⟨5, 105, 179, 93⟩, ⟨106, 110, 179, 93⟩, ⟨111, 115, 179, 93⟩, ⟨116, 123, 179, 93⟩] ⟨124, 151, 179, 93⟩ [⟨152, 160, 179, 93⟩, ⟨161, 178, 179, 93⟩] (htb.trans rfl) (fun z hz => by simp only [List.mem_cons, List.not_mem_nil, or_false] at hz; rcases hz with rfl | rfl | rfl | rfl; { exact Or.inl (by decide) }; { exact Or.inl (by decide) }; { exact Or.inl (by decide) }; { exact Or.inl (by decide) }) (by decide) (by decide) kw_1293 kw_1004 (fun q9 => ?_)
                refine A_astore_n (L' := [(3, .ref q9), (2, .int (a1 / 16)), (0, .ref x), (1, .int a1)]) X dL_acts_179 rfl (by decide) rfl ?_
                refine A_bipush (v := (-9)) X dL_acts_180 (by decide) ?_
                cases h
                exact A_iretX X dL_acts_182 hr ⟨rfl, g3, g6, g10, g11, g12, g13, g14, g15, g18, g39, g40, g41, g42, g43, g44, g45, g46, g47, g48, g49, g50, g51, (fun q z0 z1 z2 z3 z4 z5 z6 z7 z8 z9 z10 z11 z12 z13 z14 z15 z16 z17 z18 z19 z20 z21 => rfl), rfl⟩ (Nat.le_of_ble_eq_true rfl) (Nat.le_of_ble_eq_true rfl)
              cases h
            refine A_cX (k' := 1) (n' := 6) rfl rfl (A_runVX (rest := [.int ((a1 / 16) / 4), .int 1, .int ((a1 / 16) - (a1 / 16) / 3 * 3), .ref x]) X dL_acts_136 (c_X10_faces g0 g3 g4 g5  hct5) kY_X10_faces kw_1316 g0 rfl rfl ⟨(Nat.le_of_ble_eq_true rfl), (Nat.le_of_ble_eq_true rfl), (Nat.le_of_ble_eq_true rfl), (Nat.le_of_ble_eq_true rfl)⟩ rfl (Nat.le_of_ble_eq_true rfl)) (fun C hp1 hP => by obtain ⟨hC, _⟩ := hP; cases hC) (fun v9 hp1 al9 hP => ?_)
            obtain ⟨u9, hu9, rfl, rfl, rfl⟩ := hP
            cases hu9
            refine A_st (st' := [.int t5, .int ((a1 / 16) / 4), .int 1, .int ((a1 / 16) - (a1 / 16) / 3 * 3), .ref x]) rfl ?_
            obtain ⟨hq, h⟩ := gd_o h
            refine A_irem X dL_acts_139 (nz_o hq) ?_
            refine A_iadd X dL_acts_140 ?_
            refine A_iload_n X dL_acts_141 0 rfl ?_
            refine A_bipush (v := 64) X dL_acts_142 (by decide) ?_
            refine A_idiv X dL_acts_144 (by decide) ?_
            refine A_bipush (v := 10) X dL_acts_145 (by decide) ?_
            refine A_irem X dL_acts_147 (by decide) ?_
            rcases hbd_o h with ⟨C9, hc9, h⟩ | ⟨t6, hct6, h⟩
            · refine A_cX (k' := 5) (n' := 30) rfl rfl (A_runVX (rest := []) X dL_acts_148 (c_X10_setWeight g0 g3 g4 g5 g6 g7 g8 g9 g10 g11 g12 g13 g14 g15 g18 g19 g39 g40 g41 g42 g43 g44 g45 g46 g47 g48 g49 g50 g51 hvv (by omega) (by omega) hc9) kY_X10_setWeight kw_1317 g0 rfl rfl ⟨(Nat.le_of_ble_eq_true rfl), (Nat.le_of_ble_eq_true rfl), (Nat.le_of_ble_eq_true rfl), (Nat.le_of_ble_eq_true rfl)⟩ rfl (Nat.le_of_ble_eq_true rfl)) (fun C hp1 hP => ?_) (fun v hp1 al1 hP => by obtain ⟨u, hu, _⟩ := hP; cases hu)
              obtain ⟨hC, rfl⟩ := hP
              cases hC
              rcases ite_o h with ⟨rfl, h⟩ | h
              · refine A_catch (name := "java/lang/IllegalStateException") (Lc := []) (stc := []) X [⟨5, 105, 179, 93⟩, ⟨106, 110, 179, 93⟩, ⟨111, 115, 179, 93⟩, ⟨116, 123, 179, 93⟩] ⟨124, 151, 179, 93⟩ [⟨152, 160, 179, 93⟩, ⟨161, 178, 179, 93⟩] (htb.trans rfl) (fun z hz => by simp only [List.mem_cons, List.not_mem_nil, or_false] at hz; rcases hz with rfl | rfl | rfl | rfl; { exact Or.inl (by decide) }; { exact Or.inl (by decide) }; { exact Or.inl (by decide) }; { exact Or.inl (by decide) }) (by decide) (by decide) kw_1293 kw_1004 (fun q9 => ?_)
                refine A_astore_n (L' := [(3, .ref q9), (2, .int (a1 / 16)), (0, .ref x), (1, .int a1)]) X dL_acts_179 rfl (by decide) rfl ?_
                refine A_bipush (v := (-9)) X dL_acts_180 (by decide) ?_
                cases h
                exact A_iretX X dL_acts_182 hr ⟨rfl, g3, g6, g10, g11, g12, g13, g14, g15, g18, g39, g40, g41, g42, g43, g44, g45, g46, g47, g48, g49, g50, g51, (fun q z0 z1 z2 z3 z4 z5 z6 z7 z8 z9 z10 z11 z12 z13 z14 z15 z16 z17 z18 z19 z20 z21 => rfl), rfl⟩ (Nat.le_of_ble_eq_true rfl) (Nat.le_of_ble_eq_true rfl)
              cases h
            refine A_cX (k' := 5) (n' := 30) rfl rfl (A_runVX (rest := []) X dL_acts_148 (c_X10_setWeight g0 g3 g4 g5 g6 g7 g8 g9 g10 g11 g12 g13 g14 g15 g18 g19 g39 g40 g41 g42 g43 g44 g45 g46 g47 g48 g49 g50 g51 hvv (by omega) (by omega) hct6) kY_X10_setWeight kw_1317 g0 rfl rfl ⟨(Nat.le_of_ble_eq_true rfl), (Nat.le_of_ble_eq_true rfl), (Nat.le_of_ble_eq_true rfl), (Nat.le_of_ble_eq_true rfl)⟩ rfl (Nat.le_of_ble_eq_true rfl)) (fun C hp1 hP => by obtain ⟨hC, _⟩ := hP; cases hC) (fun v9 hp1 al9 hP => ?_)
            obtain ⟨u9, hu9, rfl, k1_0, k1_1, k1_2, k1_3, k1_4, k1_5, k1_6, k1_7, k1_8, k1_9, k1_10, k1_11, k1_12, k1_13, k1_14, n1, rfl⟩ := hP
            cases hu9
            replace k1_0 : hp1 (x + 6) = some (.inl (kC E 0, 72, .inl t6.2.1)) := k1_0
            replace k1_1 : hp1 (x + 18) = some (.inr (5, [.ref (x + 19), .int t6.2.2.1, .int t6.2.2.2.1])) := k1_1
            replace k1_2 : hp1 v = some (.inr (4, [.ref (v + 1), .ref (v + 4), .ref (v + 7), .ref (v + 10), .int t6.2.2.2.2.1, .int t6.2.2.2.2.2.1, .int t6.2.2.2.2.2.2.1])) := k1_2
            replace k1_3 : hp1 (v + 1) = some (.inr (2, [.ref (v + 2), .ref (v + 3), .int t6.2.2.2.2.2.2.2.1])) := k1_3
            replace k1_4 : hp1 (v + 2) = some (.inl (kC E 0, 6, .inl t6.2.2.2.2.2.2.2.2.1)) := k1_4
            replace k1_5 : hp1 (v + 3) = some (.inl (kC E 0, 72, .inl t6.2.2.2.2.2.2.2.2.2.1)) := k1_5
            replace k1_6 : hp1 (v + 4) = some (.inr (9, [.ref (v + 5), .ref (v + 6), .int t6.2.2.2.2.2.2.2.2.2.2.1])) := k1_6
            replace k1_7 : hp1 (v + 5) = some (.inl (kC E 0, 6, .inl t6.2.2.2.2.2.2.2.2.2.2.2.1)) := k1_7
            replace k1_8 : hp1 (v + 6) = some (.inl (kC E 0, 24, .inl t6.2.2.2.2.2.2.2.2.2.2.2.2.1)) := k1_8
            replace k1_9 : hp1 (v + 7) = some (.inr (6, [.ref (v + 8), .ref (v + 9), .int t6.2.2.2.2.2.2.2.2.2.2.2.2.2.1])) := k1_9
            replace k1_10 : hp1 (v + 8) = some (.inl (kC E 0, 300, .inl t6.2.2.2.2.2.2.2.2.2.2.2.2.2.2.1)) := k1_10
            replace k1_11 : hp1 (v + 9) = some (.inl (kC E 0, 432, .inl t6.2.2.2.2.2.2.2.2.2.2.2.2.2.2.2.1)) := k1_11
            replace k1_12 : hp1 (v + 10) = some (.inr (8, [.ref (v + 11), .ref (v + 12), .int t6.2.2.2.2.2.2.2.2.2.2.2.2.2.2.2.2.1])) := k1_12
            replace k1_13 : hp1 (v + 11) = some (.inl (kC E 0, 36, .inl t6.2.2.2.2.2.2.2.2.2.2.2.2.2.2.2.2.2.1)) := k1_13
            replace k1_14 : hp1 (v + 12) = some (.inl (kC E 0, 36, .inl t6.2.2.2.2.2.2.2.2.2.2.2.2.2.2.2.2.2.2)) := k1_14
            refine A_st (st' := [.int t6.1]) rfl ?_
            cases h
            exact A_iretX X dL_acts_151 hr ⟨rfl, ((n1 _ (by omega) (by omega) (by omega) (by omega) (by omega) (by omega) (by omega) (by omega) (by omega) (by omega) (by omega) (by omega) (by omega) (by omega) (by omega)).trans g3), k1_0, ((n1 _ (by omega) (by omega) (by omega) (by omega) (by omega) (by omega) (by omega) (by omega) (by omega) (by omega) (by omega) (by omega) (by omega) (by omega) (by omega)).trans g10), ((n1 _ (by omega) (by omega) (by omega) (by omega) (by omega) (by omega) (by omega) (by omega) (by omega) (by omega) (by omega) (by omega) (by omega) (by omega) (by omega)).trans g11), ((n1 _ (by omega) (by omega) (by omega) (by omega) (by omega) (by omega) (by omega) (by omega) (by omega) (by omega) (by omega) (by omega) (by omega) (by omega) (by omega)).trans g12), ((n1 _ (by omega) (by omega) (by omega) (by omega) (by omega) (by omega) (by omega) (by omega) (by omega) (by omega) (by omega) (by omega) (by omega) (by omega) (by omega)).trans g13), ((n1 _ (by omega) (by omega) (by omega) (by omega) (by omega) (by omega) (by omega) (by omega) (by omega) (by omega) (by omega) (by omega) (by omega) (by omega) (by omega)).trans g14), ((n1 _ (by omega) (by omega) (by omega) (by omega) (by omega) (by omega) (by omega) (by omega) (by omega) (by omega) (by omega) (by omega) (by omega) (by omega) (by omega)).trans g15), k1_1, k1_2, k1_3, k1_4, k1_5, k1_6, k1_7, k1_8, k1_9, k1_10, k1_11, k1_12, k1_13, k1_14, (fun q z0 z1 z2 z3 z4 z5 z6 z7 z8 z9 z10 z11 z12 z13 z14 z15 z16 z17 z18 z19 z20 z21 => (n1 q z1 z8 z9 z10 z11 z12 z13 z14 z15 z16 z17 z18 z19 z20 z21)), rfl⟩ (Nat.le_of_ble_eq_true rfl) (Nat.le_of_ble_eq_true rfl)
          · rw [if_neg c4] at h
            have m4 := br_n hx9 (by omega) (by omega) c4
            by_cases c5 : (a1 - a1 / 16 * 16) < nI 15
            · rw [if_pos c5] at h
              have j5 := br_j hx9 (by omega) (by omega) c5
              refine A_tabN (tgt := 152) X dL_acts_9 hx9 (by omega) (by omega) ((by decide : ∀ j, j < 15 → 14 ≤ j → (#[75, 75, 75, 75, 75, 75, 75, 75, 97, 97, 102, 102, 107, 115, 143] : Array Int)[j]? = some 143) j9 j5 (by omega)) (by decide) ?_
              refine A_aload_n X dL_acts_152 1 rfl ?_
              refine A_iload_n X dL_acts_153 0 rfl ?_
              refine A_ldci X dL_acts_154 kw_1176 ?_
              refine A_irem X dL_acts_156 (by decide) ?_
              rcases hbd_o h with ⟨C9, hc9, h⟩ | ⟨t7, hct7, h⟩
              · refine A_cX (k' := 1) (n' := 6) rfl rfl (A_runVX (rest := []) X dL_acts_157 (c_X10_setSeed g0 g3 g4 g5 g6 g7 g8 g9 g10 g11 g12 g13 g14 g15 g18 g19 g39 g40 g41 g42 g43 g44 g45 g46 g47 g48 g49 g50 g51 hvv (by omega) (by omega) hc9) kY_X10_setSeed kw_1328 g0 rfl rfl ⟨(Nat.le_of_ble_eq_true rfl), (Nat.le_of_ble_eq_true rfl), (Nat.le_of_ble_eq_true rfl), (Nat.le_of_ble_eq_true rfl)⟩ rfl (Nat.le_of_ble_eq_true rfl)) (fun C hp1 hP => ?_) (fun v hp1 al1 hP => by obtain ⟨u, hu, _⟩ := hP; cases hu)
                obtain ⟨hC, rfl⟩ := hP
                cases hC
                rcases ite_o h with ⟨rfl, h⟩ | h
                · refine A_catch (name := "java/lang/IllegalStateException") (Lc := []) (stc := []) X [⟨5, 105, 179, 93⟩, ⟨106, 110, 179, 93⟩, ⟨111, 115, 179, 93⟩, ⟨116, 123, 179, 93⟩, ⟨124, 151, 179, 93⟩] ⟨152, 160, 179, 93⟩ [⟨161, 178, 179, 93⟩] (htb.trans rfl) (fun z hz => by simp only [List.mem_cons, List.not_mem_nil, or_false] at hz; rcases hz with rfl | rfl | rfl | rfl | rfl; { exact Or.inl (by decide) }; { exact Or.inl (by decide) }; { exact Or.inl (by decide) }; { exact Or.inl (by decide) }; { exact Or.inl (by decide) }) (by decide) (by decide) kw_1293 kw_1004 (fun q9 => ?_)
                  refine A_astore_n (L' := [(3, .ref q9), (2, .int (a1 / 16)), (0, .ref x), (1, .int a1)]) X dL_acts_179 rfl (by decide) rfl ?_
                  refine A_bipush (v := (-9)) X dL_acts_180 (by decide) ?_
                  cases h
                  exact A_iretX X dL_acts_182 hr ⟨rfl, g3, g6, g10, g11, g12, g13, g14, g15, g18, g39, g40, g41, g42, g43, g44, g45, g46, g47, g48, g49, g50, g51, (fun q z0 z1 z2 z3 z4 z5 z6 z7 z8 z9 z10 z11 z12 z13 z14 z15 z16 z17 z18 z19 z20 z21 => rfl), rfl⟩ (Nat.le_of_ble_eq_true rfl) (Nat.le_of_ble_eq_true rfl)
                cases h
              refine A_cX (k' := 1) (n' := 6) rfl rfl (A_runVX (rest := []) X dL_acts_157 (c_X10_setSeed g0 g3 g4 g5 g6 g7 g8 g9 g10 g11 g12 g13 g14 g15 g18 g19 g39 g40 g41 g42 g43 g44 g45 g46 g47 g48 g49 g50 g51 hvv (by omega) (by omega) hct7) kY_X10_setSeed kw_1328 g0 rfl rfl ⟨(Nat.le_of_ble_eq_true rfl), (Nat.le_of_ble_eq_true rfl), (Nat.le_of_ble_eq_true rfl), (Nat.le_of_ble_eq_true rfl)⟩ rfl (Nat.le_of_ble_eq_true rfl)) (fun C hp1 hP => by obtain ⟨hC, _⟩ := hP; cases hC) (fun v9 hp1 al9 hP => ?_)
              obtain ⟨u9, hu9, rfl, k1_0, k1_1, k1_2, k1_3, k1_4, k1_5, k1_6, k1_7, k1_8, k1_9, k1_10, k1_11, k1_12, k1_13, k1_14, n1, rfl⟩ := hP
              cases hu9
              replace k1_0 : hp1 (x + 3) = some (.inr (4, [.ref (x + 4), .ref (x + 7), .ref (x + 10), .ref (x + 13), .int t7.2.1, .int mn, .int th])) := k1_0
              replace k1_1 : hp1 (x + 18) = some (.inr (5, [.ref (x + 19), .int t7.2.2.1, .int t7.2.2.2.1])) := k1_1
              replace k1_2 : hp1 v = some (.inr (4, [.ref (v + 1), .ref (v + 4), .ref (v + 7), .ref (v + 10), .int t7.2.2.2.2.1, .int t7.2.2.2.2.2.1, .int t7.2.2.2.2.2.2.1])) := k1_2
              replace k1_3 : hp1 (v + 1) = some (.inr (2, [.ref (v + 2), .ref (v + 3), .int t7.2.2.2.2.2.2.2.1])) := k1_3
              replace k1_4 : hp1 (v + 2) = some (.inl (kC E 0, 6, .inl t7.2.2.2.2.2.2.2.2.1)) := k1_4
              replace k1_5 : hp1 (v + 3) = some (.inl (kC E 0, 72, .inl t7.2.2.2.2.2.2.2.2.2.1)) := k1_5
              replace k1_6 : hp1 (v + 4) = some (.inr (9, [.ref (v + 5), .ref (v + 6), .int t7.2.2.2.2.2.2.2.2.2.2.1])) := k1_6
              replace k1_7 : hp1 (v + 5) = some (.inl (kC E 0, 6, .inl t7.2.2.2.2.2.2.2.2.2.2.2.1)) := k1_7
              replace k1_8 : hp1 (v + 6) = some (.inl (kC E 0, 24, .inl t7.2.2.2.2.2.2.2.2.2.2.2.2.1)) := k1_8
              replace k1_9 : hp1 (v + 7) = some (.inr (6, [.ref (v + 8), .ref (v + 9), .int t7.2.2.2.2.2.2.2.2.2.2.2.2.2.1])) := k1_9
              replace k1_10 : hp1 (v + 8) = some (.inl (kC E 0, 300, .inl t7.2.2.2.2.2.2.2.2.2.2.2.2.2.2.1)) := k1_10
              replace k1_11 : hp1 (v + 9) = some (.inl (kC E 0, 432, .inl t7.2.2.2.2.2.2.2.2.2.2.2.2.2.2.2.1)) := k1_11
              replace k1_12 : hp1 (v + 10) = some (.inr (8, [.ref (v + 11), .ref (v + 12), .int t7.2.2.2.2.2.2.2.2.2.2.2.2.2.2.2.2.1])) := k1_12
              replace k1_13 : hp1 (v + 11) = some (.inl (kC E 0, 36, .inl t7.2.2.2.2.2.2.2.2.2.2.2.2.2.2.2.2.2.1)) := k1_13
              replace k1_14 : hp1 (v + 12) = some (.inl (kC E 0, 36, .inl t7.2.2.2.2.2.2.2.2.2.2.2.2.2.2.2.2.2.2)) := k1_14
              refine A_st (st' := [.int t7.1]) rfl ?_
              cases h
              exact A_iretX X dL_acts_160 hr ⟨rfl, k1_0, ((n1 _ (by omega) (by omega) (by omega) (by omega) (by omega) (by omega) (by omega) (by omega) (by omega) (by omega) (by omega) (by omega) (by omega) (by omega) (by omega)).trans g6), ((n1 _ (by omega) (by omega) (by omega) (by omega) (by omega) (by omega) (by omega) (by omega) (by omega) (by omega) (by omega) (by omega) (by omega) (by omega) (by omega)).trans g10), ((n1 _ (by omega) (by omega) (by omega) (by omega) (by omega) (by omega) (by omega) (by omega) (by omega) (by omega) (by omega) (by omega) (by omega) (by omega) (by omega)).trans g11), ((n1 _ (by omega) (by omega) (by omega) (by omega) (by omega) (by omega) (by omega) (by omega) (by omega) (by omega) (by omega) (by omega) (by omega) (by omega) (by omega)).trans g12), ((n1 _ (by omega) (by omega) (by omega) (by omega) (by omega) (by omega) (by omega) (by omega) (by omega) (by omega) (by omega) (by omega) (by omega) (by omega) (by omega)).trans g13), ((n1 _ (by omega) (by omega) (by omega) (by omega) (by omega) (by omega) (by omega) (by omega) (by omega) (by omega) (by omega) (by omega) (by omega) (by omega) (by omega)).trans g14), ((n1 _ (by omega) (by omega) (by omega) (by omega) (by omega) (by omega) (by omega) (by omega) (by omega) (by omega) (by omega) (by omega) (by omega) (by omega) (by omega)).trans g15), k1_1, k1_2, k1_3, k1_4, k1_5, k1_6, k1_7, k1_8, k1_9, k1_10, k1_11, k1_12, k1_13, k1_14, (fun q z0 z1 z2 z3 z4 z5 z6 z7 z8 z9 z10 z11 z12 z13 z14 z15 z16 z17 z18 z19 z20 z21 => (n1 q z0 z8 z9 z10 z11 z12 z13 z14 z15 z16 z17 z18 z19 z20 z21)), rfl⟩ (Nat.le_of_ble_eq_true rfl) (Nat.le_of_ble_eq_true rfl)
            · rw [if_neg c5] at h
              have m5 := br_n hx9 (by omega) (by omega) c5
              refine A_tabM (tgt := 161) X dL_acts_9 hx9 (by omega) (by omega) (by decide) ?_
              refine A_aload_n X dL_acts_161 1 rfl ?_
              refine A_iconst (v := 1) X dL_acts_162 (by decide) ?_
              refine A_iload_n X dL_acts_163 0 rfl ?_
              refine A_bipush (v := 9) X dL_acts_164 (by decide) ?_
              refine A_irem X dL_acts_166 (by decide) ?_
              refine A_iadd X dL_acts_167 ?_
              refine A_iload_n X dL_acts_168 0 rfl ?_
              refine A_bipush (v := 16) X dL_acts_169 (by decide) ?_
              refine A_idiv X dL_acts_171 (by decide) ?_
              refine A_bipush (v := 14) X dL_acts_172 (by decide) ?_
              refine A_irem X dL_acts_174 (by decide) ?_
              rcases hbd_o h with ⟨C9, hc9, h⟩ | ⟨t8, hct8, h⟩
              · refine A_cX (k' := 2) (n' := 12) rfl rfl (A_runVX (rest := []) X dL_acts_175 (c_X10_setLimits g0 g3 g4 g5 g6 g7 g8 g9 g10 g11 g12 g13 g14 g15 g18 g19 g39 g40 g41 g42 g43 g44 g45 g46 g47 g48 g49 g50 g51 hvv (by omega) (by omega) hc9) kY_X10_setLimits kw_1333 g0 rfl rfl ⟨(Nat.le_of_ble_eq_true rfl), (Nat.le_of_ble_eq_true rfl), (Nat.le_of_ble_eq_true rfl), (Nat.le_of_ble_eq_true rfl)⟩ rfl (Nat.le_of_ble_eq_true rfl)) (fun C hp1 hP => ?_) (fun v hp1 al1 hP => by obtain ⟨u, hu, _⟩ := hP; cases hu)
                obtain ⟨hC, rfl⟩ := hP
                cases hC
                rcases ite_o h with ⟨rfl, h⟩ | h
                · refine A_catch (name := "java/lang/IllegalStateException") (Lc := []) (stc := []) X [⟨5, 105, 179, 93⟩, ⟨106, 110, 179, 93⟩, ⟨111, 115, 179, 93⟩, ⟨116, 123, 179, 93⟩, ⟨124, 151, 179, 93⟩, ⟨152, 160, 179, 93⟩] ⟨161, 178, 179, 93⟩ [] (htb.trans rfl) (fun z hz => by simp only [List.mem_cons, List.not_mem_nil, or_false] at hz; rcases hz with rfl | rfl | rfl | rfl | rfl | rfl; { exact Or.inl (by decide) }; { exact Or.inl (by decide) }; { exact Or.inl (by decide) }; { exact Or.inl (by decide) }; { exact Or.inl (by decide) }; { exact Or.inl (by decide) }) (by decide) (by decide) kw_1293 kw_1004 (fun q9 => ?_)
                  refine A_astore_n (L' := [(3, .ref q9), (2, .int (a1 / 16)), (0, .ref x), (1, .int a1)]) X dL_acts_179 rfl (by decide) rfl ?_
                  refine A_bipush (v := (-9)) X dL_acts_180 (by decide) ?_
                  cases h
                  exact A_iretX X dL_acts_182 hr ⟨rfl, g3, g6, g10, g11, g12, g13, g14, g15, g18, g39, g40, g41, g42, g43, g44, g45, g46, g47, g48, g49, g50, g51, (fun q z0 z1 z2 z3 z4 z5 z6 z7 z8 z9 z10 z11 z12 z13 z14 z15 z16 z17 z18 z19 z20 z21 => rfl), rfl⟩ (Nat.le_of_ble_eq_true rfl) (Nat.le_of_ble_eq_true rfl)
                cases h
              refine A_cX (k' := 2) (n' := 12) rfl rfl (A_runVX (rest := []) X dL_acts_175 (c_X10_setLimits g0 g3 g4 g5 g6 g7 g8 g9 g10 g11 g12 g13 g14 g15 g18 g19 g39 g40 g41 g42 g43 g44 g45 g46 g47 g48 g49 g50 g51 hvv (by omega) (by omega) hct8) kY_X10_setLimits kw_1333 g0 rfl rfl ⟨(Nat.le_of_ble_eq_true rfl), (Nat.le_of_ble_eq_true rfl), (Nat.le_of_ble_eq_true rfl), (Nat.le_of_ble_eq_true rfl)⟩ rfl (Nat.le_of_ble_eq_true rfl)) (fun C hp1 hP => by obtain ⟨hC, _⟩ := hP; cases hC) (fun v9 hp1 al9 hP => ?_)
              obtain ⟨u9, hu9, rfl, k1_0, k1_1, k1_2, k1_3, k1_4, k1_5, k1_6, k1_7, k1_8, k1_9, k1_10, k1_11, k1_12, k1_13, k1_14, n1, rfl⟩ := hP
              cases hu9
              replace k1_0 : hp1 (x + 3) = some (.inr (4, [.ref (x + 4), .ref (x + 7), .ref (x + 10), .ref (x + 13), .int sd, .int t8.2.1, .int t8.2.2.1])) := k1_0
              replace k1_1 : hp1 (x + 18) = some (.inr (5, [.ref (x + 19), .int t8.2.2.2.1, .int t8.2.2.2.2.1])) := k1_1
              replace k1_2 : hp1 v = some (.inr (4, [.ref (v + 1), .ref (v + 4), .ref (v + 7), .ref (v + 10), .int t8.2.2.2.2.2.1, .int t8.2.2.2.2.2.2.1, .int t8.2.2.2.2.2.2.2.1])) := k1_2
              replace k1_3 : hp1 (v + 1) = some (.inr (2, [.ref (v + 2), .ref (v + 3), .int t8.2.2.2.2.2.2.2.2.1])) := k1_3
              replace k1_4 : hp1 (v + 2) = some (.inl (kC E 0, 6, .inl t8.2.2.2.2.2.2.2.2.2.1)) := k1_4
              replace k1_5 : hp1 (v + 3) = some (.inl (kC E 0, 72, .inl t8.2.2.2.2.2.2.2.2.2.2.1)) := k1_5
              replace k1_6 : hp1 (v + 4) = some (.inr (9, [.ref (v + 5), .ref (v + 6), .int t8.2.2.2.2.2.2.2.2.2.2.2.1])) := k1_6
              replace k1_7 : hp1 (v + 5) = some (.inl (kC E 0, 6, .inl t8.2.2.2.2.2.2.2.2.2.2.2.2.1)) := k1_7
              replace k1_8 : hp1 (v + 6) = some (.inl (kC E 0, 24, .inl t8.2.2.2.2.2.2.2.2.2.2.2.2.2.1)) := k1_8
              replace k1_9 : hp1 (v + 7) = some (.inr (6, [.ref (v + 8), .ref (v + 9), .int t8.2.2.2.2.2.2.2.2.2.2.2.2.2.2.1])) := k1_9
              replace k1_10 : hp1 (v + 8) = some (.inl (kC E 0, 300, .inl t8.2.2.2.2.2.2.2.2.2.2.2.2.2.2.2.1)) := k1_10
              replace k1_11 : hp1 (v + 9) = some (.inl (kC E 0, 432, .inl t8.2.2.2.2.2.2.2.2.2.2.2.2.2.2.2.2.1)) := k1_11
              replace k1_12 : hp1 (v + 10) = some (.inr (8, [.ref (v + 11), .ref (v + 12), .int t8.2.2.2.2.2.2.2.2.2.2.2.2.2.2.2.2.2.1])) := k1_12
              replace k1_13 : hp1 (v + 11) = some (.inl (kC E 0, 36, .inl t8.2.2.2.2.2.2.2.2.2.2.2.2.2.2.2.2.2.2.1)) := k1_13
              replace k1_14 : hp1 (v + 12) = some (.inl (kC E 0, 36, .inl t8.2.2.2.2.2.2.2.2.2.2.2.2.2.2.2.2.2.2.2)) := k1_14
              refine A_st (st' := [.int t8.1]) rfl ?_
              cases h
              exact A_iretX X dL_acts_178 hr ⟨rfl, k1_0, ((n1 _ (by omega) (by omega) (by omega) (by omega) (by omega) (by omega) (by omega) (by omega) (by omega) (by omega) (by omega) (by omega) (by omega) (by omega) (by omega)).trans g6), ((n1 _ (by omega) (by omega) (by omega) (by omega) (by omega) (by omega) (by omega) (by omega) (by omega) (by omega) (by omega) (by omega) (by omega) (by omega) (by omega)).trans g10), ((n1 _ (by omega) (by omega) (by omega) (by omega) (by omega) (by omega) (by omega) (by omega) (by omega) (by omega) (by omega) (by omega) (by omega) (by omega) (by omega)).trans g11), ((n1 _ (by omega) (by omega) (by omega) (by omega) (by omega) (by omega) (by omega) (by omega) (by omega) (by omega) (by omega) (by omega) (by omega) (by omega) (by omega)).trans g12), ((n1 _ (by omega) (by omega) (by omega) (by omega) (by omega) (by omega) (by omega) (by omega) (by omega) (by omega) (by omega) (by omega) (by omega) (by omega) (by omega)).trans g13), ((n1 _ (by omega) (by omega) (by omega) (by omega) (by omega) (by omega) (by omega) (by omega) (by omega) (by omega) (by omega) (by omega) (by omega) (by omega) (by omega)).trans g14), ((n1 _ (by omega) (by omega) (by omega) (by omega) (by omega) (by omega) (by omega) (by omega) (by omega) (by omega) (by omega) (by omega) (by omega) (by omega) (by omega)).trans g15), k1_1, k1_2, k1_3, k1_4, k1_5, k1_6, k1_7, k1_8, k1_9, k1_10, k1_11, k1_12, k1_13, k1_14, (fun q z0 z1 z2 z3 z4 z5 z6 z7 z8 z9 z10 z11 z12 z13 z14 z15 z16 z17 z18 z19 z20 z21 => (n1 q z0 z8 z9 z10 z11 z12 z13 z14 z15 z16 z17 z18 z19 z20 z21)), rfl⟩ (Nat.le_of_ble_eq_true rfl) (Nat.le_of_ble_eq_true rfl)
