/-! the law's loop and its entry (printed by wip/whole/gen80.py) -/
theorem A_xlen {E : KE} {p : Program} {l : Launch} {e : Env} {R : Room} {s : State} {m : MethodId} {args : Array Value} {below : List Frame} {meth : Method} {c : Code} {Q : State → Prop} {own : String} {cc : ByteArray} {nL : Nat} {hp : Hp} {al : Option Nat} {k n pc : Nat} {L : List (Nat × Value)} {st : List Value} {b L9 : Nat} {xs : Nat → Int32} (X : CX E p l s m args meth c own cc nL) (hX : va_X b L9 xs s s.heap) (hbl : b < s.heap.size) (hbA : ¬ kA E b) (hd : decode cc pc = .ok (.arraylength, 1)) (K : AW E p l e R s m args below meth c nL Q hp al k n (pc + 1) L (.int (nI L9) :: st)) : AW E p l e R s m args below meth c nL Q hp al k n pc L (.ref b :: st) := fun H locs ls h1 h2 h3 h4 => va_slen X.1 X.2.1 hX hbl hbA h3 hd (K H locs ls h1 h2 h3 h4)
theorem A_tbl {E : KE} {p : Program} {l : Launch} {e : Env} {R : Room} {s : State} {m : MethodId} {args : Array Value} {below : List Frame} {meth : Method} {c : Code} {Q : State → Prop} {own : String} {cc : ByteArray} {nL : Nat} {hp : Hp} {al : Option Nat} {k n pc : Nat} {L : List (Nat × Value)} {st : List Value} {dflt lo hi : Int} {offs : Array Int} {len : Nat} {x : Int32} {off : Int} {tgt : Nat} (X : CX E p l s m args meth c own cc nL) (hd : decode cc pc = .ok (.tableswitch dflt lo hi offs, len)) (q1 : ¬ x.toInt < lo) (q2 : ¬ hi < x.toInt) (ho : offs[(x.toInt - lo).toNat]? = some off) (ht : (pc : Int) + off = (tgt : Int)) (K : AW E p l e R s m args below meth c nL Q hp al k n tgt L st) : AW E p l e R s m args below meth c nL Q hp al k n pc L (.int x :: st) := fun H locs ls h1 h2 h3 h4 => lv_tableIn X.1 X.2.1 hd q1 q2 ho ht (K H locs ls h1 h2 h3 h4)
theorem and63 (x : Int32) : ∃ k, k < 64 ∧ x &&& 63 = nI k := by
  refine ⟨(x.toBitVec &&& 63#32).toNat, ?_, ?_⟩
  · rw [BitVec.toNat_and]
    exact Nat.lt_of_le_of_lt Nat.and_le_right (by decide)
  · refine Int32.toBitVec_inj.mp ?_
    show x.toBitVec &&& 63#32 = BitVec.ofNat 32 (x.toBitVec &&& 63#32).toNat
    rw [BitVec.ofNat_toNat, BitVec.setWidth_eq]
theorem gt6 {a i : Nat} (ha : a ≤ 3072) (hi : i ≤ 6000) : nI a - 6 < nI i ↔ a < i + 6 := by
  rw [Int32.lt_iff_toInt_lt, Int32.toInt_sub, nI_toInt (by omega), nI_toInt (by omega), show (6 : Int32).toInt = 6 from rfl, Int.bmod_eq_of_le (by omega) (by omega)]
  omega
set_option maxRecDepth 100000 in
set_option maxHeartbeats 8000000 in
theorem law_loop {E : KE} {p : Program} {l : Launch} {e : Env} {s : State} {m : MethodId} {b L9 : Nat} {xs : Nat → Int32} {below : List Frame} {meth : Method} {c : Code} {Q : State → Prop} {x y o od : Nat} (hL : L9 ≤ 3072) (X : CX E p l s m #[Value.ref b] meth c "DiceAuditLaw" cL_law 10) (hX : va_X b L9 xs s s.heap) (hbl : b < s.heap.size) (hbA : ¬ kA E b) (hy : y = x + 169) (ho : o = x + 178) (hod : od = x + 179) (F : ∀ {hp : Hp} {k n : Nat} {l5 : Int32}, k ≤ 601024 → n ≤ 7293034 → AW E p l e room_1 s m #[Value.ref b] below meth c 10 Q hp none k n 3413 [(0, .ref b), (1, .ref x), (2, .ref y), (3, .ref o), (4, .ref od), (5, .int l5)] []) :
    ∀ (r i : Nat) (hp : Hp) (k n : Nat), L9 < i + 6 * (r + 1) → i + 6 * r ≤ 6000 → k + 8 * r ≤ 601024 → n + 48 * r ≤ 7293034 → MX E x y o od hp → AW E p l e room_1 s m #[Value.ref b] below meth c 10 Q hp none k n 28 [(0, .ref b), (1, .ref x), (2, .ref y), (3, .ref o), (4, .ref od), (5, .int (nI i))] [] := by
  intro r
  induction r with
  | zero =>
    intro i hp k n h1 h2 hk hn hM
    refine A_iload X dL_law_28 5 rfl ?_
    refine A_aload_n X dL_law_30 0 rfl ?_
    refine A_xlen X hX hbl hbA dL_law_31 ?_
    refine A_bipush (v := 6) X dL_law_32 (by decide) ?_
    refine A_isub X dL_law_34 ?_
    exact A_icmp_gt_t (tgt := 3413) X dL_law_35 ((gt6 hL (by omega)).mpr (by omega)) (by decide) (F (by omega) (by omega))
  | succ r ih =>
    intro i hp k n h1 h2 hk hn hM
    refine A_iload X dL_law_28 5 rfl ?_
    refine A_aload_n X dL_law_30 0 rfl ?_
    refine A_xlen X hX hbl hbA dL_law_31 ?_
    refine A_bipush (v := 6) X dL_law_32 (by decide) ?_
    refine A_isub X dL_law_34 ?_
    by_cases hc : L9 < i + 6
    · exact A_icmp_gt_t (tgt := 3413) X dL_law_35 ((gt6 hL (by omega)).mpr hc) (by decide) (F (by omega) (by omega))
    refine A_icmp_gt_f (tgt := 3413) X dL_law_35 (fun h => hc ((gt6 hL (by omega)).mp h)) (by decide) ?_
    have hi0 : vp_in (nI i) L9 := vp_in_nI (by omega) (by omega)
    have hi1 : vp_in (nI i + 1) L9 := by rw [show nI i + 1 = nI (i + 1) from nI_add i 1]; exact vp_in_nI (by omega) (by omega)
    have hi2 : vp_in (nI i + 2) L9 := by rw [show nI i + 2 = nI (i + 2) from nI_add i 2]; exact vp_in_nI (by omega) (by omega)
    have hi3 : vp_in (nI i + 3) L9 := by rw [show nI i + 3 = nI (i + 3) from nI_add i 3]; exact vp_in_nI (by omega) (by omega)
    have hi4 : vp_in (nI i + 4) L9 := by rw [show nI i + 4 = nI (i + 4) from nI_add i 4]; exact vp_in_nI (by omega) (by omega)
    have hi5 : vp_in (nI i + 5) L9 := by rw [show nI i + 5 = nI (i + 5) from nI_add i 5]; exact vp_in_nI (by omega) (by omega)
    refine A_aload_n X dL_law_38 0 rfl ?_
    refine A_iload X dL_law_39 5 rfl ?_
    refine A_sld X hX hbl hbA hi0 dL_law_41 ?_
    refine A_bipush (v := 63) X dL_law_42 (by decide) ?_
    refine A_iand X dL_law_44 ?_
    obtain ⟨kk, hk64, hkk⟩ := and63 (xs (nI i).toNatClampNeg)
    refine A_st (st' := [.int (nI kk)]) (by rw [hkk]) ?_
    have hRk : k + 8 ≤ room_1.cells := by show k + 8 ≤ 601024; omega
    have hRn : n + 48 ≤ room_1.slots := by show n + 48 ≤ 7293034; omega
    have K : ∀ {hp' : Hp}, MX E x y o od hp' → AW E p l e room_1 s m #[Value.ref b] below meth c 10 Q hp' none (k + 8) (n + 48) 3407 [(0, .ref b), (1, .ref x), (2, .ref y), (3, .ref o), (4, .ref od), (5, .int (nI i))] [] := fun {hp'} hM' => by
      refine A_iinc (j := 5) (v := nI (i + 6)) (L' := [(5, .int (nI (i + 6))), (0, .ref b), (1, .ref x), (2, .ref y), (3, .ref o), (4, .ref od)]) X dL_law_3407 rfl (nI_add i 6) (by decide) rfl ?_
      refine A_goto (tgt := 28) X dL_law_3410 (by decide) ?_
      exact A_sub [1, 2, 3, 4, 5, 0] rfl (ih (i + 6) hp' (k + 8) (n + 48) (by omega) (by omega) (by omega) (by omega) hM')
    clear ih F h1 h2
    match kk, hk64 with
    | 0, _ => exact A_tbl (tgt := 316) (off := 271) X dL_law_45 (by decide +kernel) (by decide +kernel) (by decide +kernel) (by decide) (e_0 X hX hbl hbA hi1 hi2 hi3 hi4 hi5 hRk hRn hy ho hod hM K)
    | 1, _ => exact A_tbl (tgt := 420) (off := 375) X dL_law_45 (by decide +kernel) (by decide +kernel) (by decide +kernel) (by decide) (e_1 X hX hbl hbA hi1 hi2 hi3 hi4 hi5 hRk hRn hy ho hod hM K)
    | 2, _ => exact A_tbl (tgt := 476) (off := 431) X dL_law_45 (by decide +kernel) (by decide +kernel) (by decide +kernel) (by decide) (e_2 X hX hbl hbA hi1 hi2 hi3 hi4 hi5 hRk hRn hy ho hod hM K)
    | 3, _ => exact A_tbl (tgt := 520) (off := 475) X dL_law_45 (by decide +kernel) (by decide +kernel) (by decide +kernel) (by decide) (e_3 X hX hbl hbA hi1 hi2 hi3 hi4 hi5 hRk hRn hy ho hod hM K)
    | 4, _ => exact A_tbl (tgt := 533) (off := 488) X dL_law_45 (by decide +kernel) (by decide +kernel) (by decide +kernel) (by decide) (e_4 X hX hbl hbA hi1 hi2 hi3 hi4 hi5 hRk hRn hy ho hod hM K)
    | 5, _ => exact A_tbl (tgt := 546) (off := 501) X dL_law_45 (by decide +kernel) (by decide +kernel) (by decide +kernel) (by decide) (e_5 X hX hbl hbA hi1 hi2 hi3 hi4 hi5 hRk hRn hy ho hod hM K)
    | 6, _ => exact A_tbl (tgt := 559) (off := 514) X dL_law_45 (by decide +kernel) (by decide +kernel) (by decide +kernel) (by decide) (e_6 X hX hbl hbA hi1 hi2 hi3 hi4 hi5 hRk hRn hy ho hod hM K)
    | 7, _ => exact A_tbl (tgt := 572) (off := 527) X dL_law_45 (by decide +kernel) (by decide +kernel) (by decide +kernel) (by decide) (e_7 X hX hbl hbA hi1 hi2 hi3 hi4 hi5 hRk hRn hy ho hod hM K)
    | 8, _ => exact A_tbl (tgt := 585) (off := 540) X dL_law_45 (by decide +kernel) (by decide +kernel) (by decide +kernel) (by decide) (e_8 X hX hbl hbA hi1 hi2 hi3 hi4 hi5 hRk hRn hy ho hod hM K)
    | 9, _ => exact A_tbl (tgt := 598) (off := 553) X dL_law_45 (by decide +kernel) (by decide +kernel) (by decide +kernel) (by decide) (e_9 X hX hbl hbA hi1 hi2 hi3 hi4 hi5 hRk hRn hy ho hod hM K)
    | 10, _ => exact A_tbl (tgt := 611) (off := 566) X dL_law_45 (by decide +kernel) (by decide +kernel) (by decide +kernel) (by decide) (e_10 X hX hbl hbA hi1 hi2 hi3 hi4 hi5 hRk hRn hy ho hod hM K)
    | 11, _ => exact A_tbl (tgt := 624) (off := 579) X dL_law_45 (by decide +kernel) (by decide +kernel) (by decide +kernel) (by decide) (e_11 X hX hbl hbA hi1 hi2 hi3 hi4 hi5 hRk hRn hy ho hod hM K)
    | 12, _ => exact A_tbl (tgt := 680) (off := 635) X dL_law_45 (by decide +kernel) (by decide +kernel) (by decide +kernel) (by decide) (e_12 X hX hbl hbA hi1 hi2 hi3 hi4 hi5 hRk hRn hy ho hod hM K)
    | 13, _ => exact A_tbl (tgt := 748) (off := 703) X dL_law_45 (by decide +kernel) (by decide +kernel) (by decide +kernel) (by decide) (e_13 X hX hbl hbA hi1 hi2 hi3 hi4 hi5 hRk hRn hy ho hod hM K)
    | 14, _ => exact A_tbl (tgt := 811) (off := 766) X dL_law_45 (by decide +kernel) (by decide +kernel) (by decide +kernel) (by decide) (e_14 X hX hbl hbA hi1 hi2 hi3 hi4 hi5 hRk hRn hy ho hod hM K)
    | 15, _ => exact A_tbl (tgt := 867) (off := 822) X dL_law_45 (by decide +kernel) (by decide +kernel) (by decide +kernel) (by decide) (e_15 X hX hbl hbA hi1 hi2 hi3 hi4 hi5 hRk hRn hy ho hod hM K)
    | 16, _ => exact A_tbl (tgt := 935) (off := 890) X dL_law_45 (by decide +kernel) (by decide +kernel) (by decide +kernel) (by decide) (e_16 X hX hbl hbA hi1 hi2 hi3 hi4 hi5 hRk hRn hy ho hod hM K)
    | 17, _ => exact A_tbl (tgt := 991) (off := 946) X dL_law_45 (by decide +kernel) (by decide +kernel) (by decide +kernel) (by decide) (e_17 X hX hbl hbA hi1 hi2 hi3 hi4 hi5 hRk hRn hy ho hod hM K)
    | 18, _ => exact A_tbl (tgt := 1047) (off := 1002) X dL_law_45 (by decide +kernel) (by decide +kernel) (by decide +kernel) (by decide) (e_18 X hX hbl hbA hi1 hi2 hi3 hi4 hi5 hRk hRn hy ho hod hM K)
    | 19, _ => exact A_tbl (tgt := 1103) (off := 1058) X dL_law_45 (by decide +kernel) (by decide +kernel) (by decide +kernel) (by decide) (e_19 X hX hbl hbA hi1 hi2 hi3 hi4 hi5 hRk hRn hy ho hod hM K)
    | 20, _ => exact A_tbl (tgt := 1166) (off := 1121) X dL_law_45 (by decide +kernel) (by decide +kernel) (by decide +kernel) (by decide) (e_20 X hX hbl hbA hi1 hi2 hi3 hi4 hi5 hRk hRn hy ho hod hM K)
    | 21, _ => exact A_tbl (tgt := 1222) (off := 1177) X dL_law_45 (by decide +kernel) (by decide +kernel) (by decide +kernel) (by decide) (e_21 X hX hbl hbA hi1 hi2 hi3 hi4 hi5 hRk hRn hy ho hod hM K)
    | 22, _ => exact A_tbl (tgt := 1278) (off := 1233) X dL_law_45 (by decide +kernel) (by decide +kernel) (by decide +kernel) (by decide) (e_22 X hX hbl hbA hi1 hi2 hi3 hi4 hi5 hRk hRn hy ho hod hM K)
    | 23, _ => exact A_tbl (tgt := 1355) (off := 1310) X dL_law_45 (by decide +kernel) (by decide +kernel) (by decide +kernel) (by decide) (e_23 X hX hbl hbA hi1 hi2 hi3 hi4 hi5 hRk hRn hy ho hod hM K)
    | 24, _ => exact A_tbl (tgt := 1411) (off := 1366) X dL_law_45 (by decide +kernel) (by decide +kernel) (by decide +kernel) (by decide) (e_24 X hX hbl hbA hi1 hi2 hi3 hi4 hi5 hRk hRn hy ho hod hM K)
    | 25, _ => exact A_tbl (tgt := 1467) (off := 1422) X dL_law_45 (by decide +kernel) (by decide +kernel) (by decide +kernel) (by decide) (e_25 X hX hbl hbA hi1 hi2 hi3 hi4 hi5 hRk hRn hy ho hod hM K)
    | 26, _ => exact A_tbl (tgt := 1523) (off := 1478) X dL_law_45 (by decide +kernel) (by decide +kernel) (by decide +kernel) (by decide) (e_26 X hX hbl hbA hi1 hi2 hi3 hi4 hi5 hRk hRn hy ho hod hM K)
    | 27, _ => exact A_tbl (tgt := 1536) (off := 1491) X dL_law_45 (by decide +kernel) (by decide +kernel) (by decide +kernel) (by decide) (e_27 X hX hbl hbA hi1 hi2 hi3 hi4 hi5 hRk hRn hy ho hod hM K)
    | 28, _ => exact A_tbl (tgt := 1604) (off := 1559) X dL_law_45 (by decide +kernel) (by decide +kernel) (by decide +kernel) (by decide) (e_28 X hX hbl hbA hi1 hi2 hi3 hi4 hi5 hRk hRn hy ho hod hM K)
    | 29, _ => exact A_tbl (tgt := 1684) (off := 1639) X dL_law_45 (by decide +kernel) (by decide +kernel) (by decide +kernel) (by decide) (e_29 X hX hbl hbA hi1 hi2 hi3 hi4 hi5 hRk hRn hy ho hod hM K)
    | 30, _ => exact A_tbl (tgt := 1752) (off := 1707) X dL_law_45 (by decide +kernel) (by decide +kernel) (by decide +kernel) (by decide) (e_30 X hX hbl hbA hi1 hi2 hi3 hi4 hi5 hRk hRn hy ho hod hM K)
    | 31, _ => exact A_tbl (tgt := 1820) (off := 1775) X dL_law_45 (by decide +kernel) (by decide +kernel) (by decide +kernel) (by decide) (e_31 X hX hbl hbA hi1 hi2 hi3 hi4 hi5 hRk hRn hy ho hod hM K)
    | 32, _ => exact A_tbl (tgt := 1888) (off := 1843) X dL_law_45 (by decide +kernel) (by decide +kernel) (by decide +kernel) (by decide) (e_32 X hX hbl hbA hi1 hi2 hi3 hi4 hi5 hRk hRn hy ho hod hM K)
    | 33, _ => exact A_tbl (tgt := 1956) (off := 1911) X dL_law_45 (by decide +kernel) (by decide +kernel) (by decide +kernel) (by decide) (e_33 X hX hbl hbA hi1 hi2 hi3 hi4 hi5 hRk hRn hy ho hod hM K)
    | 34, _ => exact A_tbl (tgt := 2031) (off := 1986) X dL_law_45 (by decide +kernel) (by decide +kernel) (by decide +kernel) (by decide) (e_34 X hX hbl hbA hi1 hi2 hi3 hi4 hi5 hRk hRn hy ho hod hM K)
    | 35, _ => exact A_tbl (tgt := 2044) (off := 1999) X dL_law_45 (by decide +kernel) (by decide +kernel) (by decide +kernel) (by decide) (e_35 X hX hbl hbA hi1 hi2 hi3 hi4 hi5 hRk hRn hy ho hod hM K)
    | 36, _ => exact A_tbl (tgt := 2057) (off := 2012) X dL_law_45 (by decide +kernel) (by decide +kernel) (by decide +kernel) (by decide) (e_36 X hX hbl hbA hi1 hi2 hi3 hi4 hi5 hRk hRn hy ho hod hM K)
    | 37, _ => exact A_tbl (tgt := 2070) (off := 2025) X dL_law_45 (by decide +kernel) (by decide +kernel) (by decide +kernel) (by decide) (e_37 X hX hbl hbA hi1 hi2 hi3 hi4 hi5 hRk hRn hy ho hod hM K)
    | 38, _ => exact A_tbl (tgt := 2126) (off := 2081) X dL_law_45 (by decide +kernel) (by decide +kernel) (by decide +kernel) (by decide) (e_38 X hX hbl hbA hi1 hi2 hi3 hi4 hi5 hRk hRn hy ho hod hM K)
    | 39, _ => exact A_tbl (tgt := 2182) (off := 2137) X dL_law_45 (by decide +kernel) (by decide +kernel) (by decide +kernel) (by decide) (e_39 X hX hbl hbA hi1 hi2 hi3 hi4 hi5 hRk hRn hy ho hod hM K)
    | 40, _ => exact A_tbl (tgt := 2238) (off := 2193) X dL_law_45 (by decide +kernel) (by decide +kernel) (by decide +kernel) (by decide) (e_40 X hX hbl hbA hi1 hi2 hi3 hi4 hi5 hRk hRn hy ho hod hM K)
    | 41, _ => exact A_tbl (tgt := 2294) (off := 2249) X dL_law_45 (by decide +kernel) (by decide +kernel) (by decide +kernel) (by decide) (e_41 X hX hbl hbA hi1 hi2 hi3 hi4 hi5 hRk hRn hy ho hod hM K)
    | 42, _ => exact A_tbl (tgt := 2350) (off := 2305) X dL_law_45 (by decide +kernel) (by decide +kernel) (by decide +kernel) (by decide) (e_42 X hX hbl hbA hi1 hi2 hi3 hi4 hi5 hRk hRn hy ho hod hM K)
    | 43, _ => exact A_tbl (tgt := 2418) (off := 2373) X dL_law_45 (by decide +kernel) (by decide +kernel) (by decide +kernel) (by decide) (e_43 X hX hbl hbA hi1 hi2 hi3 hi4 hi5 hRk hRn hy ho hod hM K)
    | 44, _ => exact A_tbl (tgt := 2486) (off := 2441) X dL_law_45 (by decide +kernel) (by decide +kernel) (by decide +kernel) (by decide) (e_44 X hX hbl hbA hi1 hi2 hi3 hi4 hi5 hRk hRn hy ho hod hM K)
    | 45, _ => exact A_tbl (tgt := 2566) (off := 2521) X dL_law_45 (by decide +kernel) (by decide +kernel) (by decide +kernel) (by decide) (e_45 X hX hbl hbA hi1 hi2 hi3 hi4 hi5 hRk hRn hy ho hod hM K)
    | 46, _ => exact A_tbl (tgt := 2634) (off := 2589) X dL_law_45 (by decide +kernel) (by decide +kernel) (by decide +kernel) (by decide) (e_46 X hX hbl hbA hi1 hi2 hi3 hi4 hi5 hRk hRn hy ho hod hM K)
    | 47, _ => exact A_tbl (tgt := 2647) (off := 2602) X dL_law_45 (by decide +kernel) (by decide +kernel) (by decide +kernel) (by decide) (e_47 X hX hbl hbA hi1 hi2 hi3 hi4 hi5 hRk hRn hy ho hod hM K)
    | 48, _ => exact A_tbl (tgt := 2660) (off := 2615) X dL_law_45 (by decide +kernel) (by decide +kernel) (by decide +kernel) (by decide) (e_48 X hX hbl hbA hi1 hi2 hi3 hi4 hi5 hRk hRn hy ho hod hM K)
    | 49, _ => exact A_tbl (tgt := 2673) (off := 2628) X dL_law_45 (by decide +kernel) (by decide +kernel) (by decide +kernel) (by decide) (e_49 X hX hbl hbA hi1 hi2 hi3 hi4 hi5 hRk hRn hy ho hod hM K)
    | 50, _ => exact A_tbl (tgt := 2716) (off := 2671) X dL_law_45 (by decide +kernel) (by decide +kernel) (by decide +kernel) (by decide) (e_50 X hX hbl hbA hi1 hi2 hi3 hi4 hi5 hRk hRn hy ho hod hM K)
    | 51, _ => exact A_tbl (tgt := 2796) (off := 2751) X dL_law_45 (by decide +kernel) (by decide +kernel) (by decide +kernel) (by decide) (e_51 X hX hbl hbA hi1 hi2 hi3 hi4 hi5 hRk hRn hy ho hod hM K)
    | 52, _ => exact A_tbl (tgt := 2809) (off := 2764) X dL_law_45 (by decide +kernel) (by decide +kernel) (by decide +kernel) (by decide) (e_52 X hX hbl hbA hi1 hi2 hi3 hi4 hi5 hRk hRn hy ho hod hM K)
    | 53, _ => exact A_tbl (tgt := 2853) (off := 2808) X dL_law_45 (by decide +kernel) (by decide +kernel) (by decide +kernel) (by decide) (e_53 X hX hbl hbA hi1 hi2 hi3 hi4 hi5 hRk hRn hy ho hod hM K)
    | 54, _ => exact A_tbl (tgt := 2909) (off := 2864) X dL_law_45 (by decide +kernel) (by decide +kernel) (by decide +kernel) (by decide) (e_54 X hX hbl hbA hi1 hi2 hi3 hi4 hi5 hRk hRn hy ho hod hM K)
    | 55, _ => exact A_tbl (tgt := 2989) (off := 2944) X dL_law_45 (by decide +kernel) (by decide +kernel) (by decide +kernel) (by decide) (e_55 X hX hbl hbA hi1 hi2 hi3 hi4 hi5 hRk hRn hy ho hod hM K)
    | 56, _ => exact A_tbl (tgt := 3045) (off := 3000) X dL_law_45 (by decide +kernel) (by decide +kernel) (by decide +kernel) (by decide) (e_56 X hX hbl hbA hi1 hi2 hi3 hi4 hi5 hRk hRn hy ho hod hM K)
    | 57, _ => exact A_tbl (tgt := 3113) (off := 3068) X dL_law_45 (by decide +kernel) (by decide +kernel) (by decide +kernel) (by decide) (e_57 X hX hbl hbA hi1 hi2 hi3 hi4 hi5 hRk hRn hy ho hod hM K)
    | 58, _ => exact A_tbl (tgt := 3126) (off := 3081) X dL_law_45 (by decide +kernel) (by decide +kernel) (by decide +kernel) (by decide) (e_58 X hX hbl hbA hi1 hi2 hi3 hi4 hi5 hRk hRn hy ho hod hM K)
    | 59, _ => exact A_tbl (tgt := 3182) (off := 3137) X dL_law_45 (by decide +kernel) (by decide +kernel) (by decide +kernel) (by decide) (e_59 X hX hbl hbA hi1 hi2 hi3 hi4 hi5 hRk hRn hy ho hod hM K)
    | 60, _ => exact A_tbl (tgt := 3238) (off := 3193) X dL_law_45 (by decide +kernel) (by decide +kernel) (by decide +kernel) (by decide) (e_60 X hX hbl hbA hi1 hi2 hi3 hi4 hi5 hRk hRn hy ho hod hM K)
    | 61, _ => exact A_tbl (tgt := 3294) (off := 3249) X dL_law_45 (by decide +kernel) (by decide +kernel) (by decide +kernel) (by decide) (e_61 X hX hbl hbA hi1 hi2 hi3 hi4 hi5 hRk hRn hy ho hod hM K)
    | 62, _ => exact A_tbl (tgt := 3350) (off := 3305) X dL_law_45 (by decide +kernel) (by decide +kernel) (by decide +kernel) (by decide) (e_62 X hX hbl hbA hi1 hi2 hi3 hi4 hi5 hRk hRn hy ho hod hM K)
    | 63, _ => exact A_tbl (tgt := 3394) (off := 3349) X dL_law_45 (by decide +kernel) (by decide +kernel) (by decide +kernel) (by decide) (e_63 X hX hbl hbA hi1 hi2 hi3 hi4 hi5 hRk hRn hy ho hod hM K)
    | kk + 64, hk64 => exact absurd hk64 (by omega)
