set_option maxRecDepth 100000 in
set_option maxHeartbeats 8000000 in
theorem w_entry {E : KE} {p : Program} {l : Launch} {e : Env} {s : State} {m : MethodId} {b L9 : Nat} {xs : Nat → Int32} {below : List Frame} {meth : Method} {c : Code} {Q : State → Prop} {x : Nat} (hL : L9 ≤ 3072) (X : CX E p l s m #[Value.ref b] meth c "DiceAuditLaw" cL_law 10) (hX : va_X b L9 xs s s.heap) (hbl : b < s.heap.size) (hbA : ¬ kA E b) (F : ∀ {hp : Hp} {k n x y o od : Nat} {l5 : Int32}, k ≤ 601024 → n ≤ 7293034 → AW E p l e room_1 s m #[Value.ref b] below meth c 10 Q hp none k n 3413 [(0, .ref b), (1, .ref x), (2, .ref y), (3, .ref o), (4, .ref od), (5, .int l5)] []) : AW E p l e room_1 s m #[Value.ref b] below meth c 10 Q (fun _ => none) (some x) 0 0 0 [(0, .ref b)] [] := by
  obtain ⟨tb, fl, ec, eo, sd, mn, th, dc, fc, dw, pc, ln, lt, tc, en, fr, oc, op, os, kd, ts, te, tv, t4, mi, a, po, st, tk, vl, lw, pl, mm, oo, u3, h1, h2, h3, h4, h5, h6, hR, hZ, hep⟩ := i_all
  have hcut : f_X8_cutTo (nI 134) 0 = some 0 := by unfold f_X8_cutTo; rfl
  refine A_new (z := x) (fs := [.null, .null, .null, .null, .null, .null, .null, .null]) X dL_law_0 kcl_X10 kw_27 kw_28 kw_1 (fun j hj => by match j, hj with | 0, _ => rfl | 1, _ => rfl | 2, _ => rfl | 3, _ => rfl | 4, _ => rfl | 5, _ => rfl | 6, _ => rfl | 7, _ => rfl | j + 8, hj => exact absurd hj (by omega)) (Nat.le_of_ble_eq_true rfl) (Nat.le_of_ble_eq_true rfl) (fun hp1 (k1 : hp1 x = some (.inr (10, [.null, .null, .null, .null, .null, .null, .null, .null]))) n1 => ?_)
  refine A_dup X dL_law_3 rfl ?_
  refine A_c (k' := 169) (n' := 13024) rfl rfl (A_runI (rest := [.ref x]) X dL_law_4 (c_X10_init (N := 3000) (x := x) k1 (t1 := (nI 134, tb)) h1 (t2 := (fl, ec, eo, sd, mn, th, dc, fc, dw, pc, ln, lt, tc, en, fr, oc, op, os, kd, ts, te, tv)) h2 (t3 := 0) hcut (t4 := t4) h3) kY_X10_init kw_29 ⟨(Nat.le_of_ble_eq_true rfl), (Nat.le_of_ble_eq_true rfl), (Nat.le_of_ble_eq_true rfl), (Nat.le_of_ble_eq_true rfl)⟩ rfl (Nat.le_of_ble_eq_true rfl)) (fun v9 hp2 al9 hP => ?_)
  obtain rfl : v9 = none := hP.1
  obtain rfl : some (x + 169) = al9 := hP.2.2.2.2.2.2.2.2.2.2.2.2.2.2.2.2.2.2.2.2.2.2.2.2.2.2.2.2.2.2.2.2.2.2.2.2.2.2.2.2.2.2.2.2.2.2.2.2.2.2.2.2.2.2.2.2.2.2.2.2.2.2.2.2.2.2.2.2.2.2.2.2.2.2.2.2.2.2.2.2.2.2.2.2.2.2.2.2.2.2.2.2.2.2.2.2.2.2.2.2.2.2.2.2.2.2.2.2.2.2.2.2.2.2.2.2.2.2.2.2.2.2.2.2.2.2.2.2.2.2.2.2.2.2.2.2.2.2.2.2.2.2.2.2.2.2.2.2.2.2.2.2.2.2.2.2.2.2.2.2.2.2.2.2.2.2.2.2.2.2.2
  refine A_st (st' := [.ref x]) rfl ?_
  refine A_astore_n (i := 1) (L' := [(1, .ref x), (0, .ref b)]) X dL_law_7 rfl (by decide) rfl ?_
  refine A_new (z := x + 169) (fs := [.null, .null, .null, .null, .null, .int 0, .int 0, .int 0, .null, .int 0, .null, .int 0, .int 0, .int 0, .int 0, .int 0, .int 0, .int 0, .int 0, .null, .int 0]) X dL_law_8 kcl_X11 kw_1405 kw_1406 kw_19 (fun j hj => by match j, hj with | 0, _ => rfl | 1, _ => rfl | 2, _ => rfl | 3, _ => rfl | 4, _ => rfl | 5, _ => rfl | 6, _ => rfl | 7, _ => rfl | 8, _ => rfl | 9, _ => rfl | 10, _ => rfl | 11, _ => rfl | 12, _ => rfl | 13, _ => rfl | 14, _ => rfl | 15, _ => rfl | 16, _ => rfl | 17, _ => rfl | 18, _ => rfl | 19, _ => rfl | 20, _ => rfl | j + 21, hj => exact absurd hj (by omega)) (Nat.le_of_ble_eq_true rfl) (Nat.le_of_ble_eq_true rfl) (fun hp3 (k3 : hp3 (x + 169) = some (.inr (11, [.null, .null, .null, .null, .null, .int 0, .int 0, .int 0, .null, .int 0, .null, .int 0, .int 0, .int 0, .int 0, .int 0, .int 0, .int 0, .int 0, .null, .int 0]))) n3 => ?_)
  refine A_dup X dL_law_11 rfl ?_
  refine A_c (k' := 178) (n' := 31448) rfl rfl (A_runI (rest := [.ref (x + 169)]) X dL_law_12 (c_X11_init (N := 3000) (y := x + 169) k3 (t1 := (nI 134, mi)) h4 (t2 := (a, po, st, tk, vl, lw, ec, pl, mm, oo)) h5 (t3 := u3) h6) kY_X11_init kw_1407 ⟨(Nat.le_of_ble_eq_true rfl), (Nat.le_of_ble_eq_true rfl), (Nat.le_of_ble_eq_true rfl), (Nat.le_of_ble_eq_true rfl)⟩ rfl (Nat.le_of_ble_eq_true rfl)) (fun v9 hp4 al9 hM => ?_)
  obtain rfl : v9 = none := hM.1
  obtain rfl : some (x + 169 + 9) = al9 := hM.2.2.2.2.2.2.2.2.2.2.2
  refine A_st (st' := [.ref (x + 169)]) rfl ?_
  refine A_astore_n (i := 2) (L' := [(2, .ref (x + 169)), (1, .ref x), (0, .ref b)]) X dL_law_15 rfl (by decide) rfl ?_
  refine A_iconst (v := 1) X dL_law_16 (by decide) ?_
  refine A_newl (z := x + 178) (N := 1) X dL_law_17 kw_2015 (by decide) (by decide) (by decide) (Nat.le_of_ble_eq_true rfl) (Nat.le_of_ble_eq_true rfl) (fun hp5 k5 n5 => ?_)
  refine A_astore_n (i := 3) (L' := [(3, .ref (x + 178)), (2, .ref (x + 169)), (1, .ref x), (0, .ref b)]) X dL_law_19 rfl (by decide) rfl ?_
  refine A_iconst (v := 1) X dL_law_20 (by decide) ?_
  refine A_newd (z := x + 179) (N := 1) X dL_law_21 kw_2016 (by decide) (by decide) (by decide) (Nat.le_of_ble_eq_true rfl) (Nat.le_of_ble_eq_true rfl) (fun hp6 k6 n6 => ?_)
  refine A_astore (L' := [(4, .ref (x + 179)), (3, .ref (x + 178)), (2, .ref (x + 169)), (1, .ref x), (0, .ref b)]) X dL_law_23 (by decide) rfl ?_
  refine A_iconst (v := 0) X dL_law_25 (by decide) ?_
  refine A_istore (L' := [(5, .int 0), (4, .ref (x + 179)), (3, .ref (x + 178)), (2, .ref (x + 169)), (1, .ref x), (0, .ref b)]) X dL_law_26 (by decide) rfl ?_
  refine A_sub (L' := [(0, .ref b), (1, .ref x), (2, .ref (x + 169)), (3, .ref (x + 178)), (4, .ref (x + 179)), (5, .int (nI 0))]) [5, 4, 3, 2, 1, 0] rfl ?_
  have fA : ∀ q, q < x + 169 → hp6 q = hp2 q := fun q hq => (n6 q (by omega)).trans ((n5 q (by omega)).trans ((hM.2.2.2.2.2.2.2.2.2.2.1 q (by omega)).trans (n3 q (by omega))))
  have fB : ∀ q, x + 169 ≤ q → q < x + 178 → hp6 q = hp4 q := fun q h1 h2 => (n6 q (by omega)).trans (n5 q (by omega))
  have k5' : hp6 (x + 178) = some (.inl (kC E 1, 1, .inr (.inl (fun _ => 0)))) := (n6 _ (by omega)).trans k5
  have hsr := (fA (x + 124) (by omega)).trans hP.2.2.2.2.2.2.2.2.2.2.2.2.2.2.2.2.2.2.2.2.2.2.2.2.2.2.2.2.2.2.2.2.2.2.2.2.2.2.2.2.2.2.2.2.2.2.2.2.2.2.2.2.2.2.2.2.2.2.2.2.2.2.2.2.2.2.2.2.2.2.2.2.2.2.2.2.2.2.2.2.2.2.2.2.2.2.2.2.2.2.2.2.2.2.2.2.2.2.2.2.2.2.2.2.2.2.2.2.2.2.2.2.2.2.2.2.2.2.2.2.2.2.2.2.2.1
  intro H locs ls g1 g2 g3 g4
  have g1' := g1.ref hsr (g := fun j => some (x + 143 + 13 * sIx j)) (fun j hj => by
    match j, hj with
    | 0, _ => rfl
    | 1, _ => rfl
    | j + 2, hj => exact absurd hj (by omega))
  refine law_loop hL X hX hbl hbA rfl rfl rfl F 512 0 _ _ _ (by omega) (by omega) (by omega) (by omega) (m_start hP hM (fun i hi => (h_up_n (by omega)).trans (fA _ (by omega))) (fun i hi => (h_up_n (by omega)).trans (fB _ (by omega) (by omega))) ((h_up_n (by omega)).trans k5') ((h_up_n (by omega)).trans k6) h_up_s hR rfl hZ rfl hep) H locs ls g1' (fun z hz => by cases hz) g3 g4
