theorem kb {k0 a r B M : Nat} (h : Nat.ble (a + r) B = true) (hM : k0 + B ≤ M) : k0 + a + r ≤ M := by
  have q := Nat.le_of_ble_eq_true h
  omega
theorem A_sld {E : KE} {p : Program} {l : Launch} {e : Env} {R : Room} {s : State} {m : MethodId} {args : Array Value} {below : List Frame} {meth : Method} {c : Code} {Q : State → Prop} {own : String} {cc : ByteArray} {nL : Nat} {hp : Hp} {al : Option Nat} {k n pc : Nat} {L : List (Nat × Value)} {st : List Value} {b L9 : Nat} {xs : Nat → Int32} {i : Int32} (X : CX E p l s m args meth c own cc nL) (hX : va_X b L9 xs s s.heap) (hbl : b < s.heap.size) (hbA : ¬ kA E b) (hin : vp_in i L9) (hd : decode cc pc = .ok (.iaload, 1)) (K : AW E p l e R s m args below meth c nL Q hp al k n (pc + 1) L (.int (xs i.toNatClampNeg) :: st)) : AW E p l e R s m args below meth c nL Q hp al k n pc L (.int i :: .ref b :: st) := fun H locs ls h1 h2 h3 h4 => va_sld X.1 X.2.1 hX hbl hbA h3 hin hd (K H locs ls h1 h2 h3 h4)
set_option maxHeartbeats 8000000 in
set_option maxRecDepth 100000 in
theorem c_W0 {E : KE} {p : Program} {l : Launch} {e : Env} {s : State} {m : MethodId} {b L9 : Nat} {xs : Nat → Int32} {below : List Frame} {meth : Method} {c : Code} {hp : Hp} {k0 n0 : Nat} {Q : State → Prop} {N : Nat} {x : Nat} {y : Nat} {o : Nat} {od : Nat} {itl : Int32} {itb : Nat → Int32} {m_undoable : Int32} {m_undoStart : Int32} {m_thrown : Int32} {m_oftenAll : Int32} {m_inputLength : Int32} {m_position : Int32} {m_start : Int32} {m_token : Int32} {m_value : Int32} {m_letters : Int32} {m_code : Int32} {m_place : Int32} {m_outputLength : Int32} {m_input : Nat → Int32} {ov : Nat → Int64} {l5 : Int32} {out : Int32 × (Nat → Int32) × Int32 × Int32 × (Nat → Int32) × (Nat → Int64)} (X : CX E p l s m #[Value.ref b] meth c "DiceAuditLaw" cL_law 10) (hX : va_X b L9 xs s s.heap) (hbl : b < s.heap.size) (hbA : ¬ kA E b) (hi1 : vp_in (l5 + 1) L9) (hi2 : vp_in (l5 + 2) L9) (hi3 : vp_in (l5 + 3) L9) (hi4 : vp_in (l5 + 4) L9) (hi5 : vp_in (l5 + 5) L9) (hRk : k0 + 8 ≤ room_1.cells) (hRn : n0 + 48 ≤ room_1.slots) (g0 : hp x = some (.inr (10, [.ref (x + 126), .ref (x + 128), .ref (x + 1), .ref (x + 3), .ref (x + 16), .ref (x + 18), .ref (x + 124), .ref (x + 125)]))) (g22 : hp (x + 126) = some (.inr (8, [.ref (x + 127), .int itl]))) (g23 : hp (x + 127) = some (.inl (kC E 0, 900, .inl itb))) (g39 : hp y = some (.inr (11, [.ref (y + 1), .ref (y + 2), .ref (y + 3), .ref (y + 4), .ref (y + 5), .int m_undoable, .int m_undoStart, .int m_thrown, .ref (y + 6), .int m_oftenAll, .ref (y + 7), .int m_inputLength, .int m_position, .int m_start, .int m_token, .int m_value, .int m_letters, .int m_code, .int m_place, .ref (y + 8), .int m_outputLength]))) (g46 : hp (y + 7) = some (.inl (kC E 0, 600, .inl m_input))) (g48 : hp o = some (.inl (kC E 1, 1, .inr (.inl ov)))) (hz0 : (x + 128) ≤ y ∨ (y + 8) ≤ x) (hz1 : (x + 128) ≤ o ∨ (o + 1) ≤ x) (hz2 : (y + 8) ≤ o ∨ (o + 1) ≤ y) (h : f_W0 N xs l5 itl itb m_thrown m_inputLength m_input ov = some out) (K : ∀ {hp' : Hp}, hp' (x + 126) = some (.inr (8, [.ref (x + 127), .int out.1])) → hp' (x + 127) = some (.inl (kC E 0, 900, .inl out.2.1)) → hp' y = some (.inr (11, [.ref (y + 1), .ref (y + 2), .ref (y + 3), .ref (y + 4), .ref (y + 5), .int m_undoable, .int m_undoStart, .int out.2.2.1, .ref (y + 6), .int m_oftenAll, .ref (y + 7), .int out.2.2.2.1, .int m_position, .int m_start, .int m_token, .int m_value, .int m_letters, .int m_code, .int m_place, .ref (y + 8), .int m_outputLength])) → hp' (y + 7) = some (.inl (kC E 0, 600, .inl out.2.2.2.2.1)) → hp' o = some (.inl (kC E 1, 1, .inr (.inl out.2.2.2.2.2))) → (∀ q, q ≠ (x + 126) → q ≠ (x + 127) → q ≠ y → q ≠ (y + 7) → q ≠ o → hp' q = hp q) → AW E p l e room_1 s m #[Value.ref b] below meth c 10 Q hp' none (k0 + 8) (n0 + 48) 3407 [(0, .ref b), (1, .ref x), (2, .ref y), (3, .ref o), (4, .ref od), (5, .int l5)] []) : AW E p l e room_1 s m #[Value.ref b] below meth c 10 Q hp none (k0 + 0) (n0 + 0) 316 [(0, .ref b), (1, .ref x), (2, .ref y), (3, .ref o), (4, .ref od), (5, .int l5)] [] := by
  unfold f_W0 at h
  refine A_aload_n X dL_law_316 1 rfl ?_
  refine A_aload_n X dL_law_317 0 rfl ?_
  refine A_iload X dL_law_318 5 rfl ?_
  refine A_iconst (v := 1) X dL_law_320 (by decide) ?_
  refine A_iadd X dL_law_321 ?_
  refine A_sld X hX hbl hbA hi1 dL_law_322 ?_
  refine A_aload_n X dL_law_323 0 rfl ?_
  refine A_iload X dL_law_324 5 rfl ?_
  refine A_iconst (v := 2) X dL_law_326 (by decide) ?_
  refine A_iadd X dL_law_327 ?_
  refine A_sld X hX hbl hbA hi2 dL_law_328 ?_
  refine A_aload_n X dL_law_329 0 rfl ?_
  refine A_iload X dL_law_330 5 rfl ?_
  refine A_iconst (v := 3) X dL_law_332 (by decide) ?_
  refine A_iadd X dL_law_333 ?_
  refine A_sld X hX hbl hbA hi3 dL_law_334 ?_
  refine A_aload_n X dL_law_335 0 rfl ?_
  refine A_iload X dL_law_336 5 rfl ?_
  refine A_iconst (v := 4) X dL_law_338 (by decide) ?_
  refine A_iadd X dL_law_339 ?_
  refine A_sld X hX hbl hbA hi4 dL_law_340 ?_
  refine A_aload_n X dL_law_341 0 rfl ?_
  refine A_iload X dL_law_342 5 rfl ?_
  refine A_iconst (v := 5) X dL_law_344 (by decide) ?_
  refine A_iadd X dL_law_345 ?_
  refine A_sld X hX hbl hbA hi5 dL_law_346 ?_
  refine A_aload_n X dL_law_347 3 rfl ?_
  obtain ⟨t1, hct1, h⟩ := bind_o h
  refine A_cX (k' := (k0 + 1)) (n' := (n0 + 6)) rfl rfl (A_runSH (rest := []) X dL_law_348 (c_L_appendInput g0 g22 g23 g48 (by omega) hct1) kY_L_appendInput kw_835 ⟨(Nat.le_of_ble_eq_true rfl), (Nat.le_of_ble_eq_true rfl), kb rfl hRk, kb rfl hRn⟩ rfl (Nat.le_of_ble_eq_true rfl)) (fun C hp1 hP => hP.elim) (fun v9 hp1 al9 hP => ?_)
  obtain ⟨rfl, k1_0, k1_1, k1_2, n1, rfl⟩ := hP
  replace k1_0 : hp1 (x + 126) = some (.inr (8, [.ref (x + 127), .int t1.2.1])) := k1_0
  replace k1_1 : hp1 (x + 127) = some (.inl (kC E 0, 900, .inl t1.2.2.1)) := k1_1
  replace k1_2 : hp1 o = some (.inl (kC E 1, 1, .inr (.inl t1.2.2.2))) := k1_2
  refine A_st (st' := [.int t1.1]) rfl ?_
  refine A_istore (L' := [(6, .int t1.1), (0, .ref b), (1, .ref x), (2, .ref y), (3, .ref o), (4, .ref od), (5, .int l5)]) X dL_law_351 (by decide) rfl ?_
  refine A_aload_n X dL_law_353 3 rfl ?_
  refine A_aload_n X dL_law_354 1 rfl ?_
  refine A_iload X dL_law_355 6 rfl ?_
  refine A_iconst (v := 1) X dL_law_357 (by decide) ?_
  refine A_iadd X dL_law_358 ?_
  refine A_sld X hX hbl hbA hi1 dL_law_359 ?_
  refine A_aload_n X dL_law_360 1 rfl ?_
  refine A_iload X dL_law_361 6 rfl ?_
  refine A_iconst (v := 2) X dL_law_363 (by decide) ?_
  refine A_iadd X dL_law_364 ?_
  refine A_sld X hX hbl hbA hi2 dL_law_365 ?_
  refine A_aload_n X dL_law_366 1 rfl ?_
  refine A_iload X dL_law_367 6 rfl ?_
  refine A_iconst (v := 3) X dL_law_369 (by decide) ?_
  refine A_iadd X dL_law_370 ?_
  refine A_sld X hX hbl hbA hi3 dL_law_371 ?_
  refine A_aload_n X dL_law_372 1 rfl ?_
  refine A_iload X dL_law_373 6 rfl ?_
  refine A_iconst (v := 4) X dL_law_375 (by decide) ?_
  refine A_iadd X dL_law_376 ?_
  refine A_sld X hX hbl hbA hi4 dL_law_377 ?_
  refine A_aload_n X dL_law_378 1 rfl ?_
  refine A_iload X dL_law_379 6 rfl ?_
  refine A_iconst (v := 5) X dL_law_381 (by decide) ?_
  refine A_iadd X dL_law_382 ?_
  refine A_sld X hX hbl hbA hi5 dL_law_383 ?_
  obtain ⟨t2, hct2, h⟩ := bind_o h
  refine A_c (k' := (k0 + 1)) (n' := (n0 + 6)) rfl rfl (A_runV (rest := []) X dL_law_384 (c_X11_appendInput ((n1 _ (by omega) (by omega) (by omega)).trans g39) ((n1 _ (by omega) (by omega) (by omega)).trans g46)  hct2) kY_X11_appendInput kw_1672 ((n1 _ (by omega) (by omega) (by omega)).trans g39) rfl rfl ⟨(Nat.le_of_ble_eq_true rfl), (Nat.le_of_ble_eq_true rfl), kb rfl hRk, kb rfl hRn⟩ rfl (Nat.le_of_ble_eq_true rfl)) (fun v9 hp2 al9 hP => ?_)
  obtain ⟨rfl, k2_0, k2_1, n2, rfl⟩ := hP
  replace k2_0 : hp2 y = some (.inr (11, [.ref (y + 1), .ref (y + 2), .ref (y + 3), .ref (y + 4), .ref (y + 5), .int m_undoable, .int m_undoStart, .int t2.2.1, .ref (y + 6), .int m_oftenAll, .ref (y + 7), .int t2.2.2.1, .int m_position, .int m_start, .int m_token, .int m_value, .int m_letters, .int m_code, .int m_place, .ref (y + 8), .int m_outputLength])) := k2_0
  replace k2_1 : hp2 (y + 7) = some (.inl (kC E 0, 600, .inl t2.2.2.2)) := k2_1
  refine A_st (st' := [.int t2.1]) rfl ?_
  refine A_istore (L' := [(7, .int t2.1), (6, .int t1.1), (0, .ref b), (1, .ref x), (2, .ref y), (3, .ref o), (4, .ref od), (5, .int l5)]) X dL_law_387 (by decide) rfl ?_
  refine A_aload_n X dL_law_389 4 rfl ?_
  obtain ⟨t3, hct3, h⟩ := bind_o h
  refine A_cp (k' := (k0 + 1)) (n' := (n0 + 6)) (A_runV (rest := []) X dL_law_390 (c_X11_thrown k2_0  hct3) kY_X11_thrown kw_1668 k2_0 rfl rfl ⟨(Nat.le_of_ble_eq_true rfl), (Nat.le_of_ble_eq_true rfl), kb rfl hRk, kb rfl hRn⟩ rfl (Nat.le_of_ble_eq_true rfl)) rfl rfl ?_
  refine A_iload X dL_law_393 1 rfl ?_
  refine A_icmp_eq (tgt := 400) X dL_law_395 h (by decide) (fun hc h => ?_) (fun hc h => ?_)
  · refine A_iload X dL_law_400 1 rfl ?_
    refine A_if_ne (tgt := 417) X dL_law_402 h (by decide) (fun hc h => ?_) (fun hc h => ?_)
    · refine A_goto (tgt := 3407) X dL_law_417 (by decide) ?_
      cases h
      refine A_sub (L' := [(0, .ref b), (1, .ref x), (2, .ref y), (3, .ref o), (4, .ref od), (5, .int l5)]) [2, 3, 4, 5, 6, 7] rfl ?_
      refine A_widen (k' := (k0 + 8)) (n' := (n0 + 48)) (by omega) (by omega) ?_
      exact K ((n2 _ (by omega) (by omega)).trans k1_0) ((n2 _ (by omega) (by omega)).trans k1_1) k2_0 k2_1 ((n2 _ (by omega) (by omega)).trans k1_2) (fun q z0 z1 z2 z3 z4 => ((n2 q z2 z3).trans (n1 q z0 z1 z4)))
    · refine A_aload_n X dL_law_405 5 rfl ?_
      refine A_iconst (v := 0) X dL_law_406 (by decide) ?_
      refine A_lald X dL_law_407 ((n2 _ (by omega) (by omega)).trans k1_2) (by decide) ?_
      refine A_iload X dL_law_408 0 rfl ?_
      refine A_i2l X dL_law_410 ?_
      refine A_lcmp X dL_law_411 ?_
      refine A_if_eq (tgt := 417) X dL_law_412 h (by decide) (fun hc h => ?_) (fun hc h => ?_)
      · refine A_goto (tgt := 3407) X dL_law_417 (by decide) ?_
        cases h
        refine A_sub (L' := [(0, .ref b), (1, .ref x), (2, .ref y), (3, .ref o), (4, .ref od), (5, .int l5)]) [2, 3, 4, 5, 6, 7] rfl ?_
        refine A_widen (k' := (k0 + 8)) (n' := (n0 + 48)) (by omega) (by omega) ?_
        exact K ((n2 _ (by omega) (by omega)).trans k1_0) ((n2 _ (by omega) (by omega)).trans k1_1) k2_0 k2_1 ((n2 _ (by omega) (by omega)).trans k1_2) (fun q z0 z1 z2 z3 z4 => ((n2 q z2 z3).trans (n1 q z0 z1 z4)))
      · refine A_iconst (v := 0) X dL_law_415 (by decide) ?_
        cases h
  · refine A_iconst (v := 0) X dL_law_398 (by decide) ?_
    cases h
set_option maxHeartbeats 8000000 in
set_option maxRecDepth 100000 in
theorem c_W1 {E : KE} {p : Program} {l : Launch} {e : Env} {s : State} {m : MethodId} {b L9 : Nat} {xs : Nat → Int32} {below : List Frame} {meth : Method} {c : Code} {hp : Hp} {k0 n0 : Nat} {Q : State → Prop} {x : Nat} {y : Nat} {o : Nat} {od : Nat} {itl : Int32} {m_undoable : Int32} {m_undoStart : Int32} {m_thrown : Int32} {m_oftenAll : Int32} {m_inputLength : Int32} {m_position : Int32} {m_start : Int32} {m_token : Int32} {m_value : Int32} {m_letters : Int32} {m_code : Int32} {m_place : Int32} {m_outputLength : Int32} {ov : Nat → Int64} {l5 : Int32} {out : Int32 × Int32 × Int32 × (Nat → Int64)} (X : CX E p l s m #[Value.ref b] meth c "DiceAuditLaw" cL_law 10) (hX : va_X b L9 xs s s.heap) (hbl : b < s.heap.size) (hbA : ¬ kA E b) (hi1 : vp_in (l5 + 1) L9) (hi2 : vp_in (l5 + 2) L9) (hi3 : vp_in (l5 + 3) L9) (hi4 : vp_in (l5 + 4) L9) (hi5 : vp_in (l5 + 5) L9) (hRk : k0 + 8 ≤ room_1.cells) (hRn : n0 + 48 ≤ room_1.slots) (g0 : hp x = some (.inr (10, [.ref (x + 126), .ref (x + 128), .ref (x + 1), .ref (x + 3), .ref (x + 16), .ref (x + 18), .ref (x + 124), .ref (x + 125)]))) (g22 : hp (x + 126) = some (.inr (8, [.ref (x + 127), .int itl]))) (g39 : hp y = some (.inr (11, [.ref (y + 1), .ref (y + 2), .ref (y + 3), .ref (y + 4), .ref (y + 5), .int m_undoable, .int m_undoStart, .int m_thrown, .ref (y + 6), .int m_oftenAll, .ref (y + 7), .int m_inputLength, .int m_position, .int m_start, .int m_token, .int m_value, .int m_letters, .int m_code, .int m_place, .ref (y + 8), .int m_outputLength]))) (g48 : hp o = some (.inl (kC E 1, 1, .inr (.inl ov)))) (hz0 : (x + 127) ≤ y ∨ (y + 1) ≤ x) (hz1 : (x + 127) ≤ o ∨ (o + 1) ≤ x) (hz2 : (y + 1) ≤ o ∨ (o + 1) ≤ y) (h : f_W1 xs l5 itl m_thrown m_inputLength ov = some out) (K : ∀ {hp' : Hp}, hp' (x + 126) = some (.inr (8, [.ref (x + 127), .int out.1])) → hp' y = some (.inr (11, [.ref (y + 1), .ref (y + 2), .ref (y + 3), .ref (y + 4), .ref (y + 5), .int m_undoable, .int m_undoStart, .int out.2.1, .ref (y + 6), .int m_oftenAll, .ref (y + 7), .int out.2.2.1, .int m_position, .int m_start, .int m_token, .int m_value, .int m_letters, .int m_code, .int m_place, .ref (y + 8), .int m_outputLength])) → hp' o = some (.inl (kC E 1, 1, .inr (.inl out.2.2.2))) → (∀ q, q ≠ (x + 126) → q ≠ y → q ≠ o → hp' q = hp q) → AW E p l e room_1 s m #[Value.ref b] below meth c 10 Q hp' none (k0 + 8) (n0 + 48) 3407 [(0, .ref b), (1, .ref x), (2, .ref y), (3, .ref o), (4, .ref od), (5, .int l5)] []) : AW E p l e room_1 s m #[Value.ref b] below meth c 10 Q hp none (k0 + 0) (n0 + 0) 420 [(0, .ref b), (1, .ref x), (2, .ref y), (3, .ref o), (4, .ref od), (5, .int l5)] [] := by
  unfold f_W1 at h
  refine A_aload_n X dL_law_420 1 rfl ?_
  refine A_aload_n X dL_law_421 0 rfl ?_
  refine A_iload X dL_law_422 5 rfl ?_
  refine A_iconst (v := 1) X dL_law_424 (by decide) ?_
  refine A_iadd X dL_law_425 ?_
  refine A_sld X hX hbl hbA hi1 dL_law_426 ?_
  refine A_aload_n X dL_law_427 3 rfl ?_
  obtain ⟨t1, hct1, h⟩ := bind_o h
  refine A_cX (k' := (k0 + 1)) (n' := (n0 + 6)) rfl rfl (A_runSH (rest := []) X dL_law_428 (c_L_truncateInput g0 g22 g48 (by omega) hct1) kY_L_truncateInput kw_915 ⟨(Nat.le_of_ble_eq_true rfl), (Nat.le_of_ble_eq_true rfl), kb rfl hRk, kb rfl hRn⟩ rfl (Nat.le_of_ble_eq_true rfl)) (fun C hp1 hP => hP.elim) (fun v9 hp1 al9 hP => ?_)
  obtain ⟨rfl, k1_0, k1_1, n1, rfl⟩ := hP
  replace k1_0 : hp1 (x + 126) = some (.inr (8, [.ref (x + 127), .int t1.2.1])) := k1_0
  replace k1_1 : hp1 o = some (.inl (kC E 1, 1, .inr (.inl t1.2.2))) := k1_1
  refine A_st (st' := [.int t1.1]) rfl ?_
  refine A_istore (L' := [(6, .int t1.1), (0, .ref b), (1, .ref x), (2, .ref y), (3, .ref o), (4, .ref od), (5, .int l5)]) X dL_law_431 (by decide) rfl ?_
  refine A_aload_n X dL_law_433 3 rfl ?_
  refine A_aload_n X dL_law_434 1 rfl ?_
  refine A_iload X dL_law_435 6 rfl ?_
  refine A_iconst (v := 1) X dL_law_437 (by decide) ?_
  refine A_iadd X dL_law_438 ?_
  refine A_sld X hX hbl hbA hi1 dL_law_439 ?_
  obtain ⟨t2, hct2, h⟩ := bind_o h
  refine A_c (k' := (k0 + 1)) (n' := (n0 + 6)) rfl rfl (A_runV (rest := []) X dL_law_440 (c_X11_truncateInput ((n1 _ (by omega) (by omega)).trans g39)  hct2) kY_X11_truncateInput kw_1684 ((n1 _ (by omega) (by omega)).trans g39) rfl rfl ⟨(Nat.le_of_ble_eq_true rfl), (Nat.le_of_ble_eq_true rfl), kb rfl hRk, kb rfl hRn⟩ rfl (Nat.le_of_ble_eq_true rfl)) (fun v9 hp2 al9 hP => ?_)
  obtain ⟨rfl, k2_0, n2, rfl⟩ := hP
  replace k2_0 : hp2 y = some (.inr (11, [.ref (y + 1), .ref (y + 2), .ref (y + 3), .ref (y + 4), .ref (y + 5), .int m_undoable, .int m_undoStart, .int t2.2.1, .ref (y + 6), .int m_oftenAll, .ref (y + 7), .int t2.2.2, .int m_position, .int m_start, .int m_token, .int m_value, .int m_letters, .int m_code, .int m_place, .ref (y + 8), .int m_outputLength])) := k2_0
  refine A_st (st' := [.int t2.1]) rfl ?_
  refine A_istore (L' := [(7, .int t2.1), (6, .int t1.1), (0, .ref b), (1, .ref x), (2, .ref y), (3, .ref o), (4, .ref od), (5, .int l5)]) X dL_law_443 (by decide) rfl ?_
  refine A_aload_n X dL_law_445 4 rfl ?_
  obtain ⟨t3, hct3, h⟩ := bind_o h
  refine A_cp (k' := (k0 + 1)) (n' := (n0 + 6)) (A_runV (rest := []) X dL_law_446 (c_X11_thrown k2_0  hct3) kY_X11_thrown kw_1668 k2_0 rfl rfl ⟨(Nat.le_of_ble_eq_true rfl), (Nat.le_of_ble_eq_true rfl), kb rfl hRk, kb rfl hRn⟩ rfl (Nat.le_of_ble_eq_true rfl)) rfl rfl ?_
  refine A_iload X dL_law_449 1 rfl ?_
  refine A_icmp_eq (tgt := 456) X dL_law_451 h (by decide) (fun hc h => ?_) (fun hc h => ?_)
  · refine A_iload X dL_law_456 1 rfl ?_
    refine A_if_ne (tgt := 473) X dL_law_458 h (by decide) (fun hc h => ?_) (fun hc h => ?_)
    · refine A_goto (tgt := 3407) X dL_law_473 (by decide) ?_
      cases h
      refine A_sub (L' := [(0, .ref b), (1, .ref x), (2, .ref y), (3, .ref o), (4, .ref od), (5, .int l5)]) [2, 3, 4, 5, 6, 7] rfl ?_
      refine A_widen (k' := (k0 + 8)) (n' := (n0 + 48)) (by omega) (by omega) ?_
      exact K ((n2 _ (by omega)).trans k1_0) k2_0 ((n2 _ (by omega)).trans k1_1) (fun q z0 z1 z2 => ((n2 q z1).trans (n1 q z0 z2)))
    · refine A_aload_n X dL_law_461 5 rfl ?_
      refine A_iconst (v := 0) X dL_law_462 (by decide) ?_
      refine A_lald X dL_law_463 ((n2 _ (by omega)).trans k1_1) (by decide) ?_
      refine A_iload X dL_law_464 0 rfl ?_
      refine A_i2l X dL_law_466 ?_
      refine A_lcmp X dL_law_467 ?_
      refine A_if_eq (tgt := 473) X dL_law_468 h (by decide) (fun hc h => ?_) (fun hc h => ?_)
      · refine A_goto (tgt := 3407) X dL_law_473 (by decide) ?_
        cases h
        refine A_sub (L' := [(0, .ref b), (1, .ref x), (2, .ref y), (3, .ref o), (4, .ref od), (5, .int l5)]) [2, 3, 4, 5, 6, 7] rfl ?_
        refine A_widen (k' := (k0 + 8)) (n' := (n0 + 48)) (by omega) (by omega) ?_
        exact K ((n2 _ (by omega)).trans k1_0) k2_0 ((n2 _ (by omega)).trans k1_1) (fun q z0 z1 z2 => ((n2 q z1).trans (n1 q z0 z2)))
      · refine A_iconst (v := 0) X dL_law_471 (by decide) ?_
        cases h
  · refine A_iconst (v := 0) X dL_law_454 (by decide) ?_
    cases h
set_option maxHeartbeats 8000000 in
set_option maxRecDepth 100000 in
theorem c_W2 {E : KE} {p : Program} {l : Launch} {e : Env} {s : State} {m : MethodId} {b L9 : Nat} {xs : Nat → Int32} {below : List Frame} {meth : Method} {c : Code} {hp : Hp} {k0 n0 : Nat} {Q : State → Prop} {N : Nat} {x : Nat} {y : Nat} {o : Nat} {od : Nat} {v : Nat} {sd : Int32} {mn : Int32} {th : Int32} {dc : Int32} {fc : Nat → Int32} {dw : Nat → Int32} {pc : Int32} {ln : Nat → Int32} {lt : Nat → Int32} {tc : Int32} {en : Nat → Int32} {fr : Nat → Int32} {oc : Int32} {op : Nat → Int32} {os : Nat → Int32} {nx : Int32} {dp : Int32} {rws : Nat → Option Nat} {itl : Int32} {itb : Nat → Int32} {ec : Int32} {eo : Int32} {d_sd : Int32} {d_mn : Int32} {d_th : Int32} {d_dc : Int32} {d_fc : Nat → Int32} {d_dw : Nat → Int32} {d_pc : Int32} {d_ln : Nat → Int32} {d_lt : Nat → Int32} {d_tc : Int32} {d_en : Nat → Int32} {d_fr : Nat → Int32} {d_oc : Int32} {d_op : Nat → Int32} {d_os : Nat → Int32} {kd : Int32} {ts : Int32} {te : Int32} {tv : Int32} {m_undoable : Int32} {m_undoStart : Int32} {m_thrown : Int32} {m_oftenAll : Int32} {m_inputLength : Int32} {m_position : Int32} {m_start : Int32} {m_token : Int32} {m_value : Int32} {m_letters : Int32} {m_code : Int32} {m_place : Int32} {m_outputLength : Int32} {m_s : Nat → Int32} {m_parsed : Nat → Int32} {m_remembered : Nat → Int32} {m_often : Nat → Int32} {m_input : Nat → Int32} {ov : Nat → Int64} {v_sd : Int32} {v_mn : Int32} {v_th : Int32} {v_dc : Int32} {v_fc : Nat → Int32} {v_dw : Nat → Int32} {v_pc : Int32} {v_ln : Nat → Int32} {v_lt : Nat → Int32} {v_tc : Int32} {v_en : Nat → Int32} {v_fr : Nat → Int32} {v_oc : Int32} {v_op : Nat → Int32} {v_os : Nat → Int32} {l5 : Int32} {out : Int32 × Int32 × Int32 × Int32 × (Nat → Int32) × (Nat → Int32) × Int32 × (Nat → Int32) × (Nat → Int32) × Int32 × (Nat → Int32) × (Nat → Int32) × Int32 × (Nat → Int32) × (Nat → Int32) × Int32 × Int32 × Int32 × Int32 × Int32 × Int32 × Int32 × Int32 × Int32 × (Nat → Int32) × (Nat → Int32) × Int32 × (Nat → Int32) × (Nat → Int32) × Int32 × (Nat → Int32) × (Nat → Int32) × Int32 × (Nat → Int32) × (Nat → Int32) × Int32 × Int32 × Int32 × Int32 × Int32 × Int32 × Int32 × Int32 × Int32 × Int32 × Int32 × Int32 × Int32 × Int32 × Int32 × Int32 × (Nat → Int32) × (Nat → Int32) × (Nat → Int32) × (Nat → Int32) × (Nat → Int64) × Int32 × Int32 × Int32 × Int32 × (Nat → Int32) × (Nat → Int32) × Int32 × (Nat → Int32) × (Nat → Int32) × Int32 × (Nat → Int32) × (Nat → Int32) × Int32 × (Nat → Int32) × (Nat → Int32)} (X : CX E p l s m #[Value.ref b] meth c "DiceAuditLaw" cL_law 10) (hX : va_X b L9 xs s s.heap) (hbl : b < s.heap.size) (hbA : ¬ kA E b) (hi1 : vp_in (l5 + 1) L9) (hi2 : vp_in (l5 + 2) L9) (hi3 : vp_in (l5 + 3) L9) (hi4 : vp_in (l5 + 4) L9) (hi5 : vp_in (l5 + 5) L9) (hRk : k0 + 8 ≤ room_1.cells) (hRn : n0 + 48 ≤ room_1.slots) (g0 : hp x = some (.inr (10, [.ref (x + 126), .ref (x + 128), .ref (x + 1), .ref (x + 3), .ref (x + 16), .ref (x + 18), .ref (x + 124), .ref (x + 125)]))) (g3 : hp (x + 3) = some (.inr (2, [.ref (x + 4), .ref (x + 7), .ref (x + 10), .ref (x + 13), .int sd, .int mn, .int th]))) (g4 : hp (x + 4) = some (.inr (0, [.ref (x + 5), .ref (x + 6), .int dc]))) (g5 : hp (x + 5) = some (.inl (kC E 0, 6, .inl fc))) (g6 : hp (x + 6) = some (.inl (kC E 0, 72, .inl dw))) (g7 : hp (x + 7) = some (.inr (7, [.ref (x + 8), .ref (x + 9), .int pc]))) (g8 : hp (x + 8) = some (.inl (kC E 0, 6, .inl ln))) (g9 : hp (x + 9) = some (.inl (kC E 0, 24, .inl lt))) (g10 : hp (x + 10) = some (.inr (4, [.ref (x + 11), .ref (x + 12), .int tc]))) (g11 : hp (x + 11) = some (.inl (kC E 0, 300, .inl en))) (g12 : hp (x + 12) = some (.inl (kC E 0, 432, .inl fr))) (g13 : hp (x + 13) = some (.inr (6, [.ref (x + 14), .ref (x + 15), .int oc]))) (g14 : hp (x + 14) = some (.inl (kC E 0, 36, .inl op))) (g15 : hp (x + 15) = some (.inl (kC E 0, 36, .inl os))) (g18 : hp (x + 18) = some (.inr (3, [.ref (x + 19), .int nx, .int dp]))) (g19 : hp (x + 19) = some (.inl (kC E 5, 8, .inr (.inr (.inr (.inr rws)))))) (g22 : hp (x + 126) = some (.inr (8, [.ref (x + 127), .int itl]))) (g23 : hp (x + 127) = some (.inl (kC E 0, 900, .inl itb))) (g24 : hp (x + 128) = some (.inr (5, [.ref (x + 126), .ref (x + 142), .ref (x + 129), .int ec, .int eo]))) (g25 : hp (x + 129) = some (.inr (2, [.ref (x + 130), .ref (x + 133), .ref (x + 136), .ref (x + 139), .int d_sd, .int d_mn, .int d_th]))) (g26 : hp (x + 130) = some (.inr (0, [.ref (x + 131), .ref (x + 132), .int d_dc]))) (g27 : hp (x + 131) = some (.inl (kC E 0, 6, .inl d_fc))) (g28 : hp (x + 132) = some (.inl (kC E 0, 72, .inl d_dw))) (g29 : hp (x + 133) = some (.inr (7, [.ref (x + 134), .ref (x + 135), .int d_pc]))) (g30 : hp (x + 134) = some (.inl (kC E 0, 6, .inl d_ln))) (g31 : hp (x + 135) = some (.inl (kC E 0, 24, .inl d_lt))) (g32 : hp (x + 136) = some (.inr (4, [.ref (x + 137), .ref (x + 138), .int d_tc]))) (g33 : hp (x + 137) = some (.inl (kC E 0, 300, .inl d_en))) (g34 : hp (x + 138) = some (.inl (kC E 0, 432, .inl d_fr))) (g35 : hp (x + 139) = some (.inr (6, [.ref (x + 140), .ref (x + 141), .int d_oc]))) (g36 : hp (x + 140) = some (.inl (kC E 0, 36, .inl d_op))) (g37 : hp (x + 141) = some (.inl (kC E 0, 36, .inl d_os))) (g38 : hp (x + 142) = some (.inr (9, [.ref (x + 126), .int kd, .int ts, .int te, .int tv]))) (g39 : hp y = some (.inr (11, [.ref (y + 1), .ref (y + 2), .ref (y + 3), .ref (y + 4), .ref (y + 5), .int m_undoable, .int m_undoStart, .int m_thrown, .ref (y + 6), .int m_oftenAll, .ref (y + 7), .int m_inputLength, .int m_position, .int m_start, .int m_token, .int m_value, .int m_letters, .int m_code, .int m_place, .ref (y + 8), .int m_outputLength]))) (g40 : hp (y + 1) = some (.inl (kC E 0, 1399, .inl m_s))) (g41 : hp (y + 2) = some (.inl (kC E 0, 1399, .inl m_parsed))) (g42 : hp (y + 3) = some (.inl (kC E 0, 11192, .inl m_remembered))) (g45 : hp (y + 6) = some (.inl (kC E 0, 13, .inl m_often))) (g46 : hp (y + 7) = some (.inl (kC E 0, 600, .inl m_input))) (g48 : hp o = some (.inl (kC E 1, 1, .inr (.inl ov)))) (g50 : hp v = some (.inr (2, [.ref (v + 1), .ref (v + 4), .ref (v + 7), .ref (v + 10), .int v_sd, .int v_mn, .int v_th]))) (g51 : hp (v + 1) = some (.inr (0, [.ref (v + 2), .ref (v + 3), .int v_dc]))) (g52 : hp (v + 2) = some (.inl (kC E 0, 6, .inl v_fc))) (g53 : hp (v + 3) = some (.inl (kC E 0, 72, .inl v_dw))) (g54 : hp (v + 4) = some (.inr (7, [.ref (v + 5), .ref (v + 6), .int v_pc]))) (g55 : hp (v + 5) = some (.inl (kC E 0, 6, .inl v_ln))) (g56 : hp (v + 6) = some (.inl (kC E 0, 24, .inl v_lt))) (g57 : hp (v + 7) = some (.inr (4, [.ref (v + 8), .ref (v + 9), .int v_tc]))) (g58 : hp (v + 8) = some (.inl (kC E 0, 300, .inl v_en))) (g59 : hp (v + 9) = some (.inl (kC E 0, 432, .inl v_fr))) (g60 : hp (v + 10) = some (.inr (6, [.ref (v + 11), .ref (v + 12), .int v_oc]))) (g61 : hp (v + 11) = some (.inl (kC E 0, 36, .inl v_op))) (g62 : hp (v + 12) = some (.inl (kC E 0, 36, .inl v_os))) (hvv : rws (Int32.toNatClampNeg nx) = some v) (hlv : (x + 20) ≤ v) (huv : (v + 13) ≤ (x + 124)) (hz3 : (x + 143) ≤ y ∨ (y + 8) ≤ x) (hz4 : (x + 143) ≤ o ∨ (o + 1) ≤ x) (hz5 : (y + 8) ≤ o ∨ (o + 1) ≤ y) (hz6 : (y + 8) ≤ v ∨ (v + 13) ≤ y) (hz7 : (o + 1) ≤ v ∨ (v + 13) ≤ o) (h : f_W2 N xs l5 itb m_input sd mn th dc fc dw pc ln lt tc en fr oc op os nx dp itl ec eo d_sd d_mn d_th d_dc d_fc d_dw d_pc d_ln d_lt d_tc d_en d_fr d_oc d_op d_os kd ts te tv m_undoable m_undoStart m_thrown m_oftenAll m_inputLength m_position m_start m_token m_value m_letters m_code m_place m_s m_parsed m_remembered m_often ov v_sd v_mn v_th v_dc v_fc v_dw v_pc v_ln v_lt v_tc v_en v_fr v_oc v_op v_os = some out) (K : ∀ {hp' : Hp}, hp' (x + 3) = some (.inr (2, [.ref (x + 4), .ref (x + 7), .ref (x + 10), .ref (x + 13), .int out.1, .int out.2.1, .int out.2.2.1])) → hp' (x + 4) = some (.inr (0, [.ref (x + 5), .ref (x + 6), .int out.2.2.2.1])) → hp' (x + 5) = some (.inl (kC E 0, 6, .inl out.2.2.2.2.1)) → hp' (x + 6) = some (.inl (kC E 0, 72, .inl out.2.2.2.2.2.1)) → hp' (x + 7) = some (.inr (7, [.ref (x + 8), .ref (x + 9), .int out.2.2.2.2.2.2.1])) → hp' (x + 8) = some (.inl (kC E 0, 6, .inl out.2.2.2.2.2.2.2.1)) → hp' (x + 9) = some (.inl (kC E 0, 24, .inl out.2.2.2.2.2.2.2.2.1)) → hp' (x + 10) = some (.inr (4, [.ref (x + 11), .ref (x + 12), .int out.2.2.2.2.2.2.2.2.2.1])) → hp' (x + 11) = some (.inl (kC E 0, 300, .inl out.2.2.2.2.2.2.2.2.2.2.1)) → hp' (x + 12) = some (.inl (kC E 0, 432, .inl out.2.2.2.2.2.2.2.2.2.2.2.1)) → hp' (x + 13) = some (.inr (6, [.ref (x + 14), .ref (x + 15), .int out.2.2.2.2.2.2.2.2.2.2.2.2.1])) → hp' (x + 14) = some (.inl (kC E 0, 36, .inl out.2.2.2.2.2.2.2.2.2.2.2.2.2.1)) → hp' (x + 15) = some (.inl (kC E 0, 36, .inl out.2.2.2.2.2.2.2.2.2.2.2.2.2.2.1)) → hp' (x + 18) = some (.inr (3, [.ref (x + 19), .int out.2.2.2.2.2.2.2.2.2.2.2.2.2.2.2.1, .int out.2.2.2.2.2.2.2.2.2.2.2.2.2.2.2.2.1])) → hp' (x + 126) = some (.inr (8, [.ref (x + 127), .int out.2.2.2.2.2.2.2.2.2.2.2.2.2.2.2.2.2.1])) → hp' (x + 128) = some (.inr (5, [.ref (x + 126), .ref (x + 142), .ref (x + 129), .int out.2.2.2.2.2.2.2.2.2.2.2.2.2.2.2.2.2.2.1, .int out.2.2.2.2.2.2.2.2.2.2.2.2.2.2.2.2.2.2.2.1])) → hp' (x + 129) = some (.inr (2, [.ref (x + 130), .ref (x + 133), .ref (x + 136), .ref (x + 139), .int out.2.2.2.2.2.2.2.2.2.2.2.2.2.2.2.2.2.2.2.2.1, .int out.2.2.2.2.2.2.2.2.2.2.2.2.2.2.2.2.2.2.2.2.2.1, .int out.2.2.2.2.2.2.2.2.2.2.2.2.2.2.2.2.2.2.2.2.2.2.1])) → hp' (x + 130) = some (.inr (0, [.ref (x + 131), .ref (x + 132), .int out.2.2.2.2.2.2.2.2.2.2.2.2.2.2.2.2.2.2.2.2.2.2.2.1])) → hp' (x + 131) = some (.inl (kC E 0, 6, .inl out.2.2.2.2.2.2.2.2.2.2.2.2.2.2.2.2.2.2.2.2.2.2.2.2.1)) → hp' (x + 132) = some (.inl (kC E 0, 72, .inl out.2.2.2.2.2.2.2.2.2.2.2.2.2.2.2.2.2.2.2.2.2.2.2.2.2.1)) → hp' (x + 133) = some (.inr (7, [.ref (x + 134), .ref (x + 135), .int out.2.2.2.2.2.2.2.2.2.2.2.2.2.2.2.2.2.2.2.2.2.2.2.2.2.2.1])) → hp' (x + 134) = some (.inl (kC E 0, 6, .inl out.2.2.2.2.2.2.2.2.2.2.2.2.2.2.2.2.2.2.2.2.2.2.2.2.2.2.2.1)) → hp' (x + 135) = some (.inl (kC E 0, 24, .inl out.2.2.2.2.2.2.2.2.2.2.2.2.2.2.2.2.2.2.2.2.2.2.2.2.2.2.2.2.1)) → hp' (x + 136) = some (.inr (4, [.ref (x + 137), .ref (x + 138), .int out.2.2.2.2.2.2.2.2.2.2.2.2.2.2.2.2.2.2.2.2.2.2.2.2.2.2.2.2.2.1])) → hp' (x + 137) = some (.inl (kC E 0, 300, .inl out.2.2.2.2.2.2.2.2.2.2.2.2.2.2.2.2.2.2.2.2.2.2.2.2.2.2.2.2.2.2.1)) → hp' (x + 138) = some (.inl (kC E 0, 432, .inl out.2.2.2.2.2.2.2.2.2.2.2.2.2.2.2.2.2.2.2.2.2.2.2.2.2.2.2.2.2.2.2.1)) → hp' (x + 139) = some (.inr (6, [.ref (x + 140), .ref (x + 141), .int out.2.2.2.2.2.2.2.2.2.2.2.2.2.2.2.2.2.2.2.2.2.2.2.2.2.2.2.2.2.2.2.2.1])) → hp' (x + 140) = some (.inl (kC E 0, 36, .inl out.2.2.2.2.2.2.2.2.2.2.2.2.2.2.2.2.2.2.2.2.2.2.2.2.2.2.2.2.2.2.2.2.2.1)) → hp' (x + 141) = some (.inl (kC E 0, 36, .inl out.2.2.2.2.2.2.2.2.2.2.2.2.2.2.2.2.2.2.2.2.2.2.2.2.2.2.2.2.2.2.2.2.2.2.1)) → hp' (x + 142) = some (.inr (9, [.ref (x + 126), .int out.2.2.2.2.2.2.2.2.2.2.2.2.2.2.2.2.2.2.2.2.2.2.2.2.2.2.2.2.2.2.2.2.2.2.2.1, .int out.2.2.2.2.2.2.2.2.2.2.2.2.2.2.2.2.2.2.2.2.2.2.2.2.2.2.2.2.2.2.2.2.2.2.2.2.1, .int out.2.2.2.2.2.2.2.2.2.2.2.2.2.2.2.2.2.2.2.2.2.2.2.2.2.2.2.2.2.2.2.2.2.2.2.2.2.1, .int out.2.2.2.2.2.2.2.2.2.2.2.2.2.2.2.2.2.2.2.2.2.2.2.2.2.2.2.2.2.2.2.2.2.2.2.2.2.2.1])) → hp' y = some (.inr (11, [.ref (y + 1), .ref (y + 2), .ref (y + 3), .ref (y + 4), .ref (y + 5), .int out.2.2.2.2.2.2.2.2.2.2.2.2.2.2.2.2.2.2.2.2.2.2.2.2.2.2.2.2.2.2.2.2.2.2.2.2.2.2.2.1, .int out.2.2.2.2.2.2.2.2.2.2.2.2.2.2.2.2.2.2.2.2.2.2.2.2.2.2.2.2.2.2.2.2.2.2.2.2.2.2.2.2.1, .int out.2.2.2.2.2.2.2.2.2.2.2.2.2.2.2.2.2.2.2.2.2.2.2.2.2.2.2.2.2.2.2.2.2.2.2.2.2.2.2.2.2.1, .ref (y + 6), .int out.2.2.2.2.2.2.2.2.2.2.2.2.2.2.2.2.2.2.2.2.2.2.2.2.2.2.2.2.2.2.2.2.2.2.2.2.2.2.2.2.2.2.1, .ref (y + 7), .int out.2.2.2.2.2.2.2.2.2.2.2.2.2.2.2.2.2.2.2.2.2.2.2.2.2.2.2.2.2.2.2.2.2.2.2.2.2.2.2.2.2.2.2.1, .int out.2.2.2.2.2.2.2.2.2.2.2.2.2.2.2.2.2.2.2.2.2.2.2.2.2.2.2.2.2.2.2.2.2.2.2.2.2.2.2.2.2.2.2.2.1, .int out.2.2.2.2.2.2.2.2.2.2.2.2.2.2.2.2.2.2.2.2.2.2.2.2.2.2.2.2.2.2.2.2.2.2.2.2.2.2.2.2.2.2.2.2.2.1, .int out.2.2.2.2.2.2.2.2.2.2.2.2.2.2.2.2.2.2.2.2.2.2.2.2.2.2.2.2.2.2.2.2.2.2.2.2.2.2.2.2.2.2.2.2.2.2.1, .int out.2.2.2.2.2.2.2.2.2.2.2.2.2.2.2.2.2.2.2.2.2.2.2.2.2.2.2.2.2.2.2.2.2.2.2.2.2.2.2.2.2.2.2.2.2.2.2.1, .int out.2.2.2.2.2.2.2.2.2.2.2.2.2.2.2.2.2.2.2.2.2.2.2.2.2.2.2.2.2.2.2.2.2.2.2.2.2.2.2.2.2.2.2.2.2.2.2.2.1, .int out.2.2.2.2.2.2.2.2.2.2.2.2.2.2.2.2.2.2.2.2.2.2.2.2.2.2.2.2.2.2.2.2.2.2.2.2.2.2.2.2.2.2.2.2.2.2.2.2.2.1, .int out.2.2.2.2.2.2.2.2.2.2.2.2.2.2.2.2.2.2.2.2.2.2.2.2.2.2.2.2.2.2.2.2.2.2.2.2.2.2.2.2.2.2.2.2.2.2.2.2.2.2.1, .ref (y + 8), .int m_outputLength])) → hp' (y + 1) = some (.inl (kC E 0, 1399, .inl out.2.2.2.2.2.2.2.2.2.2.2.2.2.2.2.2.2.2.2.2.2.2.2.2.2.2.2.2.2.2.2.2.2.2.2.2.2.2.2.2.2.2.2.2.2.2.2.2.2.2.2.1)) → hp' (y + 2) = some (.inl (kC E 0, 1399, .inl out.2.2.2.2.2.2.2.2.2.2.2.2.2.2.2.2.2.2.2.2.2.2.2.2.2.2.2.2.2.2.2.2.2.2.2.2.2.2.2.2.2.2.2.2.2.2.2.2.2.2.2.2.1)) → hp' (y + 3) = some (.inl (kC E 0, 11192, .inl out.2.2.2.2.2.2.2.2.2.2.2.2.2.2.2.2.2.2.2.2.2.2.2.2.2.2.2.2.2.2.2.2.2.2.2.2.2.2.2.2.2.2.2.2.2.2.2.2.2.2.2.2.2.1)) → hp' (y + 6) = some (.inl (kC E 0, 13, .inl out.2.2.2.2.2.2.2.2.2.2.2.2.2.2.2.2.2.2.2.2.2.2.2.2.2.2.2.2.2.2.2.2.2.2.2.2.2.2.2.2.2.2.2.2.2.2.2.2.2.2.2.2.2.2.1)) → hp' o = some (.inl (kC E 1, 1, .inr (.inl out.2.2.2.2.2.2.2.2.2.2.2.2.2.2.2.2.2.2.2.2.2.2.2.2.2.2.2.2.2.2.2.2.2.2.2.2.2.2.2.2.2.2.2.2.2.2.2.2.2.2.2.2.2.2.2.1))) → hp' v = some (.inr (2, [.ref (v + 1), .ref (v + 4), .ref (v + 7), .ref (v + 10), .int out.2.2.2.2.2.2.2.2.2.2.2.2.2.2.2.2.2.2.2.2.2.2.2.2.2.2.2.2.2.2.2.2.2.2.2.2.2.2.2.2.2.2.2.2.2.2.2.2.2.2.2.2.2.2.2.2.1, .int out.2.2.2.2.2.2.2.2.2.2.2.2.2.2.2.2.2.2.2.2.2.2.2.2.2.2.2.2.2.2.2.2.2.2.2.2.2.2.2.2.2.2.2.2.2.2.2.2.2.2.2.2.2.2.2.2.2.1, .int out.2.2.2.2.2.2.2.2.2.2.2.2.2.2.2.2.2.2.2.2.2.2.2.2.2.2.2.2.2.2.2.2.2.2.2.2.2.2.2.2.2.2.2.2.2.2.2.2.2.2.2.2.2.2.2.2.2.2.1])) → hp' (v + 1) = some (.inr (0, [.ref (v + 2), .ref (v + 3), .int out.2.2.2.2.2.2.2.2.2.2.2.2.2.2.2.2.2.2.2.2.2.2.2.2.2.2.2.2.2.2.2.2.2.2.2.2.2.2.2.2.2.2.2.2.2.2.2.2.2.2.2.2.2.2.2.2.2.2.2.1])) → hp' (v + 2) = some (.inl (kC E 0, 6, .inl out.2.2.2.2.2.2.2.2.2.2.2.2.2.2.2.2.2.2.2.2.2.2.2.2.2.2.2.2.2.2.2.2.2.2.2.2.2.2.2.2.2.2.2.2.2.2.2.2.2.2.2.2.2.2.2.2.2.2.2.2.1)) → hp' (v + 3) = some (.inl (kC E 0, 72, .inl out.2.2.2.2.2.2.2.2.2.2.2.2.2.2.2.2.2.2.2.2.2.2.2.2.2.2.2.2.2.2.2.2.2.2.2.2.2.2.2.2.2.2.2.2.2.2.2.2.2.2.2.2.2.2.2.2.2.2.2.2.2.1)) → hp' (v + 4) = some (.inr (7, [.ref (v + 5), .ref (v + 6), .int out.2.2.2.2.2.2.2.2.2.2.2.2.2.2.2.2.2.2.2.2.2.2.2.2.2.2.2.2.2.2.2.2.2.2.2.2.2.2.2.2.2.2.2.2.2.2.2.2.2.2.2.2.2.2.2.2.2.2.2.2.2.2.1])) → hp' (v + 5) = some (.inl (kC E 0, 6, .inl out.2.2.2.2.2.2.2.2.2.2.2.2.2.2.2.2.2.2.2.2.2.2.2.2.2.2.2.2.2.2.2.2.2.2.2.2.2.2.2.2.2.2.2.2.2.2.2.2.2.2.2.2.2.2.2.2.2.2.2.2.2.2.2.1)) → hp' (v + 6) = some (.inl (kC E 0, 24, .inl out.2.2.2.2.2.2.2.2.2.2.2.2.2.2.2.2.2.2.2.2.2.2.2.2.2.2.2.2.2.2.2.2.2.2.2.2.2.2.2.2.2.2.2.2.2.2.2.2.2.2.2.2.2.2.2.2.2.2.2.2.2.2.2.2.1)) → hp' (v + 7) = some (.inr (4, [.ref (v + 8), .ref (v + 9), .int out.2.2.2.2.2.2.2.2.2.2.2.2.2.2.2.2.2.2.2.2.2.2.2.2.2.2.2.2.2.2.2.2.2.2.2.2.2.2.2.2.2.2.2.2.2.2.2.2.2.2.2.2.2.2.2.2.2.2.2.2.2.2.2.2.2.1])) → hp' (v + 8) = some (.inl (kC E 0, 300, .inl out.2.2.2.2.2.2.2.2.2.2.2.2.2.2.2.2.2.2.2.2.2.2.2.2.2.2.2.2.2.2.2.2.2.2.2.2.2.2.2.2.2.2.2.2.2.2.2.2.2.2.2.2.2.2.2.2.2.2.2.2.2.2.2.2.2.2.1)) → hp' (v + 9) = some (.inl (kC E 0, 432, .inl out.2.2.2.2.2.2.2.2.2.2.2.2.2.2.2.2.2.2.2.2.2.2.2.2.2.2.2.2.2.2.2.2.2.2.2.2.2.2.2.2.2.2.2.2.2.2.2.2.2.2.2.2.2.2.2.2.2.2.2.2.2.2.2.2.2.2.2.1)) → hp' (v + 10) = some (.inr (6, [.ref (v + 11), .ref (v + 12), .int out.2.2.2.2.2.2.2.2.2.2.2.2.2.2.2.2.2.2.2.2.2.2.2.2.2.2.2.2.2.2.2.2.2.2.2.2.2.2.2.2.2.2.2.2.2.2.2.2.2.2.2.2.2.2.2.2.2.2.2.2.2.2.2.2.2.2.2.2.1])) → hp' (v + 11) = some (.inl (kC E 0, 36, .inl out.2.2.2.2.2.2.2.2.2.2.2.2.2.2.2.2.2.2.2.2.2.2.2.2.2.2.2.2.2.2.2.2.2.2.2.2.2.2.2.2.2.2.2.2.2.2.2.2.2.2.2.2.2.2.2.2.2.2.2.2.2.2.2.2.2.2.2.2.2.1)) → hp' (v + 12) = some (.inl (kC E 0, 36, .inl out.2.2.2.2.2.2.2.2.2.2.2.2.2.2.2.2.2.2.2.2.2.2.2.2.2.2.2.2.2.2.2.2.2.2.2.2.2.2.2.2.2.2.2.2.2.2.2.2.2.2.2.2.2.2.2.2.2.2.2.2.2.2.2.2.2.2.2.2.2.2)) → (∀ q, q ≠ (x + 3) → q ≠ (x + 4) → q ≠ (x + 5) → q ≠ (x + 6) → q ≠ (x + 7) → q ≠ (x + 8) → q ≠ (x + 9) → q ≠ (x + 10) → q ≠ (x + 11) → q ≠ (x + 12) → q ≠ (x + 13) → q ≠ (x + 14) → q ≠ (x + 15) → q ≠ (x + 18) → q ≠ (x + 126) → q ≠ (x + 128) → q ≠ (x + 129) → q ≠ (x + 130) → q ≠ (x + 131) → q ≠ (x + 132) → q ≠ (x + 133) → q ≠ (x + 134) → q ≠ (x + 135) → q ≠ (x + 136) → q ≠ (x + 137) → q ≠ (x + 138) → q ≠ (x + 139) → q ≠ (x + 140) → q ≠ (x + 141) → q ≠ (x + 142) → q ≠ y → q ≠ (y + 1) → q ≠ (y + 2) → q ≠ (y + 3) → q ≠ (y + 6) → q ≠ o → q ≠ v → q ≠ (v + 1) → q ≠ (v + 2) → q ≠ (v + 3) → q ≠ (v + 4) → q ≠ (v + 5) → q ≠ (v + 6) → q ≠ (v + 7) → q ≠ (v + 8) → q ≠ (v + 9) → q ≠ (v + 10) → q ≠ (v + 11) → q ≠ (v + 12) → hp' q = hp q) → AW E p l e room_1 s m #[Value.ref b] below meth c 10 Q hp' none (k0 + 8) (n0 + 48) 3407 [(0, .ref b), (1, .ref x), (2, .ref y), (3, .ref o), (4, .ref od), (5, .int l5)] []) : AW E p l e room_1 s m #[Value.ref b] below meth c 10 Q hp none (k0 + 0) (n0 + 0) 476 [(0, .ref b), (1, .ref x), (2, .ref y), (3, .ref o), (4, .ref od), (5, .int l5)] [] := by
  unfold f_W2 at h
  refine A_aload_n X dL_law_476 1 rfl ?_
  refine A_aload_n X dL_law_477 3 rfl ?_
  obtain ⟨t1, hct1, h⟩ := bind_o h
  refine A_cX (k' := (k0 + 1)) (n' := (n0 + 6)) rfl rfl (A_runSH (rest := []) X dL_law_478 (c_L_load g0 g3 g4 g5 g6 g7 g8 g9 g10 g11 g12 g13 g14 g15 g18 g19 g22 g23 g24 g25 g26 g27 g28 g29 g30 g31 g32 g33 g34 g35 g36 g37 g38 g48 g50 g51 g52 g53 g54 g55 g56 g57 g58 g59 g60 g61 g62 hvv (by omega) (by omega) (by omega) (by omega) hct1) kY_L_load kw_942 ⟨(Nat.le_of_ble_eq_true rfl), (Nat.le_of_ble_eq_true rfl), kb rfl hRk, kb rfl hRn⟩ rfl (Nat.le_of_ble_eq_true rfl)) (fun C hp1 hP => hP.elim) (fun v9 hp1 al9 hP => ?_)
  obtain ⟨rfl, k1_0, k1_1, k1_2, k1_3, k1_4, k1_5, k1_6, k1_7, k1_8, k1_9, k1_10, k1_11, k1_12, k1_13, k1_14, k1_15, k1_16, k1_17, k1_18, k1_19, k1_20, k1_21, k1_22, k1_23, k1_24, k1_25, k1_26, k1_27, k1_28, k1_29, k1_30, k1_31, k1_32, k1_33, k1_34, k1_35, k1_36, k1_37, k1_38, k1_39, k1_40, k1_41, k1_42, k1_43, n1, rfl⟩ := hP
  replace k1_0 : hp1 (x + 3) = some (.inr (2, [.ref (x + 4), .ref (x + 7), .ref (x + 10), .ref (x + 13), .int t1.2.1, .int t1.2.2.1, .int t1.2.2.2.1])) := k1_0
  replace k1_1 : hp1 (x + 4) = some (.inr (0, [.ref (x + 5), .ref (x + 6), .int t1.2.2.2.2.1])) := k1_1
  replace k1_2 : hp1 (x + 5) = some (.inl (kC E 0, 6, .inl t1.2.2.2.2.2.1)) := k1_2
  replace k1_3 : hp1 (x + 6) = some (.inl (kC E 0, 72, .inl t1.2.2.2.2.2.2.1)) := k1_3
  replace k1_4 : hp1 (x + 7) = some (.inr (7, [.ref (x + 8), .ref (x + 9), .int t1.2.2.2.2.2.2.2.1])) := k1_4
  replace k1_5 : hp1 (x + 8) = some (.inl (kC E 0, 6, .inl t1.2.2.2.2.2.2.2.2.1)) := k1_5
  replace k1_6 : hp1 (x + 9) = some (.inl (kC E 0, 24, .inl t1.2.2.2.2.2.2.2.2.2.1)) := k1_6
  replace k1_7 : hp1 (x + 10) = some (.inr (4, [.ref (x + 11), .ref (x + 12), .int t1.2.2.2.2.2.2.2.2.2.2.1])) := k1_7
  replace k1_8 : hp1 (x + 11) = some (.inl (kC E 0, 300, .inl t1.2.2.2.2.2.2.2.2.2.2.2.1)) := k1_8
  replace k1_9 : hp1 (x + 12) = some (.inl (kC E 0, 432, .inl t1.2.2.2.2.2.2.2.2.2.2.2.2.1)) := k1_9
  replace k1_10 : hp1 (x + 13) = some (.inr (6, [.ref (x + 14), .ref (x + 15), .int t1.2.2.2.2.2.2.2.2.2.2.2.2.2.1])) := k1_10
  replace k1_11 : hp1 (x + 14) = some (.inl (kC E 0, 36, .inl t1.2.2.2.2.2.2.2.2.2.2.2.2.2.2.1)) := k1_11
  replace k1_12 : hp1 (x + 15) = some (.inl (kC E 0, 36, .inl t1.2.2.2.2.2.2.2.2.2.2.2.2.2.2.2.1)) := k1_12
  replace k1_13 : hp1 (x + 18) = some (.inr (3, [.ref (x + 19), .int t1.2.2.2.2.2.2.2.2.2.2.2.2.2.2.2.2.1, .int t1.2.2.2.2.2.2.2.2.2.2.2.2.2.2.2.2.2.1])) := k1_13
  replace k1_14 : hp1 (x + 126) = some (.inr (8, [.ref (x + 127), .int t1.2.2.2.2.2.2.2.2.2.2.2.2.2.2.2.2.2.2.1])) := k1_14
  replace k1_15 : hp1 (x + 128) = some (.inr (5, [.ref (x + 126), .ref (x + 142), .ref (x + 129), .int t1.2.2.2.2.2.2.2.2.2.2.2.2.2.2.2.2.2.2.2.1, .int t1.2.2.2.2.2.2.2.2.2.2.2.2.2.2.2.2.2.2.2.2.1])) := k1_15
  replace k1_16 : hp1 (x + 129) = some (.inr (2, [.ref (x + 130), .ref (x + 133), .ref (x + 136), .ref (x + 139), .int t1.2.2.2.2.2.2.2.2.2.2.2.2.2.2.2.2.2.2.2.2.2.1, .int t1.2.2.2.2.2.2.2.2.2.2.2.2.2.2.2.2.2.2.2.2.2.2.1, .int t1.2.2.2.2.2.2.2.2.2.2.2.2.2.2.2.2.2.2.2.2.2.2.2.1])) := k1_16
  replace k1_17 : hp1 (x + 130) = some (.inr (0, [.ref (x + 131), .ref (x + 132), .int t1.2.2.2.2.2.2.2.2.2.2.2.2.2.2.2.2.2.2.2.2.2.2.2.2.1])) := k1_17
  replace k1_18 : hp1 (x + 131) = some (.inl (kC E 0, 6, .inl t1.2.2.2.2.2.2.2.2.2.2.2.2.2.2.2.2.2.2.2.2.2.2.2.2.2.1)) := k1_18
  replace k1_19 : hp1 (x + 132) = some (.inl (kC E 0, 72, .inl t1.2.2.2.2.2.2.2.2.2.2.2.2.2.2.2.2.2.2.2.2.2.2.2.2.2.2.1)) := k1_19
  replace k1_20 : hp1 (x + 133) = some (.inr (7, [.ref (x + 134), .ref (x + 135), .int t1.2.2.2.2.2.2.2.2.2.2.2.2.2.2.2.2.2.2.2.2.2.2.2.2.2.2.2.1])) := k1_20
  replace k1_21 : hp1 (x + 134) = some (.inl (kC E 0, 6, .inl t1.2.2.2.2.2.2.2.2.2.2.2.2.2.2.2.2.2.2.2.2.2.2.2.2.2.2.2.2.1)) := k1_21
  replace k1_22 : hp1 (x + 135) = some (.inl (kC E 0, 24, .inl t1.2.2.2.2.2.2.2.2.2.2.2.2.2.2.2.2.2.2.2.2.2.2.2.2.2.2.2.2.2.1)) := k1_22
  replace k1_23 : hp1 (x + 136) = some (.inr (4, [.ref (x + 137), .ref (x + 138), .int t1.2.2.2.2.2.2.2.2.2.2.2.2.2.2.2.2.2.2.2.2.2.2.2.2.2.2.2.2.2.2.1])) := k1_23
  replace k1_24 : hp1 (x + 137) = some (.inl (kC E 0, 300, .inl t1.2.2.2.2.2.2.2.2.2.2.2.2.2.2.2.2.2.2.2.2.2.2.2.2.2.2.2.2.2.2.2.1)) := k1_24
  replace k1_25 : hp1 (x + 138) = some (.inl (kC E 0, 432, .inl t1.2.2.2.2.2.2.2.2.2.2.2.2.2.2.2.2.2.2.2.2.2.2.2.2.2.2.2.2.2.2.2.2.1)) := k1_25
  replace k1_26 : hp1 (x + 139) = some (.inr (6, [.ref (x + 140), .ref (x + 141), .int t1.2.2.2.2.2.2.2.2.2.2.2.2.2.2.2.2.2.2.2.2.2.2.2.2.2.2.2.2.2.2.2.2.2.1])) := k1_26
  replace k1_27 : hp1 (x + 140) = some (.inl (kC E 0, 36, .inl t1.2.2.2.2.2.2.2.2.2.2.2.2.2.2.2.2.2.2.2.2.2.2.2.2.2.2.2.2.2.2.2.2.2.2.1)) := k1_27
  replace k1_28 : hp1 (x + 141) = some (.inl (kC E 0, 36, .inl t1.2.2.2.2.2.2.2.2.2.2.2.2.2.2.2.2.2.2.2.2.2.2.2.2.2.2.2.2.2.2.2.2.2.2.2.1)) := k1_28
  replace k1_29 : hp1 (x + 142) = some (.inr (9, [.ref (x + 126), .int t1.2.2.2.2.2.2.2.2.2.2.2.2.2.2.2.2.2.2.2.2.2.2.2.2.2.2.2.2.2.2.2.2.2.2.2.2.1, .int t1.2.2.2.2.2.2.2.2.2.2.2.2.2.2.2.2.2.2.2.2.2.2.2.2.2.2.2.2.2.2.2.2.2.2.2.2.2.1, .int t1.2.2.2.2.2.2.2.2.2.2.2.2.2.2.2.2.2.2.2.2.2.2.2.2.2.2.2.2.2.2.2.2.2.2.2.2.2.2.1, .int t1.2.2.2.2.2.2.2.2.2.2.2.2.2.2.2.2.2.2.2.2.2.2.2.2.2.2.2.2.2.2.2.2.2.2.2.2.2.2.2.1])) := k1_29
  replace k1_30 : hp1 o = some (.inl (kC E 1, 1, .inr (.inl t1.2.2.2.2.2.2.2.2.2.2.2.2.2.2.2.2.2.2.2.2.2.2.2.2.2.2.2.2.2.2.2.2.2.2.2.2.2.2.2.2.1))) := k1_30
  replace k1_31 : hp1 v = some (.inr (2, [.ref (v + 1), .ref (v + 4), .ref (v + 7), .ref (v + 10), .int t1.2.2.2.2.2.2.2.2.2.2.2.2.2.2.2.2.2.2.2.2.2.2.2.2.2.2.2.2.2.2.2.2.2.2.2.2.2.2.2.2.2.1, .int t1.2.2.2.2.2.2.2.2.2.2.2.2.2.2.2.2.2.2.2.2.2.2.2.2.2.2.2.2.2.2.2.2.2.2.2.2.2.2.2.2.2.2.1, .int t1.2.2.2.2.2.2.2.2.2.2.2.2.2.2.2.2.2.2.2.2.2.2.2.2.2.2.2.2.2.2.2.2.2.2.2.2.2.2.2.2.2.2.2.1])) := k1_31
  replace k1_32 : hp1 (v + 1) = some (.inr (0, [.ref (v + 2), .ref (v + 3), .int t1.2.2.2.2.2.2.2.2.2.2.2.2.2.2.2.2.2.2.2.2.2.2.2.2.2.2.2.2.2.2.2.2.2.2.2.2.2.2.2.2.2.2.2.2.1])) := k1_32
  replace k1_33 : hp1 (v + 2) = some (.inl (kC E 0, 6, .inl t1.2.2.2.2.2.2.2.2.2.2.2.2.2.2.2.2.2.2.2.2.2.2.2.2.2.2.2.2.2.2.2.2.2.2.2.2.2.2.2.2.2.2.2.2.2.1)) := k1_33
  replace k1_34 : hp1 (v + 3) = some (.inl (kC E 0, 72, .inl t1.2.2.2.2.2.2.2.2.2.2.2.2.2.2.2.2.2.2.2.2.2.2.2.2.2.2.2.2.2.2.2.2.2.2.2.2.2.2.2.2.2.2.2.2.2.2.1)) := k1_34
  replace k1_35 : hp1 (v + 4) = some (.inr (7, [.ref (v + 5), .ref (v + 6), .int t1.2.2.2.2.2.2.2.2.2.2.2.2.2.2.2.2.2.2.2.2.2.2.2.2.2.2.2.2.2.2.2.2.2.2.2.2.2.2.2.2.2.2.2.2.2.2.2.1])) := k1_35
  replace k1_36 : hp1 (v + 5) = some (.inl (kC E 0, 6, .inl t1.2.2.2.2.2.2.2.2.2.2.2.2.2.2.2.2.2.2.2.2.2.2.2.2.2.2.2.2.2.2.2.2.2.2.2.2.2.2.2.2.2.2.2.2.2.2.2.2.1)) := k1_36
  replace k1_37 : hp1 (v + 6) = some (.inl (kC E 0, 24, .inl t1.2.2.2.2.2.2.2.2.2.2.2.2.2.2.2.2.2.2.2.2.2.2.2.2.2.2.2.2.2.2.2.2.2.2.2.2.2.2.2.2.2.2.2.2.2.2.2.2.2.1)) := k1_37
  replace k1_38 : hp1 (v + 7) = some (.inr (4, [.ref (v + 8), .ref (v + 9), .int t1.2.2.2.2.2.2.2.2.2.2.2.2.2.2.2.2.2.2.2.2.2.2.2.2.2.2.2.2.2.2.2.2.2.2.2.2.2.2.2.2.2.2.2.2.2.2.2.2.2.2.1])) := k1_38
  replace k1_39 : hp1 (v + 8) = some (.inl (kC E 0, 300, .inl t1.2.2.2.2.2.2.2.2.2.2.2.2.2.2.2.2.2.2.2.2.2.2.2.2.2.2.2.2.2.2.2.2.2.2.2.2.2.2.2.2.2.2.2.2.2.2.2.2.2.2.2.1)) := k1_39
  replace k1_40 : hp1 (v + 9) = some (.inl (kC E 0, 432, .inl t1.2.2.2.2.2.2.2.2.2.2.2.2.2.2.2.2.2.2.2.2.2.2.2.2.2.2.2.2.2.2.2.2.2.2.2.2.2.2.2.2.2.2.2.2.2.2.2.2.2.2.2.2.1)) := k1_40
  replace k1_41 : hp1 (v + 10) = some (.inr (6, [.ref (v + 11), .ref (v + 12), .int t1.2.2.2.2.2.2.2.2.2.2.2.2.2.2.2.2.2.2.2.2.2.2.2.2.2.2.2.2.2.2.2.2.2.2.2.2.2.2.2.2.2.2.2.2.2.2.2.2.2.2.2.2.2.1])) := k1_41
  replace k1_42 : hp1 (v + 11) = some (.inl (kC E 0, 36, .inl t1.2.2.2.2.2.2.2.2.2.2.2.2.2.2.2.2.2.2.2.2.2.2.2.2.2.2.2.2.2.2.2.2.2.2.2.2.2.2.2.2.2.2.2.2.2.2.2.2.2.2.2.2.2.2.1)) := k1_42
  replace k1_43 : hp1 (v + 12) = some (.inl (kC E 0, 36, .inl t1.2.2.2.2.2.2.2.2.2.2.2.2.2.2.2.2.2.2.2.2.2.2.2.2.2.2.2.2.2.2.2.2.2.2.2.2.2.2.2.2.2.2.2.2.2.2.2.2.2.2.2.2.2.2.2)) := k1_43
  refine A_st (st' := [.int t1.1]) rfl ?_
  refine A_istore (L' := [(6, .int t1.1), (0, .ref b), (1, .ref x), (2, .ref y), (3, .ref o), (4, .ref od), (5, .int l5)]) X dL_law_481 (by decide) rfl ?_
  refine A_aload_n X dL_law_483 3 rfl ?_
  obtain ⟨t2, hct2, h⟩ := bind_o h
  refine A_c (k' := (k0 + 1)) (n' := (n0 + 6)) rfl rfl (A_runV (rest := []) X dL_law_484 (c_X11_load ((n1 _ (by omega) (by omega) (by omega) (by omega) (by omega) (by omega) (by omega) (by omega) (by omega) (by omega) (by omega) (by omega) (by omega) (by omega) (by omega) (by omega) (by omega) (by omega) (by omega) (by omega) (by omega) (by omega) (by omega) (by omega) (by omega) (by omega) (by omega) (by omega) (by omega) (by omega) (by omega) (by omega) (by omega) (by omega) (by omega) (by omega) (by omega) (by omega) (by omega) (by omega) (by omega) (by omega) (by omega) (by omega)).trans g39) ((n1 _ (by omega) (by omega) (by omega) (by omega) (by omega) (by omega) (by omega) (by omega) (by omega) (by omega) (by omega) (by omega) (by omega) (by omega) (by omega) (by omega) (by omega) (by omega) (by omega) (by omega) (by omega) (by omega) (by omega) (by omega) (by omega) (by omega) (by omega) (by omega) (by omega) (by omega) (by omega) (by omega) (by omega) (by omega) (by omega) (by omega) (by omega) (by omega) (by omega) (by omega) (by omega) (by omega) (by omega) (by omega)).trans g40) ((n1 _ (by omega) (by omega) (by omega) (by omega) (by omega) (by omega) (by omega) (by omega) (by omega) (by omega) (by omega) (by omega) (by omega) (by omega) (by omega) (by omega) (by omega) (by omega) (by omega) (by omega) (by omega) (by omega) (by omega) (by omega) (by omega) (by omega) (by omega) (by omega) (by omega) (by omega) (by omega) (by omega) (by omega) (by omega) (by omega) (by omega) (by omega) (by omega) (by omega) (by omega) (by omega) (by omega) (by omega) (by omega)).trans g41) ((n1 _ (by omega) (by omega) (by omega) (by omega) (by omega) (by omega) (by omega) (by omega) (by omega) (by omega) (by omega) (by omega) (by omega) (by omega) (by omega) (by omega) (by omega) (by omega) (by omega) (by omega) (by omega) (by omega) (by omega) (by omega) (by omega) (by omega) (by omega) (by omega) (by omega) (by omega) (by omega) (by omega) (by omega) (by omega) (by omega) (by omega) (by omega) (by omega) (by omega) (by omega) (by omega) (by omega) (by omega) (by omega)).trans g42) ((n1 _ (by omega) (by omega) (by omega) (by omega) (by omega) (by omega) (by omega) (by omega) (by omega) (by omega) (by omega) (by omega) (by omega) (by omega) (by omega) (by omega) (by omega) (by omega) (by omega) (by omega) (by omega) (by omega) (by omega) (by omega) (by omega) (by omega) (by omega) (by omega) (by omega) (by omega) (by omega) (by omega) (by omega) (by omega) (by omega) (by omega) (by omega) (by omega) (by omega) (by omega) (by omega) (by omega) (by omega) (by omega)).trans g45) ((n1 _ (by omega) (by omega) (by omega) (by omega) (by omega) (by omega) (by omega) (by omega) (by omega) (by omega) (by omega) (by omega) (by omega) (by omega) (by omega) (by omega) (by omega) (by omega) (by omega) (by omega) (by omega) (by omega) (by omega) (by omega) (by omega) (by omega) (by omega) (by omega) (by omega) (by omega) (by omega) (by omega) (by omega) (by omega) (by omega) (by omega) (by omega) (by omega) (by omega) (by omega) (by omega) (by omega) (by omega) (by omega)).trans g46)  hct2) kY_X11_load kw_1700 ((n1 _ (by omega) (by omega) (by omega) (by omega) (by omega) (by omega) (by omega) (by omega) (by omega) (by omega) (by omega) (by omega) (by omega) (by omega) (by omega) (by omega) (by omega) (by omega) (by omega) (by omega) (by omega) (by omega) (by omega) (by omega) (by omega) (by omega) (by omega) (by omega) (by omega) (by omega) (by omega) (by omega) (by omega) (by omega) (by omega) (by omega) (by omega) (by omega) (by omega) (by omega) (by omega) (by omega) (by omega) (by omega)).trans g39) rfl rfl ⟨(Nat.le_of_ble_eq_true rfl), (Nat.le_of_ble_eq_true rfl), kb rfl hRk, kb rfl hRn⟩ rfl (Nat.le_of_ble_eq_true rfl)) (fun v9 hp2 al9 hP => ?_)
  obtain ⟨rfl, k2_0, k2_1, k2_2, k2_3, k2_4, n2, rfl⟩ := hP
  replace k2_0 : hp2 y = some (.inr (11, [.ref (y + 1), .ref (y + 2), .ref (y + 3), .ref (y + 4), .ref (y + 5), .int t2.2.1, .int t2.2.2.1, .int t2.2.2.2.1, .ref (y + 6), .int t2.2.2.2.2.1, .ref (y + 7), .int t2.2.2.2.2.2.1, .int t2.2.2.2.2.2.2.1, .int t2.2.2.2.2.2.2.2.1, .int t2.2.2.2.2.2.2.2.2.1, .int t2.2.2.2.2.2.2.2.2.2.1, .int t2.2.2.2.2.2.2.2.2.2.2.1, .int t2.2.2.2.2.2.2.2.2.2.2.2.1, .int t2.2.2.2.2.2.2.2.2.2.2.2.2.1, .ref (y + 8), .int m_outputLength])) := k2_0
  replace k2_1 : hp2 (y + 1) = some (.inl (kC E 0, 1399, .inl t2.2.2.2.2.2.2.2.2.2.2.2.2.2.1)) := k2_1
  replace k2_2 : hp2 (y + 2) = some (.inl (kC E 0, 1399, .inl t2.2.2.2.2.2.2.2.2.2.2.2.2.2.2.1)) := k2_2
  replace k2_3 : hp2 (y + 3) = some (.inl (kC E 0, 11192, .inl t2.2.2.2.2.2.2.2.2.2.2.2.2.2.2.2.1)) := k2_3
  replace k2_4 : hp2 (y + 6) = some (.inl (kC E 0, 13, .inl t2.2.2.2.2.2.2.2.2.2.2.2.2.2.2.2.2)) := k2_4
  refine A_st (st' := [.int t2.1]) rfl ?_
  refine A_istore (L' := [(7, .int t2.1), (6, .int t1.1), (0, .ref b), (1, .ref x), (2, .ref y), (3, .ref o), (4, .ref od), (5, .int l5)]) X dL_law_487 (by decide) rfl ?_
  refine A_aload_n X dL_law_489 4 rfl ?_
  obtain ⟨t3, hct3, h⟩ := bind_o h
  refine A_cp (k' := (k0 + 1)) (n' := (n0 + 6)) (A_runV (rest := []) X dL_law_490 (c_X11_thrown k2_0  hct3) kY_X11_thrown kw_1668 k2_0 rfl rfl ⟨(Nat.le_of_ble_eq_true rfl), (Nat.le_of_ble_eq_true rfl), kb rfl hRk, kb rfl hRn⟩ rfl (Nat.le_of_ble_eq_true rfl)) rfl rfl ?_
  refine A_iload X dL_law_493 1 rfl ?_
  refine A_icmp_eq (tgt := 500) X dL_law_495 h (by decide) (fun hc h => ?_) (fun hc h => ?_)
  · refine A_iload X dL_law_500 1 rfl ?_
    refine A_if_ne (tgt := 517) X dL_law_502 h (by decide) (fun hc h => ?_) (fun hc h => ?_)
    · refine A_goto (tgt := 3407) X dL_law_517 (by decide) ?_
      cases h
      refine A_sub (L' := [(0, .ref b), (1, .ref x), (2, .ref y), (3, .ref o), (4, .ref od), (5, .int l5)]) [2, 3, 4, 5, 6, 7] rfl ?_
      refine A_widen (k' := (k0 + 8)) (n' := (n0 + 48)) (by omega) (by omega) ?_
      exact K ((n2 _ (by omega) (by omega) (by omega) (by omega) (by omega)).trans k1_0) ((n2 _ (by omega) (by omega) (by omega) (by omega) (by omega)).trans k1_1) ((n2 _ (by omega) (by omega) (by omega) (by omega) (by omega)).trans k1_2) ((n2 _ (by omega) (by omega) (by omega) (by omega) (by omega)).trans k1_3) ((n2 _ (by omega) (by omega) (by omega) (by omega) (by omega)).trans k1_4) ((n2 _ (by omega) (by omega) (by omega) (by omega) (by omega)).trans k1_5) ((n2 _ (by omega) (by omega) (by omega) (by omega) (by omega)).trans k1_6) ((n2 _ (by omega) (by omega) (by omega) (by omega) (by omega)).trans k1_7) ((n2 _ (by omega) (by omega) (by omega) (by omega) (by omega)).trans k1_8) ((n2 _ (by omega) (by omega) (by omega) (by omega) (by omega)).trans k1_9) ((n2 _ (by omega) (by omega) (by omega) (by omega) (by omega)).trans k1_10) ((n2 _ (by omega) (by omega) (by omega) (by omega) (by omega)).trans k1_11) ((n2 _ (by omega) (by omega) (by omega) (by omega) (by omega)).trans k1_12) ((n2 _ (by omega) (by omega) (by omega) (by omega) (by omega)).trans k1_13) ((n2 _ (by omega) (by omega) (by omega) (by omega) (by omega)).trans k1_14) ((n2 _ (by omega) (by omega) (by omega) (by omega) (by omega)).trans k1_15) ((n2 _ (by omega) (by omega) (by omega) (by omega) (by omega)).trans k1_16) ((n2 _ (by omega) (by omega) (by omega) (by omega) (by omega)).trans k1_17) ((n2 _ (by omega) (by omega) (by omega) (by omega) (by omega)).trans k1_18) ((n2 _ (by omega) (by omega) (by omega) (by omega) (by omega)).trans k1_19) ((n2 _ (by omega) (by omega) (by omega) (by omega) (by omega)).trans k1_20) ((n2 _ (by omega) (by omega) (by omega) (by omega) (by omega)).trans k1_21) ((n2 _ (by omega) (by omega) (by omega) (by omega) (by omega)).trans k1_22) ((n2 _ (by omega) (by omega) (by omega) (by omega) (by omega)).trans k1_23) ((n2 _ (by omega) (by omega) (by omega) (by omega) (by omega)).trans k1_24) ((n2 _ (by omega) (by omega) (by omega) (by omega) (by omega)).trans k1_25) ((n2 _ (by omega) (by omega) (by omega) (by omega) (by omega)).trans k1_26) ((n2 _ (by omega) (by omega) (by omega) (by omega) (by omega)).trans k1_27) ((n2 _ (by omega) (by omega) (by omega) (by omega) (by omega)).trans k1_28) ((n2 _ (by omega) (by omega) (by omega) (by omega) (by omega)).trans k1_29) k2_0 k2_1 k2_2 k2_3 k2_4 ((n2 _ (by omega) (by omega) (by omega) (by omega) (by omega)).trans k1_30) ((n2 _ (by omega) (by omega) (by omega) (by omega) (by omega)).trans k1_31) ((n2 _ (by omega) (by omega) (by omega) (by omega) (by omega)).trans k1_32) ((n2 _ (by omega) (by omega) (by omega) (by omega) (by omega)).trans k1_33) ((n2 _ (by omega) (by omega) (by omega) (by omega) (by omega)).trans k1_34) ((n2 _ (by omega) (by omega) (by omega) (by omega) (by omega)).trans k1_35) ((n2 _ (by omega) (by omega) (by omega) (by omega) (by omega)).trans k1_36) ((n2 _ (by omega) (by omega) (by omega) (by omega) (by omega)).trans k1_37) ((n2 _ (by omega) (by omega) (by omega) (by omega) (by omega)).trans k1_38) ((n2 _ (by omega) (by omega) (by omega) (by omega) (by omega)).trans k1_39) ((n2 _ (by omega) (by omega) (by omega) (by omega) (by omega)).trans k1_40) ((n2 _ (by omega) (by omega) (by omega) (by omega) (by omega)).trans k1_41) ((n2 _ (by omega) (by omega) (by omega) (by omega) (by omega)).trans k1_42) ((n2 _ (by omega) (by omega) (by omega) (by omega) (by omega)).trans k1_43) (fun q z0 z1 z2 z3 z4 z5 z6 z7 z8 z9 z10 z11 z12 z13 z14 z15 z16 z17 z18 z19 z20 z21 z22 z23 z24 z25 z26 z27 z28 z29 z30 z31 z32 z33 z34 z35 z36 z37 z38 z39 z40 z41 z42 z43 z44 z45 z46 z47 z48 => ((n2 q z30 z31 z32 z33 z34).trans (n1 q z0 z1 z2 z3 z4 z5 z6 z7 z8 z9 z10 z11 z12 z13 z14 z15 z16 z17 z18 z19 z20 z21 z22 z23 z24 z25 z26 z27 z28 z29 z35 z36 z37 z38 z39 z40 z41 z42 z43 z44 z45 z46 z47 z48)))
    · refine A_aload_n X dL_law_505 5 rfl ?_
      refine A_iconst (v := 0) X dL_law_506 (by decide) ?_
      refine A_lald X dL_law_507 ((n2 _ (by omega) (by omega) (by omega) (by omega) (by omega)).trans k1_30) (by decide) ?_
      refine A_iload X dL_law_508 0 rfl ?_
      refine A_i2l X dL_law_510 ?_
      refine A_lcmp X dL_law_511 ?_
      refine A_if_eq (tgt := 517) X dL_law_512 h (by decide) (fun hc h => ?_) (fun hc h => ?_)
      · refine A_goto (tgt := 3407) X dL_law_517 (by decide) ?_
        cases h
        refine A_sub (L' := [(0, .ref b), (1, .ref x), (2, .ref y), (3, .ref o), (4, .ref od), (5, .int l5)]) [2, 3, 4, 5, 6, 7] rfl ?_
        refine A_widen (k' := (k0 + 8)) (n' := (n0 + 48)) (by omega) (by omega) ?_
        exact K ((n2 _ (by omega) (by omega) (by omega) (by omega) (by omega)).trans k1_0) ((n2 _ (by omega) (by omega) (by omega) (by omega) (by omega)).trans k1_1) ((n2 _ (by omega) (by omega) (by omega) (by omega) (by omega)).trans k1_2) ((n2 _ (by omega) (by omega) (by omega) (by omega) (by omega)).trans k1_3) ((n2 _ (by omega) (by omega) (by omega) (by omega) (by omega)).trans k1_4) ((n2 _ (by omega) (by omega) (by omega) (by omega) (by omega)).trans k1_5) ((n2 _ (by omega) (by omega) (by omega) (by omega) (by omega)).trans k1_6) ((n2 _ (by omega) (by omega) (by omega) (by omega) (by omega)).trans k1_7) ((n2 _ (by omega) (by omega) (by omega) (by omega) (by omega)).trans k1_8) ((n2 _ (by omega) (by omega) (by omega) (by omega) (by omega)).trans k1_9) ((n2 _ (by omega) (by omega) (by omega) (by omega) (by omega)).trans k1_10) ((n2 _ (by omega) (by omega) (by omega) (by omega) (by omega)).trans k1_11) ((n2 _ (by omega) (by omega) (by omega) (by omega) (by omega)).trans k1_12) ((n2 _ (by omega) (by omega) (by omega) (by omega) (by omega)).trans k1_13) ((n2 _ (by omega) (by omega) (by omega) (by omega) (by omega)).trans k1_14) ((n2 _ (by omega) (by omega) (by omega) (by omega) (by omega)).trans k1_15) ((n2 _ (by omega) (by omega) (by omega) (by omega) (by omega)).trans k1_16) ((n2 _ (by omega) (by omega) (by omega) (by omega) (by omega)).trans k1_17) ((n2 _ (by omega) (by omega) (by omega) (by omega) (by omega)).trans k1_18) ((n2 _ (by omega) (by omega) (by omega) (by omega) (by omega)).trans k1_19) ((n2 _ (by omega) (by omega) (by omega) (by omega) (by omega)).trans k1_20) ((n2 _ (by omega) (by omega) (by omega) (by omega) (by omega)).trans k1_21) ((n2 _ (by omega) (by omega) (by omega) (by omega) (by omega)).trans k1_22) ((n2 _ (by omega) (by omega) (by omega) (by omega) (by omega)).trans k1_23) ((n2 _ (by omega) (by omega) (by omega) (by omega) (by omega)).trans k1_24) ((n2 _ (by omega) (by omega) (by omega) (by omega) (by omega)).trans k1_25) ((n2 _ (by omega) (by omega) (by omega) (by omega) (by omega)).trans k1_26) ((n2 _ (by omega) (by omega) (by omega) (by omega) (by omega)).trans k1_27) ((n2 _ (by omega) (by omega) (by omega) (by omega) (by omega)).trans k1_28) ((n2 _ (by omega) (by omega) (by omega) (by omega) (by omega)).trans k1_29) k2_0 k2_1 k2_2 k2_3 k2_4 ((n2 _ (by omega) (by omega) (by omega) (by omega) (by omega)).trans k1_30) ((n2 _ (by omega) (by omega) (by omega) (by omega) (by omega)).trans k1_31) ((n2 _ (by omega) (by omega) (by omega) (by omega) (by omega)).trans k1_32) ((n2 _ (by omega) (by omega) (by omega) (by omega) (by omega)).trans k1_33) ((n2 _ (by omega) (by omega) (by omega) (by omega) (by omega)).trans k1_34) ((n2 _ (by omega) (by omega) (by omega) (by omega) (by omega)).trans k1_35) ((n2 _ (by omega) (by omega) (by omega) (by omega) (by omega)).trans k1_36) ((n2 _ (by omega) (by omega) (by omega) (by omega) (by omega)).trans k1_37) ((n2 _ (by omega) (by omega) (by omega) (by omega) (by omega)).trans k1_38) ((n2 _ (by omega) (by omega) (by omega) (by omega) (by omega)).trans k1_39) ((n2 _ (by omega) (by omega) (by omega) (by omega) (by omega)).trans k1_40) ((n2 _ (by omega) (by omega) (by omega) (by omega) (by omega)).trans k1_41) ((n2 _ (by omega) (by omega) (by omega) (by omega) (by omega)).trans k1_42) ((n2 _ (by omega) (by omega) (by omega) (by omega) (by omega)).trans k1_43) (fun q z0 z1 z2 z3 z4 z5 z6 z7 z8 z9 z10 z11 z12 z13 z14 z15 z16 z17 z18 z19 z20 z21 z22 z23 z24 z25 z26 z27 z28 z29 z30 z31 z32 z33 z34 z35 z36 z37 z38 z39 z40 z41 z42 z43 z44 z45 z46 z47 z48 => ((n2 q z30 z31 z32 z33 z34).trans (n1 q z0 z1 z2 z3 z4 z5 z6 z7 z8 z9 z10 z11 z12 z13 z14 z15 z16 z17 z18 z19 z20 z21 z22 z23 z24 z25 z26 z27 z28 z29 z35 z36 z37 z38 z39 z40 z41 z42 z43 z44 z45 z46 z47 z48)))
      · refine A_iconst (v := 0) X dL_law_515 (by decide) ?_
        cases h
  · refine A_iconst (v := 0) X dL_law_498 (by decide) ?_
    cases h
set_option maxHeartbeats 8000000 in
set_option maxRecDepth 100000 in
theorem c_W3 {E : KE} {p : Program} {l : Launch} {e : Env} {s : State} {m : MethodId} {b L9 : Nat} {xs : Nat → Int32} {below : List Frame} {meth : Method} {c : Code} {hp : Hp} {k0 n0 : Nat} {Q : State → Prop} {x : Nat} {y : Nat} {o : Nat} {od : Nat} {ec : Int32} {eo : Int32} {m_undoable : Int32} {m_undoStart : Int32} {m_thrown : Int32} {m_oftenAll : Int32} {m_inputLength : Int32} {m_position : Int32} {m_start : Int32} {m_token : Int32} {m_value : Int32} {m_letters : Int32} {m_code : Int32} {m_place : Int32} {m_outputLength : Int32} {l5 : Int32} {out : Int32} (X : CX E p l s m #[Value.ref b] meth c "DiceAuditLaw" cL_law 10) (hX : va_X b L9 xs s s.heap) (hbl : b < s.heap.size) (hbA : ¬ kA E b) (hi1 : vp_in (l5 + 1) L9) (hi2 : vp_in (l5 + 2) L9) (hi3 : vp_in (l5 + 3) L9) (hi4 : vp_in (l5 + 4) L9) (hi5 : vp_in (l5 + 5) L9) (hRk : k0 + 8 ≤ room_1.cells) (hRn : n0 + 48 ≤ room_1.slots) (g0 : hp x = some (.inr (10, [.ref (x + 126), .ref (x + 128), .ref (x + 1), .ref (x + 3), .ref (x + 16), .ref (x + 18), .ref (x + 124), .ref (x + 125)]))) (g24 : hp (x + 128) = some (.inr (5, [.ref (x + 126), .ref (x + 142), .ref (x + 129), .int ec, .int eo]))) (g39 : hp y = some (.inr (11, [.ref (y + 1), .ref (y + 2), .ref (y + 3), .ref (y + 4), .ref (y + 5), .int m_undoable, .int m_undoStart, .int m_thrown, .ref (y + 6), .int m_oftenAll, .ref (y + 7), .int m_inputLength, .int m_position, .int m_start, .int m_token, .int m_value, .int m_letters, .int m_code, .int m_place, .ref (y + 8), .int m_outputLength]))) (hz0 : (x + 129) ≤ y ∨ (y + 1) ≤ x) (h : f_W3 xs l5 ec m_code m_thrown = some out) (K : ∀ {hp' : Hp}, hp' y = some (.inr (11, [.ref (y + 1), .ref (y + 2), .ref (y + 3), .ref (y + 4), .ref (y + 5), .int m_undoable, .int m_undoStart, .int out, .ref (y + 6), .int m_oftenAll, .ref (y + 7), .int m_inputLength, .int m_position, .int m_start, .int m_token, .int m_value, .int m_letters, .int m_code, .int m_place, .ref (y + 8), .int m_outputLength])) → (∀ q, q ≠ y → hp' q = hp q) → AW E p l e room_1 s m #[Value.ref b] below meth c 10 Q hp' none (k0 + 8) (n0 + 48) 3407 [(0, .ref b), (1, .ref x), (2, .ref y), (3, .ref o), (4, .ref od), (5, .int l5)] []) : AW E p l e room_1 s m #[Value.ref b] below meth c 10 Q hp none (k0 + 0) (n0 + 0) 520 [(0, .ref b), (1, .ref x), (2, .ref y), (3, .ref o), (4, .ref od), (5, .int l5)] [] := by
  unfold f_W3 at h
  refine A_aload_n X dL_law_520 1 rfl ?_
  obtain ⟨t1, hct1, h⟩ := bind_o h
  refine A_cp (k' := (k0 + 0)) (n' := (n0 + 0)) (A_runV (rest := []) X dL_law_521 (c_X10_errorCode g0 g24  hct1) kY_X10_errorCode kw_677 g0 rfl rfl ⟨(Nat.le_of_ble_eq_true rfl), (Nat.le_of_ble_eq_true rfl), kb rfl hRk, kb rfl hRn⟩ rfl (Nat.le_of_ble_eq_true rfl)) rfl rfl ?_
  refine A_aload_n X dL_law_524 2 rfl ?_
  obtain ⟨t2, hct2, h⟩ := bind_o h
  refine A_c (k' := (k0 + 0)) (n' := (n0 + 0)) rfl rfl (A_runV (rest := [.int t1]) X dL_law_525 (c_X11_errorCode g39  hct2) kY_X11_errorCode kw_1692 g39 rfl rfl ⟨(Nat.le_of_ble_eq_true rfl), (Nat.le_of_ble_eq_true rfl), kb rfl hRk, kb rfl hRn⟩ rfl (Nat.le_of_ble_eq_true rfl)) (fun v9 hp1 al9 hP => ?_)
  obtain ⟨rfl, k1_0, n1, rfl⟩ := hP
  replace k1_0 : hp1 y = some (.inr (11, [.ref (y + 1), .ref (y + 2), .ref (y + 3), .ref (y + 4), .ref (y + 5), .int m_undoable, .int m_undoStart, .int t2.2, .ref (y + 6), .int m_oftenAll, .ref (y + 7), .int m_inputLength, .int m_position, .int m_start, .int m_token, .int m_value, .int m_letters, .int m_code, .int m_place, .ref (y + 8), .int m_outputLength])) := k1_0
  refine A_st (st' := [.int t2.1, .int t1]) rfl ?_
  refine A_icmp_eq (tgt := 3407) X dL_law_528 h (by decide) (fun hc h => ?_) (fun hc h => ?_)
  · cases h
    refine A_sub (L' := [(0, .ref b), (1, .ref x), (2, .ref y), (3, .ref o), (4, .ref od), (5, .int l5)]) [0, 1, 2, 3, 4, 5] rfl ?_
    refine A_widen (k' := (k0 + 8)) (n' := (n0 + 48)) (by omega) (by omega) ?_
    exact K k1_0 (fun q z0 => (n1 q z0))
  · refine A_iconst (v := 0) X dL_law_531 (by decide) ?_
    cases h
set_option maxHeartbeats 8000000 in
set_option maxRecDepth 100000 in
theorem c_W4 {E : KE} {p : Program} {l : Launch} {e : Env} {s : State} {m : MethodId} {b L9 : Nat} {xs : Nat → Int32} {below : List Frame} {meth : Method} {c : Code} {hp : Hp} {k0 n0 : Nat} {Q : State → Prop} {x : Nat} {y : Nat} {o : Nat} {od : Nat} {ec : Int32} {eo : Int32} {m_undoable : Int32} {m_undoStart : Int32} {m_thrown : Int32} {m_oftenAll : Int32} {m_inputLength : Int32} {m_position : Int32} {m_start : Int32} {m_token : Int32} {m_value : Int32} {m_letters : Int32} {m_code : Int32} {m_place : Int32} {m_outputLength : Int32} {l5 : Int32} {out : Int32} (X : CX E p l s m #[Value.ref b] meth c "DiceAuditLaw" cL_law 10) (hX : va_X b L9 xs s s.heap) (hbl : b < s.heap.size) (hbA : ¬ kA E b) (hi1 : vp_in (l5 + 1) L9) (hi2 : vp_in (l5 + 2) L9) (hi3 : vp_in (l5 + 3) L9) (hi4 : vp_in (l5 + 4) L9) (hi5 : vp_in (l5 + 5) L9) (hRk : k0 + 8 ≤ room_1.cells) (hRn : n0 + 48 ≤ room_1.slots) (g0 : hp x = some (.inr (10, [.ref (x + 126), .ref (x + 128), .ref (x + 1), .ref (x + 3), .ref (x + 16), .ref (x + 18), .ref (x + 124), .ref (x + 125)]))) (g24 : hp (x + 128) = some (.inr (5, [.ref (x + 126), .ref (x + 142), .ref (x + 129), .int ec, .int eo]))) (g39 : hp y = some (.inr (11, [.ref (y + 1), .ref (y + 2), .ref (y + 3), .ref (y + 4), .ref (y + 5), .int m_undoable, .int m_undoStart, .int m_thrown, .ref (y + 6), .int m_oftenAll, .ref (y + 7), .int m_inputLength, .int m_position, .int m_start, .int m_token, .int m_value, .int m_letters, .int m_code, .int m_place, .ref (y + 8), .int m_outputLength]))) (hz0 : (x + 129) ≤ y ∨ (y + 1) ≤ x) (h : f_W4 xs l5 eo m_place m_thrown = some out) (K : ∀ {hp' : Hp}, hp' y = some (.inr (11, [.ref (y + 1), .ref (y + 2), .ref (y + 3), .ref (y + 4), .ref (y + 5), .int m_undoable, .int m_undoStart, .int out, .ref (y + 6), .int m_oftenAll, .ref (y + 7), .int m_inputLength, .int m_position, .int m_start, .int m_token, .int m_value, .int m_letters, .int m_code, .int m_place, .ref (y + 8), .int m_outputLength])) → (∀ q, q ≠ y → hp' q = hp q) → AW E p l e room_1 s m #[Value.ref b] below meth c 10 Q hp' none (k0 + 8) (n0 + 48) 3407 [(0, .ref b), (1, .ref x), (2, .ref y), (3, .ref o), (4, .ref od), (5, .int l5)] []) : AW E p l e room_1 s m #[Value.ref b] below meth c 10 Q hp none (k0 + 0) (n0 + 0) 533 [(0, .ref b), (1, .ref x), (2, .ref y), (3, .ref o), (4, .ref od), (5, .int l5)] [] := by
  unfold f_W4 at h
  refine A_aload_n X dL_law_533 1 rfl ?_
  obtain ⟨t1, hct1, h⟩ := bind_o h
  refine A_cp (k' := (k0 + 0)) (n' := (n0 + 0)) (A_runV (rest := []) X dL_law_534 (c_X10_errorPosition g0 g24  hct1) kY_X10_errorPosition kw_681 g0 rfl rfl ⟨(Nat.le_of_ble_eq_true rfl), (Nat.le_of_ble_eq_true rfl), kb rfl hRk, kb rfl hRn⟩ rfl (Nat.le_of_ble_eq_true rfl)) rfl rfl ?_
  refine A_aload_n X dL_law_537 2 rfl ?_
  obtain ⟨t2, hct2, h⟩ := bind_o h
  refine A_c (k' := (k0 + 0)) (n' := (n0 + 0)) rfl rfl (A_runV (rest := [.int t1]) X dL_law_538 (c_X11_errorPosition g39  hct2) kY_X11_errorPosition kw_1696 g39 rfl rfl ⟨(Nat.le_of_ble_eq_true rfl), (Nat.le_of_ble_eq_true rfl), kb rfl hRk, kb rfl hRn⟩ rfl (Nat.le_of_ble_eq_true rfl)) (fun v9 hp1 al9 hP => ?_)
  obtain ⟨rfl, k1_0, n1, rfl⟩ := hP
  replace k1_0 : hp1 y = some (.inr (11, [.ref (y + 1), .ref (y + 2), .ref (y + 3), .ref (y + 4), .ref (y + 5), .int m_undoable, .int m_undoStart, .int t2.2, .ref (y + 6), .int m_oftenAll, .ref (y + 7), .int m_inputLength, .int m_position, .int m_start, .int m_token, .int m_value, .int m_letters, .int m_code, .int m_place, .ref (y + 8), .int m_outputLength])) := k1_0
  refine A_st (st' := [.int t2.1, .int t1]) rfl ?_
  refine A_icmp_eq (tgt := 3407) X dL_law_541 h (by decide) (fun hc h => ?_) (fun hc h => ?_)
  · cases h
    refine A_sub (L' := [(0, .ref b), (1, .ref x), (2, .ref y), (3, .ref o), (4, .ref od), (5, .int l5)]) [0, 1, 2, 3, 4, 5] rfl ?_
    refine A_widen (k' := (k0 + 8)) (n' := (n0 + 48)) (by omega) (by omega) ?_
    exact K k1_0 (fun q z0 => (n1 q z0))
  · refine A_iconst (v := 0) X dL_law_544 (by decide) ?_
    cases h
set_option maxHeartbeats 8000000 in
set_option maxRecDepth 100000 in
theorem c_W5 {E : KE} {p : Program} {l : Launch} {e : Env} {s : State} {m : MethodId} {b L9 : Nat} {xs : Nat → Int32} {below : List Frame} {meth : Method} {c : Code} {hp : Hp} {k0 n0 : Nat} {Q : State → Prop} {x : Nat} {y : Nat} {o : Nat} {od : Nat} {sd : Int32} {mn : Int32} {th : Int32} {m_undoable : Int32} {m_undoStart : Int32} {m_thrown : Int32} {m_oftenAll : Int32} {m_inputLength : Int32} {m_position : Int32} {m_start : Int32} {m_token : Int32} {m_value : Int32} {m_letters : Int32} {m_code : Int32} {m_place : Int32} {m_outputLength : Int32} {m_s : Nat → Int32} {l5 : Int32} {out : Int32} (X : CX E p l s m #[Value.ref b] meth c "DiceAuditLaw" cL_law 10) (hX : va_X b L9 xs s s.heap) (hbl : b < s.heap.size) (hbA : ¬ kA E b) (hi1 : vp_in (l5 + 1) L9) (hi2 : vp_in (l5 + 2) L9) (hi3 : vp_in (l5 + 3) L9) (hi4 : vp_in (l5 + 4) L9) (hi5 : vp_in (l5 + 5) L9) (hRk : k0 + 8 ≤ room_1.cells) (hRn : n0 + 48 ≤ room_1.slots) (g0 : hp x = some (.inr (10, [.ref (x + 126), .ref (x + 128), .ref (x + 1), .ref (x + 3), .ref (x + 16), .ref (x + 18), .ref (x + 124), .ref (x + 125)]))) (g3 : hp (x + 3) = some (.inr (2, [.ref (x + 4), .ref (x + 7), .ref (x + 10), .ref (x + 13), .int sd, .int mn, .int th]))) (g39 : hp y = some (.inr (11, [.ref (y + 1), .ref (y + 2), .ref (y + 3), .ref (y + 4), .ref (y + 5), .int m_undoable, .int m_undoStart, .int m_thrown, .ref (y + 6), .int m_oftenAll, .ref (y + 7), .int m_inputLength, .int m_position, .int m_start, .int m_token, .int m_value, .int m_letters, .int m_code, .int m_place, .ref (y + 8), .int m_outputLength]))) (g40 : hp (y + 1) = some (.inl (kC E 0, 1399, .inl m_s))) (hz0 : (x + 4) ≤ y ∨ (y + 2) ≤ x) (h : f_W5 xs l5 sd m_s m_thrown = some out) (K : ∀ {hp' : Hp}, hp' y = some (.inr (11, [.ref (y + 1), .ref (y + 2), .ref (y + 3), .ref (y + 4), .ref (y + 5), .int m_undoable, .int m_undoStart, .int out, .ref (y + 6), .int m_oftenAll, .ref (y + 7), .int m_inputLength, .int m_position, .int m_start, .int m_token, .int m_value, .int m_letters, .int m_code, .int m_place, .ref (y + 8), .int m_outputLength])) → (∀ q, q ≠ y → hp' q = hp q) → AW E p l e room_1 s m #[Value.ref b] below meth c 10 Q hp' none (k0 + 8) (n0 + 48) 3407 [(0, .ref b), (1, .ref x), (2, .ref y), (3, .ref o), (4, .ref od), (5, .int l5)] []) : AW E p l e room_1 s m #[Value.ref b] below meth c 10 Q hp none (k0 + 0) (n0 + 0) 546 [(0, .ref b), (1, .ref x), (2, .ref y), (3, .ref o), (4, .ref od), (5, .int l5)] [] := by
  unfold f_W5 at h
  refine A_aload_n X dL_law_546 1 rfl ?_
  obtain ⟨t1, hct1, h⟩ := bind_o h
  refine A_cp (k' := (k0 + 0)) (n' := (n0 + 0)) (A_runV (rest := []) X dL_law_547 (c_X10_seed g0 g3  hct1) kY_X10_seed kw_685 g0 rfl rfl ⟨(Nat.le_of_ble_eq_true rfl), (Nat.le_of_ble_eq_true rfl), kb rfl hRk, kb rfl hRn⟩ rfl (Nat.le_of_ble_eq_true rfl)) rfl rfl ?_
  refine A_aload_n X dL_law_550 2 rfl ?_
  obtain ⟨t2, hct2, h⟩ := bind_o h
  refine A_c (k' := (k0 + 0)) (n' := (n0 + 0)) rfl rfl (A_runV (rest := [.int t1]) X dL_law_551 (c_X11_seed g39 g40  hct2) kY_X11_seed kw_1716 g39 rfl rfl ⟨(Nat.le_of_ble_eq_true rfl), (Nat.le_of_ble_eq_true rfl), kb rfl hRk, kb rfl hRn⟩ rfl (Nat.le_of_ble_eq_true rfl)) (fun v9 hp1 al9 hP => ?_)
  obtain ⟨rfl, k1_0, n1, rfl⟩ := hP
  replace k1_0 : hp1 y = some (.inr (11, [.ref (y + 1), .ref (y + 2), .ref (y + 3), .ref (y + 4), .ref (y + 5), .int m_undoable, .int m_undoStart, .int t2.2, .ref (y + 6), .int m_oftenAll, .ref (y + 7), .int m_inputLength, .int m_position, .int m_start, .int m_token, .int m_value, .int m_letters, .int m_code, .int m_place, .ref (y + 8), .int m_outputLength])) := k1_0
  refine A_st (st' := [.int t2.1, .int t1]) rfl ?_
  refine A_icmp_eq (tgt := 3407) X dL_law_554 h (by decide) (fun hc h => ?_) (fun hc h => ?_)
  · cases h
    refine A_sub (L' := [(0, .ref b), (1, .ref x), (2, .ref y), (3, .ref o), (4, .ref od), (5, .int l5)]) [0, 1, 2, 3, 4, 5] rfl ?_
    refine A_widen (k' := (k0 + 8)) (n' := (n0 + 48)) (by omega) (by omega) ?_
    exact K k1_0 (fun q z0 => (n1 q z0))
  · refine A_iconst (v := 0) X dL_law_557 (by decide) ?_
    cases h
set_option maxHeartbeats 8000000 in
set_option maxRecDepth 100000 in
theorem c_W6 {E : KE} {p : Program} {l : Launch} {e : Env} {s : State} {m : MethodId} {b L9 : Nat} {xs : Nat → Int32} {below : List Frame} {meth : Method} {c : Code} {hp : Hp} {k0 n0 : Nat} {Q : State → Prop} {x : Nat} {y : Nat} {o : Nat} {od : Nat} {sd : Int32} {mn : Int32} {th : Int32} {m_undoable : Int32} {m_undoStart : Int32} {m_thrown : Int32} {m_oftenAll : Int32} {m_inputLength : Int32} {m_position : Int32} {m_start : Int32} {m_token : Int32} {m_value : Int32} {m_letters : Int32} {m_code : Int32} {m_place : Int32} {m_outputLength : Int32} {m_s : Nat → Int32} {l5 : Int32} {out : Int32} (X : CX E p l s m #[Value.ref b] meth c "DiceAuditLaw" cL_law 10) (hX : va_X b L9 xs s s.heap) (hbl : b < s.heap.size) (hbA : ¬ kA E b) (hi1 : vp_in (l5 + 1) L9) (hi2 : vp_in (l5 + 2) L9) (hi3 : vp_in (l5 + 3) L9) (hi4 : vp_in (l5 + 4) L9) (hi5 : vp_in (l5 + 5) L9) (hRk : k0 + 8 ≤ room_1.cells) (hRn : n0 + 48 ≤ room_1.slots) (g0 : hp x = some (.inr (10, [.ref (x + 126), .ref (x + 128), .ref (x + 1), .ref (x + 3), .ref (x + 16), .ref (x + 18), .ref (x + 124), .ref (x + 125)]))) (g3 : hp (x + 3) = some (.inr (2, [.ref (x + 4), .ref (x + 7), .ref (x + 10), .ref (x + 13), .int sd, .int mn, .int th]))) (g39 : hp y = some (.inr (11, [.ref (y + 1), .ref (y + 2), .ref (y + 3), .ref (y + 4), .ref (y + 5), .int m_undoable, .int m_undoStart, .int m_thrown, .ref (y + 6), .int m_oftenAll, .ref (y + 7), .int m_inputLength, .int m_position, .int m_start, .int m_token, .int m_value, .int m_letters, .int m_code, .int m_place, .ref (y + 8), .int m_outputLength]))) (g40 : hp (y + 1) = some (.inl (kC E 0, 1399, .inl m_s))) (hz0 : (x + 4) ≤ y ∨ (y + 2) ≤ x) (h : f_W6 xs l5 mn m_s m_thrown = some out) (K : ∀ {hp' : Hp}, hp' y = some (.inr (11, [.ref (y + 1), .ref (y + 2), .ref (y + 3), .ref (y + 4), .ref (y + 5), .int m_undoable, .int m_undoStart, .int out, .ref (y + 6), .int m_oftenAll, .ref (y + 7), .int m_inputLength, .int m_position, .int m_start, .int m_token, .int m_value, .int m_letters, .int m_code, .int m_place, .ref (y + 8), .int m_outputLength])) → (∀ q, q ≠ y → hp' q = hp q) → AW E p l e room_1 s m #[Value.ref b] below meth c 10 Q hp' none (k0 + 8) (n0 + 48) 3407 [(0, .ref b), (1, .ref x), (2, .ref y), (3, .ref o), (4, .ref od), (5, .int l5)] []) : AW E p l e room_1 s m #[Value.ref b] below meth c 10 Q hp none (k0 + 0) (n0 + 0) 559 [(0, .ref b), (1, .ref x), (2, .ref y), (3, .ref o), (4, .ref od), (5, .int l5)] [] := by
  unfold f_W6 at h
  refine A_aload_n X dL_law_559 1 rfl ?_
  obtain ⟨t1, hct1, h⟩ := bind_o h
  refine A_cp (k' := (k0 + 0)) (n' := (n0 + 0)) (A_runV (rest := []) X dL_law_560 (c_X10_minimum g0 g3  hct1) kY_X10_minimum kw_689 g0 rfl rfl ⟨(Nat.le_of_ble_eq_true rfl), (Nat.le_of_ble_eq_true rfl), kb rfl hRk, kb rfl hRn⟩ rfl (Nat.le_of_ble_eq_true rfl)) rfl rfl ?_
  refine A_aload_n X dL_law_563 2 rfl ?_
  obtain ⟨t2, hct2, h⟩ := bind_o h
  refine A_c (k' := (k0 + 0)) (n' := (n0 + 0)) rfl rfl (A_runV (rest := [.int t1]) X dL_law_564 (c_X11_minimum g39 g40  hct2) kY_X11_minimum kw_1720 g39 rfl rfl ⟨(Nat.le_of_ble_eq_true rfl), (Nat.le_of_ble_eq_true rfl), kb rfl hRk, kb rfl hRn⟩ rfl (Nat.le_of_ble_eq_true rfl)) (fun v9 hp1 al9 hP => ?_)
  obtain ⟨rfl, k1_0, n1, rfl⟩ := hP
  replace k1_0 : hp1 y = some (.inr (11, [.ref (y + 1), .ref (y + 2), .ref (y + 3), .ref (y + 4), .ref (y + 5), .int m_undoable, .int m_undoStart, .int t2.2, .ref (y + 6), .int m_oftenAll, .ref (y + 7), .int m_inputLength, .int m_position, .int m_start, .int m_token, .int m_value, .int m_letters, .int m_code, .int m_place, .ref (y + 8), .int m_outputLength])) := k1_0
  refine A_st (st' := [.int t2.1, .int t1]) rfl ?_
  refine A_icmp_eq (tgt := 3407) X dL_law_567 h (by decide) (fun hc h => ?_) (fun hc h => ?_)
  · cases h
    refine A_sub (L' := [(0, .ref b), (1, .ref x), (2, .ref y), (3, .ref o), (4, .ref od), (5, .int l5)]) [0, 1, 2, 3, 4, 5] rfl ?_
    refine A_widen (k' := (k0 + 8)) (n' := (n0 + 48)) (by omega) (by omega) ?_
    exact K k1_0 (fun q z0 => (n1 q z0))
  · refine A_iconst (v := 0) X dL_law_570 (by decide) ?_
    cases h
set_option maxHeartbeats 8000000 in
set_option maxRecDepth 100000 in
theorem c_W7 {E : KE} {p : Program} {l : Launch} {e : Env} {s : State} {m : MethodId} {b L9 : Nat} {xs : Nat → Int32} {below : List Frame} {meth : Method} {c : Code} {hp : Hp} {k0 n0 : Nat} {Q : State → Prop} {x : Nat} {y : Nat} {o : Nat} {od : Nat} {sd : Int32} {mn : Int32} {th : Int32} {m_undoable : Int32} {m_undoStart : Int32} {m_thrown : Int32} {m_oftenAll : Int32} {m_inputLength : Int32} {m_position : Int32} {m_start : Int32} {m_token : Int32} {m_value : Int32} {m_letters : Int32} {m_code : Int32} {m_place : Int32} {m_outputLength : Int32} {m_s : Nat → Int32} {l5 : Int32} {out : Int32} (X : CX E p l s m #[Value.ref b] meth c "DiceAuditLaw" cL_law 10) (hX : va_X b L9 xs s s.heap) (hbl : b < s.heap.size) (hbA : ¬ kA E b) (hi1 : vp_in (l5 + 1) L9) (hi2 : vp_in (l5 + 2) L9) (hi3 : vp_in (l5 + 3) L9) (hi4 : vp_in (l5 + 4) L9) (hi5 : vp_in (l5 + 5) L9) (hRk : k0 + 8 ≤ room_1.cells) (hRn : n0 + 48 ≤ room_1.slots) (g0 : hp x = some (.inr (10, [.ref (x + 126), .ref (x + 128), .ref (x + 1), .ref (x + 3), .ref (x + 16), .ref (x + 18), .ref (x + 124), .ref (x + 125)]))) (g3 : hp (x + 3) = some (.inr (2, [.ref (x + 4), .ref (x + 7), .ref (x + 10), .ref (x + 13), .int sd, .int mn, .int th]))) (g39 : hp y = some (.inr (11, [.ref (y + 1), .ref (y + 2), .ref (y + 3), .ref (y + 4), .ref (y + 5), .int m_undoable, .int m_undoStart, .int m_thrown, .ref (y + 6), .int m_oftenAll, .ref (y + 7), .int m_inputLength, .int m_position, .int m_start, .int m_token, .int m_value, .int m_letters, .int m_code, .int m_place, .ref (y + 8), .int m_outputLength]))) (g40 : hp (y + 1) = some (.inl (kC E 0, 1399, .inl m_s))) (hz0 : (x + 4) ≤ y ∨ (y + 2) ≤ x) (h : f_W7 xs l5 th m_s m_thrown = some out) (K : ∀ {hp' : Hp}, hp' y = some (.inr (11, [.ref (y + 1), .ref (y + 2), .ref (y + 3), .ref (y + 4), .ref (y + 5), .int m_undoable, .int m_undoStart, .int out, .ref (y + 6), .int m_oftenAll, .ref (y + 7), .int m_inputLength, .int m_position, .int m_start, .int m_token, .int m_value, .int m_letters, .int m_code, .int m_place, .ref (y + 8), .int m_outputLength])) → (∀ q, q ≠ y → hp' q = hp q) → AW E p l e room_1 s m #[Value.ref b] below meth c 10 Q hp' none (k0 + 8) (n0 + 48) 3407 [(0, .ref b), (1, .ref x), (2, .ref y), (3, .ref o), (4, .ref od), (5, .int l5)] []) : AW E p l e room_1 s m #[Value.ref b] below meth c 10 Q hp none (k0 + 0) (n0 + 0) 572 [(0, .ref b), (1, .ref x), (2, .ref y), (3, .ref o), (4, .ref od), (5, .int l5)] [] := by
  unfold f_W7 at h
  refine A_aload_n X dL_law_572 1 rfl ?_
  obtain ⟨t1, hct1, h⟩ := bind_o h
  refine A_cp (k' := (k0 + 0)) (n' := (n0 + 0)) (A_runV (rest := []) X dL_law_573 (c_X10_threshold g0 g3  hct1) kY_X10_threshold kw_693 g0 rfl rfl ⟨(Nat.le_of_ble_eq_true rfl), (Nat.le_of_ble_eq_true rfl), kb rfl hRk, kb rfl hRn⟩ rfl (Nat.le_of_ble_eq_true rfl)) rfl rfl ?_
  refine A_aload_n X dL_law_576 2 rfl ?_
  obtain ⟨t2, hct2, h⟩ := bind_o h
  refine A_c (k' := (k0 + 0)) (n' := (n0 + 0)) rfl rfl (A_runV (rest := [.int t1]) X dL_law_577 (c_X11_threshold g39 g40  hct2) kY_X11_threshold kw_1724 g39 rfl rfl ⟨(Nat.le_of_ble_eq_true rfl), (Nat.le_of_ble_eq_true rfl), kb rfl hRk, kb rfl hRn⟩ rfl (Nat.le_of_ble_eq_true rfl)) (fun v9 hp1 al9 hP => ?_)
  obtain ⟨rfl, k1_0, n1, rfl⟩ := hP
  replace k1_0 : hp1 y = some (.inr (11, [.ref (y + 1), .ref (y + 2), .ref (y + 3), .ref (y + 4), .ref (y + 5), .int m_undoable, .int m_undoStart, .int t2.2, .ref (y + 6), .int m_oftenAll, .ref (y + 7), .int m_inputLength, .int m_position, .int m_start, .int m_token, .int m_value, .int m_letters, .int m_code, .int m_place, .ref (y + 8), .int m_outputLength])) := k1_0
  refine A_st (st' := [.int t2.1, .int t1]) rfl ?_
  refine A_icmp_eq (tgt := 3407) X dL_law_580 h (by decide) (fun hc h => ?_) (fun hc h => ?_)
  · cases h
    refine A_sub (L' := [(0, .ref b), (1, .ref x), (2, .ref y), (3, .ref o), (4, .ref od), (5, .int l5)]) [0, 1, 2, 3, 4, 5] rfl ?_
    refine A_widen (k' := (k0 + 8)) (n' := (n0 + 48)) (by omega) (by omega) ?_
    exact K k1_0 (fun q z0 => (n1 q z0))
  · refine A_iconst (v := 0) X dL_law_583 (by decide) ?_
    cases h
set_option maxHeartbeats 8000000 in
set_option maxRecDepth 100000 in
theorem c_W8 {E : KE} {p : Program} {l : Launch} {e : Env} {s : State} {m : MethodId} {b L9 : Nat} {xs : Nat → Int32} {below : List Frame} {meth : Method} {c : Code} {hp : Hp} {k0 n0 : Nat} {Q : State → Prop} {x : Nat} {y : Nat} {o : Nat} {od : Nat} {sd : Int32} {mn : Int32} {th : Int32} {dc : Int32} {m_undoable : Int32} {m_undoStart : Int32} {m_thrown : Int32} {m_oftenAll : Int32} {m_inputLength : Int32} {m_position : Int32} {m_start : Int32} {m_token : Int32} {m_value : Int32} {m_letters : Int32} {m_code : Int32} {m_place : Int32} {m_outputLength : Int32} {m_s : Nat → Int32} {l5 : Int32} {out : Int32} (X : CX E p l s m #[Value.ref b] meth c "DiceAuditLaw" cL_law 10) (hX : va_X b L9 xs s s.heap) (hbl : b < s.heap.size) (hbA : ¬ kA E b) (hi1 : vp_in (l5 + 1) L9) (hi2 : vp_in (l5 + 2) L9) (hi3 : vp_in (l5 + 3) L9) (hi4 : vp_in (l5 + 4) L9) (hi5 : vp_in (l5 + 5) L9) (hRk : k0 + 8 ≤ room_1.cells) (hRn : n0 + 48 ≤ room_1.slots) (g0 : hp x = some (.inr (10, [.ref (x + 126), .ref (x + 128), .ref (x + 1), .ref (x + 3), .ref (x + 16), .ref (x + 18), .ref (x + 124), .ref (x + 125)]))) (g3 : hp (x + 3) = some (.inr (2, [.ref (x + 4), .ref (x + 7), .ref (x + 10), .ref (x + 13), .int sd, .int mn, .int th]))) (g4 : hp (x + 4) = some (.inr (0, [.ref (x + 5), .ref (x + 6), .int dc]))) (g39 : hp y = some (.inr (11, [.ref (y + 1), .ref (y + 2), .ref (y + 3), .ref (y + 4), .ref (y + 5), .int m_undoable, .int m_undoStart, .int m_thrown, .ref (y + 6), .int m_oftenAll, .ref (y + 7), .int m_inputLength, .int m_position, .int m_start, .int m_token, .int m_value, .int m_letters, .int m_code, .int m_place, .ref (y + 8), .int m_outputLength]))) (g40 : hp (y + 1) = some (.inl (kC E 0, 1399, .inl m_s))) (hz0 : (x + 5) ≤ y ∨ (y + 2) ≤ x) (h : f_W8 xs l5 dc m_s m_thrown = some out) (K : ∀ {hp' : Hp}, hp' y = some (.inr (11, [.ref (y + 1), .ref (y + 2), .ref (y + 3), .ref (y + 4), .ref (y + 5), .int m_undoable, .int m_undoStart, .int out, .ref (y + 6), .int m_oftenAll, .ref (y + 7), .int m_inputLength, .int m_position, .int m_start, .int m_token, .int m_value, .int m_letters, .int m_code, .int m_place, .ref (y + 8), .int m_outputLength])) → (∀ q, q ≠ y → hp' q = hp q) → AW E p l e room_1 s m #[Value.ref b] below meth c 10 Q hp' none (k0 + 8) (n0 + 48) 3407 [(0, .ref b), (1, .ref x), (2, .ref y), (3, .ref o), (4, .ref od), (5, .int l5)] []) : AW E p l e room_1 s m #[Value.ref b] below meth c 10 Q hp none (k0 + 0) (n0 + 0) 585 [(0, .ref b), (1, .ref x), (2, .ref y), (3, .ref o), (4, .ref od), (5, .int l5)] [] := by
  unfold f_W8 at h
  refine A_aload_n X dL_law_585 1 rfl ?_
  obtain ⟨t1, hct1, h⟩ := bind_o h
  refine A_cp (k' := (k0 + 0)) (n' := (n0 + 0)) (A_runV (rest := []) X dL_law_586 (c_X10_dieCount g0 g3 g4  hct1) kY_X10_dieCount kw_697 g0 rfl rfl ⟨(Nat.le_of_ble_eq_true rfl), (Nat.le_of_ble_eq_true rfl), kb rfl hRk, kb rfl hRn⟩ rfl (Nat.le_of_ble_eq_true rfl)) rfl rfl ?_
  refine A_aload_n X dL_law_589 2 rfl ?_
  obtain ⟨t2, hct2, h⟩ := bind_o h
  refine A_c (k' := (k0 + 0)) (n' := (n0 + 0)) rfl rfl (A_runV (rest := [.int t1]) X dL_law_590 (c_X11_dieCount g39 g40  hct2) kY_X11_dieCount kw_1728 g39 rfl rfl ⟨(Nat.le_of_ble_eq_true rfl), (Nat.le_of_ble_eq_true rfl), kb rfl hRk, kb rfl hRn⟩ rfl (Nat.le_of_ble_eq_true rfl)) (fun v9 hp1 al9 hP => ?_)
  obtain ⟨rfl, k1_0, n1, rfl⟩ := hP
  replace k1_0 : hp1 y = some (.inr (11, [.ref (y + 1), .ref (y + 2), .ref (y + 3), .ref (y + 4), .ref (y + 5), .int m_undoable, .int m_undoStart, .int t2.2, .ref (y + 6), .int m_oftenAll, .ref (y + 7), .int m_inputLength, .int m_position, .int m_start, .int m_token, .int m_value, .int m_letters, .int m_code, .int m_place, .ref (y + 8), .int m_outputLength])) := k1_0
  refine A_st (st' := [.int t2.1, .int t1]) rfl ?_
  refine A_icmp_eq (tgt := 3407) X dL_law_593 h (by decide) (fun hc h => ?_) (fun hc h => ?_)
  · cases h
    refine A_sub (L' := [(0, .ref b), (1, .ref x), (2, .ref y), (3, .ref o), (4, .ref od), (5, .int l5)]) [0, 1, 2, 3, 4, 5] rfl ?_
    refine A_widen (k' := (k0 + 8)) (n' := (n0 + 48)) (by omega) (by omega) ?_
    exact K k1_0 (fun q z0 => (n1 q z0))
  · refine A_iconst (v := 0) X dL_law_596 (by decide) ?_
    cases h
set_option maxHeartbeats 8000000 in
set_option maxRecDepth 100000 in
theorem c_W9 {E : KE} {p : Program} {l : Launch} {e : Env} {s : State} {m : MethodId} {b L9 : Nat} {xs : Nat → Int32} {below : List Frame} {meth : Method} {c : Code} {hp : Hp} {k0 n0 : Nat} {Q : State → Prop} {x : Nat} {y : Nat} {o : Nat} {od : Nat} {sd : Int32} {mn : Int32} {th : Int32} {pc : Int32} {m_undoable : Int32} {m_undoStart : Int32} {m_thrown : Int32} {m_oftenAll : Int32} {m_inputLength : Int32} {m_position : Int32} {m_start : Int32} {m_token : Int32} {m_value : Int32} {m_letters : Int32} {m_code : Int32} {m_place : Int32} {m_outputLength : Int32} {m_s : Nat → Int32} {l5 : Int32} {out : Int32} (X : CX E p l s m #[Value.ref b] meth c "DiceAuditLaw" cL_law 10) (hX : va_X b L9 xs s s.heap) (hbl : b < s.heap.size) (hbA : ¬ kA E b) (hi1 : vp_in (l5 + 1) L9) (hi2 : vp_in (l5 + 2) L9) (hi3 : vp_in (l5 + 3) L9) (hi4 : vp_in (l5 + 4) L9) (hi5 : vp_in (l5 + 5) L9) (hRk : k0 + 8 ≤ room_1.cells) (hRn : n0 + 48 ≤ room_1.slots) (g0 : hp x = some (.inr (10, [.ref (x + 126), .ref (x + 128), .ref (x + 1), .ref (x + 3), .ref (x + 16), .ref (x + 18), .ref (x + 124), .ref (x + 125)]))) (g3 : hp (x + 3) = some (.inr (2, [.ref (x + 4), .ref (x + 7), .ref (x + 10), .ref (x + 13), .int sd, .int mn, .int th]))) (g7 : hp (x + 7) = some (.inr (7, [.ref (x + 8), .ref (x + 9), .int pc]))) (g39 : hp y = some (.inr (11, [.ref (y + 1), .ref (y + 2), .ref (y + 3), .ref (y + 4), .ref (y + 5), .int m_undoable, .int m_undoStart, .int m_thrown, .ref (y + 6), .int m_oftenAll, .ref (y + 7), .int m_inputLength, .int m_position, .int m_start, .int m_token, .int m_value, .int m_letters, .int m_code, .int m_place, .ref (y + 8), .int m_outputLength]))) (g40 : hp (y + 1) = some (.inl (kC E 0, 1399, .inl m_s))) (hz0 : (x + 8) ≤ y ∨ (y + 2) ≤ x) (h : f_W9 xs l5 pc m_s m_thrown = some out) (K : ∀ {hp' : Hp}, hp' y = some (.inr (11, [.ref (y + 1), .ref (y + 2), .ref (y + 3), .ref (y + 4), .ref (y + 5), .int m_undoable, .int m_undoStart, .int out, .ref (y + 6), .int m_oftenAll, .ref (y + 7), .int m_inputLength, .int m_position, .int m_start, .int m_token, .int m_value, .int m_letters, .int m_code, .int m_place, .ref (y + 8), .int m_outputLength])) → (∀ q, q ≠ y → hp' q = hp q) → AW E p l e room_1 s m #[Value.ref b] below meth c 10 Q hp' none (k0 + 8) (n0 + 48) 3407 [(0, .ref b), (1, .ref x), (2, .ref y), (3, .ref o), (4, .ref od), (5, .int l5)] []) : AW E p l e room_1 s m #[Value.ref b] below meth c 10 Q hp none (k0 + 0) (n0 + 0) 598 [(0, .ref b), (1, .ref x), (2, .ref y), (3, .ref o), (4, .ref od), (5, .int l5)] [] := by
  unfold f_W9 at h
  refine A_aload_n X dL_law_598 1 rfl ?_
  obtain ⟨t1, hct1, h⟩ := bind_o h
  refine A_cp (k' := (k0 + 0)) (n' := (n0 + 0)) (A_runV (rest := []) X dL_law_599 (c_X10_playerCount g0 g3 g7  hct1) kY_X10_playerCount kw_701 g0 rfl rfl ⟨(Nat.le_of_ble_eq_true rfl), (Nat.le_of_ble_eq_true rfl), kb rfl hRk, kb rfl hRn⟩ rfl (Nat.le_of_ble_eq_true rfl)) rfl rfl ?_
  refine A_aload_n X dL_law_602 2 rfl ?_
  obtain ⟨t2, hct2, h⟩ := bind_o h
  refine A_c (k' := (k0 + 0)) (n' := (n0 + 0)) rfl rfl (A_runV (rest := [.int t1]) X dL_law_603 (c_X11_playerCount g39 g40  hct2) kY_X11_playerCount kw_1732 g39 rfl rfl ⟨(Nat.le_of_ble_eq_true rfl), (Nat.le_of_ble_eq_true rfl), kb rfl hRk, kb rfl hRn⟩ rfl (Nat.le_of_ble_eq_true rfl)) (fun v9 hp1 al9 hP => ?_)
  obtain ⟨rfl, k1_0, n1, rfl⟩ := hP
  replace k1_0 : hp1 y = some (.inr (11, [.ref (y + 1), .ref (y + 2), .ref (y + 3), .ref (y + 4), .ref (y + 5), .int m_undoable, .int m_undoStart, .int t2.2, .ref (y + 6), .int m_oftenAll, .ref (y + 7), .int m_inputLength, .int m_position, .int m_start, .int m_token, .int m_value, .int m_letters, .int m_code, .int m_place, .ref (y + 8), .int m_outputLength])) := k1_0
  refine A_st (st' := [.int t2.1, .int t1]) rfl ?_
  refine A_icmp_eq (tgt := 3407) X dL_law_606 h (by decide) (fun hc h => ?_) (fun hc h => ?_)
  · cases h
    refine A_sub (L' := [(0, .ref b), (1, .ref x), (2, .ref y), (3, .ref o), (4, .ref od), (5, .int l5)]) [0, 1, 2, 3, 4, 5] rfl ?_
    refine A_widen (k' := (k0 + 8)) (n' := (n0 + 48)) (by omega) (by omega) ?_
    exact K k1_0 (fun q z0 => (n1 q z0))
  · refine A_iconst (v := 0) X dL_law_609 (by decide) ?_
    cases h
set_option maxHeartbeats 8000000 in
set_option maxRecDepth 100000 in
theorem c_W10 {E : KE} {p : Program} {l : Launch} {e : Env} {s : State} {m : MethodId} {b L9 : Nat} {xs : Nat → Int32} {below : List Frame} {meth : Method} {c : Code} {hp : Hp} {k0 n0 : Nat} {Q : State → Prop} {x : Nat} {y : Nat} {o : Nat} {od : Nat} {sd : Int32} {mn : Int32} {th : Int32} {tc : Int32} {m_undoable : Int32} {m_undoStart : Int32} {m_thrown : Int32} {m_oftenAll : Int32} {m_inputLength : Int32} {m_position : Int32} {m_start : Int32} {m_token : Int32} {m_value : Int32} {m_letters : Int32} {m_code : Int32} {m_place : Int32} {m_outputLength : Int32} {m_s : Nat → Int32} {l5 : Int32} {out : Int32} (X : CX E p l s m #[Value.ref b] meth c "DiceAuditLaw" cL_law 10) (hX : va_X b L9 xs s s.heap) (hbl : b < s.heap.size) (hbA : ¬ kA E b) (hi1 : vp_in (l5 + 1) L9) (hi2 : vp_in (l5 + 2) L9) (hi3 : vp_in (l5 + 3) L9) (hi4 : vp_in (l5 + 4) L9) (hi5 : vp_in (l5 + 5) L9) (hRk : k0 + 8 ≤ room_1.cells) (hRn : n0 + 48 ≤ room_1.slots) (g0 : hp x = some (.inr (10, [.ref (x + 126), .ref (x + 128), .ref (x + 1), .ref (x + 3), .ref (x + 16), .ref (x + 18), .ref (x + 124), .ref (x + 125)]))) (g3 : hp (x + 3) = some (.inr (2, [.ref (x + 4), .ref (x + 7), .ref (x + 10), .ref (x + 13), .int sd, .int mn, .int th]))) (g10 : hp (x + 10) = some (.inr (4, [.ref (x + 11), .ref (x + 12), .int tc]))) (g39 : hp y = some (.inr (11, [.ref (y + 1), .ref (y + 2), .ref (y + 3), .ref (y + 4), .ref (y + 5), .int m_undoable, .int m_undoStart, .int m_thrown, .ref (y + 6), .int m_oftenAll, .ref (y + 7), .int m_inputLength, .int m_position, .int m_start, .int m_token, .int m_value, .int m_letters, .int m_code, .int m_place, .ref (y + 8), .int m_outputLength]))) (g40 : hp (y + 1) = some (.inl (kC E 0, 1399, .inl m_s))) (hz0 : (x + 11) ≤ y ∨ (y + 2) ≤ x) (h : f_W10 xs l5 tc m_s m_thrown = some out) (K : ∀ {hp' : Hp}, hp' y = some (.inr (11, [.ref (y + 1), .ref (y + 2), .ref (y + 3), .ref (y + 4), .ref (y + 5), .int m_undoable, .int m_undoStart, .int out, .ref (y + 6), .int m_oftenAll, .ref (y + 7), .int m_inputLength, .int m_position, .int m_start, .int m_token, .int m_value, .int m_letters, .int m_code, .int m_place, .ref (y + 8), .int m_outputLength])) → (∀ q, q ≠ y → hp' q = hp q) → AW E p l e room_1 s m #[Value.ref b] below meth c 10 Q hp' none (k0 + 8) (n0 + 48) 3407 [(0, .ref b), (1, .ref x), (2, .ref y), (3, .ref o), (4, .ref od), (5, .int l5)] []) : AW E p l e room_1 s m #[Value.ref b] below meth c 10 Q hp none (k0 + 0) (n0 + 0) 611 [(0, .ref b), (1, .ref x), (2, .ref y), (3, .ref o), (4, .ref od), (5, .int l5)] [] := by
  unfold f_W10 at h
  refine A_aload_n X dL_law_611 1 rfl ?_
  obtain ⟨t1, hct1, h⟩ := bind_o h
  refine A_cp (k' := (k0 + 0)) (n' := (n0 + 0)) (A_runV (rest := []) X dL_law_612 (c_X10_throwCount g0 g3 g10  hct1) kY_X10_throwCount kw_705 g0 rfl rfl ⟨(Nat.le_of_ble_eq_true rfl), (Nat.le_of_ble_eq_true rfl), kb rfl hRk, kb rfl hRn⟩ rfl (Nat.le_of_ble_eq_true rfl)) rfl rfl ?_
  refine A_aload_n X dL_law_615 2 rfl ?_
  obtain ⟨t2, hct2, h⟩ := bind_o h
  refine A_c (k' := (k0 + 0)) (n' := (n0 + 0)) rfl rfl (A_runV (rest := [.int t1]) X dL_law_616 (c_X11_throwCount g39 g40  hct2) kY_X11_throwCount kw_1736 g39 rfl rfl ⟨(Nat.le_of_ble_eq_true rfl), (Nat.le_of_ble_eq_true rfl), kb rfl hRk, kb rfl hRn⟩ rfl (Nat.le_of_ble_eq_true rfl)) (fun v9 hp1 al9 hP => ?_)
  obtain ⟨rfl, k1_0, n1, rfl⟩ := hP
  replace k1_0 : hp1 y = some (.inr (11, [.ref (y + 1), .ref (y + 2), .ref (y + 3), .ref (y + 4), .ref (y + 5), .int m_undoable, .int m_undoStart, .int t2.2, .ref (y + 6), .int m_oftenAll, .ref (y + 7), .int m_inputLength, .int m_position, .int m_start, .int m_token, .int m_value, .int m_letters, .int m_code, .int m_place, .ref (y + 8), .int m_outputLength])) := k1_0
  refine A_st (st' := [.int t2.1, .int t1]) rfl ?_
  refine A_icmp_eq (tgt := 3407) X dL_law_619 h (by decide) (fun hc h => ?_) (fun hc h => ?_)
  · cases h
    refine A_sub (L' := [(0, .ref b), (1, .ref x), (2, .ref y), (3, .ref o), (4, .ref od), (5, .int l5)]) [0, 1, 2, 3, 4, 5] rfl ?_
    refine A_widen (k' := (k0 + 8)) (n' := (n0 + 48)) (by omega) (by omega) ?_
    exact K k1_0 (fun q z0 => (n1 q z0))
  · refine A_iconst (v := 0) X dL_law_622 (by decide) ?_
    cases h
set_option maxHeartbeats 8000000 in
set_option maxRecDepth 100000 in
theorem c_W11 {E : KE} {p : Program} {l : Launch} {e : Env} {s : State} {m : MethodId} {b L9 : Nat} {xs : Nat → Int32} {below : List Frame} {meth : Method} {c : Code} {hp : Hp} {k0 n0 : Nat} {Q : State → Prop} {x : Nat} {y : Nat} {o : Nat} {od : Nat} {sd : Int32} {mn : Int32} {th : Int32} {dc : Int32} {fc : Nat → Int32} {m_undoable : Int32} {m_undoStart : Int32} {m_thrown : Int32} {m_oftenAll : Int32} {m_inputLength : Int32} {m_position : Int32} {m_start : Int32} {m_token : Int32} {m_value : Int32} {m_letters : Int32} {m_code : Int32} {m_place : Int32} {m_outputLength : Int32} {m_s : Nat → Int32} {ov : Nat → Int64} {l5 : Int32} {out : Int32 × (Nat → Int64)} (X : CX E p l s m #[Value.ref b] meth c "DiceAuditLaw" cL_law 10) (hX : va_X b L9 xs s s.heap) (hbl : b < s.heap.size) (hbA : ¬ kA E b) (hi1 : vp_in (l5 + 1) L9) (hi2 : vp_in (l5 + 2) L9) (hi3 : vp_in (l5 + 3) L9) (hi4 : vp_in (l5 + 4) L9) (hi5 : vp_in (l5 + 5) L9) (hRk : k0 + 8 ≤ room_1.cells) (hRn : n0 + 48 ≤ room_1.slots) (g0 : hp x = some (.inr (10, [.ref (x + 126), .ref (x + 128), .ref (x + 1), .ref (x + 3), .ref (x + 16), .ref (x + 18), .ref (x + 124), .ref (x + 125)]))) (g3 : hp (x + 3) = some (.inr (2, [.ref (x + 4), .ref (x + 7), .ref (x + 10), .ref (x + 13), .int sd, .int mn, .int th]))) (g4 : hp (x + 4) = some (.inr (0, [.ref (x + 5), .ref (x + 6), .int dc]))) (g5 : hp (x + 5) = some (.inl (kC E 0, 6, .inl fc))) (g39 : hp y = some (.inr (11, [.ref (y + 1), .ref (y + 2), .ref (y + 3), .ref (y + 4), .ref (y + 5), .int m_undoable, .int m_undoStart, .int m_thrown, .ref (y + 6), .int m_oftenAll, .ref (y + 7), .int m_inputLength, .int m_position, .int m_start, .int m_token, .int m_value, .int m_letters, .int m_code, .int m_place, .ref (y + 8), .int m_outputLength]))) (g40 : hp (y + 1) = some (.inl (kC E 0, 1399, .inl m_s))) (g48 : hp o = some (.inl (kC E 1, 1, .inr (.inl ov)))) (hz0 : (x + 6) ≤ y ∨ (y + 2) ≤ x) (hz1 : (x + 6) ≤ o ∨ (o + 1) ≤ x) (hz2 : (y + 2) ≤ o ∨ (o + 1) ≤ y) (h : f_W11 xs l5 dc fc m_s m_thrown ov = some out) (K : ∀ {hp' : Hp}, hp' y = some (.inr (11, [.ref (y + 1), .ref (y + 2), .ref (y + 3), .ref (y + 4), .ref (y + 5), .int m_undoable, .int m_undoStart, .int out.1, .ref (y + 6), .int m_oftenAll, .ref (y + 7), .int m_inputLength, .int m_position, .int m_start, .int m_token, .int m_value, .int m_letters, .int m_code, .int m_place, .ref (y + 8), .int m_outputLength])) → hp' o = some (.inl (kC E 1, 1, .inr (.inl out.2))) → (∀ q, q ≠ y → q ≠ o → hp' q = hp q) → AW E p l e room_1 s m #[Value.ref b] below meth c 10 Q hp' none (k0 + 8) (n0 + 48) 3407 [(0, .ref b), (1, .ref x), (2, .ref y), (3, .ref o), (4, .ref od), (5, .int l5)] []) : AW E p l e room_1 s m #[Value.ref b] below meth c 10 Q hp none (k0 + 0) (n0 + 0) 624 [(0, .ref b), (1, .ref x), (2, .ref y), (3, .ref o), (4, .ref od), (5, .int l5)] [] := by
  unfold f_W11 at h
  refine A_aload_n X dL_law_624 1 rfl ?_
  refine A_aload_n X dL_law_625 0 rfl ?_
  refine A_iload X dL_law_626 5 rfl ?_
  refine A_iconst (v := 1) X dL_law_628 (by decide) ?_
  refine A_iadd X dL_law_629 ?_
  refine A_sld X hX hbl hbA hi1 dL_law_630 ?_
  refine A_aload_n X dL_law_631 3 rfl ?_
  obtain ⟨t1, hct1, h⟩ := bind_o h
  refine A_cX (k' := (k0 + 1)) (n' := (n0 + 6)) rfl rfl (A_runSH (rest := []) X dL_law_632 (c_L_faces g0 g3 g4 g5 g48 (by omega) hct1) kY_L_faces kw_950 ⟨(Nat.le_of_ble_eq_true rfl), (Nat.le_of_ble_eq_true rfl), kb rfl hRk, kb rfl hRn⟩ rfl (Nat.le_of_ble_eq_true rfl)) (fun C hp1 hP => hP.elim) (fun v9 hp1 al9 hP => ?_)
  obtain ⟨rfl, k1_0, n1, rfl⟩ := hP
  replace k1_0 : hp1 o = some (.inl (kC E 1, 1, .inr (.inl t1.2))) := k1_0
  refine A_st (st' := [.int t1.1]) rfl ?_
  refine A_istore (L' := [(6, .int t1.1), (0, .ref b), (1, .ref x), (2, .ref y), (3, .ref o), (4, .ref od), (5, .int l5)]) X dL_law_635 (by decide) rfl ?_
  refine A_aload_n X dL_law_637 3 rfl ?_
  refine A_aload_n X dL_law_638 1 rfl ?_
  refine A_iload X dL_law_639 6 rfl ?_
  refine A_iconst (v := 1) X dL_law_641 (by decide) ?_
  refine A_iadd X dL_law_642 ?_
  refine A_sld X hX hbl hbA hi1 dL_law_643 ?_
  obtain ⟨t2, hct2, h⟩ := bind_o h
  refine A_c (k' := (k0 + 1)) (n' := (n0 + 6)) rfl rfl (A_runV (rest := []) X dL_law_644 (c_X11_faces ((n1 _ (by omega)).trans g39) ((n1 _ (by omega)).trans g40)  hct2) kY_X11_faces kw_1740 ((n1 _ (by omega)).trans g39) rfl rfl ⟨(Nat.le_of_ble_eq_true rfl), (Nat.le_of_ble_eq_true rfl), kb rfl hRk, kb rfl hRn⟩ rfl (Nat.le_of_ble_eq_true rfl)) (fun v9 hp2 al9 hP => ?_)
  obtain ⟨rfl, k2_0, n2, rfl⟩ := hP
  replace k2_0 : hp2 y = some (.inr (11, [.ref (y + 1), .ref (y + 2), .ref (y + 3), .ref (y + 4), .ref (y + 5), .int m_undoable, .int m_undoStart, .int t2.2, .ref (y + 6), .int m_oftenAll, .ref (y + 7), .int m_inputLength, .int m_position, .int m_start, .int m_token, .int m_value, .int m_letters, .int m_code, .int m_place, .ref (y + 8), .int m_outputLength])) := k2_0
  refine A_st (st' := [.int t2.1]) rfl ?_
  refine A_istore (L' := [(7, .int t2.1), (6, .int t1.1), (0, .ref b), (1, .ref x), (2, .ref y), (3, .ref o), (4, .ref od), (5, .int l5)]) X dL_law_647 (by decide) rfl ?_
  refine A_aload_n X dL_law_649 4 rfl ?_
  obtain ⟨t3, hct3, h⟩ := bind_o h
  refine A_cp (k' := (k0 + 1)) (n' := (n0 + 6)) (A_runV (rest := []) X dL_law_650 (c_X11_thrown k2_0  hct3) kY_X11_thrown kw_1668 k2_0 rfl rfl ⟨(Nat.le_of_ble_eq_true rfl), (Nat.le_of_ble_eq_true rfl), kb rfl hRk, kb rfl hRn⟩ rfl (Nat.le_of_ble_eq_true rfl)) rfl rfl ?_
  refine A_iload X dL_law_653 1 rfl ?_
  refine A_icmp_eq (tgt := 660) X dL_law_655 h (by decide) (fun hc h => ?_) (fun hc h => ?_)
  · refine A_iload X dL_law_660 1 rfl ?_
    refine A_if_ne (tgt := 677) X dL_law_662 h (by decide) (fun hc h => ?_) (fun hc h => ?_)
    · refine A_goto (tgt := 3407) X dL_law_677 (by decide) ?_
      cases h
      refine A_sub (L' := [(0, .ref b), (1, .ref x), (2, .ref y), (3, .ref o), (4, .ref od), (5, .int l5)]) [2, 3, 4, 5, 6, 7] rfl ?_
      refine A_widen (k' := (k0 + 8)) (n' := (n0 + 48)) (by omega) (by omega) ?_
      exact K k2_0 ((n2 _ (by omega)).trans k1_0) (fun q z0 z1 => ((n2 q z0).trans (n1 q z1)))
    · refine A_aload_n X dL_law_665 5 rfl ?_
      refine A_iconst (v := 0) X dL_law_666 (by decide) ?_
      refine A_lald X dL_law_667 ((n2 _ (by omega)).trans k1_0) (by decide) ?_
      refine A_iload X dL_law_668 0 rfl ?_
      refine A_i2l X dL_law_670 ?_
      refine A_lcmp X dL_law_671 ?_
      refine A_if_eq (tgt := 677) X dL_law_672 h (by decide) (fun hc h => ?_) (fun hc h => ?_)
      · refine A_goto (tgt := 3407) X dL_law_677 (by decide) ?_
        cases h
        refine A_sub (L' := [(0, .ref b), (1, .ref x), (2, .ref y), (3, .ref o), (4, .ref od), (5, .int l5)]) [2, 3, 4, 5, 6, 7] rfl ?_
        refine A_widen (k' := (k0 + 8)) (n' := (n0 + 48)) (by omega) (by omega) ?_
        exact K k2_0 ((n2 _ (by omega)).trans k1_0) (fun q z0 z1 => ((n2 q z0).trans (n1 q z1)))
      · refine A_iconst (v := 0) X dL_law_675 (by decide) ?_
        cases h
  · refine A_iconst (v := 0) X dL_law_658 (by decide) ?_
    cases h
set_option maxHeartbeats 8000000 in
set_option maxRecDepth 100000 in
theorem c_W12 {E : KE} {p : Program} {l : Launch} {e : Env} {s : State} {m : MethodId} {b L9 : Nat} {xs : Nat → Int32} {below : List Frame} {meth : Method} {c : Code} {hp : Hp} {k0 n0 : Nat} {Q : State → Prop} {x : Nat} {y : Nat} {o : Nat} {od : Nat} {sd : Int32} {mn : Int32} {th : Int32} {dc : Int32} {fc : Nat → Int32} {dw : Nat → Int32} {m_undoable : Int32} {m_undoStart : Int32} {m_thrown : Int32} {m_oftenAll : Int32} {m_inputLength : Int32} {m_position : Int32} {m_start : Int32} {m_token : Int32} {m_value : Int32} {m_letters : Int32} {m_code : Int32} {m_place : Int32} {m_outputLength : Int32} {m_s : Nat → Int32} {ov : Nat → Int64} {l5 : Int32} {out : Int32 × (Nat → Int64)} (X : CX E p l s m #[Value.ref b] meth c "DiceAuditLaw" cL_law 10) (hX : va_X b L9 xs s s.heap) (hbl : b < s.heap.size) (hbA : ¬ kA E b) (hi1 : vp_in (l5 + 1) L9) (hi2 : vp_in (l5 + 2) L9) (hi3 : vp_in (l5 + 3) L9) (hi4 : vp_in (l5 + 4) L9) (hi5 : vp_in (l5 + 5) L9) (hRk : k0 + 8 ≤ room_1.cells) (hRn : n0 + 48 ≤ room_1.slots) (g0 : hp x = some (.inr (10, [.ref (x + 126), .ref (x + 128), .ref (x + 1), .ref (x + 3), .ref (x + 16), .ref (x + 18), .ref (x + 124), .ref (x + 125)]))) (g3 : hp (x + 3) = some (.inr (2, [.ref (x + 4), .ref (x + 7), .ref (x + 10), .ref (x + 13), .int sd, .int mn, .int th]))) (g4 : hp (x + 4) = some (.inr (0, [.ref (x + 5), .ref (x + 6), .int dc]))) (g5 : hp (x + 5) = some (.inl (kC E 0, 6, .inl fc))) (g6 : hp (x + 6) = some (.inl (kC E 0, 72, .inl dw))) (g39 : hp y = some (.inr (11, [.ref (y + 1), .ref (y + 2), .ref (y + 3), .ref (y + 4), .ref (y + 5), .int m_undoable, .int m_undoStart, .int m_thrown, .ref (y + 6), .int m_oftenAll, .ref (y + 7), .int m_inputLength, .int m_position, .int m_start, .int m_token, .int m_value, .int m_letters, .int m_code, .int m_place, .ref (y + 8), .int m_outputLength]))) (g40 : hp (y + 1) = some (.inl (kC E 0, 1399, .inl m_s))) (g48 : hp o = some (.inl (kC E 1, 1, .inr (.inl ov)))) (hz0 : (x + 7) ≤ y ∨ (y + 2) ≤ x) (hz1 : (x + 7) ≤ o ∨ (o + 1) ≤ x) (hz2 : (y + 2) ≤ o ∨ (o + 1) ≤ y) (h : f_W12 xs l5 dc fc dw m_s m_thrown ov = some out) (K : ∀ {hp' : Hp}, hp' y = some (.inr (11, [.ref (y + 1), .ref (y + 2), .ref (y + 3), .ref (y + 4), .ref (y + 5), .int m_undoable, .int m_undoStart, .int out.1, .ref (y + 6), .int m_oftenAll, .ref (y + 7), .int m_inputLength, .int m_position, .int m_start, .int m_token, .int m_value, .int m_letters, .int m_code, .int m_place, .ref (y + 8), .int m_outputLength])) → hp' o = some (.inl (kC E 1, 1, .inr (.inl out.2))) → (∀ q, q ≠ y → q ≠ o → hp' q = hp q) → AW E p l e room_1 s m #[Value.ref b] below meth c 10 Q hp' none (k0 + 8) (n0 + 48) 3407 [(0, .ref b), (1, .ref x), (2, .ref y), (3, .ref o), (4, .ref od), (5, .int l5)] []) : AW E p l e room_1 s m #[Value.ref b] below meth c 10 Q hp none (k0 + 0) (n0 + 0) 680 [(0, .ref b), (1, .ref x), (2, .ref y), (3, .ref o), (4, .ref od), (5, .int l5)] [] := by
  unfold f_W12 at h
  refine A_aload_n X dL_law_680 1 rfl ?_
  refine A_aload_n X dL_law_681 0 rfl ?_
  refine A_iload X dL_law_682 5 rfl ?_
  refine A_iconst (v := 1) X dL_law_684 (by decide) ?_
  refine A_iadd X dL_law_685 ?_
  refine A_sld X hX hbl hbA hi1 dL_law_686 ?_
  refine A_aload_n X dL_law_687 0 rfl ?_
  refine A_iload X dL_law_688 5 rfl ?_
  refine A_iconst (v := 2) X dL_law_690 (by decide) ?_
  refine A_iadd X dL_law_691 ?_
  refine A_sld X hX hbl hbA hi2 dL_law_692 ?_
  refine A_aload_n X dL_law_693 3 rfl ?_
  obtain ⟨t1, hct1, h⟩ := bind_o h
  refine A_cX (k' := (k0 + 2)) (n' := (n0 + 12)) rfl rfl (A_runSH (rest := []) X dL_law_694 (c_L_weightOf g0 g3 g4 g5 g6 g48 (by omega) hct1) kY_L_weightOf kw_982 ⟨(Nat.le_of_ble_eq_true rfl), (Nat.le_of_ble_eq_true rfl), kb rfl hRk, kb rfl hRn⟩ rfl (Nat.le_of_ble_eq_true rfl)) (fun C hp1 hP => hP.elim) (fun v9 hp1 al9 hP => ?_)
  obtain ⟨rfl, k1_0, n1, rfl⟩ := hP
  replace k1_0 : hp1 o = some (.inl (kC E 1, 1, .inr (.inl t1.2))) := k1_0
  refine A_st (st' := [.int t1.1]) rfl ?_
  refine A_istore (L' := [(6, .int t1.1), (0, .ref b), (1, .ref x), (2, .ref y), (3, .ref o), (4, .ref od), (5, .int l5)]) X dL_law_697 (by decide) rfl ?_
  refine A_aload_n X dL_law_699 3 rfl ?_
  refine A_aload_n X dL_law_700 1 rfl ?_
  refine A_iload X dL_law_701 6 rfl ?_
  refine A_iconst (v := 1) X dL_law_703 (by decide) ?_
  refine A_iadd X dL_law_704 ?_
  refine A_sld X hX hbl hbA hi1 dL_law_705 ?_
  refine A_aload_n X dL_law_706 1 rfl ?_
  refine A_iload X dL_law_707 6 rfl ?_
  refine A_iconst (v := 2) X dL_law_709 (by decide) ?_
  refine A_iadd X dL_law_710 ?_
  refine A_sld X hX hbl hbA hi2 dL_law_711 ?_
  obtain ⟨t2, hct2, h⟩ := bind_o h
  refine A_c (k' := (k0 + 2)) (n' := (n0 + 12)) rfl rfl (A_runV (rest := []) X dL_law_712 (c_X11_weightOf ((n1 _ (by omega)).trans g39) ((n1 _ (by omega)).trans g40)  hct2) kY_X11_weightOf kw_1748 ((n1 _ (by omega)).trans g39) rfl rfl ⟨(Nat.le_of_ble_eq_true rfl), (Nat.le_of_ble_eq_true rfl), kb rfl hRk, kb rfl hRn⟩ rfl (Nat.le_of_ble_eq_true rfl)) (fun v9 hp2 al9 hP => ?_)
  obtain ⟨rfl, k2_0, n2, rfl⟩ := hP
  replace k2_0 : hp2 y = some (.inr (11, [.ref (y + 1), .ref (y + 2), .ref (y + 3), .ref (y + 4), .ref (y + 5), .int m_undoable, .int m_undoStart, .int t2.2, .ref (y + 6), .int m_oftenAll, .ref (y + 7), .int m_inputLength, .int m_position, .int m_start, .int m_token, .int m_value, .int m_letters, .int m_code, .int m_place, .ref (y + 8), .int m_outputLength])) := k2_0
  refine A_st (st' := [.int t2.1]) rfl ?_
  refine A_istore (L' := [(7, .int t2.1), (6, .int t1.1), (0, .ref b), (1, .ref x), (2, .ref y), (3, .ref o), (4, .ref od), (5, .int l5)]) X dL_law_715 (by decide) rfl ?_
  refine A_aload_n X dL_law_717 4 rfl ?_
  obtain ⟨t3, hct3, h⟩ := bind_o h
  refine A_cp (k' := (k0 + 2)) (n' := (n0 + 12)) (A_runV (rest := []) X dL_law_718 (c_X11_thrown k2_0  hct3) kY_X11_thrown kw_1668 k2_0 rfl rfl ⟨(Nat.le_of_ble_eq_true rfl), (Nat.le_of_ble_eq_true rfl), kb rfl hRk, kb rfl hRn⟩ rfl (Nat.le_of_ble_eq_true rfl)) rfl rfl ?_
  refine A_iload X dL_law_721 1 rfl ?_
  refine A_icmp_eq (tgt := 728) X dL_law_723 h (by decide) (fun hc h => ?_) (fun hc h => ?_)
  · refine A_iload X dL_law_728 1 rfl ?_
    refine A_if_ne (tgt := 745) X dL_law_730 h (by decide) (fun hc h => ?_) (fun hc h => ?_)
    · refine A_goto (tgt := 3407) X dL_law_745 (by decide) ?_
      cases h
      refine A_sub (L' := [(0, .ref b), (1, .ref x), (2, .ref y), (3, .ref o), (4, .ref od), (5, .int l5)]) [2, 3, 4, 5, 6, 7] rfl ?_
      refine A_widen (k' := (k0 + 8)) (n' := (n0 + 48)) (by omega) (by omega) ?_
      exact K k2_0 ((n2 _ (by omega)).trans k1_0) (fun q z0 z1 => ((n2 q z0).trans (n1 q z1)))
    · refine A_aload_n X dL_law_733 5 rfl ?_
      refine A_iconst (v := 0) X dL_law_734 (by decide) ?_
      refine A_lald X dL_law_735 ((n2 _ (by omega)).trans k1_0) (by decide) ?_
      refine A_iload X dL_law_736 0 rfl ?_
      refine A_i2l X dL_law_738 ?_
      refine A_lcmp X dL_law_739 ?_
      refine A_if_eq (tgt := 745) X dL_law_740 h (by decide) (fun hc h => ?_) (fun hc h => ?_)
      · refine A_goto (tgt := 3407) X dL_law_745 (by decide) ?_
        cases h
        refine A_sub (L' := [(0, .ref b), (1, .ref x), (2, .ref y), (3, .ref o), (4, .ref od), (5, .int l5)]) [2, 3, 4, 5, 6, 7] rfl ?_
        refine A_widen (k' := (k0 + 8)) (n' := (n0 + 48)) (by omega) (by omega) ?_
        exact K k2_0 ((n2 _ (by omega)).trans k1_0) (fun q z0 z1 => ((n2 q z0).trans (n1 q z1)))
      · refine A_iconst (v := 0) X dL_law_743 (by decide) ?_
        cases h
  · refine A_iconst (v := 0) X dL_law_726 (by decide) ?_
    cases h
set_option maxHeartbeats 8000000 in
set_option maxRecDepth 100000 in
theorem c_W13 {E : KE} {p : Program} {l : Launch} {e : Env} {s : State} {m : MethodId} {b L9 : Nat} {xs : Nat → Int32} {below : List Frame} {meth : Method} {c : Code} {hp : Hp} {k0 n0 : Nat} {Q : State → Prop} {N : Nat} {x : Nat} {y : Nat} {o : Nat} {od : Nat} {sd : Int32} {mn : Int32} {th : Int32} {dc : Int32} {fc : Nat → Int32} {dw : Nat → Int32} {m_undoable : Int32} {m_undoStart : Int32} {m_thrown : Int32} {m_oftenAll : Int32} {m_inputLength : Int32} {m_position : Int32} {m_start : Int32} {m_token : Int32} {m_value : Int32} {m_letters : Int32} {m_code : Int32} {m_place : Int32} {m_outputLength : Int32} {m_s : Nat → Int32} {ov : Nat → Int64} {l5 : Int32} {out : Int32 × (Nat → Int64)} (X : CX E p l s m #[Value.ref b] meth c "DiceAuditLaw" cL_law 10) (hX : va_X b L9 xs s s.heap) (hbl : b < s.heap.size) (hbA : ¬ kA E b) (hi1 : vp_in (l5 + 1) L9) (hi2 : vp_in (l5 + 2) L9) (hi3 : vp_in (l5 + 3) L9) (hi4 : vp_in (l5 + 4) L9) (hi5 : vp_in (l5 + 5) L9) (hRk : k0 + 8 ≤ room_1.cells) (hRn : n0 + 48 ≤ room_1.slots) (g0 : hp x = some (.inr (10, [.ref (x + 126), .ref (x + 128), .ref (x + 1), .ref (x + 3), .ref (x + 16), .ref (x + 18), .ref (x + 124), .ref (x + 125)]))) (g3 : hp (x + 3) = some (.inr (2, [.ref (x + 4), .ref (x + 7), .ref (x + 10), .ref (x + 13), .int sd, .int mn, .int th]))) (g4 : hp (x + 4) = some (.inr (0, [.ref (x + 5), .ref (x + 6), .int dc]))) (g5 : hp (x + 5) = some (.inl (kC E 0, 6, .inl fc))) (g6 : hp (x + 6) = some (.inl (kC E 0, 72, .inl dw))) (g39 : hp y = some (.inr (11, [.ref (y + 1), .ref (y + 2), .ref (y + 3), .ref (y + 4), .ref (y + 5), .int m_undoable, .int m_undoStart, .int m_thrown, .ref (y + 6), .int m_oftenAll, .ref (y + 7), .int m_inputLength, .int m_position, .int m_start, .int m_token, .int m_value, .int m_letters, .int m_code, .int m_place, .ref (y + 8), .int m_outputLength]))) (g40 : hp (y + 1) = some (.inl (kC E 0, 1399, .inl m_s))) (g48 : hp o = some (.inl (kC E 1, 1, .inr (.inl ov)))) (hz0 : (x + 7) ≤ y ∨ (y + 2) ≤ x) (hz1 : (x + 7) ≤ o ∨ (o + 1) ≤ x) (hz2 : (y + 2) ≤ o ∨ (o + 1) ≤ y) (h : f_W13 N xs l5 dc fc dw m_s m_thrown ov = some out) (K : ∀ {hp' : Hp}, hp' y = some (.inr (11, [.ref (y + 1), .ref (y + 2), .ref (y + 3), .ref (y + 4), .ref (y + 5), .int m_undoable, .int m_undoStart, .int out.1, .ref (y + 6), .int m_oftenAll, .ref (y + 7), .int m_inputLength, .int m_position, .int m_start, .int m_token, .int m_value, .int m_letters, .int m_code, .int m_place, .ref (y + 8), .int m_outputLength])) → hp' o = some (.inl (kC E 1, 1, .inr (.inl out.2))) → (∀ q, q ≠ y → q ≠ o → hp' q = hp q) → AW E p l e room_1 s m #[Value.ref b] below meth c 10 Q hp' none (k0 + 8) (n0 + 48) 3407 [(0, .ref b), (1, .ref x), (2, .ref y), (3, .ref o), (4, .ref od), (5, .int l5)] []) : AW E p l e room_1 s m #[Value.ref b] below meth c 10 Q hp none (k0 + 0) (n0 + 0) 748 [(0, .ref b), (1, .ref x), (2, .ref y), (3, .ref o), (4, .ref od), (5, .int l5)] [] := by
  unfold f_W13 at h
  refine A_aload_n X dL_law_748 1 rfl ?_
  refine A_aload_n X dL_law_749 0 rfl ?_
  refine A_iload X dL_law_750 5 rfl ?_
  refine A_iconst (v := 1) X dL_law_752 (by decide) ?_
  refine A_iadd X dL_law_753 ?_
  refine A_sld X hX hbl hbA hi1 dL_law_754 ?_
  refine A_aload_n X dL_law_755 3 rfl ?_
  obtain ⟨t1, hct1, h⟩ := bind_o h
  refine A_cX (k' := (k0 + 1)) (n' := (n0 + 6)) rfl rfl (A_runSH (rest := []) X dL_law_756 (c_L_isBalanced g0 g3 g4 g5 g6 g48 (by omega) hct1) kY_L_isBalanced kw_997 ⟨(Nat.le_of_ble_eq_true rfl), (Nat.le_of_ble_eq_true rfl), kb rfl hRk, kb rfl hRn⟩ rfl (Nat.le_of_ble_eq_true rfl)) (fun C hp1 hP => hP.elim) (fun v9 hp1 al9 hP => ?_)
  obtain ⟨rfl, k1_0, n1, rfl⟩ := hP
  replace k1_0 : hp1 o = some (.inl (kC E 1, 1, .inr (.inl t1.2))) := k1_0
  refine A_st (st' := [.int t1.1]) rfl ?_
  refine A_istore (L' := [(6, .int t1.1), (0, .ref b), (1, .ref x), (2, .ref y), (3, .ref o), (4, .ref od), (5, .int l5)]) X dL_law_759 (by decide) rfl ?_
  refine A_aload_n X dL_law_761 3 rfl ?_
  refine A_aload_n X dL_law_762 1 rfl ?_
  refine A_iload X dL_law_763 6 rfl ?_
  refine A_iconst (v := 1) X dL_law_765 (by decide) ?_
  refine A_iadd X dL_law_766 ?_
  refine A_sld X hX hbl hbA hi1 dL_law_767 ?_
  obtain ⟨t2, hct2, h⟩ := bind_o h
  refine A_c (k' := (k0 + 1)) (n' := (n0 + 6)) rfl rfl (A_runV (rest := []) X dL_law_768 (c_X11_isBalanced ((n1 _ (by omega)).trans g39) ((n1 _ (by omega)).trans g40)  hct2) kY_X11_isBalanced kw_1756 ((n1 _ (by omega)).trans g39) rfl rfl ⟨(Nat.le_of_ble_eq_true rfl), (Nat.le_of_ble_eq_true rfl), kb rfl hRk, kb rfl hRn⟩ rfl (Nat.le_of_ble_eq_true rfl)) (fun v9 hp2 al9 hP => ?_)
  obtain ⟨rfl, zt2, k2_0, n2, rfl⟩ := hP
  replace k2_0 : hp2 y = some (.inr (11, [.ref (y + 1), .ref (y + 2), .ref (y + 3), .ref (y + 4), .ref (y + 5), .int m_undoable, .int m_undoStart, .int t2.2, .ref (y + 6), .int m_oftenAll, .ref (y + 7), .int m_inputLength, .int m_position, .int m_start, .int m_token, .int m_value, .int m_letters, .int m_code, .int m_place, .ref (y + 8), .int m_outputLength])) := k2_0
  refine A_st (st' := [.int t2.1]) rfl ?_
  refine A_istore (L' := [(7, .int t2.1), (6, .int t1.1), (0, .ref b), (1, .ref x), (2, .ref y), (3, .ref o), (4, .ref od), (5, .int l5)]) X dL_law_771 (by decide) rfl ?_
  refine A_aload_n X dL_law_773 4 rfl ?_
  obtain ⟨t3, hct3, h⟩ := bind_o h
  refine A_cp (k' := (k0 + 1)) (n' := (n0 + 6)) (A_runV (rest := []) X dL_law_774 (c_X11_thrown k2_0  hct3) kY_X11_thrown kw_1668 k2_0 rfl rfl ⟨(Nat.le_of_ble_eq_true rfl), (Nat.le_of_ble_eq_true rfl), kb rfl hRk, kb rfl hRn⟩ rfl (Nat.le_of_ble_eq_true rfl)) rfl rfl ?_
  refine A_iload X dL_law_777 1 rfl ?_
  refine A_icmp_eq (tgt := 784) X dL_law_779 h (by decide) (fun hc h => ?_) (fun hc h => ?_)
  · refine A_iload X dL_law_784 1 rfl ?_
    refine A_if_ne (tgt := 808) X dL_law_786 h (by decide) (fun hc h => ?_) (fun hc h => ?_)
    · refine A_goto (tgt := 3407) X dL_law_808 (by decide) ?_
      cases h
      refine A_sub (L' := [(0, .ref b), (1, .ref x), (2, .ref y), (3, .ref o), (4, .ref od), (5, .int l5)]) [2, 3, 4, 5, 6, 7] rfl ?_
      refine A_widen (k' := (k0 + 8)) (n' := (n0 + 48)) (by omega) (by omega) ?_
      exact K k2_0 ((n2 _ (by omega)).trans k1_0) (fun q z0 z1 => ((n2 q z0).trans (n1 q z1)))
    · refine A_aload_n X dL_law_789 5 rfl ?_
      refine A_iconst (v := 0) X dL_law_790 (by decide) ?_
      refine A_lald X dL_law_791 ((n2 _ (by omega)).trans k1_0) (by decide) ?_
      refine A_iload X dL_law_792 0 rfl ?_
      refine A_if_eq (tgt := 801) X dL_law_794 h (by decide) (fun hc h => ?_) (fun hc h => ?_)
      · refine A_lconst (v := 0) X dL_law_801 (by decide) ?_
        refine A_lcmp X dL_law_802 ?_
        refine A_if_eq (tgt := 808) X dL_law_803 h (by decide) (fun hc h => ?_) (fun hc h => ?_)
        · refine A_goto (tgt := 3407) X dL_law_808 (by decide) ?_
          cases h
          refine A_sub (L' := [(0, .ref b), (1, .ref x), (2, .ref y), (3, .ref o), (4, .ref od), (5, .int l5)]) [2, 3, 4, 5, 6, 7] rfl ?_
          refine A_widen (k' := (k0 + 8)) (n' := (n0 + 48)) (by omega) (by omega) ?_
          exact K k2_0 ((n2 _ (by omega)).trans k1_0) (fun q z0 z1 => ((n2 q z0).trans (n1 q z1)))
        · refine A_iconst (v := 0) X dL_law_806 (by decide) ?_
          cases h
      · refine A_lconst (v := 1) X dL_law_797 (by decide) ?_
        refine A_goto (tgt := 802) X dL_law_798 (by decide) ?_
        refine A_lcmp X dL_law_802 ?_
        refine A_if_eq (tgt := 808) X dL_law_803 h (by decide) (fun hc h => ?_) (fun hc h => ?_)
        · refine A_goto (tgt := 3407) X dL_law_808 (by decide) ?_
          cases h
          refine A_sub (L' := [(0, .ref b), (1, .ref x), (2, .ref y), (3, .ref o), (4, .ref od), (5, .int l5)]) [2, 3, 4, 5, 6, 7] rfl ?_
          refine A_widen (k' := (k0 + 8)) (n' := (n0 + 48)) (by omega) (by omega) ?_
          exact K k2_0 ((n2 _ (by omega)).trans k1_0) (fun q z0 z1 => ((n2 q z0).trans (n1 q z1)))
        · refine A_iconst (v := 0) X dL_law_806 (by decide) ?_
          cases h
  · refine A_iconst (v := 0) X dL_law_782 (by decide) ?_
    cases h
set_option maxHeartbeats 8000000 in
set_option maxRecDepth 100000 in
theorem c_W14 {E : KE} {p : Program} {l : Launch} {e : Env} {s : State} {m : MethodId} {b L9 : Nat} {xs : Nat → Int32} {below : List Frame} {meth : Method} {c : Code} {hp : Hp} {k0 n0 : Nat} {Q : State → Prop} {N : Nat} {x : Nat} {y : Nat} {o : Nat} {od : Nat} {sd : Int32} {mn : Int32} {th : Int32} {dc : Int32} {fc : Nat → Int32} {dw : Nat → Int32} {m_undoable : Int32} {m_undoStart : Int32} {m_thrown : Int32} {m_oftenAll : Int32} {m_inputLength : Int32} {m_position : Int32} {m_start : Int32} {m_token : Int32} {m_value : Int32} {m_letters : Int32} {m_code : Int32} {m_place : Int32} {m_outputLength : Int32} {m_s : Nat → Int32} {ov : Nat → Int64} {l5 : Int32} {out : Int32 × (Nat → Int64)} (X : CX E p l s m #[Value.ref b] meth c "DiceAuditLaw" cL_law 10) (hX : va_X b L9 xs s s.heap) (hbl : b < s.heap.size) (hbA : ¬ kA E b) (hi1 : vp_in (l5 + 1) L9) (hi2 : vp_in (l5 + 2) L9) (hi3 : vp_in (l5 + 3) L9) (hi4 : vp_in (l5 + 4) L9) (hi5 : vp_in (l5 + 5) L9) (hRk : k0 + 8 ≤ room_1.cells) (hRn : n0 + 48 ≤ room_1.slots) (g0 : hp x = some (.inr (10, [.ref (x + 126), .ref (x + 128), .ref (x + 1), .ref (x + 3), .ref (x + 16), .ref (x + 18), .ref (x + 124), .ref (x + 125)]))) (g3 : hp (x + 3) = some (.inr (2, [.ref (x + 4), .ref (x + 7), .ref (x + 10), .ref (x + 13), .int sd, .int mn, .int th]))) (g4 : hp (x + 4) = some (.inr (0, [.ref (x + 5), .ref (x + 6), .int dc]))) (g5 : hp (x + 5) = some (.inl (kC E 0, 6, .inl fc))) (g6 : hp (x + 6) = some (.inl (kC E 0, 72, .inl dw))) (g39 : hp y = some (.inr (11, [.ref (y + 1), .ref (y + 2), .ref (y + 3), .ref (y + 4), .ref (y + 5), .int m_undoable, .int m_undoStart, .int m_thrown, .ref (y + 6), .int m_oftenAll, .ref (y + 7), .int m_inputLength, .int m_position, .int m_start, .int m_token, .int m_value, .int m_letters, .int m_code, .int m_place, .ref (y + 8), .int m_outputLength]))) (g40 : hp (y + 1) = some (.inl (kC E 0, 1399, .inl m_s))) (g48 : hp o = some (.inl (kC E 1, 1, .inr (.inl ov)))) (hz0 : (x + 7) ≤ y ∨ (y + 2) ≤ x) (hz1 : (x + 7) ≤ o ∨ (o + 1) ≤ x) (hz2 : (y + 2) ≤ o ∨ (o + 1) ≤ y) (h : f_W14 N xs l5 dc fc dw m_s m_thrown ov = some out) (K : ∀ {hp' : Hp}, hp' y = some (.inr (11, [.ref (y + 1), .ref (y + 2), .ref (y + 3), .ref (y + 4), .ref (y + 5), .int m_undoable, .int m_undoStart, .int out.1, .ref (y + 6), .int m_oftenAll, .ref (y + 7), .int m_inputLength, .int m_position, .int m_start, .int m_token, .int m_value, .int m_letters, .int m_code, .int m_place, .ref (y + 8), .int m_outputLength])) → hp' o = some (.inl (kC E 1, 1, .inr (.inl out.2))) → (∀ q, q ≠ y → q ≠ o → hp' q = hp q) → AW E p l e room_1 s m #[Value.ref b] below meth c 10 Q hp' none (k0 + 8) (n0 + 48) 3407 [(0, .ref b), (1, .ref x), (2, .ref y), (3, .ref o), (4, .ref od), (5, .int l5)] []) : AW E p l e room_1 s m #[Value.ref b] below meth c 10 Q hp none (k0 + 0) (n0 + 0) 811 [(0, .ref b), (1, .ref x), (2, .ref y), (3, .ref o), (4, .ref od), (5, .int l5)] [] := by
  unfold f_W14 at h
  refine A_aload_n X dL_law_811 1 rfl ?_
  refine A_aload_n X dL_law_812 0 rfl ?_
  refine A_iload X dL_law_813 5 rfl ?_
  refine A_iconst (v := 1) X dL_law_815 (by decide) ?_
  refine A_iadd X dL_law_816 ?_
  refine A_sld X hX hbl hbA hi1 dL_law_817 ?_
  refine A_aload_n X dL_law_818 3 rfl ?_
  obtain ⟨t1, hct1, h⟩ := bind_o h
  refine A_cX (k' := (k0 + 1)) (n' := (n0 + 6)) rfl rfl (A_runSH (rest := []) X dL_law_819 (c_L_heaviestFace g0 g3 g4 g5 g6 g48 (by omega) hct1) kY_L_heaviestFace kw_1010 ⟨(Nat.le_of_ble_eq_true rfl), (Nat.le_of_ble_eq_true rfl), kb rfl hRk, kb rfl hRn⟩ rfl (Nat.le_of_ble_eq_true rfl)) (fun C hp1 hP => hP.elim) (fun v9 hp1 al9 hP => ?_)
  obtain ⟨rfl, k1_0, n1, rfl⟩ := hP
  replace k1_0 : hp1 o = some (.inl (kC E 1, 1, .inr (.inl t1.2))) := k1_0
  refine A_st (st' := [.int t1.1]) rfl ?_
  refine A_istore (L' := [(6, .int t1.1), (0, .ref b), (1, .ref x), (2, .ref y), (3, .ref o), (4, .ref od), (5, .int l5)]) X dL_law_822 (by decide) rfl ?_
  refine A_aload_n X dL_law_824 3 rfl ?_
  refine A_aload_n X dL_law_825 1 rfl ?_
  refine A_iload X dL_law_826 6 rfl ?_
  refine A_iconst (v := 1) X dL_law_828 (by decide) ?_
  refine A_iadd X dL_law_829 ?_
  refine A_sld X hX hbl hbA hi1 dL_law_830 ?_
  obtain ⟨t2, hct2, h⟩ := bind_o h
  refine A_c (k' := (k0 + 1)) (n' := (n0 + 6)) rfl rfl (A_runV (rest := []) X dL_law_831 (c_X11_heaviestFace ((n1 _ (by omega)).trans g39) ((n1 _ (by omega)).trans g40)  hct2) kY_X11_heaviestFace kw_1760 ((n1 _ (by omega)).trans g39) rfl rfl ⟨(Nat.le_of_ble_eq_true rfl), (Nat.le_of_ble_eq_true rfl), kb rfl hRk, kb rfl hRn⟩ rfl (Nat.le_of_ble_eq_true rfl)) (fun v9 hp2 al9 hP => ?_)
  obtain ⟨rfl, k2_0, n2, rfl⟩ := hP
  replace k2_0 : hp2 y = some (.inr (11, [.ref (y + 1), .ref (y + 2), .ref (y + 3), .ref (y + 4), .ref (y + 5), .int m_undoable, .int m_undoStart, .int t2.2, .ref (y + 6), .int m_oftenAll, .ref (y + 7), .int m_inputLength, .int m_position, .int m_start, .int m_token, .int m_value, .int m_letters, .int m_code, .int m_place, .ref (y + 8), .int m_outputLength])) := k2_0
  refine A_st (st' := [.int t2.1]) rfl ?_
  refine A_istore (L' := [(7, .int t2.1), (6, .int t1.1), (0, .ref b), (1, .ref x), (2, .ref y), (3, .ref o), (4, .ref od), (5, .int l5)]) X dL_law_834 (by decide) rfl ?_
  refine A_aload_n X dL_law_836 4 rfl ?_
  obtain ⟨t3, hct3, h⟩ := bind_o h
  refine A_cp (k' := (k0 + 1)) (n' := (n0 + 6)) (A_runV (rest := []) X dL_law_837 (c_X11_thrown k2_0  hct3) kY_X11_thrown kw_1668 k2_0 rfl rfl ⟨(Nat.le_of_ble_eq_true rfl), (Nat.le_of_ble_eq_true rfl), kb rfl hRk, kb rfl hRn⟩ rfl (Nat.le_of_ble_eq_true rfl)) rfl rfl ?_
  refine A_iload X dL_law_840 1 rfl ?_
  refine A_icmp_eq (tgt := 847) X dL_law_842 h (by decide) (fun hc h => ?_) (fun hc h => ?_)
  · refine A_iload X dL_law_847 1 rfl ?_
    refine A_if_ne (tgt := 864) X dL_law_849 h (by decide) (fun hc h => ?_) (fun hc h => ?_)
    · refine A_goto (tgt := 3407) X dL_law_864 (by decide) ?_
      cases h
      refine A_sub (L' := [(0, .ref b), (1, .ref x), (2, .ref y), (3, .ref o), (4, .ref od), (5, .int l5)]) [2, 3, 4, 5, 6, 7] rfl ?_
      refine A_widen (k' := (k0 + 8)) (n' := (n0 + 48)) (by omega) (by omega) ?_
      exact K k2_0 ((n2 _ (by omega)).trans k1_0) (fun q z0 z1 => ((n2 q z0).trans (n1 q z1)))
    · refine A_aload_n X dL_law_852 5 rfl ?_
      refine A_iconst (v := 0) X dL_law_853 (by decide) ?_
      refine A_lald X dL_law_854 ((n2 _ (by omega)).trans k1_0) (by decide) ?_
      refine A_iload X dL_law_855 0 rfl ?_
      refine A_i2l X dL_law_857 ?_
      refine A_lcmp X dL_law_858 ?_
      refine A_if_eq (tgt := 864) X dL_law_859 h (by decide) (fun hc h => ?_) (fun hc h => ?_)
      · refine A_goto (tgt := 3407) X dL_law_864 (by decide) ?_
        cases h
        refine A_sub (L' := [(0, .ref b), (1, .ref x), (2, .ref y), (3, .ref o), (4, .ref od), (5, .int l5)]) [2, 3, 4, 5, 6, 7] rfl ?_
        refine A_widen (k' := (k0 + 8)) (n' := (n0 + 48)) (by omega) (by omega) ?_
        exact K k2_0 ((n2 _ (by omega)).trans k1_0) (fun q z0 z1 => ((n2 q z0).trans (n1 q z1)))
      · refine A_iconst (v := 0) X dL_law_862 (by decide) ?_
        cases h
  · refine A_iconst (v := 0) X dL_law_845 (by decide) ?_
    cases h
set_option maxHeartbeats 8000000 in
set_option maxRecDepth 100000 in
theorem c_W15 {E : KE} {p : Program} {l : Launch} {e : Env} {s : State} {m : MethodId} {b L9 : Nat} {xs : Nat → Int32} {below : List Frame} {meth : Method} {c : Code} {hp : Hp} {k0 n0 : Nat} {Q : State → Prop} {N : Nat} {x : Nat} {y : Nat} {o : Nat} {od : Nat} {sd : Int32} {mn : Int32} {th : Int32} {pc : Int32} {ln : Nat → Int32} {lt : Nat → Int32} {m_undoable : Int32} {m_undoStart : Int32} {m_thrown : Int32} {m_oftenAll : Int32} {m_inputLength : Int32} {m_position : Int32} {m_start : Int32} {m_token : Int32} {m_value : Int32} {m_letters : Int32} {m_code : Int32} {m_place : Int32} {m_outputLength : Int32} {m_s : Nat → Int32} {ov : Nat → Int64} {l5 : Int32} {out : Int32 × (Nat → Int64)} (X : CX E p l s m #[Value.ref b] meth c "DiceAuditLaw" cL_law 10) (hX : va_X b L9 xs s s.heap) (hbl : b < s.heap.size) (hbA : ¬ kA E b) (hi1 : vp_in (l5 + 1) L9) (hi2 : vp_in (l5 + 2) L9) (hi3 : vp_in (l5 + 3) L9) (hi4 : vp_in (l5 + 4) L9) (hi5 : vp_in (l5 + 5) L9) (hRk : k0 + 8 ≤ room_1.cells) (hRn : n0 + 48 ≤ room_1.slots) (g0 : hp x = some (.inr (10, [.ref (x + 126), .ref (x + 128), .ref (x + 1), .ref (x + 3), .ref (x + 16), .ref (x + 18), .ref (x + 124), .ref (x + 125)]))) (g3 : hp (x + 3) = some (.inr (2, [.ref (x + 4), .ref (x + 7), .ref (x + 10), .ref (x + 13), .int sd, .int mn, .int th]))) (g7 : hp (x + 7) = some (.inr (7, [.ref (x + 8), .ref (x + 9), .int pc]))) (g8 : hp (x + 8) = some (.inl (kC E 0, 6, .inl ln))) (g9 : hp (x + 9) = some (.inl (kC E 0, 24, .inl lt))) (g39 : hp y = some (.inr (11, [.ref (y + 1), .ref (y + 2), .ref (y + 3), .ref (y + 4), .ref (y + 5), .int m_undoable, .int m_undoStart, .int m_thrown, .ref (y + 6), .int m_oftenAll, .ref (y + 7), .int m_inputLength, .int m_position, .int m_start, .int m_token, .int m_value, .int m_letters, .int m_code, .int m_place, .ref (y + 8), .int m_outputLength]))) (g40 : hp (y + 1) = some (.inl (kC E 0, 1399, .inl m_s))) (g48 : hp o = some (.inl (kC E 1, 1, .inr (.inl ov)))) (hz0 : (x + 10) ≤ y ∨ (y + 2) ≤ x) (hz1 : (x + 10) ≤ o ∨ (o + 1) ≤ x) (hz2 : (y + 2) ≤ o ∨ (o + 1) ≤ y) (h : f_W15 N xs l5 pc ln lt m_s m_thrown ov = some out) (K : ∀ {hp' : Hp}, hp' y = some (.inr (11, [.ref (y + 1), .ref (y + 2), .ref (y + 3), .ref (y + 4), .ref (y + 5), .int m_undoable, .int m_undoStart, .int out.1, .ref (y + 6), .int m_oftenAll, .ref (y + 7), .int m_inputLength, .int m_position, .int m_start, .int m_token, .int m_value, .int m_letters, .int m_code, .int m_place, .ref (y + 8), .int m_outputLength])) → hp' o = some (.inl (kC E 1, 1, .inr (.inl out.2))) → (∀ q, q ≠ y → q ≠ o → hp' q = hp q) → AW E p l e room_1 s m #[Value.ref b] below meth c 10 Q hp' none (k0 + 8) (n0 + 48) 3407 [(0, .ref b), (1, .ref x), (2, .ref y), (3, .ref o), (4, .ref od), (5, .int l5)] []) : AW E p l e room_1 s m #[Value.ref b] below meth c 10 Q hp none (k0 + 0) (n0 + 0) 867 [(0, .ref b), (1, .ref x), (2, .ref y), (3, .ref o), (4, .ref od), (5, .int l5)] [] := by
  unfold f_W15 at h
  refine A_aload_n X dL_law_867 1 rfl ?_
  refine A_aload_n X dL_law_868 0 rfl ?_
  refine A_iload X dL_law_869 5 rfl ?_
  refine A_iconst (v := 1) X dL_law_871 (by decide) ?_
  refine A_iadd X dL_law_872 ?_
  refine A_sld X hX hbl hbA hi1 dL_law_873 ?_
  refine A_aload_n X dL_law_874 0 rfl ?_
  refine A_iload X dL_law_875 5 rfl ?_
  refine A_iconst (v := 2) X dL_law_877 (by decide) ?_
  refine A_iadd X dL_law_878 ?_
  refine A_sld X hX hbl hbA hi2 dL_law_879 ?_
  refine A_aload_n X dL_law_880 3 rfl ?_
  obtain ⟨t1, hct1, h⟩ := bind_o h
  refine A_cX (k' := (k0 + 2)) (n' := (n0 + 12)) rfl rfl (A_runSH (rest := []) X dL_law_881 (c_L_nameByte g0 g3 g7 g8 g9 g48 (by omega) hct1) kY_L_nameByte kw_1021 ⟨(Nat.le_of_ble_eq_true rfl), (Nat.le_of_ble_eq_true rfl), kb rfl hRk, kb rfl hRn⟩ rfl (Nat.le_of_ble_eq_true rfl)) (fun C hp1 hP => hP.elim) (fun v9 hp1 al9 hP => ?_)
  obtain ⟨rfl, k1_0, n1, rfl⟩ := hP
  replace k1_0 : hp1 o = some (.inl (kC E 1, 1, .inr (.inl t1.2))) := k1_0
  refine A_st (st' := [.int t1.1]) rfl ?_
  refine A_istore (L' := [(6, .int t1.1), (0, .ref b), (1, .ref x), (2, .ref y), (3, .ref o), (4, .ref od), (5, .int l5)]) X dL_law_884 (by decide) rfl ?_
  refine A_aload_n X dL_law_886 3 rfl ?_
  refine A_aload_n X dL_law_887 1 rfl ?_
  refine A_iload X dL_law_888 6 rfl ?_
  refine A_iconst (v := 1) X dL_law_890 (by decide) ?_
  refine A_iadd X dL_law_891 ?_
  refine A_sld X hX hbl hbA hi1 dL_law_892 ?_
  refine A_aload_n X dL_law_893 1 rfl ?_
  refine A_iload X dL_law_894 6 rfl ?_
  refine A_iconst (v := 2) X dL_law_896 (by decide) ?_
  refine A_iadd X dL_law_897 ?_
  refine A_sld X hX hbl hbA hi2 dL_law_898 ?_
  obtain ⟨t2, hct2, h⟩ := bind_o h
  refine A_c (k' := (k0 + 2)) (n' := (n0 + 12)) rfl rfl (A_runV (rest := []) X dL_law_899 (c_X11_nameByte ((n1 _ (by omega)).trans g39) ((n1 _ (by omega)).trans g40)  hct2) kY_X11_nameByte kw_1764 ((n1 _ (by omega)).trans g39) rfl rfl ⟨(Nat.le_of_ble_eq_true rfl), (Nat.le_of_ble_eq_true rfl), kb rfl hRk, kb rfl hRn⟩ rfl (Nat.le_of_ble_eq_true rfl)) (fun v9 hp2 al9 hP => ?_)
  obtain ⟨rfl, k2_0, n2, rfl⟩ := hP
  replace k2_0 : hp2 y = some (.inr (11, [.ref (y + 1), .ref (y + 2), .ref (y + 3), .ref (y + 4), .ref (y + 5), .int m_undoable, .int m_undoStart, .int t2.2, .ref (y + 6), .int m_oftenAll, .ref (y + 7), .int m_inputLength, .int m_position, .int m_start, .int m_token, .int m_value, .int m_letters, .int m_code, .int m_place, .ref (y + 8), .int m_outputLength])) := k2_0
  refine A_st (st' := [.int t2.1]) rfl ?_
  refine A_istore (L' := [(7, .int t2.1), (6, .int t1.1), (0, .ref b), (1, .ref x), (2, .ref y), (3, .ref o), (4, .ref od), (5, .int l5)]) X dL_law_902 (by decide) rfl ?_
  refine A_aload_n X dL_law_904 4 rfl ?_
  obtain ⟨t3, hct3, h⟩ := bind_o h
  refine A_cp (k' := (k0 + 2)) (n' := (n0 + 12)) (A_runV (rest := []) X dL_law_905 (c_X11_thrown k2_0  hct3) kY_X11_thrown kw_1668 k2_0 rfl rfl ⟨(Nat.le_of_ble_eq_true rfl), (Nat.le_of_ble_eq_true rfl), kb rfl hRk, kb rfl hRn⟩ rfl (Nat.le_of_ble_eq_true rfl)) rfl rfl ?_
  refine A_iload X dL_law_908 1 rfl ?_
  refine A_icmp_eq (tgt := 915) X dL_law_910 h (by decide) (fun hc h => ?_) (fun hc h => ?_)
  · refine A_iload X dL_law_915 1 rfl ?_
    refine A_if_ne (tgt := 932) X dL_law_917 h (by decide) (fun hc h => ?_) (fun hc h => ?_)
    · refine A_goto (tgt := 3407) X dL_law_932 (by decide) ?_
      cases h
      refine A_sub (L' := [(0, .ref b), (1, .ref x), (2, .ref y), (3, .ref o), (4, .ref od), (5, .int l5)]) [2, 3, 4, 5, 6, 7] rfl ?_
      refine A_widen (k' := (k0 + 8)) (n' := (n0 + 48)) (by omega) (by omega) ?_
      exact K k2_0 ((n2 _ (by omega)).trans k1_0) (fun q z0 z1 => ((n2 q z0).trans (n1 q z1)))
    · refine A_aload_n X dL_law_920 5 rfl ?_
      refine A_iconst (v := 0) X dL_law_921 (by decide) ?_
      refine A_lald X dL_law_922 ((n2 _ (by omega)).trans k1_0) (by decide) ?_
      refine A_iload X dL_law_923 0 rfl ?_
      refine A_i2l X dL_law_925 ?_
      refine A_lcmp X dL_law_926 ?_
      refine A_if_eq (tgt := 932) X dL_law_927 h (by decide) (fun hc h => ?_) (fun hc h => ?_)
      · refine A_goto (tgt := 3407) X dL_law_932 (by decide) ?_
        cases h
        refine A_sub (L' := [(0, .ref b), (1, .ref x), (2, .ref y), (3, .ref o), (4, .ref od), (5, .int l5)]) [2, 3, 4, 5, 6, 7] rfl ?_
        refine A_widen (k' := (k0 + 8)) (n' := (n0 + 48)) (by omega) (by omega) ?_
        exact K k2_0 ((n2 _ (by omega)).trans k1_0) (fun q z0 z1 => ((n2 q z0).trans (n1 q z1)))
      · refine A_iconst (v := 0) X dL_law_930 (by decide) ?_
        cases h
  · refine A_iconst (v := 0) X dL_law_913 (by decide) ?_
    cases h
set_option maxHeartbeats 8000000 in
set_option maxRecDepth 100000 in
theorem c_W16 {E : KE} {p : Program} {l : Launch} {e : Env} {s : State} {m : MethodId} {b L9 : Nat} {xs : Nat → Int32} {below : List Frame} {meth : Method} {c : Code} {hp : Hp} {k0 n0 : Nat} {Q : State → Prop} {x : Nat} {y : Nat} {o : Nat} {od : Nat} {sd : Int32} {mn : Int32} {th : Int32} {tc : Int32} {en : Nat → Int32} {m_undoable : Int32} {m_undoStart : Int32} {m_thrown : Int32} {m_oftenAll : Int32} {m_inputLength : Int32} {m_position : Int32} {m_start : Int32} {m_token : Int32} {m_value : Int32} {m_letters : Int32} {m_code : Int32} {m_place : Int32} {m_outputLength : Int32} {m_s : Nat → Int32} {ov : Nat → Int64} {l5 : Int32} {out : Int32 × (Nat → Int64)} (X : CX E p l s m #[Value.ref b] meth c "DiceAuditLaw" cL_law 10) (hX : va_X b L9 xs s s.heap) (hbl : b < s.heap.size) (hbA : ¬ kA E b) (hi1 : vp_in (l5 + 1) L9) (hi2 : vp_in (l5 + 2) L9) (hi3 : vp_in (l5 + 3) L9) (hi4 : vp_in (l5 + 4) L9) (hi5 : vp_in (l5 + 5) L9) (hRk : k0 + 8 ≤ room_1.cells) (hRn : n0 + 48 ≤ room_1.slots) (g0 : hp x = some (.inr (10, [.ref (x + 126), .ref (x + 128), .ref (x + 1), .ref (x + 3), .ref (x + 16), .ref (x + 18), .ref (x + 124), .ref (x + 125)]))) (g3 : hp (x + 3) = some (.inr (2, [.ref (x + 4), .ref (x + 7), .ref (x + 10), .ref (x + 13), .int sd, .int mn, .int th]))) (g10 : hp (x + 10) = some (.inr (4, [.ref (x + 11), .ref (x + 12), .int tc]))) (g11 : hp (x + 11) = some (.inl (kC E 0, 300, .inl en))) (g39 : hp y = some (.inr (11, [.ref (y + 1), .ref (y + 2), .ref (y + 3), .ref (y + 4), .ref (y + 5), .int m_undoable, .int m_undoStart, .int m_thrown, .ref (y + 6), .int m_oftenAll, .ref (y + 7), .int m_inputLength, .int m_position, .int m_start, .int m_token, .int m_value, .int m_letters, .int m_code, .int m_place, .ref (y + 8), .int m_outputLength]))) (g40 : hp (y + 1) = some (.inl (kC E 0, 1399, .inl m_s))) (g48 : hp o = some (.inl (kC E 1, 1, .inr (.inl ov)))) (hz0 : (x + 12) ≤ y ∨ (y + 2) ≤ x) (hz1 : (x + 12) ≤ o ∨ (o + 1) ≤ x) (hz2 : (y + 2) ≤ o ∨ (o + 1) ≤ y) (h : f_W16 xs l5 tc en m_s m_thrown ov = some out) (K : ∀ {hp' : Hp}, hp' y = some (.inr (11, [.ref (y + 1), .ref (y + 2), .ref (y + 3), .ref (y + 4), .ref (y + 5), .int m_undoable, .int m_undoStart, .int out.1, .ref (y + 6), .int m_oftenAll, .ref (y + 7), .int m_inputLength, .int m_position, .int m_start, .int m_token, .int m_value, .int m_letters, .int m_code, .int m_place, .ref (y + 8), .int m_outputLength])) → hp' o = some (.inl (kC E 1, 1, .inr (.inl out.2))) → (∀ q, q ≠ y → q ≠ o → hp' q = hp q) → AW E p l e room_1 s m #[Value.ref b] below meth c 10 Q hp' none (k0 + 8) (n0 + 48) 3407 [(0, .ref b), (1, .ref x), (2, .ref y), (3, .ref o), (4, .ref od), (5, .int l5)] []) : AW E p l e room_1 s m #[Value.ref b] below meth c 10 Q hp none (k0 + 0) (n0 + 0) 935 [(0, .ref b), (1, .ref x), (2, .ref y), (3, .ref o), (4, .ref od), (5, .int l5)] [] := by
  unfold f_W16 at h
  refine A_aload_n X dL_law_935 1 rfl ?_
  refine A_aload_n X dL_law_936 0 rfl ?_
  refine A_iload X dL_law_937 5 rfl ?_
  refine A_iconst (v := 1) X dL_law_939 (by decide) ?_
  refine A_iadd X dL_law_940 ?_
  refine A_sld X hX hbl hbA hi1 dL_law_941 ?_
  refine A_aload_n X dL_law_942 3 rfl ?_
  obtain ⟨t1, hct1, h⟩ := bind_o h
  refine A_cX (k' := (k0 + 1)) (n' := (n0 + 6)) rfl rfl (A_runSH (rest := []) X dL_law_943 (c_L_playerAt g0 g3 g10 g11 g48 (by omega) hct1) kY_L_playerAt kw_1049 ⟨(Nat.le_of_ble_eq_true rfl), (Nat.le_of_ble_eq_true rfl), kb rfl hRk, kb rfl hRn⟩ rfl (Nat.le_of_ble_eq_true rfl)) (fun C hp1 hP => hP.elim) (fun v9 hp1 al9 hP => ?_)
  obtain ⟨rfl, k1_0, n1, rfl⟩ := hP
  replace k1_0 : hp1 o = some (.inl (kC E 1, 1, .inr (.inl t1.2))) := k1_0
  refine A_st (st' := [.int t1.1]) rfl ?_
  refine A_istore (L' := [(6, .int t1.1), (0, .ref b), (1, .ref x), (2, .ref y), (3, .ref o), (4, .ref od), (5, .int l5)]) X dL_law_946 (by decide) rfl ?_
  refine A_aload_n X dL_law_948 3 rfl ?_
  refine A_aload_n X dL_law_949 1 rfl ?_
  refine A_iload X dL_law_950 6 rfl ?_
  refine A_iconst (v := 1) X dL_law_952 (by decide) ?_
  refine A_iadd X dL_law_953 ?_
  refine A_sld X hX hbl hbA hi1 dL_law_954 ?_
  obtain ⟨t2, hct2, h⟩ := bind_o h
  refine A_c (k' := (k0 + 1)) (n' := (n0 + 6)) rfl rfl (A_runV (rest := []) X dL_law_955 (c_X11_playerAt ((n1 _ (by omega)).trans g39) ((n1 _ (by omega)).trans g40)  hct2) kY_X11_playerAt kw_1778 ((n1 _ (by omega)).trans g39) rfl rfl ⟨(Nat.le_of_ble_eq_true rfl), (Nat.le_of_ble_eq_true rfl), kb rfl hRk, kb rfl hRn⟩ rfl (Nat.le_of_ble_eq_true rfl)) (fun v9 hp2 al9 hP => ?_)
  obtain ⟨rfl, k2_0, n2, rfl⟩ := hP
  replace k2_0 : hp2 y = some (.inr (11, [.ref (y + 1), .ref (y + 2), .ref (y + 3), .ref (y + 4), .ref (y + 5), .int m_undoable, .int m_undoStart, .int t2.2, .ref (y + 6), .int m_oftenAll, .ref (y + 7), .int m_inputLength, .int m_position, .int m_start, .int m_token, .int m_value, .int m_letters, .int m_code, .int m_place, .ref (y + 8), .int m_outputLength])) := k2_0
  refine A_st (st' := [.int t2.1]) rfl ?_
  refine A_istore (L' := [(7, .int t2.1), (6, .int t1.1), (0, .ref b), (1, .ref x), (2, .ref y), (3, .ref o), (4, .ref od), (5, .int l5)]) X dL_law_958 (by decide) rfl ?_
  refine A_aload_n X dL_law_960 4 rfl ?_
  obtain ⟨t3, hct3, h⟩ := bind_o h
  refine A_cp (k' := (k0 + 1)) (n' := (n0 + 6)) (A_runV (rest := []) X dL_law_961 (c_X11_thrown k2_0  hct3) kY_X11_thrown kw_1668 k2_0 rfl rfl ⟨(Nat.le_of_ble_eq_true rfl), (Nat.le_of_ble_eq_true rfl), kb rfl hRk, kb rfl hRn⟩ rfl (Nat.le_of_ble_eq_true rfl)) rfl rfl ?_
  refine A_iload X dL_law_964 1 rfl ?_
  refine A_icmp_eq (tgt := 971) X dL_law_966 h (by decide) (fun hc h => ?_) (fun hc h => ?_)
  · refine A_iload X dL_law_971 1 rfl ?_
    refine A_if_ne (tgt := 988) X dL_law_973 h (by decide) (fun hc h => ?_) (fun hc h => ?_)
    · refine A_goto (tgt := 3407) X dL_law_988 (by decide) ?_
      cases h
      refine A_sub (L' := [(0, .ref b), (1, .ref x), (2, .ref y), (3, .ref o), (4, .ref od), (5, .int l5)]) [2, 3, 4, 5, 6, 7] rfl ?_
      refine A_widen (k' := (k0 + 8)) (n' := (n0 + 48)) (by omega) (by omega) ?_
      exact K k2_0 ((n2 _ (by omega)).trans k1_0) (fun q z0 z1 => ((n2 q z0).trans (n1 q z1)))
    · refine A_aload_n X dL_law_976 5 rfl ?_
      refine A_iconst (v := 0) X dL_law_977 (by decide) ?_
      refine A_lald X dL_law_978 ((n2 _ (by omega)).trans k1_0) (by decide) ?_
      refine A_iload X dL_law_979 0 rfl ?_
      refine A_i2l X dL_law_981 ?_
      refine A_lcmp X dL_law_982 ?_
      refine A_if_eq (tgt := 988) X dL_law_983 h (by decide) (fun hc h => ?_) (fun hc h => ?_)
      · refine A_goto (tgt := 3407) X dL_law_988 (by decide) ?_
        cases h
        refine A_sub (L' := [(0, .ref b), (1, .ref x), (2, .ref y), (3, .ref o), (4, .ref od), (5, .int l5)]) [2, 3, 4, 5, 6, 7] rfl ?_
        refine A_widen (k' := (k0 + 8)) (n' := (n0 + 48)) (by omega) (by omega) ?_
        exact K k2_0 ((n2 _ (by omega)).trans k1_0) (fun q z0 z1 => ((n2 q z0).trans (n1 q z1)))
      · refine A_iconst (v := 0) X dL_law_986 (by decide) ?_
        cases h
  · refine A_iconst (v := 0) X dL_law_969 (by decide) ?_
    cases h
set_option maxHeartbeats 8000000 in
set_option maxRecDepth 100000 in
theorem c_W17 {E : KE} {p : Program} {l : Launch} {e : Env} {s : State} {m : MethodId} {b L9 : Nat} {xs : Nat → Int32} {below : List Frame} {meth : Method} {c : Code} {hp : Hp} {k0 n0 : Nat} {Q : State → Prop} {x : Nat} {y : Nat} {o : Nat} {od : Nat} {sd : Int32} {mn : Int32} {th : Int32} {tc : Int32} {en : Nat → Int32} {m_undoable : Int32} {m_undoStart : Int32} {m_thrown : Int32} {m_oftenAll : Int32} {m_inputLength : Int32} {m_position : Int32} {m_start : Int32} {m_token : Int32} {m_value : Int32} {m_letters : Int32} {m_code : Int32} {m_place : Int32} {m_outputLength : Int32} {m_s : Nat → Int32} {ov : Nat → Int64} {l5 : Int32} {out : Int32 × (Nat → Int64)} (X : CX E p l s m #[Value.ref b] meth c "DiceAuditLaw" cL_law 10) (hX : va_X b L9 xs s s.heap) (hbl : b < s.heap.size) (hbA : ¬ kA E b) (hi1 : vp_in (l5 + 1) L9) (hi2 : vp_in (l5 + 2) L9) (hi3 : vp_in (l5 + 3) L9) (hi4 : vp_in (l5 + 4) L9) (hi5 : vp_in (l5 + 5) L9) (hRk : k0 + 8 ≤ room_1.cells) (hRn : n0 + 48 ≤ room_1.slots) (g0 : hp x = some (.inr (10, [.ref (x + 126), .ref (x + 128), .ref (x + 1), .ref (x + 3), .ref (x + 16), .ref (x + 18), .ref (x + 124), .ref (x + 125)]))) (g3 : hp (x + 3) = some (.inr (2, [.ref (x + 4), .ref (x + 7), .ref (x + 10), .ref (x + 13), .int sd, .int mn, .int th]))) (g10 : hp (x + 10) = some (.inr (4, [.ref (x + 11), .ref (x + 12), .int tc]))) (g11 : hp (x + 11) = some (.inl (kC E 0, 300, .inl en))) (g39 : hp y = some (.inr (11, [.ref (y + 1), .ref (y + 2), .ref (y + 3), .ref (y + 4), .ref (y + 5), .int m_undoable, .int m_undoStart, .int m_thrown, .ref (y + 6), .int m_oftenAll, .ref (y + 7), .int m_inputLength, .int m_position, .int m_start, .int m_token, .int m_value, .int m_letters, .int m_code, .int m_place, .ref (y + 8), .int m_outputLength]))) (g40 : hp (y + 1) = some (.inl (kC E 0, 1399, .inl m_s))) (g48 : hp o = some (.inl (kC E 1, 1, .inr (.inl ov)))) (hz0 : (x + 12) ≤ y ∨ (y + 2) ≤ x) (hz1 : (x + 12) ≤ o ∨ (o + 1) ≤ x) (hz2 : (y + 2) ≤ o ∨ (o + 1) ≤ y) (h : f_W17 xs l5 tc en m_s m_thrown ov = some out) (K : ∀ {hp' : Hp}, hp' y = some (.inr (11, [.ref (y + 1), .ref (y + 2), .ref (y + 3), .ref (y + 4), .ref (y + 5), .int m_undoable, .int m_undoStart, .int out.1, .ref (y + 6), .int m_oftenAll, .ref (y + 7), .int m_inputLength, .int m_position, .int m_start, .int m_token, .int m_value, .int m_letters, .int m_code, .int m_place, .ref (y + 8), .int m_outputLength])) → hp' o = some (.inl (kC E 1, 1, .inr (.inl out.2))) → (∀ q, q ≠ y → q ≠ o → hp' q = hp q) → AW E p l e room_1 s m #[Value.ref b] below meth c 10 Q hp' none (k0 + 8) (n0 + 48) 3407 [(0, .ref b), (1, .ref x), (2, .ref y), (3, .ref o), (4, .ref od), (5, .int l5)] []) : AW E p l e room_1 s m #[Value.ref b] below meth c 10 Q hp none (k0 + 0) (n0 + 0) 991 [(0, .ref b), (1, .ref x), (2, .ref y), (3, .ref o), (4, .ref od), (5, .int l5)] [] := by
  unfold f_W17 at h
  refine A_aload_n X dL_law_991 1 rfl ?_
  refine A_aload_n X dL_law_992 0 rfl ?_
  refine A_iload X dL_law_993 5 rfl ?_
  refine A_iconst (v := 1) X dL_law_995 (by decide) ?_
  refine A_iadd X dL_law_996 ?_
  refine A_sld X hX hbl hbA hi1 dL_law_997 ?_
  refine A_aload_n X dL_law_998 3 rfl ?_
  obtain ⟨t1, hct1, h⟩ := bind_o h
  refine A_cX (k' := (k0 + 1)) (n' := (n0 + 6)) rfl rfl (A_runSH (rest := []) X dL_law_999 (c_L_dieAt g0 g3 g10 g11 g48 (by omega) hct1) kY_L_dieAt kw_1061 ⟨(Nat.le_of_ble_eq_true rfl), (Nat.le_of_ble_eq_true rfl), kb rfl hRk, kb rfl hRn⟩ rfl (Nat.le_of_ble_eq_true rfl)) (fun C hp1 hP => hP.elim) (fun v9 hp1 al9 hP => ?_)
  obtain ⟨rfl, k1_0, n1, rfl⟩ := hP
  replace k1_0 : hp1 o = some (.inl (kC E 1, 1, .inr (.inl t1.2))) := k1_0
  refine A_st (st' := [.int t1.1]) rfl ?_
  refine A_istore (L' := [(6, .int t1.1), (0, .ref b), (1, .ref x), (2, .ref y), (3, .ref o), (4, .ref od), (5, .int l5)]) X dL_law_1002 (by decide) rfl ?_
  refine A_aload_n X dL_law_1004 3 rfl ?_
  refine A_aload_n X dL_law_1005 1 rfl ?_
  refine A_iload X dL_law_1006 6 rfl ?_
  refine A_iconst (v := 1) X dL_law_1008 (by decide) ?_
  refine A_iadd X dL_law_1009 ?_
  refine A_sld X hX hbl hbA hi1 dL_law_1010 ?_
  obtain ⟨t2, hct2, h⟩ := bind_o h
  refine A_c (k' := (k0 + 1)) (n' := (n0 + 6)) rfl rfl (A_runV (rest := []) X dL_law_1011 (c_X11_dieAt ((n1 _ (by omega)).trans g39) ((n1 _ (by omega)).trans g40)  hct2) kY_X11_dieAt kw_1790 ((n1 _ (by omega)).trans g39) rfl rfl ⟨(Nat.le_of_ble_eq_true rfl), (Nat.le_of_ble_eq_true rfl), kb rfl hRk, kb rfl hRn⟩ rfl (Nat.le_of_ble_eq_true rfl)) (fun v9 hp2 al9 hP => ?_)
  obtain ⟨rfl, k2_0, n2, rfl⟩ := hP
  replace k2_0 : hp2 y = some (.inr (11, [.ref (y + 1), .ref (y + 2), .ref (y + 3), .ref (y + 4), .ref (y + 5), .int m_undoable, .int m_undoStart, .int t2.2, .ref (y + 6), .int m_oftenAll, .ref (y + 7), .int m_inputLength, .int m_position, .int m_start, .int m_token, .int m_value, .int m_letters, .int m_code, .int m_place, .ref (y + 8), .int m_outputLength])) := k2_0
  refine A_st (st' := [.int t2.1]) rfl ?_
  refine A_istore (L' := [(7, .int t2.1), (6, .int t1.1), (0, .ref b), (1, .ref x), (2, .ref y), (3, .ref o), (4, .ref od), (5, .int l5)]) X dL_law_1014 (by decide) rfl ?_
  refine A_aload_n X dL_law_1016 4 rfl ?_
  obtain ⟨t3, hct3, h⟩ := bind_o h
  refine A_cp (k' := (k0 + 1)) (n' := (n0 + 6)) (A_runV (rest := []) X dL_law_1017 (c_X11_thrown k2_0  hct3) kY_X11_thrown kw_1668 k2_0 rfl rfl ⟨(Nat.le_of_ble_eq_true rfl), (Nat.le_of_ble_eq_true rfl), kb rfl hRk, kb rfl hRn⟩ rfl (Nat.le_of_ble_eq_true rfl)) rfl rfl ?_
  refine A_iload X dL_law_1020 1 rfl ?_
  refine A_icmp_eq (tgt := 1027) X dL_law_1022 h (by decide) (fun hc h => ?_) (fun hc h => ?_)
  · refine A_iload X dL_law_1027 1 rfl ?_
    refine A_if_ne (tgt := 1044) X dL_law_1029 h (by decide) (fun hc h => ?_) (fun hc h => ?_)
    · refine A_goto (tgt := 3407) X dL_law_1044 (by decide) ?_
      cases h
      refine A_sub (L' := [(0, .ref b), (1, .ref x), (2, .ref y), (3, .ref o), (4, .ref od), (5, .int l5)]) [2, 3, 4, 5, 6, 7] rfl ?_
      refine A_widen (k' := (k0 + 8)) (n' := (n0 + 48)) (by omega) (by omega) ?_
      exact K k2_0 ((n2 _ (by omega)).trans k1_0) (fun q z0 z1 => ((n2 q z0).trans (n1 q z1)))
    · refine A_aload_n X dL_law_1032 5 rfl ?_
      refine A_iconst (v := 0) X dL_law_1033 (by decide) ?_
      refine A_lald X dL_law_1034 ((n2 _ (by omega)).trans k1_0) (by decide) ?_
      refine A_iload X dL_law_1035 0 rfl ?_
      refine A_i2l X dL_law_1037 ?_
      refine A_lcmp X dL_law_1038 ?_
      refine A_if_eq (tgt := 1044) X dL_law_1039 h (by decide) (fun hc h => ?_) (fun hc h => ?_)
      · refine A_goto (tgt := 3407) X dL_law_1044 (by decide) ?_
        cases h
        refine A_sub (L' := [(0, .ref b), (1, .ref x), (2, .ref y), (3, .ref o), (4, .ref od), (5, .int l5)]) [2, 3, 4, 5, 6, 7] rfl ?_
        refine A_widen (k' := (k0 + 8)) (n' := (n0 + 48)) (by omega) (by omega) ?_
        exact K k2_0 ((n2 _ (by omega)).trans k1_0) (fun q z0 z1 => ((n2 q z0).trans (n1 q z1)))
      · refine A_iconst (v := 0) X dL_law_1042 (by decide) ?_
        cases h
  · refine A_iconst (v := 0) X dL_law_1025 (by decide) ?_
    cases h
set_option maxHeartbeats 8000000 in
set_option maxRecDepth 100000 in
theorem c_W18 {E : KE} {p : Program} {l : Launch} {e : Env} {s : State} {m : MethodId} {b L9 : Nat} {xs : Nat → Int32} {below : List Frame} {meth : Method} {c : Code} {hp : Hp} {k0 n0 : Nat} {Q : State → Prop} {x : Nat} {y : Nat} {o : Nat} {od : Nat} {sd : Int32} {mn : Int32} {th : Int32} {tc : Int32} {en : Nat → Int32} {m_undoable : Int32} {m_undoStart : Int32} {m_thrown : Int32} {m_oftenAll : Int32} {m_inputLength : Int32} {m_position : Int32} {m_start : Int32} {m_token : Int32} {m_value : Int32} {m_letters : Int32} {m_code : Int32} {m_place : Int32} {m_outputLength : Int32} {m_s : Nat → Int32} {ov : Nat → Int64} {l5 : Int32} {out : Int32 × (Nat → Int64)} (X : CX E p l s m #[Value.ref b] meth c "DiceAuditLaw" cL_law 10) (hX : va_X b L9 xs s s.heap) (hbl : b < s.heap.size) (hbA : ¬ kA E b) (hi1 : vp_in (l5 + 1) L9) (hi2 : vp_in (l5 + 2) L9) (hi3 : vp_in (l5 + 3) L9) (hi4 : vp_in (l5 + 4) L9) (hi5 : vp_in (l5 + 5) L9) (hRk : k0 + 8 ≤ room_1.cells) (hRn : n0 + 48 ≤ room_1.slots) (g0 : hp x = some (.inr (10, [.ref (x + 126), .ref (x + 128), .ref (x + 1), .ref (x + 3), .ref (x + 16), .ref (x + 18), .ref (x + 124), .ref (x + 125)]))) (g3 : hp (x + 3) = some (.inr (2, [.ref (x + 4), .ref (x + 7), .ref (x + 10), .ref (x + 13), .int sd, .int mn, .int th]))) (g10 : hp (x + 10) = some (.inr (4, [.ref (x + 11), .ref (x + 12), .int tc]))) (g11 : hp (x + 11) = some (.inl (kC E 0, 300, .inl en))) (g39 : hp y = some (.inr (11, [.ref (y + 1), .ref (y + 2), .ref (y + 3), .ref (y + 4), .ref (y + 5), .int m_undoable, .int m_undoStart, .int m_thrown, .ref (y + 6), .int m_oftenAll, .ref (y + 7), .int m_inputLength, .int m_position, .int m_start, .int m_token, .int m_value, .int m_letters, .int m_code, .int m_place, .ref (y + 8), .int m_outputLength]))) (g40 : hp (y + 1) = some (.inl (kC E 0, 1399, .inl m_s))) (g48 : hp o = some (.inl (kC E 1, 1, .inr (.inl ov)))) (hz0 : (x + 12) ≤ y ∨ (y + 2) ≤ x) (hz1 : (x + 12) ≤ o ∨ (o + 1) ≤ x) (hz2 : (y + 2) ≤ o ∨ (o + 1) ≤ y) (h : f_W18 xs l5 tc en m_s m_thrown ov = some out) (K : ∀ {hp' : Hp}, hp' y = some (.inr (11, [.ref (y + 1), .ref (y + 2), .ref (y + 3), .ref (y + 4), .ref (y + 5), .int m_undoable, .int m_undoStart, .int out.1, .ref (y + 6), .int m_oftenAll, .ref (y + 7), .int m_inputLength, .int m_position, .int m_start, .int m_token, .int m_value, .int m_letters, .int m_code, .int m_place, .ref (y + 8), .int m_outputLength])) → hp' o = some (.inl (kC E 1, 1, .inr (.inl out.2))) → (∀ q, q ≠ y → q ≠ o → hp' q = hp q) → AW E p l e room_1 s m #[Value.ref b] below meth c 10 Q hp' none (k0 + 8) (n0 + 48) 3407 [(0, .ref b), (1, .ref x), (2, .ref y), (3, .ref o), (4, .ref od), (5, .int l5)] []) : AW E p l e room_1 s m #[Value.ref b] below meth c 10 Q hp none (k0 + 0) (n0 + 0) 1047 [(0, .ref b), (1, .ref x), (2, .ref y), (3, .ref o), (4, .ref od), (5, .int l5)] [] := by
  unfold f_W18 at h
  refine A_aload_n X dL_law_1047 1 rfl ?_
  refine A_aload_n X dL_law_1048 0 rfl ?_
  refine A_iload X dL_law_1049 5 rfl ?_
  refine A_iconst (v := 1) X dL_law_1051 (by decide) ?_
  refine A_iadd X dL_law_1052 ?_
  refine A_sld X hX hbl hbA hi1 dL_law_1053 ?_
  refine A_aload_n X dL_law_1054 3 rfl ?_
  obtain ⟨t1, hct1, h⟩ := bind_o h
  refine A_cX (k' := (k0 + 1)) (n' := (n0 + 6)) rfl rfl (A_runSH (rest := []) X dL_law_1055 (c_L_faceAt g0 g3 g10 g11 g48 (by omega) hct1) kY_L_faceAt kw_1068 ⟨(Nat.le_of_ble_eq_true rfl), (Nat.le_of_ble_eq_true rfl), kb rfl hRk, kb rfl hRn⟩ rfl (Nat.le_of_ble_eq_true rfl)) (fun C hp1 hP => hP.elim) (fun v9 hp1 al9 hP => ?_)
  obtain ⟨rfl, k1_0, n1, rfl⟩ := hP
  replace k1_0 : hp1 o = some (.inl (kC E 1, 1, .inr (.inl t1.2))) := k1_0
  refine A_st (st' := [.int t1.1]) rfl ?_
  refine A_istore (L' := [(6, .int t1.1), (0, .ref b), (1, .ref x), (2, .ref y), (3, .ref o), (4, .ref od), (5, .int l5)]) X dL_law_1058 (by decide) rfl ?_
  refine A_aload_n X dL_law_1060 3 rfl ?_
  refine A_aload_n X dL_law_1061 1 rfl ?_
  refine A_iload X dL_law_1062 6 rfl ?_
  refine A_iconst (v := 1) X dL_law_1064 (by decide) ?_
  refine A_iadd X dL_law_1065 ?_
  refine A_sld X hX hbl hbA hi1 dL_law_1066 ?_
  obtain ⟨t2, hct2, h⟩ := bind_o h
  refine A_c (k' := (k0 + 1)) (n' := (n0 + 6)) rfl rfl (A_runV (rest := []) X dL_law_1067 (c_X11_faceAt ((n1 _ (by omega)).trans g39) ((n1 _ (by omega)).trans g40)  hct2) kY_X11_faceAt kw_1794 ((n1 _ (by omega)).trans g39) rfl rfl ⟨(Nat.le_of_ble_eq_true rfl), (Nat.le_of_ble_eq_true rfl), kb rfl hRk, kb rfl hRn⟩ rfl (Nat.le_of_ble_eq_true rfl)) (fun v9 hp2 al9 hP => ?_)
  obtain ⟨rfl, k2_0, n2, rfl⟩ := hP
  replace k2_0 : hp2 y = some (.inr (11, [.ref (y + 1), .ref (y + 2), .ref (y + 3), .ref (y + 4), .ref (y + 5), .int m_undoable, .int m_undoStart, .int t2.2, .ref (y + 6), .int m_oftenAll, .ref (y + 7), .int m_inputLength, .int m_position, .int m_start, .int m_token, .int m_value, .int m_letters, .int m_code, .int m_place, .ref (y + 8), .int m_outputLength])) := k2_0
  refine A_st (st' := [.int t2.1]) rfl ?_
  refine A_istore (L' := [(7, .int t2.1), (6, .int t1.1), (0, .ref b), (1, .ref x), (2, .ref y), (3, .ref o), (4, .ref od), (5, .int l5)]) X dL_law_1070 (by decide) rfl ?_
  refine A_aload_n X dL_law_1072 4 rfl ?_
  obtain ⟨t3, hct3, h⟩ := bind_o h
  refine A_cp (k' := (k0 + 1)) (n' := (n0 + 6)) (A_runV (rest := []) X dL_law_1073 (c_X11_thrown k2_0  hct3) kY_X11_thrown kw_1668 k2_0 rfl rfl ⟨(Nat.le_of_ble_eq_true rfl), (Nat.le_of_ble_eq_true rfl), kb rfl hRk, kb rfl hRn⟩ rfl (Nat.le_of_ble_eq_true rfl)) rfl rfl ?_
  refine A_iload X dL_law_1076 1 rfl ?_
  refine A_icmp_eq (tgt := 1083) X dL_law_1078 h (by decide) (fun hc h => ?_) (fun hc h => ?_)
  · refine A_iload X dL_law_1083 1 rfl ?_
    refine A_if_ne (tgt := 1100) X dL_law_1085 h (by decide) (fun hc h => ?_) (fun hc h => ?_)
    · refine A_goto (tgt := 3407) X dL_law_1100 (by decide) ?_
      cases h
      refine A_sub (L' := [(0, .ref b), (1, .ref x), (2, .ref y), (3, .ref o), (4, .ref od), (5, .int l5)]) [2, 3, 4, 5, 6, 7] rfl ?_
      refine A_widen (k' := (k0 + 8)) (n' := (n0 + 48)) (by omega) (by omega) ?_
      exact K k2_0 ((n2 _ (by omega)).trans k1_0) (fun q z0 z1 => ((n2 q z0).trans (n1 q z1)))
    · refine A_aload_n X dL_law_1088 5 rfl ?_
      refine A_iconst (v := 0) X dL_law_1089 (by decide) ?_
      refine A_lald X dL_law_1090 ((n2 _ (by omega)).trans k1_0) (by decide) ?_
      refine A_iload X dL_law_1091 0 rfl ?_
      refine A_i2l X dL_law_1093 ?_
      refine A_lcmp X dL_law_1094 ?_
      refine A_if_eq (tgt := 1100) X dL_law_1095 h (by decide) (fun hc h => ?_) (fun hc h => ?_)
      · refine A_goto (tgt := 3407) X dL_law_1100 (by decide) ?_
        cases h
        refine A_sub (L' := [(0, .ref b), (1, .ref x), (2, .ref y), (3, .ref o), (4, .ref od), (5, .int l5)]) [2, 3, 4, 5, 6, 7] rfl ?_
        refine A_widen (k' := (k0 + 8)) (n' := (n0 + 48)) (by omega) (by omega) ?_
        exact K k2_0 ((n2 _ (by omega)).trans k1_0) (fun q z0 z1 => ((n2 q z0).trans (n1 q z1)))
      · refine A_iconst (v := 0) X dL_law_1098 (by decide) ?_
        cases h
  · refine A_iconst (v := 0) X dL_law_1081 (by decide) ?_
    cases h
set_option maxHeartbeats 8000000 in
set_option maxRecDepth 100000 in
theorem c_W19 {E : KE} {p : Program} {l : Launch} {e : Env} {s : State} {m : MethodId} {b L9 : Nat} {xs : Nat → Int32} {below : List Frame} {meth : Method} {c : Code} {hp : Hp} {k0 n0 : Nat} {Q : State → Prop} {x : Nat} {y : Nat} {o : Nat} {od : Nat} {sd : Int32} {mn : Int32} {th : Int32} {tc : Int32} {en : Nat → Int32} {m_undoable : Int32} {m_undoStart : Int32} {m_thrown : Int32} {m_oftenAll : Int32} {m_inputLength : Int32} {m_position : Int32} {m_start : Int32} {m_token : Int32} {m_value : Int32} {m_letters : Int32} {m_code : Int32} {m_place : Int32} {m_outputLength : Int32} {m_s : Nat → Int32} {ov : Nat → Int64} {l5 : Int32} {out : Int32 × (Nat → Int64)} (X : CX E p l s m #[Value.ref b] meth c "DiceAuditLaw" cL_law 10) (hX : va_X b L9 xs s s.heap) (hbl : b < s.heap.size) (hbA : ¬ kA E b) (hi1 : vp_in (l5 + 1) L9) (hi2 : vp_in (l5 + 2) L9) (hi3 : vp_in (l5 + 3) L9) (hi4 : vp_in (l5 + 4) L9) (hi5 : vp_in (l5 + 5) L9) (hRk : k0 + 8 ≤ room_1.cells) (hRn : n0 + 48 ≤ room_1.slots) (g0 : hp x = some (.inr (10, [.ref (x + 126), .ref (x + 128), .ref (x + 1), .ref (x + 3), .ref (x + 16), .ref (x + 18), .ref (x + 124), .ref (x + 125)]))) (g3 : hp (x + 3) = some (.inr (2, [.ref (x + 4), .ref (x + 7), .ref (x + 10), .ref (x + 13), .int sd, .int mn, .int th]))) (g10 : hp (x + 10) = some (.inr (4, [.ref (x + 11), .ref (x + 12), .int tc]))) (g11 : hp (x + 11) = some (.inl (kC E 0, 300, .inl en))) (g39 : hp y = some (.inr (11, [.ref (y + 1), .ref (y + 2), .ref (y + 3), .ref (y + 4), .ref (y + 5), .int m_undoable, .int m_undoStart, .int m_thrown, .ref (y + 6), .int m_oftenAll, .ref (y + 7), .int m_inputLength, .int m_position, .int m_start, .int m_token, .int m_value, .int m_letters, .int m_code, .int m_place, .ref (y + 8), .int m_outputLength]))) (g40 : hp (y + 1) = some (.inl (kC E 0, 1399, .inl m_s))) (g48 : hp o = some (.inl (kC E 1, 1, .inr (.inl ov)))) (hz0 : (x + 12) ≤ y ∨ (y + 2) ≤ x) (hz1 : (x + 12) ≤ o ∨ (o + 1) ≤ x) (hz2 : (y + 2) ≤ o ∨ (o + 1) ≤ y) (h : f_W19 xs l5 tc en m_s m_thrown ov = some out) (K : ∀ {hp' : Hp}, hp' y = some (.inr (11, [.ref (y + 1), .ref (y + 2), .ref (y + 3), .ref (y + 4), .ref (y + 5), .int m_undoable, .int m_undoStart, .int out.1, .ref (y + 6), .int m_oftenAll, .ref (y + 7), .int m_inputLength, .int m_position, .int m_start, .int m_token, .int m_value, .int m_letters, .int m_code, .int m_place, .ref (y + 8), .int m_outputLength])) → hp' o = some (.inl (kC E 1, 1, .inr (.inl out.2))) → (∀ q, q ≠ y → q ≠ o → hp' q = hp q) → AW E p l e room_1 s m #[Value.ref b] below meth c 10 Q hp' none (k0 + 8) (n0 + 48) 3407 [(0, .ref b), (1, .ref x), (2, .ref y), (3, .ref o), (4, .ref od), (5, .int l5)] []) : AW E p l e room_1 s m #[Value.ref b] below meth c 10 Q hp none (k0 + 0) (n0 + 0) 1103 [(0, .ref b), (1, .ref x), (2, .ref y), (3, .ref o), (4, .ref od), (5, .int l5)] [] := by
  unfold f_W19 at h
  refine A_aload_n X dL_law_1103 1 rfl ?_
  refine A_aload_n X dL_law_1104 0 rfl ?_
  refine A_iload X dL_law_1105 5 rfl ?_
  refine A_iconst (v := 1) X dL_law_1107 (by decide) ?_
  refine A_iadd X dL_law_1108 ?_
  refine A_sld X hX hbl hbA hi1 dL_law_1109 ?_
  refine A_aload_n X dL_law_1110 3 rfl ?_
  obtain ⟨t1, hct1, h⟩ := bind_o h
  refine A_cX (k' := (k0 + 1)) (n' := (n0 + 6)) rfl rfl (A_runSH (rest := []) X dL_law_1111 (c_L_isFairAt g0 g3 g10 g11 g48 (by omega) hct1) kY_L_isFairAt kw_1076 ⟨(Nat.le_of_ble_eq_true rfl), (Nat.le_of_ble_eq_true rfl), kb rfl hRk, kb rfl hRn⟩ rfl (Nat.le_of_ble_eq_true rfl)) (fun C hp1 hP => hP.elim) (fun v9 hp1 al9 hP => ?_)
  obtain ⟨rfl, k1_0, n1, rfl⟩ := hP
  replace k1_0 : hp1 o = some (.inl (kC E 1, 1, .inr (.inl t1.2))) := k1_0
  refine A_st (st' := [.int t1.1]) rfl ?_
  refine A_istore (L' := [(6, .int t1.1), (0, .ref b), (1, .ref x), (2, .ref y), (3, .ref o), (4, .ref od), (5, .int l5)]) X dL_law_1114 (by decide) rfl ?_
  refine A_aload_n X dL_law_1116 3 rfl ?_
  refine A_aload_n X dL_law_1117 1 rfl ?_
  refine A_iload X dL_law_1118 6 rfl ?_
  refine A_iconst (v := 1) X dL_law_1120 (by decide) ?_
  refine A_iadd X dL_law_1121 ?_
  refine A_sld X hX hbl hbA hi1 dL_law_1122 ?_
  obtain ⟨t2, hct2, h⟩ := bind_o h
  refine A_c (k' := (k0 + 1)) (n' := (n0 + 6)) rfl rfl (A_runV (rest := []) X dL_law_1123 (c_X11_isFairAt ((n1 _ (by omega)).trans g39) ((n1 _ (by omega)).trans g40)  hct2) kY_X11_isFairAt kw_1798 ((n1 _ (by omega)).trans g39) rfl rfl ⟨(Nat.le_of_ble_eq_true rfl), (Nat.le_of_ble_eq_true rfl), kb rfl hRk, kb rfl hRn⟩ rfl (Nat.le_of_ble_eq_true rfl)) (fun v9 hp2 al9 hP => ?_)
  obtain ⟨rfl, zt2, k2_0, n2, rfl⟩ := hP
  replace k2_0 : hp2 y = some (.inr (11, [.ref (y + 1), .ref (y + 2), .ref (y + 3), .ref (y + 4), .ref (y + 5), .int m_undoable, .int m_undoStart, .int t2.2, .ref (y + 6), .int m_oftenAll, .ref (y + 7), .int m_inputLength, .int m_position, .int m_start, .int m_token, .int m_value, .int m_letters, .int m_code, .int m_place, .ref (y + 8), .int m_outputLength])) := k2_0
  refine A_st (st' := [.int t2.1]) rfl ?_
  refine A_istore (L' := [(7, .int t2.1), (6, .int t1.1), (0, .ref b), (1, .ref x), (2, .ref y), (3, .ref o), (4, .ref od), (5, .int l5)]) X dL_law_1126 (by decide) rfl ?_
  refine A_aload_n X dL_law_1128 4 rfl ?_
  obtain ⟨t3, hct3, h⟩ := bind_o h
  refine A_cp (k' := (k0 + 1)) (n' := (n0 + 6)) (A_runV (rest := []) X dL_law_1129 (c_X11_thrown k2_0  hct3) kY_X11_thrown kw_1668 k2_0 rfl rfl ⟨(Nat.le_of_ble_eq_true rfl), (Nat.le_of_ble_eq_true rfl), kb rfl hRk, kb rfl hRn⟩ rfl (Nat.le_of_ble_eq_true rfl)) rfl rfl ?_
  refine A_iload X dL_law_1132 1 rfl ?_
  refine A_icmp_eq (tgt := 1139) X dL_law_1134 h (by decide) (fun hc h => ?_) (fun hc h => ?_)
  · refine A_iload X dL_law_1139 1 rfl ?_
    refine A_if_ne (tgt := 1163) X dL_law_1141 h (by decide) (fun hc h => ?_) (fun hc h => ?_)
    · refine A_goto (tgt := 3407) X dL_law_1163 (by decide) ?_
      cases h
      refine A_sub (L' := [(0, .ref b), (1, .ref x), (2, .ref y), (3, .ref o), (4, .ref od), (5, .int l5)]) [2, 3, 4, 5, 6, 7] rfl ?_
      refine A_widen (k' := (k0 + 8)) (n' := (n0 + 48)) (by omega) (by omega) ?_
      exact K k2_0 ((n2 _ (by omega)).trans k1_0) (fun q z0 z1 => ((n2 q z0).trans (n1 q z1)))
    · refine A_aload_n X dL_law_1144 5 rfl ?_
      refine A_iconst (v := 0) X dL_law_1145 (by decide) ?_
      refine A_lald X dL_law_1146 ((n2 _ (by omega)).trans k1_0) (by decide) ?_
      refine A_iload X dL_law_1147 0 rfl ?_
      refine A_if_eq (tgt := 1156) X dL_law_1149 h (by decide) (fun hc h => ?_) (fun hc h => ?_)
      · refine A_lconst (v := 0) X dL_law_1156 (by decide) ?_
        refine A_lcmp X dL_law_1157 ?_
        refine A_if_eq (tgt := 1163) X dL_law_1158 h (by decide) (fun hc h => ?_) (fun hc h => ?_)
        · refine A_goto (tgt := 3407) X dL_law_1163 (by decide) ?_
          cases h
          refine A_sub (L' := [(0, .ref b), (1, .ref x), (2, .ref y), (3, .ref o), (4, .ref od), (5, .int l5)]) [2, 3, 4, 5, 6, 7] rfl ?_
          refine A_widen (k' := (k0 + 8)) (n' := (n0 + 48)) (by omega) (by omega) ?_
          exact K k2_0 ((n2 _ (by omega)).trans k1_0) (fun q z0 z1 => ((n2 q z0).trans (n1 q z1)))
        · refine A_iconst (v := 0) X dL_law_1161 (by decide) ?_
          cases h
      · refine A_lconst (v := 1) X dL_law_1152 (by decide) ?_
        refine A_goto (tgt := 1157) X dL_law_1153 (by decide) ?_
        refine A_lcmp X dL_law_1157 ?_
        refine A_if_eq (tgt := 1163) X dL_law_1158 h (by decide) (fun hc h => ?_) (fun hc h => ?_)
        · refine A_goto (tgt := 3407) X dL_law_1163 (by decide) ?_
          cases h
          refine A_sub (L' := [(0, .ref b), (1, .ref x), (2, .ref y), (3, .ref o), (4, .ref od), (5, .int l5)]) [2, 3, 4, 5, 6, 7] rfl ?_
          refine A_widen (k' := (k0 + 8)) (n' := (n0 + 48)) (by omega) (by omega) ?_
          exact K k2_0 ((n2 _ (by omega)).trans k1_0) (fun q z0 z1 => ((n2 q z0).trans (n1 q z1)))
        · refine A_iconst (v := 0) X dL_law_1161 (by decide) ?_
          cases h
  · refine A_iconst (v := 0) X dL_law_1137 (by decide) ?_
    cases h
set_option maxHeartbeats 8000000 in
set_option maxRecDepth 100000 in
theorem c_W20 {E : KE} {p : Program} {l : Launch} {e : Env} {s : State} {m : MethodId} {b L9 : Nat} {xs : Nat → Int32} {below : List Frame} {meth : Method} {c : Code} {hp : Hp} {k0 n0 : Nat} {Q : State → Prop} {N : Nat} {x : Nat} {y : Nat} {o : Nat} {od : Nat} {sd : Int32} {mn : Int32} {th : Int32} {pc : Int32} {tc : Int32} {fr : Nat → Int32} {m_undoable : Int32} {m_undoStart : Int32} {m_thrown : Int32} {m_oftenAll : Int32} {m_inputLength : Int32} {m_position : Int32} {m_start : Int32} {m_token : Int32} {m_value : Int32} {m_letters : Int32} {m_code : Int32} {m_place : Int32} {m_outputLength : Int32} {m_s : Nat → Int32} {ov : Nat → Int64} {l5 : Int32} {out : Int32 × (Nat → Int64)} (X : CX E p l s m #[Value.ref b] meth c "DiceAuditLaw" cL_law 10) (hX : va_X b L9 xs s s.heap) (hbl : b < s.heap.size) (hbA : ¬ kA E b) (hi1 : vp_in (l5 + 1) L9) (hi2 : vp_in (l5 + 2) L9) (hi3 : vp_in (l5 + 3) L9) (hi4 : vp_in (l5 + 4) L9) (hi5 : vp_in (l5 + 5) L9) (hRk : k0 + 8 ≤ room_1.cells) (hRn : n0 + 48 ≤ room_1.slots) (g0 : hp x = some (.inr (10, [.ref (x + 126), .ref (x + 128), .ref (x + 1), .ref (x + 3), .ref (x + 16), .ref (x + 18), .ref (x + 124), .ref (x + 125)]))) (g3 : hp (x + 3) = some (.inr (2, [.ref (x + 4), .ref (x + 7), .ref (x + 10), .ref (x + 13), .int sd, .int mn, .int th]))) (g7 : hp (x + 7) = some (.inr (7, [.ref (x + 8), .ref (x + 9), .int pc]))) (g10 : hp (x + 10) = some (.inr (4, [.ref (x + 11), .ref (x + 12), .int tc]))) (g12 : hp (x + 12) = some (.inl (kC E 0, 432, .inl fr))) (g39 : hp y = some (.inr (11, [.ref (y + 1), .ref (y + 2), .ref (y + 3), .ref (y + 4), .ref (y + 5), .int m_undoable, .int m_undoStart, .int m_thrown, .ref (y + 6), .int m_oftenAll, .ref (y + 7), .int m_inputLength, .int m_position, .int m_start, .int m_token, .int m_value, .int m_letters, .int m_code, .int m_place, .ref (y + 8), .int m_outputLength]))) (g40 : hp (y + 1) = some (.inl (kC E 0, 1399, .inl m_s))) (g48 : hp o = some (.inl (kC E 1, 1, .inr (.inl ov)))) (hz0 : (x + 13) ≤ y ∨ (y + 2) ≤ x) (hz1 : (x + 13) ≤ o ∨ (o + 1) ≤ x) (hz2 : (y + 2) ≤ o ∨ (o + 1) ≤ y) (h : f_W20 N xs l5 pc fr m_s m_thrown ov = some out) (K : ∀ {hp' : Hp}, hp' y = some (.inr (11, [.ref (y + 1), .ref (y + 2), .ref (y + 3), .ref (y + 4), .ref (y + 5), .int m_undoable, .int m_undoStart, .int out.1, .ref (y + 6), .int m_oftenAll, .ref (y + 7), .int m_inputLength, .int m_position, .int m_start, .int m_token, .int m_value, .int m_letters, .int m_code, .int m_place, .ref (y + 8), .int m_outputLength])) → hp' o = some (.inl (kC E 1, 1, .inr (.inl out.2))) → (∀ q, q ≠ y → q ≠ o → hp' q = hp q) → AW E p l e room_1 s m #[Value.ref b] below meth c 10 Q hp' none (k0 + 8) (n0 + 48) 3407 [(0, .ref b), (1, .ref x), (2, .ref y), (3, .ref o), (4, .ref od), (5, .int l5)] []) : AW E p l e room_1 s m #[Value.ref b] below meth c 10 Q hp none (k0 + 0) (n0 + 0) 1166 [(0, .ref b), (1, .ref x), (2, .ref y), (3, .ref o), (4, .ref od), (5, .int l5)] [] := by
  unfold f_W20 at h
  refine A_aload_n X dL_law_1166 1 rfl ?_
  refine A_aload_n X dL_law_1167 0 rfl ?_
  refine A_iload X dL_law_1168 5 rfl ?_
  refine A_iconst (v := 1) X dL_law_1170 (by decide) ?_
  refine A_iadd X dL_law_1171 ?_
  refine A_sld X hX hbl hbA hi1 dL_law_1172 ?_
  refine A_aload_n X dL_law_1173 3 rfl ?_
  obtain ⟨t1, hct1, h⟩ := bind_o h
  refine A_cX (k' := (k0 + 1)) (n' := (n0 + 6)) rfl rfl (A_runSH (rest := []) X dL_law_1174 (c_L_throwsOf g0 g3 g7 g10 g12 g48 (by omega) hct1) kY_L_throwsOf kw_1084 ⟨(Nat.le_of_ble_eq_true rfl), (Nat.le_of_ble_eq_true rfl), kb rfl hRk, kb rfl hRn⟩ rfl (Nat.le_of_ble_eq_true rfl)) (fun C hp1 hP => hP.elim) (fun v9 hp1 al9 hP => ?_)
  obtain ⟨rfl, k1_0, n1, rfl⟩ := hP
  replace k1_0 : hp1 o = some (.inl (kC E 1, 1, .inr (.inl t1.2))) := k1_0
  refine A_st (st' := [.int t1.1]) rfl ?_
  refine A_istore (L' := [(6, .int t1.1), (0, .ref b), (1, .ref x), (2, .ref y), (3, .ref o), (4, .ref od), (5, .int l5)]) X dL_law_1177 (by decide) rfl ?_
  refine A_aload_n X dL_law_1179 3 rfl ?_
  refine A_aload_n X dL_law_1180 1 rfl ?_
  refine A_iload X dL_law_1181 6 rfl ?_
  refine A_iconst (v := 1) X dL_law_1183 (by decide) ?_
  refine A_iadd X dL_law_1184 ?_
  refine A_sld X hX hbl hbA hi1 dL_law_1185 ?_
  obtain ⟨t2, hct2, h⟩ := bind_o h
  refine A_c (k' := (k0 + 1)) (n' := (n0 + 6)) rfl rfl (A_runV (rest := []) X dL_law_1186 (c_X11_throwsOf ((n1 _ (by omega)).trans g39) ((n1 _ (by omega)).trans g40)  hct2) kY_X11_throwsOf kw_1802 ((n1 _ (by omega)).trans g39) rfl rfl ⟨(Nat.le_of_ble_eq_true rfl), (Nat.le_of_ble_eq_true rfl), kb rfl hRk, kb rfl hRn⟩ rfl (Nat.le_of_ble_eq_true rfl)) (fun v9 hp2 al9 hP => ?_)
  obtain ⟨rfl, k2_0, n2, rfl⟩ := hP
  replace k2_0 : hp2 y = some (.inr (11, [.ref (y + 1), .ref (y + 2), .ref (y + 3), .ref (y + 4), .ref (y + 5), .int m_undoable, .int m_undoStart, .int t2.2, .ref (y + 6), .int m_oftenAll, .ref (y + 7), .int m_inputLength, .int m_position, .int m_start, .int m_token, .int m_value, .int m_letters, .int m_code, .int m_place, .ref (y + 8), .int m_outputLength])) := k2_0
  refine A_st (st' := [.int t2.1]) rfl ?_
  refine A_istore (L' := [(7, .int t2.1), (6, .int t1.1), (0, .ref b), (1, .ref x), (2, .ref y), (3, .ref o), (4, .ref od), (5, .int l5)]) X dL_law_1189 (by decide) rfl ?_
  refine A_aload_n X dL_law_1191 4 rfl ?_
  obtain ⟨t3, hct3, h⟩ := bind_o h
  refine A_cp (k' := (k0 + 1)) (n' := (n0 + 6)) (A_runV (rest := []) X dL_law_1192 (c_X11_thrown k2_0  hct3) kY_X11_thrown kw_1668 k2_0 rfl rfl ⟨(Nat.le_of_ble_eq_true rfl), (Nat.le_of_ble_eq_true rfl), kb rfl hRk, kb rfl hRn⟩ rfl (Nat.le_of_ble_eq_true rfl)) rfl rfl ?_
  refine A_iload X dL_law_1195 1 rfl ?_
  refine A_icmp_eq (tgt := 1202) X dL_law_1197 h (by decide) (fun hc h => ?_) (fun hc h => ?_)
  · refine A_iload X dL_law_1202 1 rfl ?_
    refine A_if_ne (tgt := 1219) X dL_law_1204 h (by decide) (fun hc h => ?_) (fun hc h => ?_)
    · refine A_goto (tgt := 3407) X dL_law_1219 (by decide) ?_
      cases h
      refine A_sub (L' := [(0, .ref b), (1, .ref x), (2, .ref y), (3, .ref o), (4, .ref od), (5, .int l5)]) [2, 3, 4, 5, 6, 7] rfl ?_
      refine A_widen (k' := (k0 + 8)) (n' := (n0 + 48)) (by omega) (by omega) ?_
      exact K k2_0 ((n2 _ (by omega)).trans k1_0) (fun q z0 z1 => ((n2 q z0).trans (n1 q z1)))
    · refine A_aload_n X dL_law_1207 5 rfl ?_
      refine A_iconst (v := 0) X dL_law_1208 (by decide) ?_
      refine A_lald X dL_law_1209 ((n2 _ (by omega)).trans k1_0) (by decide) ?_
      refine A_iload X dL_law_1210 0 rfl ?_
      refine A_i2l X dL_law_1212 ?_
      refine A_lcmp X dL_law_1213 ?_
      refine A_if_eq (tgt := 1219) X dL_law_1214 h (by decide) (fun hc h => ?_) (fun hc h => ?_)
      · refine A_goto (tgt := 3407) X dL_law_1219 (by decide) ?_
        cases h
        refine A_sub (L' := [(0, .ref b), (1, .ref x), (2, .ref y), (3, .ref o), (4, .ref od), (5, .int l5)]) [2, 3, 4, 5, 6, 7] rfl ?_
        refine A_widen (k' := (k0 + 8)) (n' := (n0 + 48)) (by omega) (by omega) ?_
        exact K k2_0 ((n2 _ (by omega)).trans k1_0) (fun q z0 z1 => ((n2 q z0).trans (n1 q z1)))
      · refine A_iconst (v := 0) X dL_law_1217 (by decide) ?_
        cases h
  · refine A_iconst (v := 0) X dL_law_1200 (by decide) ?_
    cases h
set_option maxHeartbeats 8000000 in
set_option maxRecDepth 100000 in
theorem c_W21 {E : KE} {p : Program} {l : Launch} {e : Env} {s : State} {m : MethodId} {b L9 : Nat} {xs : Nat → Int32} {below : List Frame} {meth : Method} {c : Code} {hp : Hp} {k0 n0 : Nat} {Q : State → Prop} {N : Nat} {x : Nat} {y : Nat} {o : Nat} {od : Nat} {sd : Int32} {mn : Int32} {th : Int32} {pc : Int32} {tc : Int32} {fr : Nat → Int32} {m_undoable : Int32} {m_undoStart : Int32} {m_thrown : Int32} {m_oftenAll : Int32} {m_inputLength : Int32} {m_position : Int32} {m_start : Int32} {m_token : Int32} {m_value : Int32} {m_letters : Int32} {m_code : Int32} {m_place : Int32} {m_outputLength : Int32} {m_s : Nat → Int32} {ov : Nat → Int64} {l5 : Int32} {out : Int32 × (Nat → Int64)} (X : CX E p l s m #[Value.ref b] meth c "DiceAuditLaw" cL_law 10) (hX : va_X b L9 xs s s.heap) (hbl : b < s.heap.size) (hbA : ¬ kA E b) (hi1 : vp_in (l5 + 1) L9) (hi2 : vp_in (l5 + 2) L9) (hi3 : vp_in (l5 + 3) L9) (hi4 : vp_in (l5 + 4) L9) (hi5 : vp_in (l5 + 5) L9) (hRk : k0 + 8 ≤ room_1.cells) (hRn : n0 + 48 ≤ room_1.slots) (g0 : hp x = some (.inr (10, [.ref (x + 126), .ref (x + 128), .ref (x + 1), .ref (x + 3), .ref (x + 16), .ref (x + 18), .ref (x + 124), .ref (x + 125)]))) (g3 : hp (x + 3) = some (.inr (2, [.ref (x + 4), .ref (x + 7), .ref (x + 10), .ref (x + 13), .int sd, .int mn, .int th]))) (g7 : hp (x + 7) = some (.inr (7, [.ref (x + 8), .ref (x + 9), .int pc]))) (g10 : hp (x + 10) = some (.inr (4, [.ref (x + 11), .ref (x + 12), .int tc]))) (g12 : hp (x + 12) = some (.inl (kC E 0, 432, .inl fr))) (g39 : hp y = some (.inr (11, [.ref (y + 1), .ref (y + 2), .ref (y + 3), .ref (y + 4), .ref (y + 5), .int m_undoable, .int m_undoStart, .int m_thrown, .ref (y + 6), .int m_oftenAll, .ref (y + 7), .int m_inputLength, .int m_position, .int m_start, .int m_token, .int m_value, .int m_letters, .int m_code, .int m_place, .ref (y + 8), .int m_outputLength]))) (g40 : hp (y + 1) = some (.inl (kC E 0, 1399, .inl m_s))) (g48 : hp o = some (.inl (kC E 1, 1, .inr (.inl ov)))) (hz0 : (x + 13) ≤ y ∨ (y + 2) ≤ x) (hz1 : (x + 13) ≤ o ∨ (o + 1) ≤ x) (hz2 : (y + 2) ≤ o ∨ (o + 1) ≤ y) (h : f_W21 N xs l5 pc fr m_s m_thrown ov = some out) (K : ∀ {hp' : Hp}, hp' y = some (.inr (11, [.ref (y + 1), .ref (y + 2), .ref (y + 3), .ref (y + 4), .ref (y + 5), .int m_undoable, .int m_undoStart, .int out.1, .ref (y + 6), .int m_oftenAll, .ref (y + 7), .int m_inputLength, .int m_position, .int m_start, .int m_token, .int m_value, .int m_letters, .int m_code, .int m_place, .ref (y + 8), .int m_outputLength])) → hp' o = some (.inl (kC E 1, 1, .inr (.inl out.2))) → (∀ q, q ≠ y → q ≠ o → hp' q = hp q) → AW E p l e room_1 s m #[Value.ref b] below meth c 10 Q hp' none (k0 + 8) (n0 + 48) 3407 [(0, .ref b), (1, .ref x), (2, .ref y), (3, .ref o), (4, .ref od), (5, .int l5)] []) : AW E p l e room_1 s m #[Value.ref b] below meth c 10 Q hp none (k0 + 0) (n0 + 0) 1222 [(0, .ref b), (1, .ref x), (2, .ref y), (3, .ref o), (4, .ref od), (5, .int l5)] [] := by
  unfold f_W21 at h
  refine A_aload_n X dL_law_1222 1 rfl ?_
  refine A_aload_n X dL_law_1223 0 rfl ?_
  refine A_iload X dL_law_1224 5 rfl ?_
  refine A_iconst (v := 1) X dL_law_1226 (by decide) ?_
  refine A_iadd X dL_law_1227 ?_
  refine A_sld X hX hbl hbA hi1 dL_law_1228 ?_
  refine A_aload_n X dL_law_1229 3 rfl ?_
  obtain ⟨t1, hct1, h⟩ := bind_o h
  refine A_cX (k' := (k0 + 1)) (n' := (n0 + 6)) rfl rfl (A_runSH (rest := []) X dL_law_1230 (c_L_total g0 g3 g7 g10 g12 g48 (by omega) hct1) kY_L_total kw_1091 ⟨(Nat.le_of_ble_eq_true rfl), (Nat.le_of_ble_eq_true rfl), kb rfl hRk, kb rfl hRn⟩ rfl (Nat.le_of_ble_eq_true rfl)) (fun C hp1 hP => hP.elim) (fun v9 hp1 al9 hP => ?_)
  obtain ⟨rfl, k1_0, n1, rfl⟩ := hP
  replace k1_0 : hp1 o = some (.inl (kC E 1, 1, .inr (.inl t1.2))) := k1_0
  refine A_st (st' := [.int t1.1]) rfl ?_
  refine A_istore (L' := [(6, .int t1.1), (0, .ref b), (1, .ref x), (2, .ref y), (3, .ref o), (4, .ref od), (5, .int l5)]) X dL_law_1233 (by decide) rfl ?_
  refine A_aload_n X dL_law_1235 3 rfl ?_
  refine A_aload_n X dL_law_1236 1 rfl ?_
  refine A_iload X dL_law_1237 6 rfl ?_
  refine A_iconst (v := 1) X dL_law_1239 (by decide) ?_
  refine A_iadd X dL_law_1240 ?_
  refine A_sld X hX hbl hbA hi1 dL_law_1241 ?_
  obtain ⟨t2, hct2, h⟩ := bind_o h
  refine A_c (k' := (k0 + 1)) (n' := (n0 + 6)) rfl rfl (A_runV (rest := []) X dL_law_1242 (c_X11_total ((n1 _ (by omega)).trans g39) ((n1 _ (by omega)).trans g40)  hct2) kY_X11_total kw_1809 ((n1 _ (by omega)).trans g39) rfl rfl ⟨(Nat.le_of_ble_eq_true rfl), (Nat.le_of_ble_eq_true rfl), kb rfl hRk, kb rfl hRn⟩ rfl (Nat.le_of_ble_eq_true rfl)) (fun v9 hp2 al9 hP => ?_)
  obtain ⟨rfl, k2_0, n2, rfl⟩ := hP
  replace k2_0 : hp2 y = some (.inr (11, [.ref (y + 1), .ref (y + 2), .ref (y + 3), .ref (y + 4), .ref (y + 5), .int m_undoable, .int m_undoStart, .int t2.2, .ref (y + 6), .int m_oftenAll, .ref (y + 7), .int m_inputLength, .int m_position, .int m_start, .int m_token, .int m_value, .int m_letters, .int m_code, .int m_place, .ref (y + 8), .int m_outputLength])) := k2_0
  refine A_st (st' := [.int t2.1]) rfl ?_
  refine A_istore (L' := [(7, .int t2.1), (6, .int t1.1), (0, .ref b), (1, .ref x), (2, .ref y), (3, .ref o), (4, .ref od), (5, .int l5)]) X dL_law_1245 (by decide) rfl ?_
  refine A_aload_n X dL_law_1247 4 rfl ?_
  obtain ⟨t3, hct3, h⟩ := bind_o h
  refine A_cp (k' := (k0 + 1)) (n' := (n0 + 6)) (A_runV (rest := []) X dL_law_1248 (c_X11_thrown k2_0  hct3) kY_X11_thrown kw_1668 k2_0 rfl rfl ⟨(Nat.le_of_ble_eq_true rfl), (Nat.le_of_ble_eq_true rfl), kb rfl hRk, kb rfl hRn⟩ rfl (Nat.le_of_ble_eq_true rfl)) rfl rfl ?_
  refine A_iload X dL_law_1251 1 rfl ?_
  refine A_icmp_eq (tgt := 1258) X dL_law_1253 h (by decide) (fun hc h => ?_) (fun hc h => ?_)
  · refine A_iload X dL_law_1258 1 rfl ?_
    refine A_if_ne (tgt := 1275) X dL_law_1260 h (by decide) (fun hc h => ?_) (fun hc h => ?_)
    · refine A_goto (tgt := 3407) X dL_law_1275 (by decide) ?_
      cases h
      refine A_sub (L' := [(0, .ref b), (1, .ref x), (2, .ref y), (3, .ref o), (4, .ref od), (5, .int l5)]) [2, 3, 4, 5, 6, 7] rfl ?_
      refine A_widen (k' := (k0 + 8)) (n' := (n0 + 48)) (by omega) (by omega) ?_
      exact K k2_0 ((n2 _ (by omega)).trans k1_0) (fun q z0 z1 => ((n2 q z0).trans (n1 q z1)))
    · refine A_aload_n X dL_law_1263 5 rfl ?_
      refine A_iconst (v := 0) X dL_law_1264 (by decide) ?_
      refine A_lald X dL_law_1265 ((n2 _ (by omega)).trans k1_0) (by decide) ?_
      refine A_iload X dL_law_1266 0 rfl ?_
      refine A_i2l X dL_law_1268 ?_
      refine A_lcmp X dL_law_1269 ?_
      refine A_if_eq (tgt := 1275) X dL_law_1270 h (by decide) (fun hc h => ?_) (fun hc h => ?_)
      · refine A_goto (tgt := 3407) X dL_law_1275 (by decide) ?_
        cases h
        refine A_sub (L' := [(0, .ref b), (1, .ref x), (2, .ref y), (3, .ref o), (4, .ref od), (5, .int l5)]) [2, 3, 4, 5, 6, 7] rfl ?_
        refine A_widen (k' := (k0 + 8)) (n' := (n0 + 48)) (by omega) (by omega) ?_
        exact K k2_0 ((n2 _ (by omega)).trans k1_0) (fun q z0 z1 => ((n2 q z0).trans (n1 q z1)))
      · refine A_iconst (v := 0) X dL_law_1273 (by decide) ?_
        cases h
  · refine A_iconst (v := 0) X dL_law_1256 (by decide) ?_
    cases h
set_option maxHeartbeats 8000000 in
set_option maxRecDepth 100000 in
theorem c_W22 {E : KE} {p : Program} {l : Launch} {e : Env} {s : State} {m : MethodId} {b L9 : Nat} {xs : Nat → Int32} {below : List Frame} {meth : Method} {c : Code} {hp : Hp} {k0 n0 : Nat} {Q : State → Prop} {N : Nat} {x : Nat} {y : Nat} {o : Nat} {od : Nat} {sd : Int32} {mn : Int32} {th : Int32} {pc : Int32} {tc : Int32} {fr : Nat → Int32} {m_undoable : Int32} {m_undoStart : Int32} {m_thrown : Int32} {m_oftenAll : Int32} {m_inputLength : Int32} {m_position : Int32} {m_start : Int32} {m_token : Int32} {m_value : Int32} {m_letters : Int32} {m_code : Int32} {m_place : Int32} {m_outputLength : Int32} {m_s : Nat → Int32} {ow : Nat → UInt64} {l5 : Int32} {out : Int32 × (Nat → UInt64)} (X : CX E p l s m #[Value.ref b] meth c "DiceAuditLaw" cL_law 10) (hX : va_X b L9 xs s s.heap) (hbl : b < s.heap.size) (hbA : ¬ kA E b) (hi1 : vp_in (l5 + 1) L9) (hi2 : vp_in (l5 + 2) L9) (hi3 : vp_in (l5 + 3) L9) (hi4 : vp_in (l5 + 4) L9) (hi5 : vp_in (l5 + 5) L9) (hRk : k0 + 8 ≤ room_1.cells) (hRn : n0 + 48 ≤ room_1.slots) (g0 : hp x = some (.inr (10, [.ref (x + 126), .ref (x + 128), .ref (x + 1), .ref (x + 3), .ref (x + 16), .ref (x + 18), .ref (x + 124), .ref (x + 125)]))) (g3 : hp (x + 3) = some (.inr (2, [.ref (x + 4), .ref (x + 7), .ref (x + 10), .ref (x + 13), .int sd, .int mn, .int th]))) (g7 : hp (x + 7) = some (.inr (7, [.ref (x + 8), .ref (x + 9), .int pc]))) (g10 : hp (x + 10) = some (.inr (4, [.ref (x + 11), .ref (x + 12), .int tc]))) (g12 : hp (x + 12) = some (.inl (kC E 0, 432, .inl fr))) (g39 : hp y = some (.inr (11, [.ref (y + 1), .ref (y + 2), .ref (y + 3), .ref (y + 4), .ref (y + 5), .int m_undoable, .int m_undoStart, .int m_thrown, .ref (y + 6), .int m_oftenAll, .ref (y + 7), .int m_inputLength, .int m_position, .int m_start, .int m_token, .int m_value, .int m_letters, .int m_code, .int m_place, .ref (y + 8), .int m_outputLength]))) (g40 : hp (y + 1) = some (.inl (kC E 0, 1399, .inl m_s))) (g49 : hp od = some (.inl (kC E 2, 1, .inr (.inr (.inr (.inl ow)))))) (hz0 : (x + 13) ≤ y ∨ (y + 2) ≤ x) (hz1 : (x + 13) ≤ od ∨ (od + 1) ≤ x) (hz2 : (y + 2) ≤ od ∨ (od + 1) ≤ y) (h : f_W22 N xs l5 pc fr m_s m_thrown ow = some out) (K : ∀ {hp' : Hp}, hp' y = some (.inr (11, [.ref (y + 1), .ref (y + 2), .ref (y + 3), .ref (y + 4), .ref (y + 5), .int m_undoable, .int m_undoStart, .int out.1, .ref (y + 6), .int m_oftenAll, .ref (y + 7), .int m_inputLength, .int m_position, .int m_start, .int m_token, .int m_value, .int m_letters, .int m_code, .int m_place, .ref (y + 8), .int m_outputLength])) → hp' od = some (.inl (kC E 2, 1, .inr (.inr (.inr (.inl out.2))))) → (∀ q, q ≠ y → q ≠ od → hp' q = hp q) → AW E p l e room_1 s m #[Value.ref b] below meth c 10 Q hp' none (k0 + 8) (n0 + 48) 3407 [(0, .ref b), (1, .ref x), (2, .ref y), (3, .ref o), (4, .ref od), (5, .int l5)] []) : AW E p l e room_1 s m #[Value.ref b] below meth c 10 Q hp none (k0 + 0) (n0 + 0) 1278 [(0, .ref b), (1, .ref x), (2, .ref y), (3, .ref o), (4, .ref od), (5, .int l5)] [] := by
  unfold f_W22 at h
  refine A_aload_n X dL_law_1278 1 rfl ?_
  refine A_aload_n X dL_law_1279 0 rfl ?_
  refine A_iload X dL_law_1280 5 rfl ?_
  refine A_iconst (v := 1) X dL_law_1282 (by decide) ?_
  refine A_iadd X dL_law_1283 ?_
  refine A_sld X hX hbl hbA hi1 dL_law_1284 ?_
  refine A_aload X dL_law_1285 4 rfl ?_
  obtain ⟨t1, hct1, h⟩ := bind_o h
  refine A_cX (k' := (k0 + 1)) (n' := (n0 + 6)) rfl rfl (A_runSH (rest := []) X dL_law_1287 (c_L_meanFace g0 g3 g7 g10 g12 g49 (by omega) hct1) kY_L_meanFace kw_1098 ⟨(Nat.le_of_ble_eq_true rfl), (Nat.le_of_ble_eq_true rfl), kb rfl hRk, kb rfl hRn⟩ rfl (Nat.le_of_ble_eq_true rfl)) (fun C hp1 hP => hP.elim) (fun v9 hp1 al9 hP => ?_)
  obtain ⟨rfl, k1_0, n1, rfl⟩ := hP
  replace k1_0 : hp1 od = some (.inl (kC E 2, 1, .inr (.inr (.inr (.inl t1.2))))) := k1_0
  refine A_st (st' := [.int t1.1]) rfl ?_
  refine A_istore (L' := [(6, .int t1.1), (0, .ref b), (1, .ref x), (2, .ref y), (3, .ref o), (4, .ref od), (5, .int l5)]) X dL_law_1290 (by decide) rfl ?_
  refine A_aload_n X dL_law_1292 3 rfl ?_
  refine A_aload_n X dL_law_1293 1 rfl ?_
  refine A_iload X dL_law_1294 6 rfl ?_
  refine A_iconst (v := 1) X dL_law_1296 (by decide) ?_
  refine A_iadd X dL_law_1297 ?_
  refine A_sld X hX hbl hbA hi1 dL_law_1298 ?_
  obtain ⟨t2, hct2, h⟩ := bind_o h
  refine A_c (k' := (k0 + 1)) (n' := (n0 + 6)) rfl rfl (A_runV (rest := []) X dL_law_1299 (c_X11_meanFace ((n1 _ (by omega)).trans g39) ((n1 _ (by omega)).trans g40)  hct2) kY_X11_meanFace kw_1816 ((n1 _ (by omega)).trans g39) rfl rfl ⟨(Nat.le_of_ble_eq_true rfl), (Nat.le_of_ble_eq_true rfl), kb rfl hRk, kb rfl hRn⟩ rfl (Nat.le_of_ble_eq_true rfl)) (fun v9 hp2 al9 hP => ?_)
  obtain ⟨rfl, k2_0, n2, rfl⟩ := hP
  replace k2_0 : hp2 y = some (.inr (11, [.ref (y + 1), .ref (y + 2), .ref (y + 3), .ref (y + 4), .ref (y + 5), .int m_undoable, .int m_undoStart, .int t2.2, .ref (y + 6), .int m_oftenAll, .ref (y + 7), .int m_inputLength, .int m_position, .int m_start, .int m_token, .int m_value, .int m_letters, .int m_code, .int m_place, .ref (y + 8), .int m_outputLength])) := k2_0
  refine A_st (st' := [.double t2.1]) rfl ?_
  refine A_dstore (L' := [(7, .double t2.1), (6, .int t1.1), (0, .ref b), (1, .ref x), (2, .ref y), (3, .ref o), (4, .ref od), (5, .int l5)]) X dL_law_1302 (by decide) rfl ?_
  refine A_aload_n X dL_law_1304 4 rfl ?_
  obtain ⟨t3, hct3, h⟩ := bind_o h
  refine A_cp (k' := (k0 + 1)) (n' := (n0 + 6)) (A_runV (rest := []) X dL_law_1305 (c_X11_thrown k2_0  hct3) kY_X11_thrown kw_1668 k2_0 rfl rfl ⟨(Nat.le_of_ble_eq_true rfl), (Nat.le_of_ble_eq_true rfl), kb rfl hRk, kb rfl hRn⟩ rfl (Nat.le_of_ble_eq_true rfl)) rfl rfl ?_
  refine A_iload X dL_law_1308 1 rfl ?_
  refine A_icmp_eq (tgt := 1315) X dL_law_1310 h (by decide) (fun hc h => ?_) (fun hc h => ?_)
  · refine A_iload X dL_law_1315 1 rfl ?_
    refine A_if_ne (tgt := 1352) X dL_law_1317 h (by decide) (fun hc h => ?_) (fun hc h => ?_)
    · refine A_goto (tgt := 3407) X dL_law_1352 (by decide) ?_
      cases h
      refine A_sub (L' := [(0, .ref b), (1, .ref x), (2, .ref y), (3, .ref o), (4, .ref od), (5, .int l5)]) [2, 3, 4, 5, 6, 7] rfl ?_
      refine A_widen (k' := (k0 + 8)) (n' := (n0 + 48)) (by omega) (by omega) ?_
      exact K k2_0 ((n2 _ (by omega)).trans k1_0) (fun q z0 z1 => ((n2 q z0).trans (n1 q z1)))
    · refine A_aload X dL_law_1320 6 rfl ?_
      refine A_iconst (v := 0) X dL_law_1322 (by decide) ?_
      refine A_dald X dL_law_1323 ((n2 _ (by omega)).trans k1_0) (by decide) ?_
      refine A_dload X dL_law_1324 0 rfl ?_
      refine A_dcmp X dL_law_1326 ?_
      refine A_if_eq (tgt := 1352) X dL_law_1327 h (by decide) (fun hc h => ?_) (fun hc h => ?_)
      · refine A_goto (tgt := 3407) X dL_law_1352 (by decide) ?_
        cases h
        refine A_sub (L' := [(0, .ref b), (1, .ref x), (2, .ref y), (3, .ref o), (4, .ref od), (5, .int l5)]) [2, 3, 4, 5, 6, 7] rfl ?_
        refine A_widen (k' := (k0 + 8)) (n' := (n0 + 48)) (by omega) (by omega) ?_
        exact K k2_0 ((n2 _ (by omega)).trans k1_0) (fun q z0 z1 => ((n2 q z0).trans (n1 q z1)))
      · refine A_aload X dL_law_1330 6 rfl ?_
        refine A_iconst (v := 0) X dL_law_1332 (by decide) ?_
        refine A_dald X dL_law_1333 ((n2 _ (by omega)).trans k1_0) (by decide) ?_
        refine A_aload X dL_law_1334 6 rfl ?_
        refine A_iconst (v := 0) X dL_law_1336 (by decide) ?_
        refine A_dald X dL_law_1337 ((n2 _ (by omega)).trans k1_0) (by decide) ?_
        refine A_dcmp X dL_law_1338 ?_
        refine A_if_eq (tgt := 1350) X dL_law_1339 h (by decide) (fun hc h => ?_) (fun hc h => ?_)
        · refine A_iconst (v := 0) X dL_law_1350 (by decide) ?_
          cases h
        · refine A_dload X dL_law_1342 0 rfl ?_
          refine A_dload X dL_law_1344 0 rfl ?_
          refine A_dcmp X dL_law_1346 ?_
          refine A_if_ne (tgt := 1352) X dL_law_1347 h (by decide) (fun hc h => ?_) (fun hc h => ?_)
          · refine A_goto (tgt := 3407) X dL_law_1352 (by decide) ?_
            cases h
            refine A_sub (L' := [(0, .ref b), (1, .ref x), (2, .ref y), (3, .ref o), (4, .ref od), (5, .int l5)]) [2, 3, 4, 5, 6, 7] rfl ?_
            refine A_widen (k' := (k0 + 8)) (n' := (n0 + 48)) (by omega) (by omega) ?_
            exact K k2_0 ((n2 _ (by omega)).trans k1_0) (fun q z0 z1 => ((n2 q z0).trans (n1 q z1)))
          · refine A_iconst (v := 0) X dL_law_1350 (by decide) ?_
            cases h
  · refine A_iconst (v := 0) X dL_law_1313 (by decide) ?_
    cases h
set_option maxHeartbeats 8000000 in
set_option maxRecDepth 100000 in
theorem c_W23 {E : KE} {p : Program} {l : Launch} {e : Env} {s : State} {m : MethodId} {b L9 : Nat} {xs : Nat → Int32} {below : List Frame} {meth : Method} {c : Code} {hp : Hp} {k0 n0 : Nat} {Q : State → Prop} {N : Nat} {x : Nat} {y : Nat} {o : Nat} {od : Nat} {sd : Int32} {mn : Int32} {th : Int32} {pc : Int32} {lt : Nat → Int32} {tc : Int32} {fr : Nat → Int32} {m_undoable : Int32} {m_undoStart : Int32} {m_thrown : Int32} {m_oftenAll : Int32} {m_inputLength : Int32} {m_position : Int32} {m_start : Int32} {m_token : Int32} {m_value : Int32} {m_letters : Int32} {m_code : Int32} {m_place : Int32} {m_outputLength : Int32} {m_s : Nat → Int32} {ov : Nat → Int64} {l5 : Int32} {out : Int32 × (Nat → Int64)} (X : CX E p l s m #[Value.ref b] meth c "DiceAuditLaw" cL_law 10) (hX : va_X b L9 xs s s.heap) (hbl : b < s.heap.size) (hbA : ¬ kA E b) (hi1 : vp_in (l5 + 1) L9) (hi2 : vp_in (l5 + 2) L9) (hi3 : vp_in (l5 + 3) L9) (hi4 : vp_in (l5 + 4) L9) (hi5 : vp_in (l5 + 5) L9) (hRk : k0 + 8 ≤ room_1.cells) (hRn : n0 + 48 ≤ room_1.slots) (g0 : hp x = some (.inr (10, [.ref (x + 126), .ref (x + 128), .ref (x + 1), .ref (x + 3), .ref (x + 16), .ref (x + 18), .ref (x + 124), .ref (x + 125)]))) (g3 : hp (x + 3) = some (.inr (2, [.ref (x + 4), .ref (x + 7), .ref (x + 10), .ref (x + 13), .int sd, .int mn, .int th]))) (g7 : hp (x + 7) = some (.inr (7, [.ref (x + 8), .ref (x + 9), .int pc]))) (g9 : hp (x + 9) = some (.inl (kC E 0, 24, .inl lt))) (g10 : hp (x + 10) = some (.inr (4, [.ref (x + 11), .ref (x + 12), .int tc]))) (g12 : hp (x + 12) = some (.inl (kC E 0, 432, .inl fr))) (g39 : hp y = some (.inr (11, [.ref (y + 1), .ref (y + 2), .ref (y + 3), .ref (y + 4), .ref (y + 5), .int m_undoable, .int m_undoStart, .int m_thrown, .ref (y + 6), .int m_oftenAll, .ref (y + 7), .int m_inputLength, .int m_position, .int m_start, .int m_token, .int m_value, .int m_letters, .int m_code, .int m_place, .ref (y + 8), .int m_outputLength]))) (g40 : hp (y + 1) = some (.inl (kC E 0, 1399, .inl m_s))) (g48 : hp o = some (.inl (kC E 1, 1, .inr (.inl ov)))) (hz0 : (x + 13) ≤ y ∨ (y + 2) ≤ x) (hz1 : (x + 13) ≤ o ∨ (o + 1) ≤ x) (hz2 : (y + 2) ≤ o ∨ (o + 1) ≤ y) (h : f_W23 N xs l5 pc lt fr m_s m_thrown ov = some out) (K : ∀ {hp' : Hp}, hp' y = some (.inr (11, [.ref (y + 1), .ref (y + 2), .ref (y + 3), .ref (y + 4), .ref (y + 5), .int m_undoable, .int m_undoStart, .int out.1, .ref (y + 6), .int m_oftenAll, .ref (y + 7), .int m_inputLength, .int m_position, .int m_start, .int m_token, .int m_value, .int m_letters, .int m_code, .int m_place, .ref (y + 8), .int m_outputLength])) → hp' o = some (.inl (kC E 1, 1, .inr (.inl out.2))) → (∀ q, q ≠ y → q ≠ o → hp' q = hp q) → AW E p l e room_1 s m #[Value.ref b] below meth c 10 Q hp' none (k0 + 8) (n0 + 48) 3407 [(0, .ref b), (1, .ref x), (2, .ref y), (3, .ref o), (4, .ref od), (5, .int l5)] []) : AW E p l e room_1 s m #[Value.ref b] below meth c 10 Q hp none (k0 + 0) (n0 + 0) 1355 [(0, .ref b), (1, .ref x), (2, .ref y), (3, .ref o), (4, .ref od), (5, .int l5)] [] := by
  unfold f_W23 at h
  refine A_aload_n X dL_law_1355 1 rfl ?_
  refine A_aload_n X dL_law_1356 0 rfl ?_
  refine A_iload X dL_law_1357 5 rfl ?_
  refine A_iconst (v := 1) X dL_law_1359 (by decide) ?_
  refine A_iadd X dL_law_1360 ?_
  refine A_sld X hX hbl hbA hi1 dL_law_1361 ?_
  refine A_aload_n X dL_law_1362 3 rfl ?_
  obtain ⟨t1, hct1, h⟩ := bind_o h
  refine A_cX (k' := (k0 + 1)) (n' := (n0 + 6)) rfl rfl (A_runSH (rest := []) X dL_law_1363 (c_L_rankOf g0 g3 g7 g9 g10 g12 g48 (by omega) hct1) kY_L_rankOf kw_1105 ⟨(Nat.le_of_ble_eq_true rfl), (Nat.le_of_ble_eq_true rfl), kb rfl hRk, kb rfl hRn⟩ rfl (Nat.le_of_ble_eq_true rfl)) (fun C hp1 hP => hP.elim) (fun v9 hp1 al9 hP => ?_)
  obtain ⟨rfl, k1_0, n1, rfl⟩ := hP
  replace k1_0 : hp1 o = some (.inl (kC E 1, 1, .inr (.inl t1.2))) := k1_0
  refine A_st (st' := [.int t1.1]) rfl ?_
  refine A_istore (L' := [(6, .int t1.1), (0, .ref b), (1, .ref x), (2, .ref y), (3, .ref o), (4, .ref od), (5, .int l5)]) X dL_law_1366 (by decide) rfl ?_
  refine A_aload_n X dL_law_1368 3 rfl ?_
  refine A_aload_n X dL_law_1369 1 rfl ?_
  refine A_iload X dL_law_1370 6 rfl ?_
  refine A_iconst (v := 1) X dL_law_1372 (by decide) ?_
  refine A_iadd X dL_law_1373 ?_
  refine A_sld X hX hbl hbA hi1 dL_law_1374 ?_
  obtain ⟨t2, hct2, h⟩ := bind_o h
  refine A_c (k' := (k0 + 1)) (n' := (n0 + 6)) rfl rfl (A_runV (rest := []) X dL_law_1375 (c_X11_rankOf ((n1 _ (by omega)).trans g39) ((n1 _ (by omega)).trans g40)  hct2) kY_X11_rankOf kw_1820 ((n1 _ (by omega)).trans g39) rfl rfl ⟨(Nat.le_of_ble_eq_true rfl), (Nat.le_of_ble_eq_true rfl), kb rfl hRk, kb rfl hRn⟩ rfl (Nat.le_of_ble_eq_true rfl)) (fun v9 hp2 al9 hP => ?_)
  obtain ⟨rfl, k2_0, n2, rfl⟩ := hP
  replace k2_0 : hp2 y = some (.inr (11, [.ref (y + 1), .ref (y + 2), .ref (y + 3), .ref (y + 4), .ref (y + 5), .int m_undoable, .int m_undoStart, .int t2.2, .ref (y + 6), .int m_oftenAll, .ref (y + 7), .int m_inputLength, .int m_position, .int m_start, .int m_token, .int m_value, .int m_letters, .int m_code, .int m_place, .ref (y + 8), .int m_outputLength])) := k2_0
  refine A_st (st' := [.int t2.1]) rfl ?_
  refine A_istore (L' := [(7, .int t2.1), (6, .int t1.1), (0, .ref b), (1, .ref x), (2, .ref y), (3, .ref o), (4, .ref od), (5, .int l5)]) X dL_law_1378 (by decide) rfl ?_
  refine A_aload_n X dL_law_1380 4 rfl ?_
  obtain ⟨t3, hct3, h⟩ := bind_o h
  refine A_cp (k' := (k0 + 1)) (n' := (n0 + 6)) (A_runV (rest := []) X dL_law_1381 (c_X11_thrown k2_0  hct3) kY_X11_thrown kw_1668 k2_0 rfl rfl ⟨(Nat.le_of_ble_eq_true rfl), (Nat.le_of_ble_eq_true rfl), kb rfl hRk, kb rfl hRn⟩ rfl (Nat.le_of_ble_eq_true rfl)) rfl rfl ?_
  refine A_iload X dL_law_1384 1 rfl ?_
  refine A_icmp_eq (tgt := 1391) X dL_law_1386 h (by decide) (fun hc h => ?_) (fun hc h => ?_)
  · refine A_iload X dL_law_1391 1 rfl ?_
    refine A_if_ne (tgt := 1408) X dL_law_1393 h (by decide) (fun hc h => ?_) (fun hc h => ?_)
    · refine A_goto (tgt := 3407) X dL_law_1408 (by decide) ?_
      cases h
      refine A_sub (L' := [(0, .ref b), (1, .ref x), (2, .ref y), (3, .ref o), (4, .ref od), (5, .int l5)]) [2, 3, 4, 5, 6, 7] rfl ?_
      refine A_widen (k' := (k0 + 8)) (n' := (n0 + 48)) (by omega) (by omega) ?_
      exact K k2_0 ((n2 _ (by omega)).trans k1_0) (fun q z0 z1 => ((n2 q z0).trans (n1 q z1)))
    · refine A_aload_n X dL_law_1396 5 rfl ?_
      refine A_iconst (v := 0) X dL_law_1397 (by decide) ?_
      refine A_lald X dL_law_1398 ((n2 _ (by omega)).trans k1_0) (by decide) ?_
      refine A_iload X dL_law_1399 0 rfl ?_
      refine A_i2l X dL_law_1401 ?_
      refine A_lcmp X dL_law_1402 ?_
      refine A_if_eq (tgt := 1408) X dL_law_1403 h (by decide) (fun hc h => ?_) (fun hc h => ?_)
      · refine A_goto (tgt := 3407) X dL_law_1408 (by decide) ?_
        cases h
        refine A_sub (L' := [(0, .ref b), (1, .ref x), (2, .ref y), (3, .ref o), (4, .ref od), (5, .int l5)]) [2, 3, 4, 5, 6, 7] rfl ?_
        refine A_widen (k' := (k0 + 8)) (n' := (n0 + 48)) (by omega) (by omega) ?_
        exact K k2_0 ((n2 _ (by omega)).trans k1_0) (fun q z0 z1 => ((n2 q z0).trans (n1 q z1)))
      · refine A_iconst (v := 0) X dL_law_1406 (by decide) ?_
        cases h
  · refine A_iconst (v := 0) X dL_law_1389 (by decide) ?_
    cases h
set_option maxHeartbeats 8000000 in
set_option maxRecDepth 100000 in
theorem c_W24 {E : KE} {p : Program} {l : Launch} {e : Env} {s : State} {m : MethodId} {b L9 : Nat} {xs : Nat → Int32} {below : List Frame} {meth : Method} {c : Code} {hp : Hp} {k0 n0 : Nat} {Q : State → Prop} {N : Nat} {x : Nat} {y : Nat} {o : Nat} {od : Nat} {sd : Int32} {mn : Int32} {th : Int32} {pc : Int32} {lt : Nat → Int32} {tc : Int32} {fr : Nat → Int32} {m_undoable : Int32} {m_undoStart : Int32} {m_thrown : Int32} {m_oftenAll : Int32} {m_inputLength : Int32} {m_position : Int32} {m_start : Int32} {m_token : Int32} {m_value : Int32} {m_letters : Int32} {m_code : Int32} {m_place : Int32} {m_outputLength : Int32} {m_s : Nat → Int32} {ov : Nat → Int64} {l5 : Int32} {out : Int32 × (Nat → Int64)} (X : CX E p l s m #[Value.ref b] meth c "DiceAuditLaw" cL_law 10) (hX : va_X b L9 xs s s.heap) (hbl : b < s.heap.size) (hbA : ¬ kA E b) (hi1 : vp_in (l5 + 1) L9) (hi2 : vp_in (l5 + 2) L9) (hi3 : vp_in (l5 + 3) L9) (hi4 : vp_in (l5 + 4) L9) (hi5 : vp_in (l5 + 5) L9) (hRk : k0 + 8 ≤ room_1.cells) (hRn : n0 + 48 ≤ room_1.slots) (g0 : hp x = some (.inr (10, [.ref (x + 126), .ref (x + 128), .ref (x + 1), .ref (x + 3), .ref (x + 16), .ref (x + 18), .ref (x + 124), .ref (x + 125)]))) (g3 : hp (x + 3) = some (.inr (2, [.ref (x + 4), .ref (x + 7), .ref (x + 10), .ref (x + 13), .int sd, .int mn, .int th]))) (g7 : hp (x + 7) = some (.inr (7, [.ref (x + 8), .ref (x + 9), .int pc]))) (g9 : hp (x + 9) = some (.inl (kC E 0, 24, .inl lt))) (g10 : hp (x + 10) = some (.inr (4, [.ref (x + 11), .ref (x + 12), .int tc]))) (g12 : hp (x + 12) = some (.inl (kC E 0, 432, .inl fr))) (g39 : hp y = some (.inr (11, [.ref (y + 1), .ref (y + 2), .ref (y + 3), .ref (y + 4), .ref (y + 5), .int m_undoable, .int m_undoStart, .int m_thrown, .ref (y + 6), .int m_oftenAll, .ref (y + 7), .int m_inputLength, .int m_position, .int m_start, .int m_token, .int m_value, .int m_letters, .int m_code, .int m_place, .ref (y + 8), .int m_outputLength]))) (g40 : hp (y + 1) = some (.inl (kC E 0, 1399, .inl m_s))) (g48 : hp o = some (.inl (kC E 1, 1, .inr (.inl ov)))) (hz0 : (x + 13) ≤ y ∨ (y + 2) ≤ x) (hz1 : (x + 13) ≤ o ∨ (o + 1) ≤ x) (hz2 : (y + 2) ≤ o ∨ (o + 1) ≤ y) (h : f_W24 N xs l5 pc lt fr m_s m_thrown ov = some out) (K : ∀ {hp' : Hp}, hp' y = some (.inr (11, [.ref (y + 1), .ref (y + 2), .ref (y + 3), .ref (y + 4), .ref (y + 5), .int m_undoable, .int m_undoStart, .int out.1, .ref (y + 6), .int m_oftenAll, .ref (y + 7), .int m_inputLength, .int m_position, .int m_start, .int m_token, .int m_value, .int m_letters, .int m_code, .int m_place, .ref (y + 8), .int m_outputLength])) → hp' o = some (.inl (kC E 1, 1, .inr (.inl out.2))) → (∀ q, q ≠ y → q ≠ o → hp' q = hp q) → AW E p l e room_1 s m #[Value.ref b] below meth c 10 Q hp' none (k0 + 8) (n0 + 48) 3407 [(0, .ref b), (1, .ref x), (2, .ref y), (3, .ref o), (4, .ref od), (5, .int l5)] []) : AW E p l e room_1 s m #[Value.ref b] below meth c 10 Q hp none (k0 + 0) (n0 + 0) 1411 [(0, .ref b), (1, .ref x), (2, .ref y), (3, .ref o), (4, .ref od), (5, .int l5)] [] := by
  unfold f_W24 at h
  refine A_aload_n X dL_law_1411 1 rfl ?_
  refine A_aload_n X dL_law_1412 0 rfl ?_
  refine A_iload X dL_law_1413 5 rfl ?_
  refine A_iconst (v := 1) X dL_law_1415 (by decide) ?_
  refine A_iadd X dL_law_1416 ?_
  refine A_sld X hX hbl hbA hi1 dL_law_1417 ?_
  refine A_aload_n X dL_law_1418 3 rfl ?_
  obtain ⟨t1, hct1, h⟩ := bind_o h
  refine A_cX (k' := (k0 + 1)) (n' := (n0 + 6)) rfl rfl (A_runSH (rest := []) X dL_law_1419 (c_L_playerWithRank g0 g3 g7 g9 g10 g12 g48 (by omega) hct1) kY_L_playerWithRank kw_1122 ⟨(Nat.le_of_ble_eq_true rfl), (Nat.le_of_ble_eq_true rfl), kb rfl hRk, kb rfl hRn⟩ rfl (Nat.le_of_ble_eq_true rfl)) (fun C hp1 hP => hP.elim) (fun v9 hp1 al9 hP => ?_)
  obtain ⟨rfl, k1_0, n1, rfl⟩ := hP
  replace k1_0 : hp1 o = some (.inl (kC E 1, 1, .inr (.inl t1.2))) := k1_0
  refine A_st (st' := [.int t1.1]) rfl ?_
  refine A_istore (L' := [(6, .int t1.1), (0, .ref b), (1, .ref x), (2, .ref y), (3, .ref o), (4, .ref od), (5, .int l5)]) X dL_law_1422 (by decide) rfl ?_
  refine A_aload_n X dL_law_1424 3 rfl ?_
  refine A_aload_n X dL_law_1425 1 rfl ?_
  refine A_iload X dL_law_1426 6 rfl ?_
  refine A_iconst (v := 1) X dL_law_1428 (by decide) ?_
  refine A_iadd X dL_law_1429 ?_
  refine A_sld X hX hbl hbA hi1 dL_law_1430 ?_
  obtain ⟨t2, hct2, h⟩ := bind_o h
  refine A_c (k' := (k0 + 1)) (n' := (n0 + 6)) rfl rfl (A_runV (rest := []) X dL_law_1431 (c_X11_playerWithRank ((n1 _ (by omega)).trans g39) ((n1 _ (by omega)).trans g40)  hct2) kY_X11_playerWithRank kw_1827 ((n1 _ (by omega)).trans g39) rfl rfl ⟨(Nat.le_of_ble_eq_true rfl), (Nat.le_of_ble_eq_true rfl), kb rfl hRk, kb rfl hRn⟩ rfl (Nat.le_of_ble_eq_true rfl)) (fun v9 hp2 al9 hP => ?_)
  obtain ⟨rfl, k2_0, n2, rfl⟩ := hP
  replace k2_0 : hp2 y = some (.inr (11, [.ref (y + 1), .ref (y + 2), .ref (y + 3), .ref (y + 4), .ref (y + 5), .int m_undoable, .int m_undoStart, .int t2.2, .ref (y + 6), .int m_oftenAll, .ref (y + 7), .int m_inputLength, .int m_position, .int m_start, .int m_token, .int m_value, .int m_letters, .int m_code, .int m_place, .ref (y + 8), .int m_outputLength])) := k2_0
  refine A_st (st' := [.int t2.1]) rfl ?_
  refine A_istore (L' := [(7, .int t2.1), (6, .int t1.1), (0, .ref b), (1, .ref x), (2, .ref y), (3, .ref o), (4, .ref od), (5, .int l5)]) X dL_law_1434 (by decide) rfl ?_
  refine A_aload_n X dL_law_1436 4 rfl ?_
  obtain ⟨t3, hct3, h⟩ := bind_o h
  refine A_cp (k' := (k0 + 1)) (n' := (n0 + 6)) (A_runV (rest := []) X dL_law_1437 (c_X11_thrown k2_0  hct3) kY_X11_thrown kw_1668 k2_0 rfl rfl ⟨(Nat.le_of_ble_eq_true rfl), (Nat.le_of_ble_eq_true rfl), kb rfl hRk, kb rfl hRn⟩ rfl (Nat.le_of_ble_eq_true rfl)) rfl rfl ?_
  refine A_iload X dL_law_1440 1 rfl ?_
  refine A_icmp_eq (tgt := 1447) X dL_law_1442 h (by decide) (fun hc h => ?_) (fun hc h => ?_)
  · refine A_iload X dL_law_1447 1 rfl ?_
    refine A_if_ne (tgt := 1464) X dL_law_1449 h (by decide) (fun hc h => ?_) (fun hc h => ?_)
    · refine A_goto (tgt := 3407) X dL_law_1464 (by decide) ?_
      cases h
      refine A_sub (L' := [(0, .ref b), (1, .ref x), (2, .ref y), (3, .ref o), (4, .ref od), (5, .int l5)]) [2, 3, 4, 5, 6, 7] rfl ?_
      refine A_widen (k' := (k0 + 8)) (n' := (n0 + 48)) (by omega) (by omega) ?_
      exact K k2_0 ((n2 _ (by omega)).trans k1_0) (fun q z0 z1 => ((n2 q z0).trans (n1 q z1)))
    · refine A_aload_n X dL_law_1452 5 rfl ?_
      refine A_iconst (v := 0) X dL_law_1453 (by decide) ?_
      refine A_lald X dL_law_1454 ((n2 _ (by omega)).trans k1_0) (by decide) ?_
      refine A_iload X dL_law_1455 0 rfl ?_
      refine A_i2l X dL_law_1457 ?_
      refine A_lcmp X dL_law_1458 ?_
      refine A_if_eq (tgt := 1464) X dL_law_1459 h (by decide) (fun hc h => ?_) (fun hc h => ?_)
      · refine A_goto (tgt := 3407) X dL_law_1464 (by decide) ?_
        cases h
        refine A_sub (L' := [(0, .ref b), (1, .ref x), (2, .ref y), (3, .ref o), (4, .ref od), (5, .int l5)]) [2, 3, 4, 5, 6, 7] rfl ?_
        refine A_widen (k' := (k0 + 8)) (n' := (n0 + 48)) (by omega) (by omega) ?_
        exact K k2_0 ((n2 _ (by omega)).trans k1_0) (fun q z0 z1 => ((n2 q z0).trans (n1 q z1)))
      · refine A_iconst (v := 0) X dL_law_1462 (by decide) ?_
        cases h
  · refine A_iconst (v := 0) X dL_law_1445 (by decide) ?_
    cases h
set_option maxHeartbeats 8000000 in
set_option maxRecDepth 100000 in
theorem c_W25 {E : KE} {p : Program} {l : Launch} {e : Env} {s : State} {m : MethodId} {b L9 : Nat} {xs : Nat → Int32} {below : List Frame} {meth : Method} {c : Code} {hp : Hp} {k0 n0 : Nat} {Q : State → Prop} {N : Nat} {x : Nat} {y : Nat} {o : Nat} {od : Nat} {sd : Int32} {mn : Int32} {th : Int32} {pc : Int32} {tc : Int32} {en : Nat → Int32} {m_undoable : Int32} {m_undoStart : Int32} {m_thrown : Int32} {m_oftenAll : Int32} {m_inputLength : Int32} {m_position : Int32} {m_start : Int32} {m_token : Int32} {m_value : Int32} {m_letters : Int32} {m_code : Int32} {m_place : Int32} {m_outputLength : Int32} {m_s : Nat → Int32} {ov : Nat → Int64} {l5 : Int32} {out : Int32 × (Nat → Int64)} (X : CX E p l s m #[Value.ref b] meth c "DiceAuditLaw" cL_law 10) (hX : va_X b L9 xs s s.heap) (hbl : b < s.heap.size) (hbA : ¬ kA E b) (hi1 : vp_in (l5 + 1) L9) (hi2 : vp_in (l5 + 2) L9) (hi3 : vp_in (l5 + 3) L9) (hi4 : vp_in (l5 + 4) L9) (hi5 : vp_in (l5 + 5) L9) (hRk : k0 + 8 ≤ room_1.cells) (hRn : n0 + 48 ≤ room_1.slots) (g0 : hp x = some (.inr (10, [.ref (x + 126), .ref (x + 128), .ref (x + 1), .ref (x + 3), .ref (x + 16), .ref (x + 18), .ref (x + 124), .ref (x + 125)]))) (g3 : hp (x + 3) = some (.inr (2, [.ref (x + 4), .ref (x + 7), .ref (x + 10), .ref (x + 13), .int sd, .int mn, .int th]))) (g7 : hp (x + 7) = some (.inr (7, [.ref (x + 8), .ref (x + 9), .int pc]))) (g10 : hp (x + 10) = some (.inr (4, [.ref (x + 11), .ref (x + 12), .int tc]))) (g11 : hp (x + 11) = some (.inl (kC E 0, 300, .inl en))) (g39 : hp y = some (.inr (11, [.ref (y + 1), .ref (y + 2), .ref (y + 3), .ref (y + 4), .ref (y + 5), .int m_undoable, .int m_undoStart, .int m_thrown, .ref (y + 6), .int m_oftenAll, .ref (y + 7), .int m_inputLength, .int m_position, .int m_start, .int m_token, .int m_value, .int m_letters, .int m_code, .int m_place, .ref (y + 8), .int m_outputLength]))) (g40 : hp (y + 1) = some (.inl (kC E 0, 1399, .inl m_s))) (g48 : hp o = some (.inl (kC E 1, 1, .inr (.inl ov)))) (hz0 : (x + 12) ≤ y ∨ (y + 2) ≤ x) (hz1 : (x + 12) ≤ o ∨ (o + 1) ≤ x) (hz2 : (y + 2) ≤ o ∨ (o + 1) ≤ y) (h : f_W25 N xs l5 pc tc en m_s m_thrown ov = some out) (K : ∀ {hp' : Hp}, hp' y = some (.inr (11, [.ref (y + 1), .ref (y + 2), .ref (y + 3), .ref (y + 4), .ref (y + 5), .int m_undoable, .int m_undoStart, .int out.1, .ref (y + 6), .int m_oftenAll, .ref (y + 7), .int m_inputLength, .int m_position, .int m_start, .int m_token, .int m_value, .int m_letters, .int m_code, .int m_place, .ref (y + 8), .int m_outputLength])) → hp' o = some (.inl (kC E 1, 1, .inr (.inl out.2))) → (∀ q, q ≠ y → q ≠ o → hp' q = hp q) → AW E p l e room_1 s m #[Value.ref b] below meth c 10 Q hp' none (k0 + 8) (n0 + 48) 3407 [(0, .ref b), (1, .ref x), (2, .ref y), (3, .ref o), (4, .ref od), (5, .int l5)] []) : AW E p l e room_1 s m #[Value.ref b] below meth c 10 Q hp none (k0 + 0) (n0 + 0) 1467 [(0, .ref b), (1, .ref x), (2, .ref y), (3, .ref o), (4, .ref od), (5, .int l5)] [] := by
  unfold f_W25 at h
  refine A_aload_n X dL_law_1467 1 rfl ?_
  refine A_aload_n X dL_law_1468 0 rfl ?_
  refine A_iload X dL_law_1469 5 rfl ?_
  refine A_iconst (v := 1) X dL_law_1471 (by decide) ?_
  refine A_iadd X dL_law_1472 ?_
  refine A_sld X hX hbl hbA hi1 dL_law_1473 ?_
  refine A_aload_n X dL_law_1474 3 rfl ?_
  obtain ⟨t1, hct1, h⟩ := bind_o h
  refine A_cX (k' := (k0 + 1)) (n' := (n0 + 6)) rfl rfl (A_runSH (rest := []) X dL_law_1475 (c_L_longestRun g0 g3 g7 g10 g11 g48 (by omega) hct1) kY_L_longestRun kw_1130 ⟨(Nat.le_of_ble_eq_true rfl), (Nat.le_of_ble_eq_true rfl), kb rfl hRk, kb rfl hRn⟩ rfl (Nat.le_of_ble_eq_true rfl)) (fun C hp1 hP => hP.elim) (fun v9 hp1 al9 hP => ?_)
  obtain ⟨rfl, k1_0, n1, rfl⟩ := hP
  replace k1_0 : hp1 o = some (.inl (kC E 1, 1, .inr (.inl t1.2))) := k1_0
  refine A_st (st' := [.int t1.1]) rfl ?_
  refine A_istore (L' := [(6, .int t1.1), (0, .ref b), (1, .ref x), (2, .ref y), (3, .ref o), (4, .ref od), (5, .int l5)]) X dL_law_1478 (by decide) rfl ?_
  refine A_aload_n X dL_law_1480 3 rfl ?_
  refine A_aload_n X dL_law_1481 1 rfl ?_
  refine A_iload X dL_law_1482 6 rfl ?_
  refine A_iconst (v := 1) X dL_law_1484 (by decide) ?_
  refine A_iadd X dL_law_1485 ?_
  refine A_sld X hX hbl hbA hi1 dL_law_1486 ?_
  obtain ⟨t2, hct2, h⟩ := bind_o h
  refine A_c (k' := (k0 + 1)) (n' := (n0 + 6)) rfl rfl (A_runV (rest := []) X dL_law_1487 (c_X11_longestRun ((n1 _ (by omega)).trans g39) ((n1 _ (by omega)).trans g40)  hct2) kY_X11_longestRun kw_1831 ((n1 _ (by omega)).trans g39) rfl rfl ⟨(Nat.le_of_ble_eq_true rfl), (Nat.le_of_ble_eq_true rfl), kb rfl hRk, kb rfl hRn⟩ rfl (Nat.le_of_ble_eq_true rfl)) (fun v9 hp2 al9 hP => ?_)
  obtain ⟨rfl, k2_0, n2, rfl⟩ := hP
  replace k2_0 : hp2 y = some (.inr (11, [.ref (y + 1), .ref (y + 2), .ref (y + 3), .ref (y + 4), .ref (y + 5), .int m_undoable, .int m_undoStart, .int t2.2, .ref (y + 6), .int m_oftenAll, .ref (y + 7), .int m_inputLength, .int m_position, .int m_start, .int m_token, .int m_value, .int m_letters, .int m_code, .int m_place, .ref (y + 8), .int m_outputLength])) := k2_0
  refine A_st (st' := [.int t2.1]) rfl ?_
  refine A_istore (L' := [(7, .int t2.1), (6, .int t1.1), (0, .ref b), (1, .ref x), (2, .ref y), (3, .ref o), (4, .ref od), (5, .int l5)]) X dL_law_1490 (by decide) rfl ?_
  refine A_aload_n X dL_law_1492 4 rfl ?_
  obtain ⟨t3, hct3, h⟩ := bind_o h
  refine A_cp (k' := (k0 + 1)) (n' := (n0 + 6)) (A_runV (rest := []) X dL_law_1493 (c_X11_thrown k2_0  hct3) kY_X11_thrown kw_1668 k2_0 rfl rfl ⟨(Nat.le_of_ble_eq_true rfl), (Nat.le_of_ble_eq_true rfl), kb rfl hRk, kb rfl hRn⟩ rfl (Nat.le_of_ble_eq_true rfl)) rfl rfl ?_
  refine A_iload X dL_law_1496 1 rfl ?_
  refine A_icmp_eq (tgt := 1503) X dL_law_1498 h (by decide) (fun hc h => ?_) (fun hc h => ?_)
  · refine A_iload X dL_law_1503 1 rfl ?_
    refine A_if_ne (tgt := 1520) X dL_law_1505 h (by decide) (fun hc h => ?_) (fun hc h => ?_)
    · refine A_goto (tgt := 3407) X dL_law_1520 (by decide) ?_
      cases h
      refine A_sub (L' := [(0, .ref b), (1, .ref x), (2, .ref y), (3, .ref o), (4, .ref od), (5, .int l5)]) [2, 3, 4, 5, 6, 7] rfl ?_
      refine A_widen (k' := (k0 + 8)) (n' := (n0 + 48)) (by omega) (by omega) ?_
      exact K k2_0 ((n2 _ (by omega)).trans k1_0) (fun q z0 z1 => ((n2 q z0).trans (n1 q z1)))
    · refine A_aload_n X dL_law_1508 5 rfl ?_
      refine A_iconst (v := 0) X dL_law_1509 (by decide) ?_
      refine A_lald X dL_law_1510 ((n2 _ (by omega)).trans k1_0) (by decide) ?_
      refine A_iload X dL_law_1511 0 rfl ?_
      refine A_i2l X dL_law_1513 ?_
      refine A_lcmp X dL_law_1514 ?_
      refine A_if_eq (tgt := 1520) X dL_law_1515 h (by decide) (fun hc h => ?_) (fun hc h => ?_)
      · refine A_goto (tgt := 3407) X dL_law_1520 (by decide) ?_
        cases h
        refine A_sub (L' := [(0, .ref b), (1, .ref x), (2, .ref y), (3, .ref o), (4, .ref od), (5, .int l5)]) [2, 3, 4, 5, 6, 7] rfl ?_
        refine A_widen (k' := (k0 + 8)) (n' := (n0 + 48)) (by omega) (by omega) ?_
        exact K k2_0 ((n2 _ (by omega)).trans k1_0) (fun q z0 z1 => ((n2 q z0).trans (n1 q z1)))
      · refine A_iconst (v := 0) X dL_law_1518 (by decide) ?_
        cases h
  · refine A_iconst (v := 0) X dL_law_1501 (by decide) ?_
    cases h
set_option maxHeartbeats 8000000 in
set_option maxRecDepth 100000 in
theorem c_W26 {E : KE} {p : Program} {l : Launch} {e : Env} {s : State} {m : MethodId} {b L9 : Nat} {xs : Nat → Int32} {below : List Frame} {meth : Method} {c : Code} {hp : Hp} {k0 n0 : Nat} {Q : State → Prop} {N : Nat} {x : Nat} {y : Nat} {o : Nat} {od : Nat} {sd : Int32} {mn : Int32} {th : Int32} {pc : Int32} {ln : Nat → Int32} {lt : Nat → Int32} {itl : Int32} {itb : Nat → Int32} {m_undoable : Int32} {m_undoStart : Int32} {m_thrown : Int32} {m_oftenAll : Int32} {m_inputLength : Int32} {m_position : Int32} {m_start : Int32} {m_token : Int32} {m_value : Int32} {m_letters : Int32} {m_code : Int32} {m_place : Int32} {m_outputLength : Int32} {m_s : Nat → Int32} {m_input : Nat → Int32} {l5 : Int32} {out : Int32} (X : CX E p l s m #[Value.ref b] meth c "DiceAuditLaw" cL_law 10) (hX : va_X b L9 xs s s.heap) (hbl : b < s.heap.size) (hbA : ¬ kA E b) (hi1 : vp_in (l5 + 1) L9) (hi2 : vp_in (l5 + 2) L9) (hi3 : vp_in (l5 + 3) L9) (hi4 : vp_in (l5 + 4) L9) (hi5 : vp_in (l5 + 5) L9) (hRk : k0 + 8 ≤ room_1.cells) (hRn : n0 + 48 ≤ room_1.slots) (g0 : hp x = some (.inr (10, [.ref (x + 126), .ref (x + 128), .ref (x + 1), .ref (x + 3), .ref (x + 16), .ref (x + 18), .ref (x + 124), .ref (x + 125)]))) (g3 : hp (x + 3) = some (.inr (2, [.ref (x + 4), .ref (x + 7), .ref (x + 10), .ref (x + 13), .int sd, .int mn, .int th]))) (g7 : hp (x + 7) = some (.inr (7, [.ref (x + 8), .ref (x + 9), .int pc]))) (g8 : hp (x + 8) = some (.inl (kC E 0, 6, .inl ln))) (g9 : hp (x + 9) = some (.inl (kC E 0, 24, .inl lt))) (g22 : hp (x + 126) = some (.inr (8, [.ref (x + 127), .int itl]))) (g23 : hp (x + 127) = some (.inl (kC E 0, 900, .inl itb))) (g39 : hp y = some (.inr (11, [.ref (y + 1), .ref (y + 2), .ref (y + 3), .ref (y + 4), .ref (y + 5), .int m_undoable, .int m_undoStart, .int m_thrown, .ref (y + 6), .int m_oftenAll, .ref (y + 7), .int m_inputLength, .int m_position, .int m_start, .int m_token, .int m_value, .int m_letters, .int m_code, .int m_place, .ref (y + 8), .int m_outputLength]))) (g40 : hp (y + 1) = some (.inl (kC E 0, 1399, .inl m_s))) (g46 : hp (y + 7) = some (.inl (kC E 0, 600, .inl m_input))) (hz0 : (x + 128) ≤ y ∨ (y + 8) ≤ x) (h : f_W26 N xs l5 pc ln lt itl itb m_inputLength m_s m_input m_thrown = some out) (K : ∀ {hp' : Hp}, hp' y = some (.inr (11, [.ref (y + 1), .ref (y + 2), .ref (y + 3), .ref (y + 4), .ref (y + 5), .int m_undoable, .int m_undoStart, .int out, .ref (y + 6), .int m_oftenAll, .ref (y + 7), .int m_inputLength, .int m_position, .int m_start, .int m_token, .int m_value, .int m_letters, .int m_code, .int m_place, .ref (y + 8), .int m_outputLength])) → (∀ q, q ≠ y → hp' q = hp q) → AW E p l e room_1 s m #[Value.ref b] below meth c 10 Q hp' none (k0 + 8) (n0 + 48) 3407 [(0, .ref b), (1, .ref x), (2, .ref y), (3, .ref o), (4, .ref od), (5, .int l5)] []) : AW E p l e room_1 s m #[Value.ref b] below meth c 10 Q hp none (k0 + 0) (n0 + 0) 1523 [(0, .ref b), (1, .ref x), (2, .ref y), (3, .ref o), (4, .ref od), (5, .int l5)] [] := by
  unfold f_W26 at h
  refine A_aload_n X dL_law_1523 1 rfl ?_
  obtain ⟨t1, hct1, h⟩ := bind_o h
  refine A_cp (k' := (k0 + 0)) (n' := (n0 + 0)) (A_runV (rest := []) X dL_law_1524 (c_X10_findPlayer g0 g3 g7 g8 g9 g22 g23  hct1) kY_X10_findPlayer kw_709 g0 rfl rfl ⟨(Nat.le_of_ble_eq_true rfl), (Nat.le_of_ble_eq_true rfl), kb rfl hRk, kb rfl hRn⟩ rfl (Nat.le_of_ble_eq_true rfl)) rfl rfl ?_
  refine A_aload_n X dL_law_1527 2 rfl ?_
  obtain ⟨t2, hct2, h⟩ := bind_o h
  refine A_c (k' := (k0 + 0)) (n' := (n0 + 0)) rfl rfl (A_runV (rest := [.int t1]) X dL_law_1528 (c_X11_findPlayer g39 g40 g46  hct2) kY_X11_findPlayer kw_1835 g39 rfl rfl ⟨(Nat.le_of_ble_eq_true rfl), (Nat.le_of_ble_eq_true rfl), kb rfl hRk, kb rfl hRn⟩ rfl (Nat.le_of_ble_eq_true rfl)) (fun v9 hp1 al9 hP => ?_)
  obtain ⟨rfl, k1_0, n1, rfl⟩ := hP
  replace k1_0 : hp1 y = some (.inr (11, [.ref (y + 1), .ref (y + 2), .ref (y + 3), .ref (y + 4), .ref (y + 5), .int m_undoable, .int m_undoStart, .int t2.2, .ref (y + 6), .int m_oftenAll, .ref (y + 7), .int m_inputLength, .int m_position, .int m_start, .int m_token, .int m_value, .int m_letters, .int m_code, .int m_place, .ref (y + 8), .int m_outputLength])) := k1_0
  refine A_st (st' := [.int t2.1, .int t1]) rfl ?_
  refine A_icmp_eq (tgt := 3407) X dL_law_1531 h (by decide) (fun hc h => ?_) (fun hc h => ?_)
  · cases h
    refine A_sub (L' := [(0, .ref b), (1, .ref x), (2, .ref y), (3, .ref o), (4, .ref od), (5, .int l5)]) [0, 1, 2, 3, 4, 5] rfl ?_
    refine A_widen (k' := (k0 + 8)) (n' := (n0 + 48)) (by omega) (by omega) ?_
    exact K k1_0 (fun q z0 => (n1 q z0))
  · refine A_iconst (v := 0) X dL_law_1534 (by decide) ?_
    cases h
set_option maxHeartbeats 8000000 in
set_option maxRecDepth 100000 in
theorem c_W27 {E : KE} {p : Program} {l : Launch} {e : Env} {s : State} {m : MethodId} {b L9 : Nat} {xs : Nat → Int32} {below : List Frame} {meth : Method} {c : Code} {hp : Hp} {k0 n0 : Nat} {Q : State → Prop} {N : Nat} {x : Nat} {y : Nat} {o : Nat} {od : Nat} {sd : Int32} {mn : Int32} {th : Int32} {dc : Int32} {pc : Int32} {tc : Int32} {fr : Nat → Int32} {m_undoable : Int32} {m_undoStart : Int32} {m_thrown : Int32} {m_oftenAll : Int32} {m_inputLength : Int32} {m_position : Int32} {m_start : Int32} {m_token : Int32} {m_value : Int32} {m_letters : Int32} {m_code : Int32} {m_place : Int32} {m_outputLength : Int32} {m_s : Nat → Int32} {ov : Nat → Int64} {l5 : Int32} {out : Int32 × (Nat → Int64)} (X : CX E p l s m #[Value.ref b] meth c "DiceAuditLaw" cL_law 10) (hX : va_X b L9 xs s s.heap) (hbl : b < s.heap.size) (hbA : ¬ kA E b) (hi1 : vp_in (l5 + 1) L9) (hi2 : vp_in (l5 + 2) L9) (hi3 : vp_in (l5 + 3) L9) (hi4 : vp_in (l5 + 4) L9) (hi5 : vp_in (l5 + 5) L9) (hRk : k0 + 8 ≤ room_1.cells) (hRn : n0 + 48 ≤ room_1.slots) (g0 : hp x = some (.inr (10, [.ref (x + 126), .ref (x + 128), .ref (x + 1), .ref (x + 3), .ref (x + 16), .ref (x + 18), .ref (x + 124), .ref (x + 125)]))) (g3 : hp (x + 3) = some (.inr (2, [.ref (x + 4), .ref (x + 7), .ref (x + 10), .ref (x + 13), .int sd, .int mn, .int th]))) (g4 : hp (x + 4) = some (.inr (0, [.ref (x + 5), .ref (x + 6), .int dc]))) (g7 : hp (x + 7) = some (.inr (7, [.ref (x + 8), .ref (x + 9), .int pc]))) (g10 : hp (x + 10) = some (.inr (4, [.ref (x + 11), .ref (x + 12), .int tc]))) (g12 : hp (x + 12) = some (.inl (kC E 0, 432, .inl fr))) (g39 : hp y = some (.inr (11, [.ref (y + 1), .ref (y + 2), .ref (y + 3), .ref (y + 4), .ref (y + 5), .int m_undoable, .int m_undoStart, .int m_thrown, .ref (y + 6), .int m_oftenAll, .ref (y + 7), .int m_inputLength, .int m_position, .int m_start, .int m_token, .int m_value, .int m_letters, .int m_code, .int m_place, .ref (y + 8), .int m_outputLength]))) (g40 : hp (y + 1) = some (.inl (kC E 0, 1399, .inl m_s))) (g48 : hp o = some (.inl (kC E 1, 1, .inr (.inl ov)))) (hz0 : (x + 13) ≤ y ∨ (y + 2) ≤ x) (hz1 : (x + 13) ≤ o ∨ (o + 1) ≤ x) (hz2 : (y + 2) ≤ o ∨ (o + 1) ≤ y) (h : f_W27 N xs l5 dc pc fr m_s m_thrown ov = some out) (K : ∀ {hp' : Hp}, hp' y = some (.inr (11, [.ref (y + 1), .ref (y + 2), .ref (y + 3), .ref (y + 4), .ref (y + 5), .int m_undoable, .int m_undoStart, .int out.1, .ref (y + 6), .int m_oftenAll, .ref (y + 7), .int m_inputLength, .int m_position, .int m_start, .int m_token, .int m_value, .int m_letters, .int m_code, .int m_place, .ref (y + 8), .int m_outputLength])) → hp' o = some (.inl (kC E 1, 1, .inr (.inl out.2))) → (∀ q, q ≠ y → q ≠ o → hp' q = hp q) → AW E p l e room_1 s m #[Value.ref b] below meth c 10 Q hp' none (k0 + 8) (n0 + 48) 3407 [(0, .ref b), (1, .ref x), (2, .ref y), (3, .ref o), (4, .ref od), (5, .int l5)] []) : AW E p l e room_1 s m #[Value.ref b] below meth c 10 Q hp none (k0 + 0) (n0 + 0) 1536 [(0, .ref b), (1, .ref x), (2, .ref y), (3, .ref o), (4, .ref od), (5, .int l5)] [] := by
  unfold f_W27 at h
  refine A_aload_n X dL_law_1536 1 rfl ?_
  refine A_aload_n X dL_law_1537 0 rfl ?_
  refine A_iload X dL_law_1538 5 rfl ?_
  refine A_iconst (v := 1) X dL_law_1540 (by decide) ?_
  refine A_iadd X dL_law_1541 ?_
  refine A_sld X hX hbl hbA hi1 dL_law_1542 ?_
  refine A_aload_n X dL_law_1543 0 rfl ?_
  refine A_iload X dL_law_1544 5 rfl ?_
  refine A_iconst (v := 2) X dL_law_1546 (by decide) ?_
  refine A_iadd X dL_law_1547 ?_
  refine A_sld X hX hbl hbA hi2 dL_law_1548 ?_
  refine A_aload_n X dL_law_1549 3 rfl ?_
  obtain ⟨t1, hct1, h⟩ := bind_o h
  refine A_cX (k' := (k0 + 2)) (n' := (n0 + 12)) rfl rfl (A_runSH (rest := []) X dL_law_1550 (c_L_throwsOfPair g0 g3 g4 g7 g10 g12 g48 (by omega) hct1) kY_L_throwsOfPair kw_1143 ⟨(Nat.le_of_ble_eq_true rfl), (Nat.le_of_ble_eq_true rfl), kb rfl hRk, kb rfl hRn⟩ rfl (Nat.le_of_ble_eq_true rfl)) (fun C hp1 hP => hP.elim) (fun v9 hp1 al9 hP => ?_)
  obtain ⟨rfl, k1_0, n1, rfl⟩ := hP
  replace k1_0 : hp1 o = some (.inl (kC E 1, 1, .inr (.inl t1.2))) := k1_0
  refine A_st (st' := [.int t1.1]) rfl ?_
  refine A_istore (L' := [(6, .int t1.1), (0, .ref b), (1, .ref x), (2, .ref y), (3, .ref o), (4, .ref od), (5, .int l5)]) X dL_law_1553 (by decide) rfl ?_
  refine A_aload_n X dL_law_1555 3 rfl ?_
  refine A_aload_n X dL_law_1556 1 rfl ?_
  refine A_iload X dL_law_1557 6 rfl ?_
  refine A_iconst (v := 1) X dL_law_1559 (by decide) ?_
  refine A_iadd X dL_law_1560 ?_
  refine A_sld X hX hbl hbA hi1 dL_law_1561 ?_
  refine A_aload_n X dL_law_1562 1 rfl ?_
  refine A_iload X dL_law_1563 6 rfl ?_
  refine A_iconst (v := 2) X dL_law_1565 (by decide) ?_
  refine A_iadd X dL_law_1566 ?_
  refine A_sld X hX hbl hbA hi2 dL_law_1567 ?_
  obtain ⟨t2, hct2, h⟩ := bind_o h
  refine A_c (k' := (k0 + 2)) (n' := (n0 + 12)) rfl rfl (A_runV (rest := []) X dL_law_1568 (c_X11_throwsOfPair ((n1 _ (by omega)).trans g39) ((n1 _ (by omega)).trans g40)  hct2) kY_X11_throwsOfPair kw_1839 ((n1 _ (by omega)).trans g39) rfl rfl ⟨(Nat.le_of_ble_eq_true rfl), (Nat.le_of_ble_eq_true rfl), kb rfl hRk, kb rfl hRn⟩ rfl (Nat.le_of_ble_eq_true rfl)) (fun v9 hp2 al9 hP => ?_)
  obtain ⟨rfl, k2_0, n2, rfl⟩ := hP
  replace k2_0 : hp2 y = some (.inr (11, [.ref (y + 1), .ref (y + 2), .ref (y + 3), .ref (y + 4), .ref (y + 5), .int m_undoable, .int m_undoStart, .int t2.2, .ref (y + 6), .int m_oftenAll, .ref (y + 7), .int m_inputLength, .int m_position, .int m_start, .int m_token, .int m_value, .int m_letters, .int m_code, .int m_place, .ref (y + 8), .int m_outputLength])) := k2_0
  refine A_st (st' := [.int t2.1]) rfl ?_
  refine A_istore (L' := [(7, .int t2.1), (6, .int t1.1), (0, .ref b), (1, .ref x), (2, .ref y), (3, .ref o), (4, .ref od), (5, .int l5)]) X dL_law_1571 (by decide) rfl ?_
  refine A_aload_n X dL_law_1573 4 rfl ?_
  obtain ⟨t3, hct3, h⟩ := bind_o h
  refine A_cp (k' := (k0 + 2)) (n' := (n0 + 12)) (A_runV (rest := []) X dL_law_1574 (c_X11_thrown k2_0  hct3) kY_X11_thrown kw_1668 k2_0 rfl rfl ⟨(Nat.le_of_ble_eq_true rfl), (Nat.le_of_ble_eq_true rfl), kb rfl hRk, kb rfl hRn⟩ rfl (Nat.le_of_ble_eq_true rfl)) rfl rfl ?_
  refine A_iload X dL_law_1577 1 rfl ?_
  refine A_icmp_eq (tgt := 1584) X dL_law_1579 h (by decide) (fun hc h => ?_) (fun hc h => ?_)
  · refine A_iload X dL_law_1584 1 rfl ?_
    refine A_if_ne (tgt := 1601) X dL_law_1586 h (by decide) (fun hc h => ?_) (fun hc h => ?_)
    · refine A_goto (tgt := 3407) X dL_law_1601 (by decide) ?_
      cases h
      refine A_sub (L' := [(0, .ref b), (1, .ref x), (2, .ref y), (3, .ref o), (4, .ref od), (5, .int l5)]) [2, 3, 4, 5, 6, 7] rfl ?_
      refine A_widen (k' := (k0 + 8)) (n' := (n0 + 48)) (by omega) (by omega) ?_
      exact K k2_0 ((n2 _ (by omega)).trans k1_0) (fun q z0 z1 => ((n2 q z0).trans (n1 q z1)))
    · refine A_aload_n X dL_law_1589 5 rfl ?_
      refine A_iconst (v := 0) X dL_law_1590 (by decide) ?_
      refine A_lald X dL_law_1591 ((n2 _ (by omega)).trans k1_0) (by decide) ?_
      refine A_iload X dL_law_1592 0 rfl ?_
      refine A_i2l X dL_law_1594 ?_
      refine A_lcmp X dL_law_1595 ?_
      refine A_if_eq (tgt := 1601) X dL_law_1596 h (by decide) (fun hc h => ?_) (fun hc h => ?_)
      · refine A_goto (tgt := 3407) X dL_law_1601 (by decide) ?_
        cases h
        refine A_sub (L' := [(0, .ref b), (1, .ref x), (2, .ref y), (3, .ref o), (4, .ref od), (5, .int l5)]) [2, 3, 4, 5, 6, 7] rfl ?_
        refine A_widen (k' := (k0 + 8)) (n' := (n0 + 48)) (by omega) (by omega) ?_
        exact K k2_0 ((n2 _ (by omega)).trans k1_0) (fun q z0 z1 => ((n2 q z0).trans (n1 q z1)))
      · refine A_iconst (v := 0) X dL_law_1599 (by decide) ?_
        cases h
  · refine A_iconst (v := 0) X dL_law_1582 (by decide) ?_
    cases h
set_option maxHeartbeats 8000000 in
set_option maxRecDepth 100000 in
theorem c_W28 {E : KE} {p : Program} {l : Launch} {e : Env} {s : State} {m : MethodId} {b L9 : Nat} {xs : Nat → Int32} {below : List Frame} {meth : Method} {c : Code} {hp : Hp} {k0 n0 : Nat} {Q : State → Prop} {N : Nat} {x : Nat} {y : Nat} {o : Nat} {od : Nat} {sd : Int32} {mn : Int32} {th : Int32} {dc : Int32} {fc : Nat → Int32} {pc : Int32} {tc : Int32} {fr : Nat → Int32} {m_undoable : Int32} {m_undoStart : Int32} {m_thrown : Int32} {m_oftenAll : Int32} {m_inputLength : Int32} {m_position : Int32} {m_start : Int32} {m_token : Int32} {m_value : Int32} {m_letters : Int32} {m_code : Int32} {m_place : Int32} {m_outputLength : Int32} {m_s : Nat → Int32} {m_often : Nat → Int32} {ov : Nat → Int64} {l5 : Int32} {out : Int32 × Int32 × (Nat → Int32) × (Nat → Int64)} (X : CX E p l s m #[Value.ref b] meth c "DiceAuditLaw" cL_law 10) (hX : va_X b L9 xs s s.heap) (hbl : b < s.heap.size) (hbA : ¬ kA E b) (hi1 : vp_in (l5 + 1) L9) (hi2 : vp_in (l5 + 2) L9) (hi3 : vp_in (l5 + 3) L9) (hi4 : vp_in (l5 + 4) L9) (hi5 : vp_in (l5 + 5) L9) (hRk : k0 + 8 ≤ room_1.cells) (hRn : n0 + 48 ≤ room_1.slots) (g0 : hp x = some (.inr (10, [.ref (x + 126), .ref (x + 128), .ref (x + 1), .ref (x + 3), .ref (x + 16), .ref (x + 18), .ref (x + 124), .ref (x + 125)]))) (g3 : hp (x + 3) = some (.inr (2, [.ref (x + 4), .ref (x + 7), .ref (x + 10), .ref (x + 13), .int sd, .int mn, .int th]))) (g4 : hp (x + 4) = some (.inr (0, [.ref (x + 5), .ref (x + 6), .int dc]))) (g5 : hp (x + 5) = some (.inl (kC E 0, 6, .inl fc))) (g7 : hp (x + 7) = some (.inr (7, [.ref (x + 8), .ref (x + 9), .int pc]))) (g10 : hp (x + 10) = some (.inr (4, [.ref (x + 11), .ref (x + 12), .int tc]))) (g12 : hp (x + 12) = some (.inl (kC E 0, 432, .inl fr))) (g39 : hp y = some (.inr (11, [.ref (y + 1), .ref (y + 2), .ref (y + 3), .ref (y + 4), .ref (y + 5), .int m_undoable, .int m_undoStart, .int m_thrown, .ref (y + 6), .int m_oftenAll, .ref (y + 7), .int m_inputLength, .int m_position, .int m_start, .int m_token, .int m_value, .int m_letters, .int m_code, .int m_place, .ref (y + 8), .int m_outputLength]))) (g40 : hp (y + 1) = some (.inl (kC E 0, 1399, .inl m_s))) (g45 : hp (y + 6) = some (.inl (kC E 0, 13, .inl m_often))) (g48 : hp o = some (.inl (kC E 1, 1, .inr (.inl ov)))) (hz0 : (x + 13) ≤ y ∨ (y + 7) ≤ x) (hz1 : (x + 13) ≤ o ∨ (o + 1) ≤ x) (hz2 : (y + 7) ≤ o ∨ (o + 1) ≤ y) (h : f_W28 N xs l5 dc fc pc fr m_s m_thrown m_oftenAll m_often ov = some out) (K : ∀ {hp' : Hp}, hp' y = some (.inr (11, [.ref (y + 1), .ref (y + 2), .ref (y + 3), .ref (y + 4), .ref (y + 5), .int m_undoable, .int m_undoStart, .int out.1, .ref (y + 6), .int out.2.1, .ref (y + 7), .int m_inputLength, .int m_position, .int m_start, .int m_token, .int m_value, .int m_letters, .int m_code, .int m_place, .ref (y + 8), .int m_outputLength])) → hp' (y + 6) = some (.inl (kC E 0, 13, .inl out.2.2.1)) → hp' o = some (.inl (kC E 1, 1, .inr (.inl out.2.2.2))) → (∀ q, q ≠ y → q ≠ (y + 6) → q ≠ o → hp' q = hp q) → AW E p l e room_1 s m #[Value.ref b] below meth c 10 Q hp' none (k0 + 8) (n0 + 48) 3407 [(0, .ref b), (1, .ref x), (2, .ref y), (3, .ref o), (4, .ref od), (5, .int l5)] []) : AW E p l e room_1 s m #[Value.ref b] below meth c 10 Q hp none (k0 + 0) (n0 + 0) 1604 [(0, .ref b), (1, .ref x), (2, .ref y), (3, .ref o), (4, .ref od), (5, .int l5)] [] := by
  unfold f_W28 at h
  refine A_aload_n X dL_law_1604 1 rfl ?_
  refine A_aload_n X dL_law_1605 0 rfl ?_
  refine A_iload X dL_law_1606 5 rfl ?_
  refine A_iconst (v := 1) X dL_law_1608 (by decide) ?_
  refine A_iadd X dL_law_1609 ?_
  refine A_sld X hX hbl hbA hi1 dL_law_1610 ?_
  refine A_aload_n X dL_law_1611 0 rfl ?_
  refine A_iload X dL_law_1612 5 rfl ?_
  refine A_iconst (v := 2) X dL_law_1614 (by decide) ?_
  refine A_iadd X dL_law_1615 ?_
  refine A_sld X hX hbl hbA hi2 dL_law_1616 ?_
  refine A_aload_n X dL_law_1617 0 rfl ?_
  refine A_iload X dL_law_1618 5 rfl ?_
  refine A_iconst (v := 3) X dL_law_1620 (by decide) ?_
  refine A_iadd X dL_law_1621 ?_
  refine A_sld X hX hbl hbA hi3 dL_law_1622 ?_
  refine A_aload_n X dL_law_1623 3 rfl ?_
  obtain ⟨t1, hct1, h⟩ := bind_o h
  refine A_cX (k' := (k0 + 3)) (n' := (n0 + 18)) rfl rfl (A_runSH (rest := []) X dL_law_1624 (c_L_frequency g0 g3 g4 g5 g7 g10 g12 g48 (by omega) hct1) kY_L_frequency kw_1156 ⟨(Nat.le_of_ble_eq_true rfl), (Nat.le_of_ble_eq_true rfl), kb rfl hRk, kb rfl hRn⟩ rfl (Nat.le_of_ble_eq_true rfl)) (fun C hp1 hP => hP.elim) (fun v9 hp1 al9 hP => ?_)
  obtain ⟨rfl, k1_0, n1, rfl⟩ := hP
  replace k1_0 : hp1 o = some (.inl (kC E 1, 1, .inr (.inl t1.2))) := k1_0
  refine A_st (st' := [.int t1.1]) rfl ?_
  refine A_istore (L' := [(6, .int t1.1), (0, .ref b), (1, .ref x), (2, .ref y), (3, .ref o), (4, .ref od), (5, .int l5)]) X dL_law_1627 (by decide) rfl ?_
  refine A_aload_n X dL_law_1629 3 rfl ?_
  refine A_aload_n X dL_law_1630 1 rfl ?_
  refine A_iload X dL_law_1631 6 rfl ?_
  refine A_iconst (v := 1) X dL_law_1633 (by decide) ?_
  refine A_iadd X dL_law_1634 ?_
  refine A_sld X hX hbl hbA hi1 dL_law_1635 ?_
  refine A_aload_n X dL_law_1636 1 rfl ?_
  refine A_iload X dL_law_1637 6 rfl ?_
  refine A_iconst (v := 2) X dL_law_1639 (by decide) ?_
  refine A_iadd X dL_law_1640 ?_
  refine A_sld X hX hbl hbA hi2 dL_law_1641 ?_
  refine A_aload_n X dL_law_1642 1 rfl ?_
  refine A_iload X dL_law_1643 6 rfl ?_
  refine A_iconst (v := 3) X dL_law_1645 (by decide) ?_
  refine A_iadd X dL_law_1646 ?_
  refine A_sld X hX hbl hbA hi3 dL_law_1647 ?_
  obtain ⟨t2, hct2, h⟩ := bind_o h
  refine A_c (k' := (k0 + 3)) (n' := (n0 + 18)) rfl rfl (A_runV (rest := []) X dL_law_1648 (c_X11_frequency ((n1 _ (by omega)).trans g39) ((n1 _ (by omega)).trans g40) ((n1 _ (by omega)).trans g45)  hct2) kY_X11_frequency kw_1847 ((n1 _ (by omega)).trans g39) rfl rfl ⟨(Nat.le_of_ble_eq_true rfl), (Nat.le_of_ble_eq_true rfl), kb rfl hRk, kb rfl hRn⟩ rfl (Nat.le_of_ble_eq_true rfl)) (fun v9 hp2 al9 hP => ?_)
  obtain ⟨rfl, k2_0, k2_1, n2, rfl⟩ := hP
  replace k2_0 : hp2 y = some (.inr (11, [.ref (y + 1), .ref (y + 2), .ref (y + 3), .ref (y + 4), .ref (y + 5), .int m_undoable, .int m_undoStart, .int t2.2.1, .ref (y + 6), .int t2.2.2.1, .ref (y + 7), .int m_inputLength, .int m_position, .int m_start, .int m_token, .int m_value, .int m_letters, .int m_code, .int m_place, .ref (y + 8), .int m_outputLength])) := k2_0
  replace k2_1 : hp2 (y + 6) = some (.inl (kC E 0, 13, .inl t2.2.2.2)) := k2_1
  refine A_st (st' := [.int t2.1]) rfl ?_
  refine A_istore (L' := [(7, .int t2.1), (6, .int t1.1), (0, .ref b), (1, .ref x), (2, .ref y), (3, .ref o), (4, .ref od), (5, .int l5)]) X dL_law_1651 (by decide) rfl ?_
  refine A_aload_n X dL_law_1653 4 rfl ?_
  obtain ⟨t3, hct3, h⟩ := bind_o h
  refine A_cp (k' := (k0 + 3)) (n' := (n0 + 18)) (A_runV (rest := []) X dL_law_1654 (c_X11_thrown k2_0  hct3) kY_X11_thrown kw_1668 k2_0 rfl rfl ⟨(Nat.le_of_ble_eq_true rfl), (Nat.le_of_ble_eq_true rfl), kb rfl hRk, kb rfl hRn⟩ rfl (Nat.le_of_ble_eq_true rfl)) rfl rfl ?_
  refine A_iload X dL_law_1657 1 rfl ?_
  refine A_icmp_eq (tgt := 1664) X dL_law_1659 h (by decide) (fun hc h => ?_) (fun hc h => ?_)
  · refine A_iload X dL_law_1664 1 rfl ?_
    refine A_if_ne (tgt := 1681) X dL_law_1666 h (by decide) (fun hc h => ?_) (fun hc h => ?_)
    · refine A_goto (tgt := 3407) X dL_law_1681 (by decide) ?_
      cases h
      refine A_sub (L' := [(0, .ref b), (1, .ref x), (2, .ref y), (3, .ref o), (4, .ref od), (5, .int l5)]) [2, 3, 4, 5, 6, 7] rfl ?_
      refine A_widen (k' := (k0 + 8)) (n' := (n0 + 48)) (by omega) (by omega) ?_
      exact K k2_0 k2_1 ((n2 _ (by omega) (by omega)).trans k1_0) (fun q z0 z1 z2 => ((n2 q z0 z1).trans (n1 q z2)))
    · refine A_aload_n X dL_law_1669 5 rfl ?_
      refine A_iconst (v := 0) X dL_law_1670 (by decide) ?_
      refine A_lald X dL_law_1671 ((n2 _ (by omega) (by omega)).trans k1_0) (by decide) ?_
      refine A_iload X dL_law_1672 0 rfl ?_
      refine A_i2l X dL_law_1674 ?_
      refine A_lcmp X dL_law_1675 ?_
      refine A_if_eq (tgt := 1681) X dL_law_1676 h (by decide) (fun hc h => ?_) (fun hc h => ?_)
      · refine A_goto (tgt := 3407) X dL_law_1681 (by decide) ?_
        cases h
        refine A_sub (L' := [(0, .ref b), (1, .ref x), (2, .ref y), (3, .ref o), (4, .ref od), (5, .int l5)]) [2, 3, 4, 5, 6, 7] rfl ?_
        refine A_widen (k' := (k0 + 8)) (n' := (n0 + 48)) (by omega) (by omega) ?_
        exact K k2_0 k2_1 ((n2 _ (by omega) (by omega)).trans k1_0) (fun q z0 z1 z2 => ((n2 q z0 z1).trans (n1 q z2)))
      · refine A_iconst (v := 0) X dL_law_1679 (by decide) ?_
        cases h
  · refine A_iconst (v := 0) X dL_law_1662 (by decide) ?_
    cases h
set_option maxHeartbeats 8000000 in
set_option maxRecDepth 100000 in
theorem c_W29 {E : KE} {p : Program} {l : Launch} {e : Env} {s : State} {m : MethodId} {b L9 : Nat} {xs : Nat → Int32} {below : List Frame} {meth : Method} {c : Code} {hp : Hp} {k0 n0 : Nat} {Q : State → Prop} {N : Nat} {x : Nat} {y : Nat} {o : Nat} {od : Nat} {sd : Int32} {mn : Int32} {th : Int32} {dc : Int32} {fc : Nat → Int32} {pc : Int32} {tc : Int32} {fr : Nat → Int32} {m_undoable : Int32} {m_undoStart : Int32} {m_thrown : Int32} {m_oftenAll : Int32} {m_inputLength : Int32} {m_position : Int32} {m_start : Int32} {m_token : Int32} {m_value : Int32} {m_letters : Int32} {m_code : Int32} {m_place : Int32} {m_outputLength : Int32} {m_s : Nat → Int32} {m_often : Nat → Int32} {ov : Nat → Int64} {l5 : Int32} {out : Int32 × Int32 × (Nat → Int32) × (Nat → Int64)} (X : CX E p l s m #[Value.ref b] meth c "DiceAuditLaw" cL_law 10) (hX : va_X b L9 xs s s.heap) (hbl : b < s.heap.size) (hbA : ¬ kA E b) (hi1 : vp_in (l5 + 1) L9) (hi2 : vp_in (l5 + 2) L9) (hi3 : vp_in (l5 + 3) L9) (hi4 : vp_in (l5 + 4) L9) (hi5 : vp_in (l5 + 5) L9) (hRk : k0 + 8 ≤ room_1.cells) (hRn : n0 + 48 ≤ room_1.slots) (g0 : hp x = some (.inr (10, [.ref (x + 126), .ref (x + 128), .ref (x + 1), .ref (x + 3), .ref (x + 16), .ref (x + 18), .ref (x + 124), .ref (x + 125)]))) (g3 : hp (x + 3) = some (.inr (2, [.ref (x + 4), .ref (x + 7), .ref (x + 10), .ref (x + 13), .int sd, .int mn, .int th]))) (g4 : hp (x + 4) = some (.inr (0, [.ref (x + 5), .ref (x + 6), .int dc]))) (g5 : hp (x + 5) = some (.inl (kC E 0, 6, .inl fc))) (g7 : hp (x + 7) = some (.inr (7, [.ref (x + 8), .ref (x + 9), .int pc]))) (g10 : hp (x + 10) = some (.inr (4, [.ref (x + 11), .ref (x + 12), .int tc]))) (g12 : hp (x + 12) = some (.inl (kC E 0, 432, .inl fr))) (g39 : hp y = some (.inr (11, [.ref (y + 1), .ref (y + 2), .ref (y + 3), .ref (y + 4), .ref (y + 5), .int m_undoable, .int m_undoStart, .int m_thrown, .ref (y + 6), .int m_oftenAll, .ref (y + 7), .int m_inputLength, .int m_position, .int m_start, .int m_token, .int m_value, .int m_letters, .int m_code, .int m_place, .ref (y + 8), .int m_outputLength]))) (g40 : hp (y + 1) = some (.inl (kC E 0, 1399, .inl m_s))) (g45 : hp (y + 6) = some (.inl (kC E 0, 13, .inl m_often))) (g48 : hp o = some (.inl (kC E 1, 1, .inr (.inl ov)))) (hz0 : (x + 13) ≤ y ∨ (y + 7) ≤ x) (hz1 : (x + 13) ≤ o ∨ (o + 1) ≤ x) (hz2 : (y + 7) ≤ o ∨ (o + 1) ≤ y) (h : f_W29 N xs l5 dc fc pc fr m_s m_thrown m_oftenAll m_often ov = some out) (K : ∀ {hp' : Hp}, hp' y = some (.inr (11, [.ref (y + 1), .ref (y + 2), .ref (y + 3), .ref (y + 4), .ref (y + 5), .int m_undoable, .int m_undoStart, .int out.1, .ref (y + 6), .int out.2.1, .ref (y + 7), .int m_inputLength, .int m_position, .int m_start, .int m_token, .int m_value, .int m_letters, .int m_code, .int m_place, .ref (y + 8), .int m_outputLength])) → hp' (y + 6) = some (.inl (kC E 0, 13, .inl out.2.2.1)) → hp' o = some (.inl (kC E 1, 1, .inr (.inl out.2.2.2))) → (∀ q, q ≠ y → q ≠ (y + 6) → q ≠ o → hp' q = hp q) → AW E p l e room_1 s m #[Value.ref b] below meth c 10 Q hp' none (k0 + 8) (n0 + 48) 3407 [(0, .ref b), (1, .ref x), (2, .ref y), (3, .ref o), (4, .ref od), (5, .int l5)] []) : AW E p l e room_1 s m #[Value.ref b] below meth c 10 Q hp none (k0 + 0) (n0 + 0) 1684 [(0, .ref b), (1, .ref x), (2, .ref y), (3, .ref o), (4, .ref od), (5, .int l5)] [] := by
  unfold f_W29 at h
  refine A_aload_n X dL_law_1684 1 rfl ?_
  refine A_aload_n X dL_law_1685 0 rfl ?_
  refine A_iload X dL_law_1686 5 rfl ?_
  refine A_iconst (v := 1) X dL_law_1688 (by decide) ?_
  refine A_iadd X dL_law_1689 ?_
  refine A_sld X hX hbl hbA hi1 dL_law_1690 ?_
  refine A_aload_n X dL_law_1691 0 rfl ?_
  refine A_iload X dL_law_1692 5 rfl ?_
  refine A_iconst (v := 2) X dL_law_1694 (by decide) ?_
  refine A_iadd X dL_law_1695 ?_
  refine A_sld X hX hbl hbA hi2 dL_law_1696 ?_
  refine A_aload_n X dL_law_1697 3 rfl ?_
  obtain ⟨t1, hct1, h⟩ := bind_o h
  refine A_cX (k' := (k0 + 2)) (n' := (n0 + 12)) rfl rfl (A_runSH (rest := []) X dL_law_1698 (c_L_commonFace g0 g3 g4 g5 g7 g10 g12 g48 (by omega) hct1) kY_L_commonFace kw_1163 ⟨(Nat.le_of_ble_eq_true rfl), (Nat.le_of_ble_eq_true rfl), kb rfl hRk, kb rfl hRn⟩ rfl (Nat.le_of_ble_eq_true rfl)) (fun C hp1 hP => hP.elim) (fun v9 hp1 al9 hP => ?_)
  obtain ⟨rfl, k1_0, n1, rfl⟩ := hP
  replace k1_0 : hp1 o = some (.inl (kC E 1, 1, .inr (.inl t1.2))) := k1_0
  refine A_st (st' := [.int t1.1]) rfl ?_
  refine A_istore (L' := [(6, .int t1.1), (0, .ref b), (1, .ref x), (2, .ref y), (3, .ref o), (4, .ref od), (5, .int l5)]) X dL_law_1701 (by decide) rfl ?_
  refine A_aload_n X dL_law_1703 3 rfl ?_
  refine A_aload_n X dL_law_1704 1 rfl ?_
  refine A_iload X dL_law_1705 6 rfl ?_
  refine A_iconst (v := 1) X dL_law_1707 (by decide) ?_
  refine A_iadd X dL_law_1708 ?_
  refine A_sld X hX hbl hbA hi1 dL_law_1709 ?_
  refine A_aload_n X dL_law_1710 1 rfl ?_
  refine A_iload X dL_law_1711 6 rfl ?_
  refine A_iconst (v := 2) X dL_law_1713 (by decide) ?_
  refine A_iadd X dL_law_1714 ?_
  refine A_sld X hX hbl hbA hi2 dL_law_1715 ?_
  obtain ⟨t2, hct2, h⟩ := bind_o h
  refine A_c (k' := (k0 + 2)) (n' := (n0 + 12)) rfl rfl (A_runV (rest := []) X dL_law_1716 (c_X11_commonFace ((n1 _ (by omega)).trans g39) ((n1 _ (by omega)).trans g40) ((n1 _ (by omega)).trans g45)  hct2) kY_X11_commonFace kw_1851 ((n1 _ (by omega)).trans g39) rfl rfl ⟨(Nat.le_of_ble_eq_true rfl), (Nat.le_of_ble_eq_true rfl), kb rfl hRk, kb rfl hRn⟩ rfl (Nat.le_of_ble_eq_true rfl)) (fun v9 hp2 al9 hP => ?_)
  obtain ⟨rfl, k2_0, k2_1, n2, rfl⟩ := hP
  replace k2_0 : hp2 y = some (.inr (11, [.ref (y + 1), .ref (y + 2), .ref (y + 3), .ref (y + 4), .ref (y + 5), .int m_undoable, .int m_undoStart, .int t2.2.1, .ref (y + 6), .int t2.2.2.1, .ref (y + 7), .int m_inputLength, .int m_position, .int m_start, .int m_token, .int m_value, .int m_letters, .int m_code, .int m_place, .ref (y + 8), .int m_outputLength])) := k2_0
  replace k2_1 : hp2 (y + 6) = some (.inl (kC E 0, 13, .inl t2.2.2.2)) := k2_1
  refine A_st (st' := [.int t2.1]) rfl ?_
  refine A_istore (L' := [(7, .int t2.1), (6, .int t1.1), (0, .ref b), (1, .ref x), (2, .ref y), (3, .ref o), (4, .ref od), (5, .int l5)]) X dL_law_1719 (by decide) rfl ?_
  refine A_aload_n X dL_law_1721 4 rfl ?_
  obtain ⟨t3, hct3, h⟩ := bind_o h
  refine A_cp (k' := (k0 + 2)) (n' := (n0 + 12)) (A_runV (rest := []) X dL_law_1722 (c_X11_thrown k2_0  hct3) kY_X11_thrown kw_1668 k2_0 rfl rfl ⟨(Nat.le_of_ble_eq_true rfl), (Nat.le_of_ble_eq_true rfl), kb rfl hRk, kb rfl hRn⟩ rfl (Nat.le_of_ble_eq_true rfl)) rfl rfl ?_
  refine A_iload X dL_law_1725 1 rfl ?_
  refine A_icmp_eq (tgt := 1732) X dL_law_1727 h (by decide) (fun hc h => ?_) (fun hc h => ?_)
  · refine A_iload X dL_law_1732 1 rfl ?_
    refine A_if_ne (tgt := 1749) X dL_law_1734 h (by decide) (fun hc h => ?_) (fun hc h => ?_)
    · refine A_goto (tgt := 3407) X dL_law_1749 (by decide) ?_
      cases h
      refine A_sub (L' := [(0, .ref b), (1, .ref x), (2, .ref y), (3, .ref o), (4, .ref od), (5, .int l5)]) [2, 3, 4, 5, 6, 7] rfl ?_
      refine A_widen (k' := (k0 + 8)) (n' := (n0 + 48)) (by omega) (by omega) ?_
      exact K k2_0 k2_1 ((n2 _ (by omega) (by omega)).trans k1_0) (fun q z0 z1 z2 => ((n2 q z0 z1).trans (n1 q z2)))
    · refine A_aload_n X dL_law_1737 5 rfl ?_
      refine A_iconst (v := 0) X dL_law_1738 (by decide) ?_
      refine A_lald X dL_law_1739 ((n2 _ (by omega) (by omega)).trans k1_0) (by decide) ?_
      refine A_iload X dL_law_1740 0 rfl ?_
      refine A_i2l X dL_law_1742 ?_
      refine A_lcmp X dL_law_1743 ?_
      refine A_if_eq (tgt := 1749) X dL_law_1744 h (by decide) (fun hc h => ?_) (fun hc h => ?_)
      · refine A_goto (tgt := 3407) X dL_law_1749 (by decide) ?_
        cases h
        refine A_sub (L' := [(0, .ref b), (1, .ref x), (2, .ref y), (3, .ref o), (4, .ref od), (5, .int l5)]) [2, 3, 4, 5, 6, 7] rfl ?_
        refine A_widen (k' := (k0 + 8)) (n' := (n0 + 48)) (by omega) (by omega) ?_
        exact K k2_0 k2_1 ((n2 _ (by omega) (by omega)).trans k1_0) (fun q z0 z1 z2 => ((n2 q z0 z1).trans (n1 q z2)))
      · refine A_iconst (v := 0) X dL_law_1747 (by decide) ?_
        cases h
  · refine A_iconst (v := 0) X dL_law_1730 (by decide) ?_
    cases h
set_option maxHeartbeats 8000000 in
set_option maxRecDepth 100000 in
theorem c_W30 {E : KE} {p : Program} {l : Launch} {e : Env} {s : State} {m : MethodId} {b L9 : Nat} {xs : Nat → Int32} {below : List Frame} {meth : Method} {c : Code} {hp : Hp} {k0 n0 : Nat} {Q : State → Prop} {N : Nat} {x : Nat} {y : Nat} {o : Nat} {od : Nat} {sd : Int32} {mn : Int32} {th : Int32} {dc : Int32} {pc : Int32} {tc : Int32} {fr : Nat → Int32} {m_undoable : Int32} {m_undoStart : Int32} {m_thrown : Int32} {m_oftenAll : Int32} {m_inputLength : Int32} {m_position : Int32} {m_start : Int32} {m_token : Int32} {m_value : Int32} {m_letters : Int32} {m_code : Int32} {m_place : Int32} {m_outputLength : Int32} {m_s : Nat → Int32} {m_often : Nat → Int32} {ov : Nat → Int64} {l5 : Int32} {out : Int32 × Int32 × (Nat → Int32) × (Nat → Int64)} (X : CX E p l s m #[Value.ref b] meth c "DiceAuditLaw" cL_law 10) (hX : va_X b L9 xs s s.heap) (hbl : b < s.heap.size) (hbA : ¬ kA E b) (hi1 : vp_in (l5 + 1) L9) (hi2 : vp_in (l5 + 2) L9) (hi3 : vp_in (l5 + 3) L9) (hi4 : vp_in (l5 + 4) L9) (hi5 : vp_in (l5 + 5) L9) (hRk : k0 + 8 ≤ room_1.cells) (hRn : n0 + 48 ≤ room_1.slots) (g0 : hp x = some (.inr (10, [.ref (x + 126), .ref (x + 128), .ref (x + 1), .ref (x + 3), .ref (x + 16), .ref (x + 18), .ref (x + 124), .ref (x + 125)]))) (g3 : hp (x + 3) = some (.inr (2, [.ref (x + 4), .ref (x + 7), .ref (x + 10), .ref (x + 13), .int sd, .int mn, .int th]))) (g4 : hp (x + 4) = some (.inr (0, [.ref (x + 5), .ref (x + 6), .int dc]))) (g7 : hp (x + 7) = some (.inr (7, [.ref (x + 8), .ref (x + 9), .int pc]))) (g10 : hp (x + 10) = some (.inr (4, [.ref (x + 11), .ref (x + 12), .int tc]))) (g12 : hp (x + 12) = some (.inl (kC E 0, 432, .inl fr))) (g39 : hp y = some (.inr (11, [.ref (y + 1), .ref (y + 2), .ref (y + 3), .ref (y + 4), .ref (y + 5), .int m_undoable, .int m_undoStart, .int m_thrown, .ref (y + 6), .int m_oftenAll, .ref (y + 7), .int m_inputLength, .int m_position, .int m_start, .int m_token, .int m_value, .int m_letters, .int m_code, .int m_place, .ref (y + 8), .int m_outputLength]))) (g40 : hp (y + 1) = some (.inl (kC E 0, 1399, .inl m_s))) (g45 : hp (y + 6) = some (.inl (kC E 0, 13, .inl m_often))) (g48 : hp o = some (.inl (kC E 1, 1, .inr (.inl ov)))) (hz0 : (x + 13) ≤ y ∨ (y + 7) ≤ x) (hz1 : (x + 13) ≤ o ∨ (o + 1) ≤ x) (hz2 : (y + 7) ≤ o ∨ (o + 1) ≤ y) (h : f_W30 N xs l5 dc pc fr m_s m_thrown m_oftenAll m_often ov = some out) (K : ∀ {hp' : Hp}, hp' y = some (.inr (11, [.ref (y + 1), .ref (y + 2), .ref (y + 3), .ref (y + 4), .ref (y + 5), .int m_undoable, .int m_undoStart, .int out.1, .ref (y + 6), .int out.2.1, .ref (y + 7), .int m_inputLength, .int m_position, .int m_start, .int m_token, .int m_value, .int m_letters, .int m_code, .int m_place, .ref (y + 8), .int m_outputLength])) → hp' (y + 6) = some (.inl (kC E 0, 13, .inl out.2.2.1)) → hp' o = some (.inl (kC E 1, 1, .inr (.inl out.2.2.2))) → (∀ q, q ≠ y → q ≠ (y + 6) → q ≠ o → hp' q = hp q) → AW E p l e room_1 s m #[Value.ref b] below meth c 10 Q hp' none (k0 + 8) (n0 + 48) 3407 [(0, .ref b), (1, .ref x), (2, .ref y), (3, .ref o), (4, .ref od), (5, .int l5)] []) : AW E p l e room_1 s m #[Value.ref b] below meth c 10 Q hp none (k0 + 0) (n0 + 0) 1752 [(0, .ref b), (1, .ref x), (2, .ref y), (3, .ref o), (4, .ref od), (5, .int l5)] [] := by
  unfold f_W30 at h
  refine A_aload_n X dL_law_1752 1 rfl ?_
  refine A_aload_n X dL_law_1753 0 rfl ?_
  refine A_iload X dL_law_1754 5 rfl ?_
  refine A_iconst (v := 1) X dL_law_1756 (by decide) ?_
  refine A_iadd X dL_law_1757 ?_
  refine A_sld X hX hbl hbA hi1 dL_law_1758 ?_
  refine A_aload_n X dL_law_1759 0 rfl ?_
  refine A_iload X dL_law_1760 5 rfl ?_
  refine A_iconst (v := 2) X dL_law_1762 (by decide) ?_
  refine A_iadd X dL_law_1763 ?_
  refine A_sld X hX hbl hbA hi2 dL_law_1764 ?_
  refine A_aload_n X dL_law_1765 3 rfl ?_
  obtain ⟨t1, hct1, h⟩ := bind_o h
  refine A_cX (k' := (k0 + 2)) (n' := (n0 + 12)) rfl rfl (A_runSH (rest := []) X dL_law_1766 (c_L_facesSeen g0 g3 g4 g7 g10 g12 g48 (by omega) hct1) kY_L_facesSeen kw_1170 ⟨(Nat.le_of_ble_eq_true rfl), (Nat.le_of_ble_eq_true rfl), kb rfl hRk, kb rfl hRn⟩ rfl (Nat.le_of_ble_eq_true rfl)) (fun C hp1 hP => hP.elim) (fun v9 hp1 al9 hP => ?_)
  obtain ⟨rfl, k1_0, n1, rfl⟩ := hP
  replace k1_0 : hp1 o = some (.inl (kC E 1, 1, .inr (.inl t1.2))) := k1_0
  refine A_st (st' := [.int t1.1]) rfl ?_
  refine A_istore (L' := [(6, .int t1.1), (0, .ref b), (1, .ref x), (2, .ref y), (3, .ref o), (4, .ref od), (5, .int l5)]) X dL_law_1769 (by decide) rfl ?_
  refine A_aload_n X dL_law_1771 3 rfl ?_
  refine A_aload_n X dL_law_1772 1 rfl ?_
  refine A_iload X dL_law_1773 6 rfl ?_
  refine A_iconst (v := 1) X dL_law_1775 (by decide) ?_
  refine A_iadd X dL_law_1776 ?_
  refine A_sld X hX hbl hbA hi1 dL_law_1777 ?_
  refine A_aload_n X dL_law_1778 1 rfl ?_
  refine A_iload X dL_law_1779 6 rfl ?_
  refine A_iconst (v := 2) X dL_law_1781 (by decide) ?_
  refine A_iadd X dL_law_1782 ?_
  refine A_sld X hX hbl hbA hi2 dL_law_1783 ?_
  obtain ⟨t2, hct2, h⟩ := bind_o h
  refine A_c (k' := (k0 + 2)) (n' := (n0 + 12)) rfl rfl (A_runV (rest := []) X dL_law_1784 (c_X11_facesSeen ((n1 _ (by omega)).trans g39) ((n1 _ (by omega)).trans g40) ((n1 _ (by omega)).trans g45)  hct2) kY_X11_facesSeen kw_1855 ((n1 _ (by omega)).trans g39) rfl rfl ⟨(Nat.le_of_ble_eq_true rfl), (Nat.le_of_ble_eq_true rfl), kb rfl hRk, kb rfl hRn⟩ rfl (Nat.le_of_ble_eq_true rfl)) (fun v9 hp2 al9 hP => ?_)
  obtain ⟨rfl, k2_0, k2_1, n2, rfl⟩ := hP
  replace k2_0 : hp2 y = some (.inr (11, [.ref (y + 1), .ref (y + 2), .ref (y + 3), .ref (y + 4), .ref (y + 5), .int m_undoable, .int m_undoStart, .int t2.2.1, .ref (y + 6), .int t2.2.2.1, .ref (y + 7), .int m_inputLength, .int m_position, .int m_start, .int m_token, .int m_value, .int m_letters, .int m_code, .int m_place, .ref (y + 8), .int m_outputLength])) := k2_0
  replace k2_1 : hp2 (y + 6) = some (.inl (kC E 0, 13, .inl t2.2.2.2)) := k2_1
  refine A_st (st' := [.int t2.1]) rfl ?_
  refine A_istore (L' := [(7, .int t2.1), (6, .int t1.1), (0, .ref b), (1, .ref x), (2, .ref y), (3, .ref o), (4, .ref od), (5, .int l5)]) X dL_law_1787 (by decide) rfl ?_
  refine A_aload_n X dL_law_1789 4 rfl ?_
  obtain ⟨t3, hct3, h⟩ := bind_o h
  refine A_cp (k' := (k0 + 2)) (n' := (n0 + 12)) (A_runV (rest := []) X dL_law_1790 (c_X11_thrown k2_0  hct3) kY_X11_thrown kw_1668 k2_0 rfl rfl ⟨(Nat.le_of_ble_eq_true rfl), (Nat.le_of_ble_eq_true rfl), kb rfl hRk, kb rfl hRn⟩ rfl (Nat.le_of_ble_eq_true rfl)) rfl rfl ?_
  refine A_iload X dL_law_1793 1 rfl ?_
  refine A_icmp_eq (tgt := 1800) X dL_law_1795 h (by decide) (fun hc h => ?_) (fun hc h => ?_)
  · refine A_iload X dL_law_1800 1 rfl ?_
    refine A_if_ne (tgt := 1817) X dL_law_1802 h (by decide) (fun hc h => ?_) (fun hc h => ?_)
    · refine A_goto (tgt := 3407) X dL_law_1817 (by decide) ?_
      cases h
      refine A_sub (L' := [(0, .ref b), (1, .ref x), (2, .ref y), (3, .ref o), (4, .ref od), (5, .int l5)]) [2, 3, 4, 5, 6, 7] rfl ?_
      refine A_widen (k' := (k0 + 8)) (n' := (n0 + 48)) (by omega) (by omega) ?_
      exact K k2_0 k2_1 ((n2 _ (by omega) (by omega)).trans k1_0) (fun q z0 z1 z2 => ((n2 q z0 z1).trans (n1 q z2)))
    · refine A_aload_n X dL_law_1805 5 rfl ?_
      refine A_iconst (v := 0) X dL_law_1806 (by decide) ?_
      refine A_lald X dL_law_1807 ((n2 _ (by omega) (by omega)).trans k1_0) (by decide) ?_
      refine A_iload X dL_law_1808 0 rfl ?_
      refine A_i2l X dL_law_1810 ?_
      refine A_lcmp X dL_law_1811 ?_
      refine A_if_eq (tgt := 1817) X dL_law_1812 h (by decide) (fun hc h => ?_) (fun hc h => ?_)
      · refine A_goto (tgt := 3407) X dL_law_1817 (by decide) ?_
        cases h
        refine A_sub (L' := [(0, .ref b), (1, .ref x), (2, .ref y), (3, .ref o), (4, .ref od), (5, .int l5)]) [2, 3, 4, 5, 6, 7] rfl ?_
        refine A_widen (k' := (k0 + 8)) (n' := (n0 + 48)) (by omega) (by omega) ?_
        exact K k2_0 k2_1 ((n2 _ (by omega) (by omega)).trans k1_0) (fun q z0 z1 z2 => ((n2 q z0 z1).trans (n1 q z2)))
      · refine A_iconst (v := 0) X dL_law_1815 (by decide) ?_
        cases h
  · refine A_iconst (v := 0) X dL_law_1798 (by decide) ?_
    cases h
set_option maxHeartbeats 8000000 in
set_option maxRecDepth 100000 in
theorem c_W31 {E : KE} {p : Program} {l : Launch} {e : Env} {s : State} {m : MethodId} {b L9 : Nat} {xs : Nat → Int32} {below : List Frame} {meth : Method} {c : Code} {hp : Hp} {k0 n0 : Nat} {Q : State → Prop} {N : Nat} {x : Nat} {y : Nat} {o : Nat} {od : Nat} {sd : Int32} {mn : Int32} {th : Int32} {dc : Int32} {pc : Int32} {tc : Int32} {en : Nat → Int32} {m_undoable : Int32} {m_undoStart : Int32} {m_thrown : Int32} {m_oftenAll : Int32} {m_inputLength : Int32} {m_position : Int32} {m_start : Int32} {m_token : Int32} {m_value : Int32} {m_letters : Int32} {m_code : Int32} {m_place : Int32} {m_outputLength : Int32} {m_s : Nat → Int32} {ov : Nat → Int64} {l5 : Int32} {out : Int32 × (Nat → Int64)} (X : CX E p l s m #[Value.ref b] meth c "DiceAuditLaw" cL_law 10) (hX : va_X b L9 xs s s.heap) (hbl : b < s.heap.size) (hbA : ¬ kA E b) (hi1 : vp_in (l5 + 1) L9) (hi2 : vp_in (l5 + 2) L9) (hi3 : vp_in (l5 + 3) L9) (hi4 : vp_in (l5 + 4) L9) (hi5 : vp_in (l5 + 5) L9) (hRk : k0 + 8 ≤ room_1.cells) (hRn : n0 + 48 ≤ room_1.slots) (g0 : hp x = some (.inr (10, [.ref (x + 126), .ref (x + 128), .ref (x + 1), .ref (x + 3), .ref (x + 16), .ref (x + 18), .ref (x + 124), .ref (x + 125)]))) (g3 : hp (x + 3) = some (.inr (2, [.ref (x + 4), .ref (x + 7), .ref (x + 10), .ref (x + 13), .int sd, .int mn, .int th]))) (g4 : hp (x + 4) = some (.inr (0, [.ref (x + 5), .ref (x + 6), .int dc]))) (g7 : hp (x + 7) = some (.inr (7, [.ref (x + 8), .ref (x + 9), .int pc]))) (g10 : hp (x + 10) = some (.inr (4, [.ref (x + 11), .ref (x + 12), .int tc]))) (g11 : hp (x + 11) = some (.inl (kC E 0, 300, .inl en))) (g39 : hp y = some (.inr (11, [.ref (y + 1), .ref (y + 2), .ref (y + 3), .ref (y + 4), .ref (y + 5), .int m_undoable, .int m_undoStart, .int m_thrown, .ref (y + 6), .int m_oftenAll, .ref (y + 7), .int m_inputLength, .int m_position, .int m_start, .int m_token, .int m_value, .int m_letters, .int m_code, .int m_place, .ref (y + 8), .int m_outputLength]))) (g40 : hp (y + 1) = some (.inl (kC E 0, 1399, .inl m_s))) (g48 : hp o = some (.inl (kC E 1, 1, .inr (.inl ov)))) (hz0 : (x + 12) ≤ y ∨ (y + 2) ≤ x) (hz1 : (x + 12) ≤ o ∨ (o + 1) ≤ x) (hz2 : (y + 2) ≤ o ∨ (o + 1) ≤ y) (h : f_W31 N xs l5 dc pc tc en m_s m_thrown ov = some out) (K : ∀ {hp' : Hp}, hp' y = some (.inr (11, [.ref (y + 1), .ref (y + 2), .ref (y + 3), .ref (y + 4), .ref (y + 5), .int m_undoable, .int m_undoStart, .int out.1, .ref (y + 6), .int m_oftenAll, .ref (y + 7), .int m_inputLength, .int m_position, .int m_start, .int m_token, .int m_value, .int m_letters, .int m_code, .int m_place, .ref (y + 8), .int m_outputLength])) → hp' o = some (.inl (kC E 1, 1, .inr (.inl out.2))) → (∀ q, q ≠ y → q ≠ o → hp' q = hp q) → AW E p l e room_1 s m #[Value.ref b] below meth c 10 Q hp' none (k0 + 8) (n0 + 48) 3407 [(0, .ref b), (1, .ref x), (2, .ref y), (3, .ref o), (4, .ref od), (5, .int l5)] []) : AW E p l e room_1 s m #[Value.ref b] below meth c 10 Q hp none (k0 + 0) (n0 + 0) 1820 [(0, .ref b), (1, .ref x), (2, .ref y), (3, .ref o), (4, .ref od), (5, .int l5)] [] := by
  unfold f_W31 at h
  refine A_aload_n X dL_law_1820 1 rfl ?_
  refine A_aload_n X dL_law_1821 0 rfl ?_
  refine A_iload X dL_law_1822 5 rfl ?_
  refine A_iconst (v := 1) X dL_law_1824 (by decide) ?_
  refine A_iadd X dL_law_1825 ?_
  refine A_sld X hX hbl hbA hi1 dL_law_1826 ?_
  refine A_aload_n X dL_law_1827 0 rfl ?_
  refine A_iload X dL_law_1828 5 rfl ?_
  refine A_iconst (v := 2) X dL_law_1830 (by decide) ?_
  refine A_iadd X dL_law_1831 ?_
  refine A_sld X hX hbl hbA hi2 dL_law_1832 ?_
  refine A_aload_n X dL_law_1833 3 rfl ?_
  obtain ⟨t1, hct1, h⟩ := bind_o h
  refine A_cX (k' := (k0 + 2)) (n' := (n0 + 12)) rfl rfl (A_runSH (rest := []) X dL_law_1834 (c_L_latestThrow g0 g3 g4 g7 g10 g11 g48 (by omega) hct1) kY_L_latestThrow kw_1181 ⟨(Nat.le_of_ble_eq_true rfl), (Nat.le_of_ble_eq_true rfl), kb rfl hRk, kb rfl hRn⟩ rfl (Nat.le_of_ble_eq_true rfl)) (fun C hp1 hP => hP.elim) (fun v9 hp1 al9 hP => ?_)
  obtain ⟨rfl, k1_0, n1, rfl⟩ := hP
  replace k1_0 : hp1 o = some (.inl (kC E 1, 1, .inr (.inl t1.2))) := k1_0
  refine A_st (st' := [.int t1.1]) rfl ?_
  refine A_istore (L' := [(6, .int t1.1), (0, .ref b), (1, .ref x), (2, .ref y), (3, .ref o), (4, .ref od), (5, .int l5)]) X dL_law_1837 (by decide) rfl ?_
  refine A_aload_n X dL_law_1839 3 rfl ?_
  refine A_aload_n X dL_law_1840 1 rfl ?_
  refine A_iload X dL_law_1841 6 rfl ?_
  refine A_iconst (v := 1) X dL_law_1843 (by decide) ?_
  refine A_iadd X dL_law_1844 ?_
  refine A_sld X hX hbl hbA hi1 dL_law_1845 ?_
  refine A_aload_n X dL_law_1846 1 rfl ?_
  refine A_iload X dL_law_1847 6 rfl ?_
  refine A_iconst (v := 2) X dL_law_1849 (by decide) ?_
  refine A_iadd X dL_law_1850 ?_
  refine A_sld X hX hbl hbA hi2 dL_law_1851 ?_
  obtain ⟨t2, hct2, h⟩ := bind_o h
  refine A_c (k' := (k0 + 2)) (n' := (n0 + 12)) rfl rfl (A_runV (rest := []) X dL_law_1852 (c_X11_latestThrow ((n1 _ (by omega)).trans g39) ((n1 _ (by omega)).trans g40)  hct2) kY_X11_latestThrow kw_1859 ((n1 _ (by omega)).trans g39) rfl rfl ⟨(Nat.le_of_ble_eq_true rfl), (Nat.le_of_ble_eq_true rfl), kb rfl hRk, kb rfl hRn⟩ rfl (Nat.le_of_ble_eq_true rfl)) (fun v9 hp2 al9 hP => ?_)
  obtain ⟨rfl, k2_0, n2, rfl⟩ := hP
  replace k2_0 : hp2 y = some (.inr (11, [.ref (y + 1), .ref (y + 2), .ref (y + 3), .ref (y + 4), .ref (y + 5), .int m_undoable, .int m_undoStart, .int t2.2, .ref (y + 6), .int m_oftenAll, .ref (y + 7), .int m_inputLength, .int m_position, .int m_start, .int m_token, .int m_value, .int m_letters, .int m_code, .int m_place, .ref (y + 8), .int m_outputLength])) := k2_0
  refine A_st (st' := [.int t2.1]) rfl ?_
  refine A_istore (L' := [(7, .int t2.1), (6, .int t1.1), (0, .ref b), (1, .ref x), (2, .ref y), (3, .ref o), (4, .ref od), (5, .int l5)]) X dL_law_1855 (by decide) rfl ?_
  refine A_aload_n X dL_law_1857 4 rfl ?_
  obtain ⟨t3, hct3, h⟩ := bind_o h
  refine A_cp (k' := (k0 + 2)) (n' := (n0 + 12)) (A_runV (rest := []) X dL_law_1858 (c_X11_thrown k2_0  hct3) kY_X11_thrown kw_1668 k2_0 rfl rfl ⟨(Nat.le_of_ble_eq_true rfl), (Nat.le_of_ble_eq_true rfl), kb rfl hRk, kb rfl hRn⟩ rfl (Nat.le_of_ble_eq_true rfl)) rfl rfl ?_
  refine A_iload X dL_law_1861 1 rfl ?_
  refine A_icmp_eq (tgt := 1868) X dL_law_1863 h (by decide) (fun hc h => ?_) (fun hc h => ?_)
  · refine A_iload X dL_law_1868 1 rfl ?_
    refine A_if_ne (tgt := 1885) X dL_law_1870 h (by decide) (fun hc h => ?_) (fun hc h => ?_)
    · refine A_goto (tgt := 3407) X dL_law_1885 (by decide) ?_
      cases h
      refine A_sub (L' := [(0, .ref b), (1, .ref x), (2, .ref y), (3, .ref o), (4, .ref od), (5, .int l5)]) [2, 3, 4, 5, 6, 7] rfl ?_
      refine A_widen (k' := (k0 + 8)) (n' := (n0 + 48)) (by omega) (by omega) ?_
      exact K k2_0 ((n2 _ (by omega)).trans k1_0) (fun q z0 z1 => ((n2 q z0).trans (n1 q z1)))
    · refine A_aload_n X dL_law_1873 5 rfl ?_
      refine A_iconst (v := 0) X dL_law_1874 (by decide) ?_
      refine A_lald X dL_law_1875 ((n2 _ (by omega)).trans k1_0) (by decide) ?_
      refine A_iload X dL_law_1876 0 rfl ?_
      refine A_i2l X dL_law_1878 ?_
      refine A_lcmp X dL_law_1879 ?_
      refine A_if_eq (tgt := 1885) X dL_law_1880 h (by decide) (fun hc h => ?_) (fun hc h => ?_)
      · refine A_goto (tgt := 3407) X dL_law_1885 (by decide) ?_
        cases h
        refine A_sub (L' := [(0, .ref b), (1, .ref x), (2, .ref y), (3, .ref o), (4, .ref od), (5, .int l5)]) [2, 3, 4, 5, 6, 7] rfl ?_
        refine A_widen (k' := (k0 + 8)) (n' := (n0 + 48)) (by omega) (by omega) ?_
        exact K k2_0 ((n2 _ (by omega)).trans k1_0) (fun q z0 z1 => ((n2 q z0).trans (n1 q z1)))
      · refine A_iconst (v := 0) X dL_law_1883 (by decide) ?_
        cases h
  · refine A_iconst (v := 0) X dL_law_1866 (by decide) ?_
    cases h
set_option maxHeartbeats 8000000 in
set_option maxRecDepth 100000 in
theorem c_W32 {E : KE} {p : Program} {l : Launch} {e : Env} {s : State} {m : MethodId} {b L9 : Nat} {xs : Nat → Int32} {below : List Frame} {meth : Method} {c : Code} {hp : Hp} {k0 n0 : Nat} {Q : State → Prop} {N : Nat} {x : Nat} {y : Nat} {o : Nat} {od : Nat} {sd : Int32} {mn : Int32} {th : Int32} {dc : Int32} {fc : Nat → Int32} {pc : Int32} {tc : Int32} {fr : Nat → Int32} {m_undoable : Int32} {m_undoStart : Int32} {m_thrown : Int32} {m_oftenAll : Int32} {m_inputLength : Int32} {m_position : Int32} {m_start : Int32} {m_token : Int32} {m_value : Int32} {m_letters : Int32} {m_code : Int32} {m_place : Int32} {m_outputLength : Int32} {m_s : Nat → Int32} {m_often : Nat → Int32} {ov : Nat → Int64} {l5 : Int32} {out : Int32 × Int32 × (Nat → Int32) × (Nat → Int64)} (X : CX E p l s m #[Value.ref b] meth c "DiceAuditLaw" cL_law 10) (hX : va_X b L9 xs s s.heap) (hbl : b < s.heap.size) (hbA : ¬ kA E b) (hi1 : vp_in (l5 + 1) L9) (hi2 : vp_in (l5 + 2) L9) (hi3 : vp_in (l5 + 3) L9) (hi4 : vp_in (l5 + 4) L9) (hi5 : vp_in (l5 + 5) L9) (hRk : k0 + 8 ≤ room_1.cells) (hRn : n0 + 48 ≤ room_1.slots) (g0 : hp x = some (.inr (10, [.ref (x + 126), .ref (x + 128), .ref (x + 1), .ref (x + 3), .ref (x + 16), .ref (x + 18), .ref (x + 124), .ref (x + 125)]))) (g3 : hp (x + 3) = some (.inr (2, [.ref (x + 4), .ref (x + 7), .ref (x + 10), .ref (x + 13), .int sd, .int mn, .int th]))) (g4 : hp (x + 4) = some (.inr (0, [.ref (x + 5), .ref (x + 6), .int dc]))) (g5 : hp (x + 5) = some (.inl (kC E 0, 6, .inl fc))) (g7 : hp (x + 7) = some (.inr (7, [.ref (x + 8), .ref (x + 9), .int pc]))) (g10 : hp (x + 10) = some (.inr (4, [.ref (x + 11), .ref (x + 12), .int tc]))) (g12 : hp (x + 12) = some (.inl (kC E 0, 432, .inl fr))) (g39 : hp y = some (.inr (11, [.ref (y + 1), .ref (y + 2), .ref (y + 3), .ref (y + 4), .ref (y + 5), .int m_undoable, .int m_undoStart, .int m_thrown, .ref (y + 6), .int m_oftenAll, .ref (y + 7), .int m_inputLength, .int m_position, .int m_start, .int m_token, .int m_value, .int m_letters, .int m_code, .int m_place, .ref (y + 8), .int m_outputLength]))) (g40 : hp (y + 1) = some (.inl (kC E 0, 1399, .inl m_s))) (g45 : hp (y + 6) = some (.inl (kC E 0, 13, .inl m_often))) (g48 : hp o = some (.inl (kC E 1, 1, .inr (.inl ov)))) (hz0 : (x + 13) ≤ y ∨ (y + 7) ≤ x) (hz1 : (x + 13) ≤ o ∨ (o + 1) ≤ x) (hz2 : (y + 7) ≤ o ∨ (o + 1) ≤ y) (h : f_W32 N xs l5 dc fc pc fr m_s m_thrown m_oftenAll m_often ov = some out) (K : ∀ {hp' : Hp}, hp' y = some (.inr (11, [.ref (y + 1), .ref (y + 2), .ref (y + 3), .ref (y + 4), .ref (y + 5), .int m_undoable, .int m_undoStart, .int out.1, .ref (y + 6), .int out.2.1, .ref (y + 7), .int m_inputLength, .int m_position, .int m_start, .int m_token, .int m_value, .int m_letters, .int m_code, .int m_place, .ref (y + 8), .int m_outputLength])) → hp' (y + 6) = some (.inl (kC E 0, 13, .inl out.2.2.1)) → hp' o = some (.inl (kC E 1, 1, .inr (.inl out.2.2.2))) → (∀ q, q ≠ y → q ≠ (y + 6) → q ≠ o → hp' q = hp q) → AW E p l e room_1 s m #[Value.ref b] below meth c 10 Q hp' none (k0 + 8) (n0 + 48) 3407 [(0, .ref b), (1, .ref x), (2, .ref y), (3, .ref o), (4, .ref od), (5, .int l5)] []) : AW E p l e room_1 s m #[Value.ref b] below meth c 10 Q hp none (k0 + 0) (n0 + 0) 1888 [(0, .ref b), (1, .ref x), (2, .ref y), (3, .ref o), (4, .ref od), (5, .int l5)] [] := by
  unfold f_W32 at h
  refine A_aload_n X dL_law_1888 1 rfl ?_
  refine A_aload_n X dL_law_1889 0 rfl ?_
  refine A_iload X dL_law_1890 5 rfl ?_
  refine A_iconst (v := 1) X dL_law_1892 (by decide) ?_
  refine A_iadd X dL_law_1893 ?_
  refine A_sld X hX hbl hbA hi1 dL_law_1894 ?_
  refine A_aload_n X dL_law_1895 0 rfl ?_
  refine A_iload X dL_law_1896 5 rfl ?_
  refine A_iconst (v := 2) X dL_law_1898 (by decide) ?_
  refine A_iadd X dL_law_1899 ?_
  refine A_sld X hX hbl hbA hi2 dL_law_1900 ?_
  refine A_aload_n X dL_law_1901 3 rfl ?_
  obtain ⟨t1, hct1, h⟩ := bind_o h
  refine A_cX (k' := (k0 + 2)) (n' := (n0 + 12)) rfl rfl (A_runSH (rest := []) X dL_law_1902 (c_L_score g0 g3 g4 g5 g7 g10 g12 g48 (by omega) hct1) kY_L_score kw_1192 ⟨(Nat.le_of_ble_eq_true rfl), (Nat.le_of_ble_eq_true rfl), kb rfl hRk, kb rfl hRn⟩ rfl (Nat.le_of_ble_eq_true rfl)) (fun C hp1 hP => hP.elim) (fun v9 hp1 al9 hP => ?_)
  obtain ⟨rfl, k1_0, n1, rfl⟩ := hP
  replace k1_0 : hp1 o = some (.inl (kC E 1, 1, .inr (.inl t1.2))) := k1_0
  refine A_st (st' := [.int t1.1]) rfl ?_
  refine A_istore (L' := [(6, .int t1.1), (0, .ref b), (1, .ref x), (2, .ref y), (3, .ref o), (4, .ref od), (5, .int l5)]) X dL_law_1905 (by decide) rfl ?_
  refine A_aload_n X dL_law_1907 3 rfl ?_
  refine A_aload_n X dL_law_1908 1 rfl ?_
  refine A_iload X dL_law_1909 6 rfl ?_
  refine A_iconst (v := 1) X dL_law_1911 (by decide) ?_
  refine A_iadd X dL_law_1912 ?_
  refine A_sld X hX hbl hbA hi1 dL_law_1913 ?_
  refine A_aload_n X dL_law_1914 1 rfl ?_
  refine A_iload X dL_law_1915 6 rfl ?_
  refine A_iconst (v := 2) X dL_law_1917 (by decide) ?_
  refine A_iadd X dL_law_1918 ?_
  refine A_sld X hX hbl hbA hi2 dL_law_1919 ?_
  obtain ⟨t2, hct2, h⟩ := bind_o h
  refine A_c (k' := (k0 + 2)) (n' := (n0 + 12)) rfl rfl (A_runV (rest := []) X dL_law_1920 (c_X11_score ((n1 _ (by omega)).trans g39) ((n1 _ (by omega)).trans g40) ((n1 _ (by omega)).trans g45)  hct2) kY_X11_score kw_1863 ((n1 _ (by omega)).trans g39) rfl rfl ⟨(Nat.le_of_ble_eq_true rfl), (Nat.le_of_ble_eq_true rfl), kb rfl hRk, kb rfl hRn⟩ rfl (Nat.le_of_ble_eq_true rfl)) (fun v9 hp2 al9 hP => ?_)
  obtain ⟨rfl, k2_0, k2_1, n2, rfl⟩ := hP
  replace k2_0 : hp2 y = some (.inr (11, [.ref (y + 1), .ref (y + 2), .ref (y + 3), .ref (y + 4), .ref (y + 5), .int m_undoable, .int m_undoStart, .int t2.2.1, .ref (y + 6), .int t2.2.2.1, .ref (y + 7), .int m_inputLength, .int m_position, .int m_start, .int m_token, .int m_value, .int m_letters, .int m_code, .int m_place, .ref (y + 8), .int m_outputLength])) := k2_0
  replace k2_1 : hp2 (y + 6) = some (.inl (kC E 0, 13, .inl t2.2.2.2)) := k2_1
  refine A_st (st' := [.int t2.1]) rfl ?_
  refine A_istore (L' := [(7, .int t2.1), (6, .int t1.1), (0, .ref b), (1, .ref x), (2, .ref y), (3, .ref o), (4, .ref od), (5, .int l5)]) X dL_law_1923 (by decide) rfl ?_
  refine A_aload_n X dL_law_1925 4 rfl ?_
  obtain ⟨t3, hct3, h⟩ := bind_o h
  refine A_cp (k' := (k0 + 2)) (n' := (n0 + 12)) (A_runV (rest := []) X dL_law_1926 (c_X11_thrown k2_0  hct3) kY_X11_thrown kw_1668 k2_0 rfl rfl ⟨(Nat.le_of_ble_eq_true rfl), (Nat.le_of_ble_eq_true rfl), kb rfl hRk, kb rfl hRn⟩ rfl (Nat.le_of_ble_eq_true rfl)) rfl rfl ?_
  refine A_iload X dL_law_1929 1 rfl ?_
  refine A_icmp_eq (tgt := 1936) X dL_law_1931 h (by decide) (fun hc h => ?_) (fun hc h => ?_)
  · refine A_iload X dL_law_1936 1 rfl ?_
    refine A_if_ne (tgt := 1953) X dL_law_1938 h (by decide) (fun hc h => ?_) (fun hc h => ?_)
    · refine A_goto (tgt := 3407) X dL_law_1953 (by decide) ?_
      cases h
      refine A_sub (L' := [(0, .ref b), (1, .ref x), (2, .ref y), (3, .ref o), (4, .ref od), (5, .int l5)]) [2, 3, 4, 5, 6, 7] rfl ?_
      refine A_widen (k' := (k0 + 8)) (n' := (n0 + 48)) (by omega) (by omega) ?_
      exact K k2_0 k2_1 ((n2 _ (by omega) (by omega)).trans k1_0) (fun q z0 z1 z2 => ((n2 q z0 z1).trans (n1 q z2)))
    · refine A_aload_n X dL_law_1941 5 rfl ?_
      refine A_iconst (v := 0) X dL_law_1942 (by decide) ?_
      refine A_lald X dL_law_1943 ((n2 _ (by omega) (by omega)).trans k1_0) (by decide) ?_
      refine A_iload X dL_law_1944 0 rfl ?_
      refine A_i2l X dL_law_1946 ?_
      refine A_lcmp X dL_law_1947 ?_
      refine A_if_eq (tgt := 1953) X dL_law_1948 h (by decide) (fun hc h => ?_) (fun hc h => ?_)
      · refine A_goto (tgt := 3407) X dL_law_1953 (by decide) ?_
        cases h
        refine A_sub (L' := [(0, .ref b), (1, .ref x), (2, .ref y), (3, .ref o), (4, .ref od), (5, .int l5)]) [2, 3, 4, 5, 6, 7] rfl ?_
        refine A_widen (k' := (k0 + 8)) (n' := (n0 + 48)) (by omega) (by omega) ?_
        exact K k2_0 k2_1 ((n2 _ (by omega) (by omega)).trans k1_0) (fun q z0 z1 z2 => ((n2 q z0 z1).trans (n1 q z2)))
      · refine A_iconst (v := 0) X dL_law_1951 (by decide) ?_
        cases h
  · refine A_iconst (v := 0) X dL_law_1934 (by decide) ?_
    cases h
set_option maxHeartbeats 8000000 in
set_option maxRecDepth 100000 in
theorem c_W33 {E : KE} {p : Program} {l : Launch} {e : Env} {s : State} {m : MethodId} {b L9 : Nat} {xs : Nat → Int32} {below : List Frame} {meth : Method} {c : Code} {hp : Hp} {k0 n0 : Nat} {Q : State → Prop} {N : Nat} {x : Nat} {y : Nat} {o : Nat} {od : Nat} {sd : Int32} {mn : Int32} {th : Int32} {dc : Int32} {fc : Nat → Int32} {pc : Int32} {tc : Int32} {fr : Nat → Int32} {m_undoable : Int32} {m_undoStart : Int32} {m_thrown : Int32} {m_oftenAll : Int32} {m_inputLength : Int32} {m_position : Int32} {m_start : Int32} {m_token : Int32} {m_value : Int32} {m_letters : Int32} {m_code : Int32} {m_place : Int32} {m_outputLength : Int32} {m_s : Nat → Int32} {m_often : Nat → Int32} {ov : Nat → Int64} {l5 : Int32} {out : Int32 × Int32 × (Nat → Int32) × (Nat → Int64)} (X : CX E p l s m #[Value.ref b] meth c "DiceAuditLaw" cL_law 10) (hX : va_X b L9 xs s s.heap) (hbl : b < s.heap.size) (hbA : ¬ kA E b) (hi1 : vp_in (l5 + 1) L9) (hi2 : vp_in (l5 + 2) L9) (hi3 : vp_in (l5 + 3) L9) (hi4 : vp_in (l5 + 4) L9) (hi5 : vp_in (l5 + 5) L9) (hRk : k0 + 8 ≤ room_1.cells) (hRn : n0 + 48 ≤ room_1.slots) (g0 : hp x = some (.inr (10, [.ref (x + 126), .ref (x + 128), .ref (x + 1), .ref (x + 3), .ref (x + 16), .ref (x + 18), .ref (x + 124), .ref (x + 125)]))) (g3 : hp (x + 3) = some (.inr (2, [.ref (x + 4), .ref (x + 7), .ref (x + 10), .ref (x + 13), .int sd, .int mn, .int th]))) (g4 : hp (x + 4) = some (.inr (0, [.ref (x + 5), .ref (x + 6), .int dc]))) (g5 : hp (x + 5) = some (.inl (kC E 0, 6, .inl fc))) (g7 : hp (x + 7) = some (.inr (7, [.ref (x + 8), .ref (x + 9), .int pc]))) (g10 : hp (x + 10) = some (.inr (4, [.ref (x + 11), .ref (x + 12), .int tc]))) (g12 : hp (x + 12) = some (.inl (kC E 0, 432, .inl fr))) (g39 : hp y = some (.inr (11, [.ref (y + 1), .ref (y + 2), .ref (y + 3), .ref (y + 4), .ref (y + 5), .int m_undoable, .int m_undoStart, .int m_thrown, .ref (y + 6), .int m_oftenAll, .ref (y + 7), .int m_inputLength, .int m_position, .int m_start, .int m_token, .int m_value, .int m_letters, .int m_code, .int m_place, .ref (y + 8), .int m_outputLength]))) (g40 : hp (y + 1) = some (.inl (kC E 0, 1399, .inl m_s))) (g45 : hp (y + 6) = some (.inl (kC E 0, 13, .inl m_often))) (g48 : hp o = some (.inl (kC E 1, 1, .inr (.inl ov)))) (hz0 : (x + 13) ≤ y ∨ (y + 7) ≤ x) (hz1 : (x + 13) ≤ o ∨ (o + 1) ≤ x) (hz2 : (y + 7) ≤ o ∨ (o + 1) ≤ y) (h : f_W33 N xs l5 mn th dc fc pc fr m_s m_thrown m_oftenAll m_often ov = some out) (K : ∀ {hp' : Hp}, hp' y = some (.inr (11, [.ref (y + 1), .ref (y + 2), .ref (y + 3), .ref (y + 4), .ref (y + 5), .int m_undoable, .int m_undoStart, .int out.1, .ref (y + 6), .int out.2.1, .ref (y + 7), .int m_inputLength, .int m_position, .int m_start, .int m_token, .int m_value, .int m_letters, .int m_code, .int m_place, .ref (y + 8), .int m_outputLength])) → hp' (y + 6) = some (.inl (kC E 0, 13, .inl out.2.2.1)) → hp' o = some (.inl (kC E 1, 1, .inr (.inl out.2.2.2))) → (∀ q, q ≠ y → q ≠ (y + 6) → q ≠ o → hp' q = hp q) → AW E p l e room_1 s m #[Value.ref b] below meth c 10 Q hp' none (k0 + 8) (n0 + 48) 3407 [(0, .ref b), (1, .ref x), (2, .ref y), (3, .ref o), (4, .ref od), (5, .int l5)] []) : AW E p l e room_1 s m #[Value.ref b] below meth c 10 Q hp none (k0 + 0) (n0 + 0) 1956 [(0, .ref b), (1, .ref x), (2, .ref y), (3, .ref o), (4, .ref od), (5, .int l5)] [] := by
  unfold f_W33 at h
  refine A_aload_n X dL_law_1956 1 rfl ?_
  refine A_aload_n X dL_law_1957 0 rfl ?_
  refine A_iload X dL_law_1958 5 rfl ?_
  refine A_iconst (v := 1) X dL_law_1960 (by decide) ?_
  refine A_iadd X dL_law_1961 ?_
  refine A_sld X hX hbl hbA hi1 dL_law_1962 ?_
  refine A_aload_n X dL_law_1963 0 rfl ?_
  refine A_iload X dL_law_1964 5 rfl ?_
  refine A_iconst (v := 2) X dL_law_1966 (by decide) ?_
  refine A_iadd X dL_law_1967 ?_
  refine A_sld X hX hbl hbA hi2 dL_law_1968 ?_
  refine A_aload_n X dL_law_1969 3 rfl ?_
  obtain ⟨t1, hct1, h⟩ := bind_o h
  refine A_cX (k' := (k0 + 2)) (n' := (n0 + 12)) rfl rfl (A_runSH (rest := []) X dL_law_1970 (c_L_isSuspicious g0 g3 g4 g5 g7 g10 g12 g48 (by omega) hct1) kY_L_isSuspicious kw_1200 ⟨(Nat.le_of_ble_eq_true rfl), (Nat.le_of_ble_eq_true rfl), kb rfl hRk, kb rfl hRn⟩ rfl (Nat.le_of_ble_eq_true rfl)) (fun C hp1 hP => hP.elim) (fun v9 hp1 al9 hP => ?_)
  obtain ⟨rfl, k1_0, n1, rfl⟩ := hP
  replace k1_0 : hp1 o = some (.inl (kC E 1, 1, .inr (.inl t1.2))) := k1_0
  refine A_st (st' := [.int t1.1]) rfl ?_
  refine A_istore (L' := [(6, .int t1.1), (0, .ref b), (1, .ref x), (2, .ref y), (3, .ref o), (4, .ref od), (5, .int l5)]) X dL_law_1973 (by decide) rfl ?_
  refine A_aload_n X dL_law_1975 3 rfl ?_
  refine A_aload_n X dL_law_1976 1 rfl ?_
  refine A_iload X dL_law_1977 6 rfl ?_
  refine A_iconst (v := 1) X dL_law_1979 (by decide) ?_
  refine A_iadd X dL_law_1980 ?_
  refine A_sld X hX hbl hbA hi1 dL_law_1981 ?_
  refine A_aload_n X dL_law_1982 1 rfl ?_
  refine A_iload X dL_law_1983 6 rfl ?_
  refine A_iconst (v := 2) X dL_law_1985 (by decide) ?_
  refine A_iadd X dL_law_1986 ?_
  refine A_sld X hX hbl hbA hi2 dL_law_1987 ?_
  obtain ⟨t2, hct2, h⟩ := bind_o h
  refine A_c (k' := (k0 + 2)) (n' := (n0 + 12)) rfl rfl (A_runV (rest := []) X dL_law_1988 (c_X11_isSuspicious ((n1 _ (by omega)).trans g39) ((n1 _ (by omega)).trans g40) ((n1 _ (by omega)).trans g45)  hct2) kY_X11_isSuspicious kw_1867 ((n1 _ (by omega)).trans g39) rfl rfl ⟨(Nat.le_of_ble_eq_true rfl), (Nat.le_of_ble_eq_true rfl), kb rfl hRk, kb rfl hRn⟩ rfl (Nat.le_of_ble_eq_true rfl)) (fun v9 hp2 al9 hP => ?_)
  obtain ⟨rfl, zt2, k2_0, k2_1, n2, rfl⟩ := hP
  replace k2_0 : hp2 y = some (.inr (11, [.ref (y + 1), .ref (y + 2), .ref (y + 3), .ref (y + 4), .ref (y + 5), .int m_undoable, .int m_undoStart, .int t2.2.1, .ref (y + 6), .int t2.2.2.1, .ref (y + 7), .int m_inputLength, .int m_position, .int m_start, .int m_token, .int m_value, .int m_letters, .int m_code, .int m_place, .ref (y + 8), .int m_outputLength])) := k2_0
  replace k2_1 : hp2 (y + 6) = some (.inl (kC E 0, 13, .inl t2.2.2.2)) := k2_1
  refine A_st (st' := [.int t2.1]) rfl ?_
  refine A_istore (L' := [(7, .int t2.1), (6, .int t1.1), (0, .ref b), (1, .ref x), (2, .ref y), (3, .ref o), (4, .ref od), (5, .int l5)]) X dL_law_1991 (by decide) rfl ?_
  refine A_aload_n X dL_law_1993 4 rfl ?_
  obtain ⟨t3, hct3, h⟩ := bind_o h
  refine A_cp (k' := (k0 + 2)) (n' := (n0 + 12)) (A_runV (rest := []) X dL_law_1994 (c_X11_thrown k2_0  hct3) kY_X11_thrown kw_1668 k2_0 rfl rfl ⟨(Nat.le_of_ble_eq_true rfl), (Nat.le_of_ble_eq_true rfl), kb rfl hRk, kb rfl hRn⟩ rfl (Nat.le_of_ble_eq_true rfl)) rfl rfl ?_
  refine A_iload X dL_law_1997 1 rfl ?_
  refine A_icmp_eq (tgt := 2004) X dL_law_1999 h (by decide) (fun hc h => ?_) (fun hc h => ?_)
  · refine A_iload X dL_law_2004 1 rfl ?_
    refine A_if_ne (tgt := 2028) X dL_law_2006 h (by decide) (fun hc h => ?_) (fun hc h => ?_)
    · refine A_goto (tgt := 3407) X dL_law_2028 (by decide) ?_
      cases h
      refine A_sub (L' := [(0, .ref b), (1, .ref x), (2, .ref y), (3, .ref o), (4, .ref od), (5, .int l5)]) [2, 3, 4, 5, 6, 7] rfl ?_
      refine A_widen (k' := (k0 + 8)) (n' := (n0 + 48)) (by omega) (by omega) ?_
      exact K k2_0 k2_1 ((n2 _ (by omega) (by omega)).trans k1_0) (fun q z0 z1 z2 => ((n2 q z0 z1).trans (n1 q z2)))
    · refine A_aload_n X dL_law_2009 5 rfl ?_
      refine A_iconst (v := 0) X dL_law_2010 (by decide) ?_
      refine A_lald X dL_law_2011 ((n2 _ (by omega) (by omega)).trans k1_0) (by decide) ?_
      refine A_iload X dL_law_2012 0 rfl ?_
      refine A_if_eq (tgt := 2021) X dL_law_2014 h (by decide) (fun hc h => ?_) (fun hc h => ?_)
      · refine A_lconst (v := 0) X dL_law_2021 (by decide) ?_
        refine A_lcmp X dL_law_2022 ?_
        refine A_if_eq (tgt := 2028) X dL_law_2023 h (by decide) (fun hc h => ?_) (fun hc h => ?_)
        · refine A_goto (tgt := 3407) X dL_law_2028 (by decide) ?_
          cases h
          refine A_sub (L' := [(0, .ref b), (1, .ref x), (2, .ref y), (3, .ref o), (4, .ref od), (5, .int l5)]) [2, 3, 4, 5, 6, 7] rfl ?_
          refine A_widen (k' := (k0 + 8)) (n' := (n0 + 48)) (by omega) (by omega) ?_
          exact K k2_0 k2_1 ((n2 _ (by omega) (by omega)).trans k1_0) (fun q z0 z1 z2 => ((n2 q z0 z1).trans (n1 q z2)))
        · refine A_iconst (v := 0) X dL_law_2026 (by decide) ?_
          cases h
      · refine A_lconst (v := 1) X dL_law_2017 (by decide) ?_
        refine A_goto (tgt := 2022) X dL_law_2018 (by decide) ?_
        refine A_lcmp X dL_law_2022 ?_
        refine A_if_eq (tgt := 2028) X dL_law_2023 h (by decide) (fun hc h => ?_) (fun hc h => ?_)
        · refine A_goto (tgt := 3407) X dL_law_2028 (by decide) ?_
          cases h
          refine A_sub (L' := [(0, .ref b), (1, .ref x), (2, .ref y), (3, .ref o), (4, .ref od), (5, .int l5)]) [2, 3, 4, 5, 6, 7] rfl ?_
          refine A_widen (k' := (k0 + 8)) (n' := (n0 + 48)) (by omega) (by omega) ?_
          exact K k2_0 k2_1 ((n2 _ (by omega) (by omega)).trans k1_0) (fun q z0 z1 z2 => ((n2 q z0 z1).trans (n1 q z2)))
        · refine A_iconst (v := 0) X dL_law_2026 (by decide) ?_
          cases h
  · refine A_iconst (v := 0) X dL_law_2002 (by decide) ?_
    cases h
set_option maxHeartbeats 8000000 in
set_option maxRecDepth 100000 in
theorem c_W34 {E : KE} {p : Program} {l : Launch} {e : Env} {s : State} {m : MethodId} {b L9 : Nat} {xs : Nat → Int32} {below : List Frame} {meth : Method} {c : Code} {hp : Hp} {k0 n0 : Nat} {Q : State → Prop} {N : Nat} {x : Nat} {y : Nat} {o : Nat} {od : Nat} {sd : Int32} {mn : Int32} {th : Int32} {dc : Int32} {fc : Nat → Int32} {tc : Int32} {fr : Nat → Int32} {m_undoable : Int32} {m_undoStart : Int32} {m_thrown : Int32} {m_oftenAll : Int32} {m_inputLength : Int32} {m_position : Int32} {m_start : Int32} {m_token : Int32} {m_value : Int32} {m_letters : Int32} {m_code : Int32} {m_place : Int32} {m_outputLength : Int32} {m_s : Nat → Int32} {m_often : Nat → Int32} {l5 : Int32} {out : Int32 × Int32 × (Nat → Int32)} (X : CX E p l s m #[Value.ref b] meth c "DiceAuditLaw" cL_law 10) (hX : va_X b L9 xs s s.heap) (hbl : b < s.heap.size) (hbA : ¬ kA E b) (hi1 : vp_in (l5 + 1) L9) (hi2 : vp_in (l5 + 2) L9) (hi3 : vp_in (l5 + 3) L9) (hi4 : vp_in (l5 + 4) L9) (hi5 : vp_in (l5 + 5) L9) (hRk : k0 + 8 ≤ room_1.cells) (hRn : n0 + 48 ≤ room_1.slots) (g0 : hp x = some (.inr (10, [.ref (x + 126), .ref (x + 128), .ref (x + 1), .ref (x + 3), .ref (x + 16), .ref (x + 18), .ref (x + 124), .ref (x + 125)]))) (g3 : hp (x + 3) = some (.inr (2, [.ref (x + 4), .ref (x + 7), .ref (x + 10), .ref (x + 13), .int sd, .int mn, .int th]))) (g4 : hp (x + 4) = some (.inr (0, [.ref (x + 5), .ref (x + 6), .int dc]))) (g5 : hp (x + 5) = some (.inl (kC E 0, 6, .inl fc))) (g10 : hp (x + 10) = some (.inr (4, [.ref (x + 11), .ref (x + 12), .int tc]))) (g12 : hp (x + 12) = some (.inl (kC E 0, 432, .inl fr))) (g39 : hp y = some (.inr (11, [.ref (y + 1), .ref (y + 2), .ref (y + 3), .ref (y + 4), .ref (y + 5), .int m_undoable, .int m_undoStart, .int m_thrown, .ref (y + 6), .int m_oftenAll, .ref (y + 7), .int m_inputLength, .int m_position, .int m_start, .int m_token, .int m_value, .int m_letters, .int m_code, .int m_place, .ref (y + 8), .int m_outputLength]))) (g40 : hp (y + 1) = some (.inl (kC E 0, 1399, .inl m_s))) (g45 : hp (y + 6) = some (.inl (kC E 0, 13, .inl m_often))) (hz0 : (x + 13) ≤ y ∨ (y + 7) ≤ x) (h : f_W34 N xs l5 mn th fc fr m_s m_thrown m_oftenAll m_often = some out) (K : ∀ {hp' : Hp}, hp' y = some (.inr (11, [.ref (y + 1), .ref (y + 2), .ref (y + 3), .ref (y + 4), .ref (y + 5), .int m_undoable, .int m_undoStart, .int out.1, .ref (y + 6), .int out.2.1, .ref (y + 7), .int m_inputLength, .int m_position, .int m_start, .int m_token, .int m_value, .int m_letters, .int m_code, .int m_place, .ref (y + 8), .int m_outputLength])) → hp' (y + 6) = some (.inl (kC E 0, 13, .inl out.2.2)) → (∀ q, q ≠ y → q ≠ (y + 6) → hp' q = hp q) → AW E p l e room_1 s m #[Value.ref b] below meth c 10 Q hp' none (k0 + 8) (n0 + 48) 3407 [(0, .ref b), (1, .ref x), (2, .ref y), (3, .ref o), (4, .ref od), (5, .int l5)] []) : AW E p l e room_1 s m #[Value.ref b] below meth c 10 Q hp none (k0 + 0) (n0 + 0) 2031 [(0, .ref b), (1, .ref x), (2, .ref y), (3, .ref o), (4, .ref od), (5, .int l5)] [] := by
  unfold f_W34 at h
  refine A_aload_n X dL_law_2031 1 rfl ?_
  obtain ⟨t1, hct1, h⟩ := bind_o h
  refine A_cp (k' := (k0 + 0)) (n' := (n0 + 0)) (A_runV (rest := []) X dL_law_2032 (c_X10_suspiciousPairs g0 g3 g4 g5 g10 g12  hct1) kY_X10_suspiciousPairs kw_714 g0 rfl rfl ⟨(Nat.le_of_ble_eq_true rfl), (Nat.le_of_ble_eq_true rfl), kb rfl hRk, kb rfl hRn⟩ rfl (Nat.le_of_ble_eq_true rfl)) rfl rfl ?_
  refine A_aload_n X dL_law_2035 2 rfl ?_
  obtain ⟨t2, hct2, h⟩ := bind_o h
  refine A_c (k' := (k0 + 0)) (n' := (n0 + 0)) rfl rfl (A_runV (rest := [.int t1]) X dL_law_2036 (c_X11_suspiciousPairs g39 g40 g45  hct2) kY_X11_suspiciousPairs kw_1871 g39 rfl rfl ⟨(Nat.le_of_ble_eq_true rfl), (Nat.le_of_ble_eq_true rfl), kb rfl hRk, kb rfl hRn⟩ rfl (Nat.le_of_ble_eq_true rfl)) (fun v9 hp1 al9 hP => ?_)
  obtain ⟨rfl, k1_0, k1_1, n1, rfl⟩ := hP
  replace k1_0 : hp1 y = some (.inr (11, [.ref (y + 1), .ref (y + 2), .ref (y + 3), .ref (y + 4), .ref (y + 5), .int m_undoable, .int m_undoStart, .int t2.2.1, .ref (y + 6), .int t2.2.2.1, .ref (y + 7), .int m_inputLength, .int m_position, .int m_start, .int m_token, .int m_value, .int m_letters, .int m_code, .int m_place, .ref (y + 8), .int m_outputLength])) := k1_0
  replace k1_1 : hp1 (y + 6) = some (.inl (kC E 0, 13, .inl t2.2.2.2)) := k1_1
  refine A_st (st' := [.int t2.1, .int t1]) rfl ?_
  refine A_icmp_eq (tgt := 3407) X dL_law_2039 h (by decide) (fun hc h => ?_) (fun hc h => ?_)
  · cases h
    refine A_sub (L' := [(0, .ref b), (1, .ref x), (2, .ref y), (3, .ref o), (4, .ref od), (5, .int l5)]) [0, 1, 2, 3, 4, 5] rfl ?_
    refine A_widen (k' := (k0 + 8)) (n' := (n0 + 48)) (by omega) (by omega) ?_
    exact K k1_0 k1_1 (fun q z0 z1 => (n1 q z0 z1))
  · refine A_iconst (v := 0) X dL_law_2042 (by decide) ?_
    cases h
set_option maxHeartbeats 8000000 in
set_option maxRecDepth 100000 in
theorem c_W35 {E : KE} {p : Program} {l : Launch} {e : Env} {s : State} {m : MethodId} {b L9 : Nat} {xs : Nat → Int32} {below : List Frame} {meth : Method} {c : Code} {hp : Hp} {k0 n0 : Nat} {Q : State → Prop} {N : Nat} {x : Nat} {y : Nat} {o : Nat} {od : Nat} {sd : Int32} {mn : Int32} {th : Int32} {dc : Int32} {fc : Nat → Int32} {tc : Int32} {fr : Nat → Int32} {m_undoable : Int32} {m_undoStart : Int32} {m_thrown : Int32} {m_oftenAll : Int32} {m_inputLength : Int32} {m_position : Int32} {m_start : Int32} {m_token : Int32} {m_value : Int32} {m_letters : Int32} {m_code : Int32} {m_place : Int32} {m_outputLength : Int32} {m_s : Nat → Int32} {m_often : Nat → Int32} {l5 : Int32} {out : Int32 × Int32 × (Nat → Int32)} (X : CX E p l s m #[Value.ref b] meth c "DiceAuditLaw" cL_law 10) (hX : va_X b L9 xs s s.heap) (hbl : b < s.heap.size) (hbA : ¬ kA E b) (hi1 : vp_in (l5 + 1) L9) (hi2 : vp_in (l5 + 2) L9) (hi3 : vp_in (l5 + 3) L9) (hi4 : vp_in (l5 + 4) L9) (hi5 : vp_in (l5 + 5) L9) (hRk : k0 + 8 ≤ room_1.cells) (hRn : n0 + 48 ≤ room_1.slots) (g0 : hp x = some (.inr (10, [.ref (x + 126), .ref (x + 128), .ref (x + 1), .ref (x + 3), .ref (x + 16), .ref (x + 18), .ref (x + 124), .ref (x + 125)]))) (g3 : hp (x + 3) = some (.inr (2, [.ref (x + 4), .ref (x + 7), .ref (x + 10), .ref (x + 13), .int sd, .int mn, .int th]))) (g4 : hp (x + 4) = some (.inr (0, [.ref (x + 5), .ref (x + 6), .int dc]))) (g5 : hp (x + 5) = some (.inl (kC E 0, 6, .inl fc))) (g10 : hp (x + 10) = some (.inr (4, [.ref (x + 11), .ref (x + 12), .int tc]))) (g12 : hp (x + 12) = some (.inl (kC E 0, 432, .inl fr))) (g39 : hp y = some (.inr (11, [.ref (y + 1), .ref (y + 2), .ref (y + 3), .ref (y + 4), .ref (y + 5), .int m_undoable, .int m_undoStart, .int m_thrown, .ref (y + 6), .int m_oftenAll, .ref (y + 7), .int m_inputLength, .int m_position, .int m_start, .int m_token, .int m_value, .int m_letters, .int m_code, .int m_place, .ref (y + 8), .int m_outputLength]))) (g40 : hp (y + 1) = some (.inl (kC E 0, 1399, .inl m_s))) (g45 : hp (y + 6) = some (.inl (kC E 0, 13, .inl m_often))) (hz0 : (x + 13) ≤ y ∨ (y + 7) ≤ x) (h : f_W35 N xs l5 fc tc fr m_s m_thrown m_oftenAll m_often = some out) (K : ∀ {hp' : Hp}, hp' y = some (.inr (11, [.ref (y + 1), .ref (y + 2), .ref (y + 3), .ref (y + 4), .ref (y + 5), .int m_undoable, .int m_undoStart, .int out.1, .ref (y + 6), .int out.2.1, .ref (y + 7), .int m_inputLength, .int m_position, .int m_start, .int m_token, .int m_value, .int m_letters, .int m_code, .int m_place, .ref (y + 8), .int m_outputLength])) → hp' (y + 6) = some (.inl (kC E 0, 13, .inl out.2.2)) → (∀ q, q ≠ y → q ≠ (y + 6) → hp' q = hp q) → AW E p l e room_1 s m #[Value.ref b] below meth c 10 Q hp' none (k0 + 8) (n0 + 48) 3407 [(0, .ref b), (1, .ref x), (2, .ref y), (3, .ref o), (4, .ref od), (5, .int l5)] []) : AW E p l e room_1 s m #[Value.ref b] below meth c 10 Q hp none (k0 + 0) (n0 + 0) 2044 [(0, .ref b), (1, .ref x), (2, .ref y), (3, .ref o), (4, .ref od), (5, .int l5)] [] := by
  unfold f_W35 at h
  refine A_aload_n X dL_law_2044 1 rfl ?_
  obtain ⟨t1, hct1, h⟩ := bind_o h
  refine A_cp (k' := (k0 + 0)) (n' := (n0 + 0)) (A_runV (rest := []) X dL_law_2045 (c_X10_worstPair g0 g3 g4 g5 g10 g12  hct1) kY_X10_worstPair kw_726 g0 rfl rfl ⟨(Nat.le_of_ble_eq_true rfl), (Nat.le_of_ble_eq_true rfl), kb rfl hRk, kb rfl hRn⟩ rfl (Nat.le_of_ble_eq_true rfl)) rfl rfl ?_
  refine A_aload_n X dL_law_2048 2 rfl ?_
  obtain ⟨t2, hct2, h⟩ := bind_o h
  refine A_c (k' := (k0 + 0)) (n' := (n0 + 0)) rfl rfl (A_runV (rest := [.int t1]) X dL_law_2049 (c_X11_worstPair g39 g40 g45  hct2) kY_X11_worstPair kw_1879 g39 rfl rfl ⟨(Nat.le_of_ble_eq_true rfl), (Nat.le_of_ble_eq_true rfl), kb rfl hRk, kb rfl hRn⟩ rfl (Nat.le_of_ble_eq_true rfl)) (fun v9 hp1 al9 hP => ?_)
  obtain ⟨rfl, k1_0, k1_1, n1, rfl⟩ := hP
  replace k1_0 : hp1 y = some (.inr (11, [.ref (y + 1), .ref (y + 2), .ref (y + 3), .ref (y + 4), .ref (y + 5), .int m_undoable, .int m_undoStart, .int t2.2.1, .ref (y + 6), .int t2.2.2.1, .ref (y + 7), .int m_inputLength, .int m_position, .int m_start, .int m_token, .int m_value, .int m_letters, .int m_code, .int m_place, .ref (y + 8), .int m_outputLength])) := k1_0
  replace k1_1 : hp1 (y + 6) = some (.inl (kC E 0, 13, .inl t2.2.2.2)) := k1_1
  refine A_st (st' := [.int t2.1, .int t1]) rfl ?_
  refine A_icmp_eq (tgt := 3407) X dL_law_2052 h (by decide) (fun hc h => ?_) (fun hc h => ?_)
  · cases h
    refine A_sub (L' := [(0, .ref b), (1, .ref x), (2, .ref y), (3, .ref o), (4, .ref od), (5, .int l5)]) [0, 1, 2, 3, 4, 5] rfl ?_
    refine A_widen (k' := (k0 + 8)) (n' := (n0 + 48)) (by omega) (by omega) ?_
    exact K k1_0 k1_1 (fun q z0 z1 => (n1 q z0 z1))
  · refine A_iconst (v := 0) X dL_law_2055 (by decide) ?_
    cases h
set_option maxHeartbeats 8000000 in
set_option maxRecDepth 100000 in
theorem c_W36 {E : KE} {p : Program} {l : Launch} {e : Env} {s : State} {m : MethodId} {b L9 : Nat} {xs : Nat → Int32} {below : List Frame} {meth : Method} {c : Code} {hp : Hp} {k0 n0 : Nat} {Q : State → Prop} {x : Nat} {y : Nat} {o : Nat} {od : Nat} {sd : Int32} {mn : Int32} {th : Int32} {oc : Int32} {m_undoable : Int32} {m_undoStart : Int32} {m_thrown : Int32} {m_oftenAll : Int32} {m_inputLength : Int32} {m_position : Int32} {m_start : Int32} {m_token : Int32} {m_value : Int32} {m_letters : Int32} {m_code : Int32} {m_place : Int32} {m_outputLength : Int32} {m_s : Nat → Int32} {l5 : Int32} {out : Int32} (X : CX E p l s m #[Value.ref b] meth c "DiceAuditLaw" cL_law 10) (hX : va_X b L9 xs s s.heap) (hbl : b < s.heap.size) (hbA : ¬ kA E b) (hi1 : vp_in (l5 + 1) L9) (hi2 : vp_in (l5 + 2) L9) (hi3 : vp_in (l5 + 3) L9) (hi4 : vp_in (l5 + 4) L9) (hi5 : vp_in (l5 + 5) L9) (hRk : k0 + 8 ≤ room_1.cells) (hRn : n0 + 48 ≤ room_1.slots) (g0 : hp x = some (.inr (10, [.ref (x + 126), .ref (x + 128), .ref (x + 1), .ref (x + 3), .ref (x + 16), .ref (x + 18), .ref (x + 124), .ref (x + 125)]))) (g3 : hp (x + 3) = some (.inr (2, [.ref (x + 4), .ref (x + 7), .ref (x + 10), .ref (x + 13), .int sd, .int mn, .int th]))) (g13 : hp (x + 13) = some (.inr (6, [.ref (x + 14), .ref (x + 15), .int oc]))) (g39 : hp y = some (.inr (11, [.ref (y + 1), .ref (y + 2), .ref (y + 3), .ref (y + 4), .ref (y + 5), .int m_undoable, .int m_undoStart, .int m_thrown, .ref (y + 6), .int m_oftenAll, .ref (y + 7), .int m_inputLength, .int m_position, .int m_start, .int m_token, .int m_value, .int m_letters, .int m_code, .int m_place, .ref (y + 8), .int m_outputLength]))) (g40 : hp (y + 1) = some (.inl (kC E 0, 1399, .inl m_s))) (hz0 : (x + 14) ≤ y ∨ (y + 2) ≤ x) (h : f_W36 xs l5 oc m_s m_thrown = some out) (K : ∀ {hp' : Hp}, hp' y = some (.inr (11, [.ref (y + 1), .ref (y + 2), .ref (y + 3), .ref (y + 4), .ref (y + 5), .int m_undoable, .int m_undoStart, .int out, .ref (y + 6), .int m_oftenAll, .ref (y + 7), .int m_inputLength, .int m_position, .int m_start, .int m_token, .int m_value, .int m_letters, .int m_code, .int m_place, .ref (y + 8), .int m_outputLength])) → (∀ q, q ≠ y → hp' q = hp q) → AW E p l e room_1 s m #[Value.ref b] below meth c 10 Q hp' none (k0 + 8) (n0 + 48) 3407 [(0, .ref b), (1, .ref x), (2, .ref y), (3, .ref o), (4, .ref od), (5, .int l5)] []) : AW E p l e room_1 s m #[Value.ref b] below meth c 10 Q hp none (k0 + 0) (n0 + 0) 2057 [(0, .ref b), (1, .ref x), (2, .ref y), (3, .ref o), (4, .ref od), (5, .int l5)] [] := by
  unfold f_W36 at h
  refine A_aload_n X dL_law_2057 1 rfl ?_
  obtain ⟨t1, hct1, h⟩ := bind_o h
  refine A_cp (k' := (k0 + 0)) (n' := (n0 + 0)) (A_runV (rest := []) X dL_law_2058 (c_X10_offenceCount g0 g3 g13  hct1) kY_X10_offenceCount kw_736 g0 rfl rfl ⟨(Nat.le_of_ble_eq_true rfl), (Nat.le_of_ble_eq_true rfl), kb rfl hRk, kb rfl hRn⟩ rfl (Nat.le_of_ble_eq_true rfl)) rfl rfl ?_
  refine A_aload_n X dL_law_2061 2 rfl ?_
  obtain ⟨t2, hct2, h⟩ := bind_o h
  refine A_c (k' := (k0 + 0)) (n' := (n0 + 0)) rfl rfl (A_runV (rest := [.int t1]) X dL_law_2062 (c_X11_offenceCount g39 g40  hct2) kY_X11_offenceCount kw_1883 g39 rfl rfl ⟨(Nat.le_of_ble_eq_true rfl), (Nat.le_of_ble_eq_true rfl), kb rfl hRk, kb rfl hRn⟩ rfl (Nat.le_of_ble_eq_true rfl)) (fun v9 hp1 al9 hP => ?_)
  obtain ⟨rfl, k1_0, n1, rfl⟩ := hP
  replace k1_0 : hp1 y = some (.inr (11, [.ref (y + 1), .ref (y + 2), .ref (y + 3), .ref (y + 4), .ref (y + 5), .int m_undoable, .int m_undoStart, .int t2.2, .ref (y + 6), .int m_oftenAll, .ref (y + 7), .int m_inputLength, .int m_position, .int m_start, .int m_token, .int m_value, .int m_letters, .int m_code, .int m_place, .ref (y + 8), .int m_outputLength])) := k1_0
  refine A_st (st' := [.int t2.1, .int t1]) rfl ?_
  refine A_icmp_eq (tgt := 3407) X dL_law_2065 h (by decide) (fun hc h => ?_) (fun hc h => ?_)
  · cases h
    refine A_sub (L' := [(0, .ref b), (1, .ref x), (2, .ref y), (3, .ref o), (4, .ref od), (5, .int l5)]) [0, 1, 2, 3, 4, 5] rfl ?_
    refine A_widen (k' := (k0 + 8)) (n' := (n0 + 48)) (by omega) (by omega) ?_
    exact K k1_0 (fun q z0 => (n1 q z0))
  · refine A_iconst (v := 0) X dL_law_2068 (by decide) ?_
    cases h
set_option maxHeartbeats 8000000 in
set_option maxRecDepth 100000 in
theorem c_W37 {E : KE} {p : Program} {l : Launch} {e : Env} {s : State} {m : MethodId} {b L9 : Nat} {xs : Nat → Int32} {below : List Frame} {meth : Method} {c : Code} {hp : Hp} {k0 n0 : Nat} {Q : State → Prop} {x : Nat} {y : Nat} {o : Nat} {od : Nat} {sd : Int32} {mn : Int32} {th : Int32} {oc : Int32} {op : Nat → Int32} {m_undoable : Int32} {m_undoStart : Int32} {m_thrown : Int32} {m_oftenAll : Int32} {m_inputLength : Int32} {m_position : Int32} {m_start : Int32} {m_token : Int32} {m_value : Int32} {m_letters : Int32} {m_code : Int32} {m_place : Int32} {m_outputLength : Int32} {m_s : Nat → Int32} {ov : Nat → Int64} {l5 : Int32} {out : Int32 × (Nat → Int64)} (X : CX E p l s m #[Value.ref b] meth c "DiceAuditLaw" cL_law 10) (hX : va_X b L9 xs s s.heap) (hbl : b < s.heap.size) (hbA : ¬ kA E b) (hi1 : vp_in (l5 + 1) L9) (hi2 : vp_in (l5 + 2) L9) (hi3 : vp_in (l5 + 3) L9) (hi4 : vp_in (l5 + 4) L9) (hi5 : vp_in (l5 + 5) L9) (hRk : k0 + 8 ≤ room_1.cells) (hRn : n0 + 48 ≤ room_1.slots) (g0 : hp x = some (.inr (10, [.ref (x + 126), .ref (x + 128), .ref (x + 1), .ref (x + 3), .ref (x + 16), .ref (x + 18), .ref (x + 124), .ref (x + 125)]))) (g3 : hp (x + 3) = some (.inr (2, [.ref (x + 4), .ref (x + 7), .ref (x + 10), .ref (x + 13), .int sd, .int mn, .int th]))) (g13 : hp (x + 13) = some (.inr (6, [.ref (x + 14), .ref (x + 15), .int oc]))) (g14 : hp (x + 14) = some (.inl (kC E 0, 36, .inl op))) (g39 : hp y = some (.inr (11, [.ref (y + 1), .ref (y + 2), .ref (y + 3), .ref (y + 4), .ref (y + 5), .int m_undoable, .int m_undoStart, .int m_thrown, .ref (y + 6), .int m_oftenAll, .ref (y + 7), .int m_inputLength, .int m_position, .int m_start, .int m_token, .int m_value, .int m_letters, .int m_code, .int m_place, .ref (y + 8), .int m_outputLength]))) (g40 : hp (y + 1) = some (.inl (kC E 0, 1399, .inl m_s))) (g48 : hp o = some (.inl (kC E 1, 1, .inr (.inl ov)))) (hz0 : (x + 15) ≤ y ∨ (y + 2) ≤ x) (hz1 : (x + 15) ≤ o ∨ (o + 1) ≤ x) (hz2 : (y + 2) ≤ o ∨ (o + 1) ≤ y) (h : f_W37 xs l5 oc op m_s m_thrown ov = some out) (K : ∀ {hp' : Hp}, hp' y = some (.inr (11, [.ref (y + 1), .ref (y + 2), .ref (y + 3), .ref (y + 4), .ref (y + 5), .int m_undoable, .int m_undoStart, .int out.1, .ref (y + 6), .int m_oftenAll, .ref (y + 7), .int m_inputLength, .int m_position, .int m_start, .int m_token, .int m_value, .int m_letters, .int m_code, .int m_place, .ref (y + 8), .int m_outputLength])) → hp' o = some (.inl (kC E 1, 1, .inr (.inl out.2))) → (∀ q, q ≠ y → q ≠ o → hp' q = hp q) → AW E p l e room_1 s m #[Value.ref b] below meth c 10 Q hp' none (k0 + 8) (n0 + 48) 3407 [(0, .ref b), (1, .ref x), (2, .ref y), (3, .ref o), (4, .ref od), (5, .int l5)] []) : AW E p l e room_1 s m #[Value.ref b] below meth c 10 Q hp none (k0 + 0) (n0 + 0) 2070 [(0, .ref b), (1, .ref x), (2, .ref y), (3, .ref o), (4, .ref od), (5, .int l5)] [] := by
  unfold f_W37 at h
  refine A_aload_n X dL_law_2070 1 rfl ?_
  refine A_aload_n X dL_law_2071 0 rfl ?_
  refine A_iload X dL_law_2072 5 rfl ?_
  refine A_iconst (v := 1) X dL_law_2074 (by decide) ?_
  refine A_iadd X dL_law_2075 ?_
  refine A_sld X hX hbl hbA hi1 dL_law_2076 ?_
  refine A_aload_n X dL_law_2077 3 rfl ?_
  obtain ⟨t1, hct1, h⟩ := bind_o h
  refine A_cX (k' := (k0 + 1)) (n' := (n0 + 6)) rfl rfl (A_runSH (rest := []) X dL_law_2078 (c_L_offencePlayer g0 g3 g13 g14 g48 (by omega) hct1) kY_L_offencePlayer kw_1208 ⟨(Nat.le_of_ble_eq_true rfl), (Nat.le_of_ble_eq_true rfl), kb rfl hRk, kb rfl hRn⟩ rfl (Nat.le_of_ble_eq_true rfl)) (fun C hp1 hP => hP.elim) (fun v9 hp1 al9 hP => ?_)
  obtain ⟨rfl, k1_0, n1, rfl⟩ := hP
  replace k1_0 : hp1 o = some (.inl (kC E 1, 1, .inr (.inl t1.2))) := k1_0
  refine A_st (st' := [.int t1.1]) rfl ?_
  refine A_istore (L' := [(6, .int t1.1), (0, .ref b), (1, .ref x), (2, .ref y), (3, .ref o), (4, .ref od), (5, .int l5)]) X dL_law_2081 (by decide) rfl ?_
  refine A_aload_n X dL_law_2083 3 rfl ?_
  refine A_aload_n X dL_law_2084 1 rfl ?_
  refine A_iload X dL_law_2085 6 rfl ?_
  refine A_iconst (v := 1) X dL_law_2087 (by decide) ?_
  refine A_iadd X dL_law_2088 ?_
  refine A_sld X hX hbl hbA hi1 dL_law_2089 ?_
  obtain ⟨t2, hct2, h⟩ := bind_o h
  refine A_c (k' := (k0 + 1)) (n' := (n0 + 6)) rfl rfl (A_runV (rest := []) X dL_law_2090 (c_X11_offencePlayer ((n1 _ (by omega)).trans g39) ((n1 _ (by omega)).trans g40)  hct2) kY_X11_offencePlayer kw_1887 ((n1 _ (by omega)).trans g39) rfl rfl ⟨(Nat.le_of_ble_eq_true rfl), (Nat.le_of_ble_eq_true rfl), kb rfl hRk, kb rfl hRn⟩ rfl (Nat.le_of_ble_eq_true rfl)) (fun v9 hp2 al9 hP => ?_)
  obtain ⟨rfl, k2_0, n2, rfl⟩ := hP
  replace k2_0 : hp2 y = some (.inr (11, [.ref (y + 1), .ref (y + 2), .ref (y + 3), .ref (y + 4), .ref (y + 5), .int m_undoable, .int m_undoStart, .int t2.2, .ref (y + 6), .int m_oftenAll, .ref (y + 7), .int m_inputLength, .int m_position, .int m_start, .int m_token, .int m_value, .int m_letters, .int m_code, .int m_place, .ref (y + 8), .int m_outputLength])) := k2_0
  refine A_st (st' := [.int t2.1]) rfl ?_
  refine A_istore (L' := [(7, .int t2.1), (6, .int t1.1), (0, .ref b), (1, .ref x), (2, .ref y), (3, .ref o), (4, .ref od), (5, .int l5)]) X dL_law_2093 (by decide) rfl ?_
  refine A_aload_n X dL_law_2095 4 rfl ?_
  obtain ⟨t3, hct3, h⟩ := bind_o h
  refine A_cp (k' := (k0 + 1)) (n' := (n0 + 6)) (A_runV (rest := []) X dL_law_2096 (c_X11_thrown k2_0  hct3) kY_X11_thrown kw_1668 k2_0 rfl rfl ⟨(Nat.le_of_ble_eq_true rfl), (Nat.le_of_ble_eq_true rfl), kb rfl hRk, kb rfl hRn⟩ rfl (Nat.le_of_ble_eq_true rfl)) rfl rfl ?_
  refine A_iload X dL_law_2099 1 rfl ?_
  refine A_icmp_eq (tgt := 2106) X dL_law_2101 h (by decide) (fun hc h => ?_) (fun hc h => ?_)
  · refine A_iload X dL_law_2106 1 rfl ?_
    refine A_if_ne (tgt := 2123) X dL_law_2108 h (by decide) (fun hc h => ?_) (fun hc h => ?_)
    · refine A_goto (tgt := 3407) X dL_law_2123 (by decide) ?_
      cases h
      refine A_sub (L' := [(0, .ref b), (1, .ref x), (2, .ref y), (3, .ref o), (4, .ref od), (5, .int l5)]) [2, 3, 4, 5, 6, 7] rfl ?_
      refine A_widen (k' := (k0 + 8)) (n' := (n0 + 48)) (by omega) (by omega) ?_
      exact K k2_0 ((n2 _ (by omega)).trans k1_0) (fun q z0 z1 => ((n2 q z0).trans (n1 q z1)))
    · refine A_aload_n X dL_law_2111 5 rfl ?_
      refine A_iconst (v := 0) X dL_law_2112 (by decide) ?_
      refine A_lald X dL_law_2113 ((n2 _ (by omega)).trans k1_0) (by decide) ?_
      refine A_iload X dL_law_2114 0 rfl ?_
      refine A_i2l X dL_law_2116 ?_
      refine A_lcmp X dL_law_2117 ?_
      refine A_if_eq (tgt := 2123) X dL_law_2118 h (by decide) (fun hc h => ?_) (fun hc h => ?_)
      · refine A_goto (tgt := 3407) X dL_law_2123 (by decide) ?_
        cases h
        refine A_sub (L' := [(0, .ref b), (1, .ref x), (2, .ref y), (3, .ref o), (4, .ref od), (5, .int l5)]) [2, 3, 4, 5, 6, 7] rfl ?_
        refine A_widen (k' := (k0 + 8)) (n' := (n0 + 48)) (by omega) (by omega) ?_
        exact K k2_0 ((n2 _ (by omega)).trans k1_0) (fun q z0 z1 => ((n2 q z0).trans (n1 q z1)))
      · refine A_iconst (v := 0) X dL_law_2121 (by decide) ?_
        cases h
  · refine A_iconst (v := 0) X dL_law_2104 (by decide) ?_
    cases h
set_option maxHeartbeats 8000000 in
set_option maxRecDepth 100000 in
theorem c_W38 {E : KE} {p : Program} {l : Launch} {e : Env} {s : State} {m : MethodId} {b L9 : Nat} {xs : Nat → Int32} {below : List Frame} {meth : Method} {c : Code} {hp : Hp} {k0 n0 : Nat} {Q : State → Prop} {x : Nat} {y : Nat} {o : Nat} {od : Nat} {sd : Int32} {mn : Int32} {th : Int32} {oc : Int32} {op : Nat → Int32} {m_undoable : Int32} {m_undoStart : Int32} {m_thrown : Int32} {m_oftenAll : Int32} {m_inputLength : Int32} {m_position : Int32} {m_start : Int32} {m_token : Int32} {m_value : Int32} {m_letters : Int32} {m_code : Int32} {m_place : Int32} {m_outputLength : Int32} {m_s : Nat → Int32} {ov : Nat → Int64} {l5 : Int32} {out : Int32 × (Nat → Int64)} (X : CX E p l s m #[Value.ref b] meth c "DiceAuditLaw" cL_law 10) (hX : va_X b L9 xs s s.heap) (hbl : b < s.heap.size) (hbA : ¬ kA E b) (hi1 : vp_in (l5 + 1) L9) (hi2 : vp_in (l5 + 2) L9) (hi3 : vp_in (l5 + 3) L9) (hi4 : vp_in (l5 + 4) L9) (hi5 : vp_in (l5 + 5) L9) (hRk : k0 + 8 ≤ room_1.cells) (hRn : n0 + 48 ≤ room_1.slots) (g0 : hp x = some (.inr (10, [.ref (x + 126), .ref (x + 128), .ref (x + 1), .ref (x + 3), .ref (x + 16), .ref (x + 18), .ref (x + 124), .ref (x + 125)]))) (g3 : hp (x + 3) = some (.inr (2, [.ref (x + 4), .ref (x + 7), .ref (x + 10), .ref (x + 13), .int sd, .int mn, .int th]))) (g13 : hp (x + 13) = some (.inr (6, [.ref (x + 14), .ref (x + 15), .int oc]))) (g14 : hp (x + 14) = some (.inl (kC E 0, 36, .inl op))) (g39 : hp y = some (.inr (11, [.ref (y + 1), .ref (y + 2), .ref (y + 3), .ref (y + 4), .ref (y + 5), .int m_undoable, .int m_undoStart, .int m_thrown, .ref (y + 6), .int m_oftenAll, .ref (y + 7), .int m_inputLength, .int m_position, .int m_start, .int m_token, .int m_value, .int m_letters, .int m_code, .int m_place, .ref (y + 8), .int m_outputLength]))) (g40 : hp (y + 1) = some (.inl (kC E 0, 1399, .inl m_s))) (g48 : hp o = some (.inl (kC E 1, 1, .inr (.inl ov)))) (hz0 : (x + 15) ≤ y ∨ (y + 2) ≤ x) (hz1 : (x + 15) ≤ o ∨ (o + 1) ≤ x) (hz2 : (y + 2) ≤ o ∨ (o + 1) ≤ y) (h : f_W38 xs l5 oc op m_s m_thrown ov = some out) (K : ∀ {hp' : Hp}, hp' y = some (.inr (11, [.ref (y + 1), .ref (y + 2), .ref (y + 3), .ref (y + 4), .ref (y + 5), .int m_undoable, .int m_undoStart, .int out.1, .ref (y + 6), .int m_oftenAll, .ref (y + 7), .int m_inputLength, .int m_position, .int m_start, .int m_token, .int m_value, .int m_letters, .int m_code, .int m_place, .ref (y + 8), .int m_outputLength])) → hp' o = some (.inl (kC E 1, 1, .inr (.inl out.2))) → (∀ q, q ≠ y → q ≠ o → hp' q = hp q) → AW E p l e room_1 s m #[Value.ref b] below meth c 10 Q hp' none (k0 + 8) (n0 + 48) 3407 [(0, .ref b), (1, .ref x), (2, .ref y), (3, .ref o), (4, .ref od), (5, .int l5)] []) : AW E p l e room_1 s m #[Value.ref b] below meth c 10 Q hp none (k0 + 0) (n0 + 0) 2126 [(0, .ref b), (1, .ref x), (2, .ref y), (3, .ref o), (4, .ref od), (5, .int l5)] [] := by
  unfold f_W38 at h
  refine A_aload_n X dL_law_2126 1 rfl ?_
  refine A_aload_n X dL_law_2127 0 rfl ?_
  refine A_iload X dL_law_2128 5 rfl ?_
  refine A_iconst (v := 1) X dL_law_2130 (by decide) ?_
  refine A_iadd X dL_law_2131 ?_
  refine A_sld X hX hbl hbA hi1 dL_law_2132 ?_
  refine A_aload_n X dL_law_2133 3 rfl ?_
  obtain ⟨t1, hct1, h⟩ := bind_o h
  refine A_cX (k' := (k0 + 1)) (n' := (n0 + 6)) rfl rfl (A_runSH (rest := []) X dL_law_2134 (c_L_offenceDie g0 g3 g13 g14 g48 (by omega) hct1) kY_L_offenceDie kw_1219 ⟨(Nat.le_of_ble_eq_true rfl), (Nat.le_of_ble_eq_true rfl), kb rfl hRk, kb rfl hRn⟩ rfl (Nat.le_of_ble_eq_true rfl)) (fun C hp1 hP => hP.elim) (fun v9 hp1 al9 hP => ?_)
  obtain ⟨rfl, k1_0, n1, rfl⟩ := hP
  replace k1_0 : hp1 o = some (.inl (kC E 1, 1, .inr (.inl t1.2))) := k1_0
  refine A_st (st' := [.int t1.1]) rfl ?_
  refine A_istore (L' := [(6, .int t1.1), (0, .ref b), (1, .ref x), (2, .ref y), (3, .ref o), (4, .ref od), (5, .int l5)]) X dL_law_2137 (by decide) rfl ?_
  refine A_aload_n X dL_law_2139 3 rfl ?_
  refine A_aload_n X dL_law_2140 1 rfl ?_
  refine A_iload X dL_law_2141 6 rfl ?_
  refine A_iconst (v := 1) X dL_law_2143 (by decide) ?_
  refine A_iadd X dL_law_2144 ?_
  refine A_sld X hX hbl hbA hi1 dL_law_2145 ?_
  obtain ⟨t2, hct2, h⟩ := bind_o h
  refine A_c (k' := (k0 + 1)) (n' := (n0 + 6)) rfl rfl (A_runV (rest := []) X dL_law_2146 (c_X11_offenceDie ((n1 _ (by omega)).trans g39) ((n1 _ (by omega)).trans g40)  hct2) kY_X11_offenceDie kw_1899 ((n1 _ (by omega)).trans g39) rfl rfl ⟨(Nat.le_of_ble_eq_true rfl), (Nat.le_of_ble_eq_true rfl), kb rfl hRk, kb rfl hRn⟩ rfl (Nat.le_of_ble_eq_true rfl)) (fun v9 hp2 al9 hP => ?_)
  obtain ⟨rfl, k2_0, n2, rfl⟩ := hP
  replace k2_0 : hp2 y = some (.inr (11, [.ref (y + 1), .ref (y + 2), .ref (y + 3), .ref (y + 4), .ref (y + 5), .int m_undoable, .int m_undoStart, .int t2.2, .ref (y + 6), .int m_oftenAll, .ref (y + 7), .int m_inputLength, .int m_position, .int m_start, .int m_token, .int m_value, .int m_letters, .int m_code, .int m_place, .ref (y + 8), .int m_outputLength])) := k2_0
  refine A_st (st' := [.int t2.1]) rfl ?_
  refine A_istore (L' := [(7, .int t2.1), (6, .int t1.1), (0, .ref b), (1, .ref x), (2, .ref y), (3, .ref o), (4, .ref od), (5, .int l5)]) X dL_law_2149 (by decide) rfl ?_
  refine A_aload_n X dL_law_2151 4 rfl ?_
  obtain ⟨t3, hct3, h⟩ := bind_o h
  refine A_cp (k' := (k0 + 1)) (n' := (n0 + 6)) (A_runV (rest := []) X dL_law_2152 (c_X11_thrown k2_0  hct3) kY_X11_thrown kw_1668 k2_0 rfl rfl ⟨(Nat.le_of_ble_eq_true rfl), (Nat.le_of_ble_eq_true rfl), kb rfl hRk, kb rfl hRn⟩ rfl (Nat.le_of_ble_eq_true rfl)) rfl rfl ?_
  refine A_iload X dL_law_2155 1 rfl ?_
  refine A_icmp_eq (tgt := 2162) X dL_law_2157 h (by decide) (fun hc h => ?_) (fun hc h => ?_)
  · refine A_iload X dL_law_2162 1 rfl ?_
    refine A_if_ne (tgt := 2179) X dL_law_2164 h (by decide) (fun hc h => ?_) (fun hc h => ?_)
    · refine A_goto (tgt := 3407) X dL_law_2179 (by decide) ?_
      cases h
      refine A_sub (L' := [(0, .ref b), (1, .ref x), (2, .ref y), (3, .ref o), (4, .ref od), (5, .int l5)]) [2, 3, 4, 5, 6, 7] rfl ?_
      refine A_widen (k' := (k0 + 8)) (n' := (n0 + 48)) (by omega) (by omega) ?_
      exact K k2_0 ((n2 _ (by omega)).trans k1_0) (fun q z0 z1 => ((n2 q z0).trans (n1 q z1)))
    · refine A_aload_n X dL_law_2167 5 rfl ?_
      refine A_iconst (v := 0) X dL_law_2168 (by decide) ?_
      refine A_lald X dL_law_2169 ((n2 _ (by omega)).trans k1_0) (by decide) ?_
      refine A_iload X dL_law_2170 0 rfl ?_
      refine A_i2l X dL_law_2172 ?_
      refine A_lcmp X dL_law_2173 ?_
      refine A_if_eq (tgt := 2179) X dL_law_2174 h (by decide) (fun hc h => ?_) (fun hc h => ?_)
      · refine A_goto (tgt := 3407) X dL_law_2179 (by decide) ?_
        cases h
        refine A_sub (L' := [(0, .ref b), (1, .ref x), (2, .ref y), (3, .ref o), (4, .ref od), (5, .int l5)]) [2, 3, 4, 5, 6, 7] rfl ?_
        refine A_widen (k' := (k0 + 8)) (n' := (n0 + 48)) (by omega) (by omega) ?_
        exact K k2_0 ((n2 _ (by omega)).trans k1_0) (fun q z0 z1 => ((n2 q z0).trans (n1 q z1)))
      · refine A_iconst (v := 0) X dL_law_2177 (by decide) ?_
        cases h
  · refine A_iconst (v := 0) X dL_law_2160 (by decide) ?_
    cases h
set_option maxHeartbeats 8000000 in
set_option maxRecDepth 100000 in
theorem c_W39 {E : KE} {p : Program} {l : Launch} {e : Env} {s : State} {m : MethodId} {b L9 : Nat} {xs : Nat → Int32} {below : List Frame} {meth : Method} {c : Code} {hp : Hp} {k0 n0 : Nat} {Q : State → Prop} {x : Nat} {y : Nat} {o : Nat} {od : Nat} {sd : Int32} {mn : Int32} {th : Int32} {oc : Int32} {os : Nat → Int32} {m_undoable : Int32} {m_undoStart : Int32} {m_thrown : Int32} {m_oftenAll : Int32} {m_inputLength : Int32} {m_position : Int32} {m_start : Int32} {m_token : Int32} {m_value : Int32} {m_letters : Int32} {m_code : Int32} {m_place : Int32} {m_outputLength : Int32} {m_s : Nat → Int32} {ov : Nat → Int64} {l5 : Int32} {out : Int32 × (Nat → Int64)} (X : CX E p l s m #[Value.ref b] meth c "DiceAuditLaw" cL_law 10) (hX : va_X b L9 xs s s.heap) (hbl : b < s.heap.size) (hbA : ¬ kA E b) (hi1 : vp_in (l5 + 1) L9) (hi2 : vp_in (l5 + 2) L9) (hi3 : vp_in (l5 + 3) L9) (hi4 : vp_in (l5 + 4) L9) (hi5 : vp_in (l5 + 5) L9) (hRk : k0 + 8 ≤ room_1.cells) (hRn : n0 + 48 ≤ room_1.slots) (g0 : hp x = some (.inr (10, [.ref (x + 126), .ref (x + 128), .ref (x + 1), .ref (x + 3), .ref (x + 16), .ref (x + 18), .ref (x + 124), .ref (x + 125)]))) (g3 : hp (x + 3) = some (.inr (2, [.ref (x + 4), .ref (x + 7), .ref (x + 10), .ref (x + 13), .int sd, .int mn, .int th]))) (g13 : hp (x + 13) = some (.inr (6, [.ref (x + 14), .ref (x + 15), .int oc]))) (g15 : hp (x + 15) = some (.inl (kC E 0, 36, .inl os))) (g39 : hp y = some (.inr (11, [.ref (y + 1), .ref (y + 2), .ref (y + 3), .ref (y + 4), .ref (y + 5), .int m_undoable, .int m_undoStart, .int m_thrown, .ref (y + 6), .int m_oftenAll, .ref (y + 7), .int m_inputLength, .int m_position, .int m_start, .int m_token, .int m_value, .int m_letters, .int m_code, .int m_place, .ref (y + 8), .int m_outputLength]))) (g40 : hp (y + 1) = some (.inl (kC E 0, 1399, .inl m_s))) (g48 : hp o = some (.inl (kC E 1, 1, .inr (.inl ov)))) (hz0 : (x + 16) ≤ y ∨ (y + 2) ≤ x) (hz1 : (x + 16) ≤ o ∨ (o + 1) ≤ x) (hz2 : (y + 2) ≤ o ∨ (o + 1) ≤ y) (h : f_W39 xs l5 oc os m_s m_thrown ov = some out) (K : ∀ {hp' : Hp}, hp' y = some (.inr (11, [.ref (y + 1), .ref (y + 2), .ref (y + 3), .ref (y + 4), .ref (y + 5), .int m_undoable, .int m_undoStart, .int out.1, .ref (y + 6), .int m_oftenAll, .ref (y + 7), .int m_inputLength, .int m_position, .int m_start, .int m_token, .int m_value, .int m_letters, .int m_code, .int m_place, .ref (y + 8), .int m_outputLength])) → hp' o = some (.inl (kC E 1, 1, .inr (.inl out.2))) → (∀ q, q ≠ y → q ≠ o → hp' q = hp q) → AW E p l e room_1 s m #[Value.ref b] below meth c 10 Q hp' none (k0 + 8) (n0 + 48) 3407 [(0, .ref b), (1, .ref x), (2, .ref y), (3, .ref o), (4, .ref od), (5, .int l5)] []) : AW E p l e room_1 s m #[Value.ref b] below meth c 10 Q hp none (k0 + 0) (n0 + 0) 2182 [(0, .ref b), (1, .ref x), (2, .ref y), (3, .ref o), (4, .ref od), (5, .int l5)] [] := by
  unfold f_W39 at h
  refine A_aload_n X dL_law_2182 1 rfl ?_
  refine A_aload_n X dL_law_2183 0 rfl ?_
  refine A_iload X dL_law_2184 5 rfl ?_
  refine A_iconst (v := 1) X dL_law_2186 (by decide) ?_
  refine A_iadd X dL_law_2187 ?_
  refine A_sld X hX hbl hbA hi1 dL_law_2188 ?_
  refine A_aload_n X dL_law_2189 3 rfl ?_
  obtain ⟨t1, hct1, h⟩ := bind_o h
  refine A_cX (k' := (k0 + 1)) (n' := (n0 + 6)) rfl rfl (A_runSH (rest := []) X dL_law_2190 (c_L_offenceScore g0 g3 g13 g15 g48 (by omega) hct1) kY_L_offenceScore kw_1226 ⟨(Nat.le_of_ble_eq_true rfl), (Nat.le_of_ble_eq_true rfl), kb rfl hRk, kb rfl hRn⟩ rfl (Nat.le_of_ble_eq_true rfl)) (fun C hp1 hP => hP.elim) (fun v9 hp1 al9 hP => ?_)
  obtain ⟨rfl, k1_0, n1, rfl⟩ := hP
  replace k1_0 : hp1 o = some (.inl (kC E 1, 1, .inr (.inl t1.2))) := k1_0
  refine A_st (st' := [.int t1.1]) rfl ?_
  refine A_istore (L' := [(6, .int t1.1), (0, .ref b), (1, .ref x), (2, .ref y), (3, .ref o), (4, .ref od), (5, .int l5)]) X dL_law_2193 (by decide) rfl ?_
  refine A_aload_n X dL_law_2195 3 rfl ?_
  refine A_aload_n X dL_law_2196 1 rfl ?_
  refine A_iload X dL_law_2197 6 rfl ?_
  refine A_iconst (v := 1) X dL_law_2199 (by decide) ?_
  refine A_iadd X dL_law_2200 ?_
  refine A_sld X hX hbl hbA hi1 dL_law_2201 ?_
  obtain ⟨t2, hct2, h⟩ := bind_o h
  refine A_c (k' := (k0 + 1)) (n' := (n0 + 6)) rfl rfl (A_runV (rest := []) X dL_law_2202 (c_X11_offenceScore ((n1 _ (by omega)).trans g39) ((n1 _ (by omega)).trans g40)  hct2) kY_X11_offenceScore kw_1903 ((n1 _ (by omega)).trans g39) rfl rfl ⟨(Nat.le_of_ble_eq_true rfl), (Nat.le_of_ble_eq_true rfl), kb rfl hRk, kb rfl hRn⟩ rfl (Nat.le_of_ble_eq_true rfl)) (fun v9 hp2 al9 hP => ?_)
  obtain ⟨rfl, k2_0, n2, rfl⟩ := hP
  replace k2_0 : hp2 y = some (.inr (11, [.ref (y + 1), .ref (y + 2), .ref (y + 3), .ref (y + 4), .ref (y + 5), .int m_undoable, .int m_undoStart, .int t2.2, .ref (y + 6), .int m_oftenAll, .ref (y + 7), .int m_inputLength, .int m_position, .int m_start, .int m_token, .int m_value, .int m_letters, .int m_code, .int m_place, .ref (y + 8), .int m_outputLength])) := k2_0
  refine A_st (st' := [.int t2.1]) rfl ?_
  refine A_istore (L' := [(7, .int t2.1), (6, .int t1.1), (0, .ref b), (1, .ref x), (2, .ref y), (3, .ref o), (4, .ref od), (5, .int l5)]) X dL_law_2205 (by decide) rfl ?_
  refine A_aload_n X dL_law_2207 4 rfl ?_
  obtain ⟨t3, hct3, h⟩ := bind_o h
  refine A_cp (k' := (k0 + 1)) (n' := (n0 + 6)) (A_runV (rest := []) X dL_law_2208 (c_X11_thrown k2_0  hct3) kY_X11_thrown kw_1668 k2_0 rfl rfl ⟨(Nat.le_of_ble_eq_true rfl), (Nat.le_of_ble_eq_true rfl), kb rfl hRk, kb rfl hRn⟩ rfl (Nat.le_of_ble_eq_true rfl)) rfl rfl ?_
  refine A_iload X dL_law_2211 1 rfl ?_
  refine A_icmp_eq (tgt := 2218) X dL_law_2213 h (by decide) (fun hc h => ?_) (fun hc h => ?_)
  · refine A_iload X dL_law_2218 1 rfl ?_
    refine A_if_ne (tgt := 2235) X dL_law_2220 h (by decide) (fun hc h => ?_) (fun hc h => ?_)
    · refine A_goto (tgt := 3407) X dL_law_2235 (by decide) ?_
      cases h
      refine A_sub (L' := [(0, .ref b), (1, .ref x), (2, .ref y), (3, .ref o), (4, .ref od), (5, .int l5)]) [2, 3, 4, 5, 6, 7] rfl ?_
      refine A_widen (k' := (k0 + 8)) (n' := (n0 + 48)) (by omega) (by omega) ?_
      exact K k2_0 ((n2 _ (by omega)).trans k1_0) (fun q z0 z1 => ((n2 q z0).trans (n1 q z1)))
    · refine A_aload_n X dL_law_2223 5 rfl ?_
      refine A_iconst (v := 0) X dL_law_2224 (by decide) ?_
      refine A_lald X dL_law_2225 ((n2 _ (by omega)).trans k1_0) (by decide) ?_
      refine A_iload X dL_law_2226 0 rfl ?_
      refine A_i2l X dL_law_2228 ?_
      refine A_lcmp X dL_law_2229 ?_
      refine A_if_eq (tgt := 2235) X dL_law_2230 h (by decide) (fun hc h => ?_) (fun hc h => ?_)
      · refine A_goto (tgt := 3407) X dL_law_2235 (by decide) ?_
        cases h
        refine A_sub (L' := [(0, .ref b), (1, .ref x), (2, .ref y), (3, .ref o), (4, .ref od), (5, .int l5)]) [2, 3, 4, 5, 6, 7] rfl ?_
        refine A_widen (k' := (k0 + 8)) (n' := (n0 + 48)) (by omega) (by omega) ?_
        exact K k2_0 ((n2 _ (by omega)).trans k1_0) (fun q z0 z1 => ((n2 q z0).trans (n1 q z1)))
      · refine A_iconst (v := 0) X dL_law_2233 (by decide) ?_
        cases h
  · refine A_iconst (v := 0) X dL_law_2216 (by decide) ?_
    cases h
set_option maxHeartbeats 8000000 in
set_option maxRecDepth 100000 in
theorem c_W40 {E : KE} {p : Program} {l : Launch} {e : Env} {s : State} {m : MethodId} {b L9 : Nat} {xs : Nat → Int32} {below : List Frame} {meth : Method} {c : Code} {hp : Hp} {k0 n0 : Nat} {Q : State → Prop} {N : Nat} {x : Nat} {y : Nat} {o : Nat} {od : Nat} {sd : Int32} {mn : Int32} {th : Int32} {pc : Int32} {oc : Int32} {op : Nat → Int32} {m_undoable : Int32} {m_undoStart : Int32} {m_thrown : Int32} {m_oftenAll : Int32} {m_inputLength : Int32} {m_position : Int32} {m_start : Int32} {m_token : Int32} {m_value : Int32} {m_letters : Int32} {m_code : Int32} {m_place : Int32} {m_outputLength : Int32} {m_s : Nat → Int32} {ov : Nat → Int64} {l5 : Int32} {out : Int32 × (Nat → Int64)} (X : CX E p l s m #[Value.ref b] meth c "DiceAuditLaw" cL_law 10) (hX : va_X b L9 xs s s.heap) (hbl : b < s.heap.size) (hbA : ¬ kA E b) (hi1 : vp_in (l5 + 1) L9) (hi2 : vp_in (l5 + 2) L9) (hi3 : vp_in (l5 + 3) L9) (hi4 : vp_in (l5 + 4) L9) (hi5 : vp_in (l5 + 5) L9) (hRk : k0 + 8 ≤ room_1.cells) (hRn : n0 + 48 ≤ room_1.slots) (g0 : hp x = some (.inr (10, [.ref (x + 126), .ref (x + 128), .ref (x + 1), .ref (x + 3), .ref (x + 16), .ref (x + 18), .ref (x + 124), .ref (x + 125)]))) (g3 : hp (x + 3) = some (.inr (2, [.ref (x + 4), .ref (x + 7), .ref (x + 10), .ref (x + 13), .int sd, .int mn, .int th]))) (g7 : hp (x + 7) = some (.inr (7, [.ref (x + 8), .ref (x + 9), .int pc]))) (g13 : hp (x + 13) = some (.inr (6, [.ref (x + 14), .ref (x + 15), .int oc]))) (g14 : hp (x + 14) = some (.inl (kC E 0, 36, .inl op))) (g39 : hp y = some (.inr (11, [.ref (y + 1), .ref (y + 2), .ref (y + 3), .ref (y + 4), .ref (y + 5), .int m_undoable, .int m_undoStart, .int m_thrown, .ref (y + 6), .int m_oftenAll, .ref (y + 7), .int m_inputLength, .int m_position, .int m_start, .int m_token, .int m_value, .int m_letters, .int m_code, .int m_place, .ref (y + 8), .int m_outputLength]))) (g40 : hp (y + 1) = some (.inl (kC E 0, 1399, .inl m_s))) (g48 : hp o = some (.inl (kC E 1, 1, .inr (.inl ov)))) (hz0 : (x + 15) ≤ y ∨ (y + 2) ≤ x) (hz1 : (x + 15) ≤ o ∨ (o + 1) ≤ x) (hz2 : (y + 2) ≤ o ∨ (o + 1) ≤ y) (h : f_W40 N xs l5 pc oc op m_s m_thrown ov = some out) (K : ∀ {hp' : Hp}, hp' y = some (.inr (11, [.ref (y + 1), .ref (y + 2), .ref (y + 3), .ref (y + 4), .ref (y + 5), .int m_undoable, .int m_undoStart, .int out.1, .ref (y + 6), .int m_oftenAll, .ref (y + 7), .int m_inputLength, .int m_position, .int m_start, .int m_token, .int m_value, .int m_letters, .int m_code, .int m_place, .ref (y + 8), .int m_outputLength])) → hp' o = some (.inl (kC E 1, 1, .inr (.inl out.2))) → (∀ q, q ≠ y → q ≠ o → hp' q = hp q) → AW E p l e room_1 s m #[Value.ref b] below meth c 10 Q hp' none (k0 + 8) (n0 + 48) 3407 [(0, .ref b), (1, .ref x), (2, .ref y), (3, .ref o), (4, .ref od), (5, .int l5)] []) : AW E p l e room_1 s m #[Value.ref b] below meth c 10 Q hp none (k0 + 0) (n0 + 0) 2238 [(0, .ref b), (1, .ref x), (2, .ref y), (3, .ref o), (4, .ref od), (5, .int l5)] [] := by
  unfold f_W40 at h
  refine A_aload_n X dL_law_2238 1 rfl ?_
  refine A_aload_n X dL_law_2239 0 rfl ?_
  refine A_iload X dL_law_2240 5 rfl ?_
  refine A_iconst (v := 1) X dL_law_2242 (by decide) ?_
  refine A_iadd X dL_law_2243 ?_
  refine A_sld X hX hbl hbA hi1 dL_law_2244 ?_
  refine A_aload_n X dL_law_2245 3 rfl ?_
  obtain ⟨t1, hct1, h⟩ := bind_o h
  refine A_cX (k' := (k0 + 1)) (n' := (n0 + 6)) rfl rfl (A_runSH (rest := []) X dL_law_2246 (c_L_offencesOf g0 g3 g7 g13 g14 g48 (by omega) hct1) kY_L_offencesOf kw_1233 ⟨(Nat.le_of_ble_eq_true rfl), (Nat.le_of_ble_eq_true rfl), kb rfl hRk, kb rfl hRn⟩ rfl (Nat.le_of_ble_eq_true rfl)) (fun C hp1 hP => hP.elim) (fun v9 hp1 al9 hP => ?_)
  obtain ⟨rfl, k1_0, n1, rfl⟩ := hP
  replace k1_0 : hp1 o = some (.inl (kC E 1, 1, .inr (.inl t1.2))) := k1_0
  refine A_st (st' := [.int t1.1]) rfl ?_
  refine A_istore (L' := [(6, .int t1.1), (0, .ref b), (1, .ref x), (2, .ref y), (3, .ref o), (4, .ref od), (5, .int l5)]) X dL_law_2249 (by decide) rfl ?_
  refine A_aload_n X dL_law_2251 3 rfl ?_
  refine A_aload_n X dL_law_2252 1 rfl ?_
  refine A_iload X dL_law_2253 6 rfl ?_
  refine A_iconst (v := 1) X dL_law_2255 (by decide) ?_
  refine A_iadd X dL_law_2256 ?_
  refine A_sld X hX hbl hbA hi1 dL_law_2257 ?_
  obtain ⟨t2, hct2, h⟩ := bind_o h
  refine A_c (k' := (k0 + 1)) (n' := (n0 + 6)) rfl rfl (A_runV (rest := []) X dL_law_2258 (c_X11_offencesOf ((n1 _ (by omega)).trans g39) ((n1 _ (by omega)).trans g40)  hct2) kY_X11_offencesOf kw_1907 ((n1 _ (by omega)).trans g39) rfl rfl ⟨(Nat.le_of_ble_eq_true rfl), (Nat.le_of_ble_eq_true rfl), kb rfl hRk, kb rfl hRn⟩ rfl (Nat.le_of_ble_eq_true rfl)) (fun v9 hp2 al9 hP => ?_)
  obtain ⟨rfl, k2_0, n2, rfl⟩ := hP
  replace k2_0 : hp2 y = some (.inr (11, [.ref (y + 1), .ref (y + 2), .ref (y + 3), .ref (y + 4), .ref (y + 5), .int m_undoable, .int m_undoStart, .int t2.2, .ref (y + 6), .int m_oftenAll, .ref (y + 7), .int m_inputLength, .int m_position, .int m_start, .int m_token, .int m_value, .int m_letters, .int m_code, .int m_place, .ref (y + 8), .int m_outputLength])) := k2_0
  refine A_st (st' := [.int t2.1]) rfl ?_
  refine A_istore (L' := [(7, .int t2.1), (6, .int t1.1), (0, .ref b), (1, .ref x), (2, .ref y), (3, .ref o), (4, .ref od), (5, .int l5)]) X dL_law_2261 (by decide) rfl ?_
  refine A_aload_n X dL_law_2263 4 rfl ?_
  obtain ⟨t3, hct3, h⟩ := bind_o h
  refine A_cp (k' := (k0 + 1)) (n' := (n0 + 6)) (A_runV (rest := []) X dL_law_2264 (c_X11_thrown k2_0  hct3) kY_X11_thrown kw_1668 k2_0 rfl rfl ⟨(Nat.le_of_ble_eq_true rfl), (Nat.le_of_ble_eq_true rfl), kb rfl hRk, kb rfl hRn⟩ rfl (Nat.le_of_ble_eq_true rfl)) rfl rfl ?_
  refine A_iload X dL_law_2267 1 rfl ?_
  refine A_icmp_eq (tgt := 2274) X dL_law_2269 h (by decide) (fun hc h => ?_) (fun hc h => ?_)
  · refine A_iload X dL_law_2274 1 rfl ?_
    refine A_if_ne (tgt := 2291) X dL_law_2276 h (by decide) (fun hc h => ?_) (fun hc h => ?_)
    · refine A_goto (tgt := 3407) X dL_law_2291 (by decide) ?_
      cases h
      refine A_sub (L' := [(0, .ref b), (1, .ref x), (2, .ref y), (3, .ref o), (4, .ref od), (5, .int l5)]) [2, 3, 4, 5, 6, 7] rfl ?_
      refine A_widen (k' := (k0 + 8)) (n' := (n0 + 48)) (by omega) (by omega) ?_
      exact K k2_0 ((n2 _ (by omega)).trans k1_0) (fun q z0 z1 => ((n2 q z0).trans (n1 q z1)))
    · refine A_aload_n X dL_law_2279 5 rfl ?_
      refine A_iconst (v := 0) X dL_law_2280 (by decide) ?_
      refine A_lald X dL_law_2281 ((n2 _ (by omega)).trans k1_0) (by decide) ?_
      refine A_iload X dL_law_2282 0 rfl ?_
      refine A_i2l X dL_law_2284 ?_
      refine A_lcmp X dL_law_2285 ?_
      refine A_if_eq (tgt := 2291) X dL_law_2286 h (by decide) (fun hc h => ?_) (fun hc h => ?_)
      · refine A_goto (tgt := 3407) X dL_law_2291 (by decide) ?_
        cases h
        refine A_sub (L' := [(0, .ref b), (1, .ref x), (2, .ref y), (3, .ref o), (4, .ref od), (5, .int l5)]) [2, 3, 4, 5, 6, 7] rfl ?_
        refine A_widen (k' := (k0 + 8)) (n' := (n0 + 48)) (by omega) (by omega) ?_
        exact K k2_0 ((n2 _ (by omega)).trans k1_0) (fun q z0 z1 => ((n2 q z0).trans (n1 q z1)))
      · refine A_iconst (v := 0) X dL_law_2289 (by decide) ?_
        cases h
  · refine A_iconst (v := 0) X dL_law_2272 (by decide) ?_
    cases h
set_option maxHeartbeats 8000000 in
set_option maxRecDepth 100000 in
theorem c_W41 {E : KE} {p : Program} {l : Launch} {e : Env} {s : State} {m : MethodId} {b L9 : Nat} {xs : Nat → Int32} {below : List Frame} {meth : Method} {c : Code} {hp : Hp} {k0 n0 : Nat} {Q : State → Prop} {N : Nat} {x : Nat} {y : Nat} {o : Nat} {od : Nat} {sd : Int32} {mn : Int32} {th : Int32} {dc : Int32} {fc : Nat → Int32} {dw : Nat → Int32} {m_undoable : Int32} {m_undoStart : Int32} {m_thrown : Int32} {m_oftenAll : Int32} {m_inputLength : Int32} {m_position : Int32} {m_start : Int32} {m_token : Int32} {m_value : Int32} {m_letters : Int32} {m_code : Int32} {m_place : Int32} {m_outputLength : Int32} {m_s : Nat → Int32} {ov : Nat → Int64} {l5 : Int32} {out : Int32 × (Nat → Int64)} (X : CX E p l s m #[Value.ref b] meth c "DiceAuditLaw" cL_law 10) (hX : va_X b L9 xs s s.heap) (hbl : b < s.heap.size) (hbA : ¬ kA E b) (hi1 : vp_in (l5 + 1) L9) (hi2 : vp_in (l5 + 2) L9) (hi3 : vp_in (l5 + 3) L9) (hi4 : vp_in (l5 + 4) L9) (hi5 : vp_in (l5 + 5) L9) (hRk : k0 + 8 ≤ room_1.cells) (hRn : n0 + 48 ≤ room_1.slots) (g0 : hp x = some (.inr (10, [.ref (x + 126), .ref (x + 128), .ref (x + 1), .ref (x + 3), .ref (x + 16), .ref (x + 18), .ref (x + 124), .ref (x + 125)]))) (g3 : hp (x + 3) = some (.inr (2, [.ref (x + 4), .ref (x + 7), .ref (x + 10), .ref (x + 13), .int sd, .int mn, .int th]))) (g4 : hp (x + 4) = some (.inr (0, [.ref (x + 5), .ref (x + 6), .int dc]))) (g5 : hp (x + 5) = some (.inl (kC E 0, 6, .inl fc))) (g6 : hp (x + 6) = some (.inl (kC E 0, 72, .inl dw))) (g39 : hp y = some (.inr (11, [.ref (y + 1), .ref (y + 2), .ref (y + 3), .ref (y + 4), .ref (y + 5), .int m_undoable, .int m_undoStart, .int m_thrown, .ref (y + 6), .int m_oftenAll, .ref (y + 7), .int m_inputLength, .int m_position, .int m_start, .int m_token, .int m_value, .int m_letters, .int m_code, .int m_place, .ref (y + 8), .int m_outputLength]))) (g40 : hp (y + 1) = some (.inl (kC E 0, 1399, .inl m_s))) (g48 : hp o = some (.inl (kC E 1, 1, .inr (.inl ov)))) (hz0 : (x + 7) ≤ y ∨ (y + 2) ≤ x) (hz1 : (x + 7) ≤ o ∨ (o + 1) ≤ x) (hz2 : (y + 2) ≤ o ∨ (o + 1) ≤ y) (h : f_W41 N xs l5 sd dc fc dw m_s m_thrown ov = some out) (K : ∀ {hp' : Hp}, hp' y = some (.inr (11, [.ref (y + 1), .ref (y + 2), .ref (y + 3), .ref (y + 4), .ref (y + 5), .int m_undoable, .int m_undoStart, .int out.1, .ref (y + 6), .int m_oftenAll, .ref (y + 7), .int m_inputLength, .int m_position, .int m_start, .int m_token, .int m_value, .int m_letters, .int m_code, .int m_place, .ref (y + 8), .int m_outputLength])) → hp' o = some (.inl (kC E 1, 1, .inr (.inl out.2))) → (∀ q, q ≠ y → q ≠ o → hp' q = hp q) → AW E p l e room_1 s m #[Value.ref b] below meth c 10 Q hp' none (k0 + 8) (n0 + 48) 3407 [(0, .ref b), (1, .ref x), (2, .ref y), (3, .ref o), (4, .ref od), (5, .int l5)] []) : AW E p l e room_1 s m #[Value.ref b] below meth c 10 Q hp none (k0 + 0) (n0 + 0) 2294 [(0, .ref b), (1, .ref x), (2, .ref y), (3, .ref o), (4, .ref od), (5, .int l5)] [] := by
  unfold f_W41 at h
  refine A_aload_n X dL_law_2294 1 rfl ?_
  refine A_aload_n X dL_law_2295 0 rfl ?_
  refine A_iload X dL_law_2296 5 rfl ?_
  refine A_iconst (v := 1) X dL_law_2298 (by decide) ?_
  refine A_iadd X dL_law_2299 ?_
  refine A_sld X hX hbl hbA hi1 dL_law_2300 ?_
  refine A_aload_n X dL_law_2301 3 rfl ?_
  obtain ⟨t1, hct1, h⟩ := bind_o h
  refine A_cX (k' := (k0 + 1)) (n' := (n0 + 6)) rfl rfl (A_runSH (rest := []) X dL_law_2302 (c_L_nextFace g0 g3 g4 g5 g6 g48 (by omega) hct1) kY_L_nextFace kw_1240 ⟨(Nat.le_of_ble_eq_true rfl), (Nat.le_of_ble_eq_true rfl), kb rfl hRk, kb rfl hRn⟩ rfl (Nat.le_of_ble_eq_true rfl)) (fun C hp1 hP => hP.elim) (fun v9 hp1 al9 hP => ?_)
  obtain ⟨rfl, k1_0, n1, rfl⟩ := hP
  replace k1_0 : hp1 o = some (.inl (kC E 1, 1, .inr (.inl t1.2))) := k1_0
  refine A_st (st' := [.int t1.1]) rfl ?_
  refine A_istore (L' := [(6, .int t1.1), (0, .ref b), (1, .ref x), (2, .ref y), (3, .ref o), (4, .ref od), (5, .int l5)]) X dL_law_2305 (by decide) rfl ?_
  refine A_aload_n X dL_law_2307 3 rfl ?_
  refine A_aload_n X dL_law_2308 1 rfl ?_
  refine A_iload X dL_law_2309 6 rfl ?_
  refine A_iconst (v := 1) X dL_law_2311 (by decide) ?_
  refine A_iadd X dL_law_2312 ?_
  refine A_sld X hX hbl hbA hi1 dL_law_2313 ?_
  obtain ⟨t2, hct2, h⟩ := bind_o h
  refine A_c (k' := (k0 + 1)) (n' := (n0 + 6)) rfl rfl (A_runV (rest := []) X dL_law_2314 (c_X11_nextFace ((n1 _ (by omega)).trans g39) ((n1 _ (by omega)).trans g40)  hct2) kY_X11_nextFace kw_1911 ((n1 _ (by omega)).trans g39) rfl rfl ⟨(Nat.le_of_ble_eq_true rfl), (Nat.le_of_ble_eq_true rfl), kb rfl hRk, kb rfl hRn⟩ rfl (Nat.le_of_ble_eq_true rfl)) (fun v9 hp2 al9 hP => ?_)
  obtain ⟨rfl, k2_0, n2, rfl⟩ := hP
  replace k2_0 : hp2 y = some (.inr (11, [.ref (y + 1), .ref (y + 2), .ref (y + 3), .ref (y + 4), .ref (y + 5), .int m_undoable, .int m_undoStart, .int t2.2, .ref (y + 6), .int m_oftenAll, .ref (y + 7), .int m_inputLength, .int m_position, .int m_start, .int m_token, .int m_value, .int m_letters, .int m_code, .int m_place, .ref (y + 8), .int m_outputLength])) := k2_0
  refine A_st (st' := [.int t2.1]) rfl ?_
  refine A_istore (L' := [(7, .int t2.1), (6, .int t1.1), (0, .ref b), (1, .ref x), (2, .ref y), (3, .ref o), (4, .ref od), (5, .int l5)]) X dL_law_2317 (by decide) rfl ?_
  refine A_aload_n X dL_law_2319 4 rfl ?_
  obtain ⟨t3, hct3, h⟩ := bind_o h
  refine A_cp (k' := (k0 + 1)) (n' := (n0 + 6)) (A_runV (rest := []) X dL_law_2320 (c_X11_thrown k2_0  hct3) kY_X11_thrown kw_1668 k2_0 rfl rfl ⟨(Nat.le_of_ble_eq_true rfl), (Nat.le_of_ble_eq_true rfl), kb rfl hRk, kb rfl hRn⟩ rfl (Nat.le_of_ble_eq_true rfl)) rfl rfl ?_
  refine A_iload X dL_law_2323 1 rfl ?_
  refine A_icmp_eq (tgt := 2330) X dL_law_2325 h (by decide) (fun hc h => ?_) (fun hc h => ?_)
  · refine A_iload X dL_law_2330 1 rfl ?_
    refine A_if_ne (tgt := 2347) X dL_law_2332 h (by decide) (fun hc h => ?_) (fun hc h => ?_)
    · refine A_goto (tgt := 3407) X dL_law_2347 (by decide) ?_
      cases h
      refine A_sub (L' := [(0, .ref b), (1, .ref x), (2, .ref y), (3, .ref o), (4, .ref od), (5, .int l5)]) [2, 3, 4, 5, 6, 7] rfl ?_
      refine A_widen (k' := (k0 + 8)) (n' := (n0 + 48)) (by omega) (by omega) ?_
      exact K k2_0 ((n2 _ (by omega)).trans k1_0) (fun q z0 z1 => ((n2 q z0).trans (n1 q z1)))
    · refine A_aload_n X dL_law_2335 5 rfl ?_
      refine A_iconst (v := 0) X dL_law_2336 (by decide) ?_
      refine A_lald X dL_law_2337 ((n2 _ (by omega)).trans k1_0) (by decide) ?_
      refine A_iload X dL_law_2338 0 rfl ?_
      refine A_i2l X dL_law_2340 ?_
      refine A_lcmp X dL_law_2341 ?_
      refine A_if_eq (tgt := 2347) X dL_law_2342 h (by decide) (fun hc h => ?_) (fun hc h => ?_)
      · refine A_goto (tgt := 3407) X dL_law_2347 (by decide) ?_
        cases h
        refine A_sub (L' := [(0, .ref b), (1, .ref x), (2, .ref y), (3, .ref o), (4, .ref od), (5, .int l5)]) [2, 3, 4, 5, 6, 7] rfl ?_
        refine A_widen (k' := (k0 + 8)) (n' := (n0 + 48)) (by omega) (by omega) ?_
        exact K k2_0 ((n2 _ (by omega)).trans k1_0) (fun q z0 z1 => ((n2 q z0).trans (n1 q z1)))
      · refine A_iconst (v := 0) X dL_law_2345 (by decide) ?_
        cases h
  · refine A_iconst (v := 0) X dL_law_2328 (by decide) ?_
    cases h
set_option maxHeartbeats 8000000 in
set_option maxRecDepth 100000 in
theorem c_W42 {E : KE} {p : Program} {l : Launch} {e : Env} {s : State} {m : MethodId} {b L9 : Nat} {xs : Nat → Int32} {below : List Frame} {meth : Method} {c : Code} {hp : Hp} {k0 n0 : Nat} {Q : State → Prop} {N : Nat} {x : Nat} {y : Nat} {o : Nat} {od : Nat} {sd : Int32} {mn : Int32} {th : Int32} {dc : Int32} {fc : Nat → Int32} {dw : Nat → Int32} {m_undoable : Int32} {m_undoStart : Int32} {m_thrown : Int32} {m_oftenAll : Int32} {m_inputLength : Int32} {m_position : Int32} {m_start : Int32} {m_token : Int32} {m_value : Int32} {m_letters : Int32} {m_code : Int32} {m_place : Int32} {m_outputLength : Int32} {m_s : Nat → Int32} {ov : Nat → Int64} {l5 : Int32} {out : Int32 × (Nat → Int64)} (X : CX E p l s m #[Value.ref b] meth c "DiceAuditLaw" cL_law 10) (hX : va_X b L9 xs s s.heap) (hbl : b < s.heap.size) (hbA : ¬ kA E b) (hi1 : vp_in (l5 + 1) L9) (hi2 : vp_in (l5 + 2) L9) (hi3 : vp_in (l5 + 3) L9) (hi4 : vp_in (l5 + 4) L9) (hi5 : vp_in (l5 + 5) L9) (hRk : k0 + 8 ≤ room_1.cells) (hRn : n0 + 48 ≤ room_1.slots) (g0 : hp x = some (.inr (10, [.ref (x + 126), .ref (x + 128), .ref (x + 1), .ref (x + 3), .ref (x + 16), .ref (x + 18), .ref (x + 124), .ref (x + 125)]))) (g3 : hp (x + 3) = some (.inr (2, [.ref (x + 4), .ref (x + 7), .ref (x + 10), .ref (x + 13), .int sd, .int mn, .int th]))) (g4 : hp (x + 4) = some (.inr (0, [.ref (x + 5), .ref (x + 6), .int dc]))) (g5 : hp (x + 5) = some (.inl (kC E 0, 6, .inl fc))) (g6 : hp (x + 6) = some (.inl (kC E 0, 72, .inl dw))) (g39 : hp y = some (.inr (11, [.ref (y + 1), .ref (y + 2), .ref (y + 3), .ref (y + 4), .ref (y + 5), .int m_undoable, .int m_undoStart, .int m_thrown, .ref (y + 6), .int m_oftenAll, .ref (y + 7), .int m_inputLength, .int m_position, .int m_start, .int m_token, .int m_value, .int m_letters, .int m_code, .int m_place, .ref (y + 8), .int m_outputLength]))) (g40 : hp (y + 1) = some (.inl (kC E 0, 1399, .inl m_s))) (g48 : hp o = some (.inl (kC E 1, 1, .inr (.inl ov)))) (hz0 : (x + 7) ≤ y ∨ (y + 2) ≤ x) (hz1 : (x + 7) ≤ o ∨ (o + 1) ≤ x) (hz2 : (y + 2) ≤ o ∨ (o + 1) ≤ y) (h : f_W42 N xs l5 sd dc fc dw m_s m_thrown ov = some out) (K : ∀ {hp' : Hp}, hp' y = some (.inr (11, [.ref (y + 1), .ref (y + 2), .ref (y + 3), .ref (y + 4), .ref (y + 5), .int m_undoable, .int m_undoStart, .int out.1, .ref (y + 6), .int m_oftenAll, .ref (y + 7), .int m_inputLength, .int m_position, .int m_start, .int m_token, .int m_value, .int m_letters, .int m_code, .int m_place, .ref (y + 8), .int m_outputLength])) → hp' o = some (.inl (kC E 1, 1, .inr (.inl out.2))) → (∀ q, q ≠ y → q ≠ o → hp' q = hp q) → AW E p l e room_1 s m #[Value.ref b] below meth c 10 Q hp' none (k0 + 8) (n0 + 48) 3407 [(0, .ref b), (1, .ref x), (2, .ref y), (3, .ref o), (4, .ref od), (5, .int l5)] []) : AW E p l e room_1 s m #[Value.ref b] below meth c 10 Q hp none (k0 + 0) (n0 + 0) 2350 [(0, .ref b), (1, .ref x), (2, .ref y), (3, .ref o), (4, .ref od), (5, .int l5)] [] := by
  unfold f_W42 at h
  refine A_aload_n X dL_law_2350 1 rfl ?_
  refine A_aload_n X dL_law_2351 0 rfl ?_
  refine A_iload X dL_law_2352 5 rfl ?_
  refine A_iconst (v := 1) X dL_law_2354 (by decide) ?_
  refine A_iadd X dL_law_2355 ?_
  refine A_sld X hX hbl hbA hi1 dL_law_2356 ?_
  refine A_aload_n X dL_law_2357 0 rfl ?_
  refine A_iload X dL_law_2358 5 rfl ?_
  refine A_iconst (v := 2) X dL_law_2360 (by decide) ?_
  refine A_iadd X dL_law_2361 ?_
  refine A_sld X hX hbl hbA hi2 dL_law_2362 ?_
  refine A_aload_n X dL_law_2363 3 rfl ?_
  obtain ⟨t1, hct1, h⟩ := bind_o h
  refine A_cX (k' := (k0 + 2)) (n' := (n0 + 12)) rfl rfl (A_runSH (rest := []) X dL_law_2364 (c_L_faceAfter g0 g3 g4 g5 g6 g48 (by omega) hct1) kY_L_faceAfter kw_1249 ⟨(Nat.le_of_ble_eq_true rfl), (Nat.le_of_ble_eq_true rfl), kb rfl hRk, kb rfl hRn⟩ rfl (Nat.le_of_ble_eq_true rfl)) (fun C hp1 hP => hP.elim) (fun v9 hp1 al9 hP => ?_)
  obtain ⟨rfl, k1_0, n1, rfl⟩ := hP
  replace k1_0 : hp1 o = some (.inl (kC E 1, 1, .inr (.inl t1.2))) := k1_0
  refine A_st (st' := [.int t1.1]) rfl ?_
  refine A_istore (L' := [(6, .int t1.1), (0, .ref b), (1, .ref x), (2, .ref y), (3, .ref o), (4, .ref od), (5, .int l5)]) X dL_law_2367 (by decide) rfl ?_
  refine A_aload_n X dL_law_2369 3 rfl ?_
  refine A_aload_n X dL_law_2370 1 rfl ?_
  refine A_iload X dL_law_2371 6 rfl ?_
  refine A_iconst (v := 1) X dL_law_2373 (by decide) ?_
  refine A_iadd X dL_law_2374 ?_
  refine A_sld X hX hbl hbA hi1 dL_law_2375 ?_
  refine A_aload_n X dL_law_2376 1 rfl ?_
  refine A_iload X dL_law_2377 6 rfl ?_
  refine A_iconst (v := 2) X dL_law_2379 (by decide) ?_
  refine A_iadd X dL_law_2380 ?_
  refine A_sld X hX hbl hbA hi2 dL_law_2381 ?_
  obtain ⟨t2, hct2, h⟩ := bind_o h
  refine A_c (k' := (k0 + 2)) (n' := (n0 + 12)) rfl rfl (A_runV (rest := []) X dL_law_2382 (c_X11_faceAfter ((n1 _ (by omega)).trans g39) ((n1 _ (by omega)).trans g40)  hct2) kY_X11_faceAfter kw_1915 ((n1 _ (by omega)).trans g39) rfl rfl ⟨(Nat.le_of_ble_eq_true rfl), (Nat.le_of_ble_eq_true rfl), kb rfl hRk, kb rfl hRn⟩ rfl (Nat.le_of_ble_eq_true rfl)) (fun v9 hp2 al9 hP => ?_)
  obtain ⟨rfl, k2_0, n2, rfl⟩ := hP
  replace k2_0 : hp2 y = some (.inr (11, [.ref (y + 1), .ref (y + 2), .ref (y + 3), .ref (y + 4), .ref (y + 5), .int m_undoable, .int m_undoStart, .int t2.2, .ref (y + 6), .int m_oftenAll, .ref (y + 7), .int m_inputLength, .int m_position, .int m_start, .int m_token, .int m_value, .int m_letters, .int m_code, .int m_place, .ref (y + 8), .int m_outputLength])) := k2_0
  refine A_st (st' := [.int t2.1]) rfl ?_
  refine A_istore (L' := [(7, .int t2.1), (6, .int t1.1), (0, .ref b), (1, .ref x), (2, .ref y), (3, .ref o), (4, .ref od), (5, .int l5)]) X dL_law_2385 (by decide) rfl ?_
  refine A_aload_n X dL_law_2387 4 rfl ?_
  obtain ⟨t3, hct3, h⟩ := bind_o h
  refine A_cp (k' := (k0 + 2)) (n' := (n0 + 12)) (A_runV (rest := []) X dL_law_2388 (c_X11_thrown k2_0  hct3) kY_X11_thrown kw_1668 k2_0 rfl rfl ⟨(Nat.le_of_ble_eq_true rfl), (Nat.le_of_ble_eq_true rfl), kb rfl hRk, kb rfl hRn⟩ rfl (Nat.le_of_ble_eq_true rfl)) rfl rfl ?_
  refine A_iload X dL_law_2391 1 rfl ?_
  refine A_icmp_eq (tgt := 2398) X dL_law_2393 h (by decide) (fun hc h => ?_) (fun hc h => ?_)
  · refine A_iload X dL_law_2398 1 rfl ?_
    refine A_if_ne (tgt := 2415) X dL_law_2400 h (by decide) (fun hc h => ?_) (fun hc h => ?_)
    · refine A_goto (tgt := 3407) X dL_law_2415 (by decide) ?_
      cases h
      refine A_sub (L' := [(0, .ref b), (1, .ref x), (2, .ref y), (3, .ref o), (4, .ref od), (5, .int l5)]) [2, 3, 4, 5, 6, 7] rfl ?_
      refine A_widen (k' := (k0 + 8)) (n' := (n0 + 48)) (by omega) (by omega) ?_
      exact K k2_0 ((n2 _ (by omega)).trans k1_0) (fun q z0 z1 => ((n2 q z0).trans (n1 q z1)))
    · refine A_aload_n X dL_law_2403 5 rfl ?_
      refine A_iconst (v := 0) X dL_law_2404 (by decide) ?_
      refine A_lald X dL_law_2405 ((n2 _ (by omega)).trans k1_0) (by decide) ?_
      refine A_iload X dL_law_2406 0 rfl ?_
      refine A_i2l X dL_law_2408 ?_
      refine A_lcmp X dL_law_2409 ?_
      refine A_if_eq (tgt := 2415) X dL_law_2410 h (by decide) (fun hc h => ?_) (fun hc h => ?_)
      · refine A_goto (tgt := 3407) X dL_law_2415 (by decide) ?_
        cases h
        refine A_sub (L' := [(0, .ref b), (1, .ref x), (2, .ref y), (3, .ref o), (4, .ref od), (5, .int l5)]) [2, 3, 4, 5, 6, 7] rfl ?_
        refine A_widen (k' := (k0 + 8)) (n' := (n0 + 48)) (by omega) (by omega) ?_
        exact K k2_0 ((n2 _ (by omega)).trans k1_0) (fun q z0 z1 => ((n2 q z0).trans (n1 q z1)))
      · refine A_iconst (v := 0) X dL_law_2413 (by decide) ?_
        cases h
  · refine A_iconst (v := 0) X dL_law_2396 (by decide) ?_
    cases h
set_option maxHeartbeats 8000000 in
set_option maxRecDepth 100000 in
theorem c_W43 {E : KE} {p : Program} {l : Launch} {e : Env} {s : State} {m : MethodId} {b L9 : Nat} {xs : Nat → Int32} {below : List Frame} {meth : Method} {c : Code} {hp : Hp} {k0 n0 : Nat} {Q : State → Prop} {N : Nat} {x : Nat} {y : Nat} {o : Nat} {od : Nat} {sd : Int32} {mn : Int32} {th : Int32} {dc : Int32} {fc : Nat → Int32} {dw : Nat → Int32} {m_undoable : Int32} {m_undoStart : Int32} {m_thrown : Int32} {m_oftenAll : Int32} {m_inputLength : Int32} {m_position : Int32} {m_start : Int32} {m_token : Int32} {m_value : Int32} {m_letters : Int32} {m_code : Int32} {m_place : Int32} {m_outputLength : Int32} {m_s : Nat → Int32} {ov : Nat → Int64} {l5 : Int32} {out : Int32 × (Nat → Int64)} (X : CX E p l s m #[Value.ref b] meth c "DiceAuditLaw" cL_law 10) (hX : va_X b L9 xs s s.heap) (hbl : b < s.heap.size) (hbA : ¬ kA E b) (hi1 : vp_in (l5 + 1) L9) (hi2 : vp_in (l5 + 2) L9) (hi3 : vp_in (l5 + 3) L9) (hi4 : vp_in (l5 + 4) L9) (hi5 : vp_in (l5 + 5) L9) (hRk : k0 + 8 ≤ room_1.cells) (hRn : n0 + 48 ≤ room_1.slots) (g0 : hp x = some (.inr (10, [.ref (x + 126), .ref (x + 128), .ref (x + 1), .ref (x + 3), .ref (x + 16), .ref (x + 18), .ref (x + 124), .ref (x + 125)]))) (g3 : hp (x + 3) = some (.inr (2, [.ref (x + 4), .ref (x + 7), .ref (x + 10), .ref (x + 13), .int sd, .int mn, .int th]))) (g4 : hp (x + 4) = some (.inr (0, [.ref (x + 5), .ref (x + 6), .int dc]))) (g5 : hp (x + 5) = some (.inl (kC E 0, 6, .inl fc))) (g6 : hp (x + 6) = some (.inl (kC E 0, 72, .inl dw))) (g39 : hp y = some (.inr (11, [.ref (y + 1), .ref (y + 2), .ref (y + 3), .ref (y + 4), .ref (y + 5), .int m_undoable, .int m_undoStart, .int m_thrown, .ref (y + 6), .int m_oftenAll, .ref (y + 7), .int m_inputLength, .int m_position, .int m_start, .int m_token, .int m_value, .int m_letters, .int m_code, .int m_place, .ref (y + 8), .int m_outputLength]))) (g40 : hp (y + 1) = some (.inl (kC E 0, 1399, .inl m_s))) (g48 : hp o = some (.inl (kC E 1, 1, .inr (.inl ov)))) (hz0 : (x + 7) ≤ y ∨ (y + 2) ≤ x) (hz1 : (x + 7) ≤ o ∨ (o + 1) ≤ x) (hz2 : (y + 2) ≤ o ∨ (o + 1) ≤ y) (h : f_W43 N xs l5 sd dc fc dw m_s m_thrown ov = some out) (K : ∀ {hp' : Hp}, hp' y = some (.inr (11, [.ref (y + 1), .ref (y + 2), .ref (y + 3), .ref (y + 4), .ref (y + 5), .int m_undoable, .int m_undoStart, .int out.1, .ref (y + 6), .int m_oftenAll, .ref (y + 7), .int m_inputLength, .int m_position, .int m_start, .int m_token, .int m_value, .int m_letters, .int m_code, .int m_place, .ref (y + 8), .int m_outputLength])) → hp' o = some (.inl (kC E 1, 1, .inr (.inl out.2))) → (∀ q, q ≠ y → q ≠ o → hp' q = hp q) → AW E p l e room_1 s m #[Value.ref b] below meth c 10 Q hp' none (k0 + 8) (n0 + 48) 3407 [(0, .ref b), (1, .ref x), (2, .ref y), (3, .ref o), (4, .ref od), (5, .int l5)] []) : AW E p l e room_1 s m #[Value.ref b] below meth c 10 Q hp none (k0 + 0) (n0 + 0) 2418 [(0, .ref b), (1, .ref x), (2, .ref y), (3, .ref o), (4, .ref od), (5, .int l5)] [] := by
  unfold f_W43 at h
  refine A_aload_n X dL_law_2418 1 rfl ?_
  refine A_aload_n X dL_law_2419 0 rfl ?_
  refine A_iload X dL_law_2420 5 rfl ?_
  refine A_iconst (v := 1) X dL_law_2422 (by decide) ?_
  refine A_iadd X dL_law_2423 ?_
  refine A_sld X hX hbl hbA hi1 dL_law_2424 ?_
  refine A_aload_n X dL_law_2425 0 rfl ?_
  refine A_iload X dL_law_2426 5 rfl ?_
  refine A_iconst (v := 2) X dL_law_2428 (by decide) ?_
  refine A_iadd X dL_law_2429 ?_
  refine A_sld X hX hbl hbA hi2 dL_law_2430 ?_
  refine A_aload_n X dL_law_2431 3 rfl ?_
  obtain ⟨t1, hct1, h⟩ := bind_o h
  refine A_cX (k' := (k0 + 2)) (n' := (n0 + 12)) rfl rfl (A_runSH (rest := []) X dL_law_2432 (c_L_throwsUntil g0 g3 g4 g5 g6 g48 (by omega) hct1) kY_L_throwsUntil kw_1256 ⟨(Nat.le_of_ble_eq_true rfl), (Nat.le_of_ble_eq_true rfl), kb rfl hRk, kb rfl hRn⟩ rfl (Nat.le_of_ble_eq_true rfl)) (fun C hp1 hP => hP.elim) (fun v9 hp1 al9 hP => ?_)
  obtain ⟨rfl, k1_0, n1, rfl⟩ := hP
  replace k1_0 : hp1 o = some (.inl (kC E 1, 1, .inr (.inl t1.2))) := k1_0
  refine A_st (st' := [.int t1.1]) rfl ?_
  refine A_istore (L' := [(6, .int t1.1), (0, .ref b), (1, .ref x), (2, .ref y), (3, .ref o), (4, .ref od), (5, .int l5)]) X dL_law_2435 (by decide) rfl ?_
  refine A_aload_n X dL_law_2437 3 rfl ?_
  refine A_aload_n X dL_law_2438 1 rfl ?_
  refine A_iload X dL_law_2439 6 rfl ?_
  refine A_iconst (v := 1) X dL_law_2441 (by decide) ?_
  refine A_iadd X dL_law_2442 ?_
  refine A_sld X hX hbl hbA hi1 dL_law_2443 ?_
  refine A_aload_n X dL_law_2444 1 rfl ?_
  refine A_iload X dL_law_2445 6 rfl ?_
  refine A_iconst (v := 2) X dL_law_2447 (by decide) ?_
  refine A_iadd X dL_law_2448 ?_
  refine A_sld X hX hbl hbA hi2 dL_law_2449 ?_
  obtain ⟨t2, hct2, h⟩ := bind_o h
  refine A_c (k' := (k0 + 2)) (n' := (n0 + 12)) rfl rfl (A_runV (rest := []) X dL_law_2450 (c_X11_throwsUntil ((n1 _ (by omega)).trans g39) ((n1 _ (by omega)).trans g40)  hct2) kY_X11_throwsUntil kw_1919 ((n1 _ (by omega)).trans g39) rfl rfl ⟨(Nat.le_of_ble_eq_true rfl), (Nat.le_of_ble_eq_true rfl), kb rfl hRk, kb rfl hRn⟩ rfl (Nat.le_of_ble_eq_true rfl)) (fun v9 hp2 al9 hP => ?_)
  obtain ⟨rfl, k2_0, n2, rfl⟩ := hP
  replace k2_0 : hp2 y = some (.inr (11, [.ref (y + 1), .ref (y + 2), .ref (y + 3), .ref (y + 4), .ref (y + 5), .int m_undoable, .int m_undoStart, .int t2.2, .ref (y + 6), .int m_oftenAll, .ref (y + 7), .int m_inputLength, .int m_position, .int m_start, .int m_token, .int m_value, .int m_letters, .int m_code, .int m_place, .ref (y + 8), .int m_outputLength])) := k2_0
  refine A_st (st' := [.int t2.1]) rfl ?_
  refine A_istore (L' := [(7, .int t2.1), (6, .int t1.1), (0, .ref b), (1, .ref x), (2, .ref y), (3, .ref o), (4, .ref od), (5, .int l5)]) X dL_law_2453 (by decide) rfl ?_
  refine A_aload_n X dL_law_2455 4 rfl ?_
  obtain ⟨t3, hct3, h⟩ := bind_o h
  refine A_cp (k' := (k0 + 2)) (n' := (n0 + 12)) (A_runV (rest := []) X dL_law_2456 (c_X11_thrown k2_0  hct3) kY_X11_thrown kw_1668 k2_0 rfl rfl ⟨(Nat.le_of_ble_eq_true rfl), (Nat.le_of_ble_eq_true rfl), kb rfl hRk, kb rfl hRn⟩ rfl (Nat.le_of_ble_eq_true rfl)) rfl rfl ?_
  refine A_iload X dL_law_2459 1 rfl ?_
  refine A_icmp_eq (tgt := 2466) X dL_law_2461 h (by decide) (fun hc h => ?_) (fun hc h => ?_)
  · refine A_iload X dL_law_2466 1 rfl ?_
    refine A_if_ne (tgt := 2483) X dL_law_2468 h (by decide) (fun hc h => ?_) (fun hc h => ?_)
    · refine A_goto (tgt := 3407) X dL_law_2483 (by decide) ?_
      cases h
      refine A_sub (L' := [(0, .ref b), (1, .ref x), (2, .ref y), (3, .ref o), (4, .ref od), (5, .int l5)]) [2, 3, 4, 5, 6, 7] rfl ?_
      refine A_widen (k' := (k0 + 8)) (n' := (n0 + 48)) (by omega) (by omega) ?_
      exact K k2_0 ((n2 _ (by omega)).trans k1_0) (fun q z0 z1 => ((n2 q z0).trans (n1 q z1)))
    · refine A_aload_n X dL_law_2471 5 rfl ?_
      refine A_iconst (v := 0) X dL_law_2472 (by decide) ?_
      refine A_lald X dL_law_2473 ((n2 _ (by omega)).trans k1_0) (by decide) ?_
      refine A_iload X dL_law_2474 0 rfl ?_
      refine A_i2l X dL_law_2476 ?_
      refine A_lcmp X dL_law_2477 ?_
      refine A_if_eq (tgt := 2483) X dL_law_2478 h (by decide) (fun hc h => ?_) (fun hc h => ?_)
      · refine A_goto (tgt := 3407) X dL_law_2483 (by decide) ?_
        cases h
        refine A_sub (L' := [(0, .ref b), (1, .ref x), (2, .ref y), (3, .ref o), (4, .ref od), (5, .int l5)]) [2, 3, 4, 5, 6, 7] rfl ?_
        refine A_widen (k' := (k0 + 8)) (n' := (n0 + 48)) (by omega) (by omega) ?_
        exact K k2_0 ((n2 _ (by omega)).trans k1_0) (fun q z0 z1 => ((n2 q z0).trans (n1 q z1)))
      · refine A_iconst (v := 0) X dL_law_2481 (by decide) ?_
        cases h
  · refine A_iconst (v := 0) X dL_law_2464 (by decide) ?_
    cases h
set_option maxHeartbeats 8000000 in
set_option maxRecDepth 100000 in
theorem c_W44 {E : KE} {p : Program} {l : Launch} {e : Env} {s : State} {m : MethodId} {b L9 : Nat} {xs : Nat → Int32} {below : List Frame} {meth : Method} {c : Code} {hp : Hp} {k0 n0 : Nat} {Q : State → Prop} {N : Nat} {x : Nat} {y : Nat} {o : Nat} {od : Nat} {sd : Int32} {mn : Int32} {th : Int32} {dc : Int32} {fc : Nat → Int32} {dw : Nat → Int32} {pc : Int32} {tc : Int32} {fr : Nat → Int32} {fd : Int32} {fs : Int32} {ff : Nat → Int32} {m_undoable : Int32} {m_undoStart : Int32} {m_thrown : Int32} {m_oftenAll : Int32} {m_inputLength : Int32} {m_position : Int32} {m_start : Int32} {m_token : Int32} {m_value : Int32} {m_letters : Int32} {m_code : Int32} {m_place : Int32} {m_outputLength : Int32} {m_s : Nat → Int32} {m_often : Nat → Int32} {ov : Nat → Int64} {l5 : Int32} {out : Int32 × Int32 × (Nat → Int32) × Int32 × Int32 × (Nat → Int32) × (Nat → Int64)} (X : CX E p l s m #[Value.ref b] meth c "DiceAuditLaw" cL_law 10) (hX : va_X b L9 xs s s.heap) (hbl : b < s.heap.size) (hbA : ¬ kA E b) (hi1 : vp_in (l5 + 1) L9) (hi2 : vp_in (l5 + 2) L9) (hi3 : vp_in (l5 + 3) L9) (hi4 : vp_in (l5 + 4) L9) (hi5 : vp_in (l5 + 5) L9) (hRk : k0 + 8 ≤ room_1.cells) (hRn : n0 + 48 ≤ room_1.slots) (g0 : hp x = some (.inr (10, [.ref (x + 126), .ref (x + 128), .ref (x + 1), .ref (x + 3), .ref (x + 16), .ref (x + 18), .ref (x + 124), .ref (x + 125)]))) (g3 : hp (x + 3) = some (.inr (2, [.ref (x + 4), .ref (x + 7), .ref (x + 10), .ref (x + 13), .int sd, .int mn, .int th]))) (g4 : hp (x + 4) = some (.inr (0, [.ref (x + 5), .ref (x + 6), .int dc]))) (g5 : hp (x + 5) = some (.inl (kC E 0, 6, .inl fc))) (g6 : hp (x + 6) = some (.inl (kC E 0, 72, .inl dw))) (g7 : hp (x + 7) = some (.inr (7, [.ref (x + 8), .ref (x + 9), .int pc]))) (g10 : hp (x + 10) = some (.inr (4, [.ref (x + 11), .ref (x + 12), .int tc]))) (g12 : hp (x + 12) = some (.inl (kC E 0, 432, .inl fr))) (g16 : hp (x + 16) = some (.inr (1, [.ref (x + 17), .int fd, .int fs]))) (g17 : hp (x + 17) = some (.inl (kC E 0, 12, .inl ff))) (g39 : hp y = some (.inr (11, [.ref (y + 1), .ref (y + 2), .ref (y + 3), .ref (y + 4), .ref (y + 5), .int m_undoable, .int m_undoStart, .int m_thrown, .ref (y + 6), .int m_oftenAll, .ref (y + 7), .int m_inputLength, .int m_position, .int m_start, .int m_token, .int m_value, .int m_letters, .int m_code, .int m_place, .ref (y + 8), .int m_outputLength]))) (g40 : hp (y + 1) = some (.inl (kC E 0, 1399, .inl m_s))) (g45 : hp (y + 6) = some (.inl (kC E 0, 13, .inl m_often))) (g48 : hp o = some (.inl (kC E 1, 1, .inr (.inl ov)))) (hz0 : (x + 18) ≤ y ∨ (y + 7) ≤ x) (hz1 : (x + 18) ≤ o ∨ (o + 1) ≤ x) (hz2 : (y + 7) ≤ o ∨ (o + 1) ≤ y) (h : f_W44 N xs l5 sd dc fc dw pc fr m_s fd fs ff m_thrown m_oftenAll m_often ov = some out) (K : ∀ {hp' : Hp}, hp' (x + 16) = some (.inr (1, [.ref (x + 17), .int out.1, .int out.2.1])) → hp' (x + 17) = some (.inl (kC E 0, 12, .inl out.2.2.1)) → hp' y = some (.inr (11, [.ref (y + 1), .ref (y + 2), .ref (y + 3), .ref (y + 4), .ref (y + 5), .int m_undoable, .int m_undoStart, .int out.2.2.2.1, .ref (y + 6), .int out.2.2.2.2.1, .ref (y + 7), .int m_inputLength, .int m_position, .int m_start, .int m_token, .int m_value, .int m_letters, .int m_code, .int m_place, .ref (y + 8), .int m_outputLength])) → hp' (y + 6) = some (.inl (kC E 0, 13, .inl out.2.2.2.2.2.1)) → hp' o = some (.inl (kC E 1, 1, .inr (.inl out.2.2.2.2.2.2))) → (∀ q, q ≠ (x + 16) → q ≠ (x + 17) → q ≠ y → q ≠ (y + 6) → q ≠ o → hp' q = hp q) → AW E p l e room_1 s m #[Value.ref b] below meth c 10 Q hp' none (k0 + 8) (n0 + 48) 3407 [(0, .ref b), (1, .ref x), (2, .ref y), (3, .ref o), (4, .ref od), (5, .int l5)] []) : AW E p l e room_1 s m #[Value.ref b] below meth c 10 Q hp none (k0 + 0) (n0 + 0) 2486 [(0, .ref b), (1, .ref x), (2, .ref y), (3, .ref o), (4, .ref od), (5, .int l5)] [] := by
  unfold f_W44 at h
  refine A_aload_n X dL_law_2486 1 rfl ?_
  refine A_aload_n X dL_law_2487 0 rfl ?_
  refine A_iload X dL_law_2488 5 rfl ?_
  refine A_iconst (v := 1) X dL_law_2490 (by decide) ?_
  refine A_iadd X dL_law_2491 ?_
  refine A_sld X hX hbl hbA hi1 dL_law_2492 ?_
  refine A_aload_n X dL_law_2493 0 rfl ?_
  refine A_iload X dL_law_2494 5 rfl ?_
  refine A_iconst (v := 2) X dL_law_2496 (by decide) ?_
  refine A_iadd X dL_law_2497 ?_
  refine A_sld X hX hbl hbA hi2 dL_law_2498 ?_
  refine A_aload_n X dL_law_2499 0 rfl ?_
  refine A_iload X dL_law_2500 5 rfl ?_
  refine A_iconst (v := 3) X dL_law_2502 (by decide) ?_
  refine A_iadd X dL_law_2503 ?_
  refine A_sld X hX hbl hbA hi3 dL_law_2504 ?_
  refine A_aload_n X dL_law_2505 3 rfl ?_
  obtain ⟨t1, hct1, h⟩ := bind_o h
  refine A_cX (k' := (k0 + 3)) (n' := (n0 + 18)) rfl rfl (A_runSH (rest := []) X dL_law_2506 (c_L_scoreAfter g0 g3 g4 g5 g6 g7 g10 g12 g16 g17 g48 (by omega) hct1) kY_L_scoreAfter kw_1263 ⟨(Nat.le_of_ble_eq_true rfl), (Nat.le_of_ble_eq_true rfl), kb rfl hRk, kb rfl hRn⟩ rfl (Nat.le_of_ble_eq_true rfl)) (fun C hp1 hP => hP.elim) (fun v9 hp1 al9 hP => ?_)
  obtain ⟨rfl, k1_0, k1_1, k1_2, n1, rfl⟩ := hP
  replace k1_0 : hp1 (x + 16) = some (.inr (1, [.ref (x + 17), .int t1.2.1, .int t1.2.2.1])) := k1_0
  replace k1_1 : hp1 (x + 17) = some (.inl (kC E 0, 12, .inl t1.2.2.2.1)) := k1_1
  replace k1_2 : hp1 o = some (.inl (kC E 1, 1, .inr (.inl t1.2.2.2.2))) := k1_2
  refine A_st (st' := [.int t1.1]) rfl ?_
  refine A_istore (L' := [(6, .int t1.1), (0, .ref b), (1, .ref x), (2, .ref y), (3, .ref o), (4, .ref od), (5, .int l5)]) X dL_law_2509 (by decide) rfl ?_
  refine A_aload_n X dL_law_2511 3 rfl ?_
  refine A_aload_n X dL_law_2512 1 rfl ?_
  refine A_iload X dL_law_2513 6 rfl ?_
  refine A_iconst (v := 1) X dL_law_2515 (by decide) ?_
  refine A_iadd X dL_law_2516 ?_
  refine A_sld X hX hbl hbA hi1 dL_law_2517 ?_
  refine A_aload_n X dL_law_2518 1 rfl ?_
  refine A_iload X dL_law_2519 6 rfl ?_
  refine A_iconst (v := 2) X dL_law_2521 (by decide) ?_
  refine A_iadd X dL_law_2522 ?_
  refine A_sld X hX hbl hbA hi2 dL_law_2523 ?_
  refine A_aload_n X dL_law_2524 1 rfl ?_
  refine A_iload X dL_law_2525 6 rfl ?_
  refine A_iconst (v := 3) X dL_law_2527 (by decide) ?_
  refine A_iadd X dL_law_2528 ?_
  refine A_sld X hX hbl hbA hi3 dL_law_2529 ?_
  obtain ⟨t2, hct2, h⟩ := bind_o h
  refine A_c (k' := (k0 + 3)) (n' := (n0 + 18)) rfl rfl (A_runV (rest := []) X dL_law_2530 (c_X11_scoreAfter ((n1 _ (by omega) (by omega) (by omega)).trans g39) ((n1 _ (by omega) (by omega) (by omega)).trans g40) ((n1 _ (by omega) (by omega) (by omega)).trans g45)  hct2) kY_X11_scoreAfter kw_1923 ((n1 _ (by omega) (by omega) (by omega)).trans g39) rfl rfl ⟨(Nat.le_of_ble_eq_true rfl), (Nat.le_of_ble_eq_true rfl), kb rfl hRk, kb rfl hRn⟩ rfl (Nat.le_of_ble_eq_true rfl)) (fun v9 hp2 al9 hP => ?_)
  obtain ⟨rfl, k2_0, k2_1, n2, rfl⟩ := hP
  replace k2_0 : hp2 y = some (.inr (11, [.ref (y + 1), .ref (y + 2), .ref (y + 3), .ref (y + 4), .ref (y + 5), .int m_undoable, .int m_undoStart, .int t2.2.1, .ref (y + 6), .int t2.2.2.1, .ref (y + 7), .int m_inputLength, .int m_position, .int m_start, .int m_token, .int m_value, .int m_letters, .int m_code, .int m_place, .ref (y + 8), .int m_outputLength])) := k2_0
  replace k2_1 : hp2 (y + 6) = some (.inl (kC E 0, 13, .inl t2.2.2.2)) := k2_1
  refine A_st (st' := [.int t2.1]) rfl ?_
  refine A_istore (L' := [(7, .int t2.1), (6, .int t1.1), (0, .ref b), (1, .ref x), (2, .ref y), (3, .ref o), (4, .ref od), (5, .int l5)]) X dL_law_2533 (by decide) rfl ?_
  refine A_aload_n X dL_law_2535 4 rfl ?_
  obtain ⟨t3, hct3, h⟩ := bind_o h
  refine A_cp (k' := (k0 + 3)) (n' := (n0 + 18)) (A_runV (rest := []) X dL_law_2536 (c_X11_thrown k2_0  hct3) kY_X11_thrown kw_1668 k2_0 rfl rfl ⟨(Nat.le_of_ble_eq_true rfl), (Nat.le_of_ble_eq_true rfl), kb rfl hRk, kb rfl hRn⟩ rfl (Nat.le_of_ble_eq_true rfl)) rfl rfl ?_
  refine A_iload X dL_law_2539 1 rfl ?_
  refine A_icmp_eq (tgt := 2546) X dL_law_2541 h (by decide) (fun hc h => ?_) (fun hc h => ?_)
  · refine A_iload X dL_law_2546 1 rfl ?_
    refine A_if_ne (tgt := 2563) X dL_law_2548 h (by decide) (fun hc h => ?_) (fun hc h => ?_)
    · refine A_goto (tgt := 3407) X dL_law_2563 (by decide) ?_
      cases h
      refine A_sub (L' := [(0, .ref b), (1, .ref x), (2, .ref y), (3, .ref o), (4, .ref od), (5, .int l5)]) [2, 3, 4, 5, 6, 7] rfl ?_
      refine A_widen (k' := (k0 + 8)) (n' := (n0 + 48)) (by omega) (by omega) ?_
      exact K ((n2 _ (by omega) (by omega)).trans k1_0) ((n2 _ (by omega) (by omega)).trans k1_1) k2_0 k2_1 ((n2 _ (by omega) (by omega)).trans k1_2) (fun q z0 z1 z2 z3 z4 => ((n2 q z2 z3).trans (n1 q z0 z1 z4)))
    · refine A_aload_n X dL_law_2551 5 rfl ?_
      refine A_iconst (v := 0) X dL_law_2552 (by decide) ?_
      refine A_lald X dL_law_2553 ((n2 _ (by omega) (by omega)).trans k1_2) (by decide) ?_
      refine A_iload X dL_law_2554 0 rfl ?_
      refine A_i2l X dL_law_2556 ?_
      refine A_lcmp X dL_law_2557 ?_
      refine A_if_eq (tgt := 2563) X dL_law_2558 h (by decide) (fun hc h => ?_) (fun hc h => ?_)
      · refine A_goto (tgt := 3407) X dL_law_2563 (by decide) ?_
        cases h
        refine A_sub (L' := [(0, .ref b), (1, .ref x), (2, .ref y), (3, .ref o), (4, .ref od), (5, .int l5)]) [2, 3, 4, 5, 6, 7] rfl ?_
        refine A_widen (k' := (k0 + 8)) (n' := (n0 + 48)) (by omega) (by omega) ?_
        exact K ((n2 _ (by omega) (by omega)).trans k1_0) ((n2 _ (by omega) (by omega)).trans k1_1) k2_0 k2_1 ((n2 _ (by omega) (by omega)).trans k1_2) (fun q z0 z1 z2 z3 z4 => ((n2 q z2 z3).trans (n1 q z0 z1 z4)))
      · refine A_iconst (v := 0) X dL_law_2561 (by decide) ?_
        cases h
  · refine A_iconst (v := 0) X dL_law_2544 (by decide) ?_
    cases h
set_option maxHeartbeats 8000000 in
set_option maxRecDepth 100000 in
theorem c_W45 {E : KE} {p : Program} {l : Launch} {e : Env} {s : State} {m : MethodId} {b L9 : Nat} {xs : Nat → Int32} {below : List Frame} {meth : Method} {c : Code} {hp : Hp} {k0 n0 : Nat} {Q : State → Prop} {N : Nat} {x : Nat} {y : Nat} {o : Nat} {od : Nat} {sd : Int32} {mn : Int32} {th : Int32} {dc : Int32} {fc : Nat → Int32} {dw : Nat → Int32} {pc : Int32} {tc : Int32} {fr : Nat → Int32} {fd : Int32} {fs : Int32} {ff : Nat → Int32} {m_undoable : Int32} {m_undoStart : Int32} {m_thrown : Int32} {m_oftenAll : Int32} {m_inputLength : Int32} {m_position : Int32} {m_start : Int32} {m_token : Int32} {m_value : Int32} {m_letters : Int32} {m_code : Int32} {m_place : Int32} {m_outputLength : Int32} {m_s : Nat → Int32} {m_often : Nat → Int32} {ov : Nat → Int64} {l5 : Int32} {out : Int32 × Int32 × (Nat → Int32) × Int32 × Int32 × (Nat → Int32) × (Nat → Int64)} (X : CX E p l s m #[Value.ref b] meth c "DiceAuditLaw" cL_law 10) (hX : va_X b L9 xs s s.heap) (hbl : b < s.heap.size) (hbA : ¬ kA E b) (hi1 : vp_in (l5 + 1) L9) (hi2 : vp_in (l5 + 2) L9) (hi3 : vp_in (l5 + 3) L9) (hi4 : vp_in (l5 + 4) L9) (hi5 : vp_in (l5 + 5) L9) (hRk : k0 + 8 ≤ room_1.cells) (hRn : n0 + 48 ≤ room_1.slots) (g0 : hp x = some (.inr (10, [.ref (x + 126), .ref (x + 128), .ref (x + 1), .ref (x + 3), .ref (x + 16), .ref (x + 18), .ref (x + 124), .ref (x + 125)]))) (g3 : hp (x + 3) = some (.inr (2, [.ref (x + 4), .ref (x + 7), .ref (x + 10), .ref (x + 13), .int sd, .int mn, .int th]))) (g4 : hp (x + 4) = some (.inr (0, [.ref (x + 5), .ref (x + 6), .int dc]))) (g5 : hp (x + 5) = some (.inl (kC E 0, 6, .inl fc))) (g6 : hp (x + 6) = some (.inl (kC E 0, 72, .inl dw))) (g7 : hp (x + 7) = some (.inr (7, [.ref (x + 8), .ref (x + 9), .int pc]))) (g10 : hp (x + 10) = some (.inr (4, [.ref (x + 11), .ref (x + 12), .int tc]))) (g12 : hp (x + 12) = some (.inl (kC E 0, 432, .inl fr))) (g16 : hp (x + 16) = some (.inr (1, [.ref (x + 17), .int fd, .int fs]))) (g17 : hp (x + 17) = some (.inl (kC E 0, 12, .inl ff))) (g39 : hp y = some (.inr (11, [.ref (y + 1), .ref (y + 2), .ref (y + 3), .ref (y + 4), .ref (y + 5), .int m_undoable, .int m_undoStart, .int m_thrown, .ref (y + 6), .int m_oftenAll, .ref (y + 7), .int m_inputLength, .int m_position, .int m_start, .int m_token, .int m_value, .int m_letters, .int m_code, .int m_place, .ref (y + 8), .int m_outputLength]))) (g40 : hp (y + 1) = some (.inl (kC E 0, 1399, .inl m_s))) (g45 : hp (y + 6) = some (.inl (kC E 0, 13, .inl m_often))) (g48 : hp o = some (.inl (kC E 1, 1, .inr (.inl ov)))) (hz0 : (x + 18) ≤ y ∨ (y + 7) ≤ x) (hz1 : (x + 18) ≤ o ∨ (o + 1) ≤ x) (hz2 : (y + 7) ≤ o ∨ (o + 1) ≤ y) (h : f_W45 N xs l5 sd mn th dc fc dw pc fr m_s fd fs ff m_thrown m_oftenAll m_often ov = some out) (K : ∀ {hp' : Hp}, hp' (x + 16) = some (.inr (1, [.ref (x + 17), .int out.1, .int out.2.1])) → hp' (x + 17) = some (.inl (kC E 0, 12, .inl out.2.2.1)) → hp' y = some (.inr (11, [.ref (y + 1), .ref (y + 2), .ref (y + 3), .ref (y + 4), .ref (y + 5), .int m_undoable, .int m_undoStart, .int out.2.2.2.1, .ref (y + 6), .int out.2.2.2.2.1, .ref (y + 7), .int m_inputLength, .int m_position, .int m_start, .int m_token, .int m_value, .int m_letters, .int m_code, .int m_place, .ref (y + 8), .int m_outputLength])) → hp' (y + 6) = some (.inl (kC E 0, 13, .inl out.2.2.2.2.2.1)) → hp' o = some (.inl (kC E 1, 1, .inr (.inl out.2.2.2.2.2.2))) → (∀ q, q ≠ (x + 16) → q ≠ (x + 17) → q ≠ y → q ≠ (y + 6) → q ≠ o → hp' q = hp q) → AW E p l e room_1 s m #[Value.ref b] below meth c 10 Q hp' none (k0 + 8) (n0 + 48) 3407 [(0, .ref b), (1, .ref x), (2, .ref y), (3, .ref o), (4, .ref od), (5, .int l5)] []) : AW E p l e room_1 s m #[Value.ref b] below meth c 10 Q hp none (k0 + 0) (n0 + 0) 2566 [(0, .ref b), (1, .ref x), (2, .ref y), (3, .ref o), (4, .ref od), (5, .int l5)] [] := by
  unfold f_W45 at h
  refine A_aload_n X dL_law_2566 1 rfl ?_
  refine A_aload_n X dL_law_2567 0 rfl ?_
  refine A_iload X dL_law_2568 5 rfl ?_
  refine A_iconst (v := 1) X dL_law_2570 (by decide) ?_
  refine A_iadd X dL_law_2571 ?_
  refine A_sld X hX hbl hbA hi1 dL_law_2572 ?_
  refine A_aload_n X dL_law_2573 0 rfl ?_
  refine A_iload X dL_law_2574 5 rfl ?_
  refine A_iconst (v := 2) X dL_law_2576 (by decide) ?_
  refine A_iadd X dL_law_2577 ?_
  refine A_sld X hX hbl hbA hi2 dL_law_2578 ?_
  refine A_aload_n X dL_law_2579 3 rfl ?_
  obtain ⟨t1, hct1, h⟩ := bind_o h
  refine A_cX (k' := (k0 + 2)) (n' := (n0 + 12)) rfl rfl (A_runSH (rest := []) X dL_law_2580 (c_L_throwsUntilSuspicious g0 g3 g4 g5 g6 g7 g10 g12 g16 g17 g48 (by omega) hct1) kY_L_throwsUntilSuspicious kw_1290 ⟨(Nat.le_of_ble_eq_true rfl), (Nat.le_of_ble_eq_true rfl), kb rfl hRk, kb rfl hRn⟩ rfl (Nat.le_of_ble_eq_true rfl)) (fun C hp1 hP => hP.elim) (fun v9 hp1 al9 hP => ?_)
  obtain ⟨rfl, k1_0, k1_1, k1_2, n1, rfl⟩ := hP
  replace k1_0 : hp1 (x + 16) = some (.inr (1, [.ref (x + 17), .int t1.2.1, .int t1.2.2.1])) := k1_0
  replace k1_1 : hp1 (x + 17) = some (.inl (kC E 0, 12, .inl t1.2.2.2.1)) := k1_1
  replace k1_2 : hp1 o = some (.inl (kC E 1, 1, .inr (.inl t1.2.2.2.2))) := k1_2
  refine A_st (st' := [.int t1.1]) rfl ?_
  refine A_istore (L' := [(6, .int t1.1), (0, .ref b), (1, .ref x), (2, .ref y), (3, .ref o), (4, .ref od), (5, .int l5)]) X dL_law_2583 (by decide) rfl ?_
  refine A_aload_n X dL_law_2585 3 rfl ?_
  refine A_aload_n X dL_law_2586 1 rfl ?_
  refine A_iload X dL_law_2587 6 rfl ?_
  refine A_iconst (v := 1) X dL_law_2589 (by decide) ?_
  refine A_iadd X dL_law_2590 ?_
  refine A_sld X hX hbl hbA hi1 dL_law_2591 ?_
  refine A_aload_n X dL_law_2592 1 rfl ?_
  refine A_iload X dL_law_2593 6 rfl ?_
  refine A_iconst (v := 2) X dL_law_2595 (by decide) ?_
  refine A_iadd X dL_law_2596 ?_
  refine A_sld X hX hbl hbA hi2 dL_law_2597 ?_
  obtain ⟨t2, hct2, h⟩ := bind_o h
  refine A_c (k' := (k0 + 2)) (n' := (n0 + 12)) rfl rfl (A_runV (rest := []) X dL_law_2598 (c_X11_throwsUntilSuspicious ((n1 _ (by omega) (by omega) (by omega)).trans g39) ((n1 _ (by omega) (by omega) (by omega)).trans g40) ((n1 _ (by omega) (by omega) (by omega)).trans g45)  hct2) kY_X11_throwsUntilSuspicious kw_1931 ((n1 _ (by omega) (by omega) (by omega)).trans g39) rfl rfl ⟨(Nat.le_of_ble_eq_true rfl), (Nat.le_of_ble_eq_true rfl), kb rfl hRk, kb rfl hRn⟩ rfl (Nat.le_of_ble_eq_true rfl)) (fun v9 hp2 al9 hP => ?_)
  obtain ⟨rfl, k2_0, k2_1, n2, rfl⟩ := hP
  replace k2_0 : hp2 y = some (.inr (11, [.ref (y + 1), .ref (y + 2), .ref (y + 3), .ref (y + 4), .ref (y + 5), .int m_undoable, .int m_undoStart, .int t2.2.1, .ref (y + 6), .int t2.2.2.1, .ref (y + 7), .int m_inputLength, .int m_position, .int m_start, .int m_token, .int m_value, .int m_letters, .int m_code, .int m_place, .ref (y + 8), .int m_outputLength])) := k2_0
  replace k2_1 : hp2 (y + 6) = some (.inl (kC E 0, 13, .inl t2.2.2.2)) := k2_1
  refine A_st (st' := [.int t2.1]) rfl ?_
  refine A_istore (L' := [(7, .int t2.1), (6, .int t1.1), (0, .ref b), (1, .ref x), (2, .ref y), (3, .ref o), (4, .ref od), (5, .int l5)]) X dL_law_2601 (by decide) rfl ?_
  refine A_aload_n X dL_law_2603 4 rfl ?_
  obtain ⟨t3, hct3, h⟩ := bind_o h
  refine A_cp (k' := (k0 + 2)) (n' := (n0 + 12)) (A_runV (rest := []) X dL_law_2604 (c_X11_thrown k2_0  hct3) kY_X11_thrown kw_1668 k2_0 rfl rfl ⟨(Nat.le_of_ble_eq_true rfl), (Nat.le_of_ble_eq_true rfl), kb rfl hRk, kb rfl hRn⟩ rfl (Nat.le_of_ble_eq_true rfl)) rfl rfl ?_
  refine A_iload X dL_law_2607 1 rfl ?_
  refine A_icmp_eq (tgt := 2614) X dL_law_2609 h (by decide) (fun hc h => ?_) (fun hc h => ?_)
  · refine A_iload X dL_law_2614 1 rfl ?_
    refine A_if_ne (tgt := 2631) X dL_law_2616 h (by decide) (fun hc h => ?_) (fun hc h => ?_)
    · refine A_goto (tgt := 3407) X dL_law_2631 (by decide) ?_
      cases h
      refine A_sub (L' := [(0, .ref b), (1, .ref x), (2, .ref y), (3, .ref o), (4, .ref od), (5, .int l5)]) [2, 3, 4, 5, 6, 7] rfl ?_
      refine A_widen (k' := (k0 + 8)) (n' := (n0 + 48)) (by omega) (by omega) ?_
      exact K ((n2 _ (by omega) (by omega)).trans k1_0) ((n2 _ (by omega) (by omega)).trans k1_1) k2_0 k2_1 ((n2 _ (by omega) (by omega)).trans k1_2) (fun q z0 z1 z2 z3 z4 => ((n2 q z2 z3).trans (n1 q z0 z1 z4)))
    · refine A_aload_n X dL_law_2619 5 rfl ?_
      refine A_iconst (v := 0) X dL_law_2620 (by decide) ?_
      refine A_lald X dL_law_2621 ((n2 _ (by omega) (by omega)).trans k1_2) (by decide) ?_
      refine A_iload X dL_law_2622 0 rfl ?_
      refine A_i2l X dL_law_2624 ?_
      refine A_lcmp X dL_law_2625 ?_
      refine A_if_eq (tgt := 2631) X dL_law_2626 h (by decide) (fun hc h => ?_) (fun hc h => ?_)
      · refine A_goto (tgt := 3407) X dL_law_2631 (by decide) ?_
        cases h
        refine A_sub (L' := [(0, .ref b), (1, .ref x), (2, .ref y), (3, .ref o), (4, .ref od), (5, .int l5)]) [2, 3, 4, 5, 6, 7] rfl ?_
        refine A_widen (k' := (k0 + 8)) (n' := (n0 + 48)) (by omega) (by omega) ?_
        exact K ((n2 _ (by omega) (by omega)).trans k1_0) ((n2 _ (by omega) (by omega)).trans k1_1) k2_0 k2_1 ((n2 _ (by omega) (by omega)).trans k1_2) (fun q z0 z1 z2 z3 z4 => ((n2 q z2 z3).trans (n1 q z0 z1 z4)))
      · refine A_iconst (v := 0) X dL_law_2629 (by decide) ?_
        cases h
  · refine A_iconst (v := 0) X dL_law_2612 (by decide) ?_
    cases h
set_option maxHeartbeats 8000000 in
set_option maxRecDepth 100000 in
theorem c_W46 {E : KE} {p : Program} {l : Launch} {e : Env} {s : State} {m : MethodId} {b L9 : Nat} {xs : Nat → Int32} {below : List Frame} {meth : Method} {c : Code} {hp : Hp} {k0 n0 : Nat} {Q : State → Prop} {N : Nat} {x : Nat} {y : Nat} {o : Nat} {od : Nat} {sd : Int32} {mn : Int32} {th : Int32} {tc : Int32} {fr : Nat → Int32} {oc : Int32} {op : Nat → Int32} {os : Nat → Int32} {m_undoable : Int32} {m_undoStart : Int32} {m_thrown : Int32} {m_oftenAll : Int32} {m_inputLength : Int32} {m_position : Int32} {m_start : Int32} {m_token : Int32} {m_value : Int32} {m_letters : Int32} {m_code : Int32} {m_place : Int32} {m_outputLength : Int32} {m_s : Nat → Int32} {l5 : Int32} {out : Int32} (X : CX E p l s m #[Value.ref b] meth c "DiceAuditLaw" cL_law 10) (hX : va_X b L9 xs s s.heap) (hbl : b < s.heap.size) (hbA : ¬ kA E b) (hi1 : vp_in (l5 + 1) L9) (hi2 : vp_in (l5 + 2) L9) (hi3 : vp_in (l5 + 3) L9) (hi4 : vp_in (l5 + 4) L9) (hi5 : vp_in (l5 + 5) L9) (hRk : k0 + 8 ≤ room_1.cells) (hRn : n0 + 48 ≤ room_1.slots) (g0 : hp x = some (.inr (10, [.ref (x + 126), .ref (x + 128), .ref (x + 1), .ref (x + 3), .ref (x + 16), .ref (x + 18), .ref (x + 124), .ref (x + 125)]))) (g3 : hp (x + 3) = some (.inr (2, [.ref (x + 4), .ref (x + 7), .ref (x + 10), .ref (x + 13), .int sd, .int mn, .int th]))) (g10 : hp (x + 10) = some (.inr (4, [.ref (x + 11), .ref (x + 12), .int tc]))) (g12 : hp (x + 12) = some (.inl (kC E 0, 432, .inl fr))) (g13 : hp (x + 13) = some (.inr (6, [.ref (x + 14), .ref (x + 15), .int oc]))) (g14 : hp (x + 14) = some (.inl (kC E 0, 36, .inl op))) (g15 : hp (x + 15) = some (.inl (kC E 0, 36, .inl os))) (g39 : hp y = some (.inr (11, [.ref (y + 1), .ref (y + 2), .ref (y + 3), .ref (y + 4), .ref (y + 5), .int m_undoable, .int m_undoStart, .int m_thrown, .ref (y + 6), .int m_oftenAll, .ref (y + 7), .int m_inputLength, .int m_position, .int m_start, .int m_token, .int m_value, .int m_letters, .int m_code, .int m_place, .ref (y + 8), .int m_outputLength]))) (g40 : hp (y + 1) = some (.inl (kC E 0, 1399, .inl m_s))) (hz0 : (x + 16) ≤ y ∨ (y + 2) ≤ x) (h : f_W46 N xs l5 fr oc op os m_s m_thrown = some out) (K : ∀ {hp' : Hp}, hp' y = some (.inr (11, [.ref (y + 1), .ref (y + 2), .ref (y + 3), .ref (y + 4), .ref (y + 5), .int m_undoable, .int m_undoStart, .int out, .ref (y + 6), .int m_oftenAll, .ref (y + 7), .int m_inputLength, .int m_position, .int m_start, .int m_token, .int m_value, .int m_letters, .int m_code, .int m_place, .ref (y + 8), .int m_outputLength])) → (∀ q, q ≠ y → hp' q = hp q) → AW E p l e room_1 s m #[Value.ref b] below meth c 10 Q hp' none (k0 + 8) (n0 + 48) 3407 [(0, .ref b), (1, .ref x), (2, .ref y), (3, .ref o), (4, .ref od), (5, .int l5)] []) : AW E p l e room_1 s m #[Value.ref b] below meth c 10 Q hp none (k0 + 0) (n0 + 0) 2634 [(0, .ref b), (1, .ref x), (2, .ref y), (3, .ref o), (4, .ref od), (5, .int l5)] [] := by
  unfold f_W46 at h
  refine A_aload_n X dL_law_2634 1 rfl ?_
  obtain ⟨t1, hct1, h⟩ := bind_o h
  refine A_cp (k' := (k0 + 0)) (n' := (n0 + 0)) (A_runV (rest := []) X dL_law_2635 (c_X10_penanceNow g0 g3 g10 g12 g13 g14 g15  hct1) kY_X10_penanceNow kw_740 g0 rfl rfl ⟨(Nat.le_of_ble_eq_true rfl), (Nat.le_of_ble_eq_true rfl), kb rfl hRk, kb rfl hRn⟩ rfl (Nat.le_of_ble_eq_true rfl)) rfl rfl ?_
  refine A_aload_n X dL_law_2638 2 rfl ?_
  obtain ⟨t2, hct2, h⟩ := bind_o h
  refine A_c (k' := (k0 + 0)) (n' := (n0 + 0)) rfl rfl (A_runV (rest := [.int t1]) X dL_law_2639 (c_X11_penanceNow g39 g40  hct2) kY_X11_penanceNow kw_1935 g39 rfl rfl ⟨(Nat.le_of_ble_eq_true rfl), (Nat.le_of_ble_eq_true rfl), kb rfl hRk, kb rfl hRn⟩ rfl (Nat.le_of_ble_eq_true rfl)) (fun v9 hp1 al9 hP => ?_)
  obtain ⟨rfl, k1_0, n1, rfl⟩ := hP
  replace k1_0 : hp1 y = some (.inr (11, [.ref (y + 1), .ref (y + 2), .ref (y + 3), .ref (y + 4), .ref (y + 5), .int m_undoable, .int m_undoStart, .int t2.2, .ref (y + 6), .int m_oftenAll, .ref (y + 7), .int m_inputLength, .int m_position, .int m_start, .int m_token, .int m_value, .int m_letters, .int m_code, .int m_place, .ref (y + 8), .int m_outputLength])) := k1_0
  refine A_st (st' := [.int t2.1, .int t1]) rfl ?_
  refine A_icmp_eq (tgt := 3407) X dL_law_2642 h (by decide) (fun hc h => ?_) (fun hc h => ?_)
  · cases h
    refine A_sub (L' := [(0, .ref b), (1, .ref x), (2, .ref y), (3, .ref o), (4, .ref od), (5, .int l5)]) [0, 1, 2, 3, 4, 5] rfl ?_
    refine A_widen (k' := (k0 + 8)) (n' := (n0 + 48)) (by omega) (by omega) ?_
    exact K k1_0 (fun q z0 => (n1 q z0))
  · refine A_iconst (v := 0) X dL_law_2645 (by decide) ?_
    cases h
set_option maxHeartbeats 8000000 in
set_option maxRecDepth 100000 in
theorem c_W47 {E : KE} {p : Program} {l : Launch} {e : Env} {s : State} {m : MethodId} {b L9 : Nat} {xs : Nat → Int32} {below : List Frame} {meth : Method} {c : Code} {hp : Hp} {k0 n0 : Nat} {Q : State → Prop} {N : Nat} {x : Nat} {y : Nat} {o : Nat} {od : Nat} {sd : Int32} {mn : Int32} {th : Int32} {tc : Int32} {fr : Nat → Int32} {m_undoable : Int32} {m_undoStart : Int32} {m_thrown : Int32} {m_oftenAll : Int32} {m_inputLength : Int32} {m_position : Int32} {m_start : Int32} {m_token : Int32} {m_value : Int32} {m_letters : Int32} {m_code : Int32} {m_place : Int32} {m_outputLength : Int32} {m_s : Nat → Int32} {m_often : Nat → Int32} {l5 : Int32} {out : Int32 × Int32 × (Nat → Int32)} (X : CX E p l s m #[Value.ref b] meth c "DiceAuditLaw" cL_law 10) (hX : va_X b L9 xs s s.heap) (hbl : b < s.heap.size) (hbA : ¬ kA E b) (hi1 : vp_in (l5 + 1) L9) (hi2 : vp_in (l5 + 2) L9) (hi3 : vp_in (l5 + 3) L9) (hi4 : vp_in (l5 + 4) L9) (hi5 : vp_in (l5 + 5) L9) (hRk : k0 + 8 ≤ room_1.cells) (hRn : n0 + 48 ≤ room_1.slots) (g0 : hp x = some (.inr (10, [.ref (x + 126), .ref (x + 128), .ref (x + 1), .ref (x + 3), .ref (x + 16), .ref (x + 18), .ref (x + 124), .ref (x + 125)]))) (g3 : hp (x + 3) = some (.inr (2, [.ref (x + 4), .ref (x + 7), .ref (x + 10), .ref (x + 13), .int sd, .int mn, .int th]))) (g10 : hp (x + 10) = some (.inr (4, [.ref (x + 11), .ref (x + 12), .int tc]))) (g12 : hp (x + 12) = some (.inl (kC E 0, 432, .inl fr))) (g39 : hp y = some (.inr (11, [.ref (y + 1), .ref (y + 2), .ref (y + 3), .ref (y + 4), .ref (y + 5), .int m_undoable, .int m_undoStart, .int m_thrown, .ref (y + 6), .int m_oftenAll, .ref (y + 7), .int m_inputLength, .int m_position, .int m_start, .int m_token, .int m_value, .int m_letters, .int m_code, .int m_place, .ref (y + 8), .int m_outputLength]))) (g40 : hp (y + 1) = some (.inl (kC E 0, 1399, .inl m_s))) (g45 : hp (y + 6) = some (.inl (kC E 0, 13, .inl m_often))) (hz0 : (x + 13) ≤ y ∨ (y + 7) ≤ x) (h : f_W47 N xs l5 tc fr m_s m_thrown m_oftenAll m_often = some out) (K : ∀ {hp' : Hp}, hp' y = some (.inr (11, [.ref (y + 1), .ref (y + 2), .ref (y + 3), .ref (y + 4), .ref (y + 5), .int m_undoable, .int m_undoStart, .int out.1, .ref (y + 6), .int out.2.1, .ref (y + 7), .int m_inputLength, .int m_position, .int m_start, .int m_token, .int m_value, .int m_letters, .int m_code, .int m_place, .ref (y + 8), .int m_outputLength])) → hp' (y + 6) = some (.inl (kC E 0, 13, .inl out.2.2)) → (∀ q, q ≠ y → q ≠ (y + 6) → hp' q = hp q) → AW E p l e room_1 s m #[Value.ref b] below meth c 10 Q hp' none (k0 + 8) (n0 + 48) 3407 [(0, .ref b), (1, .ref x), (2, .ref y), (3, .ref o), (4, .ref od), (5, .int l5)] []) : AW E p l e room_1 s m #[Value.ref b] below meth c 10 Q hp none (k0 + 0) (n0 + 0) 2647 [(0, .ref b), (1, .ref x), (2, .ref y), (3, .ref o), (4, .ref od), (5, .int l5)] [] := by
  unfold f_W47 at h
  refine A_aload_n X dL_law_2647 1 rfl ?_
  obtain ⟨t1, hct1, h⟩ := bind_o h
  refine A_cp (k' := (k0 + 0)) (n' := (n0 + 0)) (A_runV (rest := []) X dL_law_2648 (c_X10_frequencyDifference g0 g3 g10 g12  hct1) kY_X10_frequencyDifference kw_745 g0 rfl rfl ⟨(Nat.le_of_ble_eq_true rfl), (Nat.le_of_ble_eq_true rfl), kb rfl hRk, kb rfl hRn⟩ rfl (Nat.le_of_ble_eq_true rfl)) rfl rfl ?_
  refine A_aload_n X dL_law_2651 2 rfl ?_
  obtain ⟨t2, hct2, h⟩ := bind_o h
  refine A_c (k' := (k0 + 0)) (n' := (n0 + 0)) rfl rfl (A_runV (rest := [.int t1]) X dL_law_2652 (c_X11_frequencyDifference g39 g40 g45  hct2) kY_X11_frequencyDifference kw_1939 g39 rfl rfl ⟨(Nat.le_of_ble_eq_true rfl), (Nat.le_of_ble_eq_true rfl), kb rfl hRk, kb rfl hRn⟩ rfl (Nat.le_of_ble_eq_true rfl)) (fun v9 hp1 al9 hP => ?_)
  obtain ⟨rfl, k1_0, k1_1, n1, rfl⟩ := hP
  replace k1_0 : hp1 y = some (.inr (11, [.ref (y + 1), .ref (y + 2), .ref (y + 3), .ref (y + 4), .ref (y + 5), .int m_undoable, .int m_undoStart, .int t2.2.1, .ref (y + 6), .int t2.2.2.1, .ref (y + 7), .int m_inputLength, .int m_position, .int m_start, .int m_token, .int m_value, .int m_letters, .int m_code, .int m_place, .ref (y + 8), .int m_outputLength])) := k1_0
  replace k1_1 : hp1 (y + 6) = some (.inl (kC E 0, 13, .inl t2.2.2.2)) := k1_1
  refine A_st (st' := [.int t2.1, .int t1]) rfl ?_
  refine A_icmp_eq (tgt := 3407) X dL_law_2655 h (by decide) (fun hc h => ?_) (fun hc h => ?_)
  · cases h
    refine A_sub (L' := [(0, .ref b), (1, .ref x), (2, .ref y), (3, .ref o), (4, .ref od), (5, .int l5)]) [0, 1, 2, 3, 4, 5] rfl ?_
    refine A_widen (k' := (k0 + 8)) (n' := (n0 + 48)) (by omega) (by omega) ?_
    exact K k1_0 k1_1 (fun q z0 z1 => (n1 q z0 z1))
  · refine A_iconst (v := 0) X dL_law_2658 (by decide) ?_
    cases h
set_option maxHeartbeats 8000000 in
set_option maxRecDepth 100000 in
theorem c_W48 {E : KE} {p : Program} {l : Launch} {e : Env} {s : State} {m : MethodId} {b L9 : Nat} {xs : Nat → Int32} {below : List Frame} {meth : Method} {c : Code} {hp : Hp} {k0 n0 : Nat} {Q : State → Prop} {N : Nat} {x : Nat} {y : Nat} {o : Nat} {od : Nat} {sd : Int32} {mn : Int32} {th : Int32} {pc : Int32} {tc : Int32} {en : Nat → Int32} {fr : Nat → Int32} {m_undoable : Int32} {m_undoStart : Int32} {m_thrown : Int32} {m_oftenAll : Int32} {m_inputLength : Int32} {m_position : Int32} {m_start : Int32} {m_token : Int32} {m_value : Int32} {m_letters : Int32} {m_code : Int32} {m_place : Int32} {m_outputLength : Int32} {m_s : Nat → Int32} {l5 : Int32} {out : Int32} (X : CX E p l s m #[Value.ref b] meth c "DiceAuditLaw" cL_law 10) (hX : va_X b L9 xs s s.heap) (hbl : b < s.heap.size) (hbA : ¬ kA E b) (hi1 : vp_in (l5 + 1) L9) (hi2 : vp_in (l5 + 2) L9) (hi3 : vp_in (l5 + 3) L9) (hi4 : vp_in (l5 + 4) L9) (hi5 : vp_in (l5 + 5) L9) (hRk : k0 + 8 ≤ room_1.cells) (hRn : n0 + 48 ≤ room_1.slots) (g0 : hp x = some (.inr (10, [.ref (x + 126), .ref (x + 128), .ref (x + 1), .ref (x + 3), .ref (x + 16), .ref (x + 18), .ref (x + 124), .ref (x + 125)]))) (g3 : hp (x + 3) = some (.inr (2, [.ref (x + 4), .ref (x + 7), .ref (x + 10), .ref (x + 13), .int sd, .int mn, .int th]))) (g7 : hp (x + 7) = some (.inr (7, [.ref (x + 8), .ref (x + 9), .int pc]))) (g10 : hp (x + 10) = some (.inr (4, [.ref (x + 11), .ref (x + 12), .int tc]))) (g11 : hp (x + 11) = some (.inl (kC E 0, 300, .inl en))) (g12 : hp (x + 12) = some (.inl (kC E 0, 432, .inl fr))) (g39 : hp y = some (.inr (11, [.ref (y + 1), .ref (y + 2), .ref (y + 3), .ref (y + 4), .ref (y + 5), .int m_undoable, .int m_undoStart, .int m_thrown, .ref (y + 6), .int m_oftenAll, .ref (y + 7), .int m_inputLength, .int m_position, .int m_start, .int m_token, .int m_value, .int m_letters, .int m_code, .int m_place, .ref (y + 8), .int m_outputLength]))) (g40 : hp (y + 1) = some (.inl (kC E 0, 1399, .inl m_s))) (hz0 : (x + 13) ≤ y ∨ (y + 2) ≤ x) (h : f_W48 N xs l5 pc tc en fr m_s m_thrown = some out) (K : ∀ {hp' : Hp}, hp' y = some (.inr (11, [.ref (y + 1), .ref (y + 2), .ref (y + 3), .ref (y + 4), .ref (y + 5), .int m_undoable, .int m_undoStart, .int out, .ref (y + 6), .int m_oftenAll, .ref (y + 7), .int m_inputLength, .int m_position, .int m_start, .int m_token, .int m_value, .int m_letters, .int m_code, .int m_place, .ref (y + 8), .int m_outputLength])) → (∀ q, q ≠ y → hp' q = hp q) → AW E p l e room_1 s m #[Value.ref b] below meth c 10 Q hp' none (k0 + 8) (n0 + 48) 3407 [(0, .ref b), (1, .ref x), (2, .ref y), (3, .ref o), (4, .ref od), (5, .int l5)] []) : AW E p l e room_1 s m #[Value.ref b] below meth c 10 Q hp none (k0 + 0) (n0 + 0) 2660 [(0, .ref b), (1, .ref x), (2, .ref y), (3, .ref o), (4, .ref od), (5, .int l5)] [] := by
  unfold f_W48 at h
  refine A_aload_n X dL_law_2660 1 rfl ?_
  obtain ⟨t1, hct1, h⟩ := bind_o h
  refine A_cp (k' := (k0 + 0)) (n' := (n0 + 0)) (A_runV (rest := []) X dL_law_2661 (c_X10_totalDifference g0 g3 g7 g10 g11 g12  hct1) kY_X10_totalDifference kw_753 g0 rfl rfl ⟨(Nat.le_of_ble_eq_true rfl), (Nat.le_of_ble_eq_true rfl), kb rfl hRk, kb rfl hRn⟩ rfl (Nat.le_of_ble_eq_true rfl)) rfl rfl ?_
  refine A_aload_n X dL_law_2664 2 rfl ?_
  obtain ⟨t2, hct2, h⟩ := bind_o h
  refine A_c (k' := (k0 + 0)) (n' := (n0 + 0)) rfl rfl (A_runV (rest := [.int t1]) X dL_law_2665 (c_X11_totalDifference g39 g40  hct2) kY_X11_totalDifference kw_1943 g39 rfl rfl ⟨(Nat.le_of_ble_eq_true rfl), (Nat.le_of_ble_eq_true rfl), kb rfl hRk, kb rfl hRn⟩ rfl (Nat.le_of_ble_eq_true rfl)) (fun v9 hp1 al9 hP => ?_)
  obtain ⟨rfl, k1_0, n1, rfl⟩ := hP
  replace k1_0 : hp1 y = some (.inr (11, [.ref (y + 1), .ref (y + 2), .ref (y + 3), .ref (y + 4), .ref (y + 5), .int m_undoable, .int m_undoStart, .int t2.2, .ref (y + 6), .int m_oftenAll, .ref (y + 7), .int m_inputLength, .int m_position, .int m_start, .int m_token, .int m_value, .int m_letters, .int m_code, .int m_place, .ref (y + 8), .int m_outputLength])) := k1_0
  refine A_st (st' := [.int t2.1, .int t1]) rfl ?_
  refine A_icmp_eq (tgt := 3407) X dL_law_2668 h (by decide) (fun hc h => ?_) (fun hc h => ?_)
  · cases h
    refine A_sub (L' := [(0, .ref b), (1, .ref x), (2, .ref y), (3, .ref o), (4, .ref od), (5, .int l5)]) [0, 1, 2, 3, 4, 5] rfl ?_
    refine A_widen (k' := (k0 + 8)) (n' := (n0 + 48)) (by omega) (by omega) ?_
    exact K k1_0 (fun q z0 => (n1 q z0))
  · refine A_iconst (v := 0) X dL_law_2671 (by decide) ?_
    cases h
set_option maxHeartbeats 8000000 in
set_option maxRecDepth 100000 in
theorem c_W49 {E : KE} {p : Program} {l : Launch} {e : Env} {s : State} {m : MethodId} {b L9 : Nat} {xs : Nat → Int32} {below : List Frame} {meth : Method} {c : Code} {hp : Hp} {k0 n0 : Nat} {Q : State → Prop} {N : Nat} {x : Nat} {y : Nat} {o : Nat} {od : Nat} {sd : Int32} {mn : Int32} {th : Int32} {tc : Int32} {en : Nat → Int32} {m_undoable : Int32} {m_undoStart : Int32} {m_thrown : Int32} {m_oftenAll : Int32} {m_inputLength : Int32} {m_position : Int32} {m_start : Int32} {m_token : Int32} {m_value : Int32} {m_letters : Int32} {m_code : Int32} {m_place : Int32} {m_outputLength : Int32} {m_s : Nat → Int32} {l5 : Int32} {out : Int32} (X : CX E p l s m #[Value.ref b] meth c "DiceAuditLaw" cL_law 10) (hX : va_X b L9 xs s s.heap) (hbl : b < s.heap.size) (hbA : ¬ kA E b) (hi1 : vp_in (l5 + 1) L9) (hi2 : vp_in (l5 + 2) L9) (hi3 : vp_in (l5 + 3) L9) (hi4 : vp_in (l5 + 4) L9) (hi5 : vp_in (l5 + 5) L9) (hRk : k0 + 8 ≤ room_1.cells) (hRn : n0 + 48 ≤ room_1.slots) (g0 : hp x = some (.inr (10, [.ref (x + 126), .ref (x + 128), .ref (x + 1), .ref (x + 3), .ref (x + 16), .ref (x + 18), .ref (x + 124), .ref (x + 125)]))) (g3 : hp (x + 3) = some (.inr (2, [.ref (x + 4), .ref (x + 7), .ref (x + 10), .ref (x + 13), .int sd, .int mn, .int th]))) (g10 : hp (x + 10) = some (.inr (4, [.ref (x + 11), .ref (x + 12), .int tc]))) (g11 : hp (x + 11) = some (.inl (kC E 0, 300, .inl en))) (g39 : hp y = some (.inr (11, [.ref (y + 1), .ref (y + 2), .ref (y + 3), .ref (y + 4), .ref (y + 5), .int m_undoable, .int m_undoStart, .int m_thrown, .ref (y + 6), .int m_oftenAll, .ref (y + 7), .int m_inputLength, .int m_position, .int m_start, .int m_token, .int m_value, .int m_letters, .int m_code, .int m_place, .ref (y + 8), .int m_outputLength]))) (g40 : hp (y + 1) = some (.inl (kC E 0, 1399, .inl m_s))) (hz0 : (x + 12) ≤ y ∨ (y + 2) ≤ x) (h : f_W49 N xs l5 tc en m_s m_thrown = some out) (K : ∀ {hp' : Hp}, hp' y = some (.inr (11, [.ref (y + 1), .ref (y + 2), .ref (y + 3), .ref (y + 4), .ref (y + 5), .int m_undoable, .int m_undoStart, .int out, .ref (y + 6), .int m_oftenAll, .ref (y + 7), .int m_inputLength, .int m_position, .int m_start, .int m_token, .int m_value, .int m_letters, .int m_code, .int m_place, .ref (y + 8), .int m_outputLength])) → (∀ q, q ≠ y → hp' q = hp q) → AW E p l e room_1 s m #[Value.ref b] below meth c 10 Q hp' none (k0 + 8) (n0 + 48) 3407 [(0, .ref b), (1, .ref x), (2, .ref y), (3, .ref o), (4, .ref od), (5, .int l5)] []) : AW E p l e room_1 s m #[Value.ref b] below meth c 10 Q hp none (k0 + 0) (n0 + 0) 2673 [(0, .ref b), (1, .ref x), (2, .ref y), (3, .ref o), (4, .ref od), (5, .int l5)] [] := by
  unfold f_W49 at h
  refine A_aload_n X dL_law_2673 1 rfl ?_
  obtain ⟨t1, hct1, h⟩ := bind_o h
  refine A_c (k' := (k0 + 0)) (n' := (n0 + 0)) rfl rfl (A_runV (rest := []) X dL_law_2674 (c_X10_fairShare g0 g3 g10 g11  hct1) kY_X10_fairShare kw_766 g0 rfl rfl ⟨(Nat.le_of_ble_eq_true rfl), (Nat.le_of_ble_eq_true rfl), kb rfl hRk, kb rfl hRn⟩ rfl (Nat.le_of_ble_eq_true rfl)) (fun v9 hp1 al9 hP => ?_)
  obtain ⟨rfl, rfl, rfl⟩ := hP
  refine A_st (st' := [.float t1]) rfl ?_
  obtain ⟨hq, h⟩ := gd_o h
  refine A_f2d X dL_law_2677 (isn64_o hq) ?_
  refine A_dstore (L' := [(6, .double (FP.f2d t1)), (0, .ref b), (1, .ref x), (2, .ref y), (3, .ref o), (4, .ref od), (5, .int l5)]) X dL_law_2678 (by decide) rfl ?_
  refine A_aload_n X dL_law_2680 3 rfl ?_
  obtain ⟨t2, hct2, h⟩ := bind_o h
  refine A_c (k' := (k0 + 0)) (n' := (n0 + 0)) rfl rfl (A_runV (rest := []) X dL_law_2681 (c_X11_fairShare g39 g40  hct2) kY_X11_fairShare kw_1947 g39 rfl rfl ⟨(Nat.le_of_ble_eq_true rfl), (Nat.le_of_ble_eq_true rfl), kb rfl hRk, kb rfl hRn⟩ rfl (Nat.le_of_ble_eq_true rfl)) (fun v9 hp1 al9 hP => ?_)
  obtain ⟨rfl, k1_0, n1, rfl⟩ := hP
  replace k1_0 : hp1 y = some (.inr (11, [.ref (y + 1), .ref (y + 2), .ref (y + 3), .ref (y + 4), .ref (y + 5), .int m_undoable, .int m_undoStart, .int t2.2, .ref (y + 6), .int m_oftenAll, .ref (y + 7), .int m_inputLength, .int m_position, .int m_start, .int m_token, .int m_value, .int m_letters, .int m_code, .int m_place, .ref (y + 8), .int m_outputLength])) := k1_0
  refine A_st (st' := [.float t2.1]) rfl ?_
  obtain ⟨hq, h⟩ := gd_o h
  refine A_f2d X dL_law_2684 (isn64_o hq) ?_
  refine A_dstore (L' := [(8, .double (FP.f2d t2.1)), (6, .double (FP.f2d t1)), (0, .ref b), (1, .ref x), (2, .ref y), (3, .ref o), (4, .ref od), (5, .int l5)]) X dL_law_2685 (by decide) rfl ?_
  refine A_dload X dL_law_2687 1 rfl ?_
  refine A_dload X dL_law_2689 0 rfl ?_
  refine A_dcmp X dL_law_2691 ?_
  refine A_if_eq (tgt := 2713) X dL_law_2692 h (by decide) (fun hc h => ?_) (fun hc h => ?_)
  · refine A_goto (tgt := 3407) X dL_law_2713 (by decide) ?_
    cases h
    refine A_sub (L' := [(0, .ref b), (1, .ref x), (2, .ref y), (3, .ref o), (4, .ref od), (5, .int l5)]) [2, 3, 4, 5, 6, 7] rfl ?_
    refine A_widen (k' := (k0 + 8)) (n' := (n0 + 48)) (by omega) (by omega) ?_
    exact K k1_0 (fun q z0 => (n1 q z0))
  · refine A_dload X dL_law_2695 1 rfl ?_
    refine A_dload X dL_law_2697 1 rfl ?_
    refine A_dcmp X dL_law_2699 ?_
    refine A_if_eq (tgt := 2711) X dL_law_2700 h (by decide) (fun hc h => ?_) (fun hc h => ?_)
    · refine A_iconst (v := 0) X dL_law_2711 (by decide) ?_
      cases h
    · refine A_dload X dL_law_2703 0 rfl ?_
      refine A_dload X dL_law_2705 0 rfl ?_
      refine A_dcmp X dL_law_2707 ?_
      refine A_if_ne (tgt := 2713) X dL_law_2708 h (by decide) (fun hc h => ?_) (fun hc h => ?_)
      · refine A_goto (tgt := 3407) X dL_law_2713 (by decide) ?_
        cases h
        refine A_sub (L' := [(0, .ref b), (1, .ref x), (2, .ref y), (3, .ref o), (4, .ref od), (5, .int l5)]) [2, 3, 4, 5, 6, 7] rfl ?_
        refine A_widen (k' := (k0 + 8)) (n' := (n0 + 48)) (by omega) (by omega) ?_
        exact K k1_0 (fun q z0 => (n1 q z0))
      · refine A_iconst (v := 0) X dL_law_2711 (by decide) ?_
        cases h
set_option maxHeartbeats 8000000 in
set_option maxRecDepth 100000 in
theorem c_W50 {E : KE} {p : Program} {l : Launch} {e : Env} {s : State} {m : MethodId} {b L9 : Nat} {xs : Nat → Int32} {below : List Frame} {meth : Method} {c : Code} {hp : Hp} {k0 n0 : Nat} {Q : State → Prop} {N : Nat} {x : Nat} {y : Nat} {o : Nat} {od : Nat} {v : Nat} {sd : Int32} {mn : Int32} {th : Int32} {dc : Int32} {fc : Nat → Int32} {dw : Nat → Int32} {pc : Int32} {ln : Nat → Int32} {lt : Nat → Int32} {tc : Int32} {en : Nat → Int32} {fr : Nat → Int32} {oc : Int32} {op : Nat → Int32} {os : Nat → Int32} {nx : Int32} {dp : Int32} {rws : Nat → Option Nat} {m_undoable : Int32} {m_undoStart : Int32} {m_thrown : Int32} {m_oftenAll : Int32} {m_inputLength : Int32} {m_position : Int32} {m_start : Int32} {m_token : Int32} {m_value : Int32} {m_letters : Int32} {m_code : Int32} {m_place : Int32} {m_outputLength : Int32} {m_s : Nat → Int32} {m_remembered : Nat → Int32} {ov : Nat → Int64} {v_sd : Int32} {v_mn : Int32} {v_th : Int32} {v_dc : Int32} {v_fc : Nat → Int32} {v_dw : Nat → Int32} {v_pc : Int32} {v_ln : Nat → Int32} {v_lt : Nat → Int32} {v_tc : Int32} {v_en : Nat → Int32} {v_fr : Nat → Int32} {v_oc : Int32} {v_op : Nat → Int32} {v_os : Nat → Int32} {l5 : Int32} {out : Int32 × Int32 × (Nat → Int32) × (Nat → Int32) × Int32 × Int32 × Int32 × Int32 × Int32 × (Nat → Int32) × (Nat → Int32) × (Nat → Int64) × Int32 × Int32 × Int32 × Int32 × (Nat → Int32) × (Nat → Int32) × Int32 × (Nat → Int32) × (Nat → Int32) × Int32 × (Nat → Int32) × (Nat → Int32) × Int32 × (Nat → Int32) × (Nat → Int32)} (X : CX E p l s m #[Value.ref b] meth c "DiceAuditLaw" cL_law 10) (hX : va_X b L9 xs s s.heap) (hbl : b < s.heap.size) (hbA : ¬ kA E b) (hi1 : vp_in (l5 + 1) L9) (hi2 : vp_in (l5 + 2) L9) (hi3 : vp_in (l5 + 3) L9) (hi4 : vp_in (l5 + 4) L9) (hi5 : vp_in (l5 + 5) L9) (hRk : k0 + 8 ≤ room_1.cells) (hRn : n0 + 48 ≤ room_1.slots) (g0 : hp x = some (.inr (10, [.ref (x + 126), .ref (x + 128), .ref (x + 1), .ref (x + 3), .ref (x + 16), .ref (x + 18), .ref (x + 124), .ref (x + 125)]))) (g3 : hp (x + 3) = some (.inr (2, [.ref (x + 4), .ref (x + 7), .ref (x + 10), .ref (x + 13), .int sd, .int mn, .int th]))) (g4 : hp (x + 4) = some (.inr (0, [.ref (x + 5), .ref (x + 6), .int dc]))) (g5 : hp (x + 5) = some (.inl (kC E 0, 6, .inl fc))) (g6 : hp (x + 6) = some (.inl (kC E 0, 72, .inl dw))) (g7 : hp (x + 7) = some (.inr (7, [.ref (x + 8), .ref (x + 9), .int pc]))) (g8 : hp (x + 8) = some (.inl (kC E 0, 6, .inl ln))) (g9 : hp (x + 9) = some (.inl (kC E 0, 24, .inl lt))) (g10 : hp (x + 10) = some (.inr (4, [.ref (x + 11), .ref (x + 12), .int tc]))) (g11 : hp (x + 11) = some (.inl (kC E 0, 300, .inl en))) (g12 : hp (x + 12) = some (.inl (kC E 0, 432, .inl fr))) (g13 : hp (x + 13) = some (.inr (6, [.ref (x + 14), .ref (x + 15), .int oc]))) (g14 : hp (x + 14) = some (.inl (kC E 0, 36, .inl op))) (g15 : hp (x + 15) = some (.inl (kC E 0, 36, .inl os))) (g18 : hp (x + 18) = some (.inr (3, [.ref (x + 19), .int nx, .int dp]))) (g19 : hp (x + 19) = some (.inl (kC E 5, 8, .inr (.inr (.inr (.inr rws)))))) (g39 : hp y = some (.inr (11, [.ref (y + 1), .ref (y + 2), .ref (y + 3), .ref (y + 4), .ref (y + 5), .int m_undoable, .int m_undoStart, .int m_thrown, .ref (y + 6), .int m_oftenAll, .ref (y + 7), .int m_inputLength, .int m_position, .int m_start, .int m_token, .int m_value, .int m_letters, .int m_code, .int m_place, .ref (y + 8), .int m_outputLength]))) (g40 : hp (y + 1) = some (.inl (kC E 0, 1399, .inl m_s))) (g42 : hp (y + 3) = some (.inl (kC E 0, 11192, .inl m_remembered))) (g48 : hp o = some (.inl (kC E 1, 1, .inr (.inl ov)))) (g50 : hp v = some (.inr (2, [.ref (v + 1), .ref (v + 4), .ref (v + 7), .ref (v + 10), .int v_sd, .int v_mn, .int v_th]))) (g51 : hp (v + 1) = some (.inr (0, [.ref (v + 2), .ref (v + 3), .int v_dc]))) (g52 : hp (v + 2) = some (.inl (kC E 0, 6, .inl v_fc))) (g53 : hp (v + 3) = some (.inl (kC E 0, 72, .inl v_dw))) (g54 : hp (v + 4) = some (.inr (7, [.ref (v + 5), .ref (v + 6), .int v_pc]))) (g55 : hp (v + 5) = some (.inl (kC E 0, 6, .inl v_ln))) (g56 : hp (v + 6) = some (.inl (kC E 0, 24, .inl v_lt))) (g57 : hp (v + 7) = some (.inr (4, [.ref (v + 8), .ref (v + 9), .int v_tc]))) (g58 : hp (v + 8) = some (.inl (kC E 0, 300, .inl v_en))) (g59 : hp (v + 9) = some (.inl (kC E 0, 432, .inl v_fr))) (g60 : hp (v + 10) = some (.inr (6, [.ref (v + 11), .ref (v + 12), .int v_oc]))) (g61 : hp (v + 11) = some (.inl (kC E 0, 36, .inl v_op))) (g62 : hp (v + 12) = some (.inl (kC E 0, 36, .inl v_os))) (hvv : rws (Int32.toNatClampNeg nx) = some v) (hlv : (x + 20) ≤ v) (huv : (v + 13) ≤ (x + 124)) (hz3 : (x + 20) ≤ y ∨ (y + 4) ≤ x) (hz4 : (x + 20) ≤ o ∨ (o + 1) ≤ x) (hz5 : (y + 4) ≤ o ∨ (o + 1) ≤ y) (hz6 : (y + 4) ≤ v ∨ (v + 13) ≤ y) (hz7 : (o + 1) ≤ v ∨ (v + 13) ≤ o) (h : f_W50 N xs l5 mn th dc fc dw pc ln lt oc op os sd tc en fr nx dp m_undoable m_undoStart m_thrown m_s m_remembered ov v_sd v_mn v_th v_dc v_fc v_dw v_pc v_ln v_lt v_tc v_en v_fr v_oc v_op v_os = some out) (K : ∀ {hp' : Hp}, hp' (x + 3) = some (.inr (2, [.ref (x + 4), .ref (x + 7), .ref (x + 10), .ref (x + 13), .int out.1, .int mn, .int th])) → hp' (x + 10) = some (.inr (4, [.ref (x + 11), .ref (x + 12), .int out.2.1])) → hp' (x + 11) = some (.inl (kC E 0, 300, .inl out.2.2.1)) → hp' (x + 12) = some (.inl (kC E 0, 432, .inl out.2.2.2.1)) → hp' (x + 18) = some (.inr (3, [.ref (x + 19), .int out.2.2.2.2.1, .int out.2.2.2.2.2.1])) → hp' y = some (.inr (11, [.ref (y + 1), .ref (y + 2), .ref (y + 3), .ref (y + 4), .ref (y + 5), .int out.2.2.2.2.2.2.1, .int out.2.2.2.2.2.2.2.1, .int out.2.2.2.2.2.2.2.2.1, .ref (y + 6), .int m_oftenAll, .ref (y + 7), .int m_inputLength, .int m_position, .int m_start, .int m_token, .int m_value, .int m_letters, .int m_code, .int m_place, .ref (y + 8), .int m_outputLength])) → hp' (y + 1) = some (.inl (kC E 0, 1399, .inl out.2.2.2.2.2.2.2.2.2.1)) → hp' (y + 3) = some (.inl (kC E 0, 11192, .inl out.2.2.2.2.2.2.2.2.2.2.1)) → hp' o = some (.inl (kC E 1, 1, .inr (.inl out.2.2.2.2.2.2.2.2.2.2.2.1))) → hp' v = some (.inr (2, [.ref (v + 1), .ref (v + 4), .ref (v + 7), .ref (v + 10), .int out.2.2.2.2.2.2.2.2.2.2.2.2.1, .int out.2.2.2.2.2.2.2.2.2.2.2.2.2.1, .int out.2.2.2.2.2.2.2.2.2.2.2.2.2.2.1])) → hp' (v + 1) = some (.inr (0, [.ref (v + 2), .ref (v + 3), .int out.2.2.2.2.2.2.2.2.2.2.2.2.2.2.2.1])) → hp' (v + 2) = some (.inl (kC E 0, 6, .inl out.2.2.2.2.2.2.2.2.2.2.2.2.2.2.2.2.1)) → hp' (v + 3) = some (.inl (kC E 0, 72, .inl out.2.2.2.2.2.2.2.2.2.2.2.2.2.2.2.2.2.1)) → hp' (v + 4) = some (.inr (7, [.ref (v + 5), .ref (v + 6), .int out.2.2.2.2.2.2.2.2.2.2.2.2.2.2.2.2.2.2.1])) → hp' (v + 5) = some (.inl (kC E 0, 6, .inl out.2.2.2.2.2.2.2.2.2.2.2.2.2.2.2.2.2.2.2.1)) → hp' (v + 6) = some (.inl (kC E 0, 24, .inl out.2.2.2.2.2.2.2.2.2.2.2.2.2.2.2.2.2.2.2.2.1)) → hp' (v + 7) = some (.inr (4, [.ref (v + 8), .ref (v + 9), .int out.2.2.2.2.2.2.2.2.2.2.2.2.2.2.2.2.2.2.2.2.2.1])) → hp' (v + 8) = some (.inl (kC E 0, 300, .inl out.2.2.2.2.2.2.2.2.2.2.2.2.2.2.2.2.2.2.2.2.2.2.1)) → hp' (v + 9) = some (.inl (kC E 0, 432, .inl out.2.2.2.2.2.2.2.2.2.2.2.2.2.2.2.2.2.2.2.2.2.2.2.1)) → hp' (v + 10) = some (.inr (6, [.ref (v + 11), .ref (v + 12), .int out.2.2.2.2.2.2.2.2.2.2.2.2.2.2.2.2.2.2.2.2.2.2.2.2.1])) → hp' (v + 11) = some (.inl (kC E 0, 36, .inl out.2.2.2.2.2.2.2.2.2.2.2.2.2.2.2.2.2.2.2.2.2.2.2.2.2.1)) → hp' (v + 12) = some (.inl (kC E 0, 36, .inl out.2.2.2.2.2.2.2.2.2.2.2.2.2.2.2.2.2.2.2.2.2.2.2.2.2.2)) → (∀ q, q ≠ (x + 3) → q ≠ (x + 10) → q ≠ (x + 11) → q ≠ (x + 12) → q ≠ (x + 18) → q ≠ y → q ≠ (y + 1) → q ≠ (y + 3) → q ≠ o → q ≠ v → q ≠ (v + 1) → q ≠ (v + 2) → q ≠ (v + 3) → q ≠ (v + 4) → q ≠ (v + 5) → q ≠ (v + 6) → q ≠ (v + 7) → q ≠ (v + 8) → q ≠ (v + 9) → q ≠ (v + 10) → q ≠ (v + 11) → q ≠ (v + 12) → hp' q = hp q) → AW E p l e room_1 s m #[Value.ref b] below meth c 10 Q hp' none (k0 + 8) (n0 + 48) 3407 [(0, .ref b), (1, .ref x), (2, .ref y), (3, .ref o), (4, .ref od), (5, .int l5)] []) : AW E p l e room_1 s m #[Value.ref b] below meth c 10 Q hp none (k0 + 0) (n0 + 0) 2716 [(0, .ref b), (1, .ref x), (2, .ref y), (3, .ref o), (4, .ref od), (5, .int l5)] [] := by
  unfold f_W50 at h
  refine A_aload_n X dL_law_2716 1 rfl ?_
  refine A_aload_n X dL_law_2717 0 rfl ?_
  refine A_iload X dL_law_2718 5 rfl ?_
  refine A_iconst (v := 1) X dL_law_2720 (by decide) ?_
  refine A_iadd X dL_law_2721 ?_
  refine A_sld X hX hbl hbA hi1 dL_law_2722 ?_
  refine A_aload_n X dL_law_2723 0 rfl ?_
  refine A_iload X dL_law_2724 5 rfl ?_
  refine A_iconst (v := 2) X dL_law_2726 (by decide) ?_
  refine A_iadd X dL_law_2727 ?_
  refine A_sld X hX hbl hbA hi2 dL_law_2728 ?_
  refine A_aload_n X dL_law_2729 0 rfl ?_
  refine A_iload X dL_law_2730 5 rfl ?_
  refine A_iconst (v := 3) X dL_law_2732 (by decide) ?_
  refine A_iadd X dL_law_2733 ?_
  refine A_sld X hX hbl hbA hi3 dL_law_2734 ?_
  refine A_aload_n X dL_law_2735 3 rfl ?_
  obtain ⟨t1, hct1, h⟩ := bind_o h
  refine A_cX (k' := (k0 + 4)) (n' := (n0 + 24)) rfl rfl (A_runSH (rest := []) X dL_law_2736 (c_L_throwDie g0 g3 g4 g5 g6 g7 g8 g9 g10 g11 g12 g13 g14 g15 g18 g19 g48 g50 g51 g52 g53 g54 g55 g56 g57 g58 g59 g60 g61 g62 hvv (by omega) (by omega) (by omega) (by omega) hct1) kY_L_throwDie kw_1303 ⟨(Nat.le_of_ble_eq_true rfl), (Nat.le_of_ble_eq_true rfl), kb rfl hRk, kb rfl hRn⟩ rfl (Nat.le_of_ble_eq_true rfl)) (fun C hp1 hP => hP.elim) (fun v9 hp1 al9 hP => ?_)
  obtain ⟨rfl, k1_0, k1_1, k1_2, k1_3, k1_4, k1_5, k1_6, k1_7, k1_8, k1_9, k1_10, k1_11, k1_12, k1_13, k1_14, k1_15, k1_16, k1_17, k1_18, n1, rfl⟩ := hP
  replace k1_0 : hp1 (x + 3) = some (.inr (2, [.ref (x + 4), .ref (x + 7), .ref (x + 10), .ref (x + 13), .int t1.2.1, .int mn, .int th])) := k1_0
  replace k1_1 : hp1 (x + 10) = some (.inr (4, [.ref (x + 11), .ref (x + 12), .int t1.2.2.1])) := k1_1
  replace k1_2 : hp1 (x + 11) = some (.inl (kC E 0, 300, .inl t1.2.2.2.1)) := k1_2
  replace k1_3 : hp1 (x + 12) = some (.inl (kC E 0, 432, .inl t1.2.2.2.2.1)) := k1_3
  replace k1_4 : hp1 (x + 18) = some (.inr (3, [.ref (x + 19), .int t1.2.2.2.2.2.1, .int t1.2.2.2.2.2.2.1])) := k1_4
  replace k1_5 : hp1 o = some (.inl (kC E 1, 1, .inr (.inl t1.2.2.2.2.2.2.2.1))) := k1_5
  replace k1_6 : hp1 v = some (.inr (2, [.ref (v + 1), .ref (v + 4), .ref (v + 7), .ref (v + 10), .int t1.2.2.2.2.2.2.2.2.1, .int t1.2.2.2.2.2.2.2.2.2.1, .int t1.2.2.2.2.2.2.2.2.2.2.1])) := k1_6
  replace k1_7 : hp1 (v + 1) = some (.inr (0, [.ref (v + 2), .ref (v + 3), .int t1.2.2.2.2.2.2.2.2.2.2.2.1])) := k1_7
  replace k1_8 : hp1 (v + 2) = some (.inl (kC E 0, 6, .inl t1.2.2.2.2.2.2.2.2.2.2.2.2.1)) := k1_8
  replace k1_9 : hp1 (v + 3) = some (.inl (kC E 0, 72, .inl t1.2.2.2.2.2.2.2.2.2.2.2.2.2.1)) := k1_9
  replace k1_10 : hp1 (v + 4) = some (.inr (7, [.ref (v + 5), .ref (v + 6), .int t1.2.2.2.2.2.2.2.2.2.2.2.2.2.2.1])) := k1_10
  replace k1_11 : hp1 (v + 5) = some (.inl (kC E 0, 6, .inl t1.2.2.2.2.2.2.2.2.2.2.2.2.2.2.2.1)) := k1_11
  replace k1_12 : hp1 (v + 6) = some (.inl (kC E 0, 24, .inl t1.2.2.2.2.2.2.2.2.2.2.2.2.2.2.2.2.1)) := k1_12
  replace k1_13 : hp1 (v + 7) = some (.inr (4, [.ref (v + 8), .ref (v + 9), .int t1.2.2.2.2.2.2.2.2.2.2.2.2.2.2.2.2.2.1])) := k1_13
  replace k1_14 : hp1 (v + 8) = some (.inl (kC E 0, 300, .inl t1.2.2.2.2.2.2.2.2.2.2.2.2.2.2.2.2.2.2.1)) := k1_14
  replace k1_15 : hp1 (v + 9) = some (.inl (kC E 0, 432, .inl t1.2.2.2.2.2.2.2.2.2.2.2.2.2.2.2.2.2.2.2.1)) := k1_15
  replace k1_16 : hp1 (v + 10) = some (.inr (6, [.ref (v + 11), .ref (v + 12), .int t1.2.2.2.2.2.2.2.2.2.2.2.2.2.2.2.2.2.2.2.2.1])) := k1_16
  replace k1_17 : hp1 (v + 11) = some (.inl (kC E 0, 36, .inl t1.2.2.2.2.2.2.2.2.2.2.2.2.2.2.2.2.2.2.2.2.2.1)) := k1_17
  replace k1_18 : hp1 (v + 12) = some (.inl (kC E 0, 36, .inl t1.2.2.2.2.2.2.2.2.2.2.2.2.2.2.2.2.2.2.2.2.2.2)) := k1_18
  refine A_st (st' := [.int t1.1]) rfl ?_
  refine A_istore (L' := [(6, .int t1.1), (0, .ref b), (1, .ref x), (2, .ref y), (3, .ref o), (4, .ref od), (5, .int l5)]) X dL_law_2739 (by decide) rfl ?_
  refine A_aload_n X dL_law_2741 3 rfl ?_
  refine A_aload_n X dL_law_2742 1 rfl ?_
  refine A_iload X dL_law_2743 6 rfl ?_
  refine A_iconst (v := 1) X dL_law_2745 (by decide) ?_
  refine A_iadd X dL_law_2746 ?_
  refine A_sld X hX hbl hbA hi1 dL_law_2747 ?_
  refine A_aload_n X dL_law_2748 1 rfl ?_
  refine A_iload X dL_law_2749 6 rfl ?_
  refine A_iconst (v := 2) X dL_law_2751 (by decide) ?_
  refine A_iadd X dL_law_2752 ?_
  refine A_sld X hX hbl hbA hi2 dL_law_2753 ?_
  refine A_aload_n X dL_law_2754 1 rfl ?_
  refine A_iload X dL_law_2755 6 rfl ?_
  refine A_iconst (v := 3) X dL_law_2757 (by decide) ?_
  refine A_iadd X dL_law_2758 ?_
  refine A_sld X hX hbl hbA hi3 dL_law_2759 ?_
  obtain ⟨t2, hct2, h⟩ := bind_o h
  refine A_c (k' := (k0 + 4)) (n' := (n0 + 24)) rfl rfl (A_runV (rest := []) X dL_law_2760 (c_X11_throwDie ((n1 _ (by omega) (by omega) (by omega) (by omega) (by omega) (by omega) (by omega) (by omega) (by omega) (by omega) (by omega) (by omega) (by omega) (by omega) (by omega) (by omega) (by omega) (by omega) (by omega)).trans g39) ((n1 _ (by omega) (by omega) (by omega) (by omega) (by omega) (by omega) (by omega) (by omega) (by omega) (by omega) (by omega) (by omega) (by omega) (by omega) (by omega) (by omega) (by omega) (by omega) (by omega)).trans g40) ((n1 _ (by omega) (by omega) (by omega) (by omega) (by omega) (by omega) (by omega) (by omega) (by omega) (by omega) (by omega) (by omega) (by omega) (by omega) (by omega) (by omega) (by omega) (by omega) (by omega)).trans g42)  hct2) kY_X11_throwDie kw_1951 ((n1 _ (by omega) (by omega) (by omega) (by omega) (by omega) (by omega) (by omega) (by omega) (by omega) (by omega) (by omega) (by omega) (by omega) (by omega) (by omega) (by omega) (by omega) (by omega) (by omega)).trans g39) rfl rfl ⟨(Nat.le_of_ble_eq_true rfl), (Nat.le_of_ble_eq_true rfl), kb rfl hRk, kb rfl hRn⟩ rfl (Nat.le_of_ble_eq_true rfl)) (fun v9 hp2 al9 hP => ?_)
  obtain ⟨rfl, k2_0, k2_1, k2_2, n2, rfl⟩ := hP
  replace k2_0 : hp2 y = some (.inr (11, [.ref (y + 1), .ref (y + 2), .ref (y + 3), .ref (y + 4), .ref (y + 5), .int t2.2.1, .int t2.2.2.1, .int t2.2.2.2.1, .ref (y + 6), .int m_oftenAll, .ref (y + 7), .int m_inputLength, .int m_position, .int m_start, .int m_token, .int m_value, .int m_letters, .int m_code, .int m_place, .ref (y + 8), .int m_outputLength])) := k2_0
  replace k2_1 : hp2 (y + 1) = some (.inl (kC E 0, 1399, .inl t2.2.2.2.2.1)) := k2_1
  replace k2_2 : hp2 (y + 3) = some (.inl (kC E 0, 11192, .inl t2.2.2.2.2.2)) := k2_2
  refine A_st (st' := [.int t2.1]) rfl ?_
  refine A_istore (L' := [(7, .int t2.1), (6, .int t1.1), (0, .ref b), (1, .ref x), (2, .ref y), (3, .ref o), (4, .ref od), (5, .int l5)]) X dL_law_2763 (by decide) rfl ?_
  refine A_aload_n X dL_law_2765 4 rfl ?_
  obtain ⟨t3, hct3, h⟩ := bind_o h
  refine A_cp (k' := (k0 + 4)) (n' := (n0 + 24)) (A_runV (rest := []) X dL_law_2766 (c_X11_thrown k2_0  hct3) kY_X11_thrown kw_1668 k2_0 rfl rfl ⟨(Nat.le_of_ble_eq_true rfl), (Nat.le_of_ble_eq_true rfl), kb rfl hRk, kb rfl hRn⟩ rfl (Nat.le_of_ble_eq_true rfl)) rfl rfl ?_
  refine A_iload X dL_law_2769 1 rfl ?_
  refine A_icmp_eq (tgt := 2776) X dL_law_2771 h (by decide) (fun hc h => ?_) (fun hc h => ?_)
  · refine A_iload X dL_law_2776 1 rfl ?_
    refine A_if_ne (tgt := 2793) X dL_law_2778 h (by decide) (fun hc h => ?_) (fun hc h => ?_)
    · refine A_goto (tgt := 3407) X dL_law_2793 (by decide) ?_
      cases h
      refine A_sub (L' := [(0, .ref b), (1, .ref x), (2, .ref y), (3, .ref o), (4, .ref od), (5, .int l5)]) [2, 3, 4, 5, 6, 7] rfl ?_
      refine A_widen (k' := (k0 + 8)) (n' := (n0 + 48)) (by omega) (by omega) ?_
      exact K ((n2 _ (by omega) (by omega) (by omega)).trans k1_0) ((n2 _ (by omega) (by omega) (by omega)).trans k1_1) ((n2 _ (by omega) (by omega) (by omega)).trans k1_2) ((n2 _ (by omega) (by omega) (by omega)).trans k1_3) ((n2 _ (by omega) (by omega) (by omega)).trans k1_4) k2_0 k2_1 k2_2 ((n2 _ (by omega) (by omega) (by omega)).trans k1_5) ((n2 _ (by omega) (by omega) (by omega)).trans k1_6) ((n2 _ (by omega) (by omega) (by omega)).trans k1_7) ((n2 _ (by omega) (by omega) (by omega)).trans k1_8) ((n2 _ (by omega) (by omega) (by omega)).trans k1_9) ((n2 _ (by omega) (by omega) (by omega)).trans k1_10) ((n2 _ (by omega) (by omega) (by omega)).trans k1_11) ((n2 _ (by omega) (by omega) (by omega)).trans k1_12) ((n2 _ (by omega) (by omega) (by omega)).trans k1_13) ((n2 _ (by omega) (by omega) (by omega)).trans k1_14) ((n2 _ (by omega) (by omega) (by omega)).trans k1_15) ((n2 _ (by omega) (by omega) (by omega)).trans k1_16) ((n2 _ (by omega) (by omega) (by omega)).trans k1_17) ((n2 _ (by omega) (by omega) (by omega)).trans k1_18) (fun q z0 z1 z2 z3 z4 z5 z6 z7 z8 z9 z10 z11 z12 z13 z14 z15 z16 z17 z18 z19 z20 z21 => ((n2 q z5 z6 z7).trans (n1 q z0 z1 z2 z3 z4 z8 z9 z10 z11 z12 z13 z14 z15 z16 z17 z18 z19 z20 z21)))
    · refine A_aload_n X dL_law_2781 5 rfl ?_
      refine A_iconst (v := 0) X dL_law_2782 (by decide) ?_
      refine A_lald X dL_law_2783 ((n2 _ (by omega) (by omega) (by omega)).trans k1_5) (by decide) ?_
      refine A_iload X dL_law_2784 0 rfl ?_
      refine A_i2l X dL_law_2786 ?_
      refine A_lcmp X dL_law_2787 ?_
      refine A_if_eq (tgt := 2793) X dL_law_2788 h (by decide) (fun hc h => ?_) (fun hc h => ?_)
      · refine A_goto (tgt := 3407) X dL_law_2793 (by decide) ?_
        cases h
        refine A_sub (L' := [(0, .ref b), (1, .ref x), (2, .ref y), (3, .ref o), (4, .ref od), (5, .int l5)]) [2, 3, 4, 5, 6, 7] rfl ?_
        refine A_widen (k' := (k0 + 8)) (n' := (n0 + 48)) (by omega) (by omega) ?_
        exact K ((n2 _ (by omega) (by omega) (by omega)).trans k1_0) ((n2 _ (by omega) (by omega) (by omega)).trans k1_1) ((n2 _ (by omega) (by omega) (by omega)).trans k1_2) ((n2 _ (by omega) (by omega) (by omega)).trans k1_3) ((n2 _ (by omega) (by omega) (by omega)).trans k1_4) k2_0 k2_1 k2_2 ((n2 _ (by omega) (by omega) (by omega)).trans k1_5) ((n2 _ (by omega) (by omega) (by omega)).trans k1_6) ((n2 _ (by omega) (by omega) (by omega)).trans k1_7) ((n2 _ (by omega) (by omega) (by omega)).trans k1_8) ((n2 _ (by omega) (by omega) (by omega)).trans k1_9) ((n2 _ (by omega) (by omega) (by omega)).trans k1_10) ((n2 _ (by omega) (by omega) (by omega)).trans k1_11) ((n2 _ (by omega) (by omega) (by omega)).trans k1_12) ((n2 _ (by omega) (by omega) (by omega)).trans k1_13) ((n2 _ (by omega) (by omega) (by omega)).trans k1_14) ((n2 _ (by omega) (by omega) (by omega)).trans k1_15) ((n2 _ (by omega) (by omega) (by omega)).trans k1_16) ((n2 _ (by omega) (by omega) (by omega)).trans k1_17) ((n2 _ (by omega) (by omega) (by omega)).trans k1_18) (fun q z0 z1 z2 z3 z4 z5 z6 z7 z8 z9 z10 z11 z12 z13 z14 z15 z16 z17 z18 z19 z20 z21 => ((n2 q z5 z6 z7).trans (n1 q z0 z1 z2 z3 z4 z8 z9 z10 z11 z12 z13 z14 z15 z16 z17 z18 z19 z20 z21)))
      · refine A_iconst (v := 0) X dL_law_2791 (by decide) ?_
        cases h
  · refine A_iconst (v := 0) X dL_law_2774 (by decide) ?_
    cases h
set_option maxHeartbeats 8000000 in
set_option maxRecDepth 100000 in
theorem c_W51 {E : KE} {p : Program} {l : Launch} {e : Env} {s : State} {m : MethodId} {b L9 : Nat} {xs : Nat → Int32} {below : List Frame} {meth : Method} {c : Code} {hp : Hp} {k0 n0 : Nat} {Q : State → Prop} {N : Nat} {x : Nat} {y : Nat} {o : Nat} {od : Nat} {v : Nat} {sd : Int32} {mn : Int32} {th : Int32} {dc : Int32} {fc : Nat → Int32} {dw : Nat → Int32} {pc : Int32} {ln : Nat → Int32} {lt : Nat → Int32} {tc : Int32} {en : Nat → Int32} {fr : Nat → Int32} {oc : Int32} {op : Nat → Int32} {os : Nat → Int32} {nx : Int32} {dp : Int32} {rws : Nat → Option Nat} {m_undoable : Int32} {m_undoStart : Int32} {m_thrown : Int32} {m_oftenAll : Int32} {m_inputLength : Int32} {m_position : Int32} {m_start : Int32} {m_token : Int32} {m_value : Int32} {m_letters : Int32} {m_code : Int32} {m_place : Int32} {m_outputLength : Int32} {m_s : Nat → Int32} {m_remembered : Nat → Int32} {m_often : Nat → Int32} {v_sd : Int32} {v_mn : Int32} {v_th : Int32} {v_dc : Int32} {v_fc : Nat → Int32} {v_dw : Nat → Int32} {v_pc : Int32} {v_ln : Nat → Int32} {v_lt : Nat → Int32} {v_tc : Int32} {v_en : Nat → Int32} {v_fr : Nat → Int32} {v_oc : Int32} {v_op : Nat → Int32} {v_os : Nat → Int32} {l5 : Int32} {out : Int32 × (Nat → Int32) × (Nat → Int32) × Int32 × Int32 × Int32 × Int32 × Int32 × Int32 × (Nat → Int32) × (Nat → Int32) × (Nat → Int32) × Int32 × Int32 × Int32 × Int32 × (Nat → Int32) × (Nat → Int32) × Int32 × (Nat → Int32) × (Nat → Int32) × Int32 × (Nat → Int32) × (Nat → Int32) × Int32 × (Nat → Int32) × (Nat → Int32)} (X : CX E p l s m #[Value.ref b] meth c "DiceAuditLaw" cL_law 10) (hX : va_X b L9 xs s s.heap) (hbl : b < s.heap.size) (hbA : ¬ kA E b) (hi1 : vp_in (l5 + 1) L9) (hi2 : vp_in (l5 + 2) L9) (hi3 : vp_in (l5 + 3) L9) (hi4 : vp_in (l5 + 4) L9) (hi5 : vp_in (l5 + 5) L9) (hRk : k0 + 8 ≤ room_1.cells) (hRn : n0 + 48 ≤ room_1.slots) (g0 : hp x = some (.inr (10, [.ref (x + 126), .ref (x + 128), .ref (x + 1), .ref (x + 3), .ref (x + 16), .ref (x + 18), .ref (x + 124), .ref (x + 125)]))) (g3 : hp (x + 3) = some (.inr (2, [.ref (x + 4), .ref (x + 7), .ref (x + 10), .ref (x + 13), .int sd, .int mn, .int th]))) (g4 : hp (x + 4) = some (.inr (0, [.ref (x + 5), .ref (x + 6), .int dc]))) (g5 : hp (x + 5) = some (.inl (kC E 0, 6, .inl fc))) (g6 : hp (x + 6) = some (.inl (kC E 0, 72, .inl dw))) (g7 : hp (x + 7) = some (.inr (7, [.ref (x + 8), .ref (x + 9), .int pc]))) (g8 : hp (x + 8) = some (.inl (kC E 0, 6, .inl ln))) (g9 : hp (x + 9) = some (.inl (kC E 0, 24, .inl lt))) (g10 : hp (x + 10) = some (.inr (4, [.ref (x + 11), .ref (x + 12), .int tc]))) (g11 : hp (x + 11) = some (.inl (kC E 0, 300, .inl en))) (g12 : hp (x + 12) = some (.inl (kC E 0, 432, .inl fr))) (g13 : hp (x + 13) = some (.inr (6, [.ref (x + 14), .ref (x + 15), .int oc]))) (g14 : hp (x + 14) = some (.inl (kC E 0, 36, .inl op))) (g15 : hp (x + 15) = some (.inl (kC E 0, 36, .inl os))) (g18 : hp (x + 18) = some (.inr (3, [.ref (x + 19), .int nx, .int dp]))) (g19 : hp (x + 19) = some (.inl (kC E 5, 8, .inr (.inr (.inr (.inr rws)))))) (g39 : hp y = some (.inr (11, [.ref (y + 1), .ref (y + 2), .ref (y + 3), .ref (y + 4), .ref (y + 5), .int m_undoable, .int m_undoStart, .int m_thrown, .ref (y + 6), .int m_oftenAll, .ref (y + 7), .int m_inputLength, .int m_position, .int m_start, .int m_token, .int m_value, .int m_letters, .int m_code, .int m_place, .ref (y + 8), .int m_outputLength]))) (g40 : hp (y + 1) = some (.inl (kC E 0, 1399, .inl m_s))) (g42 : hp (y + 3) = some (.inl (kC E 0, 11192, .inl m_remembered))) (g45 : hp (y + 6) = some (.inl (kC E 0, 13, .inl m_often))) (g50 : hp v = some (.inr (2, [.ref (v + 1), .ref (v + 4), .ref (v + 7), .ref (v + 10), .int v_sd, .int v_mn, .int v_th]))) (g51 : hp (v + 1) = some (.inr (0, [.ref (v + 2), .ref (v + 3), .int v_dc]))) (g52 : hp (v + 2) = some (.inl (kC E 0, 6, .inl v_fc))) (g53 : hp (v + 3) = some (.inl (kC E 0, 72, .inl v_dw))) (g54 : hp (v + 4) = some (.inr (7, [.ref (v + 5), .ref (v + 6), .int v_pc]))) (g55 : hp (v + 5) = some (.inl (kC E 0, 6, .inl v_ln))) (g56 : hp (v + 6) = some (.inl (kC E 0, 24, .inl v_lt))) (g57 : hp (v + 7) = some (.inr (4, [.ref (v + 8), .ref (v + 9), .int v_tc]))) (g58 : hp (v + 8) = some (.inl (kC E 0, 300, .inl v_en))) (g59 : hp (v + 9) = some (.inl (kC E 0, 432, .inl v_fr))) (g60 : hp (v + 10) = some (.inr (6, [.ref (v + 11), .ref (v + 12), .int v_oc]))) (g61 : hp (v + 11) = some (.inl (kC E 0, 36, .inl v_op))) (g62 : hp (v + 12) = some (.inl (kC E 0, 36, .inl v_os))) (hvv : rws (Int32.toNatClampNeg nx) = some v) (hlv : (x + 20) ≤ v) (huv : (v + 13) ≤ (x + 124)) (hz3 : (x + 20) ≤ y ∨ (y + 7) ≤ x) (hz4 : (y + 7) ≤ v ∨ (v + 13) ≤ y) (h : f_W51 N xs l5 sd mn th dc fc dw pc ln lt tc en fr oc op os nx dp m_undoable m_undoStart m_thrown m_oftenAll m_s m_remembered m_often v_sd v_mn v_th v_dc v_fc v_dw v_pc v_ln v_lt v_tc v_en v_fr v_oc v_op v_os = some out) (K : ∀ {hp' : Hp}, hp' (x + 13) = some (.inr (6, [.ref (x + 14), .ref (x + 15), .int out.1])) → hp' (x + 14) = some (.inl (kC E 0, 36, .inl out.2.1)) → hp' (x + 15) = some (.inl (kC E 0, 36, .inl out.2.2.1)) → hp' (x + 18) = some (.inr (3, [.ref (x + 19), .int out.2.2.2.1, .int out.2.2.2.2.1])) → hp' y = some (.inr (11, [.ref (y + 1), .ref (y + 2), .ref (y + 3), .ref (y + 4), .ref (y + 5), .int out.2.2.2.2.2.1, .int out.2.2.2.2.2.2.1, .int out.2.2.2.2.2.2.2.1, .ref (y + 6), .int out.2.2.2.2.2.2.2.2.1, .ref (y + 7), .int m_inputLength, .int m_position, .int m_start, .int m_token, .int m_value, .int m_letters, .int m_code, .int m_place, .ref (y + 8), .int m_outputLength])) → hp' (y + 1) = some (.inl (kC E 0, 1399, .inl out.2.2.2.2.2.2.2.2.2.1)) → hp' (y + 3) = some (.inl (kC E 0, 11192, .inl out.2.2.2.2.2.2.2.2.2.2.1)) → hp' (y + 6) = some (.inl (kC E 0, 13, .inl out.2.2.2.2.2.2.2.2.2.2.2.1)) → hp' v = some (.inr (2, [.ref (v + 1), .ref (v + 4), .ref (v + 7), .ref (v + 10), .int out.2.2.2.2.2.2.2.2.2.2.2.2.1, .int out.2.2.2.2.2.2.2.2.2.2.2.2.2.1, .int out.2.2.2.2.2.2.2.2.2.2.2.2.2.2.1])) → hp' (v + 1) = some (.inr (0, [.ref (v + 2), .ref (v + 3), .int out.2.2.2.2.2.2.2.2.2.2.2.2.2.2.2.1])) → hp' (v + 2) = some (.inl (kC E 0, 6, .inl out.2.2.2.2.2.2.2.2.2.2.2.2.2.2.2.2.1)) → hp' (v + 3) = some (.inl (kC E 0, 72, .inl out.2.2.2.2.2.2.2.2.2.2.2.2.2.2.2.2.2.1)) → hp' (v + 4) = some (.inr (7, [.ref (v + 5), .ref (v + 6), .int out.2.2.2.2.2.2.2.2.2.2.2.2.2.2.2.2.2.2.1])) → hp' (v + 5) = some (.inl (kC E 0, 6, .inl out.2.2.2.2.2.2.2.2.2.2.2.2.2.2.2.2.2.2.2.1)) → hp' (v + 6) = some (.inl (kC E 0, 24, .inl out.2.2.2.2.2.2.2.2.2.2.2.2.2.2.2.2.2.2.2.2.1)) → hp' (v + 7) = some (.inr (4, [.ref (v + 8), .ref (v + 9), .int out.2.2.2.2.2.2.2.2.2.2.2.2.2.2.2.2.2.2.2.2.2.1])) → hp' (v + 8) = some (.inl (kC E 0, 300, .inl out.2.2.2.2.2.2.2.2.2.2.2.2.2.2.2.2.2.2.2.2.2.2.1)) → hp' (v + 9) = some (.inl (kC E 0, 432, .inl out.2.2.2.2.2.2.2.2.2.2.2.2.2.2.2.2.2.2.2.2.2.2.2.1)) → hp' (v + 10) = some (.inr (6, [.ref (v + 11), .ref (v + 12), .int out.2.2.2.2.2.2.2.2.2.2.2.2.2.2.2.2.2.2.2.2.2.2.2.2.1])) → hp' (v + 11) = some (.inl (kC E 0, 36, .inl out.2.2.2.2.2.2.2.2.2.2.2.2.2.2.2.2.2.2.2.2.2.2.2.2.2.1)) → hp' (v + 12) = some (.inl (kC E 0, 36, .inl out.2.2.2.2.2.2.2.2.2.2.2.2.2.2.2.2.2.2.2.2.2.2.2.2.2.2)) → (∀ q, q ≠ (x + 13) → q ≠ (x + 14) → q ≠ (x + 15) → q ≠ (x + 18) → q ≠ y → q ≠ (y + 1) → q ≠ (y + 3) → q ≠ (y + 6) → q ≠ v → q ≠ (v + 1) → q ≠ (v + 2) → q ≠ (v + 3) → q ≠ (v + 4) → q ≠ (v + 5) → q ≠ (v + 6) → q ≠ (v + 7) → q ≠ (v + 8) → q ≠ (v + 9) → q ≠ (v + 10) → q ≠ (v + 11) → q ≠ (v + 12) → hp' q = hp q) → AW E p l e room_1 s m #[Value.ref b] below meth c 10 Q hp' none (k0 + 8) (n0 + 48) 3407 [(0, .ref b), (1, .ref x), (2, .ref y), (3, .ref o), (4, .ref od), (5, .int l5)] []) : AW E p l e room_1 s m #[Value.ref b] below meth c 10 Q hp none (k0 + 0) (n0 + 0) 2796 [(0, .ref b), (1, .ref x), (2, .ref y), (3, .ref o), (4, .ref od), (5, .int l5)] [] := by
  unfold f_W51 at h
  refine A_aload_n X dL_law_2796 1 rfl ?_
  obtain ⟨t1, hct1, h⟩ := bind_o h
  refine A_c (k' := (k0 + 0)) (n' := (n0 + 0)) rfl rfl (A_runV (rest := []) X dL_law_2797 (c_X10_audit g0 g3 g4 g5 g6 g7 g8 g9 g10 g11 g12 g13 g14 g15 g18 g19 g50 g51 g52 g53 g54 g55 g56 g57 g58 g59 g60 g61 g62 hvv (by omega) (by omega) hct1) kY_X10_audit kw_774 g0 rfl rfl ⟨(Nat.le_of_ble_eq_true rfl), (Nat.le_of_ble_eq_true rfl), kb rfl hRk, kb rfl hRn⟩ rfl (Nat.le_of_ble_eq_true rfl)) (fun v9 hp1 al9 hP => ?_)
  obtain ⟨rfl, k1_0, k1_1, k1_2, k1_3, k1_4, k1_5, k1_6, k1_7, k1_8, k1_9, k1_10, k1_11, k1_12, k1_13, k1_14, k1_15, k1_16, n1, rfl⟩ := hP
  replace k1_0 : hp1 (x + 13) = some (.inr (6, [.ref (x + 14), .ref (x + 15), .int t1.2.1])) := k1_0
  replace k1_1 : hp1 (x + 14) = some (.inl (kC E 0, 36, .inl t1.2.2.1)) := k1_1
  replace k1_2 : hp1 (x + 15) = some (.inl (kC E 0, 36, .inl t1.2.2.2.1)) := k1_2
  replace k1_3 : hp1 (x + 18) = some (.inr (3, [.ref (x + 19), .int t1.2.2.2.2.1, .int t1.2.2.2.2.2.1])) := k1_3
  replace k1_4 : hp1 v = some (.inr (2, [.ref (v + 1), .ref (v + 4), .ref (v + 7), .ref (v + 10), .int t1.2.2.2.2.2.2.1, .int t1.2.2.2.2.2.2.2.1, .int t1.2.2.2.2.2.2.2.2.1])) := k1_4
  replace k1_5 : hp1 (v + 1) = some (.inr (0, [.ref (v + 2), .ref (v + 3), .int t1.2.2.2.2.2.2.2.2.2.1])) := k1_5
  replace k1_6 : hp1 (v + 2) = some (.inl (kC E 0, 6, .inl t1.2.2.2.2.2.2.2.2.2.2.1)) := k1_6
  replace k1_7 : hp1 (v + 3) = some (.inl (kC E 0, 72, .inl t1.2.2.2.2.2.2.2.2.2.2.2.1)) := k1_7
  replace k1_8 : hp1 (v + 4) = some (.inr (7, [.ref (v + 5), .ref (v + 6), .int t1.2.2.2.2.2.2.2.2.2.2.2.2.1])) := k1_8
  replace k1_9 : hp1 (v + 5) = some (.inl (kC E 0, 6, .inl t1.2.2.2.2.2.2.2.2.2.2.2.2.2.1)) := k1_9
  replace k1_10 : hp1 (v + 6) = some (.inl (kC E 0, 24, .inl t1.2.2.2.2.2.2.2.2.2.2.2.2.2.2.1)) := k1_10
  replace k1_11 : hp1 (v + 7) = some (.inr (4, [.ref (v + 8), .ref (v + 9), .int t1.2.2.2.2.2.2.2.2.2.2.2.2.2.2.2.1])) := k1_11
  replace k1_12 : hp1 (v + 8) = some (.inl (kC E 0, 300, .inl t1.2.2.2.2.2.2.2.2.2.2.2.2.2.2.2.2.1)) := k1_12
  replace k1_13 : hp1 (v + 9) = some (.inl (kC E 0, 432, .inl t1.2.2.2.2.2.2.2.2.2.2.2.2.2.2.2.2.2.1)) := k1_13
  replace k1_14 : hp1 (v + 10) = some (.inr (6, [.ref (v + 11), .ref (v + 12), .int t1.2.2.2.2.2.2.2.2.2.2.2.2.2.2.2.2.2.2.1])) := k1_14
  replace k1_15 : hp1 (v + 11) = some (.inl (kC E 0, 36, .inl t1.2.2.2.2.2.2.2.2.2.2.2.2.2.2.2.2.2.2.2.1)) := k1_15
  replace k1_16 : hp1 (v + 12) = some (.inl (kC E 0, 36, .inl t1.2.2.2.2.2.2.2.2.2.2.2.2.2.2.2.2.2.2.2.2)) := k1_16
  refine A_st (st' := [.int t1.1]) rfl ?_
  refine A_aload_n X dL_law_2800 2 rfl ?_
  obtain ⟨t2, hct2, h⟩ := bind_o h
  refine A_c (k' := (k0 + 0)) (n' := (n0 + 0)) rfl rfl (A_runV (rest := [.int t1.1]) X dL_law_2801 (c_X11_audit ((n1 _ (by omega) (by omega) (by omega) (by omega) (by omega) (by omega) (by omega) (by omega) (by omega) (by omega) (by omega) (by omega) (by omega) (by omega) (by omega) (by omega) (by omega)).trans g39) ((n1 _ (by omega) (by omega) (by omega) (by omega) (by omega) (by omega) (by omega) (by omega) (by omega) (by omega) (by omega) (by omega) (by omega) (by omega) (by omega) (by omega) (by omega)).trans g40) ((n1 _ (by omega) (by omega) (by omega) (by omega) (by omega) (by omega) (by omega) (by omega) (by omega) (by omega) (by omega) (by omega) (by omega) (by omega) (by omega) (by omega) (by omega)).trans g42) ((n1 _ (by omega) (by omega) (by omega) (by omega) (by omega) (by omega) (by omega) (by omega) (by omega) (by omega) (by omega) (by omega) (by omega) (by omega) (by omega) (by omega) (by omega)).trans g45)  hct2) kY_X11_audit kw_1955 ((n1 _ (by omega) (by omega) (by omega) (by omega) (by omega) (by omega) (by omega) (by omega) (by omega) (by omega) (by omega) (by omega) (by omega) (by omega) (by omega) (by omega) (by omega)).trans g39) rfl rfl ⟨(Nat.le_of_ble_eq_true rfl), (Nat.le_of_ble_eq_true rfl), kb rfl hRk, kb rfl hRn⟩ rfl (Nat.le_of_ble_eq_true rfl)) (fun v9 hp2 al9 hP => ?_)
  obtain ⟨rfl, k2_0, k2_1, k2_2, k2_3, n2, rfl⟩ := hP
  replace k2_0 : hp2 y = some (.inr (11, [.ref (y + 1), .ref (y + 2), .ref (y + 3), .ref (y + 4), .ref (y + 5), .int t2.2.1, .int t2.2.2.1, .int t2.2.2.2.1, .ref (y + 6), .int t2.2.2.2.2.1, .ref (y + 7), .int m_inputLength, .int m_position, .int m_start, .int m_token, .int m_value, .int m_letters, .int m_code, .int m_place, .ref (y + 8), .int m_outputLength])) := k2_0
  replace k2_1 : hp2 (y + 1) = some (.inl (kC E 0, 1399, .inl t2.2.2.2.2.2.1)) := k2_1
  replace k2_2 : hp2 (y + 3) = some (.inl (kC E 0, 11192, .inl t2.2.2.2.2.2.2.1)) := k2_2
  replace k2_3 : hp2 (y + 6) = some (.inl (kC E 0, 13, .inl t2.2.2.2.2.2.2.2)) := k2_3
  refine A_st (st' := [.int t2.1, .int t1.1]) rfl ?_
  refine A_icmp_eq (tgt := 3407) X dL_law_2804 h (by decide) (fun hc h => ?_) (fun hc h => ?_)
  · cases h
    refine A_sub (L' := [(0, .ref b), (1, .ref x), (2, .ref y), (3, .ref o), (4, .ref od), (5, .int l5)]) [0, 1, 2, 3, 4, 5] rfl ?_
    refine A_widen (k' := (k0 + 8)) (n' := (n0 + 48)) (by omega) (by omega) ?_
    exact K ((n2 _ (by omega) (by omega) (by omega) (by omega)).trans k1_0) ((n2 _ (by omega) (by omega) (by omega) (by omega)).trans k1_1) ((n2 _ (by omega) (by omega) (by omega) (by omega)).trans k1_2) ((n2 _ (by omega) (by omega) (by omega) (by omega)).trans k1_3) k2_0 k2_1 k2_2 k2_3 ((n2 _ (by omega) (by omega) (by omega) (by omega)).trans k1_4) ((n2 _ (by omega) (by omega) (by omega) (by omega)).trans k1_5) ((n2 _ (by omega) (by omega) (by omega) (by omega)).trans k1_6) ((n2 _ (by omega) (by omega) (by omega) (by omega)).trans k1_7) ((n2 _ (by omega) (by omega) (by omega) (by omega)).trans k1_8) ((n2 _ (by omega) (by omega) (by omega) (by omega)).trans k1_9) ((n2 _ (by omega) (by omega) (by omega) (by omega)).trans k1_10) ((n2 _ (by omega) (by omega) (by omega) (by omega)).trans k1_11) ((n2 _ (by omega) (by omega) (by omega) (by omega)).trans k1_12) ((n2 _ (by omega) (by omega) (by omega) (by omega)).trans k1_13) ((n2 _ (by omega) (by omega) (by omega) (by omega)).trans k1_14) ((n2 _ (by omega) (by omega) (by omega) (by omega)).trans k1_15) ((n2 _ (by omega) (by omega) (by omega) (by omega)).trans k1_16) (fun q z0 z1 z2 z3 z4 z5 z6 z7 z8 z9 z10 z11 z12 z13 z14 z15 z16 z17 z18 z19 z20 => ((n2 q z4 z5 z6 z7).trans (n1 q z0 z1 z2 z3 z8 z9 z10 z11 z12 z13 z14 z15 z16 z17 z18 z19 z20)))
  · refine A_iconst (v := 0) X dL_law_2807 (by decide) ?_
    cases h
set_option maxHeartbeats 8000000 in
set_option maxRecDepth 100000 in
theorem c_W52 {E : KE} {p : Program} {l : Launch} {e : Env} {s : State} {m : MethodId} {b L9 : Nat} {xs : Nat → Int32} {below : List Frame} {meth : Method} {c : Code} {hp : Hp} {k0 n0 : Nat} {Q : State → Prop} {N : Nat} {x : Nat} {y : Nat} {o : Nat} {od : Nat} {v : Nat} {sd : Int32} {mn : Int32} {th : Int32} {dc : Int32} {fc : Nat → Int32} {dw : Nat → Int32} {pc : Int32} {ln : Nat → Int32} {lt : Nat → Int32} {tc : Int32} {en : Nat → Int32} {fr : Nat → Int32} {oc : Int32} {op : Nat → Int32} {os : Nat → Int32} {nx : Int32} {dp : Int32} {rws : Nat → Option Nat} {m_undoable : Int32} {m_undoStart : Int32} {m_thrown : Int32} {m_oftenAll : Int32} {m_inputLength : Int32} {m_position : Int32} {m_start : Int32} {m_token : Int32} {m_value : Int32} {m_letters : Int32} {m_code : Int32} {m_place : Int32} {m_outputLength : Int32} {m_s : Nat → Int32} {m_remembered : Nat → Int32} {ov : Nat → Int64} {v_sd : Int32} {v_mn : Int32} {v_th : Int32} {v_dc : Int32} {v_fc : Nat → Int32} {v_dw : Nat → Int32} {v_pc : Int32} {v_ln : Nat → Int32} {v_lt : Nat → Int32} {v_tc : Int32} {v_en : Nat → Int32} {v_fr : Nat → Int32} {v_oc : Int32} {v_op : Nat → Int32} {v_os : Nat → Int32} {l5 : Int32} {out : Int32 × Int32 × (Nat → Int32) × (Nat → Int32) × Int32 × (Nat → Int32) × (Nat → Int32) × Int32 × Int32 × Int32 × Int32 × Int32 × (Nat → Int32) × (Nat → Int32) × (Nat → Int64) × Int32 × Int32 × Int32 × Int32 × (Nat → Int32) × (Nat → Int32) × Int32 × (Nat → Int32) × (Nat → Int32) × Int32 × (Nat → Int32) × (Nat → Int32) × Int32 × (Nat → Int32) × (Nat → Int32)} (X : CX E p l s m #[Value.ref b] meth c "DiceAuditLaw" cL_law 10) (hX : va_X b L9 xs s s.heap) (hbl : b < s.heap.size) (hbA : ¬ kA E b) (hi1 : vp_in (l5 + 1) L9) (hi2 : vp_in (l5 + 2) L9) (hi3 : vp_in (l5 + 3) L9) (hi4 : vp_in (l5 + 4) L9) (hi5 : vp_in (l5 + 5) L9) (hRk : k0 + 8 ≤ room_1.cells) (hRn : n0 + 48 ≤ room_1.slots) (g0 : hp x = some (.inr (10, [.ref (x + 126), .ref (x + 128), .ref (x + 1), .ref (x + 3), .ref (x + 16), .ref (x + 18), .ref (x + 124), .ref (x + 125)]))) (g3 : hp (x + 3) = some (.inr (2, [.ref (x + 4), .ref (x + 7), .ref (x + 10), .ref (x + 13), .int sd, .int mn, .int th]))) (g4 : hp (x + 4) = some (.inr (0, [.ref (x + 5), .ref (x + 6), .int dc]))) (g5 : hp (x + 5) = some (.inl (kC E 0, 6, .inl fc))) (g6 : hp (x + 6) = some (.inl (kC E 0, 72, .inl dw))) (g7 : hp (x + 7) = some (.inr (7, [.ref (x + 8), .ref (x + 9), .int pc]))) (g8 : hp (x + 8) = some (.inl (kC E 0, 6, .inl ln))) (g9 : hp (x + 9) = some (.inl (kC E 0, 24, .inl lt))) (g10 : hp (x + 10) = some (.inr (4, [.ref (x + 11), .ref (x + 12), .int tc]))) (g11 : hp (x + 11) = some (.inl (kC E 0, 300, .inl en))) (g12 : hp (x + 12) = some (.inl (kC E 0, 432, .inl fr))) (g13 : hp (x + 13) = some (.inr (6, [.ref (x + 14), .ref (x + 15), .int oc]))) (g14 : hp (x + 14) = some (.inl (kC E 0, 36, .inl op))) (g15 : hp (x + 15) = some (.inl (kC E 0, 36, .inl os))) (g18 : hp (x + 18) = some (.inr (3, [.ref (x + 19), .int nx, .int dp]))) (g19 : hp (x + 19) = some (.inl (kC E 5, 8, .inr (.inr (.inr (.inr rws)))))) (g39 : hp y = some (.inr (11, [.ref (y + 1), .ref (y + 2), .ref (y + 3), .ref (y + 4), .ref (y + 5), .int m_undoable, .int m_undoStart, .int m_thrown, .ref (y + 6), .int m_oftenAll, .ref (y + 7), .int m_inputLength, .int m_position, .int m_start, .int m_token, .int m_value, .int m_letters, .int m_code, .int m_place, .ref (y + 8), .int m_outputLength]))) (g40 : hp (y + 1) = some (.inl (kC E 0, 1399, .inl m_s))) (g42 : hp (y + 3) = some (.inl (kC E 0, 11192, .inl m_remembered))) (g48 : hp o = some (.inl (kC E 1, 1, .inr (.inl ov)))) (g50 : hp v = some (.inr (2, [.ref (v + 1), .ref (v + 4), .ref (v + 7), .ref (v + 10), .int v_sd, .int v_mn, .int v_th]))) (g51 : hp (v + 1) = some (.inr (0, [.ref (v + 2), .ref (v + 3), .int v_dc]))) (g52 : hp (v + 2) = some (.inl (kC E 0, 6, .inl v_fc))) (g53 : hp (v + 3) = some (.inl (kC E 0, 72, .inl v_dw))) (g54 : hp (v + 4) = some (.inr (7, [.ref (v + 5), .ref (v + 6), .int v_pc]))) (g55 : hp (v + 5) = some (.inl (kC E 0, 6, .inl v_ln))) (g56 : hp (v + 6) = some (.inl (kC E 0, 24, .inl v_lt))) (g57 : hp (v + 7) = some (.inr (4, [.ref (v + 8), .ref (v + 9), .int v_tc]))) (g58 : hp (v + 8) = some (.inl (kC E 0, 300, .inl v_en))) (g59 : hp (v + 9) = some (.inl (kC E 0, 432, .inl v_fr))) (g60 : hp (v + 10) = some (.inr (6, [.ref (v + 11), .ref (v + 12), .int v_oc]))) (g61 : hp (v + 11) = some (.inl (kC E 0, 36, .inl v_op))) (g62 : hp (v + 12) = some (.inl (kC E 0, 36, .inl v_os))) (hvv : rws (Int32.toNatClampNeg nx) = some v) (hlv : (x + 20) ≤ v) (huv : (v + 13) ≤ (x + 124)) (hz3 : (x + 20) ≤ y ∨ (y + 4) ≤ x) (hz4 : (x + 20) ≤ o ∨ (o + 1) ≤ x) (hz5 : (y + 4) ≤ o ∨ (o + 1) ≤ y) (hz6 : (y + 4) ≤ v ∨ (v + 13) ≤ y) (hz7 : (o + 1) ≤ v ∨ (v + 13) ≤ o) (h : f_W52 N xs l5 mn th dc fc dw pc ln lt sd tc en fr oc op os nx dp m_undoable m_undoStart m_thrown m_s m_remembered ov v_sd v_mn v_th v_dc v_fc v_dw v_pc v_ln v_lt v_tc v_en v_fr v_oc v_op v_os = some out) (K : ∀ {hp' : Hp}, hp' (x + 3) = some (.inr (2, [.ref (x + 4), .ref (x + 7), .ref (x + 10), .ref (x + 13), .int out.1, .int mn, .int th])) → hp' (x + 10) = some (.inr (4, [.ref (x + 11), .ref (x + 12), .int out.2.1])) → hp' (x + 11) = some (.inl (kC E 0, 300, .inl out.2.2.1)) → hp' (x + 12) = some (.inl (kC E 0, 432, .inl out.2.2.2.1)) → hp' (x + 13) = some (.inr (6, [.ref (x + 14), .ref (x + 15), .int out.2.2.2.2.1])) → hp' (x + 14) = some (.inl (kC E 0, 36, .inl out.2.2.2.2.2.1)) → hp' (x + 15) = some (.inl (kC E 0, 36, .inl out.2.2.2.2.2.2.1)) → hp' (x + 18) = some (.inr (3, [.ref (x + 19), .int out.2.2.2.2.2.2.2.1, .int out.2.2.2.2.2.2.2.2.1])) → hp' y = some (.inr (11, [.ref (y + 1), .ref (y + 2), .ref (y + 3), .ref (y + 4), .ref (y + 5), .int out.2.2.2.2.2.2.2.2.2.1, .int out.2.2.2.2.2.2.2.2.2.2.1, .int out.2.2.2.2.2.2.2.2.2.2.2.1, .ref (y + 6), .int m_oftenAll, .ref (y + 7), .int m_inputLength, .int m_position, .int m_start, .int m_token, .int m_value, .int m_letters, .int m_code, .int m_place, .ref (y + 8), .int m_outputLength])) → hp' (y + 1) = some (.inl (kC E 0, 1399, .inl out.2.2.2.2.2.2.2.2.2.2.2.2.1)) → hp' (y + 3) = some (.inl (kC E 0, 11192, .inl out.2.2.2.2.2.2.2.2.2.2.2.2.2.1)) → hp' o = some (.inl (kC E 1, 1, .inr (.inl out.2.2.2.2.2.2.2.2.2.2.2.2.2.2.1))) → hp' v = some (.inr (2, [.ref (v + 1), .ref (v + 4), .ref (v + 7), .ref (v + 10), .int out.2.2.2.2.2.2.2.2.2.2.2.2.2.2.2.1, .int out.2.2.2.2.2.2.2.2.2.2.2.2.2.2.2.2.1, .int out.2.2.2.2.2.2.2.2.2.2.2.2.2.2.2.2.2.1])) → hp' (v + 1) = some (.inr (0, [.ref (v + 2), .ref (v + 3), .int out.2.2.2.2.2.2.2.2.2.2.2.2.2.2.2.2.2.2.1])) → hp' (v + 2) = some (.inl (kC E 0, 6, .inl out.2.2.2.2.2.2.2.2.2.2.2.2.2.2.2.2.2.2.2.1)) → hp' (v + 3) = some (.inl (kC E 0, 72, .inl out.2.2.2.2.2.2.2.2.2.2.2.2.2.2.2.2.2.2.2.2.1)) → hp' (v + 4) = some (.inr (7, [.ref (v + 5), .ref (v + 6), .int out.2.2.2.2.2.2.2.2.2.2.2.2.2.2.2.2.2.2.2.2.2.1])) → hp' (v + 5) = some (.inl (kC E 0, 6, .inl out.2.2.2.2.2.2.2.2.2.2.2.2.2.2.2.2.2.2.2.2.2.2.1)) → hp' (v + 6) = some (.inl (kC E 0, 24, .inl out.2.2.2.2.2.2.2.2.2.2.2.2.2.2.2.2.2.2.2.2.2.2.2.1)) → hp' (v + 7) = some (.inr (4, [.ref (v + 8), .ref (v + 9), .int out.2.2.2.2.2.2.2.2.2.2.2.2.2.2.2.2.2.2.2.2.2.2.2.2.1])) → hp' (v + 8) = some (.inl (kC E 0, 300, .inl out.2.2.2.2.2.2.2.2.2.2.2.2.2.2.2.2.2.2.2.2.2.2.2.2.2.1)) → hp' (v + 9) = some (.inl (kC E 0, 432, .inl out.2.2.2.2.2.2.2.2.2.2.2.2.2.2.2.2.2.2.2.2.2.2.2.2.2.2.1)) → hp' (v + 10) = some (.inr (6, [.ref (v + 11), .ref (v + 12), .int out.2.2.2.2.2.2.2.2.2.2.2.2.2.2.2.2.2.2.2.2.2.2.2.2.2.2.2.1])) → hp' (v + 11) = some (.inl (kC E 0, 36, .inl out.2.2.2.2.2.2.2.2.2.2.2.2.2.2.2.2.2.2.2.2.2.2.2.2.2.2.2.2.1)) → hp' (v + 12) = some (.inl (kC E 0, 36, .inl out.2.2.2.2.2.2.2.2.2.2.2.2.2.2.2.2.2.2.2.2.2.2.2.2.2.2.2.2.2)) → (∀ q, q ≠ (x + 3) → q ≠ (x + 10) → q ≠ (x + 11) → q ≠ (x + 12) → q ≠ (x + 13) → q ≠ (x + 14) → q ≠ (x + 15) → q ≠ (x + 18) → q ≠ y → q ≠ (y + 1) → q ≠ (y + 3) → q ≠ o → q ≠ v → q ≠ (v + 1) → q ≠ (v + 2) → q ≠ (v + 3) → q ≠ (v + 4) → q ≠ (v + 5) → q ≠ (v + 6) → q ≠ (v + 7) → q ≠ (v + 8) → q ≠ (v + 9) → q ≠ (v + 10) → q ≠ (v + 11) → q ≠ (v + 12) → hp' q = hp q) → AW E p l e room_1 s m #[Value.ref b] below meth c 10 Q hp' none (k0 + 8) (n0 + 48) 3407 [(0, .ref b), (1, .ref x), (2, .ref y), (3, .ref o), (4, .ref od), (5, .int l5)] []) : AW E p l e room_1 s m #[Value.ref b] below meth c 10 Q hp none (k0 + 0) (n0 + 0) 2809 [(0, .ref b), (1, .ref x), (2, .ref y), (3, .ref o), (4, .ref od), (5, .int l5)] [] := by
  unfold f_W52 at h
  refine A_aload_n X dL_law_2809 1 rfl ?_
  refine A_aload_n X dL_law_2810 3 rfl ?_
  obtain ⟨t1, hct1, h⟩ := bind_o h
  refine A_cX (k' := (k0 + 1)) (n' := (n0 + 6)) rfl rfl (A_runSH (rest := []) X dL_law_2811 (c_L_absolve g0 g3 g4 g5 g6 g7 g8 g9 g10 g11 g12 g13 g14 g15 g18 g19 g48 g50 g51 g52 g53 g54 g55 g56 g57 g58 g59 g60 g61 g62 hvv (by omega) (by omega) (by omega) (by omega) hct1) kY_L_absolve kw_1312 ⟨(Nat.le_of_ble_eq_true rfl), (Nat.le_of_ble_eq_true rfl), kb rfl hRk, kb rfl hRn⟩ rfl (Nat.le_of_ble_eq_true rfl)) (fun C hp1 hP => hP.elim) (fun v9 hp1 al9 hP => ?_)
  obtain ⟨rfl, k1_0, k1_1, k1_2, k1_3, k1_4, k1_5, k1_6, k1_7, k1_8, k1_9, k1_10, k1_11, k1_12, k1_13, k1_14, k1_15, k1_16, k1_17, k1_18, k1_19, k1_20, k1_21, n1, rfl⟩ := hP
  replace k1_0 : hp1 (x + 3) = some (.inr (2, [.ref (x + 4), .ref (x + 7), .ref (x + 10), .ref (x + 13), .int t1.2.1, .int mn, .int th])) := k1_0
  replace k1_1 : hp1 (x + 10) = some (.inr (4, [.ref (x + 11), .ref (x + 12), .int t1.2.2.1])) := k1_1
  replace k1_2 : hp1 (x + 11) = some (.inl (kC E 0, 300, .inl t1.2.2.2.1)) := k1_2
  replace k1_3 : hp1 (x + 12) = some (.inl (kC E 0, 432, .inl t1.2.2.2.2.1)) := k1_3
  replace k1_4 : hp1 (x + 13) = some (.inr (6, [.ref (x + 14), .ref (x + 15), .int t1.2.2.2.2.2.1])) := k1_4
  replace k1_5 : hp1 (x + 14) = some (.inl (kC E 0, 36, .inl t1.2.2.2.2.2.2.1)) := k1_5
  replace k1_6 : hp1 (x + 15) = some (.inl (kC E 0, 36, .inl t1.2.2.2.2.2.2.2.1)) := k1_6
  replace k1_7 : hp1 (x + 18) = some (.inr (3, [.ref (x + 19), .int t1.2.2.2.2.2.2.2.2.1, .int t1.2.2.2.2.2.2.2.2.2.1])) := k1_7
  replace k1_8 : hp1 o = some (.inl (kC E 1, 1, .inr (.inl t1.2.2.2.2.2.2.2.2.2.2.1))) := k1_8
  replace k1_9 : hp1 v = some (.inr (2, [.ref (v + 1), .ref (v + 4), .ref (v + 7), .ref (v + 10), .int t1.2.2.2.2.2.2.2.2.2.2.2.1, .int t1.2.2.2.2.2.2.2.2.2.2.2.2.1, .int t1.2.2.2.2.2.2.2.2.2.2.2.2.2.1])) := k1_9
  replace k1_10 : hp1 (v + 1) = some (.inr (0, [.ref (v + 2), .ref (v + 3), .int t1.2.2.2.2.2.2.2.2.2.2.2.2.2.2.1])) := k1_10
  replace k1_11 : hp1 (v + 2) = some (.inl (kC E 0, 6, .inl t1.2.2.2.2.2.2.2.2.2.2.2.2.2.2.2.1)) := k1_11
  replace k1_12 : hp1 (v + 3) = some (.inl (kC E 0, 72, .inl t1.2.2.2.2.2.2.2.2.2.2.2.2.2.2.2.2.1)) := k1_12
  replace k1_13 : hp1 (v + 4) = some (.inr (7, [.ref (v + 5), .ref (v + 6), .int t1.2.2.2.2.2.2.2.2.2.2.2.2.2.2.2.2.2.1])) := k1_13
  replace k1_14 : hp1 (v + 5) = some (.inl (kC E 0, 6, .inl t1.2.2.2.2.2.2.2.2.2.2.2.2.2.2.2.2.2.2.1)) := k1_14
  replace k1_15 : hp1 (v + 6) = some (.inl (kC E 0, 24, .inl t1.2.2.2.2.2.2.2.2.2.2.2.2.2.2.2.2.2.2.2.1)) := k1_15
  replace k1_16 : hp1 (v + 7) = some (.inr (4, [.ref (v + 8), .ref (v + 9), .int t1.2.2.2.2.2.2.2.2.2.2.2.2.2.2.2.2.2.2.2.2.1])) := k1_16
  replace k1_17 : hp1 (v + 8) = some (.inl (kC E 0, 300, .inl t1.2.2.2.2.2.2.2.2.2.2.2.2.2.2.2.2.2.2.2.2.2.1)) := k1_17
  replace k1_18 : hp1 (v + 9) = some (.inl (kC E 0, 432, .inl t1.2.2.2.2.2.2.2.2.2.2.2.2.2.2.2.2.2.2.2.2.2.2.1)) := k1_18
  replace k1_19 : hp1 (v + 10) = some (.inr (6, [.ref (v + 11), .ref (v + 12), .int t1.2.2.2.2.2.2.2.2.2.2.2.2.2.2.2.2.2.2.2.2.2.2.2.1])) := k1_19
  replace k1_20 : hp1 (v + 11) = some (.inl (kC E 0, 36, .inl t1.2.2.2.2.2.2.2.2.2.2.2.2.2.2.2.2.2.2.2.2.2.2.2.2.1)) := k1_20
  replace k1_21 : hp1 (v + 12) = some (.inl (kC E 0, 36, .inl t1.2.2.2.2.2.2.2.2.2.2.2.2.2.2.2.2.2.2.2.2.2.2.2.2.2)) := k1_21
  refine A_st (st' := [.int t1.1]) rfl ?_
  refine A_istore (L' := [(6, .int t1.1), (0, .ref b), (1, .ref x), (2, .ref y), (3, .ref o), (4, .ref od), (5, .int l5)]) X dL_law_2814 (by decide) rfl ?_
  refine A_aload_n X dL_law_2816 3 rfl ?_
  obtain ⟨t2, hct2, h⟩ := bind_o h
  refine A_c (k' := (k0 + 1)) (n' := (n0 + 6)) rfl rfl (A_runV (rest := []) X dL_law_2817 (c_X11_absolve ((n1 _ (by omega) (by omega) (by omega) (by omega) (by omega) (by omega) (by omega) (by omega) (by omega) (by omega) (by omega) (by omega) (by omega) (by omega) (by omega) (by omega) (by omega) (by omega) (by omega) (by omega) (by omega) (by omega)).trans g39) ((n1 _ (by omega) (by omega) (by omega) (by omega) (by omega) (by omega) (by omega) (by omega) (by omega) (by omega) (by omega) (by omega) (by omega) (by omega) (by omega) (by omega) (by omega) (by omega) (by omega) (by omega) (by omega) (by omega)).trans g40) ((n1 _ (by omega) (by omega) (by omega) (by omega) (by omega) (by omega) (by omega) (by omega) (by omega) (by omega) (by omega) (by omega) (by omega) (by omega) (by omega) (by omega) (by omega) (by omega) (by omega) (by omega) (by omega) (by omega)).trans g42)  hct2) kY_X11_absolve kw_1959 ((n1 _ (by omega) (by omega) (by omega) (by omega) (by omega) (by omega) (by omega) (by omega) (by omega) (by omega) (by omega) (by omega) (by omega) (by omega) (by omega) (by omega) (by omega) (by omega) (by omega) (by omega) (by omega) (by omega)).trans g39) rfl rfl ⟨(Nat.le_of_ble_eq_true rfl), (Nat.le_of_ble_eq_true rfl), kb rfl hRk, kb rfl hRn⟩ rfl (Nat.le_of_ble_eq_true rfl)) (fun v9 hp2 al9 hP => ?_)
  obtain ⟨rfl, k2_0, k2_1, k2_2, n2, rfl⟩ := hP
  replace k2_0 : hp2 y = some (.inr (11, [.ref (y + 1), .ref (y + 2), .ref (y + 3), .ref (y + 4), .ref (y + 5), .int t2.2.1, .int t2.2.2.1, .int t2.2.2.2.1, .ref (y + 6), .int m_oftenAll, .ref (y + 7), .int m_inputLength, .int m_position, .int m_start, .int m_token, .int m_value, .int m_letters, .int m_code, .int m_place, .ref (y + 8), .int m_outputLength])) := k2_0
  replace k2_1 : hp2 (y + 1) = some (.inl (kC E 0, 1399, .inl t2.2.2.2.2.1)) := k2_1
  replace k2_2 : hp2 (y + 3) = some (.inl (kC E 0, 11192, .inl t2.2.2.2.2.2)) := k2_2
  refine A_st (st' := [.int t2.1]) rfl ?_
  refine A_istore (L' := [(7, .int t2.1), (6, .int t1.1), (0, .ref b), (1, .ref x), (2, .ref y), (3, .ref o), (4, .ref od), (5, .int l5)]) X dL_law_2820 (by decide) rfl ?_
  refine A_aload_n X dL_law_2822 4 rfl ?_
  obtain ⟨t3, hct3, h⟩ := bind_o h
  refine A_cp (k' := (k0 + 1)) (n' := (n0 + 6)) (A_runV (rest := []) X dL_law_2823 (c_X11_thrown k2_0  hct3) kY_X11_thrown kw_1668 k2_0 rfl rfl ⟨(Nat.le_of_ble_eq_true rfl), (Nat.le_of_ble_eq_true rfl), kb rfl hRk, kb rfl hRn⟩ rfl (Nat.le_of_ble_eq_true rfl)) rfl rfl ?_
  refine A_iload X dL_law_2826 1 rfl ?_
  refine A_icmp_eq (tgt := 2833) X dL_law_2828 h (by decide) (fun hc h => ?_) (fun hc h => ?_)
  · refine A_iload X dL_law_2833 1 rfl ?_
    refine A_if_ne (tgt := 2850) X dL_law_2835 h (by decide) (fun hc h => ?_) (fun hc h => ?_)
    · refine A_goto (tgt := 3407) X dL_law_2850 (by decide) ?_
      cases h
      refine A_sub (L' := [(0, .ref b), (1, .ref x), (2, .ref y), (3, .ref o), (4, .ref od), (5, .int l5)]) [2, 3, 4, 5, 6, 7] rfl ?_
      refine A_widen (k' := (k0 + 8)) (n' := (n0 + 48)) (by omega) (by omega) ?_
      exact K ((n2 _ (by omega) (by omega) (by omega)).trans k1_0) ((n2 _ (by omega) (by omega) (by omega)).trans k1_1) ((n2 _ (by omega) (by omega) (by omega)).trans k1_2) ((n2 _ (by omega) (by omega) (by omega)).trans k1_3) ((n2 _ (by omega) (by omega) (by omega)).trans k1_4) ((n2 _ (by omega) (by omega) (by omega)).trans k1_5) ((n2 _ (by omega) (by omega) (by omega)).trans k1_6) ((n2 _ (by omega) (by omega) (by omega)).trans k1_7) k2_0 k2_1 k2_2 ((n2 _ (by omega) (by omega) (by omega)).trans k1_8) ((n2 _ (by omega) (by omega) (by omega)).trans k1_9) ((n2 _ (by omega) (by omega) (by omega)).trans k1_10) ((n2 _ (by omega) (by omega) (by omega)).trans k1_11) ((n2 _ (by omega) (by omega) (by omega)).trans k1_12) ((n2 _ (by omega) (by omega) (by omega)).trans k1_13) ((n2 _ (by omega) (by omega) (by omega)).trans k1_14) ((n2 _ (by omega) (by omega) (by omega)).trans k1_15) ((n2 _ (by omega) (by omega) (by omega)).trans k1_16) ((n2 _ (by omega) (by omega) (by omega)).trans k1_17) ((n2 _ (by omega) (by omega) (by omega)).trans k1_18) ((n2 _ (by omega) (by omega) (by omega)).trans k1_19) ((n2 _ (by omega) (by omega) (by omega)).trans k1_20) ((n2 _ (by omega) (by omega) (by omega)).trans k1_21) (fun q z0 z1 z2 z3 z4 z5 z6 z7 z8 z9 z10 z11 z12 z13 z14 z15 z16 z17 z18 z19 z20 z21 z22 z23 z24 => ((n2 q z8 z9 z10).trans (n1 q z0 z1 z2 z3 z4 z5 z6 z7 z11 z12 z13 z14 z15 z16 z17 z18 z19 z20 z21 z22 z23 z24)))
    · refine A_aload_n X dL_law_2838 5 rfl ?_
      refine A_iconst (v := 0) X dL_law_2839 (by decide) ?_
      refine A_lald X dL_law_2840 ((n2 _ (by omega) (by omega) (by omega)).trans k1_8) (by decide) ?_
      refine A_iload X dL_law_2841 0 rfl ?_
      refine A_i2l X dL_law_2843 ?_
      refine A_lcmp X dL_law_2844 ?_
      refine A_if_eq (tgt := 2850) X dL_law_2845 h (by decide) (fun hc h => ?_) (fun hc h => ?_)
      · refine A_goto (tgt := 3407) X dL_law_2850 (by decide) ?_
        cases h
        refine A_sub (L' := [(0, .ref b), (1, .ref x), (2, .ref y), (3, .ref o), (4, .ref od), (5, .int l5)]) [2, 3, 4, 5, 6, 7] rfl ?_
        refine A_widen (k' := (k0 + 8)) (n' := (n0 + 48)) (by omega) (by omega) ?_
        exact K ((n2 _ (by omega) (by omega) (by omega)).trans k1_0) ((n2 _ (by omega) (by omega) (by omega)).trans k1_1) ((n2 _ (by omega) (by omega) (by omega)).trans k1_2) ((n2 _ (by omega) (by omega) (by omega)).trans k1_3) ((n2 _ (by omega) (by omega) (by omega)).trans k1_4) ((n2 _ (by omega) (by omega) (by omega)).trans k1_5) ((n2 _ (by omega) (by omega) (by omega)).trans k1_6) ((n2 _ (by omega) (by omega) (by omega)).trans k1_7) k2_0 k2_1 k2_2 ((n2 _ (by omega) (by omega) (by omega)).trans k1_8) ((n2 _ (by omega) (by omega) (by omega)).trans k1_9) ((n2 _ (by omega) (by omega) (by omega)).trans k1_10) ((n2 _ (by omega) (by omega) (by omega)).trans k1_11) ((n2 _ (by omega) (by omega) (by omega)).trans k1_12) ((n2 _ (by omega) (by omega) (by omega)).trans k1_13) ((n2 _ (by omega) (by omega) (by omega)).trans k1_14) ((n2 _ (by omega) (by omega) (by omega)).trans k1_15) ((n2 _ (by omega) (by omega) (by omega)).trans k1_16) ((n2 _ (by omega) (by omega) (by omega)).trans k1_17) ((n2 _ (by omega) (by omega) (by omega)).trans k1_18) ((n2 _ (by omega) (by omega) (by omega)).trans k1_19) ((n2 _ (by omega) (by omega) (by omega)).trans k1_20) ((n2 _ (by omega) (by omega) (by omega)).trans k1_21) (fun q z0 z1 z2 z3 z4 z5 z6 z7 z8 z9 z10 z11 z12 z13 z14 z15 z16 z17 z18 z19 z20 z21 z22 z23 z24 => ((n2 q z8 z9 z10).trans (n1 q z0 z1 z2 z3 z4 z5 z6 z7 z11 z12 z13 z14 z15 z16 z17 z18 z19 z20 z21 z22 z23 z24)))
      · refine A_iconst (v := 0) X dL_law_2848 (by decide) ?_
        cases h
  · refine A_iconst (v := 0) X dL_law_2831 (by decide) ?_
    cases h
set_option maxHeartbeats 8000000 in
set_option maxRecDepth 100000 in
theorem c_W53 {E : KE} {p : Program} {l : Launch} {e : Env} {s : State} {m : MethodId} {b L9 : Nat} {xs : Nat → Int32} {below : List Frame} {meth : Method} {c : Code} {hp : Hp} {k0 n0 : Nat} {Q : State → Prop} {N : Nat} {x : Nat} {y : Nat} {o : Nat} {od : Nat} {v : Nat} {sd : Int32} {mn : Int32} {th : Int32} {dc : Int32} {fc : Nat → Int32} {dw : Nat → Int32} {pc : Int32} {ln : Nat → Int32} {lt : Nat → Int32} {tc : Int32} {en : Nat → Int32} {fr : Nat → Int32} {oc : Int32} {op : Nat → Int32} {os : Nat → Int32} {nx : Int32} {dp : Int32} {rws : Nat → Option Nat} {m_undoable : Int32} {m_undoStart : Int32} {m_thrown : Int32} {m_oftenAll : Int32} {m_inputLength : Int32} {m_position : Int32} {m_start : Int32} {m_token : Int32} {m_value : Int32} {m_letters : Int32} {m_code : Int32} {m_place : Int32} {m_outputLength : Int32} {m_s : Nat → Int32} {m_remembered : Nat → Int32} {ov : Nat → Int64} {v_sd : Int32} {v_mn : Int32} {v_th : Int32} {v_dc : Int32} {v_fc : Nat → Int32} {v_dw : Nat → Int32} {v_pc : Int32} {v_ln : Nat → Int32} {v_lt : Nat → Int32} {v_tc : Int32} {v_en : Nat → Int32} {v_fr : Nat → Int32} {v_oc : Int32} {v_op : Nat → Int32} {v_os : Nat → Int32} {l5 : Int32} {out : Int32 × (Nat → Int32) × (Nat → Int32) × Int32 × Int32 × Int32 × Int32 × Int32 × (Nat → Int32) × (Nat → Int32) × (Nat → Int64) × Int32 × Int32 × Int32 × Int32 × (Nat → Int32) × (Nat → Int32) × Int32 × (Nat → Int32) × (Nat → Int32) × Int32 × (Nat → Int32) × (Nat → Int32) × Int32 × (Nat → Int32) × (Nat → Int32)} (X : CX E p l s m #[Value.ref b] meth c "DiceAuditLaw" cL_law 10) (hX : va_X b L9 xs s s.heap) (hbl : b < s.heap.size) (hbA : ¬ kA E b) (hi1 : vp_in (l5 + 1) L9) (hi2 : vp_in (l5 + 2) L9) (hi3 : vp_in (l5 + 3) L9) (hi4 : vp_in (l5 + 4) L9) (hi5 : vp_in (l5 + 5) L9) (hRk : k0 + 8 ≤ room_1.cells) (hRn : n0 + 48 ≤ room_1.slots) (g0 : hp x = some (.inr (10, [.ref (x + 126), .ref (x + 128), .ref (x + 1), .ref (x + 3), .ref (x + 16), .ref (x + 18), .ref (x + 124), .ref (x + 125)]))) (g3 : hp (x + 3) = some (.inr (2, [.ref (x + 4), .ref (x + 7), .ref (x + 10), .ref (x + 13), .int sd, .int mn, .int th]))) (g4 : hp (x + 4) = some (.inr (0, [.ref (x + 5), .ref (x + 6), .int dc]))) (g5 : hp (x + 5) = some (.inl (kC E 0, 6, .inl fc))) (g6 : hp (x + 6) = some (.inl (kC E 0, 72, .inl dw))) (g7 : hp (x + 7) = some (.inr (7, [.ref (x + 8), .ref (x + 9), .int pc]))) (g8 : hp (x + 8) = some (.inl (kC E 0, 6, .inl ln))) (g9 : hp (x + 9) = some (.inl (kC E 0, 24, .inl lt))) (g10 : hp (x + 10) = some (.inr (4, [.ref (x + 11), .ref (x + 12), .int tc]))) (g11 : hp (x + 11) = some (.inl (kC E 0, 300, .inl en))) (g12 : hp (x + 12) = some (.inl (kC E 0, 432, .inl fr))) (g13 : hp (x + 13) = some (.inr (6, [.ref (x + 14), .ref (x + 15), .int oc]))) (g14 : hp (x + 14) = some (.inl (kC E 0, 36, .inl op))) (g15 : hp (x + 15) = some (.inl (kC E 0, 36, .inl os))) (g18 : hp (x + 18) = some (.inr (3, [.ref (x + 19), .int nx, .int dp]))) (g19 : hp (x + 19) = some (.inl (kC E 5, 8, .inr (.inr (.inr (.inr rws)))))) (g39 : hp y = some (.inr (11, [.ref (y + 1), .ref (y + 2), .ref (y + 3), .ref (y + 4), .ref (y + 5), .int m_undoable, .int m_undoStart, .int m_thrown, .ref (y + 6), .int m_oftenAll, .ref (y + 7), .int m_inputLength, .int m_position, .int m_start, .int m_token, .int m_value, .int m_letters, .int m_code, .int m_place, .ref (y + 8), .int m_outputLength]))) (g40 : hp (y + 1) = some (.inl (kC E 0, 1399, .inl m_s))) (g42 : hp (y + 3) = some (.inl (kC E 0, 11192, .inl m_remembered))) (g48 : hp o = some (.inl (kC E 1, 1, .inr (.inl ov)))) (g50 : hp v = some (.inr (2, [.ref (v + 1), .ref (v + 4), .ref (v + 7), .ref (v + 10), .int v_sd, .int v_mn, .int v_th]))) (g51 : hp (v + 1) = some (.inr (0, [.ref (v + 2), .ref (v + 3), .int v_dc]))) (g52 : hp (v + 2) = some (.inl (kC E 0, 6, .inl v_fc))) (g53 : hp (v + 3) = some (.inl (kC E 0, 72, .inl v_dw))) (g54 : hp (v + 4) = some (.inr (7, [.ref (v + 5), .ref (v + 6), .int v_pc]))) (g55 : hp (v + 5) = some (.inl (kC E 0, 6, .inl v_ln))) (g56 : hp (v + 6) = some (.inl (kC E 0, 24, .inl v_lt))) (g57 : hp (v + 7) = some (.inr (4, [.ref (v + 8), .ref (v + 9), .int v_tc]))) (g58 : hp (v + 8) = some (.inl (kC E 0, 300, .inl v_en))) (g59 : hp (v + 9) = some (.inl (kC E 0, 432, .inl v_fr))) (g60 : hp (v + 10) = some (.inr (6, [.ref (v + 11), .ref (v + 12), .int v_oc]))) (g61 : hp (v + 11) = some (.inl (kC E 0, 36, .inl v_op))) (g62 : hp (v + 12) = some (.inl (kC E 0, 36, .inl v_os))) (hvv : rws (Int32.toNatClampNeg nx) = some v) (hlv : (x + 20) ≤ v) (huv : (v + 13) ≤ (x + 124)) (hz3 : (x + 20) ≤ y ∨ (y + 4) ≤ x) (hz4 : (x + 20) ≤ o ∨ (o + 1) ≤ x) (hz5 : (y + 4) ≤ o ∨ (o + 1) ≤ y) (hz6 : (y + 4) ≤ v ∨ (v + 13) ≤ y) (hz7 : (o + 1) ≤ v ∨ (v + 13) ≤ o) (h : f_W53 N xs l5 sd mn th dc fc dw pc ln lt tc en fr oc op os nx dp m_undoable m_undoStart m_thrown m_s m_remembered ov v_sd v_mn v_th v_dc v_fc v_dw v_pc v_ln v_lt v_tc v_en v_fr v_oc v_op v_os = some out) (K : ∀ {hp' : Hp}, hp' (x + 13) = some (.inr (6, [.ref (x + 14), .ref (x + 15), .int out.1])) → hp' (x + 14) = some (.inl (kC E 0, 36, .inl out.2.1)) → hp' (x + 15) = some (.inl (kC E 0, 36, .inl out.2.2.1)) → hp' (x + 18) = some (.inr (3, [.ref (x + 19), .int out.2.2.2.1, .int out.2.2.2.2.1])) → hp' y = some (.inr (11, [.ref (y + 1), .ref (y + 2), .ref (y + 3), .ref (y + 4), .ref (y + 5), .int out.2.2.2.2.2.1, .int out.2.2.2.2.2.2.1, .int out.2.2.2.2.2.2.2.1, .ref (y + 6), .int m_oftenAll, .ref (y + 7), .int m_inputLength, .int m_position, .int m_start, .int m_token, .int m_value, .int m_letters, .int m_code, .int m_place, .ref (y + 8), .int m_outputLength])) → hp' (y + 1) = some (.inl (kC E 0, 1399, .inl out.2.2.2.2.2.2.2.2.1)) → hp' (y + 3) = some (.inl (kC E 0, 11192, .inl out.2.2.2.2.2.2.2.2.2.1)) → hp' o = some (.inl (kC E 1, 1, .inr (.inl out.2.2.2.2.2.2.2.2.2.2.1))) → hp' v = some (.inr (2, [.ref (v + 1), .ref (v + 4), .ref (v + 7), .ref (v + 10), .int out.2.2.2.2.2.2.2.2.2.2.2.1, .int out.2.2.2.2.2.2.2.2.2.2.2.2.1, .int out.2.2.2.2.2.2.2.2.2.2.2.2.2.1])) → hp' (v + 1) = some (.inr (0, [.ref (v + 2), .ref (v + 3), .int out.2.2.2.2.2.2.2.2.2.2.2.2.2.2.1])) → hp' (v + 2) = some (.inl (kC E 0, 6, .inl out.2.2.2.2.2.2.2.2.2.2.2.2.2.2.2.1)) → hp' (v + 3) = some (.inl (kC E 0, 72, .inl out.2.2.2.2.2.2.2.2.2.2.2.2.2.2.2.2.1)) → hp' (v + 4) = some (.inr (7, [.ref (v + 5), .ref (v + 6), .int out.2.2.2.2.2.2.2.2.2.2.2.2.2.2.2.2.2.1])) → hp' (v + 5) = some (.inl (kC E 0, 6, .inl out.2.2.2.2.2.2.2.2.2.2.2.2.2.2.2.2.2.2.1)) → hp' (v + 6) = some (.inl (kC E 0, 24, .inl out.2.2.2.2.2.2.2.2.2.2.2.2.2.2.2.2.2.2.2.1)) → hp' (v + 7) = some (.inr (4, [.ref (v + 8), .ref (v + 9), .int out.2.2.2.2.2.2.2.2.2.2.2.2.2.2.2.2.2.2.2.2.1])) → hp' (v + 8) = some (.inl (kC E 0, 300, .inl out.2.2.2.2.2.2.2.2.2.2.2.2.2.2.2.2.2.2.2.2.2.1)) → hp' (v + 9) = some (.inl (kC E 0, 432, .inl out.2.2.2.2.2.2.2.2.2.2.2.2.2.2.2.2.2.2.2.2.2.2.1)) → hp' (v + 10) = some (.inr (6, [.ref (v + 11), .ref (v + 12), .int out.2.2.2.2.2.2.2.2.2.2.2.2.2.2.2.2.2.2.2.2.2.2.2.1])) → hp' (v + 11) = some (.inl (kC E 0, 36, .inl out.2.2.2.2.2.2.2.2.2.2.2.2.2.2.2.2.2.2.2.2.2.2.2.2.1)) → hp' (v + 12) = some (.inl (kC E 0, 36, .inl out.2.2.2.2.2.2.2.2.2.2.2.2.2.2.2.2.2.2.2.2.2.2.2.2.2)) → (∀ q, q ≠ (x + 13) → q ≠ (x + 14) → q ≠ (x + 15) → q ≠ (x + 18) → q ≠ y → q ≠ (y + 1) → q ≠ (y + 3) → q ≠ o → q ≠ v → q ≠ (v + 1) → q ≠ (v + 2) → q ≠ (v + 3) → q ≠ (v + 4) → q ≠ (v + 5) → q ≠ (v + 6) → q ≠ (v + 7) → q ≠ (v + 8) → q ≠ (v + 9) → q ≠ (v + 10) → q ≠ (v + 11) → q ≠ (v + 12) → hp' q = hp q) → AW E p l e room_1 s m #[Value.ref b] below meth c 10 Q hp' none (k0 + 8) (n0 + 48) 3407 [(0, .ref b), (1, .ref x), (2, .ref y), (3, .ref o), (4, .ref od), (5, .int l5)] []) : AW E p l e room_1 s m #[Value.ref b] below meth c 10 Q hp none (k0 + 0) (n0 + 0) 2853 [(0, .ref b), (1, .ref x), (2, .ref y), (3, .ref o), (4, .ref od), (5, .int l5)] [] := by
  unfold f_W53 at h
  refine A_aload_n X dL_law_2853 1 rfl ?_
  refine A_aload_n X dL_law_2854 0 rfl ?_
  refine A_iload X dL_law_2855 5 rfl ?_
  refine A_iconst (v := 1) X dL_law_2857 (by decide) ?_
  refine A_iadd X dL_law_2858 ?_
  refine A_sld X hX hbl hbA hi1 dL_law_2859 ?_
  refine A_aload_n X dL_law_2860 3 rfl ?_
  obtain ⟨t1, hct1, h⟩ := bind_o h
  refine A_cX (k' := (k0 + 1)) (n' := (n0 + 6)) rfl rfl (A_runSH (rest := []) X dL_law_2861 (c_L_forgive g0 g3 g4 g5 g6 g7 g8 g9 g10 g11 g12 g13 g14 g15 g18 g19 g48 g50 g51 g52 g53 g54 g55 g56 g57 g58 g59 g60 g61 g62 hvv (by omega) (by omega) (by omega) (by omega) hct1) kY_L_forgive kw_1321 ⟨(Nat.le_of_ble_eq_true rfl), (Nat.le_of_ble_eq_true rfl), kb rfl hRk, kb rfl hRn⟩ rfl (Nat.le_of_ble_eq_true rfl)) (fun C hp1 hP => hP.elim) (fun v9 hp1 al9 hP => ?_)
  obtain ⟨rfl, k1_0, k1_1, k1_2, k1_3, k1_4, k1_5, k1_6, k1_7, k1_8, k1_9, k1_10, k1_11, k1_12, k1_13, k1_14, k1_15, k1_16, k1_17, n1, rfl⟩ := hP
  replace k1_0 : hp1 (x + 13) = some (.inr (6, [.ref (x + 14), .ref (x + 15), .int t1.2.1])) := k1_0
  replace k1_1 : hp1 (x + 14) = some (.inl (kC E 0, 36, .inl t1.2.2.1)) := k1_1
  replace k1_2 : hp1 (x + 15) = some (.inl (kC E 0, 36, .inl t1.2.2.2.1)) := k1_2
  replace k1_3 : hp1 (x + 18) = some (.inr (3, [.ref (x + 19), .int t1.2.2.2.2.1, .int t1.2.2.2.2.2.1])) := k1_3
  replace k1_4 : hp1 o = some (.inl (kC E 1, 1, .inr (.inl t1.2.2.2.2.2.2.1))) := k1_4
  replace k1_5 : hp1 v = some (.inr (2, [.ref (v + 1), .ref (v + 4), .ref (v + 7), .ref (v + 10), .int t1.2.2.2.2.2.2.2.1, .int t1.2.2.2.2.2.2.2.2.1, .int t1.2.2.2.2.2.2.2.2.2.1])) := k1_5
  replace k1_6 : hp1 (v + 1) = some (.inr (0, [.ref (v + 2), .ref (v + 3), .int t1.2.2.2.2.2.2.2.2.2.2.1])) := k1_6
  replace k1_7 : hp1 (v + 2) = some (.inl (kC E 0, 6, .inl t1.2.2.2.2.2.2.2.2.2.2.2.1)) := k1_7
  replace k1_8 : hp1 (v + 3) = some (.inl (kC E 0, 72, .inl t1.2.2.2.2.2.2.2.2.2.2.2.2.1)) := k1_8
  replace k1_9 : hp1 (v + 4) = some (.inr (7, [.ref (v + 5), .ref (v + 6), .int t1.2.2.2.2.2.2.2.2.2.2.2.2.2.1])) := k1_9
  replace k1_10 : hp1 (v + 5) = some (.inl (kC E 0, 6, .inl t1.2.2.2.2.2.2.2.2.2.2.2.2.2.2.1)) := k1_10
  replace k1_11 : hp1 (v + 6) = some (.inl (kC E 0, 24, .inl t1.2.2.2.2.2.2.2.2.2.2.2.2.2.2.2.1)) := k1_11
  replace k1_12 : hp1 (v + 7) = some (.inr (4, [.ref (v + 8), .ref (v + 9), .int t1.2.2.2.2.2.2.2.2.2.2.2.2.2.2.2.2.1])) := k1_12
  replace k1_13 : hp1 (v + 8) = some (.inl (kC E 0, 300, .inl t1.2.2.2.2.2.2.2.2.2.2.2.2.2.2.2.2.2.1)) := k1_13
  replace k1_14 : hp1 (v + 9) = some (.inl (kC E 0, 432, .inl t1.2.2.2.2.2.2.2.2.2.2.2.2.2.2.2.2.2.2.1)) := k1_14
  replace k1_15 : hp1 (v + 10) = some (.inr (6, [.ref (v + 11), .ref (v + 12), .int t1.2.2.2.2.2.2.2.2.2.2.2.2.2.2.2.2.2.2.2.1])) := k1_15
  replace k1_16 : hp1 (v + 11) = some (.inl (kC E 0, 36, .inl t1.2.2.2.2.2.2.2.2.2.2.2.2.2.2.2.2.2.2.2.2.1)) := k1_16
  replace k1_17 : hp1 (v + 12) = some (.inl (kC E 0, 36, .inl t1.2.2.2.2.2.2.2.2.2.2.2.2.2.2.2.2.2.2.2.2.2)) := k1_17
  refine A_st (st' := [.int t1.1]) rfl ?_
  refine A_istore (L' := [(6, .int t1.1), (0, .ref b), (1, .ref x), (2, .ref y), (3, .ref o), (4, .ref od), (5, .int l5)]) X dL_law_2864 (by decide) rfl ?_
  refine A_aload_n X dL_law_2866 3 rfl ?_
  refine A_aload_n X dL_law_2867 1 rfl ?_
  refine A_iload X dL_law_2868 6 rfl ?_
  refine A_iconst (v := 1) X dL_law_2870 (by decide) ?_
  refine A_iadd X dL_law_2871 ?_
  refine A_sld X hX hbl hbA hi1 dL_law_2872 ?_
  obtain ⟨t2, hct2, h⟩ := bind_o h
  refine A_c (k' := (k0 + 1)) (n' := (n0 + 6)) rfl rfl (A_runV (rest := []) X dL_law_2873 (c_X11_forgive ((n1 _ (by omega) (by omega) (by omega) (by omega) (by omega) (by omega) (by omega) (by omega) (by omega) (by omega) (by omega) (by omega) (by omega) (by omega) (by omega) (by omega) (by omega) (by omega)).trans g39) ((n1 _ (by omega) (by omega) (by omega) (by omega) (by omega) (by omega) (by omega) (by omega) (by omega) (by omega) (by omega) (by omega) (by omega) (by omega) (by omega) (by omega) (by omega) (by omega)).trans g40) ((n1 _ (by omega) (by omega) (by omega) (by omega) (by omega) (by omega) (by omega) (by omega) (by omega) (by omega) (by omega) (by omega) (by omega) (by omega) (by omega) (by omega) (by omega) (by omega)).trans g42)  hct2) kY_X11_forgive kw_1963 ((n1 _ (by omega) (by omega) (by omega) (by omega) (by omega) (by omega) (by omega) (by omega) (by omega) (by omega) (by omega) (by omega) (by omega) (by omega) (by omega) (by omega) (by omega) (by omega)).trans g39) rfl rfl ⟨(Nat.le_of_ble_eq_true rfl), (Nat.le_of_ble_eq_true rfl), kb rfl hRk, kb rfl hRn⟩ rfl (Nat.le_of_ble_eq_true rfl)) (fun v9 hp2 al9 hP => ?_)
  obtain ⟨rfl, k2_0, k2_1, k2_2, n2, rfl⟩ := hP
  replace k2_0 : hp2 y = some (.inr (11, [.ref (y + 1), .ref (y + 2), .ref (y + 3), .ref (y + 4), .ref (y + 5), .int t2.2.1, .int t2.2.2.1, .int t2.2.2.2.1, .ref (y + 6), .int m_oftenAll, .ref (y + 7), .int m_inputLength, .int m_position, .int m_start, .int m_token, .int m_value, .int m_letters, .int m_code, .int m_place, .ref (y + 8), .int m_outputLength])) := k2_0
  replace k2_1 : hp2 (y + 1) = some (.inl (kC E 0, 1399, .inl t2.2.2.2.2.1)) := k2_1
  replace k2_2 : hp2 (y + 3) = some (.inl (kC E 0, 11192, .inl t2.2.2.2.2.2)) := k2_2
  refine A_st (st' := [.int t2.1]) rfl ?_
  refine A_istore (L' := [(7, .int t2.1), (6, .int t1.1), (0, .ref b), (1, .ref x), (2, .ref y), (3, .ref o), (4, .ref od), (5, .int l5)]) X dL_law_2876 (by decide) rfl ?_
  refine A_aload_n X dL_law_2878 4 rfl ?_
  obtain ⟨t3, hct3, h⟩ := bind_o h
  refine A_cp (k' := (k0 + 1)) (n' := (n0 + 6)) (A_runV (rest := []) X dL_law_2879 (c_X11_thrown k2_0  hct3) kY_X11_thrown kw_1668 k2_0 rfl rfl ⟨(Nat.le_of_ble_eq_true rfl), (Nat.le_of_ble_eq_true rfl), kb rfl hRk, kb rfl hRn⟩ rfl (Nat.le_of_ble_eq_true rfl)) rfl rfl ?_
  refine A_iload X dL_law_2882 1 rfl ?_
  refine A_icmp_eq (tgt := 2889) X dL_law_2884 h (by decide) (fun hc h => ?_) (fun hc h => ?_)
  · refine A_iload X dL_law_2889 1 rfl ?_
    refine A_if_ne (tgt := 2906) X dL_law_2891 h (by decide) (fun hc h => ?_) (fun hc h => ?_)
    · refine A_goto (tgt := 3407) X dL_law_2906 (by decide) ?_
      cases h
      refine A_sub (L' := [(0, .ref b), (1, .ref x), (2, .ref y), (3, .ref o), (4, .ref od), (5, .int l5)]) [2, 3, 4, 5, 6, 7] rfl ?_
      refine A_widen (k' := (k0 + 8)) (n' := (n0 + 48)) (by omega) (by omega) ?_
      exact K ((n2 _ (by omega) (by omega) (by omega)).trans k1_0) ((n2 _ (by omega) (by omega) (by omega)).trans k1_1) ((n2 _ (by omega) (by omega) (by omega)).trans k1_2) ((n2 _ (by omega) (by omega) (by omega)).trans k1_3) k2_0 k2_1 k2_2 ((n2 _ (by omega) (by omega) (by omega)).trans k1_4) ((n2 _ (by omega) (by omega) (by omega)).trans k1_5) ((n2 _ (by omega) (by omega) (by omega)).trans k1_6) ((n2 _ (by omega) (by omega) (by omega)).trans k1_7) ((n2 _ (by omega) (by omega) (by omega)).trans k1_8) ((n2 _ (by omega) (by omega) (by omega)).trans k1_9) ((n2 _ (by omega) (by omega) (by omega)).trans k1_10) ((n2 _ (by omega) (by omega) (by omega)).trans k1_11) ((n2 _ (by omega) (by omega) (by omega)).trans k1_12) ((n2 _ (by omega) (by omega) (by omega)).trans k1_13) ((n2 _ (by omega) (by omega) (by omega)).trans k1_14) ((n2 _ (by omega) (by omega) (by omega)).trans k1_15) ((n2 _ (by omega) (by omega) (by omega)).trans k1_16) ((n2 _ (by omega) (by omega) (by omega)).trans k1_17) (fun q z0 z1 z2 z3 z4 z5 z6 z7 z8 z9 z10 z11 z12 z13 z14 z15 z16 z17 z18 z19 z20 => ((n2 q z4 z5 z6).trans (n1 q z0 z1 z2 z3 z7 z8 z9 z10 z11 z12 z13 z14 z15 z16 z17 z18 z19 z20)))
    · refine A_aload_n X dL_law_2894 5 rfl ?_
      refine A_iconst (v := 0) X dL_law_2895 (by decide) ?_
      refine A_lald X dL_law_2896 ((n2 _ (by omega) (by omega) (by omega)).trans k1_4) (by decide) ?_
      refine A_iload X dL_law_2897 0 rfl ?_
      refine A_i2l X dL_law_2899 ?_
      refine A_lcmp X dL_law_2900 ?_
      refine A_if_eq (tgt := 2906) X dL_law_2901 h (by decide) (fun hc h => ?_) (fun hc h => ?_)
      · refine A_goto (tgt := 3407) X dL_law_2906 (by decide) ?_
        cases h
        refine A_sub (L' := [(0, .ref b), (1, .ref x), (2, .ref y), (3, .ref o), (4, .ref od), (5, .int l5)]) [2, 3, 4, 5, 6, 7] rfl ?_
        refine A_widen (k' := (k0 + 8)) (n' := (n0 + 48)) (by omega) (by omega) ?_
        exact K ((n2 _ (by omega) (by omega) (by omega)).trans k1_0) ((n2 _ (by omega) (by omega) (by omega)).trans k1_1) ((n2 _ (by omega) (by omega) (by omega)).trans k1_2) ((n2 _ (by omega) (by omega) (by omega)).trans k1_3) k2_0 k2_1 k2_2 ((n2 _ (by omega) (by omega) (by omega)).trans k1_4) ((n2 _ (by omega) (by omega) (by omega)).trans k1_5) ((n2 _ (by omega) (by omega) (by omega)).trans k1_6) ((n2 _ (by omega) (by omega) (by omega)).trans k1_7) ((n2 _ (by omega) (by omega) (by omega)).trans k1_8) ((n2 _ (by omega) (by omega) (by omega)).trans k1_9) ((n2 _ (by omega) (by omega) (by omega)).trans k1_10) ((n2 _ (by omega) (by omega) (by omega)).trans k1_11) ((n2 _ (by omega) (by omega) (by omega)).trans k1_12) ((n2 _ (by omega) (by omega) (by omega)).trans k1_13) ((n2 _ (by omega) (by omega) (by omega)).trans k1_14) ((n2 _ (by omega) (by omega) (by omega)).trans k1_15) ((n2 _ (by omega) (by omega) (by omega)).trans k1_16) ((n2 _ (by omega) (by omega) (by omega)).trans k1_17) (fun q z0 z1 z2 z3 z4 z5 z6 z7 z8 z9 z10 z11 z12 z13 z14 z15 z16 z17 z18 z19 z20 => ((n2 q z4 z5 z6).trans (n1 q z0 z1 z2 z3 z7 z8 z9 z10 z11 z12 z13 z14 z15 z16 z17 z18 z19 z20)))
      · refine A_iconst (v := 0) X dL_law_2904 (by decide) ?_
        cases h
  · refine A_iconst (v := 0) X dL_law_2887 (by decide) ?_
    cases h
set_option maxHeartbeats 8000000 in
set_option maxRecDepth 100000 in
theorem c_W54 {E : KE} {p : Program} {l : Launch} {e : Env} {s : State} {m : MethodId} {b L9 : Nat} {xs : Nat → Int32} {below : List Frame} {meth : Method} {c : Code} {hp : Hp} {k0 n0 : Nat} {Q : State → Prop} {N : Nat} {x : Nat} {y : Nat} {o : Nat} {od : Nat} {v : Nat} {sd : Int32} {mn : Int32} {th : Int32} {dc : Int32} {fc : Nat → Int32} {dw : Nat → Int32} {pc : Int32} {ln : Nat → Int32} {lt : Nat → Int32} {tc : Int32} {en : Nat → Int32} {fr : Nat → Int32} {oc : Int32} {op : Nat → Int32} {os : Nat → Int32} {nx : Int32} {dp : Int32} {rws : Nat → Option Nat} {m_undoable : Int32} {m_undoStart : Int32} {m_thrown : Int32} {m_oftenAll : Int32} {m_inputLength : Int32} {m_position : Int32} {m_start : Int32} {m_token : Int32} {m_value : Int32} {m_letters : Int32} {m_code : Int32} {m_place : Int32} {m_outputLength : Int32} {m_s : Nat → Int32} {m_remembered : Nat → Int32} {ov : Nat → Int64} {v_sd : Int32} {v_mn : Int32} {v_th : Int32} {v_dc : Int32} {v_fc : Nat → Int32} {v_dw : Nat → Int32} {v_pc : Int32} {v_ln : Nat → Int32} {v_lt : Nat → Int32} {v_tc : Int32} {v_en : Nat → Int32} {v_fr : Nat → Int32} {v_oc : Int32} {v_op : Nat → Int32} {v_os : Nat → Int32} {l5 : Int32} {out : (Nat → Int32) × Int32 × Int32 × Int32 × Int32 × Int32 × (Nat → Int32) × (Nat → Int32) × (Nat → Int64) × Int32 × Int32 × Int32 × Int32 × (Nat → Int32) × (Nat → Int32) × Int32 × (Nat → Int32) × (Nat → Int32) × Int32 × (Nat → Int32) × (Nat → Int32) × Int32 × (Nat → Int32) × (Nat → Int32)} (X : CX E p l s m #[Value.ref b] meth c "DiceAuditLaw" cL_law 10) (hX : va_X b L9 xs s s.heap) (hbl : b < s.heap.size) (hbA : ¬ kA E b) (hi1 : vp_in (l5 + 1) L9) (hi2 : vp_in (l5 + 2) L9) (hi3 : vp_in (l5 + 3) L9) (hi4 : vp_in (l5 + 4) L9) (hi5 : vp_in (l5 + 5) L9) (hRk : k0 + 8 ≤ room_1.cells) (hRn : n0 + 48 ≤ room_1.slots) (g0 : hp x = some (.inr (10, [.ref (x + 126), .ref (x + 128), .ref (x + 1), .ref (x + 3), .ref (x + 16), .ref (x + 18), .ref (x + 124), .ref (x + 125)]))) (g3 : hp (x + 3) = some (.inr (2, [.ref (x + 4), .ref (x + 7), .ref (x + 10), .ref (x + 13), .int sd, .int mn, .int th]))) (g4 : hp (x + 4) = some (.inr (0, [.ref (x + 5), .ref (x + 6), .int dc]))) (g5 : hp (x + 5) = some (.inl (kC E 0, 6, .inl fc))) (g6 : hp (x + 6) = some (.inl (kC E 0, 72, .inl dw))) (g7 : hp (x + 7) = some (.inr (7, [.ref (x + 8), .ref (x + 9), .int pc]))) (g8 : hp (x + 8) = some (.inl (kC E 0, 6, .inl ln))) (g9 : hp (x + 9) = some (.inl (kC E 0, 24, .inl lt))) (g10 : hp (x + 10) = some (.inr (4, [.ref (x + 11), .ref (x + 12), .int tc]))) (g11 : hp (x + 11) = some (.inl (kC E 0, 300, .inl en))) (g12 : hp (x + 12) = some (.inl (kC E 0, 432, .inl fr))) (g13 : hp (x + 13) = some (.inr (6, [.ref (x + 14), .ref (x + 15), .int oc]))) (g14 : hp (x + 14) = some (.inl (kC E 0, 36, .inl op))) (g15 : hp (x + 15) = some (.inl (kC E 0, 36, .inl os))) (g18 : hp (x + 18) = some (.inr (3, [.ref (x + 19), .int nx, .int dp]))) (g19 : hp (x + 19) = some (.inl (kC E 5, 8, .inr (.inr (.inr (.inr rws)))))) (g39 : hp y = some (.inr (11, [.ref (y + 1), .ref (y + 2), .ref (y + 3), .ref (y + 4), .ref (y + 5), .int m_undoable, .int m_undoStart, .int m_thrown, .ref (y + 6), .int m_oftenAll, .ref (y + 7), .int m_inputLength, .int m_position, .int m_start, .int m_token, .int m_value, .int m_letters, .int m_code, .int m_place, .ref (y + 8), .int m_outputLength]))) (g40 : hp (y + 1) = some (.inl (kC E 0, 1399, .inl m_s))) (g42 : hp (y + 3) = some (.inl (kC E 0, 11192, .inl m_remembered))) (g48 : hp o = some (.inl (kC E 1, 1, .inr (.inl ov)))) (g50 : hp v = some (.inr (2, [.ref (v + 1), .ref (v + 4), .ref (v + 7), .ref (v + 10), .int v_sd, .int v_mn, .int v_th]))) (g51 : hp (v + 1) = some (.inr (0, [.ref (v + 2), .ref (v + 3), .int v_dc]))) (g52 : hp (v + 2) = some (.inl (kC E 0, 6, .inl v_fc))) (g53 : hp (v + 3) = some (.inl (kC E 0, 72, .inl v_dw))) (g54 : hp (v + 4) = some (.inr (7, [.ref (v + 5), .ref (v + 6), .int v_pc]))) (g55 : hp (v + 5) = some (.inl (kC E 0, 6, .inl v_ln))) (g56 : hp (v + 6) = some (.inl (kC E 0, 24, .inl v_lt))) (g57 : hp (v + 7) = some (.inr (4, [.ref (v + 8), .ref (v + 9), .int v_tc]))) (g58 : hp (v + 8) = some (.inl (kC E 0, 300, .inl v_en))) (g59 : hp (v + 9) = some (.inl (kC E 0, 432, .inl v_fr))) (g60 : hp (v + 10) = some (.inr (6, [.ref (v + 11), .ref (v + 12), .int v_oc]))) (g61 : hp (v + 11) = some (.inl (kC E 0, 36, .inl v_op))) (g62 : hp (v + 12) = some (.inl (kC E 0, 36, .inl v_os))) (hvv : rws (Int32.toNatClampNeg nx) = some v) (hlv : (x + 20) ≤ v) (huv : (v + 13) ≤ (x + 124)) (hz3 : (x + 20) ≤ y ∨ (y + 4) ≤ x) (hz4 : (x + 20) ≤ o ∨ (o + 1) ≤ x) (hz5 : (y + 4) ≤ o ∨ (o + 1) ≤ y) (hz6 : (y + 4) ≤ v ∨ (v + 13) ≤ y) (hz7 : (o + 1) ≤ v ∨ (v + 13) ≤ o) (h : f_W54 N xs l5 sd mn th dc fc pc ln lt tc en fr oc op os dw nx dp m_undoable m_undoStart m_thrown m_s m_remembered ov v_sd v_mn v_th v_dc v_fc v_dw v_pc v_ln v_lt v_tc v_en v_fr v_oc v_op v_os = some out) (K : ∀ {hp' : Hp}, hp' (x + 6) = some (.inl (kC E 0, 72, .inl out.1)) → hp' (x + 18) = some (.inr (3, [.ref (x + 19), .int out.2.1, .int out.2.2.1])) → hp' y = some (.inr (11, [.ref (y + 1), .ref (y + 2), .ref (y + 3), .ref (y + 4), .ref (y + 5), .int out.2.2.2.1, .int out.2.2.2.2.1, .int out.2.2.2.2.2.1, .ref (y + 6), .int m_oftenAll, .ref (y + 7), .int m_inputLength, .int m_position, .int m_start, .int m_token, .int m_value, .int m_letters, .int m_code, .int m_place, .ref (y + 8), .int m_outputLength])) → hp' (y + 1) = some (.inl (kC E 0, 1399, .inl out.2.2.2.2.2.2.1)) → hp' (y + 3) = some (.inl (kC E 0, 11192, .inl out.2.2.2.2.2.2.2.1)) → hp' o = some (.inl (kC E 1, 1, .inr (.inl out.2.2.2.2.2.2.2.2.1))) → hp' v = some (.inr (2, [.ref (v + 1), .ref (v + 4), .ref (v + 7), .ref (v + 10), .int out.2.2.2.2.2.2.2.2.2.1, .int out.2.2.2.2.2.2.2.2.2.2.1, .int out.2.2.2.2.2.2.2.2.2.2.2.1])) → hp' (v + 1) = some (.inr (0, [.ref (v + 2), .ref (v + 3), .int out.2.2.2.2.2.2.2.2.2.2.2.2.1])) → hp' (v + 2) = some (.inl (kC E 0, 6, .inl out.2.2.2.2.2.2.2.2.2.2.2.2.2.1)) → hp' (v + 3) = some (.inl (kC E 0, 72, .inl out.2.2.2.2.2.2.2.2.2.2.2.2.2.2.1)) → hp' (v + 4) = some (.inr (7, [.ref (v + 5), .ref (v + 6), .int out.2.2.2.2.2.2.2.2.2.2.2.2.2.2.2.1])) → hp' (v + 5) = some (.inl (kC E 0, 6, .inl out.2.2.2.2.2.2.2.2.2.2.2.2.2.2.2.2.1)) → hp' (v + 6) = some (.inl (kC E 0, 24, .inl out.2.2.2.2.2.2.2.2.2.2.2.2.2.2.2.2.2.1)) → hp' (v + 7) = some (.inr (4, [.ref (v + 8), .ref (v + 9), .int out.2.2.2.2.2.2.2.2.2.2.2.2.2.2.2.2.2.2.1])) → hp' (v + 8) = some (.inl (kC E 0, 300, .inl out.2.2.2.2.2.2.2.2.2.2.2.2.2.2.2.2.2.2.2.1)) → hp' (v + 9) = some (.inl (kC E 0, 432, .inl out.2.2.2.2.2.2.2.2.2.2.2.2.2.2.2.2.2.2.2.2.1)) → hp' (v + 10) = some (.inr (6, [.ref (v + 11), .ref (v + 12), .int out.2.2.2.2.2.2.2.2.2.2.2.2.2.2.2.2.2.2.2.2.2.1])) → hp' (v + 11) = some (.inl (kC E 0, 36, .inl out.2.2.2.2.2.2.2.2.2.2.2.2.2.2.2.2.2.2.2.2.2.2.1)) → hp' (v + 12) = some (.inl (kC E 0, 36, .inl out.2.2.2.2.2.2.2.2.2.2.2.2.2.2.2.2.2.2.2.2.2.2.2)) → (∀ q, q ≠ (x + 6) → q ≠ (x + 18) → q ≠ y → q ≠ (y + 1) → q ≠ (y + 3) → q ≠ o → q ≠ v → q ≠ (v + 1) → q ≠ (v + 2) → q ≠ (v + 3) → q ≠ (v + 4) → q ≠ (v + 5) → q ≠ (v + 6) → q ≠ (v + 7) → q ≠ (v + 8) → q ≠ (v + 9) → q ≠ (v + 10) → q ≠ (v + 11) → q ≠ (v + 12) → hp' q = hp q) → AW E p l e room_1 s m #[Value.ref b] below meth c 10 Q hp' none (k0 + 8) (n0 + 48) 3407 [(0, .ref b), (1, .ref x), (2, .ref y), (3, .ref o), (4, .ref od), (5, .int l5)] []) : AW E p l e room_1 s m #[Value.ref b] below meth c 10 Q hp none (k0 + 0) (n0 + 0) 2909 [(0, .ref b), (1, .ref x), (2, .ref y), (3, .ref o), (4, .ref od), (5, .int l5)] [] := by
  unfold f_W54 at h
  refine A_aload_n X dL_law_2909 1 rfl ?_
  refine A_aload_n X dL_law_2910 0 rfl ?_
  refine A_iload X dL_law_2911 5 rfl ?_
  refine A_iconst (v := 1) X dL_law_2913 (by decide) ?_
  refine A_iadd X dL_law_2914 ?_
  refine A_sld X hX hbl hbA hi1 dL_law_2915 ?_
  refine A_aload_n X dL_law_2916 0 rfl ?_
  refine A_iload X dL_law_2917 5 rfl ?_
  refine A_iconst (v := 2) X dL_law_2919 (by decide) ?_
  refine A_iadd X dL_law_2920 ?_
  refine A_sld X hX hbl hbA hi2 dL_law_2921 ?_
  refine A_aload_n X dL_law_2922 0 rfl ?_
  refine A_iload X dL_law_2923 5 rfl ?_
  refine A_iconst (v := 3) X dL_law_2925 (by decide) ?_
  refine A_iadd X dL_law_2926 ?_
  refine A_sld X hX hbl hbA hi3 dL_law_2927 ?_
  refine A_aload_n X dL_law_2928 3 rfl ?_
  obtain ⟨t1, hct1, h⟩ := bind_o h
  refine A_cX (k' := (k0 + 4)) (n' := (n0 + 24)) rfl rfl (A_runSH (rest := []) X dL_law_2929 (c_L_setWeight g0 g3 g4 g5 g6 g7 g8 g9 g10 g11 g12 g13 g14 g15 g18 g19 g48 g50 g51 g52 g53 g54 g55 g56 g57 g58 g59 g60 g61 g62 hvv (by omega) (by omega) (by omega) (by omega) hct1) kY_L_setWeight kw_1329 ⟨(Nat.le_of_ble_eq_true rfl), (Nat.le_of_ble_eq_true rfl), kb rfl hRk, kb rfl hRn⟩ rfl (Nat.le_of_ble_eq_true rfl)) (fun C hp1 hP => hP.elim) (fun v9 hp1 al9 hP => ?_)
  obtain ⟨rfl, k1_0, k1_1, k1_2, k1_3, k1_4, k1_5, k1_6, k1_7, k1_8, k1_9, k1_10, k1_11, k1_12, k1_13, k1_14, k1_15, n1, rfl⟩ := hP
  replace k1_0 : hp1 (x + 6) = some (.inl (kC E 0, 72, .inl t1.2.1)) := k1_0
  replace k1_1 : hp1 (x + 18) = some (.inr (3, [.ref (x + 19), .int t1.2.2.1, .int t1.2.2.2.1])) := k1_1
  replace k1_2 : hp1 o = some (.inl (kC E 1, 1, .inr (.inl t1.2.2.2.2.1))) := k1_2
  replace k1_3 : hp1 v = some (.inr (2, [.ref (v + 1), .ref (v + 4), .ref (v + 7), .ref (v + 10), .int t1.2.2.2.2.2.1, .int t1.2.2.2.2.2.2.1, .int t1.2.2.2.2.2.2.2.1])) := k1_3
  replace k1_4 : hp1 (v + 1) = some (.inr (0, [.ref (v + 2), .ref (v + 3), .int t1.2.2.2.2.2.2.2.2.1])) := k1_4
  replace k1_5 : hp1 (v + 2) = some (.inl (kC E 0, 6, .inl t1.2.2.2.2.2.2.2.2.2.1)) := k1_5
  replace k1_6 : hp1 (v + 3) = some (.inl (kC E 0, 72, .inl t1.2.2.2.2.2.2.2.2.2.2.1)) := k1_6
  replace k1_7 : hp1 (v + 4) = some (.inr (7, [.ref (v + 5), .ref (v + 6), .int t1.2.2.2.2.2.2.2.2.2.2.2.1])) := k1_7
  replace k1_8 : hp1 (v + 5) = some (.inl (kC E 0, 6, .inl t1.2.2.2.2.2.2.2.2.2.2.2.2.1)) := k1_8
  replace k1_9 : hp1 (v + 6) = some (.inl (kC E 0, 24, .inl t1.2.2.2.2.2.2.2.2.2.2.2.2.2.1)) := k1_9
  replace k1_10 : hp1 (v + 7) = some (.inr (4, [.ref (v + 8), .ref (v + 9), .int t1.2.2.2.2.2.2.2.2.2.2.2.2.2.2.1])) := k1_10
  replace k1_11 : hp1 (v + 8) = some (.inl (kC E 0, 300, .inl t1.2.2.2.2.2.2.2.2.2.2.2.2.2.2.2.1)) := k1_11
  replace k1_12 : hp1 (v + 9) = some (.inl (kC E 0, 432, .inl t1.2.2.2.2.2.2.2.2.2.2.2.2.2.2.2.2.1)) := k1_12
  replace k1_13 : hp1 (v + 10) = some (.inr (6, [.ref (v + 11), .ref (v + 12), .int t1.2.2.2.2.2.2.2.2.2.2.2.2.2.2.2.2.2.1])) := k1_13
  replace k1_14 : hp1 (v + 11) = some (.inl (kC E 0, 36, .inl t1.2.2.2.2.2.2.2.2.2.2.2.2.2.2.2.2.2.2.1)) := k1_14
  replace k1_15 : hp1 (v + 12) = some (.inl (kC E 0, 36, .inl t1.2.2.2.2.2.2.2.2.2.2.2.2.2.2.2.2.2.2.2)) := k1_15
  refine A_st (st' := [.int t1.1]) rfl ?_
  refine A_istore (L' := [(6, .int t1.1), (0, .ref b), (1, .ref x), (2, .ref y), (3, .ref o), (4, .ref od), (5, .int l5)]) X dL_law_2932 (by decide) rfl ?_
  refine A_aload_n X dL_law_2934 3 rfl ?_
  refine A_aload_n X dL_law_2935 1 rfl ?_
  refine A_iload X dL_law_2936 6 rfl ?_
  refine A_iconst (v := 1) X dL_law_2938 (by decide) ?_
  refine A_iadd X dL_law_2939 ?_
  refine A_sld X hX hbl hbA hi1 dL_law_2940 ?_
  refine A_aload_n X dL_law_2941 1 rfl ?_
  refine A_iload X dL_law_2942 6 rfl ?_
  refine A_iconst (v := 2) X dL_law_2944 (by decide) ?_
  refine A_iadd X dL_law_2945 ?_
  refine A_sld X hX hbl hbA hi2 dL_law_2946 ?_
  refine A_aload_n X dL_law_2947 1 rfl ?_
  refine A_iload X dL_law_2948 6 rfl ?_
  refine A_iconst (v := 3) X dL_law_2950 (by decide) ?_
  refine A_iadd X dL_law_2951 ?_
  refine A_sld X hX hbl hbA hi3 dL_law_2952 ?_
  obtain ⟨t2, hct2, h⟩ := bind_o h
  refine A_c (k' := (k0 + 4)) (n' := (n0 + 24)) rfl rfl (A_runV (rest := []) X dL_law_2953 (c_X11_setWeight ((n1 _ (by omega) (by omega) (by omega) (by omega) (by omega) (by omega) (by omega) (by omega) (by omega) (by omega) (by omega) (by omega) (by omega) (by omega) (by omega) (by omega)).trans g39) ((n1 _ (by omega) (by omega) (by omega) (by omega) (by omega) (by omega) (by omega) (by omega) (by omega) (by omega) (by omega) (by omega) (by omega) (by omega) (by omega) (by omega)).trans g40) ((n1 _ (by omega) (by omega) (by omega) (by omega) (by omega) (by omega) (by omega) (by omega) (by omega) (by omega) (by omega) (by omega) (by omega) (by omega) (by omega) (by omega)).trans g42)  hct2) kY_X11_setWeight kw_1967 ((n1 _ (by omega) (by omega) (by omega) (by omega) (by omega) (by omega) (by omega) (by omega) (by omega) (by omega) (by omega) (by omega) (by omega) (by omega) (by omega) (by omega)).trans g39) rfl rfl ⟨(Nat.le_of_ble_eq_true rfl), (Nat.le_of_ble_eq_true rfl), kb rfl hRk, kb rfl hRn⟩ rfl (Nat.le_of_ble_eq_true rfl)) (fun v9 hp2 al9 hP => ?_)
  obtain ⟨rfl, k2_0, k2_1, k2_2, n2, rfl⟩ := hP
  replace k2_0 : hp2 y = some (.inr (11, [.ref (y + 1), .ref (y + 2), .ref (y + 3), .ref (y + 4), .ref (y + 5), .int t2.2.1, .int t2.2.2.1, .int t2.2.2.2.1, .ref (y + 6), .int m_oftenAll, .ref (y + 7), .int m_inputLength, .int m_position, .int m_start, .int m_token, .int m_value, .int m_letters, .int m_code, .int m_place, .ref (y + 8), .int m_outputLength])) := k2_0
  replace k2_1 : hp2 (y + 1) = some (.inl (kC E 0, 1399, .inl t2.2.2.2.2.1)) := k2_1
  replace k2_2 : hp2 (y + 3) = some (.inl (kC E 0, 11192, .inl t2.2.2.2.2.2)) := k2_2
  refine A_st (st' := [.int t2.1]) rfl ?_
  refine A_istore (L' := [(7, .int t2.1), (6, .int t1.1), (0, .ref b), (1, .ref x), (2, .ref y), (3, .ref o), (4, .ref od), (5, .int l5)]) X dL_law_2956 (by decide) rfl ?_
  refine A_aload_n X dL_law_2958 4 rfl ?_
  obtain ⟨t3, hct3, h⟩ := bind_o h
  refine A_cp (k' := (k0 + 4)) (n' := (n0 + 24)) (A_runV (rest := []) X dL_law_2959 (c_X11_thrown k2_0  hct3) kY_X11_thrown kw_1668 k2_0 rfl rfl ⟨(Nat.le_of_ble_eq_true rfl), (Nat.le_of_ble_eq_true rfl), kb rfl hRk, kb rfl hRn⟩ rfl (Nat.le_of_ble_eq_true rfl)) rfl rfl ?_
  refine A_iload X dL_law_2962 1 rfl ?_
  refine A_icmp_eq (tgt := 2969) X dL_law_2964 h (by decide) (fun hc h => ?_) (fun hc h => ?_)
  · refine A_iload X dL_law_2969 1 rfl ?_
    refine A_if_ne (tgt := 2986) X dL_law_2971 h (by decide) (fun hc h => ?_) (fun hc h => ?_)
    · refine A_goto (tgt := 3407) X dL_law_2986 (by decide) ?_
      cases h
      refine A_sub (L' := [(0, .ref b), (1, .ref x), (2, .ref y), (3, .ref o), (4, .ref od), (5, .int l5)]) [2, 3, 4, 5, 6, 7] rfl ?_
      refine A_widen (k' := (k0 + 8)) (n' := (n0 + 48)) (by omega) (by omega) ?_
      exact K ((n2 _ (by omega) (by omega) (by omega)).trans k1_0) ((n2 _ (by omega) (by omega) (by omega)).trans k1_1) k2_0 k2_1 k2_2 ((n2 _ (by omega) (by omega) (by omega)).trans k1_2) ((n2 _ (by omega) (by omega) (by omega)).trans k1_3) ((n2 _ (by omega) (by omega) (by omega)).trans k1_4) ((n2 _ (by omega) (by omega) (by omega)).trans k1_5) ((n2 _ (by omega) (by omega) (by omega)).trans k1_6) ((n2 _ (by omega) (by omega) (by omega)).trans k1_7) ((n2 _ (by omega) (by omega) (by omega)).trans k1_8) ((n2 _ (by omega) (by omega) (by omega)).trans k1_9) ((n2 _ (by omega) (by omega) (by omega)).trans k1_10) ((n2 _ (by omega) (by omega) (by omega)).trans k1_11) ((n2 _ (by omega) (by omega) (by omega)).trans k1_12) ((n2 _ (by omega) (by omega) (by omega)).trans k1_13) ((n2 _ (by omega) (by omega) (by omega)).trans k1_14) ((n2 _ (by omega) (by omega) (by omega)).trans k1_15) (fun q z0 z1 z2 z3 z4 z5 z6 z7 z8 z9 z10 z11 z12 z13 z14 z15 z16 z17 z18 => ((n2 q z2 z3 z4).trans (n1 q z0 z1 z5 z6 z7 z8 z9 z10 z11 z12 z13 z14 z15 z16 z17 z18)))
    · refine A_aload_n X dL_law_2974 5 rfl ?_
      refine A_iconst (v := 0) X dL_law_2975 (by decide) ?_
      refine A_lald X dL_law_2976 ((n2 _ (by omega) (by omega) (by omega)).trans k1_2) (by decide) ?_
      refine A_iload X dL_law_2977 0 rfl ?_
      refine A_i2l X dL_law_2979 ?_
      refine A_lcmp X dL_law_2980 ?_
      refine A_if_eq (tgt := 2986) X dL_law_2981 h (by decide) (fun hc h => ?_) (fun hc h => ?_)
      · refine A_goto (tgt := 3407) X dL_law_2986 (by decide) ?_
        cases h
        refine A_sub (L' := [(0, .ref b), (1, .ref x), (2, .ref y), (3, .ref o), (4, .ref od), (5, .int l5)]) [2, 3, 4, 5, 6, 7] rfl ?_
        refine A_widen (k' := (k0 + 8)) (n' := (n0 + 48)) (by omega) (by omega) ?_
        exact K ((n2 _ (by omega) (by omega) (by omega)).trans k1_0) ((n2 _ (by omega) (by omega) (by omega)).trans k1_1) k2_0 k2_1 k2_2 ((n2 _ (by omega) (by omega) (by omega)).trans k1_2) ((n2 _ (by omega) (by omega) (by omega)).trans k1_3) ((n2 _ (by omega) (by omega) (by omega)).trans k1_4) ((n2 _ (by omega) (by omega) (by omega)).trans k1_5) ((n2 _ (by omega) (by omega) (by omega)).trans k1_6) ((n2 _ (by omega) (by omega) (by omega)).trans k1_7) ((n2 _ (by omega) (by omega) (by omega)).trans k1_8) ((n2 _ (by omega) (by omega) (by omega)).trans k1_9) ((n2 _ (by omega) (by omega) (by omega)).trans k1_10) ((n2 _ (by omega) (by omega) (by omega)).trans k1_11) ((n2 _ (by omega) (by omega) (by omega)).trans k1_12) ((n2 _ (by omega) (by omega) (by omega)).trans k1_13) ((n2 _ (by omega) (by omega) (by omega)).trans k1_14) ((n2 _ (by omega) (by omega) (by omega)).trans k1_15) (fun q z0 z1 z2 z3 z4 z5 z6 z7 z8 z9 z10 z11 z12 z13 z14 z15 z16 z17 z18 => ((n2 q z2 z3 z4).trans (n1 q z0 z1 z5 z6 z7 z8 z9 z10 z11 z12 z13 z14 z15 z16 z17 z18)))
      · refine A_iconst (v := 0) X dL_law_2984 (by decide) ?_
        cases h
  · refine A_iconst (v := 0) X dL_law_2967 (by decide) ?_
    cases h
set_option maxHeartbeats 8000000 in
set_option maxRecDepth 100000 in
theorem c_W55 {E : KE} {p : Program} {l : Launch} {e : Env} {s : State} {m : MethodId} {b L9 : Nat} {xs : Nat → Int32} {below : List Frame} {meth : Method} {c : Code} {hp : Hp} {k0 n0 : Nat} {Q : State → Prop} {N : Nat} {x : Nat} {y : Nat} {o : Nat} {od : Nat} {v : Nat} {sd : Int32} {mn : Int32} {th : Int32} {dc : Int32} {fc : Nat → Int32} {dw : Nat → Int32} {pc : Int32} {ln : Nat → Int32} {lt : Nat → Int32} {tc : Int32} {en : Nat → Int32} {fr : Nat → Int32} {oc : Int32} {op : Nat → Int32} {os : Nat → Int32} {nx : Int32} {dp : Int32} {rws : Nat → Option Nat} {m_undoable : Int32} {m_undoStart : Int32} {m_thrown : Int32} {m_oftenAll : Int32} {m_inputLength : Int32} {m_position : Int32} {m_start : Int32} {m_token : Int32} {m_value : Int32} {m_letters : Int32} {m_code : Int32} {m_place : Int32} {m_outputLength : Int32} {m_s : Nat → Int32} {m_remembered : Nat → Int32} {ov : Nat → Int64} {v_sd : Int32} {v_mn : Int32} {v_th : Int32} {v_dc : Int32} {v_fc : Nat → Int32} {v_dw : Nat → Int32} {v_pc : Int32} {v_ln : Nat → Int32} {v_lt : Nat → Int32} {v_tc : Int32} {v_en : Nat → Int32} {v_fr : Nat → Int32} {v_oc : Int32} {v_op : Nat → Int32} {v_os : Nat → Int32} {l5 : Int32} {out : Int32 × Int32 × Int32 × Int32 × Int32 × Int32 × (Nat → Int32) × (Nat → Int32) × (Nat → Int64) × Int32 × Int32 × Int32 × Int32 × (Nat → Int32) × (Nat → Int32) × Int32 × (Nat → Int32) × (Nat → Int32) × Int32 × (Nat → Int32) × (Nat → Int32) × Int32 × (Nat → Int32) × (Nat → Int32)} (X : CX E p l s m #[Value.ref b] meth c "DiceAuditLaw" cL_law 10) (hX : va_X b L9 xs s s.heap) (hbl : b < s.heap.size) (hbA : ¬ kA E b) (hi1 : vp_in (l5 + 1) L9) (hi2 : vp_in (l5 + 2) L9) (hi3 : vp_in (l5 + 3) L9) (hi4 : vp_in (l5 + 4) L9) (hi5 : vp_in (l5 + 5) L9) (hRk : k0 + 8 ≤ room_1.cells) (hRn : n0 + 48 ≤ room_1.slots) (g0 : hp x = some (.inr (10, [.ref (x + 126), .ref (x + 128), .ref (x + 1), .ref (x + 3), .ref (x + 16), .ref (x + 18), .ref (x + 124), .ref (x + 125)]))) (g3 : hp (x + 3) = some (.inr (2, [.ref (x + 4), .ref (x + 7), .ref (x + 10), .ref (x + 13), .int sd, .int mn, .int th]))) (g4 : hp (x + 4) = some (.inr (0, [.ref (x + 5), .ref (x + 6), .int dc]))) (g5 : hp (x + 5) = some (.inl (kC E 0, 6, .inl fc))) (g6 : hp (x + 6) = some (.inl (kC E 0, 72, .inl dw))) (g7 : hp (x + 7) = some (.inr (7, [.ref (x + 8), .ref (x + 9), .int pc]))) (g8 : hp (x + 8) = some (.inl (kC E 0, 6, .inl ln))) (g9 : hp (x + 9) = some (.inl (kC E 0, 24, .inl lt))) (g10 : hp (x + 10) = some (.inr (4, [.ref (x + 11), .ref (x + 12), .int tc]))) (g11 : hp (x + 11) = some (.inl (kC E 0, 300, .inl en))) (g12 : hp (x + 12) = some (.inl (kC E 0, 432, .inl fr))) (g13 : hp (x + 13) = some (.inr (6, [.ref (x + 14), .ref (x + 15), .int oc]))) (g14 : hp (x + 14) = some (.inl (kC E 0, 36, .inl op))) (g15 : hp (x + 15) = some (.inl (kC E 0, 36, .inl os))) (g18 : hp (x + 18) = some (.inr (3, [.ref (x + 19), .int nx, .int dp]))) (g19 : hp (x + 19) = some (.inl (kC E 5, 8, .inr (.inr (.inr (.inr rws)))))) (g39 : hp y = some (.inr (11, [.ref (y + 1), .ref (y + 2), .ref (y + 3), .ref (y + 4), .ref (y + 5), .int m_undoable, .int m_undoStart, .int m_thrown, .ref (y + 6), .int m_oftenAll, .ref (y + 7), .int m_inputLength, .int m_position, .int m_start, .int m_token, .int m_value, .int m_letters, .int m_code, .int m_place, .ref (y + 8), .int m_outputLength]))) (g40 : hp (y + 1) = some (.inl (kC E 0, 1399, .inl m_s))) (g42 : hp (y + 3) = some (.inl (kC E 0, 11192, .inl m_remembered))) (g48 : hp o = some (.inl (kC E 1, 1, .inr (.inl ov)))) (g50 : hp v = some (.inr (2, [.ref (v + 1), .ref (v + 4), .ref (v + 7), .ref (v + 10), .int v_sd, .int v_mn, .int v_th]))) (g51 : hp (v + 1) = some (.inr (0, [.ref (v + 2), .ref (v + 3), .int v_dc]))) (g52 : hp (v + 2) = some (.inl (kC E 0, 6, .inl v_fc))) (g53 : hp (v + 3) = some (.inl (kC E 0, 72, .inl v_dw))) (g54 : hp (v + 4) = some (.inr (7, [.ref (v + 5), .ref (v + 6), .int v_pc]))) (g55 : hp (v + 5) = some (.inl (kC E 0, 6, .inl v_ln))) (g56 : hp (v + 6) = some (.inl (kC E 0, 24, .inl v_lt))) (g57 : hp (v + 7) = some (.inr (4, [.ref (v + 8), .ref (v + 9), .int v_tc]))) (g58 : hp (v + 8) = some (.inl (kC E 0, 300, .inl v_en))) (g59 : hp (v + 9) = some (.inl (kC E 0, 432, .inl v_fr))) (g60 : hp (v + 10) = some (.inr (6, [.ref (v + 11), .ref (v + 12), .int v_oc]))) (g61 : hp (v + 11) = some (.inl (kC E 0, 36, .inl v_op))) (g62 : hp (v + 12) = some (.inl (kC E 0, 36, .inl v_os))) (hvv : rws (Int32.toNatClampNeg nx) = some v) (hlv : (x + 20) ≤ v) (huv : (v + 13) ≤ (x + 124)) (hz3 : (x + 20) ≤ y ∨ (y + 4) ≤ x) (hz4 : (x + 20) ≤ o ∨ (o + 1) ≤ x) (hz5 : (y + 4) ≤ o ∨ (o + 1) ≤ y) (hz6 : (y + 4) ≤ v ∨ (v + 13) ≤ y) (hz7 : (o + 1) ≤ v ∨ (v + 13) ≤ o) (h : f_W55 N xs l5 mn th dc fc dw pc ln lt tc en fr oc op os sd nx dp m_undoable m_undoStart m_thrown m_s m_remembered ov v_sd v_mn v_th v_dc v_fc v_dw v_pc v_ln v_lt v_tc v_en v_fr v_oc v_op v_os = some out) (K : ∀ {hp' : Hp}, hp' (x + 3) = some (.inr (2, [.ref (x + 4), .ref (x + 7), .ref (x + 10), .ref (x + 13), .int out.1, .int mn, .int th])) → hp' (x + 18) = some (.inr (3, [.ref (x + 19), .int out.2.1, .int out.2.2.1])) → hp' y = some (.inr (11, [.ref (y + 1), .ref (y + 2), .ref (y + 3), .ref (y + 4), .ref (y + 5), .int out.2.2.2.1, .int out.2.2.2.2.1, .int out.2.2.2.2.2.1, .ref (y + 6), .int m_oftenAll, .ref (y + 7), .int m_inputLength, .int m_position, .int m_start, .int m_token, .int m_value, .int m_letters, .int m_code, .int m_place, .ref (y + 8), .int m_outputLength])) → hp' (y + 1) = some (.inl (kC E 0, 1399, .inl out.2.2.2.2.2.2.1)) → hp' (y + 3) = some (.inl (kC E 0, 11192, .inl out.2.2.2.2.2.2.2.1)) → hp' o = some (.inl (kC E 1, 1, .inr (.inl out.2.2.2.2.2.2.2.2.1))) → hp' v = some (.inr (2, [.ref (v + 1), .ref (v + 4), .ref (v + 7), .ref (v + 10), .int out.2.2.2.2.2.2.2.2.2.1, .int out.2.2.2.2.2.2.2.2.2.2.1, .int out.2.2.2.2.2.2.2.2.2.2.2.1])) → hp' (v + 1) = some (.inr (0, [.ref (v + 2), .ref (v + 3), .int out.2.2.2.2.2.2.2.2.2.2.2.2.1])) → hp' (v + 2) = some (.inl (kC E 0, 6, .inl out.2.2.2.2.2.2.2.2.2.2.2.2.2.1)) → hp' (v + 3) = some (.inl (kC E 0, 72, .inl out.2.2.2.2.2.2.2.2.2.2.2.2.2.2.1)) → hp' (v + 4) = some (.inr (7, [.ref (v + 5), .ref (v + 6), .int out.2.2.2.2.2.2.2.2.2.2.2.2.2.2.2.1])) → hp' (v + 5) = some (.inl (kC E 0, 6, .inl out.2.2.2.2.2.2.2.2.2.2.2.2.2.2.2.2.1)) → hp' (v + 6) = some (.inl (kC E 0, 24, .inl out.2.2.2.2.2.2.2.2.2.2.2.2.2.2.2.2.2.1)) → hp' (v + 7) = some (.inr (4, [.ref (v + 8), .ref (v + 9), .int out.2.2.2.2.2.2.2.2.2.2.2.2.2.2.2.2.2.2.1])) → hp' (v + 8) = some (.inl (kC E 0, 300, .inl out.2.2.2.2.2.2.2.2.2.2.2.2.2.2.2.2.2.2.2.1)) → hp' (v + 9) = some (.inl (kC E 0, 432, .inl out.2.2.2.2.2.2.2.2.2.2.2.2.2.2.2.2.2.2.2.2.1)) → hp' (v + 10) = some (.inr (6, [.ref (v + 11), .ref (v + 12), .int out.2.2.2.2.2.2.2.2.2.2.2.2.2.2.2.2.2.2.2.2.2.1])) → hp' (v + 11) = some (.inl (kC E 0, 36, .inl out.2.2.2.2.2.2.2.2.2.2.2.2.2.2.2.2.2.2.2.2.2.2.1)) → hp' (v + 12) = some (.inl (kC E 0, 36, .inl out.2.2.2.2.2.2.2.2.2.2.2.2.2.2.2.2.2.2.2.2.2.2.2)) → (∀ q, q ≠ (x + 3) → q ≠ (x + 18) → q ≠ y → q ≠ (y + 1) → q ≠ (y + 3) → q ≠ o → q ≠ v → q ≠ (v + 1) → q ≠ (v + 2) → q ≠ (v + 3) → q ≠ (v + 4) → q ≠ (v + 5) → q ≠ (v + 6) → q ≠ (v + 7) → q ≠ (v + 8) → q ≠ (v + 9) → q ≠ (v + 10) → q ≠ (v + 11) → q ≠ (v + 12) → hp' q = hp q) → AW E p l e room_1 s m #[Value.ref b] below meth c 10 Q hp' none (k0 + 8) (n0 + 48) 3407 [(0, .ref b), (1, .ref x), (2, .ref y), (3, .ref o), (4, .ref od), (5, .int l5)] []) : AW E p l e room_1 s m #[Value.ref b] below meth c 10 Q hp none (k0 + 0) (n0 + 0) 2989 [(0, .ref b), (1, .ref x), (2, .ref y), (3, .ref o), (4, .ref od), (5, .int l5)] [] := by
  unfold f_W55 at h
  refine A_aload_n X dL_law_2989 1 rfl ?_
  refine A_aload_n X dL_law_2990 0 rfl ?_
  refine A_iload X dL_law_2991 5 rfl ?_
  refine A_iconst (v := 1) X dL_law_2993 (by decide) ?_
  refine A_iadd X dL_law_2994 ?_
  refine A_sld X hX hbl hbA hi1 dL_law_2995 ?_
  refine A_aload_n X dL_law_2996 3 rfl ?_
  obtain ⟨t1, hct1, h⟩ := bind_o h
  refine A_cX (k' := (k0 + 1)) (n' := (n0 + 6)) rfl rfl (A_runSH (rest := []) X dL_law_2997 (c_L_setSeed g0 g3 g4 g5 g6 g7 g8 g9 g10 g11 g12 g13 g14 g15 g18 g19 g48 g50 g51 g52 g53 g54 g55 g56 g57 g58 g59 g60 g61 g62 hvv (by omega) (by omega) (by omega) (by omega) hct1) kY_L_setSeed kw_1342 ⟨(Nat.le_of_ble_eq_true rfl), (Nat.le_of_ble_eq_true rfl), kb rfl hRk, kb rfl hRn⟩ rfl (Nat.le_of_ble_eq_true rfl)) (fun C hp1 hP => hP.elim) (fun v9 hp1 al9 hP => ?_)
  obtain ⟨rfl, k1_0, k1_1, k1_2, k1_3, k1_4, k1_5, k1_6, k1_7, k1_8, k1_9, k1_10, k1_11, k1_12, k1_13, k1_14, k1_15, n1, rfl⟩ := hP
  replace k1_0 : hp1 (x + 3) = some (.inr (2, [.ref (x + 4), .ref (x + 7), .ref (x + 10), .ref (x + 13), .int t1.2.1, .int mn, .int th])) := k1_0
  replace k1_1 : hp1 (x + 18) = some (.inr (3, [.ref (x + 19), .int t1.2.2.1, .int t1.2.2.2.1])) := k1_1
  replace k1_2 : hp1 o = some (.inl (kC E 1, 1, .inr (.inl t1.2.2.2.2.1))) := k1_2
  replace k1_3 : hp1 v = some (.inr (2, [.ref (v + 1), .ref (v + 4), .ref (v + 7), .ref (v + 10), .int t1.2.2.2.2.2.1, .int t1.2.2.2.2.2.2.1, .int t1.2.2.2.2.2.2.2.1])) := k1_3
  replace k1_4 : hp1 (v + 1) = some (.inr (0, [.ref (v + 2), .ref (v + 3), .int t1.2.2.2.2.2.2.2.2.1])) := k1_4
  replace k1_5 : hp1 (v + 2) = some (.inl (kC E 0, 6, .inl t1.2.2.2.2.2.2.2.2.2.1)) := k1_5
  replace k1_6 : hp1 (v + 3) = some (.inl (kC E 0, 72, .inl t1.2.2.2.2.2.2.2.2.2.2.1)) := k1_6
  replace k1_7 : hp1 (v + 4) = some (.inr (7, [.ref (v + 5), .ref (v + 6), .int t1.2.2.2.2.2.2.2.2.2.2.2.1])) := k1_7
  replace k1_8 : hp1 (v + 5) = some (.inl (kC E 0, 6, .inl t1.2.2.2.2.2.2.2.2.2.2.2.2.1)) := k1_8
  replace k1_9 : hp1 (v + 6) = some (.inl (kC E 0, 24, .inl t1.2.2.2.2.2.2.2.2.2.2.2.2.2.1)) := k1_9
  replace k1_10 : hp1 (v + 7) = some (.inr (4, [.ref (v + 8), .ref (v + 9), .int t1.2.2.2.2.2.2.2.2.2.2.2.2.2.2.1])) := k1_10
  replace k1_11 : hp1 (v + 8) = some (.inl (kC E 0, 300, .inl t1.2.2.2.2.2.2.2.2.2.2.2.2.2.2.2.1)) := k1_11
  replace k1_12 : hp1 (v + 9) = some (.inl (kC E 0, 432, .inl t1.2.2.2.2.2.2.2.2.2.2.2.2.2.2.2.2.1)) := k1_12
  replace k1_13 : hp1 (v + 10) = some (.inr (6, [.ref (v + 11), .ref (v + 12), .int t1.2.2.2.2.2.2.2.2.2.2.2.2.2.2.2.2.2.1])) := k1_13
  replace k1_14 : hp1 (v + 11) = some (.inl (kC E 0, 36, .inl t1.2.2.2.2.2.2.2.2.2.2.2.2.2.2.2.2.2.2.1)) := k1_14
  replace k1_15 : hp1 (v + 12) = some (.inl (kC E 0, 36, .inl t1.2.2.2.2.2.2.2.2.2.2.2.2.2.2.2.2.2.2.2)) := k1_15
  refine A_st (st' := [.int t1.1]) rfl ?_
  refine A_istore (L' := [(6, .int t1.1), (0, .ref b), (1, .ref x), (2, .ref y), (3, .ref o), (4, .ref od), (5, .int l5)]) X dL_law_3000 (by decide) rfl ?_
  refine A_aload_n X dL_law_3002 3 rfl ?_
  refine A_aload_n X dL_law_3003 1 rfl ?_
  refine A_iload X dL_law_3004 6 rfl ?_
  refine A_iconst (v := 1) X dL_law_3006 (by decide) ?_
  refine A_iadd X dL_law_3007 ?_
  refine A_sld X hX hbl hbA hi1 dL_law_3008 ?_
  obtain ⟨t2, hct2, h⟩ := bind_o h
  refine A_c (k' := (k0 + 1)) (n' := (n0 + 6)) rfl rfl (A_runV (rest := []) X dL_law_3009 (c_X11_setSeed ((n1 _ (by omega) (by omega) (by omega) (by omega) (by omega) (by omega) (by omega) (by omega) (by omega) (by omega) (by omega) (by omega) (by omega) (by omega) (by omega) (by omega)).trans g39) ((n1 _ (by omega) (by omega) (by omega) (by omega) (by omega) (by omega) (by omega) (by omega) (by omega) (by omega) (by omega) (by omega) (by omega) (by omega) (by omega) (by omega)).trans g40) ((n1 _ (by omega) (by omega) (by omega) (by omega) (by omega) (by omega) (by omega) (by omega) (by omega) (by omega) (by omega) (by omega) (by omega) (by omega) (by omega) (by omega)).trans g42)  hct2) kY_X11_setSeed kw_1971 ((n1 _ (by omega) (by omega) (by omega) (by omega) (by omega) (by omega) (by omega) (by omega) (by omega) (by omega) (by omega) (by omega) (by omega) (by omega) (by omega) (by omega)).trans g39) rfl rfl ⟨(Nat.le_of_ble_eq_true rfl), (Nat.le_of_ble_eq_true rfl), kb rfl hRk, kb rfl hRn⟩ rfl (Nat.le_of_ble_eq_true rfl)) (fun v9 hp2 al9 hP => ?_)
  obtain ⟨rfl, k2_0, k2_1, k2_2, n2, rfl⟩ := hP
  replace k2_0 : hp2 y = some (.inr (11, [.ref (y + 1), .ref (y + 2), .ref (y + 3), .ref (y + 4), .ref (y + 5), .int t2.2.1, .int t2.2.2.1, .int t2.2.2.2.1, .ref (y + 6), .int m_oftenAll, .ref (y + 7), .int m_inputLength, .int m_position, .int m_start, .int m_token, .int m_value, .int m_letters, .int m_code, .int m_place, .ref (y + 8), .int m_outputLength])) := k2_0
  replace k2_1 : hp2 (y + 1) = some (.inl (kC E 0, 1399, .inl t2.2.2.2.2.1)) := k2_1
  replace k2_2 : hp2 (y + 3) = some (.inl (kC E 0, 11192, .inl t2.2.2.2.2.2)) := k2_2
  refine A_st (st' := [.int t2.1]) rfl ?_
  refine A_istore (L' := [(7, .int t2.1), (6, .int t1.1), (0, .ref b), (1, .ref x), (2, .ref y), (3, .ref o), (4, .ref od), (5, .int l5)]) X dL_law_3012 (by decide) rfl ?_
  refine A_aload_n X dL_law_3014 4 rfl ?_
  obtain ⟨t3, hct3, h⟩ := bind_o h
  refine A_cp (k' := (k0 + 1)) (n' := (n0 + 6)) (A_runV (rest := []) X dL_law_3015 (c_X11_thrown k2_0  hct3) kY_X11_thrown kw_1668 k2_0 rfl rfl ⟨(Nat.le_of_ble_eq_true rfl), (Nat.le_of_ble_eq_true rfl), kb rfl hRk, kb rfl hRn⟩ rfl (Nat.le_of_ble_eq_true rfl)) rfl rfl ?_
  refine A_iload X dL_law_3018 1 rfl ?_
  refine A_icmp_eq (tgt := 3025) X dL_law_3020 h (by decide) (fun hc h => ?_) (fun hc h => ?_)
  · refine A_iload X dL_law_3025 1 rfl ?_
    refine A_if_ne (tgt := 3042) X dL_law_3027 h (by decide) (fun hc h => ?_) (fun hc h => ?_)
    · refine A_goto (tgt := 3407) X dL_law_3042 (by decide) ?_
      cases h
      refine A_sub (L' := [(0, .ref b), (1, .ref x), (2, .ref y), (3, .ref o), (4, .ref od), (5, .int l5)]) [2, 3, 4, 5, 6, 7] rfl ?_
      refine A_widen (k' := (k0 + 8)) (n' := (n0 + 48)) (by omega) (by omega) ?_
      exact K ((n2 _ (by omega) (by omega) (by omega)).trans k1_0) ((n2 _ (by omega) (by omega) (by omega)).trans k1_1) k2_0 k2_1 k2_2 ((n2 _ (by omega) (by omega) (by omega)).trans k1_2) ((n2 _ (by omega) (by omega) (by omega)).trans k1_3) ((n2 _ (by omega) (by omega) (by omega)).trans k1_4) ((n2 _ (by omega) (by omega) (by omega)).trans k1_5) ((n2 _ (by omega) (by omega) (by omega)).trans k1_6) ((n2 _ (by omega) (by omega) (by omega)).trans k1_7) ((n2 _ (by omega) (by omega) (by omega)).trans k1_8) ((n2 _ (by omega) (by omega) (by omega)).trans k1_9) ((n2 _ (by omega) (by omega) (by omega)).trans k1_10) ((n2 _ (by omega) (by omega) (by omega)).trans k1_11) ((n2 _ (by omega) (by omega) (by omega)).trans k1_12) ((n2 _ (by omega) (by omega) (by omega)).trans k1_13) ((n2 _ (by omega) (by omega) (by omega)).trans k1_14) ((n2 _ (by omega) (by omega) (by omega)).trans k1_15) (fun q z0 z1 z2 z3 z4 z5 z6 z7 z8 z9 z10 z11 z12 z13 z14 z15 z16 z17 z18 => ((n2 q z2 z3 z4).trans (n1 q z0 z1 z5 z6 z7 z8 z9 z10 z11 z12 z13 z14 z15 z16 z17 z18)))
    · refine A_aload_n X dL_law_3030 5 rfl ?_
      refine A_iconst (v := 0) X dL_law_3031 (by decide) ?_
      refine A_lald X dL_law_3032 ((n2 _ (by omega) (by omega) (by omega)).trans k1_2) (by decide) ?_
      refine A_iload X dL_law_3033 0 rfl ?_
      refine A_i2l X dL_law_3035 ?_
      refine A_lcmp X dL_law_3036 ?_
      refine A_if_eq (tgt := 3042) X dL_law_3037 h (by decide) (fun hc h => ?_) (fun hc h => ?_)
      · refine A_goto (tgt := 3407) X dL_law_3042 (by decide) ?_
        cases h
        refine A_sub (L' := [(0, .ref b), (1, .ref x), (2, .ref y), (3, .ref o), (4, .ref od), (5, .int l5)]) [2, 3, 4, 5, 6, 7] rfl ?_
        refine A_widen (k' := (k0 + 8)) (n' := (n0 + 48)) (by omega) (by omega) ?_
        exact K ((n2 _ (by omega) (by omega) (by omega)).trans k1_0) ((n2 _ (by omega) (by omega) (by omega)).trans k1_1) k2_0 k2_1 k2_2 ((n2 _ (by omega) (by omega) (by omega)).trans k1_2) ((n2 _ (by omega) (by omega) (by omega)).trans k1_3) ((n2 _ (by omega) (by omega) (by omega)).trans k1_4) ((n2 _ (by omega) (by omega) (by omega)).trans k1_5) ((n2 _ (by omega) (by omega) (by omega)).trans k1_6) ((n2 _ (by omega) (by omega) (by omega)).trans k1_7) ((n2 _ (by omega) (by omega) (by omega)).trans k1_8) ((n2 _ (by omega) (by omega) (by omega)).trans k1_9) ((n2 _ (by omega) (by omega) (by omega)).trans k1_10) ((n2 _ (by omega) (by omega) (by omega)).trans k1_11) ((n2 _ (by omega) (by omega) (by omega)).trans k1_12) ((n2 _ (by omega) (by omega) (by omega)).trans k1_13) ((n2 _ (by omega) (by omega) (by omega)).trans k1_14) ((n2 _ (by omega) (by omega) (by omega)).trans k1_15) (fun q z0 z1 z2 z3 z4 z5 z6 z7 z8 z9 z10 z11 z12 z13 z14 z15 z16 z17 z18 => ((n2 q z2 z3 z4).trans (n1 q z0 z1 z5 z6 z7 z8 z9 z10 z11 z12 z13 z14 z15 z16 z17 z18)))
      · refine A_iconst (v := 0) X dL_law_3040 (by decide) ?_
        cases h
  · refine A_iconst (v := 0) X dL_law_3023 (by decide) ?_
    cases h
set_option maxHeartbeats 8000000 in
set_option maxRecDepth 100000 in
theorem c_W56 {E : KE} {p : Program} {l : Launch} {e : Env} {s : State} {m : MethodId} {b L9 : Nat} {xs : Nat → Int32} {below : List Frame} {meth : Method} {c : Code} {hp : Hp} {k0 n0 : Nat} {Q : State → Prop} {N : Nat} {x : Nat} {y : Nat} {o : Nat} {od : Nat} {v : Nat} {sd : Int32} {mn : Int32} {th : Int32} {dc : Int32} {fc : Nat → Int32} {dw : Nat → Int32} {pc : Int32} {ln : Nat → Int32} {lt : Nat → Int32} {tc : Int32} {en : Nat → Int32} {fr : Nat → Int32} {oc : Int32} {op : Nat → Int32} {os : Nat → Int32} {nx : Int32} {dp : Int32} {rws : Nat → Option Nat} {m_undoable : Int32} {m_undoStart : Int32} {m_thrown : Int32} {m_oftenAll : Int32} {m_inputLength : Int32} {m_position : Int32} {m_start : Int32} {m_token : Int32} {m_value : Int32} {m_letters : Int32} {m_code : Int32} {m_place : Int32} {m_outputLength : Int32} {m_s : Nat → Int32} {m_remembered : Nat → Int32} {m_often : Nat → Int32} {ov : Nat → Int64} {v_sd : Int32} {v_mn : Int32} {v_th : Int32} {v_dc : Int32} {v_fc : Nat → Int32} {v_dw : Nat → Int32} {v_pc : Int32} {v_ln : Nat → Int32} {v_lt : Nat → Int32} {v_tc : Int32} {v_en : Nat → Int32} {v_fr : Nat → Int32} {v_oc : Int32} {v_op : Nat → Int32} {v_os : Nat → Int32} {l5 : Int32} {out : Int32 × Int32 × Int32 × Int32 × Int32 × Int32 × Int32 × Int32 × (Nat → Int32) × (Nat → Int32) × (Nat → Int32) × (Nat → Int64) × Int32 × Int32 × Int32 × Int32 × (Nat → Int32) × (Nat → Int32) × Int32 × (Nat → Int32) × (Nat → Int32) × Int32 × (Nat → Int32) × (Nat → Int32) × Int32 × (Nat → Int32) × (Nat → Int32)} (X : CX E p l s m #[Value.ref b] meth c "DiceAuditLaw" cL_law 10) (hX : va_X b L9 xs s s.heap) (hbl : b < s.heap.size) (hbA : ¬ kA E b) (hi1 : vp_in (l5 + 1) L9) (hi2 : vp_in (l5 + 2) L9) (hi3 : vp_in (l5 + 3) L9) (hi4 : vp_in (l5 + 4) L9) (hi5 : vp_in (l5 + 5) L9) (hRk : k0 + 8 ≤ room_1.cells) (hRn : n0 + 48 ≤ room_1.slots) (g0 : hp x = some (.inr (10, [.ref (x + 126), .ref (x + 128), .ref (x + 1), .ref (x + 3), .ref (x + 16), .ref (x + 18), .ref (x + 124), .ref (x + 125)]))) (g3 : hp (x + 3) = some (.inr (2, [.ref (x + 4), .ref (x + 7), .ref (x + 10), .ref (x + 13), .int sd, .int mn, .int th]))) (g4 : hp (x + 4) = some (.inr (0, [.ref (x + 5), .ref (x + 6), .int dc]))) (g5 : hp (x + 5) = some (.inl (kC E 0, 6, .inl fc))) (g6 : hp (x + 6) = some (.inl (kC E 0, 72, .inl dw))) (g7 : hp (x + 7) = some (.inr (7, [.ref (x + 8), .ref (x + 9), .int pc]))) (g8 : hp (x + 8) = some (.inl (kC E 0, 6, .inl ln))) (g9 : hp (x + 9) = some (.inl (kC E 0, 24, .inl lt))) (g10 : hp (x + 10) = some (.inr (4, [.ref (x + 11), .ref (x + 12), .int tc]))) (g11 : hp (x + 11) = some (.inl (kC E 0, 300, .inl en))) (g12 : hp (x + 12) = some (.inl (kC E 0, 432, .inl fr))) (g13 : hp (x + 13) = some (.inr (6, [.ref (x + 14), .ref (x + 15), .int oc]))) (g14 : hp (x + 14) = some (.inl (kC E 0, 36, .inl op))) (g15 : hp (x + 15) = some (.inl (kC E 0, 36, .inl os))) (g18 : hp (x + 18) = some (.inr (3, [.ref (x + 19), .int nx, .int dp]))) (g19 : hp (x + 19) = some (.inl (kC E 5, 8, .inr (.inr (.inr (.inr rws)))))) (g39 : hp y = some (.inr (11, [.ref (y + 1), .ref (y + 2), .ref (y + 3), .ref (y + 4), .ref (y + 5), .int m_undoable, .int m_undoStart, .int m_thrown, .ref (y + 6), .int m_oftenAll, .ref (y + 7), .int m_inputLength, .int m_position, .int m_start, .int m_token, .int m_value, .int m_letters, .int m_code, .int m_place, .ref (y + 8), .int m_outputLength]))) (g40 : hp (y + 1) = some (.inl (kC E 0, 1399, .inl m_s))) (g42 : hp (y + 3) = some (.inl (kC E 0, 11192, .inl m_remembered))) (g45 : hp (y + 6) = some (.inl (kC E 0, 13, .inl m_often))) (g48 : hp o = some (.inl (kC E 1, 1, .inr (.inl ov)))) (g50 : hp v = some (.inr (2, [.ref (v + 1), .ref (v + 4), .ref (v + 7), .ref (v + 10), .int v_sd, .int v_mn, .int v_th]))) (g51 : hp (v + 1) = some (.inr (0, [.ref (v + 2), .ref (v + 3), .int v_dc]))) (g52 : hp (v + 2) = some (.inl (kC E 0, 6, .inl v_fc))) (g53 : hp (v + 3) = some (.inl (kC E 0, 72, .inl v_dw))) (g54 : hp (v + 4) = some (.inr (7, [.ref (v + 5), .ref (v + 6), .int v_pc]))) (g55 : hp (v + 5) = some (.inl (kC E 0, 6, .inl v_ln))) (g56 : hp (v + 6) = some (.inl (kC E 0, 24, .inl v_lt))) (g57 : hp (v + 7) = some (.inr (4, [.ref (v + 8), .ref (v + 9), .int v_tc]))) (g58 : hp (v + 8) = some (.inl (kC E 0, 300, .inl v_en))) (g59 : hp (v + 9) = some (.inl (kC E 0, 432, .inl v_fr))) (g60 : hp (v + 10) = some (.inr (6, [.ref (v + 11), .ref (v + 12), .int v_oc]))) (g61 : hp (v + 11) = some (.inl (kC E 0, 36, .inl v_op))) (g62 : hp (v + 12) = some (.inl (kC E 0, 36, .inl v_os))) (hvv : rws (Int32.toNatClampNeg nx) = some v) (hlv : (x + 20) ≤ v) (huv : (v + 13) ≤ (x + 124)) (hz3 : (x + 20) ≤ y ∨ (y + 7) ≤ x) (hz4 : (x + 20) ≤ o ∨ (o + 1) ≤ x) (hz5 : (y + 7) ≤ o ∨ (o + 1) ≤ y) (hz6 : (y + 7) ≤ v ∨ (v + 13) ≤ y) (hz7 : (o + 1) ≤ v ∨ (v + 13) ≤ o) (h : f_W56 N xs l5 sd dc fc dw pc ln lt tc en fr oc op os mn th nx dp m_undoable m_undoStart m_thrown m_oftenAll m_s m_remembered m_often ov v_sd v_mn v_th v_dc v_fc v_dw v_pc v_ln v_lt v_tc v_en v_fr v_oc v_op v_os = some out) (K : ∀ {hp' : Hp}, hp' (x + 3) = some (.inr (2, [.ref (x + 4), .ref (x + 7), .ref (x + 10), .ref (x + 13), .int sd, .int out.1, .int out.2.1])) → hp' (x + 18) = some (.inr (3, [.ref (x + 19), .int out.2.2.1, .int out.2.2.2.1])) → hp' y = some (.inr (11, [.ref (y + 1), .ref (y + 2), .ref (y + 3), .ref (y + 4), .ref (y + 5), .int out.2.2.2.2.1, .int out.2.2.2.2.2.1, .int out.2.2.2.2.2.2.1, .ref (y + 6), .int out.2.2.2.2.2.2.2.1, .ref (y + 7), .int m_inputLength, .int m_position, .int m_start, .int m_token, .int m_value, .int m_letters, .int m_code, .int m_place, .ref (y + 8), .int m_outputLength])) → hp' (y + 1) = some (.inl (kC E 0, 1399, .inl out.2.2.2.2.2.2.2.2.1)) → hp' (y + 3) = some (.inl (kC E 0, 11192, .inl out.2.2.2.2.2.2.2.2.2.1)) → hp' (y + 6) = some (.inl (kC E 0, 13, .inl out.2.2.2.2.2.2.2.2.2.2.1)) → hp' o = some (.inl (kC E 1, 1, .inr (.inl out.2.2.2.2.2.2.2.2.2.2.2.1))) → hp' v = some (.inr (2, [.ref (v + 1), .ref (v + 4), .ref (v + 7), .ref (v + 10), .int out.2.2.2.2.2.2.2.2.2.2.2.2.1, .int out.2.2.2.2.2.2.2.2.2.2.2.2.2.1, .int out.2.2.2.2.2.2.2.2.2.2.2.2.2.2.1])) → hp' (v + 1) = some (.inr (0, [.ref (v + 2), .ref (v + 3), .int out.2.2.2.2.2.2.2.2.2.2.2.2.2.2.2.1])) → hp' (v + 2) = some (.inl (kC E 0, 6, .inl out.2.2.2.2.2.2.2.2.2.2.2.2.2.2.2.2.1)) → hp' (v + 3) = some (.inl (kC E 0, 72, .inl out.2.2.2.2.2.2.2.2.2.2.2.2.2.2.2.2.2.1)) → hp' (v + 4) = some (.inr (7, [.ref (v + 5), .ref (v + 6), .int out.2.2.2.2.2.2.2.2.2.2.2.2.2.2.2.2.2.2.1])) → hp' (v + 5) = some (.inl (kC E 0, 6, .inl out.2.2.2.2.2.2.2.2.2.2.2.2.2.2.2.2.2.2.2.1)) → hp' (v + 6) = some (.inl (kC E 0, 24, .inl out.2.2.2.2.2.2.2.2.2.2.2.2.2.2.2.2.2.2.2.2.1)) → hp' (v + 7) = some (.inr (4, [.ref (v + 8), .ref (v + 9), .int out.2.2.2.2.2.2.2.2.2.2.2.2.2.2.2.2.2.2.2.2.2.1])) → hp' (v + 8) = some (.inl (kC E 0, 300, .inl out.2.2.2.2.2.2.2.2.2.2.2.2.2.2.2.2.2.2.2.2.2.2.1)) → hp' (v + 9) = some (.inl (kC E 0, 432, .inl out.2.2.2.2.2.2.2.2.2.2.2.2.2.2.2.2.2.2.2.2.2.2.2.1)) → hp' (v + 10) = some (.inr (6, [.ref (v + 11), .ref (v + 12), .int out.2.2.2.2.2.2.2.2.2.2.2.2.2.2.2.2.2.2.2.2.2.2.2.2.1])) → hp' (v + 11) = some (.inl (kC E 0, 36, .inl out.2.2.2.2.2.2.2.2.2.2.2.2.2.2.2.2.2.2.2.2.2.2.2.2.2.1)) → hp' (v + 12) = some (.inl (kC E 0, 36, .inl out.2.2.2.2.2.2.2.2.2.2.2.2.2.2.2.2.2.2.2.2.2.2.2.2.2.2)) → (∀ q, q ≠ (x + 3) → q ≠ (x + 18) → q ≠ y → q ≠ (y + 1) → q ≠ (y + 3) → q ≠ (y + 6) → q ≠ o → q ≠ v → q ≠ (v + 1) → q ≠ (v + 2) → q ≠ (v + 3) → q ≠ (v + 4) → q ≠ (v + 5) → q ≠ (v + 6) → q ≠ (v + 7) → q ≠ (v + 8) → q ≠ (v + 9) → q ≠ (v + 10) → q ≠ (v + 11) → q ≠ (v + 12) → hp' q = hp q) → AW E p l e room_1 s m #[Value.ref b] below meth c 10 Q hp' none (k0 + 8) (n0 + 48) 3407 [(0, .ref b), (1, .ref x), (2, .ref y), (3, .ref o), (4, .ref od), (5, .int l5)] []) : AW E p l e room_1 s m #[Value.ref b] below meth c 10 Q hp none (k0 + 0) (n0 + 0) 3045 [(0, .ref b), (1, .ref x), (2, .ref y), (3, .ref o), (4, .ref od), (5, .int l5)] [] := by
  unfold f_W56 at h
  refine A_aload_n X dL_law_3045 1 rfl ?_
  refine A_aload_n X dL_law_3046 0 rfl ?_
  refine A_iload X dL_law_3047 5 rfl ?_
  refine A_iconst (v := 1) X dL_law_3049 (by decide) ?_
  refine A_iadd X dL_law_3050 ?_
  refine A_sld X hX hbl hbA hi1 dL_law_3051 ?_
  refine A_aload_n X dL_law_3052 0 rfl ?_
  refine A_iload X dL_law_3053 5 rfl ?_
  refine A_iconst (v := 2) X dL_law_3055 (by decide) ?_
  refine A_iadd X dL_law_3056 ?_
  refine A_sld X hX hbl hbA hi2 dL_law_3057 ?_
  refine A_aload_n X dL_law_3058 3 rfl ?_
  obtain ⟨t1, hct1, h⟩ := bind_o h
  refine A_cX (k' := (k0 + 2)) (n' := (n0 + 12)) rfl rfl (A_runSH (rest := []) X dL_law_3059 (c_L_setLimits g0 g3 g4 g5 g6 g7 g8 g9 g10 g11 g12 g13 g14 g15 g18 g19 g48 g50 g51 g52 g53 g54 g55 g56 g57 g58 g59 g60 g61 g62 hvv (by omega) (by omega) (by omega) (by omega) hct1) kY_L_setLimits kw_1350 ⟨(Nat.le_of_ble_eq_true rfl), (Nat.le_of_ble_eq_true rfl), kb rfl hRk, kb rfl hRn⟩ rfl (Nat.le_of_ble_eq_true rfl)) (fun C hp1 hP => hP.elim) (fun v9 hp1 al9 hP => ?_)
  obtain ⟨rfl, k1_0, k1_1, k1_2, k1_3, k1_4, k1_5, k1_6, k1_7, k1_8, k1_9, k1_10, k1_11, k1_12, k1_13, k1_14, k1_15, n1, rfl⟩ := hP
  replace k1_0 : hp1 (x + 3) = some (.inr (2, [.ref (x + 4), .ref (x + 7), .ref (x + 10), .ref (x + 13), .int sd, .int t1.2.1, .int t1.2.2.1])) := k1_0
  replace k1_1 : hp1 (x + 18) = some (.inr (3, [.ref (x + 19), .int t1.2.2.2.1, .int t1.2.2.2.2.1])) := k1_1
  replace k1_2 : hp1 o = some (.inl (kC E 1, 1, .inr (.inl t1.2.2.2.2.2.1))) := k1_2
  replace k1_3 : hp1 v = some (.inr (2, [.ref (v + 1), .ref (v + 4), .ref (v + 7), .ref (v + 10), .int t1.2.2.2.2.2.2.1, .int t1.2.2.2.2.2.2.2.1, .int t1.2.2.2.2.2.2.2.2.1])) := k1_3
  replace k1_4 : hp1 (v + 1) = some (.inr (0, [.ref (v + 2), .ref (v + 3), .int t1.2.2.2.2.2.2.2.2.2.1])) := k1_4
  replace k1_5 : hp1 (v + 2) = some (.inl (kC E 0, 6, .inl t1.2.2.2.2.2.2.2.2.2.2.1)) := k1_5
  replace k1_6 : hp1 (v + 3) = some (.inl (kC E 0, 72, .inl t1.2.2.2.2.2.2.2.2.2.2.2.1)) := k1_6
  replace k1_7 : hp1 (v + 4) = some (.inr (7, [.ref (v + 5), .ref (v + 6), .int t1.2.2.2.2.2.2.2.2.2.2.2.2.1])) := k1_7
  replace k1_8 : hp1 (v + 5) = some (.inl (kC E 0, 6, .inl t1.2.2.2.2.2.2.2.2.2.2.2.2.2.1)) := k1_8
  replace k1_9 : hp1 (v + 6) = some (.inl (kC E 0, 24, .inl t1.2.2.2.2.2.2.2.2.2.2.2.2.2.2.1)) := k1_9
  replace k1_10 : hp1 (v + 7) = some (.inr (4, [.ref (v + 8), .ref (v + 9), .int t1.2.2.2.2.2.2.2.2.2.2.2.2.2.2.2.1])) := k1_10
  replace k1_11 : hp1 (v + 8) = some (.inl (kC E 0, 300, .inl t1.2.2.2.2.2.2.2.2.2.2.2.2.2.2.2.2.1)) := k1_11
  replace k1_12 : hp1 (v + 9) = some (.inl (kC E 0, 432, .inl t1.2.2.2.2.2.2.2.2.2.2.2.2.2.2.2.2.2.1)) := k1_12
  replace k1_13 : hp1 (v + 10) = some (.inr (6, [.ref (v + 11), .ref (v + 12), .int t1.2.2.2.2.2.2.2.2.2.2.2.2.2.2.2.2.2.2.1])) := k1_13
  replace k1_14 : hp1 (v + 11) = some (.inl (kC E 0, 36, .inl t1.2.2.2.2.2.2.2.2.2.2.2.2.2.2.2.2.2.2.2.1)) := k1_14
  replace k1_15 : hp1 (v + 12) = some (.inl (kC E 0, 36, .inl t1.2.2.2.2.2.2.2.2.2.2.2.2.2.2.2.2.2.2.2.2)) := k1_15
  refine A_st (st' := [.int t1.1]) rfl ?_
  refine A_istore (L' := [(6, .int t1.1), (0, .ref b), (1, .ref x), (2, .ref y), (3, .ref o), (4, .ref od), (5, .int l5)]) X dL_law_3062 (by decide) rfl ?_
  refine A_aload_n X dL_law_3064 3 rfl ?_
  refine A_aload_n X dL_law_3065 1 rfl ?_
  refine A_iload X dL_law_3066 6 rfl ?_
  refine A_iconst (v := 1) X dL_law_3068 (by decide) ?_
  refine A_iadd X dL_law_3069 ?_
  refine A_sld X hX hbl hbA hi1 dL_law_3070 ?_
  refine A_aload_n X dL_law_3071 1 rfl ?_
  refine A_iload X dL_law_3072 6 rfl ?_
  refine A_iconst (v := 2) X dL_law_3074 (by decide) ?_
  refine A_iadd X dL_law_3075 ?_
  refine A_sld X hX hbl hbA hi2 dL_law_3076 ?_
  obtain ⟨t2, hct2, h⟩ := bind_o h
  refine A_c (k' := (k0 + 2)) (n' := (n0 + 12)) rfl rfl (A_runV (rest := []) X dL_law_3077 (c_X11_setLimits ((n1 _ (by omega) (by omega) (by omega) (by omega) (by omega) (by omega) (by omega) (by omega) (by omega) (by omega) (by omega) (by omega) (by omega) (by omega) (by omega) (by omega)).trans g39) ((n1 _ (by omega) (by omega) (by omega) (by omega) (by omega) (by omega) (by omega) (by omega) (by omega) (by omega) (by omega) (by omega) (by omega) (by omega) (by omega) (by omega)).trans g40) ((n1 _ (by omega) (by omega) (by omega) (by omega) (by omega) (by omega) (by omega) (by omega) (by omega) (by omega) (by omega) (by omega) (by omega) (by omega) (by omega) (by omega)).trans g42) ((n1 _ (by omega) (by omega) (by omega) (by omega) (by omega) (by omega) (by omega) (by omega) (by omega) (by omega) (by omega) (by omega) (by omega) (by omega) (by omega) (by omega)).trans g45)  hct2) kY_X11_setLimits kw_1975 ((n1 _ (by omega) (by omega) (by omega) (by omega) (by omega) (by omega) (by omega) (by omega) (by omega) (by omega) (by omega) (by omega) (by omega) (by omega) (by omega) (by omega)).trans g39) rfl rfl ⟨(Nat.le_of_ble_eq_true rfl), (Nat.le_of_ble_eq_true rfl), kb rfl hRk, kb rfl hRn⟩ rfl (Nat.le_of_ble_eq_true rfl)) (fun v9 hp2 al9 hP => ?_)
  obtain ⟨rfl, k2_0, k2_1, k2_2, k2_3, n2, rfl⟩ := hP
  replace k2_0 : hp2 y = some (.inr (11, [.ref (y + 1), .ref (y + 2), .ref (y + 3), .ref (y + 4), .ref (y + 5), .int t2.2.1, .int t2.2.2.1, .int t2.2.2.2.1, .ref (y + 6), .int t2.2.2.2.2.1, .ref (y + 7), .int m_inputLength, .int m_position, .int m_start, .int m_token, .int m_value, .int m_letters, .int m_code, .int m_place, .ref (y + 8), .int m_outputLength])) := k2_0
  replace k2_1 : hp2 (y + 1) = some (.inl (kC E 0, 1399, .inl t2.2.2.2.2.2.1)) := k2_1
  replace k2_2 : hp2 (y + 3) = some (.inl (kC E 0, 11192, .inl t2.2.2.2.2.2.2.1)) := k2_2
  replace k2_3 : hp2 (y + 6) = some (.inl (kC E 0, 13, .inl t2.2.2.2.2.2.2.2)) := k2_3
  refine A_st (st' := [.int t2.1]) rfl ?_
  refine A_istore (L' := [(7, .int t2.1), (6, .int t1.1), (0, .ref b), (1, .ref x), (2, .ref y), (3, .ref o), (4, .ref od), (5, .int l5)]) X dL_law_3080 (by decide) rfl ?_
  refine A_aload_n X dL_law_3082 4 rfl ?_
  obtain ⟨t3, hct3, h⟩ := bind_o h
  refine A_cp (k' := (k0 + 2)) (n' := (n0 + 12)) (A_runV (rest := []) X dL_law_3083 (c_X11_thrown k2_0  hct3) kY_X11_thrown kw_1668 k2_0 rfl rfl ⟨(Nat.le_of_ble_eq_true rfl), (Nat.le_of_ble_eq_true rfl), kb rfl hRk, kb rfl hRn⟩ rfl (Nat.le_of_ble_eq_true rfl)) rfl rfl ?_
  refine A_iload X dL_law_3086 1 rfl ?_
  refine A_icmp_eq (tgt := 3093) X dL_law_3088 h (by decide) (fun hc h => ?_) (fun hc h => ?_)
  · refine A_iload X dL_law_3093 1 rfl ?_
    refine A_if_ne (tgt := 3110) X dL_law_3095 h (by decide) (fun hc h => ?_) (fun hc h => ?_)
    · refine A_goto (tgt := 3407) X dL_law_3110 (by decide) ?_
      cases h
      refine A_sub (L' := [(0, .ref b), (1, .ref x), (2, .ref y), (3, .ref o), (4, .ref od), (5, .int l5)]) [2, 3, 4, 5, 6, 7] rfl ?_
      refine A_widen (k' := (k0 + 8)) (n' := (n0 + 48)) (by omega) (by omega) ?_
      exact K ((n2 _ (by omega) (by omega) (by omega) (by omega)).trans k1_0) ((n2 _ (by omega) (by omega) (by omega) (by omega)).trans k1_1) k2_0 k2_1 k2_2 k2_3 ((n2 _ (by omega) (by omega) (by omega) (by omega)).trans k1_2) ((n2 _ (by omega) (by omega) (by omega) (by omega)).trans k1_3) ((n2 _ (by omega) (by omega) (by omega) (by omega)).trans k1_4) ((n2 _ (by omega) (by omega) (by omega) (by omega)).trans k1_5) ((n2 _ (by omega) (by omega) (by omega) (by omega)).trans k1_6) ((n2 _ (by omega) (by omega) (by omega) (by omega)).trans k1_7) ((n2 _ (by omega) (by omega) (by omega) (by omega)).trans k1_8) ((n2 _ (by omega) (by omega) (by omega) (by omega)).trans k1_9) ((n2 _ (by omega) (by omega) (by omega) (by omega)).trans k1_10) ((n2 _ (by omega) (by omega) (by omega) (by omega)).trans k1_11) ((n2 _ (by omega) (by omega) (by omega) (by omega)).trans k1_12) ((n2 _ (by omega) (by omega) (by omega) (by omega)).trans k1_13) ((n2 _ (by omega) (by omega) (by omega) (by omega)).trans k1_14) ((n2 _ (by omega) (by omega) (by omega) (by omega)).trans k1_15) (fun q z0 z1 z2 z3 z4 z5 z6 z7 z8 z9 z10 z11 z12 z13 z14 z15 z16 z17 z18 z19 => ((n2 q z2 z3 z4 z5).trans (n1 q z0 z1 z6 z7 z8 z9 z10 z11 z12 z13 z14 z15 z16 z17 z18 z19)))
    · refine A_aload_n X dL_law_3098 5 rfl ?_
      refine A_iconst (v := 0) X dL_law_3099 (by decide) ?_
      refine A_lald X dL_law_3100 ((n2 _ (by omega) (by omega) (by omega) (by omega)).trans k1_2) (by decide) ?_
      refine A_iload X dL_law_3101 0 rfl ?_
      refine A_i2l X dL_law_3103 ?_
      refine A_lcmp X dL_law_3104 ?_
      refine A_if_eq (tgt := 3110) X dL_law_3105 h (by decide) (fun hc h => ?_) (fun hc h => ?_)
      · refine A_goto (tgt := 3407) X dL_law_3110 (by decide) ?_
        cases h
        refine A_sub (L' := [(0, .ref b), (1, .ref x), (2, .ref y), (3, .ref o), (4, .ref od), (5, .int l5)]) [2, 3, 4, 5, 6, 7] rfl ?_
        refine A_widen (k' := (k0 + 8)) (n' := (n0 + 48)) (by omega) (by omega) ?_
        exact K ((n2 _ (by omega) (by omega) (by omega) (by omega)).trans k1_0) ((n2 _ (by omega) (by omega) (by omega) (by omega)).trans k1_1) k2_0 k2_1 k2_2 k2_3 ((n2 _ (by omega) (by omega) (by omega) (by omega)).trans k1_2) ((n2 _ (by omega) (by omega) (by omega) (by omega)).trans k1_3) ((n2 _ (by omega) (by omega) (by omega) (by omega)).trans k1_4) ((n2 _ (by omega) (by omega) (by omega) (by omega)).trans k1_5) ((n2 _ (by omega) (by omega) (by omega) (by omega)).trans k1_6) ((n2 _ (by omega) (by omega) (by omega) (by omega)).trans k1_7) ((n2 _ (by omega) (by omega) (by omega) (by omega)).trans k1_8) ((n2 _ (by omega) (by omega) (by omega) (by omega)).trans k1_9) ((n2 _ (by omega) (by omega) (by omega) (by omega)).trans k1_10) ((n2 _ (by omega) (by omega) (by omega) (by omega)).trans k1_11) ((n2 _ (by omega) (by omega) (by omega) (by omega)).trans k1_12) ((n2 _ (by omega) (by omega) (by omega) (by omega)).trans k1_13) ((n2 _ (by omega) (by omega) (by omega) (by omega)).trans k1_14) ((n2 _ (by omega) (by omega) (by omega) (by omega)).trans k1_15) (fun q z0 z1 z2 z3 z4 z5 z6 z7 z8 z9 z10 z11 z12 z13 z14 z15 z16 z17 z18 z19 => ((n2 q z2 z3 z4 z5).trans (n1 q z0 z1 z6 z7 z8 z9 z10 z11 z12 z13 z14 z15 z16 z17 z18 z19)))
      · refine A_iconst (v := 0) X dL_law_3108 (by decide) ?_
        cases h
  · refine A_iconst (v := 0) X dL_law_3091 (by decide) ?_
    cases h
set_option maxHeartbeats 8000000 in
set_option maxRecDepth 100000 in
theorem c_W57 {E : KE} {p : Program} {l : Launch} {e : Env} {s : State} {m : MethodId} {b L9 : Nat} {xs : Nat → Int32} {below : List Frame} {meth : Method} {c : Code} {hp : Hp} {k0 n0 : Nat} {Q : State → Prop} {N : Nat} {x : Nat} {y : Nat} {o : Nat} {od : Nat} {otl : Int32} {otb : Nat → Int32} {sd : Int32} {mn : Int32} {th : Int32} {pc : Int32} {ln : Nat → Int32} {lt : Nat → Int32} {tc : Int32} {fr : Nat → Int32} {oc : Int32} {op : Nat → Int32} {m_undoable : Int32} {m_undoStart : Int32} {m_thrown : Int32} {m_oftenAll : Int32} {m_inputLength : Int32} {m_position : Int32} {m_start : Int32} {m_token : Int32} {m_value : Int32} {m_letters : Int32} {m_code : Int32} {m_place : Int32} {m_outputLength : Int32} {m_s : Nat → Int32} {m_output : Nat → Int32} {l5 : Int32} {out : Int32 × (Nat → Int32) × Int32 × Int32 × (Nat → Int32)} (X : CX E p l s m #[Value.ref b] meth c "DiceAuditLaw" cL_law 10) (hX : va_X b L9 xs s s.heap) (hbl : b < s.heap.size) (hbA : ¬ kA E b) (hi1 : vp_in (l5 + 1) L9) (hi2 : vp_in (l5 + 2) L9) (hi3 : vp_in (l5 + 3) L9) (hi4 : vp_in (l5 + 4) L9) (hi5 : vp_in (l5 + 5) L9) (hRk : k0 + 8 ≤ room_1.cells) (hRn : n0 + 48 ≤ room_1.slots) (g0 : hp x = some (.inr (10, [.ref (x + 126), .ref (x + 128), .ref (x + 1), .ref (x + 3), .ref (x + 16), .ref (x + 18), .ref (x + 124), .ref (x + 125)]))) (g1 : hp (x + 1) = some (.inr (8, [.ref (x + 2), .int otl]))) (g2 : hp (x + 2) = some (.inl (kC E 0, 900, .inl otb))) (g3 : hp (x + 3) = some (.inr (2, [.ref (x + 4), .ref (x + 7), .ref (x + 10), .ref (x + 13), .int sd, .int mn, .int th]))) (g7 : hp (x + 7) = some (.inr (7, [.ref (x + 8), .ref (x + 9), .int pc]))) (g8 : hp (x + 8) = some (.inl (kC E 0, 6, .inl ln))) (g9 : hp (x + 9) = some (.inl (kC E 0, 24, .inl lt))) (g10 : hp (x + 10) = some (.inr (4, [.ref (x + 11), .ref (x + 12), .int tc]))) (g12 : hp (x + 12) = some (.inl (kC E 0, 432, .inl fr))) (g13 : hp (x + 13) = some (.inr (6, [.ref (x + 14), .ref (x + 15), .int oc]))) (g14 : hp (x + 14) = some (.inl (kC E 0, 36, .inl op))) (g39 : hp y = some (.inr (11, [.ref (y + 1), .ref (y + 2), .ref (y + 3), .ref (y + 4), .ref (y + 5), .int m_undoable, .int m_undoStart, .int m_thrown, .ref (y + 6), .int m_oftenAll, .ref (y + 7), .int m_inputLength, .int m_position, .int m_start, .int m_token, .int m_value, .int m_letters, .int m_code, .int m_place, .ref (y + 8), .int m_outputLength]))) (g40 : hp (y + 1) = some (.inl (kC E 0, 1399, .inl m_s))) (g47 : hp (y + 8) = some (.inl (kC E 3, 1000, .inl m_output))) (hz0 : (x + 15) ≤ y ∨ (y + 9) ≤ x) (h : f_W57 N xs l5 pc ln lt fr oc op m_s otl otb m_thrown m_outputLength m_output = some out) (K : ∀ {hp' : Hp}, hp' (x + 1) = some (.inr (8, [.ref (x + 2), .int out.1])) → hp' (x + 2) = some (.inl (kC E 0, 900, .inl out.2.1)) → hp' y = some (.inr (11, [.ref (y + 1), .ref (y + 2), .ref (y + 3), .ref (y + 4), .ref (y + 5), .int m_undoable, .int m_undoStart, .int out.2.2.1, .ref (y + 6), .int m_oftenAll, .ref (y + 7), .int m_inputLength, .int m_position, .int m_start, .int m_token, .int m_value, .int m_letters, .int m_code, .int m_place, .ref (y + 8), .int out.2.2.2.1])) → hp' (y + 8) = some (.inl (kC E 3, 1000, .inl out.2.2.2.2)) → (∀ q, q ≠ (x + 1) → q ≠ (x + 2) → q ≠ y → q ≠ (y + 8) → hp' q = hp q) → AW E p l e room_1 s m #[Value.ref b] below meth c 10 Q hp' none (k0 + 8) (n0 + 48) 3407 [(0, .ref b), (1, .ref x), (2, .ref y), (3, .ref o), (4, .ref od), (5, .int l5)] []) : AW E p l e room_1 s m #[Value.ref b] below meth c 10 Q hp none (k0 + 0) (n0 + 0) 3113 [(0, .ref b), (1, .ref x), (2, .ref y), (3, .ref o), (4, .ref od), (5, .int l5)] [] := by
  unfold f_W57 at h
  refine A_aload_n X dL_law_3113 1 rfl ?_
  obtain ⟨t1, hct1, h⟩ := bind_o h
  refine A_c (k' := (k0 + 0)) (n' := (n0 + 0)) rfl rfl (A_runV (rest := []) X dL_law_3114 (c_X10_writeRecords g0 g1 g2 g3 g7 g8 g9 g10 g12 g13 g14  hct1) kY_X10_writeRecords kw_785 g0 rfl rfl ⟨(Nat.le_of_ble_eq_true rfl), (Nat.le_of_ble_eq_true rfl), kb rfl hRk, kb rfl hRn⟩ rfl (Nat.le_of_ble_eq_true rfl)) (fun v9 hp1 al9 hP => ?_)
  obtain ⟨rfl, k1_0, k1_1, n1, rfl⟩ := hP
  replace k1_0 : hp1 (x + 1) = some (.inr (8, [.ref (x + 2), .int t1.2.1])) := k1_0
  replace k1_1 : hp1 (x + 2) = some (.inl (kC E 0, 900, .inl t1.2.2)) := k1_1
  refine A_st (st' := [.int t1.1]) rfl ?_
  refine A_aload_n X dL_law_3117 2 rfl ?_
  obtain ⟨t2, hct2, h⟩ := bind_o h
  refine A_c (k' := (k0 + 0)) (n' := (n0 + 0)) rfl rfl (A_runV (rest := [.int t1.1]) X dL_law_3118 (c_X11_writeRecords ((n1 _ (by omega) (by omega)).trans g39) ((n1 _ (by omega) (by omega)).trans g40) ((n1 _ (by omega) (by omega)).trans g47)  hct2) kY_X11_writeRecords kw_1979 ((n1 _ (by omega) (by omega)).trans g39) rfl rfl ⟨(Nat.le_of_ble_eq_true rfl), (Nat.le_of_ble_eq_true rfl), kb rfl hRk, kb rfl hRn⟩ rfl (Nat.le_of_ble_eq_true rfl)) (fun v9 hp2 al9 hP => ?_)
  obtain ⟨rfl, k2_0, k2_1, n2, rfl⟩ := hP
  replace k2_0 : hp2 y = some (.inr (11, [.ref (y + 1), .ref (y + 2), .ref (y + 3), .ref (y + 4), .ref (y + 5), .int m_undoable, .int m_undoStart, .int t2.2.1, .ref (y + 6), .int m_oftenAll, .ref (y + 7), .int m_inputLength, .int m_position, .int m_start, .int m_token, .int m_value, .int m_letters, .int m_code, .int m_place, .ref (y + 8), .int t2.2.2.1])) := k2_0
  replace k2_1 : hp2 (y + 8) = some (.inl (kC E 3, 1000, .inl t2.2.2.2)) := k2_1
  refine A_st (st' := [.int t2.1, .int t1.1]) rfl ?_
  refine A_icmp_eq (tgt := 3407) X dL_law_3121 h (by decide) (fun hc h => ?_) (fun hc h => ?_)
  · cases h
    refine A_sub (L' := [(0, .ref b), (1, .ref x), (2, .ref y), (3, .ref o), (4, .ref od), (5, .int l5)]) [0, 1, 2, 3, 4, 5] rfl ?_
    refine A_widen (k' := (k0 + 8)) (n' := (n0 + 48)) (by omega) (by omega) ?_
    exact K ((n2 _ (by omega) (by omega)).trans k1_0) ((n2 _ (by omega) (by omega)).trans k1_1) k2_0 k2_1 (fun q z0 z1 z2 z3 => ((n2 q z2 z3).trans (n1 q z0 z1)))
  · refine A_iconst (v := 0) X dL_law_3124 (by decide) ?_
    cases h
set_option maxHeartbeats 8000000 in
set_option maxRecDepth 100000 in
theorem c_W58 {E : KE} {p : Program} {l : Launch} {e : Env} {s : State} {m : MethodId} {b L9 : Nat} {xs : Nat → Int32} {below : List Frame} {meth : Method} {c : Code} {hp : Hp} {k0 n0 : Nat} {Q : State → Prop} {N : Nat} {x : Nat} {y : Nat} {o : Nat} {od : Nat} {otl : Int32} {otb : Nat → Int32} {sd : Int32} {mn : Int32} {th : Int32} {pc : Int32} {tc : Int32} {en : Nat → Int32} {m_undoable : Int32} {m_undoStart : Int32} {m_thrown : Int32} {m_oftenAll : Int32} {m_inputLength : Int32} {m_position : Int32} {m_start : Int32} {m_token : Int32} {m_value : Int32} {m_letters : Int32} {m_code : Int32} {m_place : Int32} {m_outputLength : Int32} {m_s : Nat → Int32} {m_output : Nat → Int32} {ov : Nat → Int64} {l5 : Int32} {out : Int32 × (Nat → Int32) × Int32 × Int32 × (Nat → Int32) × (Nat → Int64)} (X : CX E p l s m #[Value.ref b] meth c "DiceAuditLaw" cL_law 10) (hX : va_X b L9 xs s s.heap) (hbl : b < s.heap.size) (hbA : ¬ kA E b) (hi1 : vp_in (l5 + 1) L9) (hi2 : vp_in (l5 + 2) L9) (hi3 : vp_in (l5 + 3) L9) (hi4 : vp_in (l5 + 4) L9) (hi5 : vp_in (l5 + 5) L9) (hRk : k0 + 8 ≤ room_1.cells) (hRn : n0 + 48 ≤ room_1.slots) (g0 : hp x = some (.inr (10, [.ref (x + 126), .ref (x + 128), .ref (x + 1), .ref (x + 3), .ref (x + 16), .ref (x + 18), .ref (x + 124), .ref (x + 125)]))) (g1 : hp (x + 1) = some (.inr (8, [.ref (x + 2), .int otl]))) (g2 : hp (x + 2) = some (.inl (kC E 0, 900, .inl otb))) (g3 : hp (x + 3) = some (.inr (2, [.ref (x + 4), .ref (x + 7), .ref (x + 10), .ref (x + 13), .int sd, .int mn, .int th]))) (g7 : hp (x + 7) = some (.inr (7, [.ref (x + 8), .ref (x + 9), .int pc]))) (g10 : hp (x + 10) = some (.inr (4, [.ref (x + 11), .ref (x + 12), .int tc]))) (g11 : hp (x + 11) = some (.inl (kC E 0, 300, .inl en))) (g39 : hp y = some (.inr (11, [.ref (y + 1), .ref (y + 2), .ref (y + 3), .ref (y + 4), .ref (y + 5), .int m_undoable, .int m_undoStart, .int m_thrown, .ref (y + 6), .int m_oftenAll, .ref (y + 7), .int m_inputLength, .int m_position, .int m_start, .int m_token, .int m_value, .int m_letters, .int m_code, .int m_place, .ref (y + 8), .int m_outputLength]))) (g40 : hp (y + 1) = some (.inl (kC E 0, 1399, .inl m_s))) (g47 : hp (y + 8) = some (.inl (kC E 3, 1000, .inl m_output))) (g48 : hp o = some (.inl (kC E 1, 1, .inr (.inl ov)))) (hz0 : (x + 12) ≤ y ∨ (y + 9) ≤ x) (hz1 : (x + 12) ≤ o ∨ (o + 1) ≤ x) (hz2 : (y + 9) ≤ o ∨ (o + 1) ≤ y) (h : f_W58 N xs l5 pc tc en m_s otl otb m_thrown m_outputLength m_output ov = some out) (K : ∀ {hp' : Hp}, hp' (x + 1) = some (.inr (8, [.ref (x + 2), .int out.1])) → hp' (x + 2) = some (.inl (kC E 0, 900, .inl out.2.1)) → hp' y = some (.inr (11, [.ref (y + 1), .ref (y + 2), .ref (y + 3), .ref (y + 4), .ref (y + 5), .int m_undoable, .int m_undoStart, .int out.2.2.1, .ref (y + 6), .int m_oftenAll, .ref (y + 7), .int m_inputLength, .int m_position, .int m_start, .int m_token, .int m_value, .int m_letters, .int m_code, .int m_place, .ref (y + 8), .int out.2.2.2.1])) → hp' (y + 8) = some (.inl (kC E 3, 1000, .inl out.2.2.2.2.1)) → hp' o = some (.inl (kC E 1, 1, .inr (.inl out.2.2.2.2.2))) → (∀ q, q ≠ (x + 1) → q ≠ (x + 2) → q ≠ y → q ≠ (y + 8) → q ≠ o → hp' q = hp q) → AW E p l e room_1 s m #[Value.ref b] below meth c 10 Q hp' none (k0 + 8) (n0 + 48) 3407 [(0, .ref b), (1, .ref x), (2, .ref y), (3, .ref o), (4, .ref od), (5, .int l5)] []) : AW E p l e room_1 s m #[Value.ref b] below meth c 10 Q hp none (k0 + 0) (n0 + 0) 3126 [(0, .ref b), (1, .ref x), (2, .ref y), (3, .ref o), (4, .ref od), (5, .int l5)] [] := by
  unfold f_W58 at h
  refine A_aload_n X dL_law_3126 1 rfl ?_
  refine A_aload_n X dL_law_3127 0 rfl ?_
  refine A_iload X dL_law_3128 5 rfl ?_
  refine A_iconst (v := 1) X dL_law_3130 (by decide) ?_
  refine A_iadd X dL_law_3131 ?_
  refine A_sld X hX hbl hbA hi1 dL_law_3132 ?_
  refine A_aload_n X dL_law_3133 3 rfl ?_
  obtain ⟨t1, hct1, h⟩ := bind_o h
  refine A_cX (k' := (k0 + 1)) (n' := (n0 + 6)) rfl rfl (A_runSH (rest := []) X dL_law_3134 (c_L_writeFaces g0 g1 g2 g3 g7 g10 g11 g48 (by omega) hct1) kY_L_writeFaces kw_1357 ⟨(Nat.le_of_ble_eq_true rfl), (Nat.le_of_ble_eq_true rfl), kb rfl hRk, kb rfl hRn⟩ rfl (Nat.le_of_ble_eq_true rfl)) (fun C hp1 hP => hP.elim) (fun v9 hp1 al9 hP => ?_)
  obtain ⟨rfl, k1_0, k1_1, k1_2, n1, rfl⟩ := hP
  replace k1_0 : hp1 (x + 1) = some (.inr (8, [.ref (x + 2), .int t1.2.1])) := k1_0
  replace k1_1 : hp1 (x + 2) = some (.inl (kC E 0, 900, .inl t1.2.2.1)) := k1_1
  replace k1_2 : hp1 o = some (.inl (kC E 1, 1, .inr (.inl t1.2.2.2))) := k1_2
  refine A_st (st' := [.int t1.1]) rfl ?_
  refine A_istore (L' := [(6, .int t1.1), (0, .ref b), (1, .ref x), (2, .ref y), (3, .ref o), (4, .ref od), (5, .int l5)]) X dL_law_3137 (by decide) rfl ?_
  refine A_aload_n X dL_law_3139 3 rfl ?_
  refine A_aload_n X dL_law_3140 1 rfl ?_
  refine A_iload X dL_law_3141 6 rfl ?_
  refine A_iconst (v := 1) X dL_law_3143 (by decide) ?_
  refine A_iadd X dL_law_3144 ?_
  refine A_sld X hX hbl hbA hi1 dL_law_3145 ?_
  obtain ⟨t2, hct2, h⟩ := bind_o h
  refine A_c (k' := (k0 + 1)) (n' := (n0 + 6)) rfl rfl (A_runV (rest := []) X dL_law_3146 (c_X11_writeFaces ((n1 _ (by omega) (by omega) (by omega)).trans g39) ((n1 _ (by omega) (by omega) (by omega)).trans g40) ((n1 _ (by omega) (by omega) (by omega)).trans g47)  hct2) kY_X11_writeFaces kw_1999 ((n1 _ (by omega) (by omega) (by omega)).trans g39) rfl rfl ⟨(Nat.le_of_ble_eq_true rfl), (Nat.le_of_ble_eq_true rfl), kb rfl hRk, kb rfl hRn⟩ rfl (Nat.le_of_ble_eq_true rfl)) (fun v9 hp2 al9 hP => ?_)
  obtain ⟨rfl, k2_0, k2_1, n2, rfl⟩ := hP
  replace k2_0 : hp2 y = some (.inr (11, [.ref (y + 1), .ref (y + 2), .ref (y + 3), .ref (y + 4), .ref (y + 5), .int m_undoable, .int m_undoStart, .int t2.2.1, .ref (y + 6), .int m_oftenAll, .ref (y + 7), .int m_inputLength, .int m_position, .int m_start, .int m_token, .int m_value, .int m_letters, .int m_code, .int m_place, .ref (y + 8), .int t2.2.2.1])) := k2_0
  replace k2_1 : hp2 (y + 8) = some (.inl (kC E 3, 1000, .inl t2.2.2.2)) := k2_1
  refine A_st (st' := [.int t2.1]) rfl ?_
  refine A_istore (L' := [(7, .int t2.1), (6, .int t1.1), (0, .ref b), (1, .ref x), (2, .ref y), (3, .ref o), (4, .ref od), (5, .int l5)]) X dL_law_3149 (by decide) rfl ?_
  refine A_aload_n X dL_law_3151 4 rfl ?_
  obtain ⟨t3, hct3, h⟩ := bind_o h
  refine A_cp (k' := (k0 + 1)) (n' := (n0 + 6)) (A_runV (rest := []) X dL_law_3152 (c_X11_thrown k2_0  hct3) kY_X11_thrown kw_1668 k2_0 rfl rfl ⟨(Nat.le_of_ble_eq_true rfl), (Nat.le_of_ble_eq_true rfl), kb rfl hRk, kb rfl hRn⟩ rfl (Nat.le_of_ble_eq_true rfl)) rfl rfl ?_
  refine A_iload X dL_law_3155 1 rfl ?_
  refine A_icmp_eq (tgt := 3162) X dL_law_3157 h (by decide) (fun hc h => ?_) (fun hc h => ?_)
  · refine A_iload X dL_law_3162 1 rfl ?_
    refine A_if_ne (tgt := 3179) X dL_law_3164 h (by decide) (fun hc h => ?_) (fun hc h => ?_)
    · refine A_goto (tgt := 3407) X dL_law_3179 (by decide) ?_
      cases h
      refine A_sub (L' := [(0, .ref b), (1, .ref x), (2, .ref y), (3, .ref o), (4, .ref od), (5, .int l5)]) [2, 3, 4, 5, 6, 7] rfl ?_
      refine A_widen (k' := (k0 + 8)) (n' := (n0 + 48)) (by omega) (by omega) ?_
      exact K ((n2 _ (by omega) (by omega)).trans k1_0) ((n2 _ (by omega) (by omega)).trans k1_1) k2_0 k2_1 ((n2 _ (by omega) (by omega)).trans k1_2) (fun q z0 z1 z2 z3 z4 => ((n2 q z2 z3).trans (n1 q z0 z1 z4)))
    · refine A_aload_n X dL_law_3167 5 rfl ?_
      refine A_iconst (v := 0) X dL_law_3168 (by decide) ?_
      refine A_lald X dL_law_3169 ((n2 _ (by omega) (by omega)).trans k1_2) (by decide) ?_
      refine A_iload X dL_law_3170 0 rfl ?_
      refine A_i2l X dL_law_3172 ?_
      refine A_lcmp X dL_law_3173 ?_
      refine A_if_eq (tgt := 3179) X dL_law_3174 h (by decide) (fun hc h => ?_) (fun hc h => ?_)
      · refine A_goto (tgt := 3407) X dL_law_3179 (by decide) ?_
        cases h
        refine A_sub (L' := [(0, .ref b), (1, .ref x), (2, .ref y), (3, .ref o), (4, .ref od), (5, .int l5)]) [2, 3, 4, 5, 6, 7] rfl ?_
        refine A_widen (k' := (k0 + 8)) (n' := (n0 + 48)) (by omega) (by omega) ?_
        exact K ((n2 _ (by omega) (by omega)).trans k1_0) ((n2 _ (by omega) (by omega)).trans k1_1) k2_0 k2_1 ((n2 _ (by omega) (by omega)).trans k1_2) (fun q z0 z1 z2 z3 z4 => ((n2 q z2 z3).trans (n1 q z0 z1 z4)))
      · refine A_iconst (v := 0) X dL_law_3177 (by decide) ?_
        cases h
  · refine A_iconst (v := 0) X dL_law_3160 (by decide) ?_
    cases h
set_option maxHeartbeats 8000000 in
set_option maxRecDepth 100000 in
theorem c_W59 {E : KE} {p : Program} {l : Launch} {e : Env} {s : State} {m : MethodId} {b L9 : Nat} {xs : Nat → Int32} {below : List Frame} {meth : Method} {c : Code} {hp : Hp} {k0 n0 : Nat} {Q : State → Prop} {x : Nat} {y : Nat} {o : Nat} {od : Nat} {otl : Int32} {otb : Nat → Int32} {m_undoable : Int32} {m_undoStart : Int32} {m_thrown : Int32} {m_oftenAll : Int32} {m_inputLength : Int32} {m_position : Int32} {m_start : Int32} {m_token : Int32} {m_value : Int32} {m_letters : Int32} {m_code : Int32} {m_place : Int32} {m_outputLength : Int32} {m_output : Nat → Int32} {ov : Nat → Int64} {l5 : Int32} {out : Int32 × (Nat → Int64)} (X : CX E p l s m #[Value.ref b] meth c "DiceAuditLaw" cL_law 10) (hX : va_X b L9 xs s s.heap) (hbl : b < s.heap.size) (hbA : ¬ kA E b) (hi1 : vp_in (l5 + 1) L9) (hi2 : vp_in (l5 + 2) L9) (hi3 : vp_in (l5 + 3) L9) (hi4 : vp_in (l5 + 4) L9) (hi5 : vp_in (l5 + 5) L9) (hRk : k0 + 8 ≤ room_1.cells) (hRn : n0 + 48 ≤ room_1.slots) (g0 : hp x = some (.inr (10, [.ref (x + 126), .ref (x + 128), .ref (x + 1), .ref (x + 3), .ref (x + 16), .ref (x + 18), .ref (x + 124), .ref (x + 125)]))) (g1 : hp (x + 1) = some (.inr (8, [.ref (x + 2), .int otl]))) (g2 : hp (x + 2) = some (.inl (kC E 0, 900, .inl otb))) (g39 : hp y = some (.inr (11, [.ref (y + 1), .ref (y + 2), .ref (y + 3), .ref (y + 4), .ref (y + 5), .int m_undoable, .int m_undoStart, .int m_thrown, .ref (y + 6), .int m_oftenAll, .ref (y + 7), .int m_inputLength, .int m_position, .int m_start, .int m_token, .int m_value, .int m_letters, .int m_code, .int m_place, .ref (y + 8), .int m_outputLength]))) (g47 : hp (y + 8) = some (.inl (kC E 3, 1000, .inl m_output))) (g48 : hp o = some (.inl (kC E 1, 1, .inr (.inl ov)))) (hz0 : (x + 3) ≤ y ∨ (y + 9) ≤ x) (hz1 : (x + 3) ≤ o ∨ (o + 1) ≤ x) (hz2 : (y + 9) ≤ o ∨ (o + 1) ≤ y) (h : f_W59 xs l5 otl otb m_outputLength m_output m_thrown ov = some out) (K : ∀ {hp' : Hp}, hp' y = some (.inr (11, [.ref (y + 1), .ref (y + 2), .ref (y + 3), .ref (y + 4), .ref (y + 5), .int m_undoable, .int m_undoStart, .int out.1, .ref (y + 6), .int m_oftenAll, .ref (y + 7), .int m_inputLength, .int m_position, .int m_start, .int m_token, .int m_value, .int m_letters, .int m_code, .int m_place, .ref (y + 8), .int m_outputLength])) → hp' o = some (.inl (kC E 1, 1, .inr (.inl out.2))) → (∀ q, q ≠ y → q ≠ o → hp' q = hp q) → AW E p l e room_1 s m #[Value.ref b] below meth c 10 Q hp' none (k0 + 8) (n0 + 48) 3407 [(0, .ref b), (1, .ref x), (2, .ref y), (3, .ref o), (4, .ref od), (5, .int l5)] []) : AW E p l e room_1 s m #[Value.ref b] below meth c 10 Q hp none (k0 + 0) (n0 + 0) 3182 [(0, .ref b), (1, .ref x), (2, .ref y), (3, .ref o), (4, .ref od), (5, .int l5)] [] := by
  unfold f_W59 at h
  refine A_aload_n X dL_law_3182 1 rfl ?_
  refine A_aload_n X dL_law_3183 0 rfl ?_
  refine A_iload X dL_law_3184 5 rfl ?_
  refine A_iconst (v := 1) X dL_law_3186 (by decide) ?_
  refine A_iadd X dL_law_3187 ?_
  refine A_sld X hX hbl hbA hi1 dL_law_3188 ?_
  refine A_aload_n X dL_law_3189 3 rfl ?_
  obtain ⟨t1, hct1, h⟩ := bind_o h
  refine A_cX (k' := (k0 + 1)) (n' := (n0 + 6)) rfl rfl (A_runSH (rest := []) X dL_law_3190 (c_L_outputByte g0 g1 g2 g48 (by omega) hct1) kY_L_outputByte kw_1364 ⟨(Nat.le_of_ble_eq_true rfl), (Nat.le_of_ble_eq_true rfl), kb rfl hRk, kb rfl hRn⟩ rfl (Nat.le_of_ble_eq_true rfl)) (fun C hp1 hP => hP.elim) (fun v9 hp1 al9 hP => ?_)
  obtain ⟨rfl, k1_0, n1, rfl⟩ := hP
  replace k1_0 : hp1 o = some (.inl (kC E 1, 1, .inr (.inl t1.2))) := k1_0
  refine A_st (st' := [.int t1.1]) rfl ?_
  refine A_istore (L' := [(6, .int t1.1), (0, .ref b), (1, .ref x), (2, .ref y), (3, .ref o), (4, .ref od), (5, .int l5)]) X dL_law_3193 (by decide) rfl ?_
  refine A_aload_n X dL_law_3195 3 rfl ?_
  refine A_aload_n X dL_law_3196 1 rfl ?_
  refine A_iload X dL_law_3197 6 rfl ?_
  refine A_iconst (v := 1) X dL_law_3199 (by decide) ?_
  refine A_iadd X dL_law_3200 ?_
  refine A_sld X hX hbl hbA hi1 dL_law_3201 ?_
  obtain ⟨t2, hct2, h⟩ := bind_o h
  refine A_c (k' := (k0 + 1)) (n' := (n0 + 6)) rfl rfl (A_runV (rest := []) X dL_law_3202 (c_X11_outputByte ((n1 _ (by omega)).trans g39) ((n1 _ (by omega)).trans g47)  hct2) kY_X11_outputByte kw_2003 ((n1 _ (by omega)).trans g39) rfl rfl ⟨(Nat.le_of_ble_eq_true rfl), (Nat.le_of_ble_eq_true rfl), kb rfl hRk, kb rfl hRn⟩ rfl (Nat.le_of_ble_eq_true rfl)) (fun v9 hp2 al9 hP => ?_)
  obtain ⟨rfl, k2_0, n2, rfl⟩ := hP
  replace k2_0 : hp2 y = some (.inr (11, [.ref (y + 1), .ref (y + 2), .ref (y + 3), .ref (y + 4), .ref (y + 5), .int m_undoable, .int m_undoStart, .int t2.2, .ref (y + 6), .int m_oftenAll, .ref (y + 7), .int m_inputLength, .int m_position, .int m_start, .int m_token, .int m_value, .int m_letters, .int m_code, .int m_place, .ref (y + 8), .int m_outputLength])) := k2_0
  refine A_st (st' := [.int t2.1]) rfl ?_
  refine A_istore (L' := [(7, .int t2.1), (6, .int t1.1), (0, .ref b), (1, .ref x), (2, .ref y), (3, .ref o), (4, .ref od), (5, .int l5)]) X dL_law_3205 (by decide) rfl ?_
  refine A_aload_n X dL_law_3207 4 rfl ?_
  obtain ⟨t3, hct3, h⟩ := bind_o h
  refine A_cp (k' := (k0 + 1)) (n' := (n0 + 6)) (A_runV (rest := []) X dL_law_3208 (c_X11_thrown k2_0  hct3) kY_X11_thrown kw_1668 k2_0 rfl rfl ⟨(Nat.le_of_ble_eq_true rfl), (Nat.le_of_ble_eq_true rfl), kb rfl hRk, kb rfl hRn⟩ rfl (Nat.le_of_ble_eq_true rfl)) rfl rfl ?_
  refine A_iload X dL_law_3211 1 rfl ?_
  refine A_icmp_eq (tgt := 3218) X dL_law_3213 h (by decide) (fun hc h => ?_) (fun hc h => ?_)
  · refine A_iload X dL_law_3218 1 rfl ?_
    refine A_if_ne (tgt := 3235) X dL_law_3220 h (by decide) (fun hc h => ?_) (fun hc h => ?_)
    · refine A_goto (tgt := 3407) X dL_law_3235 (by decide) ?_
      cases h
      refine A_sub (L' := [(0, .ref b), (1, .ref x), (2, .ref y), (3, .ref o), (4, .ref od), (5, .int l5)]) [2, 3, 4, 5, 6, 7] rfl ?_
      refine A_widen (k' := (k0 + 8)) (n' := (n0 + 48)) (by omega) (by omega) ?_
      exact K k2_0 ((n2 _ (by omega)).trans k1_0) (fun q z0 z1 => ((n2 q z0).trans (n1 q z1)))
    · refine A_aload_n X dL_law_3223 5 rfl ?_
      refine A_iconst (v := 0) X dL_law_3224 (by decide) ?_
      refine A_lald X dL_law_3225 ((n2 _ (by omega)).trans k1_0) (by decide) ?_
      refine A_iload X dL_law_3226 0 rfl ?_
      refine A_i2l X dL_law_3228 ?_
      refine A_lcmp X dL_law_3229 ?_
      refine A_if_eq (tgt := 3235) X dL_law_3230 h (by decide) (fun hc h => ?_) (fun hc h => ?_)
      · refine A_goto (tgt := 3407) X dL_law_3235 (by decide) ?_
        cases h
        refine A_sub (L' := [(0, .ref b), (1, .ref x), (2, .ref y), (3, .ref o), (4, .ref od), (5, .int l5)]) [2, 3, 4, 5, 6, 7] rfl ?_
        refine A_widen (k' := (k0 + 8)) (n' := (n0 + 48)) (by omega) (by omega) ?_
        exact K k2_0 ((n2 _ (by omega)).trans k1_0) (fun q z0 z1 => ((n2 q z0).trans (n1 q z1)))
      · refine A_iconst (v := 0) X dL_law_3233 (by decide) ?_
        cases h
  · refine A_iconst (v := 0) X dL_law_3216 (by decide) ?_
    cases h
set_option maxHeartbeats 8000000 in
set_option maxRecDepth 100000 in
theorem c_W60 {E : KE} {p : Program} {l : Launch} {e : Env} {s : State} {m : MethodId} {b L9 : Nat} {xs : Nat → Int32} {below : List Frame} {meth : Method} {c : Code} {hp : Hp} {k0 n0 : Nat} {Q : State → Prop} {N : Nat} {x : Nat} {y : Nat} {o : Nat} {od : Nat} {w : Nat} {sd : Int32} {mn : Int32} {th : Int32} {dc : Int32} {fc : Nat → Int32} {dw : Nat → Int32} {pc : Int32} {ln : Nat → Int32} {lt : Nat → Int32} {tc : Int32} {en : Nat → Int32} {fr : Nat → Int32} {oc : Int32} {op : Nat → Int32} {os : Nat → Int32} {srw : Nat → Option Nat} {su : Nat → Int32} {m_undoable : Int32} {m_undoStart : Int32} {m_thrown : Int32} {m_oftenAll : Int32} {m_inputLength : Int32} {m_position : Int32} {m_start : Int32} {m_token : Int32} {m_value : Int32} {m_letters : Int32} {m_code : Int32} {m_place : Int32} {m_outputLength : Int32} {m_s : Nat → Int32} {m_slots : Nat → Int32} {m_kept : Nat → Int32} {ov : Nat → Int64} {w_sd : Int32} {w_mn : Int32} {w_th : Int32} {w_dc : Int32} {w_fc : Nat → Int32} {w_dw : Nat → Int32} {w_pc : Int32} {w_ln : Nat → Int32} {w_lt : Nat → Int32} {w_tc : Int32} {w_en : Nat → Int32} {w_fr : Nat → Int32} {w_oc : Int32} {w_op : Nat → Int32} {w_os : Nat → Int32} {l5 : Int32} {out : (Nat → Int32) × Int32 × (Nat → Int32) × (Nat → Int32) × (Nat → Int64) × Int32 × Int32 × Int32 × Int32 × (Nat → Int32) × (Nat → Int32) × Int32 × (Nat → Int32) × (Nat → Int32) × Int32 × (Nat → Int32) × (Nat → Int32) × Int32 × (Nat → Int32) × (Nat → Int32)} (X : CX E p l s m #[Value.ref b] meth c "DiceAuditLaw" cL_law 10) (hX : va_X b L9 xs s s.heap) (hbl : b < s.heap.size) (hbA : ¬ kA E b) (hi1 : vp_in (l5 + 1) L9) (hi2 : vp_in (l5 + 2) L9) (hi3 : vp_in (l5 + 3) L9) (hi4 : vp_in (l5 + 4) L9) (hi5 : vp_in (l5 + 5) L9) (hRk : k0 + 8 ≤ room_1.cells) (hRn : n0 + 48 ≤ room_1.slots) (g0 : hp x = some (.inr (10, [.ref (x + 126), .ref (x + 128), .ref (x + 1), .ref (x + 3), .ref (x + 16), .ref (x + 18), .ref (x + 124), .ref (x + 125)]))) (g3 : hp (x + 3) = some (.inr (2, [.ref (x + 4), .ref (x + 7), .ref (x + 10), .ref (x + 13), .int sd, .int mn, .int th]))) (g4 : hp (x + 4) = some (.inr (0, [.ref (x + 5), .ref (x + 6), .int dc]))) (g5 : hp (x + 5) = some (.inl (kC E 0, 6, .inl fc))) (g6 : hp (x + 6) = some (.inl (kC E 0, 72, .inl dw))) (g7 : hp (x + 7) = some (.inr (7, [.ref (x + 8), .ref (x + 9), .int pc]))) (g8 : hp (x + 8) = some (.inl (kC E 0, 6, .inl ln))) (g9 : hp (x + 9) = some (.inl (kC E 0, 24, .inl lt))) (g10 : hp (x + 10) = some (.inr (4, [.ref (x + 11), .ref (x + 12), .int tc]))) (g11 : hp (x + 11) = some (.inl (kC E 0, 300, .inl en))) (g12 : hp (x + 12) = some (.inl (kC E 0, 432, .inl fr))) (g13 : hp (x + 13) = some (.inr (6, [.ref (x + 14), .ref (x + 15), .int oc]))) (g14 : hp (x + 14) = some (.inl (kC E 0, 36, .inl op))) (g15 : hp (x + 15) = some (.inl (kC E 0, 36, .inl os))) (g20 : hp (x + 124) = some (.inl (kC E 5, 2, .inr (.inr (.inr (.inr srw)))))) (g21 : hp (x + 125) = some (.inl (kC E 0, 2, .inl su))) (g39 : hp y = some (.inr (11, [.ref (y + 1), .ref (y + 2), .ref (y + 3), .ref (y + 4), .ref (y + 5), .int m_undoable, .int m_undoStart, .int m_thrown, .ref (y + 6), .int m_oftenAll, .ref (y + 7), .int m_inputLength, .int m_position, .int m_start, .int m_token, .int m_value, .int m_letters, .int m_code, .int m_place, .ref (y + 8), .int m_outputLength]))) (g40 : hp (y + 1) = some (.inl (kC E 0, 1399, .inl m_s))) (g43 : hp (y + 4) = some (.inl (kC E 0, 2798, .inl m_slots))) (g44 : hp (y + 5) = some (.inl (kC E 4, 2, .inl m_kept))) (g48 : hp o = some (.inl (kC E 1, 1, .inr (.inl ov)))) (g50 : hp w = some (.inr (2, [.ref (w + 1), .ref (w + 4), .ref (w + 7), .ref (w + 10), .int w_sd, .int w_mn, .int w_th]))) (g51 : hp (w + 1) = some (.inr (0, [.ref (w + 2), .ref (w + 3), .int w_dc]))) (g52 : hp (w + 2) = some (.inl (kC E 0, 6, .inl w_fc))) (g53 : hp (w + 3) = some (.inl (kC E 0, 72, .inl w_dw))) (g54 : hp (w + 4) = some (.inr (7, [.ref (w + 5), .ref (w + 6), .int w_pc]))) (g55 : hp (w + 5) = some (.inl (kC E 0, 6, .inl w_ln))) (g56 : hp (w + 6) = some (.inl (kC E 0, 24, .inl w_lt))) (g57 : hp (w + 7) = some (.inr (4, [.ref (w + 8), .ref (w + 9), .int w_tc]))) (g58 : hp (w + 8) = some (.inl (kC E 0, 300, .inl w_en))) (g59 : hp (w + 9) = some (.inl (kC E 0, 432, .inl w_fr))) (g60 : hp (w + 10) = some (.inr (6, [.ref (w + 11), .ref (w + 12), .int w_oc]))) (g61 : hp (w + 11) = some (.inl (kC E 0, 36, .inl w_op))) (g62 : hp (w + 12) = some (.inl (kC E 0, 36, .inl w_os))) (hvw : srw (Int32.toNatClampNeg (xs (Int32.toNatClampNeg (l5 + 1)))) = some w) (hlw : (x + 143) ≤ w) (huw : (w + 13) ≤ (x + 169)) (hz3 : (x + 126) ≤ y ∨ (y + 6) ≤ x) (hz4 : (x + 126) ≤ o ∨ (o + 1) ≤ x) (hz5 : (y + 6) ≤ o ∨ (o + 1) ≤ y) (hz6 : (y + 6) ≤ w ∨ (w + 13) ≤ y) (hz7 : (o + 1) ≤ w ∨ (w + 13) ≤ o) (h : f_W60 N xs l5 sd mn th dc fc dw pc ln lt tc en fr oc op os m_s su m_thrown m_slots m_kept ov w_sd w_mn w_th w_dc w_fc w_dw w_pc w_ln w_lt w_tc w_en w_fr w_oc w_op w_os = some out) (K : ∀ {hp' : Hp}, hp' (x + 125) = some (.inl (kC E 0, 2, .inl out.1)) → hp' y = some (.inr (11, [.ref (y + 1), .ref (y + 2), .ref (y + 3), .ref (y + 4), .ref (y + 5), .int m_undoable, .int m_undoStart, .int out.2.1, .ref (y + 6), .int m_oftenAll, .ref (y + 7), .int m_inputLength, .int m_position, .int m_start, .int m_token, .int m_value, .int m_letters, .int m_code, .int m_place, .ref (y + 8), .int m_outputLength])) → hp' (y + 4) = some (.inl (kC E 0, 2798, .inl out.2.2.1)) → hp' (y + 5) = some (.inl (kC E 4, 2, .inl out.2.2.2.1)) → hp' o = some (.inl (kC E 1, 1, .inr (.inl out.2.2.2.2.1))) → hp' w = some (.inr (2, [.ref (w + 1), .ref (w + 4), .ref (w + 7), .ref (w + 10), .int out.2.2.2.2.2.1, .int out.2.2.2.2.2.2.1, .int out.2.2.2.2.2.2.2.1])) → hp' (w + 1) = some (.inr (0, [.ref (w + 2), .ref (w + 3), .int out.2.2.2.2.2.2.2.2.1])) → hp' (w + 2) = some (.inl (kC E 0, 6, .inl out.2.2.2.2.2.2.2.2.2.1)) → hp' (w + 3) = some (.inl (kC E 0, 72, .inl out.2.2.2.2.2.2.2.2.2.2.1)) → hp' (w + 4) = some (.inr (7, [.ref (w + 5), .ref (w + 6), .int out.2.2.2.2.2.2.2.2.2.2.2.1])) → hp' (w + 5) = some (.inl (kC E 0, 6, .inl out.2.2.2.2.2.2.2.2.2.2.2.2.1)) → hp' (w + 6) = some (.inl (kC E 0, 24, .inl out.2.2.2.2.2.2.2.2.2.2.2.2.2.1)) → hp' (w + 7) = some (.inr (4, [.ref (w + 8), .ref (w + 9), .int out.2.2.2.2.2.2.2.2.2.2.2.2.2.2.1])) → hp' (w + 8) = some (.inl (kC E 0, 300, .inl out.2.2.2.2.2.2.2.2.2.2.2.2.2.2.2.1)) → hp' (w + 9) = some (.inl (kC E 0, 432, .inl out.2.2.2.2.2.2.2.2.2.2.2.2.2.2.2.2.1)) → hp' (w + 10) = some (.inr (6, [.ref (w + 11), .ref (w + 12), .int out.2.2.2.2.2.2.2.2.2.2.2.2.2.2.2.2.2.1])) → hp' (w + 11) = some (.inl (kC E 0, 36, .inl out.2.2.2.2.2.2.2.2.2.2.2.2.2.2.2.2.2.2.1)) → hp' (w + 12) = some (.inl (kC E 0, 36, .inl out.2.2.2.2.2.2.2.2.2.2.2.2.2.2.2.2.2.2.2)) → (∀ q, q ≠ (x + 125) → q ≠ y → q ≠ (y + 4) → q ≠ (y + 5) → q ≠ o → q ≠ w → q ≠ (w + 1) → q ≠ (w + 2) → q ≠ (w + 3) → q ≠ (w + 4) → q ≠ (w + 5) → q ≠ (w + 6) → q ≠ (w + 7) → q ≠ (w + 8) → q ≠ (w + 9) → q ≠ (w + 10) → q ≠ (w + 11) → q ≠ (w + 12) → hp' q = hp q) → AW E p l e room_1 s m #[Value.ref b] below meth c 10 Q hp' none (k0 + 8) (n0 + 48) 3407 [(0, .ref b), (1, .ref x), (2, .ref y), (3, .ref o), (4, .ref od), (5, .int l5)] []) : AW E p l e room_1 s m #[Value.ref b] below meth c 10 Q hp none (k0 + 0) (n0 + 0) 3238 [(0, .ref b), (1, .ref x), (2, .ref y), (3, .ref o), (4, .ref od), (5, .int l5)] [] := by
  unfold f_W60 at h
  refine A_aload_n X dL_law_3238 1 rfl ?_
  refine A_aload_n X dL_law_3239 0 rfl ?_
  refine A_iload X dL_law_3240 5 rfl ?_
  refine A_iconst (v := 1) X dL_law_3242 (by decide) ?_
  refine A_iadd X dL_law_3243 ?_
  refine A_sld X hX hbl hbA hi1 dL_law_3244 ?_
  refine A_aload_n X dL_law_3245 3 rfl ?_
  obtain ⟨t1, hct1, h⟩ := bind_o h
  refine A_cX (k' := (k0 + 1)) (n' := (n0 + 6)) rfl rfl (A_runSH (rest := []) X dL_law_3246 (c_L_save g0 g3 g4 g5 g6 g7 g8 g9 g10 g11 g12 g13 g14 g15 g20 g21 g48 g50 g51 g52 g53 g54 g55 g56 g57 g58 g59 g60 g61 g62 hvw (by omega) (by omega) (by omega) (by omega) hct1) kY_L_save kw_1373 ⟨(Nat.le_of_ble_eq_true rfl), (Nat.le_of_ble_eq_true rfl), kb rfl hRk, kb rfl hRn⟩ rfl (Nat.le_of_ble_eq_true rfl)) (fun C hp1 hP => hP.elim) (fun v9 hp1 al9 hP => ?_)
  obtain ⟨rfl, k1_0, k1_1, k1_2, k1_3, k1_4, k1_5, k1_6, k1_7, k1_8, k1_9, k1_10, k1_11, k1_12, k1_13, k1_14, n1, rfl⟩ := hP
  replace k1_0 : hp1 (x + 125) = some (.inl (kC E 0, 2, .inl t1.2.1)) := k1_0
  replace k1_1 : hp1 o = some (.inl (kC E 1, 1, .inr (.inl t1.2.2.1))) := k1_1
  replace k1_2 : hp1 w = some (.inr (2, [.ref (w + 1), .ref (w + 4), .ref (w + 7), .ref (w + 10), .int t1.2.2.2.1, .int t1.2.2.2.2.1, .int t1.2.2.2.2.2.1])) := k1_2
  replace k1_3 : hp1 (w + 1) = some (.inr (0, [.ref (w + 2), .ref (w + 3), .int t1.2.2.2.2.2.2.1])) := k1_3
  replace k1_4 : hp1 (w + 2) = some (.inl (kC E 0, 6, .inl t1.2.2.2.2.2.2.2.1)) := k1_4
  replace k1_5 : hp1 (w + 3) = some (.inl (kC E 0, 72, .inl t1.2.2.2.2.2.2.2.2.1)) := k1_5
  replace k1_6 : hp1 (w + 4) = some (.inr (7, [.ref (w + 5), .ref (w + 6), .int t1.2.2.2.2.2.2.2.2.2.1])) := k1_6
  replace k1_7 : hp1 (w + 5) = some (.inl (kC E 0, 6, .inl t1.2.2.2.2.2.2.2.2.2.2.1)) := k1_7
  replace k1_8 : hp1 (w + 6) = some (.inl (kC E 0, 24, .inl t1.2.2.2.2.2.2.2.2.2.2.2.1)) := k1_8
  replace k1_9 : hp1 (w + 7) = some (.inr (4, [.ref (w + 8), .ref (w + 9), .int t1.2.2.2.2.2.2.2.2.2.2.2.2.1])) := k1_9
  replace k1_10 : hp1 (w + 8) = some (.inl (kC E 0, 300, .inl t1.2.2.2.2.2.2.2.2.2.2.2.2.2.1)) := k1_10
  replace k1_11 : hp1 (w + 9) = some (.inl (kC E 0, 432, .inl t1.2.2.2.2.2.2.2.2.2.2.2.2.2.2.1)) := k1_11
  replace k1_12 : hp1 (w + 10) = some (.inr (6, [.ref (w + 11), .ref (w + 12), .int t1.2.2.2.2.2.2.2.2.2.2.2.2.2.2.2.1])) := k1_12
  replace k1_13 : hp1 (w + 11) = some (.inl (kC E 0, 36, .inl t1.2.2.2.2.2.2.2.2.2.2.2.2.2.2.2.2.1)) := k1_13
  replace k1_14 : hp1 (w + 12) = some (.inl (kC E 0, 36, .inl t1.2.2.2.2.2.2.2.2.2.2.2.2.2.2.2.2.2)) := k1_14
  refine A_st (st' := [.int t1.1]) rfl ?_
  refine A_istore (L' := [(6, .int t1.1), (0, .ref b), (1, .ref x), (2, .ref y), (3, .ref o), (4, .ref od), (5, .int l5)]) X dL_law_3249 (by decide) rfl ?_
  refine A_aload_n X dL_law_3251 3 rfl ?_
  refine A_aload_n X dL_law_3252 1 rfl ?_
  refine A_iload X dL_law_3253 6 rfl ?_
  refine A_iconst (v := 1) X dL_law_3255 (by decide) ?_
  refine A_iadd X dL_law_3256 ?_
  refine A_sld X hX hbl hbA hi1 dL_law_3257 ?_
  obtain ⟨t2, hct2, h⟩ := bind_o h
  refine A_c (k' := (k0 + 1)) (n' := (n0 + 6)) rfl rfl (A_runV (rest := []) X dL_law_3258 (c_X11_save ((n1 _ (by omega) (by omega) (by omega) (by omega) (by omega) (by omega) (by omega) (by omega) (by omega) (by omega) (by omega) (by omega) (by omega) (by omega) (by omega)).trans g39) ((n1 _ (by omega) (by omega) (by omega) (by omega) (by omega) (by omega) (by omega) (by omega) (by omega) (by omega) (by omega) (by omega) (by omega) (by omega) (by omega)).trans g40) ((n1 _ (by omega) (by omega) (by omega) (by omega) (by omega) (by omega) (by omega) (by omega) (by omega) (by omega) (by omega) (by omega) (by omega) (by omega) (by omega)).trans g43) ((n1 _ (by omega) (by omega) (by omega) (by omega) (by omega) (by omega) (by omega) (by omega) (by omega) (by omega) (by omega) (by omega) (by omega) (by omega) (by omega)).trans g44)  hct2) kY_X11_save kw_2007 ((n1 _ (by omega) (by omega) (by omega) (by omega) (by omega) (by omega) (by omega) (by omega) (by omega) (by omega) (by omega) (by omega) (by omega) (by omega) (by omega)).trans g39) rfl rfl ⟨(Nat.le_of_ble_eq_true rfl), (Nat.le_of_ble_eq_true rfl), kb rfl hRk, kb rfl hRn⟩ rfl (Nat.le_of_ble_eq_true rfl)) (fun v9 hp2 al9 hP => ?_)
  obtain ⟨rfl, k2_0, k2_1, k2_2, n2, rfl⟩ := hP
  replace k2_0 : hp2 y = some (.inr (11, [.ref (y + 1), .ref (y + 2), .ref (y + 3), .ref (y + 4), .ref (y + 5), .int m_undoable, .int m_undoStart, .int t2.2.1, .ref (y + 6), .int m_oftenAll, .ref (y + 7), .int m_inputLength, .int m_position, .int m_start, .int m_token, .int m_value, .int m_letters, .int m_code, .int m_place, .ref (y + 8), .int m_outputLength])) := k2_0
  replace k2_1 : hp2 (y + 4) = some (.inl (kC E 0, 2798, .inl t2.2.2.1)) := k2_1
  replace k2_2 : hp2 (y + 5) = some (.inl (kC E 4, 2, .inl t2.2.2.2)) := k2_2
  refine A_st (st' := [.int t2.1]) rfl ?_
  refine A_istore (L' := [(7, .int t2.1), (6, .int t1.1), (0, .ref b), (1, .ref x), (2, .ref y), (3, .ref o), (4, .ref od), (5, .int l5)]) X dL_law_3261 (by decide) rfl ?_
  refine A_aload_n X dL_law_3263 4 rfl ?_
  obtain ⟨t3, hct3, h⟩ := bind_o h
  refine A_cp (k' := (k0 + 1)) (n' := (n0 + 6)) (A_runV (rest := []) X dL_law_3264 (c_X11_thrown k2_0  hct3) kY_X11_thrown kw_1668 k2_0 rfl rfl ⟨(Nat.le_of_ble_eq_true rfl), (Nat.le_of_ble_eq_true rfl), kb rfl hRk, kb rfl hRn⟩ rfl (Nat.le_of_ble_eq_true rfl)) rfl rfl ?_
  refine A_iload X dL_law_3267 1 rfl ?_
  refine A_icmp_eq (tgt := 3274) X dL_law_3269 h (by decide) (fun hc h => ?_) (fun hc h => ?_)
  · refine A_iload X dL_law_3274 1 rfl ?_
    refine A_if_ne (tgt := 3291) X dL_law_3276 h (by decide) (fun hc h => ?_) (fun hc h => ?_)
    · refine A_goto (tgt := 3407) X dL_law_3291 (by decide) ?_
      cases h
      refine A_sub (L' := [(0, .ref b), (1, .ref x), (2, .ref y), (3, .ref o), (4, .ref od), (5, .int l5)]) [2, 3, 4, 5, 6, 7] rfl ?_
      refine A_widen (k' := (k0 + 8)) (n' := (n0 + 48)) (by omega) (by omega) ?_
      exact K ((n2 _ (by omega) (by omega) (by omega)).trans k1_0) k2_0 k2_1 k2_2 ((n2 _ (by omega) (by omega) (by omega)).trans k1_1) ((n2 _ (by omega) (by omega) (by omega)).trans k1_2) ((n2 _ (by omega) (by omega) (by omega)).trans k1_3) ((n2 _ (by omega) (by omega) (by omega)).trans k1_4) ((n2 _ (by omega) (by omega) (by omega)).trans k1_5) ((n2 _ (by omega) (by omega) (by omega)).trans k1_6) ((n2 _ (by omega) (by omega) (by omega)).trans k1_7) ((n2 _ (by omega) (by omega) (by omega)).trans k1_8) ((n2 _ (by omega) (by omega) (by omega)).trans k1_9) ((n2 _ (by omega) (by omega) (by omega)).trans k1_10) ((n2 _ (by omega) (by omega) (by omega)).trans k1_11) ((n2 _ (by omega) (by omega) (by omega)).trans k1_12) ((n2 _ (by omega) (by omega) (by omega)).trans k1_13) ((n2 _ (by omega) (by omega) (by omega)).trans k1_14) (fun q z0 z1 z2 z3 z4 z5 z6 z7 z8 z9 z10 z11 z12 z13 z14 z15 z16 z17 => ((n2 q z1 z2 z3).trans (n1 q z0 z4 z5 z6 z7 z8 z9 z10 z11 z12 z13 z14 z15 z16 z17)))
    · refine A_aload_n X dL_law_3279 5 rfl ?_
      refine A_iconst (v := 0) X dL_law_3280 (by decide) ?_
      refine A_lald X dL_law_3281 ((n2 _ (by omega) (by omega) (by omega)).trans k1_1) (by decide) ?_
      refine A_iload X dL_law_3282 0 rfl ?_
      refine A_i2l X dL_law_3284 ?_
      refine A_lcmp X dL_law_3285 ?_
      refine A_if_eq (tgt := 3291) X dL_law_3286 h (by decide) (fun hc h => ?_) (fun hc h => ?_)
      · refine A_goto (tgt := 3407) X dL_law_3291 (by decide) ?_
        cases h
        refine A_sub (L' := [(0, .ref b), (1, .ref x), (2, .ref y), (3, .ref o), (4, .ref od), (5, .int l5)]) [2, 3, 4, 5, 6, 7] rfl ?_
        refine A_widen (k' := (k0 + 8)) (n' := (n0 + 48)) (by omega) (by omega) ?_
        exact K ((n2 _ (by omega) (by omega) (by omega)).trans k1_0) k2_0 k2_1 k2_2 ((n2 _ (by omega) (by omega) (by omega)).trans k1_1) ((n2 _ (by omega) (by omega) (by omega)).trans k1_2) ((n2 _ (by omega) (by omega) (by omega)).trans k1_3) ((n2 _ (by omega) (by omega) (by omega)).trans k1_4) ((n2 _ (by omega) (by omega) (by omega)).trans k1_5) ((n2 _ (by omega) (by omega) (by omega)).trans k1_6) ((n2 _ (by omega) (by omega) (by omega)).trans k1_7) ((n2 _ (by omega) (by omega) (by omega)).trans k1_8) ((n2 _ (by omega) (by omega) (by omega)).trans k1_9) ((n2 _ (by omega) (by omega) (by omega)).trans k1_10) ((n2 _ (by omega) (by omega) (by omega)).trans k1_11) ((n2 _ (by omega) (by omega) (by omega)).trans k1_12) ((n2 _ (by omega) (by omega) (by omega)).trans k1_13) ((n2 _ (by omega) (by omega) (by omega)).trans k1_14) (fun q z0 z1 z2 z3 z4 z5 z6 z7 z8 z9 z10 z11 z12 z13 z14 z15 z16 z17 => ((n2 q z1 z2 z3).trans (n1 q z0 z4 z5 z6 z7 z8 z9 z10 z11 z12 z13 z14 z15 z16 z17)))
      · refine A_iconst (v := 0) X dL_law_3289 (by decide) ?_
        cases h
  · refine A_iconst (v := 0) X dL_law_3272 (by decide) ?_
    cases h
set_option maxHeartbeats 8000000 in
set_option maxRecDepth 100000 in
theorem c_W61 {E : KE} {p : Program} {l : Launch} {e : Env} {s : State} {m : MethodId} {b L9 : Nat} {xs : Nat → Int32} {below : List Frame} {meth : Method} {c : Code} {hp : Hp} {k0 n0 : Nat} {Q : State → Prop} {N : Nat} {x : Nat} {y : Nat} {o : Nat} {od : Nat} {v : Nat} {w : Nat} {sd : Int32} {mn : Int32} {th : Int32} {dc : Int32} {fc : Nat → Int32} {dw : Nat → Int32} {pc : Int32} {ln : Nat → Int32} {lt : Nat → Int32} {tc : Int32} {en : Nat → Int32} {fr : Nat → Int32} {oc : Int32} {op : Nat → Int32} {os : Nat → Int32} {nx : Int32} {dp : Int32} {rws : Nat → Option Nat} {srw : Nat → Option Nat} {su : Nat → Int32} {m_undoable : Int32} {m_undoStart : Int32} {m_thrown : Int32} {m_oftenAll : Int32} {m_inputLength : Int32} {m_position : Int32} {m_start : Int32} {m_token : Int32} {m_value : Int32} {m_letters : Int32} {m_code : Int32} {m_place : Int32} {m_outputLength : Int32} {m_s : Nat → Int32} {m_remembered : Nat → Int32} {m_slots : Nat → Int32} {m_kept : Nat → Int32} {ov : Nat → Int64} {v_sd : Int32} {v_mn : Int32} {v_th : Int32} {v_dc : Int32} {v_fc : Nat → Int32} {v_dw : Nat → Int32} {v_pc : Int32} {v_ln : Nat → Int32} {v_lt : Nat → Int32} {v_tc : Int32} {v_en : Nat → Int32} {v_fr : Nat → Int32} {v_oc : Int32} {v_op : Nat → Int32} {v_os : Nat → Int32} {w_sd : Int32} {w_mn : Int32} {w_th : Int32} {w_dc : Int32} {w_fc : Nat → Int32} {w_dw : Nat → Int32} {w_pc : Int32} {w_ln : Nat → Int32} {w_lt : Nat → Int32} {w_tc : Int32} {w_en : Nat → Int32} {w_fr : Nat → Int32} {w_oc : Int32} {w_op : Nat → Int32} {w_os : Nat → Int32} {l5 : Int32} {out : Int32 × Int32 × Int32 × Int32 × (Nat → Int32) × (Nat → Int32) × Int32 × (Nat → Int32) × (Nat → Int32) × Int32 × (Nat → Int32) × (Nat → Int32) × Int32 × (Nat → Int32) × (Nat → Int32) × Int32 × Int32 × Int32 × Int32 × Int32 × (Nat → Int32) × (Nat → Int32) × (Nat → Int64) × Int32 × Int32 × Int32 × Int32 × (Nat → Int32) × (Nat → Int32) × Int32 × (Nat → Int32) × (Nat → Int32) × Int32 × (Nat → Int32) × (Nat → Int32) × Int32 × (Nat → Int32) × (Nat → Int32)} (X : CX E p l s m #[Value.ref b] meth c "DiceAuditLaw" cL_law 10) (hX : va_X b L9 xs s s.heap) (hbl : b < s.heap.size) (hbA : ¬ kA E b) (hi1 : vp_in (l5 + 1) L9) (hi2 : vp_in (l5 + 2) L9) (hi3 : vp_in (l5 + 3) L9) (hi4 : vp_in (l5 + 4) L9) (hi5 : vp_in (l5 + 5) L9) (hRk : k0 + 8 ≤ room_1.cells) (hRn : n0 + 48 ≤ room_1.slots) (g0 : hp x = some (.inr (10, [.ref (x + 126), .ref (x + 128), .ref (x + 1), .ref (x + 3), .ref (x + 16), .ref (x + 18), .ref (x + 124), .ref (x + 125)]))) (g3 : hp (x + 3) = some (.inr (2, [.ref (x + 4), .ref (x + 7), .ref (x + 10), .ref (x + 13), .int sd, .int mn, .int th]))) (g4 : hp (x + 4) = some (.inr (0, [.ref (x + 5), .ref (x + 6), .int dc]))) (g5 : hp (x + 5) = some (.inl (kC E 0, 6, .inl fc))) (g6 : hp (x + 6) = some (.inl (kC E 0, 72, .inl dw))) (g7 : hp (x + 7) = some (.inr (7, [.ref (x + 8), .ref (x + 9), .int pc]))) (g8 : hp (x + 8) = some (.inl (kC E 0, 6, .inl ln))) (g9 : hp (x + 9) = some (.inl (kC E 0, 24, .inl lt))) (g10 : hp (x + 10) = some (.inr (4, [.ref (x + 11), .ref (x + 12), .int tc]))) (g11 : hp (x + 11) = some (.inl (kC E 0, 300, .inl en))) (g12 : hp (x + 12) = some (.inl (kC E 0, 432, .inl fr))) (g13 : hp (x + 13) = some (.inr (6, [.ref (x + 14), .ref (x + 15), .int oc]))) (g14 : hp (x + 14) = some (.inl (kC E 0, 36, .inl op))) (g15 : hp (x + 15) = some (.inl (kC E 0, 36, .inl os))) (g18 : hp (x + 18) = some (.inr (3, [.ref (x + 19), .int nx, .int dp]))) (g19 : hp (x + 19) = some (.inl (kC E 5, 8, .inr (.inr (.inr (.inr rws)))))) (g20 : hp (x + 124) = some (.inl (kC E 5, 2, .inr (.inr (.inr (.inr srw)))))) (g21 : hp (x + 125) = some (.inl (kC E 0, 2, .inl su))) (g39 : hp y = some (.inr (11, [.ref (y + 1), .ref (y + 2), .ref (y + 3), .ref (y + 4), .ref (y + 5), .int m_undoable, .int m_undoStart, .int m_thrown, .ref (y + 6), .int m_oftenAll, .ref (y + 7), .int m_inputLength, .int m_position, .int m_start, .int m_token, .int m_value, .int m_letters, .int m_code, .int m_place, .ref (y + 8), .int m_outputLength]))) (g40 : hp (y + 1) = some (.inl (kC E 0, 1399, .inl m_s))) (g42 : hp (y + 3) = some (.inl (kC E 0, 11192, .inl m_remembered))) (g43 : hp (y + 4) = some (.inl (kC E 0, 2798, .inl m_slots))) (g44 : hp (y + 5) = some (.inl (kC E 4, 2, .inl m_kept))) (g48 : hp o = some (.inl (kC E 1, 1, .inr (.inl ov)))) (g50 : hp v = some (.inr (2, [.ref (v + 1), .ref (v + 4), .ref (v + 7), .ref (v + 10), .int v_sd, .int v_mn, .int v_th]))) (g51 : hp (v + 1) = some (.inr (0, [.ref (v + 2), .ref (v + 3), .int v_dc]))) (g52 : hp (v + 2) = some (.inl (kC E 0, 6, .inl v_fc))) (g53 : hp (v + 3) = some (.inl (kC E 0, 72, .inl v_dw))) (g54 : hp (v + 4) = some (.inr (7, [.ref (v + 5), .ref (v + 6), .int v_pc]))) (g55 : hp (v + 5) = some (.inl (kC E 0, 6, .inl v_ln))) (g56 : hp (v + 6) = some (.inl (kC E 0, 24, .inl v_lt))) (g57 : hp (v + 7) = some (.inr (4, [.ref (v + 8), .ref (v + 9), .int v_tc]))) (g58 : hp (v + 8) = some (.inl (kC E 0, 300, .inl v_en))) (g59 : hp (v + 9) = some (.inl (kC E 0, 432, .inl v_fr))) (g60 : hp (v + 10) = some (.inr (6, [.ref (v + 11), .ref (v + 12), .int v_oc]))) (g61 : hp (v + 11) = some (.inl (kC E 0, 36, .inl v_op))) (g62 : hp (v + 12) = some (.inl (kC E 0, 36, .inl v_os))) (g63 : hp w = some (.inr (2, [.ref (w + 1), .ref (w + 4), .ref (w + 7), .ref (w + 10), .int w_sd, .int w_mn, .int w_th]))) (g64 : hp (w + 1) = some (.inr (0, [.ref (w + 2), .ref (w + 3), .int w_dc]))) (g65 : hp (w + 2) = some (.inl (kC E 0, 6, .inl w_fc))) (g66 : hp (w + 3) = some (.inl (kC E 0, 72, .inl w_dw))) (g67 : hp (w + 4) = some (.inr (7, [.ref (w + 5), .ref (w + 6), .int w_pc]))) (g68 : hp (w + 5) = some (.inl (kC E 0, 6, .inl w_ln))) (g69 : hp (w + 6) = some (.inl (kC E 0, 24, .inl w_lt))) (g70 : hp (w + 7) = some (.inr (4, [.ref (w + 8), .ref (w + 9), .int w_tc]))) (g71 : hp (w + 8) = some (.inl (kC E 0, 300, .inl w_en))) (g72 : hp (w + 9) = some (.inl (kC E 0, 432, .inl w_fr))) (g73 : hp (w + 10) = some (.inr (6, [.ref (w + 11), .ref (w + 12), .int w_oc]))) (g74 : hp (w + 11) = some (.inl (kC E 0, 36, .inl w_op))) (g75 : hp (w + 12) = some (.inl (kC E 0, 36, .inl w_os))) (hvv : rws (Int32.toNatClampNeg nx) = some v) (hlv : (x + 20) ≤ v) (huv : (v + 13) ≤ (x + 124)) (hvw : srw (Int32.toNatClampNeg (xs (Int32.toNatClampNeg (l5 + 1)))) = some w) (hlw : (x + 143) ≤ w) (huw : (w + 13) ≤ (x + 169)) (hz6 : (x + 126) ≤ y ∨ (y + 6) ≤ x) (hz7 : (x + 126) ≤ o ∨ (o + 1) ≤ x) (hz8 : (y + 6) ≤ o ∨ (o + 1) ≤ y) (hz9 : (y + 6) ≤ v ∨ (v + 13) ≤ y) (hz10 : (y + 6) ≤ w ∨ (w + 13) ≤ y) (hz11 : (o + 1) ≤ v ∨ (v + 13) ≤ o) (hz12 : (o + 1) ≤ w ∨ (w + 13) ≤ o) (h : f_W61 N xs l5 su m_slots m_kept w_sd w_mn w_th w_dc w_fc w_dw w_pc w_ln w_lt w_tc w_en w_fr w_oc w_op w_os sd mn th dc fc dw pc ln lt tc en fr oc op os nx dp m_undoable m_undoStart m_thrown m_s m_remembered ov v_sd v_mn v_th v_dc v_fc v_dw v_pc v_ln v_lt v_tc v_en v_fr v_oc v_op v_os = some out) (K : ∀ {hp' : Hp}, hp' (x + 3) = some (.inr (2, [.ref (x + 4), .ref (x + 7), .ref (x + 10), .ref (x + 13), .int out.1, .int out.2.1, .int out.2.2.1])) → hp' (x + 4) = some (.inr (0, [.ref (x + 5), .ref (x + 6), .int out.2.2.2.1])) → hp' (x + 5) = some (.inl (kC E 0, 6, .inl out.2.2.2.2.1)) → hp' (x + 6) = some (.inl (kC E 0, 72, .inl out.2.2.2.2.2.1)) → hp' (x + 7) = some (.inr (7, [.ref (x + 8), .ref (x + 9), .int out.2.2.2.2.2.2.1])) → hp' (x + 8) = some (.inl (kC E 0, 6, .inl out.2.2.2.2.2.2.2.1)) → hp' (x + 9) = some (.inl (kC E 0, 24, .inl out.2.2.2.2.2.2.2.2.1)) → hp' (x + 10) = some (.inr (4, [.ref (x + 11), .ref (x + 12), .int out.2.2.2.2.2.2.2.2.2.1])) → hp' (x + 11) = some (.inl (kC E 0, 300, .inl out.2.2.2.2.2.2.2.2.2.2.1)) → hp' (x + 12) = some (.inl (kC E 0, 432, .inl out.2.2.2.2.2.2.2.2.2.2.2.1)) → hp' (x + 13) = some (.inr (6, [.ref (x + 14), .ref (x + 15), .int out.2.2.2.2.2.2.2.2.2.2.2.2.1])) → hp' (x + 14) = some (.inl (kC E 0, 36, .inl out.2.2.2.2.2.2.2.2.2.2.2.2.2.1)) → hp' (x + 15) = some (.inl (kC E 0, 36, .inl out.2.2.2.2.2.2.2.2.2.2.2.2.2.2.1)) → hp' (x + 18) = some (.inr (3, [.ref (x + 19), .int out.2.2.2.2.2.2.2.2.2.2.2.2.2.2.2.1, .int out.2.2.2.2.2.2.2.2.2.2.2.2.2.2.2.2.1])) → hp' y = some (.inr (11, [.ref (y + 1), .ref (y + 2), .ref (y + 3), .ref (y + 4), .ref (y + 5), .int out.2.2.2.2.2.2.2.2.2.2.2.2.2.2.2.2.2.1, .int out.2.2.2.2.2.2.2.2.2.2.2.2.2.2.2.2.2.2.1, .int out.2.2.2.2.2.2.2.2.2.2.2.2.2.2.2.2.2.2.2.1, .ref (y + 6), .int m_oftenAll, .ref (y + 7), .int m_inputLength, .int m_position, .int m_start, .int m_token, .int m_value, .int m_letters, .int m_code, .int m_place, .ref (y + 8), .int m_outputLength])) → hp' (y + 1) = some (.inl (kC E 0, 1399, .inl out.2.2.2.2.2.2.2.2.2.2.2.2.2.2.2.2.2.2.2.2.1)) → hp' (y + 3) = some (.inl (kC E 0, 11192, .inl out.2.2.2.2.2.2.2.2.2.2.2.2.2.2.2.2.2.2.2.2.2.1)) → hp' o = some (.inl (kC E 1, 1, .inr (.inl out.2.2.2.2.2.2.2.2.2.2.2.2.2.2.2.2.2.2.2.2.2.2.1))) → hp' v = some (.inr (2, [.ref (v + 1), .ref (v + 4), .ref (v + 7), .ref (v + 10), .int out.2.2.2.2.2.2.2.2.2.2.2.2.2.2.2.2.2.2.2.2.2.2.2.1, .int out.2.2.2.2.2.2.2.2.2.2.2.2.2.2.2.2.2.2.2.2.2.2.2.2.1, .int out.2.2.2.2.2.2.2.2.2.2.2.2.2.2.2.2.2.2.2.2.2.2.2.2.2.1])) → hp' (v + 1) = some (.inr (0, [.ref (v + 2), .ref (v + 3), .int out.2.2.2.2.2.2.2.2.2.2.2.2.2.2.2.2.2.2.2.2.2.2.2.2.2.2.1])) → hp' (v + 2) = some (.inl (kC E 0, 6, .inl out.2.2.2.2.2.2.2.2.2.2.2.2.2.2.2.2.2.2.2.2.2.2.2.2.2.2.2.1)) → hp' (v + 3) = some (.inl (kC E 0, 72, .inl out.2.2.2.2.2.2.2.2.2.2.2.2.2.2.2.2.2.2.2.2.2.2.2.2.2.2.2.2.1)) → hp' (v + 4) = some (.inr (7, [.ref (v + 5), .ref (v + 6), .int out.2.2.2.2.2.2.2.2.2.2.2.2.2.2.2.2.2.2.2.2.2.2.2.2.2.2.2.2.2.1])) → hp' (v + 5) = some (.inl (kC E 0, 6, .inl out.2.2.2.2.2.2.2.2.2.2.2.2.2.2.2.2.2.2.2.2.2.2.2.2.2.2.2.2.2.2.1)) → hp' (v + 6) = some (.inl (kC E 0, 24, .inl out.2.2.2.2.2.2.2.2.2.2.2.2.2.2.2.2.2.2.2.2.2.2.2.2.2.2.2.2.2.2.2.1)) → hp' (v + 7) = some (.inr (4, [.ref (v + 8), .ref (v + 9), .int out.2.2.2.2.2.2.2.2.2.2.2.2.2.2.2.2.2.2.2.2.2.2.2.2.2.2.2.2.2.2.2.2.1])) → hp' (v + 8) = some (.inl (kC E 0, 300, .inl out.2.2.2.2.2.2.2.2.2.2.2.2.2.2.2.2.2.2.2.2.2.2.2.2.2.2.2.2.2.2.2.2.2.1)) → hp' (v + 9) = some (.inl (kC E 0, 432, .inl out.2.2.2.2.2.2.2.2.2.2.2.2.2.2.2.2.2.2.2.2.2.2.2.2.2.2.2.2.2.2.2.2.2.2.1)) → hp' (v + 10) = some (.inr (6, [.ref (v + 11), .ref (v + 12), .int out.2.2.2.2.2.2.2.2.2.2.2.2.2.2.2.2.2.2.2.2.2.2.2.2.2.2.2.2.2.2.2.2.2.2.2.1])) → hp' (v + 11) = some (.inl (kC E 0, 36, .inl out.2.2.2.2.2.2.2.2.2.2.2.2.2.2.2.2.2.2.2.2.2.2.2.2.2.2.2.2.2.2.2.2.2.2.2.2.1)) → hp' (v + 12) = some (.inl (kC E 0, 36, .inl out.2.2.2.2.2.2.2.2.2.2.2.2.2.2.2.2.2.2.2.2.2.2.2.2.2.2.2.2.2.2.2.2.2.2.2.2.2)) → (∀ q, q ≠ (x + 3) → q ≠ (x + 4) → q ≠ (x + 5) → q ≠ (x + 6) → q ≠ (x + 7) → q ≠ (x + 8) → q ≠ (x + 9) → q ≠ (x + 10) → q ≠ (x + 11) → q ≠ (x + 12) → q ≠ (x + 13) → q ≠ (x + 14) → q ≠ (x + 15) → q ≠ (x + 18) → q ≠ y → q ≠ (y + 1) → q ≠ (y + 3) → q ≠ o → q ≠ v → q ≠ (v + 1) → q ≠ (v + 2) → q ≠ (v + 3) → q ≠ (v + 4) → q ≠ (v + 5) → q ≠ (v + 6) → q ≠ (v + 7) → q ≠ (v + 8) → q ≠ (v + 9) → q ≠ (v + 10) → q ≠ (v + 11) → q ≠ (v + 12) → hp' q = hp q) → AW E p l e room_1 s m #[Value.ref b] below meth c 10 Q hp' none (k0 + 8) (n0 + 48) 3407 [(0, .ref b), (1, .ref x), (2, .ref y), (3, .ref o), (4, .ref od), (5, .int l5)] []) : AW E p l e room_1 s m #[Value.ref b] below meth c 10 Q hp none (k0 + 0) (n0 + 0) 3294 [(0, .ref b), (1, .ref x), (2, .ref y), (3, .ref o), (4, .ref od), (5, .int l5)] [] := by
  unfold f_W61 at h
  refine A_aload_n X dL_law_3294 1 rfl ?_
  refine A_aload_n X dL_law_3295 0 rfl ?_
  refine A_iload X dL_law_3296 5 rfl ?_
  refine A_iconst (v := 1) X dL_law_3298 (by decide) ?_
  refine A_iadd X dL_law_3299 ?_
  refine A_sld X hX hbl hbA hi1 dL_law_3300 ?_
  refine A_aload_n X dL_law_3301 3 rfl ?_
  obtain ⟨t1, hct1, h⟩ := bind_o h
  refine A_cX (k' := (k0 + 2)) (n' := (n0 + 12)) rfl rfl (A_runSH (rest := []) X dL_law_3302 (c_L_restore g0 g3 g4 g5 g6 g7 g8 g9 g10 g11 g12 g13 g14 g15 g18 g19 g20 g21 g48 g50 g51 g52 g53 g54 g55 g56 g57 g58 g59 g60 g61 g62 g63 g64 g65 g66 g67 g68 g69 g70 g71 g72 g73 g74 g75 hvv (by omega) (by omega) hvw (by omega) (by omega) (by omega) (by omega) (by omega) hct1) kY_L_restore kw_1384 ⟨(Nat.le_of_ble_eq_true rfl), (Nat.le_of_ble_eq_true rfl), kb rfl hRk, kb rfl hRn⟩ rfl (Nat.le_of_ble_eq_true rfl)) (fun C hp1 hP => hP.elim) (fun v9 hp1 al9 hP => ?_)
  obtain ⟨rfl, k1_0, k1_1, k1_2, k1_3, k1_4, k1_5, k1_6, k1_7, k1_8, k1_9, k1_10, k1_11, k1_12, k1_13, k1_14, k1_15, k1_16, k1_17, k1_18, k1_19, k1_20, k1_21, k1_22, k1_23, k1_24, k1_25, k1_26, k1_27, n1, rfl⟩ := hP
  replace k1_0 : hp1 (x + 3) = some (.inr (2, [.ref (x + 4), .ref (x + 7), .ref (x + 10), .ref (x + 13), .int t1.2.1, .int t1.2.2.1, .int t1.2.2.2.1])) := k1_0
  replace k1_1 : hp1 (x + 4) = some (.inr (0, [.ref (x + 5), .ref (x + 6), .int t1.2.2.2.2.1])) := k1_1
  replace k1_2 : hp1 (x + 5) = some (.inl (kC E 0, 6, .inl t1.2.2.2.2.2.1)) := k1_2
  replace k1_3 : hp1 (x + 6) = some (.inl (kC E 0, 72, .inl t1.2.2.2.2.2.2.1)) := k1_3
  replace k1_4 : hp1 (x + 7) = some (.inr (7, [.ref (x + 8), .ref (x + 9), .int t1.2.2.2.2.2.2.2.1])) := k1_4
  replace k1_5 : hp1 (x + 8) = some (.inl (kC E 0, 6, .inl t1.2.2.2.2.2.2.2.2.1)) := k1_5
  replace k1_6 : hp1 (x + 9) = some (.inl (kC E 0, 24, .inl t1.2.2.2.2.2.2.2.2.2.1)) := k1_6
  replace k1_7 : hp1 (x + 10) = some (.inr (4, [.ref (x + 11), .ref (x + 12), .int t1.2.2.2.2.2.2.2.2.2.2.1])) := k1_7
  replace k1_8 : hp1 (x + 11) = some (.inl (kC E 0, 300, .inl t1.2.2.2.2.2.2.2.2.2.2.2.1)) := k1_8
  replace k1_9 : hp1 (x + 12) = some (.inl (kC E 0, 432, .inl t1.2.2.2.2.2.2.2.2.2.2.2.2.1)) := k1_9
  replace k1_10 : hp1 (x + 13) = some (.inr (6, [.ref (x + 14), .ref (x + 15), .int t1.2.2.2.2.2.2.2.2.2.2.2.2.2.1])) := k1_10
  replace k1_11 : hp1 (x + 14) = some (.inl (kC E 0, 36, .inl t1.2.2.2.2.2.2.2.2.2.2.2.2.2.2.1)) := k1_11
  replace k1_12 : hp1 (x + 15) = some (.inl (kC E 0, 36, .inl t1.2.2.2.2.2.2.2.2.2.2.2.2.2.2.2.1)) := k1_12
  replace k1_13 : hp1 (x + 18) = some (.inr (3, [.ref (x + 19), .int t1.2.2.2.2.2.2.2.2.2.2.2.2.2.2.2.2.1, .int t1.2.2.2.2.2.2.2.2.2.2.2.2.2.2.2.2.2.1])) := k1_13
  replace k1_14 : hp1 o = some (.inl (kC E 1, 1, .inr (.inl t1.2.2.2.2.2.2.2.2.2.2.2.2.2.2.2.2.2.2.1))) := k1_14
  replace k1_15 : hp1 v = some (.inr (2, [.ref (v + 1), .ref (v + 4), .ref (v + 7), .ref (v + 10), .int t1.2.2.2.2.2.2.2.2.2.2.2.2.2.2.2.2.2.2.2.1, .int t1.2.2.2.2.2.2.2.2.2.2.2.2.2.2.2.2.2.2.2.2.1, .int t1.2.2.2.2.2.2.2.2.2.2.2.2.2.2.2.2.2.2.2.2.2.1])) := k1_15
  replace k1_16 : hp1 (v + 1) = some (.inr (0, [.ref (v + 2), .ref (v + 3), .int t1.2.2.2.2.2.2.2.2.2.2.2.2.2.2.2.2.2.2.2.2.2.2.1])) := k1_16
  replace k1_17 : hp1 (v + 2) = some (.inl (kC E 0, 6, .inl t1.2.2.2.2.2.2.2.2.2.2.2.2.2.2.2.2.2.2.2.2.2.2.2.1)) := k1_17
  replace k1_18 : hp1 (v + 3) = some (.inl (kC E 0, 72, .inl t1.2.2.2.2.2.2.2.2.2.2.2.2.2.2.2.2.2.2.2.2.2.2.2.2.1)) := k1_18
  replace k1_19 : hp1 (v + 4) = some (.inr (7, [.ref (v + 5), .ref (v + 6), .int t1.2.2.2.2.2.2.2.2.2.2.2.2.2.2.2.2.2.2.2.2.2.2.2.2.2.1])) := k1_19
  replace k1_20 : hp1 (v + 5) = some (.inl (kC E 0, 6, .inl t1.2.2.2.2.2.2.2.2.2.2.2.2.2.2.2.2.2.2.2.2.2.2.2.2.2.2.1)) := k1_20
  replace k1_21 : hp1 (v + 6) = some (.inl (kC E 0, 24, .inl t1.2.2.2.2.2.2.2.2.2.2.2.2.2.2.2.2.2.2.2.2.2.2.2.2.2.2.2.1)) := k1_21
  replace k1_22 : hp1 (v + 7) = some (.inr (4, [.ref (v + 8), .ref (v + 9), .int t1.2.2.2.2.2.2.2.2.2.2.2.2.2.2.2.2.2.2.2.2.2.2.2.2.2.2.2.2.1])) := k1_22
  replace k1_23 : hp1 (v + 8) = some (.inl (kC E 0, 300, .inl t1.2.2.2.2.2.2.2.2.2.2.2.2.2.2.2.2.2.2.2.2.2.2.2.2.2.2.2.2.2.1)) := k1_23
  replace k1_24 : hp1 (v + 9) = some (.inl (kC E 0, 432, .inl t1.2.2.2.2.2.2.2.2.2.2.2.2.2.2.2.2.2.2.2.2.2.2.2.2.2.2.2.2.2.2.1)) := k1_24
  replace k1_25 : hp1 (v + 10) = some (.inr (6, [.ref (v + 11), .ref (v + 12), .int t1.2.2.2.2.2.2.2.2.2.2.2.2.2.2.2.2.2.2.2.2.2.2.2.2.2.2.2.2.2.2.2.1])) := k1_25
  replace k1_26 : hp1 (v + 11) = some (.inl (kC E 0, 36, .inl t1.2.2.2.2.2.2.2.2.2.2.2.2.2.2.2.2.2.2.2.2.2.2.2.2.2.2.2.2.2.2.2.2.1)) := k1_26
  replace k1_27 : hp1 (v + 12) = some (.inl (kC E 0, 36, .inl t1.2.2.2.2.2.2.2.2.2.2.2.2.2.2.2.2.2.2.2.2.2.2.2.2.2.2.2.2.2.2.2.2.2)) := k1_27
  refine A_st (st' := [.int t1.1]) rfl ?_
  refine A_istore (L' := [(6, .int t1.1), (0, .ref b), (1, .ref x), (2, .ref y), (3, .ref o), (4, .ref od), (5, .int l5)]) X dL_law_3305 (by decide) rfl ?_
  refine A_aload_n X dL_law_3307 3 rfl ?_
  refine A_aload_n X dL_law_3308 1 rfl ?_
  refine A_iload X dL_law_3309 6 rfl ?_
  refine A_iconst (v := 1) X dL_law_3311 (by decide) ?_
  refine A_iadd X dL_law_3312 ?_
  refine A_sld X hX hbl hbA hi1 dL_law_3313 ?_
  obtain ⟨t2, hct2, h⟩ := bind_o h
  refine A_c (k' := (k0 + 2)) (n' := (n0 + 12)) rfl rfl (A_runV (rest := []) X dL_law_3314 (c_X11_restore ((n1 _ (by omega) (by omega) (by omega) (by omega) (by omega) (by omega) (by omega) (by omega) (by omega) (by omega) (by omega) (by omega) (by omega) (by omega) (by omega) (by omega) (by omega) (by omega) (by omega) (by omega) (by omega) (by omega) (by omega) (by omega) (by omega) (by omega) (by omega) (by omega)).trans g39) ((n1 _ (by omega) (by omega) (by omega) (by omega) (by omega) (by omega) (by omega) (by omega) (by omega) (by omega) (by omega) (by omega) (by omega) (by omega) (by omega) (by omega) (by omega) (by omega) (by omega) (by omega) (by omega) (by omega) (by omega) (by omega) (by omega) (by omega) (by omega) (by omega)).trans g40) ((n1 _ (by omega) (by omega) (by omega) (by omega) (by omega) (by omega) (by omega) (by omega) (by omega) (by omega) (by omega) (by omega) (by omega) (by omega) (by omega) (by omega) (by omega) (by omega) (by omega) (by omega) (by omega) (by omega) (by omega) (by omega) (by omega) (by omega) (by omega) (by omega)).trans g42) ((n1 _ (by omega) (by omega) (by omega) (by omega) (by omega) (by omega) (by omega) (by omega) (by omega) (by omega) (by omega) (by omega) (by omega) (by omega) (by omega) (by omega) (by omega) (by omega) (by omega) (by omega) (by omega) (by omega) (by omega) (by omega) (by omega) (by omega) (by omega) (by omega)).trans g43) ((n1 _ (by omega) (by omega) (by omega) (by omega) (by omega) (by omega) (by omega) (by omega) (by omega) (by omega) (by omega) (by omega) (by omega) (by omega) (by omega) (by omega) (by omega) (by omega) (by omega) (by omega) (by omega) (by omega) (by omega) (by omega) (by omega) (by omega) (by omega) (by omega)).trans g44)  hct2) kY_X11_restore kw_2011 ((n1 _ (by omega) (by omega) (by omega) (by omega) (by omega) (by omega) (by omega) (by omega) (by omega) (by omega) (by omega) (by omega) (by omega) (by omega) (by omega) (by omega) (by omega) (by omega) (by omega) (by omega) (by omega) (by omega) (by omega) (by omega) (by omega) (by omega) (by omega) (by omega)).trans g39) rfl rfl ⟨(Nat.le_of_ble_eq_true rfl), (Nat.le_of_ble_eq_true rfl), kb rfl hRk, kb rfl hRn⟩ rfl (Nat.le_of_ble_eq_true rfl)) (fun v9 hp2 al9 hP => ?_)
  obtain ⟨rfl, k2_0, k2_1, k2_2, n2, rfl⟩ := hP
  replace k2_0 : hp2 y = some (.inr (11, [.ref (y + 1), .ref (y + 2), .ref (y + 3), .ref (y + 4), .ref (y + 5), .int t2.2.1, .int t2.2.2.1, .int t2.2.2.2.1, .ref (y + 6), .int m_oftenAll, .ref (y + 7), .int m_inputLength, .int m_position, .int m_start, .int m_token, .int m_value, .int m_letters, .int m_code, .int m_place, .ref (y + 8), .int m_outputLength])) := k2_0
  replace k2_1 : hp2 (y + 1) = some (.inl (kC E 0, 1399, .inl t2.2.2.2.2.1)) := k2_1
  replace k2_2 : hp2 (y + 3) = some (.inl (kC E 0, 11192, .inl t2.2.2.2.2.2)) := k2_2
  refine A_st (st' := [.int t2.1]) rfl ?_
  refine A_istore (L' := [(7, .int t2.1), (6, .int t1.1), (0, .ref b), (1, .ref x), (2, .ref y), (3, .ref o), (4, .ref od), (5, .int l5)]) X dL_law_3317 (by decide) rfl ?_
  refine A_aload_n X dL_law_3319 4 rfl ?_
  obtain ⟨t3, hct3, h⟩ := bind_o h
  refine A_cp (k' := (k0 + 2)) (n' := (n0 + 12)) (A_runV (rest := []) X dL_law_3320 (c_X11_thrown k2_0  hct3) kY_X11_thrown kw_1668 k2_0 rfl rfl ⟨(Nat.le_of_ble_eq_true rfl), (Nat.le_of_ble_eq_true rfl), kb rfl hRk, kb rfl hRn⟩ rfl (Nat.le_of_ble_eq_true rfl)) rfl rfl ?_
  refine A_iload X dL_law_3323 1 rfl ?_
  refine A_icmp_eq (tgt := 3330) X dL_law_3325 h (by decide) (fun hc h => ?_) (fun hc h => ?_)
  · refine A_iload X dL_law_3330 1 rfl ?_
    refine A_if_ne (tgt := 3347) X dL_law_3332 h (by decide) (fun hc h => ?_) (fun hc h => ?_)
    · refine A_goto (tgt := 3407) X dL_law_3347 (by decide) ?_
      cases h
      refine A_sub (L' := [(0, .ref b), (1, .ref x), (2, .ref y), (3, .ref o), (4, .ref od), (5, .int l5)]) [2, 3, 4, 5, 6, 7] rfl ?_
      refine A_widen (k' := (k0 + 8)) (n' := (n0 + 48)) (by omega) (by omega) ?_
      exact K ((n2 _ (by omega) (by omega) (by omega)).trans k1_0) ((n2 _ (by omega) (by omega) (by omega)).trans k1_1) ((n2 _ (by omega) (by omega) (by omega)).trans k1_2) ((n2 _ (by omega) (by omega) (by omega)).trans k1_3) ((n2 _ (by omega) (by omega) (by omega)).trans k1_4) ((n2 _ (by omega) (by omega) (by omega)).trans k1_5) ((n2 _ (by omega) (by omega) (by omega)).trans k1_6) ((n2 _ (by omega) (by omega) (by omega)).trans k1_7) ((n2 _ (by omega) (by omega) (by omega)).trans k1_8) ((n2 _ (by omega) (by omega) (by omega)).trans k1_9) ((n2 _ (by omega) (by omega) (by omega)).trans k1_10) ((n2 _ (by omega) (by omega) (by omega)).trans k1_11) ((n2 _ (by omega) (by omega) (by omega)).trans k1_12) ((n2 _ (by omega) (by omega) (by omega)).trans k1_13) k2_0 k2_1 k2_2 ((n2 _ (by omega) (by omega) (by omega)).trans k1_14) ((n2 _ (by omega) (by omega) (by omega)).trans k1_15) ((n2 _ (by omega) (by omega) (by omega)).trans k1_16) ((n2 _ (by omega) (by omega) (by omega)).trans k1_17) ((n2 _ (by omega) (by omega) (by omega)).trans k1_18) ((n2 _ (by omega) (by omega) (by omega)).trans k1_19) ((n2 _ (by omega) (by omega) (by omega)).trans k1_20) ((n2 _ (by omega) (by omega) (by omega)).trans k1_21) ((n2 _ (by omega) (by omega) (by omega)).trans k1_22) ((n2 _ (by omega) (by omega) (by omega)).trans k1_23) ((n2 _ (by omega) (by omega) (by omega)).trans k1_24) ((n2 _ (by omega) (by omega) (by omega)).trans k1_25) ((n2 _ (by omega) (by omega) (by omega)).trans k1_26) ((n2 _ (by omega) (by omega) (by omega)).trans k1_27) (fun q z0 z1 z2 z3 z4 z5 z6 z7 z8 z9 z10 z11 z12 z13 z14 z15 z16 z17 z18 z19 z20 z21 z22 z23 z24 z25 z26 z27 z28 z29 z30 => ((n2 q z14 z15 z16).trans (n1 q z0 z1 z2 z3 z4 z5 z6 z7 z8 z9 z10 z11 z12 z13 z17 z18 z19 z20 z21 z22 z23 z24 z25 z26 z27 z28 z29 z30)))
    · refine A_aload_n X dL_law_3335 5 rfl ?_
      refine A_iconst (v := 0) X dL_law_3336 (by decide) ?_
      refine A_lald X dL_law_3337 ((n2 _ (by omega) (by omega) (by omega)).trans k1_14) (by decide) ?_
      refine A_iload X dL_law_3338 0 rfl ?_
      refine A_i2l X dL_law_3340 ?_
      refine A_lcmp X dL_law_3341 ?_
      refine A_if_eq (tgt := 3347) X dL_law_3342 h (by decide) (fun hc h => ?_) (fun hc h => ?_)
      · refine A_goto (tgt := 3407) X dL_law_3347 (by decide) ?_
        cases h
        refine A_sub (L' := [(0, .ref b), (1, .ref x), (2, .ref y), (3, .ref o), (4, .ref od), (5, .int l5)]) [2, 3, 4, 5, 6, 7] rfl ?_
        refine A_widen (k' := (k0 + 8)) (n' := (n0 + 48)) (by omega) (by omega) ?_
        exact K ((n2 _ (by omega) (by omega) (by omega)).trans k1_0) ((n2 _ (by omega) (by omega) (by omega)).trans k1_1) ((n2 _ (by omega) (by omega) (by omega)).trans k1_2) ((n2 _ (by omega) (by omega) (by omega)).trans k1_3) ((n2 _ (by omega) (by omega) (by omega)).trans k1_4) ((n2 _ (by omega) (by omega) (by omega)).trans k1_5) ((n2 _ (by omega) (by omega) (by omega)).trans k1_6) ((n2 _ (by omega) (by omega) (by omega)).trans k1_7) ((n2 _ (by omega) (by omega) (by omega)).trans k1_8) ((n2 _ (by omega) (by omega) (by omega)).trans k1_9) ((n2 _ (by omega) (by omega) (by omega)).trans k1_10) ((n2 _ (by omega) (by omega) (by omega)).trans k1_11) ((n2 _ (by omega) (by omega) (by omega)).trans k1_12) ((n2 _ (by omega) (by omega) (by omega)).trans k1_13) k2_0 k2_1 k2_2 ((n2 _ (by omega) (by omega) (by omega)).trans k1_14) ((n2 _ (by omega) (by omega) (by omega)).trans k1_15) ((n2 _ (by omega) (by omega) (by omega)).trans k1_16) ((n2 _ (by omega) (by omega) (by omega)).trans k1_17) ((n2 _ (by omega) (by omega) (by omega)).trans k1_18) ((n2 _ (by omega) (by omega) (by omega)).trans k1_19) ((n2 _ (by omega) (by omega) (by omega)).trans k1_20) ((n2 _ (by omega) (by omega) (by omega)).trans k1_21) ((n2 _ (by omega) (by omega) (by omega)).trans k1_22) ((n2 _ (by omega) (by omega) (by omega)).trans k1_23) ((n2 _ (by omega) (by omega) (by omega)).trans k1_24) ((n2 _ (by omega) (by omega) (by omega)).trans k1_25) ((n2 _ (by omega) (by omega) (by omega)).trans k1_26) ((n2 _ (by omega) (by omega) (by omega)).trans k1_27) (fun q z0 z1 z2 z3 z4 z5 z6 z7 z8 z9 z10 z11 z12 z13 z14 z15 z16 z17 z18 z19 z20 z21 z22 z23 z24 z25 z26 z27 z28 z29 z30 => ((n2 q z14 z15 z16).trans (n1 q z0 z1 z2 z3 z4 z5 z6 z7 z8 z9 z10 z11 z12 z13 z17 z18 z19 z20 z21 z22 z23 z24 z25 z26 z27 z28 z29 z30)))
      · refine A_iconst (v := 0) X dL_law_3345 (by decide) ?_
        cases h
  · refine A_iconst (v := 0) X dL_law_3328 (by decide) ?_
    cases h
set_option maxHeartbeats 8000000 in
set_option maxRecDepth 100000 in
theorem c_W62 {E : KE} {p : Program} {l : Launch} {e : Env} {s : State} {m : MethodId} {b L9 : Nat} {xs : Nat → Int32} {below : List Frame} {meth : Method} {c : Code} {hp : Hp} {k0 n0 : Nat} {Q : State → Prop} {N : Nat} {x : Nat} {y : Nat} {o : Nat} {od : Nat} {v : Nat} {sd : Int32} {mn : Int32} {th : Int32} {dc : Int32} {fc : Nat → Int32} {dw : Nat → Int32} {pc : Int32} {ln : Nat → Int32} {lt : Nat → Int32} {tc : Int32} {en : Nat → Int32} {fr : Nat → Int32} {oc : Int32} {op : Nat → Int32} {os : Nat → Int32} {nx : Int32} {dp : Int32} {rws : Nat → Option Nat} {m_undoable : Int32} {m_undoStart : Int32} {m_thrown : Int32} {m_oftenAll : Int32} {m_inputLength : Int32} {m_position : Int32} {m_start : Int32} {m_token : Int32} {m_value : Int32} {m_letters : Int32} {m_code : Int32} {m_place : Int32} {m_outputLength : Int32} {m_s : Nat → Int32} {m_remembered : Nat → Int32} {ov : Nat → Int64} {v_sd : Int32} {v_mn : Int32} {v_th : Int32} {v_dc : Int32} {v_fc : Nat → Int32} {v_dw : Nat → Int32} {v_pc : Int32} {v_ln : Nat → Int32} {v_lt : Nat → Int32} {v_tc : Int32} {v_en : Nat → Int32} {v_fr : Nat → Int32} {v_oc : Int32} {v_op : Nat → Int32} {v_os : Nat → Int32} {l5 : Int32} {out : Int32 × Int32 × Int32 × Int32 × (Nat → Int32) × (Nat → Int32) × Int32 × (Nat → Int32) × (Nat → Int32) × Int32 × (Nat → Int32) × (Nat → Int32) × Int32 × (Nat → Int32) × (Nat → Int32) × Int32 × Int32 × Int32 × Int32 × (Nat → Int32) × (Nat → Int64)} (X : CX E p l s m #[Value.ref b] meth c "DiceAuditLaw" cL_law 10) (hX : va_X b L9 xs s s.heap) (hbl : b < s.heap.size) (hbA : ¬ kA E b) (hi1 : vp_in (l5 + 1) L9) (hi2 : vp_in (l5 + 2) L9) (hi3 : vp_in (l5 + 3) L9) (hi4 : vp_in (l5 + 4) L9) (hi5 : vp_in (l5 + 5) L9) (hRk : k0 + 8 ≤ room_1.cells) (hRn : n0 + 48 ≤ room_1.slots) (g0 : hp x = some (.inr (10, [.ref (x + 126), .ref (x + 128), .ref (x + 1), .ref (x + 3), .ref (x + 16), .ref (x + 18), .ref (x + 124), .ref (x + 125)]))) (g3 : hp (x + 3) = some (.inr (2, [.ref (x + 4), .ref (x + 7), .ref (x + 10), .ref (x + 13), .int sd, .int mn, .int th]))) (g4 : hp (x + 4) = some (.inr (0, [.ref (x + 5), .ref (x + 6), .int dc]))) (g5 : hp (x + 5) = some (.inl (kC E 0, 6, .inl fc))) (g6 : hp (x + 6) = some (.inl (kC E 0, 72, .inl dw))) (g7 : hp (x + 7) = some (.inr (7, [.ref (x + 8), .ref (x + 9), .int pc]))) (g8 : hp (x + 8) = some (.inl (kC E 0, 6, .inl ln))) (g9 : hp (x + 9) = some (.inl (kC E 0, 24, .inl lt))) (g10 : hp (x + 10) = some (.inr (4, [.ref (x + 11), .ref (x + 12), .int tc]))) (g11 : hp (x + 11) = some (.inl (kC E 0, 300, .inl en))) (g12 : hp (x + 12) = some (.inl (kC E 0, 432, .inl fr))) (g13 : hp (x + 13) = some (.inr (6, [.ref (x + 14), .ref (x + 15), .int oc]))) (g14 : hp (x + 14) = some (.inl (kC E 0, 36, .inl op))) (g15 : hp (x + 15) = some (.inl (kC E 0, 36, .inl os))) (g18 : hp (x + 18) = some (.inr (3, [.ref (x + 19), .int nx, .int dp]))) (g19 : hp (x + 19) = some (.inl (kC E 5, 8, .inr (.inr (.inr (.inr rws)))))) (g39 : hp y = some (.inr (11, [.ref (y + 1), .ref (y + 2), .ref (y + 3), .ref (y + 4), .ref (y + 5), .int m_undoable, .int m_undoStart, .int m_thrown, .ref (y + 6), .int m_oftenAll, .ref (y + 7), .int m_inputLength, .int m_position, .int m_start, .int m_token, .int m_value, .int m_letters, .int m_code, .int m_place, .ref (y + 8), .int m_outputLength]))) (g40 : hp (y + 1) = some (.inl (kC E 0, 1399, .inl m_s))) (g42 : hp (y + 3) = some (.inl (kC E 0, 11192, .inl m_remembered))) (g48 : hp o = some (.inl (kC E 1, 1, .inr (.inl ov)))) (g50 : hp v = some (.inr (2, [.ref (v + 1), .ref (v + 4), .ref (v + 7), .ref (v + 10), .int v_sd, .int v_mn, .int v_th]))) (g51 : hp (v + 1) = some (.inr (0, [.ref (v + 2), .ref (v + 3), .int v_dc]))) (g52 : hp (v + 2) = some (.inl (kC E 0, 6, .inl v_fc))) (g53 : hp (v + 3) = some (.inl (kC E 0, 72, .inl v_dw))) (g54 : hp (v + 4) = some (.inr (7, [.ref (v + 5), .ref (v + 6), .int v_pc]))) (g55 : hp (v + 5) = some (.inl (kC E 0, 6, .inl v_ln))) (g56 : hp (v + 6) = some (.inl (kC E 0, 24, .inl v_lt))) (g57 : hp (v + 7) = some (.inr (4, [.ref (v + 8), .ref (v + 9), .int v_tc]))) (g58 : hp (v + 8) = some (.inl (kC E 0, 300, .inl v_en))) (g59 : hp (v + 9) = some (.inl (kC E 0, 432, .inl v_fr))) (g60 : hp (v + 10) = some (.inr (6, [.ref (v + 11), .ref (v + 12), .int v_oc]))) (g61 : hp (v + 11) = some (.inl (kC E 0, 36, .inl v_op))) (g62 : hp (v + 12) = some (.inl (kC E 0, 36, .inl v_os))) (hvv : rws (Int32.toNatClampNeg (((nx + 8) - 1) - ((nx + 8) - 1) / 8 * 8)) = some v) (hlv : (x + 20) ≤ v) (huv : (v + 13) ≤ (x + 124)) (hz3 : (x + 20) ≤ y ∨ (y + 4) ≤ x) (hz4 : (x + 20) ≤ o ∨ (o + 1) ≤ x) (hz5 : (y + 4) ≤ o ∨ (o + 1) ≤ y) (hz6 : (y + 4) ≤ v ∨ (v + 13) ≤ y) (hz7 : (o + 1) ≤ v ∨ (v + 13) ≤ o) (h : f_W62 N xs l5 m_undoStart m_remembered v_sd v_mn v_th v_dc v_fc v_dw v_pc v_ln v_lt v_tc v_en v_fr v_oc v_op v_os sd mn th dc fc dw pc ln lt tc en fr oc op os nx dp m_undoable m_thrown m_s ov = some out) (K : ∀ {hp' : Hp}, hp' (x + 3) = some (.inr (2, [.ref (x + 4), .ref (x + 7), .ref (x + 10), .ref (x + 13), .int out.1, .int out.2.1, .int out.2.2.1])) → hp' (x + 4) = some (.inr (0, [.ref (x + 5), .ref (x + 6), .int out.2.2.2.1])) → hp' (x + 5) = some (.inl (kC E 0, 6, .inl out.2.2.2.2.1)) → hp' (x + 6) = some (.inl (kC E 0, 72, .inl out.2.2.2.2.2.1)) → hp' (x + 7) = some (.inr (7, [.ref (x + 8), .ref (x + 9), .int out.2.2.2.2.2.2.1])) → hp' (x + 8) = some (.inl (kC E 0, 6, .inl out.2.2.2.2.2.2.2.1)) → hp' (x + 9) = some (.inl (kC E 0, 24, .inl out.2.2.2.2.2.2.2.2.1)) → hp' (x + 10) = some (.inr (4, [.ref (x + 11), .ref (x + 12), .int out.2.2.2.2.2.2.2.2.2.1])) → hp' (x + 11) = some (.inl (kC E 0, 300, .inl out.2.2.2.2.2.2.2.2.2.2.1)) → hp' (x + 12) = some (.inl (kC E 0, 432, .inl out.2.2.2.2.2.2.2.2.2.2.2.1)) → hp' (x + 13) = some (.inr (6, [.ref (x + 14), .ref (x + 15), .int out.2.2.2.2.2.2.2.2.2.2.2.2.1])) → hp' (x + 14) = some (.inl (kC E 0, 36, .inl out.2.2.2.2.2.2.2.2.2.2.2.2.2.1)) → hp' (x + 15) = some (.inl (kC E 0, 36, .inl out.2.2.2.2.2.2.2.2.2.2.2.2.2.2.1)) → hp' (x + 18) = some (.inr (3, [.ref (x + 19), .int out.2.2.2.2.2.2.2.2.2.2.2.2.2.2.2.1, .int out.2.2.2.2.2.2.2.2.2.2.2.2.2.2.2.2.1])) → hp' y = some (.inr (11, [.ref (y + 1), .ref (y + 2), .ref (y + 3), .ref (y + 4), .ref (y + 5), .int out.2.2.2.2.2.2.2.2.2.2.2.2.2.2.2.2.2.1, .int m_undoStart, .int out.2.2.2.2.2.2.2.2.2.2.2.2.2.2.2.2.2.2.1, .ref (y + 6), .int m_oftenAll, .ref (y + 7), .int m_inputLength, .int m_position, .int m_start, .int m_token, .int m_value, .int m_letters, .int m_code, .int m_place, .ref (y + 8), .int m_outputLength])) → hp' (y + 1) = some (.inl (kC E 0, 1399, .inl out.2.2.2.2.2.2.2.2.2.2.2.2.2.2.2.2.2.2.2.1)) → hp' o = some (.inl (kC E 1, 1, .inr (.inl out.2.2.2.2.2.2.2.2.2.2.2.2.2.2.2.2.2.2.2.2))) → (∀ q, q ≠ (x + 3) → q ≠ (x + 4) → q ≠ (x + 5) → q ≠ (x + 6) → q ≠ (x + 7) → q ≠ (x + 8) → q ≠ (x + 9) → q ≠ (x + 10) → q ≠ (x + 11) → q ≠ (x + 12) → q ≠ (x + 13) → q ≠ (x + 14) → q ≠ (x + 15) → q ≠ (x + 18) → q ≠ y → q ≠ (y + 1) → q ≠ o → hp' q = hp q) → AW E p l e room_1 s m #[Value.ref b] below meth c 10 Q hp' none (k0 + 8) (n0 + 48) 3407 [(0, .ref b), (1, .ref x), (2, .ref y), (3, .ref o), (4, .ref od), (5, .int l5)] []) : AW E p l e room_1 s m #[Value.ref b] below meth c 10 Q hp none (k0 + 0) (n0 + 0) 3350 [(0, .ref b), (1, .ref x), (2, .ref y), (3, .ref o), (4, .ref od), (5, .int l5)] [] := by
  unfold f_W62 at h
  refine A_aload_n X dL_law_3350 1 rfl ?_
  refine A_aload_n X dL_law_3351 3 rfl ?_
  obtain ⟨t1, hct1, h⟩ := bind_o h
  refine A_cX (k' := (k0 + 1)) (n' := (n0 + 6)) rfl rfl (A_runSH (rest := []) X dL_law_3352 (c_L_undo g0 g3 g4 g5 g6 g7 g8 g9 g10 g11 g12 g13 g14 g15 g18 g19 g48 g50 g51 g52 g53 g54 g55 g56 g57 g58 g59 g60 g61 g62 hvv (by omega) (by omega) (by omega) (by omega) hct1) kY_L_undo kw_1392 ⟨(Nat.le_of_ble_eq_true rfl), (Nat.le_of_ble_eq_true rfl), kb rfl hRk, kb rfl hRn⟩ rfl (Nat.le_of_ble_eq_true rfl)) (fun C hp1 hP => hP.elim) (fun v9 hp1 al9 hP => ?_)
  obtain ⟨rfl, k1_0, k1_1, k1_2, k1_3, k1_4, k1_5, k1_6, k1_7, k1_8, k1_9, k1_10, k1_11, k1_12, k1_13, k1_14, n1, rfl⟩ := hP
  replace k1_0 : hp1 (x + 3) = some (.inr (2, [.ref (x + 4), .ref (x + 7), .ref (x + 10), .ref (x + 13), .int t1.2.1, .int t1.2.2.1, .int t1.2.2.2.1])) := k1_0
  replace k1_1 : hp1 (x + 4) = some (.inr (0, [.ref (x + 5), .ref (x + 6), .int t1.2.2.2.2.1])) := k1_1
  replace k1_2 : hp1 (x + 5) = some (.inl (kC E 0, 6, .inl t1.2.2.2.2.2.1)) := k1_2
  replace k1_3 : hp1 (x + 6) = some (.inl (kC E 0, 72, .inl t1.2.2.2.2.2.2.1)) := k1_3
  replace k1_4 : hp1 (x + 7) = some (.inr (7, [.ref (x + 8), .ref (x + 9), .int t1.2.2.2.2.2.2.2.1])) := k1_4
  replace k1_5 : hp1 (x + 8) = some (.inl (kC E 0, 6, .inl t1.2.2.2.2.2.2.2.2.1)) := k1_5
  replace k1_6 : hp1 (x + 9) = some (.inl (kC E 0, 24, .inl t1.2.2.2.2.2.2.2.2.2.1)) := k1_6
  replace k1_7 : hp1 (x + 10) = some (.inr (4, [.ref (x + 11), .ref (x + 12), .int t1.2.2.2.2.2.2.2.2.2.2.1])) := k1_7
  replace k1_8 : hp1 (x + 11) = some (.inl (kC E 0, 300, .inl t1.2.2.2.2.2.2.2.2.2.2.2.1)) := k1_8
  replace k1_9 : hp1 (x + 12) = some (.inl (kC E 0, 432, .inl t1.2.2.2.2.2.2.2.2.2.2.2.2.1)) := k1_9
  replace k1_10 : hp1 (x + 13) = some (.inr (6, [.ref (x + 14), .ref (x + 15), .int t1.2.2.2.2.2.2.2.2.2.2.2.2.2.1])) := k1_10
  replace k1_11 : hp1 (x + 14) = some (.inl (kC E 0, 36, .inl t1.2.2.2.2.2.2.2.2.2.2.2.2.2.2.1)) := k1_11
  replace k1_12 : hp1 (x + 15) = some (.inl (kC E 0, 36, .inl t1.2.2.2.2.2.2.2.2.2.2.2.2.2.2.2.1)) := k1_12
  replace k1_13 : hp1 (x + 18) = some (.inr (3, [.ref (x + 19), .int t1.2.2.2.2.2.2.2.2.2.2.2.2.2.2.2.2.1, .int t1.2.2.2.2.2.2.2.2.2.2.2.2.2.2.2.2.2.1])) := k1_13
  replace k1_14 : hp1 o = some (.inl (kC E 1, 1, .inr (.inl t1.2.2.2.2.2.2.2.2.2.2.2.2.2.2.2.2.2.2))) := k1_14
  refine A_st (st' := [.int t1.1]) rfl ?_
  refine A_istore (L' := [(6, .int t1.1), (0, .ref b), (1, .ref x), (2, .ref y), (3, .ref o), (4, .ref od), (5, .int l5)]) X dL_law_3355 (by decide) rfl ?_
  refine A_aload_n X dL_law_3357 3 rfl ?_
  obtain ⟨t2, hct2, h⟩ := bind_o h
  refine A_c (k' := (k0 + 1)) (n' := (n0 + 6)) rfl rfl (A_runV (rest := []) X dL_law_3358 (c_X11_undo ((n1 _ (by omega) (by omega) (by omega) (by omega) (by omega) (by omega) (by omega) (by omega) (by omega) (by omega) (by omega) (by omega) (by omega) (by omega) (by omega)).trans g39) ((n1 _ (by omega) (by omega) (by omega) (by omega) (by omega) (by omega) (by omega) (by omega) (by omega) (by omega) (by omega) (by omega) (by omega) (by omega) (by omega)).trans g40) ((n1 _ (by omega) (by omega) (by omega) (by omega) (by omega) (by omega) (by omega) (by omega) (by omega) (by omega) (by omega) (by omega) (by omega) (by omega) (by omega)).trans g42)  hct2) kY_X11_undo kw_1708 ((n1 _ (by omega) (by omega) (by omega) (by omega) (by omega) (by omega) (by omega) (by omega) (by omega) (by omega) (by omega) (by omega) (by omega) (by omega) (by omega)).trans g39) rfl rfl ⟨(Nat.le_of_ble_eq_true rfl), (Nat.le_of_ble_eq_true rfl), kb rfl hRk, kb rfl hRn⟩ rfl (Nat.le_of_ble_eq_true rfl)) (fun v9 hp2 al9 hP => ?_)
  obtain ⟨rfl, k2_0, k2_1, n2, rfl⟩ := hP
  replace k2_0 : hp2 y = some (.inr (11, [.ref (y + 1), .ref (y + 2), .ref (y + 3), .ref (y + 4), .ref (y + 5), .int t2.2.1, .int m_undoStart, .int t2.2.2.1, .ref (y + 6), .int m_oftenAll, .ref (y + 7), .int m_inputLength, .int m_position, .int m_start, .int m_token, .int m_value, .int m_letters, .int m_code, .int m_place, .ref (y + 8), .int m_outputLength])) := k2_0
  replace k2_1 : hp2 (y + 1) = some (.inl (kC E 0, 1399, .inl t2.2.2.2)) := k2_1
  refine A_st (st' := [.int t2.1]) rfl ?_
  refine A_istore (L' := [(7, .int t2.1), (6, .int t1.1), (0, .ref b), (1, .ref x), (2, .ref y), (3, .ref o), (4, .ref od), (5, .int l5)]) X dL_law_3361 (by decide) rfl ?_
  refine A_aload_n X dL_law_3363 4 rfl ?_
  obtain ⟨t3, hct3, h⟩ := bind_o h
  refine A_cp (k' := (k0 + 1)) (n' := (n0 + 6)) (A_runV (rest := []) X dL_law_3364 (c_X11_thrown k2_0  hct3) kY_X11_thrown kw_1668 k2_0 rfl rfl ⟨(Nat.le_of_ble_eq_true rfl), (Nat.le_of_ble_eq_true rfl), kb rfl hRk, kb rfl hRn⟩ rfl (Nat.le_of_ble_eq_true rfl)) rfl rfl ?_
  refine A_iload X dL_law_3367 1 rfl ?_
  refine A_icmp_eq (tgt := 3374) X dL_law_3369 h (by decide) (fun hc h => ?_) (fun hc h => ?_)
  · refine A_iload X dL_law_3374 1 rfl ?_
    refine A_if_ne (tgt := 3391) X dL_law_3376 h (by decide) (fun hc h => ?_) (fun hc h => ?_)
    · refine A_goto (tgt := 3407) X dL_law_3391 (by decide) ?_
      cases h
      refine A_sub (L' := [(0, .ref b), (1, .ref x), (2, .ref y), (3, .ref o), (4, .ref od), (5, .int l5)]) [2, 3, 4, 5, 6, 7] rfl ?_
      refine A_widen (k' := (k0 + 8)) (n' := (n0 + 48)) (by omega) (by omega) ?_
      exact K ((n2 _ (by omega) (by omega)).trans k1_0) ((n2 _ (by omega) (by omega)).trans k1_1) ((n2 _ (by omega) (by omega)).trans k1_2) ((n2 _ (by omega) (by omega)).trans k1_3) ((n2 _ (by omega) (by omega)).trans k1_4) ((n2 _ (by omega) (by omega)).trans k1_5) ((n2 _ (by omega) (by omega)).trans k1_6) ((n2 _ (by omega) (by omega)).trans k1_7) ((n2 _ (by omega) (by omega)).trans k1_8) ((n2 _ (by omega) (by omega)).trans k1_9) ((n2 _ (by omega) (by omega)).trans k1_10) ((n2 _ (by omega) (by omega)).trans k1_11) ((n2 _ (by omega) (by omega)).trans k1_12) ((n2 _ (by omega) (by omega)).trans k1_13) k2_0 k2_1 ((n2 _ (by omega) (by omega)).trans k1_14) (fun q z0 z1 z2 z3 z4 z5 z6 z7 z8 z9 z10 z11 z12 z13 z14 z15 z16 => ((n2 q z14 z15).trans (n1 q z0 z1 z2 z3 z4 z5 z6 z7 z8 z9 z10 z11 z12 z13 z16)))
    · refine A_aload_n X dL_law_3379 5 rfl ?_
      refine A_iconst (v := 0) X dL_law_3380 (by decide) ?_
      refine A_lald X dL_law_3381 ((n2 _ (by omega) (by omega)).trans k1_14) (by decide) ?_
      refine A_iload X dL_law_3382 0 rfl ?_
      refine A_i2l X dL_law_3384 ?_
      refine A_lcmp X dL_law_3385 ?_
      refine A_if_eq (tgt := 3391) X dL_law_3386 h (by decide) (fun hc h => ?_) (fun hc h => ?_)
      · refine A_goto (tgt := 3407) X dL_law_3391 (by decide) ?_
        cases h
        refine A_sub (L' := [(0, .ref b), (1, .ref x), (2, .ref y), (3, .ref o), (4, .ref od), (5, .int l5)]) [2, 3, 4, 5, 6, 7] rfl ?_
        refine A_widen (k' := (k0 + 8)) (n' := (n0 + 48)) (by omega) (by omega) ?_
        exact K ((n2 _ (by omega) (by omega)).trans k1_0) ((n2 _ (by omega) (by omega)).trans k1_1) ((n2 _ (by omega) (by omega)).trans k1_2) ((n2 _ (by omega) (by omega)).trans k1_3) ((n2 _ (by omega) (by omega)).trans k1_4) ((n2 _ (by omega) (by omega)).trans k1_5) ((n2 _ (by omega) (by omega)).trans k1_6) ((n2 _ (by omega) (by omega)).trans k1_7) ((n2 _ (by omega) (by omega)).trans k1_8) ((n2 _ (by omega) (by omega)).trans k1_9) ((n2 _ (by omega) (by omega)).trans k1_10) ((n2 _ (by omega) (by omega)).trans k1_11) ((n2 _ (by omega) (by omega)).trans k1_12) ((n2 _ (by omega) (by omega)).trans k1_13) k2_0 k2_1 ((n2 _ (by omega) (by omega)).trans k1_14) (fun q z0 z1 z2 z3 z4 z5 z6 z7 z8 z9 z10 z11 z12 z13 z14 z15 z16 => ((n2 q z14 z15).trans (n1 q z0 z1 z2 z3 z4 z5 z6 z7 z8 z9 z10 z11 z12 z13 z16)))
      · refine A_iconst (v := 0) X dL_law_3389 (by decide) ?_
        cases h
  · refine A_iconst (v := 0) X dL_law_3372 (by decide) ?_
    cases h
set_option maxHeartbeats 8000000 in
set_option maxRecDepth 100000 in
theorem c_W63 {E : KE} {p : Program} {l : Launch} {e : Env} {s : State} {m : MethodId} {b L9 : Nat} {xs : Nat → Int32} {below : List Frame} {meth : Method} {c : Code} {hp : Hp} {k0 n0 : Nat} {Q : State → Prop} {x : Nat} {y : Nat} {o : Nat} {od : Nat} {nx : Int32} {dp : Int32} {m_undoable : Int32} {m_undoStart : Int32} {m_thrown : Int32} {m_oftenAll : Int32} {m_inputLength : Int32} {m_position : Int32} {m_start : Int32} {m_token : Int32} {m_value : Int32} {m_letters : Int32} {m_code : Int32} {m_place : Int32} {m_outputLength : Int32} {l5 : Int32} {out : Int32} (X : CX E p l s m #[Value.ref b] meth c "DiceAuditLaw" cL_law 10) (hX : va_X b L9 xs s s.heap) (hbl : b < s.heap.size) (hbA : ¬ kA E b) (hi1 : vp_in (l5 + 1) L9) (hi2 : vp_in (l5 + 2) L9) (hi3 : vp_in (l5 + 3) L9) (hi4 : vp_in (l5 + 4) L9) (hi5 : vp_in (l5 + 5) L9) (hRk : k0 + 8 ≤ room_1.cells) (hRn : n0 + 48 ≤ room_1.slots) (g0 : hp x = some (.inr (10, [.ref (x + 126), .ref (x + 128), .ref (x + 1), .ref (x + 3), .ref (x + 16), .ref (x + 18), .ref (x + 124), .ref (x + 125)]))) (g18 : hp (x + 18) = some (.inr (3, [.ref (x + 19), .int nx, .int dp]))) (g39 : hp y = some (.inr (11, [.ref (y + 1), .ref (y + 2), .ref (y + 3), .ref (y + 4), .ref (y + 5), .int m_undoable, .int m_undoStart, .int m_thrown, .ref (y + 6), .int m_oftenAll, .ref (y + 7), .int m_inputLength, .int m_position, .int m_start, .int m_token, .int m_value, .int m_letters, .int m_code, .int m_place, .ref (y + 8), .int m_outputLength]))) (hz0 : (x + 19) ≤ y ∨ (y + 1) ≤ x) (h : f_W63 xs l5 dp m_undoable m_thrown = some out) (K : ∀ {hp' : Hp}, hp' y = some (.inr (11, [.ref (y + 1), .ref (y + 2), .ref (y + 3), .ref (y + 4), .ref (y + 5), .int m_undoable, .int m_undoStart, .int out, .ref (y + 6), .int m_oftenAll, .ref (y + 7), .int m_inputLength, .int m_position, .int m_start, .int m_token, .int m_value, .int m_letters, .int m_code, .int m_place, .ref (y + 8), .int m_outputLength])) → (∀ q, q ≠ y → hp' q = hp q) → AW E p l e room_1 s m #[Value.ref b] below meth c 10 Q hp' none (k0 + 8) (n0 + 48) 3407 [(0, .ref b), (1, .ref x), (2, .ref y), (3, .ref o), (4, .ref od), (5, .int l5)] []) : AW E p l e room_1 s m #[Value.ref b] below meth c 10 Q hp none (k0 + 0) (n0 + 0) 3394 [(0, .ref b), (1, .ref x), (2, .ref y), (3, .ref o), (4, .ref od), (5, .int l5)] [] := by
  unfold f_W63 at h
  refine A_aload_n X dL_law_3394 1 rfl ?_
  obtain ⟨t1, hct1, h⟩ := bind_o h
  refine A_cp (k' := (k0 + 0)) (n' := (n0 + 0)) (A_runV (rest := []) X dL_law_3395 (c_X10_undoDepth g0 g18  hct1) kY_X10_undoDepth kw_831 g0 rfl rfl ⟨(Nat.le_of_ble_eq_true rfl), (Nat.le_of_ble_eq_true rfl), kb rfl hRk, kb rfl hRn⟩ rfl (Nat.le_of_ble_eq_true rfl)) rfl rfl ?_
  refine A_aload_n X dL_law_3398 2 rfl ?_
  obtain ⟨t2, hct2, h⟩ := bind_o h
  refine A_c (k' := (k0 + 0)) (n' := (n0 + 0)) rfl rfl (A_runV (rest := [.int t1]) X dL_law_3399 (c_X11_undoDepth g39  hct2) kY_X11_undoDepth kw_1712 g39 rfl rfl ⟨(Nat.le_of_ble_eq_true rfl), (Nat.le_of_ble_eq_true rfl), kb rfl hRk, kb rfl hRn⟩ rfl (Nat.le_of_ble_eq_true rfl)) (fun v9 hp1 al9 hP => ?_)
  obtain ⟨rfl, k1_0, n1, rfl⟩ := hP
  replace k1_0 : hp1 y = some (.inr (11, [.ref (y + 1), .ref (y + 2), .ref (y + 3), .ref (y + 4), .ref (y + 5), .int m_undoable, .int m_undoStart, .int t2.2, .ref (y + 6), .int m_oftenAll, .ref (y + 7), .int m_inputLength, .int m_position, .int m_start, .int m_token, .int m_value, .int m_letters, .int m_code, .int m_place, .ref (y + 8), .int m_outputLength])) := k1_0
  refine A_st (st' := [.int t2.1, .int t1]) rfl ?_
  refine A_icmp_eq (tgt := 3407) X dL_law_3402 h (by decide) (fun hc h => ?_) (fun hc h => ?_)
  · cases h
    refine A_sub (L' := [(0, .ref b), (1, .ref x), (2, .ref y), (3, .ref o), (4, .ref od), (5, .int l5)]) [0, 1, 2, 3, 4, 5] rfl ?_
    refine A_widen (k' := (k0 + 8)) (n' := (n0 + 48)) (by omega) (by omega) ?_
    exact K k1_0 (fun q z0 => (n1 q z0))
  · refine A_iconst (v := 0) X dL_law_3405 (by decide) ?_
    cases h
