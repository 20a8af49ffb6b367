/-! how a text is said -/
theorem sy_ix : ∀ k, k < 20 → (nI k / 4 : Int32) = nI (k / 4) := by decide +kernel
set_option maxHeartbeats 4000000 in
set_option maxRecDepth 100000 in
theorem sy_in {E : KE} {p : Program} {l : Launch} {e : Env} {s : State} {m : MethodId} {args : Array Value} {below : List Frame} {meth : Method} {c : Code} {Q : State → Prop} {x r v z i k n : Nat} {ll : List Nat} {a : Nat → Int32} {h0 z0 : Int32} {hp0 : Hp} (X : CX E p l s m args meth c "DiceAuditLaw" cL_says 5) (hl : ll.length ≤ 128) (hll : ∀ q, q ∈ ll → q < 128) (s0 : hp0 r = some (.inr (0, [.ref v, .int 0, .int h0, .int z0]))) (s1 : hp0 v = some (.inl (kC E 3, ll.length, .inl a))) (ha : ∀ q w, ll[q]? = some w → a q = nI w) (hi : i < 200) (hrz : r ≠ z) (hvz : v ≠ z) (hk : k ≤ 20 ∧ n ≤ 150) (K : ∀ (hp' : Hp) (f' : Nat → Int32), hp' z = some (.inl (kC E 0, 5, .inl f')) → (∀ t, t < 5 → f' t = nI (wdp (pad ll) (i + 4 * t) 4)) → (∀ q, q ≠ z → hp' q = hp0 q) → AW E p l e ⟨12, 20, 150, 200⟩ s m args below meth c 5 Q hp' none k n 70 [(0, .ref x), (1, .ref r), (2, .int (nI i)), (3, .ref z)] []) : ∀ (j kk : Nat) (f : Nat → Int32) (hp : Hp), kk + j = 20 → hp z = some (.inl (kC E 0, 5, .inl f)) → (∀ t, t < 5 → f t = nI (wdp (pad ll) (i + 4 * t) (min 4 (kk - 4 * t)))) → (∀ q, q ≠ z → hp q = hp0 q) → AW E p l e ⟨12, 20, 150, 200⟩ s m args below meth c 5 Q hp none k n 17 [(0, .ref x), (1, .ref r), (2, .int (nI i)), (3, .ref z), (4, .int (nI kk))] [] := by
  intro j
  induction j with
  | zero =>
    intro kk f hp hf kz hI hfr
    refine A_iload X dL_says_17 4 rfl ?_
    refine A_bipush (v := 20) X dL_says_19 (by decide) ?_
    refine A_icmp_ge_t (tgt := 70) X dL_says_21 (by rw [n_20, q_le (by omega) (by omega)]; omega) (by decide) ?_
    refine A_sub (L' := [(0, .ref x), (1, .ref r), (2, .int (nI i)), (3, .ref z)]) [0, 1, 2, 3] rfl ?_
    exact K hp f kz (fun t ht => by rw [hI t ht, show min 4 (kk - 4 * t) = 4 by omega]) hfr
  | succ j ih =>
    intro kk f hp hf kz hI hfr
    refine A_iload X dL_says_17 4 rfl ?_
    refine A_bipush (v := 20) X dL_says_19 (by decide) ?_
    refine A_icmp_ge_f (tgt := 70) X dL_says_21 (by rw [n_20, q_le (by omega) (by omega)]; omega) (by decide) ?_
    have hp3 := hfr r hrz
    have hp4 := hfr v hvz
    rw [s0] at hp3
    rw [s1] at hp4
    refine A_aload_n X dL_says_24 3 rfl ?_
    refine A_iload X dL_says_25 4 rfl ?_
    refine A_iconst (v := 4) X dL_says_27 (by decide) ?_
    refine A_idiv X dL_says_28 (by decide) ?_
    rw [show ((nI kk) / 4) = (nI (kk / 4)) from sy_ix kk (by omega)]
    refine A_aload_n X dL_says_29 3 rfl ?_
    refine A_iload X dL_says_30 4 rfl ?_
    refine A_iconst (v := 4) X dL_says_32 (by decide) ?_
    refine A_idiv X dL_says_33 (by decide) ?_
    rw [show ((nI kk) / 4) = (nI (kk / 4)) from sy_ix kk (by omega)]
    have hq5 : kk / 4 < 5 := by omega
    refine A_iald X dL_says_34 kz (decide_eq_true (nI_in hq5 (by omega))) ?_
    rw [q_cl (by omega)]
    rw [show (f (kk / 4)) = (nI (wdp (pad ll) (i + 4 * (kk / 4)) (kk % 4))) from by rw [hI _ hq5, show min 4 (kk - 4 * (kk / 4)) = kk % 4 by omega]]
    have hw9 : (wdp (pad ll) (i + 4 * (kk / 4)) (kk % 4)) < 8388608 := wdp_lt3 (pad_lt hll) (Nat.mod_lt _ (by omega))
    refine A_bipush (v := 8) X dL_says_35 (by decide) ?_
    refine A_ishl X dL_says_37 ?_
    rw [show ((nI (wdp (pad ll) (i + 4 * (kk / 4)) (kk % 4))) <<< (8 &&& 31)) = (nI ((wdp (pad ll) (i + 4 * (kk / 4)) (kk % 4)) * 256)) from sh_8 hw9]
    refine A_iload_n X dL_says_38 2 rfl ?_
    refine A_iload X dL_says_39 4 rfl ?_
    refine A_iadd X dL_says_41 ?_
    rw [show ((nI i) + (nI kk)) = (nI (i + kk)) from nI_add _ _]
    refine A_aload_n X dL_says_42 1 rfl ?_
    refine A_cp (k' := k) (n' := n) (A_runV (rest := [.int (nI (i + kk)), .int (nI ((wdp (pad ll) (i + 4 * (kk / 4)) (kk % 4)) * 256)), .int (nI (kk / 4)), .ref z]) X dL_says_43 (m_length hp3 hp4) kY_J0_length_8abf5 kw_996 hp3 rfl rfl ⟨(Nat.le_of_ble_eq_true rfl), (Nat.le_of_ble_eq_true rfl), (by dsimp only; omega), (by dsimp only; omega)⟩ rfl (Nat.le_of_ble_eq_true rfl)) rfl rfl ?_
    have hpl := pad_lt hll (i + kk)
    have K62 : AW E p l e ⟨12, 20, 150, 200⟩ s m args below meth c 5 Q hp none k n 62 [(0, .ref x), (1, .ref r), (2, .int (nI i)), (3, .ref z), (4, .int (nI kk))] [.int (nI (pad ll (i + kk))), .int (nI ((wdp (pad ll) (i + 4 * (kk / 4)) (kk % 4)) * 256)), .int (nI (kk / 4)), .ref z] := by
      refine A_ior X dL_says_62 ?_
      rw [show ((nI ((wdp (pad ll) (i + 4 * (kk / 4)) (kk % 4)) * 256)) ||| (nI (pad ll (i + kk)))) = (nI ((wdp (pad ll) (i + 4 * (kk / 4)) (kk % 4)) * 256 + (pad ll (i + kk)))) from or_8 hw9 (by omega)]
      refine A_iast X dL_says_63 kz (decide_eq_true (nI_in hq5 (by omega))) (fun hp1 k1 n1 => ?_)
      rw [q_cl (by omega)] at k1
      refine A_iinc (j := 4) (v := ((nI kk) + 1)) (L' := [(4, .int ((nI kk) + 1)), (0, .ref x), (1, .ref r), (2, .int (nI i)), (3, .ref z)]) X dL_says_64 rfl rfl (by decide) rfl ?_
      rw [show nI kk + 1 = nI (kk + 1) from nI_add _ _]
      refine A_goto (tgt := 17) X dL_says_67 (by decide) ?_
      refine A_sub (L' := [(0, .ref x), (1, .ref r), (2, .int (nI i)), (3, .ref z), (4, .int (nI (kk + 1)))]) [1, 2, 3, 4, 0] rfl ?_
      refine ih (kk + 1) _ hp1 (by omega) k1 (fun t ht => ?_) (fun q hq => (n1 q hq).trans (hfr q hq))
      by_cases c9 : t = kk / 4
      · rw [q_us c9, c9, show min 4 (kk + 1 - 4 * (kk / 4)) = kk % 4 + 1 by omega]
        refine cI ?_
        show _ = (wdp (pad ll) (i + 4 * (kk / 4)) (kk % 4)) * 256 + pad ll (i + 4 * (kk / 4) + kk % 4)
        rw [show i + 4 * (kk / 4) + kk % 4 = i + kk by omega]
      · rw [q_un c9, hI t ht, show min 4 (kk + 1 - 4 * t) = min 4 (kk - 4 * t) by omega]
    by_cases hc : ll.length ≤ i + kk
    · refine A_icmp_ge_t (tgt := 60) X dL_says_46 (by rw [q_le (by omega) (by omega)]; omega) (by decide) ?_
      refine A_bipush (v := 32) X dL_says_60 (by decide) ?_
      rw [show (32 : Int32) = nI (pad ll (i + kk)) by rw [pad_out hc]; rfl]
      exact K62
    · refine A_icmp_ge_f (tgt := 60) X dL_says_46 (by rw [q_le (by omega) (by omega)]; omega) (by decide) ?_
      refine A_aload_n X dL_says_49 1 rfl ?_
      refine A_iload_n X dL_says_50 2 rfl ?_
      refine A_iload X dL_says_51 4 rfl ?_
      refine A_iadd X dL_says_53 ?_
      rw [show ((nI i) + (nI kk)) = (nI (i + kk)) from nI_add _ _]
      refine A_cp (k' := k) (n' := n) (A_runV (rest := [.int (nI ((wdp (pad ll) (i + 4 * (kk / 4)) (kk % 4)) * 256)), .int (nI (kk / 4)), .ref z]) X dL_says_54 (m_charAt hp3 hp4 (i := i + kk) (cz := (pad ll (i + kk))) (by omega) (by omega) hpl (ha _ _ (pad_in (by omega)))) kY_J0_charAt_5068e kw_997 hp3 rfl rfl ⟨(Nat.le_of_ble_eq_true rfl), (Nat.le_of_ble_eq_true rfl), (by dsimp only; omega), (by dsimp only; omega)⟩ rfl (Nat.le_of_ble_eq_true rfl)) rfl rfl ?_
      refine A_goto (tgt := 62) X dL_says_57 (by decide) ?_
      exact K62
set_option maxHeartbeats 4000000 in
set_option maxRecDepth 100000 in
theorem sy_out {E : KE} {p : Program} {l : Launch} {e : Env} {s : State} {m : MethodId} {args : Array Value} {below : List Frame} {meth : Method} {c : Code} {Q : State → Prop} {x r v : Nat} {ll : List Nat} {a : Nat → Int32} {h0 z0 : Int32} {hp0 : Hp} (X : CX E p l s m args meth c "DiceAuditLaw" cL_says 5) (hl : ll.length ≤ 128) (hll : ∀ q, q ∈ ll → q < 128) (g0 : hp0 x = some (.inr (12, [.ref (x + 126), .ref (x + 128), .ref (x + 1), .ref (x + 3), .ref (x + 16), .ref (x + 18), .ref (x + 124), .ref (x + 125)]))) (s0 : hp0 r = some (.inr (0, [.ref v, .int 0, .int h0, .int z0]))) (s1 : hp0 v = some (.inl (kC E 3, ll.length, .inl a))) (ha : ∀ q w, ll[q]? = some w → a q = nI w) (hr6 : r ≠ x + 126) (hr7 : r ≠ x + 127) (hv6 : v ≠ x + 126) (hv7 : v ≠ x + 127) : ∀ (j i k : Nat) (tb : Nat → Int32) (hp : Hp), (ll.length ≤ i + 20 * j ∧ i + 20 * j ≤ 160) → k + 2 * j ≤ 18 → hp (x + 126) = some (.inr (10, [.ref (x + 127), .int (nI i)])) → hp (x + 127) = some (.inl (kC E 0, 900, .inl tb)) → TR (pad ll) i tb → (∀ q w, hp0 q = some w → q ≠ x + 126 → q ≠ x + 127 → hp q = some w) → (∀ (hp' : Hp) (k' i' : Nat) (tb' : Nat → Int32), k' ≤ 18 → ll.length ≤ i' → i' ≤ 160 → hp' (x + 126) = some (.inr (10, [.ref (x + 127), .int (nI i')])) → hp' (x + 127) = some (.inl (kC E 0, 900, .inl tb')) → TR (pad ll) i' tb' → (∀ q w, hp0 q = some w → q ≠ x + 126 → q ≠ x + 127 → hp' q = some w) → AW E p l e ⟨12, 20, 150, 200⟩ s m args below meth c 5 Q hp' none k' (6 * k') 96 [(0, .ref x), (1, .ref r)] []) → AW E p l e ⟨12, 20, 150, 200⟩ s m args below meth c 5 Q hp none k (6 * k) 2 [(0, .ref x), (1, .ref r), (2, .int (nI i))] [] := by
  intro j
  induction j with
  | zero =>
    intro i k tb hp hi hk g22 g23 hT hkp K
    have hp3 := hkp r _ s0 hr6 hr7
    have hp4 := hkp v _ s1 hv6 hv7
    refine A_iload_n X dL_says_2 2 rfl ?_
    refine A_aload_n X dL_says_3 1 rfl ?_
    refine A_cp (k' := k) (n' := (6 * k)) (A_runV (rest := [.int (nI i)]) X dL_says_4 (m_length hp3 hp4) kY_J0_length_8abf5 kw_996 hp3 rfl rfl ⟨(Nat.le_of_ble_eq_true rfl), (Nat.le_of_ble_eq_true rfl), (by dsimp only; omega), (by dsimp only; omega)⟩ rfl (Nat.le_of_ble_eq_true rfl)) rfl rfl ?_
    refine A_icmp_ge_t (tgt := 96) X dL_says_7 (by rw [q_le (by omega) (by omega)]; omega) (by decide) ?_
    refine A_sub (L' := [(0, .ref x), (1, .ref r)]) [0, 1] rfl ?_
    exact K hp k i tb (by omega) (by omega) (by omega) g22 g23 hT hkp
  | succ j ih =>
    intro i k tb hp hi hk g22 g23 hT hkp K
    have hp3 := hkp r _ s0 hr6 hr7
    have hp4 := hkp v _ s1 hv6 hv7
    refine A_iload_n X dL_says_2 2 rfl ?_
    refine A_aload_n X dL_says_3 1 rfl ?_
    refine A_cp (k' := k) (n' := (6 * k)) (A_runV (rest := [.int (nI i)]) X dL_says_4 (m_length hp3 hp4) kY_J0_length_8abf5 kw_996 hp3 rfl rfl ⟨(Nat.le_of_ble_eq_true rfl), (Nat.le_of_ble_eq_true rfl), (by dsimp only; omega), (by dsimp only; omega)⟩ rfl (Nat.le_of_ble_eq_true rfl)) rfl rfl ?_
    by_cases hc : ll.length ≤ i
    · refine A_icmp_ge_t (tgt := 96) X dL_says_7 (by rw [q_le (by omega) (by omega)]; exact hc) (by decide) ?_
      refine A_sub (L' := [(0, .ref x), (1, .ref r)]) [0, 1] rfl ?_
      exact K hp k i tb (by omega) hc (by omega) g22 g23 hT hkp
    refine A_icmp_ge_f (tgt := 96) X dL_says_7 (by rw [q_le (by omega) (by omega)]; exact hc) (by decide) ?_
    refine A_iconst (v := 5) X dL_says_10 (by decide) ?_
    refine A_newr (N := 5) X dL_says_11 kw_54 (by decide) (by decide) (by decide) (by dsimp only; omega) (by dsimp only; omega) (fun z hp1 f1 kz n1 => ?_)
    have hz6 := f1 _ _ g22
    have hz7 := f1 _ _ g23
    have hzr := f1 _ _ hp3
    have hzv := f1 _ _ hp4
    have q0 := (n1 r (by omega)).trans hp3
    have q1 := (n1 v (by omega)).trans hp4
    refine A_astore_n (L' := [(3, .ref z), (0, .ref x), (1, .ref r), (2, .int (nI i))]) X dL_says_13 rfl (by decide) rfl ?_
    refine A_iconst (v := 0) X dL_says_14 (by decide) ?_
    rw [n_0]
    refine A_istore (L' := [(4, .int (nI 0)), (3, .ref z), (0, .ref x), (1, .ref r), (2, .int (nI i))]) X dL_says_15 (by decide) rfl ?_
    refine A_sub (L' := [(0, .ref x), (1, .ref r), (2, .int (nI i)), (3, .ref z), (4, .int (nI 0))]) [2, 3, 4, 1, 0] rfl ?_
    refine sy_in (hp0 := hp1) X hl hll q0 q1 ha (by omega) (by omega) (by omega) ⟨by omega, by omega⟩ (fun hp2 f2 kz hf2 n2 => ?_) 20 0 _ hp1 (by omega) kz (fun t ht => by rw [show min 4 (0 - 4 * t) = 0 by omega]; rfl) (fun q _ => rfl)
    have hk2 : ∀ q w, hp q = some w → hp2 q = some w := fun q w hq => (n2 q (Nat.ne_of_lt (f1 _ _ hq))).trans ((n1 q (Nat.ne_of_lt (f1 _ _ hq))).trans hq)
    have hxx : x ≠ x + 126 ∧ x ≠ x + 127 := by omega
    have p0 := hk2 _ _ (hkp x _ g0 hxx.1 hxx.2)
    have p22 := hk2 _ _ g22
    have p23 := hk2 _ _ g23
    refine A_aload_n X dL_says_70 0 rfl ?_
    refine A_aload_n X dL_says_71 3 rfl ?_
    refine A_iconst (v := 0) X dL_says_72 (by decide) ?_
    refine A_iald X dL_says_73 kz (by decide) ?_
    refine A_aload_n X dL_says_74 3 rfl ?_
    refine A_iconst (v := 1) X dL_says_75 (by decide) ?_
    refine A_iald X dL_says_76 kz (by decide) ?_
    refine A_aload_n X dL_says_77 3 rfl ?_
    refine A_iconst (v := 2) X dL_says_78 (by decide) ?_
    refine A_iald X dL_says_79 kz (by decide) ?_
    refine A_aload_n X dL_says_80 3 rfl ?_
    refine A_iconst (v := 3) X dL_says_81 (by decide) ?_
    refine A_iald X dL_says_82 kz (by decide) ?_
    refine A_aload_n X dL_says_83 3 rfl ?_
    refine A_iconst (v := 4) X dL_says_84 (by decide) ?_
    refine A_iald X dL_says_85 kz (by decide) ?_
    obtain ⟨tb2, e9, hT2⟩ := as_i (N := 2000) (L := i) (tb := tb) (pad_lt hll) (by omega) (by omega) hT (hf2 0 (by omega)) (hf2 1 (by omega)) (hf2 2 (by omega)) (hf2 3 (by omega)) (hf2 4 (by omega))
    refine A_cX (k' := k + 2) (n' := 6 * k + 11) rfl rfl (A_runVX (rest := []) X dL_says_86 (c_X10_appendInput p0 p22 p23 e9) kY_X10_appendInput kw_998 p0 rfl rfl ⟨(Nat.le_of_ble_eq_true rfl), (Nat.le_of_ble_eq_true rfl), (by dsimp only; omega), (by dsimp only; omega)⟩ rfl (Nat.le_of_ble_eq_true rfl)) (fun C hp3 hP => by obtain ⟨hC, _⟩ := hP; cases hC) (fun v9 hp3 al9 hP => ?_)
    obtain ⟨u9, hu9, rfl, k22, k23, n3, -⟩ := hP
    cases hu9
    refine A_al ?_
    refine A_st (st' := [.int (nI (i + 20))]) rfl ?_
    refine A_pop X dL_says_89 rfl ?_
    refine A_iinc (j := 2) (v := ((nI i) + 20)) (L' := [(2, .int ((nI i) + 20)), (0, .ref x), (1, .ref r), (3, .ref z)]) X dL_says_90 rfl rfl (by decide) rfl ?_
    rw [show nI i + 20 = nI (i + 20) from nI_add _ _]
    refine A_goto (tgt := 2) X dL_says_93 (by decide) ?_
    refine A_sub (L' := [(0, .ref x), (1, .ref r), (2, .int (nI (i + 20)))]) [1, 2, 0] rfl ?_
    refine A_widen (k' := k + 2) (n' := 6 * (k + 2)) (by omega) (by omega) ?_
    exact ih (i + 20) (k + 2) tb2 hp3 (by omega) (by omega) k22 k23 hT2 (fun q w hq h6 h7 => (n3 q h6 h7).trans (hk2 _ _ (hkp q w hq h6 h7))) K
set_option maxHeartbeats 4000000 in
set_option maxRecDepth 100000 in
theorem c_L_says {E : KE} {l : Launch} {hp : Hp} {x r v : Nat} {ll : List Nat} {a : Nat → Int32} {h0 z0 : Int32} {itb : Nat → Int32} (hl : ll.length ≤ 128) (hll : ∀ q, q ∈ ll → q < 128) (g0 : hp x = some (.inr (12, [.ref (x + 126), .ref (x + 128), .ref (x + 1), .ref (x + 3), .ref (x + 16), .ref (x + 18), .ref (x + 124), .ref (x + 125)]))) (g22 : hp (x + 126) = some (.inr (10, [.ref (x + 127), .int (nI 0)]))) (g23 : hp (x + 127) = some (.inl (kC E 0, 900, .inl itb))) (s0 : hp r = some (.inr (0, [.ref v, .int 0, .int h0, .int z0]))) (s1 : hp v = some (.inl (kC E 3, ll.length, .inl a))) (ha : ∀ q w, ll[q]? = some w → a q = nI w) (hr6 : r ≠ x + 126) (hr7 : r ≠ x + 127) (hv6 : v ≠ x + 126) (hv7 : v ≠ x + 127) : AM E l yL_says cL_says 5 (Option.none : Option Jvm.ClassFile.FieldType) ⟨12, 20, 150, 200⟩ [.ref x, .ref r] hp none (fun v9 hp' _ => v9 = none ∧ ∃ tb' : Nat → Int32, hp' (x + 126) = some (.inr (10, [.ref (x + 127), .int (nI ll.length)])) ∧ hp' (x + 127) = some (.inl (kC E 0, 900, .inl tb')) ∧ TR (pad ll) ll.length tb' ∧ ∀ q w, hp q = some w → q ≠ x + 126 → q ≠ x + 127 → hp' q = some w) := by
  refine A_of (by decide +kernel) (Nat.le_of_ble_eq_true rfl) ?_
  intro p e s m args below meth c X hr hnm
  have X : CX E p l s m args meth c "DiceAuditLaw" cL_says 5 := X
  refine A_L (L' := [(0, .ref x), (1, .ref r)]) rfl ?_
  refine A_iconst (v := 0) X dL_says_0 (by decide) ?_
  rw [n_0]
  refine A_istore_n (L' := [(2, .int (nI 0)), (0, .ref x), (1, .ref r)]) X dL_says_1 rfl (by decide) rfl ?_
  refine A_sub (L' := [(0, .ref x), (1, .ref r), (2, .int (nI 0))]) [1, 2, 0] rfl ?_
  refine sy_out (hp0 := hp) X hl hll g0 s0 s1 ha hr6 hr7 hv6 hv7 7 0 0 itb hp (by omega) (by omega) g22 g23 ⟨by omega, fun i hi => by omega⟩ (fun q w hq _ _ => hq) (fun hp1 k1 i1 tb1 hk1 hi1 hi2 k22 k23 hT hkp => ?_)
  have hp3 := hkp r _ s0 hr6 hr7
  have hp4 := hkp v _ s1 hv6 hv7
  have p0 := hkp x _ g0 (by omega) (by omega)
  refine A_aload_n X dL_says_96 0 rfl ?_
  refine A_aload_n X dL_says_97 1 rfl ?_
  refine A_cp (k' := k1) (n' := (6 * k1)) (A_runV (rest := [.ref x]) X dL_says_98 (m_length hp3 hp4) kY_J0_length_8abf5 kw_996 hp3 rfl rfl ⟨(Nat.le_of_ble_eq_true rfl), (Nat.le_of_ble_eq_true rfl), (by dsimp only; omega), (by dsimp only; omega)⟩ rfl (Nat.le_of_ble_eq_true rfl)) rfl rfl ?_
  have e9 := tr_i hi1 (by omega : i1 < 2147483648)
  refine A_cX (k' := k1 + 1) (n' := 6 * k1 + 6) rfl rfl (A_runVX (rest := []) X dL_says_101 (c_X10_truncateInput p0 k22 e9) kY_X10_truncateInput kw_1022 p0 rfl rfl ⟨(Nat.le_of_ble_eq_true rfl), (Nat.le_of_ble_eq_true rfl), (by dsimp only; omega), (by dsimp only; omega)⟩ rfl (Nat.le_of_ble_eq_true rfl)) (fun C hp2 hP => by obtain ⟨hC, _⟩ := hP; cases hC) (fun v9 hp2 al9 hP => ?_)
  obtain ⟨u9, hu9, rfl, p22, n3, -⟩ := hP
  cases hu9
  refine A_al ?_
  refine A_st (st' := [.int (nI ll.length)]) rfl ?_
  refine A_pop X dL_says_104 rfl ?_
  exact A_vret X dL_says_105 hr ⟨rfl, tb1, p22, (n3 _ (by omega)).trans k23, TR_cut hT hi1, fun q w hq h6 h7 => (n3 q h6).trans (hkp q w hq h6 h7)⟩ (by dsimp only; omega) (by dsimp only; omega)
