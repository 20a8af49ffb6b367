/-! the decimal digits of a number below 100000 -/
def decL (v : Nat) : List Nat := if v < 10 then [48 + v] else if v < 100 then [48 + v / 10, 48 + v % 10] else if v < 1000 then [48 + v / 100, 48 + v / 10 % 10, 48 + v % 10] else if v < 10000 then [48 + v / 1000, 48 + v / 100 % 10, 48 + v / 10 % 10, 48 + v % 10] else [48 + v / 10000, 48 + v / 1000 % 10, 48 + v / 100 % 10, 48 + v / 10 % 10, 48 + v % 10]
theorem decL_len {v : Nat} : 1 ≤ (decL v).length ∧ (decL v).length ≤ 5 := by
  unfold decL
  (repeat' split) <;> simp
theorem decL_at {v i c : Nat} (hv : v < 100000) (h : (decL v)[i]? = some c) : 48 ≤ c ∧ c ≤ 57 := by
  have hm : c ∈ decL v := List.mem_of_getElem? h
  unfold decL at hm
  (repeat' split at hm) <;> simp only [List.mem_cons, List.not_mem_nil, or_false] at hm <;> omega
theorem q_nar {c : Nat} (h : c < 128) : vp_nar .byte (nI c) = nI c := nar128b c h
theorem q_ndv {w : Nat} (hw : w < 1073741824) : (-nI w) / 100 = -nI (w / 100) := sb_ndiv (by omega)
theorem q_nrm {w : Nat} (hw : w < 1073741824) : (-nI (w / 100)) * 100 - (-nI w) = nI (w % 100) := sb_nrem (by omega)
theorem q_nlt {a b : Nat} (ha : a < 1073741824) (hb : b < 1073741824) : (-nI a < -nI b) = (b < a) := propext (sb_nlt (by omega) (by omega))
theorem q_nle {a b : Nat} (ha : a < 1073741824) (hb : b < 1073741824) : (-nI a ≤ -nI b) = (b ≤ a) := propext (sb_nle (by omega) (by omega))
theorem q_ng {a : Nat} (ha : a < 1073741824) (h : 0 < a) : (-nI a < 0) = True := eq_true (by
  rw [Int32.lt_iff_toInt_lt, sb_negT (by omega)]
  show -(a : Int) < 0
  omega)
theorem q_ndv2 {w : Nat} (hw : w < 1073741824) : (-nI w) / nI 100 = -nI (w / 100) := sb_ndiv (by omega)
theorem q_nrm2 {w : Nat} (hw : w < 1073741824) : (-nI (w / 100)) * nI 100 - (-nI w) = nI (w % 100) := sb_nrem (by omega)
theorem n_100 : (100 : Int32) = nI 100 := (rfl)
theorem n_m1 : (-1 : Int32) = -nI 1 := (rfl)
theorem n_m10 : (-10 : Int32) = -nI 10 := (rfl)
theorem n_m100 : (-100 : Int32) = -nI 100 := (rfl)
theorem n_m9 : (-9 : Int32) = -nI 9 := (rfl)
theorem ss_st {N j v p k : Nat} (hv : v < 100000) (hp : p ≤ 1000000) (hk : k < 10) : f_J6_stringSize_0f7a4_L16 N (j + 1) (-nI v) (nI 0) (-nI p) (nI k) = if p ≤ v then f_J6_stringSize_0f7a4_L16 N j (-nI v) (nI 0) (-nI (10 * p)) (nI (k + 1)) else some (nI k) := by
  show f_J6_stringSize_0f7a4_L16_F N (f_J6_stringSize_0f7a4_L16 N j) (-nI v) (nI 0) (-nI p) (nI k) = _
  unfold f_J6_stringSize_0f7a4_L16_F
  have a1 : ¬ (10 : Int32) ≤ nI k := by
    rw [n_10, q_le (by omega) (by omega)]; omega
  rw [if_neg a1]
  by_cases h : p ≤ v
  · have a2 : -nI v ≤ -nI p := by
      rw [q_nle (by omega) (by omega)]; exact h
    have a3 : (10 : Int32) * -nI p = -nI (10 * p) := by
      rw [Int32.mul_neg, n_10, pk_mul]
    have a4 : nI k + 1 = nI (k + 1) := by
      rw [n_1, nI_add]
    rw [if_pos h, if_pos a2, a3, a4]
  · have a2 : ¬ -nI v ≤ -nI p := by
      rw [q_nle (by omega) (by omega)]; exact h
    rw [if_neg h, if_neg a2, nI_add, Nat.add_zero]
theorem z_size {N v : Nat} (hN : 20 < N) (hv : v < 100000) : f_J6_stringSize_0f7a4 N (nI v) = some (nI (decL v).length) := by
  obtain ⟨N, rfl⟩ : ∃ k, N = k + 8 := ⟨N - 8, by omega⟩
  unfold decL
  have h0 : ¬ nI v < nI 0 := by rw [q_lt (by omega) (by omega)]; omega
  unfold f_J6_stringSize_0f7a4
  rw [n_0, if_neg h0]
  unfold f_J6_stringSize_0f7a4_L11
  rw [n_m10, n_1]
  by_cases h1 : v < 10
  · rw [ss_st hv (by omega) (by omega), if_neg (by omega), if_pos h1]; rfl
  · rw [if_neg h1, ss_st hv (by omega) (by omega), if_pos (by omega)]
    by_cases h2 : v < 100
    · rw [ss_st hv (by omega) (by omega), if_neg (by omega), if_pos h2]; rfl
    · rw [if_neg h2, ss_st hv (by omega) (by omega), if_pos (by omega)]
      by_cases h3 : v < 1000
      · rw [ss_st hv (by omega) (by omega), if_neg (by omega), if_pos h3]; rfl
      · rw [if_neg h3, ss_st hv (by omega) (by omega), if_pos (by omega)]
        by_cases h4 : v < 10000
        · rw [ss_st hv (by omega) (by omega), if_neg (by omega), if_pos h4]; rfl
        · rw [if_neg h4, ss_st hv (by omega) (by omega), if_pos (by omega), ss_st hv (by omega) (by omega), if_neg (by omega)]; rfl
theorem gc_e {N n i : Nat} {f : Nat → Int32} : f_J6_getChars_ba4f3_L104 N n (nI i) (nI 0) f = some (nI i, f) := by
  unfold f_J6_getChars_ba4f3_L104
  rw [n_0, if_pos rfl]
theorem gc_m {i : Nat} (h : 0 < i) : nI i + (-1) = nI (i - 1) := by rw [n_m1]; exact q_m1 h
theorem gc_3 {N n j w i : Nat} {f : Nat → Int32} (hw : w < 100000) (h1 : 100 ≤ w) (h2 : 2 ≤ i) (hn : i ≤ n) (hn2 : n < 1000) : f_J6_getChars_ba4f3_L22 N n (j + 1) (-nI w) (nI i) (nI 0) f = f_J6_getChars_ba4f3_L22 N n j (-nI (w / 100)) (nI (i - 1 - 1)) (nI 0) (upd (upd f (i - 1) (nI (48 + w % 100 % 10))) (i - 1 - 1) (nI (48 + w % 100 / 10))) := by
  show f_J6_getChars_ba4f3_L22_F N n (f_J6_getChars_ba4f3_L22 N n j) (-nI w) (nI i) (nI 0) f = _
  unfold f_J6_getChars_ba4f3_L22_F
  have a1 : ¬ (-100 : Int32) < -nI w := by
    rw [n_m100, q_nlt (by omega) (by omega)]; omega
  rw [if_neg a1, q_ndv (by omega), q_nrm (by omega), gc_m (by omega : 0 < i), gc_m (by omega : 0 < i - 1)]
  rw [q_gi (i := w % 100) (n := 100) (by omega) (by omega), q_gi (i := i - 1) (n := n) (by omega) (by omega), q_gi (i := w % 100) (n := 100) (by omega) (by omega), q_gi (i := i - 1 - 1) (n := n) (by omega) (by omega)]
  rw [q_cl (a := i - 1) (by omega), q_cl (a := i - 1 - 1) (by omega), q_cl (a := w % 100) (by omega)]
  show f_J6_getChars_ba4f3_L22 N n j (-nI (w / 100)) (nI (i - 1 - 1)) (nI 0) (upd (upd f (i - 1) (vp_nar .byte (nI (48 + w % 100 % 10)))) (i - 1 - 1) (vp_nar .byte (nI (48 + w % 100 / 10)))) = _
  rw [q_nar (by omega), q_nar (by omega)]
theorem gc_1 {N n j w i : Nat} {f : Nat → Int32} (hw : w < 10) (h2 : 1 ≤ i) (hn : i ≤ n) (hn2 : n < 1000) : f_J6_getChars_ba4f3_L22 N n (j + 1) (-nI w) (nI i) (nI 0) f = some (nI (i - 1), upd f (i - 1) (nI (48 + w % 10))) := by
  show f_J6_getChars_ba4f3_L22_F N n (f_J6_getChars_ba4f3_L22 N n j) (-nI w) (nI i) (nI 0) f = _
  unfold f_J6_getChars_ba4f3_L22_F
  have a1 : (-100 : Int32) < -nI w := by
    rw [n_m100, q_nlt (by omega) (by omega)]; omega
  have a2 : (-9 : Int32) ≤ -nI w := by
    rw [n_m9, q_nle (by omega) (by omega)]; omega
  rw [if_pos a1, if_pos a2, Int32.neg_neg, gc_m (by omega : 0 < i)]
  rw [q_gi (i := w) (n := 100) (by omega) (by omega), q_gi (i := i - 1) (n := n) (by omega) (by omega)]
  rw [q_cl (a := i - 1) (by omega), q_cl (a := w) (by omega)]
  show f_J6_getChars_ba4f3_L104 N n (nI (i - 1)) (nI 0) (upd f (i - 1) (vp_nar .byte (nI (48 + w % 10)))) = _
  rw [q_nar (by omega), gc_e]
theorem gc_2 {N n j w i : Nat} {f : Nat → Int32} (hw : w < 100) (h1 : 10 ≤ w) (h2 : 2 ≤ i) (hn : i ≤ n) (hn2 : n < 1000) : f_J6_getChars_ba4f3_L22 N n (j + 1) (-nI w) (nI i) (nI 0) f = some (nI (i - 1 - 1), upd (upd f (i - 1) (nI (48 + w % 10))) (i - 1 - 1) (nI (48 + w / 10))) := by
  show f_J6_getChars_ba4f3_L22_F N n (f_J6_getChars_ba4f3_L22 N n j) (-nI w) (nI i) (nI 0) f = _
  unfold f_J6_getChars_ba4f3_L22_F
  have a1 : (-100 : Int32) < -nI w := by
    rw [n_m100, q_nlt (by omega) (by omega)]; omega
  have a2 : ¬ (-9 : Int32) ≤ -nI w := by
    rw [n_m9, q_nle (by omega) (by omega)]; omega
  rw [if_pos a1, if_neg a2, Int32.neg_neg, gc_m (by omega : 0 < i), gc_m (by omega : 0 < i - 1)]
  rw [q_gi (i := w) (n := 100) (by omega) (by omega), q_gi (i := i - 1) (n := n) (by omega) (by omega), q_gi (i := w) (n := 100) (by omega) (by omega), q_gi (i := i - 1 - 1) (n := n) (by omega) (by omega)]
  rw [q_cl (a := i - 1) (by omega), q_cl (a := i - 1 - 1) (by omega), q_cl (a := w) (by omega)]
  show f_J6_getChars_ba4f3_L104 N n (nI (i - 1 - 1)) (nI 0) (upd (upd f (i - 1) (vp_nar .byte (nI (48 + w % 10)))) (i - 1 - 1) (vp_nar .byte (nI (48 + w / 10)))) = _
  rw [q_nar (by omega), q_nar (by omega), gc_e]
/-- getChars writes the digits ahead of place i -/
theorem z_chars {N n v i : Nat} {f : Nat → Int32} (hN : 20 < N) (hv : v < 100000) (hi : (decL v).length ≤ i) (hn : i ≤ n) (hn2 : n < 1000) (hf : ByF f) : ∃ r f', f_J6_getChars_ba4f3 N n f (nI v) (nI i) = some (r, f') ∧ ByF f' ∧ (∀ k, k < i - (decL v).length → f' k = f k) ∧ ∀ k c, (decL v)[k]? = some c → f' (i - (decL v).length + k) = nI c := by
  obtain ⟨N, rfl⟩ : ∃ k, N = k + 8 := ⟨N - 8, by omega⟩
  have h0 : nI 0 ≤ nI v := by rw [q_le (by omega) (by omega)]; omega
  have e : f_J6_getChars_ba4f3 (N + 8) n f (nI v) (nI i) = f_J6_getChars_ba4f3_L22 (N + 8) n (N + 8) (-nI v) (nI i) (nI 0) f := by
    unfold f_J6_getChars_ba4f3
    rw [n_0, if_pos h0]
    unfold f_J6_getChars_ba4f3_L12
    rw [n_0, if_pos rfl]
  rw [e]
  unfold decL at hi ⊢
  by_cases h1 : v < 10
  · rw [if_pos h1] at hi ⊢
    simp only [List.length_cons, List.length_nil] at hi ⊢
    rw [gc_1 h1 (by omega) hn hn2]
    refine ⟨_, _, rfl, (hf.upd (by omega)), fun k hk => ?_, fun k c hc => ?_⟩
    · rw [q_un (by omega)]
    · match k, hc with
      | 0, hc => cases hc; rw [q_us (by omega)]; try exact cI (by omega)
      | k + 1, hc => simp at hc
  · by_cases h2 : v < 100
    · rw [if_neg h1, if_pos h2] at hi ⊢
      simp only [List.length_cons, List.length_nil] at hi ⊢
      rw [gc_2 h2 (by omega) (by omega) hn hn2]
      refine ⟨_, _, rfl, ((hf.upd (by omega)).upd (by omega)), fun k hk => ?_, fun k c hc => ?_⟩
      · rw [q_un (by omega), q_un (by omega)]
      · match k, hc with
        | 0, hc => cases hc; rw [q_us (by omega)]; try exact cI (by omega)
        | 1, hc => cases hc; rw [q_un (by omega), q_us (by omega)]; try exact cI (by omega)
        | k + 2, hc => simp at hc
    · by_cases h3 : v < 1000
      · rw [if_neg h1, if_neg h2, if_pos h3] at hi ⊢
        simp only [List.length_cons, List.length_nil] at hi ⊢
        rw [gc_3 hv (by omega) (by omega) hn hn2, gc_1 (by omega) (by omega) (by omega) hn2]
        refine ⟨_, _, rfl, (((hf.upd (by omega)).upd (by omega)).upd (by omega)), fun k hk => ?_, fun k c hc => ?_⟩
        · rw [q_un (by omega), q_un (by omega), q_un (by omega)]
        · match k, hc with
          | 0, hc => cases hc; rw [q_us (by omega)]; try exact cI (by omega)
          | 1, hc => cases hc; rw [q_un (by omega), q_us (by omega)]; try exact cI (by omega)
          | 2, hc => cases hc; rw [q_un (by omega), q_un (by omega), q_us (by omega)]; try exact cI (by omega)
          | k + 3, hc => simp at hc
      · by_cases h4 : v < 10000
        · rw [if_neg h1, if_neg h2, if_neg h3, if_pos h4] at hi ⊢
          simp only [List.length_cons, List.length_nil] at hi ⊢
          rw [gc_3 hv (by omega) (by omega) hn hn2, gc_2 (by omega) (by omega) (by omega) (by omega) hn2]
          refine ⟨_, _, rfl, ((((hf.upd (by omega)).upd (by omega)).upd (by omega)).upd (by omega)), fun k hk => ?_, fun k c hc => ?_⟩
          · rw [q_un (by omega), q_un (by omega), q_un (by omega), q_un (by omega)]
          · match k, hc with
            | 0, hc => cases hc; rw [q_us (by omega)]; try exact cI (by omega)
            | 1, hc => cases hc; rw [q_un (by omega), q_us (by omega)]; try exact cI (by omega)
            | 2, hc => cases hc; rw [q_un (by omega), q_un (by omega), q_us (by omega)]; try exact cI (by omega)
            | 3, hc => cases hc; rw [q_un (by omega), q_un (by omega), q_un (by omega), q_us (by omega)]; try exact cI (by omega)
            | k + 4, hc => simp at hc
        · rw [if_neg h1, if_neg h2, if_neg h3, if_neg h4] at hi ⊢
          simp only [List.length_cons, List.length_nil] at hi ⊢
          rw [gc_3 hv (by omega) (by omega) hn hn2, gc_3 (by omega) (by omega) (by omega) (by omega) hn2, gc_1 (by omega) (by omega) (by omega) hn2]
          refine ⟨_, _, rfl, (((((hf.upd (by omega)).upd (by omega)).upd (by omega)).upd (by omega)).upd (by omega)), fun k hk => ?_, fun k c hc => ?_⟩
          · rw [q_un (by omega), q_un (by omega), q_un (by omega), q_un (by omega), q_un (by omega)]
          · match k, hc with
            | 0, hc => cases hc; rw [q_us (by omega)]; try exact cI (by omega)
            | 1, hc => cases hc; rw [q_un (by omega), q_us (by omega)]; try exact cI (by omega)
            | 2, hc => cases hc; rw [q_un (by omega), q_un (by omega), q_us (by omega)]; try exact cI (by omega)
            | 3, hc => cases hc; rw [q_un (by omega), q_un (by omega), q_un (by omega), q_us (by omega)]; try exact cI (by omega)
            | 4, hc => cases hc; rw [q_un (by omega), q_un (by omega), q_un (by omega), q_un (by omega), q_us (by omega)]; try exact cI (by omega)
            | k + 5, hc => simp at hc
set_option maxHeartbeats 4000000 in
set_option maxRecDepth 100000 in
theorem c_J5_append_c97b9 {E : KE} {l : Launch} {hp : Hp} {b q0 : Nat} {ll : List Nat} (hS : SBd E hp b ll.length ll q0) {vz : Nat} (hv : vz < 100000) (h1 : ll.length + (decL vz).length ≤ 128) : AM E l yJ5_append_c97b9 cJ5_append_c97b9 4 (Option.some (Jvm.ClassFile.FieldType.object "java/lang/AbstractStringBuilder")) ⟨4, 1, 256, 86⟩ [.ref b, .int (nI vz)] hp none (kRef b (fun hp' => SBd E hp' b (ll ++ decL vz).length (ll ++ decL vz) 0 ∧ ∀ q9, q9 < b → hp' q9 = hp q9)) := by
  refine A_of (by decide +kernel) (Nat.le_of_ble_eq_true rfl) ?_
  intro p e s m args below meth c X hr hnm
  have X : CX E p l s m args meth c "java/lang/AbstractStringBuilder" cJ5_append_c97b9 4 := X
  refine A_L (L' := [(0, .ref b), (1, .int (nI vz))]) rfl ?_
  have hS9 := hS
  obtain ⟨v, m, a, mb, g0, g1, -, -, -, -, -, -, -⟩ := hS9
  have hdl := @decL_len vz
  refine A_aload_n X dJ5_append_c97b9_0 0 rfl ?_
  refine A_get X dJ5_append_c97b9_1 kcl_J4 3 (by decide) kw_1167 g0 rfl ?_
  refine A_istore_n (L' := [(2, .int (nI ll.length)), (0, .ref b), (1, .int (nI vz))]) X dJ5_append_c97b9_4 rfl (by decide) rfl ?_
  refine A_iload_n X dJ5_append_c97b9_5 0 rfl ?_
  refine A_iload_n X dJ5_append_c97b9_6 2 rfl ?_
  refine A_cp (k' := 0) (n' := 0) (A_runS (rest := [.int (nI ll.length)]) X dJ5_append_c97b9_7 (c_J6_stringSize_0f7a4 (z_size (N := 100) (by omega) hv)) kY_J6_stringSize_0f7a4 kw_1184 ⟨(Nat.le_of_ble_eq_true rfl), (Nat.le_of_ble_eq_true rfl), (Nat.le_of_ble_eq_true rfl), (Nat.le_of_ble_eq_true rfl)⟩ rfl (Nat.le_of_ble_eq_true rfl)) rfl rfl ?_
  refine A_iadd X dJ5_append_c97b9_10 ?_
  rw [nI_add]
  refine A_istore_n (L' := [(3, .int (nI (ll.length + (decL vz).length))), (2, .int (nI ll.length)), (0, .ref b), (1, .int (nI vz))]) X dJ5_append_c97b9_11 rfl (by decide) rfl ?_
  refine A_aload_n X dJ5_append_c97b9_12 2 rfl ?_
  refine A_iload_n X dJ5_append_c97b9_13 0 rfl ?_
  refine A_c (k' := 1) (n' := 256) rfl rfl (A_runU (rest := []) X dJ5_append_c97b9_14 (c_J5_ensureCapacityInternal_d00df (q := ll.length + (decL vz).length) hS h1) kU_J5_ensureCapacityInternal_d00df (kN_at X.2.2.2.2.2.1 (List.mem_append_left _ (List.mem_of_getElem? (i := 0) rfl)) rfl) kw_1082 g0 ⟨(Nat.le_of_ble_eq_true rfl), (Nat.le_of_ble_eq_true rfl), (Nat.le_of_ble_eq_true rfl), (Nat.le_of_ble_eq_true rfl)⟩ rfl (Nat.le_of_ble_eq_true rfl)) (fun v9 hp1 al9 hP => ?_)
  obtain ⟨rfl, hS1, n1⟩ := hP
  refine A_al ?_
  refine A_st (st' := []) rfl ?_
  obtain ⟨v1, m1, a1, mb1, p0, p1, hbv, hn, hl, hq, hm, hf, hc⟩ := hS1
  refine A_aload_n X dJ5_append_c97b9_17 2 rfl ?_
  refine A_cp (k' := 1) (n' := 256) (A_runU (rest := []) X dJ5_append_c97b9_18 (c_J5_isLatin1_aae02 p0) kU_J5_isLatin1_aae02 (X.2.2.2.2.1 _ kw_1113) kw_1110 p0 ⟨(Nat.le_of_ble_eq_true rfl), (Nat.le_of_ble_eq_true rfl), (Nat.le_of_ble_eq_true rfl), (Nat.le_of_ble_eq_true rfl)⟩ rfl (Nat.le_of_ble_eq_true rfl)) rfl rfl ?_
  refine A_if_eq_f (tgt := 37) X dJ5_append_c97b9_21 (by decide) (by decide) ?_
  refine A_iload_n X dJ5_append_c97b9_24 3 rfl ?_
  refine A_iload_n X dJ5_append_c97b9_25 0 rfl ?_
  refine A_aload_n X dJ5_append_c97b9_26 2 rfl ?_
  refine A_get X dJ5_append_c97b9_27 kcl_J4 0 (by decide) kw_1164 p0 rfl ?_
  obtain ⟨r9, a2, e2, hf2, hk2, hd2⟩ := z_chars (N := 100) (f := a1) (i := ll.length + (decL vz).length) (by omega) hv (by omega) hq (by omega) hf
  refine A_c (k' := 1) (n' := 256) rfl rfl (A_runS (rest := []) X dJ5_append_c97b9_30 (c_J6_getChars_ba4f3 p1 e2) kY_J6_getChars_ba4f3 kw_1187 ⟨(Nat.le_of_ble_eq_true rfl), (Nat.le_of_ble_eq_true rfl), (Nat.le_of_ble_eq_true rfl), (Nat.le_of_ble_eq_true rfl)⟩ rfl (Nat.le_of_ble_eq_true rfl)) (fun v9 hp2 al9 hP => ?_)
  obtain ⟨rfl, k2, n2, -⟩ := hP
  refine A_al ?_
  refine A_st (st' := [.int r9]) rfl ?_
  have p2 := (n2 b (by omega)).trans p0
  refine A_pop X dJ5_append_c97b9_33 rfl ?_
  refine A_goto (tgt := 48) X dJ5_append_c97b9_34 (by decide) ?_
  refine A_aload_n X dJ5_append_c97b9_48 2 rfl ?_
  refine A_iload_n X dJ5_append_c97b9_49 0 rfl ?_
  refine A_put X dJ5_append_c97b9_50 kcl_J4 3 (by decide) kw_1167 p2 rfl rfl rfl (by simp) (fun hp3 k3 n3 => ?_)
  have k3 : hp3 b = some (.inr (1, [.ref v1, .int 0, .int mb1, .int (nI (ll.length + (decL vz).length))])) := k3
  refine A_aload_n X dJ5_append_c97b9_53 2 rfl ?_
  refine A_aret X dJ5_append_c97b9_54 hr (Or.inl ⟨_, rfl⟩) ⟨rfl, ⟨v1, m1, a2, mb1, by rw [List.length_append]; exact k3, (n3 v1 (by omega)).trans k2, hbv, by rw [List.length_append]; exact hq, by rw [List.length_append]; exact hq, by omega, hm, hf2, fun i c9 hi => ?_⟩, fun q9 hq9 => (n3 q9 (by omega)).trans ((n2 q9 (by omega)).trans (n1 q9 hq9))⟩ (Nat.le_of_ble_eq_true rfl) (Nat.le_of_ble_eq_true rfl)
  rcases get_app hi with ⟨h3, h4⟩ | ⟨h3, h4⟩
  · rw [hk2 i (by omega)]
    exact hc i c9 h4
  · have h5 := hd2 _ _ h4
    rw [show ll.length + (decL vz).length - (decL vz).length + (i - ll.length) = i by omega] at h5
    exact h5
theorem kP_J5_append_c97b9 : kYP yJ5_append_c97b9 (Cond.code yJ5_append_c97b9 prog_15_method_32_code (4 : Nat) (Option.some (Jvm.ClassFile.FieldType.object "java/lang/AbstractStringBuilder"))) 1 := ⟨kw_1183, kw_1349, kw_1182, kw_19, by decide +kernel, by decide +kernel⟩
set_option maxHeartbeats 4000000 in
set_option maxRecDepth 100000 in
theorem c_J4_append_bf812 {E : KE} {l : Launch} {hp : Hp} {b q0 : Nat} {ll : List Nat} (hS : SBd E hp b ll.length ll q0) {vz : Nat} (hv : vz < 100000) (h1 : ll.length + (decL vz).length ≤ 128) : AM E l yJ4_append_bf812 cJ4_append_bf812 2 (Option.some (Jvm.ClassFile.FieldType.object "java/lang/StringBuilder")) ⟨5, 1, 256, 109⟩ [.ref b, .int (nI vz)] hp none (kRef b (fun hp' => SBd E hp' b (ll ++ decL vz).length (ll ++ decL vz) 0 ∧ ∀ q9, q9 < b → hp' q9 = hp q9)) := by
  refine A_of (by decide +kernel) (Nat.le_of_ble_eq_true rfl) ?_
  intro p e s m args below meth c X hr hnm
  have X : CX E p l s m args meth c "java/lang/StringBuilder" cJ4_append_bf812 2 := X
  refine A_L (L' := [(0, .ref b), (1, .int (nI vz))]) rfl ?_
  obtain ⟨v, m, a, mb, g0, -⟩ := id hS
  refine A_aload_n X dJ4_append_bf812_0 0 rfl ?_
  refine A_iload_n X dJ4_append_bf812_1 1 rfl ?_
  refine A_c (k' := 1) (n' := 256) rfl rfl (A_runP (rest := []) X dJ4_append_bf812_2 (c_J5_append_c97b9 hS hv h1) kP_J5_append_c97b9 kw_1181 kw_1076 g0 ⟨(Nat.le_of_ble_eq_true rfl), (Nat.le_of_ble_eq_true rfl), (Nat.le_of_ble_eq_true rfl), (Nat.le_of_ble_eq_true rfl)⟩ rfl (Nat.le_of_ble_eq_true rfl)) (fun v9 hp1 al9 hP => ?_)
  obtain ⟨rfl, hS1, n1⟩ := hP
  refine A_al ?_
  refine A_st (st' := [.ref b]) rfl ?_
  refine A_pop X dJ4_append_bf812_5 rfl ?_
  refine A_aload_n X dJ4_append_bf812_6 0 rfl ?_
  exact A_aret X dJ4_append_bf812_7 hr (Or.inl ⟨_, rfl⟩) ⟨rfl, hS1, n1⟩ (Nat.le_of_ble_eq_true rfl) (Nat.le_of_ble_eq_true rfl)
set_option maxHeartbeats 4000000 in
set_option maxRecDepth 100000 in
theorem c_J7_checkLength_df160 {E : KE} {l : Launch} {hp : Hp} {al : Option Nat} {n : Nat} (h1 : n ≤ 300) : AM E l yJ7_checkLength_df160 cJ7_checkLength_df160 2 (Option.none : Option Jvm.ClassFile.FieldType) ⟨0, 0, 0, 0⟩ [.int 0, .int (nI n)] hp al (kRv hp al) := by
  refine A_of (by decide +kernel) (Nat.le_of_ble_eq_true rfl) ?_
  intro p e s m args below meth c X hr hnm
  have X : CX E p l s m args meth c "java/util/Arrays" cJ7_checkLength_df160 2 := X
  refine A_L (L' := [(0, .int 0), (1, .int (nI n))]) rfl ?_
  refine A_iload_n X dJ7_checkLength_df160_0 1 rfl ?_
  refine A_iload_n X dJ7_checkLength_df160_1 0 rfl ?_
  refine A_icmp_ge_t (tgt := 37) X dJ7_checkLength_df160_2 (show (0 : Int32) ≤ nI n by rw [n_0, q_le (by omega) (by omega)]; omega) (by decide) ?_
  exact A_vret X dJ7_checkLength_df160_37 hr ⟨rfl, rfl, rfl⟩ (Nat.le_of_ble_eq_true rfl) (Nat.le_of_ble_eq_true rfl)
set_option maxHeartbeats 4000000 in
set_option maxRecDepth 100000 in
theorem c_J7_copyOfRangeByte_39247 {E : KE} {l : Launch} {hp : Hp} {v n : Nat} {mz : Nat} {a : Nat → Int32} (g1 : hp v = some (.inl (kC E 3, mz, .inl a))) (hb : ByF a) (h1 : n ≤ mz) (h2 : mz ≤ 256) : AM E l yJ7_copyOfRangeByte_39247 cJ7_copyOfRangeByte_39247 5 (Option.some (Jvm.ClassFile.FieldType.array Jvm.ClassFile.FieldType.byte)) ⟨1, 1, 256, 21⟩ [.ref v, .int 0, .int (nI n)] hp none (fun v9 hp' _ => ∃ (z : Nat) (a9 : Nat → Int32), v9 = some (.ref z) ∧ (∀ q9 c9, hp q9 = some c9 → q9 ≠ z) ∧ hp' z = some (.inl (kC E 3, n, .inl a9)) ∧ (∀ i, i < n → a9 i = a i) ∧ ∀ q9, q9 ≠ z → hp' q9 = hp q9) := by
  refine A_of (by decide +kernel) (Nat.le_of_ble_eq_true rfl) ?_
  intro p e s m args below meth c X hr hnm
  have X : CX E p l s m args meth c "java/util/Arrays" cJ7_copyOfRangeByte_39247 5 := X
  refine A_L (L' := [(0, .ref v), (1, .int 0), (2, .int (nI n))]) rfl ?_
  refine A_iload_n X dJ7_copyOfRangeByte_39247_0 1 rfl ?_
  refine A_iload_n X dJ7_copyOfRangeByte_39247_1 2 rfl ?_
  refine A_c (k' := 0) (n' := 0) rfl rfl (A_runS (rest := []) X dJ7_copyOfRangeByte_39247_2 (c_J7_checkLength_df160 (n := n) (by omega)) kY_J7_checkLength_df160 kw_1253 ⟨(Nat.le_of_ble_eq_true rfl), (Nat.le_of_ble_eq_true rfl), (Nat.le_of_ble_eq_true rfl), (Nat.le_of_ble_eq_true rfl)⟩ rfl (Nat.le_of_ble_eq_true rfl)) (fun v9 hp9 al9 hP => ?_)
  obtain ⟨rfl, rfl, rfl⟩ := hP
  refine A_al ?_
  refine A_st (st' := []) rfl ?_
  refine A_iload_n X dJ7_copyOfRangeByte_39247_5 2 rfl ?_
  refine A_iload_n X dJ7_copyOfRangeByte_39247_6 1 rfl ?_
  refine A_isub X dJ7_copyOfRangeByte_39247_7 ?_
  rw [show nI n - 0 = nI n by rw [n_0, q_sub (by omega), Nat.sub_zero]]
  refine A_istore_n (L' := [(3, .int (nI n)), (0, .ref v), (1, .int 0), (2, .int (nI n))]) X dJ7_copyOfRangeByte_39247_8 rfl (by decide) rfl ?_
  refine A_iload_n X dJ7_copyOfRangeByte_39247_9 0 rfl ?_
  refine A_newbr (N := n) X dJ7_copyOfRangeByte_39247_10 kw_671 (nI_pos (by omega)) (nI_clamp (by omega)) (by show n * 1 ≤ 536870912; omega) (Nat.le_of_ble_eq_true rfl) (by show 0 + n ≤ 256; omega) (fun z hp1 f1 k1 n1 => ?_)
  have g2 := (n1 v (Nat.ne_of_lt (f1 _ _ g1))).trans g1
  refine A_astore (L' := [(4, .ref z), (3, .int (nI n)), (0, .ref v), (1, .int 0), (2, .int (nI n))]) X dJ7_copyOfRangeByte_39247_12 (by decide) rfl ?_
  refine A_aload_n X dJ7_copyOfRangeByte_39247_14 2 rfl ?_
  refine A_iload_n X dJ7_copyOfRangeByte_39247_15 3 rfl ?_
  refine A_aload X dJ7_copyOfRangeByte_39247_16 0 rfl ?_
  refine A_iconst (v := 0) X dJ7_copyOfRangeByte_39247_18 (by decide) ?_
  refine A_aload_n X dJ7_copyOfRangeByte_39247_19 2 rfl ?_
  refine A_alen (t := 3) (v := (nI mz)) X dJ7_copyOfRangeByte_39247_20 g2 rfl rfl ?_
  refine A_iload_n X dJ7_copyOfRangeByte_39247_21 3 rfl ?_
  refine A_isub X dJ7_copyOfRangeByte_39247_22 ?_
  rw [show nI mz - 0 = nI mz by rw [n_0, q_sub (by omega), Nat.sub_zero]]
  refine A_iload_n X dJ7_copyOfRangeByte_39247_23 1 rfl ?_
  refine A_mmin X dJ7_copyOfRangeByte_39247_24 kw_1108 kw_354 kw_16 kw_355 (Nat.le_of_ble_eq_true rfl) (Nat.le_of_ble_eq_true rfl) (Nat.le_of_ble_eq_true rfl) (by show 0 + n ≤ 256; omega) ?_
  rw [q_min (by omega) (by omega), show (if n < mz then n else mz) = n by split <;> omega]
  refine A_copyb X kw_1109 kw_630 kw_629 kw_18 g2 k1 (fun i _ => hb.fit _) (by decide) (by decide) (nI_pos (by omega)) (by rw [nI_clamp (by omega)]; show 0 + n ≤ mz; omega) (by rw [nI_clamp (by omega)]; show 0 + n ≤ n; omega) (Nat.le_of_ble_eq_true rfl) (Nat.le_of_ble_eq_true rfl) dJ7_copyOfRangeByte_39247_27 (fun hp2 k2 n2 => ?_)
  rw [nI_clamp (by omega)] at k2
  refine A_aload X dJ7_copyOfRangeByte_39247_30 0 rfl ?_
  refine A_aret X dJ7_copyOfRangeByte_39247_32 hr (Or.inr ⟨_, rfl⟩) ⟨z, _, rfl, fun q9 c9 h => Nat.ne_of_lt (f1 q9 c9 h), k2, fun i hi => ?_, fun q9 hq9 => (n2 q9 hq9).trans (n1 q9 hq9)⟩ (Nat.le_of_ble_eq_true rfl) (by show 0 + n ≤ 256; omega)
  rw [show (0 : Int32).toNatClampNeg = 0 by decide, pk_cpy_in (by omega) (by omega), show 0 + (i - 0) = i by omega]
set_option maxHeartbeats 4000000 in
set_option maxRecDepth 100000 in
theorem c_J7_copyOfRange_39247 {E : KE} {l : Launch} {hp : Hp} {v n : Nat} {mz : Nat} {a : Nat → Int32} (g1 : hp v = some (.inl (kC E 3, mz, .inl a))) (hb : ByF a) (h1 : n ≤ mz) (h2 : mz ≤ 256) : AM E l yJ7_copyOfRange_39247 cJ7_copyOfRange_39247 3 (Option.some (Jvm.ClassFile.FieldType.array Jvm.ClassFile.FieldType.byte)) ⟨2, 1, 256, 45⟩ [.ref v, .int 0, .int (nI n)] hp none (fun v9 hp' _ => ∃ (z : Nat) (a9 : Nat → Int32), v9 = some (.ref z) ∧ (∀ q9 c9, hp q9 = some c9 → q9 ≠ z) ∧ hp' z = some (.inl (kC E 3, n, .inl a9)) ∧ (∀ i, i < n → a9 i = a i) ∧ ∀ q9, q9 ≠ z → hp' q9 = hp q9) := by
  refine A_of (by decide +kernel) (Nat.le_of_ble_eq_true rfl) ?_
  intro p e s m args below meth c X hr hnm
  have X : CX E p l s m args meth c "java/util/Arrays" cJ7_copyOfRange_39247 3 := X
  refine A_L (L' := [(0, .ref v), (1, .int 0), (2, .int (nI n))]) rfl ?_
  refine A_iload_n X dJ7_copyOfRange_39247_0 1 rfl ?_
  refine A_if_ne_f (tgt := 10) X dJ7_copyOfRange_39247_1 (by decide) (by decide) ?_
  refine A_iload_n X dJ7_copyOfRange_39247_4 2 rfl ?_
  refine A_aload_n X dJ7_copyOfRange_39247_5 0 rfl ?_
  refine A_alen (t := 3) (v := (nI mz)) X dJ7_copyOfRange_39247_6 g1 rfl rfl ?_
  by_cases hnm2 : n = mz
  · refine A_icmp_eq_t (tgt := 17) X dJ7_copyOfRange_39247_7 (by rw [hnm2]) (by decide) ?_
    refine A_aload_n X dJ7_copyOfRange_39247_17 0 rfl ?_
    subst hnm2
    refine A_cloneb X dJ7_copyOfRange_39247_18 kw_1101 kw_1102 kw_1103 kw_1104 kw_1105 kw_1106 g1 (fun i _ => hb.fit i) (Nat.le_of_ble_eq_true rfl) (Nat.le_of_ble_eq_true rfl) (Nat.le_of_ble_eq_true rfl) (by show 0 + n ≤ 256; omega) (fun z hp1 f1 k1 n1 => ?_)
    refine A_castB X dJ7_copyOfRange_39247_21 kw_1107 k1 ?_
    exact A_aret X dJ7_copyOfRange_39247_24 hr (Or.inr ⟨_, rfl⟩) ⟨z, a, rfl, f1, k1, fun i hi => rfl, n1⟩ (Nat.le_of_ble_eq_true rfl) (by show 0 + n ≤ 256; omega)
  · refine A_icmp_eq_f (tgt := 17) X dJ7_copyOfRange_39247_7 (by rw [q_eq (by omega) (by omega)]; exact hnm2) (by decide) ?_
    refine A_aload_n X dJ7_copyOfRange_39247_10 0 rfl ?_
    refine A_iload_n X dJ7_copyOfRange_39247_11 1 rfl ?_
    refine A_iload_n X dJ7_copyOfRange_39247_12 2 rfl ?_
    refine A_c (k' := 1) (n' := 256) rfl rfl (A_runS (rest := []) X dJ7_copyOfRange_39247_13 (c_J7_copyOfRangeByte_39247 (n := n) g1 hb h1 h2) kY_J7_copyOfRangeByte_39247 kw_1250 ⟨(Nat.le_of_ble_eq_true rfl), (Nat.le_of_ble_eq_true rfl), (Nat.le_of_ble_eq_true rfl), (Nat.le_of_ble_eq_true rfl)⟩ rfl (Nat.le_of_ble_eq_true rfl)) (fun v9 hp1 al9 hP => ?_)
    obtain ⟨z, a9, rfl, f1, k1, e1, n1⟩ := hP
    refine A_al ?_
    refine A_st (st' := [.ref z]) rfl ?_
    exact A_aret X dJ7_copyOfRange_39247_16 hr (Or.inr ⟨_, rfl⟩) ⟨z, a9, rfl, f1, k1, e1, n1⟩ (Nat.le_of_ble_eq_true rfl) (Nat.le_of_ble_eq_true rfl)
set_option maxHeartbeats 4000000 in
set_option maxRecDepth 100000 in
theorem c_J5_getValue_6d5f1 {E : KE} {l : Launch} {hp : Hp} {al : Option Nat} {b v : Nat} {mb nn : Int32} (g0 : hp b = some (.inr (1, [.ref v, .int 0, .int mb, .int nn]))) : AM E l yJ5_getValue_6d5f1 cJ5_getValue_6d5f1 1 (Option.some (Jvm.ClassFile.FieldType.array Jvm.ClassFile.FieldType.byte)) ⟨0, 0, 0, 0⟩ [.ref b] hp al (kRef v (fun hp' => hp = hp')) := by
  refine A_of (by decide +kernel) (Nat.le_of_ble_eq_true rfl) ?_
  intro p e s m args below meth c X hr hnm
  have X : CX E p l s m args meth c "java/lang/AbstractStringBuilder" cJ5_getValue_6d5f1 1 := X
  refine A_L (L' := [(0, .ref b)]) rfl ?_
  refine A_aload_n X dJ5_getValue_6d5f1_0 0 rfl ?_
  refine A_get X dJ5_getValue_6d5f1_1 kcl_J4 0 (by decide) kw_1164 g0 rfl ?_
  exact A_aret X dJ5_getValue_6d5f1_4 hr (Or.inr ⟨_, rfl⟩) ⟨rfl, rfl⟩ (Nat.le_of_ble_eq_true rfl) (Nat.le_of_ble_eq_true rfl)
theorem kU_J5_getValue_6d5f1 : kYU yJ5_getValue_6d5f1 yJ5_getValue_6d5f1 (Cond.code yJ5_getValue_6d5f1 prog_15_method_64_code (1 : Nat) (Option.some (Jvm.ClassFile.FieldType.array Jvm.ClassFile.FieldType.byte))) (Cond.code yJ5_getValue_6d5f1 prog_15_method_64_code (1 : Nat) (Option.some (Jvm.ClassFile.FieldType.array Jvm.ClassFile.FieldType.byte))) 0 := ⟨kw_1237, kw_1234, kw_19, ⟨by decide +kernel, by decide +kernel⟩, by decide +kernel, kw_1235, kw_1234, kw_1237⟩
set_option maxHeartbeats 4000000 in
set_option maxRecDepth 100000 in
theorem c_J5_length_8abf5 {E : KE} {l : Launch} {hp : Hp} {al : Option Nat} {b v : Nat} {mb nn : Int32} (g0 : hp b = some (.inr (1, [.ref v, .int 0, .int mb, .int nn]))) : AM E l yJ5_length_8abf5 cJ5_length_8abf5 1 (Option.some Jvm.ClassFile.FieldType.int) ⟨0, 0, 0, 0⟩ [.ref b] hp al (kRet nn hp al) := by
  refine A_of (by decide +kernel) (Nat.le_of_ble_eq_true rfl) ?_
  intro p e s m args below meth c X hr hnm
  have X : CX E p l s m args meth c "java/lang/AbstractStringBuilder" cJ5_length_8abf5 1 := X
  refine A_L (L' := [(0, .ref b)]) rfl ?_
  refine A_aload_n X dJ5_length_8abf5_0 0 rfl ?_
  refine A_get X dJ5_length_8abf5_1 kcl_J4 3 (by decide) kw_1167 g0 rfl ?_
  exact A_iret X dJ5_length_8abf5_4 hr ⟨rfl, rfl, rfl⟩ (Nat.le_of_ble_eq_true rfl) (Nat.le_of_ble_eq_true rfl)
theorem kP_J5_length_8abf5 : kYP yJ5_length_8abf5 (Cond.code yJ5_length_8abf5 prog_15_method_6_code (1 : Nat) (Option.some Jvm.ClassFile.FieldType.int)) 0 := ⟨kw_1245, kw_1240, kw_1239, kw_19, by decide +kernel, by decide +kernel⟩
set_option maxHeartbeats 4000000 in
set_option maxRecDepth 100000 in
theorem c_J4_length_8abf5 {E : KE} {l : Launch} {hp : Hp} {al : Option Nat} {b v : Nat} {mb nn : Int32} (g0 : hp b = some (.inr (1, [.ref v, .int 0, .int mb, .int nn]))) : AM E l yJ4_length_8abf5 cJ4_length_8abf5 1 (Option.some Jvm.ClassFile.FieldType.int) ⟨1, 0, 0, 20⟩ [.ref b] hp al (kRet nn hp al) := by
  refine A_of (by decide +kernel) (Nat.le_of_ble_eq_true rfl) ?_
  intro p e s m args below meth c X hr hnm
  have X : CX E p l s m args meth c "java/lang/StringBuilder" cJ4_length_8abf5 1 := X
  refine A_L (L' := [(0, .ref b)]) rfl ?_
  refine A_aload_n X dJ4_length_8abf5_0 0 rfl ?_
  refine A_cp (k' := 0) (n' := 0) (A_runP (rest := []) X dJ4_length_8abf5_1 (c_J5_length_8abf5 g0) kP_J5_length_8abf5 kw_1244 kw_1076 g0 ⟨(Nat.le_of_ble_eq_true rfl), (Nat.le_of_ble_eq_true rfl), (Nat.le_of_ble_eq_true rfl), (Nat.le_of_ble_eq_true rfl)⟩ rfl (Nat.le_of_ble_eq_true rfl)) rfl rfl ?_
  exact A_iret X dJ4_length_8abf5_4 hr ⟨rfl, rfl, rfl⟩ (Nat.le_of_ble_eq_true rfl) (Nat.le_of_ble_eq_true rfl)
theorem kU_J5_length_8abf5 : kYU yJ5_length_8abf5 yJ4_length_8abf5 (Cond.code yJ4_length_8abf5 prog_26_method_93_code (1 : Nat) (Option.some Jvm.ClassFile.FieldType.int)) (Cond.code yJ5_length_8abf5 prog_15_method_6_code (1 : Nat) (Option.some Jvm.ClassFile.FieldType.int)) 0 := ⟨kw_1243, kw_1242, kw_20, ⟨by decide +kernel, by decide +kernel⟩, by decide +kernel, kw_1240, kw_1239, kw_1245⟩
/-- a made String at r of the letters l -/
def SJd (E : KE) (hp : Hp) (r : Nat) (l : List Nat) : Prop := ∃ (v : Nat) (a : Nat → Int32) (h0 z0 : Int32), hp r = some (.inr (0, [.ref v, .int 0, .int h0, .int z0])) ∧ hp v = some (.inl (kC E 3, l.length, .inl a)) ∧ ∀ i c, l[i]? = some c → a i = nI c
theorem SJd.keep {E : KE} {hp hp' : Hp} {r : Nat} {l : List Nat} (h : SJd E hp r l) (hk : ∀ q c, hp q = some c → (∃ (v : Nat) (h0 z0 : Int32), c = .inr (0, [.ref v, .int 0, .int h0, .int z0])) ∨ (∃ (n : Nat) (a : Nat → Int32), c = .inl (kC E 3, n, .inl a)) → hp' q = some c) : SJd E hp' r l := by
  obtain ⟨v, a, h0, z0, g0, g1, g2⟩ := h
  exact ⟨v, a, h0, z0, hk _ _ g0 (Or.inl ⟨_, _, _, rfl⟩), hk _ _ g1 (Or.inr ⟨_, _, rfl⟩), g2⟩
set_option maxHeartbeats 4000000 in
set_option maxRecDepth 100000 in
theorem c_J0_init_db425 {E : KE} {l : Launch} {hp : Hp} {r b : Nat} {ll : List Nat} (g2 : hp r = some (.inr (0, [.null, .int 0, .int 0, .int 0]))) (hS : SBd E hp b ll.length ll 0) (hbr : b < r) : AM E l yJ0_init_db425 cJ0_init_db425 5 (Option.none : Option Jvm.ClassFile.FieldType) ⟨3, 1, 256, 67⟩ [.ref r, .ref b, .null] hp none (kVoid (fun hp' => SJd E hp' r ll ∧ ∀ q9 c9, hp q9 = some c9 → q9 ≠ r → hp' q9 = some c9)) := by
  refine A_of (by decide +kernel) (Nat.le_of_ble_eq_true rfl) ?_
  intro p e s m args below meth c X hr hnm
  have X : CX E p l s m args meth c "java/lang/String" cJ0_init_db425 5 := X
  refine A_L (L' := [(0, .ref r), (1, .ref b), (2, .null)]) rfl ?_
  obtain ⟨v, mz, a, mb, g0, g1, hbv, hn, hl, hq, hm, hf, hc⟩ := hS
  refine A_aload_n X dJ0_init_db425_0 0 rfl ?_
  refine A_objI (i0 := 0) (i1 := 0) X dJ0_init_db425_1 kw_1232 kw_37 kw_38 (Nat.le_of_ble_eq_true rfl) (Nat.le_of_ble_eq_true rfl) ?_
  refine A_aload_n X dJ0_init_db425_4 1 rfl ?_
  refine A_c (k' := 0) (n' := 0) rfl rfl (A_runU (rest := []) X dJ0_init_db425_5 (c_J5_getValue_6d5f1 g0) kU_J5_getValue_6d5f1 (X.2.2.2.2.1 _ kw_1236) kw_1233 g0 ⟨(Nat.le_of_ble_eq_true rfl), (Nat.le_of_ble_eq_true rfl), (Nat.le_of_ble_eq_true rfl), (Nat.le_of_ble_eq_true rfl)⟩ rfl (Nat.le_of_ble_eq_true rfl)) (fun v9 hp9 al9 hP => ?_)
  obtain ⟨rfl, rfl⟩ := hP
  refine A_al ?_
  refine A_st (st' := [.ref v]) rfl ?_
  refine A_astore_n (L' := [(3, .ref v), (0, .ref r), (1, .ref b), (2, .null)]) X dJ0_init_db425_8 rfl (by decide) rfl ?_
  refine A_aload_n X dJ0_init_db425_9 2 rfl ?_
  refine A_cp (k' := 0) (n' := 0) (A_runU (rest := []) X dJ0_init_db425_10 (c_J4_length_8abf5 g0) kU_J5_length_8abf5 (X.2.2.2.2.1 _ kw_1241) kw_1238 g0 ⟨(Nat.le_of_ble_eq_true rfl), (Nat.le_of_ble_eq_true rfl), (Nat.le_of_ble_eq_true rfl), (Nat.le_of_ble_eq_true rfl)⟩ rfl (Nat.le_of_ble_eq_true rfl)) rfl rfl ?_
  refine A_istore (L' := [(4, .int (nI ll.length)), (3, .ref v), (0, .ref r), (1, .ref b), (2, .null)]) X dJ0_init_db425_13 (by decide) rfl ?_
  refine A_aload_n X dJ0_init_db425_15 3 rfl ?_
  refine A_cp (k' := 0) (n' := 0) (A_runU (rest := []) X dJ0_init_db425_16 (c_J5_isLatin1_aae02 g0) kU_J5_isLatin1_aae02 (X.2.2.2.2.1 _ kw_1113) kw_1246 g0 ⟨(Nat.le_of_ble_eq_true rfl), (Nat.le_of_ble_eq_true rfl), (Nat.le_of_ble_eq_true rfl), (Nat.le_of_ble_eq_true rfl)⟩ rfl (Nat.le_of_ble_eq_true rfl)) rfl rfl ?_
  refine A_if_eq_f (tgt := 41) X dJ0_init_db425_19 (by decide) (by decide) ?_
  refine A_aload_n X dJ0_init_db425_22 2 rfl ?_
  refine A_iconst (v := 0) X dJ0_init_db425_23 (by decide) ?_
  refine A_putF X dJ0_init_db425_24 kcl_J0 1 (by decide) kw_1280 g2 rfl (hnm.trans rfl) rfl rfl rfl (by simp) (fun hp1 k1 n1 => ?_)
  have k1 : hp1 r = some (.inr (0, [.null, .int 0, .int 0, .int 0])) := k1
  have p1 : hp1 v = some _ := (n1 v (fun e => by rw [e, g2] at g1; cases g1)).trans g1
  refine A_aload_n X dJ0_init_db425_27 2 rfl ?_
  refine A_aload_n X dJ0_init_db425_28 1 rfl ?_
  refine A_iconst (v := 0) X dJ0_init_db425_29 (by decide) ?_
  refine A_iload X dJ0_init_db425_30 0 rfl ?_
  refine A_c (k' := 1) (n' := 256) rfl rfl (A_runS (rest := [.ref r]) X dJ0_init_db425_32 (c_J7_copyOfRange_39247 (n := ll.length) p1 hf hn hm) kY_J7_copyOfRange_39247 kw_1247 ⟨(Nat.le_of_ble_eq_true rfl), (Nat.le_of_ble_eq_true rfl), (Nat.le_of_ble_eq_true rfl), (Nat.le_of_ble_eq_true rfl)⟩ rfl (Nat.le_of_ble_eq_true rfl)) (fun v9 hp2 al9 hP => ?_)
  obtain ⟨z, a9, rfl, f2, k2, e2, n2⟩ := hP
  refine A_al ?_
  refine A_st (st' := [.ref z, .ref r]) rfl ?_
  have hrz := f2 r _ k1
  have p2 := (n2 r hrz).trans k1
  refine A_putF X dJ0_init_db425_35 kcl_J0 0 (by decide) kw_1279 p2 rfl (hnm.trans rfl) rfl rfl rfl (by simp) (fun hp3 k3 n3 => ?_)
  have k3 : hp3 r = some (.inr (0, [.ref z, .int 0, .int 0, .int 0])) := k3
  refine A_goto (tgt := 97) X dJ0_init_db425_38 (by decide) ?_
  refine A_vret X dJ0_init_db425_97 hr ⟨rfl, ⟨z, a9, 0, 0, k3, (n3 z (Ne.symm hrz)).trans k2, fun i c9 hi => (e2 i (List.getElem?_eq_some_iff.mp hi).1).trans (hc i c9 hi)⟩, fun q9 c9 h h9 => (n3 q9 h9).trans ((n2 q9 (f2 q9 c9 ((n1 q9 h9).trans h))).trans ((n1 q9 h9).trans h))⟩ (Nat.le_of_ble_eq_true rfl) (Nat.le_of_ble_eq_true rfl)
set_option maxHeartbeats 4000000 in
set_option maxRecDepth 100000 in
theorem c_J0_init_81219 {E : KE} {l : Launch} {hp : Hp} {r b : Nat} {ll : List Nat} (g2 : hp r = some (.inr (0, [.null, .int 0, .int 0, .int 0]))) (hS : SBd E hp b ll.length ll 0) (hbr : b < r) : AM E l yJ0_init_81219 cJ0_init_81219 2 (Option.none : Option Jvm.ClassFile.FieldType) ⟨4, 1, 256, 91⟩ [.ref r, .ref b] hp none (kVoid (fun hp' => SJd E hp' r ll ∧ ∀ q9 c9, hp q9 = some c9 → q9 ≠ r → hp' q9 = some c9)) := by
  refine A_of (by decide +kernel) (Nat.le_of_ble_eq_true rfl) ?_
  intro p e s m args below meth c X hr hnm
  have X : CX E p l s m args meth c "java/lang/String" cJ0_init_81219 2 := X
  refine A_L (L' := [(0, .ref r), (1, .ref b)]) rfl ?_
  refine A_aload_n X dJ0_init_81219_0 0 rfl ?_
  refine A_aload_n X dJ0_init_81219_1 1 rfl ?_
  refine A_null X dJ0_init_81219_2 ?_
  refine A_c (k' := 1) (n' := 256) rfl rfl (A_runI (rest := []) X dJ0_init_81219_3 (c_J0_init_db425 g2 hS hbr) kY_J0_init_db425 kw_1229 ⟨(Nat.le_of_ble_eq_true rfl), (Nat.le_of_ble_eq_true rfl), (Nat.le_of_ble_eq_true rfl), (Nat.le_of_ble_eq_true rfl)⟩ rfl (Nat.le_of_ble_eq_true rfl)) (fun v9 hp1 al9 hP => ?_)
  obtain ⟨rfl, hS1, n1⟩ := hP
  refine A_al ?_
  refine A_st (st' := []) rfl ?_
  exact A_vret X dJ0_init_81219_6 hr ⟨rfl, hS1, n1⟩ (Nat.le_of_ble_eq_true rfl) (Nat.le_of_ble_eq_true rfl)
set_option maxHeartbeats 4000000 in
set_option maxRecDepth 100000 in
theorem c_J4_toString_0e30d {E : KE} {l : Launch} {hp : Hp} {b : Nat} {ll : List Nat} (hS : SBd E hp b ll.length ll 0) : AM E l yJ4_toString_0e30d cJ4_toString_0e30d 1 (Option.some (Jvm.ClassFile.FieldType.object "java/lang/String")) ⟨5, 2, 260, 112⟩ [.ref b] hp none (fun v9 hp' _ => ∃ r : Nat, v9 = some (.ref r) ∧ (∀ q9 c9, hp q9 = some c9 → q9 < r) ∧ SJd E hp' r ll ∧ ∀ q9 c9, hp q9 = some c9 → hp' q9 = some c9) := by
  refine A_of (by decide +kernel) (Nat.le_of_ble_eq_true rfl) ?_
  intro p e s m args below meth c X hr hnm
  have X : CX E p l s m args meth c "java/lang/StringBuilder" cJ4_toString_0e30d 1 := X
  refine A_L (L' := [(0, .ref b)]) rfl ?_
  have hS9 := hS
  obtain ⟨v, mz, a, mb, g0, g1, hbv, hn, hl, hq, hm, hf, hc⟩ := hS9
  refine A_newo (fs := [.null, .int 0, .int 0, .int 0]) X dJ4_toString_0e30d_0 kcl_J0 kw_1224 kw_1225 kw_12 (fun j hj => by match j, hj with | 0, _ => rfl | 1, _ => rfl | 2, _ => rfl | 3, _ => rfl | j + 4, hj => exact absurd hj (by omega)) (Nat.le_of_ble_eq_true rfl) (Nat.le_of_ble_eq_true rfl) (fun r hp1 f1 k1 n1 => ?_)
  refine A_al ?_
  have hbr := f1 _ _ g0
  have p0 := (n1 b (Nat.ne_of_lt hbr)).trans g0
  have p1 := (n1 v (Nat.ne_of_lt (f1 _ _ g1))).trans g1
  have hS1 : SBd E hp1 b ll.length ll 0 := ⟨v, mz, a, mb, p0, p1, hbv, hn, hl, hq, hm, hf, hc⟩
  refine A_dup X dJ4_toString_0e30d_3 rfl ?_
  refine A_aload_n X dJ4_toString_0e30d_4 0 rfl ?_
  refine A_c (k' := 2) (n' := 260) rfl rfl (A_runI (rest := [.ref r]) X dJ4_toString_0e30d_5 (c_J0_init_81219 k1 hS1 hbr) kY_J0_init_81219 kw_1226 ⟨(Nat.le_of_ble_eq_true rfl), (Nat.le_of_ble_eq_true rfl), (Nat.le_of_ble_eq_true rfl), (Nat.le_of_ble_eq_true rfl)⟩ rfl (Nat.le_of_ble_eq_true rfl)) (fun v9 hp2 al9 hP => ?_)
  obtain ⟨rfl, hJ, n2⟩ := hP
  refine A_al ?_
  refine A_st (st' := [.ref r]) rfl ?_
  exact A_aret X dJ4_toString_0e30d_8 hr (Or.inl ⟨_, rfl⟩) ⟨r, rfl, f1, hJ, fun q9 c9 h => n2 q9 c9 ((n1 q9 (Nat.ne_of_lt (f1 q9 c9 h))).trans h) (Nat.ne_of_lt (f1 q9 c9 h))⟩ (Nat.le_of_ble_eq_true rfl) (Nat.le_of_ble_eq_true rfl)
set_option maxHeartbeats 4000000 in
set_option maxRecDepth 100000 in
theorem m_coder {E : KE} {l : Launch} {hp : Hp} {al : Option Nat} {r v : Nat} {h0 z0 : Int32} (g0 : hp r = some (.inr (0, [.ref v, .int 0, .int h0, .int z0]))) : AM E l yJ0_coder_7d493 cJ0_coder_7d493 1 (Option.some Jvm.ClassFile.FieldType.byte) ⟨0, 0, 0, 0⟩ [.ref r] hp al (kRet 0 hp al) := by
  refine A_of (by decide +kernel) (Nat.le_of_ble_eq_true rfl) ?_
  intro p e s m args below meth c X hr hnm
  have X : CX E p l s m args meth c "java/lang/String" cJ0_coder_7d493 1 := X
  refine A_L (L' := [(0, .ref r)]) rfl ?_
  refine A_compact X dJ0_coder_7d493_0 kw_272 ?_
  refine A_if_eq_f (tgt := 13) X dJ0_coder_7d493_3 (by decide) (by decide) ?_
  refine A_aload_n X dJ0_coder_7d493_6 0 rfl ?_
  refine A_get X dJ0_coder_7d493_7 kcl_J0 1 (by decide) kw_1280 g0 rfl ?_
  refine A_goto (tgt := 14) X dJ0_coder_7d493_10 (by decide) ?_
  exact A_nret X dJ0_coder_7d493_14 hr rfl ⟨rfl, rfl, rfl⟩ (Nat.le_of_ble_eq_true rfl) (Nat.le_of_ble_eq_true rfl)
set_option maxHeartbeats 4000000 in
set_option maxRecDepth 100000 in
theorem m_latin {E : KE} {l : Launch} {hp : Hp} {al : Option Nat} {r v : Nat} {h0 z0 : Int32} (g0 : hp r = some (.inr (0, [.ref v, .int 0, .int h0, .int z0]))) : AM E l yJ0_isLatin1_aae02 cJ0_isLatin1_aae02 1 (Option.some Jvm.ClassFile.FieldType.boolean) ⟨0, 0, 0, 0⟩ [.ref r] hp al (kRet 1 hp al) := by
  refine A_of (by decide +kernel) (Nat.le_of_ble_eq_true rfl) ?_
  intro p e s m args below meth c X hr hnm
  have X : CX E p l s m args meth c "java/lang/String" cJ0_isLatin1_aae02 1 := X
  refine A_L (L' := [(0, .ref r)]) rfl ?_
  refine A_compact X dJ0_isLatin1_aae02_0 kw_272 ?_
  refine A_if_eq_f (tgt := 17) X dJ0_isLatin1_aae02_3 (by decide) (by decide) ?_
  refine A_aload_n X dJ0_isLatin1_aae02_6 0 rfl ?_
  refine A_get X dJ0_isLatin1_aae02_7 kcl_J0 1 (by decide) kw_1280 g0 rfl ?_
  refine A_if_ne_f (tgt := 17) X dJ0_isLatin1_aae02_10 (by decide) (by decide) ?_
  refine A_iconst (v := 1) X dJ0_isLatin1_aae02_13 (by decide) ?_
  refine A_goto (tgt := 18) X dJ0_isLatin1_aae02_14 (by decide) ?_
  exact A_zret X dJ0_isLatin1_aae02_18 hr (Or.inr rfl) ⟨rfl, rfl, rfl⟩ (Nat.le_of_ble_eq_true rfl) (Nat.le_of_ble_eq_true rfl)
set_option maxHeartbeats 4000000 in
set_option maxRecDepth 100000 in
theorem m_length {E : KE} {l : Launch} {hp : Hp} {al : Option Nat} {r v : Nat} {h0 z0 : Int32} (g0 : hp r = some (.inr (0, [.ref v, .int 0, .int h0, .int z0]))) {n : Nat} {a : Nat → Int32} (g1 : hp v = some (.inl (kC E 3, n, .inl a))) : AM E l yJ0_length_8abf5 cJ0_length_8abf5 1 (Option.some Jvm.ClassFile.FieldType.int) ⟨1, 0, 0, 20⟩ [.ref r] hp al (kRet (nI n) hp al) := by
  refine A_of (by decide +kernel) (Nat.le_of_ble_eq_true rfl) ?_
  intro p e s m args below meth c X hr hnm
  have X : CX E p l s m args meth c "java/lang/String" cJ0_length_8abf5 1 := X
  refine A_L (L' := [(0, .ref r)]) rfl ?_
  refine A_aload_n X dJ0_length_8abf5_0 0 rfl ?_
  refine A_get X dJ0_length_8abf5_1 kcl_J0 0 (by decide) kw_1279 g0 rfl ?_
  refine A_alen (t := 3) (v := (nI n)) X dJ0_length_8abf5_4 g1 rfl rfl ?_
  refine A_aload_n X dJ0_length_8abf5_5 0 rfl ?_
  refine A_cp (k' := 0) (n' := 0) (A_runV (rest := [.int (nI n)]) X dJ0_length_8abf5_6 (m_coder g0) kY_J0_coder_7d493 kw_268 g0 rfl rfl ⟨(Nat.le_of_ble_eq_true rfl), (Nat.le_of_ble_eq_true rfl), (Nat.le_of_ble_eq_true rfl), (Nat.le_of_ble_eq_true rfl)⟩ rfl (Nat.le_of_ble_eq_true rfl)) rfl rfl ?_
  refine A_ishr X dJ0_length_8abf5_9 ?_
  rw [q_sh0]
  exact A_iret X dJ0_length_8abf5_10 hr ⟨rfl, rfl, rfl⟩ (Nat.le_of_ble_eq_true rfl) (Nat.le_of_ble_eq_true rfl)
theorem chr128 : ∀ c, c < 128 → ((nI c &&& 255).toUInt32 % 65536).toInt32 = nI c := by decide +kernel
theorem chn128 : ∀ c, c < 128 → narrow .char (.int (nI c)) = .int (nI c) := by decide +kernel
set_option maxHeartbeats 4000000 in
set_option maxRecDepth 100000 in
theorem m_char1 {E : KE} {l : Launch} {hp : Hp} {al : Option Nat} {v : Nat} {n i cz : Nat} {a : Nat → Int32} (g1 : hp v = some (.inl (kC E 3, n, .inl a))) (hi : i < n) (hn : n < 1000) (hcz : cz < 128) (he : a i = nI cz) : AM E l yJ1_charAt_3b067 cJ1_charAt_3b067 2 (Option.some Jvm.ClassFile.FieldType.char) ⟨2, 0, 0, 43⟩ [.ref v, .int (nI i)] hp al (kRet (nI cz) hp al) := by
  refine A_of (by decide +kernel) (Nat.le_of_ble_eq_true rfl) ?_
  intro p e s m args below meth c X hr hnm
  have X : CX E p l s m args meth c "java/lang/StringLatin1" cJ1_charAt_3b067 2 := X
  refine A_L (L' := [(0, .ref v), (1, .int (nI i))]) rfl ?_
  refine A_iload_n X dJ1_charAt_3b067_0 1 rfl ?_
  refine A_aload_n X dJ1_charAt_3b067_1 0 rfl ?_
  refine A_alen (t := 3) (v := (nI n)) X dJ1_charAt_3b067_2 g1 rfl rfl ?_
  refine A_c (k' := 0) (n' := 0) rfl rfl (A_runS (rest := []) X dJ1_charAt_3b067_3 (c_J0_checkIndex_df160 (nI_pos (by omega)) (nI_lt hi (by omega))) kY_J0_checkIndex_df160 kw_285 ⟨(Nat.le_of_ble_eq_true rfl), (Nat.le_of_ble_eq_true rfl), (Nat.le_of_ble_eq_true rfl), (Nat.le_of_ble_eq_true rfl)⟩ rfl (Nat.le_of_ble_eq_true rfl)) (fun v9 hp9 al9 hP => ?_)
  obtain ⟨rfl, rfl, rfl⟩ := hP
  refine A_st (st' := []) rfl ?_
  refine A_aload_n X dJ1_charAt_3b067_6 0 rfl ?_
  refine A_iload_n X dJ1_charAt_3b067_7 1 rfl ?_
  refine A_bald X dJ1_charAt_3b067_8 g1 (decide_eq_true (nI_in hi (by omega))) ?_
  rw [nI_clamp (by omega), he]
  refine A_sipush (v := 255) X dJ1_charAt_3b067_9 (by decide) ?_
  refine A_iand X dJ1_charAt_3b067_12 ?_
  refine A_i2c X dJ1_charAt_3b067_13 ?_
  rw [chr128 cz hcz]
  exact A_nret X dJ1_charAt_3b067_14 hr (chn128 cz hcz) ⟨rfl, rfl, rfl⟩ (Nat.le_of_ble_eq_true rfl) (Nat.le_of_ble_eq_true rfl)
set_option maxHeartbeats 4000000 in
set_option maxRecDepth 100000 in
theorem m_charAt {E : KE} {l : Launch} {hp : Hp} {al : Option Nat} {r v : Nat} {h0 z0 : Int32} (g0 : hp r = some (.inr (0, [.ref v, .int 0, .int h0, .int z0]))) {n i cz : Nat} {a : Nat → Int32} (g1 : hp v = some (.inl (kC E 3, n, .inl a))) (hi : i < n) (hn : n < 1000) (hcz : cz < 128) (he : a i = nI cz) : AM E l yJ0_charAt_5068e cJ0_charAt_5068e 2 (Option.some Jvm.ClassFile.FieldType.char) ⟨3, 0, 0, 64⟩ [.ref r, .int (nI i)] hp al (kRet (nI cz) hp al) := by
  refine A_of (by decide +kernel) (Nat.le_of_ble_eq_true rfl) ?_
  intro p e s m args below meth c X hr hnm
  have X : CX E p l s m args meth c "java/lang/String" cJ0_charAt_5068e 2 := X
  refine A_L (L' := [(0, .ref r), (1, .int (nI i))]) rfl ?_
  refine A_aload_n X dJ0_charAt_5068e_0 0 rfl ?_
  refine A_cp (k' := 0) (n' := 0) (A_runV (rest := []) X dJ0_charAt_5068e_1 (m_latin g0) kY_J0_isLatin1_aae02 kw_278 g0 rfl rfl ⟨(Nat.le_of_ble_eq_true rfl), (Nat.le_of_ble_eq_true rfl), (Nat.le_of_ble_eq_true rfl), (Nat.le_of_ble_eq_true rfl)⟩ rfl (Nat.le_of_ble_eq_true rfl)) rfl rfl ?_
  refine A_if_eq_f (tgt := 16) X dJ0_charAt_5068e_4 (by decide) (by decide) ?_
  refine A_aload_n X dJ0_charAt_5068e_7 0 rfl ?_
  refine A_get X dJ0_charAt_5068e_8 kcl_J0 0 (by decide) kw_1279 g0 rfl ?_
  refine A_iload_n X dJ0_charAt_5068e_11 1 rfl ?_
  refine A_cp (k' := 0) (n' := 0) (A_runS (rest := []) X dJ0_charAt_5068e_12 (m_char1 g1 hi hn hcz he) kY_J1_charAt_3b067 kw_282 ⟨(Nat.le_of_ble_eq_true rfl), (Nat.le_of_ble_eq_true rfl), (Nat.le_of_ble_eq_true rfl), (Nat.le_of_ble_eq_true rfl)⟩ rfl (Nat.le_of_ble_eq_true rfl)) rfl rfl ?_
  exact A_nret X dJ0_charAt_5068e_15 hr (chn128 cz hcz) ⟨rfl, rfl, rfl⟩ (Nat.le_of_ble_eq_true rfl) (Nat.le_of_ble_eq_true rfl)
