/-! texts of letters below 128; a builder's cells -/
def ByF (a : Nat → Int32) : Prop := ∀ i, ∃ c, c < 128 ∧ a i = nI c
theorem fit128 : ∀ c, c < 128 → fits .byte (.int (nI c)) = true := by decide +kernel
theorem ByF.fit {a : Nat → Int32} (h : ByF a) (i : Nat) : fits .byte (.int (a i)) = true := by
  obtain ⟨c, hc, e⟩ := h i
  rw [e]
  exact fit128 c hc
theorem ByF.zero : ByF (fun _ => 0) := fun _ => ⟨0, by omega, n_0⟩
theorem ByF.upd {a : Nat → Int32} (h : ByF a) {k c : Nat} (hc : c < 128) : ByF (upd a k (nI c)) := fun i => by
  by_cases hi : i = k
  · exact ⟨c, hc, q_us hi⟩
  · rw [q_un hi]
    exact h i
theorem ByF.cpy {f a : Nat → Int32} {w sp dp : Nat} (hf : ∀ i, i < w → ∃ c, c < 128 ∧ f (sp + i) = nI c) (h : ByF a) : ByF (va_cpy f a sp dp w) := fun i => by
  by_cases hi : dp ≤ i ∧ i < dp + w
  · rw [pk_cpy_in hi.1 hi.2]
    exact hf _ (by omega)
  · rw [pk_cpy_out (by omega)]
    exact h i
/-- the builder at b: its count n, its first letters l, room for q -/
def SBd (E : KE) (hp : Hp) (b n : Nat) (l : List Nat) (q : Nat) : Prop := ∃ (v m : Nat) (a : Nat → Int32) (mb : Int32), hp b = some (.inr (1, [.ref v, .int 0, .int mb, .int (nI n)])) ∧ hp v = some (.inl (kC E 3, m, .inl a)) ∧ b < v ∧ n ≤ m ∧ l.length ≤ m ∧ q ≤ m ∧ m ≤ 256 ∧ ByF a ∧ ∀ i c, l[i]? = some c → a i = nI c
/-- a constant's letters -/
def kLt (j : Nat) : List Nat := (kByt.getD j []).map Int32.toNatClampNeg
theorem kLt_all : ∀ j, j < 10 → (kLt j).length = kLen.getD j 0 ∧ kLen.getD j 0 ≤ 134 ∧ ∀ i, i < kLen.getD j 0 → (kLt j).getD i 0 < 128 ∧ (kByt.getD j []).getD i 0 = nI ((kLt j).getD i 0) := by decide +kernel
theorem kLt_at {j : Nat} (hj : j < 10) {i c : Nat} (h : (kLt j)[i]? = some c) : i < kLen.getD j 0 ∧ c < 128 ∧ (kByt.getD j []).getD i 0 = nI c := by
  obtain ⟨h1, h2, h3⟩ := kLt_all j hj
  have hi := (List.getElem?_eq_some_iff.mp h).1
  have e : (kLt j).getD i 0 = c := by rw [List.getD_eq_getElem?_getD, h]; rfl
  have := h3 i (by omega)
  rw [e] at this
  exact ⟨by omega, this⟩
theorem SBd.weak {E : KE} {hp : Hp} {b n q q' : Nat} {l : List Nat} (h : SBd E hp b n l q) (hq : q' ≤ q) : SBd E hp b n l q' := by
  obtain ⟨v, m, a, mb, g0, g1, h1, h2, h3, h4, h5, h6, h7⟩ := h
  exact ⟨v, m, a, mb, g0, g1, h1, h2, h3, by omega, h5, h6, h7⟩
theorem get_app {l l' : List Nat} {i c : Nat} (h : (l ++ l')[i]? = some c) : (i < l.length ∧ l[i]? = some c) ∨ (l.length ≤ i ∧ l'[i - l.length]? = some c) := by
  by_cases hi : i < l.length
  · rw [List.getElem?_append_left hi] at h
    exact Or.inl ⟨hi, h⟩
  · rw [List.getElem?_append_right (by omega)] at h
    exact Or.inr ⟨by omega, h⟩
theorem nar128 : ∀ c, c < 128 → vp_nar .byte (nI c).toInt8.toInt32 = nI c := by decide +kernel
theorem nar128b : ∀ c, c < 128 → vp_nar .byte (nI c) = nI c := by decide +kernel
theorem q_sh0 (x : Int32) : x >>> ((0 : Int32) &&& 31) = x := sb_shr0 x
theorem q_sl0 (x : Int32) : x <<< ((0 : Int32) &&& 31) = x := sb_shl0 x
theorem q_max {x y : Nat} (hx : x < 1073741824) (hy : y < 1073741824) : (if nI x < nI y then nI y else nI x) = nI (if x < y then y else x) := by
  by_cases h : x < y
  · rw [if_pos h, if_pos ((nI_ltI (by omega) (by omega)).mpr h)]
  · rw [if_neg h, if_neg (fun c => h ((nI_ltI (by omega) (by omega)).mp c))]
theorem q_min {x y : Nat} (hx : x < 1073741824) (hy : y < 1073741824) : (if nI y < nI x then nI y else nI x) = nI (if y < x then y else x) := by
  by_cases h : y < x
  · rw [if_pos h, if_pos ((nI_ltI (by omega) (by omega)).mpr h)]
  · rw [if_neg h, if_neg (fun c => h ((nI_ltI (by omega) (by omega)).mp c))]
theorem kSl_nI {j : Nat} : kSl j = nI (kLen.getD j 0) := sb_shr0 _
abbrev kRef (b : Nat) (Q : Hp → Prop) : Option Value → Hp → Option Nat → Prop := fun v hp' _ => v = some (.ref b) ∧ Q hp'
abbrev kVoid (Q : Hp → Prop) : Option Value → Hp → Option Nat → Prop := fun v hp' _ => v = none ∧ Q hp'
set_option maxHeartbeats 4000000 in
set_option maxRecDepth 100000 in
theorem c_J5_isLatin1_aae02 {E : KE} {l : Launch} {hp : Hp} {al : Option Nat} {b v : Nat} {mb nn : Int32} (g0 : hp b = some (.inr (1, [.ref v, .int 0, .int mb, .int nn]))) : AM E l yJ5_isLatin1_aae02 cJ5_isLatin1_aae02 1 (Option.some Jvm.ClassFile.FieldType.boolean) ⟨0, 0, 0, 0⟩ [.ref b] hp al (kRet 1 hp al) := by
  refine A_of (by decide +kernel) (Nat.le_of_ble_eq_true rfl) ?_
  intro p e s m args below meth c X hr hnm
  have X : CX E p l s m args meth c "java/lang/AbstractStringBuilder" cJ5_isLatin1_aae02 1 := X
  refine A_L (L' := [(0, .ref b)]) rfl ?_
  refine A_compact X dJ5_isLatin1_aae02_0 kw_1115 ?_
  refine A_if_eq_f (tgt := 17) X dJ5_isLatin1_aae02_3 (by decide) (by decide) ?_
  refine A_aload_n X dJ5_isLatin1_aae02_6 0 rfl ?_
  refine A_get X dJ5_isLatin1_aae02_7 kcl_J4 1 (by decide) kw_1165 g0 rfl ?_
  refine A_if_ne_f (tgt := 17) X dJ5_isLatin1_aae02_10 (by decide) (by decide) ?_
  refine A_iconst (v := 1) X dJ5_isLatin1_aae02_13 (by decide) ?_
  refine A_goto (tgt := 18) X dJ5_isLatin1_aae02_14 (by decide) ?_
  exact A_zret X dJ5_isLatin1_aae02_18 hr (Or.inr rfl) ⟨rfl, rfl, rfl⟩ (Nat.le_of_ble_eq_true rfl) (Nat.le_of_ble_eq_true rfl)
theorem kU_J5_isLatin1_aae02 : kYU yJ5_isLatin1_aae02 yJ5_isLatin1_aae02 (Cond.code yJ5_isLatin1_aae02 prog_15_method_68_code (1 : Nat) (Option.some Jvm.ClassFile.FieldType.boolean)) (Cond.code yJ5_isLatin1_aae02 prog_15_method_68_code (1 : Nat) (Option.some Jvm.ClassFile.FieldType.boolean)) 0 := ⟨kw_1114, kw_1111, kw_19, ⟨by decide +kernel, by decide +kernel⟩, by decide +kernel, kw_1112, kw_1111, kw_1114⟩
set_option maxHeartbeats 4000000 in
set_option maxRecDepth 100000 in
theorem c_J0_getBytes_840e7 {E : KE} {l : Launch} {hp : Hp} {al : Option Nat} {j v n mz : Nat} {a : Nat → Int32} (hj : j < 10) (g1 : hp v = some (.inl (kC E 3, mz, .inl a))) (h1 : n + kLen.getD j 0 ≤ mz) (h2 : mz ≤ 256) : AM E l yJ0_getBytes_840e7 cJ0_getBytes_840e7 4 (Option.none : Option Jvm.ClassFile.FieldType) ⟨1, 0, 0, 20⟩ [.ref (kS E j), .ref v, .int (nI n), .int 0] hp al (kVoid (fun hp' => hp' v = some (.inl (kC E 3, mz, .inl (va_cpy (fun i => (kByt.getD j []).getD i 0) a 0 n (kLen.getD j 0)))) ∧ ∀ q, q ≠ v → hp' q = hp q)) := by
  refine A_of (by decide +kernel) (Nat.le_of_ble_eq_true rfl) ?_
  intro p e s m args below meth c X hr hnm
  have X : CX E p l s m args meth c "java/lang/String" cJ0_getBytes_840e7 4 := X
  refine A_L (L' := [(0, .ref (kS E j)), (1, .ref v), (2, .int (nI n)), (3, .int 0)]) rfl ?_
  refine A_aload_n X dJ0_getBytes_840e7_0 0 rfl ?_
  refine A_cp (k' := 0) (n' := 0) (A_runStr (rest := []) X dJ0_getBytes_840e7_1 (c_J0_coder_7d493 hj) kY_J0_coder_7d493 kw_268 hj rfl ⟨(Nat.le_of_ble_eq_true rfl), (Nat.le_of_ble_eq_true rfl), (Nat.le_of_ble_eq_true rfl), (Nat.le_of_ble_eq_true rfl)⟩ rfl (Nat.le_of_ble_eq_true rfl)) rfl rfl ?_
  refine A_iload_n X dJ0_getBytes_840e7_4 3 rfl ?_
  refine A_icmp_ne_f (tgt := 28) X dJ0_getBytes_840e7_5 (by decide) (by decide) ?_
  refine A_aload_n X dJ0_getBytes_840e7_8 0 rfl ?_
  refine A_svalue X dJ0_getBytes_840e7_9 kw_1279 hj ?_
  refine A_iconst (v := 0) X dJ0_getBytes_840e7_12 (by decide) ?_
  refine A_aload_n X dJ0_getBytes_840e7_13 1 rfl ?_
  refine A_iload_n X dJ0_getBytes_840e7_14 2 rfl ?_
  refine A_iload_n X dJ0_getBytes_840e7_15 3 rfl ?_
  refine A_ishl X dJ0_getBytes_840e7_16 ?_
  refine A_aload_n X dJ0_getBytes_840e7_17 0 rfl ?_
  refine A_svalue X dJ0_getBytes_840e7_18 kw_1279 hj ?_
  refine A_sblen X dJ0_getBytes_840e7_21 hj ?_
  rw [q_sl0]
  obtain ⟨e1, e2, e3⟩ := kLt_all j hj
  refine A_copyt X kw_1162 kw_630 kw_629 kw_18 hj g1 (fun i hi => ?_) (by decide) (nI_pos (by omega)) (nI_pos (by omega)) ?_ ?_ (Nat.le_of_ble_eq_true rfl) (Nat.le_of_ble_eq_true rfl) dJ0_getBytes_840e7_22 (fun hp1 k1 n1 => ?_)
  · rw [show (0 : Int32).toNatClampNeg = 0 by decide, Nat.zero_add]
    by_cases hi2 : i < kLen.getD j 0
    · rw [(e3 i hi2).2]
      exact fit128 _ (e3 i hi2).1
    · rw [nI_clamp (by omega)] at hi
      exact absurd hi hi2
  · rw [show (0 : Int32).toNatClampNeg = 0 by decide, nI_clamp (by omega)]
    omega
  · rw [nI_clamp (by omega), nI_clamp (by omega)]
    omega
  rw [show (0 : Int32).toNatClampNeg = 0 by decide, nI_clamp (n := n) (by omega), nI_clamp (n := kLen.getD j 0) (by omega)] at k1
  refine A_goto (tgt := 43) X dJ0_getBytes_840e7_25 (by decide) ?_
  exact A_vret X dJ0_getBytes_840e7_43 hr ⟨rfl, k1, n1⟩ (Nat.le_of_ble_eq_true rfl) (Nat.le_of_ble_eq_true rfl)
set_option maxHeartbeats 4000000 in
set_option maxRecDepth 100000 in
theorem c_J5_inflateIfNeededFor_a7421 {E : KE} {l : Launch} {hp : Hp} {al : Option Nat} {b v : Nat} {mb nn : Int32} (g0 : hp b = some (.inr (1, [.ref v, .int 0, .int mb, .int nn]))) {j : Nat} (hj : j < 10) : AM E l yJ5_inflateIfNeededFor_a7421 cJ5_inflateIfNeededFor_a7421 2 (Option.none : Option Jvm.ClassFile.FieldType) ⟨1, 0, 0, 20⟩ [.ref b, .ref (kS E j)] hp al (kRv hp al) := by
  refine A_of (by decide +kernel) (Nat.le_of_ble_eq_true rfl) ?_
  intro p e s m args below meth c X hr hnm
  have X : CX E p l s m args meth c "java/lang/AbstractStringBuilder" cJ5_inflateIfNeededFor_a7421 2 := X
  refine A_L (L' := [(0, .ref b), (1, .ref (kS E j))]) rfl ?_
  refine A_compact X dJ5_inflateIfNeededFor_a7421_0 kw_1115 ?_
  refine A_if_eq_f (tgt := 21) X dJ5_inflateIfNeededFor_a7421_3 (by decide) (by decide) ?_
  refine A_aload_n X dJ5_inflateIfNeededFor_a7421_6 0 rfl ?_
  refine A_get X dJ5_inflateIfNeededFor_a7421_7 kcl_J4 1 (by decide) kw_1165 g0 rfl ?_
  refine A_aload_n X dJ5_inflateIfNeededFor_a7421_10 1 rfl ?_
  refine A_cp (k' := 0) (n' := 0) (A_runStr (rest := [.int 0]) X dJ5_inflateIfNeededFor_a7421_11 (c_J0_coder_7d493 hj) kY_J0_coder_7d493 kw_1057 hj rfl ⟨(Nat.le_of_ble_eq_true rfl), (Nat.le_of_ble_eq_true rfl), (Nat.le_of_ble_eq_true rfl), (Nat.le_of_ble_eq_true rfl)⟩ rfl (Nat.le_of_ble_eq_true rfl)) rfl rfl ?_
  refine A_icmp_eq_t (tgt := 21) X dJ5_inflateIfNeededFor_a7421_14 (by decide) (by decide) ?_
  exact A_vret X dJ5_inflateIfNeededFor_a7421_21 hr ⟨rfl, rfl, rfl⟩ (Nat.le_of_ble_eq_true rfl) (Nat.le_of_ble_eq_true rfl)
theorem kU_J5_inflateIfNeededFor_a7421 : kYU yJ5_inflateIfNeededFor_a7421 yJ5_inflateIfNeededFor_a7421 (Cond.code yJ5_inflateIfNeededFor_a7421 prog_15_method_71_code (2 : Nat) (Option.none : Option Jvm.ClassFile.FieldType)) (Cond.code yJ5_inflateIfNeededFor_a7421 prog_15_method_71_code (2 : Nat) (Option.none : Option Jvm.ClassFile.FieldType)) 1 := ⟨kw_1138, kw_1137, kw_19, ⟨by decide +kernel, by decide +kernel⟩, by decide +kernel, kw_1347, kw_1137, kw_1138⟩
set_option maxHeartbeats 4000000 in
set_option maxRecDepth 100000 in
theorem c_J5_putStringAt_47b60 {E : KE} {l : Launch} {hp : Hp} {b v : Nat} {mb nn : Int32} (g0 : hp b = some (.inr (1, [.ref v, .int 0, .int mb, .int nn]))) {j n mz : Nat} {a : Nat → Int32} (hj : j < 10) (g1 : hp v = some (.inl (kC E 3, mz, .inl a))) (h1 : n + kLen.getD j 0 ≤ mz) (h2 : mz ≤ 256) : AM E l yJ5_putStringAt_47b60 cJ5_putStringAt_47b60 3 (Option.none : Option Jvm.ClassFile.FieldType) ⟨2, 0, 0, 43⟩ [.ref b, .int (nI n), .ref (kS E j)] hp none (kVoid (fun hp' => hp' v = some (.inl (kC E 3, mz, .inl (va_cpy (fun i => (kByt.getD j []).getD i 0) a 0 n (kLen.getD j 0)))) ∧ ∀ q, q ≠ v → hp' q = hp q)) := by
  refine A_of (by decide +kernel) (Nat.le_of_ble_eq_true rfl) ?_
  intro p e s m args below meth c X hr hnm
  have X : CX E p l s m args meth c "java/lang/AbstractStringBuilder" cJ5_putStringAt_47b60 3 := X
  refine A_L (L' := [(0, .ref b), (1, .int (nI n)), (2, .ref (kS E j))]) rfl ?_
  refine A_aload_n X dJ5_putStringAt_47b60_0 0 rfl ?_
  refine A_aload_n X dJ5_putStringAt_47b60_1 2 rfl ?_
  refine A_c (k' := 0) (n' := 0) rfl rfl (A_runU (rest := []) X dJ5_putStringAt_47b60_2 (c_J5_inflateIfNeededFor_a7421 g0 hj) kU_J5_inflateIfNeededFor_a7421 (kN_at X.2.2.2.2.2.1 (List.mem_append_left _ (List.mem_of_getElem? (i := 3) rfl)) rfl) kw_1135 g0 ⟨(Nat.le_of_ble_eq_true rfl), (Nat.le_of_ble_eq_true rfl), (Nat.le_of_ble_eq_true rfl), (Nat.le_of_ble_eq_true rfl)⟩ rfl (Nat.le_of_ble_eq_true rfl)) (fun v9 hp1 al9 hP => ?_)
  obtain ⟨rfl, rfl, rfl⟩ := hP
  refine A_al ?_
  refine A_st (st' := []) rfl ?_
  refine A_aload_n X dJ5_putStringAt_47b60_5 2 rfl ?_
  refine A_aload_n X dJ5_putStringAt_47b60_6 0 rfl ?_
  refine A_get X dJ5_putStringAt_47b60_7 kcl_J4 0 (by decide) kw_1164 g0 rfl ?_
  refine A_iload_n X dJ5_putStringAt_47b60_10 1 rfl ?_
  refine A_aload_n X dJ5_putStringAt_47b60_11 0 rfl ?_
  refine A_get X dJ5_putStringAt_47b60_12 kcl_J4 1 (by decide) kw_1165 g0 rfl ?_
  refine A_c (k' := 0) (n' := 0) rfl rfl (A_runStr (rest := []) X dJ5_putStringAt_47b60_15 (c_J0_getBytes_840e7 hj g1 h1 h2) kY_J0_getBytes_840e7 kw_1158 hj rfl ⟨(Nat.le_of_ble_eq_true rfl), (Nat.le_of_ble_eq_true rfl), (Nat.le_of_ble_eq_true rfl), (Nat.le_of_ble_eq_true rfl)⟩ rfl (Nat.le_of_ble_eq_true rfl)) (fun v9 hp2 al9 hP => ?_)
  obtain ⟨rfl, k2, n2⟩ := hP
  refine A_al ?_
  refine A_st (st' := []) rfl ?_
  exact A_vret X dJ5_putStringAt_47b60_18 hr ⟨rfl, k2, n2⟩ (Nat.le_of_ble_eq_true rfl) (Nat.le_of_ble_eq_true rfl)
theorem kU_J5_putStringAt_47b60 : kYU yJ5_putStringAt_47b60 yJ5_putStringAt_47b60 (Cond.code yJ5_putStringAt_47b60 prog_15_method_73_code (3 : Nat) (Option.none : Option Jvm.ClassFile.FieldType)) (Cond.code yJ5_putStringAt_47b60 prog_15_method_73_code (3 : Nat) (Option.none : Option Jvm.ClassFile.FieldType)) 2 := ⟨kw_1134, kw_1133, kw_19, ⟨by decide +kernel, by decide +kernel⟩, by decide +kernel, kw_1346, kw_1133, kw_1134⟩
set_option maxHeartbeats 4000000 in
set_option maxRecDepth 100000 in
theorem c_J8_newLength_cabcc {E : KE} {l : Launch} {hp : Hp} {al : Option Nat} {mz x y : Nat} (h1 : mz ≤ 300) (h2 : x ≤ 300) (h3 : y ≤ 302) (h0 : 0 < y) : AM E l yJ8_newLength_cabcc cJ8_newLength_cabcc 4 (Option.some Jvm.ClassFile.FieldType.int) ⟨1, 0, 0, 16⟩ [.int (nI mz), .int (nI x), .int (nI y)] hp al (kRet (nI (mz + (if x < y then y else x))) hp al) := by
  refine A_of (by decide +kernel) (Nat.le_of_ble_eq_true rfl) ?_
  intro p e s m args below meth c X hr hnm
  have X : CX E p l s m args meth c "jdk/internal/util/ArraysSupport" cJ8_newLength_cabcc 4 := X
  refine A_L (L' := [(0, .int (nI mz)), (1, .int (nI x)), (2, .int (nI y))]) rfl ?_
  refine A_iload_n X dJ8_newLength_cabcc_0 0 rfl ?_
  refine A_iload_n X dJ8_newLength_cabcc_1 1 rfl ?_
  refine A_iload_n X dJ8_newLength_cabcc_2 2 rfl ?_
  refine A_mmax X dJ8_newLength_cabcc_3 kw_1093 kw_579 kw_16 kw_580 (Nat.le_of_ble_eq_true rfl) (Nat.le_of_ble_eq_true rfl) (Nat.le_of_ble_eq_true rfl) (Nat.le_of_ble_eq_true rfl) ?_
  rw [q_max (by omega) (by omega)]
  refine A_iadd X dJ8_newLength_cabcc_6 ?_
  rw [nI_add]
  generalize hz : mz + (if x < y then y else x) = z
  refine A_istore_n (L' := [(3, .int (nI z)), (0, .int (nI mz)), (1, .int (nI x)), (2, .int (nI y))]) X dJ8_newLength_cabcc_7 rfl (by decide) rfl ?_
  refine A_iconst (v := 0) X dJ8_newLength_cabcc_8 (by decide) ?_
  refine A_iload_n X dJ8_newLength_cabcc_9 0 rfl ?_
  have hz2 : z < 2000 ∧ 0 < z := by split at hz <;> omega
  refine A_icmp_ge_f (tgt := 21) X dJ8_newLength_cabcc_10 (by rw [n_0, q_le (by omega) (by omega)]; omega) (by decide) ?_
  refine A_iload_n X dJ8_newLength_cabcc_13 0 rfl ?_
  refine A_ldci X dJ8_newLength_cabcc_14 kw_1094 ?_
  refine A_icmp_gt_f (tgt := 21) X dJ8_newLength_cabcc_16 (show ¬ nI 2147483639 < nI z by rw [q_lt (by omega) (by omega)]; omega) (by decide) ?_
  refine A_iload_n X dJ8_newLength_cabcc_19 0 rfl ?_
  exact A_iret X dJ8_newLength_cabcc_20 hr ⟨rfl, rfl, rfl⟩ (Nat.le_of_ble_eq_true rfl) (Nat.le_of_ble_eq_true rfl)
set_option maxHeartbeats 4000000 in
set_option maxRecDepth 100000 in
theorem c_J5_newCapacity_0f7a4 {E : KE} {l : Launch} {hp : Hp} {al : Option Nat} {b v : Nat} {mb nn : Int32} (g0 : hp b = some (.inr (1, [.ref v, .int 0, .int mb, .int nn]))) {mz : Nat} {a : Nat → Int32} (g1 : hp v = some (.inl (kC E 3, mz, .inl a))) {q : Nat} (h1 : mz ≤ 256) (h2 : q ≤ 256) (h3 : mz < q) : AM E l yJ5_newCapacity_0f7a4 cJ5_newCapacity_0f7a4 6 (Option.some Jvm.ClassFile.FieldType.int) ⟨2, 0, 0, 39⟩ [.ref b, .int (nI q)] hp al (kRet (nI (mz + (if q - mz < mz + 2 then mz + 2 else q - mz))) hp al) := by
  refine A_of (by decide +kernel) (Nat.le_of_ble_eq_true rfl) ?_
  intro p e s m args below meth c X hr hnm
  have X : CX E p l s m args meth c "java/lang/AbstractStringBuilder" cJ5_newCapacity_0f7a4 6 := X
  refine A_L (L' := [(0, .ref b), (1, .int (nI q))]) rfl ?_
  refine A_aload_n X dJ5_newCapacity_0f7a4_0 0 rfl ?_
  refine A_get X dJ5_newCapacity_0f7a4_1 kcl_J4 0 (by decide) kw_1164 g0 rfl ?_
  refine A_alen (t := 3) (v := (nI mz)) X dJ5_newCapacity_0f7a4_4 g1 rfl rfl ?_
  refine A_istore_n (L' := [(2, .int (nI mz)), (0, .ref b), (1, .int (nI q))]) X dJ5_newCapacity_0f7a4_5 rfl (by decide) rfl ?_
  refine A_iload_n X dJ5_newCapacity_0f7a4_6 2 rfl ?_
  refine A_aload_n X dJ5_newCapacity_0f7a4_7 1 rfl ?_
  refine A_get X dJ5_newCapacity_0f7a4_8 kcl_J4 1 (by decide) kw_1165 g0 rfl ?_
  refine A_ishl X dJ5_newCapacity_0f7a4_11 ?_
  rw [q_sl0]
  refine A_istore_n (L' := [(3, .int (nI q)), (2, .int (nI mz)), (0, .ref b), (1, .int (nI q))]) X dJ5_newCapacity_0f7a4_12 rfl (by decide) rfl ?_
  refine A_iload_n X dJ5_newCapacity_0f7a4_13 0 rfl ?_
  refine A_iload_n X dJ5_newCapacity_0f7a4_14 1 rfl ?_
  refine A_isub X dJ5_newCapacity_0f7a4_15 ?_
  rw [q_sub (by omega)]
  refine A_istore (L' := [(4, .int (nI (q - mz))), (3, .int (nI q)), (2, .int (nI mz)), (0, .ref b), (1, .int (nI q))]) X dJ5_newCapacity_0f7a4_16 (by decide) rfl ?_
  refine A_iload_n X dJ5_newCapacity_0f7a4_18 2 rfl ?_
  refine A_iload X dJ5_newCapacity_0f7a4_19 0 rfl ?_
  refine A_iload_n X dJ5_newCapacity_0f7a4_21 2 rfl ?_
  refine A_iconst (v := 2) X dJ5_newCapacity_0f7a4_22 (by decide) ?_
  refine A_aload_n X dJ5_newCapacity_0f7a4_23 3 rfl ?_
  refine A_get X dJ5_newCapacity_0f7a4_24 kcl_J4 1 (by decide) kw_1165 g0 rfl ?_
  refine A_ishl X dJ5_newCapacity_0f7a4_27 ?_
  rw [q_sl0]
  refine A_iadd X dJ5_newCapacity_0f7a4_28 ?_
  rw [show nI mz + 2 = nI (mz + 2) by rw [n_2, nI_add]]
  refine A_cp (k' := 0) (n' := 0) (A_runS (rest := []) X dJ5_newCapacity_0f7a4_29 (c_J8_newLength_cabcc (mz := mz) (x := q - mz) (y := mz + 2) (by omega) (by omega) (by omega) (by omega)) kY_J8_newLength_cabcc kw_1090 ⟨(Nat.le_of_ble_eq_true rfl), (Nat.le_of_ble_eq_true rfl), (Nat.le_of_ble_eq_true rfl), (Nat.le_of_ble_eq_true rfl)⟩ rfl (Nat.le_of_ble_eq_true rfl)) rfl rfl ?_
  generalize hz : (mz + (if q - mz < mz + 2 then mz + 2 else q - mz)) = z
  have hz2 : z < 2000 := by split at hz <;> omega
  refine A_istore (L' := [(5, .int (nI z)), (4, .int (nI (q - mz))), (3, .int (nI q)), (2, .int (nI mz)), (0, .ref b), (1, .int (nI q))]) X dJ5_newCapacity_0f7a4_32 (by decide) rfl ?_
  refine A_iload X dJ5_newCapacity_0f7a4_34 0 rfl ?_
  refine A_ldci X dJ5_newCapacity_0f7a4_36 kw_1056 ?_
  refine A_icmp_ne_t (tgt := 51) X dJ5_newCapacity_0f7a4_38 (show ¬ nI z = nI 2147483647 by rw [q_eq (by omega) (by omega)]; omega) (by decide) ?_
  refine A_iload X dJ5_newCapacity_0f7a4_51 0 rfl ?_
  refine A_aload_n X dJ5_newCapacity_0f7a4_53 4 rfl ?_
  refine A_get X dJ5_newCapacity_0f7a4_54 kcl_J4 1 (by decide) kw_1165 g0 rfl ?_
  refine A_ishr X dJ5_newCapacity_0f7a4_57 ?_
  rw [q_sh0]
  exact A_iret X dJ5_newCapacity_0f7a4_58 hr ⟨rfl, rfl, rfl⟩ (Nat.le_of_ble_eq_true rfl) (Nat.le_of_ble_eq_true rfl)
theorem kU_J5_newCapacity_0f7a4 : kYU yJ5_newCapacity_0f7a4 yJ5_newCapacity_0f7a4 (Cond.code yJ5_newCapacity_0f7a4 prog_15_method_10_code (6 : Nat) (Option.some Jvm.ClassFile.FieldType.int)) (Cond.code yJ5_newCapacity_0f7a4 prog_15_method_10_code (6 : Nat) (Option.some Jvm.ClassFile.FieldType.int)) 1 := ⟨kw_1089, kw_1088, kw_19, ⟨by decide +kernel, by decide +kernel⟩, by decide +kernel, kw_1345, kw_1088, kw_1089⟩
set_option maxHeartbeats 4000000 in
set_option maxRecDepth 100000 in
theorem c_J7_copyOf_9075b {E : KE} {l : Launch} {hp : Hp} {v q : Nat} {mz : Nat} {a : Nat → Int32} (g1 : hp v = some (.inl (kC E 3, mz, .inl a))) (hb : ByF a) (h1 : mz < q) (h2 : q ≤ 256) : AM E l yJ7_copyOf_9075b cJ7_copyOf_9075b 3 (Option.some (Jvm.ClassFile.FieldType.array Jvm.ClassFile.FieldType.byte)) ⟨1, 1, 256, 19⟩ [.ref v, .int (nI q)] hp none (fun v9 hp' _ => ∃ z : Nat, v9 = some (.ref z) ∧ (∀ q9 c9, hp q9 = some c9 → q9 < z) ∧ hp' z = some (.inl (kC E 3, q, .inl (va_cpy a (fun _ => 0) (Int32.toNatClampNeg 0) (Int32.toNatClampNeg 0) mz))) ∧ ∀ q9, q9 ≠ z → hp' q9 = hp q9) := by
  refine A_of (by decide +kernel) (Nat.le_of_ble_eq_true rfl) ?_
  intro p e s m args below meth c X hr hnm
  have X : CX E p l s m args meth c "java/util/Arrays" cJ7_copyOf_9075b 3 := X
  refine A_L (L' := [(0, .ref v), (1, .int (nI q))]) rfl ?_
  refine A_iload_n X dJ7_copyOf_9075b_0 1 rfl ?_
  refine A_aload_n X dJ7_copyOf_9075b_1 0 rfl ?_
  refine A_alen (t := 3) (v := (nI mz)) X dJ7_copyOf_9075b_2 g1 rfl rfl ?_
  refine A_icmp_ne_t (tgt := 14) X dJ7_copyOf_9075b_3 (by rw [q_eq (by omega) (by omega)]; omega) (by decide) ?_
  refine A_iload_n X dJ7_copyOf_9075b_14 1 rfl ?_
  refine A_newbr (N := q) X dJ7_copyOf_9075b_15 kw_671 (nI_pos (by omega)) (nI_clamp (by omega)) (by show q * 1 ≤ 536870912; omega) (Nat.le_of_ble_eq_true rfl) (by show 0 + q ≤ 256; omega) (fun z hp1 f1 k1 n1 => ?_)
  have g2 := (n1 v (Nat.ne_of_lt (f1 _ _ g1))).trans g1
  refine A_astore_n (L' := [(2, .ref z), (0, .ref v), (1, .int (nI q))]) X dJ7_copyOf_9075b_17 rfl (by decide) rfl ?_
  refine A_aload_n X dJ7_copyOf_9075b_18 1 rfl ?_
  refine A_iconst (v := 0) X dJ7_copyOf_9075b_19 (by decide) ?_
  refine A_aload_n X dJ7_copyOf_9075b_20 0 rfl ?_
  refine A_iconst (v := 0) X dJ7_copyOf_9075b_21 (by decide) ?_
  refine A_aload_n X dJ7_copyOf_9075b_22 1 rfl ?_
  refine A_alen (t := 3) (v := (nI mz)) X dJ7_copyOf_9075b_23 g2 rfl rfl ?_
  refine A_iload_n X dJ7_copyOf_9075b_24 2 rfl ?_
  refine A_mmin X dJ7_copyOf_9075b_25 kw_1108 kw_354 kw_16 kw_355 (Nat.le_of_ble_eq_true rfl) (Nat.le_of_ble_eq_true rfl) (Nat.le_of_ble_eq_true rfl) (by show 0 + q ≤ 256; omega) ?_
  rw [q_min (by omega) (by omega), if_neg (by omega)]
  refine A_copyb X kw_1109 kw_630 kw_629 kw_18 g2 k1 (fun i _ => hb.fit _) (by decide) (by decide) (nI_pos (by omega)) (by rw [nI_clamp (by omega)]; show 0 + mz ≤ mz; omega) (by rw [nI_clamp (by omega)]; show 0 + mz ≤ q; omega) (Nat.le_of_ble_eq_true rfl) (Nat.le_of_ble_eq_true rfl) dJ7_copyOf_9075b_28 (fun hp2 k2 n2 => ?_)
  rw [nI_clamp (by omega)] at k2
  refine A_aload_n X dJ7_copyOf_9075b_31 0 rfl ?_
  exact A_aret X dJ7_copyOf_9075b_32 hr (Or.inr ⟨_, rfl⟩) ⟨z, rfl, f1, k2, fun q9 hq9 => (n2 q9 hq9).trans (n1 q9 hq9)⟩ (Nat.le_of_ble_eq_true rfl) (by show 0 + q ≤ 256; omega)
set_option maxHeartbeats 4000000 in
set_option maxRecDepth 100000 in
theorem c_J5_ensureCapacityInternal_d00df {E : KE} {l : Launch} {hp : Hp} {b n q q0 : Nat} {ll : List Nat} (hS : SBd E hp b n ll q0) (h1 : q ≤ 128) : AM E l yJ5_ensureCapacityInternal_d00df cJ5_ensureCapacityInternal_d00df 3 (Option.none : Option Jvm.ClassFile.FieldType) ⟨3, 1, 256, 64⟩ [.ref b, .int (nI q)] hp none (kVoid (fun hp' => SBd E hp' b n ll q ∧ ∀ q9, q9 < b → hp' q9 = hp q9)) := by
  refine A_of (by decide +kernel) (Nat.le_of_ble_eq_true rfl) ?_
  intro p e s m args below meth c X hr hnm
  have X : CX E p l s m args meth c "java/lang/AbstractStringBuilder" cJ5_ensureCapacityInternal_d00df 3 := X
  refine A_L (L' := [(0, .ref b), (1, .int (nI q))]) rfl ?_
  obtain ⟨v, mz, a, mb, g0, g1, hbv, hn, hl, hq, hm, hf, hc⟩ := hS
  refine A_aload_n X dJ5_ensureCapacityInternal_d00df_0 0 rfl ?_
  refine A_get X dJ5_ensureCapacityInternal_d00df_1 kcl_J4 0 (by decide) kw_1164 g0 rfl ?_
  refine A_alen (t := 3) (v := (nI mz)) X dJ5_ensureCapacityInternal_d00df_4 g1 rfl rfl ?_
  refine A_aload_n X dJ5_ensureCapacityInternal_d00df_5 0 rfl ?_
  refine A_get X dJ5_ensureCapacityInternal_d00df_6 kcl_J4 1 (by decide) kw_1165 g0 rfl ?_
  refine A_ishr X dJ5_ensureCapacityInternal_d00df_9 ?_
  rw [q_sh0]
  refine A_istore_n (L' := [(2, .int (nI mz)), (0, .ref b), (1, .int (nI q))]) X dJ5_ensureCapacityInternal_d00df_10 rfl (by decide) rfl ?_
  refine A_iload_n X dJ5_ensureCapacityInternal_d00df_11 2 rfl ?_
  refine A_iload_n X dJ5_ensureCapacityInternal_d00df_12 0 rfl ?_
  refine A_isub X dJ5_ensureCapacityInternal_d00df_13 ?_
  by_cases hqm : q ≤ mz
  · refine A_if_le_t (tgt := 38) X dJ5_ensureCapacityInternal_d00df_14 (by rw [n_0, q_d1 (by omega) (by omega)]; exact hqm) (by decide) ?_
    exact A_vret X dJ5_ensureCapacityInternal_d00df_38 hr ⟨rfl, ⟨v, mz, a, mb, g0, g1, hbv, hn, hl, hqm, hm, hf, hc⟩, fun q9 _ => rfl⟩ (Nat.le_of_ble_eq_true rfl) (Nat.le_of_ble_eq_true rfl)
  · refine A_if_le_f (tgt := 38) X dJ5_ensureCapacityInternal_d00df_14 (by rw [n_0, q_d1 (by omega) (by omega)]; exact hqm) (by decide) ?_
    refine A_aload_n X dJ5_ensureCapacityInternal_d00df_17 1 rfl ?_
    refine A_aload_n X dJ5_ensureCapacityInternal_d00df_18 1 rfl ?_
    refine A_get X dJ5_ensureCapacityInternal_d00df_19 kcl_J4 0 (by decide) kw_1164 g0 rfl ?_
    refine A_aload_n X dJ5_ensureCapacityInternal_d00df_22 1 rfl ?_
    refine A_iload_n X dJ5_ensureCapacityInternal_d00df_23 2 rfl ?_
    refine A_cp (k' := 0) (n' := 0) (A_runU (rest := [.ref v, .ref b]) X dJ5_ensureCapacityInternal_d00df_24 (c_J5_newCapacity_0f7a4 g0 g1 (q := q) (by omega) (by omega) (by omega)) kU_J5_newCapacity_0f7a4 (kN_at X.2.2.2.2.2.1 (List.mem_append_left _ (List.mem_of_getElem? (i := 1) rfl)) rfl) kw_1086 g0 ⟨(Nat.le_of_ble_eq_true rfl), (Nat.le_of_ble_eq_true rfl), (Nat.le_of_ble_eq_true rfl), (Nat.le_of_ble_eq_true rfl)⟩ rfl (Nat.le_of_ble_eq_true rfl)) rfl rfl ?_
    generalize hz : (mz + (if q - mz < mz + 2 then mz + 2 else q - mz)) = z
    have hz2 : q ≤ z ∧ mz < z ∧ z ≤ 256 := by split at hz <;> omega
    refine A_aload_n X dJ5_ensureCapacityInternal_d00df_27 1 rfl ?_
    refine A_get X dJ5_ensureCapacityInternal_d00df_28 kcl_J4 1 (by decide) kw_1165 g0 rfl ?_
    refine A_ishl X dJ5_ensureCapacityInternal_d00df_31 ?_
    rw [q_sl0]
    refine A_c (k' := 1) (n' := 256) rfl rfl (A_runS (rest := [.ref b]) X dJ5_ensureCapacityInternal_d00df_32 (c_J7_copyOf_9075b (q := z) g1 hf (by omega) (by omega)) kY_J7_copyOf_9075b kw_1098 ⟨(Nat.le_of_ble_eq_true rfl), (Nat.le_of_ble_eq_true rfl), (Nat.le_of_ble_eq_true rfl), (Nat.le_of_ble_eq_true rfl)⟩ rfl (Nat.le_of_ble_eq_true rfl)) (fun v9 hp1 al9 hP => ?_)
    obtain ⟨y, rfl, f1, k1, n1⟩ := hP
    refine A_al ?_
    refine A_st (st' := [.ref y, .ref b]) rfl ?_
    have hby : b < y := f1 _ _ g0
    have g2 := (n1 b (Nat.ne_of_lt hby)).trans g0
    refine A_put X dJ5_ensureCapacityInternal_d00df_35 kcl_J4 0 (by decide) kw_1164 g2 rfl rfl rfl (by simp) (fun hp2 k2 n2 => ?_)
    have k2 : hp2 b = some (.inr (1, [.ref y, .int 0, .int mb, .int (nI n)])) := k2
    have k3 := (n2 y (by omega)).trans k1
    refine A_vret X dJ5_ensureCapacityInternal_d00df_38 hr ⟨rfl, ⟨y, z, _, mb, k2, k3, hby, by omega, by omega, by omega, by omega, ByF.cpy (w := mz) (fun i _ => hf _) ByF.zero, fun i c9 hi => ?_⟩, fun q9 hq9 => (n2 q9 (by omega)).trans (n1 q9 (by omega))⟩ (Nat.le_of_ble_eq_true rfl) (Nat.le_of_ble_eq_true rfl)
    have hil := (List.getElem?_eq_some_iff.mp hi).1
    rw [show (0 : Int32).toNatClampNeg = 0 by decide, pk_cpy_in (by omega) (by omega), show 0 + (i - 0) = i by omega]
    exact hc i c9 hi
theorem kU_J5_ensureCapacityInternal_d00df : kYU yJ5_ensureCapacityInternal_d00df yJ5_ensureCapacityInternal_d00df (Cond.code yJ5_ensureCapacityInternal_d00df prog_15_method_9_code (3 : Nat) (Option.none : Option Jvm.ClassFile.FieldType)) (Cond.code yJ5_ensureCapacityInternal_d00df prog_15_method_9_code (3 : Nat) (Option.none : Option Jvm.ClassFile.FieldType)) 1 := ⟨kw_1085, kw_1084, kw_19, ⟨by decide +kernel, by decide +kernel⟩, by decide +kernel, kw_1344, kw_1084, kw_1085⟩
set_option maxHeartbeats 4000000 in
set_option maxRecDepth 100000 in
theorem c_J5_append_cf1ce {E : KE} {l : Launch} {hp : Hp} {b q0 : Nat} {ll : List Nat} (hS : SBd E hp b ll.length ll q0) {j : Nat} (hj : j < 10) (h1 : ll.length + kLen.getD j 0 ≤ 128) : AM E l yJ5_append_cf1ce cJ5_append_cf1ce 3 (Option.some (Jvm.ClassFile.FieldType.object "java/lang/AbstractStringBuilder")) ⟨4, 1, 256, 86⟩ [.ref b, .ref (kS E j)] hp none (kRef b (fun hp' => SBd E hp' b (ll ++ kLt j).length (ll ++ kLt j) 0 ∧ ∀ q9, q9 < b → hp' q9 = hp q9)) := by
  refine A_of (by decide +kernel) (Nat.le_of_ble_eq_true rfl) ?_
  intro p e s m args below meth c X hr hnm
  have X : CX E p l s m args meth c "java/lang/AbstractStringBuilder" cJ5_append_cf1ce 3 := X
  refine A_L (L' := [(0, .ref b), (1, .ref (kS E j))]) rfl ?_
  refine A_aload_n X dJ5_append_cf1ce_0 1 rfl ?_
  refine A_ifnonnull (tgt := 9) X dJ5_append_cf1ce_1 (by decide) ?_
  refine A_aload_n X dJ5_append_cf1ce_9 1 rfl ?_
  refine A_cp (k' := 0) (n' := 0) (A_runStr (rest := []) X dJ5_append_cf1ce_10 (c_J0_length_8abf5 hj) kY_J0_length_8abf5 kw_1054 hj rfl ⟨(Nat.le_of_ble_eq_true rfl), (Nat.le_of_ble_eq_true rfl), (Nat.le_of_ble_eq_true rfl), (Nat.le_of_ble_eq_true rfl)⟩ rfl (Nat.le_of_ble_eq_true rfl)) rfl rfl ?_
  rw [kSl_nI]
  have hS9 := hS
  obtain ⟨v, m, a, mb, g0, g1, -, -, -, -, -, -, -⟩ := hS9
  refine A_istore_n (L' := [(2, .int (nI (kLen.getD j 0))), (0, .ref b), (1, .ref (kS E j))]) X dJ5_append_cf1ce_13 rfl (by decide) rfl ?_
  refine A_aload_n X dJ5_append_cf1ce_14 1 rfl ?_
  refine A_aload_n X dJ5_append_cf1ce_15 1 rfl ?_
  refine A_get X dJ5_append_cf1ce_16 kcl_J4 3 (by decide) kw_1167 g0 rfl ?_
  refine A_iload_n X dJ5_append_cf1ce_19 0 rfl ?_
  refine A_iadd X dJ5_append_cf1ce_20 ?_
  rw [nI_add]
  refine A_c (k' := 1) (n' := 256) rfl rfl (A_runU (rest := []) X dJ5_append_cf1ce_21 (c_J5_ensureCapacityInternal_d00df (q := ll.length + kLen.getD j 0) hS h1) kU_J5_ensureCapacityInternal_d00df (kN_at X.2.2.2.2.2.1 (List.mem_append_left _ (List.mem_of_getElem? (i := 0) rfl)) rfl) kw_1082 g0 ⟨(Nat.le_of_ble_eq_true rfl), (Nat.le_of_ble_eq_true rfl), (Nat.le_of_ble_eq_true rfl), (Nat.le_of_ble_eq_true rfl)⟩ rfl (Nat.le_of_ble_eq_true rfl)) (fun v9 hp1 al9 hP => ?_)
  obtain ⟨rfl, hS1, n1⟩ := hP
  refine A_al ?_
  refine A_st (st' := []) rfl ?_
  obtain ⟨v1, m1, a1, mb1, p0, p1, hbv, hn, hl, hq, hm, hf, hc⟩ := hS1
  refine A_aload_n X dJ5_append_cf1ce_24 1 rfl ?_
  refine A_aload_n X dJ5_append_cf1ce_25 1 rfl ?_
  refine A_get X dJ5_append_cf1ce_26 kcl_J4 3 (by decide) kw_1167 p0 rfl ?_
  refine A_aload_n X dJ5_append_cf1ce_29 2 rfl ?_
  refine A_c (k' := 1) (n' := 256) rfl rfl (A_runU (rest := []) X dJ5_append_cf1ce_30 (c_J5_putStringAt_47b60 p0 hj p1 hq hm) kU_J5_putStringAt_47b60 (kN_at X.2.2.2.2.2.1 (List.mem_append_left _ (List.mem_of_getElem? (i := 2) rfl)) rfl) kw_1131 p0 ⟨(Nat.le_of_ble_eq_true rfl), (Nat.le_of_ble_eq_true rfl), (Nat.le_of_ble_eq_true rfl), (Nat.le_of_ble_eq_true rfl)⟩ rfl (Nat.le_of_ble_eq_true rfl)) (fun v9 hp2 al9 hP => ?_)
  obtain ⟨rfl, k2, n2⟩ := hP
  refine A_al ?_
  refine A_st (st' := []) rfl ?_
  have p2 := (n2 b (by omega)).trans p0
  refine A_aload_n X dJ5_append_cf1ce_33 1 rfl ?_
  refine A_dup X dJ5_append_cf1ce_34 rfl ?_
  refine A_get X dJ5_append_cf1ce_35 kcl_J4 3 (by decide) kw_1167 p2 rfl ?_
  refine A_iload_n X dJ5_append_cf1ce_38 0 rfl ?_
  refine A_iadd X dJ5_append_cf1ce_39 ?_
  rw [nI_add]
  refine A_put X dJ5_append_cf1ce_40 kcl_J4 3 (by decide) kw_1167 p2 rfl rfl rfl (by simp) (fun hp3 k3 n3 => ?_)
  have k3 : hp3 b = some (.inr (1, [.ref v1, .int 0, .int mb1, .int (nI (ll.length + kLen.getD j 0))])) := k3
  refine A_aload_n X dJ5_append_cf1ce_43 1 rfl ?_
  obtain ⟨e1, e2, e3⟩ := kLt_all j hj
  refine A_aret X dJ5_append_cf1ce_44 hr (Or.inl ⟨_, rfl⟩) ⟨rfl, ⟨v1, m1, _, mb1, by rw [List.length_append, e1]; exact k3, (n3 v1 (by omega)).trans k2, hbv, by rw [List.length_append]; omega, by rw [List.length_append]; omega, by omega, hm, ByF.cpy (fun i hi => by rw [Nat.zero_add]; exact ⟨_, e3 i hi⟩) hf, fun i c9 hi => ?_⟩, fun q9 hq9 => (n3 q9 (by omega)).trans ((n2 q9 (by omega)).trans (n1 q9 hq9))⟩ (Nat.le_of_ble_eq_true rfl) (Nat.le_of_ble_eq_true rfl)
  rcases get_app hi with ⟨h3, h4⟩ | ⟨h3, h4⟩
  · rw [pk_cpy_out (by omega)]
    exact hc i c9 h4
  · have h5 := kLt_at hj h4
    rw [pk_cpy_in (by omega) (by omega), show 0 + (i - ll.length) = i - ll.length by omega]
    exact h5.2.2
theorem kP_J5_append_cf1ce : kYP yJ5_append_cf1ce (Cond.code yJ5_append_cf1ce prog_15_method_22_code (3 : Nat) (Option.some (Jvm.ClassFile.FieldType.object "java/lang/AbstractStringBuilder"))) 1 := ⟨kw_1077, kw_1067, kw_1066, kw_19, by decide +kernel, by decide +kernel⟩
set_option maxHeartbeats 4000000 in
set_option maxRecDepth 100000 in
theorem c_J4_append_15ec4 {E : KE} {l : Launch} {hp : Hp} {b q0 : Nat} {ll : List Nat} (hS : SBd E hp b ll.length ll q0) {j : Nat} (hj : j < 10) (h1 : ll.length + kLen.getD j 0 ≤ 128) : AM E l yJ4_append_15ec4 cJ4_append_15ec4 2 (Option.some (Jvm.ClassFile.FieldType.object "java/lang/StringBuilder")) ⟨5, 1, 256, 108⟩ [.ref b, .ref (kS E j)] hp none (kRef b (fun hp' => SBd E hp' b (ll ++ kLt j).length (ll ++ kLt j) 0 ∧ ∀ q9, q9 < b → hp' q9 = hp q9)) := by
  refine A_of (by decide +kernel) (Nat.le_of_ble_eq_true rfl) ?_
  intro p e s m args below meth c X hr hnm
  have X : CX E p l s m args meth c "java/lang/StringBuilder" cJ4_append_15ec4 2 := X
  refine A_L (L' := [(0, .ref b), (1, .ref (kS E j))]) rfl ?_
  obtain ⟨v, m, a, mb, g0, -⟩ := id hS
  refine A_aload_n X dJ4_append_15ec4_0 0 rfl ?_
  refine A_aload_n X dJ4_append_15ec4_1 1 rfl ?_
  refine A_c (k' := 1) (n' := 256) rfl rfl (A_runP (rest := []) X dJ4_append_15ec4_2 (c_J5_append_cf1ce hS hj h1) kP_J5_append_cf1ce kw_1075 kw_1076 g0 ⟨(Nat.le_of_ble_eq_true rfl), (Nat.le_of_ble_eq_true rfl), (Nat.le_of_ble_eq_true rfl), (Nat.le_of_ble_eq_true rfl)⟩ rfl (Nat.le_of_ble_eq_true rfl)) (fun v9 hp1 al9 hP => ?_)
  obtain ⟨rfl, hS1, n1⟩ := hP
  refine A_al ?_
  refine A_st (st' := [.ref b]) rfl ?_
  refine A_pop X dJ4_append_15ec4_5 rfl ?_
  refine A_aload_n X dJ4_append_15ec4_6 0 rfl ?_
  exact A_aret X dJ4_append_15ec4_7 hr (Or.inl ⟨_, rfl⟩) ⟨rfl, hS1, n1⟩ (Nat.le_of_ble_eq_true rfl) (Nat.le_of_ble_eq_true rfl)
set_option maxHeartbeats 4000000 in
set_option maxRecDepth 100000 in
theorem c_J4_append_cf1ce {E : KE} {l : Launch} {hp : Hp} {b q0 : Nat} {ll : List Nat} (hS : SBd E hp b ll.length ll q0) {j : Nat} (hj : j < 10) (h1 : ll.length + kLen.getD j 0 ≤ 128) : AM E l yJ4_append_cf1ce cJ4_append_cf1ce 2 (Option.some (Jvm.ClassFile.FieldType.object "java/lang/AbstractStringBuilder")) ⟨6, 1, 256, 129⟩ [.ref b, .ref (kS E j)] hp none (kRef b (fun hp' => SBd E hp' b (ll ++ kLt j).length (ll ++ kLt j) 0 ∧ ∀ q9, q9 < b → hp' q9 = hp q9)) := by
  refine A_of (by decide +kernel) (Nat.le_of_ble_eq_true rfl) ?_
  intro p e s m args below meth c X hr hnm
  have X : CX E p l s m args meth c "java/lang/StringBuilder" cJ4_append_cf1ce 2 := X
  refine A_L (L' := [(0, .ref b), (1, .ref (kS E j))]) rfl ?_
  obtain ⟨v, m, a, mb, g0, -⟩ := id hS
  refine A_aload_n X dJ4_append_cf1ce_0 0 rfl ?_
  refine A_aload_n X dJ4_append_cf1ce_1 1 rfl ?_
  refine A_c (k' := 1) (n' := 256) rfl rfl (A_runV (rest := []) X dJ4_append_cf1ce_2 (c_J4_append_15ec4 hS hj h1) kY_J4_append_15ec4 kw_1071 g0 rfl rfl ⟨(Nat.le_of_ble_eq_true rfl), (Nat.le_of_ble_eq_true rfl), (Nat.le_of_ble_eq_true rfl), (Nat.le_of_ble_eq_true rfl)⟩ rfl (Nat.le_of_ble_eq_true rfl)) (fun v9 hp1 al9 hP => ?_)
  obtain ⟨rfl, hS1, n1⟩ := hP
  refine A_al ?_
  refine A_st (st' := [.ref b]) rfl ?_
  exact A_aret X dJ4_append_cf1ce_5 hr (Or.inl ⟨_, rfl⟩) ⟨rfl, hS1, n1⟩ (Nat.le_of_ble_eq_true rfl) (Nat.le_of_ble_eq_true rfl)
theorem kU_J5_append_cf1ce : kYU yJ5_append_cf1ce yJ4_append_cf1ce (Cond.code yJ4_append_cf1ce prog_26_method_80_code (2 : Nat) (Option.some (Jvm.ClassFile.FieldType.object "java/lang/AbstractStringBuilder"))) (Cond.code yJ5_append_cf1ce prog_15_method_22_code (3 : Nat) (Option.some (Jvm.ClassFile.FieldType.object "java/lang/AbstractStringBuilder"))) 1 := ⟨kw_1070, kw_1069, kw_20, ⟨by decide +kernel, by decide +kernel⟩, by decide +kernel, kw_1067, kw_1066, kw_1077⟩
set_option maxHeartbeats 4000000 in
set_option maxRecDepth 100000 in
theorem c_J5_init_a7421 {E : KE} {l : Launch} {hp : Hp} {b j : Nat} (hj : j < 10) (h1 : kLen.getD j 0 ≤ 100) (g0 : hp b = some (.inr (1, [.null, .int 0, .int 0, .int 0]))) : AM E l yJ5_init_a7421 cJ5_init_a7421 5 (Option.none : Option Jvm.ClassFile.FieldType) ⟨7, 2, 512, 150⟩ [.ref b, .ref (kS E j)] hp none (kVoid (fun hp' => SBd E hp' b (kLt j).length (kLt j) 0 ∧ ∀ q9, q9 < b → hp' q9 = hp q9)) := by
  refine A_of (by decide +kernel) (Nat.le_of_ble_eq_true rfl) ?_
  intro p e s m args below meth c X hr hnm
  have X : CX E p l s m args meth c "java/lang/AbstractStringBuilder" cJ5_init_a7421 5 := X
  refine A_L (L' := [(0, .ref b), (1, .ref (kS E j))]) rfl ?_
  refine A_aload_n X dJ5_init_a7421_0 0 rfl ?_
  refine A_objI (i0 := 0) (i1 := 0) X dJ5_init_a7421_1 kw_1053 kw_37 kw_38 (Nat.le_of_ble_eq_true rfl) (Nat.le_of_ble_eq_true rfl) ?_
  refine A_aload_n X dJ5_init_a7421_4 1 rfl ?_
  refine A_cp (k' := 0) (n' := 0) (A_runStr (rest := []) X dJ5_init_a7421_5 (c_J0_length_8abf5 hj) kY_J0_length_8abf5 kw_1054 hj rfl ⟨(Nat.le_of_ble_eq_true rfl), (Nat.le_of_ble_eq_true rfl), (Nat.le_of_ble_eq_true rfl), (Nat.le_of_ble_eq_true rfl)⟩ rfl (Nat.le_of_ble_eq_true rfl)) rfl rfl ?_
  rw [kSl_nI]
  refine A_istore_n (L' := [(2, .int (nI (kLen.getD j 0))), (0, .ref b), (1, .ref (kS E j))]) X dJ5_init_a7421_8 rfl (by decide) rfl ?_
  refine A_iload_n X dJ5_init_a7421_9 0 rfl ?_
  refine A_ldci X dJ5_init_a7421_10 kw_1055 ?_
  refine A_icmp_ge_f (tgt := 22) X dJ5_init_a7421_12 (show ¬ nI 2147483631 ≤ nI (kLen.getD j 0) by rw [q_le (by omega) (by omega)]; omega) (by decide) ?_
  refine A_iload_n X dJ5_init_a7421_15 0 rfl ?_
  refine A_bipush (v := 16) X dJ5_init_a7421_16 (by decide) ?_
  refine A_iadd X dJ5_init_a7421_18 ?_
  rw [show nI (kLen.getD j 0) + 16 = nI (kLen.getD j 0 + 16) from nI_add _ 16]
  refine A_goto (tgt := 24) X dJ5_init_a7421_19 (by decide) ?_
  refine A_istore_n (L' := [(3, .int (nI (kLen.getD j 0 + 16))), (2, .int (nI (kLen.getD j 0))), (0, .ref b), (1, .ref (kS E j))]) X dJ5_init_a7421_24 rfl (by decide) rfl ?_
  refine A_aload_n X dJ5_init_a7421_25 3 rfl ?_
  refine A_cp (k' := 0) (n' := 0) (A_runStr (rest := []) X dJ5_init_a7421_26 (c_J0_coder_7d493 hj) kY_J0_coder_7d493 kw_1057 hj rfl ⟨(Nat.le_of_ble_eq_true rfl), (Nat.le_of_ble_eq_true rfl), (Nat.le_of_ble_eq_true rfl), (Nat.le_of_ble_eq_true rfl)⟩ rfl (Nat.le_of_ble_eq_true rfl)) rfl rfl ?_
  refine A_istore (L' := [(4, .int 0), (3, .int (nI (kLen.getD j 0 + 16))), (2, .int (nI (kLen.getD j 0))), (0, .ref b), (1, .ref (kS E j))]) X dJ5_init_a7421_29 (by decide) rfl ?_
  refine A_aload_n X dJ5_init_a7421_31 3 rfl ?_
  refine A_iload X dJ5_init_a7421_32 0 rfl ?_
  refine A_put X dJ5_init_a7421_34 kcl_J4 1 (by decide) kw_1165 g0 rfl rfl rfl (by simp) (fun hp1 k1 n1 => ?_)
  have k1 : hp1 b = some (.inr (1, [.null, .int 0, .int 0, .int 0])) := k1
  refine A_aload_n X dJ5_init_a7421_37 3 rfl ?_
  refine A_iload X dJ5_init_a7421_38 0 rfl ?_
  refine A_if_ne_f (tgt := 49) X dJ5_init_a7421_40 (by decide) (by decide) ?_
  refine A_iload_n X dJ5_init_a7421_43 1 rfl ?_
  refine A_newbr (N := kLen.getD j 0 + 16) X dJ5_init_a7421_44 kw_671 (nI_pos (by omega)) (nI_clamp (by omega)) (by show (kLen.getD j 0 + 16) * 1 ≤ 536870912; omega) (Nat.le_of_ble_eq_true rfl) (by show 0 + (kLen.getD j 0 + 16) ≤ 512; omega) (fun z hp2 f2 k2 n2 => ?_)
  have hbz := f2 _ _ k1
  have p2 := (n2 b (by omega)).trans k1
  refine A_goto (tgt := 53) X dJ5_init_a7421_46 (by decide) ?_
  refine A_put X dJ5_init_a7421_53 kcl_J4 0 (by decide) kw_1164 p2 rfl rfl rfl (by simp) (fun hp3 k3 n3 => ?_)
  have k3 : hp3 b = some (.inr (1, [.ref z, .int 0, .int 0, .int 0])) := k3
  refine A_aload_n X dJ5_init_a7421_56 3 rfl ?_
  refine A_aload_n X dJ5_init_a7421_57 4 rfl ?_
  have hS : SBd E hp3 b ([] : List Nat).length [] 0 := ⟨z, _, _, 0, by rw [List.length_nil, ← n_0]; exact k3, (n3 z (by omega)).trans k2, hbz, by rw [List.length_nil]; omega, by rw [List.length_nil]; omega, by omega, by omega, ByF.zero, fun i c9 hi => by simp at hi⟩
  refine A_widen (k' := 1) (n' := 256) (Nat.le_refl _) (by omega) ?_
  refine A_c (k' := 2) (n' := 512) rfl rfl (A_runU (rest := []) X dJ5_init_a7421_58 (c_J4_append_cf1ce hS hj (by rw [List.length_nil]; omega)) kU_J5_append_cf1ce (X.2.2.2.2.1 _ kw_1068) kw_1065 k3 ⟨(Nat.le_of_ble_eq_true rfl), (Nat.le_of_ble_eq_true rfl), (Nat.le_of_ble_eq_true rfl), (Nat.le_of_ble_eq_true rfl)⟩ rfl (Nat.le_of_ble_eq_true rfl)) (fun v9 hp4 al9 hP => ?_)
  obtain ⟨rfl, hS1, n4⟩ := hP
  refine A_al ?_
  refine A_st (st' := [.ref b]) rfl ?_
  refine A_pop X dJ5_init_a7421_61 rfl ?_
  exact A_vret X dJ5_init_a7421_62 hr ⟨rfl, hS1, fun q9 hq9 => (n4 q9 hq9).trans ((n3 q9 (by omega)).trans ((n2 q9 (by omega)).trans (n1 q9 (by omega))))⟩ (Nat.le_of_ble_eq_true rfl) (Nat.le_of_ble_eq_true rfl)
set_option maxHeartbeats 4000000 in
set_option maxRecDepth 100000 in
theorem c_J4_init_a7421 {E : KE} {l : Launch} {hp : Hp} {b j : Nat} (hj : j < 10) (h1 : kLen.getD j 0 ≤ 100) (g0 : hp b = some (.inr (1, [.null, .int 0, .int 0, .int 0]))) : AM E l yJ4_init_a7421 cJ4_init_a7421 2 (Option.none : Option Jvm.ClassFile.FieldType) ⟨8, 2, 512, 174⟩ [.ref b, .ref (kS E j)] hp none (kVoid (fun hp' => SBd E hp' b (kLt j).length (kLt j) 0 ∧ ∀ q9, q9 < b → hp' q9 = hp q9)) := by
  refine A_of (by decide +kernel) (Nat.le_of_ble_eq_true rfl) ?_
  intro p e s m args below meth c X hr hnm
  have X : CX E p l s m args meth c "java/lang/StringBuilder" cJ4_init_a7421 2 := X
  refine A_L (L' := [(0, .ref b), (1, .ref (kS E j))]) rfl ?_
  refine A_aload_n X dJ4_init_a7421_0 0 rfl ?_
  refine A_aload_n X dJ4_init_a7421_1 1 rfl ?_
  refine A_c (k' := 2) (n' := 512) rfl rfl (A_runI (rest := []) X dJ4_init_a7421_2 (c_J5_init_a7421 hj h1 g0) kY_J5_init_a7421 kw_1050 ⟨(Nat.le_of_ble_eq_true rfl), (Nat.le_of_ble_eq_true rfl), (Nat.le_of_ble_eq_true rfl), (Nat.le_of_ble_eq_true rfl)⟩ rfl (Nat.le_of_ble_eq_true rfl)) (fun v9 hp1 al9 hP => ?_)
  obtain ⟨rfl, hS1, n1⟩ := hP
  refine A_al ?_
  refine A_st (st' := []) rfl ?_
  exact A_vret X dJ4_init_a7421_5 hr ⟨rfl, hS1, n1⟩ (Nat.le_of_ble_eq_true rfl) (Nat.le_of_ble_eq_true rfl)
set_option maxHeartbeats 4000000 in
set_option maxRecDepth 100000 in
theorem c_J1_canEncode_fc78d {E : KE} {l : Launch} {hp : Hp} {al : Option Nat} {cz : Nat} (h1 : cz < 128) : AM E l yJ1_canEncode_fc78d cJ1_canEncode_fc78d 1 (Option.some Jvm.ClassFile.FieldType.boolean) ⟨0, 0, 0, 0⟩ [.int (nI cz)] hp al (kRet 1 hp al) := by
  refine A_of (by decide +kernel) (Nat.le_of_ble_eq_true rfl) ?_
  intro p e s m args below meth c X hr hnm
  have X : CX E p l s m args meth c "java/lang/StringLatin1" cJ1_canEncode_fc78d 1 := X
  refine A_L (L' := [(0, .int (nI cz))]) rfl ?_
  refine A_iload_n X dJ1_canEncode_fc78d_0 0 rfl ?_
  refine A_sipush (v := 255) X dJ1_canEncode_fc78d_1 (by decide) ?_
  refine A_icmp_gt_f (tgt := 11) X dJ1_canEncode_fc78d_4 (show ¬ nI 255 < nI cz by rw [q_lt (by omega) (by omega)]; omega) (by decide) ?_
  refine A_iconst (v := 1) X dJ1_canEncode_fc78d_7 (by decide) ?_
  refine A_goto (tgt := 12) X dJ1_canEncode_fc78d_8 (by decide) ?_
  exact A_zret X dJ1_canEncode_fc78d_12 hr (Or.inr rfl) ⟨rfl, rfl, rfl⟩ (Nat.le_of_ble_eq_true rfl) (Nat.le_of_ble_eq_true rfl)
set_option maxHeartbeats 4000000 in
set_option maxRecDepth 100000 in
theorem c_J5_append_3fe6f {E : KE} {l : Launch} {hp : Hp} {b q0 : Nat} {ll : List Nat} (hS : SBd E hp b ll.length ll q0) {cz : Nat} (hcc : cz < 128) (h1 : ll.length + 1 ≤ 128) : AM E l yJ5_append_3fe6f cJ5_append_3fe6f 2 (Option.some (Jvm.ClassFile.FieldType.object "java/lang/AbstractStringBuilder")) ⟨4, 1, 256, 86⟩ [.ref b, .int (nI cz)] hp none (kRef b (fun hp' => SBd E hp' b (ll ++ [cz]).length (ll ++ [cz]) 0 ∧ ∀ q9, q9 < b → hp' q9 = hp q9)) := by
  refine A_of (by decide +kernel) (Nat.le_of_ble_eq_true rfl) ?_
  intro p e s m args below meth c X hr hnm
  have X : CX E p l s m args meth c "java/lang/AbstractStringBuilder" cJ5_append_3fe6f 2 := X
  refine A_L (L' := [(0, .ref b), (1, .int (nI cz))]) rfl ?_
  have hS9 := hS
  obtain ⟨v, m, a, mb, g0, g1, -, -, -, -, -, -, -⟩ := hS9
  refine A_aload_n X dJ5_append_3fe6f_0 0 rfl ?_
  refine A_aload_n X dJ5_append_3fe6f_1 0 rfl ?_
  refine A_get X dJ5_append_3fe6f_2 kcl_J4 3 (by decide) kw_1167 g0 rfl ?_
  refine A_iconst (v := 1) X dJ5_append_3fe6f_5 (by decide) ?_
  refine A_iadd X dJ5_append_3fe6f_6 ?_
  rw [nI_1]
  refine A_c (k' := 1) (n' := 256) rfl rfl (A_runU (rest := []) X dJ5_append_3fe6f_7 (c_J5_ensureCapacityInternal_d00df (q := ll.length + 1) hS h1) kU_J5_ensureCapacityInternal_d00df (kN_at X.2.2.2.2.2.1 (List.mem_append_left _ (List.mem_of_getElem? (i := 0) rfl)) rfl) kw_1082 g0 ⟨(Nat.le_of_ble_eq_true rfl), (Nat.le_of_ble_eq_true rfl), (Nat.le_of_ble_eq_true rfl), (Nat.le_of_ble_eq_true rfl)⟩ rfl (Nat.le_of_ble_eq_true rfl)) (fun v9 hp1 al9 hP => ?_)
  obtain ⟨rfl, hS1, n1⟩ := hP
  refine A_al ?_
  refine A_st (st' := []) rfl ?_
  obtain ⟨v1, m1, a1, mb1, p0, p1, hbv, hn, hl, hq, hm, hf, hc⟩ := hS1
  refine A_aload_n X dJ5_append_3fe6f_10 0 rfl ?_
  refine A_cp (k' := 1) (n' := 256) (A_runU (rest := []) X dJ5_append_3fe6f_11 (c_J5_isLatin1_aae02 p0) kU_J5_isLatin1_aae02 (X.2.2.2.2.1 _ kw_1113) kw_1110 p0 ⟨(Nat.le_of_ble_eq_true rfl), (Nat.le_of_ble_eq_true rfl), (Nat.le_of_ble_eq_true rfl), (Nat.le_of_ble_eq_true rfl)⟩ rfl (Nat.le_of_ble_eq_true rfl)) rfl rfl ?_
  refine A_if_eq_f (tgt := 45) X dJ5_append_3fe6f_14 (by decide) (by decide) ?_
  refine A_iload_n X dJ5_append_3fe6f_17 1 rfl ?_
  refine A_cp (k' := 1) (n' := 256) (A_runS (rest := []) X dJ5_append_3fe6f_18 (c_J1_canEncode_fc78d hcc) kY_J1_canEncode_fc78d kw_1209 ⟨(Nat.le_of_ble_eq_true rfl), (Nat.le_of_ble_eq_true rfl), (Nat.le_of_ble_eq_true rfl), (Nat.le_of_ble_eq_true rfl)⟩ rfl (Nat.le_of_ble_eq_true rfl)) rfl rfl ?_
  refine A_if_eq_f (tgt := 45) X dJ5_append_3fe6f_21 (by decide) (by decide) ?_
  refine A_aload_n X dJ5_append_3fe6f_24 0 rfl ?_
  refine A_get X dJ5_append_3fe6f_25 kcl_J4 0 (by decide) kw_1164 p0 rfl ?_
  refine A_aload_n X dJ5_append_3fe6f_28 0 rfl ?_
  refine A_dup X dJ5_append_3fe6f_29 rfl ?_
  refine A_get X dJ5_append_3fe6f_30 kcl_J4 3 (by decide) kw_1167 p0 rfl ?_
  refine A_dup_x1 X dJ5_append_3fe6f_33 rfl rfl ?_
  refine A_iconst (v := 1) X dJ5_append_3fe6f_34 (by decide) ?_
  refine A_iadd X dJ5_append_3fe6f_35 ?_
  rw [nI_1]
  refine A_put X dJ5_append_3fe6f_36 kcl_J4 3 (by decide) kw_1167 p0 rfl rfl rfl (by simp) (fun hp2 k2 n2 => ?_)
  have k2 : hp2 b = some (.inr (1, [.ref v1, .int 0, .int mb1, .int (nI (ll.length + 1))])) := k2
  refine A_iload_n X dJ5_append_3fe6f_39 1 rfl ?_
  refine A_i2b X dJ5_append_3fe6f_40 ?_
  refine A_bast X dJ5_append_3fe6f_41 ((n2 v1 (by omega)).trans p1) (decide_eq_true (nI_in (by omega) (by omega))) (fun hp3 k3 n3 => ?_)
  rw [nar128 cz hcc, nI_clamp (by omega)] at k3
  refine A_goto (tgt := 75) X dJ5_append_3fe6f_42 (by decide) ?_
  refine A_aload_n X dJ5_append_3fe6f_75 0 rfl ?_
  refine A_aret X dJ5_append_3fe6f_76 hr (Or.inl ⟨_, rfl⟩) ⟨rfl, ⟨v1, m1, _, mb1, by rw [List.length_append]; exact (n3 b (by omega)).trans k2, k3, hbv, by rw [List.length_append]; exact hq, by rw [List.length_append]; exact hq, by omega, hm, hf.upd hcc, fun i c9 hi => ?_⟩, fun q9 hq9 => (n3 q9 (by omega)).trans ((n2 q9 (by omega)).trans (n1 q9 hq9))⟩ (Nat.le_of_ble_eq_true rfl) (Nat.le_of_ble_eq_true rfl)
  rcases get_app hi with ⟨h3, h4⟩ | ⟨h3, h4⟩
  · rw [q_un (by omega)]
    exact hc i c9 h4
  · have h5 := (List.getElem?_eq_some_iff.mp h4).1
    rw [List.length_singleton] at h5
    rw [show i - ll.length = 0 by omega] at h4
    cases h4
    exact q_us (by omega)
theorem kP_J5_append_3fe6f : kYP yJ5_append_3fe6f (Cond.code yJ5_append_3fe6f prog_15_method_31_code (2 : Nat) (Option.some (Jvm.ClassFile.FieldType.object "java/lang/AbstractStringBuilder"))) 1 := ⟨kw_1208, kw_1350, kw_1207, kw_19, by decide +kernel, by decide +kernel⟩
set_option maxHeartbeats 4000000 in
set_option maxRecDepth 100000 in
theorem c_J4_append_cf468 {E : KE} {l : Launch} {hp : Hp} {b q0 : Nat} {ll : List Nat} (hS : SBd E hp b ll.length ll q0) {cz : Nat} (hcc : cz < 128) (h1 : ll.length + 1 ≤ 128) : AM E l yJ4_append_cf468 cJ4_append_cf468 2 (Option.some (Jvm.ClassFile.FieldType.object "java/lang/StringBuilder")) ⟨5, 1, 256, 107⟩ [.ref b, .int (nI cz)] hp none (kRef b (fun hp' => SBd E hp' b (ll ++ [cz]).length (ll ++ [cz]) 0 ∧ ∀ q9, q9 < b → hp' q9 = hp q9)) := by
  refine A_of (by decide +kernel) (Nat.le_of_ble_eq_true rfl) ?_
  intro p e s m args below meth c X hr hnm
  have X : CX E p l s m args meth c "java/lang/StringBuilder" cJ4_append_cf468 2 := X
  refine A_L (L' := [(0, .ref b), (1, .int (nI cz))]) rfl ?_
  obtain ⟨v, m, a, mb, g0, -⟩ := id hS
  refine A_aload_n X dJ4_append_cf468_0 0 rfl ?_
  refine A_iload_n X dJ4_append_cf468_1 1 rfl ?_
  refine A_c (k' := 1) (n' := 256) rfl rfl (A_runP (rest := []) X dJ4_append_cf468_2 (c_J5_append_3fe6f hS hcc h1) kP_J5_append_3fe6f kw_1206 kw_1076 g0 ⟨(Nat.le_of_ble_eq_true rfl), (Nat.le_of_ble_eq_true rfl), (Nat.le_of_ble_eq_true rfl), (Nat.le_of_ble_eq_true rfl)⟩ rfl (Nat.le_of_ble_eq_true rfl)) (fun v9 hp1 al9 hP => ?_)
  obtain ⟨rfl, hS1, n1⟩ := hP
  refine A_al ?_
  refine A_st (st' := [.ref b]) rfl ?_
  refine A_pop X dJ4_append_cf468_5 rfl ?_
  refine A_aload_n X dJ4_append_cf468_6 0 rfl ?_
  exact A_aret X dJ4_append_cf468_7 hr (Or.inl ⟨_, rfl⟩) ⟨rfl, hS1, n1⟩ (Nat.le_of_ble_eq_true rfl) (Nat.le_of_ble_eq_true rfl)
