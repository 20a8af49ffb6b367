theorem kLen_lt : ∀ j, j < 10 → kLen.getD j 0 < 1000 := by decide +kernel
theorem inb_lt {i : Int32} {n : Nat} (h : inb i n = true) (hn : n < 2 ^ 31) : ¬ i < 0 ∧ i < nI n := by
  have h1 := inb_in h
  obtain ⟨j, hj, rfl⟩ := vp_in_of h1 hn
  exact ⟨nI_pos (by omega), nI_lt hj hn⟩
abbrev kRv (hp : Hp) (al : Option Nat) : Option Value → Hp → Option Nat → Prop := fun v hp' al' => v = none ∧ hp = hp' ∧ al = al'
set_option maxHeartbeats 4000000 in
set_option maxRecDepth 100000 in
theorem c_J0_coder_7d493 {E : KE} {l : Launch} {hp : Hp} {al : Option Nat} {j : Nat} (hj : j < 10) : AM E l yJ0_coder_7d493 cJ0_coder_7d493 1 (Option.some Jvm.ClassFile.FieldType.byte) ⟨0, 0, 0, 0⟩ [.ref (kS E j)] hp al (kRet 0 hp al) := by
  refine A_of (by decide +kernel) (Nat.le_of_ble_eq_true rfl) ?_
  intro p e s m args below meth c X hr hnm
  have X : CX E p l s m args meth c "java/lang/String" cJ0_coder_7d493 1 := X
  refine A_L (L' := [(0, .ref (kS E j))]) rfl ?_
  refine A_compact X dJ0_coder_7d493_0 kw_272 ?_
  refine A_if_eq_f (tgt := 13) X dJ0_coder_7d493_3 (by decide) (by decide) ?_
  refine A_aload_n X dJ0_coder_7d493_6 0 rfl ?_
  refine A_scoder X dJ0_coder_7d493_7 kw_1280 hj ?_
  refine A_goto (tgt := 14) X dJ0_coder_7d493_10 (by decide) ?_
  exact A_nret X dJ0_coder_7d493_14 hr rfl ⟨rfl, rfl, rfl⟩ (Nat.le_of_ble_eq_true rfl) (Nat.le_of_ble_eq_true rfl)
set_option maxHeartbeats 4000000 in
set_option maxRecDepth 100000 in
theorem c_J0_isLatin1_aae02 {E : KE} {l : Launch} {hp : Hp} {al : Option Nat} {j : Nat} (hj : j < 10) : AM E l yJ0_isLatin1_aae02 cJ0_isLatin1_aae02 1 (Option.some Jvm.ClassFile.FieldType.boolean) ⟨0, 0, 0, 0⟩ [.ref (kS E j)] hp al (kRet 1 hp al) := by
  refine A_of (by decide +kernel) (Nat.le_of_ble_eq_true rfl) ?_
  intro p e s m args below meth c X hr hnm
  have X : CX E p l s m args meth c "java/lang/String" cJ0_isLatin1_aae02 1 := X
  refine A_L (L' := [(0, .ref (kS E j))]) rfl ?_
  refine A_compact X dJ0_isLatin1_aae02_0 kw_272 ?_
  refine A_if_eq_f (tgt := 17) X dJ0_isLatin1_aae02_3 (by decide) (by decide) ?_
  refine A_aload_n X dJ0_isLatin1_aae02_6 0 rfl ?_
  refine A_scoder X dJ0_isLatin1_aae02_7 kw_1280 hj ?_
  refine A_if_ne_f (tgt := 17) X dJ0_isLatin1_aae02_10 (by decide) (by decide) ?_
  refine A_iconst (v := 1) X dJ0_isLatin1_aae02_13 (by decide) ?_
  refine A_goto (tgt := 18) X dJ0_isLatin1_aae02_14 (by decide) ?_
  exact A_zret X dJ0_isLatin1_aae02_18 hr (Or.inr rfl) ⟨rfl, rfl, rfl⟩ (Nat.le_of_ble_eq_true rfl) (Nat.le_of_ble_eq_true rfl)
set_option maxHeartbeats 4000000 in
set_option maxRecDepth 100000 in
theorem c_J0_length_8abf5 {E : KE} {l : Launch} {hp : Hp} {al : Option Nat} {j : Nat} (hj : j < 10) : AM E l yJ0_length_8abf5 cJ0_length_8abf5 1 (Option.some Jvm.ClassFile.FieldType.int) ⟨1, 0, 0, 20⟩ [.ref (kS E j)] hp al (kRet (kSl j) hp al) := by
  refine A_of (by decide +kernel) (Nat.le_of_ble_eq_true rfl) ?_
  intro p e s m args below meth c X hr hnm
  have X : CX E p l s m args meth c "java/lang/String" cJ0_length_8abf5 1 := X
  refine A_L (L' := [(0, .ref (kS E j))]) rfl ?_
  refine A_aload_n X dJ0_length_8abf5_0 0 rfl ?_
  refine A_svalue X dJ0_length_8abf5_1 kw_1279 hj ?_
  refine A_sblen X dJ0_length_8abf5_4 hj ?_
  refine A_aload_n X dJ0_length_8abf5_5 0 rfl ?_
  refine A_cp (k' := 0) (n' := 0) (A_runStr (rest := [.int (nI (kLen.getD j 0))]) X dJ0_length_8abf5_6 (c_J0_coder_7d493 hj) kY_J0_coder_7d493 kw_268 hj rfl ⟨(Nat.le_of_ble_eq_true rfl), (Nat.le_of_ble_eq_true rfl), (Nat.le_of_ble_eq_true rfl), (Nat.le_of_ble_eq_true rfl)⟩ rfl (Nat.le_of_ble_eq_true rfl)) rfl rfl ?_
  refine A_ishr X dJ0_length_8abf5_9 ?_
  exact A_iret X dJ0_length_8abf5_10 hr ⟨rfl, rfl, rfl⟩ (Nat.le_of_ble_eq_true rfl) (Nat.le_of_ble_eq_true rfl)
set_option maxHeartbeats 4000000 in
set_option maxRecDepth 100000 in
theorem c_J3_checkIndex_8e157n {E : KE} {l : Launch} {hp : Hp} {al : Option Nat} {i n : Int32} (h0 : ¬ i < 0) (h1 : i < n) : AM E l yJ3_checkIndex_8e157 cJ3_checkIndex_8e157 3 (Option.some Jvm.ClassFile.FieldType.int) ⟨0, 0, 0, 0⟩ [.int i, .int n, .null] hp al (kRet i hp al) := by
  refine A_of (by decide +kernel) (Nat.le_of_ble_eq_true rfl) ?_
  intro p e s m args below meth c X hr hnm
  have X : CX E p l s m args meth c "jdk/internal/util/Preconditions" cJ3_checkIndex_8e157 3 := X
  refine A_L (L' := [(0, .int i), (1, .int n), (2, .null)]) rfl ?_
  refine A_iload_n X dJ3_checkIndex_8e157_0 0 rfl ?_
  refine A_if_lt_f (tgt := 9) X dJ3_checkIndex_8e157_1 h0 (by decide) ?_
  refine A_iload_n X dJ3_checkIndex_8e157_4 0 rfl ?_
  refine A_iload_n X dJ3_checkIndex_8e157_5 1 rfl ?_
  refine A_icmp_lt_t (tgt := 16) X dJ3_checkIndex_8e157_6 h1 (by decide) ?_
  refine A_iload_n X dJ3_checkIndex_8e157_16 0 rfl ?_
  exact A_iret X dJ3_checkIndex_8e157_17 hr ⟨rfl, rfl, rfl⟩ (Nat.le_of_ble_eq_true rfl) (Nat.le_of_ble_eq_true rfl)
set_option maxHeartbeats 4000000 in
set_option maxRecDepth 100000 in
theorem c_J3_checkIndex_8e157r {E : KE} {l : Launch} {hp : Hp} {al : Option Nat} {i n : Int32} {t : Nat} (h0 : ¬ i < 0) (h1 : i < n) : AM E l yJ3_checkIndex_8e157 cJ3_checkIndex_8e157 3 (Option.some Jvm.ClassFile.FieldType.int) ⟨0, 0, 0, 0⟩ [.int i, .int n, .ref t] hp al (kRet i hp al) := by
  refine A_of (by decide +kernel) (Nat.le_of_ble_eq_true rfl) ?_
  intro p e s m args below meth c X hr hnm
  have X : CX E p l s m args meth c "jdk/internal/util/Preconditions" cJ3_checkIndex_8e157 3 := X
  refine A_L (L' := [(0, .int i), (1, .int n), (2, .ref t)]) rfl ?_
  refine A_iload_n X dJ3_checkIndex_8e157_0 0 rfl ?_
  refine A_if_lt_f (tgt := 9) X dJ3_checkIndex_8e157_1 h0 (by decide) ?_
  refine A_iload_n X dJ3_checkIndex_8e157_4 0 rfl ?_
  refine A_iload_n X dJ3_checkIndex_8e157_5 1 rfl ?_
  refine A_icmp_lt_t (tgt := 16) X dJ3_checkIndex_8e157_6 h1 (by decide) ?_
  refine A_iload_n X dJ3_checkIndex_8e157_16 0 rfl ?_
  exact A_iret X dJ3_checkIndex_8e157_17 hr ⟨rfl, rfl, rfl⟩ (Nat.le_of_ble_eq_true rfl) (Nat.le_of_ble_eq_true rfl)
set_option maxHeartbeats 4000000 in
set_option maxRecDepth 100000 in
theorem c_J0_checkIndex_df160 {E : KE} {l : Launch} {hp : Hp} {al : Option Nat} {i n : Int32} (h0 : ¬ i < 0) (h1 : i < n) : AM E l yJ0_checkIndex_df160 cJ0_checkIndex_df160 2 (Option.none : Option Jvm.ClassFile.FieldType) ⟨1, 0, 0, 22⟩ [.int i, .int n] hp al (kRv hp al) := by
  refine A_of (by decide +kernel) (Nat.le_of_ble_eq_true rfl) ?_
  intro p e s m args below meth c X hr hnm
  have X : CX E p l s m args meth c "java/lang/String" cJ0_checkIndex_df160 2 := X
  refine A_L (L' := [(0, .int i), (1, .int n)]) rfl ?_
  refine A_iload_n X dJ0_checkIndex_df160_0 0 rfl ?_
  refine A_iload_n X dJ0_checkIndex_df160_1 1 rfl ?_
  refine A_sioobe X dJ0_checkIndex_df160_2 kw_288 ?_ (fun t => ?_)
  · refine A_cp (k' := 0) (n' := 0) (A_runS (rest := []) X dJ0_checkIndex_df160_5 (c_J3_checkIndex_8e157n h0 h1) kY_J3_checkIndex_8e157 kw_290 ⟨(Nat.le_of_ble_eq_true rfl), (Nat.le_of_ble_eq_true rfl), (Nat.le_of_ble_eq_true rfl), (Nat.le_of_ble_eq_true rfl)⟩ rfl (Nat.le_of_ble_eq_true rfl)) rfl rfl ?_
    refine A_pop X dJ0_checkIndex_df160_8 rfl ?_
    exact A_vret X dJ0_checkIndex_df160_9 hr ⟨rfl, rfl, rfl⟩ (Nat.le_of_ble_eq_true rfl) (Nat.le_of_ble_eq_true rfl)
  · refine A_cp (k' := 0) (n' := 0) (A_runS (rest := []) X dJ0_checkIndex_df160_5 (c_J3_checkIndex_8e157r h0 h1) kY_J3_checkIndex_8e157 kw_290 ⟨(Nat.le_of_ble_eq_true rfl), (Nat.le_of_ble_eq_true rfl), (Nat.le_of_ble_eq_true rfl), (Nat.le_of_ble_eq_true rfl)⟩ rfl (Nat.le_of_ble_eq_true rfl)) rfl rfl ?_
    refine A_pop X dJ0_checkIndex_df160_8 rfl ?_
    exact A_vret X dJ0_checkIndex_df160_9 hr ⟨rfl, rfl, rfl⟩ (Nat.le_of_ble_eq_true rfl) (Nat.le_of_ble_eq_true rfl)
set_option maxHeartbeats 4000000 in
set_option maxRecDepth 100000 in
theorem c_J1_charAt_3b067 {E : KE} {l : Launch} {hp : Hp} {al : Option Nat} {j : Nat} {i : Int32} (hj : j < 10) (hin : inb i (kLen.getD j 0) = true) : AM E l yJ1_charAt_3b067 cJ1_charAt_3b067 2 (Option.some Jvm.ClassFile.FieldType.char) ⟨2, 0, 0, 43⟩ [.ref (kV E j), .int i] hp al (kRet (kSc j i) hp al) := by
  refine A_of (by decide +kernel) (Nat.le_of_ble_eq_true rfl) ?_
  intro p e s m args below meth c X hr hnm
  have X : CX E p l s m args meth c "java/lang/StringLatin1" cJ1_charAt_3b067 2 := X
  refine A_L (L' := [(0, .ref (kV E j)), (1, .int i)]) rfl ?_
  obtain ⟨h0, h1⟩ := inb_lt hin (Nat.lt_trans (kLen_lt j hj) (by decide))
  refine A_iload_n X dJ1_charAt_3b067_0 1 rfl ?_
  refine A_aload_n X dJ1_charAt_3b067_1 0 rfl ?_
  refine A_sblen X dJ1_charAt_3b067_2 hj ?_
  refine A_c (k' := 0) (n' := 0) rfl rfl (A_runS (rest := []) X dJ1_charAt_3b067_3 (c_J0_checkIndex_df160 h0 h1) kY_J0_checkIndex_df160 kw_285 ⟨(Nat.le_of_ble_eq_true rfl), (Nat.le_of_ble_eq_true rfl), (Nat.le_of_ble_eq_true rfl), (Nat.le_of_ble_eq_true rfl)⟩ rfl (Nat.le_of_ble_eq_true rfl)) (fun v9 hp1 al9 hP => ?_)
  obtain ⟨rfl, rfl, rfl⟩ := hP
  refine A_st (st' := []) rfl ?_
  refine A_aload_n X dJ1_charAt_3b067_6 0 rfl ?_
  refine A_iload_n X dJ1_charAt_3b067_7 1 rfl ?_
  refine A_sbald X dJ1_charAt_3b067_8 hj hin ?_
  refine A_sipush (v := 255) X dJ1_charAt_3b067_9 (by decide) ?_
  refine A_iand X dJ1_charAt_3b067_12 ?_
  refine A_i2c X dJ1_charAt_3b067_13 ?_
  exact A_nret X dJ1_charAt_3b067_14 hr (pk_nc _) ⟨rfl, rfl, rfl⟩ (Nat.le_of_ble_eq_true rfl) (Nat.le_of_ble_eq_true rfl)
set_option maxHeartbeats 4000000 in
set_option maxRecDepth 100000 in
theorem c_J0_charAt_5068e {E : KE} {l : Launch} {hp : Hp} {al : Option Nat} {j : Nat} {i : Int32} (hj : j < 10) (hin : inb i (kLen.getD j 0) = true) : AM E l yJ0_charAt_5068e cJ0_charAt_5068e 2 (Option.some Jvm.ClassFile.FieldType.char) ⟨3, 0, 0, 64⟩ [.ref (kS E j), .int i] hp al (kRet (kSc j i) hp al) := by
  refine A_of (by decide +kernel) (Nat.le_of_ble_eq_true rfl) ?_
  intro p e s m args below meth c X hr hnm
  have X : CX E p l s m args meth c "java/lang/String" cJ0_charAt_5068e 2 := X
  refine A_L (L' := [(0, .ref (kS E j)), (1, .int i)]) rfl ?_
  refine A_aload_n X dJ0_charAt_5068e_0 0 rfl ?_
  refine A_cp (k' := 0) (n' := 0) (A_runStr (rest := []) X dJ0_charAt_5068e_1 (c_J0_isLatin1_aae02 hj) kY_J0_isLatin1_aae02 kw_278 hj rfl ⟨(Nat.le_of_ble_eq_true rfl), (Nat.le_of_ble_eq_true rfl), (Nat.le_of_ble_eq_true rfl), (Nat.le_of_ble_eq_true rfl)⟩ rfl (Nat.le_of_ble_eq_true rfl)) rfl rfl ?_
  refine A_if_eq_f (tgt := 16) X dJ0_charAt_5068e_4 (by decide) (by decide) ?_
  refine A_aload_n X dJ0_charAt_5068e_7 0 rfl ?_
  refine A_svalue X dJ0_charAt_5068e_8 kw_1279 hj ?_
  refine A_iload_n X dJ0_charAt_5068e_11 1 rfl ?_
  refine A_cp (k' := 0) (n' := 0) (A_runS (rest := []) X dJ0_charAt_5068e_12 (c_J1_charAt_3b067 hj hin) kY_J1_charAt_3b067 kw_282 ⟨(Nat.le_of_ble_eq_true rfl), (Nat.le_of_ble_eq_true rfl), (Nat.le_of_ble_eq_true rfl), (Nat.le_of_ble_eq_true rfl)⟩ rfl (Nat.le_of_ble_eq_true rfl)) rfl rfl ?_
  exact A_nret X dJ0_charAt_5068e_15 hr (pk_nc _) ⟨rfl, rfl, rfl⟩ (Nat.le_of_ble_eq_true rfl) (Nat.le_of_ble_eq_true rfl)
section AS
variable {p : Program} {l : Launch} {e : Env} {R : Room} {s : State} {m : MethodId} {args : Array Value} {below : List Frame} {meth : Method} {c : Code} {Q : State → Prop} {E : KE}
variable {own : String} {cc : ByteArray} {nL : Nat} {hp : Hp} {al : Option Nat} {k n pc : Nat} {L : List (Nat × Value)} {st : List Value}
theorem A_slen {ix j : Nat} (X : CX E p l s m args meth c own cc nL) (hd : decode cc pc = .ok (.invokevirtual ix, 3)) (hl : Cond.methodLink own ix yJ0_length_8abf5 ∈ kTB) (hj : j < 10) (r1 : 2 ≤ R.frames) (r2 : 40 ≤ R.locals) (r3 : k ≤ R.cells) (r4 : n ≤ R.slots) (hW : (st.map fun v => v.category).sum ≤ 8) (K : AW E p l e R s m args below meth c nL Q hp al k n (pc + 3) L (.int (kSl j) :: st)) : AW E p l e R s m args below meth c nL Q hp al k n pc L (.ref (kS E j) :: st) :=
  A_cp (A_runStr (As := []) (rest := st) X hd (c_J0_length_8abf5 hj) kY_J0_length_8abf5 hl hj rfl ⟨r1, r2, r3, r4⟩ rfl hW) rfl rfl K
theorem A_schar {ix j : Nat} {i : Int32} (X : CX E p l s m args meth c own cc nL) (hd : decode cc pc = .ok (.invokevirtual ix, 3)) (hl : Cond.methodLink own ix yJ0_charAt_5068e ∈ kTB) (hj : j < 10) (hin : inb i (kSn j) = true) (r1 : 4 ≤ R.frames) (r2 : 85 ≤ R.locals) (r3 : k ≤ R.cells) (r4 : n ≤ R.slots) (hW : (st.map fun v => v.category).sum ≤ 8) (K : AW E p l e R s m args below meth c nL Q hp al k n (pc + 3) L (.int (kSc j i) :: st)) : AW E p l e R s m args below meth c nL Q hp al k n pc L (.int i :: .ref (kS E j) :: st) :=
  A_cp (A_runStr (As := [.int i]) (rest := st) X hd (c_J0_charAt_5068e hj hin) kY_J0_charAt_5068e hl hj rfl ⟨r1, r2, r3, r4⟩ rfl hW) rfl rfl K
end AS
