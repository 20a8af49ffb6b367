/-! the law's text, and how it is said; the hand's making -/
/-- the script's cell j, as the law reads it -/
def cV (E : KE) (j : Nat) : Nat := if j < kXn E then (kXs E j).toBitVec.toNat % 2147483648 else 0
theorem cV_lt {E : KE} {j : Nat} : cV E j < 2147483648 := by
  unfold cV
  split
  · exact Nat.mod_lt _ (by decide)
  · omega
theorem q_rm {a b : Nat} (ha : a < 2147483648) (h0 : 0 < b) (hb : b < 2147483648) : nI a - nI a / nI b * nI b = nI (a % b) := by rw [q_div ha h0 hb, pk_mul, q_dm]

set_option maxHeartbeats 4000000 in
set_option maxRecDepth 100000 in
theorem c_L_cell {E : KE} {l : Launch} {hp : Hp} {al : Option Nat} {j : Nat} {v : Int32} (hv : v = nI j) (hj : j < 1000) : AM E l yL_cell cL_cell 2 (Option.some Jvm.ClassFile.FieldType.int) ⟨0, 0, 0, 0⟩ [.ref (kXb E), .int v] hp al (kRet (nI (cV E j)) hp al) := by
  refine A_of (by decide +kernel) (Nat.le_of_ble_eq_true rfl) ?_
  intro p e s m args below meth c X hr hnm
  have X : CX E p l s m args meth c "DiceAuditLaw" cL_cell 2 := X
  refine A_L (L' := [(0, .ref (kXb E)), (1, .int v)]) rfl ?_
  subst hv
  have h260 : kXn E ≤ 260 := X.2.2.2.2.2.1.2.2.2.2.2.2.2.2.2.2.2.2.2
  refine A_iload_n X dL_cell_0 1 rfl ?_
  refine A_aload_n X dL_cell_1 0 rfl ?_
  refine A_slenx X dL_cell_2 ?_
  by_cases hc : j < kXn E
  · refine A_icmp_ge_f (tgt := 15) X dL_cell_3 (by rw [q_le (by omega) (by omega)]; omega) (by decide) ?_
    refine A_aload_n X dL_cell_6 0 rfl ?_
    refine A_iload_n X dL_cell_7 1 rfl ?_
    refine A_sld X dL_cell_8 (decide_eq_true (nI_in hc (by omega))) ?_
    rw [q_cl (by omega)]
    refine A_ldci X dL_cell_9 kw_992 ?_
    refine A_iand X dL_cell_11 ?_
    rw [show ((kXs E j) &&& 2147483647) = (nI (cV E j)) from by unfold cV; rw [if_pos hc]; exact pk_and _ 31 (by decide +kernel)]
    refine A_goto (tgt := 16) X dL_cell_12 (by decide) ?_
    exact A_iret X dL_cell_16 hr ⟨rfl, rfl, rfl⟩ (Nat.le_of_ble_eq_true rfl) (Nat.le_of_ble_eq_true rfl)
  · refine A_icmp_ge_t (tgt := 15) X dL_cell_3 (by rw [q_le (by omega) (by omega)]; omega) (by decide) ?_
    refine A_iconst (v := 0) X dL_cell_15 (by decide) ?_
    rw [show 0 = (nI (cV E j)) from by unfold cV; rw [if_neg hc]; rfl]
    exact A_iret X dL_cell_16 hr ⟨rfl, rfl, rfl⟩ (Nat.le_of_ble_eq_true rfl) (Nat.le_of_ble_eq_true rfl)
/-- a face's weight, the faces' letters, a die's, the dice's, the whole text -/
def wT (y F f : Nat) : Nat := if f = y / 8 % F then 1 + y / 64 % 9 else if y / (512 * 2 ^ (3 * f % 12)) % 8 = 0 then 0 else y / (512 * 2 ^ (3 * f % 12)) % 4
theorem wT_lt {y F f : Nat} : wT y F f < 10 := by
  unfold wT
  split
  · omega
  · split
    · omega
    · have := Nat.mod_lt (y / (512 * 2 ^ (3 * f % 12))) (show 0 < 4 by omega)
      omega
theorem decL_1 {v : Nat} (h : v < 10) : decL v = [48 + v] := if_pos h
def dgs (y F : Nat) : Nat → Nat → List Nat
  | 0, _ => []
  | j + 1, f => [32] ++ decL (wT y F f) ++ dgs y F j (f + 1)
theorem dgs_len {y F : Nat} : ∀ j f, (dgs y F j f).length = 2 * j
  | 0, _ => rfl
  | j + 1, f => by
    show ([32] ++ decL (wT y F f) ++ dgs y F j (f + 1)).length = _
    rw [List.length_append, List.length_append, decL_1 wT_lt, dgs_len j (f + 1), List.length_singleton, List.length_singleton]
    omega
def dtx (y : Nat) : List Nat := kLt 2 ++ dgs y (2 + y % 5) (2 + y % 5) 0 ++ [59]
def dts (E : KE) : Nat → Nat → List Nat
  | 0, _ => []
  | j + 1, d => dtx (cV E (1 + d)) ++ dts E j (d + 1)
def txt (E : KE) : List Nat := kLt 8 ++ decL (cV E 0 % 65537) ++ [32] ++ decL (1 + cV E 0 / 131072 % 8) ++ [32] ++ decL (cV E 0 / 1048576 % 12) ++ [59] ++ dts E 3 0 ++ kLt 9
theorem kLt_l2 : (kLt 2).length = 3 ∧ (kLt 8).length = 5 ∧ (kLt 9).length = 29 := by decide +kernel
theorem dtx_len {y : Nat} : (dtx y).length ≤ 16 := by
  unfold dtx
  rw [List.length_append, List.length_append, dgs_len, kLt_l2.1, List.length_singleton]
  omega
theorem dts_len {E : KE} : ∀ j d, (dts E j d).length ≤ 16 * j
  | 0, _ => Nat.le_refl _
  | j + 1, d => by
    show (dtx (cV E (1 + d)) ++ dts E j (d + 1)).length ≤ _
    rw [List.length_append]
    have h1 := @dtx_len (cV E (1 + d))
    have h2 := @dts_len E j (d + 1)
    omega
theorem tx_sh : ∀ f, f < 6 → (512 : Int32) <<< ((3 * nI f - 3 * nI f / 12 * 12) &&& 31) = nI (512 * 2 ^ (3 * f % 12)) ∧ 0 < 512 * 2 ^ (3 * f % 12) ∧ 512 * 2 ^ (3 * f % 12) < 1000000 := by decide +kernel

set_option maxHeartbeats 4000000 in
set_option maxRecDepth 100000 in
theorem tx_in {E : KE} {p : Program} {l : Launch} {e : Env} {s : State} {m : MethodId} {args : Array Value} {below : List Frame} {meth : Method} {c : Code} {Q : State → Prop} {b d y F : Nat} {hp0 : Hp} (X : CX E p l s m args meth c "DiceAuditLaw" cL_text 7) (hy : y < 2147483648) (hF : 0 < F ∧ F ≤ 6) : ∀ (j f k : Nat) (ll : List Nat) (hp : Hp), f + j = F → SBd E hp b (ll).length (ll) 0 → ll.length + 2 * j ≤ 120 → k + 2 * j ≤ 98 → (∀ q, q < b → hp q = hp0 q) → (∀ hp' : Hp, SBd E hp' b (ll ++ dgs y F j f).length (ll ++ dgs y F j f) 0 → (∀ q, q < b → hp' q = hp0 q) → AW E p l e ⟨12, 100, 25600, 250⟩ s m args below meth c 7 Q hp' none (k + 2 * j) (256 * (k + 2 * j)) 183 [(0, .ref (kXb E)), (2, .ref b), (3, .int (nI d)), (4, .int (nI y))] []) → AW E p l e ⟨12, 100, 25600, 250⟩ s m args below meth c 7 Q hp none k (256 * k) 94 [(0, .ref (kXb E)), (2, .ref b), (3, .int (nI d)), (4, .int (nI y)), (5, .int (nI F)), (6, .int (nI f))] [] := by
  intro j
  induction j with
  | zero =>
    intro f k ll hp hf hS hl hk hfr K
    refine A_iload X dL_text_94 5 rfl ?_
    refine A_iload X dL_text_96 4 rfl ?_
    refine A_icmp_ge_t (tgt := 183) X dL_text_98 (by rw [q_le (by omega) (by omega)]; omega) (by decide) ?_
    rw [show ll ++ dgs y F 0 f = ll from List.append_nil _] at K
    refine A_sub (L' := [(0, .ref (kXb E)), (2, .ref b), (3, .int (nI d)), (4, .int (nI y))]) [0, 1, 2, 3] rfl ?_
    exact K hp hS hfr
  | succ j ih =>
    intro f k ll hp hf hS hl hk hfr K
    refine A_iload X dL_text_94 5 rfl ?_
    refine A_iload X dL_text_96 4 rfl ?_
    refine A_icmp_ge_f (tgt := 183) X dL_text_98 (by rw [q_le (by omega) (by omega)]; omega) (by decide) ?_
    refine A_aload_n X dL_text_101 1 rfl ?_
    refine A_bipush (v := 32) X dL_text_102 (by decide) ?_
    rw [show (32 : Int32) = nI 32 from rfl]
    obtain ⟨v7, m7, a7, mb7, g7, -⟩ := id hS
    refine A_c (k' := (k + 1)) (n' := ((256 * k) + 256)) rfl rfl (A_runV (rest := []) X dL_text_104 (c_J4_append_cf468 hS (cz := 32) (by omega) (by omega)) kY_J4_append_cf468 kw_1202 g7 rfl rfl ⟨(Nat.le_of_ble_eq_true rfl), (Nat.le_of_ble_eq_true rfl), (by dsimp only; omega), (by dsimp only; omega)⟩ rfl (Nat.le_of_ble_eq_true rfl)) (fun v9 hp1 al9 hP => ?_)
    obtain ⟨rfl, hS, n1⟩ := hP
    refine A_al ?_
    refine A_st (st' := [.ref b]) rfl ?_
    have hfr : ∀ q, q < b → hp1 q = hp0 q := fun q hq => (n1 q hq).trans (hfr q hq)
    have K173 : AW E p l e ⟨12, 100, 25600, 250⟩ s m args below meth c 7 Q hp1 none (k + 1) ((256 * k) + 256) 173 [(0, .ref (kXb E)), (2, .ref b), (3, .int (nI d)), (4, .int (nI y)), (5, .int (nI F)), (6, .int (nI f))] [.int (nI (wT y F f)), .ref b] := by
      obtain ⟨v7, m7, a7, mb7, g7, -⟩ := id hS
      refine A_c (k' := ((k + 1) + 1)) (n' := (((256 * k) + 256) + 256)) rfl rfl (A_runV (rest := []) X dL_text_173 (c_J4_append_bf812 hS (vz := wT y F f) (by have := @wT_lt y F f; omega) (by rw [decL_1 wT_lt, List.length_append, List.length_singleton, List.length_singleton]; omega)) kY_J4_append_bf812 kw_1177 g7 rfl rfl ⟨(Nat.le_of_ble_eq_true rfl), (Nat.le_of_ble_eq_true rfl), (by dsimp only; omega), (by dsimp only; omega)⟩ rfl (Nat.le_of_ble_eq_true rfl)) (fun v9 hp2 al9 hP => ?_)
      obtain ⟨rfl, hS, n1⟩ := hP
      refine A_al ?_
      refine A_st (st' := [.ref b]) rfl ?_
      have hfr : ∀ q, q < b → hp2 q = hp0 q := fun q hq => (n1 q hq).trans (hfr q hq)
      refine A_pop X dL_text_176 rfl ?_
      refine A_iinc (j := 5) (v := ((nI f) + 1)) (L' := [(6, .int ((nI f) + 1)), (0, .ref (kXb E)), (2, .ref b), (3, .int (nI d)), (4, .int (nI y)), (5, .int (nI F))]) X dL_text_177 rfl rfl (by decide) rfl ?_
      rw [show nI f + 1 = nI (f + 1) from nI_add _ _]
      refine A_goto (tgt := 94) X dL_text_180 (by decide) ?_
      refine A_sub (L' := [(0, .ref (kXb E)), (2, .ref b), (3, .int (nI d)), (4, .int (nI y)), (5, .int (nI F)), (6, .int (nI (f + 1)))]) [1, 2, 3, 4, 5, 0] rfl ?_
      refine A_widen (k' := k + 2) (n' := 256 * (k + 2)) (by omega) (by omega) ?_
      refine ih (f + 1) (k + 2) (ll ++ [32] ++ decL (wT y F f)) hp2 (by omega) hS (by rw [decL_1 wT_lt, List.length_append, List.length_append, List.length_singleton, List.length_singleton]; omega) (by omega) hfr (fun hp9 h9 f9 => ?_)
      rw [show ll ++ [32] ++ decL (wT y F f) ++ dgs y F j (f + 1) = ll ++ dgs y F (j + 1) f by simp only [dgs, List.append_assoc]] at h9
      rw [show k + 2 + 2 * j = k + 2 * (j + 1) by omega]
      exact K hp9 h9 f9
    refine A_iload X dL_text_107 5 rfl ?_
    refine A_iload X dL_text_109 3 rfl ?_
    refine A_bipush (v := 8) X dL_text_111 (by decide) ?_
    refine A_idiv X dL_text_113 (by decide) ?_
    rw [show ((nI y) / 8) = (nI (y / 8)) from q_div (b := 8) (by omega) (by omega) (by omega)]
    refine A_iload X dL_text_114 4 rfl ?_
    refine A_irem X dL_text_116 (by rw [n_0, q_eq (by omega) (by omega)]; omega) ?_
    rw [show (nI (y / 8) - nI (y / 8) / nI F * nI F) = (nI (y / 8 % F)) from q_rm (by omega) (by omega) (by omega)]
    have hq9 : y / 8 % F < F := Nat.mod_lt _ (by omega)
    by_cases hc : f = y / 8 % F
    · refine A_icmp_ne_f (tgt := 133) X dL_text_117 (by rw [q_eq (by omega) (by omega)]; omega) (by decide) ?_
      refine A_iconst (v := 1) X dL_text_120 (by decide) ?_
      refine A_iload X dL_text_121 3 rfl ?_
      refine A_bipush (v := 64) X dL_text_123 (by decide) ?_
      refine A_idiv X dL_text_125 (by decide) ?_
      rw [show ((nI y) / 64) = (nI (y / 64)) from q_div (b := 64) (by omega) (by omega) (by omega)]
      refine A_bipush (v := 9) X dL_text_126 (by decide) ?_
      refine A_irem X dL_text_128 (by decide) ?_
      rw [show ((nI (y / 64)) - (nI (y / 64)) / 9 * 9) = (nI (y / 64 % 9)) from q_rm (b := 9) (by omega) (by omega) (by omega)]
      refine A_iadd X dL_text_129 ?_
      rw [show (1 + (nI (y / 64 % 9))) = (nI (wT y F f)) from by unfold wT; rw [if_pos hc, n_1, nI_add]]
      refine A_goto (tgt := 173) X dL_text_130 (by decide) ?_
      exact K173
    · refine A_icmp_ne_t (tgt := 133) X dL_text_117 (by rw [q_eq (by omega) (by omega)]; exact hc) (by decide) ?_
      obtain ⟨sh1, sh2, sh3⟩ := tx_sh f (by omega)
      generalize hP : 512 * 2 ^ (3 * f % 12) = P9 at sh1 sh2 sh3
      have hle9 := Nat.div_le_self y P9
      refine A_iload X dL_text_133 3 rfl ?_
      refine A_sipush (v := 512) X dL_text_135 (by decide) ?_
      refine A_iconst (v := 3) X dL_text_138 (by decide) ?_
      refine A_iload X dL_text_139 5 rfl ?_
      refine A_imul X dL_text_141 ?_
      refine A_bipush (v := 12) X dL_text_142 (by decide) ?_
      refine A_irem X dL_text_144 (by decide) ?_
      refine A_ishl X dL_text_145 ?_
      rw [show (512 <<< (((3 * (nI f)) - (3 * (nI f)) / 12 * 12) &&& 31)) = (nI P9) from sh1]
      refine A_idiv X dL_text_146 (by rw [n_0, q_eq (by omega) (by omega)]; omega) ?_
      rw [show (nI y / nI P9) = (nI (y / P9)) from q_div (by omega) (by omega) (by omega)]
      refine A_bipush (v := 8) X dL_text_147 (by decide) ?_
      refine A_irem X dL_text_149 (by decide) ?_
      rw [show ((nI (y / P9)) - (nI (y / P9)) / 8 * 8) = (nI (y / P9 % 8)) from q_rm (b := 8) (by omega) (by omega) (by omega)]
      by_cases h0 : y / P9 % 8 = 0
      · refine A_if_ne_f (tgt := 157) X dL_text_150 (by rw [n_0, q_eq (by omega) (by omega)]; omega) (by decide) ?_
        refine A_iconst (v := 0) X dL_text_153 (by decide) ?_
        rw [show 0 = (nI (wT y F f)) from by unfold wT; rw [hP, if_neg hc, if_pos h0]; rfl]
        refine A_goto (tgt := 173) X dL_text_154 (by decide) ?_
        exact K173
      · refine A_if_ne_t (tgt := 157) X dL_text_150 (by rw [n_0, q_eq (by omega) (by omega)]; exact h0) (by decide) ?_
        refine A_iload X dL_text_157 3 rfl ?_
        refine A_sipush (v := 512) X dL_text_159 (by decide) ?_
        refine A_iconst (v := 3) X dL_text_162 (by decide) ?_
        refine A_iload X dL_text_163 5 rfl ?_
        refine A_imul X dL_text_165 ?_
        refine A_bipush (v := 12) X dL_text_166 (by decide) ?_
        refine A_irem X dL_text_168 (by decide) ?_
        refine A_ishl X dL_text_169 ?_
        rw [show (512 <<< (((3 * (nI f)) - (3 * (nI f)) / 12 * 12) &&& 31)) = (nI P9) from sh1]
        refine A_idiv X dL_text_170 (by rw [n_0, q_eq (by omega) (by omega)]; omega) ?_
        rw [show (nI y / nI P9) = (nI (y / P9)) from q_div (by omega) (by omega) (by omega)]
        refine A_iconst (v := 4) X dL_text_171 (by decide) ?_
        refine A_irem X dL_text_172 (by decide) ?_
        rw [show ((nI (y / P9)) - (nI (y / P9)) / 4 * 4) = (nI (wT y F f)) from by unfold wT; rw [hP, if_neg hc, if_neg h0]; exact q_rm (b := 4) (by omega) (by omega) (by omega)]
        exact K173
set_option maxHeartbeats 4000000 in
set_option maxRecDepth 100000 in
theorem tx_out {E : KE} {p : Program} {l : Launch} {e : Env} {s : State} {m : MethodId} {args : Array Value} {below : List Frame} {meth : Method} {c : Code} {Q : State → Prop} {b : Nat} {hp0 : Hp} (X : CX E p l s m args meth c "DiceAuditLaw" cL_text 7) : ∀ (j d k : Nat) (ll : List Nat) (hp : Hp), d + j = 3 → SBd E hp b (ll).length (ll) 0 → ll.length + 16 * j ≤ 80 → k + 14 * j ≤ 90 → (∀ q, q < b → hp q = hp0 q) → (∀ (hp' : Hp) (k' : Nat), k' ≤ k + 14 * j → SBd E hp' b (ll ++ dts E j d).length (ll ++ dts E j d) 0 → (∀ q, q < b → hp' q = hp0 q) → AW E p l e ⟨12, 100, 25600, 250⟩ s m args below meth c 7 Q hp' none k' (256 * k') 196 [(0, .ref (kXb E)), (2, .ref b)] []) → AW E p l e ⟨12, 100, 25600, 250⟩ s m args below meth c 7 Q hp none k (256 * k) 62 [(0, .ref (kXb E)), (2, .ref b), (3, .int (nI d))] [] := by
  intro j
  induction j with
  | zero =>
    intro d k ll hp hd hS hl hk hfr K
    refine A_iload_n X dL_text_62 2 rfl ?_
    refine A_iconst (v := 3) X dL_text_63 (by decide) ?_
    refine A_icmp_ge_t (tgt := 196) X dL_text_64 (by rw [n_3, q_le (by omega) (by omega)]; omega) (by decide) ?_
    refine A_sub (L' := [(0, .ref (kXb E)), (2, .ref b)]) [0, 1] rfl ?_
    rw [show ll ++ dts E 0 d = ll from List.append_nil _] at K
    exact K hp k (by omega) hS hfr
  | succ j ih =>
    intro d k ll hp hd hS hl hk hfr K
    refine A_iload_n X dL_text_62 2 rfl ?_
    refine A_iconst (v := 3) X dL_text_63 (by decide) ?_
    refine A_icmp_ge_f (tgt := 196) X dL_text_64 (by rw [n_3, q_le (by omega) (by omega)]; omega) (by decide) ?_
    refine A_aload_n X dL_text_67 0 rfl ?_
    refine A_iconst (v := 1) X dL_text_68 (by decide) ?_
    refine A_iload_n X dL_text_69 2 rfl ?_
    refine A_iadd X dL_text_70 ?_
    refine A_cp (k' := k) (n' := (256 * k)) (A_runS (rest := []) X dL_text_71 (c_L_cell (j := 1 + d) (by rw [n_1, nI_add]) (by omega)) kY_L_cell kw_989 ⟨(Nat.le_of_ble_eq_true rfl), (Nat.le_of_ble_eq_true rfl), (by dsimp only; omega), (by dsimp only; omega)⟩ rfl (Nat.le_of_ble_eq_true rfl)) rfl rfl ?_
    have hy := @cV_lt E (1 + d)
    have hdt : dts E (j + 1) d = dtx (cV E (1 + d)) ++ dts E j (d + 1) := rfl
    generalize cV E (1 + d) = y at hy hdt ⊢
    refine A_istore (L' := [(4, .int (nI y)), (0, .ref (kXb E)), (2, .ref b), (3, .int (nI d))]) X dL_text_74 (by decide) rfl ?_
    refine A_aload_n X dL_text_76 2 rfl ?_
    refine A_ldcS (j := 2) X dL_text_77 (List.mem_of_getElem? (i := 9) rfl) ?_
    obtain ⟨v7, m7, a7, mb7, g7, -⟩ := id hS
    refine A_c (k' := (k + 1)) (n' := ((256 * k) + 256)) rfl rfl (A_runV (rest := []) X dL_text_79 (c_J4_append_15ec4 hS (j := 2) (by omega) (by show _ + 3 ≤ 128; omega)) kY_J4_append_15ec4 kw_1218 g7 rfl rfl ⟨(Nat.le_of_ble_eq_true rfl), (Nat.le_of_ble_eq_true rfl), (by dsimp only; omega), (by dsimp only; omega)⟩ rfl (Nat.le_of_ble_eq_true rfl)) (fun v9 hp1 al9 hP => ?_)
    obtain ⟨rfl, hS, n1⟩ := hP
    refine A_al ?_
    refine A_st (st' := [.ref b]) rfl ?_
    have hfr : ∀ q, q < b → hp1 q = hp0 q := fun q hq => (n1 q hq).trans (hfr q hq)
    refine A_pop X dL_text_82 rfl ?_
    refine A_iconst (v := 2) X dL_text_83 (by decide) ?_
    refine A_iload X dL_text_84 0 rfl ?_
    refine A_iconst (v := 5) X dL_text_86 (by decide) ?_
    refine A_irem X dL_text_87 (by decide) ?_
    rw [show ((nI y) - (nI y) / 5 * 5) = (nI (y % 5)) from q_rm (b := 5) (by omega) (by omega) (by omega)]
    refine A_iadd X dL_text_88 ?_
    rw [show (2 + (nI (y % 5))) = (nI (2 + y % 5)) from nI_add 2 _]
    refine A_istore (L' := [(5, .int (nI (2 + y % 5))), (4, .int (nI y)), (0, .ref (kXb E)), (2, .ref b), (3, .int (nI d))]) X dL_text_89 (by decide) rfl ?_
    refine A_iconst (v := 0) X dL_text_91 (by decide) ?_
    rw [n_0]
    refine A_istore (L' := [(6, .int (nI 0)), (5, .int (nI (2 + y % 5))), (4, .int (nI y)), (0, .ref (kXb E)), (2, .ref b), (3, .int (nI d))]) X dL_text_92 (by decide) rfl ?_
    have h23 := kLt_l2.1
    refine A_sub (L' := [(0, .ref (kXb E)), (2, .ref b), (3, .int (nI d)), (4, .int (nI y)), (5, .int (nI (2 + y % 5))), (6, .int (nI 0))]) [3, 4, 5, 2, 1, 0] rfl ?_
    refine A_widen (k' := k + 1) (n' := 256 * (k + 1)) (by omega) (by omega) ?_
    refine tx_in X hy ⟨by omega, by omega⟩ (2 + y % 5) 0 (k + 1) (ll ++ kLt 2) hp1 (by omega) hS (by rw [List.length_append]; omega) (by omega) hfr (fun hp2 hS hfr => ?_)
    have hdl := @dgs_len y (2 + y % 5) (2 + y % 5) 0
    refine A_aload_n X dL_text_183 1 rfl ?_
    refine A_bipush (v := 59) X dL_text_184 (by decide) ?_
    rw [show (59 : Int32) = nI 59 from rfl]
    obtain ⟨v7, m7, a7, mb7, g7, -⟩ := id hS
    refine A_c (k' := ((k + 1 + 2 * (2 + y % 5)) + 1)) (n' := ((256 * (k + 1 + 2 * (2 + y % 5))) + 256)) rfl rfl (A_runV (rest := []) X dL_text_186 (c_J4_append_cf468 hS (cz := 59) (by omega) (by rw [List.length_append, List.length_append]; omega)) kY_J4_append_cf468 kw_1202 g7 rfl rfl ⟨(Nat.le_of_ble_eq_true rfl), (Nat.le_of_ble_eq_true rfl), (by dsimp only; omega), (by dsimp only; omega)⟩ rfl (Nat.le_of_ble_eq_true rfl)) (fun v9 hp3 al9 hP => ?_)
    obtain ⟨rfl, hS, n1⟩ := hP
    refine A_al ?_
    refine A_st (st' := [.ref b]) rfl ?_
    have hfr : ∀ q, q < b → hp3 q = hp0 q := fun q hq => (n1 q hq).trans (hfr q hq)
    refine A_pop X dL_text_189 rfl ?_
    refine A_iinc (j := 2) (v := ((nI d) + 1)) (L' := [(3, .int ((nI d) + 1)), (0, .ref (kXb E)), (2, .ref b), (4, .int (nI y))]) X dL_text_190 rfl rfl (by decide) rfl ?_
    rw [show nI d + 1 = nI (d + 1) from nI_add _ _]
    refine A_goto (tgt := 62) X dL_text_193 (by decide) ?_
    refine A_sub (L' := [(0, .ref (kXb E)), (2, .ref b), (3, .int (nI (d + 1)))]) [1, 2, 0] rfl ?_
    refine A_widen (k' := k + 14) (n' := 256 * (k + 14)) (by omega) (by omega) ?_
    have hdx := @dtx_len y
    have e9 : ll ++ kLt 2 ++ dgs y (2 + y % 5) (2 + y % 5) 0 ++ [59] = ll ++ dtx y := by simp only [dtx, List.append_assoc]
    rw [e9] at hS
    refine ih (d + 1) (k + 14) (ll ++ dtx y) hp3 (by omega) hS (by rw [List.length_append]; omega) (by omega) hfr (fun hp9 k9 hk9 h9 f9 => ?_)
    rw [List.append_assoc, ← hdt] at h9
    exact K hp9 k9 (by omega) h9 f9
set_option maxHeartbeats 4000000 in
set_option maxRecDepth 100000 in
theorem c_L_text {E : KE} {l : Launch} {hp : Hp}  : AM E l yL_text cL_text 7 (Option.some (Jvm.ClassFile.FieldType.object "java/lang/String")) ⟨12, 100, 25600, 250⟩ [.ref (kXb E)] hp none (fun v9 hp' _ => ∃ r : Nat, v9 = some (.ref r) ∧ (∀ q9 c9, hp q9 = some c9 → q9 < r) ∧ SJd E hp' r (txt E) ∧ ∀ q9 c9, hp q9 = some c9 → hp' q9 = some c9) := by
  refine A_of (by decide +kernel) (Nat.le_of_ble_eq_true rfl) ?_
  intro p e s m args below meth c X hr hnm
  have X : CX E p l s m args meth c "DiceAuditLaw" cL_text 7 := X
  refine A_L (L' := [(0, .ref (kXb E))]) rfl ?_
  refine A_aload_n X dL_text_0 0 rfl ?_
  refine A_iconst (v := 0) X dL_text_1 (by decide) ?_
  rw [n_0]
  refine A_cp (k' := 0) (n' := 0) (A_runS (rest := []) X dL_text_2 (c_L_cell (j := 0) rfl (by omega)) kY_L_cell kw_989 ⟨(Nat.le_of_ble_eq_true rfl), (Nat.le_of_ble_eq_true rfl), (by dsimp only; omega), (by dsimp only; omega)⟩ rfl (Nat.le_of_ble_eq_true rfl)) rfl rfl ?_
  have hx := @cV_lt E 0
  have htx : txt E = kLt 8 ++ decL (cV E 0 % 65537) ++ [32] ++ decL (1 + cV E 0 / 131072 % 8) ++ [32] ++ decL (cV E 0 / 1048576 % 12) ++ [59] ++ dts E 3 0 ++ kLt 9 := rfl
  generalize cV E 0 = x at hx htx ⊢
  refine A_istore_n (L' := [(1, .int (nI x)), (0, .ref (kXb E))]) X dL_text_5 rfl (by decide) rfl ?_
  refine A_newo (fs := [.null, .int 0, .int 0, .int 0]) X dL_text_6 kcl_J4 kw_1044 kw_1045 kw_20 (fun j hj => by match j, hj with | 0, _ => rfl | 1, _ => rfl | 2, _ => rfl | 3, _ => rfl | j + 4, hj => exact absurd hj (by omega)) (Nat.le_of_ble_eq_true rfl) (Nat.le_of_ble_eq_true rfl) (fun b hp1 f1 g1 n1 => ?_)
  refine A_al ?_
  have hfr : ∀ q, q < b → hp1 q = hp q := fun q hq => n1 q (by omega)
  refine A_dup X dL_text_9 rfl ?_
  refine A_ldcS (j := 8) X dL_text_10 (List.mem_of_getElem? (i := 8) rfl) ?_
  refine A_c (k' := 3) (n' := 516) rfl rfl (A_runI (rest := [.ref b]) X dL_text_12 (c_J4_init_a7421 (j := 8) (by omega) (by decide) g1) kY_J4_init_a7421 kw_1047 ⟨(Nat.le_of_ble_eq_true rfl), (Nat.le_of_ble_eq_true rfl), (by dsimp only; omega), (by dsimp only; omega)⟩ rfl (Nat.le_of_ble_eq_true rfl)) (fun v9 hp2 al9 hP => ?_)
  obtain ⟨rfl, hS, n2⟩ := hP
  refine A_al ?_
  refine A_st (st' := [.ref b]) rfl ?_
  have hfr : ∀ q, q < b → hp2 q = hp q := fun q hq => (n2 q hq).trans (hfr q hq)
  refine A_widen (k' := 3) (n' := 256 * 3) (by omega) (by omega) ?_
  have hl8 := kLt_l2.2.1
  have hl9 := kLt_l2.2.2
  refine A_iload_n X dL_text_15 0 rfl ?_
  refine A_ldci X dL_text_16 kw_1176 ?_
  refine A_irem X dL_text_18 (by decide) ?_
  rw [show ((nI x) - (nI x) / 65537 * 65537) = (nI (x % 65537)) from q_rm (b := 65537) (by omega) (by omega) (by omega)]
  have d1 := @decL_len (x % 65537)
  have d2 := @decL_len (1 + x / 131072 % 8)
  have d3 := @decL_len (x / 1048576 % 12)
  obtain ⟨v7, m7, a7, mb7, g7, -⟩ := id hS
  refine A_c (k' := ((3) + 1)) (n' := ((256 * 3) + 256)) rfl rfl (A_runV (rest := []) X dL_text_19 (c_J4_append_bf812 hS (vz := x % 65537) (by omega) (by (try simp only [List.length_append, List.length_singleton]); omega)) kY_J4_append_bf812 kw_1177 g7 rfl rfl ⟨(Nat.le_of_ble_eq_true rfl), (Nat.le_of_ble_eq_true rfl), (by dsimp only; omega), (by dsimp only; omega)⟩ rfl (Nat.le_of_ble_eq_true rfl)) (fun v9 hp3 al9 hP => ?_)
  obtain ⟨rfl, hS, n1⟩ := hP
  refine A_al ?_
  refine A_st (st' := [.ref b]) rfl ?_
  have hfr : ∀ q, q < b → hp3 q = hp q := fun q hq => (n1 q hq).trans (hfr q hq)
  refine A_widen (k' := 4) (n' := 256 * 4) (by omega) (by omega) ?_
  refine A_bipush (v := 32) X dL_text_22 (by decide) ?_
  rw [show (32 : Int32) = nI 32 from rfl]
  obtain ⟨v7, m7, a7, mb7, g7, -⟩ := id hS
  refine A_c (k' := ((4) + 1)) (n' := ((256 * 4) + 256)) rfl rfl (A_runV (rest := []) X dL_text_24 (c_J4_append_cf468 hS (cz := 32) (by omega) (by (try simp only [List.length_append, List.length_singleton]); omega)) kY_J4_append_cf468 kw_1202 g7 rfl rfl ⟨(Nat.le_of_ble_eq_true rfl), (Nat.le_of_ble_eq_true rfl), (by dsimp only; omega), (by dsimp only; omega)⟩ rfl (Nat.le_of_ble_eq_true rfl)) (fun v9 hp4 al9 hP => ?_)
  obtain ⟨rfl, hS, n1⟩ := hP
  refine A_al ?_
  refine A_st (st' := [.ref b]) rfl ?_
  have hfr : ∀ q, q < b → hp4 q = hp q := fun q hq => (n1 q hq).trans (hfr q hq)
  refine A_widen (k' := 5) (n' := 256 * 5) (by omega) (by omega) ?_
  refine A_iconst (v := 1) X dL_text_27 (by decide) ?_
  refine A_iload_n X dL_text_28 0 rfl ?_
  refine A_ldci X dL_text_29 kw_1215 ?_
  refine A_idiv X dL_text_31 (by decide) ?_
  rw [show ((nI x) / 131072) = (nI (x / 131072)) from q_div (b := 131072) (by omega) (by omega) (by omega)]
  refine A_bipush (v := 8) X dL_text_32 (by decide) ?_
  refine A_irem X dL_text_34 (by decide) ?_
  rw [show ((nI (x / 131072)) - (nI (x / 131072)) / 8 * 8) = (nI (x / 131072 % 8)) from q_rm (b := 8) (by omega) (by omega) (by omega)]
  refine A_iadd X dL_text_35 ?_
  rw [show (1 + (nI (x / 131072 % 8))) = (nI (1 + x / 131072 % 8)) from nI_add 1 _]
  obtain ⟨v7, m7, a7, mb7, g7, -⟩ := id hS
  refine A_c (k' := ((5) + 1)) (n' := ((256 * 5) + 256)) rfl rfl (A_runV (rest := []) X dL_text_36 (c_J4_append_bf812 hS (vz := 1 + x / 131072 % 8) (by omega) (by (try simp only [List.length_append, List.length_singleton]); omega)) kY_J4_append_bf812 kw_1177 g7 rfl rfl ⟨(Nat.le_of_ble_eq_true rfl), (Nat.le_of_ble_eq_true rfl), (by dsimp only; omega), (by dsimp only; omega)⟩ rfl (Nat.le_of_ble_eq_true rfl)) (fun v9 hp5 al9 hP => ?_)
  obtain ⟨rfl, hS, n1⟩ := hP
  refine A_al ?_
  refine A_st (st' := [.ref b]) rfl ?_
  have hfr : ∀ q, q < b → hp5 q = hp q := fun q hq => (n1 q hq).trans (hfr q hq)
  refine A_widen (k' := 6) (n' := 256 * 6) (by omega) (by omega) ?_
  refine A_bipush (v := 32) X dL_text_39 (by decide) ?_
  rw [show (32 : Int32) = nI 32 from rfl]
  obtain ⟨v7, m7, a7, mb7, g7, -⟩ := id hS
  refine A_c (k' := ((6) + 1)) (n' := ((256 * 6) + 256)) rfl rfl (A_runV (rest := []) X dL_text_41 (c_J4_append_cf468 hS (cz := 32) (by omega) (by (try simp only [List.length_append, List.length_singleton]); omega)) kY_J4_append_cf468 kw_1202 g7 rfl rfl ⟨(Nat.le_of_ble_eq_true rfl), (Nat.le_of_ble_eq_true rfl), (by dsimp only; omega), (by dsimp only; omega)⟩ rfl (Nat.le_of_ble_eq_true rfl)) (fun v9 hp6 al9 hP => ?_)
  obtain ⟨rfl, hS, n1⟩ := hP
  refine A_al ?_
  refine A_st (st' := [.ref b]) rfl ?_
  have hfr : ∀ q, q < b → hp6 q = hp q := fun q hq => (n1 q hq).trans (hfr q hq)
  refine A_widen (k' := 7) (n' := 256 * 7) (by omega) (by omega) ?_
  refine A_iload_n X dL_text_44 0 rfl ?_
  refine A_ldci X dL_text_45 kw_1216 ?_
  refine A_idiv X dL_text_47 (by decide) ?_
  rw [show ((nI x) / 1048576) = (nI (x / 1048576)) from q_div (b := 1048576) (by omega) (by omega) (by omega)]
  refine A_bipush (v := 12) X dL_text_48 (by decide) ?_
  refine A_irem X dL_text_50 (by decide) ?_
  rw [show ((nI (x / 1048576)) - (nI (x / 1048576)) / 12 * 12) = (nI (x / 1048576 % 12)) from q_rm (b := 12) (by omega) (by omega) (by omega)]
  obtain ⟨v7, m7, a7, mb7, g7, -⟩ := id hS
  refine A_c (k' := ((7) + 1)) (n' := ((256 * 7) + 256)) rfl rfl (A_runV (rest := []) X dL_text_51 (c_J4_append_bf812 hS (vz := x / 1048576 % 12) (by omega) (by (try simp only [List.length_append, List.length_singleton]); omega)) kY_J4_append_bf812 kw_1177 g7 rfl rfl ⟨(Nat.le_of_ble_eq_true rfl), (Nat.le_of_ble_eq_true rfl), (by dsimp only; omega), (by dsimp only; omega)⟩ rfl (Nat.le_of_ble_eq_true rfl)) (fun v9 hp7 al9 hP => ?_)
  obtain ⟨rfl, hS, n1⟩ := hP
  refine A_al ?_
  refine A_st (st' := [.ref b]) rfl ?_
  have hfr : ∀ q, q < b → hp7 q = hp q := fun q hq => (n1 q hq).trans (hfr q hq)
  refine A_widen (k' := 8) (n' := 256 * 8) (by omega) (by omega) ?_
  refine A_bipush (v := 59) X dL_text_54 (by decide) ?_
  rw [show (59 : Int32) = nI 59 from rfl]
  obtain ⟨v7, m7, a7, mb7, g7, -⟩ := id hS
  refine A_c (k' := ((8) + 1)) (n' := ((256 * 8) + 256)) rfl rfl (A_runV (rest := []) X dL_text_56 (c_J4_append_cf468 hS (cz := 59) (by omega) (by (try simp only [List.length_append, List.length_singleton]); omega)) kY_J4_append_cf468 kw_1202 g7 rfl rfl ⟨(Nat.le_of_ble_eq_true rfl), (Nat.le_of_ble_eq_true rfl), (by dsimp only; omega), (by dsimp only; omega)⟩ rfl (Nat.le_of_ble_eq_true rfl)) (fun v9 hp8 al9 hP => ?_)
  obtain ⟨rfl, hS, n1⟩ := hP
  refine A_al ?_
  refine A_st (st' := [.ref b]) rfl ?_
  have hfr : ∀ q, q < b → hp8 q = hp q := fun q hq => (n1 q hq).trans (hfr q hq)
  refine A_widen (k' := 9) (n' := 256 * 9) (by omega) (by omega) ?_
  refine A_astore_n (L' := [(2, .ref b), (1, .int (nI x)), (0, .ref (kXb E))]) X dL_text_59 rfl (by decide) rfl ?_
  refine A_iconst (v := 0) X dL_text_60 (by decide) ?_
  rw [n_0]
  refine A_istore_n (L' := [(3, .int (nI 0)), (2, .ref b), (1, .int (nI x)), (0, .ref (kXb E))]) X dL_text_61 rfl (by decide) rfl ?_
  refine A_sub (L' := [(0, .ref (kXb E)), (2, .ref b), (3, .int (nI 0))]) [3, 1, 0] rfl ?_
  refine tx_out (hp0 := hp) X 3 0 9 _ hp8 (by omega) hS (by simp only [List.length_append, List.length_singleton]; omega) (by omega) hfr (fun hp9 k9 hk9 hS hfr => ?_)
  have hd3 := @dts_len E 3 0
  refine A_aload_n X dL_text_196 1 rfl ?_
  refine A_ldcS (j := 9) X dL_text_197 (List.mem_of_getElem? (i := 10) rfl) ?_
  obtain ⟨v7, m7, a7, mb7, g7, -⟩ := id hS
  refine A_c (k' := (k9 + 1)) (n' := ((256 * k9) + 256)) rfl rfl (A_runV (rest := []) X dL_text_199 (c_J4_append_15ec4 hS (j := 9) (by omega) (by show _ + 29 ≤ 128; simp only [List.length_append, List.length_singleton]; omega)) kY_J4_append_15ec4 kw_1218 g7 rfl rfl ⟨(Nat.le_of_ble_eq_true rfl), (Nat.le_of_ble_eq_true rfl), (by dsimp only; omega), (by dsimp only; omega)⟩ rfl (Nat.le_of_ble_eq_true rfl)) (fun v9 hp10 al9 hP => ?_)
  obtain ⟨rfl, hS, n1⟩ := hP
  refine A_al ?_
  refine A_st (st' := [.ref b]) rfl ?_
  have hfr : ∀ q, q < b → hp10 q = hp q := fun q hq => (n1 q hq).trans (hfr q hq)
  rw [← htx] at hS
  obtain ⟨v7, m7, a7, mb7, g7, -⟩ := id hS
  refine A_c (k' := ((k9 + 1) + 2)) (n' := (((256 * k9) + 256) + 260)) rfl rfl (A_runV (rest := []) X dL_text_202 (c_J4_toString_0e30d hS) kY_J4_toString_0e30d kw_1220 g7 rfl rfl ⟨(Nat.le_of_ble_eq_true rfl), (Nat.le_of_ble_eq_true rfl), (by dsimp only; omega), (by dsimp only; omega)⟩ rfl (Nat.le_of_ble_eq_true rfl)) (fun v9 hp11 al9 hP => ?_)
  obtain ⟨r, rfl, fr, hJ, n2⟩ := hP
  refine A_al ?_
  refine A_st (st' := [.ref r]) rfl ?_
  have hold : ∀ q c9, hp q = some c9 → hp10 q = some c9 := fun q c9 hq => (hfr q (f1 _ _ hq)).trans hq
  exact A_aret X dL_text_205 hr (Or.inl ⟨_, rfl⟩) ⟨r, rfl, fun q c9 hq => fr _ _ (hold q c9 hq), hJ, fun q c9 hq => n2 _ _ (hold q c9 hq)⟩ (by dsimp only; omega) (by dsimp only; omega)
