theorem hbd_o {α β : Type} {o : Option (String ⊕ α)} {g : String → Option β} {k : α → Option β} {u : β} (h : hbd o g k = some u) : (∃ C, o = some (.inl C) ∧ g C = some u) ∨ ∃ t, o = some (.inr t) ∧ k t = some u := by
  unfold hbd at h
  split at h
  · cases h
  · exact Or.inl ⟨_, rfl, h⟩
  · exact Or.inr ⟨_, rfl, h⟩
theorem hbdw_o {ω α β : Type} {o : Option ((String × ω) ⊕ α)} {g : String → ω → Option β} {k : α → Option β} {u : β} (h : hbdw o g k = some u) : (∃ C w, o = some (.inl (C, w)) ∧ g C w = some u) ∨ ∃ t, o = some (.inr t) ∧ k t = some u := by
  unfold hbdw at h
  split at h
  · cases h
  · rename_i C
    exact Or.inl ⟨C.1, C.2, rfl, h⟩
  · exact Or.inr ⟨_, rfl, h⟩
theorem ite_o {β : Type} {A B : String} {a b : Option β} {u : β} (h : (if A = B then a else b) = some u) : (A = B ∧ a = some u) ∨ b = some u := by
  by_cases hc : A = B
  · rw [if_pos hc] at h; exact Or.inl ⟨hc, h⟩
  · rw [if_neg hc] at h; exact Or.inr h
abbrev P_L_appendInput (E : KE) (x : Nat) (o : Nat)  (hp : Hp) (al : Option Nat) (out : Int32 × Int32 × (Nat → Int32) × (Nat → Int64)) : Option Value → Hp → Option Nat → Prop := fun v0 hp' al' => v0 = some (.int out.1) ∧ hp' (x + 126) = some (.inr (8, [.ref (x + 127), .int out.2.1])) ∧ hp' (x + 127) = some (.inl (kC E 0, 900, .inl out.2.2.1)) ∧ hp' o = some (.inl (kC E 1, 1, .inr (.inl out.2.2.2))) ∧ (∀ q, q ≠ (x + 126) → q ≠ (x + 127) → q ≠ o → hp' q = hp q) ∧ al = al'
set_option maxHeartbeats 4000000 in
set_option maxRecDepth 100000 in
theorem c_L_appendInput {E : KE} {l : Launch} {hp : Hp} {N : Nat} {x : Nat} {o : Nat} {itl : Int32} {itb : Nat → Int32} {ov : Nat → Int64} {a1 : Int32} {a2 : Int32} {a3 : Int32} {a4 : Int32} {a5 : Int32} {out : Int32 × Int32 × (Nat → Int32) × (Nat → Int64)} (g0 : hp x = some (.inr (10, [.ref (x + 126), .ref (x + 128), .ref (x + 1), .ref (x + 3), .ref (x + 16), .ref (x + 18), .ref (x + 124), .ref (x + 125)]))) (g22 : hp (x + 126) = some (.inr (8, [.ref (x + 127), .int itl]))) (g23 : hp (x + 127) = some (.inl (kC E 0, 900, .inl itb))) (g39 : hp o = some (.inl (kC E 1, 1, .inr (.inl ov)))) (hz0 : (x + 128) ≤ o ∨ (o + 1) ≤ x) (h : f_L_appendInput N itl itb ov a1 a2 a3 a4 a5 = some out) : AH E l yL_appendInput cL_appendInput 8 (Option.some Jvm.ClassFile.FieldType.int) [((0 : Nat), (16 : Nat), (19 : Nat), (13 : Nat))] ⟨7, 1, 6, 107⟩ [.ref x, .int a1, .int a2, .int a3, .int a4, .int a5, .ref o] hp none (P_L_appendInput E x o hp none out) := by
  refine A_ofH (by decide +kernel) (Nat.le_of_ble_eq_true rfl) ?_
  intro p e s m args below meth c X hr htb
  have X : CX E p l s m args meth c "DiceAuditLaw" cL_appendInput 8 := X
  refine A_L (L' := [(0, .ref x), (1, .int a1), (2, .int a2), (3, .int a3), (4, .int a4), (5, .int a5), (6, .ref o)]) rfl ?_
  unfold f_L_appendInput at h
  refine A_aload X dL_appendInput_0 6 rfl ?_
  refine A_iconst (v := 0) X dL_appendInput_2 (by decide) ?_
  refine A_aload_n X dL_appendInput_3 0 rfl ?_
  refine A_iload_n X dL_appendInput_4 1 rfl ?_
  refine A_iload_n X dL_appendInput_5 2 rfl ?_
  refine A_iload_n X dL_appendInput_6 3 rfl ?_
  refine A_iload X dL_appendInput_7 4 rfl ?_
  refine A_iload X dL_appendInput_9 5 rfl ?_
  rcases hbd_o h with ⟨C9, hc9, h⟩ | ⟨t1, hct1, h⟩
  · refine A_cX (k' := 1) (n' := 6) rfl rfl (A_runVX (rest := [.int 0, .ref o]) X dL_appendInput_11 (c_X10_appendInput g0 g22 g23  hc9) kY_X10_appendInput kw_839 g0 rfl rfl ⟨(Nat.le_of_ble_eq_true rfl), (Nat.le_of_ble_eq_true rfl), (Nat.le_of_ble_eq_true rfl), (Nat.le_of_ble_eq_true rfl)⟩ rfl (Nat.le_of_ble_eq_true rfl)) (fun C hp1 hP => ?_) (fun v hp1 al1 hP => by obtain ⟨u, hu, _⟩ := hP; cases hu)
    obtain ⟨hC, rfl⟩ := hP
    cases hC
    rcases ite_o h with ⟨rfl, h⟩ | h
    · refine A_catch (name := "java/lang/IllegalStateException") (Lc := []) (stc := []) X [] ⟨0, 16, 19, 13⟩ [] (htb.trans rfl) (fun z hz => nomatch hz) (by decide) (by decide) kw_838 kw_845 (fun q9 => ?_)
      refine A_astore (L' := [(7, .ref q9), (0, .ref x), (1, .int a1), (2, .int a2), (3, .int a3), (4, .int a4), (5, .int a5), (6, .ref o)]) X dL_appendInput_19 (by decide) rfl ?_
      refine A_iconst (v := 1) X dL_appendInput_21 (by decide) ?_
      cases h
      exact A_iretX X dL_appendInput_22 hr ⟨rfl, g22, g23, g39, (fun q z0 z1 z2 => rfl), rfl⟩ (Nat.le_of_ble_eq_true rfl) (Nat.le_of_ble_eq_true rfl)
    cases h
  refine A_cX (k' := 1) (n' := 6) rfl rfl (A_runVX (rest := [.int 0, .ref o]) X dL_appendInput_11 (c_X10_appendInput g0 g22 g23  hct1) kY_X10_appendInput kw_839 g0 rfl rfl ⟨(Nat.le_of_ble_eq_true rfl), (Nat.le_of_ble_eq_true rfl), (Nat.le_of_ble_eq_true rfl), (Nat.le_of_ble_eq_true rfl)⟩ rfl (Nat.le_of_ble_eq_true rfl)) (fun C hp1 hP => by obtain ⟨hC, _⟩ := hP; cases hC) (fun v9 hp1 al9 hP => ?_)
  obtain ⟨u9, hu9, rfl, k1_0, k1_1, n1, rfl⟩ := hP
  cases hu9
  replace k1_0 : hp1 (x + 126) = some (.inr (8, [.ref (x + 127), .int t1.2.1])) := k1_0
  replace k1_1 : hp1 (x + 127) = some (.inl (kC E 0, 900, .inl t1.2.2)) := k1_1
  refine A_st (st' := [.int t1.1, .int 0, .ref o]) rfl ?_
  refine A_i2l X dL_appendInput_14 ?_
  refine A_last X dL_appendInput_15 ((n1 _ (by omega) (by omega)).trans g39) (by decide) (fun hp2 (k2 : hp2 o = some (.inl (kC E 1, 1, .inr (.inl (vp_updL ov (Int32.toNatClampNeg 0) t1.1.toInt64))))) n2 => ?_)
  refine A_goto (tgt := 23) X dL_appendInput_16 (by decide) ?_
  refine A_iconst (v := 0) X dL_appendInput_23 (by decide) ?_
  cases h
  exact A_iretX X dL_appendInput_24 hr ⟨rfl, ((n2 _ (by omega)).trans k1_0), ((n2 _ (by omega)).trans k1_1), k2, (fun q z0 z1 z2 => ((n2 q z2).trans (n1 q z0 z1))), rfl⟩ (Nat.le_of_ble_eq_true rfl) (Nat.le_of_ble_eq_true rfl)
abbrev P_L_truncateInput (E : KE) (x : Nat) (o : Nat)  (hp : Hp) (al : Option Nat) (out : Int32 × Int32 × (Nat → Int64)) : Option Value → Hp → Option Nat → Prop := fun v0 hp' al' => v0 = some (.int out.1) ∧ hp' (x + 126) = some (.inr (8, [.ref (x + 127), .int out.2.1])) ∧ hp' o = some (.inl (kC E 1, 1, .inr (.inl out.2.2))) ∧ (∀ q, q ≠ (x + 126) → q ≠ o → hp' q = hp q) ∧ al = al'
set_option maxHeartbeats 4000000 in
set_option maxRecDepth 100000 in
theorem c_L_truncateInput {E : KE} {l : Launch} {hp : Hp} {x : Nat} {o : Nat} {itl : Int32} {ov : Nat → Int64} {a1 : Int32} {out : Int32 × Int32 × (Nat → Int64)} (g0 : hp x = some (.inr (10, [.ref (x + 126), .ref (x + 128), .ref (x + 1), .ref (x + 3), .ref (x + 16), .ref (x + 18), .ref (x + 124), .ref (x + 125)]))) (g22 : hp (x + 126) = some (.inr (8, [.ref (x + 127), .int itl]))) (g39 : hp o = some (.inl (kC E 1, 1, .inr (.inl ov)))) (hz0 : (x + 127) ≤ o ∨ (o + 1) ≤ x) (h : f_L_truncateInput itl ov a1 = some out) : AH E l yL_truncateInput cL_truncateInput 4 (Option.some Jvm.ClassFile.FieldType.int) [((0 : Nat), (9 : Nat), (12 : Nat), (19 : Nat))] ⟨8, 1, 6, 125⟩ [.ref x, .int a1, .ref o] hp none (P_L_truncateInput E x o hp none out) := by
  refine A_ofH (by decide +kernel) (Nat.le_of_ble_eq_true rfl) ?_
  intro p e s m args below meth c X hr htb
  have X : CX E p l s m args meth c "DiceAuditLaw" cL_truncateInput 4 := X
  refine A_L (L' := [(0, .ref x), (1, .int a1), (2, .ref o)]) rfl ?_
  unfold f_L_truncateInput at h
  refine A_aload_n X dL_truncateInput_0 2 rfl ?_
  refine A_iconst (v := 0) X dL_truncateInput_1 (by decide) ?_
  refine A_aload_n X dL_truncateInput_2 0 rfl ?_
  refine A_iload_n X dL_truncateInput_3 1 rfl ?_
  rcases hbd_o h with ⟨C9, hc9, h⟩ | ⟨t1, hct1, h⟩
  · refine A_cX (k' := 1) (n' := 6) rfl rfl (A_runVX (rest := [.int 0, .ref o]) X dL_truncateInput_4 (c_X10_truncateInput g0 g22  hc9) kY_X10_truncateInput kw_919 g0 rfl rfl ⟨(Nat.le_of_ble_eq_true rfl), (Nat.le_of_ble_eq_true rfl), (Nat.le_of_ble_eq_true rfl), (Nat.le_of_ble_eq_true rfl)⟩ rfl (Nat.le_of_ble_eq_true rfl)) (fun C hp1 hP => ?_) (fun v hp1 al1 hP => by obtain ⟨u, hu, _⟩ := hP; cases hu)
    obtain ⟨hC, rfl⟩ := hP
    cases hC
    rcases ite_o h with ⟨rfl, h⟩ | h
    · refine A_catch (name := "java/lang/IllegalArgumentException") (Lc := []) (stc := []) X [] ⟨0, 9, 12, 19⟩ [] (htb.trans rfl) (fun z hz => nomatch hz) (by decide) (by decide) kw_918 kw_928 (fun q9 => ?_)
      refine A_astore_n (L' := [(3, .ref q9), (0, .ref x), (1, .int a1), (2, .ref o)]) X dL_truncateInput_12 rfl (by decide) rfl ?_
      refine A_iconst (v := 1) X dL_truncateInput_13 (by decide) ?_
      cases h
      exact A_iretX X dL_truncateInput_14 hr ⟨rfl, g22, g39, (fun q z0 z1 => rfl), rfl⟩ (Nat.le_of_ble_eq_true rfl) (Nat.le_of_ble_eq_true rfl)
    cases h
  refine A_cX (k' := 1) (n' := 6) rfl rfl (A_runVX (rest := [.int 0, .ref o]) X dL_truncateInput_4 (c_X10_truncateInput g0 g22  hct1) kY_X10_truncateInput kw_919 g0 rfl rfl ⟨(Nat.le_of_ble_eq_true rfl), (Nat.le_of_ble_eq_true rfl), (Nat.le_of_ble_eq_true rfl), (Nat.le_of_ble_eq_true rfl)⟩ rfl (Nat.le_of_ble_eq_true rfl)) (fun C hp1 hP => by obtain ⟨hC, _⟩ := hP; cases hC) (fun v9 hp1 al9 hP => ?_)
  obtain ⟨u9, hu9, rfl, k1_0, n1, rfl⟩ := hP
  cases hu9
  replace k1_0 : hp1 (x + 126) = some (.inr (8, [.ref (x + 127), .int t1.2])) := k1_0
  refine A_st (st' := [.int t1.1, .int 0, .ref o]) rfl ?_
  refine A_i2l X dL_truncateInput_7 ?_
  refine A_last X dL_truncateInput_8 ((n1 _ (by omega)).trans g39) (by decide) (fun hp2 (k2 : hp2 o = some (.inl (kC E 1, 1, .inr (.inl (vp_updL ov (Int32.toNatClampNeg 0) t1.1.toInt64))))) n2 => ?_)
  refine A_goto (tgt := 15) X dL_truncateInput_9 (by decide) ?_
  refine A_iconst (v := 0) X dL_truncateInput_15 (by decide) ?_
  cases h
  exact A_iretX X dL_truncateInput_16 hr ⟨rfl, ((n2 _ (by omega)).trans k1_0), k2, (fun q z0 z1 => ((n2 q z1).trans (n1 q z0))), rfl⟩ (Nat.le_of_ble_eq_true rfl) (Nat.le_of_ble_eq_true rfl)
abbrev P_L_load (E : KE) (x : Nat) (o : Nat) (v : Nat)  (hp : Hp) (al : Option Nat) (out : Int32 × Int32 × Int32 × Int32 × Int32 × (Nat → Int32) × (Nat → Int32) × Int32 × (Nat → Int32) × (Nat → Int32) × Int32 × (Nat → Int32) × (Nat → Int32) × Int32 × (Nat → Int32) × (Nat → Int32) × Int32 × Int32 × Int32 × Int32 × Int32 × Int32 × Int32 × Int32 × Int32 × (Nat → Int32) × (Nat → Int32) × Int32 × (Nat → Int32) × (Nat → Int32) × Int32 × (Nat → Int32) × (Nat → Int32) × Int32 × (Nat → Int32) × (Nat → Int32) × Int32 × Int32 × Int32 × Int32 × (Nat → Int64) × Int32 × Int32 × Int32 × Int32 × (Nat → Int32) × (Nat → Int32) × Int32 × (Nat → Int32) × (Nat → Int32) × Int32 × (Nat → Int32) × (Nat → Int32) × Int32 × (Nat → Int32) × (Nat → Int32)) : Option Value → Hp → Option Nat → Prop := fun v0 hp' al' => v0 = some (.int out.1) ∧ hp' (x + 3) = some (.inr (2, [.ref (x + 4), .ref (x + 7), .ref (x + 10), .ref (x + 13), .int out.2.1, .int out.2.2.1, .int out.2.2.2.1])) ∧ hp' (x + 4) = some (.inr (0, [.ref (x + 5), .ref (x + 6), .int out.2.2.2.2.1])) ∧ hp' (x + 5) = some (.inl (kC E 0, 6, .inl out.2.2.2.2.2.1)) ∧ hp' (x + 6) = some (.inl (kC E 0, 72, .inl out.2.2.2.2.2.2.1)) ∧ hp' (x + 7) = some (.inr (7, [.ref (x + 8), .ref (x + 9), .int out.2.2.2.2.2.2.2.1])) ∧ hp' (x + 8) = some (.inl (kC E 0, 6, .inl out.2.2.2.2.2.2.2.2.1)) ∧ hp' (x + 9) = some (.inl (kC E 0, 24, .inl out.2.2.2.2.2.2.2.2.2.1)) ∧ hp' (x + 10) = some (.inr (4, [.ref (x + 11), .ref (x + 12), .int out.2.2.2.2.2.2.2.2.2.2.1])) ∧ hp' (x + 11) = some (.inl (kC E 0, 300, .inl out.2.2.2.2.2.2.2.2.2.2.2.1)) ∧ hp' (x + 12) = some (.inl (kC E 0, 432, .inl out.2.2.2.2.2.2.2.2.2.2.2.2.1)) ∧ hp' (x + 13) = some (.inr (6, [.ref (x + 14), .ref (x + 15), .int out.2.2.2.2.2.2.2.2.2.2.2.2.2.1])) ∧ hp' (x + 14) = some (.inl (kC E 0, 36, .inl out.2.2.2.2.2.2.2.2.2.2.2.2.2.2.1)) ∧ hp' (x + 15) = some (.inl (kC E 0, 36, .inl out.2.2.2.2.2.2.2.2.2.2.2.2.2.2.2.1)) ∧ hp' (x + 18) = some (.inr (3, [.ref (x + 19), .int out.2.2.2.2.2.2.2.2.2.2.2.2.2.2.2.2.1, .int out.2.2.2.2.2.2.2.2.2.2.2.2.2.2.2.2.2.1])) ∧ hp' (x + 126) = some (.inr (8, [.ref (x + 127), .int out.2.2.2.2.2.2.2.2.2.2.2.2.2.2.2.2.2.2.1])) ∧ hp' (x + 128) = some (.inr (5, [.ref (x + 126), .ref (x + 142), .ref (x + 129), .int out.2.2.2.2.2.2.2.2.2.2.2.2.2.2.2.2.2.2.2.1, .int out.2.2.2.2.2.2.2.2.2.2.2.2.2.2.2.2.2.2.2.2.1])) ∧ hp' (x + 129) = some (.inr (2, [.ref (x + 130), .ref (x + 133), .ref (x + 136), .ref (x + 139), .int out.2.2.2.2.2.2.2.2.2.2.2.2.2.2.2.2.2.2.2.2.2.1, .int out.2.2.2.2.2.2.2.2.2.2.2.2.2.2.2.2.2.2.2.2.2.2.1, .int out.2.2.2.2.2.2.2.2.2.2.2.2.2.2.2.2.2.2.2.2.2.2.2.1])) ∧ hp' (x + 130) = some (.inr (0, [.ref (x + 131), .ref (x + 132), .int out.2.2.2.2.2.2.2.2.2.2.2.2.2.2.2.2.2.2.2.2.2.2.2.2.1])) ∧ hp' (x + 131) = some (.inl (kC E 0, 6, .inl out.2.2.2.2.2.2.2.2.2.2.2.2.2.2.2.2.2.2.2.2.2.2.2.2.2.1)) ∧ hp' (x + 132) = some (.inl (kC E 0, 72, .inl out.2.2.2.2.2.2.2.2.2.2.2.2.2.2.2.2.2.2.2.2.2.2.2.2.2.2.1)) ∧ hp' (x + 133) = some (.inr (7, [.ref (x + 134), .ref (x + 135), .int out.2.2.2.2.2.2.2.2.2.2.2.2.2.2.2.2.2.2.2.2.2.2.2.2.2.2.2.1])) ∧ hp' (x + 134) = some (.inl (kC E 0, 6, .inl out.2.2.2.2.2.2.2.2.2.2.2.2.2.2.2.2.2.2.2.2.2.2.2.2.2.2.2.2.1)) ∧ hp' (x + 135) = some (.inl (kC E 0, 24, .inl out.2.2.2.2.2.2.2.2.2.2.2.2.2.2.2.2.2.2.2.2.2.2.2.2.2.2.2.2.2.1)) ∧ hp' (x + 136) = some (.inr (4, [.ref (x + 137), .ref (x + 138), .int out.2.2.2.2.2.2.2.2.2.2.2.2.2.2.2.2.2.2.2.2.2.2.2.2.2.2.2.2.2.2.1])) ∧ hp' (x + 137) = some (.inl (kC E 0, 300, .inl out.2.2.2.2.2.2.2.2.2.2.2.2.2.2.2.2.2.2.2.2.2.2.2.2.2.2.2.2.2.2.2.1)) ∧ hp' (x + 138) = some (.inl (kC E 0, 432, .inl out.2.2.2.2.2.2.2.2.2.2.2.2.2.2.2.2.2.2.2.2.2.2.2.2.2.2.2.2.2.2.2.2.1)) ∧ hp' (x + 139) = some (.inr (6, [.ref (x + 140), .ref (x + 141), .int out.2.2.2.2.2.2.2.2.2.2.2.2.2.2.2.2.2.2.2.2.2.2.2.2.2.2.2.2.2.2.2.2.2.1])) ∧ hp' (x + 140) = some (.inl (kC E 0, 36, .inl out.2.2.2.2.2.2.2.2.2.2.2.2.2.2.2.2.2.2.2.2.2.2.2.2.2.2.2.2.2.2.2.2.2.2.1)) ∧ hp' (x + 141) = some (.inl (kC E 0, 36, .inl out.2.2.2.2.2.2.2.2.2.2.2.2.2.2.2.2.2.2.2.2.2.2.2.2.2.2.2.2.2.2.2.2.2.2.2.1)) ∧ hp' (x + 142) = some (.inr (9, [.ref (x + 126), .int out.2.2.2.2.2.2.2.2.2.2.2.2.2.2.2.2.2.2.2.2.2.2.2.2.2.2.2.2.2.2.2.2.2.2.2.2.1, .int out.2.2.2.2.2.2.2.2.2.2.2.2.2.2.2.2.2.2.2.2.2.2.2.2.2.2.2.2.2.2.2.2.2.2.2.2.2.1, .int out.2.2.2.2.2.2.2.2.2.2.2.2.2.2.2.2.2.2.2.2.2.2.2.2.2.2.2.2.2.2.2.2.2.2.2.2.2.2.1, .int out.2.2.2.2.2.2.2.2.2.2.2.2.2.2.2.2.2.2.2.2.2.2.2.2.2.2.2.2.2.2.2.2.2.2.2.2.2.2.2.1])) ∧ hp' o = some (.inl (kC E 1, 1, .inr (.inl out.2.2.2.2.2.2.2.2.2.2.2.2.2.2.2.2.2.2.2.2.2.2.2.2.2.2.2.2.2.2.2.2.2.2.2.2.2.2.2.2.1))) ∧ hp' v = some (.inr (2, [.ref (v + 1), .ref (v + 4), .ref (v + 7), .ref (v + 10), .int out.2.2.2.2.2.2.2.2.2.2.2.2.2.2.2.2.2.2.2.2.2.2.2.2.2.2.2.2.2.2.2.2.2.2.2.2.2.2.2.2.2.1, .int out.2.2.2.2.2.2.2.2.2.2.2.2.2.2.2.2.2.2.2.2.2.2.2.2.2.2.2.2.2.2.2.2.2.2.2.2.2.2.2.2.2.2.1, .int out.2.2.2.2.2.2.2.2.2.2.2.2.2.2.2.2.2.2.2.2.2.2.2.2.2.2.2.2.2.2.2.2.2.2.2.2.2.2.2.2.2.2.2.1])) ∧ hp' (v + 1) = some (.inr (0, [.ref (v + 2), .ref (v + 3), .int out.2.2.2.2.2.2.2.2.2.2.2.2.2.2.2.2.2.2.2.2.2.2.2.2.2.2.2.2.2.2.2.2.2.2.2.2.2.2.2.2.2.2.2.2.1])) ∧ hp' (v + 2) = some (.inl (kC E 0, 6, .inl out.2.2.2.2.2.2.2.2.2.2.2.2.2.2.2.2.2.2.2.2.2.2.2.2.2.2.2.2.2.2.2.2.2.2.2.2.2.2.2.2.2.2.2.2.2.1)) ∧ hp' (v + 3) = some (.inl (kC E 0, 72, .inl out.2.2.2.2.2.2.2.2.2.2.2.2.2.2.2.2.2.2.2.2.2.2.2.2.2.2.2.2.2.2.2.2.2.2.2.2.2.2.2.2.2.2.2.2.2.2.1)) ∧ hp' (v + 4) = some (.inr (7, [.ref (v + 5), .ref (v + 6), .int out.2.2.2.2.2.2.2.2.2.2.2.2.2.2.2.2.2.2.2.2.2.2.2.2.2.2.2.2.2.2.2.2.2.2.2.2.2.2.2.2.2.2.2.2.2.2.2.1])) ∧ hp' (v + 5) = some (.inl (kC E 0, 6, .inl out.2.2.2.2.2.2.2.2.2.2.2.2.2.2.2.2.2.2.2.2.2.2.2.2.2.2.2.2.2.2.2.2.2.2.2.2.2.2.2.2.2.2.2.2.2.2.2.2.1)) ∧ hp' (v + 6) = some (.inl (kC E 0, 24, .inl out.2.2.2.2.2.2.2.2.2.2.2.2.2.2.2.2.2.2.2.2.2.2.2.2.2.2.2.2.2.2.2.2.2.2.2.2.2.2.2.2.2.2.2.2.2.2.2.2.2.1)) ∧ hp' (v + 7) = some (.inr (4, [.ref (v + 8), .ref (v + 9), .int out.2.2.2.2.2.2.2.2.2.2.2.2.2.2.2.2.2.2.2.2.2.2.2.2.2.2.2.2.2.2.2.2.2.2.2.2.2.2.2.2.2.2.2.2.2.2.2.2.2.2.1])) ∧ hp' (v + 8) = some (.inl (kC E 0, 300, .inl out.2.2.2.2.2.2.2.2.2.2.2.2.2.2.2.2.2.2.2.2.2.2.2.2.2.2.2.2.2.2.2.2.2.2.2.2.2.2.2.2.2.2.2.2.2.2.2.2.2.2.2.1)) ∧ hp' (v + 9) = some (.inl (kC E 0, 432, .inl out.2.2.2.2.2.2.2.2.2.2.2.2.2.2.2.2.2.2.2.2.2.2.2.2.2.2.2.2.2.2.2.2.2.2.2.2.2.2.2.2.2.2.2.2.2.2.2.2.2.2.2.2.1)) ∧ hp' (v + 10) = some (.inr (6, [.ref (v + 11), .ref (v + 12), .int out.2.2.2.2.2.2.2.2.2.2.2.2.2.2.2.2.2.2.2.2.2.2.2.2.2.2.2.2.2.2.2.2.2.2.2.2.2.2.2.2.2.2.2.2.2.2.2.2.2.2.2.2.2.1])) ∧ hp' (v + 11) = some (.inl (kC E 0, 36, .inl out.2.2.2.2.2.2.2.2.2.2.2.2.2.2.2.2.2.2.2.2.2.2.2.2.2.2.2.2.2.2.2.2.2.2.2.2.2.2.2.2.2.2.2.2.2.2.2.2.2.2.2.2.2.2.1)) ∧ hp' (v + 12) = some (.inl (kC E 0, 36, .inl out.2.2.2.2.2.2.2.2.2.2.2.2.2.2.2.2.2.2.2.2.2.2.2.2.2.2.2.2.2.2.2.2.2.2.2.2.2.2.2.2.2.2.2.2.2.2.2.2.2.2.2.2.2.2.2)) ∧ (∀ q, q ≠ (x + 3) → q ≠ (x + 4) → q ≠ (x + 5) → q ≠ (x + 6) → q ≠ (x + 7) → q ≠ (x + 8) → q ≠ (x + 9) → q ≠ (x + 10) → q ≠ (x + 11) → q ≠ (x + 12) → q ≠ (x + 13) → q ≠ (x + 14) → q ≠ (x + 15) → q ≠ (x + 18) → q ≠ (x + 126) → q ≠ (x + 128) → q ≠ (x + 129) → q ≠ (x + 130) → q ≠ (x + 131) → q ≠ (x + 132) → q ≠ (x + 133) → q ≠ (x + 134) → q ≠ (x + 135) → q ≠ (x + 136) → q ≠ (x + 137) → q ≠ (x + 138) → q ≠ (x + 139) → q ≠ (x + 140) → q ≠ (x + 141) → q ≠ (x + 142) → q ≠ o → q ≠ v → q ≠ (v + 1) → q ≠ (v + 2) → q ≠ (v + 3) → q ≠ (v + 4) → q ≠ (v + 5) → q ≠ (v + 6) → q ≠ (v + 7) → q ≠ (v + 8) → q ≠ (v + 9) → q ≠ (v + 10) → q ≠ (v + 11) → q ≠ (v + 12) → hp' q = hp q) ∧ al = al'
set_option maxHeartbeats 4000000 in
set_option maxRecDepth 100000 in
theorem c_L_load {E : KE} {l : Launch} {hp : Hp} {N : Nat} {x : Nat} {o : Nat} {v : Nat} {sd : Int32} {mn : Int32} {th : Int32} {dc : Int32} {fc : Nat → Int32} {dw : Nat → Int32} {pc : Int32} {ln : Nat → Int32} {lt : Nat → Int32} {tc : Int32} {en : Nat → Int32} {fr : Nat → Int32} {oc : Int32} {op : Nat → Int32} {os : Nat → Int32} {nx : Int32} {dp : Int32} {rws : Nat → Option Nat} {itl : Int32} {itb : Nat → Int32} {ec : Int32} {eo : Int32} {d_sd : Int32} {d_mn : Int32} {d_th : Int32} {d_dc : Int32} {d_fc : Nat → Int32} {d_dw : Nat → Int32} {d_pc : Int32} {d_ln : Nat → Int32} {d_lt : Nat → Int32} {d_tc : Int32} {d_en : Nat → Int32} {d_fr : Nat → Int32} {d_oc : Int32} {d_op : Nat → Int32} {d_os : Nat → Int32} {kd : Int32} {ts : Int32} {te : Int32} {tv : Int32} {ov : Nat → Int64} {v_sd : Int32} {v_mn : Int32} {v_th : Int32} {v_dc : Int32} {v_fc : Nat → Int32} {v_dw : Nat → Int32} {v_pc : Int32} {v_ln : Nat → Int32} {v_lt : Nat → Int32} {v_tc : Int32} {v_en : Nat → Int32} {v_fr : Nat → Int32} {v_oc : Int32} {v_op : Nat → Int32} {v_os : Nat → Int32}  {out : Int32 × Int32 × Int32 × Int32 × Int32 × (Nat → Int32) × (Nat → Int32) × Int32 × (Nat → Int32) × (Nat → Int32) × Int32 × (Nat → Int32) × (Nat → Int32) × Int32 × (Nat → Int32) × (Nat → Int32) × Int32 × Int32 × Int32 × Int32 × Int32 × Int32 × Int32 × Int32 × Int32 × (Nat → Int32) × (Nat → Int32) × Int32 × (Nat → Int32) × (Nat → Int32) × Int32 × (Nat → Int32) × (Nat → Int32) × Int32 × (Nat → Int32) × (Nat → Int32) × Int32 × Int32 × Int32 × Int32 × (Nat → Int64) × Int32 × Int32 × Int32 × Int32 × (Nat → Int32) × (Nat → Int32) × Int32 × (Nat → Int32) × (Nat → Int32) × Int32 × (Nat → Int32) × (Nat → Int32) × Int32 × (Nat → Int32) × (Nat → Int32)} (g0 : hp x = some (.inr (10, [.ref (x + 126), .ref (x + 128), .ref (x + 1), .ref (x + 3), .ref (x + 16), .ref (x + 18), .ref (x + 124), .ref (x + 125)]))) (g3 : hp (x + 3) = some (.inr (2, [.ref (x + 4), .ref (x + 7), .ref (x + 10), .ref (x + 13), .int sd, .int mn, .int th]))) (g4 : hp (x + 4) = some (.inr (0, [.ref (x + 5), .ref (x + 6), .int dc]))) (g5 : hp (x + 5) = some (.inl (kC E 0, 6, .inl fc))) (g6 : hp (x + 6) = some (.inl (kC E 0, 72, .inl dw))) (g7 : hp (x + 7) = some (.inr (7, [.ref (x + 8), .ref (x + 9), .int pc]))) (g8 : hp (x + 8) = some (.inl (kC E 0, 6, .inl ln))) (g9 : hp (x + 9) = some (.inl (kC E 0, 24, .inl lt))) (g10 : hp (x + 10) = some (.inr (4, [.ref (x + 11), .ref (x + 12), .int tc]))) (g11 : hp (x + 11) = some (.inl (kC E 0, 300, .inl en))) (g12 : hp (x + 12) = some (.inl (kC E 0, 432, .inl fr))) (g13 : hp (x + 13) = some (.inr (6, [.ref (x + 14), .ref (x + 15), .int oc]))) (g14 : hp (x + 14) = some (.inl (kC E 0, 36, .inl op))) (g15 : hp (x + 15) = some (.inl (kC E 0, 36, .inl os))) (g18 : hp (x + 18) = some (.inr (3, [.ref (x + 19), .int nx, .int dp]))) (g19 : hp (x + 19) = some (.inl (kC E 5, 8, .inr (.inr (.inr (.inr rws)))))) (g22 : hp (x + 126) = some (.inr (8, [.ref (x + 127), .int itl]))) (g23 : hp (x + 127) = some (.inl (kC E 0, 900, .inl itb))) (g24 : hp (x + 128) = some (.inr (5, [.ref (x + 126), .ref (x + 142), .ref (x + 129), .int ec, .int eo]))) (g25 : hp (x + 129) = some (.inr (2, [.ref (x + 130), .ref (x + 133), .ref (x + 136), .ref (x + 139), .int d_sd, .int d_mn, .int d_th]))) (g26 : hp (x + 130) = some (.inr (0, [.ref (x + 131), .ref (x + 132), .int d_dc]))) (g27 : hp (x + 131) = some (.inl (kC E 0, 6, .inl d_fc))) (g28 : hp (x + 132) = some (.inl (kC E 0, 72, .inl d_dw))) (g29 : hp (x + 133) = some (.inr (7, [.ref (x + 134), .ref (x + 135), .int d_pc]))) (g30 : hp (x + 134) = some (.inl (kC E 0, 6, .inl d_ln))) (g31 : hp (x + 135) = some (.inl (kC E 0, 24, .inl d_lt))) (g32 : hp (x + 136) = some (.inr (4, [.ref (x + 137), .ref (x + 138), .int d_tc]))) (g33 : hp (x + 137) = some (.inl (kC E 0, 300, .inl d_en))) (g34 : hp (x + 138) = some (.inl (kC E 0, 432, .inl d_fr))) (g35 : hp (x + 139) = some (.inr (6, [.ref (x + 140), .ref (x + 141), .int d_oc]))) (g36 : hp (x + 140) = some (.inl (kC E 0, 36, .inl d_op))) (g37 : hp (x + 141) = some (.inl (kC E 0, 36, .inl d_os))) (g38 : hp (x + 142) = some (.inr (9, [.ref (x + 126), .int kd, .int ts, .int te, .int tv]))) (g39 : hp o = some (.inl (kC E 1, 1, .inr (.inl ov)))) (g40 : hp v = some (.inr (2, [.ref (v + 1), .ref (v + 4), .ref (v + 7), .ref (v + 10), .int v_sd, .int v_mn, .int v_th]))) (g41 : hp (v + 1) = some (.inr (0, [.ref (v + 2), .ref (v + 3), .int v_dc]))) (g42 : hp (v + 2) = some (.inl (kC E 0, 6, .inl v_fc))) (g43 : hp (v + 3) = some (.inl (kC E 0, 72, .inl v_dw))) (g44 : hp (v + 4) = some (.inr (7, [.ref (v + 5), .ref (v + 6), .int v_pc]))) (g45 : hp (v + 5) = some (.inl (kC E 0, 6, .inl v_ln))) (g46 : hp (v + 6) = some (.inl (kC E 0, 24, .inl v_lt))) (g47 : hp (v + 7) = some (.inr (4, [.ref (v + 8), .ref (v + 9), .int v_tc]))) (g48 : hp (v + 8) = some (.inl (kC E 0, 300, .inl v_en))) (g49 : hp (v + 9) = some (.inl (kC E 0, 432, .inl v_fr))) (g50 : hp (v + 10) = some (.inr (6, [.ref (v + 11), .ref (v + 12), .int v_oc]))) (g51 : hp (v + 11) = some (.inl (kC E 0, 36, .inl v_op))) (g52 : hp (v + 12) = some (.inl (kC E 0, 36, .inl v_os))) (hvv : rws (Int32.toNatClampNeg nx) = some v) (hlv : (x + 20) ≤ v) (huv : (v + 13) ≤ (x + 124)) (hz3 : (x + 143) ≤ o ∨ (o + 1) ≤ x) (hz4 : (o + 1) ≤ v ∨ (v + 13) ≤ o) (h : f_L_load N itb sd mn th dc fc dw pc ln lt tc en fr oc op os nx dp itl ec eo d_sd d_mn d_th d_dc d_fc d_dw d_pc d_ln d_lt d_tc d_en d_fr d_oc d_op d_os kd ts te tv ov v_sd v_mn v_th v_dc v_fc v_dw v_pc v_ln v_lt v_tc v_en v_fr v_oc v_op v_os = some out) : AH E l yL_load cL_load 3 (Option.some Jvm.ClassFile.FieldType.int) [((0 : Nat), (8 : Nat), (11 : Nat), (19 : Nat))] ⟨8, 1, 6, 183⟩ [.ref x, .ref o] hp none (P_L_load E x o v hp none out) := by
  refine A_ofH (by decide +kernel) (Nat.le_of_ble_eq_true rfl) ?_
  intro p e s m args below meth c X hr htb
  have X : CX E p l s m args meth c "DiceAuditLaw" cL_load 3 := X
  refine A_L (L' := [(0, .ref x), (1, .ref o)]) rfl ?_
  unfold f_L_load at h
  refine A_aload_n X dL_load_0 1 rfl ?_
  refine A_iconst (v := 0) X dL_load_1 (by decide) ?_
  refine A_aload_n X dL_load_2 0 rfl ?_
  rcases hbdw_o h with ⟨C9, u9, hc9, h⟩ | ⟨t1, hct1, h⟩
  · refine A_cX (k' := 1) (n' := 6) rfl rfl (A_runVX (rest := [.int 0, .ref o]) X dL_load_3 (c_X10_load g0 g3 g4 g5 g6 g7 g8 g9 g10 g11 g12 g13 g14 g15 g18 g19 g22 g23 g24 g25 g26 g27 g28 g29 g30 g31 g32 g33 g34 g35 g36 g37 g38 g40 g41 g42 g43 g44 g45 g46 g47 g48 g49 g50 g51 g52 hvv (by omega) (by omega) hc9) kY_X10_load kw_945 g0 rfl rfl ⟨(Nat.le_of_ble_eq_true rfl), (Nat.le_of_ble_eq_true rfl), (Nat.le_of_ble_eq_true rfl), (Nat.le_of_ble_eq_true rfl)⟩ rfl (Nat.le_of_ble_eq_true rfl)) (fun C hp1 hP => ?_) (fun v hp1 al1 hP => by obtain ⟨u, hu, _⟩ := hP; cases hu)
    obtain ⟨u8, hC, k1_0, k1_1, k1_2, k1_3, k1_4, k1_5, k1_6, k1_7, k1_8, k1_9, k1_10, k1_11, k1_12, k1_13, k1_14, k1_15, k1_16, k1_17, k1_18, k1_19, k1_20, k1_21, k1_22, k1_23, k1_24, k1_25, k1_26, k1_27, k1_28, k1_29, k1_30, k1_31, k1_32, k1_33, k1_34, k1_35, k1_36, k1_37, k1_38, k1_39, k1_40, k1_41, k1_42, n1⟩ := hP
    obtain ⟨rfl, rfl⟩ : C9 = C ∧ u9 = u8 := by cases hC; exact ⟨rfl, rfl⟩
    replace k1_0 : hp1 (x + 3) = some (.inr (2, [.ref (x + 4), .ref (x + 7), .ref (x + 10), .ref (x + 13), .int u9.1, .int u9.2.1, .int u9.2.2.1])) := k1_0
    replace k1_1 : hp1 (x + 4) = some (.inr (0, [.ref (x + 5), .ref (x + 6), .int u9.2.2.2.1])) := k1_1
    replace k1_2 : hp1 (x + 5) = some (.inl (kC E 0, 6, .inl u9.2.2.2.2.1)) := k1_2
    replace k1_3 : hp1 (x + 6) = some (.inl (kC E 0, 72, .inl u9.2.2.2.2.2.1)) := k1_3
    replace k1_4 : hp1 (x + 7) = some (.inr (7, [.ref (x + 8), .ref (x + 9), .int u9.2.2.2.2.2.2.1])) := k1_4
    replace k1_5 : hp1 (x + 8) = some (.inl (kC E 0, 6, .inl u9.2.2.2.2.2.2.2.1)) := k1_5
    replace k1_6 : hp1 (x + 9) = some (.inl (kC E 0, 24, .inl u9.2.2.2.2.2.2.2.2.1)) := k1_6
    replace k1_7 : hp1 (x + 10) = some (.inr (4, [.ref (x + 11), .ref (x + 12), .int u9.2.2.2.2.2.2.2.2.2.1])) := k1_7
    replace k1_8 : hp1 (x + 11) = some (.inl (kC E 0, 300, .inl u9.2.2.2.2.2.2.2.2.2.2.1)) := k1_8
    replace k1_9 : hp1 (x + 12) = some (.inl (kC E 0, 432, .inl u9.2.2.2.2.2.2.2.2.2.2.2.1)) := k1_9
    replace k1_10 : hp1 (x + 13) = some (.inr (6, [.ref (x + 14), .ref (x + 15), .int u9.2.2.2.2.2.2.2.2.2.2.2.2.1])) := k1_10
    replace k1_11 : hp1 (x + 14) = some (.inl (kC E 0, 36, .inl u9.2.2.2.2.2.2.2.2.2.2.2.2.2.1)) := k1_11
    replace k1_12 : hp1 (x + 15) = some (.inl (kC E 0, 36, .inl u9.2.2.2.2.2.2.2.2.2.2.2.2.2.2.1)) := k1_12
    replace k1_13 : hp1 (x + 18) = some (.inr (3, [.ref (x + 19), .int u9.2.2.2.2.2.2.2.2.2.2.2.2.2.2.2.1, .int u9.2.2.2.2.2.2.2.2.2.2.2.2.2.2.2.2.1])) := k1_13
    replace k1_14 : hp1 (x + 126) = some (.inr (8, [.ref (x + 127), .int u9.2.2.2.2.2.2.2.2.2.2.2.2.2.2.2.2.2.1])) := k1_14
    replace k1_15 : hp1 (x + 128) = some (.inr (5, [.ref (x + 126), .ref (x + 142), .ref (x + 129), .int u9.2.2.2.2.2.2.2.2.2.2.2.2.2.2.2.2.2.2.1, .int u9.2.2.2.2.2.2.2.2.2.2.2.2.2.2.2.2.2.2.2.1])) := k1_15
    replace k1_16 : hp1 (x + 129) = some (.inr (2, [.ref (x + 130), .ref (x + 133), .ref (x + 136), .ref (x + 139), .int u9.2.2.2.2.2.2.2.2.2.2.2.2.2.2.2.2.2.2.2.2.1, .int u9.2.2.2.2.2.2.2.2.2.2.2.2.2.2.2.2.2.2.2.2.2.1, .int u9.2.2.2.2.2.2.2.2.2.2.2.2.2.2.2.2.2.2.2.2.2.2.1])) := k1_16
    replace k1_17 : hp1 (x + 130) = some (.inr (0, [.ref (x + 131), .ref (x + 132), .int u9.2.2.2.2.2.2.2.2.2.2.2.2.2.2.2.2.2.2.2.2.2.2.2.1])) := k1_17
    replace k1_18 : hp1 (x + 131) = some (.inl (kC E 0, 6, .inl u9.2.2.2.2.2.2.2.2.2.2.2.2.2.2.2.2.2.2.2.2.2.2.2.2.1)) := k1_18
    replace k1_19 : hp1 (x + 132) = some (.inl (kC E 0, 72, .inl u9.2.2.2.2.2.2.2.2.2.2.2.2.2.2.2.2.2.2.2.2.2.2.2.2.2.1)) := k1_19
    replace k1_20 : hp1 (x + 133) = some (.inr (7, [.ref (x + 134), .ref (x + 135), .int u9.2.2.2.2.2.2.2.2.2.2.2.2.2.2.2.2.2.2.2.2.2.2.2.2.2.2.1])) := k1_20
    replace k1_21 : hp1 (x + 134) = some (.inl (kC E 0, 6, .inl u9.2.2.2.2.2.2.2.2.2.2.2.2.2.2.2.2.2.2.2.2.2.2.2.2.2.2.2.1)) := k1_21
    replace k1_22 : hp1 (x + 135) = some (.inl (kC E 0, 24, .inl u9.2.2.2.2.2.2.2.2.2.2.2.2.2.2.2.2.2.2.2.2.2.2.2.2.2.2.2.2.1)) := k1_22
    replace k1_23 : hp1 (x + 136) = some (.inr (4, [.ref (x + 137), .ref (x + 138), .int u9.2.2.2.2.2.2.2.2.2.2.2.2.2.2.2.2.2.2.2.2.2.2.2.2.2.2.2.2.2.1])) := k1_23
    replace k1_24 : hp1 (x + 137) = some (.inl (kC E 0, 300, .inl u9.2.2.2.2.2.2.2.2.2.2.2.2.2.2.2.2.2.2.2.2.2.2.2.2.2.2.2.2.2.2.1)) := k1_24
    replace k1_25 : hp1 (x + 138) = some (.inl (kC E 0, 432, .inl u9.2.2.2.2.2.2.2.2.2.2.2.2.2.2.2.2.2.2.2.2.2.2.2.2.2.2.2.2.2.2.2.1)) := k1_25
    replace k1_26 : hp1 (x + 139) = some (.inr (6, [.ref (x + 140), .ref (x + 141), .int u9.2.2.2.2.2.2.2.2.2.2.2.2.2.2.2.2.2.2.2.2.2.2.2.2.2.2.2.2.2.2.2.2.1])) := k1_26
    replace k1_27 : hp1 (x + 140) = some (.inl (kC E 0, 36, .inl u9.2.2.2.2.2.2.2.2.2.2.2.2.2.2.2.2.2.2.2.2.2.2.2.2.2.2.2.2.2.2.2.2.2.1)) := k1_27
    replace k1_28 : hp1 (x + 141) = some (.inl (kC E 0, 36, .inl u9.2.2.2.2.2.2.2.2.2.2.2.2.2.2.2.2.2.2.2.2.2.2.2.2.2.2.2.2.2.2.2.2.2.2.1)) := k1_28
    replace k1_29 : hp1 (x + 142) = some (.inr (9, [.ref (x + 126), .int u9.2.2.2.2.2.2.2.2.2.2.2.2.2.2.2.2.2.2.2.2.2.2.2.2.2.2.2.2.2.2.2.2.2.2.2.1, .int u9.2.2.2.2.2.2.2.2.2.2.2.2.2.2.2.2.2.2.2.2.2.2.2.2.2.2.2.2.2.2.2.2.2.2.2.2.1, .int u9.2.2.2.2.2.2.2.2.2.2.2.2.2.2.2.2.2.2.2.2.2.2.2.2.2.2.2.2.2.2.2.2.2.2.2.2.2.1, .int u9.2.2.2.2.2.2.2.2.2.2.2.2.2.2.2.2.2.2.2.2.2.2.2.2.2.2.2.2.2.2.2.2.2.2.2.2.2.2.1])) := k1_29
    replace k1_30 : hp1 v = some (.inr (2, [.ref (v + 1), .ref (v + 4), .ref (v + 7), .ref (v + 10), .int u9.2.2.2.2.2.2.2.2.2.2.2.2.2.2.2.2.2.2.2.2.2.2.2.2.2.2.2.2.2.2.2.2.2.2.2.2.2.2.2.1, .int u9.2.2.2.2.2.2.2.2.2.2.2.2.2.2.2.2.2.2.2.2.2.2.2.2.2.2.2.2.2.2.2.2.2.2.2.2.2.2.2.2.1, .int u9.2.2.2.2.2.2.2.2.2.2.2.2.2.2.2.2.2.2.2.2.2.2.2.2.2.2.2.2.2.2.2.2.2.2.2.2.2.2.2.2.2.1])) := k1_30
    replace k1_31 : hp1 (v + 1) = some (.inr (0, [.ref (v + 2), .ref (v + 3), .int u9.2.2.2.2.2.2.2.2.2.2.2.2.2.2.2.2.2.2.2.2.2.2.2.2.2.2.2.2.2.2.2.2.2.2.2.2.2.2.2.2.2.2.1])) := k1_31
    replace k1_32 : hp1 (v + 2) = some (.inl (kC E 0, 6, .inl u9.2.2.2.2.2.2.2.2.2.2.2.2.2.2.2.2.2.2.2.2.2.2.2.2.2.2.2.2.2.2.2.2.2.2.2.2.2.2.2.2.2.2.2.1)) := k1_32
    replace k1_33 : hp1 (v + 3) = some (.inl (kC E 0, 72, .inl u9.2.2.2.2.2.2.2.2.2.2.2.2.2.2.2.2.2.2.2.2.2.2.2.2.2.2.2.2.2.2.2.2.2.2.2.2.2.2.2.2.2.2.2.2.1)) := k1_33
    replace k1_34 : hp1 (v + 4) = some (.inr (7, [.ref (v + 5), .ref (v + 6), .int u9.2.2.2.2.2.2.2.2.2.2.2.2.2.2.2.2.2.2.2.2.2.2.2.2.2.2.2.2.2.2.2.2.2.2.2.2.2.2.2.2.2.2.2.2.2.1])) := k1_34
    replace k1_35 : hp1 (v + 5) = some (.inl (kC E 0, 6, .inl u9.2.2.2.2.2.2.2.2.2.2.2.2.2.2.2.2.2.2.2.2.2.2.2.2.2.2.2.2.2.2.2.2.2.2.2.2.2.2.2.2.2.2.2.2.2.2.1)) := k1_35
    replace k1_36 : hp1 (v + 6) = some (.inl (kC E 0, 24, .inl u9.2.2.2.2.2.2.2.2.2.2.2.2.2.2.2.2.2.2.2.2.2.2.2.2.2.2.2.2.2.2.2.2.2.2.2.2.2.2.2.2.2.2.2.2.2.2.2.1)) := k1_36
    replace k1_37 : hp1 (v + 7) = some (.inr (4, [.ref (v + 8), .ref (v + 9), .int u9.2.2.2.2.2.2.2.2.2.2.2.2.2.2.2.2.2.2.2.2.2.2.2.2.2.2.2.2.2.2.2.2.2.2.2.2.2.2.2.2.2.2.2.2.2.2.2.2.1])) := k1_37
    replace k1_38 : hp1 (v + 8) = some (.inl (kC E 0, 300, .inl u9.2.2.2.2.2.2.2.2.2.2.2.2.2.2.2.2.2.2.2.2.2.2.2.2.2.2.2.2.2.2.2.2.2.2.2.2.2.2.2.2.2.2.2.2.2.2.2.2.2.1)) := k1_38
    replace k1_39 : hp1 (v + 9) = some (.inl (kC E 0, 432, .inl u9.2.2.2.2.2.2.2.2.2.2.2.2.2.2.2.2.2.2.2.2.2.2.2.2.2.2.2.2.2.2.2.2.2.2.2.2.2.2.2.2.2.2.2.2.2.2.2.2.2.2.1)) := k1_39
    replace k1_40 : hp1 (v + 10) = some (.inr (6, [.ref (v + 11), .ref (v + 12), .int u9.2.2.2.2.2.2.2.2.2.2.2.2.2.2.2.2.2.2.2.2.2.2.2.2.2.2.2.2.2.2.2.2.2.2.2.2.2.2.2.2.2.2.2.2.2.2.2.2.2.2.2.1])) := k1_40
    replace k1_41 : hp1 (v + 11) = some (.inl (kC E 0, 36, .inl u9.2.2.2.2.2.2.2.2.2.2.2.2.2.2.2.2.2.2.2.2.2.2.2.2.2.2.2.2.2.2.2.2.2.2.2.2.2.2.2.2.2.2.2.2.2.2.2.2.2.2.2.2.1)) := k1_41
    replace k1_42 : hp1 (v + 12) = some (.inl (kC E 0, 36, .inl u9.2.2.2.2.2.2.2.2.2.2.2.2.2.2.2.2.2.2.2.2.2.2.2.2.2.2.2.2.2.2.2.2.2.2.2.2.2.2.2.2.2.2.2.2.2.2.2.2.2.2.2.2.2)) := k1_42
    rcases ite_o h with ⟨rfl, h⟩ | h
    · refine A_catch (name := "java/lang/IllegalArgumentException") (Lc := []) (stc := []) X [] ⟨0, 8, 11, 19⟩ [] (htb.trans rfl) (fun z hz => nomatch hz) (by decide) (by decide) kw_918 kw_928 (fun q9 => ?_)
      refine A_astore_n (L' := [(2, .ref q9), (0, .ref x), (1, .ref o)]) X dL_load_11 rfl (by decide) rfl ?_
      refine A_iconst (v := 1) X dL_load_12 (by decide) ?_
      cases h
      exact A_iretX X dL_load_13 hr ⟨rfl, k1_0, k1_1, k1_2, k1_3, k1_4, k1_5, k1_6, k1_7, k1_8, k1_9, k1_10, k1_11, k1_12, k1_13, k1_14, k1_15, k1_16, k1_17, k1_18, k1_19, k1_20, k1_21, k1_22, k1_23, k1_24, k1_25, k1_26, k1_27, k1_28, k1_29, ((n1 _ (by omega) (by omega) (by omega) (by omega) (by omega) (by omega) (by omega) (by omega) (by omega) (by omega) (by omega) (by omega) (by omega) (by omega) (by omega) (by omega) (by omega) (by omega) (by omega) (by omega) (by omega) (by omega) (by omega) (by omega) (by omega) (by omega) (by omega) (by omega) (by omega) (by omega) (by omega) (by omega) (by omega) (by omega) (by omega) (by omega) (by omega) (by omega) (by omega) (by omega) (by omega) (by omega) (by omega)).trans g39), k1_30, k1_31, k1_32, k1_33, k1_34, k1_35, k1_36, k1_37, k1_38, k1_39, k1_40, k1_41, k1_42, (fun q z0 z1 z2 z3 z4 z5 z6 z7 z8 z9 z10 z11 z12 z13 z14 z15 z16 z17 z18 z19 z20 z21 z22 z23 z24 z25 z26 z27 z28 z29 z30 z31 z32 z33 z34 z35 z36 z37 z38 z39 z40 z41 z42 z43 => (n1 q z0 z1 z2 z3 z4 z5 z6 z7 z8 z9 z10 z11 z12 z13 z14 z15 z16 z17 z18 z19 z20 z21 z22 z23 z24 z25 z26 z27 z28 z29 z31 z32 z33 z34 z35 z36 z37 z38 z39 z40 z41 z42 z43)), rfl⟩ (Nat.le_of_ble_eq_true rfl) (Nat.le_of_ble_eq_true rfl)
    cases h
  refine A_cX (k' := 1) (n' := 6) rfl rfl (A_runVX (rest := [.int 0, .ref o]) X dL_load_3 (c_X10_load g0 g3 g4 g5 g6 g7 g8 g9 g10 g11 g12 g13 g14 g15 g18 g19 g22 g23 g24 g25 g26 g27 g28 g29 g30 g31 g32 g33 g34 g35 g36 g37 g38 g40 g41 g42 g43 g44 g45 g46 g47 g48 g49 g50 g51 g52 hvv (by omega) (by omega) hct1) kY_X10_load kw_945 g0 rfl rfl ⟨(Nat.le_of_ble_eq_true rfl), (Nat.le_of_ble_eq_true rfl), (Nat.le_of_ble_eq_true rfl), (Nat.le_of_ble_eq_true rfl)⟩ rfl (Nat.le_of_ble_eq_true rfl)) (fun C hp1 hP => by obtain ⟨u8, hC, _⟩ := hP; cases hC) (fun v9 hp1 al9 hP => ?_)
  obtain ⟨u9, hu9, rfl, k1_0, k1_1, k1_2, k1_3, k1_4, k1_5, k1_6, k1_7, k1_8, k1_9, k1_10, k1_11, k1_12, k1_13, k1_14, k1_15, k1_16, k1_17, k1_18, k1_19, k1_20, k1_21, k1_22, k1_23, k1_24, k1_25, k1_26, k1_27, k1_28, k1_29, k1_30, k1_31, k1_32, k1_33, k1_34, k1_35, k1_36, k1_37, k1_38, k1_39, k1_40, k1_41, k1_42, n1, rfl⟩ := hP
  cases hu9
  replace k1_0 : hp1 (x + 3) = some (.inr (2, [.ref (x + 4), .ref (x + 7), .ref (x + 10), .ref (x + 13), .int t1.2.1, .int t1.2.2.1, .int t1.2.2.2.1])) := k1_0
  replace k1_1 : hp1 (x + 4) = some (.inr (0, [.ref (x + 5), .ref (x + 6), .int t1.2.2.2.2.1])) := k1_1
  replace k1_2 : hp1 (x + 5) = some (.inl (kC E 0, 6, .inl t1.2.2.2.2.2.1)) := k1_2
  replace k1_3 : hp1 (x + 6) = some (.inl (kC E 0, 72, .inl t1.2.2.2.2.2.2.1)) := k1_3
  replace k1_4 : hp1 (x + 7) = some (.inr (7, [.ref (x + 8), .ref (x + 9), .int t1.2.2.2.2.2.2.2.1])) := k1_4
  replace k1_5 : hp1 (x + 8) = some (.inl (kC E 0, 6, .inl t1.2.2.2.2.2.2.2.2.1)) := k1_5
  replace k1_6 : hp1 (x + 9) = some (.inl (kC E 0, 24, .inl t1.2.2.2.2.2.2.2.2.2.1)) := k1_6
  replace k1_7 : hp1 (x + 10) = some (.inr (4, [.ref (x + 11), .ref (x + 12), .int t1.2.2.2.2.2.2.2.2.2.2.1])) := k1_7
  replace k1_8 : hp1 (x + 11) = some (.inl (kC E 0, 300, .inl t1.2.2.2.2.2.2.2.2.2.2.2.1)) := k1_8
  replace k1_9 : hp1 (x + 12) = some (.inl (kC E 0, 432, .inl t1.2.2.2.2.2.2.2.2.2.2.2.2.1)) := k1_9
  replace k1_10 : hp1 (x + 13) = some (.inr (6, [.ref (x + 14), .ref (x + 15), .int t1.2.2.2.2.2.2.2.2.2.2.2.2.2.1])) := k1_10
  replace k1_11 : hp1 (x + 14) = some (.inl (kC E 0, 36, .inl t1.2.2.2.2.2.2.2.2.2.2.2.2.2.2.1)) := k1_11
  replace k1_12 : hp1 (x + 15) = some (.inl (kC E 0, 36, .inl t1.2.2.2.2.2.2.2.2.2.2.2.2.2.2.2.1)) := k1_12
  replace k1_13 : hp1 (x + 18) = some (.inr (3, [.ref (x + 19), .int t1.2.2.2.2.2.2.2.2.2.2.2.2.2.2.2.2.1, .int t1.2.2.2.2.2.2.2.2.2.2.2.2.2.2.2.2.2.1])) := k1_13
  replace k1_14 : hp1 (x + 126) = some (.inr (8, [.ref (x + 127), .int t1.2.2.2.2.2.2.2.2.2.2.2.2.2.2.2.2.2.2.1])) := k1_14
  replace k1_15 : hp1 (x + 128) = some (.inr (5, [.ref (x + 126), .ref (x + 142), .ref (x + 129), .int t1.2.2.2.2.2.2.2.2.2.2.2.2.2.2.2.2.2.2.2.1, .int t1.2.2.2.2.2.2.2.2.2.2.2.2.2.2.2.2.2.2.2.2.1])) := k1_15
  replace k1_16 : hp1 (x + 129) = some (.inr (2, [.ref (x + 130), .ref (x + 133), .ref (x + 136), .ref (x + 139), .int t1.2.2.2.2.2.2.2.2.2.2.2.2.2.2.2.2.2.2.2.2.2.1, .int t1.2.2.2.2.2.2.2.2.2.2.2.2.2.2.2.2.2.2.2.2.2.2.1, .int t1.2.2.2.2.2.2.2.2.2.2.2.2.2.2.2.2.2.2.2.2.2.2.2.1])) := k1_16
  replace k1_17 : hp1 (x + 130) = some (.inr (0, [.ref (x + 131), .ref (x + 132), .int t1.2.2.2.2.2.2.2.2.2.2.2.2.2.2.2.2.2.2.2.2.2.2.2.2.1])) := k1_17
  replace k1_18 : hp1 (x + 131) = some (.inl (kC E 0, 6, .inl t1.2.2.2.2.2.2.2.2.2.2.2.2.2.2.2.2.2.2.2.2.2.2.2.2.2.1)) := k1_18
  replace k1_19 : hp1 (x + 132) = some (.inl (kC E 0, 72, .inl t1.2.2.2.2.2.2.2.2.2.2.2.2.2.2.2.2.2.2.2.2.2.2.2.2.2.2.1)) := k1_19
  replace k1_20 : hp1 (x + 133) = some (.inr (7, [.ref (x + 134), .ref (x + 135), .int t1.2.2.2.2.2.2.2.2.2.2.2.2.2.2.2.2.2.2.2.2.2.2.2.2.2.2.2.1])) := k1_20
  replace k1_21 : hp1 (x + 134) = some (.inl (kC E 0, 6, .inl t1.2.2.2.2.2.2.2.2.2.2.2.2.2.2.2.2.2.2.2.2.2.2.2.2.2.2.2.2.1)) := k1_21
  replace k1_22 : hp1 (x + 135) = some (.inl (kC E 0, 24, .inl t1.2.2.2.2.2.2.2.2.2.2.2.2.2.2.2.2.2.2.2.2.2.2.2.2.2.2.2.2.2.1)) := k1_22
  replace k1_23 : hp1 (x + 136) = some (.inr (4, [.ref (x + 137), .ref (x + 138), .int t1.2.2.2.2.2.2.2.2.2.2.2.2.2.2.2.2.2.2.2.2.2.2.2.2.2.2.2.2.2.2.1])) := k1_23
  replace k1_24 : hp1 (x + 137) = some (.inl (kC E 0, 300, .inl t1.2.2.2.2.2.2.2.2.2.2.2.2.2.2.2.2.2.2.2.2.2.2.2.2.2.2.2.2.2.2.2.1)) := k1_24
  replace k1_25 : hp1 (x + 138) = some (.inl (kC E 0, 432, .inl t1.2.2.2.2.2.2.2.2.2.2.2.2.2.2.2.2.2.2.2.2.2.2.2.2.2.2.2.2.2.2.2.2.1)) := k1_25
  replace k1_26 : hp1 (x + 139) = some (.inr (6, [.ref (x + 140), .ref (x + 141), .int t1.2.2.2.2.2.2.2.2.2.2.2.2.2.2.2.2.2.2.2.2.2.2.2.2.2.2.2.2.2.2.2.2.2.1])) := k1_26
  replace k1_27 : hp1 (x + 140) = some (.inl (kC E 0, 36, .inl t1.2.2.2.2.2.2.2.2.2.2.2.2.2.2.2.2.2.2.2.2.2.2.2.2.2.2.2.2.2.2.2.2.2.2.1)) := k1_27
  replace k1_28 : hp1 (x + 141) = some (.inl (kC E 0, 36, .inl t1.2.2.2.2.2.2.2.2.2.2.2.2.2.2.2.2.2.2.2.2.2.2.2.2.2.2.2.2.2.2.2.2.2.2.2.1)) := k1_28
  replace k1_29 : hp1 (x + 142) = some (.inr (9, [.ref (x + 126), .int t1.2.2.2.2.2.2.2.2.2.2.2.2.2.2.2.2.2.2.2.2.2.2.2.2.2.2.2.2.2.2.2.2.2.2.2.2.1, .int t1.2.2.2.2.2.2.2.2.2.2.2.2.2.2.2.2.2.2.2.2.2.2.2.2.2.2.2.2.2.2.2.2.2.2.2.2.2.1, .int t1.2.2.2.2.2.2.2.2.2.2.2.2.2.2.2.2.2.2.2.2.2.2.2.2.2.2.2.2.2.2.2.2.2.2.2.2.2.2.1, .int t1.2.2.2.2.2.2.2.2.2.2.2.2.2.2.2.2.2.2.2.2.2.2.2.2.2.2.2.2.2.2.2.2.2.2.2.2.2.2.2.1])) := k1_29
  replace k1_30 : hp1 v = some (.inr (2, [.ref (v + 1), .ref (v + 4), .ref (v + 7), .ref (v + 10), .int t1.2.2.2.2.2.2.2.2.2.2.2.2.2.2.2.2.2.2.2.2.2.2.2.2.2.2.2.2.2.2.2.2.2.2.2.2.2.2.2.2.1, .int t1.2.2.2.2.2.2.2.2.2.2.2.2.2.2.2.2.2.2.2.2.2.2.2.2.2.2.2.2.2.2.2.2.2.2.2.2.2.2.2.2.2.1, .int t1.2.2.2.2.2.2.2.2.2.2.2.2.2.2.2.2.2.2.2.2.2.2.2.2.2.2.2.2.2.2.2.2.2.2.2.2.2.2.2.2.2.2.1])) := k1_30
  replace k1_31 : hp1 (v + 1) = some (.inr (0, [.ref (v + 2), .ref (v + 3), .int t1.2.2.2.2.2.2.2.2.2.2.2.2.2.2.2.2.2.2.2.2.2.2.2.2.2.2.2.2.2.2.2.2.2.2.2.2.2.2.2.2.2.2.2.1])) := k1_31
  replace k1_32 : hp1 (v + 2) = some (.inl (kC E 0, 6, .inl t1.2.2.2.2.2.2.2.2.2.2.2.2.2.2.2.2.2.2.2.2.2.2.2.2.2.2.2.2.2.2.2.2.2.2.2.2.2.2.2.2.2.2.2.2.1)) := k1_32
  replace k1_33 : hp1 (v + 3) = some (.inl (kC E 0, 72, .inl t1.2.2.2.2.2.2.2.2.2.2.2.2.2.2.2.2.2.2.2.2.2.2.2.2.2.2.2.2.2.2.2.2.2.2.2.2.2.2.2.2.2.2.2.2.2.1)) := k1_33
  replace k1_34 : hp1 (v + 4) = some (.inr (7, [.ref (v + 5), .ref (v + 6), .int t1.2.2.2.2.2.2.2.2.2.2.2.2.2.2.2.2.2.2.2.2.2.2.2.2.2.2.2.2.2.2.2.2.2.2.2.2.2.2.2.2.2.2.2.2.2.2.1])) := k1_34
  replace k1_35 : hp1 (v + 5) = some (.inl (kC E 0, 6, .inl t1.2.2.2.2.2.2.2.2.2.2.2.2.2.2.2.2.2.2.2.2.2.2.2.2.2.2.2.2.2.2.2.2.2.2.2.2.2.2.2.2.2.2.2.2.2.2.2.1)) := k1_35
  replace k1_36 : hp1 (v + 6) = some (.inl (kC E 0, 24, .inl t1.2.2.2.2.2.2.2.2.2.2.2.2.2.2.2.2.2.2.2.2.2.2.2.2.2.2.2.2.2.2.2.2.2.2.2.2.2.2.2.2.2.2.2.2.2.2.2.2.1)) := k1_36
  replace k1_37 : hp1 (v + 7) = some (.inr (4, [.ref (v + 8), .ref (v + 9), .int t1.2.2.2.2.2.2.2.2.2.2.2.2.2.2.2.2.2.2.2.2.2.2.2.2.2.2.2.2.2.2.2.2.2.2.2.2.2.2.2.2.2.2.2.2.2.2.2.2.2.1])) := k1_37
  replace k1_38 : hp1 (v + 8) = some (.inl (kC E 0, 300, .inl t1.2.2.2.2.2.2.2.2.2.2.2.2.2.2.2.2.2.2.2.2.2.2.2.2.2.2.2.2.2.2.2.2.2.2.2.2.2.2.2.2.2.2.2.2.2.2.2.2.2.2.1)) := k1_38
  replace k1_39 : hp1 (v + 9) = some (.inl (kC E 0, 432, .inl t1.2.2.2.2.2.2.2.2.2.2.2.2.2.2.2.2.2.2.2.2.2.2.2.2.2.2.2.2.2.2.2.2.2.2.2.2.2.2.2.2.2.2.2.2.2.2.2.2.2.2.2.1)) := k1_39
  replace k1_40 : hp1 (v + 10) = some (.inr (6, [.ref (v + 11), .ref (v + 12), .int t1.2.2.2.2.2.2.2.2.2.2.2.2.2.2.2.2.2.2.2.2.2.2.2.2.2.2.2.2.2.2.2.2.2.2.2.2.2.2.2.2.2.2.2.2.2.2.2.2.2.2.2.2.1])) := k1_40
  replace k1_41 : hp1 (v + 11) = some (.inl (kC E 0, 36, .inl t1.2.2.2.2.2.2.2.2.2.2.2.2.2.2.2.2.2.2.2.2.2.2.2.2.2.2.2.2.2.2.2.2.2.2.2.2.2.2.2.2.2.2.2.2.2.2.2.2.2.2.2.2.2.1)) := k1_41
  replace k1_42 : hp1 (v + 12) = some (.inl (kC E 0, 36, .inl t1.2.2.2.2.2.2.2.2.2.2.2.2.2.2.2.2.2.2.2.2.2.2.2.2.2.2.2.2.2.2.2.2.2.2.2.2.2.2.2.2.2.2.2.2.2.2.2.2.2.2.2.2.2.2)) := k1_42
  refine A_st (st' := [.int t1.1, .int 0, .ref o]) rfl ?_
  refine A_i2l X dL_load_6 ?_
  refine A_last X dL_load_7 ((n1 _ (by omega) (by omega) (by omega) (by omega) (by omega) (by omega) (by omega) (by omega) (by omega) (by omega) (by omega) (by omega) (by omega) (by omega) (by omega) (by omega) (by omega) (by omega) (by omega) (by omega) (by omega) (by omega) (by omega) (by omega) (by omega) (by omega) (by omega) (by omega) (by omega) (by omega) (by omega) (by omega) (by omega) (by omega) (by omega) (by omega) (by omega) (by omega) (by omega) (by omega) (by omega) (by omega) (by omega)).trans g39) (by decide) (fun hp2 (k2 : hp2 o = some (.inl (kC E 1, 1, .inr (.inl (vp_updL ov (Int32.toNatClampNeg 0) t1.1.toInt64))))) n2 => ?_)
  refine A_goto (tgt := 14) X dL_load_8 (by decide) ?_
  refine A_iconst (v := 0) X dL_load_14 (by decide) ?_
  cases h
  exact A_iretX X dL_load_15 hr ⟨rfl, ((n2 _ (by omega)).trans k1_0), ((n2 _ (by omega)).trans k1_1), ((n2 _ (by omega)).trans k1_2), ((n2 _ (by omega)).trans k1_3), ((n2 _ (by omega)).trans k1_4), ((n2 _ (by omega)).trans k1_5), ((n2 _ (by omega)).trans k1_6), ((n2 _ (by omega)).trans k1_7), ((n2 _ (by omega)).trans k1_8), ((n2 _ (by omega)).trans k1_9), ((n2 _ (by omega)).trans k1_10), ((n2 _ (by omega)).trans k1_11), ((n2 _ (by omega)).trans k1_12), ((n2 _ (by omega)).trans k1_13), ((n2 _ (by omega)).trans k1_14), ((n2 _ (by omega)).trans k1_15), ((n2 _ (by omega)).trans k1_16), ((n2 _ (by omega)).trans k1_17), ((n2 _ (by omega)).trans k1_18), ((n2 _ (by omega)).trans k1_19), ((n2 _ (by omega)).trans k1_20), ((n2 _ (by omega)).trans k1_21), ((n2 _ (by omega)).trans k1_22), ((n2 _ (by omega)).trans k1_23), ((n2 _ (by omega)).trans k1_24), ((n2 _ (by omega)).trans k1_25), ((n2 _ (by omega)).trans k1_26), ((n2 _ (by omega)).trans k1_27), ((n2 _ (by omega)).trans k1_28), ((n2 _ (by omega)).trans k1_29), k2, ((n2 _ (by omega)).trans k1_30), ((n2 _ (by omega)).trans k1_31), ((n2 _ (by omega)).trans k1_32), ((n2 _ (by omega)).trans k1_33), ((n2 _ (by omega)).trans k1_34), ((n2 _ (by omega)).trans k1_35), ((n2 _ (by omega)).trans k1_36), ((n2 _ (by omega)).trans k1_37), ((n2 _ (by omega)).trans k1_38), ((n2 _ (by omega)).trans k1_39), ((n2 _ (by omega)).trans k1_40), ((n2 _ (by omega)).trans k1_41), ((n2 _ (by omega)).trans k1_42), (fun q z0 z1 z2 z3 z4 z5 z6 z7 z8 z9 z10 z11 z12 z13 z14 z15 z16 z17 z18 z19 z20 z21 z22 z23 z24 z25 z26 z27 z28 z29 z30 z31 z32 z33 z34 z35 z36 z37 z38 z39 z40 z41 z42 z43 => ((n2 q z30).trans (n1 q z0 z1 z2 z3 z4 z5 z6 z7 z8 z9 z10 z11 z12 z13 z14 z15 z16 z17 z18 z19 z20 z21 z22 z23 z24 z25 z26 z27 z28 z29 z31 z32 z33 z34 z35 z36 z37 z38 z39 z40 z41 z42 z43))), rfl⟩ (Nat.le_of_ble_eq_true rfl) (Nat.le_of_ble_eq_true rfl)
abbrev P_L_faces (E : KE) (x : Nat) (o : Nat)  (hp : Hp) (al : Option Nat) (out : Int32 × (Nat → Int64)) : Option Value → Hp → Option Nat → Prop := fun v0 hp' al' => v0 = some (.int out.1) ∧ hp' o = some (.inl (kC E 1, 1, .inr (.inl out.2))) ∧ (∀ q, q ≠ o → hp' q = hp q) ∧ al = al'
set_option maxHeartbeats 4000000 in
set_option maxRecDepth 100000 in
theorem c_L_faces {E : KE} {l : Launch} {hp : Hp} {x : Nat} {o : Nat} {sd : Int32} {mn : Int32} {th : Int32} {dc : Int32} {fc : Nat → Int32} {ov : Nat → Int64} {a1 : Int32} {out : Int32 × (Nat → Int64)} (g0 : hp x = some (.inr (10, [.ref (x + 126), .ref (x + 128), .ref (x + 1), .ref (x + 3), .ref (x + 16), .ref (x + 18), .ref (x + 124), .ref (x + 125)]))) (g3 : hp (x + 3) = some (.inr (2, [.ref (x + 4), .ref (x + 7), .ref (x + 10), .ref (x + 13), .int sd, .int mn, .int th]))) (g4 : hp (x + 4) = some (.inr (0, [.ref (x + 5), .ref (x + 6), .int dc]))) (g5 : hp (x + 5) = some (.inl (kC E 0, 6, .inl fc))) (g39 : hp o = some (.inl (kC E 1, 1, .inr (.inl ov)))) (hz0 : (x + 6) ≤ o ∨ (o + 1) ≤ x) (h : f_L_faces dc fc ov a1 = some out) : AH E l yL_faces cL_faces 4 (Option.some Jvm.ClassFile.FieldType.int) [((0 : Nat), (9 : Nat), (12 : Nat), (28 : Nat))] ⟨9, 1, 6, 145⟩ [.ref x, .int a1, .ref o] hp none (P_L_faces E x o hp none out) := by
  refine A_ofH (by decide +kernel) (Nat.le_of_ble_eq_true rfl) ?_
  intro p e s m args below meth c X hr htb
  have X : CX E p l s m args meth c "DiceAuditLaw" cL_faces 4 := X
  refine A_L (L' := [(0, .ref x), (1, .int a1), (2, .ref o)]) rfl ?_
  unfold f_L_faces at h
  refine A_aload_n X dL_faces_0 2 rfl ?_
  refine A_iconst (v := 0) X dL_faces_1 (by decide) ?_
  refine A_aload_n X dL_faces_2 0 rfl ?_
  refine A_iload_n X dL_faces_3 1 rfl ?_
  rcases hbd_o h with ⟨C9, hc9, h⟩ | ⟨t1, hct1, h⟩
  · refine A_cX (k' := 1) (n' := 6) rfl rfl (A_runVX (rest := [.int 0, .ref o]) X dL_faces_4 (c_X10_faces g0 g3 g4 g5  hc9) kY_X10_faces kw_954 g0 rfl rfl ⟨(Nat.le_of_ble_eq_true rfl), (Nat.le_of_ble_eq_true rfl), (Nat.le_of_ble_eq_true rfl), (Nat.le_of_ble_eq_true rfl)⟩ rfl (Nat.le_of_ble_eq_true rfl)) (fun C hp1 hP => ?_) (fun v hp1 al1 hP => by obtain ⟨u, hu, _⟩ := hP; cases hu)
    obtain ⟨hC, rfl⟩ := hP
    cases hC
    rcases ite_o h with ⟨rfl, h⟩ | h
    · refine A_catch (name := "java/lang/IndexOutOfBoundsException") (Lc := []) (stc := []) X [] ⟨0, 9, 12, 28⟩ [] (htb.trans rfl) (fun z hz => nomatch hz) (by decide) (by decide) kw_953 kw_967 (fun q9 => ?_)
      refine A_astore_n (L' := [(3, .ref q9), (0, .ref x), (1, .int a1), (2, .ref o)]) X dL_faces_12 rfl (by decide) rfl ?_
      refine A_iconst (v := 1) X dL_faces_13 (by decide) ?_
      cases h
      exact A_iretX X dL_faces_14 hr ⟨rfl, g39, (fun q z0 => rfl), rfl⟩ (Nat.le_of_ble_eq_true rfl) (Nat.le_of_ble_eq_true rfl)
    cases h
  refine A_cX (k' := 1) (n' := 6) rfl rfl (A_runVX (rest := [.int 0, .ref o]) X dL_faces_4 (c_X10_faces g0 g3 g4 g5  hct1) kY_X10_faces kw_954 g0 rfl rfl ⟨(Nat.le_of_ble_eq_true rfl), (Nat.le_of_ble_eq_true rfl), (Nat.le_of_ble_eq_true rfl), (Nat.le_of_ble_eq_true rfl)⟩ rfl (Nat.le_of_ble_eq_true rfl)) (fun C hp1 hP => by obtain ⟨hC, _⟩ := hP; cases hC) (fun v9 hp1 al9 hP => ?_)
  obtain ⟨u9, hu9, rfl, rfl, rfl⟩ := hP
  cases hu9
  refine A_st (st' := [.int t1, .int 0, .ref o]) rfl ?_
  refine A_i2l X dL_faces_7 ?_
  refine A_last X dL_faces_8 g39 (by decide) (fun hp1 (k1 : hp1 o = some (.inl (kC E 1, 1, .inr (.inl (vp_updL ov (Int32.toNatClampNeg 0) t1.toInt64))))) n1 => ?_)
  refine A_goto (tgt := 15) X dL_faces_9 (by decide) ?_
  refine A_iconst (v := 0) X dL_faces_15 (by decide) ?_
  cases h
  exact A_iretX X dL_faces_16 hr ⟨rfl, k1, (fun q z0 => (n1 q z0)), rfl⟩ (Nat.le_of_ble_eq_true rfl) (Nat.le_of_ble_eq_true rfl)
abbrev P_L_weightOf (E : KE) (x : Nat) (o : Nat)  (hp : Hp) (al : Option Nat) (out : Int32 × (Nat → Int64)) : Option Value → Hp → Option Nat → Prop := fun v0 hp' al' => v0 = some (.int out.1) ∧ hp' o = some (.inl (kC E 1, 1, .inr (.inl out.2))) ∧ (∀ q, q ≠ o → hp' q = hp q) ∧ al = al'
set_option maxHeartbeats 4000000 in
set_option maxRecDepth 100000 in
theorem c_L_weightOf {E : KE} {l : Launch} {hp : Hp} {x : Nat} {o : Nat} {sd : Int32} {mn : Int32} {th : Int32} {dc : Int32} {fc : Nat → Int32} {dw : Nat → Int32} {ov : Nat → Int64} {a1 : Int32} {a2 : Int32} {out : Int32 × (Nat → Int64)} (g0 : hp x = some (.inr (10, [.ref (x + 126), .ref (x + 128), .ref (x + 1), .ref (x + 3), .ref (x + 16), .ref (x + 18), .ref (x + 124), .ref (x + 125)]))) (g3 : hp (x + 3) = some (.inr (2, [.ref (x + 4), .ref (x + 7), .ref (x + 10), .ref (x + 13), .int sd, .int mn, .int th]))) (g4 : hp (x + 4) = some (.inr (0, [.ref (x + 5), .ref (x + 6), .int dc]))) (g5 : hp (x + 5) = some (.inl (kC E 0, 6, .inl fc))) (g6 : hp (x + 6) = some (.inl (kC E 0, 72, .inl dw))) (g39 : hp o = some (.inl (kC E 1, 1, .inr (.inl ov)))) (hz0 : (x + 7) ≤ o ∨ (o + 1) ≤ x) (h : f_L_weightOf dc fc dw ov a1 a2 = some out) : AH E l yL_weightOf cL_weightOf 5 (Option.some Jvm.ClassFile.FieldType.int) [((0 : Nat), (10 : Nat), (13 : Nat), (28 : Nat)), ((0 : Nat), (10 : Nat), (17 : Nat), (19 : Nat))] ⟨9, 2, 12, 148⟩ [.ref x, .int a1, .int a2, .ref o] hp none (P_L_weightOf E x o hp none out) := by
  refine A_ofH (by decide +kernel) (Nat.le_of_ble_eq_true rfl) ?_
  intro p e s m args below meth c X hr htb
  have X : CX E p l s m args meth c "DiceAuditLaw" cL_weightOf 5 := X
  refine A_L (L' := [(0, .ref x), (1, .int a1), (2, .int a2), (3, .ref o)]) rfl ?_
  unfold f_L_weightOf at h
  refine A_aload_n X dL_weightOf_0 3 rfl ?_
  refine A_iconst (v := 0) X dL_weightOf_1 (by decide) ?_
  refine A_aload_n X dL_weightOf_2 0 rfl ?_
  refine A_iload_n X dL_weightOf_3 1 rfl ?_
  refine A_iload_n X dL_weightOf_4 2 rfl ?_
  rcases hbd_o h with ⟨C9, hc9, h⟩ | ⟨t1, hct1, h⟩
  · refine A_cX (k' := 2) (n' := 12) rfl rfl (A_runVX (rest := [.int 0, .ref o]) X dL_weightOf_5 (c_X10_weightOf g0 g3 g4 g5 g6  hc9) kY_X10_weightOf kw_985 g0 rfl rfl ⟨(Nat.le_of_ble_eq_true rfl), (Nat.le_of_ble_eq_true rfl), (Nat.le_of_ble_eq_true rfl), (Nat.le_of_ble_eq_true rfl)⟩ rfl (Nat.le_of_ble_eq_true rfl)) (fun C hp1 hP => ?_) (fun v hp1 al1 hP => by obtain ⟨u, hu, _⟩ := hP; cases hu)
    obtain ⟨hC, rfl⟩ := hP
    cases hC
    rcases ite_o h with ⟨rfl, h⟩ | h
    · refine A_catch (name := "java/lang/IndexOutOfBoundsException") (Lc := []) (stc := []) X [] ⟨0, 10, 13, 28⟩ [⟨0, 10, 17, 19⟩] (htb.trans rfl) (fun z hz => nomatch hz) (by decide) (by decide) kw_953 kw_967 (fun q9 => ?_)
      refine A_astore (L' := [(4, .ref q9), (0, .ref x), (1, .int a1), (2, .int a2), (3, .ref o)]) X dL_weightOf_13 (by decide) rfl ?_
      refine A_iconst (v := 1) X dL_weightOf_15 (by decide) ?_
      cases h
      exact A_iretX X dL_weightOf_16 hr ⟨rfl, g39, (fun q z0 => rfl), rfl⟩ (Nat.le_of_ble_eq_true rfl) (Nat.le_of_ble_eq_true rfl)
    rcases ite_o h with ⟨rfl, h⟩ | h
    · refine A_catch (name := "java/lang/IllegalArgumentException") (Lc := []) (stc := []) X [⟨0, 10, 13, 28⟩] ⟨0, 10, 17, 19⟩ [] (htb.trans rfl) (fun z hz => by cases List.mem_singleton.mp hz; exact Or.inr ⟨by decide, "java/lang/IndexOutOfBoundsException", kw_953, List.mem_of_getElem? (i := 7) rfl⟩) (by decide) (by decide) kw_918 kw_928 (fun q9 => ?_)
      refine A_astore (L' := [(4, .ref q9), (0, .ref x), (1, .int a1), (2, .int a2), (3, .ref o)]) X dL_weightOf_17 (by decide) rfl ?_
      refine A_iconst (v := 2) X dL_weightOf_19 (by decide) ?_
      cases h
      exact A_iretX X dL_weightOf_20 hr ⟨rfl, g39, (fun q z0 => rfl), rfl⟩ (Nat.le_of_ble_eq_true rfl) (Nat.le_of_ble_eq_true rfl)
    cases h
  refine A_cX (k' := 2) (n' := 12) rfl rfl (A_runVX (rest := [.int 0, .ref o]) X dL_weightOf_5 (c_X10_weightOf g0 g3 g4 g5 g6  hct1) kY_X10_weightOf kw_985 g0 rfl rfl ⟨(Nat.le_of_ble_eq_true rfl), (Nat.le_of_ble_eq_true rfl), (Nat.le_of_ble_eq_true rfl), (Nat.le_of_ble_eq_true rfl)⟩ rfl (Nat.le_of_ble_eq_true rfl)) (fun C hp1 hP => by obtain ⟨hC, _⟩ := hP; cases hC) (fun v9 hp1 al9 hP => ?_)
  obtain ⟨u9, hu9, rfl, rfl, rfl⟩ := hP
  cases hu9
  refine A_st (st' := [.int t1, .int 0, .ref o]) rfl ?_
  refine A_i2l X dL_weightOf_8 ?_
  refine A_last X dL_weightOf_9 g39 (by decide) (fun hp1 (k1 : hp1 o = some (.inl (kC E 1, 1, .inr (.inl (vp_updL ov (Int32.toNatClampNeg 0) t1.toInt64))))) n1 => ?_)
  refine A_goto (tgt := 21) X dL_weightOf_10 (by decide) ?_
  refine A_iconst (v := 0) X dL_weightOf_21 (by decide) ?_
  cases h
  exact A_iretX X dL_weightOf_22 hr ⟨rfl, k1, (fun q z0 => (n1 q z0)), rfl⟩ (Nat.le_of_ble_eq_true rfl) (Nat.le_of_ble_eq_true rfl)
abbrev P_L_isBalanced (E : KE) (x : Nat) (o : Nat)  (hp : Hp) (al : Option Nat) (out : Int32 × (Nat → Int64)) : Option Value → Hp → Option Nat → Prop := fun v0 hp' al' => v0 = some (.int out.1) ∧ hp' o = some (.inl (kC E 1, 1, .inr (.inl out.2))) ∧ (∀ q, q ≠ o → hp' q = hp q) ∧ al = al'
set_option maxHeartbeats 4000000 in
set_option maxRecDepth 100000 in
theorem c_L_isBalanced {E : KE} {l : Launch} {hp : Hp} {N : Nat} {x : Nat} {o : Nat} {sd : Int32} {mn : Int32} {th : Int32} {dc : Int32} {fc : Nat → Int32} {dw : Nat → Int32} {ov : Nat → Int64} {a1 : Int32} {out : Int32 × (Nat → Int64)} (g0 : hp x = some (.inr (10, [.ref (x + 126), .ref (x + 128), .ref (x + 1), .ref (x + 3), .ref (x + 16), .ref (x + 18), .ref (x + 124), .ref (x + 125)]))) (g3 : hp (x + 3) = some (.inr (2, [.ref (x + 4), .ref (x + 7), .ref (x + 10), .ref (x + 13), .int sd, .int mn, .int th]))) (g4 : hp (x + 4) = some (.inr (0, [.ref (x + 5), .ref (x + 6), .int dc]))) (g5 : hp (x + 5) = some (.inl (kC E 0, 6, .inl fc))) (g6 : hp (x + 6) = some (.inl (kC E 0, 72, .inl dw))) (g39 : hp o = some (.inl (kC E 1, 1, .inr (.inl ov)))) (hz0 : (x + 7) ≤ o ∨ (o + 1) ≤ x) (h : f_L_isBalanced N dc fc dw ov a1 = some out) : AH E l yL_isBalanced cL_isBalanced 4 (Option.some Jvm.ClassFile.FieldType.int) [((0 : Nat), (16 : Nat), (19 : Nat), (28 : Nat))] ⟨9, 1, 6, 145⟩ [.ref x, .int a1, .ref o] hp none (P_L_isBalanced E x o hp none out) := by
  refine A_ofH (by decide +kernel) (Nat.le_of_ble_eq_true rfl) ?_
  intro p e s m args below meth c X hr htb
  have X : CX E p l s m args meth c "DiceAuditLaw" cL_isBalanced 4 := X
  refine A_L (L' := [(0, .ref x), (1, .int a1), (2, .ref o)]) rfl ?_
  unfold f_L_isBalanced at h
  refine A_aload_n X dL_isBalanced_0 2 rfl ?_
  refine A_iconst (v := 0) X dL_isBalanced_1 (by decide) ?_
  refine A_aload_n X dL_isBalanced_2 0 rfl ?_
  refine A_iload_n X dL_isBalanced_3 1 rfl ?_
  rcases hbd_o h with ⟨C9, hc9, h⟩ | ⟨t1, hct1, h⟩
  · refine A_cX (k' := 1) (n' := 6) rfl rfl (A_runVX (rest := [.int 0, .ref o]) X dL_isBalanced_4 (c_X10_isBalanced g0 g3 g4 g5 g6  hc9) kY_X10_isBalanced kw_1000 g0 rfl rfl ⟨(Nat.le_of_ble_eq_true rfl), (Nat.le_of_ble_eq_true rfl), (Nat.le_of_ble_eq_true rfl), (Nat.le_of_ble_eq_true rfl)⟩ rfl (Nat.le_of_ble_eq_true rfl)) (fun C hp1 hP => ?_) (fun v hp1 al1 hP => by obtain ⟨u, hu, _⟩ := hP; cases hu)
    obtain ⟨hC, rfl⟩ := hP
    cases hC
    rcases ite_o h with ⟨rfl, h⟩ | h
    · refine A_catch (name := "java/lang/IndexOutOfBoundsException") (Lc := []) (stc := []) X [] ⟨0, 16, 19, 28⟩ [] (htb.trans rfl) (fun z hz => nomatch hz) (by decide) (by decide) kw_953 kw_967 (fun q9 => ?_)
      refine A_astore_n (L' := [(3, .ref q9), (0, .ref x), (1, .int a1), (2, .ref o)]) X dL_isBalanced_19 rfl (by decide) rfl ?_
      refine A_iconst (v := 1) X dL_isBalanced_20 (by decide) ?_
      cases h
      exact A_iretX X dL_isBalanced_21 hr ⟨rfl, g39, (fun q z0 => rfl), rfl⟩ (Nat.le_of_ble_eq_true rfl) (Nat.le_of_ble_eq_true rfl)
    cases h
  refine A_cX (k' := 1) (n' := 6) rfl rfl (A_runVX (rest := [.int 0, .ref o]) X dL_isBalanced_4 (c_X10_isBalanced g0 g3 g4 g5 g6  hct1) kY_X10_isBalanced kw_1000 g0 rfl rfl ⟨(Nat.le_of_ble_eq_true rfl), (Nat.le_of_ble_eq_true rfl), (Nat.le_of_ble_eq_true rfl), (Nat.le_of_ble_eq_true rfl)⟩ rfl (Nat.le_of_ble_eq_true rfl)) (fun C hp1 hP => by obtain ⟨hC, _⟩ := hP; cases hC) (fun v9 hp1 al9 hP => ?_)
  obtain ⟨u9, hu9, rfl, zt1, rfl, rfl⟩ := hP
  cases hu9
  refine A_st (st' := [.int t1, .int 0, .ref o]) rfl ?_
  refine A_if_eq (tgt := 14) X dL_isBalanced_7 h (by decide) (fun hc h => ?_) (fun hc h => ?_)
  · refine A_lconst (v := 0) X dL_isBalanced_14 (by decide) ?_
    refine A_last X dL_isBalanced_15 g39 (by decide) (fun hp1 (k1 : hp1 o = some (.inl (kC E 1, 1, .inr (.inl (vp_updL ov (Int32.toNatClampNeg 0) 0))))) n1 => ?_)
    refine A_goto (tgt := 22) X dL_isBalanced_16 (by decide) ?_
    refine A_iconst (v := 0) X dL_isBalanced_22 (by decide) ?_
    cases h
    exact A_iretX X dL_isBalanced_23 hr ⟨rfl, k1, (fun q z0 => (n1 q z0)), rfl⟩ (Nat.le_of_ble_eq_true rfl) (Nat.le_of_ble_eq_true rfl)
  · refine A_lconst (v := 1) X dL_isBalanced_10 (by decide) ?_
    refine A_goto (tgt := 15) X dL_isBalanced_11 (by decide) ?_
    refine A_last X dL_isBalanced_15 g39 (by decide) (fun hp1 (k1 : hp1 o = some (.inl (kC E 1, 1, .inr (.inl (vp_updL ov (Int32.toNatClampNeg 0) 1))))) n1 => ?_)
    refine A_goto (tgt := 22) X dL_isBalanced_16 (by decide) ?_
    refine A_iconst (v := 0) X dL_isBalanced_22 (by decide) ?_
    cases h
    exact A_iretX X dL_isBalanced_23 hr ⟨rfl, k1, (fun q z0 => (n1 q z0)), rfl⟩ (Nat.le_of_ble_eq_true rfl) (Nat.le_of_ble_eq_true rfl)
abbrev P_L_heaviestFace (E : KE) (x : Nat) (o : Nat)  (hp : Hp) (al : Option Nat) (out : Int32 × (Nat → Int64)) : Option Value → Hp → Option Nat → Prop := fun v0 hp' al' => v0 = some (.int out.1) ∧ hp' o = some (.inl (kC E 1, 1, .inr (.inl out.2))) ∧ (∀ q, q ≠ o → hp' q = hp q) ∧ al = al'
set_option maxHeartbeats 4000000 in
set_option maxRecDepth 100000 in
theorem c_L_heaviestFace {E : KE} {l : Launch} {hp : Hp} {N : Nat} {x : Nat} {o : Nat} {sd : Int32} {mn : Int32} {th : Int32} {dc : Int32} {fc : Nat → Int32} {dw : Nat → Int32} {ov : Nat → Int64} {a1 : Int32} {out : Int32 × (Nat → Int64)} (g0 : hp x = some (.inr (10, [.ref (x + 126), .ref (x + 128), .ref (x + 1), .ref (x + 3), .ref (x + 16), .ref (x + 18), .ref (x + 124), .ref (x + 125)]))) (g3 : hp (x + 3) = some (.inr (2, [.ref (x + 4), .ref (x + 7), .ref (x + 10), .ref (x + 13), .int sd, .int mn, .int th]))) (g4 : hp (x + 4) = some (.inr (0, [.ref (x + 5), .ref (x + 6), .int dc]))) (g5 : hp (x + 5) = some (.inl (kC E 0, 6, .inl fc))) (g6 : hp (x + 6) = some (.inl (kC E 0, 72, .inl dw))) (g39 : hp o = some (.inl (kC E 1, 1, .inr (.inl ov)))) (hz0 : (x + 7) ≤ o ∨ (o + 1) ≤ x) (h : f_L_heaviestFace N dc fc dw ov a1 = some out) : AH E l yL_heaviestFace cL_heaviestFace 4 (Option.some Jvm.ClassFile.FieldType.int) [((0 : Nat), (9 : Nat), (12 : Nat), (28 : Nat))] ⟨9, 1, 6, 145⟩ [.ref x, .int a1, .ref o] hp none (P_L_heaviestFace E x o hp none out) := by
  refine A_ofH (by decide +kernel) (Nat.le_of_ble_eq_true rfl) ?_
  intro p e s m args below meth c X hr htb
  have X : CX E p l s m args meth c "DiceAuditLaw" cL_heaviestFace 4 := X
  refine A_L (L' := [(0, .ref x), (1, .int a1), (2, .ref o)]) rfl ?_
  unfold f_L_heaviestFace at h
  refine A_aload_n X dL_heaviestFace_0 2 rfl ?_
  refine A_iconst (v := 0) X dL_heaviestFace_1 (by decide) ?_
  refine A_aload_n X dL_heaviestFace_2 0 rfl ?_
  refine A_iload_n X dL_heaviestFace_3 1 rfl ?_
  rcases hbd_o h with ⟨C9, hc9, h⟩ | ⟨t1, hct1, h⟩
  · refine A_cX (k' := 1) (n' := 6) rfl rfl (A_runVX (rest := [.int 0, .ref o]) X dL_heaviestFace_4 (c_X10_heaviestFace g0 g3 g4 g5 g6  hc9) kY_X10_heaviestFace kw_1013 g0 rfl rfl ⟨(Nat.le_of_ble_eq_true rfl), (Nat.le_of_ble_eq_true rfl), (Nat.le_of_ble_eq_true rfl), (Nat.le_of_ble_eq_true rfl)⟩ rfl (Nat.le_of_ble_eq_true rfl)) (fun C hp1 hP => ?_) (fun v hp1 al1 hP => by obtain ⟨u, hu, _⟩ := hP; cases hu)
    obtain ⟨hC, rfl⟩ := hP
    cases hC
    rcases ite_o h with ⟨rfl, h⟩ | h
    · refine A_catch (name := "java/lang/IndexOutOfBoundsException") (Lc := []) (stc := []) X [] ⟨0, 9, 12, 28⟩ [] (htb.trans rfl) (fun z hz => nomatch hz) (by decide) (by decide) kw_953 kw_967 (fun q9 => ?_)
      refine A_astore_n (L' := [(3, .ref q9), (0, .ref x), (1, .int a1), (2, .ref o)]) X dL_heaviestFace_12 rfl (by decide) rfl ?_
      refine A_iconst (v := 1) X dL_heaviestFace_13 (by decide) ?_
      cases h
      exact A_iretX X dL_heaviestFace_14 hr ⟨rfl, g39, (fun q z0 => rfl), rfl⟩ (Nat.le_of_ble_eq_true rfl) (Nat.le_of_ble_eq_true rfl)
    cases h
  refine A_cX (k' := 1) (n' := 6) rfl rfl (A_runVX (rest := [.int 0, .ref o]) X dL_heaviestFace_4 (c_X10_heaviestFace g0 g3 g4 g5 g6  hct1) kY_X10_heaviestFace kw_1013 g0 rfl rfl ⟨(Nat.le_of_ble_eq_true rfl), (Nat.le_of_ble_eq_true rfl), (Nat.le_of_ble_eq_true rfl), (Nat.le_of_ble_eq_true rfl)⟩ rfl (Nat.le_of_ble_eq_true rfl)) (fun C hp1 hP => by obtain ⟨hC, _⟩ := hP; cases hC) (fun v9 hp1 al9 hP => ?_)
  obtain ⟨u9, hu9, rfl, rfl, rfl⟩ := hP
  cases hu9
  refine A_st (st' := [.int t1, .int 0, .ref o]) rfl ?_
  refine A_i2l X dL_heaviestFace_7 ?_
  refine A_last X dL_heaviestFace_8 g39 (by decide) (fun hp1 (k1 : hp1 o = some (.inl (kC E 1, 1, .inr (.inl (vp_updL ov (Int32.toNatClampNeg 0) t1.toInt64))))) n1 => ?_)
  refine A_goto (tgt := 15) X dL_heaviestFace_9 (by decide) ?_
  refine A_iconst (v := 0) X dL_heaviestFace_15 (by decide) ?_
  cases h
  exact A_iretX X dL_heaviestFace_16 hr ⟨rfl, k1, (fun q z0 => (n1 q z0)), rfl⟩ (Nat.le_of_ble_eq_true rfl) (Nat.le_of_ble_eq_true rfl)
abbrev P_L_nameByte (E : KE) (x : Nat) (o : Nat)  (hp : Hp) (al : Option Nat) (out : Int32 × (Nat → Int64)) : Option Value → Hp → Option Nat → Prop := fun v0 hp' al' => v0 = some (.int out.1) ∧ hp' o = some (.inl (kC E 1, 1, .inr (.inl out.2))) ∧ (∀ q, q ≠ o → hp' q = hp q) ∧ al = al'
set_option maxHeartbeats 4000000 in
set_option maxRecDepth 100000 in
theorem c_L_nameByte {E : KE} {l : Launch} {hp : Hp} {x : Nat} {o : Nat} {sd : Int32} {mn : Int32} {th : Int32} {pc : Int32} {ln : Nat → Int32} {lt : Nat → Int32} {ov : Nat → Int64} {a1 : Int32} {a2 : Int32} {out : Int32 × (Nat → Int64)} (g0 : hp x = some (.inr (10, [.ref (x + 126), .ref (x + 128), .ref (x + 1), .ref (x + 3), .ref (x + 16), .ref (x + 18), .ref (x + 124), .ref (x + 125)]))) (g3 : hp (x + 3) = some (.inr (2, [.ref (x + 4), .ref (x + 7), .ref (x + 10), .ref (x + 13), .int sd, .int mn, .int th]))) (g7 : hp (x + 7) = some (.inr (7, [.ref (x + 8), .ref (x + 9), .int pc]))) (g8 : hp (x + 8) = some (.inl (kC E 0, 6, .inl ln))) (g9 : hp (x + 9) = some (.inl (kC E 0, 24, .inl lt))) (g39 : hp o = some (.inl (kC E 1, 1, .inr (.inl ov)))) (hz0 : (x + 10) ≤ o ∨ (o + 1) ≤ x) (h : f_L_nameByte pc ln lt ov a1 a2 = some out) : AH E l yL_nameByte cL_nameByte 5 (Option.some Jvm.ClassFile.FieldType.int) [((0 : Nat), (10 : Nat), (13 : Nat), (28 : Nat)), ((0 : Nat), (10 : Nat), (17 : Nat), (44 : Nat))] ⟨9, 2, 12, 146⟩ [.ref x, .int a1, .int a2, .ref o] hp none (P_L_nameByte E x o hp none out) := by
  refine A_ofH (by decide +kernel) (Nat.le_of_ble_eq_true rfl) ?_
  intro p e s m args below meth c X hr htb
  have X : CX E p l s m args meth c "DiceAuditLaw" cL_nameByte 5 := X
  refine A_L (L' := [(0, .ref x), (1, .int a1), (2, .int a2), (3, .ref o)]) rfl ?_
  unfold f_L_nameByte at h
  refine A_aload_n X dL_nameByte_0 3 rfl ?_
  refine A_iconst (v := 0) X dL_nameByte_1 (by decide) ?_
  refine A_aload_n X dL_nameByte_2 0 rfl ?_
  refine A_iload_n X dL_nameByte_3 1 rfl ?_
  refine A_iload_n X dL_nameByte_4 2 rfl ?_
  rcases hbd_o h with ⟨C9, hc9, h⟩ | ⟨t1, hct1, h⟩
  · refine A_cX (k' := 2) (n' := 12) rfl rfl (A_runVX (rest := [.int 0, .ref o]) X dL_nameByte_5 (c_X10_nameByte g0 g3 g7 g8 g9  hc9) kY_X10_nameByte kw_1025 g0 rfl rfl ⟨(Nat.le_of_ble_eq_true rfl), (Nat.le_of_ble_eq_true rfl), (Nat.le_of_ble_eq_true rfl), (Nat.le_of_ble_eq_true rfl)⟩ rfl (Nat.le_of_ble_eq_true rfl)) (fun C hp1 hP => ?_) (fun v hp1 al1 hP => by obtain ⟨u, hu, _⟩ := hP; cases hu)
    obtain ⟨hC, rfl⟩ := hP
    cases hC
    rcases ite_o h with ⟨rfl, h⟩ | h
    · refine A_catch (name := "java/lang/IndexOutOfBoundsException") (Lc := []) (stc := []) X [] ⟨0, 10, 13, 28⟩ [⟨0, 10, 17, 44⟩] (htb.trans rfl) (fun z hz => nomatch hz) (by decide) (by decide) kw_953 kw_967 (fun q9 => ?_)
      refine A_astore (L' := [(4, .ref q9), (0, .ref x), (1, .int a1), (2, .int a2), (3, .ref o)]) X dL_nameByte_13 (by decide) rfl ?_
      refine A_iconst (v := 1) X dL_nameByte_15 (by decide) ?_
      cases h
      exact A_iretX X dL_nameByte_16 hr ⟨rfl, g39, (fun q z0 => rfl), rfl⟩ (Nat.le_of_ble_eq_true rfl) (Nat.le_of_ble_eq_true rfl)
    rcases ite_o h with ⟨rfl, h⟩ | h
    · refine A_catch (name := "java/util/NoSuchElementException") (Lc := []) (stc := []) X [⟨0, 10, 13, 28⟩] ⟨0, 10, 17, 44⟩ [] (htb.trans rfl) (fun z hz => by cases List.mem_singleton.mp hz; exact Or.inr ⟨by decide, "java/lang/IndexOutOfBoundsException", kw_953, List.mem_of_getElem? (i := 8) rfl⟩) (by decide) (by decide) kw_1024 kw_1035 (fun q9 => ?_)
      refine A_astore (L' := [(4, .ref q9), (0, .ref x), (1, .int a1), (2, .int a2), (3, .ref o)]) X dL_nameByte_17 (by decide) rfl ?_
      refine A_iconst (v := 2) X dL_nameByte_19 (by decide) ?_
      cases h
      exact A_iretX X dL_nameByte_20 hr ⟨rfl, g39, (fun q z0 => rfl), rfl⟩ (Nat.le_of_ble_eq_true rfl) (Nat.le_of_ble_eq_true rfl)
    cases h
  refine A_cX (k' := 2) (n' := 12) rfl rfl (A_runVX (rest := [.int 0, .ref o]) X dL_nameByte_5 (c_X10_nameByte g0 g3 g7 g8 g9  hct1) kY_X10_nameByte kw_1025 g0 rfl rfl ⟨(Nat.le_of_ble_eq_true rfl), (Nat.le_of_ble_eq_true rfl), (Nat.le_of_ble_eq_true rfl), (Nat.le_of_ble_eq_true rfl)⟩ rfl (Nat.le_of_ble_eq_true rfl)) (fun C hp1 hP => by obtain ⟨hC, _⟩ := hP; cases hC) (fun v9 hp1 al9 hP => ?_)
  obtain ⟨u9, hu9, rfl, rfl, rfl⟩ := hP
  cases hu9
  refine A_st (st' := [.int t1, .int 0, .ref o]) rfl ?_
  refine A_i2l X dL_nameByte_8 ?_
  refine A_last X dL_nameByte_9 g39 (by decide) (fun hp1 (k1 : hp1 o = some (.inl (kC E 1, 1, .inr (.inl (vp_updL ov (Int32.toNatClampNeg 0) t1.toInt64))))) n1 => ?_)
  refine A_goto (tgt := 21) X dL_nameByte_10 (by decide) ?_
  refine A_iconst (v := 0) X dL_nameByte_21 (by decide) ?_
  cases h
  exact A_iretX X dL_nameByte_22 hr ⟨rfl, k1, (fun q z0 => (n1 q z0)), rfl⟩ (Nat.le_of_ble_eq_true rfl) (Nat.le_of_ble_eq_true rfl)
abbrev P_L_playerAt (E : KE) (x : Nat) (o : Nat)  (hp : Hp) (al : Option Nat) (out : Int32 × (Nat → Int64)) : Option Value → Hp → Option Nat → Prop := fun v0 hp' al' => v0 = some (.int out.1) ∧ hp' o = some (.inl (kC E 1, 1, .inr (.inl out.2))) ∧ (∀ q, q ≠ o → hp' q = hp q) ∧ al = al'
set_option maxHeartbeats 4000000 in
set_option maxRecDepth 100000 in
theorem c_L_playerAt {E : KE} {l : Launch} {hp : Hp} {x : Nat} {o : Nat} {sd : Int32} {mn : Int32} {th : Int32} {tc : Int32} {en : Nat → Int32} {ov : Nat → Int64} {a1 : Int32} {out : Int32 × (Nat → Int64)} (g0 : hp x = some (.inr (10, [.ref (x + 126), .ref (x + 128), .ref (x + 1), .ref (x + 3), .ref (x + 16), .ref (x + 18), .ref (x + 124), .ref (x + 125)]))) (g3 : hp (x + 3) = some (.inr (2, [.ref (x + 4), .ref (x + 7), .ref (x + 10), .ref (x + 13), .int sd, .int mn, .int th]))) (g10 : hp (x + 10) = some (.inr (4, [.ref (x + 11), .ref (x + 12), .int tc]))) (g11 : hp (x + 11) = some (.inl (kC E 0, 300, .inl en))) (g39 : hp o = some (.inl (kC E 1, 1, .inr (.inl ov)))) (hz0 : (x + 12) ≤ o ∨ (o + 1) ≤ x) (h : f_L_playerAt tc en ov a1 = some out) : AH E l yL_playerAt cL_playerAt 4 (Option.some Jvm.ClassFile.FieldType.int) [((0 : Nat), (9 : Nat), (12 : Nat), (28 : Nat))] ⟨9, 1, 6, 145⟩ [.ref x, .int a1, .ref o] hp none (P_L_playerAt E x o hp none out) := by
  refine A_ofH (by decide +kernel) (Nat.le_of_ble_eq_true rfl) ?_
  intro p e s m args below meth c X hr htb
  have X : CX E p l s m args meth c "DiceAuditLaw" cL_playerAt 4 := X
  refine A_L (L' := [(0, .ref x), (1, .int a1), (2, .ref o)]) rfl ?_
  unfold f_L_playerAt at h
  refine A_aload_n X dL_playerAt_0 2 rfl ?_
  refine A_iconst (v := 0) X dL_playerAt_1 (by decide) ?_
  refine A_aload_n X dL_playerAt_2 0 rfl ?_
  refine A_iload_n X dL_playerAt_3 1 rfl ?_
  rcases hbd_o h with ⟨C9, hc9, h⟩ | ⟨t1, hct1, h⟩
  · refine A_cX (k' := 1) (n' := 6) rfl rfl (A_runVX (rest := [.int 0, .ref o]) X dL_playerAt_4 (c_X10_playerAt g0 g3 g10 g11  hc9) kY_X10_playerAt kw_1052 g0 rfl rfl ⟨(Nat.le_of_ble_eq_true rfl), (Nat.le_of_ble_eq_true rfl), (Nat.le_of_ble_eq_true rfl), (Nat.le_of_ble_eq_true rfl)⟩ rfl (Nat.le_of_ble_eq_true rfl)) (fun C hp1 hP => ?_) (fun v hp1 al1 hP => by obtain ⟨u, hu, _⟩ := hP; cases hu)
    obtain ⟨hC, rfl⟩ := hP
    cases hC
    rcases ite_o h with ⟨rfl, h⟩ | h
    · refine A_catch (name := "java/lang/IndexOutOfBoundsException") (Lc := []) (stc := []) X [] ⟨0, 9, 12, 28⟩ [] (htb.trans rfl) (fun z hz => nomatch hz) (by decide) (by decide) kw_953 kw_967 (fun q9 => ?_)
      refine A_astore_n (L' := [(3, .ref q9), (0, .ref x), (1, .int a1), (2, .ref o)]) X dL_playerAt_12 rfl (by decide) rfl ?_
      refine A_iconst (v := 1) X dL_playerAt_13 (by decide) ?_
      cases h
      exact A_iretX X dL_playerAt_14 hr ⟨rfl, g39, (fun q z0 => rfl), rfl⟩ (Nat.le_of_ble_eq_true rfl) (Nat.le_of_ble_eq_true rfl)
    cases h
  refine A_cX (k' := 1) (n' := 6) rfl rfl (A_runVX (rest := [.int 0, .ref o]) X dL_playerAt_4 (c_X10_playerAt g0 g3 g10 g11  hct1) kY_X10_playerAt kw_1052 g0 rfl rfl ⟨(Nat.le_of_ble_eq_true rfl), (Nat.le_of_ble_eq_true rfl), (Nat.le_of_ble_eq_true rfl), (Nat.le_of_ble_eq_true rfl)⟩ rfl (Nat.le_of_ble_eq_true rfl)) (fun C hp1 hP => by obtain ⟨hC, _⟩ := hP; cases hC) (fun v9 hp1 al9 hP => ?_)
  obtain ⟨u9, hu9, rfl, rfl, rfl⟩ := hP
  cases hu9
  refine A_st (st' := [.int t1, .int 0, .ref o]) rfl ?_
  refine A_i2l X dL_playerAt_7 ?_
  refine A_last X dL_playerAt_8 g39 (by decide) (fun hp1 (k1 : hp1 o = some (.inl (kC E 1, 1, .inr (.inl (vp_updL ov (Int32.toNatClampNeg 0) t1.toInt64))))) n1 => ?_)
  refine A_goto (tgt := 15) X dL_playerAt_9 (by decide) ?_
  refine A_iconst (v := 0) X dL_playerAt_15 (by decide) ?_
  cases h
  exact A_iretX X dL_playerAt_16 hr ⟨rfl, k1, (fun q z0 => (n1 q z0)), rfl⟩ (Nat.le_of_ble_eq_true rfl) (Nat.le_of_ble_eq_true rfl)
abbrev P_L_dieAt (E : KE) (x : Nat) (o : Nat)  (hp : Hp) (al : Option Nat) (out : Int32 × (Nat → Int64)) : Option Value → Hp → Option Nat → Prop := fun v0 hp' al' => v0 = some (.int out.1) ∧ hp' o = some (.inl (kC E 1, 1, .inr (.inl out.2))) ∧ (∀ q, q ≠ o → hp' q = hp q) ∧ al = al'
set_option maxHeartbeats 4000000 in
set_option maxRecDepth 100000 in
theorem c_L_dieAt {E : KE} {l : Launch} {hp : Hp} {x : Nat} {o : Nat} {sd : Int32} {mn : Int32} {th : Int32} {tc : Int32} {en : Nat → Int32} {ov : Nat → Int64} {a1 : Int32} {out : Int32 × (Nat → Int64)} (g0 : hp x = some (.inr (10, [.ref (x + 126), .ref (x + 128), .ref (x + 1), .ref (x + 3), .ref (x + 16), .ref (x + 18), .ref (x + 124), .ref (x + 125)]))) (g3 : hp (x + 3) = some (.inr (2, [.ref (x + 4), .ref (x + 7), .ref (x + 10), .ref (x + 13), .int sd, .int mn, .int th]))) (g10 : hp (x + 10) = some (.inr (4, [.ref (x + 11), .ref (x + 12), .int tc]))) (g11 : hp (x + 11) = some (.inl (kC E 0, 300, .inl en))) (g39 : hp o = some (.inl (kC E 1, 1, .inr (.inl ov)))) (hz0 : (x + 12) ≤ o ∨ (o + 1) ≤ x) (h : f_L_dieAt tc en ov a1 = some out) : AH E l yL_dieAt cL_dieAt 4 (Option.some Jvm.ClassFile.FieldType.int) [((0 : Nat), (9 : Nat), (12 : Nat), (28 : Nat))] ⟨9, 1, 6, 145⟩ [.ref x, .int a1, .ref o] hp none (P_L_dieAt E x o hp none out) := by
  refine A_ofH (by decide +kernel) (Nat.le_of_ble_eq_true rfl) ?_
  intro p e s m args below meth c X hr htb
  have X : CX E p l s m args meth c "DiceAuditLaw" cL_dieAt 4 := X
  refine A_L (L' := [(0, .ref x), (1, .int a1), (2, .ref o)]) rfl ?_
  unfold f_L_dieAt at h
  refine A_aload_n X dL_dieAt_0 2 rfl ?_
  refine A_iconst (v := 0) X dL_dieAt_1 (by decide) ?_
  refine A_aload_n X dL_dieAt_2 0 rfl ?_
  refine A_iload_n X dL_dieAt_3 1 rfl ?_
  rcases hbd_o h with ⟨C9, hc9, h⟩ | ⟨t1, hct1, h⟩
  · refine A_cX (k' := 1) (n' := 6) rfl rfl (A_runVX (rest := [.int 0, .ref o]) X dL_dieAt_4 (c_X10_dieAt g0 g3 g10 g11  hc9) kY_X10_dieAt kw_1064 g0 rfl rfl ⟨(Nat.le_of_ble_eq_true rfl), (Nat.le_of_ble_eq_true rfl), (Nat.le_of_ble_eq_true rfl), (Nat.le_of_ble_eq_true rfl)⟩ rfl (Nat.le_of_ble_eq_true rfl)) (fun C hp1 hP => ?_) (fun v hp1 al1 hP => by obtain ⟨u, hu, _⟩ := hP; cases hu)
    obtain ⟨hC, rfl⟩ := hP
    cases hC
    rcases ite_o h with ⟨rfl, h⟩ | h
    · refine A_catch (name := "java/lang/IndexOutOfBoundsException") (Lc := []) (stc := []) X [] ⟨0, 9, 12, 28⟩ [] (htb.trans rfl) (fun z hz => nomatch hz) (by decide) (by decide) kw_953 kw_967 (fun q9 => ?_)
      refine A_astore_n (L' := [(3, .ref q9), (0, .ref x), (1, .int a1), (2, .ref o)]) X dL_dieAt_12 rfl (by decide) rfl ?_
      refine A_iconst (v := 1) X dL_dieAt_13 (by decide) ?_
      cases h
      exact A_iretX X dL_dieAt_14 hr ⟨rfl, g39, (fun q z0 => rfl), rfl⟩ (Nat.le_of_ble_eq_true rfl) (Nat.le_of_ble_eq_true rfl)
    cases h
  refine A_cX (k' := 1) (n' := 6) rfl rfl (A_runVX (rest := [.int 0, .ref o]) X dL_dieAt_4 (c_X10_dieAt g0 g3 g10 g11  hct1) kY_X10_dieAt kw_1064 g0 rfl rfl ⟨(Nat.le_of_ble_eq_true rfl), (Nat.le_of_ble_eq_true rfl), (Nat.le_of_ble_eq_true rfl), (Nat.le_of_ble_eq_true rfl)⟩ rfl (Nat.le_of_ble_eq_true rfl)) (fun C hp1 hP => by obtain ⟨hC, _⟩ := hP; cases hC) (fun v9 hp1 al9 hP => ?_)
  obtain ⟨u9, hu9, rfl, rfl, rfl⟩ := hP
  cases hu9
  refine A_st (st' := [.int t1, .int 0, .ref o]) rfl ?_
  refine A_i2l X dL_dieAt_7 ?_
  refine A_last X dL_dieAt_8 g39 (by decide) (fun hp1 (k1 : hp1 o = some (.inl (kC E 1, 1, .inr (.inl (vp_updL ov (Int32.toNatClampNeg 0) t1.toInt64))))) n1 => ?_)
  refine A_goto (tgt := 15) X dL_dieAt_9 (by decide) ?_
  refine A_iconst (v := 0) X dL_dieAt_15 (by decide) ?_
  cases h
  exact A_iretX X dL_dieAt_16 hr ⟨rfl, k1, (fun q z0 => (n1 q z0)), rfl⟩ (Nat.le_of_ble_eq_true rfl) (Nat.le_of_ble_eq_true rfl)
abbrev P_L_faceAt (E : KE) (x : Nat) (o : Nat)  (hp : Hp) (al : Option Nat) (out : Int32 × (Nat → Int64)) : Option Value → Hp → Option Nat → Prop := fun v0 hp' al' => v0 = some (.int out.1) ∧ hp' o = some (.inl (kC E 1, 1, .inr (.inl out.2))) ∧ (∀ q, q ≠ o → hp' q = hp q) ∧ al = al'
set_option maxHeartbeats 4000000 in
set_option maxRecDepth 100000 in
theorem c_L_faceAt {E : KE} {l : Launch} {hp : Hp} {x : Nat} {o : Nat} {sd : Int32} {mn : Int32} {th : Int32} {tc : Int32} {en : Nat → Int32} {ov : Nat → Int64} {a1 : Int32} {out : Int32 × (Nat → Int64)} (g0 : hp x = some (.inr (10, [.ref (x + 126), .ref (x + 128), .ref (x + 1), .ref (x + 3), .ref (x + 16), .ref (x + 18), .ref (x + 124), .ref (x + 125)]))) (g3 : hp (x + 3) = some (.inr (2, [.ref (x + 4), .ref (x + 7), .ref (x + 10), .ref (x + 13), .int sd, .int mn, .int th]))) (g10 : hp (x + 10) = some (.inr (4, [.ref (x + 11), .ref (x + 12), .int tc]))) (g11 : hp (x + 11) = some (.inl (kC E 0, 300, .inl en))) (g39 : hp o = some (.inl (kC E 1, 1, .inr (.inl ov)))) (hz0 : (x + 12) ≤ o ∨ (o + 1) ≤ x) (h : f_L_faceAt tc en ov a1 = some out) : AH E l yL_faceAt cL_faceAt 4 (Option.some Jvm.ClassFile.FieldType.int) [((0 : Nat), (9 : Nat), (12 : Nat), (28 : Nat))] ⟨9, 1, 6, 145⟩ [.ref x, .int a1, .ref o] hp none (P_L_faceAt E x o hp none out) := by
  refine A_ofH (by decide +kernel) (Nat.le_of_ble_eq_true rfl) ?_
  intro p e s m args below meth c X hr htb
  have X : CX E p l s m args meth c "DiceAuditLaw" cL_faceAt 4 := X
  refine A_L (L' := [(0, .ref x), (1, .int a1), (2, .ref o)]) rfl ?_
  unfold f_L_faceAt at h
  refine A_aload_n X dL_faceAt_0 2 rfl ?_
  refine A_iconst (v := 0) X dL_faceAt_1 (by decide) ?_
  refine A_aload_n X dL_faceAt_2 0 rfl ?_
  refine A_iload_n X dL_faceAt_3 1 rfl ?_
  rcases hbd_o h with ⟨C9, hc9, h⟩ | ⟨t1, hct1, h⟩
  · refine A_cX (k' := 1) (n' := 6) rfl rfl (A_runVX (rest := [.int 0, .ref o]) X dL_faceAt_4 (c_X10_faceAt g0 g3 g10 g11  hc9) kY_X10_faceAt kw_1071 g0 rfl rfl ⟨(Nat.le_of_ble_eq_true rfl), (Nat.le_of_ble_eq_true rfl), (Nat.le_of_ble_eq_true rfl), (Nat.le_of_ble_eq_true rfl)⟩ rfl (Nat.le_of_ble_eq_true rfl)) (fun C hp1 hP => ?_) (fun v hp1 al1 hP => by obtain ⟨u, hu, _⟩ := hP; cases hu)
    obtain ⟨hC, rfl⟩ := hP
    cases hC
    rcases ite_o h with ⟨rfl, h⟩ | h
    · refine A_catch (name := "java/lang/IndexOutOfBoundsException") (Lc := []) (stc := []) X [] ⟨0, 9, 12, 28⟩ [] (htb.trans rfl) (fun z hz => nomatch hz) (by decide) (by decide) kw_953 kw_967 (fun q9 => ?_)
      refine A_astore_n (L' := [(3, .ref q9), (0, .ref x), (1, .int a1), (2, .ref o)]) X dL_faceAt_12 rfl (by decide) rfl ?_
      refine A_iconst (v := 1) X dL_faceAt_13 (by decide) ?_
      cases h
      exact A_iretX X dL_faceAt_14 hr ⟨rfl, g39, (fun q z0 => rfl), rfl⟩ (Nat.le_of_ble_eq_true rfl) (Nat.le_of_ble_eq_true rfl)
    cases h
  refine A_cX (k' := 1) (n' := 6) rfl rfl (A_runVX (rest := [.int 0, .ref o]) X dL_faceAt_4 (c_X10_faceAt g0 g3 g10 g11  hct1) kY_X10_faceAt kw_1071 g0 rfl rfl ⟨(Nat.le_of_ble_eq_true rfl), (Nat.le_of_ble_eq_true rfl), (Nat.le_of_ble_eq_true rfl), (Nat.le_of_ble_eq_true rfl)⟩ rfl (Nat.le_of_ble_eq_true rfl)) (fun C hp1 hP => by obtain ⟨hC, _⟩ := hP; cases hC) (fun v9 hp1 al9 hP => ?_)
  obtain ⟨u9, hu9, rfl, rfl, rfl⟩ := hP
  cases hu9
  refine A_st (st' := [.int t1, .int 0, .ref o]) rfl ?_
  refine A_i2l X dL_faceAt_7 ?_
  refine A_last X dL_faceAt_8 g39 (by decide) (fun hp1 (k1 : hp1 o = some (.inl (kC E 1, 1, .inr (.inl (vp_updL ov (Int32.toNatClampNeg 0) t1.toInt64))))) n1 => ?_)
  refine A_goto (tgt := 15) X dL_faceAt_9 (by decide) ?_
  refine A_iconst (v := 0) X dL_faceAt_15 (by decide) ?_
  cases h
  exact A_iretX X dL_faceAt_16 hr ⟨rfl, k1, (fun q z0 => (n1 q z0)), rfl⟩ (Nat.le_of_ble_eq_true rfl) (Nat.le_of_ble_eq_true rfl)
abbrev P_L_isFairAt (E : KE) (x : Nat) (o : Nat)  (hp : Hp) (al : Option Nat) (out : Int32 × (Nat → Int64)) : Option Value → Hp → Option Nat → Prop := fun v0 hp' al' => v0 = some (.int out.1) ∧ hp' o = some (.inl (kC E 1, 1, .inr (.inl out.2))) ∧ (∀ q, q ≠ o → hp' q = hp q) ∧ al = al'
set_option maxHeartbeats 4000000 in
set_option maxRecDepth 100000 in
theorem c_L_isFairAt {E : KE} {l : Launch} {hp : Hp} {x : Nat} {o : Nat} {sd : Int32} {mn : Int32} {th : Int32} {tc : Int32} {en : Nat → Int32} {ov : Nat → Int64} {a1 : Int32} {out : Int32 × (Nat → Int64)} (g0 : hp x = some (.inr (10, [.ref (x + 126), .ref (x + 128), .ref (x + 1), .ref (x + 3), .ref (x + 16), .ref (x + 18), .ref (x + 124), .ref (x + 125)]))) (g3 : hp (x + 3) = some (.inr (2, [.ref (x + 4), .ref (x + 7), .ref (x + 10), .ref (x + 13), .int sd, .int mn, .int th]))) (g10 : hp (x + 10) = some (.inr (4, [.ref (x + 11), .ref (x + 12), .int tc]))) (g11 : hp (x + 11) = some (.inl (kC E 0, 300, .inl en))) (g39 : hp o = some (.inl (kC E 1, 1, .inr (.inl ov)))) (hz0 : (x + 12) ≤ o ∨ (o + 1) ≤ x) (h : f_L_isFairAt tc en ov a1 = some out) : AH E l yL_isFairAt cL_isFairAt 4 (Option.some Jvm.ClassFile.FieldType.int) [((0 : Nat), (16 : Nat), (19 : Nat), (28 : Nat))] ⟨9, 1, 6, 145⟩ [.ref x, .int a1, .ref o] hp none (P_L_isFairAt E x o hp none out) := by
  refine A_ofH (by decide +kernel) (Nat.le_of_ble_eq_true rfl) ?_
  intro p e s m args below meth c X hr htb
  have X : CX E p l s m args meth c "DiceAuditLaw" cL_isFairAt 4 := X
  refine A_L (L' := [(0, .ref x), (1, .int a1), (2, .ref o)]) rfl ?_
  unfold f_L_isFairAt at h
  refine A_aload_n X dL_isFairAt_0 2 rfl ?_
  refine A_iconst (v := 0) X dL_isFairAt_1 (by decide) ?_
  refine A_aload_n X dL_isFairAt_2 0 rfl ?_
  refine A_iload_n X dL_isFairAt_3 1 rfl ?_
  rcases hbd_o h with ⟨C9, hc9, h⟩ | ⟨t1, hct1, h⟩
  · refine A_cX (k' := 1) (n' := 6) rfl rfl (A_runVX (rest := [.int 0, .ref o]) X dL_isFairAt_4 (c_X10_isFairAt g0 g3 g10 g11  hc9) kY_X10_isFairAt kw_1079 g0 rfl rfl ⟨(Nat.le_of_ble_eq_true rfl), (Nat.le_of_ble_eq_true rfl), (Nat.le_of_ble_eq_true rfl), (Nat.le_of_ble_eq_true rfl)⟩ rfl (Nat.le_of_ble_eq_true rfl)) (fun C hp1 hP => ?_) (fun v hp1 al1 hP => by obtain ⟨u, hu, _⟩ := hP; cases hu)
    obtain ⟨hC, rfl⟩ := hP
    cases hC
    rcases ite_o h with ⟨rfl, h⟩ | h
    · refine A_catch (name := "java/lang/IndexOutOfBoundsException") (Lc := []) (stc := []) X [] ⟨0, 16, 19, 28⟩ [] (htb.trans rfl) (fun z hz => nomatch hz) (by decide) (by decide) kw_953 kw_967 (fun q9 => ?_)
      refine A_astore_n (L' := [(3, .ref q9), (0, .ref x), (1, .int a1), (2, .ref o)]) X dL_isFairAt_19 rfl (by decide) rfl ?_
      refine A_iconst (v := 1) X dL_isFairAt_20 (by decide) ?_
      cases h
      exact A_iretX X dL_isFairAt_21 hr ⟨rfl, g39, (fun q z0 => rfl), rfl⟩ (Nat.le_of_ble_eq_true rfl) (Nat.le_of_ble_eq_true rfl)
    cases h
  refine A_cX (k' := 1) (n' := 6) rfl rfl (A_runVX (rest := [.int 0, .ref o]) X dL_isFairAt_4 (c_X10_isFairAt g0 g3 g10 g11  hct1) kY_X10_isFairAt kw_1079 g0 rfl rfl ⟨(Nat.le_of_ble_eq_true rfl), (Nat.le_of_ble_eq_true rfl), (Nat.le_of_ble_eq_true rfl), (Nat.le_of_ble_eq_true rfl)⟩ rfl (Nat.le_of_ble_eq_true rfl)) (fun C hp1 hP => by obtain ⟨hC, _⟩ := hP; cases hC) (fun v9 hp1 al9 hP => ?_)
  obtain ⟨u9, hu9, rfl, zt1, rfl, rfl⟩ := hP
  cases hu9
  refine A_st (st' := [.int t1, .int 0, .ref o]) rfl ?_
  refine A_if_eq (tgt := 14) X dL_isFairAt_7 h (by decide) (fun hc h => ?_) (fun hc h => ?_)
  · refine A_lconst (v := 0) X dL_isFairAt_14 (by decide) ?_
    refine A_last X dL_isFairAt_15 g39 (by decide) (fun hp1 (k1 : hp1 o = some (.inl (kC E 1, 1, .inr (.inl (vp_updL ov (Int32.toNatClampNeg 0) 0))))) n1 => ?_)
    refine A_goto (tgt := 22) X dL_isFairAt_16 (by decide) ?_
    refine A_iconst (v := 0) X dL_isFairAt_22 (by decide) ?_
    cases h
    exact A_iretX X dL_isFairAt_23 hr ⟨rfl, k1, (fun q z0 => (n1 q z0)), rfl⟩ (Nat.le_of_ble_eq_true rfl) (Nat.le_of_ble_eq_true rfl)
  · refine A_lconst (v := 1) X dL_isFairAt_10 (by decide) ?_
    refine A_goto (tgt := 15) X dL_isFairAt_11 (by decide) ?_
    refine A_last X dL_isFairAt_15 g39 (by decide) (fun hp1 (k1 : hp1 o = some (.inl (kC E 1, 1, .inr (.inl (vp_updL ov (Int32.toNatClampNeg 0) 1))))) n1 => ?_)
    refine A_goto (tgt := 22) X dL_isFairAt_16 (by decide) ?_
    refine A_iconst (v := 0) X dL_isFairAt_22 (by decide) ?_
    cases h
    exact A_iretX X dL_isFairAt_23 hr ⟨rfl, k1, (fun q z0 => (n1 q z0)), rfl⟩ (Nat.le_of_ble_eq_true rfl) (Nat.le_of_ble_eq_true rfl)
abbrev P_L_throwsOf (E : KE) (x : Nat) (o : Nat)  (hp : Hp) (al : Option Nat) (out : Int32 × (Nat → Int64)) : Option Value → Hp → Option Nat → Prop := fun v0 hp' al' => v0 = some (.int out.1) ∧ hp' o = some (.inl (kC E 1, 1, .inr (.inl out.2))) ∧ (∀ q, q ≠ o → hp' q = hp q) ∧ al = al'
set_option maxHeartbeats 4000000 in
set_option maxRecDepth 100000 in
theorem c_L_throwsOf {E : KE} {l : Launch} {hp : Hp} {N : Nat} {x : Nat} {o : Nat} {sd : Int32} {mn : Int32} {th : Int32} {pc : Int32} {tc : Int32} {fr : Nat → Int32} {ov : Nat → Int64} {a1 : Int32} {out : Int32 × (Nat → Int64)} (g0 : hp x = some (.inr (10, [.ref (x + 126), .ref (x + 128), .ref (x + 1), .ref (x + 3), .ref (x + 16), .ref (x + 18), .ref (x + 124), .ref (x + 125)]))) (g3 : hp (x + 3) = some (.inr (2, [.ref (x + 4), .ref (x + 7), .ref (x + 10), .ref (x + 13), .int sd, .int mn, .int th]))) (g7 : hp (x + 7) = some (.inr (7, [.ref (x + 8), .ref (x + 9), .int pc]))) (g10 : hp (x + 10) = some (.inr (4, [.ref (x + 11), .ref (x + 12), .int tc]))) (g12 : hp (x + 12) = some (.inl (kC E 0, 432, .inl fr))) (g39 : hp o = some (.inl (kC E 1, 1, .inr (.inl ov)))) (hz0 : (x + 13) ≤ o ∨ (o + 1) ≤ x) (h : f_L_throwsOf N pc fr ov a1 = some out) : AH E l yL_throwsOf cL_throwsOf 4 (Option.some Jvm.ClassFile.FieldType.int) [((0 : Nat), (9 : Nat), (12 : Nat), (28 : Nat))] ⟨9, 1, 6, 145⟩ [.ref x, .int a1, .ref o] hp none (P_L_throwsOf E x o hp none out) := by
  refine A_ofH (by decide +kernel) (Nat.le_of_ble_eq_true rfl) ?_
  intro p e s m args below meth c X hr htb
  have X : CX E p l s m args meth c "DiceAuditLaw" cL_throwsOf 4 := X
  refine A_L (L' := [(0, .ref x), (1, .int a1), (2, .ref o)]) rfl ?_
  unfold f_L_throwsOf at h
  refine A_aload_n X dL_throwsOf_0 2 rfl ?_
  refine A_iconst (v := 0) X dL_throwsOf_1 (by decide) ?_
  refine A_aload_n X dL_throwsOf_2 0 rfl ?_
  refine A_iload_n X dL_throwsOf_3 1 rfl ?_
  rcases hbd_o h with ⟨C9, hc9, h⟩ | ⟨t1, hct1, h⟩
  · refine A_cX (k' := 1) (n' := 6) rfl rfl (A_runVX (rest := [.int 0, .ref o]) X dL_throwsOf_4 (c_X10_throwsOf g0 g3 g7 g10 g12  hc9) kY_X10_throwsOf kw_1087 g0 rfl rfl ⟨(Nat.le_of_ble_eq_true rfl), (Nat.le_of_ble_eq_true rfl), (Nat.le_of_ble_eq_true rfl), (Nat.le_of_ble_eq_true rfl)⟩ rfl (Nat.le_of_ble_eq_true rfl)) (fun C hp1 hP => ?_) (fun v hp1 al1 hP => by obtain ⟨u, hu, _⟩ := hP; cases hu)
    obtain ⟨hC, rfl⟩ := hP
    cases hC
    rcases ite_o h with ⟨rfl, h⟩ | h
    · refine A_catch (name := "java/lang/IndexOutOfBoundsException") (Lc := []) (stc := []) X [] ⟨0, 9, 12, 28⟩ [] (htb.trans rfl) (fun z hz => nomatch hz) (by decide) (by decide) kw_953 kw_967 (fun q9 => ?_)
      refine A_astore_n (L' := [(3, .ref q9), (0, .ref x), (1, .int a1), (2, .ref o)]) X dL_throwsOf_12 rfl (by decide) rfl ?_
      refine A_iconst (v := 1) X dL_throwsOf_13 (by decide) ?_
      cases h
      exact A_iretX X dL_throwsOf_14 hr ⟨rfl, g39, (fun q z0 => rfl), rfl⟩ (Nat.le_of_ble_eq_true rfl) (Nat.le_of_ble_eq_true rfl)
    cases h
  refine A_cX (k' := 1) (n' := 6) rfl rfl (A_runVX (rest := [.int 0, .ref o]) X dL_throwsOf_4 (c_X10_throwsOf g0 g3 g7 g10 g12  hct1) kY_X10_throwsOf kw_1087 g0 rfl rfl ⟨(Nat.le_of_ble_eq_true rfl), (Nat.le_of_ble_eq_true rfl), (Nat.le_of_ble_eq_true rfl), (Nat.le_of_ble_eq_true rfl)⟩ rfl (Nat.le_of_ble_eq_true rfl)) (fun C hp1 hP => by obtain ⟨hC, _⟩ := hP; cases hC) (fun v9 hp1 al9 hP => ?_)
  obtain ⟨u9, hu9, rfl, rfl, rfl⟩ := hP
  cases hu9
  refine A_st (st' := [.int t1, .int 0, .ref o]) rfl ?_
  refine A_i2l X dL_throwsOf_7 ?_
  refine A_last X dL_throwsOf_8 g39 (by decide) (fun hp1 (k1 : hp1 o = some (.inl (kC E 1, 1, .inr (.inl (vp_updL ov (Int32.toNatClampNeg 0) t1.toInt64))))) n1 => ?_)
  refine A_goto (tgt := 15) X dL_throwsOf_9 (by decide) ?_
  refine A_iconst (v := 0) X dL_throwsOf_15 (by decide) ?_
  cases h
  exact A_iretX X dL_throwsOf_16 hr ⟨rfl, k1, (fun q z0 => (n1 q z0)), rfl⟩ (Nat.le_of_ble_eq_true rfl) (Nat.le_of_ble_eq_true rfl)
abbrev P_L_total (E : KE) (x : Nat) (o : Nat)  (hp : Hp) (al : Option Nat) (out : Int32 × (Nat → Int64)) : Option Value → Hp → Option Nat → Prop := fun v0 hp' al' => v0 = some (.int out.1) ∧ hp' o = some (.inl (kC E 1, 1, .inr (.inl out.2))) ∧ (∀ q, q ≠ o → hp' q = hp q) ∧ al = al'
set_option maxHeartbeats 4000000 in
set_option maxRecDepth 100000 in
theorem c_L_total {E : KE} {l : Launch} {hp : Hp} {N : Nat} {x : Nat} {o : Nat} {sd : Int32} {mn : Int32} {th : Int32} {pc : Int32} {tc : Int32} {fr : Nat → Int32} {ov : Nat → Int64} {a1 : Int32} {out : Int32 × (Nat → Int64)} (g0 : hp x = some (.inr (10, [.ref (x + 126), .ref (x + 128), .ref (x + 1), .ref (x + 3), .ref (x + 16), .ref (x + 18), .ref (x + 124), .ref (x + 125)]))) (g3 : hp (x + 3) = some (.inr (2, [.ref (x + 4), .ref (x + 7), .ref (x + 10), .ref (x + 13), .int sd, .int mn, .int th]))) (g7 : hp (x + 7) = some (.inr (7, [.ref (x + 8), .ref (x + 9), .int pc]))) (g10 : hp (x + 10) = some (.inr (4, [.ref (x + 11), .ref (x + 12), .int tc]))) (g12 : hp (x + 12) = some (.inl (kC E 0, 432, .inl fr))) (g39 : hp o = some (.inl (kC E 1, 1, .inr (.inl ov)))) (hz0 : (x + 13) ≤ o ∨ (o + 1) ≤ x) (h : f_L_total N pc fr ov a1 = some out) : AH E l yL_total cL_total 4 (Option.some Jvm.ClassFile.FieldType.int) [((0 : Nat), (9 : Nat), (12 : Nat), (28 : Nat))] ⟨9, 1, 6, 145⟩ [.ref x, .int a1, .ref o] hp none (P_L_total E x o hp none out) := by
  refine A_ofH (by decide +kernel) (Nat.le_of_ble_eq_true rfl) ?_
  intro p e s m args below meth c X hr htb
  have X : CX E p l s m args meth c "DiceAuditLaw" cL_total 4 := X
  refine A_L (L' := [(0, .ref x), (1, .int a1), (2, .ref o)]) rfl ?_
  unfold f_L_total at h
  refine A_aload_n X dL_total_0 2 rfl ?_
  refine A_iconst (v := 0) X dL_total_1 (by decide) ?_
  refine A_aload_n X dL_total_2 0 rfl ?_
  refine A_iload_n X dL_total_3 1 rfl ?_
  rcases hbd_o h with ⟨C9, hc9, h⟩ | ⟨t1, hct1, h⟩
  · refine A_cX (k' := 1) (n' := 6) rfl rfl (A_runVX (rest := [.int 0, .ref o]) X dL_total_4 (c_X10_total g0 g3 g7 g10 g12  hc9) kY_X10_total kw_1094 g0 rfl rfl ⟨(Nat.le_of_ble_eq_true rfl), (Nat.le_of_ble_eq_true rfl), (Nat.le_of_ble_eq_true rfl), (Nat.le_of_ble_eq_true rfl)⟩ rfl (Nat.le_of_ble_eq_true rfl)) (fun C hp1 hP => ?_) (fun v hp1 al1 hP => by obtain ⟨u, hu, _⟩ := hP; cases hu)
    obtain ⟨hC, rfl⟩ := hP
    cases hC
    rcases ite_o h with ⟨rfl, h⟩ | h
    · refine A_catch (name := "java/lang/IndexOutOfBoundsException") (Lc := []) (stc := []) X [] ⟨0, 9, 12, 28⟩ [] (htb.trans rfl) (fun z hz => nomatch hz) (by decide) (by decide) kw_953 kw_967 (fun q9 => ?_)
      refine A_astore_n (L' := [(3, .ref q9), (0, .ref x), (1, .int a1), (2, .ref o)]) X dL_total_12 rfl (by decide) rfl ?_
      refine A_iconst (v := 1) X dL_total_13 (by decide) ?_
      cases h
      exact A_iretX X dL_total_14 hr ⟨rfl, g39, (fun q z0 => rfl), rfl⟩ (Nat.le_of_ble_eq_true rfl) (Nat.le_of_ble_eq_true rfl)
    cases h
  refine A_cX (k' := 1) (n' := 6) rfl rfl (A_runVX (rest := [.int 0, .ref o]) X dL_total_4 (c_X10_total g0 g3 g7 g10 g12  hct1) kY_X10_total kw_1094 g0 rfl rfl ⟨(Nat.le_of_ble_eq_true rfl), (Nat.le_of_ble_eq_true rfl), (Nat.le_of_ble_eq_true rfl), (Nat.le_of_ble_eq_true rfl)⟩ rfl (Nat.le_of_ble_eq_true rfl)) (fun C hp1 hP => by obtain ⟨hC, _⟩ := hP; cases hC) (fun v9 hp1 al9 hP => ?_)
  obtain ⟨u9, hu9, rfl, rfl, rfl⟩ := hP
  cases hu9
  refine A_st (st' := [.int t1, .int 0, .ref o]) rfl ?_
  refine A_i2l X dL_total_7 ?_
  refine A_last X dL_total_8 g39 (by decide) (fun hp1 (k1 : hp1 o = some (.inl (kC E 1, 1, .inr (.inl (vp_updL ov (Int32.toNatClampNeg 0) t1.toInt64))))) n1 => ?_)
  refine A_goto (tgt := 15) X dL_total_9 (by decide) ?_
  refine A_iconst (v := 0) X dL_total_15 (by decide) ?_
  cases h
  exact A_iretX X dL_total_16 hr ⟨rfl, k1, (fun q z0 => (n1 q z0)), rfl⟩ (Nat.le_of_ble_eq_true rfl) (Nat.le_of_ble_eq_true rfl)
abbrev P_L_meanFace (E : KE) (x : Nat) (o : Nat)  (hp : Hp) (al : Option Nat) (out : Int32 × (Nat → UInt64)) : Option Value → Hp → Option Nat → Prop := fun v0 hp' al' => v0 = some (.int out.1) ∧ hp' o = some (.inl (kC E 2, 1, .inr (.inr (.inr (.inl out.2))))) ∧ (∀ q, q ≠ o → hp' q = hp q) ∧ al = al'
set_option maxHeartbeats 4000000 in
set_option maxRecDepth 100000 in
theorem c_L_meanFace {E : KE} {l : Launch} {hp : Hp} {N : Nat} {x : Nat} {o : Nat} {sd : Int32} {mn : Int32} {th : Int32} {pc : Int32} {tc : Int32} {fr : Nat → Int32} {ow : Nat → UInt64} {a1 : Int32} {out : Int32 × (Nat → UInt64)} (g0 : hp x = some (.inr (10, [.ref (x + 126), .ref (x + 128), .ref (x + 1), .ref (x + 3), .ref (x + 16), .ref (x + 18), .ref (x + 124), .ref (x + 125)]))) (g3 : hp (x + 3) = some (.inr (2, [.ref (x + 4), .ref (x + 7), .ref (x + 10), .ref (x + 13), .int sd, .int mn, .int th]))) (g7 : hp (x + 7) = some (.inr (7, [.ref (x + 8), .ref (x + 9), .int pc]))) (g10 : hp (x + 10) = some (.inr (4, [.ref (x + 11), .ref (x + 12), .int tc]))) (g12 : hp (x + 12) = some (.inl (kC E 0, 432, .inl fr))) (g39 : hp o = some (.inl (kC E 2, 1, .inr (.inr (.inr (.inl ow)))))) (hz0 : (x + 13) ≤ o ∨ (o + 1) ≤ x) (h : f_L_meanFace N pc fr ow a1 = some out) : AH E l yL_meanFace cL_meanFace 4 (Option.some Jvm.ClassFile.FieldType.int) [((0 : Nat), (8 : Nat), (11 : Nat), (28 : Nat))] ⟨9, 1, 6, 146⟩ [.ref x, .int a1, .ref o] hp none (P_L_meanFace E x o hp none out) := by
  refine A_ofH (by decide +kernel) (Nat.le_of_ble_eq_true rfl) ?_
  intro p e s m args below meth c X hr htb
  have X : CX E p l s m args meth c "DiceAuditLaw" cL_meanFace 4 := X
  refine A_L (L' := [(0, .ref x), (1, .int a1), (2, .ref o)]) rfl ?_
  unfold f_L_meanFace at h
  refine A_aload_n X dL_meanFace_0 2 rfl ?_
  refine A_iconst (v := 0) X dL_meanFace_1 (by decide) ?_
  refine A_aload_n X dL_meanFace_2 0 rfl ?_
  refine A_iload_n X dL_meanFace_3 1 rfl ?_
  rcases hbd_o h with ⟨C9, hc9, h⟩ | ⟨t1, hct1, h⟩
  · refine A_cX (k' := 1) (n' := 6) rfl rfl (A_runVX (rest := [.int 0, .ref o]) X dL_meanFace_4 (c_X10_meanFace g0 g3 g7 g10 g12  hc9) kY_X10_meanFace kw_1101 g0 rfl rfl ⟨(Nat.le_of_ble_eq_true rfl), (Nat.le_of_ble_eq_true rfl), (Nat.le_of_ble_eq_true rfl), (Nat.le_of_ble_eq_true rfl)⟩ rfl (Nat.le_of_ble_eq_true rfl)) (fun C hp1 hP => ?_) (fun v hp1 al1 hP => by obtain ⟨u, hu, _⟩ := hP; cases hu)
    obtain ⟨hC, rfl⟩ := hP
    cases hC
    rcases ite_o h with ⟨rfl, h⟩ | h
    · refine A_catch (name := "java/lang/IndexOutOfBoundsException") (Lc := []) (stc := []) X [] ⟨0, 8, 11, 28⟩ [] (htb.trans rfl) (fun z hz => nomatch hz) (by decide) (by decide) kw_953 kw_967 (fun q9 => ?_)
      refine A_astore_n (L' := [(3, .ref q9), (0, .ref x), (1, .int a1), (2, .ref o)]) X dL_meanFace_11 rfl (by decide) rfl ?_
      refine A_iconst (v := 1) X dL_meanFace_12 (by decide) ?_
      cases h
      exact A_iretX X dL_meanFace_13 hr ⟨rfl, g39, (fun q z0 => rfl), rfl⟩ (Nat.le_of_ble_eq_true rfl) (Nat.le_of_ble_eq_true rfl)
    cases h
  refine A_cX (k' := 1) (n' := 6) rfl rfl (A_runVX (rest := [.int 0, .ref o]) X dL_meanFace_4 (c_X10_meanFace g0 g3 g7 g10 g12  hct1) kY_X10_meanFace kw_1101 g0 rfl rfl ⟨(Nat.le_of_ble_eq_true rfl), (Nat.le_of_ble_eq_true rfl), (Nat.le_of_ble_eq_true rfl), (Nat.le_of_ble_eq_true rfl)⟩ rfl (Nat.le_of_ble_eq_true rfl)) (fun C hp1 hP => by obtain ⟨hC, _⟩ := hP; cases hC) (fun v9 hp1 al9 hP => ?_)
  obtain ⟨u9, hu9, rfl, rfl, rfl⟩ := hP
  cases hu9
  refine A_st (st' := [.double t1, .int 0, .ref o]) rfl ?_
  refine A_dast X dL_meanFace_7 g39 (by decide) (fun hp1 (k1 : hp1 o = some (.inl (kC E 2, 1, .inr (.inr (.inr (.inl (vf_upd ow (Int32.toNatClampNeg 0) t1))))))) n1 => ?_)
  refine A_goto (tgt := 14) X dL_meanFace_8 (by decide) ?_
  refine A_iconst (v := 0) X dL_meanFace_14 (by decide) ?_
  cases h
  exact A_iretX X dL_meanFace_15 hr ⟨rfl, k1, (fun q z0 => (n1 q z0)), rfl⟩ (Nat.le_of_ble_eq_true rfl) (Nat.le_of_ble_eq_true rfl)
abbrev P_L_rankOf (E : KE) (x : Nat) (o : Nat)  (hp : Hp) (al : Option Nat) (out : Int32 × (Nat → Int64)) : Option Value → Hp → Option Nat → Prop := fun v0 hp' al' => v0 = some (.int out.1) ∧ hp' o = some (.inl (kC E 1, 1, .inr (.inl out.2))) ∧ (∀ q, q ≠ o → hp' q = hp q) ∧ al = al'
set_option maxHeartbeats 4000000 in
set_option maxRecDepth 100000 in
theorem c_L_rankOf {E : KE} {l : Launch} {hp : Hp} {N : Nat} {x : Nat} {o : Nat} {sd : Int32} {mn : Int32} {th : Int32} {pc : Int32} {lt : Nat → Int32} {tc : Int32} {fr : Nat → Int32} {ov : Nat → Int64} {a1 : Int32} {out : Int32 × (Nat → Int64)} (g0 : hp x = some (.inr (10, [.ref (x + 126), .ref (x + 128), .ref (x + 1), .ref (x + 3), .ref (x + 16), .ref (x + 18), .ref (x + 124), .ref (x + 125)]))) (g3 : hp (x + 3) = some (.inr (2, [.ref (x + 4), .ref (x + 7), .ref (x + 10), .ref (x + 13), .int sd, .int mn, .int th]))) (g7 : hp (x + 7) = some (.inr (7, [.ref (x + 8), .ref (x + 9), .int pc]))) (g9 : hp (x + 9) = some (.inl (kC E 0, 24, .inl lt))) (g10 : hp (x + 10) = some (.inr (4, [.ref (x + 11), .ref (x + 12), .int tc]))) (g12 : hp (x + 12) = some (.inl (kC E 0, 432, .inl fr))) (g39 : hp o = some (.inl (kC E 1, 1, .inr (.inl ov)))) (hz0 : (x + 13) ≤ o ∨ (o + 1) ≤ x) (h : f_L_rankOf N pc lt fr ov a1 = some out) : AH E l yL_rankOf cL_rankOf 4 (Option.some Jvm.ClassFile.FieldType.int) [((0 : Nat), (9 : Nat), (12 : Nat), (28 : Nat))] ⟨9, 1, 6, 145⟩ [.ref x, .int a1, .ref o] hp none (P_L_rankOf E x o hp none out) := by
  refine A_ofH (by decide +kernel) (Nat.le_of_ble_eq_true rfl) ?_
  intro p e s m args below meth c X hr htb
  have X : CX E p l s m args meth c "DiceAuditLaw" cL_rankOf 4 := X
  refine A_L (L' := [(0, .ref x), (1, .int a1), (2, .ref o)]) rfl ?_
  unfold f_L_rankOf at h
  refine A_aload_n X dL_rankOf_0 2 rfl ?_
  refine A_iconst (v := 0) X dL_rankOf_1 (by decide) ?_
  refine A_aload_n X dL_rankOf_2 0 rfl ?_
  refine A_iload_n X dL_rankOf_3 1 rfl ?_
  rcases hbd_o h with ⟨C9, hc9, h⟩ | ⟨t1, hct1, h⟩
  · refine A_cX (k' := 1) (n' := 6) rfl rfl (A_runVX (rest := [.int 0, .ref o]) X dL_rankOf_4 (c_X10_rankOf g0 g3 g7 g9 g10 g12  hc9) kY_X10_rankOf kw_1108 g0 rfl rfl ⟨(Nat.le_of_ble_eq_true rfl), (Nat.le_of_ble_eq_true rfl), (Nat.le_of_ble_eq_true rfl), (Nat.le_of_ble_eq_true rfl)⟩ rfl (Nat.le_of_ble_eq_true rfl)) (fun C hp1 hP => ?_) (fun v hp1 al1 hP => by obtain ⟨u, hu, _⟩ := hP; cases hu)
    obtain ⟨hC, rfl⟩ := hP
    cases hC
    rcases ite_o h with ⟨rfl, h⟩ | h
    · refine A_catch (name := "java/lang/IndexOutOfBoundsException") (Lc := []) (stc := []) X [] ⟨0, 9, 12, 28⟩ [] (htb.trans rfl) (fun z hz => nomatch hz) (by decide) (by decide) kw_953 kw_967 (fun q9 => ?_)
      refine A_astore_n (L' := [(3, .ref q9), (0, .ref x), (1, .int a1), (2, .ref o)]) X dL_rankOf_12 rfl (by decide) rfl ?_
      refine A_iconst (v := 1) X dL_rankOf_13 (by decide) ?_
      cases h
      exact A_iretX X dL_rankOf_14 hr ⟨rfl, g39, (fun q z0 => rfl), rfl⟩ (Nat.le_of_ble_eq_true rfl) (Nat.le_of_ble_eq_true rfl)
    cases h
  refine A_cX (k' := 1) (n' := 6) rfl rfl (A_runVX (rest := [.int 0, .ref o]) X dL_rankOf_4 (c_X10_rankOf g0 g3 g7 g9 g10 g12  hct1) kY_X10_rankOf kw_1108 g0 rfl rfl ⟨(Nat.le_of_ble_eq_true rfl), (Nat.le_of_ble_eq_true rfl), (Nat.le_of_ble_eq_true rfl), (Nat.le_of_ble_eq_true rfl)⟩ rfl (Nat.le_of_ble_eq_true rfl)) (fun C hp1 hP => by obtain ⟨hC, _⟩ := hP; cases hC) (fun v9 hp1 al9 hP => ?_)
  obtain ⟨u9, hu9, rfl, rfl, rfl⟩ := hP
  cases hu9
  refine A_st (st' := [.int t1, .int 0, .ref o]) rfl ?_
  refine A_i2l X dL_rankOf_7 ?_
  refine A_last X dL_rankOf_8 g39 (by decide) (fun hp1 (k1 : hp1 o = some (.inl (kC E 1, 1, .inr (.inl (vp_updL ov (Int32.toNatClampNeg 0) t1.toInt64))))) n1 => ?_)
  refine A_goto (tgt := 15) X dL_rankOf_9 (by decide) ?_
  refine A_iconst (v := 0) X dL_rankOf_15 (by decide) ?_
  cases h
  exact A_iretX X dL_rankOf_16 hr ⟨rfl, k1, (fun q z0 => (n1 q z0)), rfl⟩ (Nat.le_of_ble_eq_true rfl) (Nat.le_of_ble_eq_true rfl)
abbrev P_L_playerWithRank (E : KE) (x : Nat) (o : Nat)  (hp : Hp) (al : Option Nat) (out : Int32 × (Nat → Int64)) : Option Value → Hp → Option Nat → Prop := fun v0 hp' al' => v0 = some (.int out.1) ∧ hp' o = some (.inl (kC E 1, 1, .inr (.inl out.2))) ∧ (∀ q, q ≠ o → hp' q = hp q) ∧ al = al'
set_option maxHeartbeats 4000000 in
set_option maxRecDepth 100000 in
theorem c_L_playerWithRank {E : KE} {l : Launch} {hp : Hp} {N : Nat} {x : Nat} {o : Nat} {sd : Int32} {mn : Int32} {th : Int32} {pc : Int32} {lt : Nat → Int32} {tc : Int32} {fr : Nat → Int32} {ov : Nat → Int64} {a1 : Int32} {out : Int32 × (Nat → Int64)} (g0 : hp x = some (.inr (10, [.ref (x + 126), .ref (x + 128), .ref (x + 1), .ref (x + 3), .ref (x + 16), .ref (x + 18), .ref (x + 124), .ref (x + 125)]))) (g3 : hp (x + 3) = some (.inr (2, [.ref (x + 4), .ref (x + 7), .ref (x + 10), .ref (x + 13), .int sd, .int mn, .int th]))) (g7 : hp (x + 7) = some (.inr (7, [.ref (x + 8), .ref (x + 9), .int pc]))) (g9 : hp (x + 9) = some (.inl (kC E 0, 24, .inl lt))) (g10 : hp (x + 10) = some (.inr (4, [.ref (x + 11), .ref (x + 12), .int tc]))) (g12 : hp (x + 12) = some (.inl (kC E 0, 432, .inl fr))) (g39 : hp o = some (.inl (kC E 1, 1, .inr (.inl ov)))) (hz0 : (x + 13) ≤ o ∨ (o + 1) ≤ x) (h : f_L_playerWithRank N pc lt fr ov a1 = some out) : AH E l yL_playerWithRank cL_playerWithRank 4 (Option.some Jvm.ClassFile.FieldType.int) [((0 : Nat), (9 : Nat), (12 : Nat), (44 : Nat))] ⟨7, 1, 6, 135⟩ [.ref x, .int a1, .ref o] hp none (P_L_playerWithRank E x o hp none out) := by
  refine A_ofH (by decide +kernel) (Nat.le_of_ble_eq_true rfl) ?_
  intro p e s m args below meth c X hr htb
  have X : CX E p l s m args meth c "DiceAuditLaw" cL_playerWithRank 4 := X
  refine A_L (L' := [(0, .ref x), (1, .int a1), (2, .ref o)]) rfl ?_
  unfold f_L_playerWithRank at h
  refine A_aload_n X dL_playerWithRank_0 2 rfl ?_
  refine A_iconst (v := 0) X dL_playerWithRank_1 (by decide) ?_
  refine A_aload_n X dL_playerWithRank_2 0 rfl ?_
  refine A_iload_n X dL_playerWithRank_3 1 rfl ?_
  rcases hbd_o h with ⟨C9, hc9, h⟩ | ⟨t1, hct1, h⟩
  · refine A_cX (k' := 1) (n' := 6) rfl rfl (A_runVX (rest := [.int 0, .ref o]) X dL_playerWithRank_4 (c_X10_playerWithRank g0 g3 g7 g9 g10 g12  hc9) kY_X10_playerWithRank kw_1125 g0 rfl rfl ⟨(Nat.le_of_ble_eq_true rfl), (Nat.le_of_ble_eq_true rfl), (Nat.le_of_ble_eq_true rfl), (Nat.le_of_ble_eq_true rfl)⟩ rfl (Nat.le_of_ble_eq_true rfl)) (fun C hp1 hP => ?_) (fun v hp1 al1 hP => by obtain ⟨u, hu, _⟩ := hP; cases hu)
    obtain ⟨hC, rfl⟩ := hP
    cases hC
    rcases ite_o h with ⟨rfl, h⟩ | h
    · refine A_catch (name := "java/util/NoSuchElementException") (Lc := []) (stc := []) X [] ⟨0, 9, 12, 44⟩ [] (htb.trans rfl) (fun z hz => nomatch hz) (by decide) (by decide) kw_1024 kw_1035 (fun q9 => ?_)
      refine A_astore_n (L' := [(3, .ref q9), (0, .ref x), (1, .int a1), (2, .ref o)]) X dL_playerWithRank_12 rfl (by decide) rfl ?_
      refine A_iconst (v := 1) X dL_playerWithRank_13 (by decide) ?_
      cases h
      exact A_iretX X dL_playerWithRank_14 hr ⟨rfl, g39, (fun q z0 => rfl), rfl⟩ (Nat.le_of_ble_eq_true rfl) (Nat.le_of_ble_eq_true rfl)
    cases h
  refine A_cX (k' := 1) (n' := 6) rfl rfl (A_runVX (rest := [.int 0, .ref o]) X dL_playerWithRank_4 (c_X10_playerWithRank g0 g3 g7 g9 g10 g12  hct1) kY_X10_playerWithRank kw_1125 g0 rfl rfl ⟨(Nat.le_of_ble_eq_true rfl), (Nat.le_of_ble_eq_true rfl), (Nat.le_of_ble_eq_true rfl), (Nat.le_of_ble_eq_true rfl)⟩ rfl (Nat.le_of_ble_eq_true rfl)) (fun C hp1 hP => by obtain ⟨hC, _⟩ := hP; cases hC) (fun v9 hp1 al9 hP => ?_)
  obtain ⟨u9, hu9, rfl, rfl, rfl⟩ := hP
  cases hu9
  refine A_st (st' := [.int t1, .int 0, .ref o]) rfl ?_
  refine A_i2l X dL_playerWithRank_7 ?_
  refine A_last X dL_playerWithRank_8 g39 (by decide) (fun hp1 (k1 : hp1 o = some (.inl (kC E 1, 1, .inr (.inl (vp_updL ov (Int32.toNatClampNeg 0) t1.toInt64))))) n1 => ?_)
  refine A_goto (tgt := 15) X dL_playerWithRank_9 (by decide) ?_
  refine A_iconst (v := 0) X dL_playerWithRank_15 (by decide) ?_
  cases h
  exact A_iretX X dL_playerWithRank_16 hr ⟨rfl, k1, (fun q z0 => (n1 q z0)), rfl⟩ (Nat.le_of_ble_eq_true rfl) (Nat.le_of_ble_eq_true rfl)
abbrev P_L_longestRun (E : KE) (x : Nat) (o : Nat)  (hp : Hp) (al : Option Nat) (out : Int32 × (Nat → Int64)) : Option Value → Hp → Option Nat → Prop := fun v0 hp' al' => v0 = some (.int out.1) ∧ hp' o = some (.inl (kC E 1, 1, .inr (.inl out.2))) ∧ (∀ q, q ≠ o → hp' q = hp q) ∧ al = al'
set_option maxHeartbeats 4000000 in
set_option maxRecDepth 100000 in
theorem c_L_longestRun {E : KE} {l : Launch} {hp : Hp} {N : Nat} {x : Nat} {o : Nat} {sd : Int32} {mn : Int32} {th : Int32} {pc : Int32} {tc : Int32} {en : Nat → Int32} {ov : Nat → Int64} {a1 : Int32} {out : Int32 × (Nat → Int64)} (g0 : hp x = some (.inr (10, [.ref (x + 126), .ref (x + 128), .ref (x + 1), .ref (x + 3), .ref (x + 16), .ref (x + 18), .ref (x + 124), .ref (x + 125)]))) (g3 : hp (x + 3) = some (.inr (2, [.ref (x + 4), .ref (x + 7), .ref (x + 10), .ref (x + 13), .int sd, .int mn, .int th]))) (g7 : hp (x + 7) = some (.inr (7, [.ref (x + 8), .ref (x + 9), .int pc]))) (g10 : hp (x + 10) = some (.inr (4, [.ref (x + 11), .ref (x + 12), .int tc]))) (g11 : hp (x + 11) = some (.inl (kC E 0, 300, .inl en))) (g39 : hp o = some (.inl (kC E 1, 1, .inr (.inl ov)))) (hz0 : (x + 12) ≤ o ∨ (o + 1) ≤ x) (h : f_L_longestRun N pc tc en ov a1 = some out) : AH E l yL_longestRun cL_longestRun 4 (Option.some Jvm.ClassFile.FieldType.int) [((0 : Nat), (9 : Nat), (12 : Nat), (28 : Nat))] ⟨9, 1, 6, 145⟩ [.ref x, .int a1, .ref o] hp none (P_L_longestRun E x o hp none out) := by
  refine A_ofH (by decide +kernel) (Nat.le_of_ble_eq_true rfl) ?_
  intro p e s m args below meth c X hr htb
  have X : CX E p l s m args meth c "DiceAuditLaw" cL_longestRun 4 := X
  refine A_L (L' := [(0, .ref x), (1, .int a1), (2, .ref o)]) rfl ?_
  unfold f_L_longestRun at h
  refine A_aload_n X dL_longestRun_0 2 rfl ?_
  refine A_iconst (v := 0) X dL_longestRun_1 (by decide) ?_
  refine A_aload_n X dL_longestRun_2 0 rfl ?_
  refine A_iload_n X dL_longestRun_3 1 rfl ?_
  rcases hbd_o h with ⟨C9, hc9, h⟩ | ⟨t1, hct1, h⟩
  · refine A_cX (k' := 1) (n' := 6) rfl rfl (A_runVX (rest := [.int 0, .ref o]) X dL_longestRun_4 (c_X10_longestRun g0 g3 g7 g10 g11  hc9) kY_X10_longestRun kw_1133 g0 rfl rfl ⟨(Nat.le_of_ble_eq_true rfl), (Nat.le_of_ble_eq_true rfl), (Nat.le_of_ble_eq_true rfl), (Nat.le_of_ble_eq_true rfl)⟩ rfl (Nat.le_of_ble_eq_true rfl)) (fun C hp1 hP => ?_) (fun v hp1 al1 hP => by obtain ⟨u, hu, _⟩ := hP; cases hu)
    obtain ⟨hC, rfl⟩ := hP
    cases hC
    rcases ite_o h with ⟨rfl, h⟩ | h
    · refine A_catch (name := "java/lang/IndexOutOfBoundsException") (Lc := []) (stc := []) X [] ⟨0, 9, 12, 28⟩ [] (htb.trans rfl) (fun z hz => nomatch hz) (by decide) (by decide) kw_953 kw_967 (fun q9 => ?_)
      refine A_astore_n (L' := [(3, .ref q9), (0, .ref x), (1, .int a1), (2, .ref o)]) X dL_longestRun_12 rfl (by decide) rfl ?_
      refine A_iconst (v := 1) X dL_longestRun_13 (by decide) ?_
      cases h
      exact A_iretX X dL_longestRun_14 hr ⟨rfl, g39, (fun q z0 => rfl), rfl⟩ (Nat.le_of_ble_eq_true rfl) (Nat.le_of_ble_eq_true rfl)
    cases h
  refine A_cX (k' := 1) (n' := 6) rfl rfl (A_runVX (rest := [.int 0, .ref o]) X dL_longestRun_4 (c_X10_longestRun g0 g3 g7 g10 g11  hct1) kY_X10_longestRun kw_1133 g0 rfl rfl ⟨(Nat.le_of_ble_eq_true rfl), (Nat.le_of_ble_eq_true rfl), (Nat.le_of_ble_eq_true rfl), (Nat.le_of_ble_eq_true rfl)⟩ rfl (Nat.le_of_ble_eq_true rfl)) (fun C hp1 hP => by obtain ⟨hC, _⟩ := hP; cases hC) (fun v9 hp1 al9 hP => ?_)
  obtain ⟨u9, hu9, rfl, rfl, rfl⟩ := hP
  cases hu9
  refine A_st (st' := [.int t1, .int 0, .ref o]) rfl ?_
  refine A_i2l X dL_longestRun_7 ?_
  refine A_last X dL_longestRun_8 g39 (by decide) (fun hp1 (k1 : hp1 o = some (.inl (kC E 1, 1, .inr (.inl (vp_updL ov (Int32.toNatClampNeg 0) t1.toInt64))))) n1 => ?_)
  refine A_goto (tgt := 15) X dL_longestRun_9 (by decide) ?_
  refine A_iconst (v := 0) X dL_longestRun_15 (by decide) ?_
  cases h
  exact A_iretX X dL_longestRun_16 hr ⟨rfl, k1, (fun q z0 => (n1 q z0)), rfl⟩ (Nat.le_of_ble_eq_true rfl) (Nat.le_of_ble_eq_true rfl)
abbrev P_L_throwsOfPair (E : KE) (x : Nat) (o : Nat)  (hp : Hp) (al : Option Nat) (out : Int32 × (Nat → Int64)) : Option Value → Hp → Option Nat → Prop := fun v0 hp' al' => v0 = some (.int out.1) ∧ hp' o = some (.inl (kC E 1, 1, .inr (.inl out.2))) ∧ (∀ q, q ≠ o → hp' q = hp q) ∧ al = al'
set_option maxHeartbeats 4000000 in
set_option maxRecDepth 100000 in
theorem c_L_throwsOfPair {E : KE} {l : Launch} {hp : Hp} {N : Nat} {x : Nat} {o : Nat} {sd : Int32} {mn : Int32} {th : Int32} {dc : Int32} {pc : Int32} {tc : Int32} {fr : Nat → Int32} {ov : Nat → Int64} {a1 : Int32} {a2 : Int32} {out : Int32 × (Nat → Int64)} (g0 : hp x = some (.inr (10, [.ref (x + 126), .ref (x + 128), .ref (x + 1), .ref (x + 3), .ref (x + 16), .ref (x + 18), .ref (x + 124), .ref (x + 125)]))) (g3 : hp (x + 3) = some (.inr (2, [.ref (x + 4), .ref (x + 7), .ref (x + 10), .ref (x + 13), .int sd, .int mn, .int th]))) (g4 : hp (x + 4) = some (.inr (0, [.ref (x + 5), .ref (x + 6), .int dc]))) (g7 : hp (x + 7) = some (.inr (7, [.ref (x + 8), .ref (x + 9), .int pc]))) (g10 : hp (x + 10) = some (.inr (4, [.ref (x + 11), .ref (x + 12), .int tc]))) (g12 : hp (x + 12) = some (.inl (kC E 0, 432, .inl fr))) (g39 : hp o = some (.inl (kC E 1, 1, .inr (.inl ov)))) (hz0 : (x + 13) ≤ o ∨ (o + 1) ≤ x) (h : f_L_throwsOfPair N dc pc fr ov a1 a2 = some out) : AH E l yL_throwsOfPair cL_throwsOfPair 5 (Option.some Jvm.ClassFile.FieldType.int) [((0 : Nat), (10 : Nat), (13 : Nat), (28 : Nat))] ⟨10, 2, 12, 168⟩ [.ref x, .int a1, .int a2, .ref o] hp none (P_L_throwsOfPair E x o hp none out) := by
  refine A_ofH (by decide +kernel) (Nat.le_of_ble_eq_true rfl) ?_
  intro p e s m args below meth c X hr htb
  have X : CX E p l s m args meth c "DiceAuditLaw" cL_throwsOfPair 5 := X
  refine A_L (L' := [(0, .ref x), (1, .int a1), (2, .int a2), (3, .ref o)]) rfl ?_
  unfold f_L_throwsOfPair at h
  refine A_aload_n X dL_throwsOfPair_0 3 rfl ?_
  refine A_iconst (v := 0) X dL_throwsOfPair_1 (by decide) ?_
  refine A_aload_n X dL_throwsOfPair_2 0 rfl ?_
  refine A_iload_n X dL_throwsOfPair_3 1 rfl ?_
  refine A_iload_n X dL_throwsOfPair_4 2 rfl ?_
  rcases hbd_o h with ⟨C9, hc9, h⟩ | ⟨t1, hct1, h⟩
  · refine A_cX (k' := 2) (n' := 12) rfl rfl (A_runVX (rest := [.int 0, .ref o]) X dL_throwsOfPair_5 (c_X10_throwsOfPair g0 g3 g4 g7 g10 g12  hc9) kY_X10_throwsOfPair kw_1146 g0 rfl rfl ⟨(Nat.le_of_ble_eq_true rfl), (Nat.le_of_ble_eq_true rfl), (Nat.le_of_ble_eq_true rfl), (Nat.le_of_ble_eq_true rfl)⟩ rfl (Nat.le_of_ble_eq_true rfl)) (fun C hp1 hP => ?_) (fun v hp1 al1 hP => by obtain ⟨u, hu, _⟩ := hP; cases hu)
    obtain ⟨hC, rfl⟩ := hP
    cases hC
    rcases ite_o h with ⟨rfl, h⟩ | h
    · refine A_catch (name := "java/lang/IndexOutOfBoundsException") (Lc := []) (stc := []) X [] ⟨0, 10, 13, 28⟩ [] (htb.trans rfl) (fun z hz => nomatch hz) (by decide) (by decide) kw_953 kw_967 (fun q9 => ?_)
      refine A_astore (L' := [(4, .ref q9), (0, .ref x), (1, .int a1), (2, .int a2), (3, .ref o)]) X dL_throwsOfPair_13 (by decide) rfl ?_
      refine A_iconst (v := 1) X dL_throwsOfPair_15 (by decide) ?_
      cases h
      exact A_iretX X dL_throwsOfPair_16 hr ⟨rfl, g39, (fun q z0 => rfl), rfl⟩ (Nat.le_of_ble_eq_true rfl) (Nat.le_of_ble_eq_true rfl)
    cases h
  refine A_cX (k' := 2) (n' := 12) rfl rfl (A_runVX (rest := [.int 0, .ref o]) X dL_throwsOfPair_5 (c_X10_throwsOfPair g0 g3 g4 g7 g10 g12  hct1) kY_X10_throwsOfPair kw_1146 g0 rfl rfl ⟨(Nat.le_of_ble_eq_true rfl), (Nat.le_of_ble_eq_true rfl), (Nat.le_of_ble_eq_true rfl), (Nat.le_of_ble_eq_true rfl)⟩ rfl (Nat.le_of_ble_eq_true rfl)) (fun C hp1 hP => by obtain ⟨hC, _⟩ := hP; cases hC) (fun v9 hp1 al9 hP => ?_)
  obtain ⟨u9, hu9, rfl, rfl, rfl⟩ := hP
  cases hu9
  refine A_st (st' := [.int t1, .int 0, .ref o]) rfl ?_
  refine A_i2l X dL_throwsOfPair_8 ?_
  refine A_last X dL_throwsOfPair_9 g39 (by decide) (fun hp1 (k1 : hp1 o = some (.inl (kC E 1, 1, .inr (.inl (vp_updL ov (Int32.toNatClampNeg 0) t1.toInt64))))) n1 => ?_)
  refine A_goto (tgt := 17) X dL_throwsOfPair_10 (by decide) ?_
  refine A_iconst (v := 0) X dL_throwsOfPair_17 (by decide) ?_
  cases h
  exact A_iretX X dL_throwsOfPair_18 hr ⟨rfl, k1, (fun q z0 => (n1 q z0)), rfl⟩ (Nat.le_of_ble_eq_true rfl) (Nat.le_of_ble_eq_true rfl)
abbrev P_L_frequency (E : KE) (x : Nat) (o : Nat)  (hp : Hp) (al : Option Nat) (out : Int32 × (Nat → Int64)) : Option Value → Hp → Option Nat → Prop := fun v0 hp' al' => v0 = some (.int out.1) ∧ hp' o = some (.inl (kC E 1, 1, .inr (.inl out.2))) ∧ (∀ q, q ≠ o → hp' q = hp q) ∧ al = al'
set_option maxHeartbeats 4000000 in
set_option maxRecDepth 100000 in
theorem c_L_frequency {E : KE} {l : Launch} {hp : Hp} {x : Nat} {o : Nat} {sd : Int32} {mn : Int32} {th : Int32} {dc : Int32} {fc : Nat → Int32} {pc : Int32} {tc : Int32} {fr : Nat → Int32} {ov : Nat → Int64} {a1 : Int32} {a2 : Int32} {a3 : Int32} {out : Int32 × (Nat → Int64)} (g0 : hp x = some (.inr (10, [.ref (x + 126), .ref (x + 128), .ref (x + 1), .ref (x + 3), .ref (x + 16), .ref (x + 18), .ref (x + 124), .ref (x + 125)]))) (g3 : hp (x + 3) = some (.inr (2, [.ref (x + 4), .ref (x + 7), .ref (x + 10), .ref (x + 13), .int sd, .int mn, .int th]))) (g4 : hp (x + 4) = some (.inr (0, [.ref (x + 5), .ref (x + 6), .int dc]))) (g5 : hp (x + 5) = some (.inl (kC E 0, 6, .inl fc))) (g7 : hp (x + 7) = some (.inr (7, [.ref (x + 8), .ref (x + 9), .int pc]))) (g10 : hp (x + 10) = some (.inr (4, [.ref (x + 11), .ref (x + 12), .int tc]))) (g12 : hp (x + 12) = some (.inl (kC E 0, 432, .inl fr))) (g39 : hp o = some (.inl (kC E 1, 1, .inr (.inl ov)))) (hz0 : (x + 13) ≤ o ∨ (o + 1) ≤ x) (h : f_L_frequency dc fc pc fr ov a1 a2 a3 = some out) : AH E l yL_frequency cL_frequency 6 (Option.some Jvm.ClassFile.FieldType.int) [((0 : Nat), (12 : Nat), (15 : Nat), (28 : Nat)), ((0 : Nat), (12 : Nat), (19 : Nat), (19 : Nat))] ⟨10, 3, 18, 169⟩ [.ref x, .int a1, .int a2, .int a3, .ref o] hp none (P_L_frequency E x o hp none out) := by
  refine A_ofH (by decide +kernel) (Nat.le_of_ble_eq_true rfl) ?_
  intro p e s m args below meth c X hr htb
  have X : CX E p l s m args meth c "DiceAuditLaw" cL_frequency 6 := X
  refine A_L (L' := [(0, .ref x), (1, .int a1), (2, .int a2), (3, .int a3), (4, .ref o)]) rfl ?_
  unfold f_L_frequency at h
  refine A_aload X dL_frequency_0 4 rfl ?_
  refine A_iconst (v := 0) X dL_frequency_2 (by decide) ?_
  refine A_aload_n X dL_frequency_3 0 rfl ?_
  refine A_iload_n X dL_frequency_4 1 rfl ?_
  refine A_iload_n X dL_frequency_5 2 rfl ?_
  refine A_iload_n X dL_frequency_6 3 rfl ?_
  rcases hbd_o h with ⟨C9, hc9, h⟩ | ⟨t1, hct1, h⟩
  · refine A_cX (k' := 3) (n' := 18) rfl rfl (A_runVX (rest := [.int 0, .ref o]) X dL_frequency_7 (c_X10_frequency g0 g3 g4 g5 g7 g10 g12  hc9) kY_X10_frequency kw_1159 g0 rfl rfl ⟨(Nat.le_of_ble_eq_true rfl), (Nat.le_of_ble_eq_true rfl), (Nat.le_of_ble_eq_true rfl), (Nat.le_of_ble_eq_true rfl)⟩ rfl (Nat.le_of_ble_eq_true rfl)) (fun C hp1 hP => ?_) (fun v hp1 al1 hP => by obtain ⟨u, hu, _⟩ := hP; cases hu)
    obtain ⟨hC, rfl⟩ := hP
    cases hC
    rcases ite_o h with ⟨rfl, h⟩ | h
    · refine A_catch (name := "java/lang/IndexOutOfBoundsException") (Lc := []) (stc := []) X [] ⟨0, 12, 15, 28⟩ [⟨0, 12, 19, 19⟩] (htb.trans rfl) (fun z hz => nomatch hz) (by decide) (by decide) kw_953 kw_967 (fun q9 => ?_)
      refine A_astore (L' := [(5, .ref q9), (0, .ref x), (1, .int a1), (2, .int a2), (3, .int a3), (4, .ref o)]) X dL_frequency_15 (by decide) rfl ?_
      refine A_iconst (v := 1) X dL_frequency_17 (by decide) ?_
      cases h
      exact A_iretX X dL_frequency_18 hr ⟨rfl, g39, (fun q z0 => rfl), rfl⟩ (Nat.le_of_ble_eq_true rfl) (Nat.le_of_ble_eq_true rfl)
    rcases ite_o h with ⟨rfl, h⟩ | h
    · refine A_catch (name := "java/lang/IllegalArgumentException") (Lc := []) (stc := []) X [⟨0, 12, 15, 28⟩] ⟨0, 12, 19, 19⟩ [] (htb.trans rfl) (fun z hz => by cases List.mem_singleton.mp hz; exact Or.inr ⟨by decide, "java/lang/IndexOutOfBoundsException", kw_953, List.mem_of_getElem? (i := 7) rfl⟩) (by decide) (by decide) kw_918 kw_928 (fun q9 => ?_)
      refine A_astore (L' := [(5, .ref q9), (0, .ref x), (1, .int a1), (2, .int a2), (3, .int a3), (4, .ref o)]) X dL_frequency_19 (by decide) rfl ?_
      refine A_iconst (v := 2) X dL_frequency_21 (by decide) ?_
      cases h
      exact A_iretX X dL_frequency_22 hr ⟨rfl, g39, (fun q z0 => rfl), rfl⟩ (Nat.le_of_ble_eq_true rfl) (Nat.le_of_ble_eq_true rfl)
    cases h
  refine A_cX (k' := 3) (n' := 18) rfl rfl (A_runVX (rest := [.int 0, .ref o]) X dL_frequency_7 (c_X10_frequency g0 g3 g4 g5 g7 g10 g12  hct1) kY_X10_frequency kw_1159 g0 rfl rfl ⟨(Nat.le_of_ble_eq_true rfl), (Nat.le_of_ble_eq_true rfl), (Nat.le_of_ble_eq_true rfl), (Nat.le_of_ble_eq_true rfl)⟩ rfl (Nat.le_of_ble_eq_true rfl)) (fun C hp1 hP => by obtain ⟨hC, _⟩ := hP; cases hC) (fun v9 hp1 al9 hP => ?_)
  obtain ⟨u9, hu9, rfl, rfl, rfl⟩ := hP
  cases hu9
  refine A_st (st' := [.int t1, .int 0, .ref o]) rfl ?_
  refine A_i2l X dL_frequency_10 ?_
  refine A_last X dL_frequency_11 g39 (by decide) (fun hp1 (k1 : hp1 o = some (.inl (kC E 1, 1, .inr (.inl (vp_updL ov (Int32.toNatClampNeg 0) t1.toInt64))))) n1 => ?_)
  refine A_goto (tgt := 23) X dL_frequency_12 (by decide) ?_
  refine A_iconst (v := 0) X dL_frequency_23 (by decide) ?_
  cases h
  exact A_iretX X dL_frequency_24 hr ⟨rfl, k1, (fun q z0 => (n1 q z0)), rfl⟩ (Nat.le_of_ble_eq_true rfl) (Nat.le_of_ble_eq_true rfl)
abbrev P_L_commonFace (E : KE) (x : Nat) (o : Nat)  (hp : Hp) (al : Option Nat) (out : Int32 × (Nat → Int64)) : Option Value → Hp → Option Nat → Prop := fun v0 hp' al' => v0 = some (.int out.1) ∧ hp' o = some (.inl (kC E 1, 1, .inr (.inl out.2))) ∧ (∀ q, q ≠ o → hp' q = hp q) ∧ al = al'
set_option maxHeartbeats 4000000 in
set_option maxRecDepth 100000 in
theorem c_L_commonFace {E : KE} {l : Launch} {hp : Hp} {N : Nat} {x : Nat} {o : Nat} {sd : Int32} {mn : Int32} {th : Int32} {dc : Int32} {fc : Nat → Int32} {pc : Int32} {tc : Int32} {fr : Nat → Int32} {ov : Nat → Int64} {a1 : Int32} {a2 : Int32} {out : Int32 × (Nat → Int64)} (g0 : hp x = some (.inr (10, [.ref (x + 126), .ref (x + 128), .ref (x + 1), .ref (x + 3), .ref (x + 16), .ref (x + 18), .ref (x + 124), .ref (x + 125)]))) (g3 : hp (x + 3) = some (.inr (2, [.ref (x + 4), .ref (x + 7), .ref (x + 10), .ref (x + 13), .int sd, .int mn, .int th]))) (g4 : hp (x + 4) = some (.inr (0, [.ref (x + 5), .ref (x + 6), .int dc]))) (g5 : hp (x + 5) = some (.inl (kC E 0, 6, .inl fc))) (g7 : hp (x + 7) = some (.inr (7, [.ref (x + 8), .ref (x + 9), .int pc]))) (g10 : hp (x + 10) = some (.inr (4, [.ref (x + 11), .ref (x + 12), .int tc]))) (g12 : hp (x + 12) = some (.inl (kC E 0, 432, .inl fr))) (g39 : hp o = some (.inl (kC E 1, 1, .inr (.inl ov)))) (hz0 : (x + 13) ≤ o ∨ (o + 1) ≤ x) (h : f_L_commonFace N dc fc pc fr ov a1 a2 = some out) : AH E l yL_commonFace cL_commonFace 5 (Option.some Jvm.ClassFile.FieldType.int) [((0 : Nat), (10 : Nat), (13 : Nat), (28 : Nat))] ⟨10, 2, 12, 169⟩ [.ref x, .int a1, .int a2, .ref o] hp none (P_L_commonFace E x o hp none out) := by
  refine A_ofH (by decide +kernel) (Nat.le_of_ble_eq_true rfl) ?_
  intro p e s m args below meth c X hr htb
  have X : CX E p l s m args meth c "DiceAuditLaw" cL_commonFace 5 := X
  refine A_L (L' := [(0, .ref x), (1, .int a1), (2, .int a2), (3, .ref o)]) rfl ?_
  unfold f_L_commonFace at h
  refine A_aload_n X dL_commonFace_0 3 rfl ?_
  refine A_iconst (v := 0) X dL_commonFace_1 (by decide) ?_
  refine A_aload_n X dL_commonFace_2 0 rfl ?_
  refine A_iload_n X dL_commonFace_3 1 rfl ?_
  refine A_iload_n X dL_commonFace_4 2 rfl ?_
  rcases hbd_o h with ⟨C9, hc9, h⟩ | ⟨t1, hct1, h⟩
  · refine A_cX (k' := 2) (n' := 12) rfl rfl (A_runVX (rest := [.int 0, .ref o]) X dL_commonFace_5 (c_X10_commonFace g0 g3 g4 g5 g7 g10 g12  hc9) kY_X10_commonFace kw_1166 g0 rfl rfl ⟨(Nat.le_of_ble_eq_true rfl), (Nat.le_of_ble_eq_true rfl), (Nat.le_of_ble_eq_true rfl), (Nat.le_of_ble_eq_true rfl)⟩ rfl (Nat.le_of_ble_eq_true rfl)) (fun C hp1 hP => ?_) (fun v hp1 al1 hP => by obtain ⟨u, hu, _⟩ := hP; cases hu)
    obtain ⟨hC, rfl⟩ := hP
    cases hC
    rcases ite_o h with ⟨rfl, h⟩ | h
    · refine A_catch (name := "java/lang/IndexOutOfBoundsException") (Lc := []) (stc := []) X [] ⟨0, 10, 13, 28⟩ [] (htb.trans rfl) (fun z hz => nomatch hz) (by decide) (by decide) kw_953 kw_967 (fun q9 => ?_)
      refine A_astore (L' := [(4, .ref q9), (0, .ref x), (1, .int a1), (2, .int a2), (3, .ref o)]) X dL_commonFace_13 (by decide) rfl ?_
      refine A_iconst (v := 1) X dL_commonFace_15 (by decide) ?_
      cases h
      exact A_iretX X dL_commonFace_16 hr ⟨rfl, g39, (fun q z0 => rfl), rfl⟩ (Nat.le_of_ble_eq_true rfl) (Nat.le_of_ble_eq_true rfl)
    cases h
  refine A_cX (k' := 2) (n' := 12) rfl rfl (A_runVX (rest := [.int 0, .ref o]) X dL_commonFace_5 (c_X10_commonFace g0 g3 g4 g5 g7 g10 g12  hct1) kY_X10_commonFace kw_1166 g0 rfl rfl ⟨(Nat.le_of_ble_eq_true rfl), (Nat.le_of_ble_eq_true rfl), (Nat.le_of_ble_eq_true rfl), (Nat.le_of_ble_eq_true rfl)⟩ rfl (Nat.le_of_ble_eq_true rfl)) (fun C hp1 hP => by obtain ⟨hC, _⟩ := hP; cases hC) (fun v9 hp1 al9 hP => ?_)
  obtain ⟨u9, hu9, rfl, rfl, rfl⟩ := hP
  cases hu9
  refine A_st (st' := [.int t1, .int 0, .ref o]) rfl ?_
  refine A_i2l X dL_commonFace_8 ?_
  refine A_last X dL_commonFace_9 g39 (by decide) (fun hp1 (k1 : hp1 o = some (.inl (kC E 1, 1, .inr (.inl (vp_updL ov (Int32.toNatClampNeg 0) t1.toInt64))))) n1 => ?_)
  refine A_goto (tgt := 17) X dL_commonFace_10 (by decide) ?_
  refine A_iconst (v := 0) X dL_commonFace_17 (by decide) ?_
  cases h
  exact A_iretX X dL_commonFace_18 hr ⟨rfl, k1, (fun q z0 => (n1 q z0)), rfl⟩ (Nat.le_of_ble_eq_true rfl) (Nat.le_of_ble_eq_true rfl)
abbrev P_L_facesSeen (E : KE) (x : Nat) (o : Nat)  (hp : Hp) (al : Option Nat) (out : Int32 × (Nat → Int64)) : Option Value → Hp → Option Nat → Prop := fun v0 hp' al' => v0 = some (.int out.1) ∧ hp' o = some (.inl (kC E 1, 1, .inr (.inl out.2))) ∧ (∀ q, q ≠ o → hp' q = hp q) ∧ al = al'
set_option maxHeartbeats 4000000 in
set_option maxRecDepth 100000 in
theorem c_L_facesSeen {E : KE} {l : Launch} {hp : Hp} {N : Nat} {x : Nat} {o : Nat} {sd : Int32} {mn : Int32} {th : Int32} {dc : Int32} {pc : Int32} {tc : Int32} {fr : Nat → Int32} {ov : Nat → Int64} {a1 : Int32} {a2 : Int32} {out : Int32 × (Nat → Int64)} (g0 : hp x = some (.inr (10, [.ref (x + 126), .ref (x + 128), .ref (x + 1), .ref (x + 3), .ref (x + 16), .ref (x + 18), .ref (x + 124), .ref (x + 125)]))) (g3 : hp (x + 3) = some (.inr (2, [.ref (x + 4), .ref (x + 7), .ref (x + 10), .ref (x + 13), .int sd, .int mn, .int th]))) (g4 : hp (x + 4) = some (.inr (0, [.ref (x + 5), .ref (x + 6), .int dc]))) (g7 : hp (x + 7) = some (.inr (7, [.ref (x + 8), .ref (x + 9), .int pc]))) (g10 : hp (x + 10) = some (.inr (4, [.ref (x + 11), .ref (x + 12), .int tc]))) (g12 : hp (x + 12) = some (.inl (kC E 0, 432, .inl fr))) (g39 : hp o = some (.inl (kC E 1, 1, .inr (.inl ov)))) (hz0 : (x + 13) ≤ o ∨ (o + 1) ≤ x) (h : f_L_facesSeen N dc pc fr ov a1 a2 = some out) : AH E l yL_facesSeen cL_facesSeen 5 (Option.some Jvm.ClassFile.FieldType.int) [((0 : Nat), (10 : Nat), (13 : Nat), (28 : Nat))] ⟨10, 2, 12, 168⟩ [.ref x, .int a1, .int a2, .ref o] hp none (P_L_facesSeen E x o hp none out) := by
  refine A_ofH (by decide +kernel) (Nat.le_of_ble_eq_true rfl) ?_
  intro p e s m args below meth c X hr htb
  have X : CX E p l s m args meth c "DiceAuditLaw" cL_facesSeen 5 := X
  refine A_L (L' := [(0, .ref x), (1, .int a1), (2, .int a2), (3, .ref o)]) rfl ?_
  unfold f_L_facesSeen at h
  refine A_aload_n X dL_facesSeen_0 3 rfl ?_
  refine A_iconst (v := 0) X dL_facesSeen_1 (by decide) ?_
  refine A_aload_n X dL_facesSeen_2 0 rfl ?_
  refine A_iload_n X dL_facesSeen_3 1 rfl ?_
  refine A_iload_n X dL_facesSeen_4 2 rfl ?_
  rcases hbd_o h with ⟨C9, hc9, h⟩ | ⟨t1, hct1, h⟩
  · refine A_cX (k' := 2) (n' := 12) rfl rfl (A_runVX (rest := [.int 0, .ref o]) X dL_facesSeen_5 (c_X10_facesSeen g0 g3 g4 g7 g10 g12  hc9) kY_X10_facesSeen kw_1173 g0 rfl rfl ⟨(Nat.le_of_ble_eq_true rfl), (Nat.le_of_ble_eq_true rfl), (Nat.le_of_ble_eq_true rfl), (Nat.le_of_ble_eq_true rfl)⟩ rfl (Nat.le_of_ble_eq_true rfl)) (fun C hp1 hP => ?_) (fun v hp1 al1 hP => by obtain ⟨u, hu, _⟩ := hP; cases hu)
    obtain ⟨hC, rfl⟩ := hP
    cases hC
    rcases ite_o h with ⟨rfl, h⟩ | h
    · refine A_catch (name := "java/lang/IndexOutOfBoundsException") (Lc := []) (stc := []) X [] ⟨0, 10, 13, 28⟩ [] (htb.trans rfl) (fun z hz => nomatch hz) (by decide) (by decide) kw_953 kw_967 (fun q9 => ?_)
      refine A_astore (L' := [(4, .ref q9), (0, .ref x), (1, .int a1), (2, .int a2), (3, .ref o)]) X dL_facesSeen_13 (by decide) rfl ?_
      refine A_iconst (v := 1) X dL_facesSeen_15 (by decide) ?_
      cases h
      exact A_iretX X dL_facesSeen_16 hr ⟨rfl, g39, (fun q z0 => rfl), rfl⟩ (Nat.le_of_ble_eq_true rfl) (Nat.le_of_ble_eq_true rfl)
    cases h
  refine A_cX (k' := 2) (n' := 12) rfl rfl (A_runVX (rest := [.int 0, .ref o]) X dL_facesSeen_5 (c_X10_facesSeen g0 g3 g4 g7 g10 g12  hct1) kY_X10_facesSeen kw_1173 g0 rfl rfl ⟨(Nat.le_of_ble_eq_true rfl), (Nat.le_of_ble_eq_true rfl), (Nat.le_of_ble_eq_true rfl), (Nat.le_of_ble_eq_true rfl)⟩ rfl (Nat.le_of_ble_eq_true rfl)) (fun C hp1 hP => by obtain ⟨hC, _⟩ := hP; cases hC) (fun v9 hp1 al9 hP => ?_)
  obtain ⟨u9, hu9, rfl, rfl, rfl⟩ := hP
  cases hu9
  refine A_st (st' := [.int t1, .int 0, .ref o]) rfl ?_
  refine A_i2l X dL_facesSeen_8 ?_
  refine A_last X dL_facesSeen_9 g39 (by decide) (fun hp1 (k1 : hp1 o = some (.inl (kC E 1, 1, .inr (.inl (vp_updL ov (Int32.toNatClampNeg 0) t1.toInt64))))) n1 => ?_)
  refine A_goto (tgt := 17) X dL_facesSeen_10 (by decide) ?_
  refine A_iconst (v := 0) X dL_facesSeen_17 (by decide) ?_
  cases h
  exact A_iretX X dL_facesSeen_18 hr ⟨rfl, k1, (fun q z0 => (n1 q z0)), rfl⟩ (Nat.le_of_ble_eq_true rfl) (Nat.le_of_ble_eq_true rfl)
abbrev P_L_latestThrow (E : KE) (x : Nat) (o : Nat)  (hp : Hp) (al : Option Nat) (out : Int32 × (Nat → Int64)) : Option Value → Hp → Option Nat → Prop := fun v0 hp' al' => v0 = some (.int out.1) ∧ hp' o = some (.inl (kC E 1, 1, .inr (.inl out.2))) ∧ (∀ q, q ≠ o → hp' q = hp q) ∧ al = al'
set_option maxHeartbeats 4000000 in
set_option maxRecDepth 100000 in
theorem c_L_latestThrow {E : KE} {l : Launch} {hp : Hp} {N : Nat} {x : Nat} {o : Nat} {sd : Int32} {mn : Int32} {th : Int32} {dc : Int32} {pc : Int32} {tc : Int32} {en : Nat → Int32} {ov : Nat → Int64} {a1 : Int32} {a2 : Int32} {out : Int32 × (Nat → Int64)} (g0 : hp x = some (.inr (10, [.ref (x + 126), .ref (x + 128), .ref (x + 1), .ref (x + 3), .ref (x + 16), .ref (x + 18), .ref (x + 124), .ref (x + 125)]))) (g3 : hp (x + 3) = some (.inr (2, [.ref (x + 4), .ref (x + 7), .ref (x + 10), .ref (x + 13), .int sd, .int mn, .int th]))) (g4 : hp (x + 4) = some (.inr (0, [.ref (x + 5), .ref (x + 6), .int dc]))) (g7 : hp (x + 7) = some (.inr (7, [.ref (x + 8), .ref (x + 9), .int pc]))) (g10 : hp (x + 10) = some (.inr (4, [.ref (x + 11), .ref (x + 12), .int tc]))) (g11 : hp (x + 11) = some (.inl (kC E 0, 300, .inl en))) (g39 : hp o = some (.inl (kC E 1, 1, .inr (.inl ov)))) (hz0 : (x + 12) ≤ o ∨ (o + 1) ≤ x) (h : f_L_latestThrow N dc pc tc en ov a1 a2 = some out) : AH E l yL_latestThrow cL_latestThrow 5 (Option.some Jvm.ClassFile.FieldType.int) [((0 : Nat), (10 : Nat), (13 : Nat), (28 : Nat))] ⟨10, 2, 12, 168⟩ [.ref x, .int a1, .int a2, .ref o] hp none (P_L_latestThrow E x o hp none out) := by
  refine A_ofH (by decide +kernel) (Nat.le_of_ble_eq_true rfl) ?_
  intro p e s m args below meth c X hr htb
  have X : CX E p l s m args meth c "DiceAuditLaw" cL_latestThrow 5 := X
  refine A_L (L' := [(0, .ref x), (1, .int a1), (2, .int a2), (3, .ref o)]) rfl ?_
  unfold f_L_latestThrow at h
  refine A_aload_n X dL_latestThrow_0 3 rfl ?_
  refine A_iconst (v := 0) X dL_latestThrow_1 (by decide) ?_
  refine A_aload_n X dL_latestThrow_2 0 rfl ?_
  refine A_iload_n X dL_latestThrow_3 1 rfl ?_
  refine A_iload_n X dL_latestThrow_4 2 rfl ?_
  rcases hbd_o h with ⟨C9, hc9, h⟩ | ⟨t1, hct1, h⟩
  · refine A_cX (k' := 2) (n' := 12) rfl rfl (A_runVX (rest := [.int 0, .ref o]) X dL_latestThrow_5 (c_X10_latestThrow g0 g3 g4 g7 g10 g11  hc9) kY_X10_latestThrow kw_1184 g0 rfl rfl ⟨(Nat.le_of_ble_eq_true rfl), (Nat.le_of_ble_eq_true rfl), (Nat.le_of_ble_eq_true rfl), (Nat.le_of_ble_eq_true rfl)⟩ rfl (Nat.le_of_ble_eq_true rfl)) (fun C hp1 hP => ?_) (fun v hp1 al1 hP => by obtain ⟨u, hu, _⟩ := hP; cases hu)
    obtain ⟨hC, rfl⟩ := hP
    cases hC
    rcases ite_o h with ⟨rfl, h⟩ | h
    · refine A_catch (name := "java/lang/IndexOutOfBoundsException") (Lc := []) (stc := []) X [] ⟨0, 10, 13, 28⟩ [] (htb.trans rfl) (fun z hz => nomatch hz) (by decide) (by decide) kw_953 kw_967 (fun q9 => ?_)
      refine A_astore (L' := [(4, .ref q9), (0, .ref x), (1, .int a1), (2, .int a2), (3, .ref o)]) X dL_latestThrow_13 (by decide) rfl ?_
      refine A_iconst (v := 1) X dL_latestThrow_15 (by decide) ?_
      cases h
      exact A_iretX X dL_latestThrow_16 hr ⟨rfl, g39, (fun q z0 => rfl), rfl⟩ (Nat.le_of_ble_eq_true rfl) (Nat.le_of_ble_eq_true rfl)
    cases h
  refine A_cX (k' := 2) (n' := 12) rfl rfl (A_runVX (rest := [.int 0, .ref o]) X dL_latestThrow_5 (c_X10_latestThrow g0 g3 g4 g7 g10 g11  hct1) kY_X10_latestThrow kw_1184 g0 rfl rfl ⟨(Nat.le_of_ble_eq_true rfl), (Nat.le_of_ble_eq_true rfl), (Nat.le_of_ble_eq_true rfl), (Nat.le_of_ble_eq_true rfl)⟩ rfl (Nat.le_of_ble_eq_true rfl)) (fun C hp1 hP => by obtain ⟨hC, _⟩ := hP; cases hC) (fun v9 hp1 al9 hP => ?_)
  obtain ⟨u9, hu9, rfl, rfl, rfl⟩ := hP
  cases hu9
  refine A_st (st' := [.int t1, .int 0, .ref o]) rfl ?_
  refine A_i2l X dL_latestThrow_8 ?_
  refine A_last X dL_latestThrow_9 g39 (by decide) (fun hp1 (k1 : hp1 o = some (.inl (kC E 1, 1, .inr (.inl (vp_updL ov (Int32.toNatClampNeg 0) t1.toInt64))))) n1 => ?_)
  refine A_goto (tgt := 17) X dL_latestThrow_10 (by decide) ?_
  refine A_iconst (v := 0) X dL_latestThrow_17 (by decide) ?_
  cases h
  exact A_iretX X dL_latestThrow_18 hr ⟨rfl, k1, (fun q z0 => (n1 q z0)), rfl⟩ (Nat.le_of_ble_eq_true rfl) (Nat.le_of_ble_eq_true rfl)
abbrev P_L_score (E : KE) (x : Nat) (o : Nat)  (hp : Hp) (al : Option Nat) (out : Int32 × (Nat → Int64)) : Option Value → Hp → Option Nat → Prop := fun v0 hp' al' => v0 = some (.int out.1) ∧ hp' o = some (.inl (kC E 1, 1, .inr (.inl out.2))) ∧ (∀ q, q ≠ o → hp' q = hp q) ∧ al = al'
set_option maxHeartbeats 4000000 in
set_option maxRecDepth 100000 in
theorem c_L_score {E : KE} {l : Launch} {hp : Hp} {N : Nat} {x : Nat} {o : Nat} {sd : Int32} {mn : Int32} {th : Int32} {dc : Int32} {fc : Nat → Int32} {pc : Int32} {tc : Int32} {fr : Nat → Int32} {ov : Nat → Int64} {a1 : Int32} {a2 : Int32} {out : Int32 × (Nat → Int64)} (g0 : hp x = some (.inr (10, [.ref (x + 126), .ref (x + 128), .ref (x + 1), .ref (x + 3), .ref (x + 16), .ref (x + 18), .ref (x + 124), .ref (x + 125)]))) (g3 : hp (x + 3) = some (.inr (2, [.ref (x + 4), .ref (x + 7), .ref (x + 10), .ref (x + 13), .int sd, .int mn, .int th]))) (g4 : hp (x + 4) = some (.inr (0, [.ref (x + 5), .ref (x + 6), .int dc]))) (g5 : hp (x + 5) = some (.inl (kC E 0, 6, .inl fc))) (g7 : hp (x + 7) = some (.inr (7, [.ref (x + 8), .ref (x + 9), .int pc]))) (g10 : hp (x + 10) = some (.inr (4, [.ref (x + 11), .ref (x + 12), .int tc]))) (g12 : hp (x + 12) = some (.inl (kC E 0, 432, .inl fr))) (g39 : hp o = some (.inl (kC E 1, 1, .inr (.inl ov)))) (hz0 : (x + 13) ≤ o ∨ (o + 1) ≤ x) (h : f_L_score N dc fc pc fr ov a1 a2 = some out) : AH E l yL_score cL_score 5 (Option.some Jvm.ClassFile.FieldType.int) [((0 : Nat), (10 : Nat), (13 : Nat), (28 : Nat))] ⟨10, 2, 12, 168⟩ [.ref x, .int a1, .int a2, .ref o] hp none (P_L_score E x o hp none out) := by
  refine A_ofH (by decide +kernel) (Nat.le_of_ble_eq_true rfl) ?_
  intro p e s m args below meth c X hr htb
  have X : CX E p l s m args meth c "DiceAuditLaw" cL_score 5 := X
  refine A_L (L' := [(0, .ref x), (1, .int a1), (2, .int a2), (3, .ref o)]) rfl ?_
  unfold f_L_score at h
  refine A_aload_n X dL_score_0 3 rfl ?_
  refine A_iconst (v := 0) X dL_score_1 (by decide) ?_
  refine A_aload_n X dL_score_2 0 rfl ?_
  refine A_iload_n X dL_score_3 1 rfl ?_
  refine A_iload_n X dL_score_4 2 rfl ?_
  rcases hbd_o h with ⟨C9, hc9, h⟩ | ⟨t1, hct1, h⟩
  · refine A_cX (k' := 2) (n' := 12) rfl rfl (A_runVX (rest := [.int 0, .ref o]) X dL_score_5 (c_X10_score g0 g3 g4 g5 g7 g10 g12  hc9) kY_X10_score kw_1195 g0 rfl rfl ⟨(Nat.le_of_ble_eq_true rfl), (Nat.le_of_ble_eq_true rfl), (Nat.le_of_ble_eq_true rfl), (Nat.le_of_ble_eq_true rfl)⟩ rfl (Nat.le_of_ble_eq_true rfl)) (fun C hp1 hP => ?_) (fun v hp1 al1 hP => by obtain ⟨u, hu, _⟩ := hP; cases hu)
    obtain ⟨hC, rfl⟩ := hP
    cases hC
    rcases ite_o h with ⟨rfl, h⟩ | h
    · refine A_catch (name := "java/lang/IndexOutOfBoundsException") (Lc := []) (stc := []) X [] ⟨0, 10, 13, 28⟩ [] (htb.trans rfl) (fun z hz => nomatch hz) (by decide) (by decide) kw_953 kw_967 (fun q9 => ?_)
      refine A_astore (L' := [(4, .ref q9), (0, .ref x), (1, .int a1), (2, .int a2), (3, .ref o)]) X dL_score_13 (by decide) rfl ?_
      refine A_iconst (v := 1) X dL_score_15 (by decide) ?_
      cases h
      exact A_iretX X dL_score_16 hr ⟨rfl, g39, (fun q z0 => rfl), rfl⟩ (Nat.le_of_ble_eq_true rfl) (Nat.le_of_ble_eq_true rfl)
    cases h
  refine A_cX (k' := 2) (n' := 12) rfl rfl (A_runVX (rest := [.int 0, .ref o]) X dL_score_5 (c_X10_score g0 g3 g4 g5 g7 g10 g12  hct1) kY_X10_score kw_1195 g0 rfl rfl ⟨(Nat.le_of_ble_eq_true rfl), (Nat.le_of_ble_eq_true rfl), (Nat.le_of_ble_eq_true rfl), (Nat.le_of_ble_eq_true rfl)⟩ rfl (Nat.le_of_ble_eq_true rfl)) (fun C hp1 hP => by obtain ⟨hC, _⟩ := hP; cases hC) (fun v9 hp1 al9 hP => ?_)
  obtain ⟨u9, hu9, rfl, rfl, rfl⟩ := hP
  cases hu9
  refine A_st (st' := [.int t1, .int 0, .ref o]) rfl ?_
  refine A_i2l X dL_score_8 ?_
  refine A_last X dL_score_9 g39 (by decide) (fun hp1 (k1 : hp1 o = some (.inl (kC E 1, 1, .inr (.inl (vp_updL ov (Int32.toNatClampNeg 0) t1.toInt64))))) n1 => ?_)
  refine A_goto (tgt := 17) X dL_score_10 (by decide) ?_
  refine A_iconst (v := 0) X dL_score_17 (by decide) ?_
  cases h
  exact A_iretX X dL_score_18 hr ⟨rfl, k1, (fun q z0 => (n1 q z0)), rfl⟩ (Nat.le_of_ble_eq_true rfl) (Nat.le_of_ble_eq_true rfl)
abbrev P_L_isSuspicious (E : KE) (x : Nat) (o : Nat)  (hp : Hp) (al : Option Nat) (out : Int32 × (Nat → Int64)) : Option Value → Hp → Option Nat → Prop := fun v0 hp' al' => v0 = some (.int out.1) ∧ hp' o = some (.inl (kC E 1, 1, .inr (.inl out.2))) ∧ (∀ q, q ≠ o → hp' q = hp q) ∧ al = al'
set_option maxHeartbeats 4000000 in
set_option maxRecDepth 100000 in
theorem c_L_isSuspicious {E : KE} {l : Launch} {hp : Hp} {N : Nat} {x : Nat} {o : Nat} {sd : Int32} {mn : Int32} {th : Int32} {dc : Int32} {fc : Nat → Int32} {pc : Int32} {tc : Int32} {fr : Nat → Int32} {ov : Nat → Int64} {a1 : Int32} {a2 : Int32} {out : Int32 × (Nat → Int64)} (g0 : hp x = some (.inr (10, [.ref (x + 126), .ref (x + 128), .ref (x + 1), .ref (x + 3), .ref (x + 16), .ref (x + 18), .ref (x + 124), .ref (x + 125)]))) (g3 : hp (x + 3) = some (.inr (2, [.ref (x + 4), .ref (x + 7), .ref (x + 10), .ref (x + 13), .int sd, .int mn, .int th]))) (g4 : hp (x + 4) = some (.inr (0, [.ref (x + 5), .ref (x + 6), .int dc]))) (g5 : hp (x + 5) = some (.inl (kC E 0, 6, .inl fc))) (g7 : hp (x + 7) = some (.inr (7, [.ref (x + 8), .ref (x + 9), .int pc]))) (g10 : hp (x + 10) = some (.inr (4, [.ref (x + 11), .ref (x + 12), .int tc]))) (g12 : hp (x + 12) = some (.inl (kC E 0, 432, .inl fr))) (g39 : hp o = some (.inl (kC E 1, 1, .inr (.inl ov)))) (hz0 : (x + 13) ≤ o ∨ (o + 1) ≤ x) (h : f_L_isSuspicious N mn th dc fc pc fr ov a1 a2 = some out) : AH E l yL_isSuspicious cL_isSuspicious 5 (Option.some Jvm.ClassFile.FieldType.int) [((0 : Nat), (17 : Nat), (20 : Nat), (28 : Nat))] ⟨10, 2, 12, 168⟩ [.ref x, .int a1, .int a2, .ref o] hp none (P_L_isSuspicious E x o hp none out) := by
  refine A_ofH (by decide +kernel) (Nat.le_of_ble_eq_true rfl) ?_
  intro p e s m args below meth c X hr htb
  have X : CX E p l s m args meth c "DiceAuditLaw" cL_isSuspicious 5 := X
  refine A_L (L' := [(0, .ref x), (1, .int a1), (2, .int a2), (3, .ref o)]) rfl ?_
  unfold f_L_isSuspicious at h
  refine A_aload_n X dL_isSuspicious_0 3 rfl ?_
  refine A_iconst (v := 0) X dL_isSuspicious_1 (by decide) ?_
  refine A_aload_n X dL_isSuspicious_2 0 rfl ?_
  refine A_iload_n X dL_isSuspicious_3 1 rfl ?_
  refine A_iload_n X dL_isSuspicious_4 2 rfl ?_
  rcases hbd_o h with ⟨C9, hc9, h⟩ | ⟨t1, hct1, h⟩
  · refine A_cX (k' := 2) (n' := 12) rfl rfl (A_runVX (rest := [.int 0, .ref o]) X dL_isSuspicious_5 (c_X10_isSuspicious g0 g3 g4 g5 g7 g10 g12  hc9) kY_X10_isSuspicious kw_1203 g0 rfl rfl ⟨(Nat.le_of_ble_eq_true rfl), (Nat.le_of_ble_eq_true rfl), (Nat.le_of_ble_eq_true rfl), (Nat.le_of_ble_eq_true rfl)⟩ rfl (Nat.le_of_ble_eq_true rfl)) (fun C hp1 hP => ?_) (fun v hp1 al1 hP => by obtain ⟨u, hu, _⟩ := hP; cases hu)
    obtain ⟨hC, rfl⟩ := hP
    cases hC
    rcases ite_o h with ⟨rfl, h⟩ | h
    · refine A_catch (name := "java/lang/IndexOutOfBoundsException") (Lc := []) (stc := []) X [] ⟨0, 17, 20, 28⟩ [] (htb.trans rfl) (fun z hz => nomatch hz) (by decide) (by decide) kw_953 kw_967 (fun q9 => ?_)
      refine A_astore (L' := [(4, .ref q9), (0, .ref x), (1, .int a1), (2, .int a2), (3, .ref o)]) X dL_isSuspicious_20 (by decide) rfl ?_
      refine A_iconst (v := 1) X dL_isSuspicious_22 (by decide) ?_
      cases h
      exact A_iretX X dL_isSuspicious_23 hr ⟨rfl, g39, (fun q z0 => rfl), rfl⟩ (Nat.le_of_ble_eq_true rfl) (Nat.le_of_ble_eq_true rfl)
    cases h
  refine A_cX (k' := 2) (n' := 12) rfl rfl (A_runVX (rest := [.int 0, .ref o]) X dL_isSuspicious_5 (c_X10_isSuspicious g0 g3 g4 g5 g7 g10 g12  hct1) kY_X10_isSuspicious kw_1203 g0 rfl rfl ⟨(Nat.le_of_ble_eq_true rfl), (Nat.le_of_ble_eq_true rfl), (Nat.le_of_ble_eq_true rfl), (Nat.le_of_ble_eq_true rfl)⟩ rfl (Nat.le_of_ble_eq_true rfl)) (fun C hp1 hP => by obtain ⟨hC, _⟩ := hP; cases hC) (fun v9 hp1 al9 hP => ?_)
  obtain ⟨u9, hu9, rfl, zt1, rfl, rfl⟩ := hP
  cases hu9
  refine A_st (st' := [.int t1, .int 0, .ref o]) rfl ?_
  refine A_if_eq (tgt := 15) X dL_isSuspicious_8 h (by decide) (fun hc h => ?_) (fun hc h => ?_)
  · refine A_lconst (v := 0) X dL_isSuspicious_15 (by decide) ?_
    refine A_last X dL_isSuspicious_16 g39 (by decide) (fun hp1 (k1 : hp1 o = some (.inl (kC E 1, 1, .inr (.inl (vp_updL ov (Int32.toNatClampNeg 0) 0))))) n1 => ?_)
    refine A_goto (tgt := 24) X dL_isSuspicious_17 (by decide) ?_
    refine A_iconst (v := 0) X dL_isSuspicious_24 (by decide) ?_
    cases h
    exact A_iretX X dL_isSuspicious_25 hr ⟨rfl, k1, (fun q z0 => (n1 q z0)), rfl⟩ (Nat.le_of_ble_eq_true rfl) (Nat.le_of_ble_eq_true rfl)
  · refine A_lconst (v := 1) X dL_isSuspicious_11 (by decide) ?_
    refine A_goto (tgt := 16) X dL_isSuspicious_12 (by decide) ?_
    refine A_last X dL_isSuspicious_16 g39 (by decide) (fun hp1 (k1 : hp1 o = some (.inl (kC E 1, 1, .inr (.inl (vp_updL ov (Int32.toNatClampNeg 0) 1))))) n1 => ?_)
    refine A_goto (tgt := 24) X dL_isSuspicious_17 (by decide) ?_
    refine A_iconst (v := 0) X dL_isSuspicious_24 (by decide) ?_
    cases h
    exact A_iretX X dL_isSuspicious_25 hr ⟨rfl, k1, (fun q z0 => (n1 q z0)), rfl⟩ (Nat.le_of_ble_eq_true rfl) (Nat.le_of_ble_eq_true rfl)
abbrev P_L_offencePlayer (E : KE) (x : Nat) (o : Nat)  (hp : Hp) (al : Option Nat) (out : Int32 × (Nat → Int64)) : Option Value → Hp → Option Nat → Prop := fun v0 hp' al' => v0 = some (.int out.1) ∧ hp' o = some (.inl (kC E 1, 1, .inr (.inl out.2))) ∧ (∀ q, q ≠ o → hp' q = hp q) ∧ al = al'
set_option maxHeartbeats 4000000 in
set_option maxRecDepth 100000 in
theorem c_L_offencePlayer {E : KE} {l : Launch} {hp : Hp} {x : Nat} {o : Nat} {sd : Int32} {mn : Int32} {th : Int32} {oc : Int32} {op : Nat → Int32} {ov : Nat → Int64} {a1 : Int32} {out : Int32 × (Nat → Int64)} (g0 : hp x = some (.inr (10, [.ref (x + 126), .ref (x + 128), .ref (x + 1), .ref (x + 3), .ref (x + 16), .ref (x + 18), .ref (x + 124), .ref (x + 125)]))) (g3 : hp (x + 3) = some (.inr (2, [.ref (x + 4), .ref (x + 7), .ref (x + 10), .ref (x + 13), .int sd, .int mn, .int th]))) (g13 : hp (x + 13) = some (.inr (6, [.ref (x + 14), .ref (x + 15), .int oc]))) (g14 : hp (x + 14) = some (.inl (kC E 0, 36, .inl op))) (g39 : hp o = some (.inl (kC E 1, 1, .inr (.inl ov)))) (hz0 : (x + 15) ≤ o ∨ (o + 1) ≤ x) (h : f_L_offencePlayer oc op ov a1 = some out) : AH E l yL_offencePlayer cL_offencePlayer 4 (Option.some Jvm.ClassFile.FieldType.int) [((0 : Nat), (9 : Nat), (12 : Nat), (28 : Nat))] ⟨9, 1, 6, 145⟩ [.ref x, .int a1, .ref o] hp none (P_L_offencePlayer E x o hp none out) := by
  refine A_ofH (by decide +kernel) (Nat.le_of_ble_eq_true rfl) ?_
  intro p e s m args below meth c X hr htb
  have X : CX E p l s m args meth c "DiceAuditLaw" cL_offencePlayer 4 := X
  refine A_L (L' := [(0, .ref x), (1, .int a1), (2, .ref o)]) rfl ?_
  unfold f_L_offencePlayer at h
  refine A_aload_n X dL_offencePlayer_0 2 rfl ?_
  refine A_iconst (v := 0) X dL_offencePlayer_1 (by decide) ?_
  refine A_aload_n X dL_offencePlayer_2 0 rfl ?_
  refine A_iload_n X dL_offencePlayer_3 1 rfl ?_
  rcases hbd_o h with ⟨C9, hc9, h⟩ | ⟨t1, hct1, h⟩
  · refine A_cX (k' := 1) (n' := 6) rfl rfl (A_runVX (rest := [.int 0, .ref o]) X dL_offencePlayer_4 (c_X10_offencePlayer g0 g3 g13 g14  hc9) kY_X10_offencePlayer kw_1211 g0 rfl rfl ⟨(Nat.le_of_ble_eq_true rfl), (Nat.le_of_ble_eq_true rfl), (Nat.le_of_ble_eq_true rfl), (Nat.le_of_ble_eq_true rfl)⟩ rfl (Nat.le_of_ble_eq_true rfl)) (fun C hp1 hP => ?_) (fun v hp1 al1 hP => by obtain ⟨u, hu, _⟩ := hP; cases hu)
    obtain ⟨hC, rfl⟩ := hP
    cases hC
    rcases ite_o h with ⟨rfl, h⟩ | h
    · refine A_catch (name := "java/lang/IndexOutOfBoundsException") (Lc := []) (stc := []) X [] ⟨0, 9, 12, 28⟩ [] (htb.trans rfl) (fun z hz => nomatch hz) (by decide) (by decide) kw_953 kw_967 (fun q9 => ?_)
      refine A_astore_n (L' := [(3, .ref q9), (0, .ref x), (1, .int a1), (2, .ref o)]) X dL_offencePlayer_12 rfl (by decide) rfl ?_
      refine A_iconst (v := 1) X dL_offencePlayer_13 (by decide) ?_
      cases h
      exact A_iretX X dL_offencePlayer_14 hr ⟨rfl, g39, (fun q z0 => rfl), rfl⟩ (Nat.le_of_ble_eq_true rfl) (Nat.le_of_ble_eq_true rfl)
    cases h
  refine A_cX (k' := 1) (n' := 6) rfl rfl (A_runVX (rest := [.int 0, .ref o]) X dL_offencePlayer_4 (c_X10_offencePlayer g0 g3 g13 g14  hct1) kY_X10_offencePlayer kw_1211 g0 rfl rfl ⟨(Nat.le_of_ble_eq_true rfl), (Nat.le_of_ble_eq_true rfl), (Nat.le_of_ble_eq_true rfl), (Nat.le_of_ble_eq_true rfl)⟩ rfl (Nat.le_of_ble_eq_true rfl)) (fun C hp1 hP => by obtain ⟨hC, _⟩ := hP; cases hC) (fun v9 hp1 al9 hP => ?_)
  obtain ⟨u9, hu9, rfl, rfl, rfl⟩ := hP
  cases hu9
  refine A_st (st' := [.int t1, .int 0, .ref o]) rfl ?_
  refine A_i2l X dL_offencePlayer_7 ?_
  refine A_last X dL_offencePlayer_8 g39 (by decide) (fun hp1 (k1 : hp1 o = some (.inl (kC E 1, 1, .inr (.inl (vp_updL ov (Int32.toNatClampNeg 0) t1.toInt64))))) n1 => ?_)
  refine A_goto (tgt := 15) X dL_offencePlayer_9 (by decide) ?_
  refine A_iconst (v := 0) X dL_offencePlayer_15 (by decide) ?_
  cases h
  exact A_iretX X dL_offencePlayer_16 hr ⟨rfl, k1, (fun q z0 => (n1 q z0)), rfl⟩ (Nat.le_of_ble_eq_true rfl) (Nat.le_of_ble_eq_true rfl)
abbrev P_L_offenceDie (E : KE) (x : Nat) (o : Nat)  (hp : Hp) (al : Option Nat) (out : Int32 × (Nat → Int64)) : Option Value → Hp → Option Nat → Prop := fun v0 hp' al' => v0 = some (.int out.1) ∧ hp' o = some (.inl (kC E 1, 1, .inr (.inl out.2))) ∧ (∀ q, q ≠ o → hp' q = hp q) ∧ al = al'
set_option maxHeartbeats 4000000 in
set_option maxRecDepth 100000 in
theorem c_L_offenceDie {E : KE} {l : Launch} {hp : Hp} {x : Nat} {o : Nat} {sd : Int32} {mn : Int32} {th : Int32} {oc : Int32} {op : Nat → Int32} {ov : Nat → Int64} {a1 : Int32} {out : Int32 × (Nat → Int64)} (g0 : hp x = some (.inr (10, [.ref (x + 126), .ref (x + 128), .ref (x + 1), .ref (x + 3), .ref (x + 16), .ref (x + 18), .ref (x + 124), .ref (x + 125)]))) (g3 : hp (x + 3) = some (.inr (2, [.ref (x + 4), .ref (x + 7), .ref (x + 10), .ref (x + 13), .int sd, .int mn, .int th]))) (g13 : hp (x + 13) = some (.inr (6, [.ref (x + 14), .ref (x + 15), .int oc]))) (g14 : hp (x + 14) = some (.inl (kC E 0, 36, .inl op))) (g39 : hp o = some (.inl (kC E 1, 1, .inr (.inl ov)))) (hz0 : (x + 15) ≤ o ∨ (o + 1) ≤ x) (h : f_L_offenceDie oc op ov a1 = some out) : AH E l yL_offenceDie cL_offenceDie 4 (Option.some Jvm.ClassFile.FieldType.int) [((0 : Nat), (9 : Nat), (12 : Nat), (28 : Nat))] ⟨9, 1, 6, 145⟩ [.ref x, .int a1, .ref o] hp none (P_L_offenceDie E x o hp none out) := by
  refine A_ofH (by decide +kernel) (Nat.le_of_ble_eq_true rfl) ?_
  intro p e s m args below meth c X hr htb
  have X : CX E p l s m args meth c "DiceAuditLaw" cL_offenceDie 4 := X
  refine A_L (L' := [(0, .ref x), (1, .int a1), (2, .ref o)]) rfl ?_
  unfold f_L_offenceDie at h
  refine A_aload_n X dL_offenceDie_0 2 rfl ?_
  refine A_iconst (v := 0) X dL_offenceDie_1 (by decide) ?_
  refine A_aload_n X dL_offenceDie_2 0 rfl ?_
  refine A_iload_n X dL_offenceDie_3 1 rfl ?_
  rcases hbd_o h with ⟨C9, hc9, h⟩ | ⟨t1, hct1, h⟩
  · refine A_cX (k' := 1) (n' := 6) rfl rfl (A_runVX (rest := [.int 0, .ref o]) X dL_offenceDie_4 (c_X10_offenceDie g0 g3 g13 g14  hc9) kY_X10_offenceDie kw_1222 g0 rfl rfl ⟨(Nat.le_of_ble_eq_true rfl), (Nat.le_of_ble_eq_true rfl), (Nat.le_of_ble_eq_true rfl), (Nat.le_of_ble_eq_true rfl)⟩ rfl (Nat.le_of_ble_eq_true rfl)) (fun C hp1 hP => ?_) (fun v hp1 al1 hP => by obtain ⟨u, hu, _⟩ := hP; cases hu)
    obtain ⟨hC, rfl⟩ := hP
    cases hC
    rcases ite_o h with ⟨rfl, h⟩ | h
    · refine A_catch (name := "java/lang/IndexOutOfBoundsException") (Lc := []) (stc := []) X [] ⟨0, 9, 12, 28⟩ [] (htb.trans rfl) (fun z hz => nomatch hz) (by decide) (by decide) kw_953 kw_967 (fun q9 => ?_)
      refine A_astore_n (L' := [(3, .ref q9), (0, .ref x), (1, .int a1), (2, .ref o)]) X dL_offenceDie_12 rfl (by decide) rfl ?_
      refine A_iconst (v := 1) X dL_offenceDie_13 (by decide) ?_
      cases h
      exact A_iretX X dL_offenceDie_14 hr ⟨rfl, g39, (fun q z0 => rfl), rfl⟩ (Nat.le_of_ble_eq_true rfl) (Nat.le_of_ble_eq_true rfl)
    cases h
  refine A_cX (k' := 1) (n' := 6) rfl rfl (A_runVX (rest := [.int 0, .ref o]) X dL_offenceDie_4 (c_X10_offenceDie g0 g3 g13 g14  hct1) kY_X10_offenceDie kw_1222 g0 rfl rfl ⟨(Nat.le_of_ble_eq_true rfl), (Nat.le_of_ble_eq_true rfl), (Nat.le_of_ble_eq_true rfl), (Nat.le_of_ble_eq_true rfl)⟩ rfl (Nat.le_of_ble_eq_true rfl)) (fun C hp1 hP => by obtain ⟨hC, _⟩ := hP; cases hC) (fun v9 hp1 al9 hP => ?_)
  obtain ⟨u9, hu9, rfl, rfl, rfl⟩ := hP
  cases hu9
  refine A_st (st' := [.int t1, .int 0, .ref o]) rfl ?_
  refine A_i2l X dL_offenceDie_7 ?_
  refine A_last X dL_offenceDie_8 g39 (by decide) (fun hp1 (k1 : hp1 o = some (.inl (kC E 1, 1, .inr (.inl (vp_updL ov (Int32.toNatClampNeg 0) t1.toInt64))))) n1 => ?_)
  refine A_goto (tgt := 15) X dL_offenceDie_9 (by decide) ?_
  refine A_iconst (v := 0) X dL_offenceDie_15 (by decide) ?_
  cases h
  exact A_iretX X dL_offenceDie_16 hr ⟨rfl, k1, (fun q z0 => (n1 q z0)), rfl⟩ (Nat.le_of_ble_eq_true rfl) (Nat.le_of_ble_eq_true rfl)
abbrev P_L_offenceScore (E : KE) (x : Nat) (o : Nat)  (hp : Hp) (al : Option Nat) (out : Int32 × (Nat → Int64)) : Option Value → Hp → Option Nat → Prop := fun v0 hp' al' => v0 = some (.int out.1) ∧ hp' o = some (.inl (kC E 1, 1, .inr (.inl out.2))) ∧ (∀ q, q ≠ o → hp' q = hp q) ∧ al = al'
set_option maxHeartbeats 4000000 in
set_option maxRecDepth 100000 in
theorem c_L_offenceScore {E : KE} {l : Launch} {hp : Hp} {x : Nat} {o : Nat} {sd : Int32} {mn : Int32} {th : Int32} {oc : Int32} {os : Nat → Int32} {ov : Nat → Int64} {a1 : Int32} {out : Int32 × (Nat → Int64)} (g0 : hp x = some (.inr (10, [.ref (x + 126), .ref (x + 128), .ref (x + 1), .ref (x + 3), .ref (x + 16), .ref (x + 18), .ref (x + 124), .ref (x + 125)]))) (g3 : hp (x + 3) = some (.inr (2, [.ref (x + 4), .ref (x + 7), .ref (x + 10), .ref (x + 13), .int sd, .int mn, .int th]))) (g13 : hp (x + 13) = some (.inr (6, [.ref (x + 14), .ref (x + 15), .int oc]))) (g15 : hp (x + 15) = some (.inl (kC E 0, 36, .inl os))) (g39 : hp o = some (.inl (kC E 1, 1, .inr (.inl ov)))) (hz0 : (x + 16) ≤ o ∨ (o + 1) ≤ x) (h : f_L_offenceScore oc os ov a1 = some out) : AH E l yL_offenceScore cL_offenceScore 4 (Option.some Jvm.ClassFile.FieldType.int) [((0 : Nat), (9 : Nat), (12 : Nat), (28 : Nat))] ⟨9, 1, 6, 145⟩ [.ref x, .int a1, .ref o] hp none (P_L_offenceScore E x o hp none out) := by
  refine A_ofH (by decide +kernel) (Nat.le_of_ble_eq_true rfl) ?_
  intro p e s m args below meth c X hr htb
  have X : CX E p l s m args meth c "DiceAuditLaw" cL_offenceScore 4 := X
  refine A_L (L' := [(0, .ref x), (1, .int a1), (2, .ref o)]) rfl ?_
  unfold f_L_offenceScore at h
  refine A_aload_n X dL_offenceScore_0 2 rfl ?_
  refine A_iconst (v := 0) X dL_offenceScore_1 (by decide) ?_
  refine A_aload_n X dL_offenceScore_2 0 rfl ?_
  refine A_iload_n X dL_offenceScore_3 1 rfl ?_
  rcases hbd_o h with ⟨C9, hc9, h⟩ | ⟨t1, hct1, h⟩
  · refine A_cX (k' := 1) (n' := 6) rfl rfl (A_runVX (rest := [.int 0, .ref o]) X dL_offenceScore_4 (c_X10_offenceScore g0 g3 g13 g15  hc9) kY_X10_offenceScore kw_1229 g0 rfl rfl ⟨(Nat.le_of_ble_eq_true rfl), (Nat.le_of_ble_eq_true rfl), (Nat.le_of_ble_eq_true rfl), (Nat.le_of_ble_eq_true rfl)⟩ rfl (Nat.le_of_ble_eq_true rfl)) (fun C hp1 hP => ?_) (fun v hp1 al1 hP => by obtain ⟨u, hu, _⟩ := hP; cases hu)
    obtain ⟨hC, rfl⟩ := hP
    cases hC
    rcases ite_o h with ⟨rfl, h⟩ | h
    · refine A_catch (name := "java/lang/IndexOutOfBoundsException") (Lc := []) (stc := []) X [] ⟨0, 9, 12, 28⟩ [] (htb.trans rfl) (fun z hz => nomatch hz) (by decide) (by decide) kw_953 kw_967 (fun q9 => ?_)
      refine A_astore_n (L' := [(3, .ref q9), (0, .ref x), (1, .int a1), (2, .ref o)]) X dL_offenceScore_12 rfl (by decide) rfl ?_
      refine A_iconst (v := 1) X dL_offenceScore_13 (by decide) ?_
      cases h
      exact A_iretX X dL_offenceScore_14 hr ⟨rfl, g39, (fun q z0 => rfl), rfl⟩ (Nat.le_of_ble_eq_true rfl) (Nat.le_of_ble_eq_true rfl)
    cases h
  refine A_cX (k' := 1) (n' := 6) rfl rfl (A_runVX (rest := [.int 0, .ref o]) X dL_offenceScore_4 (c_X10_offenceScore g0 g3 g13 g15  hct1) kY_X10_offenceScore kw_1229 g0 rfl rfl ⟨(Nat.le_of_ble_eq_true rfl), (Nat.le_of_ble_eq_true rfl), (Nat.le_of_ble_eq_true rfl), (Nat.le_of_ble_eq_true rfl)⟩ rfl (Nat.le_of_ble_eq_true rfl)) (fun C hp1 hP => by obtain ⟨hC, _⟩ := hP; cases hC) (fun v9 hp1 al9 hP => ?_)
  obtain ⟨u9, hu9, rfl, rfl, rfl⟩ := hP
  cases hu9
  refine A_st (st' := [.int t1, .int 0, .ref o]) rfl ?_
  refine A_i2l X dL_offenceScore_7 ?_
  refine A_last X dL_offenceScore_8 g39 (by decide) (fun hp1 (k1 : hp1 o = some (.inl (kC E 1, 1, .inr (.inl (vp_updL ov (Int32.toNatClampNeg 0) t1.toInt64))))) n1 => ?_)
  refine A_goto (tgt := 15) X dL_offenceScore_9 (by decide) ?_
  refine A_iconst (v := 0) X dL_offenceScore_15 (by decide) ?_
  cases h
  exact A_iretX X dL_offenceScore_16 hr ⟨rfl, k1, (fun q z0 => (n1 q z0)), rfl⟩ (Nat.le_of_ble_eq_true rfl) (Nat.le_of_ble_eq_true rfl)
abbrev P_L_offencesOf (E : KE) (x : Nat) (o : Nat)  (hp : Hp) (al : Option Nat) (out : Int32 × (Nat → Int64)) : Option Value → Hp → Option Nat → Prop := fun v0 hp' al' => v0 = some (.int out.1) ∧ hp' o = some (.inl (kC E 1, 1, .inr (.inl out.2))) ∧ (∀ q, q ≠ o → hp' q = hp q) ∧ al = al'
set_option maxHeartbeats 4000000 in
set_option maxRecDepth 100000 in
theorem c_L_offencesOf {E : KE} {l : Launch} {hp : Hp} {N : Nat} {x : Nat} {o : Nat} {sd : Int32} {mn : Int32} {th : Int32} {pc : Int32} {oc : Int32} {op : Nat → Int32} {ov : Nat → Int64} {a1 : Int32} {out : Int32 × (Nat → Int64)} (g0 : hp x = some (.inr (10, [.ref (x + 126), .ref (x + 128), .ref (x + 1), .ref (x + 3), .ref (x + 16), .ref (x + 18), .ref (x + 124), .ref (x + 125)]))) (g3 : hp (x + 3) = some (.inr (2, [.ref (x + 4), .ref (x + 7), .ref (x + 10), .ref (x + 13), .int sd, .int mn, .int th]))) (g7 : hp (x + 7) = some (.inr (7, [.ref (x + 8), .ref (x + 9), .int pc]))) (g13 : hp (x + 13) = some (.inr (6, [.ref (x + 14), .ref (x + 15), .int oc]))) (g14 : hp (x + 14) = some (.inl (kC E 0, 36, .inl op))) (g39 : hp o = some (.inl (kC E 1, 1, .inr (.inl ov)))) (hz0 : (x + 15) ≤ o ∨ (o + 1) ≤ x) (h : f_L_offencesOf N pc oc op ov a1 = some out) : AH E l yL_offencesOf cL_offencesOf 4 (Option.some Jvm.ClassFile.FieldType.int) [((0 : Nat), (9 : Nat), (12 : Nat), (28 : Nat))] ⟨9, 1, 6, 145⟩ [.ref x, .int a1, .ref o] hp none (P_L_offencesOf E x o hp none out) := by
  refine A_ofH (by decide +kernel) (Nat.le_of_ble_eq_true rfl) ?_
  intro p e s m args below meth c X hr htb
  have X : CX E p l s m args meth c "DiceAuditLaw" cL_offencesOf 4 := X
  refine A_L (L' := [(0, .ref x), (1, .int a1), (2, .ref o)]) rfl ?_
  unfold f_L_offencesOf at h
  refine A_aload_n X dL_offencesOf_0 2 rfl ?_
  refine A_iconst (v := 0) X dL_offencesOf_1 (by decide) ?_
  refine A_aload_n X dL_offencesOf_2 0 rfl ?_
  refine A_iload_n X dL_offencesOf_3 1 rfl ?_
  rcases hbd_o h with ⟨C9, hc9, h⟩ | ⟨t1, hct1, h⟩
  · refine A_cX (k' := 1) (n' := 6) rfl rfl (A_runVX (rest := [.int 0, .ref o]) X dL_offencesOf_4 (c_X10_offencesOf g0 g3 g7 g13 g14  hc9) kY_X10_offencesOf kw_1236 g0 rfl rfl ⟨(Nat.le_of_ble_eq_true rfl), (Nat.le_of_ble_eq_true rfl), (Nat.le_of_ble_eq_true rfl), (Nat.le_of_ble_eq_true rfl)⟩ rfl (Nat.le_of_ble_eq_true rfl)) (fun C hp1 hP => ?_) (fun v hp1 al1 hP => by obtain ⟨u, hu, _⟩ := hP; cases hu)
    obtain ⟨hC, rfl⟩ := hP
    cases hC
    rcases ite_o h with ⟨rfl, h⟩ | h
    · refine A_catch (name := "java/lang/IndexOutOfBoundsException") (Lc := []) (stc := []) X [] ⟨0, 9, 12, 28⟩ [] (htb.trans rfl) (fun z hz => nomatch hz) (by decide) (by decide) kw_953 kw_967 (fun q9 => ?_)
      refine A_astore_n (L' := [(3, .ref q9), (0, .ref x), (1, .int a1), (2, .ref o)]) X dL_offencesOf_12 rfl (by decide) rfl ?_
      refine A_iconst (v := 1) X dL_offencesOf_13 (by decide) ?_
      cases h
      exact A_iretX X dL_offencesOf_14 hr ⟨rfl, g39, (fun q z0 => rfl), rfl⟩ (Nat.le_of_ble_eq_true rfl) (Nat.le_of_ble_eq_true rfl)
    cases h
  refine A_cX (k' := 1) (n' := 6) rfl rfl (A_runVX (rest := [.int 0, .ref o]) X dL_offencesOf_4 (c_X10_offencesOf g0 g3 g7 g13 g14  hct1) kY_X10_offencesOf kw_1236 g0 rfl rfl ⟨(Nat.le_of_ble_eq_true rfl), (Nat.le_of_ble_eq_true rfl), (Nat.le_of_ble_eq_true rfl), (Nat.le_of_ble_eq_true rfl)⟩ rfl (Nat.le_of_ble_eq_true rfl)) (fun C hp1 hP => by obtain ⟨hC, _⟩ := hP; cases hC) (fun v9 hp1 al9 hP => ?_)
  obtain ⟨u9, hu9, rfl, rfl, rfl⟩ := hP
  cases hu9
  refine A_st (st' := [.int t1, .int 0, .ref o]) rfl ?_
  refine A_i2l X dL_offencesOf_7 ?_
  refine A_last X dL_offencesOf_8 g39 (by decide) (fun hp1 (k1 : hp1 o = some (.inl (kC E 1, 1, .inr (.inl (vp_updL ov (Int32.toNatClampNeg 0) t1.toInt64))))) n1 => ?_)
  refine A_goto (tgt := 15) X dL_offencesOf_9 (by decide) ?_
  refine A_iconst (v := 0) X dL_offencesOf_15 (by decide) ?_
  cases h
  exact A_iretX X dL_offencesOf_16 hr ⟨rfl, k1, (fun q z0 => (n1 q z0)), rfl⟩ (Nat.le_of_ble_eq_true rfl) (Nat.le_of_ble_eq_true rfl)
abbrev P_L_nextFace (E : KE) (x : Nat) (o : Nat)  (hp : Hp) (al : Option Nat) (out : Int32 × (Nat → Int64)) : Option Value → Hp → Option Nat → Prop := fun v0 hp' al' => v0 = some (.int out.1) ∧ hp' o = some (.inl (kC E 1, 1, .inr (.inl out.2))) ∧ (∀ q, q ≠ o → hp' q = hp q) ∧ al = al'
set_option maxHeartbeats 4000000 in
set_option maxRecDepth 100000 in
theorem c_L_nextFace {E : KE} {l : Launch} {hp : Hp} {N : Nat} {x : Nat} {o : Nat} {sd : Int32} {mn : Int32} {th : Int32} {dc : Int32} {fc : Nat → Int32} {dw : Nat → Int32} {ov : Nat → Int64} {a1 : Int32} {out : Int32 × (Nat → Int64)} (g0 : hp x = some (.inr (10, [.ref (x + 126), .ref (x + 128), .ref (x + 1), .ref (x + 3), .ref (x + 16), .ref (x + 18), .ref (x + 124), .ref (x + 125)]))) (g3 : hp (x + 3) = some (.inr (2, [.ref (x + 4), .ref (x + 7), .ref (x + 10), .ref (x + 13), .int sd, .int mn, .int th]))) (g4 : hp (x + 4) = some (.inr (0, [.ref (x + 5), .ref (x + 6), .int dc]))) (g5 : hp (x + 5) = some (.inl (kC E 0, 6, .inl fc))) (g6 : hp (x + 6) = some (.inl (kC E 0, 72, .inl dw))) (g39 : hp o = some (.inl (kC E 1, 1, .inr (.inl ov)))) (hz0 : (x + 7) ≤ o ∨ (o + 1) ≤ x) (h : f_L_nextFace N sd dc fc dw ov a1 = some out) : AH E l yL_nextFace cL_nextFace 4 (Option.some Jvm.ClassFile.FieldType.int) [((0 : Nat), (9 : Nat), (12 : Nat), (28 : Nat))] ⟨9, 1, 6, 145⟩ [.ref x, .int a1, .ref o] hp none (P_L_nextFace E x o hp none out) := by
  refine A_ofH (by decide +kernel) (Nat.le_of_ble_eq_true rfl) ?_
  intro p e s m args below meth c X hr htb
  have X : CX E p l s m args meth c "DiceAuditLaw" cL_nextFace 4 := X
  refine A_L (L' := [(0, .ref x), (1, .int a1), (2, .ref o)]) rfl ?_
  unfold f_L_nextFace at h
  refine A_aload_n X dL_nextFace_0 2 rfl ?_
  refine A_iconst (v := 0) X dL_nextFace_1 (by decide) ?_
  refine A_aload_n X dL_nextFace_2 0 rfl ?_
  refine A_iload_n X dL_nextFace_3 1 rfl ?_
  rcases hbd_o h with ⟨C9, hc9, h⟩ | ⟨t1, hct1, h⟩
  · refine A_cX (k' := 1) (n' := 6) rfl rfl (A_runVX (rest := [.int 0, .ref o]) X dL_nextFace_4 (c_X10_nextFace g0 g3 g4 g5 g6  hc9) kY_X10_nextFace kw_1243 g0 rfl rfl ⟨(Nat.le_of_ble_eq_true rfl), (Nat.le_of_ble_eq_true rfl), (Nat.le_of_ble_eq_true rfl), (Nat.le_of_ble_eq_true rfl)⟩ rfl (Nat.le_of_ble_eq_true rfl)) (fun C hp1 hP => ?_) (fun v hp1 al1 hP => by obtain ⟨u, hu, _⟩ := hP; cases hu)
    obtain ⟨hC, rfl⟩ := hP
    cases hC
    rcases ite_o h with ⟨rfl, h⟩ | h
    · refine A_catch (name := "java/lang/IndexOutOfBoundsException") (Lc := []) (stc := []) X [] ⟨0, 9, 12, 28⟩ [] (htb.trans rfl) (fun z hz => nomatch hz) (by decide) (by decide) kw_953 kw_967 (fun q9 => ?_)
      refine A_astore_n (L' := [(3, .ref q9), (0, .ref x), (1, .int a1), (2, .ref o)]) X dL_nextFace_12 rfl (by decide) rfl ?_
      refine A_iconst (v := 1) X dL_nextFace_13 (by decide) ?_
      cases h
      exact A_iretX X dL_nextFace_14 hr ⟨rfl, g39, (fun q z0 => rfl), rfl⟩ (Nat.le_of_ble_eq_true rfl) (Nat.le_of_ble_eq_true rfl)
    cases h
  refine A_cX (k' := 1) (n' := 6) rfl rfl (A_runVX (rest := [.int 0, .ref o]) X dL_nextFace_4 (c_X10_nextFace g0 g3 g4 g5 g6  hct1) kY_X10_nextFace kw_1243 g0 rfl rfl ⟨(Nat.le_of_ble_eq_true rfl), (Nat.le_of_ble_eq_true rfl), (Nat.le_of_ble_eq_true rfl), (Nat.le_of_ble_eq_true rfl)⟩ rfl (Nat.le_of_ble_eq_true rfl)) (fun C hp1 hP => by obtain ⟨hC, _⟩ := hP; cases hC) (fun v9 hp1 al9 hP => ?_)
  obtain ⟨u9, hu9, rfl, rfl, rfl⟩ := hP
  cases hu9
  refine A_st (st' := [.int t1, .int 0, .ref o]) rfl ?_
  refine A_i2l X dL_nextFace_7 ?_
  refine A_last X dL_nextFace_8 g39 (by decide) (fun hp1 (k1 : hp1 o = some (.inl (kC E 1, 1, .inr (.inl (vp_updL ov (Int32.toNatClampNeg 0) t1.toInt64))))) n1 => ?_)
  refine A_goto (tgt := 15) X dL_nextFace_9 (by decide) ?_
  refine A_iconst (v := 0) X dL_nextFace_15 (by decide) ?_
  cases h
  exact A_iretX X dL_nextFace_16 hr ⟨rfl, k1, (fun q z0 => (n1 q z0)), rfl⟩ (Nat.le_of_ble_eq_true rfl) (Nat.le_of_ble_eq_true rfl)
abbrev P_L_faceAfter (E : KE) (x : Nat) (o : Nat)  (hp : Hp) (al : Option Nat) (out : Int32 × (Nat → Int64)) : Option Value → Hp → Option Nat → Prop := fun v0 hp' al' => v0 = some (.int out.1) ∧ hp' o = some (.inl (kC E 1, 1, .inr (.inl out.2))) ∧ (∀ q, q ≠ o → hp' q = hp q) ∧ al = al'
set_option maxHeartbeats 4000000 in
set_option maxRecDepth 100000 in
theorem c_L_faceAfter {E : KE} {l : Launch} {hp : Hp} {N : Nat} {x : Nat} {o : Nat} {sd : Int32} {mn : Int32} {th : Int32} {dc : Int32} {fc : Nat → Int32} {dw : Nat → Int32} {ov : Nat → Int64} {a1 : Int32} {a2 : Int32} {out : Int32 × (Nat → Int64)} (g0 : hp x = some (.inr (10, [.ref (x + 126), .ref (x + 128), .ref (x + 1), .ref (x + 3), .ref (x + 16), .ref (x + 18), .ref (x + 124), .ref (x + 125)]))) (g3 : hp (x + 3) = some (.inr (2, [.ref (x + 4), .ref (x + 7), .ref (x + 10), .ref (x + 13), .int sd, .int mn, .int th]))) (g4 : hp (x + 4) = some (.inr (0, [.ref (x + 5), .ref (x + 6), .int dc]))) (g5 : hp (x + 5) = some (.inl (kC E 0, 6, .inl fc))) (g6 : hp (x + 6) = some (.inl (kC E 0, 72, .inl dw))) (g39 : hp o = some (.inl (kC E 1, 1, .inr (.inl ov)))) (hz0 : (x + 7) ≤ o ∨ (o + 1) ≤ x) (h : f_L_faceAfter N sd dc fc dw ov a1 a2 = some out) : AH E l yL_faceAfter cL_faceAfter 5 (Option.some Jvm.ClassFile.FieldType.int) [((0 : Nat), (10 : Nat), (13 : Nat), (28 : Nat)), ((0 : Nat), (10 : Nat), (17 : Nat), (19 : Nat))] ⟨9, 2, 12, 148⟩ [.ref x, .int a1, .int a2, .ref o] hp none (P_L_faceAfter E x o hp none out) := by
  refine A_ofH (by decide +kernel) (Nat.le_of_ble_eq_true rfl) ?_
  intro p e s m args below meth c X hr htb
  have X : CX E p l s m args meth c "DiceAuditLaw" cL_faceAfter 5 := X
  refine A_L (L' := [(0, .ref x), (1, .int a1), (2, .int a2), (3, .ref o)]) rfl ?_
  unfold f_L_faceAfter at h
  refine A_aload_n X dL_faceAfter_0 3 rfl ?_
  refine A_iconst (v := 0) X dL_faceAfter_1 (by decide) ?_
  refine A_aload_n X dL_faceAfter_2 0 rfl ?_
  refine A_iload_n X dL_faceAfter_3 1 rfl ?_
  refine A_iload_n X dL_faceAfter_4 2 rfl ?_
  rcases hbd_o h with ⟨C9, hc9, h⟩ | ⟨t1, hct1, h⟩
  · refine A_cX (k' := 2) (n' := 12) rfl rfl (A_runVX (rest := [.int 0, .ref o]) X dL_faceAfter_5 (c_X10_faceAfter g0 g3 g4 g5 g6  hc9) kY_X10_faceAfter kw_1252 g0 rfl rfl ⟨(Nat.le_of_ble_eq_true rfl), (Nat.le_of_ble_eq_true rfl), (Nat.le_of_ble_eq_true rfl), (Nat.le_of_ble_eq_true rfl)⟩ rfl (Nat.le_of_ble_eq_true rfl)) (fun C hp1 hP => ?_) (fun v hp1 al1 hP => by obtain ⟨u, hu, _⟩ := hP; cases hu)
    obtain ⟨hC, rfl⟩ := hP
    cases hC
    rcases ite_o h with ⟨rfl, h⟩ | h
    · refine A_catch (name := "java/lang/IndexOutOfBoundsException") (Lc := []) (stc := []) X [] ⟨0, 10, 13, 28⟩ [⟨0, 10, 17, 19⟩] (htb.trans rfl) (fun z hz => nomatch hz) (by decide) (by decide) kw_953 kw_967 (fun q9 => ?_)
      refine A_astore (L' := [(4, .ref q9), (0, .ref x), (1, .int a1), (2, .int a2), (3, .ref o)]) X dL_faceAfter_13 (by decide) rfl ?_
      refine A_iconst (v := 1) X dL_faceAfter_15 (by decide) ?_
      cases h
      exact A_iretX X dL_faceAfter_16 hr ⟨rfl, g39, (fun q z0 => rfl), rfl⟩ (Nat.le_of_ble_eq_true rfl) (Nat.le_of_ble_eq_true rfl)
    rcases ite_o h with ⟨rfl, h⟩ | h
    · refine A_catch (name := "java/lang/IllegalArgumentException") (Lc := []) (stc := []) X [⟨0, 10, 13, 28⟩] ⟨0, 10, 17, 19⟩ [] (htb.trans rfl) (fun z hz => by cases List.mem_singleton.mp hz; exact Or.inr ⟨by decide, "java/lang/IndexOutOfBoundsException", kw_953, List.mem_of_getElem? (i := 7) rfl⟩) (by decide) (by decide) kw_918 kw_928 (fun q9 => ?_)
      refine A_astore (L' := [(4, .ref q9), (0, .ref x), (1, .int a1), (2, .int a2), (3, .ref o)]) X dL_faceAfter_17 (by decide) rfl ?_
      refine A_iconst (v := 2) X dL_faceAfter_19 (by decide) ?_
      cases h
      exact A_iretX X dL_faceAfter_20 hr ⟨rfl, g39, (fun q z0 => rfl), rfl⟩ (Nat.le_of_ble_eq_true rfl) (Nat.le_of_ble_eq_true rfl)
    cases h
  refine A_cX (k' := 2) (n' := 12) rfl rfl (A_runVX (rest := [.int 0, .ref o]) X dL_faceAfter_5 (c_X10_faceAfter g0 g3 g4 g5 g6  hct1) kY_X10_faceAfter kw_1252 g0 rfl rfl ⟨(Nat.le_of_ble_eq_true rfl), (Nat.le_of_ble_eq_true rfl), (Nat.le_of_ble_eq_true rfl), (Nat.le_of_ble_eq_true rfl)⟩ rfl (Nat.le_of_ble_eq_true rfl)) (fun C hp1 hP => by obtain ⟨hC, _⟩ := hP; cases hC) (fun v9 hp1 al9 hP => ?_)
  obtain ⟨u9, hu9, rfl, rfl, rfl⟩ := hP
  cases hu9
  refine A_st (st' := [.int t1, .int 0, .ref o]) rfl ?_
  refine A_i2l X dL_faceAfter_8 ?_
  refine A_last X dL_faceAfter_9 g39 (by decide) (fun hp1 (k1 : hp1 o = some (.inl (kC E 1, 1, .inr (.inl (vp_updL ov (Int32.toNatClampNeg 0) t1.toInt64))))) n1 => ?_)
  refine A_goto (tgt := 21) X dL_faceAfter_10 (by decide) ?_
  refine A_iconst (v := 0) X dL_faceAfter_21 (by decide) ?_
  cases h
  exact A_iretX X dL_faceAfter_22 hr ⟨rfl, k1, (fun q z0 => (n1 q z0)), rfl⟩ (Nat.le_of_ble_eq_true rfl) (Nat.le_of_ble_eq_true rfl)
abbrev P_L_throwsUntil (E : KE) (x : Nat) (o : Nat)  (hp : Hp) (al : Option Nat) (out : Int32 × (Nat → Int64)) : Option Value → Hp → Option Nat → Prop := fun v0 hp' al' => v0 = some (.int out.1) ∧ hp' o = some (.inl (kC E 1, 1, .inr (.inl out.2))) ∧ (∀ q, q ≠ o → hp' q = hp q) ∧ al = al'
set_option maxHeartbeats 4000000 in
set_option maxRecDepth 100000 in
theorem c_L_throwsUntil {E : KE} {l : Launch} {hp : Hp} {N : Nat} {x : Nat} {o : Nat} {sd : Int32} {mn : Int32} {th : Int32} {dc : Int32} {fc : Nat → Int32} {dw : Nat → Int32} {ov : Nat → Int64} {a1 : Int32} {a2 : Int32} {out : Int32 × (Nat → Int64)} (g0 : hp x = some (.inr (10, [.ref (x + 126), .ref (x + 128), .ref (x + 1), .ref (x + 3), .ref (x + 16), .ref (x + 18), .ref (x + 124), .ref (x + 125)]))) (g3 : hp (x + 3) = some (.inr (2, [.ref (x + 4), .ref (x + 7), .ref (x + 10), .ref (x + 13), .int sd, .int mn, .int th]))) (g4 : hp (x + 4) = some (.inr (0, [.ref (x + 5), .ref (x + 6), .int dc]))) (g5 : hp (x + 5) = some (.inl (kC E 0, 6, .inl fc))) (g6 : hp (x + 6) = some (.inl (kC E 0, 72, .inl dw))) (g39 : hp o = some (.inl (kC E 1, 1, .inr (.inl ov)))) (hz0 : (x + 7) ≤ o ∨ (o + 1) ≤ x) (h : f_L_throwsUntil N sd dc fc dw ov a1 a2 = some out) : AH E l yL_throwsUntil cL_throwsUntil 5 (Option.some Jvm.ClassFile.FieldType.int) [((0 : Nat), (10 : Nat), (13 : Nat), (28 : Nat)), ((0 : Nat), (10 : Nat), (17 : Nat), (19 : Nat))] ⟨9, 2, 12, 150⟩ [.ref x, .int a1, .int a2, .ref o] hp none (P_L_throwsUntil E x o hp none out) := by
  refine A_ofH (by decide +kernel) (Nat.le_of_ble_eq_true rfl) ?_
  intro p e s m args below meth c X hr htb
  have X : CX E p l s m args meth c "DiceAuditLaw" cL_throwsUntil 5 := X
  refine A_L (L' := [(0, .ref x), (1, .int a1), (2, .int a2), (3, .ref o)]) rfl ?_
  unfold f_L_throwsUntil at h
  refine A_aload_n X dL_throwsUntil_0 3 rfl ?_
  refine A_iconst (v := 0) X dL_throwsUntil_1 (by decide) ?_
  refine A_aload_n X dL_throwsUntil_2 0 rfl ?_
  refine A_iload_n X dL_throwsUntil_3 1 rfl ?_
  refine A_iload_n X dL_throwsUntil_4 2 rfl ?_
  rcases hbd_o h with ⟨C9, hc9, h⟩ | ⟨t1, hct1, h⟩
  · refine A_cX (k' := 2) (n' := 12) rfl rfl (A_runVX (rest := [.int 0, .ref o]) X dL_throwsUntil_5 (c_X10_throwsUntil g0 g3 g4 g5 g6  hc9) kY_X10_throwsUntil kw_1259 g0 rfl rfl ⟨(Nat.le_of_ble_eq_true rfl), (Nat.le_of_ble_eq_true rfl), (Nat.le_of_ble_eq_true rfl), (Nat.le_of_ble_eq_true rfl)⟩ rfl (Nat.le_of_ble_eq_true rfl)) (fun C hp1 hP => ?_) (fun v hp1 al1 hP => by obtain ⟨u, hu, _⟩ := hP; cases hu)
    obtain ⟨hC, rfl⟩ := hP
    cases hC
    rcases ite_o h with ⟨rfl, h⟩ | h
    · refine A_catch (name := "java/lang/IndexOutOfBoundsException") (Lc := []) (stc := []) X [] ⟨0, 10, 13, 28⟩ [⟨0, 10, 17, 19⟩] (htb.trans rfl) (fun z hz => nomatch hz) (by decide) (by decide) kw_953 kw_967 (fun q9 => ?_)
      refine A_astore (L' := [(4, .ref q9), (0, .ref x), (1, .int a1), (2, .int a2), (3, .ref o)]) X dL_throwsUntil_13 (by decide) rfl ?_
      refine A_iconst (v := 1) X dL_throwsUntil_15 (by decide) ?_
      cases h
      exact A_iretX X dL_throwsUntil_16 hr ⟨rfl, g39, (fun q z0 => rfl), rfl⟩ (Nat.le_of_ble_eq_true rfl) (Nat.le_of_ble_eq_true rfl)
    rcases ite_o h with ⟨rfl, h⟩ | h
    · refine A_catch (name := "java/lang/IllegalArgumentException") (Lc := []) (stc := []) X [⟨0, 10, 13, 28⟩] ⟨0, 10, 17, 19⟩ [] (htb.trans rfl) (fun z hz => by cases List.mem_singleton.mp hz; exact Or.inr ⟨by decide, "java/lang/IndexOutOfBoundsException", kw_953, List.mem_of_getElem? (i := 7) rfl⟩) (by decide) (by decide) kw_918 kw_928 (fun q9 => ?_)
      refine A_astore (L' := [(4, .ref q9), (0, .ref x), (1, .int a1), (2, .int a2), (3, .ref o)]) X dL_throwsUntil_17 (by decide) rfl ?_
      refine A_iconst (v := 2) X dL_throwsUntil_19 (by decide) ?_
      cases h
      exact A_iretX X dL_throwsUntil_20 hr ⟨rfl, g39, (fun q z0 => rfl), rfl⟩ (Nat.le_of_ble_eq_true rfl) (Nat.le_of_ble_eq_true rfl)
    cases h
  refine A_cX (k' := 2) (n' := 12) rfl rfl (A_runVX (rest := [.int 0, .ref o]) X dL_throwsUntil_5 (c_X10_throwsUntil g0 g3 g4 g5 g6  hct1) kY_X10_throwsUntil kw_1259 g0 rfl rfl ⟨(Nat.le_of_ble_eq_true rfl), (Nat.le_of_ble_eq_true rfl), (Nat.le_of_ble_eq_true rfl), (Nat.le_of_ble_eq_true rfl)⟩ rfl (Nat.le_of_ble_eq_true rfl)) (fun C hp1 hP => by obtain ⟨hC, _⟩ := hP; cases hC) (fun v9 hp1 al9 hP => ?_)
  obtain ⟨u9, hu9, rfl, rfl, rfl⟩ := hP
  cases hu9
  refine A_st (st' := [.int t1, .int 0, .ref o]) rfl ?_
  refine A_i2l X dL_throwsUntil_8 ?_
  refine A_last X dL_throwsUntil_9 g39 (by decide) (fun hp1 (k1 : hp1 o = some (.inl (kC E 1, 1, .inr (.inl (vp_updL ov (Int32.toNatClampNeg 0) t1.toInt64))))) n1 => ?_)
  refine A_goto (tgt := 21) X dL_throwsUntil_10 (by decide) ?_
  refine A_iconst (v := 0) X dL_throwsUntil_21 (by decide) ?_
  cases h
  exact A_iretX X dL_throwsUntil_22 hr ⟨rfl, k1, (fun q z0 => (n1 q z0)), rfl⟩ (Nat.le_of_ble_eq_true rfl) (Nat.le_of_ble_eq_true rfl)
abbrev P_L_scoreAfter (E : KE) (x : Nat) (o : Nat)  (hp : Hp) (al : Option Nat) (out : Int32 × Int32 × Int32 × (Nat → Int32) × (Nat → Int64)) : Option Value → Hp → Option Nat → Prop := fun v0 hp' al' => v0 = some (.int out.1) ∧ hp' (x + 16) = some (.inr (1, [.ref (x + 17), .int out.2.1, .int out.2.2.1])) ∧ hp' (x + 17) = some (.inl (kC E 0, 12, .inl out.2.2.2.1)) ∧ hp' o = some (.inl (kC E 1, 1, .inr (.inl out.2.2.2.2))) ∧ (∀ q, q ≠ (x + 16) → q ≠ (x + 17) → q ≠ o → hp' q = hp q) ∧ al = al'
set_option maxHeartbeats 4000000 in
set_option maxRecDepth 100000 in
theorem c_L_scoreAfter {E : KE} {l : Launch} {hp : Hp} {N : Nat} {x : Nat} {o : Nat} {sd : Int32} {mn : Int32} {th : Int32} {dc : Int32} {fc : Nat → Int32} {dw : Nat → Int32} {pc : Int32} {tc : Int32} {fr : Nat → Int32} {fd : Int32} {fs : Int32} {ff : Nat → Int32} {ov : Nat → Int64} {a1 : Int32} {a2 : Int32} {a3 : Int32} {out : Int32 × Int32 × Int32 × (Nat → Int32) × (Nat → Int64)} (g0 : hp x = some (.inr (10, [.ref (x + 126), .ref (x + 128), .ref (x + 1), .ref (x + 3), .ref (x + 16), .ref (x + 18), .ref (x + 124), .ref (x + 125)]))) (g3 : hp (x + 3) = some (.inr (2, [.ref (x + 4), .ref (x + 7), .ref (x + 10), .ref (x + 13), .int sd, .int mn, .int th]))) (g4 : hp (x + 4) = some (.inr (0, [.ref (x + 5), .ref (x + 6), .int dc]))) (g5 : hp (x + 5) = some (.inl (kC E 0, 6, .inl fc))) (g6 : hp (x + 6) = some (.inl (kC E 0, 72, .inl dw))) (g7 : hp (x + 7) = some (.inr (7, [.ref (x + 8), .ref (x + 9), .int pc]))) (g10 : hp (x + 10) = some (.inr (4, [.ref (x + 11), .ref (x + 12), .int tc]))) (g12 : hp (x + 12) = some (.inl (kC E 0, 432, .inl fr))) (g16 : hp (x + 16) = some (.inr (1, [.ref (x + 17), .int fd, .int fs]))) (g17 : hp (x + 17) = some (.inl (kC E 0, 12, .inl ff))) (g39 : hp o = some (.inl (kC E 1, 1, .inr (.inl ov)))) (hz0 : (x + 18) ≤ o ∨ (o + 1) ≤ x) (h : f_L_scoreAfter N sd dc fc dw pc fr fd fs ff ov a1 a2 a3 = some out) : AH E l yL_scoreAfter cL_scoreAfter 6 (Option.some Jvm.ClassFile.FieldType.int) [((0 : Nat), (12 : Nat), (15 : Nat), (28 : Nat)), ((0 : Nat), (12 : Nat), (19 : Nat), (19 : Nat))] ⟨10, 3, 18, 170⟩ [.ref x, .int a1, .int a2, .int a3, .ref o] hp none (P_L_scoreAfter E x o hp none out) := by
  refine A_ofH (by decide +kernel) (Nat.le_of_ble_eq_true rfl) ?_
  intro p e s m args below meth c X hr htb
  have X : CX E p l s m args meth c "DiceAuditLaw" cL_scoreAfter 6 := X
  refine A_L (L' := [(0, .ref x), (1, .int a1), (2, .int a2), (3, .int a3), (4, .ref o)]) rfl ?_
  unfold f_L_scoreAfter at h
  refine A_aload X dL_scoreAfter_0 4 rfl ?_
  refine A_iconst (v := 0) X dL_scoreAfter_2 (by decide) ?_
  refine A_aload_n X dL_scoreAfter_3 0 rfl ?_
  refine A_iload_n X dL_scoreAfter_4 1 rfl ?_
  refine A_iload_n X dL_scoreAfter_5 2 rfl ?_
  refine A_iload_n X dL_scoreAfter_6 3 rfl ?_
  rcases hbd_o h with ⟨C9, hc9, h⟩ | ⟨t1, hct1, h⟩
  · refine A_cX (k' := 3) (n' := 18) rfl rfl (A_runVX (rest := [.int 0, .ref o]) X dL_scoreAfter_7 (c_X10_scoreAfter g0 g3 g4 g5 g6 g7 g10 g12 g16 g17  hc9) kY_X10_scoreAfter kw_1266 g0 rfl rfl ⟨(Nat.le_of_ble_eq_true rfl), (Nat.le_of_ble_eq_true rfl), (Nat.le_of_ble_eq_true rfl), (Nat.le_of_ble_eq_true rfl)⟩ rfl (Nat.le_of_ble_eq_true rfl)) (fun C hp1 hP => ?_) (fun v hp1 al1 hP => by obtain ⟨u, hu, _⟩ := hP; cases hu)
    obtain ⟨hC, rfl⟩ := hP
    cases hC
    rcases ite_o h with ⟨rfl, h⟩ | h
    · refine A_catch (name := "java/lang/IndexOutOfBoundsException") (Lc := []) (stc := []) X [] ⟨0, 12, 15, 28⟩ [⟨0, 12, 19, 19⟩] (htb.trans rfl) (fun z hz => nomatch hz) (by decide) (by decide) kw_953 kw_967 (fun q9 => ?_)
      refine A_astore (L' := [(5, .ref q9), (0, .ref x), (1, .int a1), (2, .int a2), (3, .int a3), (4, .ref o)]) X dL_scoreAfter_15 (by decide) rfl ?_
      refine A_iconst (v := 1) X dL_scoreAfter_17 (by decide) ?_
      cases h
      exact A_iretX X dL_scoreAfter_18 hr ⟨rfl, g16, g17, g39, (fun q z0 z1 z2 => rfl), rfl⟩ (Nat.le_of_ble_eq_true rfl) (Nat.le_of_ble_eq_true rfl)
    rcases ite_o h with ⟨rfl, h⟩ | h
    · refine A_catch (name := "java/lang/IllegalArgumentException") (Lc := []) (stc := []) X [⟨0, 12, 15, 28⟩] ⟨0, 12, 19, 19⟩ [] (htb.trans rfl) (fun z hz => by cases List.mem_singleton.mp hz; exact Or.inr ⟨by decide, "java/lang/IndexOutOfBoundsException", kw_953, List.mem_of_getElem? (i := 7) rfl⟩) (by decide) (by decide) kw_918 kw_928 (fun q9 => ?_)
      refine A_astore (L' := [(5, .ref q9), (0, .ref x), (1, .int a1), (2, .int a2), (3, .int a3), (4, .ref o)]) X dL_scoreAfter_19 (by decide) rfl ?_
      refine A_iconst (v := 2) X dL_scoreAfter_21 (by decide) ?_
      cases h
      exact A_iretX X dL_scoreAfter_22 hr ⟨rfl, g16, g17, g39, (fun q z0 z1 z2 => rfl), rfl⟩ (Nat.le_of_ble_eq_true rfl) (Nat.le_of_ble_eq_true rfl)
    cases h
  refine A_cX (k' := 3) (n' := 18) rfl rfl (A_runVX (rest := [.int 0, .ref o]) X dL_scoreAfter_7 (c_X10_scoreAfter g0 g3 g4 g5 g6 g7 g10 g12 g16 g17  hct1) kY_X10_scoreAfter kw_1266 g0 rfl rfl ⟨(Nat.le_of_ble_eq_true rfl), (Nat.le_of_ble_eq_true rfl), (Nat.le_of_ble_eq_true rfl), (Nat.le_of_ble_eq_true rfl)⟩ rfl (Nat.le_of_ble_eq_true rfl)) (fun C hp1 hP => by obtain ⟨hC, _⟩ := hP; cases hC) (fun v9 hp1 al9 hP => ?_)
  obtain ⟨u9, hu9, rfl, k1_0, k1_1, n1, rfl⟩ := hP
  cases hu9
  replace k1_0 : hp1 (x + 16) = some (.inr (1, [.ref (x + 17), .int t1.2.1, .int t1.2.2.1])) := k1_0
  replace k1_1 : hp1 (x + 17) = some (.inl (kC E 0, 12, .inl t1.2.2.2)) := k1_1
  refine A_st (st' := [.int t1.1, .int 0, .ref o]) rfl ?_
  refine A_i2l X dL_scoreAfter_10 ?_
  refine A_last X dL_scoreAfter_11 ((n1 _ (by omega) (by omega)).trans g39) (by decide) (fun hp2 (k2 : hp2 o = some (.inl (kC E 1, 1, .inr (.inl (vp_updL ov (Int32.toNatClampNeg 0) t1.1.toInt64))))) n2 => ?_)
  refine A_goto (tgt := 23) X dL_scoreAfter_12 (by decide) ?_
  refine A_iconst (v := 0) X dL_scoreAfter_23 (by decide) ?_
  cases h
  exact A_iretX X dL_scoreAfter_24 hr ⟨rfl, ((n2 _ (by omega)).trans k1_0), ((n2 _ (by omega)).trans k1_1), k2, (fun q z0 z1 z2 => ((n2 q z2).trans (n1 q z0 z1))), rfl⟩ (Nat.le_of_ble_eq_true rfl) (Nat.le_of_ble_eq_true rfl)
abbrev P_L_throwsUntilSuspicious (E : KE) (x : Nat) (o : Nat)  (hp : Hp) (al : Option Nat) (out : Int32 × Int32 × Int32 × (Nat → Int32) × (Nat → Int64)) : Option Value → Hp → Option Nat → Prop := fun v0 hp' al' => v0 = some (.int out.1) ∧ hp' (x + 16) = some (.inr (1, [.ref (x + 17), .int out.2.1, .int out.2.2.1])) ∧ hp' (x + 17) = some (.inl (kC E 0, 12, .inl out.2.2.2.1)) ∧ hp' o = some (.inl (kC E 1, 1, .inr (.inl out.2.2.2.2))) ∧ (∀ q, q ≠ (x + 16) → q ≠ (x + 17) → q ≠ o → hp' q = hp q) ∧ al = al'
set_option maxHeartbeats 4000000 in
set_option maxRecDepth 100000 in
theorem c_L_throwsUntilSuspicious {E : KE} {l : Launch} {hp : Hp} {N : Nat} {x : Nat} {o : Nat} {sd : Int32} {mn : Int32} {th : Int32} {dc : Int32} {fc : Nat → Int32} {dw : Nat → Int32} {pc : Int32} {tc : Int32} {fr : Nat → Int32} {fd : Int32} {fs : Int32} {ff : Nat → Int32} {ov : Nat → Int64} {a1 : Int32} {a2 : Int32} {out : Int32 × Int32 × Int32 × (Nat → Int32) × (Nat → Int64)} (g0 : hp x = some (.inr (10, [.ref (x + 126), .ref (x + 128), .ref (x + 1), .ref (x + 3), .ref (x + 16), .ref (x + 18), .ref (x + 124), .ref (x + 125)]))) (g3 : hp (x + 3) = some (.inr (2, [.ref (x + 4), .ref (x + 7), .ref (x + 10), .ref (x + 13), .int sd, .int mn, .int th]))) (g4 : hp (x + 4) = some (.inr (0, [.ref (x + 5), .ref (x + 6), .int dc]))) (g5 : hp (x + 5) = some (.inl (kC E 0, 6, .inl fc))) (g6 : hp (x + 6) = some (.inl (kC E 0, 72, .inl dw))) (g7 : hp (x + 7) = some (.inr (7, [.ref (x + 8), .ref (x + 9), .int pc]))) (g10 : hp (x + 10) = some (.inr (4, [.ref (x + 11), .ref (x + 12), .int tc]))) (g12 : hp (x + 12) = some (.inl (kC E 0, 432, .inl fr))) (g16 : hp (x + 16) = some (.inr (1, [.ref (x + 17), .int fd, .int fs]))) (g17 : hp (x + 17) = some (.inl (kC E 0, 12, .inl ff))) (g39 : hp o = some (.inl (kC E 1, 1, .inr (.inl ov)))) (hz0 : (x + 18) ≤ o ∨ (o + 1) ≤ x) (h : f_L_throwsUntilSuspicious N sd mn th dc fc dw pc fr fd fs ff ov a1 a2 = some out) : AH E l yL_throwsUntilSuspicious cL_throwsUntilSuspicious 5 (Option.some Jvm.ClassFile.FieldType.int) [((0 : Nat), (10 : Nat), (13 : Nat), (28 : Nat))] ⟨10, 2, 12, 169⟩ [.ref x, .int a1, .int a2, .ref o] hp none (P_L_throwsUntilSuspicious E x o hp none out) := by
  refine A_ofH (by decide +kernel) (Nat.le_of_ble_eq_true rfl) ?_
  intro p e s m args below meth c X hr htb
  have X : CX E p l s m args meth c "DiceAuditLaw" cL_throwsUntilSuspicious 5 := X
  refine A_L (L' := [(0, .ref x), (1, .int a1), (2, .int a2), (3, .ref o)]) rfl ?_
  unfold f_L_throwsUntilSuspicious at h
  refine A_aload_n X dL_throwsUntilSuspicious_0 3 rfl ?_
  refine A_iconst (v := 0) X dL_throwsUntilSuspicious_1 (by decide) ?_
  refine A_aload_n X dL_throwsUntilSuspicious_2 0 rfl ?_
  refine A_iload_n X dL_throwsUntilSuspicious_3 1 rfl ?_
  refine A_iload_n X dL_throwsUntilSuspicious_4 2 rfl ?_
  rcases hbd_o h with ⟨C9, hc9, h⟩ | ⟨t1, hct1, h⟩
  · refine A_cX (k' := 2) (n' := 12) rfl rfl (A_runVX (rest := [.int 0, .ref o]) X dL_throwsUntilSuspicious_5 (c_X10_throwsUntilSuspicious g0 g3 g4 g5 g6 g7 g10 g12 g16 g17  hc9) kY_X10_throwsUntilSuspicious kw_1293 g0 rfl rfl ⟨(Nat.le_of_ble_eq_true rfl), (Nat.le_of_ble_eq_true rfl), (Nat.le_of_ble_eq_true rfl), (Nat.le_of_ble_eq_true rfl)⟩ rfl (Nat.le_of_ble_eq_true rfl)) (fun C hp1 hP => ?_) (fun v hp1 al1 hP => by obtain ⟨u, hu, _⟩ := hP; cases hu)
    obtain ⟨hC, rfl⟩ := hP
    cases hC
    rcases ite_o h with ⟨rfl, h⟩ | h
    · refine A_catch (name := "java/lang/IndexOutOfBoundsException") (Lc := []) (stc := []) X [] ⟨0, 10, 13, 28⟩ [] (htb.trans rfl) (fun z hz => nomatch hz) (by decide) (by decide) kw_953 kw_967 (fun q9 => ?_)
      refine A_astore (L' := [(4, .ref q9), (0, .ref x), (1, .int a1), (2, .int a2), (3, .ref o)]) X dL_throwsUntilSuspicious_13 (by decide) rfl ?_
      refine A_iconst (v := 1) X dL_throwsUntilSuspicious_15 (by decide) ?_
      cases h
      exact A_iretX X dL_throwsUntilSuspicious_16 hr ⟨rfl, g16, g17, g39, (fun q z0 z1 z2 => rfl), rfl⟩ (Nat.le_of_ble_eq_true rfl) (Nat.le_of_ble_eq_true rfl)
    cases h
  refine A_cX (k' := 2) (n' := 12) rfl rfl (A_runVX (rest := [.int 0, .ref o]) X dL_throwsUntilSuspicious_5 (c_X10_throwsUntilSuspicious g0 g3 g4 g5 g6 g7 g10 g12 g16 g17  hct1) kY_X10_throwsUntilSuspicious kw_1293 g0 rfl rfl ⟨(Nat.le_of_ble_eq_true rfl), (Nat.le_of_ble_eq_true rfl), (Nat.le_of_ble_eq_true rfl), (Nat.le_of_ble_eq_true rfl)⟩ rfl (Nat.le_of_ble_eq_true rfl)) (fun C hp1 hP => by obtain ⟨hC, _⟩ := hP; cases hC) (fun v9 hp1 al9 hP => ?_)
  obtain ⟨u9, hu9, rfl, k1_0, k1_1, n1, rfl⟩ := hP
  cases hu9
  replace k1_0 : hp1 (x + 16) = some (.inr (1, [.ref (x + 17), .int t1.2.1, .int t1.2.2.1])) := k1_0
  replace k1_1 : hp1 (x + 17) = some (.inl (kC E 0, 12, .inl t1.2.2.2)) := k1_1
  refine A_st (st' := [.int t1.1, .int 0, .ref o]) rfl ?_
  refine A_i2l X dL_throwsUntilSuspicious_8 ?_
  refine A_last X dL_throwsUntilSuspicious_9 ((n1 _ (by omega) (by omega)).trans g39) (by decide) (fun hp2 (k2 : hp2 o = some (.inl (kC E 1, 1, .inr (.inl (vp_updL ov (Int32.toNatClampNeg 0) t1.1.toInt64))))) n2 => ?_)
  refine A_goto (tgt := 17) X dL_throwsUntilSuspicious_10 (by decide) ?_
  refine A_iconst (v := 0) X dL_throwsUntilSuspicious_17 (by decide) ?_
  cases h
  exact A_iretX X dL_throwsUntilSuspicious_18 hr ⟨rfl, ((n2 _ (by omega)).trans k1_0), ((n2 _ (by omega)).trans k1_1), k2, (fun q z0 z1 z2 => ((n2 q z2).trans (n1 q z0 z1))), rfl⟩ (Nat.le_of_ble_eq_true rfl) (Nat.le_of_ble_eq_true rfl)
abbrev P_L_throwDie (E : KE) (x : Nat) (o : Nat) (v : Nat) (mn : Int32) (th : Int32) (hp : Hp) (al : Option Nat) (out : Int32 × Int32 × Int32 × (Nat → Int32) × (Nat → Int32) × Int32 × Int32 × (Nat → Int64) × Int32 × Int32 × Int32 × Int32 × (Nat → Int32) × (Nat → Int32) × Int32 × (Nat → Int32) × (Nat → Int32) × Int32 × (Nat → Int32) × (Nat → Int32) × Int32 × (Nat → Int32) × (Nat → Int32)) : Option Value → Hp → Option Nat → Prop := fun v0 hp' al' => v0 = some (.int out.1) ∧ hp' (x + 3) = some (.inr (2, [.ref (x + 4), .ref (x + 7), .ref (x + 10), .ref (x + 13), .int out.2.1, .int mn, .int th])) ∧ hp' (x + 10) = some (.inr (4, [.ref (x + 11), .ref (x + 12), .int out.2.2.1])) ∧ hp' (x + 11) = some (.inl (kC E 0, 300, .inl out.2.2.2.1)) ∧ hp' (x + 12) = some (.inl (kC E 0, 432, .inl out.2.2.2.2.1)) ∧ hp' (x + 18) = some (.inr (3, [.ref (x + 19), .int out.2.2.2.2.2.1, .int out.2.2.2.2.2.2.1])) ∧ hp' o = some (.inl (kC E 1, 1, .inr (.inl out.2.2.2.2.2.2.2.1))) ∧ hp' v = some (.inr (2, [.ref (v + 1), .ref (v + 4), .ref (v + 7), .ref (v + 10), .int out.2.2.2.2.2.2.2.2.1, .int out.2.2.2.2.2.2.2.2.2.1, .int out.2.2.2.2.2.2.2.2.2.2.1])) ∧ hp' (v + 1) = some (.inr (0, [.ref (v + 2), .ref (v + 3), .int out.2.2.2.2.2.2.2.2.2.2.2.1])) ∧ hp' (v + 2) = some (.inl (kC E 0, 6, .inl out.2.2.2.2.2.2.2.2.2.2.2.2.1)) ∧ hp' (v + 3) = some (.inl (kC E 0, 72, .inl out.2.2.2.2.2.2.2.2.2.2.2.2.2.1)) ∧ hp' (v + 4) = some (.inr (7, [.ref (v + 5), .ref (v + 6), .int out.2.2.2.2.2.2.2.2.2.2.2.2.2.2.1])) ∧ hp' (v + 5) = some (.inl (kC E 0, 6, .inl out.2.2.2.2.2.2.2.2.2.2.2.2.2.2.2.1)) ∧ hp' (v + 6) = some (.inl (kC E 0, 24, .inl out.2.2.2.2.2.2.2.2.2.2.2.2.2.2.2.2.1)) ∧ hp' (v + 7) = some (.inr (4, [.ref (v + 8), .ref (v + 9), .int out.2.2.2.2.2.2.2.2.2.2.2.2.2.2.2.2.2.1])) ∧ hp' (v + 8) = some (.inl (kC E 0, 300, .inl out.2.2.2.2.2.2.2.2.2.2.2.2.2.2.2.2.2.2.1)) ∧ hp' (v + 9) = some (.inl (kC E 0, 432, .inl out.2.2.2.2.2.2.2.2.2.2.2.2.2.2.2.2.2.2.2.1)) ∧ hp' (v + 10) = some (.inr (6, [.ref (v + 11), .ref (v + 12), .int out.2.2.2.2.2.2.2.2.2.2.2.2.2.2.2.2.2.2.2.2.1])) ∧ hp' (v + 11) = some (.inl (kC E 0, 36, .inl out.2.2.2.2.2.2.2.2.2.2.2.2.2.2.2.2.2.2.2.2.2.1)) ∧ hp' (v + 12) = some (.inl (kC E 0, 36, .inl out.2.2.2.2.2.2.2.2.2.2.2.2.2.2.2.2.2.2.2.2.2.2)) ∧ (∀ q, q ≠ (x + 3) → q ≠ (x + 10) → q ≠ (x + 11) → q ≠ (x + 12) → q ≠ (x + 18) → q ≠ o → q ≠ v → q ≠ (v + 1) → q ≠ (v + 2) → q ≠ (v + 3) → q ≠ (v + 4) → q ≠ (v + 5) → q ≠ (v + 6) → q ≠ (v + 7) → q ≠ (v + 8) → q ≠ (v + 9) → q ≠ (v + 10) → q ≠ (v + 11) → q ≠ (v + 12) → hp' q = hp q) ∧ al = al'
set_option maxHeartbeats 4000000 in
set_option maxRecDepth 100000 in
theorem c_L_throwDie {E : KE} {l : Launch} {hp : Hp} {N : Nat} {x : Nat} {o : Nat} {v : Nat} {sd : Int32} {mn : Int32} {th : Int32} {dc : Int32} {fc : Nat → Int32} {dw : Nat → Int32} {pc : Int32} {ln : Nat → Int32} {lt : Nat → Int32} {tc : Int32} {en : Nat → Int32} {fr : Nat → Int32} {oc : Int32} {op : Nat → Int32} {os : Nat → Int32} {nx : Int32} {dp : Int32} {rws : Nat → Option Nat} {ov : Nat → Int64} {v_sd : Int32} {v_mn : Int32} {v_th : Int32} {v_dc : Int32} {v_fc : Nat → Int32} {v_dw : Nat → Int32} {v_pc : Int32} {v_ln : Nat → Int32} {v_lt : Nat → Int32} {v_tc : Int32} {v_en : Nat → Int32} {v_fr : Nat → Int32} {v_oc : Int32} {v_op : Nat → Int32} {v_os : Nat → Int32} {a1 : Int32} {a2 : Int32} {a3 : Int32} {out : Int32 × Int32 × Int32 × (Nat → Int32) × (Nat → Int32) × Int32 × Int32 × (Nat → Int64) × Int32 × Int32 × Int32 × Int32 × (Nat → Int32) × (Nat → Int32) × Int32 × (Nat → Int32) × (Nat → Int32) × Int32 × (Nat → Int32) × (Nat → Int32) × Int32 × (Nat → Int32) × (Nat → Int32)} (g0 : hp x = some (.inr (10, [.ref (x + 126), .ref (x + 128), .ref (x + 1), .ref (x + 3), .ref (x + 16), .ref (x + 18), .ref (x + 124), .ref (x + 125)]))) (g3 : hp (x + 3) = some (.inr (2, [.ref (x + 4), .ref (x + 7), .ref (x + 10), .ref (x + 13), .int sd, .int mn, .int th]))) (g4 : hp (x + 4) = some (.inr (0, [.ref (x + 5), .ref (x + 6), .int dc]))) (g5 : hp (x + 5) = some (.inl (kC E 0, 6, .inl fc))) (g6 : hp (x + 6) = some (.inl (kC E 0, 72, .inl dw))) (g7 : hp (x + 7) = some (.inr (7, [.ref (x + 8), .ref (x + 9), .int pc]))) (g8 : hp (x + 8) = some (.inl (kC E 0, 6, .inl ln))) (g9 : hp (x + 9) = some (.inl (kC E 0, 24, .inl lt))) (g10 : hp (x + 10) = some (.inr (4, [.ref (x + 11), .ref (x + 12), .int tc]))) (g11 : hp (x + 11) = some (.inl (kC E 0, 300, .inl en))) (g12 : hp (x + 12) = some (.inl (kC E 0, 432, .inl fr))) (g13 : hp (x + 13) = some (.inr (6, [.ref (x + 14), .ref (x + 15), .int oc]))) (g14 : hp (x + 14) = some (.inl (kC E 0, 36, .inl op))) (g15 : hp (x + 15) = some (.inl (kC E 0, 36, .inl os))) (g18 : hp (x + 18) = some (.inr (3, [.ref (x + 19), .int nx, .int dp]))) (g19 : hp (x + 19) = some (.inl (kC E 5, 8, .inr (.inr (.inr (.inr rws)))))) (g39 : hp o = some (.inl (kC E 1, 1, .inr (.inl ov)))) (g40 : hp v = some (.inr (2, [.ref (v + 1), .ref (v + 4), .ref (v + 7), .ref (v + 10), .int v_sd, .int v_mn, .int v_th]))) (g41 : hp (v + 1) = some (.inr (0, [.ref (v + 2), .ref (v + 3), .int v_dc]))) (g42 : hp (v + 2) = some (.inl (kC E 0, 6, .inl v_fc))) (g43 : hp (v + 3) = some (.inl (kC E 0, 72, .inl v_dw))) (g44 : hp (v + 4) = some (.inr (7, [.ref (v + 5), .ref (v + 6), .int v_pc]))) (g45 : hp (v + 5) = some (.inl (kC E 0, 6, .inl v_ln))) (g46 : hp (v + 6) = some (.inl (kC E 0, 24, .inl v_lt))) (g47 : hp (v + 7) = some (.inr (4, [.ref (v + 8), .ref (v + 9), .int v_tc]))) (g48 : hp (v + 8) = some (.inl (kC E 0, 300, .inl v_en))) (g49 : hp (v + 9) = some (.inl (kC E 0, 432, .inl v_fr))) (g50 : hp (v + 10) = some (.inr (6, [.ref (v + 11), .ref (v + 12), .int v_oc]))) (g51 : hp (v + 11) = some (.inl (kC E 0, 36, .inl v_op))) (g52 : hp (v + 12) = some (.inl (kC E 0, 36, .inl v_os))) (hvv : rws (Int32.toNatClampNeg nx) = some v) (hlv : (x + 20) ≤ v) (huv : (v + 13) ≤ (x + 124)) (hz3 : (x + 20) ≤ o ∨ (o + 1) ≤ x) (hz4 : (o + 1) ≤ v ∨ (v + 13) ≤ o) (h : f_L_throwDie N mn th dc fc dw pc ln lt oc op os sd tc en fr nx dp ov v_sd v_mn v_th v_dc v_fc v_dw v_pc v_ln v_lt v_tc v_en v_fr v_oc v_op v_os a1 a2 a3 = some out) : AH E l yL_throwDie cL_throwDie 6 (Option.some Jvm.ClassFile.FieldType.int) [((0 : Nat), (12 : Nat), (15 : Nat), (28 : Nat)), ((0 : Nat), (12 : Nat), (19 : Nat), (19 : Nat)), ((0 : Nat), (12 : Nat), (23 : Nat), (13 : Nat))] ⟨10, 4, 24, 169⟩ [.ref x, .int a1, .int a2, .int a3, .ref o] hp none (P_L_throwDie E x o v mn th hp none out) := by
  refine A_ofH (by decide +kernel) (Nat.le_of_ble_eq_true rfl) ?_
  intro p e s m args below meth c X hr htb
  have X : CX E p l s m args meth c "DiceAuditLaw" cL_throwDie 6 := X
  refine A_L (L' := [(0, .ref x), (1, .int a1), (2, .int a2), (3, .int a3), (4, .ref o)]) rfl ?_
  unfold f_L_throwDie at h
  refine A_aload X dL_throwDie_0 4 rfl ?_
  refine A_iconst (v := 0) X dL_throwDie_2 (by decide) ?_
  refine A_aload_n X dL_throwDie_3 0 rfl ?_
  refine A_iload_n X dL_throwDie_4 1 rfl ?_
  refine A_iload_n X dL_throwDie_5 2 rfl ?_
  refine A_iload_n X dL_throwDie_6 3 rfl ?_
  rcases hbd_o h with ⟨C9, hc9, h⟩ | ⟨t1, hct1, h⟩
  · refine A_cX (k' := 4) (n' := 24) rfl rfl (A_runVX (rest := [.int 0, .ref o]) X dL_throwDie_7 (c_X10_throwDie g0 g3 g4 g5 g6 g7 g8 g9 g10 g11 g12 g13 g14 g15 g18 g19 g40 g41 g42 g43 g44 g45 g46 g47 g48 g49 g50 g51 g52 hvv (by omega) (by omega) hc9) kY_X10_throwDie kw_1306 g0 rfl rfl ⟨(Nat.le_of_ble_eq_true rfl), (Nat.le_of_ble_eq_true rfl), (Nat.le_of_ble_eq_true rfl), (Nat.le_of_ble_eq_true rfl)⟩ rfl (Nat.le_of_ble_eq_true rfl)) (fun C hp1 hP => ?_) (fun v hp1 al1 hP => by obtain ⟨u, hu, _⟩ := hP; cases hu)
    obtain ⟨hC, rfl⟩ := hP
    cases hC
    rcases ite_o h with ⟨rfl, h⟩ | h
    · refine A_catch (name := "java/lang/IndexOutOfBoundsException") (Lc := []) (stc := []) X [] ⟨0, 12, 15, 28⟩ [⟨0, 12, 19, 19⟩, ⟨0, 12, 23, 13⟩] (htb.trans rfl) (fun z hz => nomatch hz) (by decide) (by decide) kw_953 kw_967 (fun q9 => ?_)
      refine A_astore (L' := [(5, .ref q9), (0, .ref x), (1, .int a1), (2, .int a2), (3, .int a3), (4, .ref o)]) X dL_throwDie_15 (by decide) rfl ?_
      refine A_iconst (v := 1) X dL_throwDie_17 (by decide) ?_
      cases h
      exact A_iretX X dL_throwDie_18 hr ⟨rfl, g3, g10, g11, g12, g18, g39, g40, g41, g42, g43, g44, g45, g46, g47, g48, g49, g50, g51, g52, (fun q z0 z1 z2 z3 z4 z5 z6 z7 z8 z9 z10 z11 z12 z13 z14 z15 z16 z17 z18 => rfl), rfl⟩ (Nat.le_of_ble_eq_true rfl) (Nat.le_of_ble_eq_true rfl)
    rcases ite_o h with ⟨rfl, h⟩ | h
    · refine A_catch (name := "java/lang/IllegalArgumentException") (Lc := []) (stc := []) X [⟨0, 12, 15, 28⟩] ⟨0, 12, 19, 19⟩ [⟨0, 12, 23, 13⟩] (htb.trans rfl) (fun z hz => by cases List.mem_singleton.mp hz; exact Or.inr ⟨by decide, "java/lang/IndexOutOfBoundsException", kw_953, List.mem_of_getElem? (i := 7) rfl⟩) (by decide) (by decide) kw_918 kw_928 (fun q9 => ?_)
      refine A_astore (L' := [(5, .ref q9), (0, .ref x), (1, .int a1), (2, .int a2), (3, .int a3), (4, .ref o)]) X dL_throwDie_19 (by decide) rfl ?_
      refine A_iconst (v := 2) X dL_throwDie_21 (by decide) ?_
      cases h
      exact A_iretX X dL_throwDie_22 hr ⟨rfl, g3, g10, g11, g12, g18, g39, g40, g41, g42, g43, g44, g45, g46, g47, g48, g49, g50, g51, g52, (fun q z0 z1 z2 z3 z4 z5 z6 z7 z8 z9 z10 z11 z12 z13 z14 z15 z16 z17 z18 => rfl), rfl⟩ (Nat.le_of_ble_eq_true rfl) (Nat.le_of_ble_eq_true rfl)
    rcases ite_o h with ⟨rfl, h⟩ | h
    · refine A_catch (name := "java/lang/IllegalStateException") (Lc := []) (stc := []) X [⟨0, 12, 15, 28⟩, ⟨0, 12, 19, 19⟩] ⟨0, 12, 23, 13⟩ [] (htb.trans rfl) (fun z hz => by simp only [List.mem_cons, List.not_mem_nil, or_false] at hz; rcases hz with rfl | rfl; { exact Or.inr ⟨by decide, "java/lang/IndexOutOfBoundsException", kw_953, List.mem_of_getElem? (i := 6) rfl⟩ }; { exact Or.inr ⟨by decide, "java/lang/IllegalArgumentException", kw_918, List.mem_of_getElem? (i := 3) rfl⟩ }) (by decide) (by decide) kw_838 kw_845 (fun q9 => ?_)
      refine A_astore (L' := [(5, .ref q9), (0, .ref x), (1, .int a1), (2, .int a2), (3, .int a3), (4, .ref o)]) X dL_throwDie_23 (by decide) rfl ?_
      refine A_iconst (v := 3) X dL_throwDie_25 (by decide) ?_
      cases h
      exact A_iretX X dL_throwDie_26 hr ⟨rfl, g3, g10, g11, g12, g18, g39, g40, g41, g42, g43, g44, g45, g46, g47, g48, g49, g50, g51, g52, (fun q z0 z1 z2 z3 z4 z5 z6 z7 z8 z9 z10 z11 z12 z13 z14 z15 z16 z17 z18 => rfl), rfl⟩ (Nat.le_of_ble_eq_true rfl) (Nat.le_of_ble_eq_true rfl)
    cases h
  refine A_cX (k' := 4) (n' := 24) rfl rfl (A_runVX (rest := [.int 0, .ref o]) X dL_throwDie_7 (c_X10_throwDie g0 g3 g4 g5 g6 g7 g8 g9 g10 g11 g12 g13 g14 g15 g18 g19 g40 g41 g42 g43 g44 g45 g46 g47 g48 g49 g50 g51 g52 hvv (by omega) (by omega) hct1) kY_X10_throwDie kw_1306 g0 rfl rfl ⟨(Nat.le_of_ble_eq_true rfl), (Nat.le_of_ble_eq_true rfl), (Nat.le_of_ble_eq_true rfl), (Nat.le_of_ble_eq_true rfl)⟩ rfl (Nat.le_of_ble_eq_true rfl)) (fun C hp1 hP => by obtain ⟨hC, _⟩ := hP; cases hC) (fun v9 hp1 al9 hP => ?_)
  obtain ⟨u9, hu9, rfl, k1_0, k1_1, k1_2, k1_3, k1_4, k1_5, k1_6, k1_7, k1_8, k1_9, k1_10, k1_11, k1_12, k1_13, k1_14, k1_15, k1_16, k1_17, n1, rfl⟩ := hP
  cases hu9
  replace k1_0 : hp1 (x + 3) = some (.inr (2, [.ref (x + 4), .ref (x + 7), .ref (x + 10), .ref (x + 13), .int t1.2.1, .int mn, .int th])) := k1_0
  replace k1_1 : hp1 (x + 10) = some (.inr (4, [.ref (x + 11), .ref (x + 12), .int t1.2.2.1])) := k1_1
  replace k1_2 : hp1 (x + 11) = some (.inl (kC E 0, 300, .inl t1.2.2.2.1)) := k1_2
  replace k1_3 : hp1 (x + 12) = some (.inl (kC E 0, 432, .inl t1.2.2.2.2.1)) := k1_3
  replace k1_4 : hp1 (x + 18) = some (.inr (3, [.ref (x + 19), .int t1.2.2.2.2.2.1, .int t1.2.2.2.2.2.2.1])) := k1_4
  replace k1_5 : hp1 v = some (.inr (2, [.ref (v + 1), .ref (v + 4), .ref (v + 7), .ref (v + 10), .int t1.2.2.2.2.2.2.2.1, .int t1.2.2.2.2.2.2.2.2.1, .int t1.2.2.2.2.2.2.2.2.2.1])) := k1_5
  replace k1_6 : hp1 (v + 1) = some (.inr (0, [.ref (v + 2), .ref (v + 3), .int t1.2.2.2.2.2.2.2.2.2.2.1])) := k1_6
  replace k1_7 : hp1 (v + 2) = some (.inl (kC E 0, 6, .inl t1.2.2.2.2.2.2.2.2.2.2.2.1)) := k1_7
  replace k1_8 : hp1 (v + 3) = some (.inl (kC E 0, 72, .inl t1.2.2.2.2.2.2.2.2.2.2.2.2.1)) := k1_8
  replace k1_9 : hp1 (v + 4) = some (.inr (7, [.ref (v + 5), .ref (v + 6), .int t1.2.2.2.2.2.2.2.2.2.2.2.2.2.1])) := k1_9
  replace k1_10 : hp1 (v + 5) = some (.inl (kC E 0, 6, .inl t1.2.2.2.2.2.2.2.2.2.2.2.2.2.2.1)) := k1_10
  replace k1_11 : hp1 (v + 6) = some (.inl (kC E 0, 24, .inl t1.2.2.2.2.2.2.2.2.2.2.2.2.2.2.2.1)) := k1_11
  replace k1_12 : hp1 (v + 7) = some (.inr (4, [.ref (v + 8), .ref (v + 9), .int t1.2.2.2.2.2.2.2.2.2.2.2.2.2.2.2.2.1])) := k1_12
  replace k1_13 : hp1 (v + 8) = some (.inl (kC E 0, 300, .inl t1.2.2.2.2.2.2.2.2.2.2.2.2.2.2.2.2.2.1)) := k1_13
  replace k1_14 : hp1 (v + 9) = some (.inl (kC E 0, 432, .inl t1.2.2.2.2.2.2.2.2.2.2.2.2.2.2.2.2.2.2.1)) := k1_14
  replace k1_15 : hp1 (v + 10) = some (.inr (6, [.ref (v + 11), .ref (v + 12), .int t1.2.2.2.2.2.2.2.2.2.2.2.2.2.2.2.2.2.2.2.1])) := k1_15
  replace k1_16 : hp1 (v + 11) = some (.inl (kC E 0, 36, .inl t1.2.2.2.2.2.2.2.2.2.2.2.2.2.2.2.2.2.2.2.2.1)) := k1_16
  replace k1_17 : hp1 (v + 12) = some (.inl (kC E 0, 36, .inl t1.2.2.2.2.2.2.2.2.2.2.2.2.2.2.2.2.2.2.2.2.2)) := k1_17
  refine A_st (st' := [.int t1.1, .int 0, .ref o]) rfl ?_
  refine A_i2l X dL_throwDie_10 ?_
  refine A_last X dL_throwDie_11 ((n1 _ (by omega) (by omega) (by omega) (by omega) (by omega) (by omega) (by omega) (by omega) (by omega) (by omega) (by omega) (by omega) (by omega) (by omega) (by omega) (by omega) (by omega) (by omega)).trans g39) (by decide) (fun hp2 (k2 : hp2 o = some (.inl (kC E 1, 1, .inr (.inl (vp_updL ov (Int32.toNatClampNeg 0) t1.1.toInt64))))) n2 => ?_)
  refine A_goto (tgt := 27) X dL_throwDie_12 (by decide) ?_
  refine A_iconst (v := 0) X dL_throwDie_27 (by decide) ?_
  cases h
  exact A_iretX X dL_throwDie_28 hr ⟨rfl, ((n2 _ (by omega)).trans k1_0), ((n2 _ (by omega)).trans k1_1), ((n2 _ (by omega)).trans k1_2), ((n2 _ (by omega)).trans k1_3), ((n2 _ (by omega)).trans k1_4), k2, ((n2 _ (by omega)).trans k1_5), ((n2 _ (by omega)).trans k1_6), ((n2 _ (by omega)).trans k1_7), ((n2 _ (by omega)).trans k1_8), ((n2 _ (by omega)).trans k1_9), ((n2 _ (by omega)).trans k1_10), ((n2 _ (by omega)).trans k1_11), ((n2 _ (by omega)).trans k1_12), ((n2 _ (by omega)).trans k1_13), ((n2 _ (by omega)).trans k1_14), ((n2 _ (by omega)).trans k1_15), ((n2 _ (by omega)).trans k1_16), ((n2 _ (by omega)).trans k1_17), (fun q z0 z1 z2 z3 z4 z5 z6 z7 z8 z9 z10 z11 z12 z13 z14 z15 z16 z17 z18 => ((n2 q z5).trans (n1 q z0 z1 z2 z3 z4 z6 z7 z8 z9 z10 z11 z12 z13 z14 z15 z16 z17 z18))), rfl⟩ (Nat.le_of_ble_eq_true rfl) (Nat.le_of_ble_eq_true rfl)
abbrev P_L_absolve (E : KE) (x : Nat) (o : Nat) (v : Nat) (mn : Int32) (th : Int32) (hp : Hp) (al : Option Nat) (out : Int32 × Int32 × Int32 × (Nat → Int32) × (Nat → Int32) × Int32 × (Nat → Int32) × (Nat → Int32) × Int32 × Int32 × (Nat → Int64) × Int32 × Int32 × Int32 × Int32 × (Nat → Int32) × (Nat → Int32) × Int32 × (Nat → Int32) × (Nat → Int32) × Int32 × (Nat → Int32) × (Nat → Int32) × Int32 × (Nat → Int32) × (Nat → Int32)) : Option Value → Hp → Option Nat → Prop := fun v0 hp' al' => v0 = some (.int out.1) ∧ hp' (x + 3) = some (.inr (2, [.ref (x + 4), .ref (x + 7), .ref (x + 10), .ref (x + 13), .int out.2.1, .int mn, .int th])) ∧ hp' (x + 10) = some (.inr (4, [.ref (x + 11), .ref (x + 12), .int out.2.2.1])) ∧ hp' (x + 11) = some (.inl (kC E 0, 300, .inl out.2.2.2.1)) ∧ hp' (x + 12) = some (.inl (kC E 0, 432, .inl out.2.2.2.2.1)) ∧ hp' (x + 13) = some (.inr (6, [.ref (x + 14), .ref (x + 15), .int out.2.2.2.2.2.1])) ∧ hp' (x + 14) = some (.inl (kC E 0, 36, .inl out.2.2.2.2.2.2.1)) ∧ hp' (x + 15) = some (.inl (kC E 0, 36, .inl out.2.2.2.2.2.2.2.1)) ∧ hp' (x + 18) = some (.inr (3, [.ref (x + 19), .int out.2.2.2.2.2.2.2.2.1, .int out.2.2.2.2.2.2.2.2.2.1])) ∧ hp' o = some (.inl (kC E 1, 1, .inr (.inl out.2.2.2.2.2.2.2.2.2.2.1))) ∧ hp' v = some (.inr (2, [.ref (v + 1), .ref (v + 4), .ref (v + 7), .ref (v + 10), .int out.2.2.2.2.2.2.2.2.2.2.2.1, .int out.2.2.2.2.2.2.2.2.2.2.2.2.1, .int out.2.2.2.2.2.2.2.2.2.2.2.2.2.1])) ∧ hp' (v + 1) = some (.inr (0, [.ref (v + 2), .ref (v + 3), .int out.2.2.2.2.2.2.2.2.2.2.2.2.2.2.1])) ∧ hp' (v + 2) = some (.inl (kC E 0, 6, .inl out.2.2.2.2.2.2.2.2.2.2.2.2.2.2.2.1)) ∧ hp' (v + 3) = some (.inl (kC E 0, 72, .inl out.2.2.2.2.2.2.2.2.2.2.2.2.2.2.2.2.1)) ∧ hp' (v + 4) = some (.inr (7, [.ref (v + 5), .ref (v + 6), .int out.2.2.2.2.2.2.2.2.2.2.2.2.2.2.2.2.2.1])) ∧ hp' (v + 5) = some (.inl (kC E 0, 6, .inl out.2.2.2.2.2.2.2.2.2.2.2.2.2.2.2.2.2.2.1)) ∧ hp' (v + 6) = some (.inl (kC E 0, 24, .inl out.2.2.2.2.2.2.2.2.2.2.2.2.2.2.2.2.2.2.2.1)) ∧ hp' (v + 7) = some (.inr (4, [.ref (v + 8), .ref (v + 9), .int out.2.2.2.2.2.2.2.2.2.2.2.2.2.2.2.2.2.2.2.2.1])) ∧ hp' (v + 8) = some (.inl (kC E 0, 300, .inl out.2.2.2.2.2.2.2.2.2.2.2.2.2.2.2.2.2.2.2.2.2.1)) ∧ hp' (v + 9) = some (.inl (kC E 0, 432, .inl out.2.2.2.2.2.2.2.2.2.2.2.2.2.2.2.2.2.2.2.2.2.2.1)) ∧ hp' (v + 10) = some (.inr (6, [.ref (v + 11), .ref (v + 12), .int out.2.2.2.2.2.2.2.2.2.2.2.2.2.2.2.2.2.2.2.2.2.2.2.1])) ∧ hp' (v + 11) = some (.inl (kC E 0, 36, .inl out.2.2.2.2.2.2.2.2.2.2.2.2.2.2.2.2.2.2.2.2.2.2.2.2.1)) ∧ hp' (v + 12) = some (.inl (kC E 0, 36, .inl out.2.2.2.2.2.2.2.2.2.2.2.2.2.2.2.2.2.2.2.2.2.2.2.2.2)) ∧ (∀ q, q ≠ (x + 3) → q ≠ (x + 10) → q ≠ (x + 11) → q ≠ (x + 12) → q ≠ (x + 13) → q ≠ (x + 14) → q ≠ (x + 15) → q ≠ (x + 18) → q ≠ o → q ≠ v → q ≠ (v + 1) → q ≠ (v + 2) → q ≠ (v + 3) → q ≠ (v + 4) → q ≠ (v + 5) → q ≠ (v + 6) → q ≠ (v + 7) → q ≠ (v + 8) → q ≠ (v + 9) → q ≠ (v + 10) → q ≠ (v + 11) → q ≠ (v + 12) → hp' q = hp q) ∧ al = al'
set_option maxHeartbeats 4000000 in
set_option maxRecDepth 100000 in
theorem c_L_absolve {E : KE} {l : Launch} {hp : Hp} {N : Nat} {x : Nat} {o : Nat} {v : Nat} {sd : Int32} {mn : Int32} {th : Int32} {dc : Int32} {fc : Nat → Int32} {dw : Nat → Int32} {pc : Int32} {ln : Nat → Int32} {lt : Nat → Int32} {tc : Int32} {en : Nat → Int32} {fr : Nat → Int32} {oc : Int32} {op : Nat → Int32} {os : Nat → Int32} {nx : Int32} {dp : Int32} {rws : Nat → Option Nat} {ov : Nat → Int64} {v_sd : Int32} {v_mn : Int32} {v_th : Int32} {v_dc : Int32} {v_fc : Nat → Int32} {v_dw : Nat → Int32} {v_pc : Int32} {v_ln : Nat → Int32} {v_lt : Nat → Int32} {v_tc : Int32} {v_en : Nat → Int32} {v_fr : Nat → Int32} {v_oc : Int32} {v_op : Nat → Int32} {v_os : Nat → Int32}  {out : Int32 × Int32 × Int32 × (Nat → Int32) × (Nat → Int32) × Int32 × (Nat → Int32) × (Nat → Int32) × Int32 × Int32 × (Nat → Int64) × Int32 × Int32 × Int32 × Int32 × (Nat → Int32) × (Nat → Int32) × Int32 × (Nat → Int32) × (Nat → Int32) × Int32 × (Nat → Int32) × (Nat → Int32) × Int32 × (Nat → Int32) × (Nat → Int32)} (g0 : hp x = some (.inr (10, [.ref (x + 126), .ref (x + 128), .ref (x + 1), .ref (x + 3), .ref (x + 16), .ref (x + 18), .ref (x + 124), .ref (x + 125)]))) (g3 : hp (x + 3) = some (.inr (2, [.ref (x + 4), .ref (x + 7), .ref (x + 10), .ref (x + 13), .int sd, .int mn, .int th]))) (g4 : hp (x + 4) = some (.inr (0, [.ref (x + 5), .ref (x + 6), .int dc]))) (g5 : hp (x + 5) = some (.inl (kC E 0, 6, .inl fc))) (g6 : hp (x + 6) = some (.inl (kC E 0, 72, .inl dw))) (g7 : hp (x + 7) = some (.inr (7, [.ref (x + 8), .ref (x + 9), .int pc]))) (g8 : hp (x + 8) = some (.inl (kC E 0, 6, .inl ln))) (g9 : hp (x + 9) = some (.inl (kC E 0, 24, .inl lt))) (g10 : hp (x + 10) = some (.inr (4, [.ref (x + 11), .ref (x + 12), .int tc]))) (g11 : hp (x + 11) = some (.inl (kC E 0, 300, .inl en))) (g12 : hp (x + 12) = some (.inl (kC E 0, 432, .inl fr))) (g13 : hp (x + 13) = some (.inr (6, [.ref (x + 14), .ref (x + 15), .int oc]))) (g14 : hp (x + 14) = some (.inl (kC E 0, 36, .inl op))) (g15 : hp (x + 15) = some (.inl (kC E 0, 36, .inl os))) (g18 : hp (x + 18) = some (.inr (3, [.ref (x + 19), .int nx, .int dp]))) (g19 : hp (x + 19) = some (.inl (kC E 5, 8, .inr (.inr (.inr (.inr rws)))))) (g39 : hp o = some (.inl (kC E 1, 1, .inr (.inl ov)))) (g40 : hp v = some (.inr (2, [.ref (v + 1), .ref (v + 4), .ref (v + 7), .ref (v + 10), .int v_sd, .int v_mn, .int v_th]))) (g41 : hp (v + 1) = some (.inr (0, [.ref (v + 2), .ref (v + 3), .int v_dc]))) (g42 : hp (v + 2) = some (.inl (kC E 0, 6, .inl v_fc))) (g43 : hp (v + 3) = some (.inl (kC E 0, 72, .inl v_dw))) (g44 : hp (v + 4) = some (.inr (7, [.ref (v + 5), .ref (v + 6), .int v_pc]))) (g45 : hp (v + 5) = some (.inl (kC E 0, 6, .inl v_ln))) (g46 : hp (v + 6) = some (.inl (kC E 0, 24, .inl v_lt))) (g47 : hp (v + 7) = some (.inr (4, [.ref (v + 8), .ref (v + 9), .int v_tc]))) (g48 : hp (v + 8) = some (.inl (kC E 0, 300, .inl v_en))) (g49 : hp (v + 9) = some (.inl (kC E 0, 432, .inl v_fr))) (g50 : hp (v + 10) = some (.inr (6, [.ref (v + 11), .ref (v + 12), .int v_oc]))) (g51 : hp (v + 11) = some (.inl (kC E 0, 36, .inl v_op))) (g52 : hp (v + 12) = some (.inl (kC E 0, 36, .inl v_os))) (hvv : rws (Int32.toNatClampNeg nx) = some v) (hlv : (x + 20) ≤ v) (huv : (v + 13) ≤ (x + 124)) (hz3 : (x + 20) ≤ o ∨ (o + 1) ≤ x) (hz4 : (o + 1) ≤ v ∨ (v + 13) ≤ o) (h : f_L_absolve N mn th dc fc dw pc ln lt sd tc en fr oc op os nx dp ov v_sd v_mn v_th v_dc v_fc v_dw v_pc v_ln v_lt v_tc v_en v_fr v_oc v_op v_os = some out) : AH E l yL_absolve cL_absolve 3 (Option.some Jvm.ClassFile.FieldType.int) [((0 : Nat), (8 : Nat), (11 : Nat), (13 : Nat))] ⟨7, 1, 6, 122⟩ [.ref x, .ref o] hp none (P_L_absolve E x o v mn th hp none out) := by
  refine A_ofH (by decide +kernel) (Nat.le_of_ble_eq_true rfl) ?_
  intro p e s m args below meth c X hr htb
  have X : CX E p l s m args meth c "DiceAuditLaw" cL_absolve 3 := X
  refine A_L (L' := [(0, .ref x), (1, .ref o)]) rfl ?_
  unfold f_L_absolve at h
  refine A_aload_n X dL_absolve_0 1 rfl ?_
  refine A_iconst (v := 0) X dL_absolve_1 (by decide) ?_
  refine A_aload_n X dL_absolve_2 0 rfl ?_
  rcases hbd_o h with ⟨C9, hc9, h⟩ | ⟨t1, hct1, h⟩
  · refine A_cX (k' := 1) (n' := 6) rfl rfl (A_runVX (rest := [.int 0, .ref o]) X dL_absolve_3 (c_X10_absolve g0 g3 g4 g5 g6 g7 g8 g9 g10 g11 g12 g13 g14 g15 g18 g19 g40 g41 g42 g43 g44 g45 g46 g47 g48 g49 g50 g51 g52 hvv (by omega) (by omega) hc9) kY_X10_absolve kw_1315 g0 rfl rfl ⟨(Nat.le_of_ble_eq_true rfl), (Nat.le_of_ble_eq_true rfl), (Nat.le_of_ble_eq_true rfl), (Nat.le_of_ble_eq_true rfl)⟩ rfl (Nat.le_of_ble_eq_true rfl)) (fun C hp1 hP => ?_) (fun v hp1 al1 hP => by obtain ⟨u, hu, _⟩ := hP; cases hu)
    obtain ⟨hC, rfl⟩ := hP
    cases hC
    rcases ite_o h with ⟨rfl, h⟩ | h
    · refine A_catch (name := "java/lang/IllegalStateException") (Lc := []) (stc := []) X [] ⟨0, 8, 11, 13⟩ [] (htb.trans rfl) (fun z hz => nomatch hz) (by decide) (by decide) kw_838 kw_845 (fun q9 => ?_)
      refine A_astore_n (L' := [(2, .ref q9), (0, .ref x), (1, .ref o)]) X dL_absolve_11 rfl (by decide) rfl ?_
      refine A_iconst (v := 1) X dL_absolve_12 (by decide) ?_
      cases h
      exact A_iretX X dL_absolve_13 hr ⟨rfl, g3, g10, g11, g12, g13, g14, g15, g18, g39, g40, g41, g42, g43, g44, g45, g46, g47, g48, g49, g50, g51, g52, (fun q z0 z1 z2 z3 z4 z5 z6 z7 z8 z9 z10 z11 z12 z13 z14 z15 z16 z17 z18 z19 z20 z21 => rfl), rfl⟩ (Nat.le_of_ble_eq_true rfl) (Nat.le_of_ble_eq_true rfl)
    cases h
  refine A_cX (k' := 1) (n' := 6) rfl rfl (A_runVX (rest := [.int 0, .ref o]) X dL_absolve_3 (c_X10_absolve g0 g3 g4 g5 g6 g7 g8 g9 g10 g11 g12 g13 g14 g15 g18 g19 g40 g41 g42 g43 g44 g45 g46 g47 g48 g49 g50 g51 g52 hvv (by omega) (by omega) hct1) kY_X10_absolve kw_1315 g0 rfl rfl ⟨(Nat.le_of_ble_eq_true rfl), (Nat.le_of_ble_eq_true rfl), (Nat.le_of_ble_eq_true rfl), (Nat.le_of_ble_eq_true rfl)⟩ rfl (Nat.le_of_ble_eq_true rfl)) (fun C hp1 hP => by obtain ⟨hC, _⟩ := hP; cases hC) (fun v9 hp1 al9 hP => ?_)
  obtain ⟨u9, hu9, rfl, k1_0, k1_1, k1_2, k1_3, k1_4, k1_5, k1_6, k1_7, k1_8, k1_9, k1_10, k1_11, k1_12, k1_13, k1_14, k1_15, k1_16, k1_17, k1_18, k1_19, k1_20, n1, rfl⟩ := hP
  cases hu9
  replace k1_0 : hp1 (x + 3) = some (.inr (2, [.ref (x + 4), .ref (x + 7), .ref (x + 10), .ref (x + 13), .int t1.2.1, .int mn, .int th])) := k1_0
  replace k1_1 : hp1 (x + 10) = some (.inr (4, [.ref (x + 11), .ref (x + 12), .int t1.2.2.1])) := k1_1
  replace k1_2 : hp1 (x + 11) = some (.inl (kC E 0, 300, .inl t1.2.2.2.1)) := k1_2
  replace k1_3 : hp1 (x + 12) = some (.inl (kC E 0, 432, .inl t1.2.2.2.2.1)) := k1_3
  replace k1_4 : hp1 (x + 13) = some (.inr (6, [.ref (x + 14), .ref (x + 15), .int t1.2.2.2.2.2.1])) := k1_4
  replace k1_5 : hp1 (x + 14) = some (.inl (kC E 0, 36, .inl t1.2.2.2.2.2.2.1)) := k1_5
  replace k1_6 : hp1 (x + 15) = some (.inl (kC E 0, 36, .inl t1.2.2.2.2.2.2.2.1)) := k1_6
  replace k1_7 : hp1 (x + 18) = some (.inr (3, [.ref (x + 19), .int t1.2.2.2.2.2.2.2.2.1, .int t1.2.2.2.2.2.2.2.2.2.1])) := k1_7
  replace k1_8 : hp1 v = some (.inr (2, [.ref (v + 1), .ref (v + 4), .ref (v + 7), .ref (v + 10), .int t1.2.2.2.2.2.2.2.2.2.2.1, .int t1.2.2.2.2.2.2.2.2.2.2.2.1, .int t1.2.2.2.2.2.2.2.2.2.2.2.2.1])) := k1_8
  replace k1_9 : hp1 (v + 1) = some (.inr (0, [.ref (v + 2), .ref (v + 3), .int t1.2.2.2.2.2.2.2.2.2.2.2.2.2.1])) := k1_9
  replace k1_10 : hp1 (v + 2) = some (.inl (kC E 0, 6, .inl t1.2.2.2.2.2.2.2.2.2.2.2.2.2.2.1)) := k1_10
  replace k1_11 : hp1 (v + 3) = some (.inl (kC E 0, 72, .inl t1.2.2.2.2.2.2.2.2.2.2.2.2.2.2.2.1)) := k1_11
  replace k1_12 : hp1 (v + 4) = some (.inr (7, [.ref (v + 5), .ref (v + 6), .int t1.2.2.2.2.2.2.2.2.2.2.2.2.2.2.2.2.1])) := k1_12
  replace k1_13 : hp1 (v + 5) = some (.inl (kC E 0, 6, .inl t1.2.2.2.2.2.2.2.2.2.2.2.2.2.2.2.2.2.1)) := k1_13
  replace k1_14 : hp1 (v + 6) = some (.inl (kC E 0, 24, .inl t1.2.2.2.2.2.2.2.2.2.2.2.2.2.2.2.2.2.2.1)) := k1_14
  replace k1_15 : hp1 (v + 7) = some (.inr (4, [.ref (v + 8), .ref (v + 9), .int t1.2.2.2.2.2.2.2.2.2.2.2.2.2.2.2.2.2.2.2.1])) := k1_15
  replace k1_16 : hp1 (v + 8) = some (.inl (kC E 0, 300, .inl t1.2.2.2.2.2.2.2.2.2.2.2.2.2.2.2.2.2.2.2.2.1)) := k1_16
  replace k1_17 : hp1 (v + 9) = some (.inl (kC E 0, 432, .inl t1.2.2.2.2.2.2.2.2.2.2.2.2.2.2.2.2.2.2.2.2.2.1)) := k1_17
  replace k1_18 : hp1 (v + 10) = some (.inr (6, [.ref (v + 11), .ref (v + 12), .int t1.2.2.2.2.2.2.2.2.2.2.2.2.2.2.2.2.2.2.2.2.2.2.1])) := k1_18
  replace k1_19 : hp1 (v + 11) = some (.inl (kC E 0, 36, .inl t1.2.2.2.2.2.2.2.2.2.2.2.2.2.2.2.2.2.2.2.2.2.2.2.1)) := k1_19
  replace k1_20 : hp1 (v + 12) = some (.inl (kC E 0, 36, .inl t1.2.2.2.2.2.2.2.2.2.2.2.2.2.2.2.2.2.2.2.2.2.2.2.2)) := k1_20
  refine A_st (st' := [.int t1.1, .int 0, .ref o]) rfl ?_
  refine A_i2l X dL_absolve_6 ?_
  refine A_last X dL_absolve_7 ((n1 _ (by omega) (by omega) (by omega) (by omega) (by omega) (by omega) (by omega) (by omega) (by omega) (by omega) (by omega) (by omega) (by omega) (by omega) (by omega) (by omega) (by omega) (by omega) (by omega) (by omega) (by omega)).trans g39) (by decide) (fun hp2 (k2 : hp2 o = some (.inl (kC E 1, 1, .inr (.inl (vp_updL ov (Int32.toNatClampNeg 0) t1.1.toInt64))))) n2 => ?_)
  refine A_goto (tgt := 14) X dL_absolve_8 (by decide) ?_
  refine A_iconst (v := 0) X dL_absolve_14 (by decide) ?_
  cases h
  exact A_iretX X dL_absolve_15 hr ⟨rfl, ((n2 _ (by omega)).trans k1_0), ((n2 _ (by omega)).trans k1_1), ((n2 _ (by omega)).trans k1_2), ((n2 _ (by omega)).trans k1_3), ((n2 _ (by omega)).trans k1_4), ((n2 _ (by omega)).trans k1_5), ((n2 _ (by omega)).trans k1_6), ((n2 _ (by omega)).trans k1_7), k2, ((n2 _ (by omega)).trans k1_8), ((n2 _ (by omega)).trans k1_9), ((n2 _ (by omega)).trans k1_10), ((n2 _ (by omega)).trans k1_11), ((n2 _ (by omega)).trans k1_12), ((n2 _ (by omega)).trans k1_13), ((n2 _ (by omega)).trans k1_14), ((n2 _ (by omega)).trans k1_15), ((n2 _ (by omega)).trans k1_16), ((n2 _ (by omega)).trans k1_17), ((n2 _ (by omega)).trans k1_18), ((n2 _ (by omega)).trans k1_19), ((n2 _ (by omega)).trans k1_20), (fun q z0 z1 z2 z3 z4 z5 z6 z7 z8 z9 z10 z11 z12 z13 z14 z15 z16 z17 z18 z19 z20 z21 => ((n2 q z8).trans (n1 q z0 z1 z2 z3 z4 z5 z6 z7 z9 z10 z11 z12 z13 z14 z15 z16 z17 z18 z19 z20 z21))), rfl⟩ (Nat.le_of_ble_eq_true rfl) (Nat.le_of_ble_eq_true rfl)
abbrev P_L_forgive (E : KE) (x : Nat) (o : Nat) (v : Nat)  (hp : Hp) (al : Option Nat) (out : Int32 × Int32 × (Nat → Int32) × (Nat → Int32) × Int32 × Int32 × (Nat → Int64) × Int32 × Int32 × Int32 × Int32 × (Nat → Int32) × (Nat → Int32) × Int32 × (Nat → Int32) × (Nat → Int32) × Int32 × (Nat → Int32) × (Nat → Int32) × Int32 × (Nat → Int32) × (Nat → Int32)) : Option Value → Hp → Option Nat → Prop := fun v0 hp' al' => v0 = some (.int out.1) ∧ hp' (x + 13) = some (.inr (6, [.ref (x + 14), .ref (x + 15), .int out.2.1])) ∧ hp' (x + 14) = some (.inl (kC E 0, 36, .inl out.2.2.1)) ∧ hp' (x + 15) = some (.inl (kC E 0, 36, .inl out.2.2.2.1)) ∧ hp' (x + 18) = some (.inr (3, [.ref (x + 19), .int out.2.2.2.2.1, .int out.2.2.2.2.2.1])) ∧ hp' o = some (.inl (kC E 1, 1, .inr (.inl out.2.2.2.2.2.2.1))) ∧ hp' v = some (.inr (2, [.ref (v + 1), .ref (v + 4), .ref (v + 7), .ref (v + 10), .int out.2.2.2.2.2.2.2.1, .int out.2.2.2.2.2.2.2.2.1, .int out.2.2.2.2.2.2.2.2.2.1])) ∧ hp' (v + 1) = some (.inr (0, [.ref (v + 2), .ref (v + 3), .int out.2.2.2.2.2.2.2.2.2.2.1])) ∧ hp' (v + 2) = some (.inl (kC E 0, 6, .inl out.2.2.2.2.2.2.2.2.2.2.2.1)) ∧ hp' (v + 3) = some (.inl (kC E 0, 72, .inl out.2.2.2.2.2.2.2.2.2.2.2.2.1)) ∧ hp' (v + 4) = some (.inr (7, [.ref (v + 5), .ref (v + 6), .int out.2.2.2.2.2.2.2.2.2.2.2.2.2.1])) ∧ hp' (v + 5) = some (.inl (kC E 0, 6, .inl out.2.2.2.2.2.2.2.2.2.2.2.2.2.2.1)) ∧ hp' (v + 6) = some (.inl (kC E 0, 24, .inl out.2.2.2.2.2.2.2.2.2.2.2.2.2.2.2.1)) ∧ hp' (v + 7) = some (.inr (4, [.ref (v + 8), .ref (v + 9), .int out.2.2.2.2.2.2.2.2.2.2.2.2.2.2.2.2.1])) ∧ hp' (v + 8) = some (.inl (kC E 0, 300, .inl out.2.2.2.2.2.2.2.2.2.2.2.2.2.2.2.2.2.1)) ∧ hp' (v + 9) = some (.inl (kC E 0, 432, .inl out.2.2.2.2.2.2.2.2.2.2.2.2.2.2.2.2.2.2.1)) ∧ hp' (v + 10) = some (.inr (6, [.ref (v + 11), .ref (v + 12), .int out.2.2.2.2.2.2.2.2.2.2.2.2.2.2.2.2.2.2.2.1])) ∧ hp' (v + 11) = some (.inl (kC E 0, 36, .inl out.2.2.2.2.2.2.2.2.2.2.2.2.2.2.2.2.2.2.2.2.1)) ∧ hp' (v + 12) = some (.inl (kC E 0, 36, .inl out.2.2.2.2.2.2.2.2.2.2.2.2.2.2.2.2.2.2.2.2.2)) ∧ (∀ q, q ≠ (x + 13) → q ≠ (x + 14) → q ≠ (x + 15) → q ≠ (x + 18) → q ≠ o → q ≠ v → q ≠ (v + 1) → q ≠ (v + 2) → q ≠ (v + 3) → q ≠ (v + 4) → q ≠ (v + 5) → q ≠ (v + 6) → q ≠ (v + 7) → q ≠ (v + 8) → q ≠ (v + 9) → q ≠ (v + 10) → q ≠ (v + 11) → q ≠ (v + 12) → hp' q = hp q) ∧ al = al'
set_option maxHeartbeats 4000000 in
set_option maxRecDepth 100000 in
theorem c_L_forgive {E : KE} {l : Launch} {hp : Hp} {N : Nat} {x : Nat} {o : Nat} {v : Nat} {sd : Int32} {mn : Int32} {th : Int32} {dc : Int32} {fc : Nat → Int32} {dw : Nat → Int32} {pc : Int32} {ln : Nat → Int32} {lt : Nat → Int32} {tc : Int32} {en : Nat → Int32} {fr : Nat → Int32} {oc : Int32} {op : Nat → Int32} {os : Nat → Int32} {nx : Int32} {dp : Int32} {rws : Nat → Option Nat} {ov : Nat → Int64} {v_sd : Int32} {v_mn : Int32} {v_th : Int32} {v_dc : Int32} {v_fc : Nat → Int32} {v_dw : Nat → Int32} {v_pc : Int32} {v_ln : Nat → Int32} {v_lt : Nat → Int32} {v_tc : Int32} {v_en : Nat → Int32} {v_fr : Nat → Int32} {v_oc : Int32} {v_op : Nat → Int32} {v_os : Nat → Int32} {a1 : Int32} {out : Int32 × Int32 × (Nat → Int32) × (Nat → Int32) × Int32 × Int32 × (Nat → Int64) × Int32 × Int32 × Int32 × Int32 × (Nat → Int32) × (Nat → Int32) × Int32 × (Nat → Int32) × (Nat → Int32) × Int32 × (Nat → Int32) × (Nat → Int32) × Int32 × (Nat → Int32) × (Nat → Int32)} (g0 : hp x = some (.inr (10, [.ref (x + 126), .ref (x + 128), .ref (x + 1), .ref (x + 3), .ref (x + 16), .ref (x + 18), .ref (x + 124), .ref (x + 125)]))) (g3 : hp (x + 3) = some (.inr (2, [.ref (x + 4), .ref (x + 7), .ref (x + 10), .ref (x + 13), .int sd, .int mn, .int th]))) (g4 : hp (x + 4) = some (.inr (0, [.ref (x + 5), .ref (x + 6), .int dc]))) (g5 : hp (x + 5) = some (.inl (kC E 0, 6, .inl fc))) (g6 : hp (x + 6) = some (.inl (kC E 0, 72, .inl dw))) (g7 : hp (x + 7) = some (.inr (7, [.ref (x + 8), .ref (x + 9), .int pc]))) (g8 : hp (x + 8) = some (.inl (kC E 0, 6, .inl ln))) (g9 : hp (x + 9) = some (.inl (kC E 0, 24, .inl lt))) (g10 : hp (x + 10) = some (.inr (4, [.ref (x + 11), .ref (x + 12), .int tc]))) (g11 : hp (x + 11) = some (.inl (kC E 0, 300, .inl en))) (g12 : hp (x + 12) = some (.inl (kC E 0, 432, .inl fr))) (g13 : hp (x + 13) = some (.inr (6, [.ref (x + 14), .ref (x + 15), .int oc]))) (g14 : hp (x + 14) = some (.inl (kC E 0, 36, .inl op))) (g15 : hp (x + 15) = some (.inl (kC E 0, 36, .inl os))) (g18 : hp (x + 18) = some (.inr (3, [.ref (x + 19), .int nx, .int dp]))) (g19 : hp (x + 19) = some (.inl (kC E 5, 8, .inr (.inr (.inr (.inr rws)))))) (g39 : hp o = some (.inl (kC E 1, 1, .inr (.inl ov)))) (g40 : hp v = some (.inr (2, [.ref (v + 1), .ref (v + 4), .ref (v + 7), .ref (v + 10), .int v_sd, .int v_mn, .int v_th]))) (g41 : hp (v + 1) = some (.inr (0, [.ref (v + 2), .ref (v + 3), .int v_dc]))) (g42 : hp (v + 2) = some (.inl (kC E 0, 6, .inl v_fc))) (g43 : hp (v + 3) = some (.inl (kC E 0, 72, .inl v_dw))) (g44 : hp (v + 4) = some (.inr (7, [.ref (v + 5), .ref (v + 6), .int v_pc]))) (g45 : hp (v + 5) = some (.inl (kC E 0, 6, .inl v_ln))) (g46 : hp (v + 6) = some (.inl (kC E 0, 24, .inl v_lt))) (g47 : hp (v + 7) = some (.inr (4, [.ref (v + 8), .ref (v + 9), .int v_tc]))) (g48 : hp (v + 8) = some (.inl (kC E 0, 300, .inl v_en))) (g49 : hp (v + 9) = some (.inl (kC E 0, 432, .inl v_fr))) (g50 : hp (v + 10) = some (.inr (6, [.ref (v + 11), .ref (v + 12), .int v_oc]))) (g51 : hp (v + 11) = some (.inl (kC E 0, 36, .inl v_op))) (g52 : hp (v + 12) = some (.inl (kC E 0, 36, .inl v_os))) (hvv : rws (Int32.toNatClampNeg nx) = some v) (hlv : (x + 20) ≤ v) (huv : (v + 13) ≤ (x + 124)) (hz3 : (x + 20) ≤ o ∨ (o + 1) ≤ x) (hz4 : (o + 1) ≤ v ∨ (v + 13) ≤ o) (h : f_L_forgive N sd mn th dc fc dw pc ln lt tc en fr oc op os nx dp ov v_sd v_mn v_th v_dc v_fc v_dw v_pc v_ln v_lt v_tc v_en v_fr v_oc v_op v_os a1 = some out) : AH E l yL_forgive cL_forgive 4 (Option.some Jvm.ClassFile.FieldType.int) [((0 : Nat), (9 : Nat), (12 : Nat), (28 : Nat))] ⟨9, 1, 6, 145⟩ [.ref x, .int a1, .ref o] hp none (P_L_forgive E x o v hp none out) := by
  refine A_ofH (by decide +kernel) (Nat.le_of_ble_eq_true rfl) ?_
  intro p e s m args below meth c X hr htb
  have X : CX E p l s m args meth c "DiceAuditLaw" cL_forgive 4 := X
  refine A_L (L' := [(0, .ref x), (1, .int a1), (2, .ref o)]) rfl ?_
  unfold f_L_forgive at h
  refine A_aload_n X dL_forgive_0 2 rfl ?_
  refine A_iconst (v := 0) X dL_forgive_1 (by decide) ?_
  refine A_aload_n X dL_forgive_2 0 rfl ?_
  refine A_iload_n X dL_forgive_3 1 rfl ?_
  rcases hbd_o h with ⟨C9, hc9, h⟩ | ⟨t1, hct1, h⟩
  · refine A_cX (k' := 1) (n' := 6) rfl rfl (A_runVX (rest := [.int 0, .ref o]) X dL_forgive_4 (c_X10_forgive g0 g3 g4 g5 g6 g7 g8 g9 g10 g11 g12 g13 g14 g15 g18 g19 g40 g41 g42 g43 g44 g45 g46 g47 g48 g49 g50 g51 g52 hvv (by omega) (by omega) hc9) kY_X10_forgive kw_1324 g0 rfl rfl ⟨(Nat.le_of_ble_eq_true rfl), (Nat.le_of_ble_eq_true rfl), (Nat.le_of_ble_eq_true rfl), (Nat.le_of_ble_eq_true rfl)⟩ rfl (Nat.le_of_ble_eq_true rfl)) (fun C hp1 hP => ?_) (fun v hp1 al1 hP => by obtain ⟨u, hu, _⟩ := hP; cases hu)
    obtain ⟨hC, rfl⟩ := hP
    cases hC
    rcases ite_o h with ⟨rfl, h⟩ | h
    · refine A_catch (name := "java/lang/IndexOutOfBoundsException") (Lc := []) (stc := []) X [] ⟨0, 9, 12, 28⟩ [] (htb.trans rfl) (fun z hz => nomatch hz) (by decide) (by decide) kw_953 kw_967 (fun q9 => ?_)
      refine A_astore_n (L' := [(3, .ref q9), (0, .ref x), (1, .int a1), (2, .ref o)]) X dL_forgive_12 rfl (by decide) rfl ?_
      refine A_iconst (v := 1) X dL_forgive_13 (by decide) ?_
      cases h
      exact A_iretX X dL_forgive_14 hr ⟨rfl, g13, g14, g15, g18, g39, g40, g41, g42, g43, g44, g45, g46, g47, g48, g49, g50, g51, g52, (fun q z0 z1 z2 z3 z4 z5 z6 z7 z8 z9 z10 z11 z12 z13 z14 z15 z16 z17 => rfl), rfl⟩ (Nat.le_of_ble_eq_true rfl) (Nat.le_of_ble_eq_true rfl)
    cases h
  refine A_cX (k' := 1) (n' := 6) rfl rfl (A_runVX (rest := [.int 0, .ref o]) X dL_forgive_4 (c_X10_forgive g0 g3 g4 g5 g6 g7 g8 g9 g10 g11 g12 g13 g14 g15 g18 g19 g40 g41 g42 g43 g44 g45 g46 g47 g48 g49 g50 g51 g52 hvv (by omega) (by omega) hct1) kY_X10_forgive kw_1324 g0 rfl rfl ⟨(Nat.le_of_ble_eq_true rfl), (Nat.le_of_ble_eq_true rfl), (Nat.le_of_ble_eq_true rfl), (Nat.le_of_ble_eq_true rfl)⟩ rfl (Nat.le_of_ble_eq_true rfl)) (fun C hp1 hP => by obtain ⟨hC, _⟩ := hP; cases hC) (fun v9 hp1 al9 hP => ?_)
  obtain ⟨u9, hu9, rfl, k1_0, k1_1, k1_2, k1_3, k1_4, k1_5, k1_6, k1_7, k1_8, k1_9, k1_10, k1_11, k1_12, k1_13, k1_14, k1_15, k1_16, n1, rfl⟩ := hP
  cases hu9
  replace k1_0 : hp1 (x + 13) = some (.inr (6, [.ref (x + 14), .ref (x + 15), .int t1.2.1])) := k1_0
  replace k1_1 : hp1 (x + 14) = some (.inl (kC E 0, 36, .inl t1.2.2.1)) := k1_1
  replace k1_2 : hp1 (x + 15) = some (.inl (kC E 0, 36, .inl t1.2.2.2.1)) := k1_2
  replace k1_3 : hp1 (x + 18) = some (.inr (3, [.ref (x + 19), .int t1.2.2.2.2.1, .int t1.2.2.2.2.2.1])) := k1_3
  replace k1_4 : hp1 v = some (.inr (2, [.ref (v + 1), .ref (v + 4), .ref (v + 7), .ref (v + 10), .int t1.2.2.2.2.2.2.1, .int t1.2.2.2.2.2.2.2.1, .int t1.2.2.2.2.2.2.2.2.1])) := k1_4
  replace k1_5 : hp1 (v + 1) = some (.inr (0, [.ref (v + 2), .ref (v + 3), .int t1.2.2.2.2.2.2.2.2.2.1])) := k1_5
  replace k1_6 : hp1 (v + 2) = some (.inl (kC E 0, 6, .inl t1.2.2.2.2.2.2.2.2.2.2.1)) := k1_6
  replace k1_7 : hp1 (v + 3) = some (.inl (kC E 0, 72, .inl t1.2.2.2.2.2.2.2.2.2.2.2.1)) := k1_7
  replace k1_8 : hp1 (v + 4) = some (.inr (7, [.ref (v + 5), .ref (v + 6), .int t1.2.2.2.2.2.2.2.2.2.2.2.2.1])) := k1_8
  replace k1_9 : hp1 (v + 5) = some (.inl (kC E 0, 6, .inl t1.2.2.2.2.2.2.2.2.2.2.2.2.2.1)) := k1_9
  replace k1_10 : hp1 (v + 6) = some (.inl (kC E 0, 24, .inl t1.2.2.2.2.2.2.2.2.2.2.2.2.2.2.1)) := k1_10
  replace k1_11 : hp1 (v + 7) = some (.inr (4, [.ref (v + 8), .ref (v + 9), .int t1.2.2.2.2.2.2.2.2.2.2.2.2.2.2.2.1])) := k1_11
  replace k1_12 : hp1 (v + 8) = some (.inl (kC E 0, 300, .inl t1.2.2.2.2.2.2.2.2.2.2.2.2.2.2.2.2.1)) := k1_12
  replace k1_13 : hp1 (v + 9) = some (.inl (kC E 0, 432, .inl t1.2.2.2.2.2.2.2.2.2.2.2.2.2.2.2.2.2.1)) := k1_13
  replace k1_14 : hp1 (v + 10) = some (.inr (6, [.ref (v + 11), .ref (v + 12), .int t1.2.2.2.2.2.2.2.2.2.2.2.2.2.2.2.2.2.2.1])) := k1_14
  replace k1_15 : hp1 (v + 11) = some (.inl (kC E 0, 36, .inl t1.2.2.2.2.2.2.2.2.2.2.2.2.2.2.2.2.2.2.2.1)) := k1_15
  replace k1_16 : hp1 (v + 12) = some (.inl (kC E 0, 36, .inl t1.2.2.2.2.2.2.2.2.2.2.2.2.2.2.2.2.2.2.2.2)) := k1_16
  refine A_st (st' := [.int t1.1, .int 0, .ref o]) rfl ?_
  refine A_i2l X dL_forgive_7 ?_
  refine A_last X dL_forgive_8 ((n1 _ (by omega) (by omega) (by omega) (by omega) (by omega) (by omega) (by omega) (by omega) (by omega) (by omega) (by omega) (by omega) (by omega) (by omega) (by omega) (by omega) (by omega)).trans g39) (by decide) (fun hp2 (k2 : hp2 o = some (.inl (kC E 1, 1, .inr (.inl (vp_updL ov (Int32.toNatClampNeg 0) t1.1.toInt64))))) n2 => ?_)
  refine A_goto (tgt := 15) X dL_forgive_9 (by decide) ?_
  refine A_iconst (v := 0) X dL_forgive_15 (by decide) ?_
  cases h
  exact A_iretX X dL_forgive_16 hr ⟨rfl, ((n2 _ (by omega)).trans k1_0), ((n2 _ (by omega)).trans k1_1), ((n2 _ (by omega)).trans k1_2), ((n2 _ (by omega)).trans k1_3), k2, ((n2 _ (by omega)).trans k1_4), ((n2 _ (by omega)).trans k1_5), ((n2 _ (by omega)).trans k1_6), ((n2 _ (by omega)).trans k1_7), ((n2 _ (by omega)).trans k1_8), ((n2 _ (by omega)).trans k1_9), ((n2 _ (by omega)).trans k1_10), ((n2 _ (by omega)).trans k1_11), ((n2 _ (by omega)).trans k1_12), ((n2 _ (by omega)).trans k1_13), ((n2 _ (by omega)).trans k1_14), ((n2 _ (by omega)).trans k1_15), ((n2 _ (by omega)).trans k1_16), (fun q z0 z1 z2 z3 z4 z5 z6 z7 z8 z9 z10 z11 z12 z13 z14 z15 z16 z17 => ((n2 q z4).trans (n1 q z0 z1 z2 z3 z5 z6 z7 z8 z9 z10 z11 z12 z13 z14 z15 z16 z17))), rfl⟩ (Nat.le_of_ble_eq_true rfl) (Nat.le_of_ble_eq_true rfl)
abbrev P_L_setWeight (E : KE) (x : Nat) (o : Nat) (v : Nat)  (hp : Hp) (al : Option Nat) (out : Int32 × (Nat → Int32) × Int32 × Int32 × (Nat → Int64) × Int32 × Int32 × Int32 × Int32 × (Nat → Int32) × (Nat → Int32) × Int32 × (Nat → Int32) × (Nat → Int32) × Int32 × (Nat → Int32) × (Nat → Int32) × Int32 × (Nat → Int32) × (Nat → Int32)) : Option Value → Hp → Option Nat → Prop := fun v0 hp' al' => v0 = some (.int out.1) ∧ hp' (x + 6) = some (.inl (kC E 0, 72, .inl out.2.1)) ∧ hp' (x + 18) = some (.inr (3, [.ref (x + 19), .int out.2.2.1, .int out.2.2.2.1])) ∧ hp' o = some (.inl (kC E 1, 1, .inr (.inl out.2.2.2.2.1))) ∧ hp' v = some (.inr (2, [.ref (v + 1), .ref (v + 4), .ref (v + 7), .ref (v + 10), .int out.2.2.2.2.2.1, .int out.2.2.2.2.2.2.1, .int out.2.2.2.2.2.2.2.1])) ∧ hp' (v + 1) = some (.inr (0, [.ref (v + 2), .ref (v + 3), .int out.2.2.2.2.2.2.2.2.1])) ∧ hp' (v + 2) = some (.inl (kC E 0, 6, .inl out.2.2.2.2.2.2.2.2.2.1)) ∧ hp' (v + 3) = some (.inl (kC E 0, 72, .inl out.2.2.2.2.2.2.2.2.2.2.1)) ∧ hp' (v + 4) = some (.inr (7, [.ref (v + 5), .ref (v + 6), .int out.2.2.2.2.2.2.2.2.2.2.2.1])) ∧ hp' (v + 5) = some (.inl (kC E 0, 6, .inl out.2.2.2.2.2.2.2.2.2.2.2.2.1)) ∧ hp' (v + 6) = some (.inl (kC E 0, 24, .inl out.2.2.2.2.2.2.2.2.2.2.2.2.2.1)) ∧ hp' (v + 7) = some (.inr (4, [.ref (v + 8), .ref (v + 9), .int out.2.2.2.2.2.2.2.2.2.2.2.2.2.2.1])) ∧ hp' (v + 8) = some (.inl (kC E 0, 300, .inl out.2.2.2.2.2.2.2.2.2.2.2.2.2.2.2.1)) ∧ hp' (v + 9) = some (.inl (kC E 0, 432, .inl out.2.2.2.2.2.2.2.2.2.2.2.2.2.2.2.2.1)) ∧ hp' (v + 10) = some (.inr (6, [.ref (v + 11), .ref (v + 12), .int out.2.2.2.2.2.2.2.2.2.2.2.2.2.2.2.2.2.1])) ∧ hp' (v + 11) = some (.inl (kC E 0, 36, .inl out.2.2.2.2.2.2.2.2.2.2.2.2.2.2.2.2.2.2.1)) ∧ hp' (v + 12) = some (.inl (kC E 0, 36, .inl out.2.2.2.2.2.2.2.2.2.2.2.2.2.2.2.2.2.2.2)) ∧ (∀ q, q ≠ (x + 6) → q ≠ (x + 18) → q ≠ o → q ≠ v → q ≠ (v + 1) → q ≠ (v + 2) → q ≠ (v + 3) → q ≠ (v + 4) → q ≠ (v + 5) → q ≠ (v + 6) → q ≠ (v + 7) → q ≠ (v + 8) → q ≠ (v + 9) → q ≠ (v + 10) → q ≠ (v + 11) → q ≠ (v + 12) → hp' q = hp q) ∧ al = al'
set_option maxHeartbeats 4000000 in
set_option maxRecDepth 100000 in
theorem c_L_setWeight {E : KE} {l : Launch} {hp : Hp} {N : Nat} {x : Nat} {o : Nat} {v : Nat} {sd : Int32} {mn : Int32} {th : Int32} {dc : Int32} {fc : Nat → Int32} {dw : Nat → Int32} {pc : Int32} {ln : Nat → Int32} {lt : Nat → Int32} {tc : Int32} {en : Nat → Int32} {fr : Nat → Int32} {oc : Int32} {op : Nat → Int32} {os : Nat → Int32} {nx : Int32} {dp : Int32} {rws : Nat → Option Nat} {ov : Nat → Int64} {v_sd : Int32} {v_mn : Int32} {v_th : Int32} {v_dc : Int32} {v_fc : Nat → Int32} {v_dw : Nat → Int32} {v_pc : Int32} {v_ln : Nat → Int32} {v_lt : Nat → Int32} {v_tc : Int32} {v_en : Nat → Int32} {v_fr : Nat → Int32} {v_oc : Int32} {v_op : Nat → Int32} {v_os : Nat → Int32} {a1 : Int32} {a2 : Int32} {a3 : Int32} {out : Int32 × (Nat → Int32) × Int32 × Int32 × (Nat → Int64) × Int32 × Int32 × Int32 × Int32 × (Nat → Int32) × (Nat → Int32) × Int32 × (Nat → Int32) × (Nat → Int32) × Int32 × (Nat → Int32) × (Nat → Int32) × Int32 × (Nat → Int32) × (Nat → Int32)} (g0 : hp x = some (.inr (10, [.ref (x + 126), .ref (x + 128), .ref (x + 1), .ref (x + 3), .ref (x + 16), .ref (x + 18), .ref (x + 124), .ref (x + 125)]))) (g3 : hp (x + 3) = some (.inr (2, [.ref (x + 4), .ref (x + 7), .ref (x + 10), .ref (x + 13), .int sd, .int mn, .int th]))) (g4 : hp (x + 4) = some (.inr (0, [.ref (x + 5), .ref (x + 6), .int dc]))) (g5 : hp (x + 5) = some (.inl (kC E 0, 6, .inl fc))) (g6 : hp (x + 6) = some (.inl (kC E 0, 72, .inl dw))) (g7 : hp (x + 7) = some (.inr (7, [.ref (x + 8), .ref (x + 9), .int pc]))) (g8 : hp (x + 8) = some (.inl (kC E 0, 6, .inl ln))) (g9 : hp (x + 9) = some (.inl (kC E 0, 24, .inl lt))) (g10 : hp (x + 10) = some (.inr (4, [.ref (x + 11), .ref (x + 12), .int tc]))) (g11 : hp (x + 11) = some (.inl (kC E 0, 300, .inl en))) (g12 : hp (x + 12) = some (.inl (kC E 0, 432, .inl fr))) (g13 : hp (x + 13) = some (.inr (6, [.ref (x + 14), .ref (x + 15), .int oc]))) (g14 : hp (x + 14) = some (.inl (kC E 0, 36, .inl op))) (g15 : hp (x + 15) = some (.inl (kC E 0, 36, .inl os))) (g18 : hp (x + 18) = some (.inr (3, [.ref (x + 19), .int nx, .int dp]))) (g19 : hp (x + 19) = some (.inl (kC E 5, 8, .inr (.inr (.inr (.inr rws)))))) (g39 : hp o = some (.inl (kC E 1, 1, .inr (.inl ov)))) (g40 : hp v = some (.inr (2, [.ref (v + 1), .ref (v + 4), .ref (v + 7), .ref (v + 10), .int v_sd, .int v_mn, .int v_th]))) (g41 : hp (v + 1) = some (.inr (0, [.ref (v + 2), .ref (v + 3), .int v_dc]))) (g42 : hp (v + 2) = some (.inl (kC E 0, 6, .inl v_fc))) (g43 : hp (v + 3) = some (.inl (kC E 0, 72, .inl v_dw))) (g44 : hp (v + 4) = some (.inr (7, [.ref (v + 5), .ref (v + 6), .int v_pc]))) (g45 : hp (v + 5) = some (.inl (kC E 0, 6, .inl v_ln))) (g46 : hp (v + 6) = some (.inl (kC E 0, 24, .inl v_lt))) (g47 : hp (v + 7) = some (.inr (4, [.ref (v + 8), .ref (v + 9), .int v_tc]))) (g48 : hp (v + 8) = some (.inl (kC E 0, 300, .inl v_en))) (g49 : hp (v + 9) = some (.inl (kC E 0, 432, .inl v_fr))) (g50 : hp (v + 10) = some (.inr (6, [.ref (v + 11), .ref (v + 12), .int v_oc]))) (g51 : hp (v + 11) = some (.inl (kC E 0, 36, .inl v_op))) (g52 : hp (v + 12) = some (.inl (kC E 0, 36, .inl v_os))) (hvv : rws (Int32.toNatClampNeg nx) = some v) (hlv : (x + 20) ≤ v) (huv : (v + 13) ≤ (x + 124)) (hz3 : (x + 20) ≤ o ∨ (o + 1) ≤ x) (hz4 : (o + 1) ≤ v ∨ (v + 13) ≤ o) (h : f_L_setWeight N sd mn th dc fc pc ln lt tc en fr oc op os dw nx dp ov v_sd v_mn v_th v_dc v_fc v_dw v_pc v_ln v_lt v_tc v_en v_fr v_oc v_op v_os a1 a2 a3 = some out) : AH E l yL_setWeight cL_setWeight 6 (Option.some Jvm.ClassFile.FieldType.int) [((0 : Nat), (12 : Nat), (15 : Nat), (28 : Nat)), ((0 : Nat), (12 : Nat), (19 : Nat), (19 : Nat)), ((0 : Nat), (12 : Nat), (23 : Nat), (13 : Nat))] ⟨9, 4, 24, 150⟩ [.ref x, .int a1, .int a2, .int a3, .ref o] hp none (P_L_setWeight E x o v hp none out) := by
  refine A_ofH (by decide +kernel) (Nat.le_of_ble_eq_true rfl) ?_
  intro p e s m args below meth c X hr htb
  have X : CX E p l s m args meth c "DiceAuditLaw" cL_setWeight 6 := X
  refine A_L (L' := [(0, .ref x), (1, .int a1), (2, .int a2), (3, .int a3), (4, .ref o)]) rfl ?_
  unfold f_L_setWeight at h
  refine A_aload X dL_setWeight_0 4 rfl ?_
  refine A_iconst (v := 0) X dL_setWeight_2 (by decide) ?_
  refine A_aload_n X dL_setWeight_3 0 rfl ?_
  refine A_iload_n X dL_setWeight_4 1 rfl ?_
  refine A_iload_n X dL_setWeight_5 2 rfl ?_
  refine A_iload_n X dL_setWeight_6 3 rfl ?_
  rcases hbd_o h with ⟨C9, hc9, h⟩ | ⟨t1, hct1, h⟩
  · refine A_cX (k' := 4) (n' := 24) rfl rfl (A_runVX (rest := [.int 0, .ref o]) X dL_setWeight_7 (c_X10_setWeight g0 g3 g4 g5 g6 g7 g8 g9 g10 g11 g12 g13 g14 g15 g18 g19 g40 g41 g42 g43 g44 g45 g46 g47 g48 g49 g50 g51 g52 hvv (by omega) (by omega) hc9) kY_X10_setWeight kw_1332 g0 rfl rfl ⟨(Nat.le_of_ble_eq_true rfl), (Nat.le_of_ble_eq_true rfl), (Nat.le_of_ble_eq_true rfl), (Nat.le_of_ble_eq_true rfl)⟩ rfl (Nat.le_of_ble_eq_true rfl)) (fun C hp1 hP => ?_) (fun v hp1 al1 hP => by obtain ⟨u, hu, _⟩ := hP; cases hu)
    obtain ⟨hC, rfl⟩ := hP
    cases hC
    rcases ite_o h with ⟨rfl, h⟩ | h
    · refine A_catch (name := "java/lang/IndexOutOfBoundsException") (Lc := []) (stc := []) X [] ⟨0, 12, 15, 28⟩ [⟨0, 12, 19, 19⟩, ⟨0, 12, 23, 13⟩] (htb.trans rfl) (fun z hz => nomatch hz) (by decide) (by decide) kw_953 kw_967 (fun q9 => ?_)
      refine A_astore (L' := [(5, .ref q9), (0, .ref x), (1, .int a1), (2, .int a2), (3, .int a3), (4, .ref o)]) X dL_setWeight_15 (by decide) rfl ?_
      refine A_iconst (v := 1) X dL_setWeight_17 (by decide) ?_
      cases h
      exact A_iretX X dL_setWeight_18 hr ⟨rfl, g6, g18, g39, g40, g41, g42, g43, g44, g45, g46, g47, g48, g49, g50, g51, g52, (fun q z0 z1 z2 z3 z4 z5 z6 z7 z8 z9 z10 z11 z12 z13 z14 z15 => rfl), rfl⟩ (Nat.le_of_ble_eq_true rfl) (Nat.le_of_ble_eq_true rfl)
    rcases ite_o h with ⟨rfl, h⟩ | h
    · refine A_catch (name := "java/lang/IllegalArgumentException") (Lc := []) (stc := []) X [⟨0, 12, 15, 28⟩] ⟨0, 12, 19, 19⟩ [⟨0, 12, 23, 13⟩] (htb.trans rfl) (fun z hz => by cases List.mem_singleton.mp hz; exact Or.inr ⟨by decide, "java/lang/IndexOutOfBoundsException", kw_953, List.mem_of_getElem? (i := 7) rfl⟩) (by decide) (by decide) kw_918 kw_928 (fun q9 => ?_)
      refine A_astore (L' := [(5, .ref q9), (0, .ref x), (1, .int a1), (2, .int a2), (3, .int a3), (4, .ref o)]) X dL_setWeight_19 (by decide) rfl ?_
      refine A_iconst (v := 2) X dL_setWeight_21 (by decide) ?_
      cases h
      exact A_iretX X dL_setWeight_22 hr ⟨rfl, g6, g18, g39, g40, g41, g42, g43, g44, g45, g46, g47, g48, g49, g50, g51, g52, (fun q z0 z1 z2 z3 z4 z5 z6 z7 z8 z9 z10 z11 z12 z13 z14 z15 => rfl), rfl⟩ (Nat.le_of_ble_eq_true rfl) (Nat.le_of_ble_eq_true rfl)
    rcases ite_o h with ⟨rfl, h⟩ | h
    · refine A_catch (name := "java/lang/IllegalStateException") (Lc := []) (stc := []) X [⟨0, 12, 15, 28⟩, ⟨0, 12, 19, 19⟩] ⟨0, 12, 23, 13⟩ [] (htb.trans rfl) (fun z hz => by simp only [List.mem_cons, List.not_mem_nil, or_false] at hz; rcases hz with rfl | rfl; { exact Or.inr ⟨by decide, "java/lang/IndexOutOfBoundsException", kw_953, List.mem_of_getElem? (i := 6) rfl⟩ }; { exact Or.inr ⟨by decide, "java/lang/IllegalArgumentException", kw_918, List.mem_of_getElem? (i := 3) rfl⟩ }) (by decide) (by decide) kw_838 kw_845 (fun q9 => ?_)
      refine A_astore (L' := [(5, .ref q9), (0, .ref x), (1, .int a1), (2, .int a2), (3, .int a3), (4, .ref o)]) X dL_setWeight_23 (by decide) rfl ?_
      refine A_iconst (v := 3) X dL_setWeight_25 (by decide) ?_
      cases h
      exact A_iretX X dL_setWeight_26 hr ⟨rfl, g6, g18, g39, g40, g41, g42, g43, g44, g45, g46, g47, g48, g49, g50, g51, g52, (fun q z0 z1 z2 z3 z4 z5 z6 z7 z8 z9 z10 z11 z12 z13 z14 z15 => rfl), rfl⟩ (Nat.le_of_ble_eq_true rfl) (Nat.le_of_ble_eq_true rfl)
    cases h
  refine A_cX (k' := 4) (n' := 24) rfl rfl (A_runVX (rest := [.int 0, .ref o]) X dL_setWeight_7 (c_X10_setWeight g0 g3 g4 g5 g6 g7 g8 g9 g10 g11 g12 g13 g14 g15 g18 g19 g40 g41 g42 g43 g44 g45 g46 g47 g48 g49 g50 g51 g52 hvv (by omega) (by omega) hct1) kY_X10_setWeight kw_1332 g0 rfl rfl ⟨(Nat.le_of_ble_eq_true rfl), (Nat.le_of_ble_eq_true rfl), (Nat.le_of_ble_eq_true rfl), (Nat.le_of_ble_eq_true rfl)⟩ rfl (Nat.le_of_ble_eq_true rfl)) (fun C hp1 hP => by obtain ⟨hC, _⟩ := hP; cases hC) (fun v9 hp1 al9 hP => ?_)
  obtain ⟨u9, hu9, rfl, k1_0, k1_1, k1_2, k1_3, k1_4, k1_5, k1_6, k1_7, k1_8, k1_9, k1_10, k1_11, k1_12, k1_13, k1_14, n1, rfl⟩ := hP
  cases hu9
  replace k1_0 : hp1 (x + 6) = some (.inl (kC E 0, 72, .inl t1.2.1)) := k1_0
  replace k1_1 : hp1 (x + 18) = some (.inr (3, [.ref (x + 19), .int t1.2.2.1, .int t1.2.2.2.1])) := k1_1
  replace k1_2 : hp1 v = some (.inr (2, [.ref (v + 1), .ref (v + 4), .ref (v + 7), .ref (v + 10), .int t1.2.2.2.2.1, .int t1.2.2.2.2.2.1, .int t1.2.2.2.2.2.2.1])) := k1_2
  replace k1_3 : hp1 (v + 1) = some (.inr (0, [.ref (v + 2), .ref (v + 3), .int t1.2.2.2.2.2.2.2.1])) := k1_3
  replace k1_4 : hp1 (v + 2) = some (.inl (kC E 0, 6, .inl t1.2.2.2.2.2.2.2.2.1)) := k1_4
  replace k1_5 : hp1 (v + 3) = some (.inl (kC E 0, 72, .inl t1.2.2.2.2.2.2.2.2.2.1)) := k1_5
  replace k1_6 : hp1 (v + 4) = some (.inr (7, [.ref (v + 5), .ref (v + 6), .int t1.2.2.2.2.2.2.2.2.2.2.1])) := k1_6
  replace k1_7 : hp1 (v + 5) = some (.inl (kC E 0, 6, .inl t1.2.2.2.2.2.2.2.2.2.2.2.1)) := k1_7
  replace k1_8 : hp1 (v + 6) = some (.inl (kC E 0, 24, .inl t1.2.2.2.2.2.2.2.2.2.2.2.2.1)) := k1_8
  replace k1_9 : hp1 (v + 7) = some (.inr (4, [.ref (v + 8), .ref (v + 9), .int t1.2.2.2.2.2.2.2.2.2.2.2.2.2.1])) := k1_9
  replace k1_10 : hp1 (v + 8) = some (.inl (kC E 0, 300, .inl t1.2.2.2.2.2.2.2.2.2.2.2.2.2.2.1)) := k1_10
  replace k1_11 : hp1 (v + 9) = some (.inl (kC E 0, 432, .inl t1.2.2.2.2.2.2.2.2.2.2.2.2.2.2.2.1)) := k1_11
  replace k1_12 : hp1 (v + 10) = some (.inr (6, [.ref (v + 11), .ref (v + 12), .int t1.2.2.2.2.2.2.2.2.2.2.2.2.2.2.2.2.1])) := k1_12
  replace k1_13 : hp1 (v + 11) = some (.inl (kC E 0, 36, .inl t1.2.2.2.2.2.2.2.2.2.2.2.2.2.2.2.2.2.1)) := k1_13
  replace k1_14 : hp1 (v + 12) = some (.inl (kC E 0, 36, .inl t1.2.2.2.2.2.2.2.2.2.2.2.2.2.2.2.2.2.2)) := k1_14
  refine A_st (st' := [.int t1.1, .int 0, .ref o]) rfl ?_
  refine A_i2l X dL_setWeight_10 ?_
  refine A_last X dL_setWeight_11 ((n1 _ (by omega) (by omega) (by omega) (by omega) (by omega) (by omega) (by omega) (by omega) (by omega) (by omega) (by omega) (by omega) (by omega) (by omega) (by omega)).trans g39) (by decide) (fun hp2 (k2 : hp2 o = some (.inl (kC E 1, 1, .inr (.inl (vp_updL ov (Int32.toNatClampNeg 0) t1.1.toInt64))))) n2 => ?_)
  refine A_goto (tgt := 27) X dL_setWeight_12 (by decide) ?_
  refine A_iconst (v := 0) X dL_setWeight_27 (by decide) ?_
  cases h
  exact A_iretX X dL_setWeight_28 hr ⟨rfl, ((n2 _ (by omega)).trans k1_0), ((n2 _ (by omega)).trans k1_1), k2, ((n2 _ (by omega)).trans k1_2), ((n2 _ (by omega)).trans k1_3), ((n2 _ (by omega)).trans k1_4), ((n2 _ (by omega)).trans k1_5), ((n2 _ (by omega)).trans k1_6), ((n2 _ (by omega)).trans k1_7), ((n2 _ (by omega)).trans k1_8), ((n2 _ (by omega)).trans k1_9), ((n2 _ (by omega)).trans k1_10), ((n2 _ (by omega)).trans k1_11), ((n2 _ (by omega)).trans k1_12), ((n2 _ (by omega)).trans k1_13), ((n2 _ (by omega)).trans k1_14), (fun q z0 z1 z2 z3 z4 z5 z6 z7 z8 z9 z10 z11 z12 z13 z14 z15 => ((n2 q z2).trans (n1 q z0 z1 z3 z4 z5 z6 z7 z8 z9 z10 z11 z12 z13 z14 z15))), rfl⟩ (Nat.le_of_ble_eq_true rfl) (Nat.le_of_ble_eq_true rfl)
abbrev P_L_setSeed (E : KE) (x : Nat) (o : Nat) (v : Nat) (mn : Int32) (th : Int32) (hp : Hp) (al : Option Nat) (out : Int32 × Int32 × Int32 × Int32 × (Nat → Int64) × Int32 × Int32 × Int32 × Int32 × (Nat → Int32) × (Nat → Int32) × Int32 × (Nat → Int32) × (Nat → Int32) × Int32 × (Nat → Int32) × (Nat → Int32) × Int32 × (Nat → Int32) × (Nat → Int32)) : Option Value → Hp → Option Nat → Prop := fun v0 hp' al' => v0 = some (.int out.1) ∧ hp' (x + 3) = some (.inr (2, [.ref (x + 4), .ref (x + 7), .ref (x + 10), .ref (x + 13), .int out.2.1, .int mn, .int th])) ∧ hp' (x + 18) = some (.inr (3, [.ref (x + 19), .int out.2.2.1, .int out.2.2.2.1])) ∧ hp' o = some (.inl (kC E 1, 1, .inr (.inl out.2.2.2.2.1))) ∧ hp' v = some (.inr (2, [.ref (v + 1), .ref (v + 4), .ref (v + 7), .ref (v + 10), .int out.2.2.2.2.2.1, .int out.2.2.2.2.2.2.1, .int out.2.2.2.2.2.2.2.1])) ∧ hp' (v + 1) = some (.inr (0, [.ref (v + 2), .ref (v + 3), .int out.2.2.2.2.2.2.2.2.1])) ∧ hp' (v + 2) = some (.inl (kC E 0, 6, .inl out.2.2.2.2.2.2.2.2.2.1)) ∧ hp' (v + 3) = some (.inl (kC E 0, 72, .inl out.2.2.2.2.2.2.2.2.2.2.1)) ∧ hp' (v + 4) = some (.inr (7, [.ref (v + 5), .ref (v + 6), .int out.2.2.2.2.2.2.2.2.2.2.2.1])) ∧ hp' (v + 5) = some (.inl (kC E 0, 6, .inl out.2.2.2.2.2.2.2.2.2.2.2.2.1)) ∧ hp' (v + 6) = some (.inl (kC E 0, 24, .inl out.2.2.2.2.2.2.2.2.2.2.2.2.2.1)) ∧ hp' (v + 7) = some (.inr (4, [.ref (v + 8), .ref (v + 9), .int out.2.2.2.2.2.2.2.2.2.2.2.2.2.2.1])) ∧ hp' (v + 8) = some (.inl (kC E 0, 300, .inl out.2.2.2.2.2.2.2.2.2.2.2.2.2.2.2.1)) ∧ hp' (v + 9) = some (.inl (kC E 0, 432, .inl out.2.2.2.2.2.2.2.2.2.2.2.2.2.2.2.2.1)) ∧ hp' (v + 10) = some (.inr (6, [.ref (v + 11), .ref (v + 12), .int out.2.2.2.2.2.2.2.2.2.2.2.2.2.2.2.2.2.1])) ∧ hp' (v + 11) = some (.inl (kC E 0, 36, .inl out.2.2.2.2.2.2.2.2.2.2.2.2.2.2.2.2.2.2.1)) ∧ hp' (v + 12) = some (.inl (kC E 0, 36, .inl out.2.2.2.2.2.2.2.2.2.2.2.2.2.2.2.2.2.2.2)) ∧ (∀ q, q ≠ (x + 3) → q ≠ (x + 18) → q ≠ o → q ≠ v → q ≠ (v + 1) → q ≠ (v + 2) → q ≠ (v + 3) → q ≠ (v + 4) → q ≠ (v + 5) → q ≠ (v + 6) → q ≠ (v + 7) → q ≠ (v + 8) → q ≠ (v + 9) → q ≠ (v + 10) → q ≠ (v + 11) → q ≠ (v + 12) → hp' q = hp q) ∧ al = al'
set_option maxHeartbeats 4000000 in
set_option maxRecDepth 100000 in
theorem c_L_setSeed {E : KE} {l : Launch} {hp : Hp} {x : Nat} {o : Nat} {v : Nat} {sd : Int32} {mn : Int32} {th : Int32} {dc : Int32} {fc : Nat → Int32} {dw : Nat → Int32} {pc : Int32} {ln : Nat → Int32} {lt : Nat → Int32} {tc : Int32} {en : Nat → Int32} {fr : Nat → Int32} {oc : Int32} {op : Nat → Int32} {os : Nat → Int32} {nx : Int32} {dp : Int32} {rws : Nat → Option Nat} {ov : Nat → Int64} {v_sd : Int32} {v_mn : Int32} {v_th : Int32} {v_dc : Int32} {v_fc : Nat → Int32} {v_dw : Nat → Int32} {v_pc : Int32} {v_ln : Nat → Int32} {v_lt : Nat → Int32} {v_tc : Int32} {v_en : Nat → Int32} {v_fr : Nat → Int32} {v_oc : Int32} {v_op : Nat → Int32} {v_os : Nat → Int32} {a1 : Int32} {out : Int32 × Int32 × Int32 × Int32 × (Nat → Int64) × Int32 × Int32 × Int32 × Int32 × (Nat → Int32) × (Nat → Int32) × Int32 × (Nat → Int32) × (Nat → Int32) × Int32 × (Nat → Int32) × (Nat → Int32) × Int32 × (Nat → Int32) × (Nat → Int32)} (g0 : hp x = some (.inr (10, [.ref (x + 126), .ref (x + 128), .ref (x + 1), .ref (x + 3), .ref (x + 16), .ref (x + 18), .ref (x + 124), .ref (x + 125)]))) (g3 : hp (x + 3) = some (.inr (2, [.ref (x + 4), .ref (x + 7), .ref (x + 10), .ref (x + 13), .int sd, .int mn, .int th]))) (g4 : hp (x + 4) = some (.inr (0, [.ref (x + 5), .ref (x + 6), .int dc]))) (g5 : hp (x + 5) = some (.inl (kC E 0, 6, .inl fc))) (g6 : hp (x + 6) = some (.inl (kC E 0, 72, .inl dw))) (g7 : hp (x + 7) = some (.inr (7, [.ref (x + 8), .ref (x + 9), .int pc]))) (g8 : hp (x + 8) = some (.inl (kC E 0, 6, .inl ln))) (g9 : hp (x + 9) = some (.inl (kC E 0, 24, .inl lt))) (g10 : hp (x + 10) = some (.inr (4, [.ref (x + 11), .ref (x + 12), .int tc]))) (g11 : hp (x + 11) = some (.inl (kC E 0, 300, .inl en))) (g12 : hp (x + 12) = some (.inl (kC E 0, 432, .inl fr))) (g13 : hp (x + 13) = some (.inr (6, [.ref (x + 14), .ref (x + 15), .int oc]))) (g14 : hp (x + 14) = some (.inl (kC E 0, 36, .inl op))) (g15 : hp (x + 15) = some (.inl (kC E 0, 36, .inl os))) (g18 : hp (x + 18) = some (.inr (3, [.ref (x + 19), .int nx, .int dp]))) (g19 : hp (x + 19) = some (.inl (kC E 5, 8, .inr (.inr (.inr (.inr rws)))))) (g39 : hp o = some (.inl (kC E 1, 1, .inr (.inl ov)))) (g40 : hp v = some (.inr (2, [.ref (v + 1), .ref (v + 4), .ref (v + 7), .ref (v + 10), .int v_sd, .int v_mn, .int v_th]))) (g41 : hp (v + 1) = some (.inr (0, [.ref (v + 2), .ref (v + 3), .int v_dc]))) (g42 : hp (v + 2) = some (.inl (kC E 0, 6, .inl v_fc))) (g43 : hp (v + 3) = some (.inl (kC E 0, 72, .inl v_dw))) (g44 : hp (v + 4) = some (.inr (7, [.ref (v + 5), .ref (v + 6), .int v_pc]))) (g45 : hp (v + 5) = some (.inl (kC E 0, 6, .inl v_ln))) (g46 : hp (v + 6) = some (.inl (kC E 0, 24, .inl v_lt))) (g47 : hp (v + 7) = some (.inr (4, [.ref (v + 8), .ref (v + 9), .int v_tc]))) (g48 : hp (v + 8) = some (.inl (kC E 0, 300, .inl v_en))) (g49 : hp (v + 9) = some (.inl (kC E 0, 432, .inl v_fr))) (g50 : hp (v + 10) = some (.inr (6, [.ref (v + 11), .ref (v + 12), .int v_oc]))) (g51 : hp (v + 11) = some (.inl (kC E 0, 36, .inl v_op))) (g52 : hp (v + 12) = some (.inl (kC E 0, 36, .inl v_os))) (hvv : rws (Int32.toNatClampNeg nx) = some v) (hlv : (x + 20) ≤ v) (huv : (v + 13) ≤ (x + 124)) (hz3 : (x + 20) ≤ o ∨ (o + 1) ≤ x) (hz4 : (o + 1) ≤ v ∨ (v + 13) ≤ o) (h : f_L_setSeed mn th dc fc dw pc ln lt tc en fr oc op os sd nx dp ov v_sd v_mn v_th v_dc v_fc v_dw v_pc v_ln v_lt v_tc v_en v_fr v_oc v_op v_os a1 = some out) : AH E l yL_setSeed cL_setSeed 4 (Option.some Jvm.ClassFile.FieldType.int) [((0 : Nat), (9 : Nat), (12 : Nat), (19 : Nat))] ⟨8, 1, 6, 126⟩ [.ref x, .int a1, .ref o] hp none (P_L_setSeed E x o v mn th hp none out) := by
  refine A_ofH (by decide +kernel) (Nat.le_of_ble_eq_true rfl) ?_
  intro p e s m args below meth c X hr htb
  have X : CX E p l s m args meth c "DiceAuditLaw" cL_setSeed 4 := X
  refine A_L (L' := [(0, .ref x), (1, .int a1), (2, .ref o)]) rfl ?_
  unfold f_L_setSeed at h
  refine A_aload_n X dL_setSeed_0 2 rfl ?_
  refine A_iconst (v := 0) X dL_setSeed_1 (by decide) ?_
  refine A_aload_n X dL_setSeed_2 0 rfl ?_
  refine A_iload_n X dL_setSeed_3 1 rfl ?_
  rcases hbd_o h with ⟨C9, hc9, h⟩ | ⟨t1, hct1, h⟩
  · refine A_cX (k' := 1) (n' := 6) rfl rfl (A_runVX (rest := [.int 0, .ref o]) X dL_setSeed_4 (c_X10_setSeed g0 g3 g4 g5 g6 g7 g8 g9 g10 g11 g12 g13 g14 g15 g18 g19 g40 g41 g42 g43 g44 g45 g46 g47 g48 g49 g50 g51 g52 hvv (by omega) (by omega) hc9) kY_X10_setSeed kw_1345 g0 rfl rfl ⟨(Nat.le_of_ble_eq_true rfl), (Nat.le_of_ble_eq_true rfl), (Nat.le_of_ble_eq_true rfl), (Nat.le_of_ble_eq_true rfl)⟩ rfl (Nat.le_of_ble_eq_true rfl)) (fun C hp1 hP => ?_) (fun v hp1 al1 hP => by obtain ⟨u, hu, _⟩ := hP; cases hu)
    obtain ⟨hC, rfl⟩ := hP
    cases hC
    rcases ite_o h with ⟨rfl, h⟩ | h
    · refine A_catch (name := "java/lang/IllegalArgumentException") (Lc := []) (stc := []) X [] ⟨0, 9, 12, 19⟩ [] (htb.trans rfl) (fun z hz => nomatch hz) (by decide) (by decide) kw_918 kw_928 (fun q9 => ?_)
      refine A_astore_n (L' := [(3, .ref q9), (0, .ref x), (1, .int a1), (2, .ref o)]) X dL_setSeed_12 rfl (by decide) rfl ?_
      refine A_iconst (v := 1) X dL_setSeed_13 (by decide) ?_
      cases h
      exact A_iretX X dL_setSeed_14 hr ⟨rfl, g3, g18, g39, g40, g41, g42, g43, g44, g45, g46, g47, g48, g49, g50, g51, g52, (fun q z0 z1 z2 z3 z4 z5 z6 z7 z8 z9 z10 z11 z12 z13 z14 z15 => rfl), rfl⟩ (Nat.le_of_ble_eq_true rfl) (Nat.le_of_ble_eq_true rfl)
    cases h
  refine A_cX (k' := 1) (n' := 6) rfl rfl (A_runVX (rest := [.int 0, .ref o]) X dL_setSeed_4 (c_X10_setSeed g0 g3 g4 g5 g6 g7 g8 g9 g10 g11 g12 g13 g14 g15 g18 g19 g40 g41 g42 g43 g44 g45 g46 g47 g48 g49 g50 g51 g52 hvv (by omega) (by omega) hct1) kY_X10_setSeed kw_1345 g0 rfl rfl ⟨(Nat.le_of_ble_eq_true rfl), (Nat.le_of_ble_eq_true rfl), (Nat.le_of_ble_eq_true rfl), (Nat.le_of_ble_eq_true rfl)⟩ rfl (Nat.le_of_ble_eq_true rfl)) (fun C hp1 hP => by obtain ⟨hC, _⟩ := hP; cases hC) (fun v9 hp1 al9 hP => ?_)
  obtain ⟨u9, hu9, rfl, k1_0, k1_1, k1_2, k1_3, k1_4, k1_5, k1_6, k1_7, k1_8, k1_9, k1_10, k1_11, k1_12, k1_13, k1_14, n1, rfl⟩ := hP
  cases hu9
  replace k1_0 : hp1 (x + 3) = some (.inr (2, [.ref (x + 4), .ref (x + 7), .ref (x + 10), .ref (x + 13), .int t1.2.1, .int mn, .int th])) := k1_0
  replace k1_1 : hp1 (x + 18) = some (.inr (3, [.ref (x + 19), .int t1.2.2.1, .int t1.2.2.2.1])) := k1_1
  replace k1_2 : hp1 v = some (.inr (2, [.ref (v + 1), .ref (v + 4), .ref (v + 7), .ref (v + 10), .int t1.2.2.2.2.1, .int t1.2.2.2.2.2.1, .int t1.2.2.2.2.2.2.1])) := k1_2
  replace k1_3 : hp1 (v + 1) = some (.inr (0, [.ref (v + 2), .ref (v + 3), .int t1.2.2.2.2.2.2.2.1])) := k1_3
  replace k1_4 : hp1 (v + 2) = some (.inl (kC E 0, 6, .inl t1.2.2.2.2.2.2.2.2.1)) := k1_4
  replace k1_5 : hp1 (v + 3) = some (.inl (kC E 0, 72, .inl t1.2.2.2.2.2.2.2.2.2.1)) := k1_5
  replace k1_6 : hp1 (v + 4) = some (.inr (7, [.ref (v + 5), .ref (v + 6), .int t1.2.2.2.2.2.2.2.2.2.2.1])) := k1_6
  replace k1_7 : hp1 (v + 5) = some (.inl (kC E 0, 6, .inl t1.2.2.2.2.2.2.2.2.2.2.2.1)) := k1_7
  replace k1_8 : hp1 (v + 6) = some (.inl (kC E 0, 24, .inl t1.2.2.2.2.2.2.2.2.2.2.2.2.1)) := k1_8
  replace k1_9 : hp1 (v + 7) = some (.inr (4, [.ref (v + 8), .ref (v + 9), .int t1.2.2.2.2.2.2.2.2.2.2.2.2.2.1])) := k1_9
  replace k1_10 : hp1 (v + 8) = some (.inl (kC E 0, 300, .inl t1.2.2.2.2.2.2.2.2.2.2.2.2.2.2.1)) := k1_10
  replace k1_11 : hp1 (v + 9) = some (.inl (kC E 0, 432, .inl t1.2.2.2.2.2.2.2.2.2.2.2.2.2.2.2.1)) := k1_11
  replace k1_12 : hp1 (v + 10) = some (.inr (6, [.ref (v + 11), .ref (v + 12), .int t1.2.2.2.2.2.2.2.2.2.2.2.2.2.2.2.2.1])) := k1_12
  replace k1_13 : hp1 (v + 11) = some (.inl (kC E 0, 36, .inl t1.2.2.2.2.2.2.2.2.2.2.2.2.2.2.2.2.2.1)) := k1_13
  replace k1_14 : hp1 (v + 12) = some (.inl (kC E 0, 36, .inl t1.2.2.2.2.2.2.2.2.2.2.2.2.2.2.2.2.2.2)) := k1_14
  refine A_st (st' := [.int t1.1, .int 0, .ref o]) rfl ?_
  refine A_i2l X dL_setSeed_7 ?_
  refine A_last X dL_setSeed_8 ((n1 _ (by omega) (by omega) (by omega) (by omega) (by omega) (by omega) (by omega) (by omega) (by omega) (by omega) (by omega) (by omega) (by omega) (by omega) (by omega)).trans g39) (by decide) (fun hp2 (k2 : hp2 o = some (.inl (kC E 1, 1, .inr (.inl (vp_updL ov (Int32.toNatClampNeg 0) t1.1.toInt64))))) n2 => ?_)
  refine A_goto (tgt := 15) X dL_setSeed_9 (by decide) ?_
  refine A_iconst (v := 0) X dL_setSeed_15 (by decide) ?_
  cases h
  exact A_iretX X dL_setSeed_16 hr ⟨rfl, ((n2 _ (by omega)).trans k1_0), ((n2 _ (by omega)).trans k1_1), k2, ((n2 _ (by omega)).trans k1_2), ((n2 _ (by omega)).trans k1_3), ((n2 _ (by omega)).trans k1_4), ((n2 _ (by omega)).trans k1_5), ((n2 _ (by omega)).trans k1_6), ((n2 _ (by omega)).trans k1_7), ((n2 _ (by omega)).trans k1_8), ((n2 _ (by omega)).trans k1_9), ((n2 _ (by omega)).trans k1_10), ((n2 _ (by omega)).trans k1_11), ((n2 _ (by omega)).trans k1_12), ((n2 _ (by omega)).trans k1_13), ((n2 _ (by omega)).trans k1_14), (fun q z0 z1 z2 z3 z4 z5 z6 z7 z8 z9 z10 z11 z12 z13 z14 z15 => ((n2 q z2).trans (n1 q z0 z1 z3 z4 z5 z6 z7 z8 z9 z10 z11 z12 z13 z14 z15))), rfl⟩ (Nat.le_of_ble_eq_true rfl) (Nat.le_of_ble_eq_true rfl)
abbrev P_L_setLimits (E : KE) (x : Nat) (o : Nat) (v : Nat) (sd : Int32) (hp : Hp) (al : Option Nat) (out : Int32 × Int32 × Int32 × Int32 × Int32 × (Nat → Int64) × Int32 × Int32 × Int32 × Int32 × (Nat → Int32) × (Nat → Int32) × Int32 × (Nat → Int32) × (Nat → Int32) × Int32 × (Nat → Int32) × (Nat → Int32) × Int32 × (Nat → Int32) × (Nat → Int32)) : Option Value → Hp → Option Nat → Prop := fun v0 hp' al' => v0 = some (.int out.1) ∧ hp' (x + 3) = some (.inr (2, [.ref (x + 4), .ref (x + 7), .ref (x + 10), .ref (x + 13), .int sd, .int out.2.1, .int out.2.2.1])) ∧ hp' (x + 18) = some (.inr (3, [.ref (x + 19), .int out.2.2.2.1, .int out.2.2.2.2.1])) ∧ hp' o = some (.inl (kC E 1, 1, .inr (.inl out.2.2.2.2.2.1))) ∧ hp' v = some (.inr (2, [.ref (v + 1), .ref (v + 4), .ref (v + 7), .ref (v + 10), .int out.2.2.2.2.2.2.1, .int out.2.2.2.2.2.2.2.1, .int out.2.2.2.2.2.2.2.2.1])) ∧ hp' (v + 1) = some (.inr (0, [.ref (v + 2), .ref (v + 3), .int out.2.2.2.2.2.2.2.2.2.1])) ∧ hp' (v + 2) = some (.inl (kC E 0, 6, .inl out.2.2.2.2.2.2.2.2.2.2.1)) ∧ hp' (v + 3) = some (.inl (kC E 0, 72, .inl out.2.2.2.2.2.2.2.2.2.2.2.1)) ∧ hp' (v + 4) = some (.inr (7, [.ref (v + 5), .ref (v + 6), .int out.2.2.2.2.2.2.2.2.2.2.2.2.1])) ∧ hp' (v + 5) = some (.inl (kC E 0, 6, .inl out.2.2.2.2.2.2.2.2.2.2.2.2.2.1)) ∧ hp' (v + 6) = some (.inl (kC E 0, 24, .inl out.2.2.2.2.2.2.2.2.2.2.2.2.2.2.1)) ∧ hp' (v + 7) = some (.inr (4, [.ref (v + 8), .ref (v + 9), .int out.2.2.2.2.2.2.2.2.2.2.2.2.2.2.2.1])) ∧ hp' (v + 8) = some (.inl (kC E 0, 300, .inl out.2.2.2.2.2.2.2.2.2.2.2.2.2.2.2.2.1)) ∧ hp' (v + 9) = some (.inl (kC E 0, 432, .inl out.2.2.2.2.2.2.2.2.2.2.2.2.2.2.2.2.2.1)) ∧ hp' (v + 10) = some (.inr (6, [.ref (v + 11), .ref (v + 12), .int out.2.2.2.2.2.2.2.2.2.2.2.2.2.2.2.2.2.2.1])) ∧ hp' (v + 11) = some (.inl (kC E 0, 36, .inl out.2.2.2.2.2.2.2.2.2.2.2.2.2.2.2.2.2.2.2.1)) ∧ hp' (v + 12) = some (.inl (kC E 0, 36, .inl out.2.2.2.2.2.2.2.2.2.2.2.2.2.2.2.2.2.2.2.2)) ∧ (∀ q, q ≠ (x + 3) → q ≠ (x + 18) → q ≠ o → q ≠ v → q ≠ (v + 1) → q ≠ (v + 2) → q ≠ (v + 3) → q ≠ (v + 4) → q ≠ (v + 5) → q ≠ (v + 6) → q ≠ (v + 7) → q ≠ (v + 8) → q ≠ (v + 9) → q ≠ (v + 10) → q ≠ (v + 11) → q ≠ (v + 12) → hp' q = hp q) ∧ al = al'
set_option maxHeartbeats 4000000 in
set_option maxRecDepth 100000 in
theorem c_L_setLimits {E : KE} {l : Launch} {hp : Hp} {N : Nat} {x : Nat} {o : Nat} {v : Nat} {sd : Int32} {mn : Int32} {th : Int32} {dc : Int32} {fc : Nat → Int32} {dw : Nat → Int32} {pc : Int32} {ln : Nat → Int32} {lt : Nat → Int32} {tc : Int32} {en : Nat → Int32} {fr : Nat → Int32} {oc : Int32} {op : Nat → Int32} {os : Nat → Int32} {nx : Int32} {dp : Int32} {rws : Nat → Option Nat} {ov : Nat → Int64} {v_sd : Int32} {v_mn : Int32} {v_th : Int32} {v_dc : Int32} {v_fc : Nat → Int32} {v_dw : Nat → Int32} {v_pc : Int32} {v_ln : Nat → Int32} {v_lt : Nat → Int32} {v_tc : Int32} {v_en : Nat → Int32} {v_fr : Nat → Int32} {v_oc : Int32} {v_op : Nat → Int32} {v_os : Nat → Int32} {a1 : Int32} {a2 : Int32} {out : Int32 × Int32 × Int32 × Int32 × Int32 × (Nat → Int64) × Int32 × Int32 × Int32 × Int32 × (Nat → Int32) × (Nat → Int32) × Int32 × (Nat → Int32) × (Nat → Int32) × Int32 × (Nat → Int32) × (Nat → Int32) × Int32 × (Nat → Int32) × (Nat → Int32)} (g0 : hp x = some (.inr (10, [.ref (x + 126), .ref (x + 128), .ref (x + 1), .ref (x + 3), .ref (x + 16), .ref (x + 18), .ref (x + 124), .ref (x + 125)]))) (g3 : hp (x + 3) = some (.inr (2, [.ref (x + 4), .ref (x + 7), .ref (x + 10), .ref (x + 13), .int sd, .int mn, .int th]))) (g4 : hp (x + 4) = some (.inr (0, [.ref (x + 5), .ref (x + 6), .int dc]))) (g5 : hp (x + 5) = some (.inl (kC E 0, 6, .inl fc))) (g6 : hp (x + 6) = some (.inl (kC E 0, 72, .inl dw))) (g7 : hp (x + 7) = some (.inr (7, [.ref (x + 8), .ref (x + 9), .int pc]))) (g8 : hp (x + 8) = some (.inl (kC E 0, 6, .inl ln))) (g9 : hp (x + 9) = some (.inl (kC E 0, 24, .inl lt))) (g10 : hp (x + 10) = some (.inr (4, [.ref (x + 11), .ref (x + 12), .int tc]))) (g11 : hp (x + 11) = some (.inl (kC E 0, 300, .inl en))) (g12 : hp (x + 12) = some (.inl (kC E 0, 432, .inl fr))) (g13 : hp (x + 13) = some (.inr (6, [.ref (x + 14), .ref (x + 15), .int oc]))) (g14 : hp (x + 14) = some (.inl (kC E 0, 36, .inl op))) (g15 : hp (x + 15) = some (.inl (kC E 0, 36, .inl os))) (g18 : hp (x + 18) = some (.inr (3, [.ref (x + 19), .int nx, .int dp]))) (g19 : hp (x + 19) = some (.inl (kC E 5, 8, .inr (.inr (.inr (.inr rws)))))) (g39 : hp o = some (.inl (kC E 1, 1, .inr (.inl ov)))) (g40 : hp v = some (.inr (2, [.ref (v + 1), .ref (v + 4), .ref (v + 7), .ref (v + 10), .int v_sd, .int v_mn, .int v_th]))) (g41 : hp (v + 1) = some (.inr (0, [.ref (v + 2), .ref (v + 3), .int v_dc]))) (g42 : hp (v + 2) = some (.inl (kC E 0, 6, .inl v_fc))) (g43 : hp (v + 3) = some (.inl (kC E 0, 72, .inl v_dw))) (g44 : hp (v + 4) = some (.inr (7, [.ref (v + 5), .ref (v + 6), .int v_pc]))) (g45 : hp (v + 5) = some (.inl (kC E 0, 6, .inl v_ln))) (g46 : hp (v + 6) = some (.inl (kC E 0, 24, .inl v_lt))) (g47 : hp (v + 7) = some (.inr (4, [.ref (v + 8), .ref (v + 9), .int v_tc]))) (g48 : hp (v + 8) = some (.inl (kC E 0, 300, .inl v_en))) (g49 : hp (v + 9) = some (.inl (kC E 0, 432, .inl v_fr))) (g50 : hp (v + 10) = some (.inr (6, [.ref (v + 11), .ref (v + 12), .int v_oc]))) (g51 : hp (v + 11) = some (.inl (kC E 0, 36, .inl v_op))) (g52 : hp (v + 12) = some (.inl (kC E 0, 36, .inl v_os))) (hvv : rws (Int32.toNatClampNeg nx) = some v) (hlv : (x + 20) ≤ v) (huv : (v + 13) ≤ (x + 124)) (hz3 : (x + 20) ≤ o ∨ (o + 1) ≤ x) (hz4 : (o + 1) ≤ v ∨ (v + 13) ≤ o) (h : f_L_setLimits N sd dc fc dw pc ln lt tc en fr oc op os mn th nx dp ov v_sd v_mn v_th v_dc v_fc v_dw v_pc v_ln v_lt v_tc v_en v_fr v_oc v_op v_os a1 a2 = some out) : AH E l yL_setLimits cL_setLimits 5 (Option.some Jvm.ClassFile.FieldType.int) [((0 : Nat), (10 : Nat), (13 : Nat), (19 : Nat))] ⟨8, 2, 12, 138⟩ [.ref x, .int a1, .int a2, .ref o] hp none (P_L_setLimits E x o v sd hp none out) := by
  refine A_ofH (by decide +kernel) (Nat.le_of_ble_eq_true rfl) ?_
  intro p e s m args below meth c X hr htb
  have X : CX E p l s m args meth c "DiceAuditLaw" cL_setLimits 5 := X
  refine A_L (L' := [(0, .ref x), (1, .int a1), (2, .int a2), (3, .ref o)]) rfl ?_
  unfold f_L_setLimits at h
  refine A_aload_n X dL_setLimits_0 3 rfl ?_
  refine A_iconst (v := 0) X dL_setLimits_1 (by decide) ?_
  refine A_aload_n X dL_setLimits_2 0 rfl ?_
  refine A_iload_n X dL_setLimits_3 1 rfl ?_
  refine A_iload_n X dL_setLimits_4 2 rfl ?_
  rcases hbd_o h with ⟨C9, hc9, h⟩ | ⟨t1, hct1, h⟩
  · refine A_cX (k' := 2) (n' := 12) rfl rfl (A_runVX (rest := [.int 0, .ref o]) X dL_setLimits_5 (c_X10_setLimits g0 g3 g4 g5 g6 g7 g8 g9 g10 g11 g12 g13 g14 g15 g18 g19 g40 g41 g42 g43 g44 g45 g46 g47 g48 g49 g50 g51 g52 hvv (by omega) (by omega) hc9) kY_X10_setLimits kw_1353 g0 rfl rfl ⟨(Nat.le_of_ble_eq_true rfl), (Nat.le_of_ble_eq_true rfl), (Nat.le_of_ble_eq_true rfl), (Nat.le_of_ble_eq_true rfl)⟩ rfl (Nat.le_of_ble_eq_true rfl)) (fun C hp1 hP => ?_) (fun v hp1 al1 hP => by obtain ⟨u, hu, _⟩ := hP; cases hu)
    obtain ⟨hC, rfl⟩ := hP
    cases hC
    rcases ite_o h with ⟨rfl, h⟩ | h
    · refine A_catch (name := "java/lang/IllegalArgumentException") (Lc := []) (stc := []) X [] ⟨0, 10, 13, 19⟩ [] (htb.trans rfl) (fun z hz => nomatch hz) (by decide) (by decide) kw_918 kw_928 (fun q9 => ?_)
      refine A_astore (L' := [(4, .ref q9), (0, .ref x), (1, .int a1), (2, .int a2), (3, .ref o)]) X dL_setLimits_13 (by decide) rfl ?_
      refine A_iconst (v := 1) X dL_setLimits_15 (by decide) ?_
      cases h
      exact A_iretX X dL_setLimits_16 hr ⟨rfl, g3, g18, g39, g40, g41, g42, g43, g44, g45, g46, g47, g48, g49, g50, g51, g52, (fun q z0 z1 z2 z3 z4 z5 z6 z7 z8 z9 z10 z11 z12 z13 z14 z15 => rfl), rfl⟩ (Nat.le_of_ble_eq_true rfl) (Nat.le_of_ble_eq_true rfl)
    cases h
  refine A_cX (k' := 2) (n' := 12) rfl rfl (A_runVX (rest := [.int 0, .ref o]) X dL_setLimits_5 (c_X10_setLimits g0 g3 g4 g5 g6 g7 g8 g9 g10 g11 g12 g13 g14 g15 g18 g19 g40 g41 g42 g43 g44 g45 g46 g47 g48 g49 g50 g51 g52 hvv (by omega) (by omega) hct1) kY_X10_setLimits kw_1353 g0 rfl rfl ⟨(Nat.le_of_ble_eq_true rfl), (Nat.le_of_ble_eq_true rfl), (Nat.le_of_ble_eq_true rfl), (Nat.le_of_ble_eq_true rfl)⟩ rfl (Nat.le_of_ble_eq_true rfl)) (fun C hp1 hP => by obtain ⟨hC, _⟩ := hP; cases hC) (fun v9 hp1 al9 hP => ?_)
  obtain ⟨u9, hu9, rfl, k1_0, k1_1, k1_2, k1_3, k1_4, k1_5, k1_6, k1_7, k1_8, k1_9, k1_10, k1_11, k1_12, k1_13, k1_14, n1, rfl⟩ := hP
  cases hu9
  replace k1_0 : hp1 (x + 3) = some (.inr (2, [.ref (x + 4), .ref (x + 7), .ref (x + 10), .ref (x + 13), .int sd, .int t1.2.1, .int t1.2.2.1])) := k1_0
  replace k1_1 : hp1 (x + 18) = some (.inr (3, [.ref (x + 19), .int t1.2.2.2.1, .int t1.2.2.2.2.1])) := k1_1
  replace k1_2 : hp1 v = some (.inr (2, [.ref (v + 1), .ref (v + 4), .ref (v + 7), .ref (v + 10), .int t1.2.2.2.2.2.1, .int t1.2.2.2.2.2.2.1, .int t1.2.2.2.2.2.2.2.1])) := k1_2
  replace k1_3 : hp1 (v + 1) = some (.inr (0, [.ref (v + 2), .ref (v + 3), .int t1.2.2.2.2.2.2.2.2.1])) := k1_3
  replace k1_4 : hp1 (v + 2) = some (.inl (kC E 0, 6, .inl t1.2.2.2.2.2.2.2.2.2.1)) := k1_4
  replace k1_5 : hp1 (v + 3) = some (.inl (kC E 0, 72, .inl t1.2.2.2.2.2.2.2.2.2.2.1)) := k1_5
  replace k1_6 : hp1 (v + 4) = some (.inr (7, [.ref (v + 5), .ref (v + 6), .int t1.2.2.2.2.2.2.2.2.2.2.2.1])) := k1_6
  replace k1_7 : hp1 (v + 5) = some (.inl (kC E 0, 6, .inl t1.2.2.2.2.2.2.2.2.2.2.2.2.1)) := k1_7
  replace k1_8 : hp1 (v + 6) = some (.inl (kC E 0, 24, .inl t1.2.2.2.2.2.2.2.2.2.2.2.2.2.1)) := k1_8
  replace k1_9 : hp1 (v + 7) = some (.inr (4, [.ref (v + 8), .ref (v + 9), .int t1.2.2.2.2.2.2.2.2.2.2.2.2.2.2.1])) := k1_9
  replace k1_10 : hp1 (v + 8) = some (.inl (kC E 0, 300, .inl t1.2.2.2.2.2.2.2.2.2.2.2.2.2.2.2.1)) := k1_10
  replace k1_11 : hp1 (v + 9) = some (.inl (kC E 0, 432, .inl t1.2.2.2.2.2.2.2.2.2.2.2.2.2.2.2.2.1)) := k1_11
  replace k1_12 : hp1 (v + 10) = some (.inr (6, [.ref (v + 11), .ref (v + 12), .int t1.2.2.2.2.2.2.2.2.2.2.2.2.2.2.2.2.2.1])) := k1_12
  replace k1_13 : hp1 (v + 11) = some (.inl (kC E 0, 36, .inl t1.2.2.2.2.2.2.2.2.2.2.2.2.2.2.2.2.2.2.1)) := k1_13
  replace k1_14 : hp1 (v + 12) = some (.inl (kC E 0, 36, .inl t1.2.2.2.2.2.2.2.2.2.2.2.2.2.2.2.2.2.2.2)) := k1_14
  refine A_st (st' := [.int t1.1, .int 0, .ref o]) rfl ?_
  refine A_i2l X dL_setLimits_8 ?_
  refine A_last X dL_setLimits_9 ((n1 _ (by omega) (by omega) (by omega) (by omega) (by omega) (by omega) (by omega) (by omega) (by omega) (by omega) (by omega) (by omega) (by omega) (by omega) (by omega)).trans g39) (by decide) (fun hp2 (k2 : hp2 o = some (.inl (kC E 1, 1, .inr (.inl (vp_updL ov (Int32.toNatClampNeg 0) t1.1.toInt64))))) n2 => ?_)
  refine A_goto (tgt := 17) X dL_setLimits_10 (by decide) ?_
  refine A_iconst (v := 0) X dL_setLimits_17 (by decide) ?_
  cases h
  exact A_iretX X dL_setLimits_18 hr ⟨rfl, ((n2 _ (by omega)).trans k1_0), ((n2 _ (by omega)).trans k1_1), k2, ((n2 _ (by omega)).trans k1_2), ((n2 _ (by omega)).trans k1_3), ((n2 _ (by omega)).trans k1_4), ((n2 _ (by omega)).trans k1_5), ((n2 _ (by omega)).trans k1_6), ((n2 _ (by omega)).trans k1_7), ((n2 _ (by omega)).trans k1_8), ((n2 _ (by omega)).trans k1_9), ((n2 _ (by omega)).trans k1_10), ((n2 _ (by omega)).trans k1_11), ((n2 _ (by omega)).trans k1_12), ((n2 _ (by omega)).trans k1_13), ((n2 _ (by omega)).trans k1_14), (fun q z0 z1 z2 z3 z4 z5 z6 z7 z8 z9 z10 z11 z12 z13 z14 z15 => ((n2 q z2).trans (n1 q z0 z1 z3 z4 z5 z6 z7 z8 z9 z10 z11 z12 z13 z14 z15))), rfl⟩ (Nat.le_of_ble_eq_true rfl) (Nat.le_of_ble_eq_true rfl)
abbrev P_L_writeFaces (E : KE) (x : Nat) (o : Nat)  (hp : Hp) (al : Option Nat) (out : Int32 × Int32 × (Nat → Int32) × (Nat → Int64)) : Option Value → Hp → Option Nat → Prop := fun v0 hp' al' => v0 = some (.int out.1) ∧ hp' (x + 1) = some (.inr (8, [.ref (x + 2), .int out.2.1])) ∧ hp' (x + 2) = some (.inl (kC E 0, 900, .inl out.2.2.1)) ∧ hp' o = some (.inl (kC E 1, 1, .inr (.inl out.2.2.2))) ∧ (∀ q, q ≠ (x + 1) → q ≠ (x + 2) → q ≠ o → hp' q = hp q) ∧ al = al'
set_option maxHeartbeats 4000000 in
set_option maxRecDepth 100000 in
theorem c_L_writeFaces {E : KE} {l : Launch} {hp : Hp} {N : Nat} {x : Nat} {o : Nat} {otl : Int32} {otb : Nat → Int32} {sd : Int32} {mn : Int32} {th : Int32} {pc : Int32} {tc : Int32} {en : Nat → Int32} {ov : Nat → Int64} {a1 : Int32} {out : Int32 × Int32 × (Nat → Int32) × (Nat → Int64)} (g0 : hp x = some (.inr (10, [.ref (x + 126), .ref (x + 128), .ref (x + 1), .ref (x + 3), .ref (x + 16), .ref (x + 18), .ref (x + 124), .ref (x + 125)]))) (g1 : hp (x + 1) = some (.inr (8, [.ref (x + 2), .int otl]))) (g2 : hp (x + 2) = some (.inl (kC E 0, 900, .inl otb))) (g3 : hp (x + 3) = some (.inr (2, [.ref (x + 4), .ref (x + 7), .ref (x + 10), .ref (x + 13), .int sd, .int mn, .int th]))) (g7 : hp (x + 7) = some (.inr (7, [.ref (x + 8), .ref (x + 9), .int pc]))) (g10 : hp (x + 10) = some (.inr (4, [.ref (x + 11), .ref (x + 12), .int tc]))) (g11 : hp (x + 11) = some (.inl (kC E 0, 300, .inl en))) (g39 : hp o = some (.inl (kC E 1, 1, .inr (.inl ov)))) (hz0 : (x + 12) ≤ o ∨ (o + 1) ≤ x) (h : f_L_writeFaces N pc tc en otl otb ov a1 = some out) : AH E l yL_writeFaces cL_writeFaces 4 (Option.some Jvm.ClassFile.FieldType.int) [((0 : Nat), (9 : Nat), (12 : Nat), (28 : Nat))] ⟨9, 1, 6, 146⟩ [.ref x, .int a1, .ref o] hp none (P_L_writeFaces E x o hp none out) := by
  refine A_ofH (by decide +kernel) (Nat.le_of_ble_eq_true rfl) ?_
  intro p e s m args below meth c X hr htb
  have X : CX E p l s m args meth c "DiceAuditLaw" cL_writeFaces 4 := X
  refine A_L (L' := [(0, .ref x), (1, .int a1), (2, .ref o)]) rfl ?_
  unfold f_L_writeFaces at h
  refine A_aload_n X dL_writeFaces_0 2 rfl ?_
  refine A_iconst (v := 0) X dL_writeFaces_1 (by decide) ?_
  refine A_aload_n X dL_writeFaces_2 0 rfl ?_
  refine A_iload_n X dL_writeFaces_3 1 rfl ?_
  rcases hbd_o h with ⟨C9, hc9, h⟩ | ⟨t1, hct1, h⟩
  · refine A_cX (k' := 1) (n' := 6) rfl rfl (A_runVX (rest := [.int 0, .ref o]) X dL_writeFaces_4 (c_X10_writeFaces g0 g1 g2 g3 g7 g10 g11  hc9) kY_X10_writeFaces kw_1360 g0 rfl rfl ⟨(Nat.le_of_ble_eq_true rfl), (Nat.le_of_ble_eq_true rfl), (Nat.le_of_ble_eq_true rfl), (Nat.le_of_ble_eq_true rfl)⟩ rfl (Nat.le_of_ble_eq_true rfl)) (fun C hp1 hP => ?_) (fun v hp1 al1 hP => by obtain ⟨u, hu, _⟩ := hP; cases hu)
    obtain ⟨hC, rfl⟩ := hP
    cases hC
    rcases ite_o h with ⟨rfl, h⟩ | h
    · refine A_catch (name := "java/lang/IndexOutOfBoundsException") (Lc := []) (stc := []) X [] ⟨0, 9, 12, 28⟩ [] (htb.trans rfl) (fun z hz => nomatch hz) (by decide) (by decide) kw_953 kw_967 (fun q9 => ?_)
      refine A_astore_n (L' := [(3, .ref q9), (0, .ref x), (1, .int a1), (2, .ref o)]) X dL_writeFaces_12 rfl (by decide) rfl ?_
      refine A_iconst (v := 1) X dL_writeFaces_13 (by decide) ?_
      cases h
      exact A_iretX X dL_writeFaces_14 hr ⟨rfl, g1, g2, g39, (fun q z0 z1 z2 => rfl), rfl⟩ (Nat.le_of_ble_eq_true rfl) (Nat.le_of_ble_eq_true rfl)
    cases h
  refine A_cX (k' := 1) (n' := 6) rfl rfl (A_runVX (rest := [.int 0, .ref o]) X dL_writeFaces_4 (c_X10_writeFaces g0 g1 g2 g3 g7 g10 g11  hct1) kY_X10_writeFaces kw_1360 g0 rfl rfl ⟨(Nat.le_of_ble_eq_true rfl), (Nat.le_of_ble_eq_true rfl), (Nat.le_of_ble_eq_true rfl), (Nat.le_of_ble_eq_true rfl)⟩ rfl (Nat.le_of_ble_eq_true rfl)) (fun C hp1 hP => by obtain ⟨hC, _⟩ := hP; cases hC) (fun v9 hp1 al9 hP => ?_)
  obtain ⟨u9, hu9, rfl, k1_0, k1_1, n1, rfl⟩ := hP
  cases hu9
  replace k1_0 : hp1 (x + 1) = some (.inr (8, [.ref (x + 2), .int t1.2.1])) := k1_0
  replace k1_1 : hp1 (x + 2) = some (.inl (kC E 0, 900, .inl t1.2.2)) := k1_1
  refine A_st (st' := [.int t1.1, .int 0, .ref o]) rfl ?_
  refine A_i2l X dL_writeFaces_7 ?_
  refine A_last X dL_writeFaces_8 ((n1 _ (by omega) (by omega)).trans g39) (by decide) (fun hp2 (k2 : hp2 o = some (.inl (kC E 1, 1, .inr (.inl (vp_updL ov (Int32.toNatClampNeg 0) t1.1.toInt64))))) n2 => ?_)
  refine A_goto (tgt := 15) X dL_writeFaces_9 (by decide) ?_
  refine A_iconst (v := 0) X dL_writeFaces_15 (by decide) ?_
  cases h
  exact A_iretX X dL_writeFaces_16 hr ⟨rfl, ((n2 _ (by omega)).trans k1_0), ((n2 _ (by omega)).trans k1_1), k2, (fun q z0 z1 z2 => ((n2 q z2).trans (n1 q z0 z1))), rfl⟩ (Nat.le_of_ble_eq_true rfl) (Nat.le_of_ble_eq_true rfl)
abbrev P_L_outputByte (E : KE) (x : Nat) (o : Nat)  (hp : Hp) (al : Option Nat) (out : Int32 × (Nat → Int64)) : Option Value → Hp → Option Nat → Prop := fun v0 hp' al' => v0 = some (.int out.1) ∧ hp' o = some (.inl (kC E 1, 1, .inr (.inl out.2))) ∧ (∀ q, q ≠ o → hp' q = hp q) ∧ al = al'
set_option maxHeartbeats 4000000 in
set_option maxRecDepth 100000 in
theorem c_L_outputByte {E : KE} {l : Launch} {hp : Hp} {x : Nat} {o : Nat} {otl : Int32} {otb : Nat → Int32} {ov : Nat → Int64} {a1 : Int32} {out : Int32 × (Nat → Int64)} (g0 : hp x = some (.inr (10, [.ref (x + 126), .ref (x + 128), .ref (x + 1), .ref (x + 3), .ref (x + 16), .ref (x + 18), .ref (x + 124), .ref (x + 125)]))) (g1 : hp (x + 1) = some (.inr (8, [.ref (x + 2), .int otl]))) (g2 : hp (x + 2) = some (.inl (kC E 0, 900, .inl otb))) (g39 : hp o = some (.inl (kC E 1, 1, .inr (.inl ov)))) (hz0 : (x + 3) ≤ o ∨ (o + 1) ≤ x) (h : f_L_outputByte otl otb ov a1 = some out) : AH E l yL_outputByte cL_outputByte 4 (Option.some Jvm.ClassFile.FieldType.int) [((0 : Nat), (9 : Nat), (12 : Nat), (44 : Nat))] ⟨7, 1, 6, 103⟩ [.ref x, .int a1, .ref o] hp none (P_L_outputByte E x o hp none out) := by
  refine A_ofH (by decide +kernel) (Nat.le_of_ble_eq_true rfl) ?_
  intro p e s m args below meth c X hr htb
  have X : CX E p l s m args meth c "DiceAuditLaw" cL_outputByte 4 := X
  refine A_L (L' := [(0, .ref x), (1, .int a1), (2, .ref o)]) rfl ?_
  unfold f_L_outputByte at h
  refine A_aload_n X dL_outputByte_0 2 rfl ?_
  refine A_iconst (v := 0) X dL_outputByte_1 (by decide) ?_
  refine A_aload_n X dL_outputByte_2 0 rfl ?_
  refine A_iload_n X dL_outputByte_3 1 rfl ?_
  rcases hbd_o h with ⟨C9, hc9, h⟩ | ⟨t1, hct1, h⟩
  · refine A_cX (k' := 1) (n' := 6) rfl rfl (A_runVX (rest := [.int 0, .ref o]) X dL_outputByte_4 (c_X10_outputByte g0 g1 g2  hc9) kY_X10_outputByte kw_1367 g0 rfl rfl ⟨(Nat.le_of_ble_eq_true rfl), (Nat.le_of_ble_eq_true rfl), (Nat.le_of_ble_eq_true rfl), (Nat.le_of_ble_eq_true rfl)⟩ rfl (Nat.le_of_ble_eq_true rfl)) (fun C hp1 hP => ?_) (fun v hp1 al1 hP => by obtain ⟨u, hu, _⟩ := hP; cases hu)
    obtain ⟨hC, rfl⟩ := hP
    cases hC
    rcases ite_o h with ⟨rfl, h⟩ | h
    · refine A_catch (name := "java/util/NoSuchElementException") (Lc := []) (stc := []) X [] ⟨0, 9, 12, 44⟩ [] (htb.trans rfl) (fun z hz => nomatch hz) (by decide) (by decide) kw_1024 kw_1035 (fun q9 => ?_)
      refine A_astore_n (L' := [(3, .ref q9), (0, .ref x), (1, .int a1), (2, .ref o)]) X dL_outputByte_12 rfl (by decide) rfl ?_
      refine A_iconst (v := 1) X dL_outputByte_13 (by decide) ?_
      cases h
      exact A_iretX X dL_outputByte_14 hr ⟨rfl, g39, (fun q z0 => rfl), rfl⟩ (Nat.le_of_ble_eq_true rfl) (Nat.le_of_ble_eq_true rfl)
    cases h
  refine A_cX (k' := 1) (n' := 6) rfl rfl (A_runVX (rest := [.int 0, .ref o]) X dL_outputByte_4 (c_X10_outputByte g0 g1 g2  hct1) kY_X10_outputByte kw_1367 g0 rfl rfl ⟨(Nat.le_of_ble_eq_true rfl), (Nat.le_of_ble_eq_true rfl), (Nat.le_of_ble_eq_true rfl), (Nat.le_of_ble_eq_true rfl)⟩ rfl (Nat.le_of_ble_eq_true rfl)) (fun C hp1 hP => by obtain ⟨hC, _⟩ := hP; cases hC) (fun v9 hp1 al9 hP => ?_)
  obtain ⟨u9, hu9, rfl, rfl, rfl⟩ := hP
  cases hu9
  refine A_st (st' := [.int t1, .int 0, .ref o]) rfl ?_
  refine A_i2l X dL_outputByte_7 ?_
  refine A_last X dL_outputByte_8 g39 (by decide) (fun hp1 (k1 : hp1 o = some (.inl (kC E 1, 1, .inr (.inl (vp_updL ov (Int32.toNatClampNeg 0) t1.toInt64))))) n1 => ?_)
  refine A_goto (tgt := 15) X dL_outputByte_9 (by decide) ?_
  refine A_iconst (v := 0) X dL_outputByte_15 (by decide) ?_
  cases h
  exact A_iretX X dL_outputByte_16 hr ⟨rfl, k1, (fun q z0 => (n1 q z0)), rfl⟩ (Nat.le_of_ble_eq_true rfl) (Nat.le_of_ble_eq_true rfl)
abbrev P_L_save (E : KE) (x : Nat) (o : Nat) (w : Nat)  (hp : Hp) (al : Option Nat) (out : Int32 × (Nat → Int32) × (Nat → Int64) × Int32 × Int32 × Int32 × Int32 × (Nat → Int32) × (Nat → Int32) × Int32 × (Nat → Int32) × (Nat → Int32) × Int32 × (Nat → Int32) × (Nat → Int32) × Int32 × (Nat → Int32) × (Nat → Int32)) : Option Value → Hp → Option Nat → Prop := fun v0 hp' al' => v0 = some (.int out.1) ∧ hp' (x + 125) = some (.inl (kC E 0, 2, .inl out.2.1)) ∧ hp' o = some (.inl (kC E 1, 1, .inr (.inl out.2.2.1))) ∧ hp' w = some (.inr (2, [.ref (w + 1), .ref (w + 4), .ref (w + 7), .ref (w + 10), .int out.2.2.2.1, .int out.2.2.2.2.1, .int out.2.2.2.2.2.1])) ∧ hp' (w + 1) = some (.inr (0, [.ref (w + 2), .ref (w + 3), .int out.2.2.2.2.2.2.1])) ∧ hp' (w + 2) = some (.inl (kC E 0, 6, .inl out.2.2.2.2.2.2.2.1)) ∧ hp' (w + 3) = some (.inl (kC E 0, 72, .inl out.2.2.2.2.2.2.2.2.1)) ∧ hp' (w + 4) = some (.inr (7, [.ref (w + 5), .ref (w + 6), .int out.2.2.2.2.2.2.2.2.2.1])) ∧ hp' (w + 5) = some (.inl (kC E 0, 6, .inl out.2.2.2.2.2.2.2.2.2.2.1)) ∧ hp' (w + 6) = some (.inl (kC E 0, 24, .inl out.2.2.2.2.2.2.2.2.2.2.2.1)) ∧ hp' (w + 7) = some (.inr (4, [.ref (w + 8), .ref (w + 9), .int out.2.2.2.2.2.2.2.2.2.2.2.2.1])) ∧ hp' (w + 8) = some (.inl (kC E 0, 300, .inl out.2.2.2.2.2.2.2.2.2.2.2.2.2.1)) ∧ hp' (w + 9) = some (.inl (kC E 0, 432, .inl out.2.2.2.2.2.2.2.2.2.2.2.2.2.2.1)) ∧ hp' (w + 10) = some (.inr (6, [.ref (w + 11), .ref (w + 12), .int out.2.2.2.2.2.2.2.2.2.2.2.2.2.2.2.1])) ∧ hp' (w + 11) = some (.inl (kC E 0, 36, .inl out.2.2.2.2.2.2.2.2.2.2.2.2.2.2.2.2.1)) ∧ hp' (w + 12) = some (.inl (kC E 0, 36, .inl out.2.2.2.2.2.2.2.2.2.2.2.2.2.2.2.2.2)) ∧ (∀ q, q ≠ (x + 125) → q ≠ o → q ≠ w → q ≠ (w + 1) → q ≠ (w + 2) → q ≠ (w + 3) → q ≠ (w + 4) → q ≠ (w + 5) → q ≠ (w + 6) → q ≠ (w + 7) → q ≠ (w + 8) → q ≠ (w + 9) → q ≠ (w + 10) → q ≠ (w + 11) → q ≠ (w + 12) → hp' q = hp q) ∧ al = al'
set_option maxHeartbeats 4000000 in
set_option maxRecDepth 100000 in
theorem c_L_save {E : KE} {l : Launch} {hp : Hp} {x : Nat} {o : Nat} {w : Nat} {sd : Int32} {mn : Int32} {th : Int32} {dc : Int32} {fc : Nat → Int32} {dw : Nat → Int32} {pc : Int32} {ln : Nat → Int32} {lt : Nat → Int32} {tc : Int32} {en : Nat → Int32} {fr : Nat → Int32} {oc : Int32} {op : Nat → Int32} {os : Nat → Int32} {srw : Nat → Option Nat} {su : Nat → Int32} {ov : Nat → Int64} {w_sd : Int32} {w_mn : Int32} {w_th : Int32} {w_dc : Int32} {w_fc : Nat → Int32} {w_dw : Nat → Int32} {w_pc : Int32} {w_ln : Nat → Int32} {w_lt : Nat → Int32} {w_tc : Int32} {w_en : Nat → Int32} {w_fr : Nat → Int32} {w_oc : Int32} {w_op : Nat → Int32} {w_os : Nat → Int32} {a1 : Int32} {out : Int32 × (Nat → Int32) × (Nat → Int64) × Int32 × Int32 × Int32 × Int32 × (Nat → Int32) × (Nat → Int32) × Int32 × (Nat → Int32) × (Nat → Int32) × Int32 × (Nat → Int32) × (Nat → Int32) × Int32 × (Nat → Int32) × (Nat → Int32)} (g0 : hp x = some (.inr (10, [.ref (x + 126), .ref (x + 128), .ref (x + 1), .ref (x + 3), .ref (x + 16), .ref (x + 18), .ref (x + 124), .ref (x + 125)]))) (g3 : hp (x + 3) = some (.inr (2, [.ref (x + 4), .ref (x + 7), .ref (x + 10), .ref (x + 13), .int sd, .int mn, .int th]))) (g4 : hp (x + 4) = some (.inr (0, [.ref (x + 5), .ref (x + 6), .int dc]))) (g5 : hp (x + 5) = some (.inl (kC E 0, 6, .inl fc))) (g6 : hp (x + 6) = some (.inl (kC E 0, 72, .inl dw))) (g7 : hp (x + 7) = some (.inr (7, [.ref (x + 8), .ref (x + 9), .int pc]))) (g8 : hp (x + 8) = some (.inl (kC E 0, 6, .inl ln))) (g9 : hp (x + 9) = some (.inl (kC E 0, 24, .inl lt))) (g10 : hp (x + 10) = some (.inr (4, [.ref (x + 11), .ref (x + 12), .int tc]))) (g11 : hp (x + 11) = some (.inl (kC E 0, 300, .inl en))) (g12 : hp (x + 12) = some (.inl (kC E 0, 432, .inl fr))) (g13 : hp (x + 13) = some (.inr (6, [.ref (x + 14), .ref (x + 15), .int oc]))) (g14 : hp (x + 14) = some (.inl (kC E 0, 36, .inl op))) (g15 : hp (x + 15) = some (.inl (kC E 0, 36, .inl os))) (g20 : hp (x + 124) = some (.inl (kC E 5, 2, .inr (.inr (.inr (.inr srw)))))) (g21 : hp (x + 125) = some (.inl (kC E 0, 2, .inl su))) (g39 : hp o = some (.inl (kC E 1, 1, .inr (.inl ov)))) (g40 : hp w = some (.inr (2, [.ref (w + 1), .ref (w + 4), .ref (w + 7), .ref (w + 10), .int w_sd, .int w_mn, .int w_th]))) (g41 : hp (w + 1) = some (.inr (0, [.ref (w + 2), .ref (w + 3), .int w_dc]))) (g42 : hp (w + 2) = some (.inl (kC E 0, 6, .inl w_fc))) (g43 : hp (w + 3) = some (.inl (kC E 0, 72, .inl w_dw))) (g44 : hp (w + 4) = some (.inr (7, [.ref (w + 5), .ref (w + 6), .int w_pc]))) (g45 : hp (w + 5) = some (.inl (kC E 0, 6, .inl w_ln))) (g46 : hp (w + 6) = some (.inl (kC E 0, 24, .inl w_lt))) (g47 : hp (w + 7) = some (.inr (4, [.ref (w + 8), .ref (w + 9), .int w_tc]))) (g48 : hp (w + 8) = some (.inl (kC E 0, 300, .inl w_en))) (g49 : hp (w + 9) = some (.inl (kC E 0, 432, .inl w_fr))) (g50 : hp (w + 10) = some (.inr (6, [.ref (w + 11), .ref (w + 12), .int w_oc]))) (g51 : hp (w + 11) = some (.inl (kC E 0, 36, .inl w_op))) (g52 : hp (w + 12) = some (.inl (kC E 0, 36, .inl w_os))) (hvw : srw (Int32.toNatClampNeg a1) = some w) (hlw : (x + 143) ≤ w) (huw : (w + 13) ≤ (x + 169)) (hz3 : (x + 126) ≤ o ∨ (o + 1) ≤ x) (hz4 : (o + 1) ≤ w ∨ (w + 13) ≤ o) (h : f_L_save sd mn th dc fc dw pc ln lt tc en fr oc op os su ov w_sd w_mn w_th w_dc w_fc w_dw w_pc w_ln w_lt w_tc w_en w_fr w_oc w_op w_os a1 = some out) : AH E l yL_save cL_save 4 (Option.some Jvm.ClassFile.FieldType.int) [((0 : Nat), (9 : Nat), (12 : Nat), (28 : Nat))] ⟨9, 1, 6, 144⟩ [.ref x, .int a1, .ref o] hp none (P_L_save E x o w hp none out) := by
  refine A_ofH (by decide +kernel) (Nat.le_of_ble_eq_true rfl) ?_
  intro p e s m args below meth c X hr htb
  have X : CX E p l s m args meth c "DiceAuditLaw" cL_save 4 := X
  refine A_L (L' := [(0, .ref x), (1, .int a1), (2, .ref o)]) rfl ?_
  unfold f_L_save at h
  refine A_aload_n X dL_save_0 2 rfl ?_
  refine A_iconst (v := 0) X dL_save_1 (by decide) ?_
  refine A_aload_n X dL_save_2 0 rfl ?_
  refine A_iload_n X dL_save_3 1 rfl ?_
  rcases hbd_o h with ⟨C9, hc9, h⟩ | ⟨t1, hct1, h⟩
  · refine A_cX (k' := 1) (n' := 6) rfl rfl (A_runVX (rest := [.int 0, .ref o]) X dL_save_4 (c_X10_save g0 g3 g4 g5 g6 g7 g8 g9 g10 g11 g12 g13 g14 g15 g20 g21 g40 g41 g42 g43 g44 g45 g46 g47 g48 g49 g50 g51 g52 hvw (by omega) (by omega) hc9) kY_X10_save kw_1376 g0 rfl rfl ⟨(Nat.le_of_ble_eq_true rfl), (Nat.le_of_ble_eq_true rfl), (Nat.le_of_ble_eq_true rfl), (Nat.le_of_ble_eq_true rfl)⟩ rfl (Nat.le_of_ble_eq_true rfl)) (fun C hp1 hP => ?_) (fun v hp1 al1 hP => by obtain ⟨u, hu, _⟩ := hP; cases hu)
    obtain ⟨hC, rfl⟩ := hP
    cases hC
    rcases ite_o h with ⟨rfl, h⟩ | h
    · refine A_catch (name := "java/lang/IndexOutOfBoundsException") (Lc := []) (stc := []) X [] ⟨0, 9, 12, 28⟩ [] (htb.trans rfl) (fun z hz => nomatch hz) (by decide) (by decide) kw_953 kw_967 (fun q9 => ?_)
      refine A_astore_n (L' := [(3, .ref q9), (0, .ref x), (1, .int a1), (2, .ref o)]) X dL_save_12 rfl (by decide) rfl ?_
      refine A_iconst (v := 1) X dL_save_13 (by decide) ?_
      cases h
      exact A_iretX X dL_save_14 hr ⟨rfl, g21, g39, g40, g41, g42, g43, g44, g45, g46, g47, g48, g49, g50, g51, g52, (fun q z0 z1 z2 z3 z4 z5 z6 z7 z8 z9 z10 z11 z12 z13 z14 => rfl), rfl⟩ (Nat.le_of_ble_eq_true rfl) (Nat.le_of_ble_eq_true rfl)
    cases h
  refine A_cX (k' := 1) (n' := 6) rfl rfl (A_runVX (rest := [.int 0, .ref o]) X dL_save_4 (c_X10_save g0 g3 g4 g5 g6 g7 g8 g9 g10 g11 g12 g13 g14 g15 g20 g21 g40 g41 g42 g43 g44 g45 g46 g47 g48 g49 g50 g51 g52 hvw (by omega) (by omega) hct1) kY_X10_save kw_1376 g0 rfl rfl ⟨(Nat.le_of_ble_eq_true rfl), (Nat.le_of_ble_eq_true rfl), (Nat.le_of_ble_eq_true rfl), (Nat.le_of_ble_eq_true rfl)⟩ rfl (Nat.le_of_ble_eq_true rfl)) (fun C hp1 hP => by obtain ⟨hC, _⟩ := hP; cases hC) (fun v9 hp1 al9 hP => ?_)
  obtain ⟨u9, hu9, rfl, k1_0, k1_1, k1_2, k1_3, k1_4, k1_5, k1_6, k1_7, k1_8, k1_9, k1_10, k1_11, k1_12, k1_13, n1, rfl⟩ := hP
  cases hu9
  replace k1_0 : hp1 (x + 125) = some (.inl (kC E 0, 2, .inl t1.2.1)) := k1_0
  replace k1_1 : hp1 w = some (.inr (2, [.ref (w + 1), .ref (w + 4), .ref (w + 7), .ref (w + 10), .int t1.2.2.1, .int t1.2.2.2.1, .int t1.2.2.2.2.1])) := k1_1
  replace k1_2 : hp1 (w + 1) = some (.inr (0, [.ref (w + 2), .ref (w + 3), .int t1.2.2.2.2.2.1])) := k1_2
  replace k1_3 : hp1 (w + 2) = some (.inl (kC E 0, 6, .inl t1.2.2.2.2.2.2.1)) := k1_3
  replace k1_4 : hp1 (w + 3) = some (.inl (kC E 0, 72, .inl t1.2.2.2.2.2.2.2.1)) := k1_4
  replace k1_5 : hp1 (w + 4) = some (.inr (7, [.ref (w + 5), .ref (w + 6), .int t1.2.2.2.2.2.2.2.2.1])) := k1_5
  replace k1_6 : hp1 (w + 5) = some (.inl (kC E 0, 6, .inl t1.2.2.2.2.2.2.2.2.2.1)) := k1_6
  replace k1_7 : hp1 (w + 6) = some (.inl (kC E 0, 24, .inl t1.2.2.2.2.2.2.2.2.2.2.1)) := k1_7
  replace k1_8 : hp1 (w + 7) = some (.inr (4, [.ref (w + 8), .ref (w + 9), .int t1.2.2.2.2.2.2.2.2.2.2.2.1])) := k1_8
  replace k1_9 : hp1 (w + 8) = some (.inl (kC E 0, 300, .inl t1.2.2.2.2.2.2.2.2.2.2.2.2.1)) := k1_9
  replace k1_10 : hp1 (w + 9) = some (.inl (kC E 0, 432, .inl t1.2.2.2.2.2.2.2.2.2.2.2.2.2.1)) := k1_10
  replace k1_11 : hp1 (w + 10) = some (.inr (6, [.ref (w + 11), .ref (w + 12), .int t1.2.2.2.2.2.2.2.2.2.2.2.2.2.2.1])) := k1_11
  replace k1_12 : hp1 (w + 11) = some (.inl (kC E 0, 36, .inl t1.2.2.2.2.2.2.2.2.2.2.2.2.2.2.2.1)) := k1_12
  replace k1_13 : hp1 (w + 12) = some (.inl (kC E 0, 36, .inl t1.2.2.2.2.2.2.2.2.2.2.2.2.2.2.2.2)) := k1_13
  refine A_st (st' := [.int t1.1, .int 0, .ref o]) rfl ?_
  refine A_i2l X dL_save_7 ?_
  refine A_last X dL_save_8 ((n1 _ (by omega) (by omega) (by omega) (by omega) (by omega) (by omega) (by omega) (by omega) (by omega) (by omega) (by omega) (by omega) (by omega) (by omega)).trans g39) (by decide) (fun hp2 (k2 : hp2 o = some (.inl (kC E 1, 1, .inr (.inl (vp_updL ov (Int32.toNatClampNeg 0) t1.1.toInt64))))) n2 => ?_)
  refine A_goto (tgt := 15) X dL_save_9 (by decide) ?_
  refine A_iconst (v := 0) X dL_save_15 (by decide) ?_
  cases h
  exact A_iretX X dL_save_16 hr ⟨rfl, ((n2 _ (by omega)).trans k1_0), k2, ((n2 _ (by omega)).trans k1_1), ((n2 _ (by omega)).trans k1_2), ((n2 _ (by omega)).trans k1_3), ((n2 _ (by omega)).trans k1_4), ((n2 _ (by omega)).trans k1_5), ((n2 _ (by omega)).trans k1_6), ((n2 _ (by omega)).trans k1_7), ((n2 _ (by omega)).trans k1_8), ((n2 _ (by omega)).trans k1_9), ((n2 _ (by omega)).trans k1_10), ((n2 _ (by omega)).trans k1_11), ((n2 _ (by omega)).trans k1_12), ((n2 _ (by omega)).trans k1_13), (fun q z0 z1 z2 z3 z4 z5 z6 z7 z8 z9 z10 z11 z12 z13 z14 => ((n2 q z1).trans (n1 q z0 z2 z3 z4 z5 z6 z7 z8 z9 z10 z11 z12 z13 z14))), rfl⟩ (Nat.le_of_ble_eq_true rfl) (Nat.le_of_ble_eq_true rfl)
abbrev P_L_restore (E : KE) (x : Nat) (o : Nat) (v : Nat) (w : Nat)  (hp : Hp) (al : Option Nat) (out : Int32 × Int32 × Int32 × Int32 × Int32 × (Nat → Int32) × (Nat → Int32) × Int32 × (Nat → Int32) × (Nat → Int32) × Int32 × (Nat → Int32) × (Nat → Int32) × Int32 × (Nat → Int32) × (Nat → Int32) × Int32 × Int32 × (Nat → Int64) × Int32 × Int32 × Int32 × Int32 × (Nat → Int32) × (Nat → Int32) × Int32 × (Nat → Int32) × (Nat → Int32) × Int32 × (Nat → Int32) × (Nat → Int32) × Int32 × (Nat → Int32) × (Nat → Int32)) : Option Value → Hp → Option Nat → Prop := fun v0 hp' al' => v0 = some (.int out.1) ∧ hp' (x + 3) = some (.inr (2, [.ref (x + 4), .ref (x + 7), .ref (x + 10), .ref (x + 13), .int out.2.1, .int out.2.2.1, .int out.2.2.2.1])) ∧ hp' (x + 4) = some (.inr (0, [.ref (x + 5), .ref (x + 6), .int out.2.2.2.2.1])) ∧ hp' (x + 5) = some (.inl (kC E 0, 6, .inl out.2.2.2.2.2.1)) ∧ hp' (x + 6) = some (.inl (kC E 0, 72, .inl out.2.2.2.2.2.2.1)) ∧ hp' (x + 7) = some (.inr (7, [.ref (x + 8), .ref (x + 9), .int out.2.2.2.2.2.2.2.1])) ∧ hp' (x + 8) = some (.inl (kC E 0, 6, .inl out.2.2.2.2.2.2.2.2.1)) ∧ hp' (x + 9) = some (.inl (kC E 0, 24, .inl out.2.2.2.2.2.2.2.2.2.1)) ∧ hp' (x + 10) = some (.inr (4, [.ref (x + 11), .ref (x + 12), .int out.2.2.2.2.2.2.2.2.2.2.1])) ∧ hp' (x + 11) = some (.inl (kC E 0, 300, .inl out.2.2.2.2.2.2.2.2.2.2.2.1)) ∧ hp' (x + 12) = some (.inl (kC E 0, 432, .inl out.2.2.2.2.2.2.2.2.2.2.2.2.1)) ∧ hp' (x + 13) = some (.inr (6, [.ref (x + 14), .ref (x + 15), .int out.2.2.2.2.2.2.2.2.2.2.2.2.2.1])) ∧ hp' (x + 14) = some (.inl (kC E 0, 36, .inl out.2.2.2.2.2.2.2.2.2.2.2.2.2.2.1)) ∧ hp' (x + 15) = some (.inl (kC E 0, 36, .inl out.2.2.2.2.2.2.2.2.2.2.2.2.2.2.2.1)) ∧ hp' (x + 18) = some (.inr (3, [.ref (x + 19), .int out.2.2.2.2.2.2.2.2.2.2.2.2.2.2.2.2.1, .int out.2.2.2.2.2.2.2.2.2.2.2.2.2.2.2.2.2.1])) ∧ hp' o = some (.inl (kC E 1, 1, .inr (.inl out.2.2.2.2.2.2.2.2.2.2.2.2.2.2.2.2.2.2.1))) ∧ hp' v = some (.inr (2, [.ref (v + 1), .ref (v + 4), .ref (v + 7), .ref (v + 10), .int out.2.2.2.2.2.2.2.2.2.2.2.2.2.2.2.2.2.2.2.1, .int out.2.2.2.2.2.2.2.2.2.2.2.2.2.2.2.2.2.2.2.2.1, .int out.2.2.2.2.2.2.2.2.2.2.2.2.2.2.2.2.2.2.2.2.2.1])) ∧ hp' (v + 1) = some (.inr (0, [.ref (v + 2), .ref (v + 3), .int out.2.2.2.2.2.2.2.2.2.2.2.2.2.2.2.2.2.2.2.2.2.2.1])) ∧ hp' (v + 2) = some (.inl (kC E 0, 6, .inl out.2.2.2.2.2.2.2.2.2.2.2.2.2.2.2.2.2.2.2.2.2.2.2.1)) ∧ hp' (v + 3) = some (.inl (kC E 0, 72, .inl out.2.2.2.2.2.2.2.2.2.2.2.2.2.2.2.2.2.2.2.2.2.2.2.2.1)) ∧ hp' (v + 4) = some (.inr (7, [.ref (v + 5), .ref (v + 6), .int out.2.2.2.2.2.2.2.2.2.2.2.2.2.2.2.2.2.2.2.2.2.2.2.2.2.1])) ∧ hp' (v + 5) = some (.inl (kC E 0, 6, .inl out.2.2.2.2.2.2.2.2.2.2.2.2.2.2.2.2.2.2.2.2.2.2.2.2.2.2.1)) ∧ hp' (v + 6) = some (.inl (kC E 0, 24, .inl out.2.2.2.2.2.2.2.2.2.2.2.2.2.2.2.2.2.2.2.2.2.2.2.2.2.2.2.1)) ∧ hp' (v + 7) = some (.inr (4, [.ref (v + 8), .ref (v + 9), .int out.2.2.2.2.2.2.2.2.2.2.2.2.2.2.2.2.2.2.2.2.2.2.2.2.2.2.2.2.1])) ∧ hp' (v + 8) = some (.inl (kC E 0, 300, .inl out.2.2.2.2.2.2.2.2.2.2.2.2.2.2.2.2.2.2.2.2.2.2.2.2.2.2.2.2.2.1)) ∧ hp' (v + 9) = some (.inl (kC E 0, 432, .inl out.2.2.2.2.2.2.2.2.2.2.2.2.2.2.2.2.2.2.2.2.2.2.2.2.2.2.2.2.2.2.1)) ∧ hp' (v + 10) = some (.inr (6, [.ref (v + 11), .ref (v + 12), .int out.2.2.2.2.2.2.2.2.2.2.2.2.2.2.2.2.2.2.2.2.2.2.2.2.2.2.2.2.2.2.2.1])) ∧ hp' (v + 11) = some (.inl (kC E 0, 36, .inl out.2.2.2.2.2.2.2.2.2.2.2.2.2.2.2.2.2.2.2.2.2.2.2.2.2.2.2.2.2.2.2.2.1)) ∧ hp' (v + 12) = some (.inl (kC E 0, 36, .inl out.2.2.2.2.2.2.2.2.2.2.2.2.2.2.2.2.2.2.2.2.2.2.2.2.2.2.2.2.2.2.2.2.2)) ∧ (∀ q, q ≠ (x + 3) → q ≠ (x + 4) → q ≠ (x + 5) → q ≠ (x + 6) → q ≠ (x + 7) → q ≠ (x + 8) → q ≠ (x + 9) → q ≠ (x + 10) → q ≠ (x + 11) → q ≠ (x + 12) → q ≠ (x + 13) → q ≠ (x + 14) → q ≠ (x + 15) → q ≠ (x + 18) → q ≠ o → q ≠ v → q ≠ (v + 1) → q ≠ (v + 2) → q ≠ (v + 3) → q ≠ (v + 4) → q ≠ (v + 5) → q ≠ (v + 6) → q ≠ (v + 7) → q ≠ (v + 8) → q ≠ (v + 9) → q ≠ (v + 10) → q ≠ (v + 11) → q ≠ (v + 12) → hp' q = hp q) ∧ al = al'
set_option maxHeartbeats 4000000 in
set_option maxRecDepth 100000 in
theorem c_L_restore {E : KE} {l : Launch} {hp : Hp} {x : Nat} {o : Nat} {v : Nat} {w : Nat} {sd : Int32} {mn : Int32} {th : Int32} {dc : Int32} {fc : Nat → Int32} {dw : Nat → Int32} {pc : Int32} {ln : Nat → Int32} {lt : Nat → Int32} {tc : Int32} {en : Nat → Int32} {fr : Nat → Int32} {oc : Int32} {op : Nat → Int32} {os : Nat → Int32} {nx : Int32} {dp : Int32} {rws : Nat → Option Nat} {srw : Nat → Option Nat} {su : Nat → Int32} {ov : Nat → Int64} {v_sd : Int32} {v_mn : Int32} {v_th : Int32} {v_dc : Int32} {v_fc : Nat → Int32} {v_dw : Nat → Int32} {v_pc : Int32} {v_ln : Nat → Int32} {v_lt : Nat → Int32} {v_tc : Int32} {v_en : Nat → Int32} {v_fr : Nat → Int32} {v_oc : Int32} {v_op : Nat → Int32} {v_os : Nat → Int32} {w_sd : Int32} {w_mn : Int32} {w_th : Int32} {w_dc : Int32} {w_fc : Nat → Int32} {w_dw : Nat → Int32} {w_pc : Int32} {w_ln : Nat → Int32} {w_lt : Nat → Int32} {w_tc : Int32} {w_en : Nat → Int32} {w_fr : Nat → Int32} {w_oc : Int32} {w_op : Nat → Int32} {w_os : Nat → Int32} {a1 : Int32} {out : Int32 × Int32 × Int32 × Int32 × Int32 × (Nat → Int32) × (Nat → Int32) × Int32 × (Nat → Int32) × (Nat → Int32) × Int32 × (Nat → Int32) × (Nat → Int32) × Int32 × (Nat → Int32) × (Nat → Int32) × Int32 × Int32 × (Nat → Int64) × Int32 × Int32 × Int32 × Int32 × (Nat → Int32) × (Nat → Int32) × Int32 × (Nat → Int32) × (Nat → Int32) × Int32 × (Nat → Int32) × (Nat → Int32) × Int32 × (Nat → Int32) × (Nat → Int32)} (g0 : hp x = some (.inr (10, [.ref (x + 126), .ref (x + 128), .ref (x + 1), .ref (x + 3), .ref (x + 16), .ref (x + 18), .ref (x + 124), .ref (x + 125)]))) (g3 : hp (x + 3) = some (.inr (2, [.ref (x + 4), .ref (x + 7), .ref (x + 10), .ref (x + 13), .int sd, .int mn, .int th]))) (g4 : hp (x + 4) = some (.inr (0, [.ref (x + 5), .ref (x + 6), .int dc]))) (g5 : hp (x + 5) = some (.inl (kC E 0, 6, .inl fc))) (g6 : hp (x + 6) = some (.inl (kC E 0, 72, .inl dw))) (g7 : hp (x + 7) = some (.inr (7, [.ref (x + 8), .ref (x + 9), .int pc]))) (g8 : hp (x + 8) = some (.inl (kC E 0, 6, .inl ln))) (g9 : hp (x + 9) = some (.inl (kC E 0, 24, .inl lt))) (g10 : hp (x + 10) = some (.inr (4, [.ref (x + 11), .ref (x + 12), .int tc]))) (g11 : hp (x + 11) = some (.inl (kC E 0, 300, .inl en))) (g12 : hp (x + 12) = some (.inl (kC E 0, 432, .inl fr))) (g13 : hp (x + 13) = some (.inr (6, [.ref (x + 14), .ref (x + 15), .int oc]))) (g14 : hp (x + 14) = some (.inl (kC E 0, 36, .inl op))) (g15 : hp (x + 15) = some (.inl (kC E 0, 36, .inl os))) (g18 : hp (x + 18) = some (.inr (3, [.ref (x + 19), .int nx, .int dp]))) (g19 : hp (x + 19) = some (.inl (kC E 5, 8, .inr (.inr (.inr (.inr rws)))))) (g20 : hp (x + 124) = some (.inl (kC E 5, 2, .inr (.inr (.inr (.inr srw)))))) (g21 : hp (x + 125) = some (.inl (kC E 0, 2, .inl su))) (g39 : hp o = some (.inl (kC E 1, 1, .inr (.inl ov)))) (g40 : hp v = some (.inr (2, [.ref (v + 1), .ref (v + 4), .ref (v + 7), .ref (v + 10), .int v_sd, .int v_mn, .int v_th]))) (g41 : hp (v + 1) = some (.inr (0, [.ref (v + 2), .ref (v + 3), .int v_dc]))) (g42 : hp (v + 2) = some (.inl (kC E 0, 6, .inl v_fc))) (g43 : hp (v + 3) = some (.inl (kC E 0, 72, .inl v_dw))) (g44 : hp (v + 4) = some (.inr (7, [.ref (v + 5), .ref (v + 6), .int v_pc]))) (g45 : hp (v + 5) = some (.inl (kC E 0, 6, .inl v_ln))) (g46 : hp (v + 6) = some (.inl (kC E 0, 24, .inl v_lt))) (g47 : hp (v + 7) = some (.inr (4, [.ref (v + 8), .ref (v + 9), .int v_tc]))) (g48 : hp (v + 8) = some (.inl (kC E 0, 300, .inl v_en))) (g49 : hp (v + 9) = some (.inl (kC E 0, 432, .inl v_fr))) (g50 : hp (v + 10) = some (.inr (6, [.ref (v + 11), .ref (v + 12), .int v_oc]))) (g51 : hp (v + 11) = some (.inl (kC E 0, 36, .inl v_op))) (g52 : hp (v + 12) = some (.inl (kC E 0, 36, .inl v_os))) (g53 : hp w = some (.inr (2, [.ref (w + 1), .ref (w + 4), .ref (w + 7), .ref (w + 10), .int w_sd, .int w_mn, .int w_th]))) (g54 : hp (w + 1) = some (.inr (0, [.ref (w + 2), .ref (w + 3), .int w_dc]))) (g55 : hp (w + 2) = some (.inl (kC E 0, 6, .inl w_fc))) (g56 : hp (w + 3) = some (.inl (kC E 0, 72, .inl w_dw))) (g57 : hp (w + 4) = some (.inr (7, [.ref (w + 5), .ref (w + 6), .int w_pc]))) (g58 : hp (w + 5) = some (.inl (kC E 0, 6, .inl w_ln))) (g59 : hp (w + 6) = some (.inl (kC E 0, 24, .inl w_lt))) (g60 : hp (w + 7) = some (.inr (4, [.ref (w + 8), .ref (w + 9), .int w_tc]))) (g61 : hp (w + 8) = some (.inl (kC E 0, 300, .inl w_en))) (g62 : hp (w + 9) = some (.inl (kC E 0, 432, .inl w_fr))) (g63 : hp (w + 10) = some (.inr (6, [.ref (w + 11), .ref (w + 12), .int w_oc]))) (g64 : hp (w + 11) = some (.inl (kC E 0, 36, .inl w_op))) (g65 : hp (w + 12) = some (.inl (kC E 0, 36, .inl w_os))) (hvv : rws (Int32.toNatClampNeg nx) = some v) (hlv : (x + 20) ≤ v) (huv : (v + 13) ≤ (x + 124)) (hvw : srw (Int32.toNatClampNeg a1) = some w) (hlw : (x + 143) ≤ w) (huw : (w + 13) ≤ (x + 169)) (hz6 : (x + 126) ≤ o ∨ (o + 1) ≤ x) (hz7 : (o + 1) ≤ v ∨ (v + 13) ≤ o) (hz8 : (o + 1) ≤ w ∨ (w + 13) ≤ o) (h : f_L_restore su w_sd w_mn w_th w_dc w_fc w_dw w_pc w_ln w_lt w_tc w_en w_fr w_oc w_op w_os sd mn th dc fc dw pc ln lt tc en fr oc op os nx dp ov v_sd v_mn v_th v_dc v_fc v_dw v_pc v_ln v_lt v_tc v_en v_fr v_oc v_op v_os a1 = some out) : AH E l yL_restore cL_restore 4 (Option.some Jvm.ClassFile.FieldType.int) [((0 : Nat), (9 : Nat), (12 : Nat), (28 : Nat)), ((0 : Nat), (9 : Nat), (15 : Nat), (13 : Nat))] ⟨9, 2, 12, 144⟩ [.ref x, .int a1, .ref o] hp none (P_L_restore E x o v w hp none out) := by
  refine A_ofH (by decide +kernel) (Nat.le_of_ble_eq_true rfl) ?_
  intro p e s m args below meth c X hr htb
  have X : CX E p l s m args meth c "DiceAuditLaw" cL_restore 4 := X
  refine A_L (L' := [(0, .ref x), (1, .int a1), (2, .ref o)]) rfl ?_
  unfold f_L_restore at h
  refine A_aload_n X dL_restore_0 2 rfl ?_
  refine A_iconst (v := 0) X dL_restore_1 (by decide) ?_
  refine A_aload_n X dL_restore_2 0 rfl ?_
  refine A_iload_n X dL_restore_3 1 rfl ?_
  rcases hbd_o h with ⟨C9, hc9, h⟩ | ⟨t1, hct1, h⟩
  · refine A_cX (k' := 2) (n' := 12) rfl rfl (A_runVX (rest := [.int 0, .ref o]) X dL_restore_4 (c_X10_restore g0 g3 g4 g5 g6 g7 g8 g9 g10 g11 g12 g13 g14 g15 g18 g19 g20 g21 g40 g41 g42 g43 g44 g45 g46 g47 g48 g49 g50 g51 g52 g53 g54 g55 g56 g57 g58 g59 g60 g61 g62 g63 g64 g65 hvv (by omega) (by omega) hvw (by omega) (by omega) hc9) kY_X10_restore kw_1387 g0 rfl rfl ⟨(Nat.le_of_ble_eq_true rfl), (Nat.le_of_ble_eq_true rfl), (Nat.le_of_ble_eq_true rfl), (Nat.le_of_ble_eq_true rfl)⟩ rfl (Nat.le_of_ble_eq_true rfl)) (fun C hp1 hP => ?_) (fun v hp1 al1 hP => by obtain ⟨u, hu, _⟩ := hP; cases hu)
    obtain ⟨hC, rfl⟩ := hP
    cases hC
    rcases ite_o h with ⟨rfl, h⟩ | h
    · refine A_catch (name := "java/lang/IndexOutOfBoundsException") (Lc := []) (stc := []) X [] ⟨0, 9, 12, 28⟩ [⟨0, 9, 15, 13⟩] (htb.trans rfl) (fun z hz => nomatch hz) (by decide) (by decide) kw_953 kw_967 (fun q9 => ?_)
      refine A_astore_n (L' := [(3, .ref q9), (0, .ref x), (1, .int a1), (2, .ref o)]) X dL_restore_12 rfl (by decide) rfl ?_
      refine A_iconst (v := 1) X dL_restore_13 (by decide) ?_
      cases h
      exact A_iretX X dL_restore_14 hr ⟨rfl, g3, g4, g5, g6, g7, g8, g9, g10, g11, g12, g13, g14, g15, g18, g39, g40, g41, g42, g43, g44, g45, g46, g47, g48, g49, g50, g51, g52, (fun q z0 z1 z2 z3 z4 z5 z6 z7 z8 z9 z10 z11 z12 z13 z14 z15 z16 z17 z18 z19 z20 z21 z22 z23 z24 z25 z26 z27 => rfl), rfl⟩ (Nat.le_of_ble_eq_true rfl) (Nat.le_of_ble_eq_true rfl)
    rcases ite_o h with ⟨rfl, h⟩ | h
    · refine A_catch (name := "java/lang/IllegalStateException") (Lc := []) (stc := []) X [⟨0, 9, 12, 28⟩] ⟨0, 9, 15, 13⟩ [] (htb.trans rfl) (fun z hz => by cases List.mem_singleton.mp hz; exact Or.inr ⟨by decide, "java/lang/IndexOutOfBoundsException", kw_953, List.mem_of_getElem? (i := 6) rfl⟩) (by decide) (by decide) kw_838 kw_845 (fun q9 => ?_)
      refine A_astore_n (L' := [(3, .ref q9), (0, .ref x), (1, .int a1), (2, .ref o)]) X dL_restore_15 rfl (by decide) rfl ?_
      refine A_iconst (v := 2) X dL_restore_16 (by decide) ?_
      cases h
      exact A_iretX X dL_restore_17 hr ⟨rfl, g3, g4, g5, g6, g7, g8, g9, g10, g11, g12, g13, g14, g15, g18, g39, g40, g41, g42, g43, g44, g45, g46, g47, g48, g49, g50, g51, g52, (fun q z0 z1 z2 z3 z4 z5 z6 z7 z8 z9 z10 z11 z12 z13 z14 z15 z16 z17 z18 z19 z20 z21 z22 z23 z24 z25 z26 z27 => rfl), rfl⟩ (Nat.le_of_ble_eq_true rfl) (Nat.le_of_ble_eq_true rfl)
    cases h
  refine A_cX (k' := 2) (n' := 12) rfl rfl (A_runVX (rest := [.int 0, .ref o]) X dL_restore_4 (c_X10_restore g0 g3 g4 g5 g6 g7 g8 g9 g10 g11 g12 g13 g14 g15 g18 g19 g20 g21 g40 g41 g42 g43 g44 g45 g46 g47 g48 g49 g50 g51 g52 g53 g54 g55 g56 g57 g58 g59 g60 g61 g62 g63 g64 g65 hvv (by omega) (by omega) hvw (by omega) (by omega) hct1) kY_X10_restore kw_1387 g0 rfl rfl ⟨(Nat.le_of_ble_eq_true rfl), (Nat.le_of_ble_eq_true rfl), (Nat.le_of_ble_eq_true rfl), (Nat.le_of_ble_eq_true rfl)⟩ rfl (Nat.le_of_ble_eq_true rfl)) (fun C hp1 hP => by obtain ⟨hC, _⟩ := hP; cases hC) (fun v9 hp1 al9 hP => ?_)
  obtain ⟨u9, hu9, rfl, k1_0, k1_1, k1_2, k1_3, k1_4, k1_5, k1_6, k1_7, k1_8, k1_9, k1_10, k1_11, k1_12, k1_13, k1_14, k1_15, k1_16, k1_17, k1_18, k1_19, k1_20, k1_21, k1_22, k1_23, k1_24, k1_25, k1_26, n1, rfl⟩ := hP
  cases hu9
  replace k1_0 : hp1 (x + 3) = some (.inr (2, [.ref (x + 4), .ref (x + 7), .ref (x + 10), .ref (x + 13), .int t1.2.1, .int t1.2.2.1, .int t1.2.2.2.1])) := k1_0
  replace k1_1 : hp1 (x + 4) = some (.inr (0, [.ref (x + 5), .ref (x + 6), .int t1.2.2.2.2.1])) := k1_1
  replace k1_2 : hp1 (x + 5) = some (.inl (kC E 0, 6, .inl t1.2.2.2.2.2.1)) := k1_2
  replace k1_3 : hp1 (x + 6) = some (.inl (kC E 0, 72, .inl t1.2.2.2.2.2.2.1)) := k1_3
  replace k1_4 : hp1 (x + 7) = some (.inr (7, [.ref (x + 8), .ref (x + 9), .int t1.2.2.2.2.2.2.2.1])) := k1_4
  replace k1_5 : hp1 (x + 8) = some (.inl (kC E 0, 6, .inl t1.2.2.2.2.2.2.2.2.1)) := k1_5
  replace k1_6 : hp1 (x + 9) = some (.inl (kC E 0, 24, .inl t1.2.2.2.2.2.2.2.2.2.1)) := k1_6
  replace k1_7 : hp1 (x + 10) = some (.inr (4, [.ref (x + 11), .ref (x + 12), .int t1.2.2.2.2.2.2.2.2.2.2.1])) := k1_7
  replace k1_8 : hp1 (x + 11) = some (.inl (kC E 0, 300, .inl t1.2.2.2.2.2.2.2.2.2.2.2.1)) := k1_8
  replace k1_9 : hp1 (x + 12) = some (.inl (kC E 0, 432, .inl t1.2.2.2.2.2.2.2.2.2.2.2.2.1)) := k1_9
  replace k1_10 : hp1 (x + 13) = some (.inr (6, [.ref (x + 14), .ref (x + 15), .int t1.2.2.2.2.2.2.2.2.2.2.2.2.2.1])) := k1_10
  replace k1_11 : hp1 (x + 14) = some (.inl (kC E 0, 36, .inl t1.2.2.2.2.2.2.2.2.2.2.2.2.2.2.1)) := k1_11
  replace k1_12 : hp1 (x + 15) = some (.inl (kC E 0, 36, .inl t1.2.2.2.2.2.2.2.2.2.2.2.2.2.2.2.1)) := k1_12
  replace k1_13 : hp1 (x + 18) = some (.inr (3, [.ref (x + 19), .int t1.2.2.2.2.2.2.2.2.2.2.2.2.2.2.2.2.1, .int t1.2.2.2.2.2.2.2.2.2.2.2.2.2.2.2.2.2.1])) := k1_13
  replace k1_14 : hp1 v = some (.inr (2, [.ref (v + 1), .ref (v + 4), .ref (v + 7), .ref (v + 10), .int t1.2.2.2.2.2.2.2.2.2.2.2.2.2.2.2.2.2.2.1, .int t1.2.2.2.2.2.2.2.2.2.2.2.2.2.2.2.2.2.2.2.1, .int t1.2.2.2.2.2.2.2.2.2.2.2.2.2.2.2.2.2.2.2.2.1])) := k1_14
  replace k1_15 : hp1 (v + 1) = some (.inr (0, [.ref (v + 2), .ref (v + 3), .int t1.2.2.2.2.2.2.2.2.2.2.2.2.2.2.2.2.2.2.2.2.2.1])) := k1_15
  replace k1_16 : hp1 (v + 2) = some (.inl (kC E 0, 6, .inl t1.2.2.2.2.2.2.2.2.2.2.2.2.2.2.2.2.2.2.2.2.2.2.1)) := k1_16
  replace k1_17 : hp1 (v + 3) = some (.inl (kC E 0, 72, .inl t1.2.2.2.2.2.2.2.2.2.2.2.2.2.2.2.2.2.2.2.2.2.2.2.1)) := k1_17
  replace k1_18 : hp1 (v + 4) = some (.inr (7, [.ref (v + 5), .ref (v + 6), .int t1.2.2.2.2.2.2.2.2.2.2.2.2.2.2.2.2.2.2.2.2.2.2.2.2.1])) := k1_18
  replace k1_19 : hp1 (v + 5) = some (.inl (kC E 0, 6, .inl t1.2.2.2.2.2.2.2.2.2.2.2.2.2.2.2.2.2.2.2.2.2.2.2.2.2.1)) := k1_19
  replace k1_20 : hp1 (v + 6) = some (.inl (kC E 0, 24, .inl t1.2.2.2.2.2.2.2.2.2.2.2.2.2.2.2.2.2.2.2.2.2.2.2.2.2.2.1)) := k1_20
  replace k1_21 : hp1 (v + 7) = some (.inr (4, [.ref (v + 8), .ref (v + 9), .int t1.2.2.2.2.2.2.2.2.2.2.2.2.2.2.2.2.2.2.2.2.2.2.2.2.2.2.2.1])) := k1_21
  replace k1_22 : hp1 (v + 8) = some (.inl (kC E 0, 300, .inl t1.2.2.2.2.2.2.2.2.2.2.2.2.2.2.2.2.2.2.2.2.2.2.2.2.2.2.2.2.1)) := k1_22
  replace k1_23 : hp1 (v + 9) = some (.inl (kC E 0, 432, .inl t1.2.2.2.2.2.2.2.2.2.2.2.2.2.2.2.2.2.2.2.2.2.2.2.2.2.2.2.2.2.1)) := k1_23
  replace k1_24 : hp1 (v + 10) = some (.inr (6, [.ref (v + 11), .ref (v + 12), .int t1.2.2.2.2.2.2.2.2.2.2.2.2.2.2.2.2.2.2.2.2.2.2.2.2.2.2.2.2.2.2.1])) := k1_24
  replace k1_25 : hp1 (v + 11) = some (.inl (kC E 0, 36, .inl t1.2.2.2.2.2.2.2.2.2.2.2.2.2.2.2.2.2.2.2.2.2.2.2.2.2.2.2.2.2.2.2.1)) := k1_25
  replace k1_26 : hp1 (v + 12) = some (.inl (kC E 0, 36, .inl t1.2.2.2.2.2.2.2.2.2.2.2.2.2.2.2.2.2.2.2.2.2.2.2.2.2.2.2.2.2.2.2.2)) := k1_26
  refine A_st (st' := [.int t1.1, .int 0, .ref o]) rfl ?_
  refine A_i2l X dL_restore_7 ?_
  refine A_last X dL_restore_8 ((n1 _ (by omega) (by omega) (by omega) (by omega) (by omega) (by omega) (by omega) (by omega) (by omega) (by omega) (by omega) (by omega) (by omega) (by omega) (by omega) (by omega) (by omega) (by omega) (by omega) (by omega) (by omega) (by omega) (by omega) (by omega) (by omega) (by omega) (by omega)).trans g39) (by decide) (fun hp2 (k2 : hp2 o = some (.inl (kC E 1, 1, .inr (.inl (vp_updL ov (Int32.toNatClampNeg 0) t1.1.toInt64))))) n2 => ?_)
  refine A_goto (tgt := 18) X dL_restore_9 (by decide) ?_
  refine A_iconst (v := 0) X dL_restore_18 (by decide) ?_
  cases h
  exact A_iretX X dL_restore_19 hr ⟨rfl, ((n2 _ (by omega)).trans k1_0), ((n2 _ (by omega)).trans k1_1), ((n2 _ (by omega)).trans k1_2), ((n2 _ (by omega)).trans k1_3), ((n2 _ (by omega)).trans k1_4), ((n2 _ (by omega)).trans k1_5), ((n2 _ (by omega)).trans k1_6), ((n2 _ (by omega)).trans k1_7), ((n2 _ (by omega)).trans k1_8), ((n2 _ (by omega)).trans k1_9), ((n2 _ (by omega)).trans k1_10), ((n2 _ (by omega)).trans k1_11), ((n2 _ (by omega)).trans k1_12), ((n2 _ (by omega)).trans k1_13), k2, ((n2 _ (by omega)).trans k1_14), ((n2 _ (by omega)).trans k1_15), ((n2 _ (by omega)).trans k1_16), ((n2 _ (by omega)).trans k1_17), ((n2 _ (by omega)).trans k1_18), ((n2 _ (by omega)).trans k1_19), ((n2 _ (by omega)).trans k1_20), ((n2 _ (by omega)).trans k1_21), ((n2 _ (by omega)).trans k1_22), ((n2 _ (by omega)).trans k1_23), ((n2 _ (by omega)).trans k1_24), ((n2 _ (by omega)).trans k1_25), ((n2 _ (by omega)).trans k1_26), (fun q z0 z1 z2 z3 z4 z5 z6 z7 z8 z9 z10 z11 z12 z13 z14 z15 z16 z17 z18 z19 z20 z21 z22 z23 z24 z25 z26 z27 => ((n2 q z14).trans (n1 q z0 z1 z2 z3 z4 z5 z6 z7 z8 z9 z10 z11 z12 z13 z15 z16 z17 z18 z19 z20 z21 z22 z23 z24 z25 z26 z27))), rfl⟩ (Nat.le_of_ble_eq_true rfl) (Nat.le_of_ble_eq_true rfl)
abbrev P_L_undo (E : KE) (x : Nat) (o : Nat) (v : Nat)  (hp : Hp) (al : Option Nat) (out : Int32 × Int32 × Int32 × Int32 × Int32 × (Nat → Int32) × (Nat → Int32) × Int32 × (Nat → Int32) × (Nat → Int32) × Int32 × (Nat → Int32) × (Nat → Int32) × Int32 × (Nat → Int32) × (Nat → Int32) × Int32 × Int32 × (Nat → Int64)) : Option Value → Hp → Option Nat → Prop := fun v0 hp' al' => v0 = some (.int out.1) ∧ hp' (x + 3) = some (.inr (2, [.ref (x + 4), .ref (x + 7), .ref (x + 10), .ref (x + 13), .int out.2.1, .int out.2.2.1, .int out.2.2.2.1])) ∧ hp' (x + 4) = some (.inr (0, [.ref (x + 5), .ref (x + 6), .int out.2.2.2.2.1])) ∧ hp' (x + 5) = some (.inl (kC E 0, 6, .inl out.2.2.2.2.2.1)) ∧ hp' (x + 6) = some (.inl (kC E 0, 72, .inl out.2.2.2.2.2.2.1)) ∧ hp' (x + 7) = some (.inr (7, [.ref (x + 8), .ref (x + 9), .int out.2.2.2.2.2.2.2.1])) ∧ hp' (x + 8) = some (.inl (kC E 0, 6, .inl out.2.2.2.2.2.2.2.2.1)) ∧ hp' (x + 9) = some (.inl (kC E 0, 24, .inl out.2.2.2.2.2.2.2.2.2.1)) ∧ hp' (x + 10) = some (.inr (4, [.ref (x + 11), .ref (x + 12), .int out.2.2.2.2.2.2.2.2.2.2.1])) ∧ hp' (x + 11) = some (.inl (kC E 0, 300, .inl out.2.2.2.2.2.2.2.2.2.2.2.1)) ∧ hp' (x + 12) = some (.inl (kC E 0, 432, .inl out.2.2.2.2.2.2.2.2.2.2.2.2.1)) ∧ hp' (x + 13) = some (.inr (6, [.ref (x + 14), .ref (x + 15), .int out.2.2.2.2.2.2.2.2.2.2.2.2.2.1])) ∧ hp' (x + 14) = some (.inl (kC E 0, 36, .inl out.2.2.2.2.2.2.2.2.2.2.2.2.2.2.1)) ∧ hp' (x + 15) = some (.inl (kC E 0, 36, .inl out.2.2.2.2.2.2.2.2.2.2.2.2.2.2.2.1)) ∧ hp' (x + 18) = some (.inr (3, [.ref (x + 19), .int out.2.2.2.2.2.2.2.2.2.2.2.2.2.2.2.2.1, .int out.2.2.2.2.2.2.2.2.2.2.2.2.2.2.2.2.2.1])) ∧ hp' o = some (.inl (kC E 1, 1, .inr (.inl out.2.2.2.2.2.2.2.2.2.2.2.2.2.2.2.2.2.2))) ∧ (∀ q, q ≠ (x + 3) → q ≠ (x + 4) → q ≠ (x + 5) → q ≠ (x + 6) → q ≠ (x + 7) → q ≠ (x + 8) → q ≠ (x + 9) → q ≠ (x + 10) → q ≠ (x + 11) → q ≠ (x + 12) → q ≠ (x + 13) → q ≠ (x + 14) → q ≠ (x + 15) → q ≠ (x + 18) → q ≠ o → hp' q = hp q) ∧ al = al'
set_option maxHeartbeats 4000000 in
set_option maxRecDepth 100000 in
theorem c_L_undo {E : KE} {l : Launch} {hp : Hp} {x : Nat} {o : Nat} {v : Nat} {sd : Int32} {mn : Int32} {th : Int32} {dc : Int32} {fc : Nat → Int32} {dw : Nat → Int32} {pc : Int32} {ln : Nat → Int32} {lt : Nat → Int32} {tc : Int32} {en : Nat → Int32} {fr : Nat → Int32} {oc : Int32} {op : Nat → Int32} {os : Nat → Int32} {nx : Int32} {dp : Int32} {rws : Nat → Option Nat} {ov : Nat → Int64} {v_sd : Int32} {v_mn : Int32} {v_th : Int32} {v_dc : Int32} {v_fc : Nat → Int32} {v_dw : Nat → Int32} {v_pc : Int32} {v_ln : Nat → Int32} {v_lt : Nat → Int32} {v_tc : Int32} {v_en : Nat → Int32} {v_fr : Nat → Int32} {v_oc : Int32} {v_op : Nat → Int32} {v_os : Nat → Int32}  {out : Int32 × Int32 × Int32 × Int32 × Int32 × (Nat → Int32) × (Nat → Int32) × Int32 × (Nat → Int32) × (Nat → Int32) × Int32 × (Nat → Int32) × (Nat → Int32) × Int32 × (Nat → Int32) × (Nat → Int32) × Int32 × Int32 × (Nat → Int64)} (g0 : hp x = some (.inr (10, [.ref (x + 126), .ref (x + 128), .ref (x + 1), .ref (x + 3), .ref (x + 16), .ref (x + 18), .ref (x + 124), .ref (x + 125)]))) (g3 : hp (x + 3) = some (.inr (2, [.ref (x + 4), .ref (x + 7), .ref (x + 10), .ref (x + 13), .int sd, .int mn, .int th]))) (g4 : hp (x + 4) = some (.inr (0, [.ref (x + 5), .ref (x + 6), .int dc]))) (g5 : hp (x + 5) = some (.inl (kC E 0, 6, .inl fc))) (g6 : hp (x + 6) = some (.inl (kC E 0, 72, .inl dw))) (g7 : hp (x + 7) = some (.inr (7, [.ref (x + 8), .ref (x + 9), .int pc]))) (g8 : hp (x + 8) = some (.inl (kC E 0, 6, .inl ln))) (g9 : hp (x + 9) = some (.inl (kC E 0, 24, .inl lt))) (g10 : hp (x + 10) = some (.inr (4, [.ref (x + 11), .ref (x + 12), .int tc]))) (g11 : hp (x + 11) = some (.inl (kC E 0, 300, .inl en))) (g12 : hp (x + 12) = some (.inl (kC E 0, 432, .inl fr))) (g13 : hp (x + 13) = some (.inr (6, [.ref (x + 14), .ref (x + 15), .int oc]))) (g14 : hp (x + 14) = some (.inl (kC E 0, 36, .inl op))) (g15 : hp (x + 15) = some (.inl (kC E 0, 36, .inl os))) (g18 : hp (x + 18) = some (.inr (3, [.ref (x + 19), .int nx, .int dp]))) (g19 : hp (x + 19) = some (.inl (kC E 5, 8, .inr (.inr (.inr (.inr rws)))))) (g39 : hp o = some (.inl (kC E 1, 1, .inr (.inl ov)))) (g40 : hp v = some (.inr (2, [.ref (v + 1), .ref (v + 4), .ref (v + 7), .ref (v + 10), .int v_sd, .int v_mn, .int v_th]))) (g41 : hp (v + 1) = some (.inr (0, [.ref (v + 2), .ref (v + 3), .int v_dc]))) (g42 : hp (v + 2) = some (.inl (kC E 0, 6, .inl v_fc))) (g43 : hp (v + 3) = some (.inl (kC E 0, 72, .inl v_dw))) (g44 : hp (v + 4) = some (.inr (7, [.ref (v + 5), .ref (v + 6), .int v_pc]))) (g45 : hp (v + 5) = some (.inl (kC E 0, 6, .inl v_ln))) (g46 : hp (v + 6) = some (.inl (kC E 0, 24, .inl v_lt))) (g47 : hp (v + 7) = some (.inr (4, [.ref (v + 8), .ref (v + 9), .int v_tc]))) (g48 : hp (v + 8) = some (.inl (kC E 0, 300, .inl v_en))) (g49 : hp (v + 9) = some (.inl (kC E 0, 432, .inl v_fr))) (g50 : hp (v + 10) = some (.inr (6, [.ref (v + 11), .ref (v + 12), .int v_oc]))) (g51 : hp (v + 11) = some (.inl (kC E 0, 36, .inl v_op))) (g52 : hp (v + 12) = some (.inl (kC E 0, 36, .inl v_os))) (hvv : rws (Int32.toNatClampNeg (((nx + 8) - 1) - ((nx + 8) - 1) / 8 * 8)) = some v) (hlv : (x + 20) ≤ v) (huv : (v + 13) ≤ (x + 124)) (hz3 : (x + 20) ≤ o ∨ (o + 1) ≤ x) (hz4 : (o + 1) ≤ v ∨ (v + 13) ≤ o) (h : f_L_undo v_sd v_mn v_th v_dc v_fc v_dw v_pc v_ln v_lt v_tc v_en v_fr v_oc v_op v_os sd mn th dc fc dw pc ln lt tc en fr oc op os nx dp ov = some out) : AH E l yL_undo cL_undo 3 (Option.some Jvm.ClassFile.FieldType.int) [((0 : Nat), (8 : Nat), (11 : Nat), (13 : Nat))] ⟨7, 1, 6, 122⟩ [.ref x, .ref o] hp none (P_L_undo E x o v hp none out) := by
  refine A_ofH (by decide +kernel) (Nat.le_of_ble_eq_true rfl) ?_
  intro p e s m args below meth c X hr htb
  have X : CX E p l s m args meth c "DiceAuditLaw" cL_undo 3 := X
  refine A_L (L' := [(0, .ref x), (1, .ref o)]) rfl ?_
  unfold f_L_undo at h
  refine A_aload_n X dL_undo_0 1 rfl ?_
  refine A_iconst (v := 0) X dL_undo_1 (by decide) ?_
  refine A_aload_n X dL_undo_2 0 rfl ?_
  rcases hbd_o h with ⟨C9, hc9, h⟩ | ⟨t1, hct1, h⟩
  · refine A_cX (k' := 1) (n' := 6) rfl rfl (A_runVX (rest := [.int 0, .ref o]) X dL_undo_3 (c_X10_undo g0 g3 g4 g5 g6 g7 g8 g9 g10 g11 g12 g13 g14 g15 g18 g19 g40 g41 g42 g43 g44 g45 g46 g47 g48 g49 g50 g51 g52 hvv (by omega) (by omega) hc9) kY_X10_undo kw_1395 g0 rfl rfl ⟨(Nat.le_of_ble_eq_true rfl), (Nat.le_of_ble_eq_true rfl), (Nat.le_of_ble_eq_true rfl), (Nat.le_of_ble_eq_true rfl)⟩ rfl (Nat.le_of_ble_eq_true rfl)) (fun C hp1 hP => ?_) (fun v hp1 al1 hP => by obtain ⟨u, hu, _⟩ := hP; cases hu)
    obtain ⟨hC, rfl⟩ := hP
    cases hC
    rcases ite_o h with ⟨rfl, h⟩ | h
    · refine A_catch (name := "java/lang/IllegalStateException") (Lc := []) (stc := []) X [] ⟨0, 8, 11, 13⟩ [] (htb.trans rfl) (fun z hz => nomatch hz) (by decide) (by decide) kw_838 kw_845 (fun q9 => ?_)
      refine A_astore_n (L' := [(2, .ref q9), (0, .ref x), (1, .ref o)]) X dL_undo_11 rfl (by decide) rfl ?_
      refine A_iconst (v := 1) X dL_undo_12 (by decide) ?_
      cases h
      exact A_iretX X dL_undo_13 hr ⟨rfl, g3, g4, g5, g6, g7, g8, g9, g10, g11, g12, g13, g14, g15, g18, g39, (fun q z0 z1 z2 z3 z4 z5 z6 z7 z8 z9 z10 z11 z12 z13 z14 => rfl), rfl⟩ (Nat.le_of_ble_eq_true rfl) (Nat.le_of_ble_eq_true rfl)
    cases h
  refine A_cX (k' := 1) (n' := 6) rfl rfl (A_runVX (rest := [.int 0, .ref o]) X dL_undo_3 (c_X10_undo g0 g3 g4 g5 g6 g7 g8 g9 g10 g11 g12 g13 g14 g15 g18 g19 g40 g41 g42 g43 g44 g45 g46 g47 g48 g49 g50 g51 g52 hvv (by omega) (by omega) hct1) kY_X10_undo kw_1395 g0 rfl rfl ⟨(Nat.le_of_ble_eq_true rfl), (Nat.le_of_ble_eq_true rfl), (Nat.le_of_ble_eq_true rfl), (Nat.le_of_ble_eq_true rfl)⟩ rfl (Nat.le_of_ble_eq_true rfl)) (fun C hp1 hP => by obtain ⟨hC, _⟩ := hP; cases hC) (fun v9 hp1 al9 hP => ?_)
  obtain ⟨u9, hu9, rfl, k1_0, k1_1, k1_2, k1_3, k1_4, k1_5, k1_6, k1_7, k1_8, k1_9, k1_10, k1_11, k1_12, k1_13, n1, rfl⟩ := hP
  cases hu9
  replace k1_0 : hp1 (x + 3) = some (.inr (2, [.ref (x + 4), .ref (x + 7), .ref (x + 10), .ref (x + 13), .int t1.2.1, .int t1.2.2.1, .int t1.2.2.2.1])) := k1_0
  replace k1_1 : hp1 (x + 4) = some (.inr (0, [.ref (x + 5), .ref (x + 6), .int t1.2.2.2.2.1])) := k1_1
  replace k1_2 : hp1 (x + 5) = some (.inl (kC E 0, 6, .inl t1.2.2.2.2.2.1)) := k1_2
  replace k1_3 : hp1 (x + 6) = some (.inl (kC E 0, 72, .inl t1.2.2.2.2.2.2.1)) := k1_3
  replace k1_4 : hp1 (x + 7) = some (.inr (7, [.ref (x + 8), .ref (x + 9), .int t1.2.2.2.2.2.2.2.1])) := k1_4
  replace k1_5 : hp1 (x + 8) = some (.inl (kC E 0, 6, .inl t1.2.2.2.2.2.2.2.2.1)) := k1_5
  replace k1_6 : hp1 (x + 9) = some (.inl (kC E 0, 24, .inl t1.2.2.2.2.2.2.2.2.2.1)) := k1_6
  replace k1_7 : hp1 (x + 10) = some (.inr (4, [.ref (x + 11), .ref (x + 12), .int t1.2.2.2.2.2.2.2.2.2.2.1])) := k1_7
  replace k1_8 : hp1 (x + 11) = some (.inl (kC E 0, 300, .inl t1.2.2.2.2.2.2.2.2.2.2.2.1)) := k1_8
  replace k1_9 : hp1 (x + 12) = some (.inl (kC E 0, 432, .inl t1.2.2.2.2.2.2.2.2.2.2.2.2.1)) := k1_9
  replace k1_10 : hp1 (x + 13) = some (.inr (6, [.ref (x + 14), .ref (x + 15), .int t1.2.2.2.2.2.2.2.2.2.2.2.2.2.1])) := k1_10
  replace k1_11 : hp1 (x + 14) = some (.inl (kC E 0, 36, .inl t1.2.2.2.2.2.2.2.2.2.2.2.2.2.2.1)) := k1_11
  replace k1_12 : hp1 (x + 15) = some (.inl (kC E 0, 36, .inl t1.2.2.2.2.2.2.2.2.2.2.2.2.2.2.2.1)) := k1_12
  replace k1_13 : hp1 (x + 18) = some (.inr (3, [.ref (x + 19), .int t1.2.2.2.2.2.2.2.2.2.2.2.2.2.2.2.2.1, .int t1.2.2.2.2.2.2.2.2.2.2.2.2.2.2.2.2.2])) := k1_13
  refine A_st (st' := [.int t1.1, .int 0, .ref o]) rfl ?_
  refine A_i2l X dL_undo_6 ?_
  refine A_last X dL_undo_7 ((n1 _ (by omega) (by omega) (by omega) (by omega) (by omega) (by omega) (by omega) (by omega) (by omega) (by omega) (by omega) (by omega) (by omega) (by omega)).trans g39) (by decide) (fun hp2 (k2 : hp2 o = some (.inl (kC E 1, 1, .inr (.inl (vp_updL ov (Int32.toNatClampNeg 0) t1.1.toInt64))))) n2 => ?_)
  refine A_goto (tgt := 14) X dL_undo_8 (by decide) ?_
  refine A_iconst (v := 0) X dL_undo_14 (by decide) ?_
  cases h
  exact A_iretX X dL_undo_15 hr ⟨rfl, ((n2 _ (by omega)).trans k1_0), ((n2 _ (by omega)).trans k1_1), ((n2 _ (by omega)).trans k1_2), ((n2 _ (by omega)).trans k1_3), ((n2 _ (by omega)).trans k1_4), ((n2 _ (by omega)).trans k1_5), ((n2 _ (by omega)).trans k1_6), ((n2 _ (by omega)).trans k1_7), ((n2 _ (by omega)).trans k1_8), ((n2 _ (by omega)).trans k1_9), ((n2 _ (by omega)).trans k1_10), ((n2 _ (by omega)).trans k1_11), ((n2 _ (by omega)).trans k1_12), ((n2 _ (by omega)).trans k1_13), k2, (fun q z0 z1 z2 z3 z4 z5 z6 z7 z8 z9 z10 z11 z12 z13 z14 => ((n2 q z14).trans (n1 q z0 z1 z2 z3 z4 z5 z6 z7 z8 z9 z10 z11 z12 z13))), rfl⟩ (Nat.le_of_ble_eq_true rfl) (Nat.le_of_ble_eq_true rfl)
