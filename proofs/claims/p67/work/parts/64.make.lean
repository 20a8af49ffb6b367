/-! the hand's making -/
def wq (b n : Nat) : Nat → Option Nat := fun i => if i < n then some (b + 4 + i) else none
theorem wq_up {b d : Nat} : va_up (wq b d) d (some (b + 4 + d)) = wq b (d + 1) := by
  funext i
  unfold va_up wq
  by_cases h : i = d
  · subst h
    rw [if_pos rfl, if_pos (by omega)]
  · rw [if_neg h]
    by_cases h2 : i < d
    · rw [if_pos h2, if_pos (by omega)]
    · rw [if_neg h2, if_neg (by omega)]
def wv (f : Nat → Int32) (n : Nat) : Nat → Int32 := fun i => if i < n then f i else 0
theorem wv_0 {f : Nat → Int32} : (fun _ => 0) = wv f 0 := by
  funext i
  unfold wv
  rw [if_neg (by omega)]
theorem wv_up {f : Nat → Int32} {n : Nat} : upd (wv f n) n (f n) = wv f (n + 1) := by
  funext i
  by_cases h : i = n
  · subst h
    rw [q_us rfl]
    unfold wv
    rw [if_pos (by omega)]
  · rw [q_un h]
    unfold wv
    by_cases h2 : i < n
    · rw [if_pos h2, if_pos (by omega)]
    · rw [if_neg h2, if_neg (by omega)]
set_option maxHeartbeats 4000000 in
set_option maxRecDepth 100000 in
theorem mk_in {E : KE} {p : Program} {l : Launch} {e : Env} {s : State} {m : MethodId} {args : Array Value} {below : List Frame} {meth : Method} {c : Code} {Q : State → Prop} {x b d : Nat} {sd mn th dc : Int32} {fc dw : Nat → Int32} {Lf : Nat → Nat} {Wf : Nat → Nat → Int32} {hp0 : Hp} {al : Option Nat} (X : CX E p l s m args meth c "DiceAuditLaw$Hand" cX11_init 4) (g0 : hp0 x = some (.inr (12, [.ref (x + 126), .ref (x + 128), .ref (x + 1), .ref (x + 3), .ref (x + 16), .ref (x + 18), .ref (x + 124), .ref (x + 125)]))) (g3 : hp0 (x + 3) = some (.inr (4, [.ref (x + 4), .ref (x + 7), .ref (x + 10), .ref (x + 13), .int sd, .int mn, .int th]))) (g4 : hp0 (x + 4) = some (.inr (2, [.ref (x + 5), .ref (x + 6), .int dc]))) (g5 : hp0 (x + 5) = some (.inl (kC E 0, 6, .inl fc))) (g6 : hp0 (x + 6) = some (.inl (kC E 0, 72, .inl dw))) (hxb : x + 6 < b) (hd : d < 3) (hL : Lf d ≤ 6) (hW : ∀ f, f < Lf d → f_X10_weightOf dc fc dw (nI d) (nI (f + 1)) = some (.inr (Wf d f))) : ∀ (j f k n : Nat) (hp : Hp), f + j = Lf d → k + 2 * j ≤ 50 → n + 12 * j ≤ 850 → hp b = some (.inr (13, [.ref (b + 1), .ref (b + 2), .ref (b + 3), .int 0, .int 0, .long 0, .int 0, .int 0])) → hp (b + 1) = some (.inl (kC E 6, 3, .inr (.inr (.inr (.inr (wq b (d + 1))))))) → hp (b + 4 + d) = some (rowc E (Lf d) (wv (Wf d) f)) → (∀ q, q < b → hp q = hp0 q) → (∀ (hp' : Hp), hp' (b + 4 + d) = some (rowc E (Lf d) (wv (Wf d) (Lf d))) → (∀ q, q ≠ b + 4 + d → hp' q = hp q) → AW E p l e ⟨12, 60, 900, 250⟩ s m args below meth c 4 Q hp' al (k + 2 * j) (n + 12 * j) 86 [(0, .ref b), (1, .ref x), (2, .int (nI d))] []) → AW E p l e ⟨12, 60, 900, 250⟩ s m args below meth c 4 Q hp al k n 53 [(0, .ref b), (1, .ref x), (2, .int (nI d)), (3, .int (nI f))] [] := by
  intro j
  induction j with
  | zero =>
    intro f k n hp hf hk hn g k1 kr hfr K
    refine A_iload_n X dX11_init_53 3 rfl ?_
    refine A_aload_n X dX11_init_54 0 rfl ?_
    refine A_get X dX11_init_55 kcl_X11 0 (by decide) kw_831 g rfl ?_
    refine A_iload_n X dX11_init_58 2 rfl ?_
    refine A_ald6 X dX11_init_59 k1 (decide_eq_true (nI_in (by omega) (by omega))) ?_
    rw [q_cl (by omega), show wq b (d + 1) d = some (b + 4 + d) from if_pos (by omega)]
    refine A_st (st' := [.ref (b + 4 + d), .int (nI f)]) rfl ?_
    refine A_alen (t := 0) (v := nI (Lf d)) X dX11_init_60 kr rfl rfl ?_
    refine A_icmp_ge_t (tgt := 86) X dX11_init_61 (by rw [q_le (by omega) (by omega)]; omega) (by decide) ?_
    refine A_sub (L' := [(0, .ref b), (1, .ref x), (2, .int (nI d))]) [0, 1, 2] rfl ?_
    obtain rfl : f = Lf d := by omega
    exact K hp kr (fun q _ => rfl)
  | succ j ih =>
    intro f k n hp hf hk hn g k1 kr hfr K
    refine A_iload_n X dX11_init_53 3 rfl ?_
    refine A_aload_n X dX11_init_54 0 rfl ?_
    refine A_get X dX11_init_55 kcl_X11 0 (by decide) kw_831 g rfl ?_
    refine A_iload_n X dX11_init_58 2 rfl ?_
    refine A_ald6 X dX11_init_59 k1 (decide_eq_true (nI_in (by omega) (by omega))) ?_
    rw [q_cl (by omega), show wq b (d + 1) d = some (b + 4 + d) from if_pos (by omega)]
    refine A_st (st' := [.ref (b + 4 + d), .int (nI f)]) rfl ?_
    refine A_alen (t := 0) (v := nI (Lf d)) X dX11_init_60 kr rfl rfl ?_
    refine A_icmp_ge_f (tgt := 86) X dX11_init_61 (by rw [q_le (by omega) (by omega)]; omega) (by decide) ?_
    have p0 := (hfr x (by omega)).trans g0
    have p3 := (hfr _ (by omega)).trans g3
    have p4 := (hfr _ (by omega)).trans g4
    have p5 := (hfr _ (by omega)).trans g5
    have p6 := (hfr _ (by omega)).trans g6
    refine A_aload_n X dX11_init_64 0 rfl ?_
    refine A_get X dX11_init_65 kcl_X11 0 (by decide) kw_831 g rfl ?_
    refine A_iload_n X dX11_init_68 2 rfl ?_
    refine A_ald6 X dX11_init_69 k1 (decide_eq_true (nI_in (by omega) (by omega))) ?_
    rw [q_cl (by omega), show wq b (d + 1) d = some (b + 4 + d) from if_pos (by omega)]
    refine A_st (st' := [.ref (b + 4 + d)]) rfl ?_
    refine A_iload_n X dX11_init_70 3 rfl ?_
    refine A_aload_n X dX11_init_71 1 rfl ?_
    refine A_iload_n X dX11_init_72 2 rfl ?_
    refine A_iload_n X dX11_init_73 3 rfl ?_
    refine A_iconst (v := 1) X dX11_init_74 (by decide) ?_
    refine A_iadd X dX11_init_75 ?_
    rw [show nI f + 1 = nI (f + 1) from nI_add _ _]
    refine A_cX (k' := k + 2) (n' := n + 12) rfl rfl (A_runVX (rest := [.int (nI f), .ref (b + 4 + d)]) X dX11_init_76 (c_X10_weightOf p0 p3 p4 p5 p6 (hW f (by omega))) kY_X10_weightOf kw_788 p0 rfl rfl ⟨(Nat.le_of_ble_eq_true rfl), (Nat.le_of_ble_eq_true rfl), (by dsimp only; omega), (by dsimp only; omega)⟩ rfl (Nat.le_of_ble_eq_true rfl)) (fun C hp3 hP => by obtain ⟨hC, _⟩ := hP; cases hC) (fun v9 hp3 al9 hP => ?_)
    obtain ⟨u9, hu9, rfl, rfl, rfl⟩ := hP
    cases hu9
    refine A_st (st' := [.int (Wf d f), .int (nI f), .ref (b + 4 + d)]) rfl ?_
    refine A_iast X dX11_init_79 kr (decide_eq_true (nI_in (by omega) (by omega))) (fun hp1 kr1 n1 => ?_)
    rw [q_cl (by omega), wv_up] at kr1
    refine A_iinc (j := 3) (v := ((nI f) + 1)) (L' := [(3, .int ((nI f) + 1)), (0, .ref b), (1, .ref x), (2, .int (nI d))]) X dX11_init_80 rfl rfl (by decide) rfl ?_
    rw [show nI f + 1 = nI (f + 1) from nI_add _ _]
    refine A_goto (tgt := 53) X dX11_init_83 (by decide) ?_
    refine A_sub (L' := [(0, .ref b), (1, .ref x), (2, .int (nI d)), (3, .int (nI (f + 1)))]) [1, 2, 3, 0] rfl ?_
    rw [show k + 2 * (j + 1) = k + 2 + 2 * j by omega, show n + 12 * (j + 1) = n + 12 + 12 * j by omega] at K
    refine ih (f + 1) (k + 2) (n + 12) hp1 (by omega) (by omega) (by omega) ((n1 _ (by omega)).trans g) ((n1 _ (by omega)).trans k1) kr1 (fun q hq => (n1 q (by omega)).trans (hfr q hq)) (fun hp9 h9 f9 => K hp9 h9 (fun q hq => (f9 q hq).trans (n1 q hq)))
set_option maxHeartbeats 4000000 in
set_option maxRecDepth 100000 in
theorem mk_out {E : KE} {p : Program} {l : Launch} {e : Env} {s : State} {m : MethodId} {args : Array Value} {below : List Frame} {meth : Method} {c : Code} {Q : State → Prop} {x b : Nat} {sd mn th dc : Int32} {fc dw : Nat → Int32} {Lf : Nat → Nat} {Wf : Nat → Nat → Int32} {hp0 : Hp} (X : CX E p l s m args meth c "DiceAuditLaw$Hand" cX11_init 4) (g0 : hp0 x = some (.inr (12, [.ref (x + 126), .ref (x + 128), .ref (x + 1), .ref (x + 3), .ref (x + 16), .ref (x + 18), .ref (x + 124), .ref (x + 125)]))) (g3 : hp0 (x + 3) = some (.inr (4, [.ref (x + 4), .ref (x + 7), .ref (x + 10), .ref (x + 13), .int sd, .int mn, .int th]))) (g4 : hp0 (x + 4) = some (.inr (2, [.ref (x + 5), .ref (x + 6), .int dc]))) (g5 : hp0 (x + 5) = some (.inl (kC E 0, 6, .inl fc))) (g6 : hp0 (x + 6) = some (.inl (kC E 0, 72, .inl dw))) (hxb : x + 6 < b) (hL : ∀ d, d < 3 → Lf d ≤ 6) (hF : ∀ d, d < 3 → f_X10_faces dc fc (nI d) = some (.inr (nI (Lf d)))) (hW : ∀ d, d < 3 → ∀ f, f < Lf d → f_X10_weightOf dc fc dw (nI d) (nI (f + 1)) = some (.inr (Wf d f))) : ∀ (j d k n : Nat) (hp : Hp), d + j = 3 → k + 14 * j ≤ 50 → n + 84 * j ≤ 850 → hp b = some (.inr (13, [.ref (b + 1), .ref (b + 2), .ref (b + 3), .int 0, .int 0, .long 0, .int 0, .int 0])) → hp (b + 1) = some (.inl (kC E 6, 3, .inr (.inr (.inr (.inr (wq b d)))))) → (∀ i, i < d → hp (b + 4 + i) = some (rowc E (Lf i) (wv (Wf i) (Lf i)))) → (∀ q, q < b → hp q = hp0 q) → (∀ (hp' : Hp) (k' n' : Nat), k' ≤ 50 → n' ≤ 850 → hp' b = some (.inr (13, [.ref (b + 1), .ref (b + 2), .ref (b + 3), .int 0, .int 0, .long 0, .int 0, .int 0])) → hp' (b + 1) = some (.inl (kC E 6, 3, .inr (.inr (.inr (.inr (wq b 3)))))) → (∀ i, i < 3 → hp' (b + 4 + i) = some (rowc E (Lf i) (wv (Wf i) (Lf i)))) → (∀ q, q < b → hp' q = hp0 q) → hp' (b + 2) = hp (b + 2) → hp' (b + 3) = hp (b + 3) → AW E p l e ⟨12, 60, 900, 250⟩ s m args below meth c 4 Q hp' (some (b + 4 + 3)) k' n' 92 [(0, .ref b), (1, .ref x)] []) → AW E p l e ⟨12, 60, 900, 250⟩ s m args below meth c 4 Q hp (some (b + 4 + d)) k n 33 [(0, .ref b), (1, .ref x), (2, .int (nI d))] [] := by
  intro j
  induction j with
  | zero =>
    intro d k n hp hd hk hn g k1 kr hfr K
    obtain rfl : d = 3 := by omega
    refine A_iload_n X dX11_init_33 2 rfl ?_
    refine A_iconst (v := 3) X dX11_init_34 (by decide) ?_
    refine A_icmp_ge_t (tgt := 92) X dX11_init_35 (by decide) (by decide) ?_
    refine A_sub (L' := [(0, .ref b), (1, .ref x)]) [0, 1] rfl ?_
    exact K hp k n (by omega) (by omega) g k1 kr hfr rfl rfl
  | succ j ih =>
    intro d k n hp hd hk hn g k1 kr hfr K
    have hL9 := hL d (by omega)
    refine A_iload_n X dX11_init_33 2 rfl ?_
    refine A_iconst (v := 3) X dX11_init_34 (by decide) ?_
    refine A_icmp_ge_f (tgt := 92) X dX11_init_35 (by rw [n_3, q_le (by omega) (by omega)]; omega) (by decide) ?_
    have p0 := (hfr x (by omega)).trans g0
    have p3 := (hfr _ (by omega)).trans g3
    have p4 := (hfr _ (by omega)).trans g4
    have p5 := (hfr _ (by omega)).trans g5
    refine A_aload_n X dX11_init_38 0 rfl ?_
    refine A_get X dX11_init_39 kcl_X11 0 (by decide) kw_831 g rfl ?_
    refine A_iload_n X dX11_init_42 2 rfl ?_
    refine A_aload_n X dX11_init_43 1 rfl ?_
    refine A_iload_n X dX11_init_44 2 rfl ?_
    refine A_cX (k' := k + 1) (n' := n + 6) rfl rfl (A_runVX (rest := [.int (nI d), .ref (b + 1)]) X dX11_init_45 (c_X10_faces p0 p3 p4 p5 (hF d (by omega))) kY_X10_faces kw_709 p0 rfl rfl ⟨(Nat.le_of_ble_eq_true rfl), (Nat.le_of_ble_eq_true rfl), (by dsimp only; omega), (by dsimp only; omega)⟩ rfl (Nat.le_of_ble_eq_true rfl)) (fun C hp3 hP => by obtain ⟨hC, _⟩ := hP; cases hC) (fun v9 hp3 al9 hP => ?_)
    obtain ⟨u9, hu9, rfl, rfl, rfl⟩ := hP
    cases hu9
    refine A_st (st' := [.int (nI (Lf d)), .int (nI d), .ref (b + 1)]) rfl ?_
    refine A_newi (z := b + 4 + d) (N := Lf d) X dX11_init_48 kw_54 (nI_pos (by omega)) (nI_clamp (by omega)) (by show Lf d * 4 ≤ 536870912; omega) (by dsimp only; omega) (by dsimp only; omega) (fun hp1 kr1 n1 => ?_)
    rw [wv_0 (f := Wf d)] at kr1
    have q1 := (n1 (b + 1) (by omega)).trans k1
    refine A_ast6 X dX11_init_50 kw_708 q1 kr1 (decide_eq_true (nI_in (by omega) (by omega))) (fun hp2 k2 n2 => ?_)
    rw [q_cl (by omega), wq_up] at k2
    refine A_iconst (v := 0) X dX11_init_51 (by decide) ?_
    rw [n_0]
    refine A_istore_n (L' := [(3, .int (nI 0)), (0, .ref b), (1, .ref x), (2, .int (nI d))]) X dX11_init_52 rfl (by decide) rfl ?_
    refine A_sub (L' := [(0, .ref b), (1, .ref x), (2, .int (nI d)), (3, .int (nI 0))]) [1, 2, 3, 0] rfl ?_
    refine mk_in X g0 g3 g4 g5 g6 hxb (by omega) hL9 (hW d (by omega)) (Lf d) 0 (k + 1 + 1) (n + 6 + Lf d) hp2 (by omega) (by omega) (by omega) ((n2 _ (by omega)).trans ((n1 _ (by omega)).trans g)) k2 ((n2 _ (by omega)).trans kr1) (fun q hq => (n2 q (by omega)).trans ((n1 q (by omega)).trans (hfr q hq))) (fun hp3 kr3 n3 => ?_)
    refine A_iinc (j := 2) (v := ((nI d) + 1)) (L' := [(2, .int ((nI d) + 1)), (0, .ref b), (1, .ref x)]) X dX11_init_86 rfl rfl (by decide) rfl ?_
    rw [show nI d + 1 = nI (d + 1) from nI_add _ _]
    refine A_goto (tgt := 33) X dX11_init_89 (by decide) ?_
    refine A_sub (L' := [(0, .ref b), (1, .ref x), (2, .int (nI (d + 1)))]) [1, 2, 0] rfl ?_
    have hold : ∀ q, q ≠ b + 4 + d → q ≠ b + 1 → hp3 q = hp q := fun q a1 a2 => (n3 q a1).trans ((n2 q a2).trans (n1 q a1))
    refine A_widen (k' := k + 14) (n' := n + 84) (by omega) (by omega) ?_
    refine ih (d + 1) (k + 14) (n + 84) hp3 (by omega) (by omega) (by omega) ((hold _ (by omega) (by omega)).trans g) ((n3 _ (by omega)).trans k2) (fun i hi => ?_) (fun q hq => (hold q (by omega) (by omega)).trans (hfr q hq)) (fun hp9 k9 n9 a1 a2 a3 a4 a5 a6 a7 a8 => K hp9 k9 n9 a1 a2 a3 a4 a5 a6 (a7.trans (hold _ (by omega) (by omega))) (a8.trans (hold _ (by omega) (by omega))))
    by_cases h9 : i = d
    · rw [h9]
      exact kr3
    · exact (hold _ (by omega) (by omega)).trans (kr i (by omega))
set_option maxHeartbeats 4000000 in
set_option maxRecDepth 100000 in
theorem c_X11_init {E : KE} {l : Launch} {hp : Hp} {x b : Nat} {sd mn th dc : Int32} {fc dw : Nat → Int32} {Lf : Nat → Nat} {Wf : Nat → Nat → Int32} (g0 : hp x = some (.inr (12, [.ref (x + 126), .ref (x + 128), .ref (x + 1), .ref (x + 3), .ref (x + 16), .ref (x + 18), .ref (x + 124), .ref (x + 125)]))) (g3 : hp (x + 3) = some (.inr (4, [.ref (x + 4), .ref (x + 7), .ref (x + 10), .ref (x + 13), .int sd, .int mn, .int th]))) (g4 : hp (x + 4) = some (.inr (2, [.ref (x + 5), .ref (x + 6), .int dc]))) (g5 : hp (x + 5) = some (.inl (kC E 0, 6, .inl fc))) (g6 : hp (x + 6) = some (.inl (kC E 0, 72, .inl dw))) (g : hp b = some (.inr (13, [.null, .null, .null, .int 0, .int 0, .long 0, .int 0, .int 0]))) (hxb : x + 6 < b) (hL : ∀ d, d < 3 → Lf d ≤ 6) (hF : ∀ d, d < 3 → f_X10_faces dc fc (nI d) = some (.inr (nI (Lf d)))) (hW : ∀ d, d < 3 → ∀ f, f < Lf d → f_X10_weightOf dc fc dw (nI d) (nI (f + 1)) = some (.inr (Wf d f))) : AM E l yX11_init cX11_init 4 (Option.none : Option Jvm.ClassFile.FieldType) ⟨12, 60, 900, 250⟩ [.ref b, .ref x] hp (some (b + 1)) (fun v9 hp' _ => v9 = none ∧ HandP E hp' b (b + 7) Lf (fun i => wv (Wf i) (Lf i)) (fun _ => none) (fun _ => none) 0 0 sd.toInt64 mn th ∧ ∀ q, q < b → hp' q = hp q) := by
  refine A_of (by decide +kernel) (Nat.le_of_ble_eq_true rfl) ?_
  intro p e s m args below meth c X hr hnm
  have X : CX E p l s m args meth c "DiceAuditLaw$Hand" cX11_init 4 := X
  refine A_L (L' := [(0, .ref b), (1, .ref x)]) rfl ?_
  refine A_aload_n X dX11_init_0 0 rfl ?_
  refine A_objI (i0 := 0) (i1 := 0) X dX11_init_1 kw_706 kw_37 kw_38 (Nat.le_of_ble_eq_true rfl) (Nat.le_of_ble_eq_true rfl) ?_
  refine A_aload_n X dX11_init_4 0 rfl ?_
  refine A_iconst (v := 3) X dX11_init_5 (by decide) ?_
  refine A_newA (z := b + 1) (N := 3) X dX11_init_6 kw_707 kw_708 (by decide) (by decide) (by decide) (by dsimp only; omega) (by dsimp only; omega) (fun hp1 a1 n1 => ?_)
  have gz := (n1 b (by omega)).trans g
  refine A_putF X dX11_init_9 kcl_X11 0 (by decide) kw_831 gz rfl (hnm.trans rfl) rfl rfl rfl (by simp) (fun hp2 o0 n2 => ?_)
  have o0 : hp2 b = some (.inr (13, [.ref (b + 1), .null, .null, .int 0, .int 0, .long 0, .int 0, .int 0])) := o0
  refine A_aload_n X dX11_init_12 0 rfl ?_
  refine A_sipush (v := 400) X dX11_init_13 (by decide) ?_
  refine A_newA (z := b + 2) (N := 400) X dX11_init_16 kw_707 kw_708 (by decide) (by decide) (by decide) (by dsimp only; omega) (by dsimp only; omega) (fun hp3 a2 n3 => ?_)
  have o0z := (n3 b (by omega)).trans o0
  refine A_putF X dX11_init_19 kcl_X11 1 (by decide) kw_832 o0z rfl (hnm.trans rfl) rfl rfl rfl (by simp) (fun hp4 o1 n4 => ?_)
  have o1 : hp4 b = some (.inr (13, [.ref (b + 1), .ref (b + 2), .null, .int 0, .int 0, .long 0, .int 0, .int 0])) := o1
  refine A_aload_n X dX11_init_22 0 rfl ?_
  refine A_bipush (v := 9) X dX11_init_23 (by decide) ?_
  refine A_newA (z := b + 3) (N := 9) X dX11_init_25 kw_707 kw_708 (by decide) (by decide) (by decide) (by dsimp only; omega) (by dsimp only; omega) (fun hp5 a3 n5 => ?_)
  have o1z := (n5 b (by omega)).trans o1
  refine A_putF X dX11_init_28 kcl_X11 2 (by decide) kw_833 o1z rfl (hnm.trans rfl) rfl rfl rfl (by simp) (fun hp6 o2 n6 => ?_)
  have o2 : hp6 b = some (.inr (13, [.ref (b + 1), .ref (b + 2), .ref (b + 3), .int 0, .int 0, .long 0, .int 0, .int 0])) := o2
  have a1 := (n6 _ (by omega)).trans ((n5 _ (by omega)).trans ((n4 _ (by omega)).trans ((n3 _ (by omega)).trans ((n2 _ (by omega)).trans a1))))
  have a2 := (n6 _ (by omega)).trans ((n5 _ (by omega)).trans ((n4 _ (by omega)).trans a2))
  have a3 := (n6 _ (by omega)).trans a3
  have hfr : ∀ q, q < b → hp6 q = hp q := fun q hq => (n6 q (by omega)).trans ((n5 q (by omega)).trans ((n4 q (by omega)).trans ((n3 q (by omega)).trans ((n2 q (by omega)).trans (n1 q (by omega))))))
  refine A_iconst (v := 0) X dX11_init_31 (by decide) ?_
  rw [n_0]
  refine A_istore_n (L' := [(2, .int (nI 0)), (0, .ref b), (1, .ref x)]) X dX11_init_32 rfl (by decide) rfl ?_
  refine A_sub (L' := [(0, .ref b), (1, .ref x), (2, .int (nI 0))]) [1, 2, 0] rfl ?_
  have w0 : (fun _ => none) = wq b 0 := by funext i; unfold wq; rw [if_neg (by omega)]
  rw [w0] at a1
  refine A_widen (k' := 3) (n' := 412) (by omega) (by omega) ?_
  refine mk_out (hp0 := hp) X g0 g3 g4 g5 g6 hxb hL hF hW 3 0 3 412 hp6 (by omega) (by omega) (by omega) o2 a1 (fun i hi => absurd hi (by omega)) hfr (fun hp7 k7 n7 hk7 hn7 o3 b1 kr hfr b2 b3 => ?_)
  have b2 := b2.trans a2
  have b3 := b3.trans a3
  refine A_aload_n X dX11_init_92 0 rfl ?_
  refine A_aload_n X dX11_init_93 1 rfl ?_
  have p0 := (hfr x (by omega)).trans g0
  have p3 := (hfr _ (by omega)).trans g3
  refine A_cp (k' := k7) (n' := n7) (A_runV (rest := [.ref b]) X dX11_init_94 (c_X10_seed p0 p3 (out := sd) rfl) kY_X10_seed kw_819 p0 rfl rfl ⟨(Nat.le_of_ble_eq_true rfl), (Nat.le_of_ble_eq_true rfl), (by dsimp only; omega), (by dsimp only; omega)⟩ rfl (Nat.le_of_ble_eq_true rfl)) rfl rfl ?_
  refine A_i2l X dX11_init_97 ?_
  refine A_put X dX11_init_98 kcl_X11 5 (by decide) kw_836 o3 rfl rfl rfl (by simp) (fun hp10 o5 m5 => ?_)
  have o5 : hp10 b = some (.inr (13, [.ref (b + 1), .ref (b + 2), .ref (b + 3), .int 0, .int 0, .long sd.toInt64, .int 0, .int 0])) := o5
  have hfr : ∀ q, q < b → hp10 q = hp q := fun q hq => (m5 q (by omega)).trans (hfr q hq)
  refine A_aload_n X dX11_init_101 0 rfl ?_
  refine A_aload_n X dX11_init_102 1 rfl ?_
  have p0 := (hfr x (by omega)).trans g0
  have p3 := (hfr _ (by omega)).trans g3
  refine A_cp (k' := k7) (n' := n7) (A_runV (rest := [.ref b]) X dX11_init_103 (c_X10_minimum p0 p3 (out := mn) rfl) kY_X10_minimum kw_823 p0 rfl rfl ⟨(Nat.le_of_ble_eq_true rfl), (Nat.le_of_ble_eq_true rfl), (by dsimp only; omega), (by dsimp only; omega)⟩ rfl (Nat.le_of_ble_eq_true rfl)) rfl rfl ?_
  refine A_put X dX11_init_106 kcl_X11 6 (by decide) kw_837 o5 rfl rfl rfl (by simp) (fun hp11 o6 m6 => ?_)
  have o6 : hp11 b = some (.inr (13, [.ref (b + 1), .ref (b + 2), .ref (b + 3), .int 0, .int 0, .long sd.toInt64, .int mn, .int 0])) := o6
  have hfr : ∀ q, q < b → hp11 q = hp q := fun q hq => (m6 q (by omega)).trans (hfr q hq)
  refine A_aload_n X dX11_init_109 0 rfl ?_
  refine A_aload_n X dX11_init_110 1 rfl ?_
  have p0 := (hfr x (by omega)).trans g0
  have p3 := (hfr _ (by omega)).trans g3
  refine A_cp (k' := k7) (n' := n7) (A_runV (rest := [.ref b]) X dX11_init_111 (c_X10_threshold p0 p3 (out := th) rfl) kY_X10_threshold kw_827 p0 rfl rfl ⟨(Nat.le_of_ble_eq_true rfl), (Nat.le_of_ble_eq_true rfl), (by dsimp only; omega), (by dsimp only; omega)⟩ rfl (Nat.le_of_ble_eq_true rfl)) rfl rfl ?_
  refine A_put X dX11_init_114 kcl_X11 7 (by decide) kw_838 o6 rfl rfl rfl (by simp) (fun hp12 o7 m7 => ?_)
  have o7 : hp12 b = some (.inr (13, [.ref (b + 1), .ref (b + 2), .ref (b + 3), .int 0, .int 0, .long sd.toInt64, .int mn, .int th])) := o7
  have hfr : ∀ q, q < b → hp12 q = hp q := fun q hq => (m7 q (by omega)).trans (hfr q hq)
  have hold : ∀ q, q ≠ b → hp12 q = hp7 q := fun q hq => (m7 q hq).trans ((m6 q hq).trans (m5 q hq))
  exact A_vret X dX11_init_117 hr ⟨rfl, ⟨o7, (hold _ (by omega)).trans b1, fun i hi => (hold _ (by omega)).trans (kr i hi), ⟨_, (hold _ (by omega)).trans b2, fun k c h => nomatch h⟩, ⟨_, (hold _ (by omega)).trans b3, fun k c h => nomatch h⟩, Nat.le_refl _⟩, hfr⟩ (by dsimp only; omega) (by dsimp only; omega)
