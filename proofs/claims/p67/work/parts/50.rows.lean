/-! further rows over partial heaps -/
section AL2
variable {p : Program} {l : Launch} {e : Env} {R : Room} {s : State} {m : MethodId} {args : Array Value} {below : List Frame} {meth : Method} {c : Code} {Q : State → Prop} {E : KE}
variable {own : String} {cc : ByteArray} {nL : Nat} {hp : Hp} {al : Option Nat} {k n pc : Nat} {L L' : List (Nat × Value)} {st : List Value}
theorem A_al (K : AW E p l e R s m args below meth c nL Q hp none k n pc L st) : AW E p l e R s m args below meth c nL Q hp al k n pc L st := fun H locs ls h1 _ h3 h4 => K H locs ls h1 (fun z hz => nomatch hz) h3 h4
theorem A_lload {i : Nat} {x : Int64} (X : CX E p l s m args meth c own cc nL) (hd : decode cc pc = .ok (.lload i, 2)) (j : Nat) (hj : L[j]? = some (i, .long x)) (K : AW E p l e R s m args below meth c nL Q hp al k n (pc + 2) L (.long x :: st)) : AW E p l e R s m args below meth c nL Q hp al k n pc L (st) := fun H locs ls h1 h2 h3 h4 => lv_lload X.1 X.2.1 hd (lv_at h4 j hj) (K H locs ls h1 h2 h3 h4)
theorem A_lstore {i : Nat} {x : Int64} (X : CX E p l s m args meth c own cc nL) (hd : decode cc pc = .ok (.lstore i, 2)) (hn : i + 1 < nL) (hl : (i, Value.long x) :: L.filter (fun q => !(q.1 == i) && (!(q.1 == i + 1) && !(q.1 + 1 == i && q.2.category == 2))) = L') (K : AW E p l e R s m args below meth c nL Q hp al k n (pc + 2) L' (st)) : AW E p l e R s m args below meth c nL Q hp al k n pc L (.long x :: st) := fun H locs ls h1 h2 h3 h4 => lv_lstore X.1 X.2.1 hd h4 hn hl (fun ls' h4' => K H locs ls' h1 h2 h3 h4')
theorem A_ladd {x y : Int64} (X : CX E p l s m args meth c own cc nL) (hd : decode cc pc = .ok (.ladd, 1))  (K : AW E p l e R s m args below meth c nL Q hp al k n (pc + 1) L (.long (x + y) :: st)) : AW E p l e R s m args below meth c nL Q hp al k n pc L (.long y :: .long x :: st) := fun H locs ls h1 h2 h3 h4 => lv_ladd X.1 X.2.1 hd (K H locs ls h1 h2 h3 h4)
theorem A_lsub {x y : Int64} (X : CX E p l s m args meth c own cc nL) (hd : decode cc pc = .ok (.lsub, 1))  (K : AW E p l e R s m args below meth c nL Q hp al k n (pc + 1) L (.long (x - y) :: st)) : AW E p l e R s m args below meth c nL Q hp al k n pc L (.long y :: .long x :: st) := fun H locs ls h1 h2 h3 h4 => lv_lsub X.1 X.2.1 hd (K H locs ls h1 h2 h3 h4)
theorem A_lmul {x y : Int64} (X : CX E p l s m args meth c own cc nL) (hd : decode cc pc = .ok (.lmul, 1))  (K : AW E p l e R s m args below meth c nL Q hp al k n (pc + 1) L (.long (x * y) :: st)) : AW E p l e R s m args below meth c nL Q hp al k n pc L (.long y :: .long x :: st) := fun H locs ls h1 h2 h3 h4 => lv_lmul X.1 X.2.1 hd (K H locs ls h1 h2 h3 h4)
theorem A_ldiv {x y : Int64} (X : CX E p l s m args meth c own cc nL) (hd : decode cc pc = .ok (.ldiv, 1)) (hy : ¬ y = 0) (K : AW E p l e R s m args below meth c nL Q hp al k n (pc + 1) L (.long (x / y) :: st)) : AW E p l e R s m args below meth c nL Q hp al k n pc L (.long y :: .long x :: st) := fun H locs ls h1 h2 h3 h4 => lv_ldiv X.1 X.2.1 hd hy (K H locs ls h1 h2 h3 h4)
theorem A_lrem {x y : Int64} (X : CX E p l s m args meth c own cc nL) (hd : decode cc pc = .ok (.lrem, 1)) (hy : ¬ y = 0) (K : AW E p l e R s m args below meth c nL Q hp al k n (pc + 1) L (.long (x - x / y * y) :: st)) : AW E p l e R s m args below meth c nL Q hp al k n pc L (.long y :: .long x :: st) := fun H locs ls h1 h2 h3 h4 => lv_lrem X.1 X.2.1 hd hy (K H locs ls h1 h2 h3 h4)
theorem A_l2i {x : Int64} (X : CX E p l s m args meth c own cc nL) (hd : decode cc pc = .ok (.l2i, 1))  (K : AW E p l e R s m args below meth c nL Q hp al k n (pc + 1) L (.int x.toInt32 :: st)) : AW E p l e R s m args below meth c nL Q hp al k n pc L (.long x :: st) := fun H locs ls h1 h2 h3 h4 => lv_l2i X.1 X.2.1 hd rfl (K H locs ls h1 h2 h3 h4)
theorem A_ldc2 {ix : Nat} {v : Int64} (X : CX E p l s m args meth c own cc nL) (hd : decode cc pc = .ok (.ldc2_w ix, 3)) (hl : Cond.constantLong own ix v ∈ kTB) (K : AW E p l e R s m args below meth c nL Q hp al k n (pc + 3) L (.long v :: st)) : AW E p l e R s m args below meth c nL Q hp al k n pc L (st) := fun H locs ls h1 h2 h3 h4 => lv_ldc2 X.1 X.2.1 X.2.2.2.1 (X.2.2.2.2.1 _ hl) hd (K H locs ls h1 h2 h3 h4)
theorem A_null  (X : CX E p l s m args meth c own cc nL) (hd : decode cc pc = .ok (.aconst_null, 1))  (K : AW E p l e R s m args below meth c nL Q hp al k n (pc + 1) L (.null :: st)) : AW E p l e R s m args below meth c nL Q hp al k n pc L (st) := fun H locs ls h1 h2 h3 h4 => lv_null X.1 X.2.1 hd (K H locs ls h1 h2 h3 h4)
theorem A_dup_x1 {v w : Value} (X : CX E p l s m args meth c own cc nL) (hd : decode cc pc = .ok (.dup_x1, 1)) (hv : v.category = 1) (hw : w.category = 1) (K : AW E p l e R s m args below meth c nL Q hp al k n (pc + 1) L (v :: w :: v :: st)) : AW E p l e R s m args below meth c nL Q hp al k n pc L (v :: w :: st) := fun H locs ls h1 h2 h3 h4 => lv_dup_x1 X.1 X.2.1 hd hv hw (K H locs ls h1 h2 h3 h4)
theorem A_ifnonnull {x : Nat} {off : Int} {tgt : Nat} (X : CX E p l s m args meth c own cc nL) (hd : decode cc pc = .ok (.ifnonnull off, 3)) (ht : (pc : Int) + off = (tgt : Int)) (K : AW E p l e R s m args below meth c nL Q hp al k n tgt L (st)) : AW E p l e R s m args below meth c nL Q hp al k n pc L (.ref x :: st) := fun H locs ls h1 h2 h3 h4 => lv_ifnonnull X.1 X.2.1 hd ht (K H locs ls h1 h2 h3 h4)
theorem A_tabI {dflt lo hi : Int} {offs : Array Int} {len : Nat} {x : Int32} {off : Int} {tgt : Nat} (X : CX E p l s m args meth c own cc nL) (hd : decode cc pc = .ok (.tableswitch dflt lo hi offs, len)) (h1 : ¬ x.toInt < lo) (h2 : ¬ hi < x.toInt) (ho : offs[(x.toInt - lo).toNat]? = some off) (ht : (pc : Int) + off = (tgt : Int)) (K : AW E p l e R s m args below meth c nL Q hp al k n tgt L (st)) : AW E p l e R s m args below meth c nL Q hp al k n pc L (.int x :: st) := fun H locs ls g1 g2 g3 g4 => lv_tableIn X.1 X.2.1 hd h1 h2 ho ht (K H locs ls g1 g2 g3 g4)
theorem A_tabN {dflt hi : Int} {offs : Array Int} {len j : Nat} {x : Int32} {off : Int} {tgt : Nat} (X : CX E p l s m args meth c own cc nL) (hd : decode cc pc = .ok (.tableswitch dflt 0 hi offs, len)) (hx : x = nI j) (hj : (j : Int) ≤ hi) (hj2 : j < 1000) (ho : offs[j]? = some off) (ht : (pc : Int) + off = (tgt : Int)) (K : AW E p l e R s m args below meth c nL Q hp al k n tgt L (st)) : AW E p l e R s m args below meth c nL Q hp al k n pc L (.int x :: st) := by
  have e : x.toInt = (j : Int) := by rw [hx]; exact nI_toInt (by omega)
  refine A_tabI X hd (by rw [e]; omega) (by rw [e]; omega) ?_ ht K
  rw [e]
  exact ho
theorem A_tabM {dflt hi : Int} {offs : Array Int} {len j : Nat} {x : Int32} {tgt : Nat} (X : CX E p l s m args meth c own cc nL) (hd : decode cc pc = .ok (.tableswitch dflt 0 hi offs, len)) (hx : x = nI j) (hj : hi < (j : Int)) (hj2 : j < 1000) (ht : (pc : Int) + dflt = (tgt : Int)) (K : AW E p l e R s m args below meth c nL Q hp al k n tgt L (st)) : AW E p l e R s m args below meth c nL Q hp al k n pc L (.int x :: st) := by
  have e : x.toInt = (j : Int) := by rw [hx]; exact nI_toInt (by omega)
  intro H locs ls g1 g2 g3 g4
  exact lv_tableOut X.1 X.2.1 hd (Or.inr (by rw [e]; exact hj)) ht (K H locs ls g1 g2 g3 g4)
def nzl (y : Int64) : Bool := decide (¬ y = 0)
theorem nzl_o {y : Int64} (h : nzl y = true) : ¬ y = 0 := of_decide_eq_true h
theorem tn_s {x : Int32} {n : Nat} (h : inb x n = true) (hn : n < 1000) : Int32.toNatClampNeg (x + 1) = Int32.toNatClampNeg x + 1 := by
  obtain ⟨j, hj, rfl⟩ := vp_in_of (inb_in h) (by omega)
  rw [nI_1, nI_clamp (by omega), nI_clamp (by omega)]
theorem br_j {x : Int32} {j k : Nat} (hx : x = nI j) (hj : j < 1000) (hk : k < 1000) (c : x < nI k) : j < k := by
  rw [hx] at c
  exact (nI_ltI (by omega) (by omega)).mp c
theorem br_n {x : Int32} {j k : Nat} (hx : x = nI j) (hj : j < 1000) (hk : k < 1000) (c : ¬ x < nI k) : ¬ j < k := fun h => by
  rw [hx] at c
  exact c ((nI_ltI (by omega) (by omega)).mpr h)
theorem A_newr {N : Nat} {v : Int32} (X : CX E p l s m args meth c own cc nL) (hd : decode cc pc = .ok (.newarray .int, 2)) (hw : Cond.arrayClass .int ∈ kTB) (hn : ¬ v < 0) (hN : v.toNatClampNeg = N) (hby : N * componentBytes .int ≤ 536870912) (hcells : k + 1 ≤ R.cells) (hslots : n + N ≤ R.slots) (K : ∀ (z : Nat) (hp' : Hp), (∀ q c, hp q = some c → q < z) → hp' z = some (.inl (kC E 0, N, .inl (fun _ => 0))) → (∀ q, q ≠ z → hp' q = hp q) → AW E p l e R s m args below meth c nL Q hp' none (k + 1) (n + N) (pc + 2) L (.ref z :: st)) : AW E p l e R s m args below meth c nL Q hp al k n pc L (.int v :: st) := fun H locs ls h1 h2 h3 h4 =>
  A_newi (z := H.size) X hd hw hn hN hby hcells hslots (fun hp' e1 e2 => A_al (K H.size hp' (fun q c hq => (h1.ge hq).2) e1 e2)) H locs ls h1 (fun z hz => by cases hz; rfl) h3 h4
theorem A_newbr {N : Nat} {v : Int32} (X : CX E p l s m args meth c own cc nL) (hd : decode cc pc = .ok (.newarray .byte, 2)) (hw : Cond.arrayClass .byte ∈ kTB) (hn : ¬ v < 0) (hN : v.toNatClampNeg = N) (hby : N * componentBytes .byte ≤ 536870912) (hcells : k + 1 ≤ R.cells) (hslots : n + N ≤ R.slots) (K : ∀ (z : Nat) (hp' : Hp), (∀ q c, hp q = some c → q < z) → hp' z = some (.inl (kC E 3, N, .inl (fun _ => 0))) → (∀ q, q ≠ z → hp' q = hp q) → AW E p l e R s m args below meth c nL Q hp' none (k + 1) (n + N) (pc + 2) L (.ref z :: st)) : AW E p l e R s m args below meth c nL Q hp al k n pc L (.int v :: st) := fun H locs ls h1 h2 h3 h4 =>
  A_newb (z := H.size) X hd hw hn hN hby hcells hslots (fun hp' e1 e2 => A_al (K H.size hp' (fun q c hq => (h1.ge hq).2) e1 e2)) H locs ls h1 (fun z hz => by cases hz; rfl) h3 h4
theorem A_newo {ci ix : Nat} {C : String} {T : u_T} {N : Nat} {ty : Nat → FieldType} {fs : List Value} (X : CX E p l s m args meth c own cc nL) (hd : decode cc pc = .ok (.new ix, 3)) (hc : kCls ci C T N ty) (hl : Cond.classLink own ix C ∈ kTB) (hi : Cond.instantiable C N ∈ kTB) (hj : Cond.initialized C ∈ kTB) (hfs : ∀ j, j < N → defaultValue (ty j) = vp_V fs j) (hcells : k + 1 ≤ R.cells) (hslots : n + N ≤ R.slots) (K : ∀ (z : Nat) (hp' : Hp), (∀ q c, hp q = some c → q < z) → hp' z = some (.inr (ci, fs)) → (∀ q, q ≠ z → hp' q = hp q) → AW E p l e R s m args below meth c nL Q hp' (some (z + 1)) (k + 1) (n + N) (pc + 3) L (.ref z :: st)) : AW E p l e R s m args below meth c nL Q hp al k n pc L (st) := fun H locs ls h1 h2 h3 h4 =>
  A_new (z := H.size) X hd hc hl hi hj hfs hcells hslots (fun hp' e1 e2 => K H.size hp' (fun q c hq => (h1.ge hq).2) e1 e2) H locs ls h1 (fun z hz => by cases hz; rfl) h3 h4
theorem A_newA {z N ix : Nat} {v : Int32} (X : CX E p l s m args meth c own cc nL) (hd : decode cc pc = .ok (.anewarray ix, 3)) (hl : Cond.classLink own ix "[I" ∈ kTB) (hw : Cond.arrayOver (.array .int) ∈ kTN) (hn : ¬ v < 0) (hN : v.toNatClampNeg = N) (hby : N * 4 ≤ 536870912) (hcells : k + 1 ≤ R.cells) (hslots : n + N ≤ R.slots) (K : ∀ hp' : Hp, hp' z = some (.inl (kC E 6, N, .inr (.inr (.inr (.inr (fun _ => none)))))) → (∀ q, q ≠ z → hp' q = hp q) → AW E p l e R s m args below meth c nL Q hp' (some (z + 1)) (k + 1) (n + N) (pc + 3) L (.ref z :: st)) : AW E p l e R s m args below meth c nL Q hp (some z) k n pc L (.int v :: st) := by
  intro H locs ls h1 h2 h3 h4
  have hz := h2 z rfl
  subst hz
  subst hN
  obtain ⟨ws, g1, g2, g3⟩ := h1
  refine W.anewA (t := .int) X.1 X.2.1 X.2.2.2.1 (X.2.2.2.2.1 _ hl) (X.2.2.2.2.2.1.2.2.2.2.2.1 _ hw) rfl hd rfl hn hby hcells hslots fun cA kA comp f1 f2 f3 f4 => ?_
  have hcA : cA = kC E 6 := by
    have h9 : s.vm.findClass ("[" ++ (FieldType.array .int).toString) = some (kC E 6) := (X.2.2.2.2.2.1.1.2 6 _ rfl).2
    exact Option.some.inj (f1.symm.trans h9)
  subst hcA
  generalize hH1 : H.push ({ cls := kC E 6, slots := Array.replicate v.toNatClampNeg .null, vm := .none } : Cell) = H1
  have z1 : H1.size = H.size + 1 := by rw [← hH1, Array.size_push]
  have e1 : H1[H.size]? = some (arrV (kC E 6) v.toNatClampNeg (fun _ => .null)) := by rw [← hH1, Array.getElem?_push_size, ← arrV_new]
  have o1 : ∀ q : Nat, q < H.size → H1[q]? = H[q]? := fun q hq => by rw [← hH1, Array.getElem?_push, if_neg (Nat.ne_of_lt hq)]
  have hk : ∀ (k : Nat) (x : Nat × va_E), ws[k]? = some x → H1[x.1]? = H[x.1]? := fun k x hx => o1 x.1 ((g1 k x hx).lt)
  refine K (h_up hp H.size (.inl (kC E 6, v.toNatClampNeg, .inr (.inr (.inr (.inr (fun _ => none))))))) h_up_s (fun q hq => h_up_n hq) H1 locs ls (hRep.push g3 ((g1.kept hk).app (fun k x hx => ?_)) (g2.push g1 rfl (Nat.le_trans X.2.2.2.2.2.2.1 h3.1))) (fun z0 hz => by cases hz; exact z1) ⟨Nat.le_trans h3.1 (by omega), fun x h5 h6 => (o1 x (Nat.lt_of_lt_of_le h5 h3.1)).trans (h3.2.1 x h5 h6), h3.2.2⟩ h4
  have hz : k < 1 := (List.getElem?_eq_some_iff.mp hx).1
  rw [show k = 0 by omega] at hx
  cases hx
  show H1[H.size]? = some (vp_cell _ _)
  rw [vp_cell_q]
  exact e1
theorem A_ald6 {N a : Nat} {f : Nat → Option Nat} {i : Int32} (X : CX E p l s m args meth c own cc nL) (hd : decode cc pc = .ok (.aaload, 1)) (hh : hp a = some (.inl (kC E 6, N, .inr (.inr (.inr (.inr f)))))) (hin : inb i N = true) (K : AW E p l e R s m args below meth c nL Q hp al k n (pc + 1) L (va_rf (f i.toNatClampNeg) :: st)) : AW E p l e R s m args below meth c nL Q hp al k n pc L (.int i :: .ref a :: st) := fun H locs ls h1 h2 h3 h4 => by
  obtain ⟨ws, q, g1, g2, g3, g4⟩ := h1.at hh
  have hlt : i.toNatClampNeg < N := Nat.not_le.mp fun q => inb_in hin (Or.inr q)
  exact W.aald (v := va_rf (f i.toNatClampNeg)) (ty := .array .int) X.1 X.2.1 (g1 q _ g4) ((X.2.2.2.2.2.1.1.2 6 _ rfl).1 N (fun j => va_rf (f j))) rfl (fun q => by cases q) (by show ¬ (i < 0 ∨ (arrV _ _ _).slots.size ≤ _); rw [arrV_size]; exact inb_in hin) (by show (arrV _ _ _).slots[_]? = _; rw [arrV_read _ _ hlt]) rfl rfl hd (K H locs ls h1 h2 h3 h4)
theorem A_ast6 {N a v M : Nat} {g : Nat → Int32} {f : Nat → Option Nat} {i : Int32} (X : CX E p l s m args meth c own cc nL) (hd : decode cc pc = .ok (.aastore, 1)) (hw : Cond.arrayOver (.array .int) ∈ kTN) (hh : hp a = some (.inl (kC E 6, N, .inr (.inr (.inr (.inr f)))))) (hv : hp v = some (.inl (kC E 0, M, .inl g))) (hin : inb i N = true) (K : ∀ hp' : Hp, hp' a = some (.inl (kC E 6, N, .inr (.inr (.inr (.inr (va_up f i.toNatClampNeg (some v))))))) → (∀ q, q ≠ a → hp' q = hp q) → AW E p l e R s m args below meth c nL Q hp' al k n (pc + 1) L (st)) : AW E p l e R s m args below meth c nL Q hp al k n pc L (.ref v :: .int i :: .ref a :: st) := by
  intro H locs ls h1 h2 h3 h4
  obtain ⟨ws, q, g1, g2, g3, g4⟩ := h1.at hh
  obtain ⟨qk, hqk⟩ := List.getElem?_of_mem (g3 v _ hv)
  have hK := X.2.2.2.2.2.1.1
  have hlt : i.toNatClampNeg < N := Nat.not_le.mp fun q => inb_in hin (Or.inr q)
  have h0 : ¬ i < 0 := fun q => inb_in hin (Or.inl q)
  obtain ⟨comp, cA, kA, f1, -, f3, f4, f5⟩ := arrayOverA_spec (X.2.2.2.2.2.1.2.2.2.2.2.1 _ hw)
  have hcA : cA = kC E 6 := by
    have h9 : s.vm.findClass ("[" ++ (FieldType.array .int).toString) = some (kC E 6) := (hK.2 6 _ rfl).2
    exact Option.some.inj (f5.symm.trans h9)
  have hco : comp = kC E 0 := by
    have h9 : s.vm.findClass ("[" ++ (FieldType.int).toString) = some (kC E 0) := (hK.2 0 _ rfl).2
    exact Option.some.inj (f1.symm.trans h9)
  subst hcA
  subst hco
  obtain ⟨-, kI, hkI, -⟩ := (hK.2 0 _ rfl).1 M (fun j => .int (g j))
  refine W.aast X.1 X.2.1 (g1 q _ g4) (fun q h => by cases h) (fun h => by cases h) f3 f4 rfl hkI ⟨h0, by show _ < (arrV _ _ _).slots.size; rw [arrV_size]; exact hlt⟩ (g1 qk _ hqk) (fun q h => by cases h) hkI (va_asg _ _) rfl rfl hd fun H1 e9 z oq => ?_
  refine K (h_up hp a (.inl (kC E 6, N, .inr (.inr (.inr (.inr (va_up f i.toNatClampNeg (some v)))))))) h_up_s (fun q hq => h_up_n hq) H1 _ ls (hRep.put g2 g3 g4 (g1.set g2 g4 ?_ oq) (g2.set g4)) (fun z0 hz => z.trans (h2 z0 hz)) (h3.put z oq (g2.2 q _ g4)) h4
  show H1[a]? = some (vp_cell _ _)
  rw [e9]
  rw [vp_cell_q, vp_cell_q, arrV_store]
  congr 2
  funext q
  by_cases hq : q = i.toNatClampNeg
  · subst hq
    simp [updV, va_up, va_rf]
  · simp [updV, va_up, hq]
theorem A_copyb {a0 a1 n0 n1 ix : Nat} {f g : Nat → Int32} {sp dp w : Int32} (X : CX E p l s m args meth c own cc nL) (hl : Cond.methodLink own ix arraycopyName ∈ kTB) (hnat : Cond.native arraycopyName ∈ kTB) (hstat : Cond.static arraycopyName ∈ kTB) (hini : Cond.initialized "java/lang/System" ∈ kTB)
    (hh0 : hp a0 = some (.inl (kC E 3, n0, .inl f))) (hh1 : hp a1 = some (.inl (kC E 3, n1, .inl g))) (hfit : ∀ i : Nat, i < w.toNatClampNeg → fits .byte (.int (f (sp.toNatClampNeg + i))) = true) (q1 : ¬ sp < 0) (q2 : ¬ dp < 0) (q3 : ¬ w < 0) (q4 : sp.toNatClampNeg + w.toNatClampNeg ≤ n0) (q5 : dp.toNatClampNeg + w.toNatClampNeg ≤ n1)
    (hframes : 1 ≤ R.frames) (hlocals : (st.map fun v => v.category).sum + (nativeFrameWords "java/lang/System" "arraycopy" 5 + 11) ≤ R.locals) (hd : decode cc pc = .ok (.invokestatic ix, 3))
    (K : ∀ hp' : Hp, hp' a1 = some (.inl (kC E 3, n1, .inl (va_cpy f g sp.toNatClampNeg dp.toNatClampNeg w.toNatClampNeg))) → (∀ q, q ≠ a1 → hp' q = hp q) → AW E p l e R s m args below meth c nL Q hp' al k n (pc + 3) L (st)) : AW E p l e R s m args below meth c nL Q hp al k n pc L (.int w :: .int dp :: .ref a1 :: .int sp :: .ref a0 :: st) := by
  intro H locs ls h1 h2 h3 h4
  obtain ⟨ws, q, g1, g2, g3, g4⟩ := h1.at hh1
  have nn : ∀ z : Int32, ¬ z < 0 → z.toInt = (z.toNatClampNeg : Int) := by
    intro z hz
    have hz0 : (0 : Int) ≤ z.toInt := by
      have := Int32.not_lt.mp hz
      simpa using Int32.le_iff_toInt_le.mp this
    show z.toInt = ((z.toInt.toNat : Nat) : Int)
    omega
  intro T hT X9
  have hK := X.2.2.2.2.2.1.1
  obtain ⟨q0, hq0⟩ := List.getElem?_of_mem (g3 a0 _ hh0)
  have hc0 : H[a0]? = some (vp_cell (kC E 3) (n0, .inl f)) := g1 q0 _ hq0
  have hc1 : H[a1]? = some (vp_cell (kC E 3) (n1, .inl g)) := g1 q _ g4
  obtain ⟨-, k0, hk0, cm0, hkk0⟩ := (hK.2 3 _ rfl).1 n0 (fun j => .int (f j))
  obtain ⟨-, k1, hk1, cm1, hkk1⟩ := (hK.2 3 _ rfl).1 n1 (fun j => .int (g j))
  obtain ⟨vm', X', step⟩ := X9.arraycopy X.1 X.2.2.2.1 (X.2.2.2.2.1 _ hl) (X.2.2.2.2.1 _ hnat) (X.2.2.2.2.1 _ hstat) (X.2.2.2.2.1 _ hini) (src := a0) (dst := a1) (cs := vp_cell (kC E 3) (n0, .inl f)) (cd := vp_cell (kC E 3) (n1, .inl g)) (srcPos := sp) (destPos := dp) (n := w) (by rw [hT]; exact hc0) (by rw [hT]; exact hc1)
    (fun _ h => by cases h) (fun _ h => by cases h) (fun h => by cases h) (fun h => by cases h) hk0 hk1 hkk0 hkk1 (by simp [refKind]) q1 q2 q3
    (by rw [nn sp q1, nn w q3]; show ¬ _ > ((arrV (kC E 3) n0 (fun j => .int (f j))).slots.size : Int); rw [arrV_size]; omega)
    (by rw [nn dp q2, nn w q3]; show ¬ _ > ((arrV (kC E 3) n1 (fun j => .int (g j))).slots.size : Int); rw [arrV_size]; omega)
    (fun vm₁ _ i hi => by
      have e : (vp_cell (kC E 3) (n0, .inl f)).slots.getD (sp.toNatClampNeg + i) .null = .int (f (sp.toNatClampNeg + i)) := by
        show (arrV (kC E 3) n0 (fun j => .int (f j))).slots.getD _ _ = _
        rw [Array.getD_eq_getD_getElem?, arrV_read _ _ (by omega)]
        rfl
      refine ⟨?_, ?_⟩
      · rw [e]
        exact hfit i hi
      · rw [e]
        exact trivial)
    (g := F0 m pc ls (.int w :: .int dp :: .ref a1 :: .int sp :: .ref a0 :: st)) rfl (by rw [X.2.2.1]; exact h4.1) (rest := st) rfl (by rw [X.2.1]; exact hd) hframes (by show 2 * 0 + _ + _ ≤ _; omega)
  have e1 : copied (vp_cell (kC E 3) (n0, .inl f)) (vp_cell (kC E 3) (n1, .inl g)) sp dp w = vp_cell (kC E 3) (n1, .inl (va_cpy f g sp.toNatClampNeg dp.toNatClampNeg w.toNatClampNeg)) := va_copied (fun z => .int z) (kC E 3) (kC E 3) f g q4
  rw [e1] at X' step
  have hlt : a1 < H.size := (Array.getElem?_eq_some_iff.mp hc1).1
  have hheap : ((T.setVm vm').setCell a1 (vp_cell (kC E 3) (n1, .inl (va_cpy f g sp.toNatClampNeg dp.toNatClampNeg w.toNatClampNeg)))).heap = H.setIfInBounds a1 (vp_cell (kC E 3) (n1, .inl (va_cpy f g sp.toNatClampNeg dp.toNatClampNeg w.toNatClampNeg))) := by rw [← hT]; rfl
  have oq : ∀ q : Nat, q ≠ a1 → (H.setIfInBounds a1 (vp_cell (kC E 3) (n1, .inl (va_cpy f g sp.toNatClampNeg dp.toNatClampNeg w.toNatClampNeg))))[q]? = H[q]? := fun q hq => by simp [Array.getElem?_setIfInBounds, Ne.symm hq]
  obtain ⟨t, a9, b9⟩ := K (h_up hp a1 (.inl (kC E 3, n1, .inl (va_cpy f g sp.toNatClampNeg dp.toNatClampNeg w.toNatClampNeg)))) h_up_s (fun q hq => h_up_n hq) _ _ ls (hRep.put g2 g3 g4 (g1.set g2 g4 (show (H.setIfInBounds a1 _)[a1]? = some _ by simp [Array.getElem?_setIfInBounds, hlt]) oq) (g2.set g4)) (fun z0 hz => by rw [Array.size_setIfInBounds]; exact h2 z0 hz) ⟨by simp; exact h3.1, fun q8 p1 p2 => by
      rw [oq q8 (fun e => p2 (by rw [e]; exact g2.2 q _ g4))]
      exact h3.2.1 q8 p1 p2, fun q8 hq => by
      rcases List.mem_append.mp hq with h | h
      · exact h3.2.2 q8 h
      · obtain ⟨z, -, hz⟩ := List.mem_map.mp h
        rw [← hz]
        exact g2.2 q _ g4⟩ h4 _ hheap X'
  exact ⟨t, step t a9, b9⟩
theorem A_copyt {j a1 n1 ix : Nat} {g : Nat → Int32} {sp dp w : Int32} (X : CX E p l s m args meth c own cc nL) (hl : Cond.methodLink own ix arraycopyName ∈ kTB) (hnat : Cond.native arraycopyName ∈ kTB) (hstat : Cond.static arraycopyName ∈ kTB) (hini : Cond.initialized "java/lang/System" ∈ kTB) (hj : j < 10)
    (hh1 : hp a1 = some (.inl (kC E 3, n1, .inl g))) (hfit : ∀ i : Nat, i < w.toNatClampNeg → fits .byte (.int ((kByt.getD j []).getD (sp.toNatClampNeg + i) 0)) = true) (q1 : ¬ sp < 0) (q2 : ¬ dp < 0) (q3 : ¬ w < 0) (q4 : sp.toNatClampNeg + w.toNatClampNeg ≤ kLen.getD j 0) (q5 : dp.toNatClampNeg + w.toNatClampNeg ≤ n1)
    (hframes : 1 ≤ R.frames) (hlocals : (st.map fun v => v.category).sum + (nativeFrameWords "java/lang/System" "arraycopy" 5 + 11) ≤ R.locals) (hd : decode cc pc = .ok (.invokestatic ix, 3))
    (K : ∀ hp' : Hp, hp' a1 = some (.inl (kC E 3, n1, .inl (va_cpy (fun j' => (kByt.getD j []).getD j' 0) g sp.toNatClampNeg dp.toNatClampNeg w.toNatClampNeg))) → (∀ q, q ≠ a1 → hp' q = hp q) → AW E p l e R s m args below meth c nL Q hp' none k n (pc + 3) L (st)) : AW E p l e R s m args below meth c nL Q hp al k n pc L (.int w :: .int dp :: .ref a1 :: .int sp :: .ref (kV E j) :: st) := by
  intro H locs ls h1 h2 h3 h4
  obtain ⟨ws, q, g1, g2, g3, g4⟩ := h1.at hh1
  refine vk_copyt X.1 X.2.1 (by rw [X.2.2.1]; exact h4.1.symm) X.2.2.2.1 (X.2.2.2.2.1 _ hl) (X.2.2.2.2.1 _ hnat) (X.2.2.2.2.1 _ hstat) (X.2.2.2.2.1 _ hini) X.2.2.2.2.2.1.1 g1 g2 h3 (X.2.2.2.2.2.1.2.2.2.2.1.1 j hj).2.2.2 q 3 g4 rfl q1 q2 q3 q4 q5 hfit hframes hlocals hd fun H1 locs1 k1 k2 k3 => ?_
  refine K (h_up hp a1 (.inl (kC E 3, n1, .inl (va_cpy (fun j' => (kByt.getD j []).getD j' 0) g sp.toNatClampNeg dp.toNatClampNeg w.toNatClampNeg)))) h_up_s (fun q hq => h_up_n hq) H1 locs1 ls (hRep.put g2 g3 g4 k1 k2) (fun z0 hz => nomatch hz) k3 h4
theorem A_cloneb {a N ix : Nat} {f : Nat → Int32} (X : CX E p l s m args meth c own cc nL) (hd : decode cc pc = .ok (.invokevirtual ix, 3)) (hl : Cond.methodLink own ix ⟨"[B", "clone", "()Ljava/lang/Object;"⟩ ∈ kTB) (hs : Cond.sameMethod "[B" "java/lang/Object" "clone" "()Ljava/lang/Object;" ∈ kTB) (hnat : Cond.native ⟨"java/lang/Object", "clone", "()Ljava/lang/Object;"⟩ ∈ kTB) (hinst : Cond.instanceMethod ⟨"java/lang/Object", "clone", "()Ljava/lang/Object;"⟩ ∈ kTB) (hsel : Cond.selects "[B" ⟨"[B", "clone", "()Ljava/lang/Object;"⟩ ⟨"java/lang/Object", "clone", "()Ljava/lang/Object;"⟩ ∈ kTB) (hcl : Cond.castable "[B" "java/lang/Cloneable" ∈ kTN)
    (hh : hp a = some (.inl (kC E 3, N, .inl f))) (hfit : ∀ i : Nat, i < N → fits .byte (.int (f i)) = true) (hframes : 1 ≤ R.frames) (hlocals : (st.map fun v => v.category).sum + 14 ≤ R.locals) (hcells : k + 1 ≤ R.cells) (hslots : n + N ≤ R.slots)
    (K : ∀ (z : Nat) (hp' : Hp), (∀ q c, hp q = some c → q ≠ z) → hp' z = some (.inl (kC E 3, N, .inl f)) → (∀ q, q ≠ z → hp' q = hp q) → AW E p l e R s m args below meth c nL Q hp' none (k + 1) (n + N) (pc + 3) L (.ref z :: st)) : AW E p l e R s m args below meth c nL Q hp al k n pc L (.ref a :: st) := by
  intro H locs ls h1 h2 h3 h4
  obtain ⟨ws, q, g1, g2, g3, g4⟩ := h1.at hh
  have hK := X.2.2.2.2.2.1.1
  have hnm : s.vm.findClass "[B" = some (kC E 3) := (hK.2 3 _ rfl).2
  refine va_clone (ad := "[B") X.1 X.2.1 (by rw [X.2.2.1]; exact h4.1.symm) X.2.2.2.1 (X.2.2.2.2.1 _ hl) (X.2.2.2.2.1 _ hs) (X.2.2.2.2.1 _ hnat) (X.2.2.2.2.1 _ hinst) (X.2.2.2.2.1 _ hsel) (X.2.2.2.2.2.1.2.2.2.2.2.1 _ hcl) hK g1 g2 h3 (fun q hq => Nat.le_trans X.2.2.2.2.2.2.1 hq) q 3 g4 rfl hnm (fun i v hv => va_fit hfit i v hv) hframes hlocals hcells hslots hd fun z H1 _ k1 k2 k3 => ?_
  have hz : ∀ q c, hp q = some c → q ≠ z := fun q c hq e => by
    subst e
    obtain ⟨j, hj⟩ := List.getElem?_of_mem (g3 q c hq)
    have hjl := (List.getElem?_eq_some_iff.mp hj).1
    have h9 := k2.1 j ws.length (q, c) (q, .inl (kC E 3, N, .inl f)) (by rw [List.getElem?_append_left hjl]; exact hj) (by rw [List.getElem?_append_right (Nat.le_refl _), Nat.sub_self]; rfl) rfl
    omega
  exact K z (h_up hp z (.inl (kC E 3, N, .inl f))) hz h_up_s (fun q hq => h_up_n hq) H1 locs ls (hRep.push g3 k1 k2) (fun z0 h => nomatch h) k3 h4
theorem A_castB {a N ix : Nat} {f : Nat → Int32} (X : CX E p l s m args meth c own cc nL) (hd : decode cc pc = .ok (.checkcast ix, 3)) (hl : Cond.classLink own ix "[B" ∈ kTB) (hh : hp a = some (.inl (kC E 3, N, .inl f))) (K : AW E p l e R s m args below meth c nL Q hp al k n (pc + 3) L (.ref a :: st)) : AW E p l e R s m args below meth c nL Q hp al k n pc L (.ref a :: st) := fun H locs ls h1 h2 h3 h4 => by
  obtain ⟨ws, q, g1, g2, g3, g4⟩ := h1.at hh
  exact va_castA X.1 X.2.1 X.2.2.2.1 (X.2.2.2.2.1 _ hl) g1 q g4 (X.2.2.2.2.2.1.1.2 3 _ rfl).2 hd (K H locs ls h1 h2 h3 h4)
theorem A_aret {a mc ms : Nat} {rt : FieldType} {P : Option Value → Hp → Option Nat → Prop} (X : CX E p l s m args meth c own cc nL) (hd : decode cc pc = .ok (.areturn, 1)) (hr : meth.sig.returnType = some rt) (hrt : (∃ n, rt = .object n) ∨ ∃ t, rt = .array t) (hP : P (some (.ref a)) hp al) (hk : k ≤ mc) (hn : n ≤ ms) : AW E p l e R s m args below meth c nL (MQ below (kQc E P) args s mc ms (kA E)) hp al k n pc L [.ref a] := fun H locs ls h1 h2 h3 h4 =>
  W.widen hk hn (W.aret X.1 X.2.1 hr hrt (Or.inr ⟨a, rfl⟩) (fun t ht hW => ⟨some (.ref a), hp, al, rfl, hP, by rw [ht]; exact h1, by rw [ht]; exact h2, h3.F ht⟩) h3.2.2 hd X.2.2.2.2.2.2.2.1)
/-- a private method's choice for an heir of its class -/
theorem sel_priv {C : String} {x y : MethodName} {A : Array Value} {S : State} (hx : (Cond.selects C x x).before A S = true) (hxy : x.cls = y.cls) (hy : y.cls ≠ "java/lang/invoke/MethodHandle" ∧ y.cls ≠ "java/lang/invoke/VarHandle") (hpriv : (Cond.privateMethod y).before A S = true) (hinst : (Cond.instanceMethod y).before A S = true) : (Cond.selects C y y).before A S = true := by
  obtain ⟨c, r, m0, hc, -, hnm, -, mk0, hmk0, hni⟩ := Cond.selects_spec hx
  obtain ⟨mk, methM, hnamed, hmethM, -, -⟩ := Cond.instanceMethod_spec hinst
  have hfound : S.methodFound? y.cls y.name y.desc = some mk := State.methodFound?_of_named hnamed hy
  have hcls : mk.cls = m0.cls := by
    have e1 := findClass_of_methodNamed hnamed
    have e2 := findClass_of_methodNamed hnm
    rw [hxy] at e2
    exact Option.some.inj (e1.symm.trans e2)
  have hsel : selectMethod {} S.vm c mk = .method mk := selectMethod_private hmethM (Cond.privateMethod_at hpriv mk methM hnamed hmethM)
  simp only [Cond.before, Cond.holds, Cond.value, hc, hfound, hnamed, hsel, hcls, hmk0]
  simp; exact hni
/-- what is said of a method of StringBuilder's parent that is called on a StringBuilder: x as it is written, y as it is chosen -/
def kYU (x y : MethodName) (w0 wx : Cond) (np : Nat) : Prop := w0 ∈ kTB ∧ Cond.instanceMethod y ∈ kTB ∧ Cond.initialized y.cls ∈ kTB ∧ (x.cls ≠ "java/lang/invoke/MethodHandle" ∧ x.cls ≠ "java/lang/invoke/VarHandle") ∧ (parseMethodDescriptor x.desc).map (fun d => d.parameters.length) = some np ∧ Cond.sameMethod x.cls x.cls x.name x.desc ∈ kTB ∧ Cond.instanceMethod x ∈ kTB ∧ wx ∈ kTB
theorem A_runU {x : MethodName} {y : MethodName} {bytes : ByteArray} {maxL ix np : Nat} {ret : Option FieldType} {rm : Room} {P : Option Value → Hp → Option Nat → Prop} {b : Nat} {fs : List Value} {bx : ByteArray} {mx : Nat} {rx : Option FieldType} {As rest : List Value} (X : CX E p l s m args meth c own cc nL) (hd : decode cc pc = .ok (.invokevirtual ix, 3)) (hM : AM E l y bytes maxL ret rm (.ref b :: As) hp al P) (hY : kYU x y (Cond.code y bytes maxL ret) (Cond.code x bx mx rx) np) (hsel : (Cond.selects "java/lang/StringBuilder" x y).before args s = true) (hl : Cond.methodLink own ix x ∈ kTB) (hh : hp b = some (.inr (1, fs))) (hR : rm.frames + 1 ≤ R.frames ∧ 8 + (maxL + 11) + rm.locals ≤ R.locals ∧ k + rm.cells ≤ R.cells ∧ n + rm.slots ≤ R.slots) (hn : As.length = np) (hW : (rest.map fun v => v.category).sum ≤ 8) : kRun E p l e R s m args below meth c nL hp al k n rm.cells rm.slots pc L (As.reverse ++ .ref b :: rest) rest P := fun H locs ls h1 h2 h3 h4 => by
  obtain ⟨ws, q, g1, g2, g3, g4⟩ := h1.at hh
  obtain ⟨cell, c1, c2, c3⟩ := va_recv X.2.2.2.2.2.1.1 g1 rfl g4
  exact ⟨(Value.ref b :: As).toArray, va_runU (C := "java/lang/StringBuilder") (owner := x.cls) (x := x) ⟨X.1, X.2.1, X.2.2.1, X.2.2.2.1, X.2.2.2.2.1⟩ (hM X.2.2.2.2.2.2.2.2) ⟨⟨rfl, rfl, hR.1, hR.2.1, k_words X.2.2.2.2.1 hY.1, List.mem_cons_self⟩, X.2.2.2.2.1 _ hY.1, X.2.2.2.2.1 _ hY.2.2.1, hY.2.2.2.1, k_np hY.2.2.2.2.1, X.2.2.2.2.1 _ hl, X.2.2.2.2.1 _ hY.2.2.2.2.2.1, va_Decl.of (X.2.2.2.2.1 _ hY.2.2.2.2.2.2.1) (X.2.2.2.2.1 _ hY.2.2.2.2.2.2.2), hsel, X.2.2.2.2.1 _ hY.2.1⟩ ⟨kPc_blind, ⟨cell, c1, c2, c3⟩, fun U hU hW9 => kPc_of X.2.2.2.2.2.1 X.2.2.2.2.2.2.1 h1 h2 h3 hU hW9⟩ rfl hn h4.1 rfl (lv_room hW) hd hR.2.2⟩
/-- super.y(..) on a StringBuilder -/
def kYP (y : MethodName) (w0 : Cond) (np : Nat) : Prop := w0 ∈ kTB ∧ Cond.sameMethod y.cls y.cls y.name y.desc ∈ kTB ∧ Cond.instanceMethod y ∈ kTB ∧ Cond.initialized y.cls ∈ kTB ∧ y.name ≠ "<init>" ∧ (parseMethodDescriptor y.desc).map (fun d => d.parameters.length) = some np
theorem A_runP {y : MethodName} {bytes : ByteArray} {maxL ix np : Nat} {ret : Option FieldType} {rm : Room} {P : Option Value → Hp → Option Nat → Prop} {b : Nat} {fs : List Value} {As rest : List Value} (X : CX E p l s m args meth c own cc nL) (hd : decode cc pc = .ok (.invokespecial ix, 3)) (hM : AM E l y bytes maxL ret rm (.ref b :: As) hp al P) (hY : kYP y (Cond.code y bytes maxL ret) np) (hl : Cond.methodLink own ix y ∈ kTB) (hsup : Cond.superclass own y.cls ∈ kTB) (hh : hp b = some (.inr (1, fs))) (hR : rm.frames + 1 ≤ R.frames ∧ 8 + (maxL + 11) + rm.locals ≤ R.locals ∧ k + rm.cells ≤ R.cells ∧ n + rm.slots ≤ R.slots) (hn : As.length = np) (hW : (rest.map fun v => v.category).sum ≤ 8) : kRun E p l e R s m args below meth c nL hp al k n rm.cells rm.slots pc L (As.reverse ++ .ref b :: rest) rest P := fun H locs ls h1 h2 h3 h4 => by
  obtain ⟨ws, q, g1, g2, g3, g4⟩ := h1.at hh
  obtain ⟨cell, c1, c2, c3⟩ := va_recv X.2.2.2.2.2.1.1 g1 rfl g4
  exact ⟨(Value.ref b :: As).toArray, va_runSU (C := "java/lang/StringBuilder") (X.2.2.2.2.2.1.1.1 1 _ rfl).2 ⟨X.1, X.2.1, X.2.2.1, X.2.2.2.1, X.2.2.2.2.1⟩ (hM X.2.2.2.2.2.2.2.2) ⟨⟨rfl, rfl, hR.1, hR.2.1, k_words X.2.2.2.2.1 hY.1, List.mem_cons_self⟩, X.2.2.2.2.1 _ hl, X.2.2.2.2.1 _ hY.2.1, X.2.2.2.2.1 _ hsup, X.2.2.2.2.1 _ hY.2.2.1, X.2.2.2.2.1 _ hY.2.2.2.1, X.2.2.2.2.1 _ hY.1, hY.2.2.2.2.1, k_np hY.2.2.2.2.2⟩ ⟨kPc_blind, ⟨cell, c1, c2, c3⟩, fun U hU hW9 => kPc_of X.2.2.2.2.2.1 X.2.2.2.2.2.2.1 h1 h2 h3 hU hW9⟩ rfl hn h4.1 rfl (lv_room hW) hd hR.2.2⟩
theorem A_sld {i : Int32} (X : CX E p l s m args meth c own cc nL) (hd : decode cc pc = .ok (.iaload, 1)) (hin : inb i (kXn E) = true) (K : AW E p l e R s m args below meth c nL Q hp al k n (pc + 1) L (.int (kXs E i.toNatClampNeg) :: st)) : AW E p l e R s m args below meth c nL Q hp al k n pc L (.int i :: .ref (kXb E) :: st) := fun H locs ls h1 h2 h3 h4 =>
  va_sld X.1 X.2.1 X.2.2.2.2.2.1.2.2.2.2.2.2.2.2.2.2.2.1 (by obtain ⟨scr, z, -⟩ := X.2.2.2.2.2.1.2.2.2.2.2.2.2.2.2.2.2.1; exact (Array.getElem?_eq_some_iff.mp z).1) X.2.2.2.2.2.1.2.2.2.2.2.2.2.2.2.2.2.2.1 h3 (inb_in hin) hd (K H locs ls h1 h2 h3 h4)
theorem A_slenx (X : CX E p l s m args meth c own cc nL) (hd : decode cc pc = .ok (.arraylength, 1)) (K : AW E p l e R s m args below meth c nL Q hp al k n (pc + 1) L (.int (nI (kXn E)) :: st)) : AW E p l e R s m args below meth c nL Q hp al k n pc L (.ref (kXb E) :: st) := fun H locs ls h1 h2 h3 h4 =>
  va_slen X.1 X.2.1 X.2.2.2.2.2.1.2.2.2.2.2.2.2.2.2.2.2.1 (by obtain ⟨scr, z, -⟩ := X.2.2.2.2.2.1.2.2.2.2.2.2.2.2.2.2.2.1; exact (Array.getElem?_eq_some_iff.mp z).1) X.2.2.2.2.2.1.2.2.2.2.2.2.2.2.2.2.2.2.1 h3 hd (K H locs ls h1 h2 h3 h4)
theorem A_dg1 {ix : Nat} (X : CX E p l s m args meth c own cc nL) (hd : decode cc pc = .ok (.getstatic ix, 3)) (hl : Cond.fieldLink own ix "java/lang/Integer" "DigitOnes" "[B" ∈ kTB) (K : ∀ t : Nat, va_T .byte t 100 (fun j => .int (nI (kD1 j))) (kA E) s s.heap → AW E p l e R s m args below meth c nL Q hp al k n (pc + 3) L (.ref t :: st)) : AW E p l e R s m args below meth c nL Q hp al k n pc L (st) := fun H locs ls h1 h2 h3 h4 => by
  obtain ⟨t, hz, ht⟩ := X.2.2.2.2.2.1.2.2.2.2.2.2.2.2.2.1
  exact va_gets X.1 X.2.1 hz h3 X.2.2.2.1 (X.2.2.2.2.1 _ hl) (fun _ h => h) hd (K t ht H locs ls h1 h2 h3 h4)
theorem A_dg10 {ix : Nat} (X : CX E p l s m args meth c own cc nL) (hd : decode cc pc = .ok (.getstatic ix, 3)) (hl : Cond.fieldLink own ix "java/lang/Integer" "DigitTens" "[B" ∈ kTB) (K : ∀ t : Nat, va_T .byte t 100 (fun j => .int (nI (kD10 j))) (kA E) s s.heap → AW E p l e R s m args below meth c nL Q hp al k n (pc + 3) L (.ref t :: st)) : AW E p l e R s m args below meth c nL Q hp al k n pc L (st) := fun H locs ls h1 h2 h3 h4 => by
  obtain ⟨t, hz, ht⟩ := X.2.2.2.2.2.1.2.2.2.2.2.2.2.2.2.2.1
  exact va_gets X.1 X.2.1 hz h3 X.2.2.2.1 (X.2.2.2.2.1 _ hl) (fun _ h => h) hd (K t ht H locs ls h1 h2 h3 h4)
theorem A_dgld {t : Nat} {i : Int32} {f : Nat → Nat} (X : CX E p l s m args meth c own cc nL) (hd : decode cc pc = .ok (.baload, 1)) (hT : va_T .byte t 100 (fun j => .int (nI (f j))) (kA E) s s.heap) (hin : inb i 100 = true) (K : AW E p l e R s m args below meth c nL Q hp al k n (pc + 1) L (.int (nI (f i.toNatClampNeg)) :: st)) : AW E p l e R s m args below meth c nL Q hp al k n pc L (.int i :: .ref t :: st) := fun H locs ls h1 h2 h3 h4 =>
  va_tb X.1 X.2.1 hT h3 (inb_in hin) rfl hd (K H locs ls h1 h2 h3 h4)
/-- a row of rows: t k is the contents of the k-th, where it is known; all of them stand from rb on -/
def rowc (E : KE) (n : Nat) (c : Nat → Int32) : va_E := .inl (kC E 0, n, .inl c)
def R2 (E : KE) (hp : Hp) (a rb ub N len : Nat) (t : Nat → Option (Nat → Int32)) : Prop := ∃ pt : Nat → Option Nat, hp a = some (.inl (kC E 6, N, .inr (.inr (.inr (.inr pt))))) ∧ ∀ k c, t k = some c → ∃ q, pt k = some q ∧ (rb ≤ q ∧ q < ub) ∧ hp q = some (rowc E len c)
/-- t with its k-th row c -/
def upo (t : Nat → Option (Nat → Int32)) (k : Nat) (c : Nat → Int32) : Nat → Option (Nat → Int32) := fun j => if j = k then some c else t j
theorem R2.keep {E : KE} {hp hp' : Hp} {a rb ub N len : Nat} {t : Nat → Option (Nat → Int32)} (h : R2 E hp a rb ub N len t) (hk : ∀ q c, q = a ∨ (rb ≤ q ∧ q < ub) → hp q = some c → hp' q = some c) : R2 E hp' a rb ub N len t := by
  obtain ⟨pt, h1, h2⟩ := h
  refine ⟨pt, hk a _ (Or.inl rfl) h1, fun k c hc => ?_⟩
  obtain ⟨q, q1, q2, q3⟩ := h2 k c hc
  exact ⟨q, q1, q2, hk q _ (Or.inr q2) q3⟩
theorem R2.up {E : KE} {hp : Hp} {a rb ub ub' N len : Nat} {t : Nat → Option (Nat → Int32)} (h : R2 E hp a rb ub N len t) (hu : ub ≤ ub') : R2 E hp a rb ub' N len t := by
  obtain ⟨pt, h1, h2⟩ := h
  refine ⟨pt, h1, fun k c hc => ?_⟩
  obtain ⟨q, q1, q2, q3⟩ := h2 k c hc
  exact ⟨q, q1, ⟨q2.1, by omega⟩, q3⟩
theorem R2.sub {E : KE} {hp : Hp} {a rb ub N len : Nat} {t t' : Nat → Option (Nat → Int32)} (h : R2 E hp a rb ub N len t) (ht : ∀ k c, t' k = some c → t k = some c) : R2 E hp a rb ub N len t' := by
  obtain ⟨pt, h1, h2⟩ := h
  exact ⟨pt, h1, fun k c hc => h2 k c (ht k c hc)⟩
theorem A_row {a rb ub N len : Nat} {t : Nat → Option (Nat → Int32)} {cr : Nat → Int32} {i : Int32} (X : CX E p l s m args meth c own cc nL) (hd : decode cc pc = .ok (.aaload, 1)) (hR : R2 E hp a rb ub N len t) (hin : inb i N = true) (ht : t i.toNatClampNeg = some cr) (K : ∀ q : Nat, rb ≤ q ∧ q < ub → hp q = some (rowc E len cr) → AW E p l e R s m args below meth c nL Q hp al k n (pc + 1) L (.ref q :: st)) : AW E p l e R s m args below meth c nL Q hp al k n pc L (.int i :: .ref a :: st) := by
  obtain ⟨pt, h1, h2⟩ := hR
  obtain ⟨q, q1, q2, q3⟩ := h2 _ _ ht
  refine A_ald6 X hd h1 hin ?_
  rw [q1]
  exact K q q2 q3
theorem A_rput {a rb ub N len v : Nat} {t : Nat → Option (Nat → Int32)} {cr : Nat → Int32} {i : Int32} (X : CX E p l s m args meth c own cc nL) (hd : decode cc pc = .ok (.aastore, 1)) (hw : Cond.arrayOver (.array .int) ∈ kTN) (hR : R2 E hp a rb ub N len t) (hin : inb i N = true) (hv : hp v = some (rowc E len cr)) (hb : rb ≤ v) (hb2 : v < ub) (ha : a < rb) (K : ∀ hp' : Hp, R2 E hp' a rb ub N len (upo t i.toNatClampNeg cr) → (∀ q, q ≠ a → hp' q = hp q) → AW E p l e R s m args below meth c nL Q hp' al k n (pc + 1) L (st)) : AW E p l e R s m args below meth c nL Q hp al k n pc L (.ref v :: .int i :: .ref a :: st) := by
  obtain ⟨pt, h1, h2⟩ := hR
  refine A_ast6 X hd hw h1 hv hin (fun hp' e1 e2 => K hp' ⟨_, e1, fun k9 c9 hc => ?_⟩ e2)
  unfold upo at hc
  by_cases hk : k9 = i.toNatClampNeg
  · rw [if_pos hk] at hc
    cases hc
    refine ⟨v, ?_, ⟨hb, hb2⟩, (e2 v (by omega)).trans hv⟩
    rw [hk]
    exact va_up_self _ _ _
  · rw [if_neg hk] at hc
    obtain ⟨q, q1, q2, q3⟩ := h2 k9 c9 hc
    refine ⟨q, ?_, q2, (e2 q (by omega)).trans q3⟩
    exact (va_up_ne _ _ hk).trans q1
/-- the hand at b: its three rows of rows, its numbers -/
def hwp (b : Nat) : Nat → Option Nat := fun d => if d < 3 then some (b + 4 + d) else none
def HandP (E : KE) (hp : Hp) (b ub : Nat) (ul : Nat → Nat) (uw : Nat → Nat → Int32) (ut uq : Nat → Option (Nat → Int32)) (um uo : Int32) (us : Int64) (ui uh : Int32) : Prop :=
  hp b = some (.inr (13, [.ref (b + 1), .ref (b + 2), .ref (b + 3), .int um, .int uo, .long us, .int ui, .int uh])) ∧ hp (b + 1) = some (.inl (kC E 6, 3, .inr (.inr (.inr (.inr (hwp b)))))) ∧ (∀ i, i < 3 → hp (b + 4 + i) = some (rowc E (ul i) (uw i))) ∧ R2 E hp (b + 2) (b + 7) ub 400 4 ut ∧ R2 E hp (b + 3) (b + 7) ub 9 3 uq ∧ b + 7 ≤ ub
def upw (w : Nat → Nat → Int32) (i j : Nat) (v : Int32) : Nat → Nat → Int32 := fun a => if a = i then upd (w i) j v else w a
theorem HandP.obj {E : KE} {hp hp' : Hp} {b ub : Nat} {ul : Nat → Nat} {uw : Nat → Nat → Int32} {ut uq : Nat → Option (Nat → Int32)} {um uo : Int32} {us : Int64} {ui uh : Int32} {um' uo' : Int32} {us' : Int64} {ui' uh' : Int32} (G : HandP E hp b ub ul uw ut uq um uo us ui uh) (k : hp' b = some (.inr (13, [.ref (b + 1), .ref (b + 2), .ref (b + 3), .int um', .int uo', .long us', .int ui', .int uh']))) (n : ∀ q, q ≠ b → hp' q = hp q) : HandP E hp' b ub ul uw ut uq um' uo' us' ui' uh' :=
  ⟨k, (n _ (by omega)).trans G.2.1, fun i hi => (n _ (by omega)).trans (G.2.2.1 i hi), G.2.2.2.1.keep (fun q c h1 h2 => (n q (by omega)).trans h2), G.2.2.2.2.1.keep (fun q c h1 h2 => (n q (by omega)).trans h2), G.2.2.2.2.2⟩
theorem HandP.up {E : KE} {hp : Hp} {b ub ub' : Nat} {ul : Nat → Nat} {uw : Nat → Nat → Int32} {ut uq : Nat → Option (Nat → Int32)} {um uo : Int32} {us : Int64} {ui uh : Int32} (G : HandP E hp b ub ul uw ut uq um uo us ui uh) (h : ub ≤ ub') : HandP E hp b ub' ul uw ut uq um uo us ui uh :=
  ⟨G.1, G.2.1, G.2.2.1, G.2.2.2.1.up h, G.2.2.2.2.1.up h, Nat.le_trans G.2.2.2.2.2 h⟩
/-- a fresh cell z -/
theorem HandP.new {E : KE} {hp hp' : Hp} {b ub z : Nat} {ul : Nat → Nat} {uw : Nat → Nat → Int32} {ut uq : Nat → Option (Nat → Int32)} {um uo : Int32} {us : Int64} {ui uh : Int32} (G : HandP E hp b ub ul uw ut uq um uo us ui uh) (f : ∀ q c, hp q = some c → q < z) (n : ∀ q, q ≠ z → hp' q = hp q) : HandP E hp' b z ul uw ut uq um uo us ui uh := by
  have h := fun q c h => (n q (Nat.ne_of_lt (f q c h))).trans h
  have h6 := f _ _ (G.2.2.1 2 (by omega))
  refine ⟨h _ _ G.1, h _ _ G.2.1, fun i hi => h _ _ (G.2.2.1 i hi), ?_, ?_, h6⟩
  · obtain ⟨pt, h1, h2⟩ := G.2.2.2.1
    refine ⟨pt, h _ _ h1, fun k c hc => ?_⟩
    obtain ⟨q, q1, q2, q3⟩ := h2 k c hc
    exact ⟨q, q1, ⟨q2.1, f _ _ q3⟩, h _ _ q3⟩
  · obtain ⟨pt, h1, h2⟩ := G.2.2.2.2.1
    refine ⟨pt, h _ _ h1, fun k c hc => ?_⟩
    obtain ⟨q, q1, q2, q3⟩ := h2 k c hc
    exact ⟨q, q1, ⟨q2.1, f _ _ q3⟩, h _ _ q3⟩
/-- a cell z behind all of it is written -/
theorem HandP.oth {E : KE} {hp hp' : Hp} {b ub z : Nat} {ul : Nat → Nat} {uw : Nat → Nat → Int32} {ut uq : Nat → Option (Nat → Int32)} {um uo : Int32} {us : Int64} {ui uh : Int32} (G : HandP E hp b ub ul uw ut uq um uo us ui uh) (hz : ub ≤ z) (n : ∀ q, q ≠ z → hp' q = hp q) : HandP E hp' b ub ul uw ut uq um uo us ui uh := by
  have h7 := G.2.2.2.2.2
  exact ⟨(n _ (by omega)).trans G.1, (n _ (by omega)).trans G.2.1, fun i hi => (n _ (by omega)).trans (G.2.2.1 i hi), G.2.2.2.1.keep (fun q c h1 h2 => (n q (by omega)).trans h2), G.2.2.2.2.1.keep (fun q c h1 h2 => (n q (by omega)).trans h2), h7⟩
theorem A_wrow {b ub : Nat} {ul : Nat → Nat} {uw : Nat → Nat → Int32} {ut uq : Nat → Option (Nat → Int32)} {um uo : Int32} {us : Int64} {ui uh : Int32} {i : Int32} (X : CX E p l s m args meth c own cc nL) (hd : decode cc pc = .ok (.aaload, 1)) (G : HandP E hp b ub ul uw ut uq um uo us ui uh) (hin : inb i 3 = true) (K : AW E p l e R s m args below meth c nL Q hp al k n (pc + 1) L (.ref (b + 4 + i.toNatClampNeg) :: st)) : AW E p l e R s m args below meth c nL Q hp al k n pc L (.int i :: .ref (b + 1) :: st) := by
  refine A_ald6 X hd G.2.1 hin ?_
  have h3 : i.toNatClampNeg < 3 := Nat.not_le.mp fun q => inb_in hin (Or.inr q)
  rw [show hwp b i.toNatClampNeg = some (b + 4 + i.toNatClampNeg) from if_pos h3]
  exact K
theorem inb3 {i : Int32} {n : Nat} (h : inb i n = true) : i.toNatClampNeg < n := Nat.not_le.mp fun q => inb_in h (Or.inr q)
theorem A_wput {b ub : Nat} {ul : Nat → Nat} {uw : Nat → Nat → Int32} {ut uq : Nat → Option (Nat → Int32)} {um uo : Int32} {us : Int64} {ui uh : Int32} {i j x : Int32} (X : CX E p l s m args meth c own cc nL) (hd : decode cc pc = .ok (.iastore, 1)) (G : HandP E hp b ub ul uw ut uq um uo us ui uh) (hi : inb i 3 = true) (hj : inb j (ul i.toNatClampNeg) = true) (K : ∀ hp' : Hp, HandP E hp' b ub ul (upw uw i.toNatClampNeg j.toNatClampNeg x) ut uq um uo us ui uh → (∀ q, q ≠ b + 4 + i.toNatClampNeg → hp' q = hp q) → AW E p l e R s m args below meth c nL Q hp' al k n (pc + 1) L (st)) : AW E p l e R s m args below meth c nL Q hp al k n pc L (.int x :: .int j :: .ref (b + 4 + i.toNatClampNeg) :: st) := by
  have h3 := inb3 hi
  refine A_iast X hd (G.2.2.1 _ h3) hj (fun hp' e1 e2 => K hp' ⟨(e2 _ (by omega)).trans G.1, (e2 _ (by omega)).trans G.2.1, fun a ha => ?_, G.2.2.2.1.keep (fun q c h1 h2 => (e2 q (by omega)).trans h2), G.2.2.2.2.1.keep (fun q c h1 h2 => (e2 q (by omega)).trans h2), G.2.2.2.2.2⟩ e2)
  by_cases hai : a = i.toNatClampNeg
  · subst hai
    rw [show upw uw i.toNatClampNeg j.toNatClampNeg x i.toNatClampNeg = upd (uw i.toNatClampNeg) j.toNatClampNeg x from if_pos rfl]
    exact e1
  · rw [show upw uw i.toNatClampNeg j.toNatClampNeg x a = uw a from if_neg hai]
    exact (e2 _ (by omega)).trans (G.2.2.1 a ha)
theorem A_tput {b ub v : Nat} {ul : Nat → Nat} {uw : Nat → Nat → Int32} {ut uq : Nat → Option (Nat → Int32)} {um uo : Int32} {us : Int64} {ui uh : Int32} {cr : Nat → Int32} {i : Int32} (X : CX E p l s m args meth c own cc nL) (hd : decode cc pc = .ok (.aastore, 1)) (hw : Cond.arrayOver (.array .int) ∈ kTN) (G : HandP E hp b ub ul uw ut uq um uo us ui uh) (hin : inb i 400 = true) (hv : hp v = some (rowc E 4 cr)) (hb : b + 7 ≤ v) (hb2 : v < ub) (K : ∀ hp' : Hp, HandP E hp' b ub ul uw (upo ut i.toNatClampNeg cr) uq um uo us ui uh → (∀ q, q ≠ b + 2 → hp' q = hp q) → AW E p l e R s m args below meth c nL Q hp' al k n (pc + 1) L (st)) : AW E p l e R s m args below meth c nL Q hp al k n pc L (.ref v :: .int i :: .ref (b + 2) :: st) :=
  A_rput X hd hw G.2.2.2.1 hin hv hb hb2 (by omega) (fun hp' e1 e2 => K hp' ⟨(e2 _ (by omega)).trans G.1, (e2 _ (by omega)).trans G.2.1, fun a ha => (e2 _ (by omega)).trans (G.2.2.1 a ha), e1, G.2.2.2.2.1.keep (fun q c h1 h2 => (e2 q (by omega)).trans h2), G.2.2.2.2.2⟩ e2)
theorem A_qput {b ub v : Nat} {ul : Nat → Nat} {uw : Nat → Nat → Int32} {ut uq : Nat → Option (Nat → Int32)} {um uo : Int32} {us : Int64} {ui uh : Int32} {cr : Nat → Int32} {i : Int32} (X : CX E p l s m args meth c own cc nL) (hd : decode cc pc = .ok (.aastore, 1)) (hw : Cond.arrayOver (.array .int) ∈ kTN) (G : HandP E hp b ub ul uw ut uq um uo us ui uh) (hin : inb i 9 = true) (hv : hp v = some (rowc E 3 cr)) (hb : b + 7 ≤ v) (hb2 : v < ub) (K : ∀ hp' : Hp, HandP E hp' b ub ul uw ut (upo uq i.toNatClampNeg cr) um uo us ui uh → (∀ q, q ≠ b + 3 → hp' q = hp q) → AW E p l e R s m args below meth c nL Q hp' al k n (pc + 1) L (st)) : AW E p l e R s m args below meth c nL Q hp al k n pc L (.ref v :: .int i :: .ref (b + 3) :: st) :=
  A_rput X hd hw G.2.2.2.2.1 hin hv hb hb2 (by omega) (fun hp' e1 e2 => K hp' ⟨(e2 _ (by omega)).trans G.1, (e2 _ (by omega)).trans G.2.1, fun a ha => (e2 _ (by omega)).trans (G.2.2.1 a ha), G.2.2.2.1.keep (fun q c h1 h2 => (e2 q (by omega)).trans h2), e1, G.2.2.2.2.2⟩ e2)
end AL2
