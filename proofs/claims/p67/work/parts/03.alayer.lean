/-! the run's heap as a partial function of addresses; the machine's rows over it -/
/-- the good words of the tables, and those that a state bears with it -/
def kTB : List Cond := lw_tbl.filter goodWord
def kNW : Cond → Bool
  | .methodLinkNest .. => true
  | .castable .. => true
  | .arrayOver (.object _) => true
  | .arrayOver (.array _) => true
  | .declares _ => true
  | _ => false
/-- a builder's choice of its parent's private methods -/
def kPV : List Cond := [Cond.selects "java/lang/StringBuilder" yJ5_ensureCapacityInternal_d00df yJ5_ensureCapacityInternal_d00df, Cond.selects "java/lang/StringBuilder" yJ5_newCapacity_0f7a4 yJ5_newCapacity_0f7a4, Cond.selects "java/lang/StringBuilder" yJ5_putStringAt_47b60 yJ5_putStringAt_47b60, Cond.selects "java/lang/StringBuilder" yJ5_inflateIfNeededFor_a7421 yJ5_inflateIfNeededFor_a7421]
theorem kPV_good : ∀ w ∈ kPV, (w.onTables && w.keeps) = true := by decide +kernel
def kTN : List Cond := kPV ++ lw_tbl.filter kNW
theorem kTB_of {w : Cond} (h : w ∈ lw_tbl) (g : goodWord w = true) : w ∈ kTB := List.mem_filter.mpr ⟨h, g⟩
theorem kTN_of {w : Cond} (h : w ∈ lw_tbl) (g : kNW w = true) : w ∈ kTN := List.mem_append_right _ (List.mem_filter.mpr ⟨h, g⟩)
theorem aoA_moved {t : FieldType} {u U : State} (hvm : u.vm.Alike U.vm) (h : (Cond.arrayOver (.array t)).before #[] u = true) : (Cond.arrayOver (.array t)).before #[] U = true := by
  obtain ⟨comp, c, k, h1, h2, h3, h4, h5⟩ := arrayOverA_spec h
  obtain ⟨k', hk', he⟩ := hvm.2.2 _ _ h3
  have hi : (U.vm.classes.findIdx? fun (x : Class) => match x.kind with | .array component _ => component == comp | _ => false) = some c := by
    rw [hvm.findIdx?_eq _ (fun _ => rfl)]
    exact h2
  have hkind : k'.kind = .array comp (.array t) := by rw [he]; exact h4
  have f1 : U.vm.findClass (FieldType.array t).toString = some comp := by rw [hvm.findClass]; exact h1
  have f2 : U.vm.findClass ("[" ++ (FieldType.array t).toString) = some c := by rw [hvm.findClass]; exact h5
  unfold Cond.before Cond.holds
  simp only [Cond.value]
  rw [f1, Option.bind_some]
  refine (congrArg (fun o : Option Nat => (o.bind (fun c => (U.vm.classes[c]?).map fun (k : Class) => match k.kind with | .array _ ty => decide (ty = FieldType.array t) && decide (U.vm.findClass ("[" ++ (FieldType.array t).toString) = some c) | _ => false) == some true)) hi).trans ?_
  simp [hk', hkind, f2]
theorem kNW_warm {w : Cond} {s U : State} (hW : s.WarmedH U.vm) (g : kNW w = true) (h : w.before #[] s = true) : w.before #[] U = true := by
  unfold kNW at g
  split at g
  · exact va_Nw.warmM hW h
  · exact va_Nw.warmC hW h
  · exact va_AO.moved hW.alike h
  · exact aoA_moved hW.alike h
  · rename_i x
    exact va_tabs (A := #[]) rfl rfl ((Cond.declares_setVm (args := #[]) hW.alike x).trans h)
  · cases g
theorem kTN_warm {w : Cond} {s U : State} (hW : s.WarmedH U.vm) (hw : w ∈ kTN) (h : w.before #[] s = true) : w.before #[] U = true := by
  rcases List.mem_append.mp hw with hw | hw
  · exact word_at hW (Or.inl (kPV_good w hw)) h
  · exact kNW_warm hW (List.mem_filter.mp hw).2 h
abbrev Hp : Type := Nat → Option va_E
def h_up (hp : Hp) (a : Nat) (c : va_E) : Hp := fun q => if q = a then some c else hp q
theorem h_up_s {hp : Hp} {a : Nat} {c : va_E} : h_up hp a c a = some c := by simp [h_up]
theorem h_up_n {hp : Hp} {a q : Nat} {c : va_E} (h : q ≠ a) : h_up hp a c q = hp q := by simp [h_up, h]
/-- the constants of a run: the tables' classes, the array classes, where the law's heap began, the string constants and their rows of bytes -/
abbrev KE : Type := va_G × (Nat → ClassId) × Nat × (Nat → Nat) × (Nat → Nat) × Nat × Nat × (Nat → Int32)
def kD (E : KE) : va_G := E.1
def kC (E : KE) : Nat → ClassId := E.2.1
def kB (E : KE) : Nat := E.2.2.1
def kS (E : KE) : Nat → Nat := E.2.2.2.1
def kV (E : KE) : Nat → Nat := E.2.2.2.2.1
/-- the script: its address, its length, its ints -/
def kXb (E : KE) : Nat := E.2.2.2.2.2.1
def kXn (E : KE) : Nat := E.2.2.2.2.2.2.1
def kXs (E : KE) : Nat → Int32 := E.2.2.2.2.2.2.2
def kA (E : KE) : Nat → Prop := fun q => kB E ≤ q
def kT (E : KE) : List (ClassId × FieldType) := [(kC E 0, .int), (kC E 0, .int), (kC E 0, .int), (kC E 3, .byte), (kC E 0, .int), (kC E 5, .object "DiceAudit$Hall"), (kC E 6, .array .int)]
def hRep (E : KE) (hp : Hp) (H : Heap) : Prop := ∃ ws : va_W, va_P (kD E) vwCl ws H ∧ va_D (kA E) ws ∧ ∀ (a : Nat) (c : va_E), hp a = some c → (a, c) ∈ ws
def kZ (al : Option Nat) (H : Heap) : Prop := ∀ z, al = some z → H.size = z
theorem hRep.at {E : KE} {hp : Hp} {H : Heap} {a : Nat} {c : va_E} (h : hRep E hp H) (ha : hp a = some c) : ∃ (ws : va_W) (k : Nat), va_P (kD E) vwCl ws H ∧ va_D (kA E) ws ∧ (∀ (a : Nat) (c : va_E), hp a = some c → (a, c) ∈ ws) ∧ ws[k]? = some (a, c) := by
  obtain ⟨ws, h1, h2, h3⟩ := h
  obtain ⟨k, hk⟩ := List.getElem?_of_mem (h3 a c ha)
  exact ⟨ws, k, h1, h2, h3, hk⟩
theorem hRep.put {E : KE} {hp : Hp} {H1 : Heap} {ws : va_W} {a k : Nat} {c c' : va_E} (h2 : va_D (kA E) ws) (h3 : ∀ (a : Nat) (c : va_E), hp a = some c → (a, c) ∈ ws) (hk : ws[k]? = some (a, c)) (g1 : va_P (kD E) vwCl (ws.set k (a, c')) H1) (g2 : va_D (kA E) (ws.set k (a, c'))) : hRep E (h_up hp a c') H1 := by
  refine ⟨_, g1, g2, fun q d hq => ?_⟩
  have hl := (List.getElem?_eq_some_iff.mp hk).1
  by_cases hqa : q = a
  · subst hqa
    rw [h_up_s] at hq
    cases hq
    exact List.mem_of_getElem? (i := k) (by rw [List.getElem?_set_self hl])
  · rw [h_up_n hqa] at hq
    obtain ⟨j, hj⟩ := List.getElem?_of_mem (h3 q d hq)
    have hjk : k ≠ j := fun e => by
      subst e
      rw [hk] at hj
      cases hj
      exact hqa rfl
    exact List.mem_of_getElem? (i := j) (by rw [List.getElem?_set_ne hjk]; exact hj)
theorem hRep.push {E : KE} {hp : Hp} {H1 : Heap} {ws : va_W} {a : Nat} {c : va_E} (h3 : ∀ (a : Nat) (c : va_E), hp a = some c → (a, c) ∈ ws) (g1 : va_P (kD E) vwCl (ws ++ [(a, c)]) H1) (g2 : va_D (kA E) (ws ++ [(a, c)])) : hRep E (h_up hp a c) H1 := by
  refine ⟨_, g1, g2, fun q d hq => ?_⟩
  by_cases hqa : q = a
  · subst hqa
    rw [h_up_s] at hq
    cases hq
    exact List.mem_append_right _ List.mem_cons_self
  · rw [h_up_n hqa] at hq
    exact List.mem_append_left _ (h3 q d hq)
theorem hRep.ge {E : KE} {hp : Hp} {H : Heap} {a : Nat} {c : va_E} (h : hRep E hp H) (ha : hp a = some c) : kB E ≤ a ∧ a < H.size := by
  obtain ⟨ws, k, h1, h2, -, hk⟩ := h.at ha
  exact ⟨h2.2 k _ hk, (h1 k _ hk).lt⟩
theorem hRep.kept {E : KE} {hp : Hp} {H H1 : Heap} (h : hRep E hp H) (hq : ∀ q : Nat, q < H.size → H1[q]? = H[q]?) : hRep E hp H1 := by
  obtain ⟨ws, h1, h2, h3⟩ := h
  exact ⟨ws, h1.kept (fun k q hk => hq q.1 (h1 k q hk).lt), h2, h3⟩
/-- the string constants: (class, entry, text, number) -/
def kStrs : List (String × Nat × String × Nat) := [
  ("DiceAudit", 50, "hall 1 6 3;die 1 1 1 1 1 1;die 0 1 1 4;player ann;player bob;player cid;throw ann 0 6;throw bob 1 8;throw ann 1 3;audit;throw cid 0 2;", 0), ("DiceAudit$Loader", 54, "hall", 1), ("DiceAudit$Loader", 76, "die", 2), ("DiceAudit$Loader", 81, "player", 3), ("DiceAudit$Loader", 86, "throw", 4), ("DiceAudit$Loader", 91, "audit", 5), ("DiceAudit$Loader", 96, "absolve", 6), ("DiceAudit$Loader", 101, "forgive", 7), ("DiceAuditLaw", 41, "hall ", 8), ("DiceAuditLaw", 56, "die", 2), ("DiceAuditLaw", 61, "player cy;player ab;player b;", 9), ("DiceAudit", 84, "the input buffer is full", 10), ("DiceAudit", 381, "the argument is out of range", 11), ("DiceAudit", 97, "the text has an error", 12), ("DiceAudit", 378, "there is none with this number", 13), ("DiceAudit", 310, "the record would be too long", 14), ("DiceAudit", 319, "the queue is empty", 15), ("DiceAudit", 330, "all weights would be 0", 16)]
/-- exceptions that are none of another class -/
def kNc : List (String × String) := [("java/lang/IllegalArgumentException", "java/lang/IllegalStateException"), ("java/lang/IllegalStateException", "java/lang/IllegalArgumentException"), ("java/lang/IndexOutOfBoundsException", "java/lang/IllegalArgumentException"), ("java/lang/IndexOutOfBoundsException", "java/lang/IllegalStateException")]
/-- the table of digits under a static name: the bytes f 0 .. f 99 -/
def kDg (nm : String) (f : Nat → Nat) (A : Nat → Prop) (U : State) (H : Heap) : Prop := ∃ t : Nat, va_Z "java/lang/Integer" nm "[B" (.ref t) A U H ∧ va_T .byte t 100 (fun j => .int (nI (f j))) A U H
theorem kDg.kept {nm : String} {f : Nat → Nat} {A : Nat → Prop} {U : State} {H H1 : Heap} (h : kDg nm f A U H) (hq : ∀ a : Nat, a < H.size → ¬ A a → H1[a]? = H[a]?) : kDg nm f A U H1 := by
  obtain ⟨t, h1, h2⟩ := h
  exact ⟨t, h1.kept hq, h2.kept hq⟩
theorem kDg.moved {nm : String} {f : Nat → Nat} {A : Nat → Prop} {u U : State} {H : Heap} (hvm : u.vm.Alike U.vm) (h : kDg nm f A u H) : kDg nm f A U H := by
  obtain ⟨t, h1, h2⟩ := h
  exact ⟨t, h1.moved hvm, h2.moved hvm⟩
abbrev kD1 : Nat → Nat := fun j => 48 + j % 10
abbrev kD10 : Nat → Nat := fun j => 48 + j / 10
/-- what a state of the run bears with it: the classes, Throwable's two statics, the string constants -/
def kEnv (E : KE) (U : State) (H : Heap) : Prop := va_K (kD E) vwCl (kT E) U ∧ vx_Zq Bundle.tN "UNASSIGNED_STACK" Bundle.steD (kA E) U H ∧ vx_Zq Bundle.tN "SUPPRESSED_SENTINEL" Bundle.listD (kA E) U H ∧ (∀ q ∈ kStrs, vk_R q.1 q.2.1 q.2.2.1 (kS E q.2.2.2) U) ∧ vk_S 10 kLen kByt (kS E) (kV E) (kA E) U H ∧ (∀ w ∈ kTN, w.before #[] U = true) ∧ va_Z "java/lang/String" "COMPACT_STRINGS" "Z" (.int 1) (kA E) U H ∧ va_Zq "jdk/internal/util/Preconditions" "SIOOBE_FORMATTER" "Ljava/util/function/BiFunction;" (kA E) U H ∧ (∀ q ∈ kNc, va_Nc q.1 q.2 U) ∧ kDg "DigitOnes" kD1 (kA E) U H ∧ kDg "DigitTens" kD10 (kA E) U H ∧ va_X (kXb E) (kXn E) (kXs E) U H ∧ ¬ kA E (kXb E) ∧ kXn E ≤ 260
theorem kEnv.kept {E : KE} {U : State} {H H1 : Heap} (h : kEnv E U H) (hq : ∀ a : Nat, a < H.size → ¬ kA E a → H1[a]? = H[a]?) : kEnv E U H1 := ⟨h.1, h.2.1.kept hq, h.2.2.1.kept hq, h.2.2.2.1, h.2.2.2.2.1.kept hq, h.2.2.2.2.2.1, h.2.2.2.2.2.2.1.kept hq, h.2.2.2.2.2.2.2.1.kept hq, h.2.2.2.2.2.2.2.2.1, h.2.2.2.2.2.2.2.2.2.1.kept hq, h.2.2.2.2.2.2.2.2.2.2.1.kept hq, (by
  obtain ⟨hx, hn, -⟩ := h.2.2.2.2.2.2.2.2.2.2.2
  obtain ⟨scr, h1, -⟩ := hx
  exact h.2.2.2.2.2.2.2.2.2.2.2.1.kept (hq _ (Array.getElem?_eq_some_iff.mp h1).1 hn)), h.2.2.2.2.2.2.2.2.2.2.2.2⟩
theorem kEnv.warm {E : KE} {s U : State} {H : Heap} (hW : s.WarmedH U.vm) (h : kEnv E s H) : kEnv E U H := ⟨va_K.moved hW.alike h.1, vx_Zq.moved hW.alike h.2.1, vx_Zq.moved hW.alike h.2.2.1, fun q hq => (h.2.2.2.1 q hq).warm hW, h.2.2.2.2.1.moved hW.alike, fun w hw => kTN_warm hW hw (h.2.2.2.2.2.1 w hw), h.2.2.2.2.2.2.1.moved hW.alike, h.2.2.2.2.2.2.2.1.moved hW.alike, fun q hq => (h.2.2.2.2.2.2.2.2.1 q hq).moved hW.alike, h.2.2.2.2.2.2.2.2.2.1.moved hW.alike, h.2.2.2.2.2.2.2.2.2.2.1.moved hW.alike, h.2.2.2.2.2.2.2.2.2.2.2.1.moved hW.alike, h.2.2.2.2.2.2.2.2.2.2.2.2⟩
theorem kN_at {E : KE} {args : Array Value} {s : State} {H : Heap} {w : Cond} (h : kEnv E s H) (hw : w ∈ kTN) (ho : w.onTables = true) : w.before args s = true := va_tabs ho rfl (h.2.2.2.2.2.1 w hw)
section AL
variable {p : Program} {l : Launch} {e : Env} {R : Room} {s : State} {m : MethodId} {args : Array Value} {below : List Frame} {meth : Method} {c : Code} {Q : State → Prop} {E : KE}
/-- what stands all through a method's walk -/
def CX (E : KE) (p : Program) (l : Launch) (s : State) (m : MethodId) (args : Array Value) (meth : Method) (c : Code) (own : String) (cc : ByteArray) (nL : Nat) : Prop :=
  p.tables.exec = Jvm.exec ∧ c.code = cc ∧ c.maxLocals = nL ∧ s.vm.findClass own = some m.cls ∧ (∀ w ∈ kTB, w.before args s = true) ∧ kEnv E s s.heap ∧ kB E ≤ s.heap.size ∧ meth.locks = false ∧ l.stackTraces = false
/-- the walk at pc with the heap hp, the locals L, the stack st; al: the heap's size, where it is known -/
def AW (E : KE) (p : Program) (l : Launch) (e : Env) (R : Room) (s : State) (m : MethodId) (args : Array Value) (below : List Frame) (meth : Method) (c : Code) (nL : Nat) (Q : State → Prop) (hp : Hp) (al : Option Nat) (k n : Nat) (pc : Nat) (L : List (Nat × Value)) (st : List Value) : Prop :=
  ∀ (H : Heap) (locs : List Loc) (ls : Array Slot), hRep E hp H → kZ al H → va_S (kA E) s.heap H locs → lv_has ls nL L → W p l e R s m args below meth c H locs k n Q (F0 m pc ls st)
variable {own : String} {cc : ByteArray} {nL : Nat} {hp : Hp} {al : Option Nat} {k n pc : Nat} {L L' : List (Nat × Value)} {st : List Value}
theorem A_sub (ks : List Nat) (hl : lv_pick L ks = L') (K : AW E p l e R s m args below meth c nL Q hp al k n pc L' st) : AW E p l e R s m args below meth c nL Q hp al k n pc L st := fun H locs ls h1 h2 h3 h4 => K H locs ls h1 h2 h3 (lv_sub h4 ks hl)
theorem A_widen {k' n' : Nat} (h1 : k ≤ k') (h2 : n ≤ n') (K : AW E p l e R s m args below meth c nL Q hp al k' n' pc L st) : AW E p l e R s m args below meth c nL Q hp al k n pc L st := fun H locs ls g1 g2 g3 g4 => W.widen h1 h2 (K H locs ls g1 g2 g3 g4)
theorem A_hp {hp' : Hp} (he : ∀ a c, hp' a = some c → hp a = some c) (K : AW E p l e R s m args below meth c nL Q hp' al k n pc L st) : AW E p l e R s m args below meth c nL Q hp al k n pc L st := fun H locs ls h1 h2 h3 h4 => K H locs ls (by obtain ⟨ws, g1, g2, g3⟩ := h1; exact ⟨ws, g1, g2, fun a c h => g3 a c (he a c h)⟩) h2 h3 h4
theorem A_iconst {i : Int} {v : Int32} (X : CX E p l s m args meth c own cc nL) (hd : decode cc pc = .ok (.iconst i, 1)) (hv : Int32.ofInt i = v) (K : AW E p l e R s m args below meth c nL Q hp al k n (pc + 1) L (.int v :: st)) : AW E p l e R s m args below meth c nL Q hp al k n pc L (st) := fun H locs ls h1 h2 h3 h4 => lv_iconst X.1 X.2.1 hd hv (K H locs ls h1 h2 h3 h4)
theorem A_bipush {i : Int} {v : Int32} (X : CX E p l s m args meth c own cc nL) (hd : decode cc pc = .ok (.bipush i, 2)) (hv : (Int8.ofInt i).toInt32 = v) (K : AW E p l e R s m args below meth c nL Q hp al k n (pc + 2) L (.int v :: st)) : AW E p l e R s m args below meth c nL Q hp al k n pc L (st) := fun H locs ls h1 h2 h3 h4 => lv_bipush X.1 X.2.1 hd hv (K H locs ls h1 h2 h3 h4)
theorem A_sipush {i : Int} {v : Int32} (X : CX E p l s m args meth c own cc nL) (hd : decode cc pc = .ok (.sipush i, 3)) (hv : (Int16.ofInt i).toInt32 = v) (K : AW E p l e R s m args below meth c nL Q hp al k n (pc + 3) L (.int v :: st)) : AW E p l e R s m args below meth c nL Q hp al k n pc L (st) := fun H locs ls h1 h2 h3 h4 => lv_sipush X.1 X.2.1 hd hv (K H locs ls h1 h2 h3 h4)
theorem A_lconst {i : Fin 2} {v : Int64} (X : CX E p l s m args meth c own cc nL) (hd : decode cc pc = .ok (.lconst i, 1)) (hv : Int64.ofNat (i : Nat) = v) (K : AW E p l e R s m args below meth c nL Q hp al k n (pc + 1) L (.long v :: st)) : AW E p l e R s m args below meth c nL Q hp al k n pc L (st) := fun H locs ls h1 h2 h3 h4 => lv_lconst X.1 X.2.1 hd hv (K H locs ls h1 h2 h3 h4)
theorem A_ldci {ix : Nat} {v : Int32} (X : CX E p l s m args meth c own cc nL) (hd : decode cc pc = .ok (.ldc ix, 2)) (hl : Cond.constant own ix v ∈ kTB) (K : AW E p l e R s m args below meth c nL Q hp al k n (pc + 2) L (.int v :: st)) : AW E p l e R s m args below meth c nL Q hp al k n pc L (st) := fun H locs ls h1 h2 h3 h4 => lv_ldc X.1 X.2.1 X.2.2.2.1 (X.2.2.2.2.1 _ hl) hd (K H locs ls h1 h2 h3 h4)
theorem A_ldcwi {ix : Nat} {v : Int32} (X : CX E p l s m args meth c own cc nL) (hd : decode cc pc = .ok (.ldc_w ix, 3)) (hl : Cond.constant own ix v ∈ kTB) (K : AW E p l e R s m args below meth c nL Q hp al k n (pc + 3) L (.int v :: st)) : AW E p l e R s m args below meth c nL Q hp al k n pc L (st) := fun H locs ls h1 h2 h3 h4 => lv_ldcw X.1 X.2.1 X.2.2.2.1 (X.2.2.2.2.1 _ hl) hd (K H locs ls h1 h2 h3 h4)
theorem A_ldcS {ix j : Nat} {tx : String} (X : CX E p l s m args meth c own cc nL) (hd : decode cc pc = .ok (.ldc ix, 2)) (hq : (own, ix, tx, j) ∈ kStrs) (K : AW E p l e R s m args below meth c nL Q hp al k n (pc + 2) L (.ref (kS E j) :: st)) : AW E p l e R s m args below meth c nL Q hp al k n pc L (st) := fun H locs ls h1 h2 h3 h4 => va_ldcS X.1 X.2.1 X.2.2.2.1 (X.2.2.2.2.2.1.2.2.2.1 _ hq) hd (K H locs ls h1 h2 h3 h4)
theorem A_ldcSW {ix j : Nat} {tx : String} (X : CX E p l s m args meth c own cc nL) (hd : decode cc pc = .ok (.ldc_w ix, 3)) (hq : (own, ix, tx, j) ∈ kStrs) (K : AW E p l e R s m args below meth c nL Q hp al k n (pc + 3) L (.ref (kS E j) :: st)) : AW E p l e R s m args below meth c nL Q hp al k n pc L (st) := by
  intro H locs ls h1 h2 h3 h4 T hT X9
  obtain ⟨t, a1, b1⟩ := K H locs ls h1 h2 h3 h4 T hT X9
  have hZ := X.2.2.2.2.2.1.2.2.2.1 _ hq
  exact ⟨t, X9.ldcStringW X.1 X.2.2.2.1 (text := tx) (a := kS E j) hZ.1 hZ.2 (g := F0 m pc ls st) rfl (by rw [X.2.1]; exact hd) t a1, b1⟩
theorem A_iload {i : Nat} {x : Int32} (X : CX E p l s m args meth c own cc nL) (hd : decode cc pc = .ok (.iload i, 2)) (j : Nat) (hj : L[j]? = some (i, .int x)) (K : AW E p l e R s m args below meth c nL Q hp al k n (pc + 2) L (.int x :: st)) : AW E p l e R s m args below meth c nL Q hp al k n pc L (st) := fun H locs ls h1 h2 h3 h4 => lv_iload X.1 X.2.1 hd (lv_at h4 j hj) (K H locs ls h1 h2 h3 h4)
theorem A_iload_n {i : Fin 4} {x : Int32} (X : CX E p l s m args meth c own cc nL) (hd : decode cc pc = .ok (.iload_n i, 1)) (j : Nat) (hj : L[j]? = some ((i : Nat), .int x)) (K : AW E p l e R s m args below meth c nL Q hp al k n (pc + 1) L (.int x :: st)) : AW E p l e R s m args below meth c nL Q hp al k n pc L (st) := fun H locs ls h1 h2 h3 h4 => lv_iload_n X.1 X.2.1 hd rfl (lv_at h4 j hj) (K H locs ls h1 h2 h3 h4)
theorem A_aload {i : Nat} {x : Nat} (X : CX E p l s m args meth c own cc nL) (hd : decode cc pc = .ok (.aload i, 2)) (j : Nat) (hj : L[j]? = some (i, .ref x)) (K : AW E p l e R s m args below meth c nL Q hp al k n (pc + 2) L (.ref x :: st)) : AW E p l e R s m args below meth c nL Q hp al k n pc L (st) := fun H locs ls h1 h2 h3 h4 => lv_aload X.1 X.2.1 hd (lv_at h4 j hj) (K H locs ls h1 h2 h3 h4)
theorem A_aload_n {i : Fin 4} {x : Nat} (X : CX E p l s m args meth c own cc nL) (hd : decode cc pc = .ok (.aload_n i, 1)) (j : Nat) (hj : L[j]? = some ((i : Nat), .ref x)) (K : AW E p l e R s m args below meth c nL Q hp al k n (pc + 1) L (.ref x :: st)) : AW E p l e R s m args below meth c nL Q hp al k n pc L (st) := fun H locs ls h1 h2 h3 h4 => lv_aload_n X.1 X.2.1 hd rfl (lv_at h4 j hj) (K H locs ls h1 h2 h3 h4)
theorem A_dload {i : Nat} {x : UInt64} (X : CX E p l s m args meth c own cc nL) (hd : decode cc pc = .ok (.dload i, 2)) (j : Nat) (hj : L[j]? = some (i, .double x)) (K : AW E p l e R s m args below meth c nL Q hp al k n (pc + 2) L (.double x :: st)) : AW E p l e R s m args below meth c nL Q hp al k n pc L (st) := fun H locs ls h1 h2 h3 h4 => lv_dload X.1 X.2.1 hd (lv_at h4 j hj) (K H locs ls h1 h2 h3 h4)
theorem A_dload_n {i : Fin 4} {x : UInt64} (X : CX E p l s m args meth c own cc nL) (hd : decode cc pc = .ok (.dload_n i, 1)) (j : Nat) (hj : L[j]? = some ((i : Nat), .double x)) (K : AW E p l e R s m args below meth c nL Q hp al k n (pc + 1) L (.double x :: st)) : AW E p l e R s m args below meth c nL Q hp al k n pc L (st) := fun H locs ls h1 h2 h3 h4 => lv_dload_n X.1 X.2.1 hd rfl (lv_at h4 j hj) (K H locs ls h1 h2 h3 h4)
theorem A_istore {i : Nat} {x : Int32} (X : CX E p l s m args meth c own cc nL) (hd : decode cc pc = .ok (.istore i, 2)) (hn : i < nL) (hl : (i, Value.int x) :: L.filter (fun q => !(q.1 == i) && !(q.1 + 1 == i && q.2.category == 2)) = L') (K : AW E p l e R s m args below meth c nL Q hp al k n (pc + 2) L' (st)) : AW E p l e R s m args below meth c nL Q hp al k n pc L (.int x :: st) := fun H locs ls h1 h2 h3 h4 => lv_istore X.1 X.2.1 hd h4 hn hl (fun ls' h4' => K H locs ls' h1 h2 h3 h4')
theorem A_istore_n {j : Fin 4} {i : Nat} {x : Int32} (X : CX E p l s m args meth c own cc nL) (hd : decode cc pc = .ok (.istore_n j, 1)) (hi : (j : Nat) = i) (hn : i < nL) (hl : (i, Value.int x) :: L.filter (fun q => !(q.1 == i) && !(q.1 + 1 == i && q.2.category == 2)) = L') (K : AW E p l e R s m args below meth c nL Q hp al k n (pc + 1) L' (st)) : AW E p l e R s m args below meth c nL Q hp al k n pc L (.int x :: st) := fun H locs ls h1 h2 h3 h4 => lv_istore_n X.1 X.2.1 hd hi h4 hn hl (fun ls' h4' => K H locs ls' h1 h2 h3 h4')
theorem A_astore {i : Nat} {x : Nat} (X : CX E p l s m args meth c own cc nL) (hd : decode cc pc = .ok (.astore i, 2)) (hn : i < nL) (hl : (i, Value.ref x) :: L.filter (fun q => !(q.1 == i) && !(q.1 + 1 == i && q.2.category == 2)) = L') (K : AW E p l e R s m args below meth c nL Q hp al k n (pc + 2) L' (st)) : AW E p l e R s m args below meth c nL Q hp al k n pc L (.ref x :: st) := fun H locs ls h1 h2 h3 h4 => lv_astore X.1 X.2.1 hd h4 hn hl (fun ls' h4' => K H locs ls' h1 h2 h3 h4')
theorem A_astore_n {j : Fin 4} {i : Nat} {x : Nat} (X : CX E p l s m args meth c own cc nL) (hd : decode cc pc = .ok (.astore_n j, 1)) (hi : (j : Nat) = i) (hn : i < nL) (hl : (i, Value.ref x) :: L.filter (fun q => !(q.1 == i) && !(q.1 + 1 == i && q.2.category == 2)) = L') (K : AW E p l e R s m args below meth c nL Q hp al k n (pc + 1) L' (st)) : AW E p l e R s m args below meth c nL Q hp al k n pc L (.ref x :: st) := fun H locs ls h1 h2 h3 h4 => lv_astore_n X.1 X.2.1 hd hi h4 hn hl (fun ls' h4' => K H locs ls' h1 h2 h3 h4')
theorem A_dstore {i : Nat} {x : UInt64} (X : CX E p l s m args meth c own cc nL) (hd : decode cc pc = .ok (.dstore i, 2)) (hn : i + 1 < nL) (hl : (i, Value.double x) :: L.filter (fun q => !(q.1 == i) && (!(q.1 == i + 1) && !(q.1 + 1 == i && q.2.category == 2))) = L') (K : AW E p l e R s m args below meth c nL Q hp al k n (pc + 2) L' (st)) : AW E p l e R s m args below meth c nL Q hp al k n pc L (.double x :: st) := fun H locs ls h1 h2 h3 h4 => lv_dstore X.1 X.2.1 hd h4 hn hl (fun ls' h4' => K H locs ls' h1 h2 h3 h4')
theorem A_dstore_n {j : Fin 4} {i : Nat} {x : UInt64} (X : CX E p l s m args meth c own cc nL) (hd : decode cc pc = .ok (.dstore_n j, 1)) (hi : (j : Nat) = i) (hn : i + 1 < nL) (hl : (i, Value.double x) :: L.filter (fun q => !(q.1 == i) && (!(q.1 == i + 1) && !(q.1 + 1 == i && q.2.category == 2))) = L') (K : AW E p l e R s m args below meth c nL Q hp al k n (pc + 1) L' (st)) : AW E p l e R s m args below meth c nL Q hp al k n pc L (.double x :: st) := fun H locs ls h1 h2 h3 h4 => lv_dstore_n X.1 X.2.1 hd hi h4 hn hl (fun ls' h4' => K H locs ls' h1 h2 h3 h4')
theorem A_iinc {i j : Nat} {d : Int} {x v : Int32} (X : CX E p l s m args meth c own cc nL) (hd : decode cc pc = .ok (.iinc i d, 3)) (hj : L[j]? = some (i, .int x)) (hv : x + Int32.ofInt d = v) (hn : i < nL) (hl : (i, Value.int v) :: L.filter (fun q => !(q.1 == i) && !(q.1 + 1 == i && q.2.category == 2)) = L') (K : AW E p l e R s m args below meth c nL Q hp al k n (pc + 3) L' (st)) : AW E p l e R s m args below meth c nL Q hp al k n pc L (st) := fun H locs ls h1 h2 h3 h4 => lv_iinc X.1 X.2.1 hd h4 hj hv hn hl (fun ls' h4' => K H locs ls' h1 h2 h3 h4')
theorem A_iadd {x y : Int32} (X : CX E p l s m args meth c own cc nL) (hd : decode cc pc = .ok (.iadd, 1))  (K : AW E p l e R s m args below meth c nL Q hp al k n (pc + 1) L (.int (x + y) :: st)) : AW E p l e R s m args below meth c nL Q hp al k n pc L (.int y :: .int x :: st) := fun H locs ls h1 h2 h3 h4 => lv_iadd X.1 X.2.1 hd (K H locs ls h1 h2 h3 h4)
theorem A_isub {x y : Int32} (X : CX E p l s m args meth c own cc nL) (hd : decode cc pc = .ok (.isub, 1))  (K : AW E p l e R s m args below meth c nL Q hp al k n (pc + 1) L (.int (x - y) :: st)) : AW E p l e R s m args below meth c nL Q hp al k n pc L (.int y :: .int x :: st) := fun H locs ls h1 h2 h3 h4 => lv_isub X.1 X.2.1 hd (K H locs ls h1 h2 h3 h4)
theorem A_imul {x y : Int32} (X : CX E p l s m args meth c own cc nL) (hd : decode cc pc = .ok (.imul, 1))  (K : AW E p l e R s m args below meth c nL Q hp al k n (pc + 1) L (.int (x * y) :: st)) : AW E p l e R s m args below meth c nL Q hp al k n pc L (.int y :: .int x :: st) := fun H locs ls h1 h2 h3 h4 => lv_imul X.1 X.2.1 hd (K H locs ls h1 h2 h3 h4)
theorem A_iand {x y : Int32} (X : CX E p l s m args meth c own cc nL) (hd : decode cc pc = .ok (.iand, 1))  (K : AW E p l e R s m args below meth c nL Q hp al k n (pc + 1) L (.int (x &&& y) :: st)) : AW E p l e R s m args below meth c nL Q hp al k n pc L (.int y :: .int x :: st) := fun H locs ls h1 h2 h3 h4 => lv_iand X.1 X.2.1 hd (K H locs ls h1 h2 h3 h4)
theorem A_ior {x y : Int32} (X : CX E p l s m args meth c own cc nL) (hd : decode cc pc = .ok (.ior, 1))  (K : AW E p l e R s m args below meth c nL Q hp al k n (pc + 1) L (.int (x ||| y) :: st)) : AW E p l e R s m args below meth c nL Q hp al k n pc L (.int y :: .int x :: st) := fun H locs ls h1 h2 h3 h4 => lv_ior X.1 X.2.1 hd (K H locs ls h1 h2 h3 h4)
theorem A_ishl {x y : Int32} (X : CX E p l s m args meth c own cc nL) (hd : decode cc pc = .ok (.ishl, 1))  (K : AW E p l e R s m args below meth c nL Q hp al k n (pc + 1) L (.int (x <<< (y &&& 31)) :: st)) : AW E p l e R s m args below meth c nL Q hp al k n pc L (.int y :: .int x :: st) := fun H locs ls h1 h2 h3 h4 => lv_ishl X.1 X.2.1 hd (K H locs ls h1 h2 h3 h4)
theorem A_ishr {x y : Int32} (X : CX E p l s m args meth c own cc nL) (hd : decode cc pc = .ok (.ishr, 1))  (K : AW E p l e R s m args below meth c nL Q hp al k n (pc + 1) L (.int (x >>> (y &&& 31)) :: st)) : AW E p l e R s m args below meth c nL Q hp al k n pc L (.int y :: .int x :: st) := fun H locs ls h1 h2 h3 h4 => lv_ishr X.1 X.2.1 hd (K H locs ls h1 h2 h3 h4)
theorem A_idiv {x y : Int32} (X : CX E p l s m args meth c own cc nL) (hd : decode cc pc = .ok (.idiv, 1)) (hy : ¬ y = 0) (K : AW E p l e R s m args below meth c nL Q hp al k n (pc + 1) L (.int (x / y) :: st)) : AW E p l e R s m args below meth c nL Q hp al k n pc L (.int y :: .int x :: st) := fun H locs ls h1 h2 h3 h4 => lv_idiv X.1 X.2.1 hd hy (K H locs ls h1 h2 h3 h4)
theorem A_irem {x y : Int32} (X : CX E p l s m args meth c own cc nL) (hd : decode cc pc = .ok (.irem, 1)) (hy : ¬ y = 0) (K : AW E p l e R s m args below meth c nL Q hp al k n (pc + 1) L (.int (x - x / y * y) :: st)) : AW E p l e R s m args below meth c nL Q hp al k n pc L (.int y :: .int x :: st) := fun H locs ls h1 h2 h3 h4 => lv_irem X.1 X.2.1 hd hy (K H locs ls h1 h2 h3 h4)
theorem A_ineg {x : Int32} (X : CX E p l s m args meth c own cc nL) (hd : decode cc pc = .ok (.ineg, 1))  (K : AW E p l e R s m args below meth c nL Q hp al k n (pc + 1) L (.int (-x) :: st)) : AW E p l e R s m args below meth c nL Q hp al k n pc L (.int x :: st) := fun H locs ls h1 h2 h3 h4 => lv_ineg X.1 X.2.1 hd (K H locs ls h1 h2 h3 h4)
theorem A_i2l {x : Int32} (X : CX E p l s m args meth c own cc nL) (hd : decode cc pc = .ok (.i2l, 1))  (K : AW E p l e R s m args below meth c nL Q hp al k n (pc + 1) L (.long x.toInt64 :: st)) : AW E p l e R s m args below meth c nL Q hp al k n pc L (.int x :: st) := fun H locs ls h1 h2 h3 h4 => lv_i2l X.1 X.2.1 hd rfl (K H locs ls h1 h2 h3 h4)
theorem A_i2b {x : Int32} (X : CX E p l s m args meth c own cc nL) (hd : decode cc pc = .ok (.i2b, 1))  (K : AW E p l e R s m args below meth c nL Q hp al k n (pc + 1) L (.int x.toInt8.toInt32 :: st)) : AW E p l e R s m args below meth c nL Q hp al k n pc L (.int x :: st) := fun H locs ls h1 h2 h3 h4 => lv_i2b X.1 X.2.1 hd rfl (K H locs ls h1 h2 h3 h4)
theorem A_lcmp {x y : Int64} (X : CX E p l s m args meth c own cc nL) (hd : decode cc pc = .ok (.lcmp, 1))  (K : AW E p l e R s m args below meth c nL Q hp al k n (pc + 1) L (.int (lg_cmp x y) :: st)) : AW E p l e R s m args below meth c nL Q hp al k n pc L (.long y :: .long x :: st) := fun H locs ls h1 h2 h3 h4 => W.lcmp X.1 X.2.1 hd (K H locs ls h1 h2 h3 h4)
theorem A_dup {v : Value} (X : CX E p l s m args meth c own cc nL) (hd : decode cc pc = .ok (.dup, 1)) (hv : v.category = 1) (K : AW E p l e R s m args below meth c nL Q hp al k n (pc + 1) L (v :: v :: st)) : AW E p l e R s m args below meth c nL Q hp al k n pc L (v :: st) := fun H locs ls h1 h2 h3 h4 => lv_dup X.1 X.2.1 hd hv (K H locs ls h1 h2 h3 h4)
theorem A_dup2 {v w : Value} (X : CX E p l s m args meth c own cc nL) (hd : decode cc pc = .ok (.dup2, 1)) (hv : v.category = 1) (hw : w.category = 1) (K : AW E p l e R s m args below meth c nL Q hp al k n (pc + 1) L (v :: w :: v :: w :: st)) : AW E p l e R s m args below meth c nL Q hp al k n pc L (v :: w :: st) := fun H locs ls h1 h2 h3 h4 => lv_dup2_11 X.1 X.2.1 hd hv hw (K H locs ls h1 h2 h3 h4)
theorem A_pop {v : Value} (X : CX E p l s m args meth c own cc nL) (hd : decode cc pc = .ok (.pop, 1)) (hv : v.category = 1) (K : AW E p l e R s m args below meth c nL Q hp al k n (pc + 1) L (st)) : AW E p l e R s m args below meth c nL Q hp al k n pc L (v :: st) := fun H locs ls h1 h2 h3 h4 => lv_pop X.1 X.2.1 hd hv (K H locs ls h1 h2 h3 h4)
theorem A_goto {off : Int} {tgt : Nat} (X : CX E p l s m args meth c own cc nL) (hd : decode cc pc = .ok (.goto off, 3)) (ht : (pc : Int) + off = (tgt : Int)) (K : AW E p l e R s m args below meth c nL Q hp al k n tgt L (st)) : AW E p l e R s m args below meth c nL Q hp al k n pc L (st) := fun H locs ls h1 h2 h3 h4 => lv_goto X.1 X.2.1 hd ht (K H locs ls h1 h2 h3 h4)
theorem A_if_eq {α : Type} {e1 e2 o : α} {x : Int32} {off : Int} {tgt : Nat} (X : CX E p l s m args meth c own cc nL) (hd : decode cc pc = .ok (.ifCond .eq off, 3)) (hf : (if x = 0 then e1 else e2) = o) (ht : (pc : Int) + off = (tgt : Int)) (kt : x = 0 → e1 = o → AW E p l e R s m args below meth c nL Q hp al k n tgt L (st)) (kf : ¬ (x = 0) → e2 = o → AW E p l e R s m args below meth c nL Q hp al k n (pc + 3) L (st)) : AW E p l e R s m args below meth c nL Q hp al k n pc L (.int x :: st) := by
  by_cases hc : x = 0
  · rw [if_pos hc] at hf
    exact fun H locs ls h1 h2 h3 h4 => lv_if_eq X.1 X.2.1 hd ht (fun _ => kt hc hf H locs ls h1 h2 h3 h4) (fun q => absurd q (by first | exact not_not_intro hc | exact hc))
  · rw [if_neg hc] at hf
    exact fun H locs ls h1 h2 h3 h4 => lv_if_eq X.1 X.2.1 hd ht (fun q => absurd q hc) (fun _ => kf hc hf H locs ls h1 h2 h3 h4)
theorem A_icmp_eq {α : Type} {e1 e2 o : α} {x y : Int32} {off : Int} {tgt : Nat} (X : CX E p l s m args meth c own cc nL) (hd : decode cc pc = .ok (.if_icmp .eq off, 3)) (hf : (if x = y then e1 else e2) = o) (ht : (pc : Int) + off = (tgt : Int)) (kt : x = y → e1 = o → AW E p l e R s m args below meth c nL Q hp al k n tgt L (st)) (kf : ¬ (x = y) → e2 = o → AW E p l e R s m args below meth c nL Q hp al k n (pc + 3) L (st)) : AW E p l e R s m args below meth c nL Q hp al k n pc L (.int y :: .int x :: st) := by
  by_cases hc : x = y
  · rw [if_pos hc] at hf
    exact fun H locs ls h1 h2 h3 h4 => lv_icmp_eq X.1 X.2.1 hd ht (fun _ => kt hc hf H locs ls h1 h2 h3 h4) (fun q => absurd hc q)
  · rw [if_neg hc] at hf
    exact fun H locs ls h1 h2 h3 h4 => lv_icmp_eq X.1 X.2.1 hd ht (fun q => absurd q hc) (fun _ => kf hc hf H locs ls h1 h2 h3 h4)
theorem A_if_eq_t {x : Int32} {off : Int} {tgt : Nat} (X : CX E p l s m args meth c own cc nL) (hd : decode cc pc = .ok (.ifCond .eq off, 3)) (hc : x = 0) (ht : (pc : Int) + off = (tgt : Int)) (K : AW E p l e R s m args below meth c nL Q hp al k n tgt L (st)) : AW E p l e R s m args below meth c nL Q hp al k n pc L (.int x :: st) := fun H locs ls h1 h2 h3 h4 => lv_if_eq X.1 X.2.1 hd ht (fun _ => K H locs ls h1 h2 h3 h4) (fun q => absurd q (by first | exact not_not_intro hc | exact hc))
theorem A_if_eq_f {x : Int32} {off : Int} {tgt : Nat} (X : CX E p l s m args meth c own cc nL) (hd : decode cc pc = .ok (.ifCond .eq off, 3)) (hc : ¬ (x = 0)) (ht : (pc : Int) + off = (tgt : Int)) (K : AW E p l e R s m args below meth c nL Q hp al k n (pc + 3) L (st)) : AW E p l e R s m args below meth c nL Q hp al k n pc L (.int x :: st) := fun H locs ls h1 h2 h3 h4 => lv_if_eq X.1 X.2.1 hd ht (fun q => absurd q hc) (fun _ => K H locs ls h1 h2 h3 h4)
theorem A_icmp_eq_t {x y : Int32} {off : Int} {tgt : Nat} (X : CX E p l s m args meth c own cc nL) (hd : decode cc pc = .ok (.if_icmp .eq off, 3)) (hc : x = y) (ht : (pc : Int) + off = (tgt : Int)) (K : AW E p l e R s m args below meth c nL Q hp al k n tgt L (st)) : AW E p l e R s m args below meth c nL Q hp al k n pc L (.int y :: .int x :: st) := fun H locs ls h1 h2 h3 h4 => lv_icmp_eq X.1 X.2.1 hd ht (fun _ => K H locs ls h1 h2 h3 h4) (fun q => absurd q (by first | exact not_not_intro hc | exact hc))
theorem A_icmp_eq_f {x y : Int32} {off : Int} {tgt : Nat} (X : CX E p l s m args meth c own cc nL) (hd : decode cc pc = .ok (.if_icmp .eq off, 3)) (hc : ¬ (x = y)) (ht : (pc : Int) + off = (tgt : Int)) (K : AW E p l e R s m args below meth c nL Q hp al k n (pc + 3) L (st)) : AW E p l e R s m args below meth c nL Q hp al k n pc L (.int y :: .int x :: st) := fun H locs ls h1 h2 h3 h4 => lv_icmp_eq X.1 X.2.1 hd ht (fun q => absurd q hc) (fun _ => K H locs ls h1 h2 h3 h4)
theorem A_if_ne {α : Type} {e1 e2 o : α} {x : Int32} {off : Int} {tgt : Nat} (X : CX E p l s m args meth c own cc nL) (hd : decode cc pc = .ok (.ifCond .ne off, 3)) (hf : (if x = 0 then e2 else e1) = o) (ht : (pc : Int) + off = (tgt : Int)) (kt : ¬ x = 0 → e1 = o → AW E p l e R s m args below meth c nL Q hp al k n tgt L (st)) (kf : x = 0 → e2 = o → AW E p l e R s m args below meth c nL Q hp al k n (pc + 3) L (st)) : AW E p l e R s m args below meth c nL Q hp al k n pc L (.int x :: st) := by
  by_cases hc : x = 0
  · rw [if_pos hc] at hf
    exact fun H locs ls h1 h2 h3 h4 => lv_if_ne X.1 X.2.1 hd ht (fun q => absurd hc q) (fun _ => kf hc hf H locs ls h1 h2 h3 h4)
  · rw [if_neg hc] at hf
    exact fun H locs ls h1 h2 h3 h4 => lv_if_ne X.1 X.2.1 hd ht (fun _ => kt hc hf H locs ls h1 h2 h3 h4) (fun q => absurd q hc)
theorem A_icmp_ne {α : Type} {e1 e2 o : α} {x y : Int32} {off : Int} {tgt : Nat} (X : CX E p l s m args meth c own cc nL) (hd : decode cc pc = .ok (.if_icmp .ne off, 3)) (hf : (if x = y then e2 else e1) = o) (ht : (pc : Int) + off = (tgt : Int)) (kt : ¬ x = y → e1 = o → AW E p l e R s m args below meth c nL Q hp al k n tgt L (st)) (kf : x = y → e2 = o → AW E p l e R s m args below meth c nL Q hp al k n (pc + 3) L (st)) : AW E p l e R s m args below meth c nL Q hp al k n pc L (.int y :: .int x :: st) := by
  by_cases hc : x = y
  · rw [if_pos hc] at hf
    exact fun H locs ls h1 h2 h3 h4 => lv_icmp_ne X.1 X.2.1 hd ht (fun q => absurd hc q) (fun _ => kf hc hf H locs ls h1 h2 h3 h4)
  · rw [if_neg hc] at hf
    exact fun H locs ls h1 h2 h3 h4 => lv_icmp_ne X.1 X.2.1 hd ht (fun _ => kt hc hf H locs ls h1 h2 h3 h4) (fun q => absurd q hc)
theorem A_if_ne_t {x : Int32} {off : Int} {tgt : Nat} (X : CX E p l s m args meth c own cc nL) (hd : decode cc pc = .ok (.ifCond .ne off, 3)) (hc : ¬ x = 0) (ht : (pc : Int) + off = (tgt : Int)) (K : AW E p l e R s m args below meth c nL Q hp al k n tgt L (st)) : AW E p l e R s m args below meth c nL Q hp al k n pc L (.int x :: st) := fun H locs ls h1 h2 h3 h4 => lv_if_ne X.1 X.2.1 hd ht (fun _ => K H locs ls h1 h2 h3 h4) (fun q => absurd q (by first | exact not_not_intro hc | exact hc))
theorem A_if_ne_f {x : Int32} {off : Int} {tgt : Nat} (X : CX E p l s m args meth c own cc nL) (hd : decode cc pc = .ok (.ifCond .ne off, 3)) (hc : ¬ (¬ x = 0)) (ht : (pc : Int) + off = (tgt : Int)) (K : AW E p l e R s m args below meth c nL Q hp al k n (pc + 3) L (st)) : AW E p l e R s m args below meth c nL Q hp al k n pc L (.int x :: st) := fun H locs ls h1 h2 h3 h4 => lv_if_ne X.1 X.2.1 hd ht (fun q => absurd q hc) (fun _ => K H locs ls h1 h2 h3 h4)
theorem A_icmp_ne_t {x y : Int32} {off : Int} {tgt : Nat} (X : CX E p l s m args meth c own cc nL) (hd : decode cc pc = .ok (.if_icmp .ne off, 3)) (hc : ¬ x = y) (ht : (pc : Int) + off = (tgt : Int)) (K : AW E p l e R s m args below meth c nL Q hp al k n tgt L (st)) : AW E p l e R s m args below meth c nL Q hp al k n pc L (.int y :: .int x :: st) := fun H locs ls h1 h2 h3 h4 => lv_icmp_ne X.1 X.2.1 hd ht (fun _ => K H locs ls h1 h2 h3 h4) (fun q => absurd q (by first | exact not_not_intro hc | exact hc))
theorem A_icmp_ne_f {x y : Int32} {off : Int} {tgt : Nat} (X : CX E p l s m args meth c own cc nL) (hd : decode cc pc = .ok (.if_icmp .ne off, 3)) (hc : ¬ (¬ x = y)) (ht : (pc : Int) + off = (tgt : Int)) (K : AW E p l e R s m args below meth c nL Q hp al k n (pc + 3) L (st)) : AW E p l e R s m args below meth c nL Q hp al k n pc L (.int y :: .int x :: st) := fun H locs ls h1 h2 h3 h4 => lv_icmp_ne X.1 X.2.1 hd ht (fun q => absurd q hc) (fun _ => K H locs ls h1 h2 h3 h4)
theorem A_if_lt {α : Type} {e1 e2 o : α} {x : Int32} {off : Int} {tgt : Nat} (X : CX E p l s m args meth c own cc nL) (hd : decode cc pc = .ok (.ifCond .lt off, 3)) (hf : (if x < 0 then e1 else e2) = o) (ht : (pc : Int) + off = (tgt : Int)) (kt : x < 0 → e1 = o → AW E p l e R s m args below meth c nL Q hp al k n tgt L (st)) (kf : ¬ (x < 0) → e2 = o → AW E p l e R s m args below meth c nL Q hp al k n (pc + 3) L (st)) : AW E p l e R s m args below meth c nL Q hp al k n pc L (.int x :: st) := by
  by_cases hc : x < 0
  · rw [if_pos hc] at hf
    exact fun H locs ls h1 h2 h3 h4 => lv_if_lt X.1 X.2.1 hd ht (fun _ => kt hc hf H locs ls h1 h2 h3 h4) (fun q => absurd q (by first | exact not_not_intro hc | exact hc))
  · rw [if_neg hc] at hf
    exact fun H locs ls h1 h2 h3 h4 => lv_if_lt X.1 X.2.1 hd ht (fun q => absurd q hc) (fun _ => kf hc hf H locs ls h1 h2 h3 h4)
theorem A_icmp_lt {α : Type} {e1 e2 o : α} {x y : Int32} {off : Int} {tgt : Nat} (X : CX E p l s m args meth c own cc nL) (hd : decode cc pc = .ok (.if_icmp .lt off, 3)) (hf : (if x < y then e1 else e2) = o) (ht : (pc : Int) + off = (tgt : Int)) (kt : x < y → e1 = o → AW E p l e R s m args below meth c nL Q hp al k n tgt L (st)) (kf : ¬ (x < y) → e2 = o → AW E p l e R s m args below meth c nL Q hp al k n (pc + 3) L (st)) : AW E p l e R s m args below meth c nL Q hp al k n pc L (.int y :: .int x :: st) := by
  by_cases hc : x < y
  · rw [if_pos hc] at hf
    exact fun H locs ls h1 h2 h3 h4 => lv_icmp_lt X.1 X.2.1 hd ht (fun _ => kt hc hf H locs ls h1 h2 h3 h4) (fun q => absurd hc q)
  · rw [if_neg hc] at hf
    exact fun H locs ls h1 h2 h3 h4 => lv_icmp_lt X.1 X.2.1 hd ht (fun q => absurd q hc) (fun _ => kf hc hf H locs ls h1 h2 h3 h4)
theorem A_if_lt_t {x : Int32} {off : Int} {tgt : Nat} (X : CX E p l s m args meth c own cc nL) (hd : decode cc pc = .ok (.ifCond .lt off, 3)) (hc : x < 0) (ht : (pc : Int) + off = (tgt : Int)) (K : AW E p l e R s m args below meth c nL Q hp al k n tgt L (st)) : AW E p l e R s m args below meth c nL Q hp al k n pc L (.int x :: st) := fun H locs ls h1 h2 h3 h4 => lv_if_lt X.1 X.2.1 hd ht (fun _ => K H locs ls h1 h2 h3 h4) (fun q => absurd q (by first | exact not_not_intro hc | exact hc))
theorem A_if_lt_f {x : Int32} {off : Int} {tgt : Nat} (X : CX E p l s m args meth c own cc nL) (hd : decode cc pc = .ok (.ifCond .lt off, 3)) (hc : ¬ (x < 0)) (ht : (pc : Int) + off = (tgt : Int)) (K : AW E p l e R s m args below meth c nL Q hp al k n (pc + 3) L (st)) : AW E p l e R s m args below meth c nL Q hp al k n pc L (.int x :: st) := fun H locs ls h1 h2 h3 h4 => lv_if_lt X.1 X.2.1 hd ht (fun q => absurd q hc) (fun _ => K H locs ls h1 h2 h3 h4)
theorem A_icmp_lt_t {x y : Int32} {off : Int} {tgt : Nat} (X : CX E p l s m args meth c own cc nL) (hd : decode cc pc = .ok (.if_icmp .lt off, 3)) (hc : x < y) (ht : (pc : Int) + off = (tgt : Int)) (K : AW E p l e R s m args below meth c nL Q hp al k n tgt L (st)) : AW E p l e R s m args below meth c nL Q hp al k n pc L (.int y :: .int x :: st) := fun H locs ls h1 h2 h3 h4 => lv_icmp_lt X.1 X.2.1 hd ht (fun _ => K H locs ls h1 h2 h3 h4) (fun q => absurd q (by first | exact not_not_intro hc | exact hc))
theorem A_icmp_lt_f {x y : Int32} {off : Int} {tgt : Nat} (X : CX E p l s m args meth c own cc nL) (hd : decode cc pc = .ok (.if_icmp .lt off, 3)) (hc : ¬ (x < y)) (ht : (pc : Int) + off = (tgt : Int)) (K : AW E p l e R s m args below meth c nL Q hp al k n (pc + 3) L (st)) : AW E p l e R s m args below meth c nL Q hp al k n pc L (.int y :: .int x :: st) := fun H locs ls h1 h2 h3 h4 => lv_icmp_lt X.1 X.2.1 hd ht (fun q => absurd q hc) (fun _ => K H locs ls h1 h2 h3 h4)
theorem A_if_ge {α : Type} {e1 e2 o : α} {x : Int32} {off : Int} {tgt : Nat} (X : CX E p l s m args meth c own cc nL) (hd : decode cc pc = .ok (.ifCond .ge off, 3)) (hf : (if 0 ≤ x then e1 else e2) = o) (ht : (pc : Int) + off = (tgt : Int)) (kt : 0 ≤ x → e1 = o → AW E p l e R s m args below meth c nL Q hp al k n tgt L (st)) (kf : ¬ (0 ≤ x) → e2 = o → AW E p l e R s m args below meth c nL Q hp al k n (pc + 3) L (st)) : AW E p l e R s m args below meth c nL Q hp al k n pc L (.int x :: st) := by
  by_cases hc : 0 ≤ x
  · rw [if_pos hc] at hf
    exact fun H locs ls h1 h2 h3 h4 => lv_if_ge X.1 X.2.1 hd ht (fun _ => kt hc hf H locs ls h1 h2 h3 h4) (fun q => absurd q (by first | exact not_not_intro hc | exact hc))
  · rw [if_neg hc] at hf
    exact fun H locs ls h1 h2 h3 h4 => lv_if_ge X.1 X.2.1 hd ht (fun q => absurd q hc) (fun _ => kf hc hf H locs ls h1 h2 h3 h4)
theorem A_icmp_ge {α : Type} {e1 e2 o : α} {x y : Int32} {off : Int} {tgt : Nat} (X : CX E p l s m args meth c own cc nL) (hd : decode cc pc = .ok (.if_icmp .ge off, 3)) (hf : (if y ≤ x then e1 else e2) = o) (ht : (pc : Int) + off = (tgt : Int)) (kt : y ≤ x → e1 = o → AW E p l e R s m args below meth c nL Q hp al k n tgt L (st)) (kf : ¬ (y ≤ x) → e2 = o → AW E p l e R s m args below meth c nL Q hp al k n (pc + 3) L (st)) : AW E p l e R s m args below meth c nL Q hp al k n pc L (.int y :: .int x :: st) := by
  by_cases hc : y ≤ x
  · rw [if_pos hc] at hf
    exact fun H locs ls h1 h2 h3 h4 => lv_icmp_ge X.1 X.2.1 hd ht (fun _ => kt hc hf H locs ls h1 h2 h3 h4) (fun q => absurd hc q)
  · rw [if_neg hc] at hf
    exact fun H locs ls h1 h2 h3 h4 => lv_icmp_ge X.1 X.2.1 hd ht (fun q => absurd q hc) (fun _ => kf hc hf H locs ls h1 h2 h3 h4)
theorem A_if_ge_t {x : Int32} {off : Int} {tgt : Nat} (X : CX E p l s m args meth c own cc nL) (hd : decode cc pc = .ok (.ifCond .ge off, 3)) (hc : 0 ≤ x) (ht : (pc : Int) + off = (tgt : Int)) (K : AW E p l e R s m args below meth c nL Q hp al k n tgt L (st)) : AW E p l e R s m args below meth c nL Q hp al k n pc L (.int x :: st) := fun H locs ls h1 h2 h3 h4 => lv_if_ge X.1 X.2.1 hd ht (fun _ => K H locs ls h1 h2 h3 h4) (fun q => absurd q (by first | exact not_not_intro hc | exact hc))
theorem A_if_ge_f {x : Int32} {off : Int} {tgt : Nat} (X : CX E p l s m args meth c own cc nL) (hd : decode cc pc = .ok (.ifCond .ge off, 3)) (hc : ¬ (0 ≤ x)) (ht : (pc : Int) + off = (tgt : Int)) (K : AW E p l e R s m args below meth c nL Q hp al k n (pc + 3) L (st)) : AW E p l e R s m args below meth c nL Q hp al k n pc L (.int x :: st) := fun H locs ls h1 h2 h3 h4 => lv_if_ge X.1 X.2.1 hd ht (fun q => absurd q hc) (fun _ => K H locs ls h1 h2 h3 h4)
theorem A_icmp_ge_t {x y : Int32} {off : Int} {tgt : Nat} (X : CX E p l s m args meth c own cc nL) (hd : decode cc pc = .ok (.if_icmp .ge off, 3)) (hc : y ≤ x) (ht : (pc : Int) + off = (tgt : Int)) (K : AW E p l e R s m args below meth c nL Q hp al k n tgt L (st)) : AW E p l e R s m args below meth c nL Q hp al k n pc L (.int y :: .int x :: st) := fun H locs ls h1 h2 h3 h4 => lv_icmp_ge X.1 X.2.1 hd ht (fun _ => K H locs ls h1 h2 h3 h4) (fun q => absurd q (by first | exact not_not_intro hc | exact hc))
theorem A_icmp_ge_f {x y : Int32} {off : Int} {tgt : Nat} (X : CX E p l s m args meth c own cc nL) (hd : decode cc pc = .ok (.if_icmp .ge off, 3)) (hc : ¬ (y ≤ x)) (ht : (pc : Int) + off = (tgt : Int)) (K : AW E p l e R s m args below meth c nL Q hp al k n (pc + 3) L (st)) : AW E p l e R s m args below meth c nL Q hp al k n pc L (.int y :: .int x :: st) := fun H locs ls h1 h2 h3 h4 => lv_icmp_ge X.1 X.2.1 hd ht (fun q => absurd q hc) (fun _ => K H locs ls h1 h2 h3 h4)
theorem A_if_gt {α : Type} {e1 e2 o : α} {x : Int32} {off : Int} {tgt : Nat} (X : CX E p l s m args meth c own cc nL) (hd : decode cc pc = .ok (.ifCond .gt off, 3)) (hf : (if 0 < x then e1 else e2) = o) (ht : (pc : Int) + off = (tgt : Int)) (kt : 0 < x → e1 = o → AW E p l e R s m args below meth c nL Q hp al k n tgt L (st)) (kf : ¬ (0 < x) → e2 = o → AW E p l e R s m args below meth c nL Q hp al k n (pc + 3) L (st)) : AW E p l e R s m args below meth c nL Q hp al k n pc L (.int x :: st) := by
  by_cases hc : 0 < x
  · rw [if_pos hc] at hf
    exact fun H locs ls h1 h2 h3 h4 => lv_if_gt X.1 X.2.1 hd ht (fun _ => kt hc hf H locs ls h1 h2 h3 h4) (fun q => absurd q (by first | exact not_not_intro hc | exact hc))
  · rw [if_neg hc] at hf
    exact fun H locs ls h1 h2 h3 h4 => lv_if_gt X.1 X.2.1 hd ht (fun q => absurd q hc) (fun _ => kf hc hf H locs ls h1 h2 h3 h4)
theorem A_icmp_gt {α : Type} {e1 e2 o : α} {x y : Int32} {off : Int} {tgt : Nat} (X : CX E p l s m args meth c own cc nL) (hd : decode cc pc = .ok (.if_icmp .gt off, 3)) (hf : (if y < x then e1 else e2) = o) (ht : (pc : Int) + off = (tgt : Int)) (kt : y < x → e1 = o → AW E p l e R s m args below meth c nL Q hp al k n tgt L (st)) (kf : ¬ (y < x) → e2 = o → AW E p l e R s m args below meth c nL Q hp al k n (pc + 3) L (st)) : AW E p l e R s m args below meth c nL Q hp al k n pc L (.int y :: .int x :: st) := by
  by_cases hc : y < x
  · rw [if_pos hc] at hf
    exact fun H locs ls h1 h2 h3 h4 => lv_icmp_gt X.1 X.2.1 hd ht (fun _ => kt hc hf H locs ls h1 h2 h3 h4) (fun q => absurd hc q)
  · rw [if_neg hc] at hf
    exact fun H locs ls h1 h2 h3 h4 => lv_icmp_gt X.1 X.2.1 hd ht (fun q => absurd q hc) (fun _ => kf hc hf H locs ls h1 h2 h3 h4)
theorem A_if_gt_t {x : Int32} {off : Int} {tgt : Nat} (X : CX E p l s m args meth c own cc nL) (hd : decode cc pc = .ok (.ifCond .gt off, 3)) (hc : 0 < x) (ht : (pc : Int) + off = (tgt : Int)) (K : AW E p l e R s m args below meth c nL Q hp al k n tgt L (st)) : AW E p l e R s m args below meth c nL Q hp al k n pc L (.int x :: st) := fun H locs ls h1 h2 h3 h4 => lv_if_gt X.1 X.2.1 hd ht (fun _ => K H locs ls h1 h2 h3 h4) (fun q => absurd q (by first | exact not_not_intro hc | exact hc))
theorem A_if_gt_f {x : Int32} {off : Int} {tgt : Nat} (X : CX E p l s m args meth c own cc nL) (hd : decode cc pc = .ok (.ifCond .gt off, 3)) (hc : ¬ (0 < x)) (ht : (pc : Int) + off = (tgt : Int)) (K : AW E p l e R s m args below meth c nL Q hp al k n (pc + 3) L (st)) : AW E p l e R s m args below meth c nL Q hp al k n pc L (.int x :: st) := fun H locs ls h1 h2 h3 h4 => lv_if_gt X.1 X.2.1 hd ht (fun q => absurd q hc) (fun _ => K H locs ls h1 h2 h3 h4)
theorem A_icmp_gt_t {x y : Int32} {off : Int} {tgt : Nat} (X : CX E p l s m args meth c own cc nL) (hd : decode cc pc = .ok (.if_icmp .gt off, 3)) (hc : y < x) (ht : (pc : Int) + off = (tgt : Int)) (K : AW E p l e R s m args below meth c nL Q hp al k n tgt L (st)) : AW E p l e R s m args below meth c nL Q hp al k n pc L (.int y :: .int x :: st) := fun H locs ls h1 h2 h3 h4 => lv_icmp_gt X.1 X.2.1 hd ht (fun _ => K H locs ls h1 h2 h3 h4) (fun q => absurd q (by first | exact not_not_intro hc | exact hc))
theorem A_icmp_gt_f {x y : Int32} {off : Int} {tgt : Nat} (X : CX E p l s m args meth c own cc nL) (hd : decode cc pc = .ok (.if_icmp .gt off, 3)) (hc : ¬ (y < x)) (ht : (pc : Int) + off = (tgt : Int)) (K : AW E p l e R s m args below meth c nL Q hp al k n (pc + 3) L (st)) : AW E p l e R s m args below meth c nL Q hp al k n pc L (.int y :: .int x :: st) := fun H locs ls h1 h2 h3 h4 => lv_icmp_gt X.1 X.2.1 hd ht (fun q => absurd q hc) (fun _ => K H locs ls h1 h2 h3 h4)
theorem A_if_le {α : Type} {e1 e2 o : α} {x : Int32} {off : Int} {tgt : Nat} (X : CX E p l s m args meth c own cc nL) (hd : decode cc pc = .ok (.ifCond .le off, 3)) (hf : (if x ≤ 0 then e1 else e2) = o) (ht : (pc : Int) + off = (tgt : Int)) (kt : x ≤ 0 → e1 = o → AW E p l e R s m args below meth c nL Q hp al k n tgt L (st)) (kf : ¬ (x ≤ 0) → e2 = o → AW E p l e R s m args below meth c nL Q hp al k n (pc + 3) L (st)) : AW E p l e R s m args below meth c nL Q hp al k n pc L (.int x :: st) := by
  by_cases hc : x ≤ 0
  · rw [if_pos hc] at hf
    exact fun H locs ls h1 h2 h3 h4 => lv_if_le X.1 X.2.1 hd ht (fun _ => kt hc hf H locs ls h1 h2 h3 h4) (fun q => absurd q (by first | exact not_not_intro hc | exact hc))
  · rw [if_neg hc] at hf
    exact fun H locs ls h1 h2 h3 h4 => lv_if_le X.1 X.2.1 hd ht (fun q => absurd q hc) (fun _ => kf hc hf H locs ls h1 h2 h3 h4)
theorem A_icmp_le {α : Type} {e1 e2 o : α} {x y : Int32} {off : Int} {tgt : Nat} (X : CX E p l s m args meth c own cc nL) (hd : decode cc pc = .ok (.if_icmp .le off, 3)) (hf : (if x ≤ y then e1 else e2) = o) (ht : (pc : Int) + off = (tgt : Int)) (kt : x ≤ y → e1 = o → AW E p l e R s m args below meth c nL Q hp al k n tgt L (st)) (kf : ¬ (x ≤ y) → e2 = o → AW E p l e R s m args below meth c nL Q hp al k n (pc + 3) L (st)) : AW E p l e R s m args below meth c nL Q hp al k n pc L (.int y :: .int x :: st) := by
  by_cases hc : x ≤ y
  · rw [if_pos hc] at hf
    exact fun H locs ls h1 h2 h3 h4 => lv_icmp_le X.1 X.2.1 hd ht (fun _ => kt hc hf H locs ls h1 h2 h3 h4) (fun q => absurd hc q)
  · rw [if_neg hc] at hf
    exact fun H locs ls h1 h2 h3 h4 => lv_icmp_le X.1 X.2.1 hd ht (fun q => absurd q hc) (fun _ => kf hc hf H locs ls h1 h2 h3 h4)
theorem A_if_le_t {x : Int32} {off : Int} {tgt : Nat} (X : CX E p l s m args meth c own cc nL) (hd : decode cc pc = .ok (.ifCond .le off, 3)) (hc : x ≤ 0) (ht : (pc : Int) + off = (tgt : Int)) (K : AW E p l e R s m args below meth c nL Q hp al k n tgt L (st)) : AW E p l e R s m args below meth c nL Q hp al k n pc L (.int x :: st) := fun H locs ls h1 h2 h3 h4 => lv_if_le X.1 X.2.1 hd ht (fun _ => K H locs ls h1 h2 h3 h4) (fun q => absurd q (by first | exact not_not_intro hc | exact hc))
theorem A_if_le_f {x : Int32} {off : Int} {tgt : Nat} (X : CX E p l s m args meth c own cc nL) (hd : decode cc pc = .ok (.ifCond .le off, 3)) (hc : ¬ (x ≤ 0)) (ht : (pc : Int) + off = (tgt : Int)) (K : AW E p l e R s m args below meth c nL Q hp al k n (pc + 3) L (st)) : AW E p l e R s m args below meth c nL Q hp al k n pc L (.int x :: st) := fun H locs ls h1 h2 h3 h4 => lv_if_le X.1 X.2.1 hd ht (fun q => absurd q hc) (fun _ => K H locs ls h1 h2 h3 h4)
theorem A_icmp_le_t {x y : Int32} {off : Int} {tgt : Nat} (X : CX E p l s m args meth c own cc nL) (hd : decode cc pc = .ok (.if_icmp .le off, 3)) (hc : x ≤ y) (ht : (pc : Int) + off = (tgt : Int)) (K : AW E p l e R s m args below meth c nL Q hp al k n tgt L (st)) : AW E p l e R s m args below meth c nL Q hp al k n pc L (.int y :: .int x :: st) := fun H locs ls h1 h2 h3 h4 => lv_icmp_le X.1 X.2.1 hd ht (fun _ => K H locs ls h1 h2 h3 h4) (fun q => absurd q (by first | exact not_not_intro hc | exact hc))
theorem A_icmp_le_f {x y : Int32} {off : Int} {tgt : Nat} (X : CX E p l s m args meth c own cc nL) (hd : decode cc pc = .ok (.if_icmp .le off, 3)) (hc : ¬ (x ≤ y)) (ht : (pc : Int) + off = (tgt : Int)) (K : AW E p l e R s m args below meth c nL Q hp al k n (pc + 3) L (st)) : AW E p l e R s m args below meth c nL Q hp al k n pc L (.int y :: .int x :: st) := fun H locs ls h1 h2 h3 h4 => lv_icmp_le X.1 X.2.1 hd ht (fun q => absurd q hc) (fun _ => K H locs ls h1 h2 h3 h4)
theorem A_ifnull {x : Nat} {off : Int} (X : CX E p l s m args meth c own cc nL) (hd : decode cc pc = .ok (.ifnull off, 3)) (K : AW E p l e R s m args below meth c nL Q hp al k n (pc + 3) L (st)) : AW E p l e R s m args below meth c nL Q hp al k n pc L (.ref x :: st) := fun H locs ls h1 h2 h3 h4 => lv_ifnull X.1 X.2.1 hd (K H locs ls h1 h2 h3 h4)
theorem inb_in {i : Int32} {n : Nat} (h : inb i n = true) : vp_in i n := by
  unfold inb at h
  exact (of_decide_eq_true h : ¬ (i < 0 ∨ n ≤ i.toNatClampNeg))
theorem gd_o {α : Type} {b : Bool} {e : Option α} {o : α} (h : gd b e = some o) : b = true ∧ e = some o := by
  unfold gd at h
  by_cases hb : b = true
  · exact ⟨hb, by rw [if_pos hb] at h; exact h⟩
  · rw [if_neg hb] at h; cases h
theorem sbd_o {α β : Type} {x : Option (String ⊕ α)} {g : α → Option (String ⊕ β)} {o : String ⊕ β} (h : sbd x g = some o) : (∃ c, x = some (.inl c) ∧ .inl c = o) ∨ ∃ u, x = some (.inr u) ∧ g u = some o := by
  unfold sbd at h
  cases x with
  | none => cases h
  | some t =>
    cases t with
    | inl c => exact Or.inl ⟨c, rfl, Option.some.inj h⟩
    | inr u => exact Or.inr ⟨u, rfl, h⟩
theorem cpok_o {sp dp w : Int32} {n0 n1 : Nat} (h : cpok sp dp w n0 n1 = true) : ¬ sp < 0 ∧ ¬ dp < 0 ∧ ¬ w < 0 ∧ sp.toNatClampNeg + w.toNatClampNeg ≤ n0 ∧ dp.toNatClampNeg + w.toNatClampNeg ≤ n1 := by
  unfold cpok at h
  exact of_decide_eq_true h
theorem nz_o {y : Int32} (h : nz y = true) : ¬ y = 0 := of_decide_eq_true h
theorem bind_o {α β : Type} {x : Option α} {g : α → Option β} {o : β} (h : x.bind g = some o) : ∃ a, x = some a ∧ g a = some o := by
  cases x with
  | none => cases h
  | some a => exact ⟨a, rfl, h⟩
/-- a class of the tables: its number, its name, its fields -/
def kCls (ci : Nat) (C : String) (T : u_T) (N : Nat) (ty : Nat → FieldType) : Prop := vwCl[ci]? = some (C, T, N) ∧ (∀ w ∈ u_ws C T N, w ∈ kTB) ∧ (∀ k, k < N → parseFieldDescriptor (T k).2.2.1 = some (ty k)) ∧ ∀ a, a < N → ∀ b, b < N → a ≠ b → (T a).2.1 ≠ (T b).2.1
theorem A_get {ci : Nat} {C : String} {T : u_T} {N : Nat} {ty : Nat → FieldType} {ix a : Nat} {fs : List Value} {v : Value} (X : CX E p l s m args meth c own cc nL) (hd : decode cc pc = .ok (.getfield ix, 3)) (hc : kCls ci C T N ty) (j : Nat) (hj : j < N) (hl : Cond.fieldLink own ix (T j).1 (T j).2.1 (T j).2.2.1 ∈ kTB) (hh : hp a = some (.inr (ci, fs))) (hv : fs[j]? = some v) (K : AW E p l e R s m args below meth c nL Q hp al k n (pc + 3) L (v :: st)) : AW E p l e R s m args below meth c nL Q hp al k n pc L (.ref a :: st) := fun H locs ls h1 h2 h3 h4 => by
  obtain ⟨ws, q, g1, g2, g3, g4⟩ := h1.at hh
  exact va_get X.1 X.2.1 X.2.2.2.2.1 hc.2.1 X.2.2.2.1 X.2.2.2.2.2.1.1 g1 q g4 hc.1 j hj (X.2.2.2.2.1 _ hl) (fun _ h9 => h9) hv hd (K H locs ls h1 h2 h3 h4)
theorem A_put {ci : Nat} {C : String} {T : u_T} {N : Nat} {ty : Nat → FieldType} {ix a : Nat} {fs : List Value} {v : Value} (X : CX E p l s m args meth c own cc nL) (hd : decode cc pc = .ok (.putfield ix, 3)) (hc : kCls ci C T N ty) (j : Nat) (hj : j < N) (hl : Cond.fieldLink own ix (T j).1 (T j).2.1 (T j).2.2.1 ∈ kTB) (hh : hp a = some (.inr (ci, fs))) (hfin : (T j).2.2.2 = false) (hn : narrow (ty j) v = v) (hfit : fits (ty j) v = true) (hlen : j < fs.length) (K : ∀ hp' : Hp, hp' a = some (.inr (ci, fs.set j v)) → (∀ q, q ≠ a → hp' q = hp q) → AW E p l e R s m args below meth c nL Q hp' al k n (pc + 3) L (st)) : AW E p l e R s m args below meth c nL Q hp al k n pc L (v :: .ref a :: st) := by
  intro H locs ls h1 h2 h3 h4
  obtain ⟨ws, q, g1, g2, g3, g4⟩ := h1.at hh
  have hK := X.2.2.2.2.2.1.1
  have hap := va_apart (own := own) X.2.2.2.2.1 hc.2.1 ty hc.2.2.1 hc.2.2.2 hK hc.1
  obtain ⟨r, hr1, cell, q1, q2, q3, q4⟩ := g1 q _ g4
  have hr : r = (C, T, N) := Option.some.inj (hr1.symm.trans hc.1)
  subst hr
  obtain ⟨hS, hfc, kC, hkC, hkind⟩ := hK.1 ci _ hc.1
  obtain ⟨cf, kf, fi, f, hi, hsl⟩ := hS j hj
  have hlay := X.2.2.2.2.1 _ (hc.2.1 _ (u_in_lay hj))
  unfold u_lay at hlay
  have hst := (u_facts hfc hkC (u_lays X.2.2.2.2.1 hc.2.1 hj) hi).1
  rw [if_neg (by rw [hfin]; decide)] at hlay
  have h6 := u_store hfc hkC hkind hlay hi (hc.2.2.1 j hj) hn hfit
  refine W.putK X.1 X.2.1 (f := f) ⟨X.2.2.2.1, X.2.2.2.2.1 _ hl, ⟨_, _, _, hi⟩, hst⟩ (by rw [q2]; exact h6) q1 q3 (by rw [hsl]; exact k2_hasslot (q4 j hj)) rfl rfl hd fun H1 e1 e2 e3 => ?_
  rw [hsl] at e1 ⊢
  have g5 : ws[q]? = some (a, .inr (ci, fs)) := g4
  exact K (h_up hp a (.inr (ci, fs.set j v))) h_up_s (fun q hq => h_up_n hq) H1 _ ls (hRep.put g2 g3 g4 (g1.set g2 g4 ⟨_, hc.1, t_OB.to (V := updV (vp_V fs) j v) ⟨_, e1, q2, q3, t_set q4 hap hj v⟩ (fun i _ => vp_updV_set hlen v i)⟩ e3) (g2.set g4)) (fun z0 hz => e2.trans (h2 z0 hz)) (h3.put e2 e3 (g2.2 q _ g4)) h4
theorem A_putF {ci : Nat} {C : String} {T : u_T} {N : Nat} {ty : Nat → FieldType} {ix a : Nat} {fs : List Value} {v : Value} (X : CX E p l s m args meth c own cc nL) (hd : decode cc pc = .ok (.putfield ix, 3)) (hc : kCls ci C T N ty) (j : Nat) (hj : j < N) (hl : Cond.fieldLink own ix (T j).1 (T j).2.1 (T j).2.2.1 ∈ kTB) (hh : hp a = some (.inr (ci, fs))) (hfin : (T j).2.2.2 = true) (hi9 : meth.name = "<init>") (hw9 : (T j).1 = own) (hn : narrow (ty j) v = v) (hfit : fits (ty j) v = true) (hlen : j < fs.length) (K : ∀ hp' : Hp, hp' a = some (.inr (ci, fs.set j v)) → (∀ q, q ≠ a → hp' q = hp q) → AW E p l e R s m args below meth c nL Q hp' al k n (pc + 3) L (st)) : AW E p l e R s m args below meth c nL Q hp al k n pc L (v :: .ref a :: st) := by
  intro H locs ls h1 h2 h3 h4
  obtain ⟨ws, q, g1, g2, g3, g4⟩ := h1.at hh
  have hK := X.2.2.2.2.2.1.1
  have hap := va_apart (own := own) X.2.2.2.2.1 hc.2.1 ty hc.2.2.1 hc.2.2.2 hK hc.1
  obtain ⟨r, hr1, cell, q1, q2, q3, q4⟩ := g1 q _ g4
  have hr : r = (C, T, N) := Option.some.inj (hr1.symm.trans hc.1)
  subst hr
  obtain ⟨hS, hfc, kC, hkC, hkind⟩ := hK.1 ci _ hc.1
  obtain ⟨cf, kf, fi, f, hi, hsl⟩ := hS j hj
  have hlay := X.2.2.2.2.1 _ (hc.2.1 _ (u_in_lay hj))
  unfold u_lay at hlay
  have hst := (u_facts hfc hkC (u_lays X.2.2.2.2.1 hc.2.1 hj) hi).1
  rw [if_pos hfin] at hlay
  have hcf : m.cls = cf := by
    obtain ⟨_, _, c9, _, _, _, -, -, hf9, -, -, -, hown2, -⟩ := Cond.laysFinal_spec hlay
    have e1 : c9 = cf := by have := hi.symm.trans hf9; simp at this; exact this.1.symm
    rw [hw9] at hown2
    rw [← e1]; exact Option.some.inj (X.2.2.2.1.symm.trans hown2)
  have h6 := u_fits hfc hkC hkind (Or.inr hlay) hi (hc.2.2.1 j hj) hn hfit
  refine W.putFinK X.1 X.2.1 X.2.2.2.1 (X.2.2.2.2.1 _ hl) hi hst hcf hi9 (by rw [q2]; exact h6) q1 q3 (by rw [hsl]; exact k2_hasslot (q4 j hj)) rfl rfl hd fun H1 e1 e2 e3 => ?_
  rw [hsl] at e1 ⊢
  have g5 : ws[q]? = some (a, .inr (ci, fs)) := g4
  exact K (h_up hp a (.inr (ci, fs.set j v))) h_up_s (fun q hq => h_up_n hq) H1 _ ls (hRep.put g2 g3 g4 (g1.set g2 g4 ⟨_, hc.1, t_OB.to (V := updV (vp_V fs) j v) ⟨_, e1, q2, q3, t_set q4 hap hj v⟩ (fun i _ => vp_updV_set hlen v i)⟩ e3) (g2.set g4)) (fun z0 hz => e2.trans (h2 z0 hz)) (h3.put e2 e3 (g2.2 q _ g4)) h4
theorem A_iald {N a : Nat} {f : Nat → Int32} {i : Int32} (X : CX E p l s m args meth c own cc nL) (hd : decode cc pc = .ok (.iaload, 1)) (hh : hp a = some (.inl (kC E 0, N, .inl f))) (hin : inb i N = true) (K : AW E p l e R s m args below meth c nL Q hp al k n (pc + 1) L (.int (f i.toNatClampNeg) :: st)) : AW E p l e R s m args below meth c nL Q hp al k n pc L (.int i :: .ref a :: st) := fun H locs ls h1 h2 h3 h4 => by
  obtain ⟨ws, q, g1, g2, g3, g4⟩ := h1.at hh
  exact va_iald X.1 X.2.1 X.2.2.2.2.2.1.1 g1 q 0 g4 rfl (inb_in hin) hd (K H locs ls h1 h2 h3 h4)
theorem A_bald {N a : Nat} {f : Nat → Int32} {i : Int32} (X : CX E p l s m args meth c own cc nL) (hd : decode cc pc = .ok (.baload, 1)) (hh : hp a = some (.inl (kC E 3, N, .inl f))) (hin : inb i N = true) (K : AW E p l e R s m args below meth c nL Q hp al k n (pc + 1) L (.int (f i.toNatClampNeg) :: st)) : AW E p l e R s m args below meth c nL Q hp al k n pc L (.int i :: .ref a :: st) := fun H locs ls h1 h2 h3 h4 => by
  obtain ⟨ws, q, g1, g2, g3, g4⟩ := h1.at hh
  exact va_bald X.1 X.2.1 X.2.2.2.2.2.1.1 g1 q 3 g4 rfl (inb_in hin) hd (K H locs ls h1 h2 h3 h4)
theorem A_aald {N a : Nat} {f : Nat → Option Nat} {i : Int32} (X : CX E p l s m args meth c own cc nL) (hd : decode cc pc = .ok (.aaload, 1)) (hh : hp a = some (.inl (kC E 5, N, .inr (.inr (.inr (.inr f)))))) (hin : inb i N = true) (K : AW E p l e R s m args below meth c nL Q hp al k n (pc + 1) L (va_rf (f i.toNatClampNeg) :: st)) : AW E p l e R s m args below meth c nL Q hp al k n pc L (.int i :: .ref a :: st) := fun H locs ls h1 h2 h3 h4 => by
  obtain ⟨ws, q, g1, g2, g3, g4⟩ := h1.at hh
  exact va_aldq X.1 X.2.1 X.2.2.2.2.2.1.1 g1 q 5 g4 rfl (inb_in hin) hd (K H locs ls h1 h2 h3 h4)
theorem A_alen {N a t : Nat} {x : ((Nat → Int32) ⊕ (Nat → Int64) ⊕ (Nat → UInt32) ⊕ (Nat → UInt64) ⊕ (Nat → Option Nat))} {ft : FieldType} {v : Int32} (X : CX E p l s m args meth c own cc nL) (hd : decode cc pc = .ok (.arraylength, 1)) (hh : hp a = some (.inl (kC E t, N, x))) (ht : (kT E)[t]? = some (kC E t, ft)) (hv : Int32.ofNat N = v) (K : AW E p l e R s m args below meth c nL Q hp al k n (pc + 1) L (.int v :: st)) : AW E p l e R s m args below meth c nL Q hp al k n pc L (.ref a :: st) := fun H locs ls h1 h2 h3 h4 => by
  obtain ⟨ws, q, g1, g2, g3, g4⟩ := h1.at hh
  exact va_alen X.1 X.2.1 X.2.2.2.2.2.1.1 g1 q t g4 ht hv hd (K H locs ls h1 h2 h3 h4)
theorem A_iast {N a : Nat} {f : Nat → Int32} {i : Int32} {x : Int32} (X : CX E p l s m args meth c own cc nL) (hd : decode cc pc = .ok (.iastore, 1)) (hh : hp a = some (.inl (kC E 0, N, .inl f))) (hin : inb i N = true) (K : ∀ hp' : Hp, hp' a = some (.inl (kC E 0, N, .inl (upd f i.toNatClampNeg x))) → (∀ q, q ≠ a → hp' q = hp q) → AW E p l e R s m args below meth c nL Q hp' al k n (pc + 1) L (st)) : AW E p l e R s m args below meth c nL Q hp al k n pc L (.int x :: .int i :: .ref a :: st) := by
  intro H locs ls h1 h2 h3 h4
  obtain ⟨ws, q, g1, g2, g3, g4⟩ := h1.at hh
  refine W.iast X.1 X.2.1 (g1 q _ g4) ((X.2.2.2.2.2.1.1.2 0 _ rfl).1 N (fun j => .int (f j))) (fun q => by cases q) (by show ¬ (i < 0 ∨ (arrV _ _ _).slots.size ≤ _); rw [arrV_size]; exact inb_in hin) rfl rfl hd fun H1 e9 z oq => ?_
  refine K (h_up hp a (.inl (kC E 0, N, .inl (upd f i.toNatClampNeg x)))) h_up_s (fun q hq => h_up_n hq) H1 _ ls (hRep.put g2 g3 g4 (g1.set g2 g4 ?_ oq) (g2.set g4)) (fun z0 hz => z.trans (h2 z0 hz)) (h3.put z oq (g2.2 q _ g4)) h4
  show H1[a]? = some (vp_cell _ _)
  rw [e9]
  rw [vp_cell_i, vp_cell_i, arrV_store]
  congr 2
  funext q
  by_cases hq : q = i.toNatClampNeg
  · subst hq
    simp [updV, upd]
    try rfl
  · simp [updV, upd, hq]
theorem A_bast {N a : Nat} {f : Nat → Int32} {i : Int32} {x : Int32} (X : CX E p l s m args meth c own cc nL) (hd : decode cc pc = .ok (.bastore, 1)) (hh : hp a = some (.inl (kC E 3, N, .inl f))) (hin : inb i N = true) (K : ∀ hp' : Hp, hp' a = some (.inl (kC E 3, N, .inl (upd f i.toNatClampNeg (vp_nar .byte x)))) → (∀ q, q ≠ a → hp' q = hp q) → AW E p l e R s m args below meth c nL Q hp' al k n (pc + 1) L (st)) : AW E p l e R s m args below meth c nL Q hp al k n pc L (.int x :: .int i :: .ref a :: st) := by
  intro H locs ls h1 h2 h3 h4
  obtain ⟨ws, q, g1, g2, g3, g4⟩ := h1.at hh
  refine W.bast X.1 X.2.1 (g1 q _ g4) ((X.2.2.2.2.2.1.1.2 3 _ rfl).1 N (fun j => .int (f j))) (fun q => by cases q) (by show ¬ (i < 0 ∨ (arrV _ _ _).slots.size ≤ _); rw [arrV_size]; exact inb_in hin) rfl rfl hd fun H1 e9 z oq => ?_
  refine K (h_up hp a (.inl (kC E 3, N, .inl (upd f i.toNatClampNeg (vp_nar .byte x))))) h_up_s (fun q hq => h_up_n hq) H1 _ ls (hRep.put g2 g3 g4 (g1.set g2 g4 ?_ oq) (g2.set g4)) (fun z0 hz => z.trans (h2 z0 hz)) (h3.put z oq (g2.2 q _ g4)) h4
  show H1[a]? = some (vp_cell _ _)
  rw [e9]
  rw [vp_cell_i, vp_cell_i, arrV_store]
  congr 2
  funext q
  by_cases hq : q = i.toNatClampNeg
  · subst hq
    simp [updV, upd, vp_nar]
    try rfl
  · simp [updV, upd, hq]
theorem A_aast {N a v ci : Nat} {r : vw_C} {fs : List Value} {f : Nat → Option Nat} {i : Int32} (X : CX E p l s m args meth c own cc nL) (hd : decode cc pc = .ok (.aastore, 1)) (hh : hp a = some (.inl (kC E 5, N, .inr (.inr (.inr (.inr f)))))) (hv : hp v = some (.inr (ci, fs))) (hc : vwCl[ci]? = some r) (hr : r.1 = "DiceAudit$Hall") (hin : inb i N = true) (K : ∀ hp' : Hp, hp' a = some (.inl (kC E 5, N, .inr (.inr (.inr (.inr (va_up f i.toNatClampNeg (some v))))))) → (∀ q, q ≠ a → hp' q = hp q) → AW E p l e R s m args below meth c nL Q hp' al k n (pc + 1) L (st)) : AW E p l e R s m args below meth c nL Q hp al k n pc L (.ref v :: .int i :: .ref a :: st) := by
  intro H locs ls h1 h2 h3 h4
  obtain ⟨ws, q, g1, g2, g3, g4⟩ := h1.at hh
  obtain ⟨qk, hqk⟩ := List.getElem?_of_mem (g3 v _ hv)
  have hK := X.2.2.2.2.2.1.1
  have hlt : i.toNatClampNeg < N := Nat.not_le.mp fun q => inb_in hin (Or.inr q)
  have h0 : ¬ i < 0 := fun q => inb_in hin (Or.inl q)
  obtain ⟨r', hr', cellV, f1, f2, f3, -⟩ := g1 qk _ hqk
  have hcls := (hK.1 ci r hc).2
  obtain ⟨kA, comp, k1, k2, k3, -⟩ := (hK.2 5 _ rfl).2
  have hcomp : comp = (kD E).1 ci := Option.some.inj (k3.symm.trans (by rw [← hr]; exact hcls.1))
  subst hcomp
  obtain ⟨kC9, hkC, -⟩ := hcls.2
  refine W.aast X.1 X.2.1 (g1 q _ g4) (fun q h => by cases h) (fun h => by cases h) k1 k2 rfl hkC ⟨h0, by show _ < (arrV _ _ _).slots.size; rw [arrV_size]; exact hlt⟩ f1 (fun q h => by rw [f3] at h; cases h) (by rw [f2]; exact hkC) (by rw [f2]; exact va_assign hcls) rfl rfl hd fun H1 e9 z oq => ?_
  refine K (h_up hp a (.inl (kC E 5, N, .inr (.inr (.inr (.inr (va_up f i.toNatClampNeg (some v)))))))) h_up_s (fun q hq => h_up_n hq) H1 _ ls (hRep.put g2 g3 g4 (g1.set g2 g4 ?_ oq) (g2.set g4)) (fun z0 hz => z.trans (h2 z0 hz)) (h3.put z oq (g2.2 q _ g4)) h4
  show H1[a]? = some (vp_cell _ _)
  rw [e9]
  rw [vp_cell_q, vp_cell_q, arrV_store]
  congr 2
  funext q
  by_cases hq : q = i.toNatClampNeg
  · subst hq
    simp [updV, va_up, va_rf]
  · simp [updV, va_up, hq]
theorem A_new {ci ix z : Nat} {C : String} {T : u_T} {N : Nat} {ty : Nat → FieldType} {fs : List Value} (X : CX E p l s m args meth c own cc nL) (hd : decode cc pc = .ok (.new ix, 3)) (hc : kCls ci C T N ty) (hl : Cond.classLink own ix C ∈ kTB) (hi : Cond.instantiable C N ∈ kTB) (hj : Cond.initialized C ∈ kTB) (hfs : ∀ j, j < N → defaultValue (ty j) = vp_V fs j) (hcells : k + 1 ≤ R.cells) (hslots : n + N ≤ R.slots) (K : ∀ hp' : Hp, hp' z = some (.inr (ci, fs)) → (∀ q, q ≠ z → hp' q = hp q) → AW E p l e R s m args below meth c nL Q hp' (some (z + 1)) (k + 1) (n + N) (pc + 3) L (.ref z :: st)) : AW E p l e R s m args below meth c nL Q hp (some z) k n pc L (st) := by
  intro H locs ls h1 h2 h3 h4
  have hz := h2 z rfl
  subst hz
  obtain ⟨ws, g1, g2, g3⟩ := h1
  have hKn := X.2.2.2.2.2.1.1.1 ci _ hc.1
  refine W.newcK X.1 X.2.1 X.2.2.2.1 (X.2.2.2.2.1 _ hl) (X.2.2.2.2.1 _ hi) (X.2.2.2.2.1 _ hj) rfl hd hcells hslots hKn.2.1 rfl fun H1 kC9 hkC e1 z1 o1 => ?_
  have hk : ∀ (k : Nat) (x : Nat × va_E), ws[k]? = some x → H1[x.1]? = H[x.1]? := fun k x hx => o1 x.1 ((g1 k x hx).lt)
  refine K (h_up hp H.size (.inr (ci, fs))) h_up_s (fun q hq => h_up_n hq) H1 locs ls (hRep.push g3 ((g1.kept hk).app (fun k x hx => ?_)) (g2.push g1 rfl (Nat.le_trans X.2.2.2.2.2.2.1 h3.1))) (fun z0 hz => by cases hz; exact z1) ⟨Nat.le_trans h3.1 (by omega), fun x h5 h6 => (o1 x (Nat.lt_of_lt_of_le h5 h3.1)).trans (h3.2.1 x h5 h6), h3.2.2⟩ h4
  have hz : k < 1 := (List.getElem?_eq_some_iff.mp hx).1
  rw [show k = 0 by omega] at hx
  cases hx
  exact ⟨_, hc.1, (u_born ty X.2.2.2.2.1 hc.2.1 hKn hkC e1 hc.2.2.1).to hfs⟩
theorem A_newi {z N : Nat} {v : Int32} (X : CX E p l s m args meth c own cc nL) (hd : decode cc pc = .ok (.newarray .int, 2)) (hw : Cond.arrayClass .int ∈ kTB) (hn : ¬ v < 0) (hN : v.toNatClampNeg = N) (hby : N * componentBytes .int ≤ 536870912) (hcells : k + 1 ≤ R.cells) (hslots : n + N ≤ R.slots) (K : ∀ hp' : Hp, hp' z = some (.inl (kC E 0, N, .inl (fun _ => 0))) → (∀ q, q ≠ z → hp' q = hp q) → AW E p l e R s m args below meth c nL Q hp' (some (z + 1)) (k + 1) (n + N) (pc + 2) L (.ref z :: st)) : AW E p l e R s m args below meth c nL Q hp (some z) k n pc L (.int v :: st) := by
  intro H locs ls h1 h2 h3 h4
  have hz := h2 z rfl
  subst hz
  obtain ⟨ws, g1, g2, g3⟩ := h1
  refine va_newaK (atype := .int) X.1 X.2.1 (X.2.2.2.2.1 _ hw) rfl hd rfl hn hN hby hcells hslots rfl fun H1 cA e1 z1 o1 hAr hNm => ?_
  have hcA : cA = kC E 0 := by
    have h9 : s.vm.findClass ("[" ++ (.int : FieldType).toString) = some (kC E 0) := (X.2.2.2.2.2.1.1.2 0 _ rfl).2
    exact Option.some.inj (hNm.symm.trans h9)
  subst hcA
  have hk : ∀ (k : Nat) (x : Nat × va_E), ws[k]? = some x → H1[x.1]? = H[x.1]? := fun k x hx => o1 x.1 ((g1 k x hx).lt)
  refine K (h_up hp H.size (.inl (kC E 0, N, .inl (fun _ => 0)))) h_up_s (fun q hq => h_up_n hq) H1 locs ls (hRep.push g3 ((g1.kept hk).app (fun k x hx => ?_)) (g2.push g1 rfl (Nat.le_trans X.2.2.2.2.2.2.1 h3.1))) (fun z0 hz => by cases hz; exact z1) ⟨Nat.le_trans h3.1 (by omega), fun x h5 h6 => (o1 x (Nat.lt_of_lt_of_le h5 h3.1)).trans (h3.2.1 x h5 h6), h3.2.2⟩ h4
  have hz : k < 1 := (List.getElem?_eq_some_iff.mp hx).1
  rw [show k = 0 by omega] at hx
  cases hx
  exact e1
theorem A_newb {z N : Nat} {v : Int32} (X : CX E p l s m args meth c own cc nL) (hd : decode cc pc = .ok (.newarray .byte, 2)) (hw : Cond.arrayClass .byte ∈ kTB) (hn : ¬ v < 0) (hN : v.toNatClampNeg = N) (hby : N * componentBytes .byte ≤ 536870912) (hcells : k + 1 ≤ R.cells) (hslots : n + N ≤ R.slots) (K : ∀ hp' : Hp, hp' z = some (.inl (kC E 3, N, .inl (fun _ => 0))) → (∀ q, q ≠ z → hp' q = hp q) → AW E p l e R s m args below meth c nL Q hp' (some (z + 1)) (k + 1) (n + N) (pc + 2) L (.ref z :: st)) : AW E p l e R s m args below meth c nL Q hp (some z) k n pc L (.int v :: st) := by
  intro H locs ls h1 h2 h3 h4
  have hz := h2 z rfl
  subst hz
  obtain ⟨ws, g1, g2, g3⟩ := h1
  refine va_newaK (atype := .byte) X.1 X.2.1 (X.2.2.2.2.1 _ hw) rfl hd rfl hn hN hby hcells hslots rfl fun H1 cA e1 z1 o1 hAr hNm => ?_
  have hcA : cA = kC E 3 := by
    have h9 : s.vm.findClass ("[" ++ (.byte : FieldType).toString) = some (kC E 3) := (X.2.2.2.2.2.1.1.2 3 _ rfl).2
    exact Option.some.inj (hNm.symm.trans h9)
  subst hcA
  have hk : ∀ (k : Nat) (x : Nat × va_E), ws[k]? = some x → H1[x.1]? = H[x.1]? := fun k x hx => o1 x.1 ((g1 k x hx).lt)
  refine K (h_up hp H.size (.inl (kC E 3, N, .inl (fun _ => 0)))) h_up_s (fun q hq => h_up_n hq) H1 locs ls (hRep.push g3 ((g1.kept hk).app (fun k x hx => ?_)) (g2.push g1 rfl (Nat.le_trans X.2.2.2.2.2.2.1 h3.1))) (fun z0 hz => by cases hz; exact z1) ⟨Nat.le_trans h3.1 (by omega), fun x h5 h6 => (o1 x (Nat.lt_of_lt_of_le h5 h3.1)).trans (h3.2.1 x h5 h6), h3.2.2⟩ h4
  have hz : k < 1 := (List.getElem?_eq_some_iff.mp hx).1
  rw [show k = 0 by omega] at hx
  cases hx
  exact e1
theorem A_newq {z N ix : Nat} {v : Int32} (X : CX E p l s m args meth c own cc nL) (hd : decode cc pc = .ok (.anewarray ix, 3)) (hl : Cond.classLink own ix "DiceAudit$Hall" ∈ kTB) (hw : Cond.arrayOver (.object "DiceAudit$Hall") ∈ kTN) (hn : ¬ v < 0) (hN : v.toNatClampNeg = N) (hby : N * 4 ≤ 536870912) (hcells : k + 1 ≤ R.cells) (hslots : n + N ≤ R.slots) (K : ∀ hp' : Hp, hp' z = some (.inl (kC E 5, N, .inr (.inr (.inr (.inr (fun _ => none)))))) → (∀ q, q ≠ z → hp' q = hp q) → AW E p l e R s m args below meth c nL Q hp' (some (z + 1)) (k + 1) (n + N) (pc + 3) L (.ref z :: st)) : AW E p l e R s m args below meth c nL Q hp (some z) k n pc L (.int v :: st) := by
  intro H locs ls h1 h2 h3 h4
  have hz := h2 z rfl
  subst hz
  subst hN
  obtain ⟨ws, g1, g2, g3⟩ := h1
  refine W.anew X.1 X.2.1 X.2.2.2.1 (X.2.2.2.2.1 _ hl) (va_AO.use (X.2.2.2.2.2.1.2.2.2.2.2.1 _ hw)) rfl hd rfl hn hby hcells hslots fun cA kA comp f1 f2 f3 f4 => ?_
  have hcA : cA = kC E 5 := by
    obtain ⟨kA9, comp9, e1, e2, e3, e4⟩ := (X.2.2.2.2.2.1.1.2 5 _ rfl).2
    exact Option.some.inj (f1.symm.trans e4)
  subst hcA
  generalize hH1 : H.push ({ cls := kC E 5, slots := Array.replicate v.toNatClampNeg .null, vm := .none } : Cell) = H1
  have z1 : H1.size = H.size + 1 := by rw [← hH1, Array.size_push]
  have e1 : H1[H.size]? = some (arrV (kC E 5) v.toNatClampNeg (fun _ => .null)) := by rw [← hH1, Array.getElem?_push_size, ← arrV_new]
  have o1 : ∀ q : Nat, q < H.size → H1[q]? = H[q]? := fun q hq => by rw [← hH1, Array.getElem?_push, if_neg (Nat.ne_of_lt hq)]
  have hk : ∀ (k : Nat) (x : Nat × va_E), ws[k]? = some x → H1[x.1]? = H[x.1]? := fun k x hx => o1 x.1 ((g1 k x hx).lt)
  refine K (h_up hp H.size (.inl (kC E 5, v.toNatClampNeg, .inr (.inr (.inr (.inr (fun _ => none))))))) h_up_s (fun q hq => h_up_n hq) H1 locs ls (hRep.push g3 ((g1.kept hk).app (fun k x hx => ?_)) (g2.push g1 rfl (Nat.le_trans X.2.2.2.2.2.2.1 h3.1))) (fun z0 hz => by cases hz; exact z1) ⟨Nat.le_trans h3.1 (by omega), fun x h5 h6 => (o1 x (Nat.lt_of_lt_of_le h5 h3.1)).trans (h3.2.1 x h5 h6), h3.2.2⟩ h4
  have hz : k < 1 := (List.getElem?_eq_some_iff.mp hx).1
  rw [show k = 0 by omega] at hx
  cases hx
  show H1[H.size]? = some (vp_cell _ _)
  rw [vp_cell_q]
  exact e1
theorem A_copyi {a0 a1 n0 n1 ix : Nat} {f g : Nat → Int32} {sp dp w : Int32} (X : CX E p l s m args meth c own cc nL) (hd : decode cc pc = .ok (.invokestatic ix, 3)) (hl : Cond.methodLink own ix arraycopyName ∈ kTB) (hnat : Cond.native arraycopyName ∈ kTB) (hstat : Cond.static arraycopyName ∈ kTB) (hini : Cond.initialized "java/lang/System" ∈ kTB)
    (hh0 : hp a0 = some (.inl (kC E 0, n0, .inl f))) (hh1 : hp a1 = some (.inl (kC E 0, n1, .inl g))) (q1 : ¬ sp < 0) (q2 : ¬ dp < 0) (q3 : ¬ w < 0) (q4 : sp.toNatClampNeg + w.toNatClampNeg ≤ n0) (q5 : dp.toNatClampNeg + w.toNatClampNeg ≤ n1)
    (hframes : 1 ≤ R.frames) (hlocals : (st.map fun v => v.category).sum + (nativeFrameWords "java/lang/System" "arraycopy" 5 + 11) ≤ R.locals) 
    (K : ∀ hp' : Hp, hp' a1 = some (.inl (kC E 0, n1, .inl (va_cpy f g sp.toNatClampNeg dp.toNatClampNeg w.toNatClampNeg))) → (∀ q, q ≠ a1 → hp' q = hp q) → AW E p l e R s m args below meth c nL Q hp' al k n (pc + 3) L (st)) : AW E p l e R s m args below meth c nL Q hp al k n pc L (.int w :: .int dp :: .ref a1 :: .int sp :: .ref a0 :: st) := by
  intro H locs ls h1 h2 h3 h4
  obtain ⟨ws, q, g1, g2, g3, g4⟩ := h1.at hh1
  have nn : ∀ z : Int32, ¬ z < 0 → z.toInt = (z.toNatClampNeg : Int) := by
    intro z hz
    have hz0 : (0 : Int) ≤ z.toInt := by
      have := Int32.not_lt.mp hz
      simpa using Int32.le_iff_toInt_le.mp this
    show z.toInt = ((z.toInt.toNat : Nat) : Int)
    omega
  intro T hT X9
  have hK := X.2.2.2.2.2.1.1
  obtain ⟨q0, hq0⟩ := List.getElem?_of_mem (g3 a0 _ hh0)
  have hc0 : H[a0]? = some (vp_cell (kC E 0) (n0, .inl f)) := g1 q0 _ hq0
  have hc1 : H[a1]? = some (vp_cell (kC E 0) (n1, .inl g)) := g1 q _ g4
  obtain ⟨-, k0, hk0, cm0, hkk0⟩ := (hK.2 0 _ rfl).1 n0 (fun j => .int (f j))
  obtain ⟨-, k1, hk1, cm1, hkk1⟩ := (hK.2 0 _ rfl).1 n1 (fun j => .int (g j))
  obtain ⟨vm', X', step⟩ := X9.arraycopy X.1 X.2.2.2.1 (X.2.2.2.2.1 _ hl) (X.2.2.2.2.1 _ hnat) (X.2.2.2.2.1 _ hstat) (X.2.2.2.2.1 _ hini) (src := a0) (dst := a1) (cs := vp_cell (kC E 0) (n0, .inl f)) (cd := vp_cell (kC E 0) (n1, .inl g)) (srcPos := sp) (destPos := dp) (n := w) (by rw [hT]; exact hc0) (by rw [hT]; exact hc1)
    (fun _ h => by cases h) (fun _ h => by cases h) (fun h => by cases h) (fun h => by cases h) hk0 hk1 hkk0 hkk1 (by simp [refKind]) q1 q2 q3
    (by rw [nn sp q1, nn w q3]; show ¬ _ > ((arrV (kC E 0) n0 (fun j => .int (f j))).slots.size : Int); rw [arrV_size]; omega)
    (by rw [nn dp q2, nn w q3]; show ¬ _ > ((arrV (kC E 0) n1 (fun j => .int (g j))).slots.size : Int); rw [arrV_size]; omega)
    (fun vm₁ _ i hi => by
      have e : (vp_cell (kC E 0) (n0, .inl f)).slots.getD (sp.toNatClampNeg + i) .null = .int (f (sp.toNatClampNeg + i)) := by
        show (arrV (kC E 0) n0 (fun j => .int (f j))).slots.getD _ _ = _
        rw [Array.getD_eq_getD_getElem?, arrV_read _ _ (by omega)]
        rfl
      refine ⟨?_, ?_⟩
      · rw [e]
        rfl
      · rw [e]
        exact trivial)
    (g := F0 m pc ls (.int w :: .int dp :: .ref a1 :: .int sp :: .ref a0 :: st)) rfl (by rw [X.2.2.1]; exact h4.1) (rest := st) rfl (by rw [X.2.1]; exact hd) hframes (by show 2 * 0 + _ + _ ≤ _; omega)
  have e1 : copied (vp_cell (kC E 0) (n0, .inl f)) (vp_cell (kC E 0) (n1, .inl g)) sp dp w = vp_cell (kC E 0) (n1, .inl (va_cpy f g sp.toNatClampNeg dp.toNatClampNeg w.toNatClampNeg)) := va_copied (fun z => .int z) (kC E 0) (kC E 0) f g q4
  rw [e1] at X' step
  have hlt : a1 < H.size := (Array.getElem?_eq_some_iff.mp hc1).1
  have hheap : ((T.setVm vm').setCell a1 (vp_cell (kC E 0) (n1, .inl (va_cpy f g sp.toNatClampNeg dp.toNatClampNeg w.toNatClampNeg)))).heap = H.setIfInBounds a1 (vp_cell (kC E 0) (n1, .inl (va_cpy f g sp.toNatClampNeg dp.toNatClampNeg w.toNatClampNeg))) := by rw [← hT]; rfl
  have oq : ∀ q : Nat, q ≠ a1 → (H.setIfInBounds a1 (vp_cell (kC E 0) (n1, .inl (va_cpy f g sp.toNatClampNeg dp.toNatClampNeg w.toNatClampNeg))))[q]? = H[q]? := fun q hq => by simp [Array.getElem?_setIfInBounds, Ne.symm hq]
  obtain ⟨t, a9, b9⟩ := K (h_up hp a1 (.inl (kC E 0, n1, .inl (va_cpy f g sp.toNatClampNeg dp.toNatClampNeg w.toNatClampNeg)))) h_up_s (fun q hq => h_up_n hq) _ _ ls (hRep.put g2 g3 g4 (g1.set g2 g4 (show (H.setIfInBounds a1 _)[a1]? = some _ by simp [Array.getElem?_setIfInBounds, hlt]) oq) (g2.set g4)) (fun z0 hz => by rw [Array.size_setIfInBounds]; exact h2 z0 hz) ⟨by simp; exact h3.1, fun q8 p1 p2 => by
      rw [oq q8 (fun e => p2 (by rw [e]; exact g2.2 q _ g4))]
      exact h3.2.1 q8 p1 p2, fun q8 hq => by
      rcases List.mem_append.mp hq with h | h
      · exact h3.2.2 q8 h
      · obtain ⟨z, -, hz⟩ := List.mem_map.mp h
        rw [← hz]
        exact g2.2 q _ g4⟩ h4 _ hheap X'
  exact ⟨t, step t a9, b9⟩
theorem A_mmax {ix : Nat} {x y : Int32} (X : CX E p l s m args meth c own cc nL) (hd : decode cc pc = .ok (.invokestatic ix, 3)) (hl : Cond.methodLink own ix Lib.Math.max.name ∈ kTB) (hstat : Cond.static Lib.Math.max.name ∈ kTB) (hini : Cond.initialized "java/lang/Math" ∈ kTB) (hcode : Cond.code Lib.Math.max.name Lib.Math.max.code 2 (some .int) ∈ kTB) (hframes : 1 ≤ R.frames) (hlocals : (st.map fun v => v.category).sum + 13 ≤ R.locals) (hc : k ≤ R.cells) (hs : n ≤ R.slots) (K : AW E p l e R s m args below meth c nL Q hp al k n (pc + 3) L (.int (if x < y then y else x) :: st)) : AW E p l e R s m args below meth c nL Q hp al k n pc L (.int y :: .int x :: st) := fun H locs ls h1 h2 h3 h4 =>
  va_mmax X.1 X.2.1 (by rw [X.2.2.1]; exact h4.1.symm) X.2.2.2.1 (X.2.2.2.2.1 _ hl) (X.2.2.2.2.1 _ hstat) (X.2.2.2.2.1 _ hini) (X.2.2.2.2.1 _ hcode) hframes hlocals hc hs hd (K H locs ls h1 h2 h3 h4)
theorem A_mmin {ix : Nat} {x y : Int32} (X : CX E p l s m args meth c own cc nL) (hd : decode cc pc = .ok (.invokestatic ix, 3)) (hl : Cond.methodLink own ix Lib.Math.min.name ∈ kTB) (hstat : Cond.static Lib.Math.min.name ∈ kTB) (hini : Cond.initialized "java/lang/Math" ∈ kTB) (hcode : Cond.code Lib.Math.min.name Lib.Math.min.code 2 (some .int) ∈ kTB) (hframes : 1 ≤ R.frames) (hlocals : (st.map fun v => v.category).sum + 13 ≤ R.locals) (hc : k ≤ R.cells) (hs : n ≤ R.slots) (K : AW E p l e R s m args below meth c nL Q hp al k n (pc + 3) L (.int (if y < x then y else x) :: st)) : AW E p l e R s m args below meth c nL Q hp al k n pc L (.int y :: .int x :: st) := fun H locs ls h1 h2 h3 h4 =>
  va_mmin X.1 X.2.1 (by rw [X.2.2.1]; exact h4.1.symm) X.2.2.2.1 (X.2.2.2.2.1 _ hl) (X.2.2.2.2.1 _ hstat) (X.2.2.2.2.1 _ hini) (X.2.2.2.2.1 _ hcode) hframes hlocals hc hs hd (K H locs ls h1 h2 h3 h4)
/-- a method's start: its arguments, the run's constants, the heap -/
def kPc (E : KE) (av : List Value) (hp : Hp) (al : Option Nat) : Array Value → State → Prop := va_Pc av (fun U => kEnv E U U.heap ∧ kB E ≤ U.heap.size ∧ hRep E hp U.heap ∧ kZ al U.heap)
def kQc (E : KE) (P : Option Value → Hp → Option Nat → Prop) : Array Value → State → Outcome → State → Prop := fun _ st oc t => ∃ (v : Option Value) (hp' : Hp) (al' : Option Nat), oc = .returned v ∧ P v hp' al' ∧ hRep E hp' t.heap ∧ kZ al' t.heap ∧ va_F (kA E) st t
def kXC (E : KE) (PX : String → Hp → Prop) : String → State → State → Prop := fun C st t => ∃ hp' : Hp, PX C hp' ∧ hRep E hp' t.heap ∧ va_F (kA E) st t
/-- a method that returns -/
def AM (E : KE) (l : Launch) (y : MethodName) (cc : ByteArray) (nL : Nat) (ret : Option FieldType) (rm : Room) (av : List Value) (hp : Hp) (al : Option Nat) (P : Option Value → Hp → Option Nat → Prop) : Prop :=
  l.stackTraces = false → Met l y (Cond.code y cc nL ret :: kTB) rm (kPc E av hp al) (kQc E P) rm.cells rm.slots (kA E)
/-- a method that returns or throws -/
def AX (E : KE) (l : Launch) (y : MethodName) (cc : ByteArray) (nL : Nat) (ret : Option FieldType) (rm : Room) (av : List Value) (hp : Hp) (al : Option Nat) (P : Option Value → Hp → Option Nat → Prop) (PX : String → Hp → Prop) : Prop :=
  l.stackTraces = false → vx_Met l y (Cond.code y cc nL ret :: kTB) rm (kPc E av hp al) (kQc E P) (kXC E PX) rm.cells rm.slots (kA E)
abbrev kNo : String → Hp → Prop := fun _ _ => False
/-- a method with a table of handlers -/
def AH (E : KE) (l : Launch) (y : MethodName) (cc : ByteArray) (nL : Nat) (ret : Option FieldType) (hh : List (Nat × Nat × Nat × Nat)) (rm : Room) (av : List Value) (hp : Hp) (al : Option Nat) (P : Option Value → Hp → Option Nat → Prop) : Prop :=
  l.stackTraces = false → vx_Met l y (Cond.codeWith y cc nL ret hh :: kTB) rm (kPc E av hp al) (kQc E P) (kXC E kNo) rm.cells rm.slots (kA E)
abbrev kRet (r : Int32) (hp : Hp) (al : Option Nat) : Option Value → Hp → Option Nat → Prop := fun v hp' al' => v = some (.int r) ∧ hp = hp' ∧ al = al'
abbrev kThr {α : Type} (out : String ⊕ α) (hp : Hp) : String → Hp → Prop := fun C hp' => out = .inl C ∧ hp = hp'
theorem k_words {args : Array Value} {s : State} {w0 : Cond} (ht : ∀ w ∈ kTB, w.before args s = true) (h0 : w0 ∈ kTB) : ∀ w ∈ (w0 :: kTB), ∀ (a' : Array Value) (U : State), s.WarmedH U.vm → w.before a' U = true :=
  pay_in ht (fun w hw => by
    have hm : w ∈ kTB := by
      rcases List.mem_cons.mp hw with h | h
      · rw [h]; exact h0
      · exact h
    exact ⟨hm, good_of_word (List.mem_filter.mp hm).2⟩)
theorem kPc_blind {E : KE} {av : List Value} {hp : Hp} {al : Option Nat} : FrameBlind (kPc E av hp al) := fun a U g mk q => by
  obtain ⟨q0, q1, q2, q3, q4⟩ := q
  exact ⟨q0, q1.warm (s := U) (U := U.calling g mk a) (State.WarmedH.refl U), q2, q3, q4⟩
theorem kPc_of {E : KE} {av : List Value} {hp : Hp} {al : Option Nat} {s U : State} {H : Heap} {locs : List Loc} (hE : kEnv E s s.heap) (hB : kB E ≤ s.heap.size) (h1 : hRep E hp H) (h2 : kZ al H) (h3 : va_S (kA E) s.heap H locs) (hU : U.heap = H) (hW : s.WarmedH U.vm) : kPc E av hp al av.toArray U := by
  subst hU
  exact ⟨rfl, (hE.kept h3.2.1).warm hW, Nat.le_trans hB h3.1, h1, h2⟩
/-- a call's run: from the state at pc with As over st -/
def kRun (E : KE) (p : Program) (l : Launch) (e : Env) (R : Room) (s : State) (m : MethodId) (args : Array Value) (below : List Frame) (meth : Method) (c : Code) (nL : Nat) (hp : Hp) (al : Option Nat) (k n mc ms pc : Nat) (L : List (Nat × Value)) (st0 rest : List Value) (P : Option Value → Hp → Option Nat → Prop) : Prop :=
  ∀ (H : Heap) (locs : List Loc) (ls : Array Slot), hRep E hp H → kZ al H → va_S (kA E) s.heap H locs → lv_has ls nL L → ∃ a : Array Value, va_Run p l e R s m args below meth c H locs k n mc ms (F0 m pc ls st0) rest (kQc E P a) (kA E)
def kRunX (E : KE) (p : Program) (l : Launch) (e : Env) (R : Room) (s : State) (m : MethodId) (args : Array Value) (below : List Frame) (meth : Method) (c : Code) (nL : Nat) (hp : Hp) (al : Option Nat) (k n mc ms pc : Nat) (L : List (Nat × Value)) (st0 rest : List Value) (P : Option Value → Hp → Option Nat → Prop) (PX : String → Hp → Prop) : Prop :=
  ∀ (H : Heap) (locs : List Loc) (ls : Array Slot), hRep E hp H → kZ al H → va_S (kA E) s.heap H locs → lv_has ls nL L → ∃ a : Array Value, vx_Run p l e R s m args below meth c H locs k n mc ms (F0 m pc ls st0) rest (kQc E P a) (kXC E PX) (kA E)
/-- what a method's words say of it -/
def kYS (y : MethodName) (w0 : Cond) (np : Nat) : Prop := w0 ∈ kTB ∧ Cond.static y ∈ kTB ∧ Cond.initialized y.cls ∈ kTB ∧ (y.cls ≠ "java/lang/invoke/MethodHandle" ∧ y.cls ≠ "java/lang/invoke/VarHandle") ∧ (parseMethodDescriptor y.desc).map (fun d => d.parameters.length) = some np
def kYV (y : MethodName) (w0 : Cond) (np : Nat) : Prop := w0 ∈ kTB ∧ (Cond.instanceMethod y ∈ kTB ∧ Cond.selects y.cls y y ∈ kTB) ∧ Cond.initialized y.cls ∈ kTB ∧ (y.cls ≠ "java/lang/invoke/MethodHandle" ∧ y.cls ≠ "java/lang/invoke/VarHandle") ∧ (parseMethodDescriptor y.desc).map (fun d => d.parameters.length) = some np
def kYI (y : MethodName) (w0 : Cond) (np : Nat) : Prop := w0 ∈ kTB ∧ (Cond.instanceMethod y ∈ kTB ∧ y.name = "<init>") ∧ Cond.initialized y.cls ∈ kTB ∧ (y.cls ≠ "java/lang/invoke/MethodHandle" ∧ y.cls ≠ "java/lang/invoke/VarHandle") ∧ (parseMethodDescriptor y.desc).map (fun d => d.parameters.length) = some np
theorem k_np {y : MethodName} {np : Nat} (h : (parseMethodDescriptor y.desc).map (fun d => d.parameters.length) = some np) : ∀ sig, parseMethodDescriptor y.desc = some sig → np = sig.parameters.length := fun sig h2 => by
  rw [h2] at h
  exact (Option.some.inj h).symm
theorem A_runS {y : MethodName} {bytes : ByteArray} {maxL ix np : Nat} {ret : Option FieldType} {rm : Room} {P : Option Value → Hp → Option Nat → Prop} {As rest : List Value} (X : CX E p l s m args meth c own cc nL) (hd : decode cc pc = .ok (.invokestatic ix, 3)) (hM : AM E l y bytes maxL ret rm As hp al P) (hY : kYS y (Cond.code y bytes maxL ret) np) (hl : Cond.methodLink own ix y ∈ kTB) (hR : rm.frames + 1 ≤ R.frames ∧ 8 + (maxL + 11) + rm.locals ≤ R.locals ∧ k + rm.cells ≤ R.cells ∧ n + rm.slots ≤ R.slots) (hn : As.length = np) (hW : (rest.map fun v => v.category).sum ≤ 8) : kRun E p l e R s m args below meth c nL hp al k n rm.cells rm.slots pc L (As.reverse ++ rest) rest P := fun H locs ls h1 h2 h3 h4 =>
  ⟨As.toArray, va_runS ⟨X.1, X.2.1, X.2.2.1, X.2.2.2.1, X.2.2.2.2.1⟩ (hM X.2.2.2.2.2.2.2.2) ⟨⟨rfl, rfl, hR.1, hR.2.1, k_words X.2.2.2.2.1 hY.1, List.mem_cons_self, X.2.2.2.2.1 _ hY.1, X.2.2.2.2.1 _ hY.2.2.1, hY.2.2.2.1, k_np hY.2.2.2.2, X.2.2.2.2.1 _ hl⟩, X.2.2.2.2.1 _ hY.2.1⟩ ⟨kPc_blind, fun U hU hW9 => kPc_of X.2.2.2.2.2.1 X.2.2.2.2.2.2.1 h1 h2 h3 hU hW9⟩ rfl hn h4.1 rfl (lv_room hW) hd hR.2.2⟩
theorem A_runV {y : MethodName} {bytes : ByteArray} {maxL ix np : Nat} {ret : Option FieldType} {rm : Room} {P : Option Value → Hp → Option Nat → Prop} {b ci : Nat} {fs : List Value} {r : vw_C} {As rest : List Value} (X : CX E p l s m args meth c own cc nL) (hd : decode cc pc = .ok (.invokevirtual ix, 3)) (hM : AM E l y bytes maxL ret rm (.ref b :: As) hp al P) (hY : kYV y (Cond.code y bytes maxL ret) np) (hl : Cond.methodLink own ix y ∈ kTB) (hh : hp b = some (.inr (ci, fs))) (hc : vwCl[ci]? = some r) (hr : r.1 = y.cls) (hR : rm.frames + 1 ≤ R.frames ∧ 8 + (maxL + 11) + rm.locals ≤ R.locals ∧ k + rm.cells ≤ R.cells ∧ n + rm.slots ≤ R.slots) (hn : As.length = np) (hW : (rest.map fun v => v.category).sum ≤ 8) : kRun E p l e R s m args below meth c nL hp al k n rm.cells rm.slots pc L (As.reverse ++ .ref b :: rest) rest P := fun H locs ls h1 h2 h3 h4 => by
  obtain ⟨ws, q, g1, g2, g3, g4⟩ := h1.at hh
  obtain ⟨cell, c1, c2, c3⟩ := va_recv X.2.2.2.2.2.1.1 g1 hc g4
  exact ⟨(Value.ref b :: As).toArray, va_runV (C := y.cls) ⟨X.1, X.2.1, X.2.2.1, X.2.2.2.1, X.2.2.2.2.1⟩ (hM X.2.2.2.2.2.2.2.2) ⟨⟨rfl, rfl, hR.1, hR.2.1, k_words X.2.2.2.2.1 hY.1, List.mem_cons_self, X.2.2.2.2.1 _ hY.1, X.2.2.2.2.1 _ hY.2.2.1, hY.2.2.2.1, k_np hY.2.2.2.2, X.2.2.2.2.1 _ hl⟩, X.2.2.2.2.1 _ hY.2.1.1, X.2.2.2.2.1 _ hY.2.1.2⟩ ⟨kPc_blind, ⟨cell, c1, c2, by rw [← hr]; exact c3⟩, fun U hU hW9 => kPc_of X.2.2.2.2.2.1 X.2.2.2.2.2.2.1 h1 h2 h3 hU hW9⟩ rfl hn h4.1 rfl (lv_room hW) hd hR.2.2⟩
theorem A_runSX {y : MethodName} {bytes : ByteArray} {maxL ix np : Nat} {ret : Option FieldType} {rm : Room} {P : Option Value → Hp → Option Nat → Prop} {As rest : List Value} {PX : String → Hp → Prop} (X : CX E p l s m args meth c own cc nL) (hd : decode cc pc = .ok (.invokestatic ix, 3)) (hM : AX E l y bytes maxL ret rm As hp al P PX) (hY : kYS y (Cond.code y bytes maxL ret) np) (hl : Cond.methodLink own ix y ∈ kTB) (hR : rm.frames + 1 ≤ R.frames ∧ 8 + (maxL + 11) + rm.locals ≤ R.locals ∧ k + rm.cells ≤ R.cells ∧ n + rm.slots ≤ R.slots) (hn : As.length = np) (hW : (rest.map fun v => v.category).sum ≤ 8) : kRunX E p l e R s m args below meth c nL hp al k n rm.cells rm.slots pc L (As.reverse ++ rest) rest P PX := fun H locs ls h1 h2 h3 h4 =>
  ⟨As.toArray, vx_runS ⟨X.1, X.2.1, X.2.2.1, X.2.2.2.1, X.2.2.2.2.1⟩ (hM X.2.2.2.2.2.2.2.2) ⟨⟨rfl, rfl, hR.1, hR.2.1, k_words X.2.2.2.2.1 hY.1, List.mem_cons_self, X.2.2.2.2.1 _ hY.1, X.2.2.2.2.1 _ hY.2.2.1, hY.2.2.2.1, k_np hY.2.2.2.2, X.2.2.2.2.1 _ hl⟩, X.2.2.2.2.1 _ hY.2.1⟩ ⟨kPc_blind, fun U hU hW9 => kPc_of X.2.2.2.2.2.1 X.2.2.2.2.2.2.1 h1 h2 h3 hU hW9⟩ rfl hn h4.1 rfl (lv_room hW) hd hR.2.2⟩
theorem A_runVX {y : MethodName} {bytes : ByteArray} {maxL ix np : Nat} {ret : Option FieldType} {rm : Room} {P : Option Value → Hp → Option Nat → Prop} {b ci : Nat} {fs : List Value} {r : vw_C} {As rest : List Value} {PX : String → Hp → Prop} (X : CX E p l s m args meth c own cc nL) (hd : decode cc pc = .ok (.invokevirtual ix, 3)) (hM : AX E l y bytes maxL ret rm (.ref b :: As) hp al P PX) (hY : kYV y (Cond.code y bytes maxL ret) np) (hl : Cond.methodLink own ix y ∈ kTB) (hh : hp b = some (.inr (ci, fs))) (hc : vwCl[ci]? = some r) (hr : r.1 = y.cls) (hR : rm.frames + 1 ≤ R.frames ∧ 8 + (maxL + 11) + rm.locals ≤ R.locals ∧ k + rm.cells ≤ R.cells ∧ n + rm.slots ≤ R.slots) (hn : As.length = np) (hW : (rest.map fun v => v.category).sum ≤ 8) : kRunX E p l e R s m args below meth c nL hp al k n rm.cells rm.slots pc L (As.reverse ++ .ref b :: rest) rest P PX := fun H locs ls h1 h2 h3 h4 => by
  obtain ⟨ws, q, g1, g2, g3, g4⟩ := h1.at hh
  obtain ⟨cell, c1, c2, c3⟩ := va_recv X.2.2.2.2.2.1.1 g1 hc g4
  exact ⟨(Value.ref b :: As).toArray, vx_runV (C := y.cls) ⟨X.1, X.2.1, X.2.2.1, X.2.2.2.1, X.2.2.2.2.1⟩ (hM X.2.2.2.2.2.2.2.2) ⟨⟨rfl, rfl, hR.1, hR.2.1, k_words X.2.2.2.2.1 hY.1, List.mem_cons_self, X.2.2.2.2.1 _ hY.1, X.2.2.2.2.1 _ hY.2.2.1, hY.2.2.2.1, k_np hY.2.2.2.2, X.2.2.2.2.1 _ hl⟩, X.2.2.2.2.1 _ hY.2.1.1, X.2.2.2.2.1 _ hY.2.1.2⟩ ⟨kPc_blind, ⟨cell, c1, c2, by rw [← hr]; exact c3⟩, fun U hU hW9 => kPc_of X.2.2.2.2.2.1 X.2.2.2.2.2.2.1 h1 h2 h3 hU hW9⟩ rfl hn h4.1 rfl (lv_room hW) hd hR.2.2⟩
theorem A_runSN {y : MethodName} {bytes : ByteArray} {maxL ix np : Nat} {ret : Option FieldType} {rm : Room} {P : Option Value → Hp → Option Nat → Prop} {host : String} {As rest : List Value} (X : CX E p l s m args meth c own cc nL) (hd : decode cc pc = .ok (.invokestatic ix, 3)) (hM : AM E l y bytes maxL ret rm As hp al P) (hY : kYS y (Cond.code y bytes maxL ret) np) (hl : Cond.methodLinkNest own ix y host ∈ kTN) (hR : rm.frames + 1 ≤ R.frames ∧ 8 + (maxL + 11) + rm.locals ≤ R.locals ∧ k + rm.cells ≤ R.cells ∧ n + rm.slots ≤ R.slots) (hn : As.length = np) (hW : (rest.map fun v => v.category).sum ≤ 8) : kRun E p l e R s m args below meth c nL hp al k n rm.cells rm.slots pc L (As.reverse ++ rest) rest P := fun H locs ls h1 h2 h3 h4 =>
  ⟨As.toArray, va_runSN (host := host) ⟨X.1, X.2.1, X.2.2.1, X.2.2.2.1, X.2.2.2.2.1⟩ (hM X.2.2.2.2.2.2.2.2) ⟨⟨⟨rfl, rfl, hR.1, hR.2.1, k_words X.2.2.2.2.1 hY.1, List.mem_cons_self⟩, X.2.2.2.2.1 _ hY.1, X.2.2.2.2.1 _ hY.2.2.1, hY.2.2.2.1, k_np hY.2.2.2.2, kN_at X.2.2.2.2.2.1 hl rfl⟩, X.2.2.2.2.1 _ hY.2.1, trivial⟩ ⟨kPc_blind, fun U hU hW9 => kPc_of X.2.2.2.2.2.1 X.2.2.2.2.2.2.1 h1 h2 h3 hU hW9⟩ rfl hn h4.1 rfl (lv_room hW) hd hR.2.2⟩
theorem A_runI {y : MethodName} {bytes : ByteArray} {maxL ix np : Nat} {rm : Room} {P : Option Value → Hp → Option Nat → Prop} {b : Nat} {As rest : List Value} (X : CX E p l s m args meth c own cc nL) (hd : decode cc pc = .ok (.invokespecial ix, 3)) (hM : AM E l y bytes maxL none rm (.ref b :: As) hp al P) (hY : kYI y (Cond.code y bytes maxL none) np) (hl : Cond.methodLink own ix y ∈ kTB) (hR : rm.frames + 1 ≤ R.frames ∧ 8 + (maxL + 11) + rm.locals ≤ R.locals ∧ k + rm.cells ≤ R.cells ∧ n + rm.slots ≤ R.slots) (hn : As.length = np) (hW : (rest.map fun v => v.category).sum ≤ 8) : kRun E p l e R s m args below meth c nL hp al k n rm.cells rm.slots pc L (As.reverse ++ .ref b :: rest) rest P := fun H locs ls h1 h2 h3 h4 =>
  ⟨(Value.ref b :: As).toArray, va_runI ⟨X.1, X.2.1, X.2.2.1, X.2.2.2.1, X.2.2.2.2.1⟩ (hM X.2.2.2.2.2.2.2.2) ⟨⟨rfl, rfl, hR.1, hR.2.1, k_words X.2.2.2.2.1 hY.1, List.mem_cons_self, X.2.2.2.2.1 _ hY.1, X.2.2.2.2.1 _ hY.2.2.1, hY.2.2.2.1, k_np hY.2.2.2.2, X.2.2.2.2.1 _ hl⟩, hY.2.1.2, X.2.2.2.2.1 _ hY.2.1.1⟩ ⟨kPc_blind, fun U hU hW9 => kPc_of X.2.2.2.2.2.1 X.2.2.2.2.2.2.1 h1 h2 h3 hU hW9⟩ rfl hn h4.1 rfl (lv_room hW) hd hR.2.2⟩
theorem A_runIN {y : MethodName} {bytes : ByteArray} {maxL ix np : Nat} {rm : Room} {P : Option Value → Hp → Option Nat → Prop} {b : Nat} {host : String} {As rest : List Value} (X : CX E p l s m args meth c own cc nL) (hd : decode cc pc = .ok (.invokespecial ix, 3)) (hM : AM E l y bytes maxL none rm (.ref b :: As) hp al P) (hY : kYI y (Cond.code y bytes maxL none) np) (hl : Cond.methodLinkNest own ix y host ∈ kTN) (hR : rm.frames + 1 ≤ R.frames ∧ 8 + (maxL + 11) + rm.locals ≤ R.locals ∧ k + rm.cells ≤ R.cells ∧ n + rm.slots ≤ R.slots) (hn : As.length = np) (hW : (rest.map fun v => v.category).sum ≤ 8) : kRun E p l e R s m args below meth c nL hp al k n rm.cells rm.slots pc L (As.reverse ++ .ref b :: rest) rest P := fun H locs ls h1 h2 h3 h4 =>
  ⟨(Value.ref b :: As).toArray, va_runIN (host := host) ⟨X.1, X.2.1, X.2.2.1, X.2.2.2.1, X.2.2.2.2.1⟩ (hM X.2.2.2.2.2.2.2.2) ⟨⟨⟨rfl, rfl, hR.1, hR.2.1, k_words X.2.2.2.2.1 hY.1, List.mem_cons_self⟩, X.2.2.2.2.1 _ hY.1, X.2.2.2.2.1 _ hY.2.2.1, hY.2.2.2.1, k_np hY.2.2.2.2, kN_at X.2.2.2.2.2.1 hl rfl⟩, hY.2.1.2, X.2.2.2.2.1 _ hY.2.1.1⟩ ⟨kPc_blind, fun U hU hW9 => kPc_of X.2.2.2.2.2.1 X.2.2.2.2.2.2.1 h1 h2 h3 hU hW9⟩ rfl hn h4.1 rfl (lv_room hW) hd hR.2.2⟩
theorem A_runStr {y : MethodName} {bytes : ByteArray} {maxL ix np : Nat} {ret : Option FieldType} {rm : Room} {P : Option Value → Hp → Option Nat → Prop} {j : Nat} {As rest : List Value} (X : CX E p l s m args meth c own cc nL) (hd : decode cc pc = .ok (.invokevirtual ix, 3)) (hM : AM E l y bytes maxL ret rm (.ref (kS E j) :: As) hp al P) (hY : kYV y (Cond.code y bytes maxL ret) np) (hl : Cond.methodLink own ix y ∈ kTB) (hj : j < 10) (hr : "java/lang/String" = y.cls) (hR : rm.frames + 1 ≤ R.frames ∧ 8 + (maxL + 11) + rm.locals ≤ R.locals ∧ k + rm.cells ≤ R.cells ∧ n + rm.slots ≤ R.slots) (hn : As.length = np) (hW : (rest.map fun v => v.category).sum ≤ 8) : kRun E p l e R s m args below meth c nL hp al k n rm.cells rm.slots pc L (As.reverse ++ .ref (kS E j) :: rest) rest P := fun H locs ls h1 h2 h3 h4 => by
  obtain ⟨cell, c1, c2, c3⟩ := vk_recv X.2.2.2.2.2.1.2.2.2.2.1 hj h3
  exact ⟨(Value.ref (kS E j) :: As).toArray, va_runV (C := y.cls) ⟨X.1, X.2.1, X.2.2.1, X.2.2.2.1, X.2.2.2.2.1⟩ (hM X.2.2.2.2.2.2.2.2) ⟨⟨rfl, rfl, hR.1, hR.2.1, k_words X.2.2.2.2.1 hY.1, List.mem_cons_self, X.2.2.2.2.1 _ hY.1, X.2.2.2.2.1 _ hY.2.2.1, hY.2.2.2.1, k_np hY.2.2.2.2, X.2.2.2.2.1 _ hl⟩, X.2.2.2.2.1 _ hY.2.1.1, X.2.2.2.2.1 _ hY.2.1.2⟩ ⟨kPc_blind, ⟨cell, c1, c2, by rw [← hr]; exact c3⟩, fun U hU hW9 => kPc_of X.2.2.2.2.2.1 X.2.2.2.2.2.2.1 h1 h2 h3 hU hW9⟩ rfl hn h4.1 rfl (lv_room hW) hd hR.2.2⟩
theorem A_svalue {ix j : Nat} (X : CX E p l s m args meth c own cc nL) (hd : decode cc pc = .ok (.getfield ix, 3)) (hl : Cond.fieldLink own ix "java/lang/String" "value" "[B" ∈ kTB) (hj : j < 10) (K : AW E p l e R s m args below meth c nL Q hp al k n (pc + 3) L (.ref (kV E j) :: st)) : AW E p l e R s m args below meth c nL Q hp al k n pc L (.ref (kS E j) :: st) := fun H locs ls h1 h2 h3 h4 =>
  vk_getf X.1 X.2.1 (X.2.2.2.2.2.1.2.2.2.2.1.1 j hj).2.2.1 h3 X.2.2.2.1 (X.2.2.2.2.1 _ hl) (fun _ h => h) hd (K H locs ls h1 h2 h3 h4)
theorem A_scoder {ix j : Nat} (X : CX E p l s m args meth c own cc nL) (hd : decode cc pc = .ok (.getfield ix, 3)) (hl : Cond.fieldLink own ix "java/lang/String" "coder" "B" ∈ kTB) (hj : j < 10) (K : AW E p l e R s m args below meth c nL Q hp al k n (pc + 3) L (.int 0 :: st)) : AW E p l e R s m args below meth c nL Q hp al k n pc L (.ref (kS E j) :: st) := fun H locs ls h1 h2 h3 h4 =>
  vk_getf X.1 X.2.1 (X.2.2.2.2.2.1.2.2.2.2.1.1 j hj).2.1 h3 X.2.2.2.1 (X.2.2.2.2.1 _ hl) (fun _ h => h) hd (K H locs ls h1 h2 h3 h4)
theorem A_sblen {j : Nat} (X : CX E p l s m args meth c own cc nL) (hd : decode cc pc = .ok (.arraylength, 1)) (hj : j < 10) (K : AW E p l e R s m args below meth c nL Q hp al k n (pc + 1) L (.int (nI (kLen.getD j 0)) :: st)) : AW E p l e R s m args below meth c nL Q hp al k n pc L (.ref (kV E j) :: st) := fun H locs ls h1 h2 h3 h4 =>
  va_tlen X.1 X.2.1 (X.2.2.2.2.2.1.2.2.2.2.1.1 j hj).2.2.2 h3 rfl hd (K H locs ls h1 h2 h3 h4)
theorem A_sbald {j : Nat} {i : Int32} (X : CX E p l s m args meth c own cc nL) (hd : decode cc pc = .ok (.baload, 1)) (hj : j < 10) (hin : inb i (kLen.getD j 0) = true) (K : AW E p l e R s m args below meth c nL Q hp al k n (pc + 1) L (.int ((kByt.getD j []).getD i.toNatClampNeg 0) :: st)) : AW E p l e R s m args below meth c nL Q hp al k n pc L (.int i :: .ref (kV E j) :: st) := fun H locs ls h1 h2 h3 h4 =>
  va_tb X.1 X.2.1 (X.2.2.2.2.2.1.2.2.2.2.1.1 j hj).2.2.2 h3 (inb_in hin) rfl hd (K H locs ls h1 h2 h3 h4)
theorem A_compact {ix : Nat} (X : CX E p l s m args meth c own cc nL) (hd : decode cc pc = .ok (.getstatic ix, 3)) (hl : Cond.fieldLink own ix "java/lang/String" "COMPACT_STRINGS" "Z" ∈ kTB) (K : AW E p l e R s m args below meth c nL Q hp al k n (pc + 3) L (.int 1 :: st)) : AW E p l e R s m args below meth c nL Q hp al k n pc L (st) := fun H locs ls h1 h2 h3 h4 =>
  va_gets X.1 X.2.1 X.2.2.2.2.2.1.2.2.2.2.2.2.1 h3 X.2.2.2.1 (X.2.2.2.2.1 _ hl) (fun _ h => h) hd (K H locs ls h1 h2 h3 h4)
theorem A_sioobe {ix : Nat} (X : CX E p l s m args meth c own cc nL) (hd : decode cc pc = .ok (.getstatic ix, 3)) (hl : Cond.fieldLink own ix "jdk/internal/util/Preconditions" "SIOOBE_FORMATTER" "Ljava/util/function/BiFunction;" ∈ kTB) (K0 : AW E p l e R s m args below meth c nL Q hp al k n (pc + 3) L (.null :: st)) (K : ∀ t : Nat, AW E p l e R s m args below meth c nL Q hp al k n (pc + 3) L (.ref t :: st)) : AW E p l e R s m args below meth c nL Q hp al k n pc L (st) := fun H locs ls h1 h2 h3 h4 => by
  rcases X.2.2.2.2.2.1.2.2.2.2.2.2.2.1 with hz | ⟨t, hz⟩
  · exact va_gets X.1 X.2.1 hz h3 X.2.2.2.1 (X.2.2.2.2.1 _ hl) (fun _ h => h) hd (K0 H locs ls h1 h2 h3 h4)
  · exact va_gets X.1 X.2.1 hz h3 X.2.2.2.1 (X.2.2.2.2.1 _ hl) (fun _ h => h) hd (K t H locs ls h1 h2 h3 h4)
theorem A_i2c {x : Int32} (X : CX E p l s m args meth c own cc nL) (hd : decode cc pc = .ok (.i2c, 1))  (K : AW E p l e R s m args below meth c nL Q hp al k n (pc + 1) L (.int (x.toUInt32 % 65536).toInt32 :: st)) : AW E p l e R s m args below meth c nL Q hp al k n pc L (.int x :: st) := fun H locs ls h1 h2 h3 h4 => lv_i2c X.1 X.2.1 hd rfl (K H locs ls h1 h2 h3 h4)
theorem A_runSH {y : MethodName} {bytes : ByteArray} {maxL ix np : Nat} {ret : Option FieldType} {rm : Room} {P : Option Value → Hp → Option Nat → Prop} {hh : List (Nat × Nat × Nat × Nat)} {As rest : List Value} (X : CX E p l s m args meth c own cc nL) (hd : decode cc pc = .ok (.invokestatic ix, 3)) (hM : AH E l y bytes maxL ret hh rm As hp al P) (hY : kYS y (Cond.codeWith y bytes maxL ret hh) np) (hl : Cond.methodLink own ix y ∈ kTB) (hR : rm.frames + 1 ≤ R.frames ∧ 8 + (maxL + 11) + rm.locals ≤ R.locals ∧ k + rm.cells ≤ R.cells ∧ n + rm.slots ≤ R.slots) (hn : As.length = np) (hW : (rest.map fun v => v.category).sum ≤ 8) : kRunX E p l e R s m args below meth c nL hp al k n rm.cells rm.slots pc L (As.reverse ++ rest) rest P kNo := fun H locs ls h1 h2 h3 h4 =>
  ⟨As.toArray, vx_runSX ⟨X.1, X.2.1, X.2.2.1, X.2.2.2.1, X.2.2.2.2.1⟩ (hM X.2.2.2.2.2.2.2.2) ⟨⟨rfl, rfl, hR.1, hR.2.1, k_words X.2.2.2.2.1 hY.1, List.mem_cons_self⟩, X.2.2.2.2.1 _ hY.1, X.2.2.2.2.1 _ hY.2.2.1, hY.2.2.2.1, k_np hY.2.2.2.2, X.2.2.2.2.1 _ hl, X.2.2.2.2.1 _ hY.2.1⟩ ⟨kPc_blind, fun U hU hW9 => kPc_of X.2.2.2.2.2.1 X.2.2.2.2.2.2.1 h1 h2 h3 hU hW9⟩ rfl hn h4.1 rfl (lv_room hW) hd hR.2.2⟩
theorem A_L {L' : List (Nat × Value)} (h : L = L') (K : AW E p l e R s m args below meth c nL Q hp al k n pc L' (st)) : AW E p l e R s m args below meth c nL Q hp al k n pc L (st) := h ▸ K
theorem A_st {st' : List Value} (h : st = st') (K : AW E p l e R s m args below meth c nL Q hp al k n pc L (st')) : AW E p l e R s m args below meth c nL Q hp al k n pc L (st) := h ▸ K
theorem A_pc {pc' : Nat} (h : pc = pc') (K : AW E p l e R s m args below meth c nL Q hp al k n pc' L (st)) : AW E p l e R s m args below meth c nL Q hp al k n pc L (st) := h ▸ K
/-- behind a call that returned -/
theorem A_c {mc ms k' n' : Nat} {st0 rest : List Value} {P : Option Value → Hp → Option Nat → Prop} (hk : k + mc = k') (hn : n + ms = n') (hr : kRun E p l e R s m args below meth c nL hp al k n mc ms pc L st0 rest P)
    (K : ∀ (v : Option Value) (hp' : Hp) (al' : Option Nat), P v hp' al' → AW E p l e R s m args below meth c nL Q hp' al' k' n' (pc + 3) L (v.toList ++ rest)) : AW E p l e R s m args below meth c nL Q hp al k n pc L (st0) := by
  subst hk
  subst hn
  intro H locs ls h1 h2 h3 h4
  obtain ⟨a, hrun⟩ := hr H locs ls h1 h2 h3 h4
  intro T hT X9
  obtain ⟨v, st₀, t, T', L9, e0, X', hL, e1, e2, ⟨v', hp', al', hv, hP, r1, r2, hF⟩, st⟩ := hrun T hT X9
  cases hv
  obtain ⟨-, -, k3⟩ := vx_keep e0 e1 h3 (fun q _ h => h) (fun q h => h) hL hF
  obtain ⟨t2, a1, b1⟩ := K v hp' al' hP T'.heap (locs ++ L9) ls (by rw [e1]; exact r1) (by rw [e1]; exact r2) k3 h4 T' rfl X'
  exact ⟨t2, st t2 a1, b1⟩
/-- .. that only read, with an int -/
theorem A_cp {mc ms k' n' : Nat} {st0 rest : List Value} {r : Int32} (hr : kRun E p l e R s m args below meth c nL hp al k n mc ms pc L st0 rest (kRet r hp al)) (hk : k + mc = k') (hn : n + ms = n')
    (K : AW E p l e R s m args below meth c nL Q hp al k' n' (pc + 3) L (.int r :: rest)) : AW E p l e R s m args below meth c nL Q hp al k n pc L (st0) :=
  A_c hk hn hr (fun v hp' al' hP => by
    obtain ⟨rfl, rfl, rfl⟩ := hP
    exact K)
/-- thrown: an exception of class C over the frame at pc -/
def AT (E : KE) (p : Program) (l : Launch) (e : Env) (R : Room) (s : State) (m : MethodId) (args : Array Value) (below : List Frame) (meth : Method) (c : Code) (nL : Nat) (Q : State → Prop) (hp : Hp) (k n : Nat) (pc : Nat) (L : List (Nat × Value)) (st : List Value) (C : String) : Prop :=
  ∀ (H : Heap) (locs : List Loc) (ls : Array Slot) (q : Nat) (ce : Cell), hRep E hp H → va_S (kA E) s.heap H locs → lv_has ls nL L → H[q]? = some ce → ce.vm = .none → s.vm.findClass C = some ce.cls → vx_W p l e R s m args below meth c H locs k n Q (F0 m pc ls st) q
theorem A_cX {mc ms k' n' : Nat} {st0 rest : List Value} {P : Option Value → Hp → Option Nat → Prop} {PX : String → Hp → Prop} (hk : k + mc = k') (hn : n + ms = n') (hr : kRunX E p l e R s m args below meth c nL hp al k n mc ms pc L st0 rest P PX)
    (KX : ∀ (C : String) (hp' : Hp), PX C hp' → AT E p l e R s m args below meth c nL Q hp' k' n' pc L rest C)
    (K : ∀ (v : Option Value) (hp' : Hp) (al' : Option Nat), P v hp' al' → AW E p l e R s m args below meth c nL Q hp' al' k' n' (pc + 3) L (v.toList ++ rest)) : AW E p l e R s m args below meth c nL Q hp al k n pc L (st0) := by
  subst hk
  subst hn
  intro H locs ls h1 h2 h3 h4
  obtain ⟨a, hrun⟩ := hr H locs ls h1 h2 h3 h4
  intro T hT X9
  rcases hrun T hT X9 with ⟨v, st₀, t, T', L9, e0, X', hL, e1, e2, ⟨v', hp', al', hv, hP, r1, r2, hF⟩, st⟩ | ⟨q, st₀, t, T', L9, C, ce, e0, X', hL, e1, e2, ⟨hp', hP, r1, hF⟩, hce, hcv, hcl, st⟩
  · cases hv
    obtain ⟨-, -, k3⟩ := vx_keep e0 e1 h3 (fun q _ h => h) (fun q h => h) hL hF
    obtain ⟨t2, a1, b1⟩ := K v hp' al' hP T'.heap (locs ++ L9) ls (by rw [e1]; exact r1) (by rw [e1]; exact r2) k3 h4 T' rfl X'
    exact ⟨t2, st t2 a1, b1⟩
  · obtain ⟨-, -, k3⟩ := vx_keep e0 e1 h3 (fun q _ h => h) (fun q h => h) hL hF
    obtain ⟨t2, a1, b1⟩ := KX C hp' hP T'.heap (locs ++ L9) ls q ce (by rw [e1]; exact r1) k3 h4 (by rw [e1]; exact hce) hcv hcl T' rfl X'
    exact ⟨t2, st.trans a1, b1⟩
theorem A_cpX {mc ms k' n' : Nat} {st0 rest : List Value} {r : Int32} {PX : String → Hp → Prop} (hr : kRunX E p l e R s m args below meth c nL hp al k n mc ms pc L st0 rest (kRet r hp al) PX) (hk : k + mc = k') (hn : n + ms = n')
    (KX : ∀ (C : String) (hp' : Hp), PX C hp' → AT E p l e R s m args below meth c nL Q hp' k' n' pc L rest C)
    (K : AW E p l e R s m args below meth c nL Q hp al k' n' (pc + 3) L (.int r :: rest)) : AW E p l e R s m args below meth c nL Q hp al k n pc L (st0) :=
  A_cX hk hn hr KX (fun v hp' al' hP => by
    obtain ⟨rfl, rfl, rfl⟩ := hP
    exact K)
theorem A_iret {v : Int32} {mc ms : Nat} {P : Option Value → Hp → Option Nat → Prop} (X : CX E p l s m args meth c own cc nL) (hd : decode cc pc = .ok (.ireturn, 1)) (hr : meth.sig.returnType = some .int) (hP : P (some (.int v)) hp al) (hk : k ≤ mc) (hn : n ≤ ms) : AW E p l e R s m args below meth c nL (MQ below (kQc E P) args s mc ms (kA E)) hp al k n pc L ([.int v]) := fun H locs ls h1 h2 h3 h4 =>
  W.widen hk hn (W.iret X.1 X.2.1 hr (fun t ht hW => ⟨some (.int v), hp, al, rfl, hP, by rw [ht]; exact h1, by rw [ht]; exact h2, h3.F ht⟩) h3.2.2 hd X.2.2.2.2.2.2.2.1)
theorem A_iretX {v : Int32} {mc ms : Nat} {P : Option Value → Hp → Option Nat → Prop} {PX : String → Hp → Prop} (X : CX E p l s m args meth c own cc nL) (hd : decode cc pc = .ok (.ireturn, 1)) (hr : meth.sig.returnType = some .int) (hP : P (some (.int v)) hp al) (hk : k ≤ mc) (hn : n ≤ ms) : AW E p l e R s m args below meth c nL (vx_MQ below (kQc E P) (kXC E PX) args s mc ms (kA E)) hp al k n pc L ([.int v]) := fun H locs ls h1 h2 h3 h4 =>
  vx_ret (A_iret X hd hr hP hk hn H locs ls h1 h2 h3 h4)
theorem A_vret {mc ms : Nat} {P : Option Value → Hp → Option Nat → Prop} (X : CX E p l s m args meth c own cc nL) (hd : decode cc pc = .ok (.return_, 1)) (hr : meth.sig.returnType = none) (hP : P (none) hp al) (hk : k ≤ mc) (hn : n ≤ ms) : AW E p l e R s m args below meth c nL (MQ below (kQc E P) args s mc ms (kA E)) hp al k n pc L ([]) := fun H locs ls h1 h2 h3 h4 =>
  W.widen hk hn (W.vret X.1 X.2.1 hr (fun t ht hW => ⟨none, hp, al, rfl, hP, by rw [ht]; exact h1, by rw [ht]; exact h2, h3.F ht⟩) h3.2.2 hd X.2.2.2.2.2.2.2.1)
theorem A_vretX {mc ms : Nat} {P : Option Value → Hp → Option Nat → Prop} {PX : String → Hp → Prop} (X : CX E p l s m args meth c own cc nL) (hd : decode cc pc = .ok (.return_, 1)) (hr : meth.sig.returnType = none) (hP : P (none) hp al) (hk : k ≤ mc) (hn : n ≤ ms) : AW E p l e R s m args below meth c nL (vx_MQ below (kQc E P) (kXC E PX) args s mc ms (kA E)) hp al k n pc L ([]) := fun H locs ls h1 h2 h3 h4 =>
  vx_ret (A_vret X hd hr hP hk hn H locs ls h1 h2 h3 h4)
theorem A_zret {v : Int32} {mc ms : Nat} {P : Option Value → Hp → Option Nat → Prop} (X : CX E p l s m args meth c own cc nL) (hd : decode cc pc = .ok (.ireturn, 1)) (hr : meth.sig.returnType = some .boolean) (hz : v = 0 ∨ v = 1) (hP : P (some (.int v)) hp al) (hk : k ≤ mc) (hn : n ≤ ms) : AW E p l e R s m args below meth c nL (MQ below (kQc E P) args s mc ms (kA E)) hp al k n pc L ([.int v]) := fun H locs ls h1 h2 h3 h4 =>
  W.widen hk hn (W.zret X.1 X.2.1 hr (by rcases hz with h | h <;> (rw [h]; rfl)) (fun t ht hW => ⟨some (.int v), hp, al, rfl, hP, by rw [ht]; exact h1, by rw [ht]; exact h2, h3.F ht⟩) h3.2.2 hd X.2.2.2.2.2.2.2.1)
theorem A_zretX {v : Int32} {mc ms : Nat} {P : Option Value → Hp → Option Nat → Prop} {PX : String → Hp → Prop} (X : CX E p l s m args meth c own cc nL) (hd : decode cc pc = .ok (.ireturn, 1)) (hr : meth.sig.returnType = some .boolean) (hz : v = 0 ∨ v = 1) (hP : P (some (.int v)) hp al) (hk : k ≤ mc) (hn : n ≤ ms) : AW E p l e R s m args below meth c nL (vx_MQ below (kQc E P) (kXC E PX) args s mc ms (kA E)) hp al k n pc L ([.int v]) := fun H locs ls h1 h2 h3 h4 =>
  vx_ret (A_zret X hd hr hz hP hk hn H locs ls h1 h2 h3 h4)
theorem A_nret {v : Int32} {ft : FieldType} {mc ms : Nat} {P : Option Value → Hp → Option Nat → Prop} (X : CX E p l s m args meth c own cc nL) (hd : decode cc pc = .ok (.ireturn, 1)) (hr : meth.sig.returnType = some ft) (hz : narrow ft (.int v) = .int v) (hP : P (some (.int v)) hp al) (hk : k ≤ mc) (hn : n ≤ ms) : AW E p l e R s m args below meth c nL (MQ below (kQc E P) args s mc ms (kA E)) hp al k n pc L ([.int v]) := fun H locs ls h1 h2 h3 h4 =>
  W.widen hk hn (W.zret X.1 X.2.1 hr hz (fun t ht hW => ⟨some (.int v), hp, al, rfl, hP, by rw [ht]; exact h1, by rw [ht]; exact h2, h3.F ht⟩) h3.2.2 hd X.2.2.2.2.2.2.2.1)
theorem A_nretX {v : Int32} {ft : FieldType} {mc ms : Nat} {P : Option Value → Hp → Option Nat → Prop} {PX : String → Hp → Prop} (X : CX E p l s m args meth c own cc nL) (hd : decode cc pc = .ok (.ireturn, 1)) (hr : meth.sig.returnType = some ft) (hz : narrow ft (.int v) = .int v) (hP : P (some (.int v)) hp al) (hk : k ≤ mc) (hn : n ≤ ms) : AW E p l e R s m args below meth c nL (vx_MQ below (kQc E P) (kXC E PX) args s mc ms (kA E)) hp al k n pc L ([.int v]) := fun H locs ls h1 h2 h3 h4 =>
  vx_ret (A_nret X hd hr hz hP hk hn H locs ls h1 h2 h3 h4)
theorem A_objI {b i0 i1 ix : Nat} (X : CX E p l s m args meth c own cc nL) (hd : decode cc pc = .ok (.invokespecial ix, 3)) (hl : Cond.methodLink own ix objectInit ∈ kTB) (h0 : Cond.instanceMethod objectInit ∈ kTB) (h1 : Cond.code objectInit ⟨#[0xb1]⟩ 1 none ∈ kTB) (hf : 1 ≤ R.frames) (hlo : (st.map fun v => v.category).sum + 12 ≤ R.locals) (K : AW E p l e R s m args below meth c nL Q hp al k n (pc + 3) L (st)) : AW E p l e R s m args below meth c nL Q hp al k n pc L (.ref b :: st) := by
  intro H locs ls g1 g2 g3 g4
  exact W.objInit X.1 X.2.1 X.2.2.2.1 (X.2.2.2.2.1 _ hl) (X.2.2.2.2.1 _ h0) (X.2.2.2.2.1 _ h1) rfl (g4.1.trans X.2.2.1.symm) rfl hd hf (by show 2 * 0 + _ + _ ≤ _; omega) (K H locs ls g1 g2 g3 g4)
/-- a body, from its entry -/
theorem A_of {y : MethodName} {cc : ByteArray} {nL : Nat} {ret : Option FieldType} {rm : Room} {av : List Value} {P : Option Value → Hp → Option Nat → Prop} (hy : plainName y.cls = true) (hs : (lg_sl av).length ≤ nL)
    (body : ∀ (p : Program) (e : Env) (s : State) (m : MethodId) (args : Array Value) (below : List Frame) (meth : Method) (c : Code), CX E p l s m args meth c y.cls cc nL → meth.sig.returnType = ret → meth.name = y.name → AW E p l e rm s m args below meth c nL (MQ below (kQc E P) args s rm.cells rm.slots (kA E)) hp al 0 0 0 (lv_args 0 av) []) : AM E l y cc nL ret rm av hp al P := by
  intro hl
  refine Met.ofW (cc := cc) (maxL := nL) (ret := ret) hy rfl ?_
  intro p e s m args below meth c s₁ B hml hv
  obtain ⟨rfl, hE, hB, h1, h2⟩ := hv
  have hts := atoms_spec (ws := Cond.code y cc nL ret :: kTB) B.pre
  have hin : meth.name = y.name := (name_of_methodNamed B.named B.method).1
  rw [lg_entry_eq]
  exact body p e s m _ below meth c ⟨B.exec, B.bytes, hml, findClass_of_methodNamed B.named, fun w hw => hts w (List.mem_cons_of_mem _ hw), hE, hB, B.notSynchronized, hl⟩ B.returns hin s.heap [] _ h1 h2 va_S.rf (lv_entry av hs)
theorem A_ofX {y : MethodName} {cc : ByteArray} {nL : Nat} {ret : Option FieldType} {rm : Room} {av : List Value} {P : Option Value → Hp → Option Nat → Prop} {PX : String → Hp → Prop} (hy : plainName y.cls = true) (hs : (lg_sl av).length ≤ nL)
    (body : ∀ (p : Program) (e : Env) (s : State) (m : MethodId) (args : Array Value) (below : List Frame) (meth : Method) (c : Code), CX E p l s m args meth c y.cls cc nL → meth.sig.returnType = ret → (∀ x ∈ c.exceptionTable.toList, False) → AW E p l e rm s m args below meth c nL (vx_MQ below (kQc E P) (kXC E PX) args s rm.cells rm.slots (kA E)) hp al 0 0 0 (lv_args 0 av) []) : AX E l y cc nL ret rm av hp al P PX := by
  intro hl
  refine vx_ofW (cc := cc) (maxL := nL) (ret := ret) hy rfl ?_
  intro p e s m args below meth c s₁ B hml htb hv
  obtain ⟨rfl, hE, hB, h1, h2⟩ := hv
  have hts := atoms_spec (ws := Cond.code y cc nL ret :: kTB) B.pre
  rw [lg_entry_eq]
  exact body p e s m _ below meth c ⟨B.exec, B.bytes, hml, findClass_of_methodNamed B.named, fun w hw => hts w (List.mem_cons_of_mem _ hw), hE, hB, B.notSynchronized, hl⟩ B.returns htb s.heap [] _ h1 h2 va_S.rf (lv_entry av hs)
theorem A_ofH {y : MethodName} {cc : ByteArray} {nL : Nat} {ret : Option FieldType} {hh : List (Nat × Nat × Nat × Nat)} {rm : Room} {av : List Value} {P : Option Value → Hp → Option Nat → Prop} (hy : plainName y.cls = true) (hs : (lg_sl av).length ≤ nL)
    (body : ∀ (p : Program) (e : Env) (s : State) (m : MethodId) (args : Array Value) (below : List Frame) (meth : Method) (c : Code), CX E p l s m args meth c y.cls cc nL → meth.sig.returnType = ret → c.exceptionTable.toList = tableOf hh → AW E p l e rm s m args below meth c nL (vx_MQ below (kQc E P) (kXC E kNo) args s rm.cells rm.slots (kA E)) hp al 0 0 0 (lv_args 0 av) []) : AH E l y cc nL ret hh rm av hp al P := by
  intro hl
  refine vx_ofWH (cc := cc) (maxL := nL) (ret := ret) hy rfl ?_
  intro p e s m args below meth c s₁ B hml hv
  obtain ⟨rfl, hE, hB, h1, h2⟩ := hv
  have hts := atoms_spec (ws := Cond.codeWith y cc nL ret hh :: kTB) B.pre
  have htb := vx_table (x := y) B (hts _ List.mem_cons_self)
  rw [lg_entry_eq]
  exact body p e s m _ below meth c ⟨B.exec, B.bytes, hml, findClass_of_methodNamed B.named, fun w hw => hts w (List.mem_cons_of_mem _ hw), hE, hB, B.notSynchronized, hl⟩ B.returns htb s.heap [] _ h1 h2 va_S.rf (lv_entry av hs)
/-- an exception is caught here -/
theorem A_catch {name C : String} {Lc : List (Nat × Value)} {stc : List Value} (X : CX E p l s m args meth c own cc nL) (pre : List ExceptionTableEntry) (x : ExceptionTableEntry) (suf : List ExceptionTableEntry) (hsplit : c.exceptionTable.toList = pre ++ x :: suf)
    (hpass : ∀ z ∈ pre, covers z pc = false ∨ (z.catchType ≠ 0 ∧ ∃ nm : String, Cond.classLink own z.catchType nm ∈ kTB ∧ (C, nm) ∈ kNc)) (hx : covers x pc = true) (h0 : x.catchType ≠ 0) (hlink : Cond.classLink own x.catchType name ∈ kTB) (hcast : Cond.castable C name ∈ kTN)
    (K : ∀ q : Nat, AW E p l e R s m args below meth c nL Q hp none k n x.handlerPc L [.ref q]) : AT E p l e R s m args below meth c nL Q hp k n pc L st C := fun H locs ls q ce h1 h3 h4 hce hcv hcl =>
  vx_catch X.2.2.2.1 pre x suf hsplit (fun z hz => (hpass z hz).imp id (fun ⟨g1, nm, g2, g3⟩ => ⟨g1, nm, X.2.2.2.2.1 _ g2, X.2.2.2.2.2.1.2.2.2.2.2.2.2.2.1 _ g3⟩)) hx h0 (X.2.2.2.2.1 _ hlink) (kN_at X.2.2.2.2.2.1 hcast rfl) hce hcv hcl (K q H locs ls h1 (fun z hz => nomatch hz) h3 h4)
/-- an exception goes on to the caller -/
theorem A_out {mc ms : Nat} {C : String} {P : Option Value → Hp → Option Nat → Prop} {PX : String → Hp → Prop} (X : CX E p l s m args meth c own cc nL) (htb : ∀ x ∈ c.exceptionTable.toList, False) (hP : PX C hp) (hk : k ≤ mc) (hn : n ≤ ms) : AT E p l e R s m args below meth c nL (vx_MQ below (kQc E P) (kXC E PX) args s mc ms (kA E)) hp k n pc L st C := fun H locs ls q ce h1 h3 h4 hce hcv hcl =>
  vx_out (fun x hx => absurd hx (fun h => htb x h)) X.2.2.2.2.2.2.2.1 hce hcv hcl (fun t ht hW => ⟨hp, hP, by rw [ht]; exact h1, h3.F ht⟩) h3.2.2 hk hn
theorem kX_thrown {hp : Hp} {H : Heap} {locs : List Loc} {C : String} {PX : String → Hp → Prop} (h1 : hRep E hp H) (h3 : va_S (kA E) s.heap H locs) (hP : PX C hp) : ∀ t : State, s.vm.Alike t.vm → H.size ≤ t.heap.size → (∀ q : Nat, q < H.size → t.heap[q]? = H[q]?) → kXC E PX C s t := fun t _ hz hq =>
  ⟨hp, hP, h1.kept hq, Nat.le_trans h3.1 hz, fun q g1 g2 => (hq q (Nat.lt_of_lt_of_le g1 h3.1)).trans (h3.2.1 q g1 g2)⟩
theorem A_throwS {mc ms ik is ic j : Nat} {cls text : String} {names : List String} {P : Option Value → Hp → Option Nat → Prop} {PX : String → Hp → Prop} (X : CX E p l s m args meth c own cc nL) (htb : ∀ x ∈ c.exceptionTable.toList, False)
    (hcls : Bundle.fit cls = true) (hnames : ∀ n ∈ names, Bundle.fit n = true) (hk9 : Cond.classLink own ik cls ∈ kTB) (hini : Cond.initialized cls ∈ kTB) (hstr : (own, is, text, j) ∈ kStrs) (hat : ∀ w ∈ vx_atS own ic cls names, w ∈ kTB ∨ (w ∈ kTN ∧ w.onTables = true))
    (hgood : ∀ w ∈ Cond.classLink own ik cls :: Cond.initialized cls :: vx_atS own ic cls names, vx_ot w = true)
    (d0 : decode cc pc = .ok (.new ik, 3)) (d3 : decode cc (pc + 3) = .ok (.dup, 1)) (d4 : decode cc (pc + 4) = .ok (.ldc is, 2)) (d6 : decode cc (pc + 6) = .ok (.invokespecial ic, 3)) (d9 : decode cc (pc + 9) = .ok (.athrow, 1))
    (hRf : names.length + 3 < R.frames) (hRl : (st.map fun v => v.category).sum + (13 * (names.length + 1) + 43) ≤ R.locals) (hRc : k + 1 ≤ R.cells) (hRs : n + 6 ≤ R.slots) (hP : PX cls hp) (hmc : k + 1 ≤ mc) (hms : n + 6 ≤ ms) :
    AW E p l e R s m args below meth c nL (vx_MQ below (kQc E P) (kXC E PX) args s mc ms (kA E)) hp al k n pc L st := fun H locs ls h1 h2 h3 h4 =>
  vx_throwS X.1 X.2.1 X.2.2.2.2.2.2.2.2 X.2.2.2.1 hcls hnames (X.2.2.2.2.1 _ hk9) (X.2.2.2.2.1 _ hini) (X.2.2.2.2.2.1.2.2.2.1 _ hstr) (fun w hw => (hat w hw).elim (X.2.2.2.2.1 _) (fun q => kN_at X.2.2.2.2.2.1 q.1 q.2)) hgood X.2.2.2.2.2.1.2.1 X.2.2.2.2.2.1.2.2.1 h3 (h4.1.trans X.2.2.1.symm) d0 d3 d4 d6 d9 (fun x hx => absurd hx (fun h => htb x h)) hRf hRl hRc hRs X.2.2.2.2.2.2.2.1 (kX_thrown h1 h3 hP) h3.2.2 hmc hms
theorem A_throwSW {mc ms ik is ic j : Nat} {cls text : String} {names : List String} {P : Option Value → Hp → Option Nat → Prop} {PX : String → Hp → Prop} (X : CX E p l s m args meth c own cc nL) (htb : ∀ x ∈ c.exceptionTable.toList, False)
    (hcls : Bundle.fit cls = true) (hnames : ∀ n ∈ names, Bundle.fit n = true) (hk9 : Cond.classLink own ik cls ∈ kTB) (hini : Cond.initialized cls ∈ kTB) (hstr : (own, is, text, j) ∈ kStrs) (hat : ∀ w ∈ vx_atS own ic cls names, w ∈ kTB ∨ (w ∈ kTN ∧ w.onTables = true))
    (hgood : ∀ w ∈ Cond.classLink own ik cls :: Cond.initialized cls :: vx_atS own ic cls names, vx_ot w = true)
    (d0 : decode cc pc = .ok (.new ik, 3)) (d3 : decode cc (pc + 3) = .ok (.dup, 1)) (d4 : decode cc (pc + 4) = .ok (.ldc_w is, 3)) (d6 : decode cc (pc + 7) = .ok (.invokespecial ic, 3)) (d9 : decode cc (pc + 10) = .ok (.athrow, 1))
    (hRf : names.length + 3 < R.frames) (hRl : (st.map fun v => v.category).sum + (13 * (names.length + 1) + 43) ≤ R.locals) (hRc : k + 1 ≤ R.cells) (hRs : n + 6 ≤ R.slots) (hP : PX cls hp) (hmc : k + 1 ≤ mc) (hms : n + 6 ≤ ms) :
    AW E p l e R s m args below meth c nL (vx_MQ below (kQc E P) (kXC E PX) args s mc ms (kA E)) hp al k n pc L st := fun H locs ls h1 h2 h3 h4 =>
  vx_throwSW X.1 X.2.1 X.2.2.2.2.2.2.2.2 X.2.2.2.1 hcls hnames (X.2.2.2.2.1 _ hk9) (X.2.2.2.2.1 _ hini) (X.2.2.2.2.2.1.2.2.2.1 _ hstr) (fun w hw => (hat w hw).elim (X.2.2.2.2.1 _) (fun q => kN_at X.2.2.2.2.2.1 q.1 q.2)) hgood X.2.2.2.2.2.1.2.1 X.2.2.2.2.2.1.2.2.1 h3 (h4.1.trans X.2.2.1.symm) d0 d3 d4 d6 d9 (fun x hx => absurd hx (fun h => htb x h)) hRf hRl hRc hRs X.2.2.2.2.2.2.2.1 (kX_thrown h1 h3 hP) h3.2.2 hmc hms
end AL
