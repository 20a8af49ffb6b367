/-! the constants of the run out of what holds at the law's entry -/
theorem str_ev {args : Array Value} {s : State} {cls tx : String} {ix : Nat} (h : (Cond.stringRef cls ix tx).before args s = true) : ∃ a, (Term.string cls ix).eval args s none [] s = some (.ref a) := by
  have hcur : ∃ cur, s.vm.findClass cls = some cur := by
    have h1 := h
    simp only [Cond.before, Cond.holds, Cond.value] at h1
    cases hc : s.vm.findClass cls with
    | none => simp [hc] at h1
    | some cur => exact ⟨cur, rfl⟩
  obtain ⟨cur, hcur⟩ := hcur
  obtain ⟨k, cf, i, a, -, -, -, -, -, he⟩ := Cond.stringRef_spec hcur h
  exact ⟨a, he⟩
set_option maxRecDepth 100000 in
set_option maxHeartbeats 4000000 in
theorem kS_of {args : Array Value} {s : State} {N : Nat} {tm : Nat → Term} {len : List Nat} {byt : List (List Int32)} {A : Nat → Prop} (hN : ∀ i : Nat, i < N → len.getD i 0 < 2 ^ 31) (hex : ∀ i : Nat, i < N → (Cond.exactly (tm i) "java/lang/String").before args s = true) (hco : ∀ i : Nat, i < N → (Cond.eq (.field (tm i) "java/lang/String" "coder" "B") (.int 0)).before args s = true)
    (har : ∀ i : Nat, i < N → (Cond.arrayOf (.field (tm i) "java/lang/String" "value" "[B") .byte).before args s = true) (hle : ∀ i : Nat, i < N → (Cond.eq (.length (.field (tm i) "java/lang/String" "value" "[B")) (.int (Int32.ofNat (len.getD i 0)))).before args s = true)
    (hel : ∀ i : Nat, i < N → ∀ j : Nat, j < len.getD i 0 → (Cond.eq (.elem (.field (tm i) "java/lang/String" "value" "[B") (.int (Int32.ofNat j))) (.int ((byt.getD i []).getD j 0))).before args s = true)
    (hdf : ∀ i j : Nat, i < N → j < N → i ≠ j → Int32.ofNat (len.getD i 0) ≠ Int32.ofNat (len.getD j 0) ∨ (byt.getD i []).getD 0 0 ≠ (byt.getD j []).getD 0 0) (hl0 : ∀ i : Nat, i < N → 0 < len.getD i 0) (hA : ∀ a : Nat, a < s.heap.size → ¬ A a) :
    ∃ adK adV : Nat → Nat, vk_S N len byt adK adV A s s.heap ∧ ∀ i : Nat, i < N → (tm i).eval args s none [] s = some (.ref (adK i)) := by
  have h0 : ∀ i : Nat, ∃ q : Nat × Nat, i < N → (tm i).eval args s none [] s = some (.ref q.1) ∧ va_O "java/lang/String" q.1 A s s.heap ∧ va_OF "java/lang/String" "coder" "B" (.int 0) q.1 A s s.heap ∧ va_OF "java/lang/String" "value" "[B" (.ref q.2) q.1 A s s.heap ∧ va_T .byte q.2 (len.getD i 0) (fun j => .int ((byt.getD i []).getD j 0)) A s s.heap := by
    intro i
    by_cases hi : i < N
    · obtain ⟨K, V, h, he⟩ := vk_Sof (args := args) (s := s) (N := 1) (tm := fun _ => tm i) (len := [len.getD i 0]) (byt := [byt.getD i []]) (A := A) (fun k hk => by (obtain rfl : k = 0 := by omega); exact hN i hi) (fun k hk => hex i hi) (fun k hk => hco i hi) (fun k hk => har i hi) (fun k hk => by (obtain rfl : k = 0 := by omega); exact hle i hi) (fun k hk j hj => by (obtain rfl : k = 0 := by omega); exact hel i hi j hj) (fun i j hi hj h => absurd (by omega) h) hA
      exact ⟨(K 0, V 0), fun _ => ⟨he 0 (by omega), h.1 0 (by omega)⟩⟩
    · exact ⟨(0, 0), fun h => absurd h hi⟩
  obtain ⟨ad, had⟩ := Classical.axiomOfChoice h0
  refine ⟨fun i => (ad i).1, fun i => (ad i).2, ⟨fun i hi => (had i hi).2, fun i j hi hj e => ?_⟩, fun i hi => (had i hi).1⟩
  by_cases hij : i = j
  · exact hij
  · exfalso
    have e : (ad i).1 = (ad j).1 := e
    obtain ⟨-, -, -, ⟨cf, k, fi, f, cell, a1, a2, a3, a4, a5, a6⟩, ⟨c1, t1, t2, t3, t4, t5, t6, t7⟩⟩ := had i hi
    obtain ⟨-, -, -, ⟨cf', k', fi', f', cell', b1, b2, b3, b4, b5, b6⟩, ⟨c2, u1, u2, u3, u4, u5, u6, u7⟩⟩ := had j hj
    rw [a1] at b1
    cases b1
    rw [← e, a3] at b3
    cases b3
    rw [a5] at b5
    have hv : (ad i).2 = (ad j).2 := by injection (Option.some.inj b5)
    rw [← hv, t1] at u1
    cases u1
    rw [t5] at u5
    have h3 := t6 0 (hl0 i hi)
    rw [u6 0 (hl0 j hj)] at h3
    rcases hdf i j hi hj hij with h | h
    · exact h u5
    · exact h (by injection (Option.some.inj h3) with h4; exact h4.symm)
def kTm (i : Nat) : Term := match i with
  | 0 => .string "DiceAudit" 50
  | 1 => .string "DiceAudit$Loader" 54
  | 2 => .string "DiceAudit$Loader" 76
  | 3 => .string "DiceAudit$Loader" 81
  | 4 => .string "DiceAudit$Loader" 86
  | 5 => .string "DiceAudit$Loader" 91
  | 6 => .string "DiceAudit$Loader" 96
  | 7 => .string "DiceAudit$Loader" 101
  | 8 => .string "DiceAuditLaw" 41
  | _ => .string "DiceAuditLaw" 61
def kB10 : List (List Int32) := [[104, 97, 108, 108, 32, 49, 32, 54, 32, 51, 59, 100, 105, 101, 32, 49, 32, 49, 32, 49, 32, 49, 32, 49, 32, 49, 59, 100, 105, 101, 32, 48, 32, 49, 32, 49, 32, 52, 59, 112, 108, 97, 121, 101, 114, 32, 97, 110, 110, 59, 112, 108, 97, 121, 101, 114, 32, 98, 111, 98, 59, 112, 108, 97, 121, 101, 114, 32, 99, 105, 100, 59, 116, 104, 114, 111, 119, 32, 97, 110, 110, 32, 48, 32, 54, 59, 116, 104, 114, 111, 119, 32, 98, 111, 98, 32, 49, 32, 56, 59, 116, 104, 114, 111, 119, 32, 97, 110, 110, 32, 49, 32, 51, 59, 97, 117, 100, 105, 116, 59, 116, 104, 114, 111, 119, 32, 99, 105, 100, 32, 48, 32, 50, 59], [104, 97, 108, 108], [100, 105, 101], [112, 108, 97, 121, 101, 114], [116, 104, 114, 111, 119], [97, 117, 100, 105, 116], [97, 98, 115, 111, 108, 118, 101], [102, 111, 114, 103, 105, 118, 101], [104, 97, 108, 108, 32], [112, 108, 97, 121, 101, 114, 32, 99, 121, 59, 112, 108, 97, 121, 101, 114, 32, 97, 98, 59, 112, 108, 97, 121, 101, 114, 32, 98, 59]]
set_option maxRecDepth 100000 in
set_option maxHeartbeats 4000000 in
theorem kByt_eq : kByt = kB10 := by decide +kernel
theorem mem_dt {α : Type} {L : List α} {p n : Nat} {f : Nat → α} (h : (L.drop p).take n = (List.range n).map f) : ∀ j, j < n → f j ∈ L := fun j hj => List.mem_of_mem_drop (List.mem_of_mem_take (h ▸ List.mem_map_of_mem (List.mem_range.mpr hj)))
set_option maxRecDepth 100000 in
set_option maxHeartbeats 4000000 in
theorem kS_law {args : Array Value} {s : State} {A : Nat → Prop} (h : (Jvm.Cond.and given_1 narrow_1).before args s = true) (hA : ∀ a : Nat, a < s.heap.size → ¬ A a) : ∃ adK adV : Nat → Nat, vk_S 10 kLen kByt adK adV A s s.heap ∧ ∀ i : Nat, i < 10 → (kTm i).eval args s none [] s = some (.ref (adK i)) := by
  have hs := flat_of_before _ h
  have m1 : ∀ i : Nat, i < 10 → (Cond.exactly (kTm i) "java/lang/String") ∈ flatC (Jvm.Cond.and given_1 narrow_1) := by decide +kernel
  have m2 : ∀ i : Nat, i < 10 → (Cond.eq (.field (kTm i) "java/lang/String" "coder" "B") (.int 0)) ∈ flatC (Jvm.Cond.and given_1 narrow_1) := by decide +kernel
  have m3 : ∀ i : Nat, i < 10 → (Cond.arrayOf (.field (kTm i) "java/lang/String" "value" "[B") .byte) ∈ flatC (Jvm.Cond.and given_1 narrow_1) := by decide +kernel
  have m4 : ∀ i : Nat, i < 10 → (Cond.eq (.length (.field (kTm i) "java/lang/String" "value" "[B")) (.int (Int32.ofNat (kLen.getD i 0)))) ∈ flatC (Jvm.Cond.and given_1 narrow_1) := by decide +kernel
  have m5 : ∀ i : Nat, i < 10 → ∀ j : Nat, j < kLen.getD i 0 → (Cond.eq (.elem (.field (kTm i) "java/lang/String" "value" "[B") (.int (Int32.ofNat j))) (.int ((kByt.getD i []).getD j 0))) ∈ flatC (Jvm.Cond.and given_1 narrow_1) := by
    rw [kByt_eq]
    intro i hi
    match i, hi with
    | 0, _ => exact mem_dt (p := 253) (n := 134) (f := fun j => Cond.eq (.elem (.field (kTm 0) "java/lang/String" "value" "[B") (.int (Int32.ofNat j))) (.int ((kB10.getD 0 []).getD j 0))) (by decide +kernel)
    | 1, _ => exact mem_dt (p := 391) (n := 4) (f := fun j => Cond.eq (.elem (.field (kTm 1) "java/lang/String" "value" "[B") (.int (Int32.ofNat j))) (.int ((kB10.getD 1 []).getD j 0))) (by decide +kernel)
    | 2, _ => exact mem_dt (p := 400) (n := 3) (f := fun j => Cond.eq (.elem (.field (kTm 2) "java/lang/String" "value" "[B") (.int (Int32.ofNat j))) (.int ((kB10.getD 2 []).getD j 0))) (by decide +kernel)
    | 3, _ => exact mem_dt (p := 409) (n := 6) (f := fun j => Cond.eq (.elem (.field (kTm 3) "java/lang/String" "value" "[B") (.int (Int32.ofNat j))) (.int ((kB10.getD 3 []).getD j 0))) (by decide +kernel)
    | 4, _ => exact mem_dt (p := 422) (n := 5) (f := fun j => Cond.eq (.elem (.field (kTm 4) "java/lang/String" "value" "[B") (.int (Int32.ofNat j))) (.int ((kB10.getD 4 []).getD j 0))) (by decide +kernel)
    | 5, _ => exact mem_dt (p := 435) (n := 5) (f := fun j => Cond.eq (.elem (.field (kTm 5) "java/lang/String" "value" "[B") (.int (Int32.ofNat j))) (.int ((kB10.getD 5 []).getD j 0))) (by decide +kernel)
    | 6, _ => exact mem_dt (p := 449) (n := 7) (f := fun j => Cond.eq (.elem (.field (kTm 6) "java/lang/String" "value" "[B") (.int (Int32.ofNat j))) (.int ((kB10.getD 6 []).getD j 0))) (by decide +kernel)
    | 7, _ => exact mem_dt (p := 466) (n := 7) (f := fun j => Cond.eq (.elem (.field (kTm 7) "java/lang/String" "value" "[B") (.int (Int32.ofNat j))) (.int ((kB10.getD 7 []).getD j 0))) (by decide +kernel)
    | 8, _ => exact mem_dt (p := 641) (n := 5) (f := fun j => Cond.eq (.elem (.field (kTm 8) "java/lang/String" "value" "[B") (.int (Int32.ofNat j))) (.int ((kB10.getD 8 []).getD j 0))) (by decide +kernel)
    | 9, _ => exact mem_dt (p := 682) (n := 29) (f := fun j => Cond.eq (.elem (.field (kTm 9) "java/lang/String" "value" "[B") (.int (Int32.ofNat j))) (.int ((kB10.getD 9 []).getD j 0))) (by decide +kernel)
    | i + 10, hi => exact absurd hi (by omega)
  have m6 : ∀ i : Nat, i < 10 → ∀ j : Nat, j < 10 → i ≠ j → Int32.ofNat (kLen.getD i 0) ≠ Int32.ofNat (kLen.getD j 0) ∨ (kByt.getD i []).getD 0 0 ≠ (kByt.getD j []).getD 0 0 := by decide +kernel
  have m7 : ∀ i : Nat, i < 10 → 0 < kLen.getD i 0 ∧ kLen.getD i 0 < 2 ^ 31 := by decide +kernel
  exact kS_of (fun i hi => (m7 i hi).2) (fun i hi => hs _ (m1 i hi)) (fun i hi => hs _ (m2 i hi)) (fun i hi => hs _ (m3 i hi)) (fun i hi => hs _ (m4 i hi)) (fun i hi j hj => hs _ (m5 i hi j hj)) (fun i j hi hj hn => m6 i hi j hj hn) (fun i hi => (m7 i hi).1) hA
set_option maxRecDepth 100000 in
set_option maxHeartbeats 4000000 in
theorem kDigitOnes_law {args : Array Value} {s : State} {A : Nat → Prop} (hts : ∀ w ∈ lw_tbl, w.before args s = true) (h : (Jvm.Cond.and given_1 narrow_1).before args s = true) (hA : ∀ a : Nat, a < s.heap.size → ¬ A a) : kDg "DigitOnes" kD1 A s s.heap := by
  have hs := flat_of_before _ h
  have m1 : (Cond.arrayOf (.static "java/lang/Integer" "DigitOnes" "[B") .byte) ∈ flatC (Jvm.Cond.and given_1 narrow_1) := by decide +kernel
  have m2 : (Cond.eq (.length (.static "java/lang/Integer" "DigitOnes" "[B")) (.int (Int32.ofNat 100))) ∈ flatC (Jvm.Cond.and given_1 narrow_1) := by decide +kernel
  have m3 : ∀ j : Nat, j < 100 → (Cond.eq (.elem (.static "java/lang/Integer" "DigitOnes" "[B") (.int (Int32.ofNat j))) (.int (nI (kD1 j)))) ∈ flatC (Jvm.Cond.and given_1 narrow_1) := mem_dt (p := 14) (n := 100) (f := fun j => Cond.eq (.elem (.static "java/lang/Integer" "DigitOnes" "[B") (.int (Int32.ofNat j))) (.int (nI (kD1 j)))) (by decide +kernel)
  obtain ⟨t, ht, hT⟩ := va_Tof (N := 100) (f := fun j => .int (nI (kD1 j))) (A := A) (by decide) (hs _ m1) (va_eqv (hs _ m2) rfl) (fun j hj => va_eqv (hs _ (m3 j hj)) rfl) hA
  exact ⟨t, va_Zof (hts _ (by decide +kernel)) (hts _ (by decide +kernel)) ht hA, hT⟩
set_option maxRecDepth 100000 in
set_option maxHeartbeats 4000000 in
theorem kDigitTens_law {args : Array Value} {s : State} {A : Nat → Prop} (hts : ∀ w ∈ lw_tbl, w.before args s = true) (h : (Jvm.Cond.and given_1 narrow_1).before args s = true) (hA : ∀ a : Nat, a < s.heap.size → ¬ A a) : kDg "DigitTens" kD10 A s s.heap := by
  have hs := flat_of_before _ h
  have m1 : (Cond.arrayOf (.static "java/lang/Integer" "DigitTens" "[B") .byte) ∈ flatC (Jvm.Cond.and given_1 narrow_1) := by decide +kernel
  have m2 : (Cond.eq (.length (.static "java/lang/Integer" "DigitTens" "[B")) (.int (Int32.ofNat 100))) ∈ flatC (Jvm.Cond.and given_1 narrow_1) := by decide +kernel
  have m3 : ∀ j : Nat, j < 100 → (Cond.eq (.elem (.static "java/lang/Integer" "DigitTens" "[B") (.int (Int32.ofNat j))) (.int (nI (kD10 j)))) ∈ flatC (Jvm.Cond.and given_1 narrow_1) := mem_dt (p := 117) (n := 100) (f := fun j => Cond.eq (.elem (.static "java/lang/Integer" "DigitTens" "[B") (.int (Int32.ofNat j))) (.int (nI (kD10 j)))) (by decide +kernel)
  obtain ⟨t, ht, hT⟩ := va_Tof (N := 100) (f := fun j => .int (nI (kD10 j))) (A := A) (by decide) (hs _ m1) (va_eqv (hs _ m2) rfl) (fun j hj => va_eqv (hs _ (m3 j hj)) rfl) hA
  exact ⟨t, va_Zof (hts _ (by decide +kernel)) (hts _ (by decide +kernel)) ht hA, hT⟩
theorem k_up {s : State} {args : Array Value} {C : String} {y z : MethodName} (hy : y.cls ≠ "java/lang/invoke/MethodHandle" ∧ y.cls ≠ "java/lang/invoke/VarHandle") (he : y.cls = z.cls) (hsel : (Cond.selects C z z).before args s = true) (hpriv : (Cond.privateMethod y).before args s = true) (hinst : (Cond.instanceMethod y).before args s = true) : (Cond.selects C y y).before args s = true := by
  obtain ⟨c, r, m, hc, -, hm, -, kP, hkP, hni⟩ := Cond.selects_spec hsel
  obtain ⟨mk, methM, hnamed, hmethM, -, -⟩ := Cond.instanceMethod_spec hinst
  have hfound : s.methodFound? y.cls y.name y.desc = some mk := State.methodFound?_of_named hnamed hy
  have h1 := findClass_of_methodNamed hnamed
  rw [he, findClass_of_methodNamed hm] at h1
  have h1 : m.cls = mk.cls := Option.some.inj h1
  have hsel : selectMethod {} s.vm c mk = .method mk := selectMethod_private hmethM (Cond.privateMethod_at hpriv mk methM hnamed hmethM)
  rw [h1] at hkP
  simp only [Cond.before, Cond.holds, Cond.value, hc, hfound, hnamed, hsel, hkP]
  simp; exact hni
set_option maxRecDepth 100000 in
set_option maxHeartbeats 4000000 in
theorem kPV_law {s : State} {args : Array Value} (hts : ∀ w ∈ lw_tbl, w.before args s = true) : ∀ w ∈ kPV, w.before args s = true := by
  have hs : (Cond.selects "java/lang/StringBuilder" yJ5_isLatin1_aae02 yJ5_isLatin1_aae02).before args s = true := hts _ (List.mem_filter.mp kw_1113).1
  intro w hw
  simp only [kPV, List.mem_cons, List.not_mem_nil, or_false] at hw
  rcases hw with rfl | rfl | rfl | rfl
  · exact k_up (z := yJ5_isLatin1_aae02) (by decide +kernel) rfl hs (hts _ (List.mem_append_right _ (List.mem_of_getElem? (i := 1083) (by decide +kernel)))) (hts _ (List.mem_append_right _ (List.mem_of_getElem? (i := 1084) (by decide +kernel))))
  · exact k_up (z := yJ5_isLatin1_aae02) (by decide +kernel) rfl hs (hts _ (List.mem_append_right _ (List.mem_of_getElem? (i := 1087) (by decide +kernel)))) (hts _ (List.mem_append_right _ (List.mem_of_getElem? (i := 1088) (by decide +kernel))))
  · exact k_up (z := yJ5_isLatin1_aae02) (by decide +kernel) rfl hs (hts _ (List.mem_append_right _ (List.mem_of_getElem? (i := 1132) (by decide +kernel)))) (hts _ (List.mem_append_right _ (List.mem_of_getElem? (i := 1133) (by decide +kernel))))
  · exact k_up (z := yJ5_isLatin1_aae02) (by decide +kernel) rfl hs (hts _ (List.mem_append_right _ (List.mem_of_getElem? (i := 1136) (by decide +kernel)))) (hts _ (List.mem_append_right _ (List.mem_of_getElem? (i := 1137) (by decide +kernel))))
theorem kNW_on {w : Cond} {A : Array Value} {s : State} (g : kNW w = true) (h : w.before A s = true) : w.before #[] s = true := by
  unfold kNW at g
  split at g
  · exact va_tabs rfl rfl h
  · exact va_tabs rfl rfl h
  · exact va_AO.of h
  · unfold Cond.before at h ⊢; exact h
  · exact va_tabs rfl rfl h
  · cases g
set_option maxRecDepth 100000 in
set_option maxHeartbeats 4000000 in
theorem kR_all {s : State} {A : Array Value} {S : Nat → Nat} (hts : ∀ w ∈ lw_tbl, w.before A s = true) (he : ∀ q ∈ kStrs, (Term.string q.1 q.2.1).eval A s none [] s = some (.ref (S q.2.2.2))) : ∀ q ∈ kStrs, vk_R q.1 q.2.1 q.2.2.1 (S q.2.2.2) s := by
  have hm : ∀ q ∈ kStrs, Cond.stringRef q.1 q.2.1 q.2.2.1 ∈ lw_tbl := by decide +kernel
  exact fun q hq => vk_R.of (hts _ (hm q hq)) (he q hq)
theorem lw_of_TN {w : Cond} (h : w ∈ kTN) (g : kNW w = true ∧ w ∉ kPV) : w ∈ lw_tbl := by
  rcases List.mem_append.mp h with h | h
  · exact absurd h g.2
  · exact (List.mem_filter.mp h).1
set_option maxRecDepth 100000 in
set_option maxHeartbeats 4000000 in
theorem kE_law {s : State} {b L : Nat} {xs : Nat → Int32} (hL : L ≤ 260) (hX : va_X b L xs s s.heap) (hbl : b < s.heap.size) (hts : ∀ w ∈ lw_tbl, w.before #[Value.ref b] s = true) (hgv : (Jvm.Cond.and given_1 narrow_1).before #[Value.ref b] s = true) : ∃ E : KE, kEnv E s s.heap ∧ kB E = s.heap.size ∧ kXb E = b := by
  have hkt : ∀ w ∈ kTB, w.before #[Value.ref b] s = true := fun w hw => hts w (List.mem_filter.mp hw).1
  have hs := flat_of_before _ hgv
  have hA : ∀ a : Nat, a < s.heap.size → ¬ (fun q : Nat => s.heap.size ≤ q) a := fun a h => Nat.not_le.mpr h
  obtain ⟨K, V, hS, hK⟩ := kS_law hgv hA
  obtain ⟨c0, i0, n0⟩ := u_known hkt kcl_J0.2.1 (hkt _ kw_1225)
  obtain ⟨c1, i1, n1⟩ := u_known hkt kcl_J4.2.1 (hkt _ kw_1045)
  obtain ⟨c2, i2, n2⟩ := u_known hkt kcl_X0.2.1 (hkt _ kw_62)
  obtain ⟨c3, i3, n3⟩ := u_known hkt kcl_X1.2.1 (hkt _ kw_173)
  obtain ⟨c4, i4, n4⟩ := u_known hkt kcl_X2.2.1 (hkt _ kw_56)
  obtain ⟨c5, i5, n5⟩ := u_known hkt kcl_X3.2.1 (hkt _ kw_189)
  obtain ⟨c6, i6, n6⟩ := u_known hkt kcl_X4.2.1 (hkt _ kw_98)
  obtain ⟨c7, i7, n7⟩ := u_known hkt kcl_X5.2.1 (hkt _ kw_208)
  obtain ⟨c8, i8, n8⟩ := u_known hkt kcl_X6.2.1 (hkt _ kw_117)
  obtain ⟨c9, i9, n9⟩ := u_known hkt kcl_X7.2.1 (hkt _ kw_80)
  obtain ⟨c10, i10, n10⟩ := u_known hkt kcl_X8.2.1 (hkt _ kw_40)
  obtain ⟨c11, i11, n11⟩ := u_known hkt kcl_X9.2.1 (hkt _ kw_216)
  obtain ⟨c12, i12, n12⟩ := u_known hkt kcl_X10.2.1 (hkt _ kw_32)
  obtain ⟨c13, i13, n13⟩ := u_known hkt kcl_X11.2.1 (hkt _ kw_702)
  obtain ⟨dC, dI, hKc⟩ : ∃ (dC : Nat → ClassId) (dI : Nat → Nat → Nat), ∀ (k : Nat) (q : vw_C), vwCl[k]? = some q → u_Kn s q.1 q.2.1 q.2.2 (dC k) (dI k) := by
    refine ⟨fun k => match k with | 0 => c0 | 1 => c1 | 2 => c2 | 3 => c3 | 4 => c4 | 5 => c5 | 6 => c6 | 7 => c7 | 8 => c8 | 9 => c9 | 10 => c10 | 11 => c11 | 12 => c12 | _ => c13, fun k => match k with | 0 => i0 | 1 => i1 | 2 => i2 | 3 => i3 | 4 => i4 | 5 => i5 | 6 => i6 | 7 => i7 | 8 => i8 | 9 => i9 | 10 => i10 | 11 => i11 | 12 => i12 | _ => i13, ?_⟩
    intro k q hq
    match k, hq with
    | 0, hq => cases hq; exact n0
    | 1, hq => cases hq; exact n1
    | 2, hq => cases hq; exact n2
    | 3, hq => cases hq; exact n3
    | 4, hq => cases hq; exact n4
    | 5, hq => cases hq; exact n5
    | 6, hq => cases hq; exact n6
    | 7, hq => cases hq; exact n7
    | 8, hq => cases hq; exact n8
    | 9, hq => cases hq; exact n9
    | 10, hq => cases hq; exact n10
    | 11, hq => cases hq; exact n11
    | 12, hq => cases hq; exact n12
    | 13, hq => cases hq; exact n13
    | k + 14, hq => cases hq
  obtain ⟨ai, aih⟩ : ∃ c : ClassId, ArrOfT s c .int ∧ va_RA s c .int := by
    obtain ⟨c, k, comp, f1, f2, f3⟩ := Cond.arrayClass_spec (hkt _ kw_54)
    exact ⟨c, fun n z => ⟨fun k h => (by cases h), k, f2, comp, f3⟩, f1⟩
  obtain ⟨ab, abh⟩ : ∃ c : ClassId, ArrOfT s c .byte ∧ va_RA s c .byte := by
    obtain ⟨c, k, comp, f1, f2, f3⟩ := Cond.arrayClass_spec (hkt _ kw_671)
    exact ⟨c, fun n z => ⟨fun k h => (by cases h), k, f2, comp, f3⟩, f1⟩
  obtain ⟨aq, aqh⟩ : ∃ c : ClassId, ArrOfT s c (.object "DiceAudit$Hall") ∧ va_RA s c (.object "DiceAudit$Hall") := by
    obtain ⟨comp, c, k, g1, g2, g3, g4, g5⟩ := Cond.arrayOver_spec (hts _ (lw_of_TN kw_195 (by decide +kernel)))
    exact ⟨c, fun n z => ⟨fun k h => (by cases h), k, g3, comp, g4⟩, k, comp, g3, g4, g1, g5⟩
  obtain ⟨aa, aah⟩ : ∃ c : ClassId, ArrOfT s c (.array .int) ∧ va_RA s c (.array .int) := by
    obtain ⟨comp, c, k, g1, g2, g3, g4, g5⟩ := arrayOverA_spec (hts _ (lw_of_TN kw_708 (by decide +kernel)))
    exact ⟨c, fun n z => ⟨fun k h => (by cases h), k, g3, comp, g4⟩, g5⟩
  obtain ⟨m10, hm10⟩ := str_ev (hts (Cond.stringRef "DiceAudit" 84 "the input buffer is full") (by decide +kernel))
  obtain ⟨m11, hm11⟩ := str_ev (hts (Cond.stringRef "DiceAudit" 381 "the argument is out of range") (by decide +kernel))
  obtain ⟨m12, hm12⟩ := str_ev (hts (Cond.stringRef "DiceAudit" 97 "the text has an error") (by decide +kernel))
  obtain ⟨m13, hm13⟩ := str_ev (hts (Cond.stringRef "DiceAudit" 378 "there is none with this number") (by decide +kernel))
  obtain ⟨m14, hm14⟩ := str_ev (hts (Cond.stringRef "DiceAudit" 310 "the record would be too long") (by decide +kernel))
  obtain ⟨m15, hm15⟩ := str_ev (hts (Cond.stringRef "DiceAudit" 319 "the queue is empty") (by decide +kernel))
  obtain ⟨m16, hm16⟩ := str_ev (hts (Cond.stringRef "DiceAudit" 330 "all weights would be 0") (by decide +kernel))
  let S : Nat → Nat := fun j => match j with | 10 => m10 | 11 => m11 | 12 => m12 | 13 => m13 | 14 => m14 | 15 => m15 | 16 => m16 | j => K j
  have eS : ∀ i, i < 10 → S i = K i := fun i hi => match i, hi with | 0, _ => rfl | 1, _ => rfl | 2, _ => rfl | 3, _ => rfl | 4, _ => rfl | 5, _ => rfl | 6, _ => rfl | 7, _ => rfl | 8, _ => rfl | 9, _ => rfl | i + 10, hi => absurd hi (by omega)
  have hS2 : vk_S 10 kLen kByt S V (fun q : Nat => s.heap.size ≤ q) s s.heap := ⟨fun i hi => by rw [eS i hi]; exact hS.1 i hi, fun i j hi hj h => hS.2 i j hi hj (by rwa [eS i hi, eS j hj] at h)⟩
  have hR : ∀ q ∈ kStrs, vk_R q.1 q.2.1 q.2.2.1 (S q.2.2.2) s := by
    refine kR_all hts ?_
    intro q hq
    simp only [kStrs, List.mem_cons, List.not_mem_nil, or_false] at hq
    rcases hq with rfl | rfl | rfl | rfl | rfl | rfl | rfl | rfl | rfl | rfl | rfl | rfl | rfl | rfl | rfl | rfl | rfl | rfl
    · exact hK 0 (by omega)
    · exact hK 1 (by omega)
    · exact hK 2 (by omega)
    · exact hK 3 (by omega)
    · exact hK 4 (by omega)
    · exact hK 5 (by omega)
    · exact hK 6 (by omega)
    · exact hK 7 (by omega)
    · exact hK 8 (by omega)
    · exact va_eqR (t := kTm 2) (hs _ (by decide +kernel)) (hK 2 (by omega))
    · exact hK 9 (by omega)
    · exact hm10
    · exact hm11
    · exact hm12
    · exact hm13
    · exact hm14
    · exact hm15
    · exact hm16
  have hnc : ∀ q ∈ kNc, (Cond.not (.castable q.1 q.2)) ∈ flatC (Jvm.Cond.and given_1 narrow_1) := by decide +kernel
  have hT : ∀ (k : Nat) (q : ClassId × FieldType), ([(ai, .int), (ai, .int), (ai, .int), (ab, .byte), (ai, .int), (aq, .object "DiceAudit$Hall"), (aa, .array .int)] : List (ClassId × FieldType))[k]? = some q → ArrOfT s q.1 q.2 ∧ va_RA s q.1 q.2 := by
    intro k q hq
    match k, hq with
    | 0, hq => cases hq; exact aih
    | 1, hq => cases hq; exact aih
    | 2, hq => cases hq; exact aih
    | 3, hq => cases hq; exact abh
    | 4, hq => cases hq; exact aih
    | 5, hq => cases hq; exact aqh
    | 6, hq => cases hq; exact aah
    | k + 7, hq => cases hq
  have hN : ∀ w ∈ kTN, w.before #[] s = true := fun w hw => by
    rcases List.mem_append.mp hw with hw | hw
    · have hg : (w.onTables && w.keeps) = true := kPV_good w hw
      exact va_tabs (Bool.and_eq_true_iff.mp hg).1 rfl (kPV_law hts w hw)
    · exact kNW_on (List.mem_filter.mp hw).2 (hts w (List.mem_filter.mp hw).1)
  refine ⟨((dC, dI), (fun k => match k with | 3 => ab | 5 => aq | 6 => aa | _ => ai), s.heap.size, S, V, b, L, xs), ⟨⟨hKc, hT⟩, ?_, ?_, hR, hS2, hN, ?_, ?_, fun q hq => va_Nc.of (hs _ (hnc q hq)), kDigitOnes_law hts hgv hA, kDigitTens_law hts hgv hA, hX, Nat.not_le.mpr hbl, hL⟩, rfl, rfl⟩
  · exact vx_Zqof (hts _ (by decide +kernel)) (hts _ (by decide +kernel)) (hs _ (by decide +kernel)) hA
  · exact vx_Zqof (hts _ (by decide +kernel)) (hts _ (by decide +kernel)) (hs _ (by decide +kernel)) hA
  · exact va_Zof (hts _ (by decide +kernel)) (hts _ (by decide +kernel)) (va_eqi (hs _ (by decide +kernel))) hA
  · exact va_Zqof (hts _ (by decide +kernel)) (hts _ (by decide +kernel)) (hs _ (by decide +kernel)) hA
