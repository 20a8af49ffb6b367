/-! no answer of the class or of the model is a NaN -/
def fpG (f : FP.Core.Fmt) : FP.Core.Datum → Prop
  | .nan => False
  | .inf _ => True
  | .fin _ c q => c < 2 ^ f.p ∧ f.qmin ≤ q ∧ q ≤ f.qmax
theorem fp_round {f : FP.Core.Fmt} (hq : f.qmin ≤ f.qmax) (ht : f.tails < 2 ^ f.p) (h0 : 0 < 2 ^ f.p) {s : Bool} {n d : Nat} {e : Int} : fpG f (FP.Core.roundRatio f s n d e) := by
  have hb : ∀ (c : Nat) (q : Int), c < 2 ^ f.p → f.qmin ≤ q → fpG f (FP.Core.bound f s c q) := fun c q h1 h2 => by
    unfold FP.Core.bound
    by_cases h : q ≤ f.qmax
    · rw [if_pos h]
      exact ⟨h1, h2, h⟩
    · rw [if_neg h]
      trivial
  unfold FP.Core.roundRatio
  by_cases h : n = 0
  · rw [if_pos h]
    exact ⟨h0, Int.le_refl _, hq⟩
  · rw [if_neg h]
    have h3 : f.qmin ≤ FP.Core.quantum f n d e := by
      unfold FP.Core.quantum
      exact Int.le_max_left _ _
    unfold FP.Core.roundAt FP.Core.settle
    split
    · rename_i h4
      exact hb _ _ h4 h3
    · exact hb _ _ ht (by omega)
theorem fp_enc {f : FP.Core.Fmt} {T E : Nat} (hT : f.tails = T) (hE : f.exps = E) (hp : 2 ^ f.p = 2 * T) (hT0 : 0 < T) (h2 : 2 ≤ E) (hq : f.qmax - f.qmin + 2 < (E : Int)) {d : FP.Core.Datum} (hd : fpG f d) : ∃ s e t : Nat, s ≤ 1 ∧ FP.Core.encode f d = (s * E + e) * T + t ∧ e < E ∧ t < T ∧ (e = E - 1 → t = 0) := by
  have hs : ∀ b : Bool, b.toNat ≤ 1 := fun b => by cases b <;> decide
  cases d with
  | nan => exact hd.elim
  | inf s =>
    refine ⟨s.toNat, E - 1, 0, hs s, ?_, by omega, by omega, fun _ => rfl⟩
    unfold FP.Core.encode FP.Core.assemble
    rw [hT, hE]
  | fin s c q =>
    obtain ⟨h3, h4, h5⟩ := hd
    rw [hp] at h3
    by_cases h : c < T
    · refine ⟨s.toNat, 0, c, hs s, ?_, by omega, h, fun h6 => by omega⟩
      show (if c < f.tails then FP.Core.assemble f s 0 c else FP.Core.assemble f s ((q - f.qmin).toNat + 1) (c - f.tails)) = _
      rw [hT, if_pos h]
      unfold FP.Core.assemble
      rw [hT, hE]
    · refine ⟨s.toNat, (q - f.qmin).toNat + 1, c - T, hs s, ?_, by omega, by omega, fun h6 => by omega⟩
      show (if c < f.tails then FP.Core.assemble f s 0 c else FP.Core.assemble f s ((q - f.qmin).toNat + 1) (c - f.tails)) = _
      rw [hT, if_neg h]
      unfold FP.Core.assemble
      rw [hT, hE]
theorem fp_dec {f : FP.Core.Fmt} {T E : Nat} (hT : f.tails = T) (hE : f.exps = E) (hT0 : 0 < T) {s e t : Nat} (he : e < E) (ht : t < T) (h0 : e = E - 1 → t = 0) : FP.Core.decode f ((s * E + e) * T + t) ≠ .nan := by
  have h1 : ((s * E + e) * T + t) / T = s * E + e := by
    rw [Nat.add_comm, Nat.add_mul_div_right _ _ hT0, Nat.div_eq_of_lt ht, Nat.zero_add]
  have h2 : FP.Core.fieldE f ((s * E + e) * T + t) = e := by
    unfold FP.Core.fieldE
    rw [hT, hE, h1, Nat.add_comm, Nat.add_mul_mod_self_right, Nat.mod_eq_of_lt he]
  have h3 : FP.Core.fieldT f ((s * E + e) * T + t) = t := by
    unfold FP.Core.fieldT
    rw [hT, Nat.add_comm, Nat.add_mul_mod_self_right, Nat.mod_eq_of_lt ht]
  unfold FP.Core.decode
  rw [h2, h3, hE]
  by_cases h : e = E - 1
  · rw [if_pos h, if_pos (h0 h)]
    exact fun h => by cases h
  · rw [if_neg h]
    split <;> exact fun h => by cases h
theorem f64_T : FP.Core.b64.tails = 4503599627370496 := by decide +kernel
theorem f64_E : FP.Core.b64.exps = 2048 := by decide +kernel
theorem f64_p : 2 ^ FP.Core.b64.p = 2 * 4503599627370496 := by decide +kernel
theorem f64_q : FP.Core.b64.qmax - FP.Core.b64.qmin + 2 < ((2048 : Nat) : Int) := by decide +kernel
theorem f64_r {s : Bool} {n d : Nat} {e : Int} : fpG FP.Core.b64 (FP.Core.roundRatio FP.Core.b64 s n d e) := fp_round (by decide +kernel) (by decide +kernel) (by decide +kernel)
theorem f32_T : FP.Core.b32.tails = 8388608 := by decide +kernel
theorem f32_E : FP.Core.b32.exps = 256 := by decide +kernel
theorem f32_p : 2 ^ FP.Core.b32.p = 2 * 8388608 := by decide +kernel
theorem f32_q : FP.Core.b32.qmax - FP.Core.b32.qmin + 2 < ((256 : Nat) : Int) := by decide +kernel
theorem f32_r {s : Bool} {n d : Nat} {e : Int} : fpG FP.Core.b32 (FP.Core.roundRatio FP.Core.b32 s n d e) := fp_round (by decide +kernel) (by decide +kernel) (by decide +kernel)
theorem f64_isn {d : FP.Core.Datum} (hd : fpG FP.Core.b64 d) : isn64 (UInt64.ofNat (FP.Core.encode FP.Core.b64 d)) = true := by
  obtain ⟨s, e, t, h1, h2, h3, h4, h5⟩ := fp_enc f64_T f64_E f64_p (by omega) (by omega) f64_q hd
  unfold isn64
  apply decide_eq_true
  rw [UInt64.le_iff_toNat_le, UInt64.toNat_and, h2]
  have e1 : (UInt64.ofNat ((s * 2048 + e) * 4503599627370496 + t)).toNat = (s * 2048 + e) * 4503599627370496 + t := by
    rw [UInt64.toNat_ofNat']
    exact Nat.mod_eq_of_lt (by omega)
  have e2 : (0x7fffffffffffffff : UInt64).toNat = 2 ^ 63 - 1 := by decide +kernel
  have e3 : (0x7ff0000000000000 : UInt64).toNat = 2047 * 4503599627370496 := by decide +kernel
  rw [e1, e2, e3, Nat.and_two_pow_sub_one_eq_mod]
  by_cases c : e = 2047
  · have := h5 c
    omega
  · omega
theorem f32_isn {d : FP.Core.Datum} (hd : fpG FP.Core.b32 d) : isn32 (UInt32.ofNat (FP.Core.encode FP.Core.b32 d)) = true := by
  obtain ⟨s, e, t, h1, h2, h3, h4, h5⟩ := fp_enc f32_T f32_E f32_p (by omega) (by omega) f32_q hd
  unfold isn32
  apply decide_eq_true
  rw [UInt32.le_iff_toNat_le, UInt32.toNat_and, h2]
  have e1 : (UInt32.ofNat ((s * 256 + e) * 8388608 + t)).toNat = (s * 256 + e) * 8388608 + t := by
    rw [UInt32.toNat_ofNat']
    exact Nat.mod_eq_of_lt (by omega)
  have e2 : (0x7fffffff : UInt32).toNat = 2 ^ 31 - 1 := by decide +kernel
  have e3 : (0x7f800000 : UInt32).toNat = 255 * 8388608 := by decide +kernel
  rw [e1, e2, e3, Nat.and_two_pow_sub_one_eq_mod]
  by_cases c : e = 255
  · have := h5 c
    omega
  · omega
theorem f64_back {d : FP.Core.Datum} (hd : fpG FP.Core.b64 d) : FP.Core.decode FP.Core.b64 (UInt64.ofNat (FP.Core.encode FP.Core.b64 d)).toNat ≠ .nan := by
  obtain ⟨s, e, t, h1, h2, h3, h4, h5⟩ := fp_enc f64_T f64_E f64_p (by omega) (by omega) f64_q hd
  have e1 : (UInt64.ofNat ((s * 2048 + e) * 4503599627370496 + t)).toNat = (s * 2048 + e) * 4503599627370496 + t := by
    rw [UInt64.toNat_ofNat']
    exact Nat.mod_eq_of_lt (by omega)
  rw [h2, e1]
  exact fp_dec f64_T f64_E (by omega) h3 h4 h5
theorem f32_back {d : FP.Core.Datum} (hd : fpG FP.Core.b32 d) : FP.Core.decode FP.Core.b32 (UInt32.ofNat (FP.Core.encode FP.Core.b32 d)).toNat ≠ .nan := by
  obtain ⟨s, e, t, h1, h2, h3, h4, h5⟩ := fp_enc f32_T f32_E f32_p (by omega) (by omega) f32_q hd
  have e1 : (UInt32.ofNat ((s * 256 + e) * 8388608 + t)).toNat = (s * 256 + e) * 8388608 + t := by
    rw [UInt32.toNat_ofNat']
    exact Nat.mod_eq_of_lt (by omega)
  rw [h2, e1]
  exact fp_dec f32_T f32_E (by omega) h3 h4 h5
def fpN : FP.Core.Datum → Bool
  | .fin _ c _ => decide (c ≠ 0)
  | _ => false
theorem fp_quo {f : FP.Core.Fmt} (hr : ∀ s n d e, fpG f (FP.Core.roundRatio f s n d e)) {x y : FP.Core.Datum} (hx : x ≠ .nan) (hy : fpN y = true) : fpG f (FP.Core.quotient f x y) := by
  cases y with
  | nan => exact absurd hy Bool.false_ne_true
  | inf s => exact absurd hy Bool.false_ne_true
  | fin t d r =>
    have hd : d ≠ 0 := of_decide_eq_true hy
    cases x with
    | nan => exact absurd rfl hx
    | inf s => exact trivial
    | fin s c q =>
      show fpG f (if d = 0 then _ else _)
      rw [if_neg hd]
      exact hr _ _ _ _
theorem f64_den : ∀ b, b < 301 → (b = 0 ∨ fpN (FP.Core.decode FP.Core.b64 (FP.Core.i2d (nI b)).toNat) = true) := by decide +kernel
theorem f32_den : ∀ b, b < 301 → (b = 0 ∨ fpN (FP.Core.decode FP.Core.b32 (FP.Core.i2f (nI b)).toNat) = true) := by decide +kernel
theorem f64_int (x : Int32) : FP.Core.decode FP.Core.b64 (FP.Core.i2d x).toNat ≠ .nan := f64_back (d := FP.Core.round FP.Core.b64 (FP.Core.ofInt x.toInt)) f64_r
theorem f32_int (x : Int32) : FP.Core.decode FP.Core.b32 (FP.Core.i2f x).toNat ≠ .nan := f32_back (d := FP.Core.round FP.Core.b32 (FP.Core.ofInt x.toInt)) f32_r
theorem f64_div {x : Int32} {b : Nat} (h0 : 0 < b) (hb : b ≤ 300) : isn64 (FP.ddiv (FP.i2d x) (FP.i2d (nI b))) = true := by
  have h := f64_den b (by omega)
  exact f64_isn (fp_quo (fun _ _ _ _ => f64_r) (f64_int x) (h.resolve_left (by omega)))
theorem f32_quo {x : Int32} {b : Nat} (h0 : 0 < b) (hb : b ≤ 300) : fpG FP.Core.b32 (FP.Core.quotient FP.Core.b32 (FP.Core.decode FP.Core.b32 (FP.Core.i2f x).toNat) (FP.Core.decode FP.Core.b32 (FP.Core.i2f (nI b)).toNat)) := by
  have h := f32_den b (by omega)
  exact fp_quo (fun _ _ _ _ => f32_r) (f32_int x) (h.resolve_left (by omega))
theorem f32_div {x : Int32} {b : Nat} (h0 : 0 < b) (hb : b ≤ 300) : isn32 (FP.fdiv (FP.i2f x) (FP.i2f (nI b))) = true := f32_isn (f32_quo h0 hb)
theorem fp_wide {d : FP.Core.Datum} (h : d ≠ .nan) : fpG FP.Core.b64 (FP.Core.round FP.Core.b64 d) := by
  cases d with
  | nan => exact absurd rfl h
  | inf s => exact trivial
  | fin s c q => exact f64_r
theorem f2d_of {a : UInt32} (h : FP.Core.decode FP.Core.b32 a.toNat ≠ .nan) : FP.f2d a = FP.Core.f2d a := if_neg (fun h2 => h (of_decide_eq_true h2))
theorem f2d_div {x : Int32} {b : Nat} (h0 : 0 < b) (hb : b ≤ 300) : isn64 (FP.f2d (FP.fdiv (FP.i2f x) (FP.i2f (nI b)))) = true := by
  have h := f32_back (f32_quo (x := x) h0 hb)
  have h2 : FP.Core.decode FP.Core.b32 (FP.fdiv (FP.i2f x) (FP.i2f (nI b))).toNat ≠ .nan := h
  rw [f2d_of h2]
  exact f64_isn (fp_wide h2)
theorem f2d_0 : isn64 (FP.f2d FP.fconst0) = true := by decide +kernel
theorem k_mean {N : Nat} {g : Nat → Nat} {fr m : Nat → Int32} (hN : 1000 < N) (hB : okB g) (hD : okD g) (hT : okT g) (hF : FR g fr) (hM : MR m g) (x mt : Int32) : Qr "" (f_X10_meanFace N (nI (g 4)) fr x) (f_X11_meanFace N m mt x) := by
  have b4 := b_4 hB
  rcases pl_cs hB hM x with ⟨p, hp, rfl, h1, h2⟩ | ⟨h1, h2⟩
  · have u1 := e_total (p := p) hN hB hD hT hF (by omega)
    have u2 := m_total (p := p) hN hM hB hD hT (by omega)
    have u3 := e_playerThrows (p := p) hN hB hD hT hF (by omega)
    have u4 := m_by (p := p) hN hM hB hD hT (by omega)
    have hc := cP_le hB p
    by_cases c : cP g p = 0
    · rw [c] at u3 u4
      exact Qr_v FP.dconst0 (by simp (disch := omega) only [n_0, n_1, n_2, n_3, n_4, n_5, n_6, n_7, n_8, n_9, n_10, n_12, n_13, n_15, n_20, n_24, n_27, n_31, n_32, n_33, n_36, n_44, n_48, n_50, n_57, n_58, n_59, n_72, n_74, n_75, n_85, n_91, n_96, n_97, n_99, n_122, n_255, n_300, n_432, n_600, n_900, n_999, n_1000, n_1291, n_1399, n_2798, n_11192, n_65536, n_65537, n_99999999, n_1000000, nI_add, pk_mul, q_le, q_lt, q_eq, q_cl, q_gi, q_gz, q_sub, q_div, q_dm, d_dm, q_m1, q_mn, q_nm, q_mlt, q_ltm, q_mle, q_lem, q_mm, Option.bind_some, if_true, if_false, Nat.add_zero, ite_self, q_us, q_un, decide_true, decide_false, Bool.false_eq_true, eq_self, and_self, and_true, true_and, and_false, false_and, or_true, true_or, or_false, false_or, d_ltT, d_ltF, d_leT, d_leF, d_eqT, d_eqF, f_X10_meanFace, h1, sbd_t, u3]) (by simp (disch := omega) only [n_0, n_1, n_2, n_3, n_4, n_5, n_6, n_7, n_8, n_9, n_10, n_12, n_13, n_15, n_20, n_24, n_27, n_31, n_32, n_33, n_36, n_44, n_48, n_50, n_57, n_58, n_59, n_72, n_74, n_75, n_85, n_91, n_96, n_97, n_99, n_122, n_255, n_300, n_432, n_600, n_900, n_999, n_1000, n_1291, n_1399, n_2798, n_11192, n_65536, n_65537, n_99999999, n_1000000, nI_add, pk_mul, q_le, q_lt, q_eq, q_cl, q_gi, q_gz, q_sub, q_div, q_dm, d_dm, q_m1, q_mn, q_nm, q_mlt, q_ltm, q_mle, q_lem, q_mm, Option.bind_some, if_true, if_false, Nat.add_zero, ite_self, q_us, q_un, decide_true, decide_false, Bool.false_eq_true, eq_self, and_self, and_true, true_and, and_false, false_and, or_true, true_or, or_false, false_or, d_ltT, d_ltF, d_leT, d_leF, d_eqT, d_eqF, f_X11_meanFace, h2, u4])
    · have hi : ∀ {α : Type} {o : Option α}, gd (isn64 (FP.ddiv (FP.i2d (nI (cT g p))) (FP.i2d (nI (cP g p))))) o = o := fun {α o} => if_pos (f64_div (by omega) hc)
      refine Qr_v (FP.ddiv (FP.i2d (nI (cT g p))) (FP.i2d (nI (cP g p)))) ?_ ?_
      · unfold f_X10_meanFace
        simp only [n_0, n_1, n_2, n_3, n_4, n_5, n_6, n_7, n_8, n_9, n_10, n_12, n_13, n_15, n_20, n_24, n_27, n_31, n_32, n_33, n_36, n_44, n_48, n_50, n_57, n_58, n_59, n_72, n_74, n_75, n_85, n_91, n_96, n_97, n_99, n_122, n_255, n_300, n_432, n_600, n_900, n_999, n_1000, n_1291, n_1399, n_2798, n_11192, n_65536, n_65537, n_99999999, n_1000000]
        rw [h1, sbd_t, u3, Option.bind_some, if_neg (by rw [q_eq (by omega) (by omega)]; exact c), u1, Option.bind_some, hi]
      · unfold f_X11_meanFace
        simp only [n_0, n_1, n_2, n_3, n_4, n_5, n_6, n_7, n_8, n_9, n_10, n_12, n_13, n_15, n_20, n_24, n_27, n_31, n_32, n_33, n_36, n_44, n_48, n_50, n_57, n_58, n_59, n_72, n_74, n_75, n_85, n_91, n_96, n_97, n_99, n_122, n_255, n_300, n_432, n_600, n_900, n_999, n_1000, n_1291, n_1399, n_2798, n_11192, n_65536, n_65537, n_99999999, n_1000000]
        rw [h2, Option.bind_some, if_pos rfl, u4, Option.bind_some, if_neg (by rw [q_eq (by omega) (by omega)]; exact c), u2, Option.bind_some, hi]
  · refine Qr_1 FP.dconst0 ?_ ?_
    · unfold f_X10_meanFace
      rw [h1, sbd_f]
    · unfold f_X11_meanFace
      simp only [n_0, n_1, n_2, n_3, n_4, n_5, n_6, n_7, n_8, n_9, n_10, n_12, n_13, n_15, n_20, n_24, n_27, n_31, n_32, n_33, n_36, n_44, n_48, n_50, n_57, n_58, n_59, n_72, n_74, n_75, n_85, n_91, n_96, n_97, n_99, n_122, n_255, n_300, n_432, n_600, n_900, n_999, n_1000, n_1291, n_1399, n_2798, n_11192, n_65536, n_65537, n_99999999, n_1000000]
      rw [h2, Option.bind_some, if_neg (by rw [q_eq (by omega) (by omega)]; omega)]
theorem tB_le {g : Nat → Nat} (hT : okT g) {n : Nat} (hn : n ≤ g 5) : sumTo n (tB g) ≤ n := by
  have h : sumTo n (tB g) ≤ n * 1 := sumTo_le (fun k hk => (hT k (by omega)).2.2.2.2)
  omega
def gSh (g : Nat → Nat) : UInt32 := if g 5 = 0 then FP.fconst0 else FP.fdiv (FP.i2f (nI (sumTo (g 5) (tB g)))) (FP.i2f (nI (g 5)))
theorem m_shareL {N : Nat} {m : Nat → Int32} {g : Nat → Nat} {mt : Int32} (hM : MR m g) (hB : okB g) (hT : okT g) : ∀ k i j : Nat, i + k = g 5 → k < j → f_X11_fairShare_L9 N m j (nI (sumTo i (tB g))) (nI i) mt = some (gSh g, mt) := by
  have b5 := b_5 hB
  have e5 : m 5 = nI (g 5) := hM 5 (by omega)
  intro k
  induction k with
  | zero =>
    intro i j h1 h2
    obtain ⟨j, rfl⟩ : ∃ t, j = t + 1 := ⟨j - 1, by omega⟩
    have e : i = g 5 := by omega
    subst e
    show f_X11_fairShare_L9_F N m (f_X11_fairShare_L9 N m j) _ _ _ = _
    unfold f_X11_fairShare_L9_F gSh
    simp only [n_0, n_1, n_2, n_3, n_4, n_5, n_6, n_7, n_8, n_9, n_10, n_12, n_13, n_15, n_20, n_24, n_27, n_31, n_32, n_33, n_36, n_44, n_48, n_50, n_57, n_58, n_59, n_72, n_74, n_75, n_85, n_91, n_96, n_97, n_99, n_122, n_255, n_300, n_432, n_600, n_900, n_999, n_1000, n_1291, n_1399, n_2798, n_11192, n_65536, n_65537, n_99999999, n_1000000]
    rw [q_cl (by omega), e5, if_pos (by rw [q_le (by omega) (by omega)]; omega)]
    by_cases c : g 5 = 0
    · rw [if_pos (by rw [q_eq (by omega) (by omega)]; exact c), if_pos c]
    · rw [if_neg (by rw [q_eq (by omega) (by omega)]; exact c), if_neg c]
      exact if_pos (f32_div (by omega) b5)
  | succ k ih =>
    intro i j h1 h2
    obtain ⟨j, rfl⟩ : ∃ t, j = t + 1 := ⟨j - 1, by omega⟩
    have hi := ih (i + 1) j (by omega) (by omega)
    obtain ⟨o1, o2, o3, o4⟩ := m_t hM (k := i) (by omega)
    rw [sumTo_s] at hi
    simp (disch := omega) only [n_0, n_1, n_2, n_3, n_4, n_5, n_6, n_7, n_8, n_9, n_10, n_12, n_13, n_15, n_20, n_24, n_27, n_31, n_32, n_33, n_36, n_44, n_48, n_50, n_57, n_58, n_59, n_72, n_74, n_75, n_85, n_91, n_96, n_97, n_99, n_122, n_255, n_300, n_432, n_600, n_900, n_999, n_1000, n_1291, n_1399, n_2798, n_11192, n_65536, n_65537, n_99999999, n_1000000, nI_add, pk_mul, q_le, q_lt, q_eq, q_cl, q_gi, q_gz, q_sub, q_div, q_dm, d_dm, q_m1, q_mn, q_nm, q_mlt, q_ltm, q_mle, q_lem, q_mm, Option.bind_some, if_true, if_false, Nat.add_zero, ite_self, q_us, q_un, decide_true, decide_false, Bool.false_eq_true, eq_self, and_self, and_true, true_and, and_false, false_and, or_true, true_or, or_false, false_or, d_ltT, d_ltF, d_leT, d_leF, d_eqT, d_eqF, f_X11_fairShare_L9, f_X11_fairShare_L9_F, f_X11_ofThrow, e5, o4]
    exact hi
theorem k_share {N : Nat} {g : Nat → Nat} {en m : Nat → Int32} {mt : Int32} (hN : 1000 < N) (hB : okB g) (hD : okD g) (hT : okT g) (hE : ER g en) (hM : MR m g) : ∃ v, f_X10_fairShare N (nI (g 5)) en = some v ∧ f_X11_fairShare N m mt = some (v, nI 0) ∧ isn64 (FP.f2d v) = true := by
  have b5 := b_5 hB
  have u1 := e_marked hN hB hD hT hE
  have u2 := m_shareL (N := N) (mt := nI 0) hM hB hT (g 5) 0 N (by omega) (by omega)
  refine ⟨gSh g, ?_, u2, ?_⟩
  · unfold f_X10_fairShare gSh
    simp only [n_0, n_1, n_2, n_3, n_4, n_5, n_6, n_7, n_8, n_9, n_10, n_12, n_13, n_15, n_20, n_24, n_27, n_31, n_32, n_33, n_36, n_44, n_48, n_50, n_57, n_58, n_59, n_72, n_74, n_75, n_85, n_91, n_96, n_97, n_99, n_122, n_255, n_300, n_432, n_600, n_900, n_999, n_1000, n_1291, n_1399, n_2798, n_11192, n_65536, n_65537, n_99999999, n_1000000]
    by_cases c : g 5 = 0
    · rw [if_pos (by rw [q_eq (by omega) (by omega)]; exact c), if_pos c]
    · rw [if_neg (by rw [q_eq (by omega) (by omega)]; exact c), if_neg c, u1, Option.bind_some]
      exact if_pos (f32_div (by omega) b5)
  · unfold gSh
    by_cases c : g 5 = 0
    · rw [if_pos c]
      exact f2d_0
    · rw [if_neg c]
      exact f2d_div (by omega) b5
