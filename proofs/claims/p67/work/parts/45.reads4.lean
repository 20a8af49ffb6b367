/-! die -/
theorem c_n0 {c : Nat} (c1 : 0 < c) (c2 : c < 100) : ¬ nI c = nI 0 := by rw [q_eq (by omega) (by omega)]; omega
/-- while an error stands the class's loop ends, and so does the model's -/
theorem x_die_e {N j c i : Nat} {tl l1 l3 eo dc kd ts te tv : Int32} {tb fc dw : Nat → Int32} (c1 : 0 < c) (c2 : c < 100) (hi : i < 100) : f_X5_readDie_L30 N tl tb (j + 1) l1 (nI i) l3 (nI c) eo dc fc dw kd ts te tv = some (nI c, eo, dc, fc, dw, kd, ts, te, tv) := by
  have xs := fun a0 => @x_semi_e N tl eo kd ts te tv a0 tb c c1 c2
  have h120 : f_X5_readDie_L120 N tl tb (nI i) l3 (nI c) eo dc fc dw kd ts te tv = some (nI c, eo, dc, fc, dw, kd, ts, te, tv) := by
    unfold f_X5_readDie_L120 f_X5_readDie_L131
    simp only [n_0, n_1, n_2, n_3, n_4, n_5, n_6, n_7, n_8, n_9, n_10, n_12, n_13, n_15, n_20, n_24, n_27, n_31, n_32, n_33, n_36, n_44, n_48, n_50, n_57, n_58, n_59, n_72, n_74, n_75, n_85, n_91, n_96, n_97, n_99, n_122, n_255, n_300, n_432, n_600, n_900, n_999, n_1000, n_1291, n_1399, n_2798, n_11192, n_65536, n_65537, n_99999999, n_1000000]
    split <;> rw [xs, Option.bind_some, if_neg (c_n0 c1 c2)]
  show f_X5_readDie_L30_F N tl tb (f_X5_readDie_L30 N tl tb j) l1 (nI i) l3 (nI c) eo dc fc dw kd ts te tv = _
  unfold f_X5_readDie_L30_F
  simp only [n_0, n_1, n_2, n_3, n_4, n_5, n_6, n_7, n_8, n_9, n_10, n_12, n_13, n_15, n_20, n_24, n_27, n_31, n_32, n_33, n_36, n_44, n_48, n_50, n_57, n_58, n_59, n_72, n_74, n_75, n_85, n_91, n_96, n_97, n_99, n_122, n_255, n_300, n_432, n_600, n_900, n_999, n_1000, n_1291, n_1399, n_2798, n_11192, n_65536, n_65537, n_99999999, n_1000000]
  rw [if_neg (c_n0 c1 c2)]
  split
  · exact h120
  · exact h120
/-- the row with one die more, of n faces -/
def gDie (g : Nat → Nat) (n : Nat) : Nat → Nat := up (up g (7 + 13 * g 3) n) 3 (g 3 + 1)
theorem gDie_n {g : Nat → Nat} {n k : Nat} (h : k ≠ 3) (h2 : k ≠ 7 + 13 * g 3) : gDie g n k = g k := by
  unfold gDie
  rw [up_n h, up_n h2]
theorem gDie_3 {g : Nat → Nat} {n : Nat} : gDie g n 3 = g 3 + 1 := up_s rfl
theorem gDie_F {g : Nat → Nat} {n : Nat} : dF (gDie g n) (g 3) = n := by
  unfold dF gDie
  rw [up_n (by omega), up_s rfl]
theorem gDie_W {g : Nat → Nat} {n i : Nat} {d : Nat} (hi : i < 12) : dW (gDie g n) d i = dW g d i := gDie_n (by omega) (by omega)
theorem gDie_Fo {g : Nat → Nat} {n d : Nat} (hd : d ≠ g 3) : dF (gDie g n) d = dF g d := gDie_n (by omega) (by omega)
theorem gDie_s {g : Nat → Nat} {n : Nat} (h3 : g 3 < 6) : sP g (gDie g n) ∧ sT g (gDie g n) ∧ sO g (gDie g n) := ⟨⟨gDie_n (by omega) (by omega), fun k k1 k2 => gDie_n (by omega) (by omega)⟩, ⟨gDie_n (by omega) (by omega), fun k k1 k2 => gDie_n (by omega) (by omega)⟩, ⟨gDie_n (by omega) (by omega), fun k k1 k2 => gDie_n (by omega) (by omega)⟩⟩
theorem gDie_ok {g : Nat → Nat} {n : Nat} (hO : Ok g) (h3 : g 3 < 6) (h2 : 2 ≤ n) (h12 : n ≤ 12) (hw : ∀ i, i < n → dW g (g 3) i ≤ 9) (hs : 0 < sumTo n (dW g (g 3))) : Ok (gDie g n) := by
  obtain ⟨s1, s2, s3⟩ := gDie_s (n := n) h3
  obtain ⟨hB, hD, hP, hT, hOo⟩ := hO
  refine ⟨?_, fun d hd => ?_, sP_ok s1 hB hP, fun k hk => ?_, ⟨fun r hr => ?_, fun r r' hr hr' e => ?_⟩⟩
  · obtain ⟨b0, b1, b2, b3, b4, b5, b6, b7⟩ := hB
    unfold okB
    rw [gDie_3, gDie_n (k := 0) (by omega) (by omega), gDie_n (k := 1) (by omega) (by omega), gDie_n (k := 2) (by omega) (by omega), gDie_n (k := 4) (by omega) (by omega), gDie_n (k := 5) (by omega) (by omega), gDie_n (k := 6) (by omega) (by omega)]
    omega
  · rw [gDie_3] at hd
    by_cases h : d = g 3
    · rw [h]
      unfold dS
      rw [gDie_F]
      exact ⟨h2, h12, fun i hi => by rw [gDie_W (by omega)]; exact hw i hi, by rw [sumTo_congr (fun i hi => gDie_W (show i < 12 by omega))]; exact hs⟩
    · have hdd := hD d (by omega)
      unfold dS
      rw [gDie_Fo h]
      exact ⟨hdd.1, hdd.2.1, fun i hi => by rw [gDie_W (by omega)]; exact hdd.2.2.1 i hi, by rw [sumTo_congr (fun i hi => gDie_W (show i < 12 by omega))]; exact hdd.2.2.2⟩
  · have b5 := b_5 hB
    rw [s2.1] at hk
    obtain ⟨e1, e2, e3, e4, -⟩ := sT_t s2 (show k < 300 by omega)
    have ht := hT k hk
    rw [e1, e2, e3, e4, gDie_3, s1.1, gDie_Fo (by omega)]
    exact ⟨ht.1, by omega, ht.2.2⟩
  · have b6 := b_6 hB
    rw [s3.1] at hr
    obtain ⟨e1, e2, e3, -⟩ := sO_o s3 (show r < 36 by omega)
    have := hOo.1 r hr
    rw [e1, e2, e3, gDie_3, s1.1]
    exact ⟨this.1, by omega, this.2.2⟩
  · have b6 := b_6 hB
    rw [s3.1] at hr hr'
    rw [(sO_o s3 (show r < 36 by omega)).2.2.2, (sO_o s3 (show r' < 36 by omega)).2.2.2] at e
    exact hOo.2 r r' hr hr' e
/-- the row w of the start with some weights of the next die in g -/
def sW (w g : Nat → Nat) : Prop := ∀ k, (k < 8 + 13 * w 3 ∨ 20 + 13 * w 3 ≤ k) → g k = w k
theorem sW_ok {w g : Nat → Nat} (h : sW w g) (hO : Ok w) (h3 : w 3 < 6) : Ok g ∧ g 3 = w 3 ∧ sP w g ∧ sT w g ∧ sO w g ∧ (∀ k, k < 7 → g k = w k) := by
  have e3 : g 3 = w 3 := h 3 (by omega)
  have sp : sP w g := ⟨h 4 (by omega), fun k k1 k2 => h k (by omega)⟩
  have st : sT w g := ⟨h 5 (by omega), fun k k1 k2 => h k (by omega)⟩
  have so : sO w g := ⟨h 6 (by omega), fun k k1 k2 => h k (by omega)⟩
  have hF : ∀ d, d < w 3 → dF g d = dF w d := fun d hd => h _ (by omega)
  have hW : ∀ d i, d < w 3 → i < 12 → dW g d i = dW w d i := fun d i hd hi => h _ (by omega)
  obtain ⟨hB, hD, hP, hT, hOo⟩ := hO
  refine ⟨⟨?_, fun d hd => ?_, sP_ok sp hB hP, fun k hk => ?_, sO_ok so e3 sp.1 hB hOo⟩, e3, sp, st, so, fun k hk => h k (by omega)⟩
  · obtain ⟨b0, b1, b2, b3, b4, b5, b6, b7⟩ := hB
    unfold okB
    rw [h 0 (by omega), h 1 (by omega), h 2 (by omega), e3, sp.1, st.1, so.1]
    omega
  · rw [e3] at hd
    have hdd := hD d hd
    unfold dS
    rw [hF d hd]
    exact ⟨hdd.1, hdd.2.1, fun i hi => by rw [hW d i hd (by omega)]; exact hdd.2.2.1 i hi, by rw [sumTo_congr (fun i hi => hW d i hd (by omega))]; exact hdd.2.2.2⟩
  · have b5 := b_5 hB
    rw [st.1] at hk
    obtain ⟨e1, e2, e3', e4, -⟩ := sT_t st (show k < 300 by omega)
    have ht := hT k hk
    rw [e1, e2, e3', e4, sp.1, e3, hF _ ht.2.1]
    exact ht
